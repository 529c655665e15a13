theorem mtX6_believersWithout : MT yX6_believersWithout wsX6_believersWithout cX6_believersWithout 4 (some .int) 2 := ⟨⟨_, rfl⟩, by decide, by decide, by decide +kernel⟩
set_option maxRecDepth 100000 in
set_option maxHeartbeats 4000000 in
theorem ru_X6_believersWithout {X : Mem} {A : Sl} (hA : Rp (vM X) A) (S n : Nat) (hS : S < 256) (hn : n ≤ 60) : Ru yX6_believersWithout wsX6_believersWithout 10 221 [.ref 29, vi ((S : Nat) : Int), vi ((n : Nat) : Int)] X (fun v X' => v = some (vi (bset S (goN S n A))) ∧ Rp (vM X') A ∧ X' 29 8 = zI ((0 : Nat) : Int) ∧ frW 1 X X') := by
  refine ru_of (w2 := _) rfl (by decide) [some (.ref 29), some (vi ((S : Nat) : Int)), some (vi ((n : Nat) : Int)), none] (fun _ => rfl) (fun _ => Nat.le_of_ble_eq_true rfl) ?_
  intro K hKn hC hR
  have wX6 : ∀ w ∈ u_ws RX6 TX6 25, w ∈ wsX6_believersWithout := by decide +kernel
  have f59 : Fl K RX6 59 6 8 := fl_of hC RX6 TX6 25 rfl (by decide) wX6 (show Cond.fieldLink RX6 59 "PicnicOfSomebodyModel" "gone" "I" ∈ _ by decide +kernel)
  have hn8 := hA.n8
  have hA1 : Rp (vM (mset X 29 8 (zI ((S : Nat) : Int)))) A := hA.keepM (by rw [mset_ne _ _ _ _ (by omega)]) (by rw [mset_ne _ _ _ _ (by omega)]) (fun q hq => by rw [mset_row (by omega)])
  refine ev_aload_n (pc := 0) hC dX6_believersWithout_0 rfl ?_
  refine ev_iload_n (pc := 1) hC dX6_believersWithout_1 rfl ?_
  refine ev_puti (pc := 2) hC f59 fpX6_8 dX6_believersWithout_2 (by decide) (by decide) (by decide) (by decide) (by decide) (rfl) (rfl) ?_
  refine ev_aload_n (pc := 5) hC dX6_believersWithout_5 rfl ?_
  refine ev_iload_n (pc := 6) hC dX6_believersWithout_6 rfl ?_
  refine ev_callV (pc := 7) (as := [vi ((n : Nat) : Int)]) (rest := []) hC gX6_believersWithout_X6_believersIn mtX6_believersIn dX6_believersWithout_7 (ru_X6_believersIn hA1 (mset_eq _ _ _ _) hS n hn) (by decide) (by decide) (by decide) rfl (by rfl) (Nat.le_of_ble_eq_true rfl) rfl (fun v7 X7 h7 => ?_)
  obtain ⟨rfl, hA7, hF7⟩ := h7
  show Ev K 10 [some (.ref 29), some (vi ((S : Nat) : Int)), some (vi ((n : Nat) : Int)), none] [vi ((bset S (goN S n A) : Nat) : Int)] X7
  refine ev_istore_n (pc := 10) hC dX6_believersWithout_10 (by rw [hKn]; decide) rfl ?_
  show Ev K 11 [some (.ref 29), some (vi ((S : Nat) : Int)), some (vi ((n : Nat) : Int)), some (vi ((bset S (goN S n A) : Nat) : Int))] [] X7
  refine ev_aload_n (pc := 11) hC dX6_believersWithout_11 rfl ?_
  refine ev_iconst (pc := 12) hC dX6_believersWithout_12 ?_
  refine ev_puti (pc := 13) hC f59 fpX6_8 dX6_believersWithout_13 (by decide) (by decide) (by decide) (by decide) (by decide) (rfl) (rfl) ?_
  refine ev_iload_n (pc := 16) hC dX6_believersWithout_16 rfl ?_
  exact ev_ireturn (pc := 17) hC hR dX6_believersWithout_17 (⟨rfl, hA7.keepM (by rw [mset_ne _ _ _ _ (by omega)]) (by rw [mset_ne _ _ _ _ (by omega)]) (fun q hq => by rw [mset_row (by omega)]), mset_eq _ _ _ _, frW_29 (frW_tr (frW_29 (frW_rf 1 X) (Or.inl rfl)) hF7 (by omega)) (Or.inl rfl)⟩)
theorem mtX6_leaves : MT yX6_leaves wsX6_leaves cX6_leaves 5 (some .int) 1 := ⟨⟨_, rfl⟩, by decide, by decide, by decide +kernel⟩
set_option maxRecDepth 100000 in
set_option maxHeartbeats 4000000 in
theorem ru_X6_leaves {X : Mem} {V : St} (hV : mI X V) (x0 : Int) (hx0 : -2147483648 ≤ x0 ∧ x0 ≤ 2147483647) : Ru yX6_leaves wsX6_leaves 11 244 [.ref 29, vi x0] X (fun v X' => v = some (vi (sp15 x0 V).1) ∧ mI X' (sp15 x0 V).2 ∧ frM X X') := by
  refine ru_of (w2 := _) rfl (by decide) [some (.ref 29), some (vi x0), none, none, none] (fun _ => rfl) (fun _ => Nat.le_of_ble_eq_true rfl) ?_
  intro K hKn hC hR
  obtain ⟨A, B, hh, T, n, W, rs, C⟩ := V
  have hA : Rp (vM X) A := hV.1
  have hyA : A 5 1 ≤ 999 := hV.2.1
  have hB : hh = true → Rp (vK X 0) B ∧ B 5 1 ≤ 999 := hV.2.2.1
  have hi : X 29 17 = zI (b2i hh) := hV.2.2.2.1
  have hg : X 29 8 = zI ((0 : Nat) : Int) := hV.2.2.2.2.1
  have hT : TxM X T n := hV.2.2.2.2.2.1
  have hW : RwM X W rs := hV.2.2.2.2.2.2.1
  have hCn : ∀ k, k < 7 → X 30 k = zI (C k : Nat) := hV.2.2.2.2.2.2.2
  have hn8 := hA.n8
  have hn96 := hT.2.1
  have hrs := hW.2.1
  have hG : 0 < 256 := by decide
  have hI : mI X (A, B, hh, T, n, W, rs, C) := hV
  have hq1 := bnd_cases x0 0 20
  have hpw : 2 ^ (A 5 0) ≤ 256 := pow8 hn8
  have hp0 := Nat.two_pow_pos (A 5 0)
  have hev : evb A + 1 = 2 ^ (A 5 0) := by unfold evb; omega
  refine ev_iload_n (pc := 0) hC dX6_leaves_0 rfl ?_
  refine ev_callS (pc := 1) (as := [vi x0]) (rest := []) hC gX6_leaves_X6_notShort mtX6_notShort dX6_leaves_1 (ru_X6_notShort x0 (by omega)) (by decide) (by rfl) (Nat.le_of_ble_eq_true rfl) rfl (fun v1 X1 h1 => ?_)
  obtain ⟨rfl, rfl⟩ := h1
  show Ev K 4 [some (.ref 29), some (vi x0), none, none, none] [vi (bnd x0 0 20)] X
  have hbd1 := bnd_cases x0 0 20
  refine ev_istore_n (pc := 4) hC dX6_leaves_4 (by rw [hKn]; decide) rfl ?_
  show Ev K 5 [some (.ref 29), some (vi x0), some (vi (bnd x0 0 20)), none, none] [] X
  refine ev_iload_n (pc := 5) hC dX6_leaves_5 rfl ?_
  refine ev_if_eq (pc := 6) hC 15 dX6_leaves_6 (by decide) (by omega) (fun c6 => ?_) (fun c6 => ?_)
  · obtain ⟨p0, rfl⟩ : ∃ k : Nat, x0 = (k : Int) := ⟨x0.toNat, by omega⟩
    refine ev_aload_n (pc := 15) hC dX6_leaves_15 rfl ?_
    refine ev_callV (pc := 16) (as := []) (rest := []) hC gX6_leaves_X6_everybody mtX6_everybody dX6_leaves_16 (ru_X6_everybody hA) (by decide) (by decide) (by decide) rfl (by rfl) (Nat.le_of_ble_eq_true rfl) rfl (fun v16 X16 h16 => ?_)
    obtain ⟨rfl, rfl⟩ := h16
    show Ev K 19 [some (.ref 29), some (vi ((p0 : Nat) : Int)), some (vi (bnd ((p0 : Nat) : Int) 0 20)), none, none] [vi ((evb A : Nat) : Int)] X
    have hl16 := evb_lt (A := A) (by omega)
    refine ev_istore_n (pc := 19) hC dX6_leaves_19 (by rw [hKn]; decide) rfl ?_
    show Ev K 20 [some (.ref 29), some (vi ((p0 : Nat) : Int)), some (vi (bnd ((p0 : Nat) : Int) 0 20)), some (vi ((evb A : Nat) : Int)), none] [] X
    refine ev_aload_n (pc := 20) hC dX6_leaves_20 rfl ?_
    refine ev_callV (pc := 21) (as := []) (rest := []) hC gX6_leaves_X6_everybody mtX6_everybody dX6_leaves_21 (ru_X6_everybody hA) (by decide) (by decide) (by decide) rfl (by rfl) (Nat.le_of_ble_eq_true rfl) rfl (fun v21 X21 h21 => ?_)
    obtain ⟨rfl, rfl⟩ := h21
    show Ev K 24 [some (.ref 29), some (vi ((p0 : Nat) : Int)), some (vi (bnd ((p0 : Nat) : Int) 0 20)), some (vi ((evb A : Nat) : Int)), none] [vi ((evb A : Nat) : Int)] X
    have hl21 := evb_lt (A := A) (by omega)
    refine ev_istore (pc := 24) hC dX6_leaves_24 (by rw [hKn]; decide) rfl ?_
    show Ev K 26 [some (.ref 29), some (vi ((p0 : Nat) : Int)), some (vi (bnd ((p0 : Nat) : Int) 0 20)), some (vi ((evb A : Nat) : Int)), some (vi ((evb A : Nat) : Int))] [] X
    have lp26 : ∀ (fz : Nat) (j : Nat) (b : Nat) (Y : Mem), j < fz → (j ≤ 2 ^ (A 5 0)) → (b < 256) → (lvI (lvP p0 A) (2 ^ (A 5 0)) j b) → (Rp (vM Y) A) → (Y 29 8 = zI ((0 : Nat) : Int)) → (frW 1 X Y) → Ev K 26 [some (.ref 29), some (vi ((p0 : Nat) : Int)), some (vi (bnd ((p0 : Nat) : Int) 0 20)), some (vi ((b : Nat) : Int)), some (vi (((j : Nat) : Int) - 1))] [] Y := by
      intro fz
      induction fz with
      | zero => intro j b Y hfz; exact absurd hfz (Nat.not_lt_zero _)
      | succ fz ih26 =>
        intro j b Y hfz hj hbl hm hAY hgY hFY
        have hY8 := hAY.n8
        refine ev_iload (pc := 26) hC dX6_leaves_26 rfl ?_
        refine ev_if_lt (pc := 28) hC 62 dX6_leaves_28 (by decide) (by omega) (fun c28 => ?_) (fun c28 => ?_)
        · refine ev_iload_n (pc := 62) hC dX6_leaves_62 rfl ?_
          exact ev_ireturn (pc := 63) hC hR dX6_leaves_63 (ok_endM (show bnd ((p0 : Nat) : Int) 0 20 = 0 by omega) (lv_end hpw (by rw [show j = 0 by omega] at hm; exact hm)) (mI_W hI hAY hgY hFY) (frM_W hFY))
        · obtain ⟨S, rfl⟩ : ∃ k, j = k + 1 := ⟨j - 1, by omega⟩
          rw [show ((S + 1 : Nat) : Int) - 1 = ((S : Nat) : Int) by omega]
          refine ev_iload (pc := 31) hC dX6_leaves_31 rfl ?_
          refine ev_callS (pc := 33) (as := [vi ((S : Nat) : Int)]) (rest := []) hC gX6_leaves_X6_bits mtX6_bits dX6_leaves_33 (ru_X6_bits S (by omega)) (by decide) (by rfl) (Nat.le_of_ble_eq_true rfl) rfl (fun v33 X33 h33 => ?_)
          obtain ⟨rfl, rfl⟩ := h33
          show Ev K 36 [some (.ref 29), some (vi ((p0 : Nat) : Int)), some (vi (bnd ((p0 : Nat) : Int) 0 20)), some (vi ((b : Nat) : Int)), some (vi ((S : Nat) : Int))] [vi ((pop S : Nat) : Int)] Y
          have hp33 := pop_le S
          refine ev_iload_n (pc := 36) hC dX6_leaves_36 rfl ?_
          refine ev_callS (pc := 37) (as := [vi ((b : Nat) : Int)]) (rest := [vi ((pop S : Nat) : Int)]) hC gX6_leaves_X6_bits mtX6_bits dX6_leaves_37 (ru_X6_bits b (by omega)) (by decide) (by rfl) (Nat.le_of_ble_eq_true rfl) rfl (fun v37 X37 h37 => ?_)
          obtain ⟨rfl, rfl⟩ := h37
          show Ev K 40 [some (.ref 29), some (vi ((p0 : Nat) : Int)), some (vi (bnd ((p0 : Nat) : Int) 0 20)), some (vi ((b : Nat) : Int)), some (vi ((S : Nat) : Int))] [vi ((pop b : Nat) : Int), vi ((pop S : Nat) : Int)] Y
          have hp37 := pop_le b
          refine ev_icmp_gt (pc := 40) hC 56 dX6_leaves_40 (by decide) (by omega) (by omega) (fun c40 => ?_) (fun c40 => ?_)
          · refine ev_iinc (pc := 56) hC (((S : Nat) : Int) - 1) dX6_leaves_56 rfl (by omega) (by rw [hKn]; decide) rfl ?_
            show Ev K 59 [some (.ref 29), some (vi ((p0 : Nat) : Int)), some (vi (bnd ((p0 : Nat) : Int) 0 20)), some (vi ((b : Nat) : Int)), some (vi (((S : Nat) : Int) - 1))] [] Y
            refine ev_goto (pc := 59) hC 26 dX6_leaves_59 (by decide) ?_
            exact ih26 S b Y (by omega) (by omega) (by omega) (lvI_f hm (Or.inr (by omega))) hAY hgY hFY
          · refine ev_aload_n (pc := 43) hC dX6_leaves_43 rfl ?_
            refine ev_iload (pc := 44) hC dX6_leaves_44 rfl ?_
            refine ev_iload_n (pc := 46) hC dX6_leaves_46 rfl ?_
            refine ev_callV (pc := 47) (as := [vi ((S : Nat) : Int), vi ((p0 : Nat) : Int)]) (rest := []) hC gX6_leaves_X6_believersWithout mtX6_believersWithout dX6_leaves_47 (ru_X6_believersWithout hAY S p0 (by omega) (by omega)) (by decide) (by decide) (by decide) rfl (by rfl) (Nat.le_of_ble_eq_true rfl) rfl (fun v47 X47 h47 => ?_)
            obtain ⟨rfl, hA47, hg47, hF47⟩ := h47
            show Ev K 50 [some (.ref 29), some (vi ((p0 : Nat) : Int)), some (vi (bnd ((p0 : Nat) : Int) 0 20)), some (vi ((b : Nat) : Int)), some (vi ((S : Nat) : Int))] [vi ((bset S (goN S p0 A) : Nat) : Int)] X47
            have hbl47 : bset S (goN S p0 A) < 256 := bset_lt (by rw [goN_n]; exact hn8)
            have hFr47 := frW_trW hFY hF47
            refine ev_if_ne (pc := 50) hC 56 dX6_leaves_50 (by decide) (by omega) (fun c50 => ?_) (fun c50 => ?_)
            · have e50 : lvP p0 A S = false := by cases hc : lvP p0 A S; rfl; exact absurd (lv_iff.mpr hc) (by omega)
              refine ev_iinc (pc := 56) hC (((S : Nat) : Int) - 1) dX6_leaves_56 rfl (by omega) (by rw [hKn]; decide) rfl ?_
              show Ev K 59 [some (.ref 29), some (vi ((p0 : Nat) : Int)), some (vi (bnd ((p0 : Nat) : Int) 0 20)), some (vi ((b : Nat) : Int)), some (vi (((S : Nat) : Int) - 1))] [] X47
              refine ev_goto (pc := 59) hC 26 dX6_leaves_59 (by decide) ?_
              exact ih26 S b X47 (by omega) (by omega) (by omega) (lvI_f hm (Or.inl e50)) hA47 hg47 hFr47
            · refine ev_iload (pc := 53) hC dX6_leaves_53 rfl ?_
              refine ev_istore_n (pc := 55) hC dX6_leaves_55 (by rw [hKn]; decide) rfl ?_
              show Ev K 56 [some (.ref 29), some (vi ((p0 : Nat) : Int)), some (vi (bnd ((p0 : Nat) : Int) 0 20)), some (vi ((S : Nat) : Int)), some (vi ((S : Nat) : Int))] [] X47
              refine ev_iinc (pc := 56) hC (((S : Nat) : Int) - 1) dX6_leaves_56 rfl (by omega) (by rw [hKn]; decide) rfl ?_
              show Ev K 59 [some (.ref 29), some (vi ((p0 : Nat) : Int)), some (vi (bnd ((p0 : Nat) : Int) 0 20)), some (vi ((S : Nat) : Int)), some (vi (((S : Nat) : Int) - 1))] [] X47
              refine ev_goto (pc := 59) hC 26 dX6_leaves_59 (by decide) ?_
              exact ih26 S S X47 (by omega) (by omega) (by omega) (lvI_t hm (by omega) (by omega) (lv_iff.mp (by omega)) trivial) hA47 hg47 hFr47
    exact (by have z := lp26 _ (evb A + 1) (evb A) X (Nat.lt_succ_self _) (by omega) (by omega) (lvI_0 (by omega) hev lv_all) hA hg (frW_rf 1 X); rw [show ((evb A + 1 : Nat) : Int) - 1 = ((evb A : Nat) : Int) by omega] at z; exact z)
  · refine ev_aload_n (pc := 9) hC dX6_leaves_9 rfl ?_
    refine ev_iload_n (pc := 10) hC dX6_leaves_10 rfl ?_
    refine ev_callV (pc := 11) (as := [vi (bnd x0 0 20)]) (rest := []) hC gX6_leaves_X6_no mtX6_no dX6_leaves_11 (ru_X6_no2 (bnd x0 0 20) (by omega)) (by decide) (by decide) (by decide) rfl (by rfl) (Nat.le_of_ble_eq_true rfl) rfl (fun v11 X11 h11 => ?_)
    obtain ⟨rfl, rfl⟩ := h11
    show Ev K 14 [some (.ref 29), some (vi x0), some (vi (bnd x0 0 20)), none, none] [vi (bnd x0 0 20)] (mset X 30 (-(bnd x0 0 20)).toNat (X 30 (-(bnd x0 0 20)).toNat + 1))
    exact ev_ireturn (pc := 14) hC hR dX6_leaves_14 (no_endM (show bnd x0 0 20 = (bnd x0 0 20) by omega) (by omega) hI)
theorem mtX6_chainOf : MT yX6_chainOf wsX6_chainOf cX6_chainOf 5 (some .int) 1 := ⟨⟨_, rfl⟩, by decide, by decide, by decide +kernel⟩
set_option maxRecDepth 100000 in
set_option maxHeartbeats 4000000 in
theorem ru_X6_chainOf {X : Mem} {A : Sl} (hA : Rp (vM X) A) (hg : X 29 8 = zI ((0 : Nat) : Int)) (p : Nat) (hp : p < A 5 0) : Ru yX6_chainOf wsX6_chainOf 3 64 [.ref 29, vi ((p : Nat) : Int)] X (fun v X' => v = some (vi (chn A p)) ∧ X = X') := by
  refine ru_of (w2 := _) rfl (by decide) [some (.ref 29), some (vi ((p : Nat) : Int)), none, none, none] (fun _ => rfl) (fun _ => Nat.le_of_ble_eq_true rfl) ?_
  intro K hKn hC hR
  have hn8 := hA.n8
  have hG : 0 < 256 := by decide
  have hpn := pow_n hp
  have h256 : 2 ^ (A 5 0) ≤ 256 := pow8 hn8
  refine ev_iconst (pc := 0) hC dX6_chainOf_0 ?_
  refine ev_iload_n (pc := 1) hC dX6_chainOf_1 rfl ?_
  refine ev_ishl (pc := 2) hC ((2 ^ p : Nat) : Int) (zI_shl1 p (by omega)) dX6_chainOf_2 ?_
  refine ev_istore_n (pc := 3) hC dX6_chainOf_3 (by rw [hKn]; decide) rfl ?_
  show Ev K 4 [some (.ref 29), some (vi ((p : Nat) : Int)), some (vi ((2 ^ p : Nat) : Int)), none, none] [] X
  refine ev_iconst (pc := 4) hC dX6_chainOf_4 ?_
  refine ev_istore_n (pc := 5) hC dX6_chainOf_5 (by rw [hKn]; decide) rfl ?_
  show Ev K 6 [some (.ref 29), some (vi ((p : Nat) : Int)), some (vi ((2 ^ p : Nat) : Int)), some (vi 0), none] [] X
  have lp6 : ∀ (fz : Nat) (r : Nat) (b : Nat), 8 - r < fz → (r ≤ 8) → (b = itF (fun U => in2 A U 64) (2 ^ p) r) → (b < 2 ^ (A 5 0)) → Ev K 6 [some (.ref 29), some (vi ((p : Nat) : Int)), some (vi ((b : Nat) : Int)), some (vi ((r : Nat) : Int)), none] [] X := by
    intro fz
    induction fz with
    | zero => intro r b hfz; exact absurd hfz (Nat.not_lt_zero _)
    | succ fz ih6 =>
      intro r b hfz hr hb hbl
      refine ev_iload_n (pc := 6) hC dX6_chainOf_6 rfl ?_
      refine ev_bipush (pc := 7) hC dX6_chainOf_7 (by decide) ?_
      refine ev_icmp_ge (pc := 9) hC 77 dX6_chainOf_9 (by decide) (by omega) (by omega) (fun c9 => ?_) (fun c9 => ?_)
      · refine ev_iload_n (pc := 77) hC dX6_chainOf_77 rfl ?_
        exact ev_ireturn (pc := 78) hC hR dX6_chainOf_78 (⟨rv (by rw [hb, show r = 8 by omega, ch2_eq hn8 hp]), rfl⟩)
      · refine ev_iconst (pc := 12) hC dX6_chainOf_12 ?_
        refine ev_istore (pc := 13) hC dX6_chainOf_13 (by rw [hKn]; decide) rfl ?_
        show Ev K 15 [some (.ref 29), some (vi ((p : Nat) : Int)), some (vi ((b : Nat) : Int)), some (vi ((r : Nat) : Int)), some (vi 0)] [] X
        have lp15 : ∀ (fz : Nat) (k : Nat) (c : Nat), 64 - k < fz → (k ≤ 64) → (c = in2 A b k) → (c < 2 ^ (A 5 0)) → Ev K 15 [some (.ref 29), some (vi ((p : Nat) : Int)), some (vi ((c : Nat) : Int)), some (vi ((r : Nat) : Int)), some (vi ((k : Nat) : Int))] [] X := by
          intro fz
          induction fz with
          | zero => intro k c hfz; exact absurd hfz (Nat.not_lt_zero _)
          | succ fz ih15 =>
            intro k c hfz hk hc hcl
            refine ev_iload (pc := 15) hC dX6_chainOf_15 rfl ?_
            refine ev_bipush (pc := 17) hC dX6_chainOf_17 (by decide) ?_
            refine ev_icmp_ge (pc := 19) hC 71 dX6_chainOf_19 (by decide) (by omega) (by omega) (fun c19 => ?_) (fun c19 => ?_)
            · refine ev_iinc (pc := 71) hC ((r + 1 : Nat) : Int) dX6_chainOf_71 rfl (by omega) (by rw [hKn]; decide) rfl ?_
              show Ev K 74 [some (.ref 29), some (vi ((p : Nat) : Int)), some (vi ((c : Nat) : Int)), some (vi ((r + 1 : Nat) : Int)), some (vi ((k : Nat) : Int))] [] X
              refine ev_goto (pc := 74) hC 6 dX6_chainOf_74 (by decide) ?_
              refine ev_drop 4 ?_
              show Ev K 6 [some (.ref 29), some (vi ((p : Nat) : Int)), some (vi ((c : Nat) : Int)), some (vi ((r + 1 : Nat) : Int)), none] [] X
              exact ih6 (r + 1) c (by omega) (by omega) (by rw [hc, show k = 64 by omega, hb]; rfl) (by omega)
            · refine ev_iload_n (pc := 22) hC dX6_chainOf_22 rfl ?_
              refine ev_iload_n (pc := 23) hC dX6_chainOf_23 rfl ?_
              refine ev_iload (pc := 24) hC dX6_chainOf_24 rfl ?_
              refine ev_bipush (pc := 26) hC dX6_chainOf_26 (by decide) ?_
              refine ev_idiv (pc := 28) hC ((k / 8 : Nat) : Int) (by omega) (by omega) (by omega) dX6_chainOf_28 ?_
              refine ev_callS (pc := 29) (as := [vi ((c : Nat) : Int), vi ((k / 8 : Nat) : Int)]) (rest := [vi ((c : Nat) : Int)]) hC gX6_chainOf_X6_has mtX6_has dX6_chainOf_29 (ru_X6_has c (k / 8) (by omega) (by omega)) (by decide) (by rfl) (Nat.le_of_ble_eq_true rfl) rfl (fun v29 X29 h29 => ?_)
              obtain ⟨rfl, rfl⟩ := h29
              show Ev K 32 [some (.ref 29), some (vi ((p : Nat) : Int)), some (vi ((c : Nat) : Int)), some (vi ((r : Nat) : Int)), some (vi ((k : Nat) : Int))] [vi (b2i (Nat.testBit c (k / 8))), vi ((c : Nat) : Int)] X
              have hr29 := b2i_r (Nat.testBit c (k / 8))
              refine ev_if_eq (pc := 32) hC 62 dX6_chainOf_32 (by decide) (by omega) (fun c32 => ?_) (fun c32 => ?_)
              · have e0 : brd A c k = false := by unfold brd; rw [b2i_0 c32]; rfl
                refine ev_iconst (pc := 62) hC dX6_chainOf_62 ?_
                refine ev_ior (pc := 63) hC ((c ||| 0 : Nat) : Int) (zI_or c 0) dX6_chainOf_63 ?_
                refine ev_istore_n (pc := 64) hC dX6_chainOf_64 (by rw [hKn]; decide) rfl ?_
                show Ev K 65 [some (.ref 29), some (vi ((p : Nat) : Int)), some (vi ((c ||| 0 : Nat) : Int)), some (vi ((r : Nat) : Int)), some (vi ((k : Nat) : Int))] [] X
                refine ev_iinc (pc := 65) hC ((k + 1 : Nat) : Int) dX6_chainOf_65 rfl (by omega) (by rw [hKn]; decide) rfl ?_
                show Ev K 68 [some (.ref 29), some (vi ((p : Nat) : Int)), some (vi ((c ||| 0 : Nat) : Int)), some (vi ((r : Nat) : Int)), some (vi ((k + 1 : Nat) : Int))] [] X
                refine ev_goto (pc := 68) hC 15 dX6_chainOf_68 (by decide) ?_
                exact ih15 (k + 1) (c ||| 0) (by omega) (by omega) (by rw [in2_s, ← hc, if_neg (by rw [e0]; decide), Nat.or_zero]) (by rw [Nat.or_zero]; exact hcl)
              · have e1 := b2i_1 c32
                have hkn := tb_lt2 hcl e1
                refine ev_aload_n (pc := 35) hC dX6_chainOf_35 rfl ?_
                refine ev_iload (pc := 36) hC dX6_chainOf_36 rfl ?_
                refine ev_bipush (pc := 38) hC dX6_chainOf_38 (by decide) ?_
                refine ev_idiv (pc := 40) hC ((k / 8 : Nat) : Int) (by omega) (by omega) (by omega) dX6_chainOf_40 ?_
                refine ev_iload (pc := 41) hC dX6_chainOf_41 rfl ?_
                refine ev_bipush (pc := 43) hC dX6_chainOf_43 (by decide) ?_
                refine ev_irem (pc := 45) hC ((k % 8 : Nat) : Int) (by omega) (by omega) (by omega) dX6_chainOf_45 ?_
                refine ev_callV (pc := 46) (as := [vi ((k / 8 : Nat) : Int), vi ((k % 8 : Nat) : Int)]) (rest := [vi ((c : Nat) : Int)]) hC gX6_chainOf_X6_areBeside mtX6_areBeside dX6_chainOf_46 (ru_X6_areBeside hA hg hG (k / 8) (k % 8) (by omega) (by omega) (decide (k % 8 < A 5 0) && bes 0 A (k / 8) (k % 8)) rfl) (by decide) (by decide) (by decide) rfl (by rfl) (Nat.le_of_ble_eq_true rfl) rfl (fun v46 X46 h46 => ?_)
                obtain ⟨rfl, rfl⟩ := h46
                show Ev K 49 [some (.ref 29), some (vi ((p : Nat) : Int)), some (vi ((c : Nat) : Int)), some (vi ((r : Nat) : Int)), some (vi ((k : Nat) : Int))] [vi (b2i (decide (k % 8 < A 5 0) && bes 0 A (k / 8) (k % 8))), vi ((c : Nat) : Int)] X
                have hr46 := b2i_r (decide (k % 8 < A 5 0) && bes 0 A (k / 8) (k % 8))
                refine ev_if_eq (pc := 49) hC 62 dX6_chainOf_49 (by decide) (by omega) (fun c49 => ?_) (fun c49 => ?_)
                · have e2 := b2i_0 c49
                  have e0 : brd A c k = false := by unfold brd; rw [e2, Bool.and_false]
                  refine ev_iconst (pc := 62) hC dX6_chainOf_62 ?_
                  refine ev_ior (pc := 63) hC ((c ||| 0 : Nat) : Int) (zI_or c 0) dX6_chainOf_63 ?_
                  refine ev_istore_n (pc := 64) hC dX6_chainOf_64 (by rw [hKn]; decide) rfl ?_
                  show Ev K 65 [some (.ref 29), some (vi ((p : Nat) : Int)), some (vi ((c ||| 0 : Nat) : Int)), some (vi ((r : Nat) : Int)), some (vi ((k : Nat) : Int))] [] X
                  refine ev_iinc (pc := 65) hC ((k + 1 : Nat) : Int) dX6_chainOf_65 rfl (by omega) (by rw [hKn]; decide) rfl ?_
                  show Ev K 68 [some (.ref 29), some (vi ((p : Nat) : Int)), some (vi ((c ||| 0 : Nat) : Int)), some (vi ((r : Nat) : Int)), some (vi ((k + 1 : Nat) : Int))] [] X
                  refine ev_goto (pc := 68) hC 15 dX6_chainOf_68 (by decide) ?_
                  exact ih15 (k + 1) (c ||| 0) (by omega) (by omega) (by rw [in2_s, ← hc, if_neg (by rw [e0]; decide), Nat.or_zero]) (by rw [Nat.or_zero]; exact hcl)
                · have e2 := b2i_1 c49
                  have e0 : brd A c k = true := by unfold brd; rw [e1, e2]; rfl
                  refine ev_iconst (pc := 52) hC dX6_chainOf_52 ?_
                  refine ev_iload (pc := 53) hC dX6_chainOf_53 rfl ?_
                  refine ev_bipush (pc := 55) hC dX6_chainOf_55 (by decide) ?_
                  refine ev_irem (pc := 57) hC ((k % 8 : Nat) : Int) (by omega) (by omega) (by omega) dX6_chainOf_57 ?_
                  refine ev_ishl (pc := 58) hC ((2 ^ (k % 8) : Nat) : Int) (zI_shl1 (k % 8) (by omega)) dX6_chainOf_58 ?_
                  refine ev_goto (pc := 59) hC 63 dX6_chainOf_59 (by decide) ?_
                  refine ev_ior (pc := 63) hC ((c ||| (2 ^ (k % 8)) : Nat) : Int) (zI_or c (2 ^ (k % 8))) dX6_chainOf_63 ?_
                  refine ev_istore_n (pc := 64) hC dX6_chainOf_64 (by rw [hKn]; decide) rfl ?_
                  show Ev K 65 [some (.ref 29), some (vi ((p : Nat) : Int)), some (vi ((c ||| (2 ^ (k % 8)) : Nat) : Int)), some (vi ((r : Nat) : Int)), some (vi ((k : Nat) : Int))] [] X
                  refine ev_iinc (pc := 65) hC ((k + 1 : Nat) : Int) dX6_chainOf_65 rfl (by omega) (by rw [hKn]; decide) rfl ?_
                  show Ev K 68 [some (.ref 29), some (vi ((p : Nat) : Int)), some (vi ((c ||| (2 ^ (k % 8)) : Nat) : Int)), some (vi ((r : Nat) : Int)), some (vi ((k + 1 : Nat) : Int))] [] X
                  refine ev_goto (pc := 68) hC 15 dX6_chainOf_68 (by decide) ?_
                  exact ih15 (k + 1) (c ||| (2 ^ (k % 8))) (by omega) (by omega) (by rw [in2_s, ← hc, if_pos e0]) (Nat.or_lt_two_pow hcl (pow_n (brd_q e0).2.1))
        exact lp15 _ 0 b (Nat.lt_succ_self _) (by omega) rfl (by omega)
  exact lp6 _ 0 (2 ^ p) (Nat.lt_succ_self _) (by omega) rfl hpn
theorem mtX6_heard : MT yX6_heard wsX6_heard cX6_heard 2 (some .int) 1 := ⟨⟨_, rfl⟩, by decide, by decide, by decide +kernel⟩
set_option maxRecDepth 100000 in
set_option maxHeartbeats 4000000 in
theorem ru_X6_heard {X : Mem} {V : St} (hV : mI X V) (x0 : Int) (hx0 : -2147483648 ≤ x0 ∧ x0 ≤ 2147483647) : Ru yX6_heard wsX6_heard 4 88 [.ref 29, vi x0] X (fun v X' => v = some (vi (sp22 x0 V).1) ∧ mI X' (sp22 x0 V).2 ∧ frM X X') := by
  refine ru_of (w2 := _) rfl (by decide) [some (.ref 29), some (vi x0)] (fun _ => rfl) (fun _ => Nat.le_of_ble_eq_true rfl) ?_
  intro K hKn hC hR
  obtain ⟨A, B, hh, T, n, W, rs, C⟩ := V
  have hA : Rp (vM X) A := hV.1
  have hyA : A 5 1 ≤ 999 := hV.2.1
  have hB : hh = true → Rp (vK X 0) B ∧ B 5 1 ≤ 999 := hV.2.2.1
  have hi : X 29 17 = zI (b2i hh) := hV.2.2.2.1
  have hg : X 29 8 = zI ((0 : Nat) : Int) := hV.2.2.2.2.1
  have hT : TxM X T n := hV.2.2.2.2.2.1
  have hW : RwM X W rs := hV.2.2.2.2.2.2.1
  have hCn : ∀ k, k < 7 → X 30 k = zI (C k : Nat) := hV.2.2.2.2.2.2.2
  have hn8 := hA.n8
  have hn96 := hT.2.1
  have hrs := hW.2.1
  have hG : 0 < 256 := by decide
  have hI : mI X (A, B, hh, T, n, W, rs, C) := hV
  have hq1 := cdP_cases A x0
  refine ev_aload_n (pc := 0) hC dX6_heard_0 rfl ?_
  refine ev_iload_n (pc := 1) hC dX6_heard_1 rfl ?_
  refine ev_callV (pc := 2) (as := [vi x0]) (rest := []) hC gX6_heard_X6_isOne mtX6_isOne dX6_heard_2 (ru_X6_isOne hA x0 (by omega)) (by decide) (by decide) (by decide) rfl (by rfl) (Nat.le_of_ble_eq_true rfl) rfl (fun v2 X2 h2 => ?_)
  obtain ⟨rfl, rfl⟩ := h2
  show Ev K 5 [some (.ref 29), some (vi x0)] [vi (b2i (decide (0 ≤ x0 ∧ x0 < (A 5 0 : Int))))] X
  have hr2 := b2i_r (decide (0 ≤ x0 ∧ x0 < (A 5 0 : Int)))
  refine ev_if_eq (pc := 5) hC 16 dX6_heard_5 (by decide) (by omega) (fun c5 => ?_) (fun c5 => ?_)
  · have e5 := of_decide_eq_false (b2i_0 c5)
    refine ev_aload_n (pc := 16) hC dX6_heard_16 rfl ?_
    refine ev_iconst (pc := 17) hC dX6_heard_17 ?_
    refine ev_callV (pc := 18) (as := [vi (-1)]) (rest := []) hC gX6_heard_X6_no mtX6_no dX6_heard_18 (ru_X6_no2 (-1) (by omega)) (by decide) (by decide) (by decide) rfl (by rfl) (Nat.le_of_ble_eq_true rfl) rfl (fun v18 X18 h18 => ?_)
    obtain ⟨rfl, rfl⟩ := h18
    show Ev K 21 [some (.ref 29), some (vi x0)] [vi (-1)] (mset X 30 (-(-1)).toNat (X 30 (-(-1)).toNat + 1))
    exact ev_ireturn (pc := 21) hC hR dX6_heard_21 (no_endM (show cdP A x0 = (-1) by omega) (by omega) hI)
  · have e5 := of_decide_eq_true (b2i_1 c5)
    obtain ⟨p0, rfl⟩ : ∃ k : Nat, x0 = (k : Int) := ⟨x0.toNat, by omega⟩
    refine ev_aload_n (pc := 8) hC dX6_heard_8 rfl ?_
    refine ev_iload_n (pc := 9) hC dX6_heard_9 rfl ?_
    refine ev_callV (pc := 10) (as := [vi ((p0 : Nat) : Int)]) (rest := []) hC gX6_heard_X6_chainOf mtX6_chainOf dX6_heard_10 (ru_X6_chainOf hA hg p0 (by omega)) (by decide) (by decide) (by decide) rfl (by rfl) (Nat.le_of_ble_eq_true rfl) rfl (fun v10 X10 h10 => ?_)
    obtain ⟨rfl, rfl⟩ := h10
    show Ev K 13 [some (.ref 29), some (vi ((p0 : Nat) : Int))] [vi ((chn A p0 : Nat) : Int)] X
    have hl10 := chn_lt (p := p0) hn8 (by omega)
    refine ev_goto (pc := 13) hC 21 dX6_heard_13 (by decide) ?_
    exact ev_ireturn (pc := 21) hC hR dX6_heard_21 (ok_endM (show cdP A ((p0 : Nat) : Int) = 0 by omega) rfl (mI_put hI hA hyA (frT_rf 1 X)) (frM_T (frT_rf 1 X)))
theorem mtX6_groups : MT yX6_groups wsX6_groups cX6_groups 6 (some .int) 1 := ⟨⟨_, rfl⟩, by decide, by decide, by decide +kernel⟩
set_option maxRecDepth 100000 in
set_option maxHeartbeats 4000000 in
theorem ru_X6_groups {X : Mem} {V : St} (hV : mI X V) (x0 : Int) (hx0 : -2147483648 ≤ x0 ∧ x0 ≤ 2147483647) : Ru yX6_groups wsX6_groups 4 88 [.ref 29, vi x0] X (fun v X' => v = some (vi (sp23 x0 V).1) ∧ mI X' (sp23 x0 V).2 ∧ frM X X') := by
  refine ru_of (w2 := _) rfl (by decide) [some (.ref 29), some (vi x0), none, none, none, none] (fun _ => rfl) (fun _ => Nat.le_of_ble_eq_true rfl) ?_
  intro K hKn hC hR
  have wX6 : ∀ w ∈ u_ws RX6 TX6 25, w ∈ wsX6_groups := by decide +kernel
  have f52 : Fl K RX6 52 6 6 := fl_of hC RX6 TX6 25 rfl (by decide) wX6 (show Cond.fieldLink RX6 52 "PicnicOfSomebodyModel" "people" "I" ∈ _ by decide +kernel)
  obtain ⟨A, B, hh, T, n, W, rs, C⟩ := V
  have hA : Rp (vM X) A := hV.1
  have hyA : A 5 1 ≤ 999 := hV.2.1
  have hB : hh = true → Rp (vK X 0) B ∧ B 5 1 ≤ 999 := hV.2.2.1
  have hi : X 29 17 = zI (b2i hh) := hV.2.2.2.1
  have hg : X 29 8 = zI ((0 : Nat) : Int) := hV.2.2.2.2.1
  have hT : TxM X T n := hV.2.2.2.2.2.1
  have hW : RwM X W rs := hV.2.2.2.2.2.2.1
  have hCn : ∀ k, k < 7 → X 30 k = zI (C k : Nat) := hV.2.2.2.2.2.2.2
  have hn8 := hA.n8
  have hn96 := hT.2.1
  have hrs := hW.2.1
  have hG : 0 < 256 := by decide
  have hI : mI X (A, B, hh, T, n, W, rs, C) := hV
  have hq1 := cdO_cases x0 2
  refine ev_iload_n (pc := 0) hC dX6_groups_0 rfl ?_
  refine ev_iconst (pc := 1) hC dX6_groups_1 ?_
  refine ev_iconst (pc := 2) hC dX6_groups_2 ?_
  refine ev_callS (pc := 3) (as := [vi x0, vi 0, vi 1]) (rest := []) hC gX6_groups_X6_isIn mtX6_isIn dX6_groups_3 (ru_X6_isIn x0 0 1 (by omega) (by omega) (by omega)) (by decide) (by rfl) (Nat.le_of_ble_eq_true rfl) rfl (fun v3 X3 h3 => ?_)
  obtain ⟨rfl, rfl⟩ := h3
  show Ev K 6 [some (.ref 29), some (vi x0), none, none, none, none] [vi (b2i (decide (0 ≤ x0 ∧ x0 ≤ 1)))] X
  have hr3 := b2i_r (decide (0 ≤ x0 ∧ x0 ≤ 1))
  refine ev_if_ne (pc := 6) hC 16 dX6_groups_6 (by decide) (by omega) (fun c6 => ?_) (fun c6 => ?_)
  · have e6 := of_decide_eq_true (b2i_1 c6)
    refine ev_iconst (pc := 16) hC dX6_groups_16 ?_
    refine ev_istore_n (pc := 17) hC dX6_groups_17 (by rw [hKn]; decide) rfl ?_
    show Ev K 18 [some (.ref 29), some (vi x0), some (vi 0), none, none, none] [] X
    refine ev_iconst (pc := 18) hC dX6_groups_18 ?_
    refine ev_istore_n (pc := 19) hC dX6_groups_19 (by rw [hKn]; decide) rfl ?_
    show Ev K 20 [some (.ref 29), some (vi x0), some (vi 0), some (vi 0), none, none] [] X
    refine ev_iconst (pc := 20) hC dX6_groups_20 ?_
    refine ev_istore (pc := 21) hC dX6_groups_21 (by rw [hKn]; decide) rfl ?_
    show Ev K 23 [some (.ref 29), some (vi x0), some (vi 0), some (vi 0), some (vi 0), none] [] X
    have lp23 : ∀ (fz : Nat) (i : Nat) (c : Nat) (m : Nat), A 5 0 - i < fz → (i ≤ A 5 0) → (c = (grpN A i).1) → (m = mxB i (fun _ => true) (fun i => pop (chn A i))) → (m ≤ 31) → Ev K 23 [some (.ref 29), some (vi x0), some (vi ((c : Nat) : Int)), some (vi ((m : Nat) : Int)), some (vi ((i : Nat) : Int)), none] [] X := by
      intro fz
      induction fz with
      | zero => intro i c m hfz; exact absurd hfz (Nat.not_lt_zero _)
      | succ fz ih23 =>
        intro i c m hfz hi hc hm hml
        refine ev_iload (pc := 23) hC dX6_groups_23 rfl ?_
        refine ev_aload_n (pc := 25) hC dX6_groups_25 rfl ?_
        refine ev_geti (pc := 26) hC ((A 5 0 : Nat) : Int) f52 dX6_groups_26 (by decide) (by decide) (by decide) (by decide) (by decide)  (hA.mn) ?_
        refine ev_icmp_ge (pc := 29) hC 85 dX6_groups_29 (by decide) (by omega) (by omega) (fun c29 => ?_) (fun c29 => ?_)
        · refine ev_iload_n (pc := 85) hC dX6_groups_85 rfl ?_
          refine ev_if_ne (pc := 86) hC 93 dX6_groups_86 (by decide) (by omega) (fun c86 => ?_) (fun c86 => ?_)
          · refine ev_iload_n (pc := 93) hC dX6_groups_93 rfl ?_
            exact ev_ireturn (pc := 94) hC hR dX6_groups_94 (ok_endM (show cdO x0 2 = 0 by omega) (by rw [if_neg c86]; rw [hm, show i = A 5 0 by omega]) (mI_put hI hA hyA (frT_rf 1 X)) (frM_T (frT_rf 1 X)))
          · refine ev_iload_n (pc := 89) hC dX6_groups_89 rfl ?_
            refine ev_goto (pc := 90) hC 94 dX6_groups_90 (by decide) ?_
            exact ev_ireturn (pc := 94) hC hR dX6_groups_94 (ok_endM (show cdO x0 2 = 0 by omega) (by rw [if_pos c86]; rw [hc, show i = A 5 0 by omega]) (mI_put hI hA hyA (frT_rf 1 X)) (frM_T (frT_rf 1 X)))
        · refine ev_aload_n (pc := 32) hC dX6_groups_32 rfl ?_
          refine ev_iload (pc := 33) hC dX6_groups_33 rfl ?_
          refine ev_callV (pc := 35) (as := [vi ((i : Nat) : Int)]) (rest := []) hC gX6_groups_X6_chainOf mtX6_chainOf dX6_groups_35 (ru_X6_chainOf hA hg i (by omega)) (by decide) (by decide) (by decide) rfl (by rfl) (Nat.le_of_ble_eq_true rfl) rfl (fun v35 X35 h35 => ?_)
          obtain ⟨rfl, rfl⟩ := h35
          show Ev K 38 [some (.ref 29), some (vi x0), some (vi ((c : Nat) : Int)), some (vi ((m : Nat) : Int)), some (vi ((i : Nat) : Int)), none] [vi ((chn A i : Nat) : Int)] X
          have hl35 := chn_lt (p := i) hn8 (by omega)
          refine ev_istore (pc := 38) hC dX6_groups_38 (by rw [hKn]; decide) rfl ?_
          show Ev K 40 [some (.ref 29), some (vi x0), some (vi ((c : Nat) : Int)), some (vi ((m : Nat) : Int)), some (vi ((i : Nat) : Int)), some (vi ((chn A i : Nat) : Int))] [] X
          refine ev_iload_n (pc := 40) hC dX6_groups_40 rfl ?_
          refine ev_iload (pc := 41) hC dX6_groups_41 rfl ?_
          have hpl := pow_lt8 (show i < 8 by omega)
          have hpp := Nat.two_pow_pos i
          refine ev_iconst (pc := 43) hC dX6_groups_43 ?_
          refine ev_iload (pc := 44) hC dX6_groups_44 rfl ?_
          refine ev_ishl (pc := 46) hC ((2 ^ i : Nat) : Int) (zI_shl1 i (by omega)) dX6_groups_46 ?_
          refine ev_iconst (pc := 47) hC dX6_groups_47 ?_
          refine ev_isub (pc := 48) hC ((2 ^ i - 1 : Nat) : Int) (by omega) dX6_groups_48 ?_
          refine ev_iand (pc := 49) hC (((chn A i) &&& (2 ^ i - 1) : Nat) : Int) (zI_and (chn A i) (2 ^ i - 1)) dX6_groups_49 ?_
          have hab := and_lt256 (b := 2 ^ i - 1) hl35
          refine ev_if_ne (pc := 50) hC 57 dX6_groups_50 (by decide) (by omega) (fun c50 => ?_) (fun c50 => ?_)
          · refine ev_iconst (pc := 57) hC dX6_groups_57 ?_
            refine ev_iadd (pc := 58) hC ((c + 0 : Nat) : Int) (by omega) dX6_groups_58 ?_
            refine ev_istore_n (pc := 59) hC dX6_groups_59 (by rw [hKn]; decide) rfl ?_
            show Ev K 60 [some (.ref 29), some (vi x0), some (vi ((c + 0 : Nat) : Int)), some (vi ((m : Nat) : Int)), some (vi ((i : Nat) : Int)), some (vi ((chn A i : Nat) : Int))] [] X
            refine ev_iload (pc := 60) hC dX6_groups_60 rfl ?_
            refine ev_callS (pc := 62) (as := [vi ((chn A i : Nat) : Int)]) (rest := []) hC gX6_groups_X6_bits mtX6_bits dX6_groups_62 (ru_X6_bits (chn A i) (by omega)) (by decide) (by rfl) (Nat.le_of_ble_eq_true rfl) rfl (fun v62 X62 h62 => ?_)
            obtain ⟨rfl, rfl⟩ := h62
            show Ev K 65 [some (.ref 29), some (vi x0), some (vi ((c + 0 : Nat) : Int)), some (vi ((m : Nat) : Int)), some (vi ((i : Nat) : Int)), some (vi ((chn A i : Nat) : Int))] [vi ((pop (chn A i) : Nat) : Int)] X
            have hp62 := pop_le (chn A i)
            refine ev_iload_n (pc := 65) hC dX6_groups_65 rfl ?_
            refine ev_icmp_le (pc := 66) hC 77 dX6_groups_66 (by decide) (by omega) (by omega) (fun c66 => ?_) (fun c66 => ?_)
            · refine ev_iload_n (pc := 77) hC dX6_groups_77 rfl ?_
              refine ev_istore_n (pc := 78) hC dX6_groups_78 (by rw [hKn]; decide) rfl ?_
              show Ev K 79 [some (.ref 29), some (vi x0), some (vi ((c + 0 : Nat) : Int)), some (vi ((m : Nat) : Int)), some (vi ((i : Nat) : Int)), some (vi ((chn A i : Nat) : Int))] [] X
              refine ev_iinc (pc := 79) hC ((i + 1 : Nat) : Int) dX6_groups_79 rfl (by omega) (by rw [hKn]; decide) rfl ?_
              show Ev K 82 [some (.ref 29), some (vi x0), some (vi ((c + 0 : Nat) : Int)), some (vi ((m : Nat) : Int)), some (vi ((i + 1 : Nat) : Int)), some (vi ((chn A i : Nat) : Int))] [] X
              refine ev_goto (pc := 82) hC 23 dX6_groups_82 (by decide) ?_
              refine ev_drop 5 ?_
              show Ev K 23 [some (.ref 29), some (vi x0), some (vi ((c + 0 : Nat) : Int)), some (vi ((m : Nat) : Int)), some (vi ((i + 1 : Nat) : Int)), none] [] X
              exact ih23 (i + 1) (c + 0) m (by omega) (by omega) (by rw [grp_0 hn8 (by omega) (by omega), ← hc, Nat.add_zero]) (by rw [mxB_t rfl, ← hm]; omega) (by omega)
            · refine ev_iload (pc := 69) hC dX6_groups_69 rfl ?_
              refine ev_callS (pc := 71) (as := [vi ((chn A i : Nat) : Int)]) (rest := []) hC gX6_groups_X6_bits mtX6_bits dX6_groups_71 (ru_X6_bits (chn A i) (by omega)) (by decide) (by rfl) (Nat.le_of_ble_eq_true rfl) rfl (fun v71 X71 h71 => ?_)
              obtain ⟨rfl, rfl⟩ := h71
              show Ev K 74 [some (.ref 29), some (vi x0), some (vi ((c + 0 : Nat) : Int)), some (vi ((m : Nat) : Int)), some (vi ((i : Nat) : Int)), some (vi ((chn A i : Nat) : Int))] [vi ((pop (chn A i) : Nat) : Int)] X
              have hp71 := pop_le (chn A i)
              refine ev_goto (pc := 74) hC 78 dX6_groups_74 (by decide) ?_
              refine ev_istore_n (pc := 78) hC dX6_groups_78 (by rw [hKn]; decide) rfl ?_
              show Ev K 79 [some (.ref 29), some (vi x0), some (vi ((c + 0 : Nat) : Int)), some (vi ((pop (chn A i) : Nat) : Int)), some (vi ((i : Nat) : Int)), some (vi ((chn A i : Nat) : Int))] [] X
              refine ev_iinc (pc := 79) hC ((i + 1 : Nat) : Int) dX6_groups_79 rfl (by omega) (by rw [hKn]; decide) rfl ?_
              show Ev K 82 [some (.ref 29), some (vi x0), some (vi ((c + 0 : Nat) : Int)), some (vi ((pop (chn A i) : Nat) : Int)), some (vi ((i + 1 : Nat) : Int)), some (vi ((chn A i : Nat) : Int))] [] X
              refine ev_goto (pc := 82) hC 23 dX6_groups_82 (by decide) ?_
              refine ev_drop 5 ?_
              show Ev K 23 [some (.ref 29), some (vi x0), some (vi ((c + 0 : Nat) : Int)), some (vi ((pop (chn A i) : Nat) : Int)), some (vi ((i + 1 : Nat) : Int)), none] [] X
              exact ih23 (i + 1) (c + 0) (pop (chn A i)) (by omega) (by omega) (by rw [grp_0 hn8 (by omega) (by omega), ← hc, Nat.add_zero]) (by rw [mxB_t rfl, ← hm]; omega) (by omega)
          · refine ev_iconst (pc := 53) hC dX6_groups_53 ?_
            refine ev_goto (pc := 54) hC 58 dX6_groups_54 (by decide) ?_
            refine ev_iadd (pc := 58) hC ((c + 1 : Nat) : Int) (by omega) dX6_groups_58 ?_
            refine ev_istore_n (pc := 59) hC dX6_groups_59 (by rw [hKn]; decide) rfl ?_
            show Ev K 60 [some (.ref 29), some (vi x0), some (vi ((c + 1 : Nat) : Int)), some (vi ((m : Nat) : Int)), some (vi ((i : Nat) : Int)), some (vi ((chn A i : Nat) : Int))] [] X
            refine ev_iload (pc := 60) hC dX6_groups_60 rfl ?_
            refine ev_callS (pc := 62) (as := [vi ((chn A i : Nat) : Int)]) (rest := []) hC gX6_groups_X6_bits mtX6_bits dX6_groups_62 (ru_X6_bits (chn A i) (by omega)) (by decide) (by rfl) (Nat.le_of_ble_eq_true rfl) rfl (fun v62 X62 h62 => ?_)
            obtain ⟨rfl, rfl⟩ := h62
            show Ev K 65 [some (.ref 29), some (vi x0), some (vi ((c + 1 : Nat) : Int)), some (vi ((m : Nat) : Int)), some (vi ((i : Nat) : Int)), some (vi ((chn A i : Nat) : Int))] [vi ((pop (chn A i) : Nat) : Int)] X
            have hp62 := pop_le (chn A i)
            refine ev_iload_n (pc := 65) hC dX6_groups_65 rfl ?_
            refine ev_icmp_le (pc := 66) hC 77 dX6_groups_66 (by decide) (by omega) (by omega) (fun c66 => ?_) (fun c66 => ?_)
            · refine ev_iload_n (pc := 77) hC dX6_groups_77 rfl ?_
              refine ev_istore_n (pc := 78) hC dX6_groups_78 (by rw [hKn]; decide) rfl ?_
              show Ev K 79 [some (.ref 29), some (vi x0), some (vi ((c + 1 : Nat) : Int)), some (vi ((m : Nat) : Int)), some (vi ((i : Nat) : Int)), some (vi ((chn A i : Nat) : Int))] [] X
              refine ev_iinc (pc := 79) hC ((i + 1 : Nat) : Int) dX6_groups_79 rfl (by omega) (by rw [hKn]; decide) rfl ?_
              show Ev K 82 [some (.ref 29), some (vi x0), some (vi ((c + 1 : Nat) : Int)), some (vi ((m : Nat) : Int)), some (vi ((i + 1 : Nat) : Int)), some (vi ((chn A i : Nat) : Int))] [] X
              refine ev_goto (pc := 82) hC 23 dX6_groups_82 (by decide) ?_
              refine ev_drop 5 ?_
              show Ev K 23 [some (.ref 29), some (vi x0), some (vi ((c + 1 : Nat) : Int)), some (vi ((m : Nat) : Int)), some (vi ((i + 1 : Nat) : Int)), none] [] X
              exact ih23 (i + 1) (c + 1) m (by omega) (by omega) (by rw [grp_1 hn8 (by omega) (by omega), ← hc]) (by rw [mxB_t rfl, ← hm]; omega) (by omega)
            · refine ev_iload (pc := 69) hC dX6_groups_69 rfl ?_
              refine ev_callS (pc := 71) (as := [vi ((chn A i : Nat) : Int)]) (rest := []) hC gX6_groups_X6_bits mtX6_bits dX6_groups_71 (ru_X6_bits (chn A i) (by omega)) (by decide) (by rfl) (Nat.le_of_ble_eq_true rfl) rfl (fun v71 X71 h71 => ?_)
              obtain ⟨rfl, rfl⟩ := h71
              show Ev K 74 [some (.ref 29), some (vi x0), some (vi ((c + 1 : Nat) : Int)), some (vi ((m : Nat) : Int)), some (vi ((i : Nat) : Int)), some (vi ((chn A i : Nat) : Int))] [vi ((pop (chn A i) : Nat) : Int)] X
              have hp71 := pop_le (chn A i)
              refine ev_goto (pc := 74) hC 78 dX6_groups_74 (by decide) ?_
              refine ev_istore_n (pc := 78) hC dX6_groups_78 (by rw [hKn]; decide) rfl ?_
              show Ev K 79 [some (.ref 29), some (vi x0), some (vi ((c + 1 : Nat) : Int)), some (vi ((pop (chn A i) : Nat) : Int)), some (vi ((i : Nat) : Int)), some (vi ((chn A i : Nat) : Int))] [] X
              refine ev_iinc (pc := 79) hC ((i + 1 : Nat) : Int) dX6_groups_79 rfl (by omega) (by rw [hKn]; decide) rfl ?_
              show Ev K 82 [some (.ref 29), some (vi x0), some (vi ((c + 1 : Nat) : Int)), some (vi ((pop (chn A i) : Nat) : Int)), some (vi ((i + 1 : Nat) : Int)), some (vi ((chn A i : Nat) : Int))] [] X
              refine ev_goto (pc := 82) hC 23 dX6_groups_82 (by decide) ?_
              refine ev_drop 5 ?_
              show Ev K 23 [some (.ref 29), some (vi x0), some (vi ((c + 1 : Nat) : Int)), some (vi ((pop (chn A i) : Nat) : Int)), some (vi ((i + 1 : Nat) : Int)), none] [] X
              exact ih23 (i + 1) (c + 1) (pop (chn A i)) (by omega) (by omega) (by rw [grp_1 hn8 (by omega) (by omega), ← hc]) (by rw [mxB_t rfl, ← hm]; omega) (by omega)
    exact lp23 _ 0 0 0 (Nat.lt_succ_self _) (by omega) rfl rfl (by omega)
  · have e6 := of_decide_eq_false (b2i_0 c6)
    refine ev_aload_n (pc := 9) hC dX6_groups_9 rfl ?_
    refine ev_bipush (pc := 10) hC dX6_groups_10 (by decide) ?_
    refine ev_callV (pc := 12) (as := [vi (-2)]) (rest := []) hC gX6_groups_X6_no mtX6_no dX6_groups_12 (ru_X6_no2 (-2) (by omega)) (by decide) (by decide) (by decide) rfl (by rfl) (Nat.le_of_ble_eq_true rfl) rfl (fun v12 X12 h12 => ?_)
    obtain ⟨rfl, rfl⟩ := h12
    show Ev K 15 [some (.ref 29), some (vi x0), none, none, none, none] [vi (-2)] (mset X 30 (-(-2)).toNat (X 30 (-(-2)).toNat + 1))
    exact ev_ireturn (pc := 15) hC hR dX6_groups_15 (no_endM (show cdO x0 2 = (-2) by omega) (by omega) hI)
theorem mtX6_stepsTo : MT yX6_stepsTo wsX6_stepsTo cX6_stepsTo 4 (some .int) 1 := ⟨⟨_, rfl⟩, by decide, by decide, by decide +kernel⟩
set_option maxRecDepth 100000 in
set_option maxHeartbeats 4000000 in
theorem ru_X6_stepsTo {X : Mem} {A : Sl} (hA : Rp (vM X) A) (c : Nat) (hc : c < 25) : Ru yX6_stepsTo wsX6_stepsTo 2 42 [.ref 29, vi ((c : Nat) : Int)] X (fun v X' => v = some (vi (stpF A c)) ∧ X = X') := by
  refine ru_of (w2 := _) rfl (by decide) [some (.ref 29), some (vi ((c : Nat) : Int)), none, none] (fun _ => rfl) (fun _ => Nat.le_of_ble_eq_true rfl) ?_
  intro K hKn hC hR
  have wX6 : ∀ w ∈ u_ws RX6 TX6 25, w ∈ wsX6_stepsTo := by decide +kernel
  have f52 : Fl K RX6 52 6 6 := fl_of hC RX6 TX6 25 rfl (by decide) wX6 (show Cond.fieldLink RX6 52 "PicnicOfSomebodyModel" "people" "I" ∈ _ by decide +kernel)
  have f22 : Fl K RX6 22 6 4 := fl_of hC RX6 TX6 25 rfl (by decide) wX6 (show Cond.fieldLink RX6 22 "PicnicOfSomebodyModel" "cell" "[I" ∈ _ by decide +kernel)
  have hn8 := hA.n8
  refine ev_iconst (pc := 0) hC dX6_stepsTo_0 ?_
  refine ev_istore_n (pc := 1) hC dX6_stepsTo_1 (by rw [hKn]; decide) rfl ?_
  show Ev K 2 [some (.ref 29), some (vi ((c : Nat) : Int)), some (vi 0), none] [] X
  refine ev_iconst (pc := 2) hC dX6_stepsTo_2 ?_
  refine ev_istore_n (pc := 3) hC dX6_stepsTo_3 (by rw [hKn]; decide) rfl ?_
  show Ev K 4 [some (.ref 29), some (vi ((c : Nat) : Int)), some (vi 0), some (vi 0)] [] X
  have lp4 : ∀ (fz : Nat) (i : Nat) (b : Nat), A 5 0 - i < fz → (i ≤ A 5 0) → (b = sumB i (fun i => stp (A 3 i) c)) → Ev K 4 [some (.ref 29), some (vi ((c : Nat) : Int)), some (vi ((b : Nat) : Int)), some (vi ((i : Nat) : Int))] [] X := by
    intro fz
    induction fz with
    | zero => intro i b hfz; exact absurd hfz (Nat.not_lt_zero _)
    | succ fz ih4 =>
      intro i b hfz hi hb
      refine ev_iload_n (pc := 4) hC dX6_stepsTo_4 rfl ?_
      refine ev_aload_n (pc := 5) hC dX6_stepsTo_5 rfl ?_
      refine ev_geti (pc := 6) hC ((A 5 0 : Nat) : Int) f52 dX6_stepsTo_6 (by decide) (by decide) (by decide) (by decide) (by decide)  (hA.mn) ?_
      refine ev_icmp_ge (pc := 9) hC 31 dX6_stepsTo_9 (by decide) (by omega) (by omega) (fun c9 => ?_) (fun c9 => ?_)
      · refine ev_iload_n (pc := 31) hC dX6_stepsTo_31 rfl ?_
        exact ev_ireturn (pc := 32) hC hR dX6_stepsTo_32 (⟨rv (by rw [hb, show i = A 5 0 by omega]; rfl), rfl⟩)
      · refine ev_iload_n (pc := 12) hC dX6_stepsTo_12 rfl ?_
        refine ev_aload_n (pc := 13) hC dX6_stepsTo_13 rfl ?_
        refine ev_getr (pc := 14) hC 34 f22 dX6_stepsTo_14 (by decide) (by decide) (by decide) (by decide) (by decide) ?_
        refine ev_iload_n (pc := 17) hC dX6_stepsTo_17 rfl ?_
        have hb18 := hA.c25 i (by omega)
        refine ev_iald (pc := 18) hC i ((A 3 i : Nat) : Int) (by decide) (by decide) (rfl) (by have := (show alen 34 = 8 from rfl); omega) (hA.m3 i (by omega)) dX6_stepsTo_18 ?_
        refine ev_iload_n (pc := 19) hC dX6_stepsTo_19 rfl ?_
        refine ev_callS (pc := 20) (as := [vi ((A 3 i : Nat) : Int), vi ((c : Nat) : Int)]) (rest := [vi ((b : Nat) : Int)]) hC gX6_stepsTo_X6_steps mtX6_steps dX6_stepsTo_20 (ru_X6_steps (A 3 i) c (by omega) (by omega)) (by decide) (by rfl) (Nat.le_of_ble_eq_true rfl) rfl (fun v20 X20 h20 => ?_)
        obtain ⟨rfl, rfl⟩ := h20
        show Ev K 23 [some (.ref 29), some (vi ((c : Nat) : Int)), some (vi ((b : Nat) : Int)), some (vi ((i : Nat) : Int))] [vi ((stp (A 3 i) c : Nat) : Int), vi ((b : Nat) : Int)] X
        have hst20 := stp_le (a := A 3 i) (b := c) (by omega) (by omega)
        refine ev_iadd (pc := 23) hC ((b + (stp (A 3 i) c) : Nat) : Int) (by omega) dX6_stepsTo_23 ?_
        refine ev_istore_n (pc := 24) hC dX6_stepsTo_24 (by rw [hKn]; decide) rfl ?_
        show Ev K 25 [some (.ref 29), some (vi ((c : Nat) : Int)), some (vi ((b + (stp (A 3 i) c) : Nat) : Int)), some (vi ((i : Nat) : Int))] [] X
        refine ev_iinc (pc := 25) hC ((i + 1 : Nat) : Int) dX6_stepsTo_25 rfl (by omega) (by rw [hKn]; decide) rfl ?_
        show Ev K 28 [some (.ref 29), some (vi ((c : Nat) : Int)), some (vi ((b + (stp (A 3 i) c) : Nat) : Int)), some (vi ((i + 1 : Nat) : Int))] [] X
        refine ev_goto (pc := 28) hC 4 dX6_stepsTo_28 (by decide) ?_
        exact ih4 (i + 1) (b + (stp (A 3 i) c)) (by omega) (by omega) (by rw [sumB_s, ← hb])
  exact lp4 _ 0 0 (Nat.lt_succ_self _) (by omega) rfl
theorem mtX6_middle : MT yX6_middle wsX6_middle cX6_middle 4 (some .int) 1 := ⟨⟨_, rfl⟩, by decide, by decide, by decide +kernel⟩
set_option maxRecDepth 100000 in
set_option maxHeartbeats 4000000 in
theorem ru_X6_middle {X : Mem} {V : St} (hV : mI X V) (x0 : Int) (hx0 : -2147483648 ≤ x0 ∧ x0 ≤ 2147483647) : Ru yX6_middle wsX6_middle 3 65 [.ref 29, vi x0] X (fun v X' => v = some (vi (sp24 x0 V).1) ∧ mI X' (sp24 x0 V).2 ∧ frM X X') := by
  refine ru_of (w2 := _) rfl (by decide) [some (.ref 29), some (vi x0), none, none] (fun _ => rfl) (fun _ => Nat.le_of_ble_eq_true rfl) ?_
  intro K hKn hC hR
  obtain ⟨A, B, hh, T, n, W, rs, C⟩ := V
  have hA : Rp (vM X) A := hV.1
  have hyA : A 5 1 ≤ 999 := hV.2.1
  have hB : hh = true → Rp (vK X 0) B ∧ B 5 1 ≤ 999 := hV.2.2.1
  have hi : X 29 17 = zI (b2i hh) := hV.2.2.2.1
  have hg : X 29 8 = zI ((0 : Nat) : Int) := hV.2.2.2.2.1
  have hT : TxM X T n := hV.2.2.2.2.2.1
  have hW : RwM X W rs := hV.2.2.2.2.2.2.1
  have hCn : ∀ k, k < 7 → X 30 k = zI (C k : Nat) := hV.2.2.2.2.2.2.2
  have hn8 := hA.n8
  have hn96 := hT.2.1
  have hrs := hW.2.1
  have hG : 0 < 256 := by decide
  have hI : mI X (A, B, hh, T, n, W, rs, C) := hV
  have hq1 := cdO_cases x0 2
  refine ev_iload_n (pc := 0) hC dX6_middle_0 rfl ?_
  refine ev_iconst (pc := 1) hC dX6_middle_1 ?_
  refine ev_iconst (pc := 2) hC dX6_middle_2 ?_
  refine ev_callS (pc := 3) (as := [vi x0, vi 0, vi 1]) (rest := []) hC gX6_middle_X6_isIn mtX6_isIn dX6_middle_3 (ru_X6_isIn x0 0 1 (by omega) (by omega) (by omega)) (by decide) (by rfl) (Nat.le_of_ble_eq_true rfl) rfl (fun v3 X3 h3 => ?_)
  obtain ⟨rfl, rfl⟩ := h3
  show Ev K 6 [some (.ref 29), some (vi x0), none, none] [vi (b2i (decide (0 ≤ x0 ∧ x0 ≤ 1)))] X
  have hr3 := b2i_r (decide (0 ≤ x0 ∧ x0 ≤ 1))
  refine ev_if_ne (pc := 6) hC 16 dX6_middle_6 (by decide) (by omega) (fun c6 => ?_) (fun c6 => ?_)
  · have e6 := of_decide_eq_true (b2i_1 c6)
    refine ev_iconst (pc := 16) hC dX6_middle_16 ?_
    refine ev_istore_n (pc := 17) hC dX6_middle_17 (by rw [hKn]; decide) rfl ?_
    show Ev K 18 [some (.ref 29), some (vi x0), some (vi 0), none] [] X
    refine ev_iconst (pc := 18) hC dX6_middle_18 ?_
    refine ev_istore_n (pc := 19) hC dX6_middle_19 (by rw [hKn]; decide) rfl ?_
    show Ev K 20 [some (.ref 29), some (vi x0), some (vi 0), some (vi 1)] [] X
    have lp20 : ∀ (fz : Nat) (i : Nat) (b : Nat), 25 - i < fz → (1 ≤ i ∧ i ≤ 25) → (b = mdN (stpF A) (i - 1)) → (b < 25) → Ev K 20 [some (.ref 29), some (vi x0), some (vi ((b : Nat) : Int)), some (vi ((i : Nat) : Int))] [] X := by
      intro fz
      induction fz with
      | zero => intro i b hfz; exact absurd hfz (Nat.not_lt_zero _)
      | succ fz ih20 =>
        intro i b hfz hi hb hbl
        refine ev_iload_n (pc := 20) hC dX6_middle_20 rfl ?_
        refine ev_bipush (pc := 21) hC dX6_middle_21 (by decide) ?_
        refine ev_icmp_ge (pc := 23) hC 51 dX6_middle_23 (by decide) (by omega) (by omega) (fun c23 => ?_) (fun c23 => ?_)
        · refine ev_iload_n (pc := 51) hC dX6_middle_51 rfl ?_
          refine ev_if_ne (pc := 52) hC 59 dX6_middle_52 (by decide) (by omega) (fun c52 => ?_) (fun c52 => ?_)
          · refine ev_aload_n (pc := 59) hC dX6_middle_59 rfl ?_
            refine ev_iload_n (pc := 60) hC dX6_middle_60 rfl ?_
            refine ev_callV (pc := 61) (as := [vi ((b : Nat) : Int)]) (rest := []) hC gX6_middle_X6_stepsTo mtX6_stepsTo dX6_middle_61 (ru_X6_stepsTo hA b (by omega)) (by decide) (by decide) (by decide) rfl (by rfl) (Nat.le_of_ble_eq_true rfl) rfl (fun v61 X61 h61 => ?_)
            obtain ⟨rfl, rfl⟩ := h61
            show Ev K 64 [some (.ref 29), some (vi x0), some (vi ((b : Nat) : Int)), some (vi ((i : Nat) : Int))] [vi ((stpF A b : Nat) : Int)] X
            have hl61 := stpF_le (c := b) hA.ok (by omega)
            exact ev_ireturn (pc := 64) hC hR dX6_middle_64 (ok_endM (show cdO x0 2 = 0 by omega) (by rw [if_neg c52, hb, show i - 1 = 24 by omega]) (mI_put hI hA hyA (frT_rf 1 X)) (frM_T (frT_rf 1 X)))
          · refine ev_iload_n (pc := 55) hC dX6_middle_55 rfl ?_
            refine ev_goto (pc := 56) hC 64 dX6_middle_56 (by decide) ?_
            exact ev_ireturn (pc := 64) hC hR dX6_middle_64 (ok_endM (show cdO x0 2 = 0 by omega) (by rw [if_pos c52, hb, show i - 1 = 24 by omega]) (mI_put hI hA hyA (frT_rf 1 X)) (frM_T (frT_rf 1 X)))
        · refine ev_aload_n (pc := 26) hC dX6_middle_26 rfl ?_
          refine ev_iload_n (pc := 27) hC dX6_middle_27 rfl ?_
          refine ev_callV (pc := 28) (as := [vi ((i : Nat) : Int)]) (rest := []) hC gX6_middle_X6_stepsTo mtX6_stepsTo dX6_middle_28 (ru_X6_stepsTo hA i (by omega)) (by decide) (by decide) (by decide) rfl (by rfl) (Nat.le_of_ble_eq_true rfl) rfl (fun v28 X28 h28 => ?_)
          obtain ⟨rfl, rfl⟩ := h28
          show Ev K 31 [some (.ref 29), some (vi x0), some (vi ((b : Nat) : Int)), some (vi ((i : Nat) : Int))] [vi ((stpF A i : Nat) : Int)] X
          have hl28 := stpF_le (c := i) hA.ok (by omega)
          refine ev_aload_n (pc := 31) hC dX6_middle_31 rfl ?_
          refine ev_iload_n (pc := 32) hC dX6_middle_32 rfl ?_
          refine ev_callV (pc := 33) (as := [vi ((b : Nat) : Int)]) (rest := [vi ((stpF A i : Nat) : Int)]) hC gX6_middle_X6_stepsTo mtX6_stepsTo dX6_middle_33 (ru_X6_stepsTo hA b (by omega)) (by decide) (by decide) (by decide) rfl (by rfl) (Nat.le_of_ble_eq_true rfl) rfl (fun v33 X33 h33 => ?_)
          obtain ⟨rfl, rfl⟩ := h33
          show Ev K 36 [some (.ref 29), some (vi x0), some (vi ((b : Nat) : Int)), some (vi ((i : Nat) : Int))] [vi ((stpF A b : Nat) : Int), vi ((stpF A i : Nat) : Int)] X
          have hl33 := stpF_le (c := b) hA.ok (by omega)
          refine ev_icmp_ge (pc := 36) hC 43 dX6_middle_36 (by decide) (by omega) (by omega) (fun c36 => ?_) (fun c36 => ?_)
          · refine ev_iload_n (pc := 43) hC dX6_middle_43 rfl ?_
            refine ev_istore_n (pc := 44) hC dX6_middle_44 (by rw [hKn]; decide) rfl ?_
            show Ev K 45 [some (.ref 29), some (vi x0), some (vi ((b : Nat) : Int)), some (vi ((i : Nat) : Int))] [] X
            refine ev_iinc (pc := 45) hC ((i + 1 : Nat) : Int) dX6_middle_45 rfl (by omega) (by rw [hKn]; decide) rfl ?_
            show Ev K 48 [some (.ref 29), some (vi x0), some (vi ((b : Nat) : Int)), some (vi ((i + 1 : Nat) : Int))] [] X
            refine ev_goto (pc := 48) hC 20 dX6_middle_48 (by decide) ?_
            exact ih20 (i + 1) b (by omega) (by omega) (by show _ = mdN (stpF A) i; rw [show i = (i - 1) + 1 by omega, mdN_s, ← hb, if_neg (by rw [show i - 1 + 1 = i by omega]; omega)]) (by omega)
          · refine ev_iload_n (pc := 39) hC dX6_middle_39 rfl ?_
            refine ev_goto (pc := 40) hC 44 dX6_middle_40 (by decide) ?_
            refine ev_istore_n (pc := 44) hC dX6_middle_44 (by rw [hKn]; decide) rfl ?_
            show Ev K 45 [some (.ref 29), some (vi x0), some (vi ((i : Nat) : Int)), some (vi ((i : Nat) : Int))] [] X
            refine ev_iinc (pc := 45) hC ((i + 1 : Nat) : Int) dX6_middle_45 rfl (by omega) (by rw [hKn]; decide) rfl ?_
            show Ev K 48 [some (.ref 29), some (vi x0), some (vi ((i : Nat) : Int)), some (vi ((i + 1 : Nat) : Int))] [] X
            refine ev_goto (pc := 48) hC 20 dX6_middle_48 (by decide) ?_
            exact ih20 (i + 1) i (by omega) (by omega) (by show _ = mdN (stpF A) i; rw [show i = (i - 1) + 1 by omega, mdN_s, ← hb, if_pos (by rw [show i - 1 + 1 = i by omega]; omega)]) (by omega)
    exact lp20 _ 1 0 (Nat.lt_succ_self _) (by omega) rfl (by omega)
  · have e6 := of_decide_eq_false (b2i_0 c6)
    refine ev_aload_n (pc := 9) hC dX6_middle_9 rfl ?_
    refine ev_bipush (pc := 10) hC dX6_middle_10 (by decide) ?_
    refine ev_callV (pc := 12) (as := [vi (-2)]) (rest := []) hC gX6_middle_X6_no mtX6_no dX6_middle_12 (ru_X6_no2 (-2) (by omega)) (by decide) (by decide) (by decide) rfl (by rfl) (Nat.le_of_ble_eq_true rfl) rfl (fun v12 X12 h12 => ?_)
    obtain ⟨rfl, rfl⟩ := h12
    show Ev K 15 [some (.ref 29), some (vi x0), none, none] [vi (-2)] (mset X 30 (-(-2)).toNat (X 30 (-(-2)).toNat + 1))
    exact ev_ireturn (pc := 15) hC hR dX6_middle_15 (no_endM (show cdO x0 2 = (-2) by omega) (by omega) hI)
theorem mtX6_divisor : MT yX6_divisor wsX6_divisor cX6_divisor 10 (some .long) 2 := ⟨⟨_, rfl⟩, by decide, by decide, by decide +kernel⟩
set_option maxRecDepth 100000 in
set_option maxHeartbeats 4000000 in
theorem ru_X6_divisor {X : Mem} (a b : Nat) (ha : a ≤ 9223372036854775807) (hb : b ≤ 9223372036854775807) : Ru yX6_divisor wsX6_divisor 0 0 [vl ((a : Nat) : Int), vl ((b : Nat) : Int)] X (fun v X' => v = some (vl ((Nat.gcd a b : Nat) : Int)) ∧ X = X') := by
  refine ru_of (w2 := _) rfl (by decide) [some (vl ((a : Nat) : Int)), none, some (vl ((b : Nat) : Int)), none, none, none, none, none, none, none] (fun _ => rfl) (fun _ => Nat.le_of_ble_eq_true rfl) ?_
  intro K hKn hC hR
  refine ev_lload_n (pc := 0) hC dX6_divisor_0 rfl ?_
  refine ev_lstore (pc := 1) hC dX6_divisor_1 (by rw [hKn]; decide) rfl ?_
  show Ev K 3 [some (vl ((a : Nat) : Int)), none, some (vl ((b : Nat) : Int)), none, some (vl ((a : Nat) : Int)), none, none, none, none, none] [] X
  refine ev_lload_n (pc := 3) hC dX6_divisor_3 rfl ?_
  refine ev_lstore (pc := 4) hC dX6_divisor_4 (by rw [hKn]; decide) rfl ?_
  show Ev K 6 [some (vl ((a : Nat) : Int)), none, some (vl ((b : Nat) : Int)), none, some (vl ((a : Nat) : Int)), none, some (vl ((b : Nat) : Int)), none, none, none] [] X
  have lp6 : ∀ (fz : Nat) (x : Nat) (y : Nat), y < fz → (Nat.gcd x y = Nat.gcd a b) → (x ≤ 9223372036854775807) → (y ≤ 9223372036854775807) → Ev K 6 [some (vl ((a : Nat) : Int)), none, some (vl ((b : Nat) : Int)), none, some (vl ((x : Nat) : Int)), none, some (vl ((y : Nat) : Int)), none, none, none] [] X := by
    intro fz
    induction fz with
    | zero => intro x y hfz; exact absurd hfz (Nat.not_lt_zero _)
    | succ fz ih6 =>
      intro x y hfz hg hx hy
      refine ev_lload (pc := 6) hC dX6_divisor_6 rfl ?_
      refine ev_lconst (pc := 8) hC 0 (by decide) dX6_divisor_8 ?_
      refine ev_lcmp_eq (pc := 9) hC 31 dX6_divisor_9 dX6_divisor_10 (by decide) (by omega) (by omega) (fun c9 => ?_) (fun c9 => ?_)
      · refine ev_lload (pc := 31) hC dX6_divisor_31 rfl ?_
        exact ev_lreturn (pc := 33) hC hR dX6_divisor_33 (⟨rl (by rw [← hg, show y = 0 by omega, Nat.gcd_zero_right]), rfl⟩)
      · refine ev_lload (pc := 13) hC dX6_divisor_13 rfl ?_
        refine ev_lload (pc := 15) hC dX6_divisor_15 rfl ?_
        have hml := Nat.mod_lt x (show 0 < y by omega)
        refine ev_lrem (pc := 17) hC ((x % y : Nat) : Int) (rfl) (by omega) (by omega) dX6_divisor_17 ?_
        refine ev_lstore (pc := 18) hC dX6_divisor_18 (by rw [hKn]; decide) rfl ?_
        show Ev K 20 [some (vl ((a : Nat) : Int)), none, some (vl ((b : Nat) : Int)), none, some (vl ((x : Nat) : Int)), none, some (vl ((y : Nat) : Int)), none, some (vl ((x % y : Nat) : Int)), none] [] X
        refine ev_lload (pc := 20) hC dX6_divisor_20 rfl ?_
        refine ev_lstore (pc := 22) hC dX6_divisor_22 (by rw [hKn]; decide) rfl ?_
        show Ev K 24 [some (vl ((a : Nat) : Int)), none, some (vl ((b : Nat) : Int)), none, some (vl ((y : Nat) : Int)), none, some (vl ((y : Nat) : Int)), none, some (vl ((x % y : Nat) : Int)), none] [] X
        refine ev_lload (pc := 24) hC dX6_divisor_24 rfl ?_
        refine ev_lstore (pc := 26) hC dX6_divisor_26 (by rw [hKn]; decide) rfl ?_
        show Ev K 28 [some (vl ((a : Nat) : Int)), none, some (vl ((b : Nat) : Int)), none, some (vl ((y : Nat) : Int)), none, some (vl ((x % y : Nat) : Int)), none, some (vl ((x % y : Nat) : Int)), none] [] X
        refine ev_goto (pc := 28) hC 6 dX6_divisor_28 (by decide) ?_
        refine ev_drop 8 ?_
        show Ev K 6 [some (vl ((a : Nat) : Int)), none, some (vl ((b : Nat) : Int)), none, some (vl ((y : Nat) : Int)), none, some (vl ((x % y : Nat) : Int)), none, none, none] [] X
        exact ih6 y (x % y) (by omega) (by rw [← hg, Nat.gcd_comm y, ← Nat.gcd_rec, Nat.gcd_comm]) hy (by omega)
  exact lp6 _ a b (Nat.lt_succ_self _) rfl ha hb
theorem mtX6_partOf : MT yX6_partOf wsX6_partOf cX6_partOf 5 (some .long) 3 := ⟨⟨_, rfl⟩, by decide, by decide, by decide +kernel⟩
set_option maxRecDepth 100000 in
set_option maxHeartbeats 4000000 in
theorem ru_X6_partOf {X : Mem} (u d : Nat) (w : Int) (hu : u ≤ 9223372036854775807) (hd : 0 < d ∧ d ≤ 9223372036854775807) (hw : 0 ≤ w ∧ w ≤ 1) : Ru yX6_partOf wsX6_partOf 1 29 [vl ((u : Nat) : Int), vl ((d : Nat) : Int), vi w] X (fun v X' => v = some (vl (prt u d w)) ∧ X = X') := by
  refine ru_of (w2 := _) rfl (by decide) [some (vl ((u : Nat) : Int)), none, some (vl ((d : Nat) : Int)), none, some (vi w)] (fun _ => rfl) (fun _ => Nat.le_of_ble_eq_true rfl) ?_
  intro K hKn hC hR
  refine ev_iload (pc := 0) hC dX6_partOf_0 rfl ?_
  refine ev_if_ne (pc := 2) hC 9 dX6_partOf_2 (by decide) (by omega) (fun c2 => ?_) (fun c2 => ?_)
  · refine ev_lload_n (pc := 9) hC dX6_partOf_9 rfl ?_
    refine ev_lload_n (pc := 10) hC dX6_partOf_10 rfl ?_
    refine ev_lload_n (pc := 11) hC dX6_partOf_11 rfl ?_
    refine ev_callS (pc := 12) (as := [vl ((u : Nat) : Int), vl ((d : Nat) : Int)]) (rest := [vl ((d : Nat) : Int)]) hC gX6_partOf_X6_divisor mtX6_divisor dX6_partOf_12 (ru_X6_divisor u d (by omega) (by omega)) (by decide) (by rfl) (Nat.le_of_ble_eq_true rfl) rfl (fun v12 X12 h12 => ?_)
    obtain ⟨rfl, rfl⟩ := h12
    show Ev K 15 [some (vl ((u : Nat) : Int)), none, some (vl ((d : Nat) : Int)), none, some (vi w)] [vl ((Nat.gcd u d : Nat) : Int), vl ((d : Nat) : Int)] X
    have hgp12 : 0 < Nat.gcd u d := Nat.gcd_pos_of_pos_right _ (by omega)
    have hgl12 : Nat.gcd u d ≤ d := Nat.gcd_le_right _ (by omega)
    refine ev_ldiv (pc := 15) hC ((d / Nat.gcd u d : Nat) : Int) (rfl) (by omega) (by omega) dX6_partOf_15 ?_
    exact ev_lreturn (pc := 16) hC hR dX6_partOf_16 (⟨rl (prt_eq hd.1 (by omega) d (Or.inr ⟨c2, rfl⟩)), rfl⟩)
  · refine ev_lload_n (pc := 5) hC dX6_partOf_5 rfl ?_
    refine ev_goto (pc := 6) hC 10 dX6_partOf_6 (by decide) ?_
    refine ev_lload_n (pc := 10) hC dX6_partOf_10 rfl ?_
    refine ev_lload_n (pc := 11) hC dX6_partOf_11 rfl ?_
    refine ev_callS (pc := 12) (as := [vl ((u : Nat) : Int), vl ((d : Nat) : Int)]) (rest := [vl ((u : Nat) : Int)]) hC gX6_partOf_X6_divisor mtX6_divisor dX6_partOf_12 (ru_X6_divisor u d (by omega) (by omega)) (by decide) (by rfl) (Nat.le_of_ble_eq_true rfl) rfl (fun v12 X12 h12 => ?_)
    obtain ⟨rfl, rfl⟩ := h12
    show Ev K 15 [some (vl ((u : Nat) : Int)), none, some (vl ((d : Nat) : Int)), none, some (vi w)] [vl ((Nat.gcd u d : Nat) : Int), vl ((u : Nat) : Int)] X
    have hgp12 : 0 < Nat.gcd u d := Nat.gcd_pos_of_pos_right _ (by omega)
    have hgl12 : Nat.gcd u d ≤ d := Nat.gcd_le_right _ (by omega)
    refine ev_ldiv (pc := 15) hC ((u / Nat.gcd u d : Nat) : Int) (rfl) (by omega) (by omega) dX6_partOf_15 ?_
    exact ev_lreturn (pc := 16) hC hR dX6_partOf_16 (⟨rl (prt_eq hd.1 (by omega) u (Or.inl ⟨c2, rfl⟩)), rfl⟩)
theorem mtX6_mean : MT yX6_mean wsX6_mean cX6_mean 5 (some .long) 1 := ⟨⟨_, rfl⟩, by decide, by decide, by decide +kernel⟩
set_option maxRecDepth 100000 in
set_option maxHeartbeats 4000000 in
theorem ru_X6_mean {X : Mem} {V : St} (hV : mI X V) (x0 : Int) (hx0 : -2147483648 ≤ x0 ∧ x0 ≤ 2147483647) : Ru yX6_mean wsX6_mean 2 53 [.ref 29, vi x0] X (fun v X' => v = some (vl (sp26 x0 V).1) ∧ mI X' (sp26 x0 V).2 ∧ frM X X') := by
  refine ru_of (w2 := _) rfl (by decide) [some (.ref 29), some (vi x0), none, none, none] (fun _ => rfl) (fun _ => Nat.le_of_ble_eq_true rfl) ?_
  intro K hKn hC hR
  have wX6 : ∀ w ∈ u_ws RX6 TX6 25, w ∈ wsX6_mean := by decide +kernel
  have f52 : Fl K RX6 52 6 6 := fl_of hC RX6 TX6 25 rfl (by decide) wX6 (show Cond.fieldLink RX6 52 "PicnicOfSomebodyModel" "people" "I" ∈ _ by decide +kernel)
  have f25 : Fl K RX6 25 6 5 := fl_of hC RX6 TX6 25 rfl (by decide) wX6 (show Cond.fieldLink RX6 25 "PicnicOfSomebodyModel" "belief" "[I" ∈ _ by decide +kernel)
  obtain ⟨A, B, hh, T, n, W, rs, C⟩ := V
  have hA : Rp (vM X) A := hV.1
  have hyA : A 5 1 ≤ 999 := hV.2.1
  have hB : hh = true → Rp (vK X 0) B ∧ B 5 1 ≤ 999 := hV.2.2.1
  have hi : X 29 17 = zI (b2i hh) := hV.2.2.2.1
  have hg : X 29 8 = zI ((0 : Nat) : Int) := hV.2.2.2.2.1
  have hT : TxM X T n := hV.2.2.2.2.2.1
  have hW : RwM X W rs := hV.2.2.2.2.2.2.1
  have hCn : ∀ k, k < 7 → X 30 k = zI (C k : Nat) := hV.2.2.2.2.2.2.2
  have hn8 := hA.n8
  have hn96 := hT.2.1
  have hrs := hW.2.1
  have hG : 0 < 256 := by decide
  have hI : mI X (A, B, hh, T, n, W, rs, C) := hV
  have hq1 := cdO_cases x0 2
  have hs72 := allB_le hA.ok
  refine ev_iload_n (pc := 0) hC dX6_mean_0 rfl ?_
  refine ev_iconst (pc := 1) hC dX6_mean_1 ?_
  refine ev_iconst (pc := 2) hC dX6_mean_2 ?_
  refine ev_callS (pc := 3) (as := [vi x0, vi 0, vi 1]) (rest := []) hC gX6_mean_X6_isIn mtX6_isIn dX6_mean_3 (ru_X6_isIn x0 0 1 (by omega) (by omega) (by omega)) (by decide) (by rfl) (Nat.le_of_ble_eq_true rfl) rfl (fun v3 X3 h3 => ?_)
  obtain ⟨rfl, rfl⟩ := h3
  show Ev K 6 [some (.ref 29), some (vi x0), none, none, none] [vi (b2i (decide (0 ≤ x0 ∧ x0 ≤ 1)))] X
  have hr3 := b2i_r (decide (0 ≤ x0 ∧ x0 ≤ 1))
  refine ev_if_ne (pc := 6) hC 16 dX6_mean_6 (by decide) (by omega) (fun c6 => ?_) (fun c6 => ?_)
  · have e6 := of_decide_eq_true (b2i_1 c6)
    refine ev_lconst (pc := 16) hC 0 (by decide) dX6_mean_16 ?_
    refine ev_lstore_n (pc := 17) hC dX6_mean_17 (by rw [hKn]; decide) rfl ?_
    show Ev K 18 [some (.ref 29), some (vi x0), some (vl 0), none, none] [] X
    refine ev_iconst (pc := 18) hC dX6_mean_18 ?_
    refine ev_istore (pc := 19) hC dX6_mean_19 (by rw [hKn]; decide) rfl ?_
    show Ev K 21 [some (.ref 29), some (vi x0), some (vl 0), none, some (vi 0)] [] X
    have lp21 : ∀ (fz : Nat) (i : Nat) (s : Nat), A 5 0 - i < fz → (i ≤ A 5 0) → (s = sumB i (A 4)) → Ev K 21 [some (.ref 29), some (vi x0), some (vl ((s : Nat) : Int)), none, some (vi ((i : Nat) : Int))] [] X := by
      intro fz
      induction fz with
      | zero => intro i s hfz; exact absurd hfz (Nat.not_lt_zero _)
      | succ fz ih21 =>
        intro i s hfz hi hs
        refine ev_iload (pc := 21) hC dX6_mean_21 rfl ?_
        refine ev_aload_n (pc := 23) hC dX6_mean_23 rfl ?_
        refine ev_geti (pc := 24) hC ((A 5 0 : Nat) : Int) f52 dX6_mean_24 (by decide) (by decide) (by decide) (by decide) (by decide)  (hA.mn) ?_
        refine ev_icmp_ge (pc := 27) hC 47 dX6_mean_27 (by decide) (by omega) (by omega) (fun c27 => ?_) (fun c27 => ?_)
        · have hse : s = sumB (A 5 0) (A 4) := by rw [hs, show i = A 5 0 by omega]
          refine ev_aload_n (pc := 47) hC dX6_mean_47 rfl ?_
          refine ev_geti (pc := 48) hC ((A 5 0 : Nat) : Int) f52 dX6_mean_48 (by decide) (by decide) (by decide) (by decide) (by decide)  (hA.mn) ?_
          refine ev_if_ne (pc := 51) hC 59 dX6_mean_51 (by decide) (by omega) (fun c51 => ?_) (fun c51 => ?_)
          · refine ev_lload_n (pc := 59) hC dX6_mean_59 rfl ?_
            refine ev_aload_n (pc := 60) hC dX6_mean_60 rfl ?_
            refine ev_geti (pc := 61) hC ((A 5 0 : Nat) : Int) f52 dX6_mean_61 (by decide) (by decide) (by decide) (by decide) (by decide)  (hA.mn) ?_
            refine ev_i2l (pc := 64) hC (by omega) dX6_mean_64 ?_
            refine ev_iload_n (pc := 65) hC dX6_mean_65 rfl ?_
            refine ev_callS (pc := 66) (as := [vl ((s : Nat) : Int), vl ((A 5 0 : Nat) : Int), vi x0]) (rest := []) hC gX6_mean_X6_partOf mtX6_partOf dX6_mean_66 (ru_X6_partOf s (A 5 0) x0 (by omega) (by omega) (by omega)) (by decide) (by rfl) (Nat.le_of_ble_eq_true rfl) rfl (fun v66 X66 h66 => ?_)
            obtain ⟨rfl, rfl⟩ := h66
            show Ev K 69 [some (.ref 29), some (vi x0), some (vl ((s : Nat) : Int)), none, some (vi ((i : Nat) : Int))] [vl (prt s (A 5 0) x0)] X
            exact ev_lreturn (pc := 69) hC hR dX6_mean_69 (ok_endMB (show cdO x0 2 = 0 by omega) (by rw [hse]) (mI_put hI hA hyA (frT_rf 1 X)) (frM_T (frT_rf 1 X)))
          · refine ev_iload_n (pc := 54) hC dX6_mean_54 rfl ?_
            refine ev_i2l (pc := 55) hC (by omega) dX6_mean_55 ?_
            refine ev_goto (pc := 56) hC 69 dX6_mean_56 (by decide) ?_
            exact ev_lreturn (pc := 69) hC hR dX6_mean_69 (ok_endMB (show cdO x0 2 = 0 by omega) (prt_0 (by show ((sumB (A 5 0) (A 4) : Nat) : Int) = 0; rw [show A 5 0 = 0 by omega]; rfl)) (mI_put hI hA hyA (frT_rf 1 X)) (frM_T (frT_rf 1 X)))
        · refine ev_lload_n (pc := 30) hC dX6_mean_30 rfl ?_
          refine ev_aload_n (pc := 31) hC dX6_mean_31 rfl ?_
          refine ev_getr (pc := 32) hC 35 f25 dX6_mean_32 (by decide) (by decide) (by decide) (by decide) (by decide) ?_
          refine ev_iload (pc := 35) hC dX6_mean_35 rfl ?_
          have hb37 := hA.b9 i (by omega)
          refine ev_iald (pc := 37) hC i ((A 4 i : Nat) : Int) (by decide) (by decide) (rfl) (by have := (show alen 35 = 8 from rfl); omega) (hA.m4 i (by omega)) dX6_mean_37 ?_
          refine ev_i2l (pc := 38) hC (by omega) dX6_mean_38 ?_
          refine ev_ladd (pc := 39) hC ((s + (A 4 i) : Nat) : Int) (by omega) dX6_mean_39 ?_
          refine ev_lstore_n (pc := 40) hC dX6_mean_40 (by rw [hKn]; decide) rfl ?_
          show Ev K 41 [some (.ref 29), some (vi x0), some (vl ((s + (A 4 i) : Nat) : Int)), none, some (vi ((i : Nat) : Int))] [] X
          refine ev_iinc (pc := 41) hC ((i + 1 : Nat) : Int) dX6_mean_41 rfl (by omega) (by rw [hKn]; decide) rfl ?_
          show Ev K 44 [some (.ref 29), some (vi x0), some (vl ((s + (A 4 i) : Nat) : Int)), none, some (vi ((i + 1 : Nat) : Int))] [] X
          refine ev_goto (pc := 44) hC 21 dX6_mean_44 (by decide) ?_
          exact ih21 (i + 1) (s + (A 4 i)) (by omega) (by omega) (by rw [sumB_s, ← hs])
    exact lp21 _ 0 0 (Nat.lt_succ_self _) (by omega) rfl
  · have e6 := of_decide_eq_false (b2i_0 c6)
    refine ev_aload_n (pc := 9) hC dX6_mean_9 rfl ?_
    refine ev_bipush (pc := 10) hC dX6_mean_10 (by decide) ?_
    refine ev_callV (pc := 12) (as := [vi (-2)]) (rest := []) hC gX6_mean_X6_lowest mtX6_lowest dX6_mean_12 (ru_X6_lowest2 (-2) (by omega)) (by decide) (by decide) (by decide) rfl (by rfl) (Nat.le_of_ble_eq_true rfl) rfl (fun v12 X12 h12 => ?_)
    obtain ⟨rfl, rfl⟩ := h12
    show Ev K 15 [some (.ref 29), some (vi x0), none, none, none] [vl (4000000000000000000 - (-2))] (mset X 30 (-(-2)).toNat (X 30 (-(-2)).toNat + 1))
    exact ev_lreturn (pc := 15) hC hR dX6_mean_15 (no_endMB (show cdO x0 2 = (-2) by omega) (by omega) hI)
