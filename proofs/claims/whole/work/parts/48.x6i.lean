theorem mtX6_next : MT yX6_next wsX6_next cX6_next 1 (some .int) 0 := ⟨⟨_, rfl⟩, by decide, by decide, by decide +kernel⟩
set_option maxRecDepth 100000 in
set_option maxHeartbeats 4000000 in
theorem ru_X6_next {X : Mem} {T : Nat → Nat} {n a : Nat} (hT : TxM X T n) (hat : X 29 14 = zI (a : Nat)) (ha : a ≤ 1000) : Ru yX6_next wsX6_next 0 0 [.ref 29] X (fun v X' => v = some (vi (nx T n a)) ∧ X = X') := by
  refine ru_of (w2 := _) rfl (by decide) [some (.ref 29)] (fun _ => rfl) (fun _ => Nat.le_of_ble_eq_true rfl) ?_
  intro K hKn hC hR
  have wX6 : ∀ w ∈ u_ws RX6 TX6 25, w ∈ wsX6_next := by decide +kernel
  have f77 : Fl K RX6 77 6 14 := fl_of hC RX6 TX6 25 rfl (by decide) wX6 (show Cond.fieldLink RX6 77 "PicnicOfSomebodyModel" "at" "I" ∈ _ by decide +kernel)
  have f70 : Fl K RX6 70 6 13 := fl_of hC RX6 TX6 25 rfl (by decide) wX6 (show Cond.fieldLink RX6 70 "PicnicOfSomebodyModel" "taped" "I" ∈ _ by decide +kernel)
  have f28 : Fl K RX6 28 6 9 := fl_of hC RX6 TX6 25 rfl (by decide) wX6 (show Cond.fieldLink RX6 28 "PicnicOfSomebodyModel" "tape" "[I" ∈ _ by decide +kernel)
  have hn96 := hT.2.1
  have hnx := nx_cases T n a
  refine ev_aload_n (pc := 0) hC dX6_next_0 rfl ?_
  refine ev_geti (pc := 1) hC ((a : Nat) : Int) f77 dX6_next_1 (by decide) (by decide) (by decide) (by decide) (by decide)  (hat) ?_
  refine ev_aload_n (pc := 4) hC dX6_next_4 rfl ?_
  refine ev_geti (pc := 5) hC ((n : Nat) : Int) f70 dX6_next_5 (by decide) (by decide) (by decide) (by decide) (by decide)  (hT.1) ?_
  refine ev_icmp_ge (pc := 8) hC 23 dX6_next_8 (by decide) (by omega) (by omega) (fun c8 => ?_) (fun c8 => ?_)
  · refine ev_iconst (pc := 23) hC dX6_next_23 ?_
    exact ev_ireturn (pc := 24) hC hR dX6_next_24 (⟨rv (by omega), rfl⟩)
  · refine ev_aload_n (pc := 11) hC dX6_next_11 rfl ?_
    refine ev_getr (pc := 12) hC 36 f28 dX6_next_12 (by decide) (by decide) (by decide) (by decide) (by decide) ?_
    refine ev_aload_n (pc := 15) hC dX6_next_15 rfl ?_
    refine ev_geti (pc := 16) hC ((a : Nat) : Int) f77 dX6_next_16 (by decide) (by decide) (by decide) (by decide) (by decide)  (hat) ?_
    have hT19 := (hT.2.2 a (by omega)).2
    refine ev_iald (pc := 19) hC a ((T a : Nat) : Int) (by decide) (by decide) (rfl) (by have := (show alen 36 = 96 from rfl); omega) ((hT.2.2 a (by omega)).1) dX6_next_19 ?_
    refine ev_goto (pc := 20) hC 24 dX6_next_20 (by decide) ?_
    exact ev_ireturn (pc := 24) hC hR dX6_next_24 (⟨rv (by omega), rfl⟩)
theorem mtX6_kindOf : MT yX6_kindOf wsX6_kindOf cX6_kindOf 1 (some .int) 1 := ⟨⟨_, rfl⟩, by decide, by decide, by decide +kernel⟩
set_option maxRecDepth 100000 in
set_option maxHeartbeats 4000000 in
theorem ru_X6_kindOf {X : Mem} (c z : Int) (hc : -1 ≤ c ∧ c ≤ 255) (hz : z = kindT c.toNat) (hz2 : c < 0 → z = -1) : Ru yX6_kindOf wsX6_kindOf 0 0 [vi c] X (fun v X' => v = some (vi z) ∧ X = X') := by
  refine ru_of (w2 := _) rfl (by decide) [some (vi c)] (fun _ => rfl) (fun _ => Nat.le_of_ble_eq_true rfl) ?_
  intro K hKn hC hR
  have hkc := kindT_cases c.toNat
  refine ev_iload_n (pc := 0) hC dX6_kindOf_0 rfl ?_
  refine ev_bipush (pc := 1) hC dX6_kindOf_1 (by decide) ?_
  refine ev_icmp_ne (pc := 3) hC 10 dX6_kindOf_3 (by decide) (by omega) (by omega) (fun c3 => ?_) (fun c3 => ?_)
  · refine ev_iload_n (pc := 10) hC dX6_kindOf_10 rfl ?_
    refine ev_bipush (pc := 11) hC dX6_kindOf_11 (by decide) ?_
    refine ev_icmp_ne (pc := 13) hC 20 dX6_kindOf_13 (by decide) (by omega) (by omega) (fun c13 => ?_) (fun c13 => ?_)
    · refine ev_iload_n (pc := 20) hC dX6_kindOf_20 rfl ?_
      refine ev_bipush (pc := 21) hC dX6_kindOf_21 (by decide) ?_
      refine ev_icmp_ne (pc := 23) hC 30 dX6_kindOf_23 (by decide) (by omega) (by omega) (fun c23 => ?_) (fun c23 => ?_)
      · refine ev_iload_n (pc := 30) hC dX6_kindOf_30 rfl ?_
        refine ev_bipush (pc := 31) hC dX6_kindOf_31 (by decide) ?_
        refine ev_icmp_ne (pc := 33) hC 40 dX6_kindOf_33 (by decide) (by omega) (by omega) (fun c33 => ?_) (fun c33 => ?_)
        · refine ev_iload_n (pc := 40) hC dX6_kindOf_40 rfl ?_
          refine ev_bipush (pc := 41) hC dX6_kindOf_41 (by decide) ?_
          refine ev_icmp_ne (pc := 43) hC 50 dX6_kindOf_43 (by decide) (by omega) (by omega) (fun c43 => ?_) (fun c43 => ?_)
          · refine ev_iload_n (pc := 50) hC dX6_kindOf_50 rfl ?_
            refine ev_bipush (pc := 51) hC dX6_kindOf_51 (by decide) ?_
            refine ev_icmp_ne (pc := 53) hC 60 dX6_kindOf_53 (by decide) (by omega) (by omega) (fun c53 => ?_) (fun c53 => ?_)
            · refine ev_iconst (pc := 60) hC dX6_kindOf_60 ?_
              exact ev_ireturn (pc := 61) hC hR dX6_kindOf_61 (⟨rv (by omega), rfl⟩)
            · refine ev_iconst (pc := 56) hC dX6_kindOf_56 ?_
              refine ev_goto (pc := 57) hC 61 dX6_kindOf_57 (by decide) ?_
              exact ev_ireturn (pc := 61) hC hR dX6_kindOf_61 (⟨rv (by omega), rfl⟩)
          · refine ev_iconst (pc := 46) hC dX6_kindOf_46 ?_
            refine ev_goto (pc := 47) hC 61 dX6_kindOf_47 (by decide) ?_
            exact ev_ireturn (pc := 61) hC hR dX6_kindOf_61 (⟨rv (by omega), rfl⟩)
        · refine ev_iconst (pc := 36) hC dX6_kindOf_36 ?_
          refine ev_goto (pc := 37) hC 61 dX6_kindOf_37 (by decide) ?_
          exact ev_ireturn (pc := 61) hC hR dX6_kindOf_61 (⟨rv (by omega), rfl⟩)
      · refine ev_iconst (pc := 26) hC dX6_kindOf_26 ?_
        refine ev_goto (pc := 27) hC 61 dX6_kindOf_27 (by decide) ?_
        exact ev_ireturn (pc := 61) hC hR dX6_kindOf_61 (⟨rv (by omega), rfl⟩)
    · refine ev_iconst (pc := 16) hC dX6_kindOf_16 ?_
      refine ev_goto (pc := 17) hC 61 dX6_kindOf_17 (by decide) ?_
      exact ev_ireturn (pc := 61) hC hR dX6_kindOf_61 (⟨rv (by omega), rfl⟩)
  · refine ev_iconst (pc := 6) hC dX6_kindOf_6 ?_
    refine ev_goto (pc := 7) hC 61 dX6_kindOf_7 (by decide) ?_
    exact ev_ireturn (pc := 61) hC hR dX6_kindOf_61 (⟨rv (by omega), rfl⟩)
theorem mtX6_readsDigits : MT yX6_readsDigits wsX6_readsDigits cX6_readsDigits 5 (some .boolean) 2 := ⟨⟨_, rfl⟩, by decide, by decide, by decide +kernel⟩
set_option maxRecDepth 100000 in
set_option maxHeartbeats 4000000 in
theorem ru_X6_readsDigits {X : Mem} {T : Nat → Nat} {n a : Nat} (hT : TxM X T n) (hat : X 29 14 = zI (a : Nat)) (ha : a ≤ 400) (p d : Nat) (hp : p < 192) (hd : d ≤ 2) : Ru yX6_readsDigits wsX6_readsDigits 1 22 [.ref 29, vi ((p : Nat) : Int), vi ((d : Nat) : Int)] X (fun v X' => (v = some (vi 1) ∧ (∀ i, i < d → digT T n (a + i) = true) ∧ X' = mset (mset X 29 14 (zI ((a + d : Nat) : Int))) 39 p (zI ((valT T a d : Nat) : Int))) ∨ (∃ j, j < d ∧ (∀ i, i < j → digT T n (a + i) = true) ∧ digT T n (a + j) = false ∧ v = some (vi 0) ∧ X' = mset X 29 14 (zI ((a + j : Nat) : Int)))) := by
  refine ru_of (w2 := _) rfl (by decide) [some (.ref 29), some (vi ((p : Nat) : Int)), some (vi ((d : Nat) : Int)), none, none] (fun _ => rfl) (fun _ => Nat.le_of_ble_eq_true rfl) ?_
  intro K hKn hC hR
  have wX6 : ∀ w ∈ u_ws RX6 TX6 25, w ∈ wsX6_readsDigits := by decide +kernel
  have f77 : Fl K RX6 77 6 14 := fl_of hC RX6 TX6 25 rfl (by decide) wX6 (show Cond.fieldLink RX6 77 "PicnicOfSomebodyModel" "at" "I" ∈ _ by decide +kernel)
  have f37 : Fl K RX6 37 6 12 := fl_of hC RX6 TX6 25 rfl (by decide) wX6 (show Cond.fieldLink RX6 37 "PicnicOfSomebodyModel" "told" "[I" ∈ _ by decide +kernel)
  have hn96 := hT.2.1
  refine ev_iconst (pc := 0) hC dX6_readsDigits_0 ?_
  refine ev_istore_n (pc := 1) hC dX6_readsDigits_1 (by rw [hKn]; decide) rfl ?_
  show Ev K 2 [some (.ref 29), some (vi ((p : Nat) : Int)), some (vi ((d : Nat) : Int)), some (vi 0), none] [] X
  refine ev_iconst (pc := 2) hC dX6_readsDigits_2 ?_
  refine ev_istore (pc := 3) hC dX6_readsDigits_3 (by rw [hKn]; decide) rfl ?_
  show Ev K 5 [some (.ref 29), some (vi ((p : Nat) : Int)), some (vi ((d : Nat) : Int)), some (vi 0), some (vi 0)] [] X
  have lp5 : ∀ (fz : Nat) (i : Nat) (w : Nat) (Y : Mem), d - i < fz → (i ≤ d) → (w = valT T a i) → (∀ j, j < i → digT T n (a + j) = true) → (Y = mset X 29 14 (zI ((a + i : Nat) : Int))) → (TxM Y T n) → Ev K 5 [some (.ref 29), some (vi ((p : Nat) : Int)), some (vi ((d : Nat) : Int)), some (vi ((w : Nat) : Int)), some (vi ((i : Nat) : Int))] [] Y := by
    intro fz
    induction fz with
    | zero => intro i w Y hfz; exact absurd hfz (Nat.not_lt_zero _)
    | succ fz ih5 =>
      intro i w Y hfz hi hw hok hY hTY
      have hatY : Y 29 14 = zI ((a + i : Nat) : Int) := by rw [hY, mset_eq]
      refine ev_iload (pc := 5) hC dX6_readsDigits_5 rfl ?_
      refine ev_iload_n (pc := 7) hC dX6_readsDigits_7 rfl ?_
      refine ev_icmp_ge (pc := 8) hC 56 dX6_readsDigits_8 (by decide) (by omega) (by omega) (fun c8 => ?_) (fun c8 => ?_)
      · refine ev_aload_n (pc := 56) hC dX6_readsDigits_56 rfl ?_
        refine ev_getr (pc := 57) hC 39 f37 dX6_readsDigits_57 (by decide) (by decide) (by decide) (by decide) (by decide) ?_
        refine ev_iload_n (pc := 60) hC dX6_readsDigits_60 rfl ?_
        refine ev_iload_n (pc := 61) hC dX6_readsDigits_61 rfl ?_
        refine ev_iast (pc := 62) hC p (by decide) (by decide) (rfl) (by have := (show alen 39 = 192 from rfl); omega) dX6_readsDigits_62 ?_
        refine ev_iconst (pc := 63) hC dX6_readsDigits_63 ?_
        exact ev_zreturn (pc := 64) hC hR dX6_readsDigits_64 (by decide) (Or.inl ⟨rfl, fun k hk => hok k (by omega), by rw [hY, hw, show i = d by omega]⟩)
      · refine ev_aload_n (pc := 11) hC dX6_readsDigits_11 rfl ?_
        refine ev_callV (pc := 12) (as := []) (rest := []) hC gX6_readsDigits_X6_next mtX6_next dX6_readsDigits_12 (ru_X6_next hTY hatY (by omega)) (by decide) (by decide) (by decide) rfl (by rfl) (Nat.le_of_ble_eq_true rfl) rfl (fun v12 X12 h12 => ?_)
        obtain ⟨rfl, rfl⟩ := h12
        show Ev K 15 [some (.ref 29), some (vi ((p : Nat) : Int)), some (vi ((d : Nat) : Int)), some (vi ((w : Nat) : Int)), some (vi ((i : Nat) : Int))] [vi (nx T n (a + i))] Y
        have hnx12 := nx_cases T n (a + i)
        have hnr12 := nx_r hTY (a + i)
        refine ev_bipush (pc := 15) hC dX6_readsDigits_15 (by decide) ?_
        refine ev_bipush (pc := 17) hC dX6_readsDigits_17 (by decide) ?_
        refine ev_callS (pc := 19) (as := [vi (nx T n (a + i)), vi 48, vi 57]) (rest := []) hC gX6_readsDigits_X6_isIn mtX6_isIn dX6_readsDigits_19 (ru_X6_isIn (nx T n (a + i)) 48 57 (by omega) (by omega) (by omega)) (by decide) (by rfl) (Nat.le_of_ble_eq_true rfl) rfl (fun v19 X19 h19 => ?_)
        obtain ⟨rfl, rfl⟩ := h19
        show Ev K 22 [some (.ref 29), some (vi ((p : Nat) : Int)), some (vi ((d : Nat) : Int)), some (vi ((w : Nat) : Int)), some (vi ((i : Nat) : Int))] [vi (b2i (decide (48 ≤ (nx T n (a + i)) ∧ (nx T n (a + i)) ≤ 57)))] Y
        have hr19 := b2i_r (decide (48 ≤ (nx T n (a + i)) ∧ (nx T n (a + i)) ≤ 57))
        refine ev_if_ne (pc := 22) hC 27 dX6_readsDigits_22 (by decide) (by omega) (fun c22 => ?_) (fun c22 => ?_)
        · have e22 := of_decide_eq_true (b2i_1 c22)
          refine ev_bipush (pc := 27) hC dX6_readsDigits_27 (by decide) ?_
          refine ev_iload_n (pc := 29) hC dX6_readsDigits_29 rfl ?_
          refine ev_imul (pc := 30) hC ((10 * w : Nat) : Int) (by omega) dX6_readsDigits_30 ?_
          refine ev_aload_n (pc := 31) hC dX6_readsDigits_31 rfl ?_
          refine ev_callV (pc := 32) (as := []) (rest := [vi ((10 * w : Nat) : Int)]) hC gX6_readsDigits_X6_next mtX6_next dX6_readsDigits_32 (ru_X6_next hTY hatY (by omega)) (by decide) (by decide) (by decide) rfl (by rfl) (Nat.le_of_ble_eq_true rfl) rfl (fun v32 X32 h32 => ?_)
          obtain ⟨rfl, rfl⟩ := h32
          show Ev K 35 [some (.ref 29), some (vi ((p : Nat) : Int)), some (vi ((d : Nat) : Int)), some (vi ((w : Nat) : Int)), some (vi ((i : Nat) : Int))] [vi (nx T n (a + i)), vi ((10 * w : Nat) : Int)] Y
          have hnx32 := nx_cases T n (a + i)
          have hnr32 := nx_r hTY (a + i)
          refine ev_iadd (pc := 35) hC ((10 * w + T (a + i) : Nat) : Int) (by omega) dX6_readsDigits_35 ?_
          refine ev_bipush (pc := 36) hC dX6_readsDigits_36 (by decide) ?_
          refine ev_isub (pc := 38) hC ((10 * w + T (a + i) - 48 : Nat) : Int) (by omega) dX6_readsDigits_38 ?_
          refine ev_istore_n (pc := 39) hC dX6_readsDigits_39 (by rw [hKn]; decide) rfl ?_
          show Ev K 40 [some (.ref 29), some (vi ((p : Nat) : Int)), some (vi ((d : Nat) : Int)), some (vi ((10 * w + T (a + i) - 48 : Nat) : Int)), some (vi ((i : Nat) : Int))] [] Y
          refine ev_aload_n (pc := 40) hC dX6_readsDigits_40 rfl ?_
          refine ev_dup (pc := 41) hC rfl dX6_readsDigits_41 ?_
          refine ev_geti (pc := 42) hC (((a + i) : Nat) : Int) f77 dX6_readsDigits_42 (by decide) (by decide) (by decide) (by decide) (by decide)  (hatY) ?_
          refine ev_iconst (pc := 45) hC dX6_readsDigits_45 ?_
          refine ev_iadd (pc := 46) hC (((a + i) + 1 : Nat) : Int) (by omega) dX6_readsDigits_46 ?_
          refine ev_puti (pc := 47) hC f77 fpX6_14 dX6_readsDigits_47 (by decide) (by decide) (by decide) (by decide) (by decide) (rfl) (rfl) ?_
          refine ev_iinc (pc := 50) hC ((i + 1 : Nat) : Int) dX6_readsDigits_50 rfl (by omega) (by rw [hKn]; decide) rfl ?_
          show Ev K 53 [some (.ref 29), some (vi ((p : Nat) : Int)), some (vi ((d : Nat) : Int)), some (vi ((10 * w + T (a + i) - 48 : Nat) : Int)), some (vi ((i + 1 : Nat) : Int))] [] (mset Y 29 14 (zI (((a + i) + 1 : Nat) : Int)))
          refine ev_goto (pc := 53) hC 5 dX6_readsDigits_53 (by decide) ?_
          exact ih5 (i + 1) (10 * w + T (a + i) - 48) (mset Y 29 14 (zI (((a + i) + 1 : Nat) : Int))) (by omega) (by omega) (by rw [valT_s, ← hw]; omega) (yesstep (P := fun j => digT T n (a + j)) hok (dig_t e22)) (by rw [hY, mset_mset]; rfl) (hTY.set_at (Or.inl ⟨rfl, by omega⟩))
        · have e22 := of_decide_eq_false (b2i_0 c22)
          refine ev_iconst (pc := 25) hC dX6_readsDigits_25 ?_
          exact ev_zreturn (pc := 26) hC hR dX6_readsDigits_26 (by decide) (Or.inr ⟨i, by omega, hok, dig_f e22, rfl, hY⟩)
  exact lp5 _ 0 0 X (Nat.lt_succ_self _) (by omega) rfl (fun j hj => absurd hj (Nat.not_lt_zero j)) (mset_self hat).symm hT
