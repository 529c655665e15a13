theorem mtX1_isBeliefOf : MT yX1_isBeliefOf wsX1_isBeliefOf cX1_isBeliefOf 4 (some .boolean) 2 := ⟨⟨_, rfl⟩, by decide, by decide, by decide +kernel⟩
set_option maxRecDepth 100000 in
set_option maxHeartbeats 4000000 in
theorem ru_X1_isBeliefOf {X : Mem} {B : Sl} (hB : Rp (vC X 3) B) {W : Nat → Nat} {rs : Nat} (hW : RWp X W rs) (p : Nat) (hp : p < B 5 0) : Ru yX1_isBeliefOf wsX1_isBeliefOf 4 117 [.ref 4, vi ((p : Nat) : Int), .ref 7] X (fun v X' => v = some (vi (b2i (allN rs (soB W p B)))) ∧ frS 3 X X') := by
  refine ru_of (w2 := _) rfl (by decide) [some (.ref 4), some (vi ((p : Nat) : Int)), some (.ref 7), none] (fun _ => rfl) (fun _ => Nat.le_of_ble_eq_true rfl) ?_
  intro K hKn hC hR
  have wX2 : ∀ w ∈ u_ws RX2 TX2 2, w ∈ wsX1_isBeliefOf := by decide +kernel
  have f117 : Fl K RX1 117 2 1 := fl_of hC RX2 TX2 2 rfl (by decide) wX2 (show Cond.fieldLink RX1 117 "PicnicOfSomebody$Row" "size" "I" ∈ _ by decide +kernel)
  have f122 : Fl K RX1 122 2 0 := fl_of hC RX2 TX2 2 rfl (by decide) wX2 (show Cond.fieldLink RX1 122 "PicnicOfSomebody$Row" "numbers" "[I" ∈ _ by decide +kernel)
  have wX1 : ∀ w ∈ u_ws RX1 TX1 2, w ∈ wsX1_isBeliefOf := by decide +kernel
  have f15 : Fl K RX1 15 1 1 := fl_of hC RX1 TX1 2 rfl (by decide) wX1 (show Cond.fieldLink RX1 15 "PicnicOfSomebody$Mind" "thought" "LPicnicOfSomebody$Slope;" ∈ _ by decide +kernel)
  have wX3 : ∀ w ∈ u_ws RX3 TX3 8, w ∈ wsX1_isBeliefOf := by decide +kernel
  have f60 : Fl K RX1 60 3 4 := fl_of hC RX3 TX3 8 rfl (by decide) wX3 (show Cond.fieldLink RX1 60 "PicnicOfSomebody$Slope" "beliefs" "[I" ∈ _ by decide +kernel)
  have hn8 := hB.n8
  have hrs0 := hW.2.1
  refine ev_iconst (pc := 0) hC dX1_isBeliefOf_0 ?_
  refine ev_istore_n (pc := 1) hC dX1_isBeliefOf_1 (by rw [hKn]; decide) rfl ?_
  show Ev K 2 [some (.ref 4), some (vi ((p : Nat) : Int)), some (.ref 7), some (vi 0)] [] X
  have lp2 : ∀ (fz : Nat) (i : Nat) (Y : Mem), rs - i < fz → (i ≤ rs) → (∀ k, k < i → (soB W p B) k = true) → (Rp (vC Y 3) (goN 0 i B)) → (frS 3 X Y) → Ev K 2 [some (.ref 4), some (vi ((p : Nat) : Int)), some (.ref 7), some (vi ((i : Nat) : Int))] [] Y := by
    intro fz
    induction fz with
    | zero => intro i Y hfz; exact absurd hfz (Nat.not_lt_zero _)
    | succ fz ih2 =>
      intro i Y hfz hi hall h3 hF
      have hWY := hW.fr3 hF
      have hrs := hWY.2.1
      have h38 := h3.n8
      have hgn := goN_n 0 B i
      refine ev_iload_n (pc := 2) hC dX1_isBeliefOf_2 rfl ?_
      refine ev_aload_n (pc := 3) hC dX1_isBeliefOf_3 rfl ?_
      refine ev_geti (pc := 4) hC ((rs : Nat) : Int) f117 dX1_isBeliefOf_4 (by decide) (by decide) (by decide) (by decide) (by decide)  (hWY.1) ?_
      refine ev_icmp_ge (pc := 7) hC 45 dX1_isBeliefOf_7 (by decide) (by omega) (by omega) (fun c7 => ?_) (fun c7 => ?_)
      · refine ev_iconst (pc := 45) hC dX1_isBeliefOf_45 ?_
        exact ev_zreturn (pc := 46) hC hR dX1_isBeliefOf_46 (by decide) (⟨rv (b2iT (allN_t (fun k hk => hall k (by omega)))), hF⟩)
      · refine ev_aload_n (pc := 10) hC dX1_isBeliefOf_10 rfl ?_
        refine ev_getr (pc := 11) hC 10 f122 dX1_isBeliefOf_11 (by decide) (by decide) (by decide) (by decide) (by decide) ?_
        refine ev_iload_n (pc := 14) hC dX1_isBeliefOf_14 rfl ?_
        have hbW15 := (hWY.2.2 i (by omega)).2
        refine ev_iald (pc := 15) hC i ((W i : Nat) : Int) (by decide) (by decide) (rfl) (by have := (show alen 10 = 16 from rfl); omega) ((hWY.2.2 i (by omega)).1) dX1_isBeliefOf_15 ?_
        refine ev_aload_n (pc := 16) hC dX1_isBeliefOf_16 rfl ?_
        refine ev_getr (pc := 17) hC 3 f15 dX1_isBeliefOf_17 (by decide) (by decide) (by decide) (by decide) (by decide) ?_
        refine ev_getr (pc := 20) hC 27 f60 dX1_isBeliefOf_20 (by decide) (by decide) (by decide) (by decide) (by decide) ?_
        refine ev_iload_n (pc := 23) hC dX1_isBeliefOf_23 rfl ?_
        have hb24 := h3.b9 p (by omega)
        refine ev_iald (pc := 24) hC p (((goN 0 i B) 4 p : Nat) : Int) (by decide) (by decide) (rfl) (by have := (show alen 27 = 8 from rfl); omega) (h3.c4 p (by omega)) dX1_isBeliefOf_24 ?_
        refine ev_icmp_eq (pc := 25) hC 30 dX1_isBeliefOf_25 (by decide) (by omega) (by omega) (fun c25 => ?_) (fun c25 => ?_)
        · have e : (soB W p B) i = true := decide_eq_true (by omega)
          refine ev_aload_n (pc := 30) hC dX1_isBeliefOf_30 rfl ?_
          refine ev_getr (pc := 31) hC 3 f15 dX1_isBeliefOf_31 (by decide) (by decide) (by decide) (by decide) (by decide) ?_
          refine ev_iconst (pc := 34) hC dX1_isBeliefOf_34 ?_
          refine ev_callV (pc := 35) (as := [vi 0]) (rest := []) hC gX1_isBeliefOf_X3_passYear mtX3_passYear dX1_isBeliefOf_35 (ru_X3_passYear (s := 3) spl3 h3 false) (by decide) (by decide) (by decide) rfl (by rfl) (Nat.le_of_ble_eq_true rfl) rfl (fun v35 X35 h35 => ?_)
          obtain ⟨rfl, hA35, hF35⟩ := h35
          show Ev K 38 [some (.ref 4), some (vi ((p : Nat) : Int)), some (.ref 7), some (vi ((i : Nat) : Int))] [vi (b2i (orB ((goN 0 i B) 5 0) (chP 0 (goN 0 i B))))] X35
          have hr35 := b2i_r (orB ((goN 0 i B) 5 0) (chP 0 (goN 0 i B)))
          have hFr35 := frS_tr hF hF35
          refine ev_pop (pc := 38) hC rfl dX1_isBeliefOf_38 ?_
          refine ev_iinc (pc := 39) hC ((i + 1 : Nat) : Int) dX1_isBeliefOf_39 rfl (by omega) (by rw [hKn]; decide) rfl ?_
          show Ev K 42 [some (.ref 4), some (vi ((p : Nat) : Int)), some (.ref 7), some (vi ((i + 1 : Nat) : Int))] [] X35
          refine ev_goto (pc := 42) hC 2 dX1_isBeliefOf_42 (by decide) ?_
          exact ih2 (i + 1) X35 (by omega) (by omega) (yesstep hall e) hA35 hFr35
        · have e : (soB W p B) i = false := decide_eq_false (by omega)
          refine ev_iconst (pc := 28) hC dX1_isBeliefOf_28 ?_
          exact ev_zreturn (pc := 29) hC hR dX1_isBeliefOf_29 (by decide) (⟨rv (b2iF (allN_f (by omega) e)), hF⟩)
  exact lp2 _ 0 X (Nat.lt_succ_self _) (by omega) (fun k hk => absurd hk (Nat.not_lt_zero k)) hB (frS_rf 3 X)
theorem mtX1_isHowManyBelieve : MT yX1_isHowManyBelieve wsX1_isHowManyBelieve cX1_isHowManyBelieve 3 (some .boolean) 1 := ⟨⟨_, rfl⟩, by decide, by decide, by decide +kernel⟩
set_option maxRecDepth 100000 in
set_option maxHeartbeats 4000000 in
theorem ru_X1_isHowManyBelieve {X : Mem} {B : Sl} (hB : Rp (vC X 3) B) {W : Nat → Nat} {rs : Nat} (hW : RWp X W rs) : Ru yX1_isHowManyBelieve wsX1_isHowManyBelieve 4 117 [.ref 4, .ref 7] X (fun v X' => v = some (vi (b2i (allN rs (hmP W B)))) ∧ frS 3 X X') := by
  refine ru_of (w2 := _) rfl (by decide) [some (.ref 4), some (.ref 7), none] (fun _ => rfl) (fun _ => Nat.le_of_ble_eq_true rfl) ?_
  intro K hKn hC hR
  have wX2 : ∀ w ∈ u_ws RX2 TX2 2, w ∈ wsX1_isHowManyBelieve := by decide +kernel
  have f117 : Fl K RX1 117 2 1 := fl_of hC RX2 TX2 2 rfl (by decide) wX2 (show Cond.fieldLink RX1 117 "PicnicOfSomebody$Row" "size" "I" ∈ _ by decide +kernel)
  have f122 : Fl K RX1 122 2 0 := fl_of hC RX2 TX2 2 rfl (by decide) wX2 (show Cond.fieldLink RX1 122 "PicnicOfSomebody$Row" "numbers" "[I" ∈ _ by decide +kernel)
  have wX1 : ∀ w ∈ u_ws RX1 TX1 2, w ∈ wsX1_isHowManyBelieve := by decide +kernel
  have f15 : Fl K RX1 15 1 1 := fl_of hC RX1 TX1 2 rfl (by decide) wX1 (show Cond.fieldLink RX1 15 "PicnicOfSomebody$Mind" "thought" "LPicnicOfSomebody$Slope;" ∈ _ by decide +kernel)
  have hn8 := hB.n8
  have hrs0 := hW.2.1
  refine ev_iconst (pc := 0) hC dX1_isHowManyBelieve_0 ?_
  refine ev_istore_n (pc := 1) hC dX1_isHowManyBelieve_1 (by rw [hKn]; decide) rfl ?_
  show Ev K 2 [some (.ref 4), some (.ref 7), some (vi 0)] [] X
  have lp2 : ∀ (fz : Nat) (i : Nat) (Y : Mem), rs - i < fz → (i ≤ rs) → (∀ k, k < i → (hmP W B) k = true) → (Rp (vC Y 3) (goN 0 i B)) → (frS 3 X Y) → Ev K 2 [some (.ref 4), some (.ref 7), some (vi ((i : Nat) : Int))] [] Y := by
    intro fz
    induction fz with
    | zero => intro i Y hfz; exact absurd hfz (Nat.not_lt_zero _)
    | succ fz ih2 =>
      intro i Y hfz hi hall h3 hF
      have hWY := hW.fr3 hF
      have hrs := hWY.2.1
      have h38 := h3.n8
      refine ev_iload_n (pc := 2) hC dX1_isHowManyBelieve_2 rfl ?_
      refine ev_aload_n (pc := 3) hC dX1_isHowManyBelieve_3 rfl ?_
      refine ev_geti (pc := 4) hC ((rs : Nat) : Int) f117 dX1_isHowManyBelieve_4 (by decide) (by decide) (by decide) (by decide) (by decide)  (hWY.1) ?_
      refine ev_icmp_ge (pc := 7) hC 43 dX1_isHowManyBelieve_7 (by decide) (by omega) (by omega) (fun c7 => ?_) (fun c7 => ?_)
      · refine ev_iconst (pc := 43) hC dX1_isHowManyBelieve_43 ?_
        exact ev_zreturn (pc := 44) hC hR dX1_isHowManyBelieve_44 (by decide) (⟨rv (b2iT (allN_t (fun k hk => hall k (by omega)))), hF⟩)
      · refine ev_aload_n (pc := 10) hC dX1_isHowManyBelieve_10 rfl ?_
        refine ev_getr (pc := 11) hC 10 f122 dX1_isHowManyBelieve_11 (by decide) (by decide) (by decide) (by decide) (by decide) ?_
        refine ev_iload_n (pc := 14) hC dX1_isHowManyBelieve_14 rfl ?_
        have hbW15 := (hWY.2.2 i (by omega)).2
        refine ev_iald (pc := 15) hC i ((W i : Nat) : Int) (by decide) (by decide) (rfl) (by have := (show alen 10 = 16 from rfl); omega) ((hWY.2.2 i (by omega)).1) dX1_isHowManyBelieve_15 ?_
        refine ev_aload_n (pc := 16) hC dX1_isHowManyBelieve_16 rfl ?_
        refine ev_getr (pc := 17) hC 3 f15 dX1_isHowManyBelieve_17 (by decide) (by decide) (by decide) (by decide) (by decide) ?_
        refine ev_callV (pc := 20) (as := []) (rest := [vi ((W i : Nat) : Int)]) hC gX1_isHowManyBelieve_X3_believers mtX3_believers dX1_isHowManyBelieve_20 (ru_X3_believers (s := 3) spl3 h3) (by decide) (by decide) (by decide) rfl (by rfl) (Nat.le_of_ble_eq_true rfl) rfl (fun v20 X20 h20 => ?_)
        obtain ⟨rfl, rfl⟩ := h20
        show Ev K 23 [some (.ref 4), some (.ref 7), some (vi ((i : Nat) : Int))] [vi ((bcnt 0 (goN 0 i B) : Nat) : Int), vi ((W i : Nat) : Int)] Y
        have hl20 := bcnt_le 0 (goN 0 i B)
        refine ev_icmp_eq (pc := 23) hC 28 dX1_isHowManyBelieve_23 (by decide) (by omega) (by omega) (fun c23 => ?_) (fun c23 => ?_)
        · have e : (hmP W B) i = true := decide_eq_true (by omega)
          refine ev_aload_n (pc := 28) hC dX1_isHowManyBelieve_28 rfl ?_
          refine ev_getr (pc := 29) hC 3 f15 dX1_isHowManyBelieve_29 (by decide) (by decide) (by decide) (by decide) (by decide) ?_
          refine ev_iconst (pc := 32) hC dX1_isHowManyBelieve_32 ?_
          refine ev_callV (pc := 33) (as := [vi 0]) (rest := []) hC gX1_isHowManyBelieve_X3_passYear mtX3_passYear dX1_isHowManyBelieve_33 (ru_X3_passYear (s := 3) spl3 h3 false) (by decide) (by decide) (by decide) rfl (by rfl) (Nat.le_of_ble_eq_true rfl) rfl (fun v33 X33 h33 => ?_)
          obtain ⟨rfl, hA33, hF33⟩ := h33
          show Ev K 36 [some (.ref 4), some (.ref 7), some (vi ((i : Nat) : Int))] [vi (b2i (orB ((goN 0 i B) 5 0) (chP 0 (goN 0 i B))))] X33
          have hr33 := b2i_r (orB ((goN 0 i B) 5 0) (chP 0 (goN 0 i B)))
          have hFr33 := frS_tr hF hF33
          refine ev_pop (pc := 36) hC rfl dX1_isHowManyBelieve_36 ?_
          refine ev_iinc (pc := 37) hC ((i + 1 : Nat) : Int) dX1_isHowManyBelieve_37 rfl (by omega) (by rw [hKn]; decide) rfl ?_
          show Ev K 40 [some (.ref 4), some (.ref 7), some (vi ((i + 1 : Nat) : Int))] [] X33
          refine ev_goto (pc := 40) hC 2 dX1_isHowManyBelieve_40 (by decide) ?_
          exact ih2 (i + 1) X33 (by omega) (by omega) (yesstep hall e) hA33 hFr33
        · have e : (hmP W B) i = false := decide_eq_false (by omega)
          refine ev_iconst (pc := 26) hC dX1_isHowManyBelieve_26 ?_
          exact ev_zreturn (pc := 27) hC hR dX1_isHowManyBelieve_27 (by decide) (⟨rv (b2iF (allN_f (by omega) e)), hF⟩)
  exact lp2 _ 0 X (Nat.lt_succ_self _) (by omega) (fun k hk => absurd hk (Nat.not_lt_zero k)) hB (frS_rf 3 X)
theorem mtX1_kindsBy : MT yX1_kindsBy wsX1_kindsBy cX1_kindsBy 5 (some .int) 2 := ⟨⟨_, rfl⟩, by decide, by decide, by decide +kernel⟩
set_option maxRecDepth 100000 in
set_option maxHeartbeats 4000000 in
theorem ru_X1_kindsBy {X : Mem} {A : Sl} (hA : Rp (vC X 1) A) {W : Nat → Nat} {rs : Nat} (hW : RWp X W rs) (p : Nat) (hp : p < A 5 0) : Ru yX1_kindsBy wsX1_kindsBy 5 140 [.ref 4, .ref 7, vi ((p : Nat) : Int)] X (fun v X' => v = some (vi (bitsB 6 (kdP W rs 1 p A))) ∧ frS 3 X X') := by
  refine ru_of (w2 := _) rfl (by decide) [some (.ref 4), some (.ref 7), some (vi ((p : Nat) : Int)), none, none] (fun _ => rfl) (fun _ => Nat.le_of_ble_eq_true rfl) ?_
  intro K hKn hC hR
  have wX3 : ∀ w ∈ u_ws RX3 TX3 8, w ∈ wsX1_kindsBy := by decide +kernel
  have f82 : Fl K RX1 82 3 1 := fl_of hC RX3 TX3 8 rfl (by decide) wX3 (show Cond.fieldLink RX1 82 "PicnicOfSomebody$Slope" "kinds" "[I" ∈ _ by decide +kernel)
  have hn8 := hA.n8
  have hrs0 := hW.2.1
  refine ev_iconst (pc := 0) hC dX1_kindsBy_0 ?_
  refine ev_istore_n (pc := 1) hC dX1_kindsBy_1 (by rw [hKn]; decide) rfl ?_
  show Ev K 2 [some (.ref 4), some (.ref 7), some (vi ((p : Nat) : Int)), some (vi 0), none] [] X
  refine ev_iconst (pc := 2) hC dX1_kindsBy_2 ?_
  refine ev_istore (pc := 3) hC dX1_kindsBy_3 (by rw [hKn]; decide) rfl ?_
  show Ev K 5 [some (.ref 4), some (.ref 7), some (vi ((p : Nat) : Int)), some (vi 0), some (vi 0)] [] X
  have lp5 : ∀ (fz : Nat) (i : Nat) (b : Nat) (Y : Mem), 6 - i < fz → (i ≤ 6) → (b = bitsB i (kdP W rs 1 p A)) → (frS 3 X Y) → Ev K 5 [some (.ref 4), some (.ref 7), some (vi ((p : Nat) : Int)), some (vi ((b : Nat) : Int)), some (vi ((i : Nat) : Int))] [] Y := by
    intro fz
    induction fz with
    | zero => intro i b Y hfz; exact absurd hfz (Nat.not_lt_zero _)
    | succ fz ih5 =>
      intro i b Y hfz hi hb hF
      have hWY := hW.fr3 hF
      have hrs := hWY.2.1
      have hN := hA.fr31 hF
      refine ev_iload (pc := 5) hC dX1_kindsBy_5 rfl ?_
      refine ev_bipush (pc := 7) hC dX1_kindsBy_7 (by decide) ?_
      refine ev_icmp_ge (pc := 9) hC 45 dX1_kindsBy_9 (by decide) (by omega) (by omega) (fun c9 => ?_) (fun c9 => ?_)
      · refine ev_iload_n (pc := 45) hC dX1_kindsBy_45 rfl ?_
        exact ev_ireturn (pc := 46) hC hR dX1_kindsBy_46 (⟨rv (by rw [hb, show i = 6 by omega]), hF⟩)
      · refine ev_aload_n (pc := 12) hC dX1_kindsBy_12 rfl ?_
        refine ev_callV (pc := 13) (as := []) (rest := []) hC gX1_kindsBy_X1_think mtX1_think dX1_kindsBy_13 (ru_X1_think hN) (by decide) (by decide) (by decide) rfl (by rfl) (Nat.le_of_ble_eq_true rfl) rfl (fun v13 X13 h13 => ?_)
        obtain ⟨rfl, hA13, hF13⟩ := h13
        show Ev K 16 [some (.ref 4), some (.ref 7), some (vi ((p : Nat) : Int)), some (vi ((b : Nat) : Int)), some (vi ((i : Nat) : Int))] [.ref 3] X13
        have hN113 := hN.fr31 hF13
        have hFr13 := frS_tr hF hF13
        have hWk13 := hWY.fr3 hF13
        refine ev_getr (pc := 16) hC 24 f82 dX1_kindsBy_16 (by decide) (by decide) (by decide) (by decide) (by decide) ?_
        refine ev_iload_n (pc := 19) hC dX1_kindsBy_19 rfl ?_
        refine ev_iload (pc := 20) hC dX1_kindsBy_20 rfl ?_
        refine ev_iast (pc := 22) hC p (by decide) (by decide) (rfl) (by have := (show alen 24 = 8 from rfl); omega) dX1_kindsBy_22 ?_
        have hA22 : Rp (vC (mset X13 24 p (zI ((i : Nat) : Int))) 3) (setR A 1 p i) := Rp.setC1 (s := 3) (v := i) hA13 spl3 (by omega)
        have hFr22 := frS_set (s := 3) (r := 1) (i := p) (v := zI ((i : Nat) : Int)) hFr13 (by omega)
        have hN122 := hA.fr31 hFr22
        have hWw22 := hW.fr3 hFr22
        refine ev_aload_n (pc := 23) hC dX1_kindsBy_23 rfl ?_
        refine ev_iload_n (pc := 24) hC dX1_kindsBy_24 rfl ?_
        refine ev_aload_n (pc := 25) hC dX1_kindsBy_25 rfl ?_
        refine ev_callV (pc := 26) (as := [vi ((p : Nat) : Int), .ref 7]) (rest := []) hC gX1_kindsBy_X1_isBeliefOf mtX1_isBeliefOf dX1_kindsBy_26 (ru_X1_isBeliefOf hA22 hWw22 p (by first | omega | exact hp)) (by decide) (by decide) (by decide) rfl (by rfl) (Nat.le_of_ble_eq_true rfl) rfl (fun v26 X26 h26 => ?_)
        obtain ⟨rfl, hF26⟩ := h26
        show Ev K 29 [some (.ref 4), some (.ref 7), some (vi ((p : Nat) : Int)), some (vi ((b : Nat) : Int)), some (vi ((i : Nat) : Int))] [vi (b2i (allN rs (soB W p (setR A 1 p i))))] X26
        have hr26 := b2i_r (allN rs (soB W p (setR A 1 p i)))
        have hWn26 := hWw22.fr3 hF26
        have hN126 := hN122.fr31 hF26
        have hFr26 := frS_tr hFr22 hF26
        refine ev_if_eq (pc := 29) hC 39 dX1_kindsBy_29 (by decide) (by omega) (fun c29 => ?_) (fun c29 => ?_)
        · have e : kdP W rs 1 p A i = false := b2i_0 c29
          refine ev_iinc (pc := 39) hC ((i + 1 : Nat) : Int) dX1_kindsBy_39 rfl (by omega) (by rw [hKn]; decide) rfl ?_
          show Ev K 42 [some (.ref 4), some (.ref 7), some (vi ((p : Nat) : Int)), some (vi ((b : Nat) : Int)), some (vi ((i + 1 : Nat) : Int))] [] X26
          refine ev_goto (pc := 42) hC 5 dX1_kindsBy_42 (by decide) ?_
          exact ih5 (i + 1) b X26 (by omega) (by omega) (bitsB_f e hb) hFr26
        · have e : kdP W rs 1 p A i = true := b2i_1 c29
          refine ev_iload_n (pc := 32) hC dX1_kindsBy_32 rfl ?_
          refine ev_iconst (pc := 33) hC dX1_kindsBy_33 ?_
          refine ev_iload (pc := 34) hC dX1_kindsBy_34 rfl ?_
          refine ev_ishl (pc := 36) hC ((2 ^ i : Nat) : Int) (zI_shl1 i (by omega)) dX1_kindsBy_36 ?_
          refine ev_ior (pc := 37) hC ((b ||| (2 ^ i) : Nat) : Int) (zI_or b (2 ^ i)) dX1_kindsBy_37 ?_
          refine ev_istore_n (pc := 38) hC dX1_kindsBy_38 (by rw [hKn]; decide) rfl ?_
          show Ev K 39 [some (.ref 4), some (.ref 7), some (vi ((p : Nat) : Int)), some (vi ((b ||| (2 ^ i) : Nat) : Int)), some (vi ((i : Nat) : Int))] [] X26
          refine ev_iinc (pc := 39) hC ((i + 1 : Nat) : Int) dX1_kindsBy_39 rfl (by omega) (by rw [hKn]; decide) rfl ?_
          show Ev K 42 [some (.ref 4), some (.ref 7), some (vi ((p : Nat) : Int)), some (vi ((b ||| (2 ^ i) : Nat) : Int)), some (vi ((i + 1 : Nat) : Int))] [] X26
          refine ev_goto (pc := 42) hC 5 dX1_kindsBy_42 (by decide) ?_
          exact ih5 (i + 1) (b ||| (2 ^ i)) X26 (by omega) (by omega) (bitsB_t e hb) hFr26
  exact lp5 _ 0 0 X (Nat.lt_succ_self _) (by omega) rfl (frS_rf 3 X)
theorem mtX1_figuresBy : MT yX1_figuresBy wsX1_figuresBy cX1_figuresBy 5 (some .int) 2 := ⟨⟨_, rfl⟩, by decide, by decide, by decide +kernel⟩
set_option maxRecDepth 100000 in
set_option maxHeartbeats 4000000 in
theorem ru_X1_figuresBy {X : Mem} {A : Sl} (hA : Rp (vC X 1) A) {W : Nat → Nat} {rs : Nat} (hW : RWp X W rs) (p : Nat) (hp : p < A 5 0) : Ru yX1_figuresBy wsX1_figuresBy 5 140 [.ref 4, .ref 7, vi ((p : Nat) : Int)] X (fun v X' => v = some (vi (bitsB 10 (kdP W rs 2 p A))) ∧ frS 3 X X') := by
  refine ru_of (w2 := _) rfl (by decide) [some (.ref 4), some (.ref 7), some (vi ((p : Nat) : Int)), none, none] (fun _ => rfl) (fun _ => Nat.le_of_ble_eq_true rfl) ?_
  intro K hKn hC hR
  have wX3 : ∀ w ∈ u_ws RX3 TX3 8, w ∈ wsX1_figuresBy := by decide +kernel
  have f99 : Fl K RX1 99 3 2 := fl_of hC RX3 TX3 8 rfl (by decide) wX3 (show Cond.fieldLink RX1 99 "PicnicOfSomebody$Slope" "figures" "[I" ∈ _ by decide +kernel)
  have hn8 := hA.n8
  have hrs0 := hW.2.1
  refine ev_iconst (pc := 0) hC dX1_figuresBy_0 ?_
  refine ev_istore_n (pc := 1) hC dX1_figuresBy_1 (by rw [hKn]; decide) rfl ?_
  show Ev K 2 [some (.ref 4), some (.ref 7), some (vi ((p : Nat) : Int)), some (vi 0), none] [] X
  refine ev_iconst (pc := 2) hC dX1_figuresBy_2 ?_
  refine ev_istore (pc := 3) hC dX1_figuresBy_3 (by rw [hKn]; decide) rfl ?_
  show Ev K 5 [some (.ref 4), some (.ref 7), some (vi ((p : Nat) : Int)), some (vi 0), some (vi 0)] [] X
  have lp5 : ∀ (fz : Nat) (i : Nat) (b : Nat) (Y : Mem), 10 - i < fz → (i ≤ 10) → (b = bitsB i (kdP W rs 2 p A)) → (frS 3 X Y) → Ev K 5 [some (.ref 4), some (.ref 7), some (vi ((p : Nat) : Int)), some (vi ((b : Nat) : Int)), some (vi ((i : Nat) : Int))] [] Y := by
    intro fz
    induction fz with
    | zero => intro i b Y hfz; exact absurd hfz (Nat.not_lt_zero _)
    | succ fz ih5 =>
      intro i b Y hfz hi hb hF
      have hWY := hW.fr3 hF
      have hrs := hWY.2.1
      have hN := hA.fr31 hF
      refine ev_iload (pc := 5) hC dX1_figuresBy_5 rfl ?_
      refine ev_bipush (pc := 7) hC dX1_figuresBy_7 (by decide) ?_
      refine ev_icmp_gt (pc := 9) hC 45 dX1_figuresBy_9 (by decide) (by omega) (by omega) (fun c9 => ?_) (fun c9 => ?_)
      · refine ev_iload_n (pc := 45) hC dX1_figuresBy_45 rfl ?_
        exact ev_ireturn (pc := 46) hC hR dX1_figuresBy_46 (⟨rv (by rw [hb, show i = 10 by omega]), hF⟩)
      · refine ev_aload_n (pc := 12) hC dX1_figuresBy_12 rfl ?_
        refine ev_callV (pc := 13) (as := []) (rest := []) hC gX1_figuresBy_X1_think mtX1_think dX1_figuresBy_13 (ru_X1_think hN) (by decide) (by decide) (by decide) rfl (by rfl) (Nat.le_of_ble_eq_true rfl) rfl (fun v13 X13 h13 => ?_)
        obtain ⟨rfl, hA13, hF13⟩ := h13
        show Ev K 16 [some (.ref 4), some (.ref 7), some (vi ((p : Nat) : Int)), some (vi ((b : Nat) : Int)), some (vi ((i : Nat) : Int))] [.ref 3] X13
        have hN113 := hN.fr31 hF13
        have hFr13 := frS_tr hF hF13
        have hWk13 := hWY.fr3 hF13
        refine ev_getr (pc := 16) hC 25 f99 dX1_figuresBy_16 (by decide) (by decide) (by decide) (by decide) (by decide) ?_
        refine ev_iload_n (pc := 19) hC dX1_figuresBy_19 rfl ?_
        refine ev_iload (pc := 20) hC dX1_figuresBy_20 rfl ?_
        refine ev_iast (pc := 22) hC p (by decide) (by decide) (rfl) (by have := (show alen 25 = 8 from rfl); omega) dX1_figuresBy_22 ?_
        have hA22 : Rp (vC (mset X13 25 p (zI ((i : Nat) : Int))) 3) (setR A 2 p i) := Rp.setC2 (s := 3) (v := i) hA13 spl3 (by omega)
        have hFr22 := frS_set (s := 3) (r := 2) (i := p) (v := zI ((i : Nat) : Int)) hFr13 (by omega)
        have hN122 := hA.fr31 hFr22
        have hWw22 := hW.fr3 hFr22
        refine ev_aload_n (pc := 23) hC dX1_figuresBy_23 rfl ?_
        refine ev_iload_n (pc := 24) hC dX1_figuresBy_24 rfl ?_
        refine ev_aload_n (pc := 25) hC dX1_figuresBy_25 rfl ?_
        refine ev_callV (pc := 26) (as := [vi ((p : Nat) : Int), .ref 7]) (rest := []) hC gX1_figuresBy_X1_isBeliefOf mtX1_isBeliefOf dX1_figuresBy_26 (ru_X1_isBeliefOf hA22 hWw22 p (by first | omega | exact hp)) (by decide) (by decide) (by decide) rfl (by rfl) (Nat.le_of_ble_eq_true rfl) rfl (fun v26 X26 h26 => ?_)
        obtain ⟨rfl, hF26⟩ := h26
        show Ev K 29 [some (.ref 4), some (.ref 7), some (vi ((p : Nat) : Int)), some (vi ((b : Nat) : Int)), some (vi ((i : Nat) : Int))] [vi (b2i (allN rs (soB W p (setR A 2 p i))))] X26
        have hr26 := b2i_r (allN rs (soB W p (setR A 2 p i)))
        have hWn26 := hWw22.fr3 hF26
        have hN126 := hN122.fr31 hF26
        have hFr26 := frS_tr hFr22 hF26
        refine ev_if_eq (pc := 29) hC 39 dX1_figuresBy_29 (by decide) (by omega) (fun c29 => ?_) (fun c29 => ?_)
        · have e : kdP W rs 2 p A i = false := b2i_0 c29
          refine ev_iinc (pc := 39) hC ((i + 1 : Nat) : Int) dX1_figuresBy_39 rfl (by omega) (by rw [hKn]; decide) rfl ?_
          show Ev K 42 [some (.ref 4), some (.ref 7), some (vi ((p : Nat) : Int)), some (vi ((b : Nat) : Int)), some (vi ((i + 1 : Nat) : Int))] [] X26
          refine ev_goto (pc := 42) hC 5 dX1_figuresBy_42 (by decide) ?_
          exact ih5 (i + 1) b X26 (by omega) (by omega) (bitsB_f e hb) hFr26
        · have e : kdP W rs 2 p A i = true := b2i_1 c29
          refine ev_iload_n (pc := 32) hC dX1_figuresBy_32 rfl ?_
          refine ev_iconst (pc := 33) hC dX1_figuresBy_33 ?_
          refine ev_iload (pc := 34) hC dX1_figuresBy_34 rfl ?_
          refine ev_ishl (pc := 36) hC ((2 ^ i : Nat) : Int) (zI_shl1 i (by omega)) dX1_figuresBy_36 ?_
          refine ev_ior (pc := 37) hC ((b ||| (2 ^ i) : Nat) : Int) (zI_or b (2 ^ i)) dX1_figuresBy_37 ?_
          refine ev_istore_n (pc := 38) hC dX1_figuresBy_38 (by rw [hKn]; decide) rfl ?_
          show Ev K 39 [some (.ref 4), some (.ref 7), some (vi ((p : Nat) : Int)), some (vi ((b ||| (2 ^ i) : Nat) : Int)), some (vi ((i : Nat) : Int))] [] X26
          refine ev_iinc (pc := 39) hC ((i + 1 : Nat) : Int) dX1_figuresBy_39 rfl (by omega) (by rw [hKn]; decide) rfl ?_
          show Ev K 42 [some (.ref 4), some (.ref 7), some (vi ((p : Nat) : Int)), some (vi ((b ||| (2 ^ i) : Nat) : Int)), some (vi ((i + 1 : Nat) : Int))] [] X26
          refine ev_goto (pc := 42) hC 5 dX1_figuresBy_42 (by decide) ?_
          exact ih5 (i + 1) (b ||| (2 ^ i)) X26 (by omega) (by omega) (bitsB_t e hb) hFr26
  exact lp5 _ 0 0 X (Nat.lt_succ_self _) (by omega) rfl (frS_rf 3 X)
theorem mtX1_missingBy : MT yX1_missingBy wsX1_missingBy cX1_missingBy 4 (some .int) 1 := ⟨⟨_, rfl⟩, by decide, by decide, by decide +kernel⟩
set_option maxRecDepth 100000 in
set_option maxHeartbeats 4000000 in
theorem ru_X1_missingBy {X : Mem} {A : Sl} (hA : Rp (vC X 1) A) {W : Nat → Nat} {rs : Nat} (hW : RWp X W rs) : Ru yX1_missingBy wsX1_missingBy 5 139 [.ref 4, .ref 7] X (fun v X' => v = some (vi (bitsB (A 5 0) (whP W rs A))) ∧ frS 3 X X') := by
  refine ru_of (w2 := _) rfl (by decide) [some (.ref 4), some (.ref 7), none, none] (fun _ => rfl) (fun _ => Nat.le_of_ble_eq_true rfl) ?_
  intro K hKn hC hR
  have wX1 : ∀ w ∈ u_ws RX1 TX1 2, w ∈ wsX1_missingBy := by decide +kernel
  have f9 : Fl K RX1 9 1 0 := fl_of hC RX1 TX1 2 rfl (by decide) wX1 (show Cond.fieldLink RX1 9 "PicnicOfSomebody$Mind" "now" "LPicnicOfSomebody$Slope;" ∈ _ by decide +kernel)
  have wX3 : ∀ w ∈ u_ws RX3 TX3 8, w ∈ wsX1_missingBy := by decide +kernel
  have f28 : Fl K RX1 28 3 6 := fl_of hC RX3 TX3 8 rfl (by decide) wX3 (show Cond.fieldLink RX1 28 "PicnicOfSomebody$Slope" "people" "I" ∈ _ by decide +kernel)
  have hn8 := hA.n8
  have hrs0 := hW.2.1
  refine ev_iconst (pc := 0) hC dX1_missingBy_0 ?_
  refine ev_istore_n (pc := 1) hC dX1_missingBy_1 (by rw [hKn]; decide) rfl ?_
  show Ev K 2 [some (.ref 4), some (.ref 7), some (vi 0), none] [] X
  refine ev_iconst (pc := 2) hC dX1_missingBy_2 ?_
  refine ev_istore_n (pc := 3) hC dX1_missingBy_3 (by rw [hKn]; decide) rfl ?_
  show Ev K 4 [some (.ref 4), some (.ref 7), some (vi 0), some (vi 0)] [] X
  have lp4 : ∀ (fz : Nat) (i : Nat) (b : Nat) (Y : Mem), A 5 0 - i < fz → (i ≤ A 5 0) → (b = bitsB i (whP W rs A)) → (frS 3 X Y) → Ev K 4 [some (.ref 4), some (.ref 7), some (vi ((b : Nat) : Int)), some (vi ((i : Nat) : Int))] [] Y := by
    intro fz
    induction fz with
    | zero => intro i b Y hfz; exact absurd hfz (Nat.not_lt_zero _)
    | succ fz ih4 =>
      intro i b Y hfz hi hb hF
      have hWY := hW.fr3 hF
      have hrs := hWY.2.1
      have hN := hA.fr31 hF
      refine ev_iload_n (pc := 4) hC dX1_missingBy_4 rfl ?_
      refine ev_aload_n (pc := 5) hC dX1_missingBy_5 rfl ?_
      refine ev_getr (pc := 6) hC 1 f9 dX1_missingBy_6 (by decide) (by decide) (by decide) (by decide) (by decide) ?_
      refine ev_geti (pc := 9) hC ((A 5 0 : Nat) : Int) f28 dX1_missingBy_9 (by decide) (by decide) (by decide) (by decide) (by decide)  (hN.cn) ?_
      refine ev_icmp_ge (pc := 12) hC 45 dX1_missingBy_12 (by decide) (by omega) (by omega) (fun c12 => ?_) (fun c12 => ?_)
      · refine ev_iload_n (pc := 45) hC dX1_missingBy_45 rfl ?_
        exact ev_ireturn (pc := 46) hC hR dX1_missingBy_46 (⟨rv (by rw [hb, show i = A 5 0 by omega]), hF⟩)
      · refine ev_aload_n (pc := 15) hC dX1_missingBy_15 rfl ?_
        refine ev_callV (pc := 16) (as := []) (rest := []) hC gX1_missingBy_X1_think mtX1_think dX1_missingBy_16 (ru_X1_think hN) (by decide) (by decide) (by decide) rfl (by rfl) (Nat.le_of_ble_eq_true rfl) rfl (fun v16 X16 h16 => ?_)
        obtain ⟨rfl, hA16, hF16⟩ := h16
        show Ev K 19 [some (.ref 4), some (.ref 7), some (vi ((b : Nat) : Int)), some (vi ((i : Nat) : Int))] [.ref 3] X16
        have hN116 := hN.fr31 hF16
        have hFr16 := frS_tr hF hF16
        have hWk16 := hWY.fr3 hF16
        have hp2 : 2 ^ i < 256 := pow_lt8 (by omega)
        refine ev_iconst (pc := 19) hC dX1_missingBy_19 ?_
        refine ev_iload_n (pc := 20) hC dX1_missingBy_20 rfl ?_
        refine ev_ishl (pc := 21) hC ((2 ^ i : Nat) : Int) (zI_shl1 i (by omega)) dX1_missingBy_21 ?_
        refine ev_callV (pc := 22) (as := [vi ((2 ^ i : Nat) : Int)]) (rest := []) hC gX1_missingBy_X3_dropAll mtX3_dropAll dX1_missingBy_22 (ru_X3_dropAll (s := 3) spl3 hA16 (2 ^ i) (by omega)) (by decide) (by decide) (by decide) rfl (by rfl) (Nat.le_of_ble_eq_true rfl) rfl (fun v22 X22 h22 => ?_)
        obtain ⟨rfl, hA22, hF22⟩ := h22
        show Ev K 25 [some (.ref 4), some (.ref 7), some (vi ((b : Nat) : Int)), some (vi ((i : Nat) : Int))] [] X22
        have hn22 := hA22.n8
        have hN122 := hN116.fr31 hF22
        have hFr22 := frS_tr hFr16 hF22
        have hWk22 := hWk16.fr3 hF22
        refine ev_aload_n (pc := 25) hC dX1_missingBy_25 rfl ?_
        refine ev_aload_n (pc := 26) hC dX1_missingBy_26 rfl ?_
        refine ev_callV (pc := 27) (as := [.ref 7]) (rest := []) hC gX1_missingBy_X1_isHowManyBelieve mtX1_isHowManyBelieve dX1_missingBy_27 (ru_X1_isHowManyBelieve hA22 hWk22 ) (by decide) (by decide) (by decide) rfl (by rfl) (Nat.le_of_ble_eq_true rfl) rfl (fun v27 X27 h27 => ?_)
        obtain ⟨rfl, hF27⟩ := h27
        show Ev K 30 [some (.ref 4), some (.ref 7), some (vi ((b : Nat) : Int)), some (vi ((i : Nat) : Int))] [vi (b2i (allN rs (hmP W (dropA (2 ^ i) A))))] X27
        have hr27 := b2i_r (allN rs (hmP W (dropA (2 ^ i) A)))
        have hWn27 := hWk22.fr3 hF27
        have hN127 := hN122.fr31 hF27
        have hFr27 := frS_tr hFr22 hF27
        refine ev_if_eq (pc := 30) hC 39 dX1_missingBy_30 (by decide) (by omega) (fun c30 => ?_) (fun c30 => ?_)
        · have e : whP W rs A i = false := b2i_0 c30
          refine ev_iinc (pc := 39) hC ((i + 1 : Nat) : Int) dX1_missingBy_39 rfl (by omega) (by rw [hKn]; decide) rfl ?_
          show Ev K 42 [some (.ref 4), some (.ref 7), some (vi ((b : Nat) : Int)), some (vi ((i + 1 : Nat) : Int))] [] X27
          refine ev_goto (pc := 42) hC 4 dX1_missingBy_42 (by decide) ?_
          exact ih4 (i + 1) b X27 (by omega) (by omega) (bitsB_f e hb) hFr27
        · have e : whP W rs A i = true := b2i_1 c30
          refine ev_iload_n (pc := 33) hC dX1_missingBy_33 rfl ?_
          refine ev_iconst (pc := 34) hC dX1_missingBy_34 ?_
          refine ev_iload_n (pc := 35) hC dX1_missingBy_35 rfl ?_
          refine ev_ishl (pc := 36) hC ((2 ^ i : Nat) : Int) (zI_shl1 i (by omega)) dX1_missingBy_36 ?_
          refine ev_ior (pc := 37) hC ((b ||| (2 ^ i) : Nat) : Int) (zI_or b (2 ^ i)) dX1_missingBy_37 ?_
          refine ev_istore_n (pc := 38) hC dX1_missingBy_38 (by rw [hKn]; decide) rfl ?_
          show Ev K 39 [some (.ref 4), some (.ref 7), some (vi ((b ||| (2 ^ i) : Nat) : Int)), some (vi ((i : Nat) : Int))] [] X27
          refine ev_iinc (pc := 39) hC ((i + 1 : Nat) : Int) dX1_missingBy_39 rfl (by omega) (by rw [hKn]; decide) rfl ?_
          show Ev K 42 [some (.ref 4), some (.ref 7), some (vi ((b ||| (2 ^ i) : Nat) : Int)), some (vi ((i + 1 : Nat) : Int))] [] X27
          refine ev_goto (pc := 42) hC 4 dX1_missingBy_42 (by decide) ?_
          exact ih4 (i + 1) (b ||| (2 ^ i)) X27 (by omega) (by omega) (bitsB_t e hb) hFr27
  exact lp4 _ 0 0 X (Nat.lt_succ_self _) (by omega) rfl (frS_rf 3 X)
theorem mtX1_firstWrongPlace : MT yX1_firstWrongPlace wsX1_firstWrongPlace cX1_firstWrongPlace 3 (some .int) 1 := ⟨⟨_, rfl⟩, by decide, by decide, by decide +kernel⟩
set_option maxRecDepth 100000 in
set_option maxHeartbeats 4000000 in
theorem ru_X1_firstWrongPlace {X : Mem} {A : Sl} (hA : Rp (vC X 1) A) {W : Nat → Nat} {rs : Nat} (hW : RWp X W rs) : Ru yX1_firstWrongPlace wsX1_firstWrongPlace 4 117 [.ref 4, .ref 7] X (fun v X' => v = some (vi (firstB (jdP W A) rs)) ∧ frS 3 X X') := by
  refine ru_of (w2 := _) rfl (by decide) [some (.ref 4), some (.ref 7), none] (fun _ => rfl) (fun _ => Nat.le_of_ble_eq_true rfl) ?_
  intro K hKn hC hR
  have wX2 : ∀ w ∈ u_ws RX2 TX2 2, w ∈ wsX1_firstWrongPlace := by decide +kernel
  have f117 : Fl K RX1 117 2 1 := fl_of hC RX2 TX2 2 rfl (by decide) wX2 (show Cond.fieldLink RX1 117 "PicnicOfSomebody$Row" "size" "I" ∈ _ by decide +kernel)
  have f122 : Fl K RX1 122 2 0 := fl_of hC RX2 TX2 2 rfl (by decide) wX2 (show Cond.fieldLink RX1 122 "PicnicOfSomebody$Row" "numbers" "[I" ∈ _ by decide +kernel)
  have wX1 : ∀ w ∈ u_ws RX1 TX1 2, w ∈ wsX1_firstWrongPlace := by decide +kernel
  have f15 : Fl K RX1 15 1 1 := fl_of hC RX1 TX1 2 rfl (by decide) wX1 (show Cond.fieldLink RX1 15 "PicnicOfSomebody$Mind" "thought" "LPicnicOfSomebody$Slope;" ∈ _ by decide +kernel)
  have hn8 := hA.n8
  have hrs0 := hW.2.1
  refine ev_aload_n (pc := 0) hC dX1_firstWrongPlace_0 rfl ?_
  refine ev_callV (pc := 1) (as := []) (rest := []) hC gX1_firstWrongPlace_X1_think mtX1_think dX1_firstWrongPlace_1 (ru_X1_think hA) (by decide) (by decide) (by decide) rfl (by rfl) (Nat.le_of_ble_eq_true rfl) rfl (fun v1 X1 h1 => ?_)
  obtain ⟨rfl, hA1, hF1⟩ := h1
  show Ev K 4 [some (.ref 4), some (.ref 7), none] [.ref 3] X1
  have hN11 := hA.fr31 hF1
  have hFr1 := frS_tr (frS_rf 3 X) hF1
  have hWk1 := hW.fr3 hF1
  refine ev_pop (pc := 4) hC rfl dX1_firstWrongPlace_4 ?_
  refine ev_iconst (pc := 5) hC dX1_firstWrongPlace_5 ?_
  refine ev_istore_n (pc := 6) hC dX1_firstWrongPlace_6 (by rw [hKn]; decide) rfl ?_
  show Ev K 7 [some (.ref 4), some (.ref 7), some (vi 0)] [] X1
  have lp7 : ∀ (fz : Nat) (i : Nat) (Y : Mem), rs - i < fz → (i ≤ rs) → (∀ k, k < i → jdP W A k = false) → (Rp (vC Y 3) (goN 0 i A)) → (frS 3 X Y) → Ev K 7 [some (.ref 4), some (.ref 7), some (vi ((i : Nat) : Int))] [] Y := by
    intro fz
    induction fz with
    | zero => intro i Y hfz; exact absurd hfz (Nat.not_lt_zero _)
    | succ fz ih7 =>
      intro i Y hfz hi hno h3 hF
      have hWY := hW.fr3 hF
      have hrs := hWY.2.1
      have hN := hA.fr31 hF
      have h38 := h3.n8
      refine ev_iload_n (pc := 7) hC dX1_firstWrongPlace_7 rfl ?_
      refine ev_aload_n (pc := 8) hC dX1_firstWrongPlace_8 rfl ?_
      refine ev_geti (pc := 9) hC ((rs : Nat) : Int) f117 dX1_firstWrongPlace_9 (by decide) (by decide) (by decide) (by decide) (by decide)  (hWY.1) ?_
      refine ev_icmp_ge (pc := 12) hC 48 dX1_firstWrongPlace_12 (by decide) (by omega) (by omega) (fun c12 => ?_) (fun c12 => ?_)
      · refine ev_bipush (pc := 48) hC dX1_firstWrongPlace_48 (by decide) ?_
        exact ev_ireturn (pc := 50) hC hR dX1_firstWrongPlace_50 (⟨rv (firstB_none (fun k hk => hno k (by omega))).symm, hF⟩)
      · refine ev_aload_n (pc := 15) hC dX1_firstWrongPlace_15 rfl ?_
        refine ev_getr (pc := 16) hC 10 f122 dX1_firstWrongPlace_16 (by decide) (by decide) (by decide) (by decide) (by decide) ?_
        refine ev_iload_n (pc := 19) hC dX1_firstWrongPlace_19 rfl ?_
        have hbW20 := (hWY.2.2 i (by omega)).2
        refine ev_iald (pc := 20) hC i ((W i : Nat) : Int) (by decide) (by decide) (rfl) (by have := (show alen 10 = 16 from rfl); omega) ((hWY.2.2 i (by omega)).1) dX1_firstWrongPlace_20 ?_
        refine ev_aload_n (pc := 21) hC dX1_firstWrongPlace_21 rfl ?_
        refine ev_getr (pc := 22) hC 3 f15 dX1_firstWrongPlace_22 (by decide) (by decide) (by decide) (by decide) (by decide) ?_
        refine ev_callV (pc := 25) (as := []) (rest := [vi ((W i : Nat) : Int)]) hC gX1_firstWrongPlace_X3_hollow mtX3_hollow dX1_firstWrongPlace_25 (ru_X3_hollow (s := 3) spl3 h3) (by decide) (by decide) (by decide) rfl (by rfl) (Nat.le_of_ble_eq_true rfl) rfl (fun v25 X25 h25 => ?_)
        obtain ⟨rfl, rfl⟩ := h25
        show Ev K 28 [some (.ref 4), some (.ref 7), some (vi ((i : Nat) : Int))] [vi ((here (goN 0 i A) : Nat) : Int), vi ((W i : Nat) : Int)] Y
        have hh25 := here_lt (goN 0 i A)
        refine ev_icmp_eq (pc := 28) hC 33 dX1_firstWrongPlace_28 (by decide) (by omega) (by omega) (fun c28 => ?_) (fun c28 => ?_)
        · have e : jdP W A i = false := decide_eq_false (fun z => z (by omega))
          refine ev_aload_n (pc := 33) hC dX1_firstWrongPlace_33 rfl ?_
          refine ev_getr (pc := 34) hC 3 f15 dX1_firstWrongPlace_34 (by decide) (by decide) (by decide) (by decide) (by decide) ?_
          refine ev_iconst (pc := 37) hC dX1_firstWrongPlace_37 ?_
          refine ev_callV (pc := 38) (as := [vi 0]) (rest := []) hC gX1_firstWrongPlace_X3_passYear mtX3_passYear dX1_firstWrongPlace_38 (ru_X3_passYear (s := 3) spl3 h3 false) (by decide) (by decide) (by decide) rfl (by rfl) (Nat.le_of_ble_eq_true rfl) rfl (fun v38 X38 h38 => ?_)
          obtain ⟨rfl, hA38, hF38⟩ := h38
          show Ev K 41 [some (.ref 4), some (.ref 7), some (vi ((i : Nat) : Int))] [vi (b2i (orB ((goN 0 i A) 5 0) (chP 0 (goN 0 i A))))] X38
          have hr38 := b2i_r (orB ((goN 0 i A) 5 0) (chP 0 (goN 0 i A)))
          have hN138 := hN.fr31 hF38
          have hFr38 := frS_tr hF hF38
          refine ev_pop (pc := 41) hC rfl dX1_firstWrongPlace_41 ?_
          refine ev_iinc (pc := 42) hC ((i + 1 : Nat) : Int) dX1_firstWrongPlace_42 rfl (by omega) (by rw [hKn]; decide) rfl ?_
          show Ev K 45 [some (.ref 4), some (.ref 7), some (vi ((i + 1 : Nat) : Int))] [] X38
          refine ev_goto (pc := 45) hC 7 dX1_firstWrongPlace_45 (by decide) ?_
          exact ih7 (i + 1) X38 (by omega) (by omega) (nostep hno e) hA38 hFr38
        · have e : jdP W A i = true := decide_eq_true (by omega)
          refine ev_iload_n (pc := 31) hC dX1_firstWrongPlace_31 rfl ?_
          exact ev_ireturn (pc := 32) hC hR dX1_firstWrongPlace_32 (⟨rv (firstB_hit hno e (by omega)).symm, hF⟩)
  exact lp7 _ 0 X1 (Nat.lt_succ_self _) (by omega) (fun k hk => absurd hk (Nat.not_lt_zero k)) hA1 hFr1
theorem mtX1_stirred : MT yX1_stirred wsX1_stirred cX1_stirred 1 (some .int) 1 := ⟨⟨_, rfl⟩, by decide, by decide, by decide +kernel⟩
set_option maxRecDepth 100000 in
set_option maxHeartbeats 4000000 in
theorem ru_X1_stirred {X : Mem} (z : Int) : Ru yX1_stirred wsX1_stirred 0 0 [vi z] X (fun v X' => v = some (vi (stir z)) ∧ X = X') := by
  refine ru_of (w2 := _) rfl (by decide) [some (vi z)] (fun _ => rfl) (fun _ => Nat.le_of_ble_eq_true rfl) ?_
  intro K hKn hC hR
  refine ev_iload_n (pc := 0) hC dX1_stirred_0 rfl ?_
  refine ev_ldc (pc := 1) hC 1664525 (show Cond.constant RX1 138 (1664525) ∈ _ by decide +kernel) (by decide) dX1_stirred_1 ?_
  refine ev_imul (pc := 3) hC (z * 1664525) (rfl) dX1_stirred_3 ?_
  refine ev_ldc (pc := 4) hC 1013904223 (show Cond.constant RX1 139 (1013904223) ∈ _ by decide +kernel) (by decide) dX1_stirred_4 ?_
  refine ev_iadd (pc := 6) hC ((z * 1664525) + 1013904223) (rfl) dX1_stirred_6 ?_
  exact ev_ireturn (pc := 7) hC hR dX1_stirred_7 (⟨rfl, rfl⟩)
theorem mtX1_drawn : MT yX1_drawn wsX1_drawn cX1_drawn 3 (some .int) 2 := ⟨⟨_, rfl⟩, by decide, by decide, by decide +kernel⟩
set_option maxRecDepth 100000 in
set_option maxHeartbeats 4000000 in
theorem ru_X1_drawn {X : Mem} (z : Int) (m : Nat) (hm : 0 < m ∧ m ≤ 100) : Ru yX1_drawn wsX1_drawn 0 0 [vi z, vi ((m : Nat) : Int)] X (fun v X' => v = some (vi (drawI z m)) ∧ X = X') := by
  refine ru_of (w2 := _) rfl (by decide) [some (vi z), some (vi ((m : Nat) : Int)), none] (fun _ => rfl) (fun _ => Nat.le_of_ble_eq_true rfl) ?_
  intro K hKn hC hR
  refine ev_iload_n (pc := 0) hC dX1_drawn_0 rfl ?_
  refine ev_ldc (pc := 1) hC 2147483647 (show Cond.constant RX1 140 (2147483647) ∈ _ by decide +kernel) (by decide) dX1_drawn_1 ?_
  refine ev_iand (pc := 3) hC (((z % 2147483648).toNat : Nat) : Int) (zI_mask z) dX1_drawn_3 ?_
  have hml := mask_le z
  refine ev_sipush (pc := 4) hC dX1_drawn_4 (by decide) ?_
  refine ev_idiv (pc := 7) hC ((((z % 2147483648).toNat) / 256 : Nat) : Int) (by omega) (by omega) (by omega) dX1_drawn_7 ?_
  refine ev_istore_n (pc := 8) hC dX1_drawn_8 (by rw [hKn]; decide) rfl ?_
  show Ev K 9 [some (vi z), some (vi ((m : Nat) : Int)), some (vi ((((z % 2147483648).toNat) / 256 : Nat) : Int))] [] X
  refine ev_iload_n (pc := 9) hC dX1_drawn_9 rfl ?_
  refine ev_if_le (pc := 10) hC 19 dX1_drawn_10 (by decide) (by omega) (fun c10 => ?_) (fun c10 => ?_)
  · exact absurd c10 (by omega)
  · refine ev_iload_n (pc := 13) hC dX1_drawn_13 rfl ?_
    refine ev_iload_n (pc := 14) hC dX1_drawn_14 rfl ?_
    refine ev_irem (pc := 15) hC (((z % 2147483648).toNat / 256 % m : Nat) : Int) ((Int.natCast_emod _ _).symm) (by omega) (by omega) dX1_drawn_15 ?_
    refine ev_goto (pc := 16) hC 20 dX1_drawn_16 (by decide) ?_
    exact ev_ireturn (pc := 20) hC hR dX1_drawn_20 (⟨rfl, rfl⟩)
theorem mtX1_allByLot : MT yX1_allByLot wsX1_allByLot cX1_allByLot 8 (some .int) 3 := ⟨⟨_, rfl⟩, by decide, by decide, by decide +kernel⟩
set_option maxRecDepth 100000 in
set_option maxHeartbeats 4000000 in
theorem ru_X1_allByLot {X : Mem} {A : Sl} (hA : Rp (vC X 1) A) (n : Nat) (z wt : Int) (hn : n ≤ 20) (hwt : wt = 0 ∨ wt = 1) : Ru yX1_allByLot wsX1_allByLot 5 139 [.ref 4, vi ((n : Nat) : Int), vi z, vi wt] X (fun v X' => v = some (vi (lotT A z wt n)) ∧ frS 3 X X') := by
  refine ru_of (w2 := _) rfl (by decide) [some (.ref 4), some (vi ((n : Nat) : Int)), some (vi z), some (vi wt), none, none, none, none] (fun _ => rfl) (fun _ => Nat.le_of_ble_eq_true rfl) ?_
  intro K hKn hC hR
  have wX1 : ∀ w ∈ u_ws RX1 TX1 2, w ∈ wsX1_allByLot := by decide +kernel
  have f15 : Fl K RX1 15 1 1 := fl_of hC RX1 TX1 2 rfl (by decide) wX1 (show Cond.fieldLink RX1 15 "PicnicOfSomebody$Mind" "thought" "LPicnicOfSomebody$Slope;" ∈ _ by decide +kernel)
  have wX3 : ∀ w ∈ u_ws RX3 TX3 8, w ∈ wsX1_allByLot := by decide +kernel
  have f28 : Fl K RX1 28 3 6 := fl_of hC RX3 TX3 8 rfl (by decide) wX3 (show Cond.fieldLink RX1 28 "PicnicOfSomebody$Slope" "people" "I" ∈ _ by decide +kernel)
  have f79 : Fl K RX1 79 3 3 := fl_of hC RX3 TX3 8 rfl (by decide) wX3 (show Cond.fieldLink RX1 79 "PicnicOfSomebody$Slope" "cells" "[I" ∈ _ by decide +kernel)
  have f60 : Fl K RX1 60 3 4 := fl_of hC RX3 TX3 8 rfl (by decide) wX3 (show Cond.fieldLink RX1 60 "PicnicOfSomebody$Slope" "beliefs" "[I" ∈ _ by decide +kernel)
  have hn8 := hA.n8
  refine ev_iconst (pc := 0) hC dX1_allByLot_0 ?_
  refine ev_istore (pc := 1) hC dX1_allByLot_1 (by rw [hKn]; decide) rfl ?_
  show Ev K 3 [some (.ref 4), some (vi ((n : Nat) : Int)), some (vi z), some (vi wt), some (vi 0), none, none, none] [] X
  refine ev_iload_n (pc := 3) hC dX1_allByLot_3 rfl ?_
  refine ev_istore (pc := 4) hC dX1_allByLot_4 (by rw [hKn]; decide) rfl ?_
  show Ev K 6 [some (.ref 4), some (vi ((n : Nat) : Int)), some (vi z), some (vi wt), some (vi 0), some (vi z), none, none] [] X
  refine ev_iconst (pc := 6) hC dX1_allByLot_6 ?_
  refine ev_istore (pc := 7) hC dX1_allByLot_7 (by rw [hKn]; decide) rfl ?_
  show Ev K 9 [some (.ref 4), some (vi ((n : Nat) : Int)), some (vi z), some (vi wt), some (vi 0), some (vi z), some (vi 0), none] [] X
  have lp9 : ∀ (fz : Nat) (k : Nat) (sm : Nat) (Y : Mem), n - k < fz → (k ≤ n) → (sm = sumB k (fun k => if wt = 0 then bcnt 0 (lotA A z k) else sumB (lotA A z k 5 0) (lotA A z k 4))) → (sm ≤ 72 * k) → (frS 3 X Y) → Ev K 9 [some (.ref 4), some (vi ((n : Nat) : Int)), some (vi z), some (vi wt), some (vi ((sm : Nat) : Int)), some (vi (lotZ A z k)), some (vi ((k : Nat) : Int)), none] [] Y := by
    intro fz
    induction fz with
    | zero => intro k sm Y hfz; exact absurd hfz (Nat.not_lt_zero _)
    | succ fz ih9 =>
      intro k sm Y hfz hk hsm hsl hF
      have hN := hA.fr31 hF
      refine ev_iload (pc := 9) hC dX1_allByLot_9 rfl ?_
      refine ev_iload_n (pc := 11) hC dX1_allByLot_11 rfl ?_
      refine ev_icmp_ge (pc := 12) hC 127 dX1_allByLot_12 (by decide) (by omega) (by omega) (fun c12 => ?_) (fun c12 => ?_)
      · refine ev_iload (pc := 127) hC dX1_allByLot_127 rfl ?_
        exact ev_ireturn (pc := 129) hC hR dX1_allByLot_129 (⟨rv (by rw [hsm, show k = n by omega]; rfl), hF⟩)
      · refine ev_aload_n (pc := 15) hC dX1_allByLot_15 rfl ?_
        refine ev_callV (pc := 16) (as := []) (rest := []) hC gX1_allByLot_X1_think mtX1_think dX1_allByLot_16 (ru_X1_think hN) (by decide) (by decide) (by decide) rfl (by rfl) (Nat.le_of_ble_eq_true rfl) rfl (fun v16 X16 h16 => ?_)
        obtain ⟨rfl, hA16, hF16⟩ := h16
        show Ev K 19 [some (.ref 4), some (vi ((n : Nat) : Int)), some (vi z), some (vi wt), some (vi ((sm : Nat) : Int)), some (vi (lotZ A z k)), some (vi ((k : Nat) : Int)), none] [.ref 3] X16
        have hN116 := hN.fr31 hF16
        have hFr16 := frS_tr hF hF16
        refine ev_pop (pc := 19) hC rfl dX1_allByLot_19 ?_
        refine ev_iconst (pc := 20) hC dX1_allByLot_20 ?_
        refine ev_istore (pc := 21) hC dX1_allByLot_21 (by rw [hKn]; decide) rfl ?_
        show Ev K 23 [some (.ref 4), some (vi ((n : Nat) : Int)), some (vi z), some (vi wt), some (vi ((sm : Nat) : Int)), some (vi (lotZ A z k)), some (vi ((k : Nat) : Int)), some (vi 0)] [] X16
        have lp23 : ∀ (fz : Nat) (j : Nat) (V : Mem), A 5 0 - j < fz → (j ≤ A 5 0) → (Rp (vC V 3) (lotR A (lotZ A z k) j).1) → (frS 3 X V) → Ev K 23 [some (.ref 4), some (vi ((n : Nat) : Int)), some (vi z), some (vi wt), some (vi ((sm : Nat) : Int)), some (vi ((lotR A (lotZ A z k) j).2)), some (vi ((k : Nat) : Int)), some (vi ((j : Nat) : Int))] [] V := by
          intro fz
          induction fz with
          | zero => intro j V hfz; exact absurd hfz (Nat.not_lt_zero _)
          | succ fz ih23 =>
            intro j V hfz hj h3 hF2
            have hN2 := hA.fr31 hF2
            have h38 := h3.n8
            have hln := lotR_n A (lotZ A z k) j
            refine ev_iload (pc := 23) hC dX1_allByLot_23 rfl ?_
            refine ev_aload_n (pc := 25) hC dX1_allByLot_25 rfl ?_
            refine ev_getr (pc := 26) hC 3 f15 dX1_allByLot_26 (by decide) (by decide) (by decide) (by decide) (by decide) ?_
            refine ev_geti (pc := 29) hC ((A 5 0 : Nat) : Int) f28 dX1_allByLot_29 (by decide) (by decide) (by decide) (by decide) (by decide)  ((by rw [← hln]; exact h3.cn)) ?_
            refine ev_icmp_ge (pc := 32) hC 89 dX1_allByLot_32 (by decide) (by omega) (by omega) (fun c32 => ?_) (fun c32 => ?_)
            · have hje : j = A 5 0 := by omega
              subst hje
              show Ev K 89 [some (.ref 4), some (vi ((n : Nat) : Int)), some (vi z), some (vi wt), some (vi ((sm : Nat) : Int)), some (vi (lotZ A z (k + 1))), some (vi ((k : Nat) : Int)), some (vi ((A 5 0 : Nat) : Int))] [] V
              refine ev_aload_n (pc := 89) hC dX1_allByLot_89 rfl ?_
              refine ev_getr (pc := 90) hC 3 f15 dX1_allByLot_90 (by decide) (by decide) (by decide) (by decide) (by decide) ?_
              refine ev_bipush (pc := 93) hC dX1_allByLot_93 (by decide) ?_
              refine ev_callV (pc := 95) (as := [vi 10]) (rest := []) hC gX1_allByLot_X3_passYears mtX3_passYears dX1_allByLot_95 (ru_X3_passYears (s := 3) spl3 h3 10 (by omega)) (by decide) (by decide) (by decide) rfl (by rfl) (Nat.le_of_ble_eq_true rfl) rfl (fun v95 X95 h95 => ?_)
              obtain ⟨rfl, hA95, hF95⟩ := h95
              show Ev K 98 [some (.ref 4), some (vi ((n : Nat) : Int)), some (vi z), some (vi wt), some (vi ((sm : Nat) : Int)), some (vi (lotZ A z (k + 1))), some (vi ((k : Nat) : Int)), some (vi ((A 5 0 : Nat) : Int))] [vi ((bcnt 0 (goN 0 10 ((lotR A (lotZ A z k) (A 5 0)).1)) : Nat) : Int)] X95
              have hl95 := bcnt_le 0 (goN 0 10 ((lotR A (lotZ A z k) (A 5 0)).1))
              have hn95 := hA95.n8
              have hN195 := hN2.fr31 hF95
              have hFr95 := frS_tr hF2 hF95
              refine ev_istore (pc := 98) hC dX1_allByLot_98 (by rw [hKn]; decide) rfl ?_
              show Ev K 100 [some (.ref 4), some (vi ((n : Nat) : Int)), some (vi z), some (vi wt), some (vi ((sm : Nat) : Int)), some (vi (lotZ A z (k + 1))), some (vi ((k : Nat) : Int)), some (vi ((bcnt 0 (goN 0 10 ((lotR A (lotZ A z k) (A 5 0)).1)) : Nat) : Int))] [] X95
              refine ev_iload (pc := 100) hC dX1_allByLot_100 rfl ?_
              refine ev_iload_n (pc := 102) hC dX1_allByLot_102 rfl ?_
              refine ev_if_ne (pc := 103) hC 111 dX1_allByLot_103 (by decide) (by omega) (fun c103 => ?_) (fun c103 => ?_)
              · refine ev_aload_n (pc := 111) hC dX1_allByLot_111 rfl ?_
                refine ev_getr (pc := 112) hC 3 f15 dX1_allByLot_112 (by decide) (by decide) (by decide) (by decide) (by decide) ?_
                refine ev_callV (pc := 115) (as := []) (rest := [vi ((sm : Nat) : Int)]) hC gX1_allByLot_X3_allBelief mtX3_allBelief dX1_allByLot_115 (ru_X3_allBelief (s := 3) spl3 hA95) (by decide) (by decide) (by decide) rfl (by rfl) (Nat.le_of_ble_eq_true rfl) rfl (fun v115 X115 h115 => ?_)
                obtain ⟨rfl, rfl⟩ := h115
                show Ev K 118 [some (.ref 4), some (vi ((n : Nat) : Int)), some (vi z), some (vi wt), some (vi ((sm : Nat) : Int)), some (vi (lotZ A z (k + 1))), some (vi ((k : Nat) : Int)), some (vi ((bcnt 0 (goN 0 10 ((lotR A (lotZ A z k) (A 5 0)).1)) : Nat) : Int))] [vi ((sumB ((goN 0 10 ((lotR A (lotZ A z k) (A 5 0)).1)) 5 0) ((goN 0 10 ((lotR A (lotZ A z k) (A 5 0)).1)) 4) : Nat) : Int), vi ((sm : Nat) : Int)] X95
                have hl115 := allB_le hA95.ok
                have hlk : lotA A z k = goN 0 10 (lotR A (lotZ A z k) (A 5 0)).1 := rfl
                refine ev_iadd (pc := 118) hC ((sm + (sumB ((goN 0 10 ((lotR A (lotZ A z k) (A 5 0)).1)) 5 0) ((goN 0 10 ((lotR A (lotZ A z k) (A 5 0)).1)) 4)) : Nat) : Int) (by omega) dX1_allByLot_118 ?_
                refine ev_istore (pc := 119) hC dX1_allByLot_119 (by rw [hKn]; decide) rfl ?_
                show Ev K 121 [some (.ref 4), some (vi ((n : Nat) : Int)), some (vi z), some (vi wt), some (vi ((sm + (sumB ((goN 0 10 ((lotR A (lotZ A z k) (A 5 0)).1)) 5 0) ((goN 0 10 ((lotR A (lotZ A z k) (A 5 0)).1)) 4)) : Nat) : Int)), some (vi (lotZ A z (k + 1))), some (vi ((k : Nat) : Int)), some (vi ((bcnt 0 (goN 0 10 ((lotR A (lotZ A z k) (A 5 0)).1)) : Nat) : Int))] [] X95
                refine ev_iinc (pc := 121) hC ((k + 1 : Nat) : Int) dX1_allByLot_121 rfl (by omega) (by rw [hKn]; decide) rfl ?_
                show Ev K 124 [some (.ref 4), some (vi ((n : Nat) : Int)), some (vi z), some (vi wt), some (vi ((sm + (sumB ((goN 0 10 ((lotR A (lotZ A z k) (A 5 0)).1)) 5 0) ((goN 0 10 ((lotR A (lotZ A z k) (A 5 0)).1)) 4)) : Nat) : Int)), some (vi (lotZ A z (k + 1))), some (vi ((k + 1 : Nat) : Int)), some (vi ((bcnt 0 (goN 0 10 ((lotR A (lotZ A z k) (A 5 0)).1)) : Nat) : Int))] [] X95
                refine ev_goto (pc := 124) hC 9 dX1_allByLot_124 (by decide) ?_
                refine ev_drop 7 ?_
                show Ev K 9 [some (.ref 4), some (vi ((n : Nat) : Int)), some (vi z), some (vi wt), some (vi ((sm + (sumB ((goN 0 10 ((lotR A (lotZ A z k) (A 5 0)).1)) 5 0) ((goN 0 10 ((lotR A (lotZ A z k) (A 5 0)).1)) 4)) : Nat) : Int)), some (vi (lotZ A z (k + 1))), some (vi ((k + 1 : Nat) : Int)), none] [] X95
                exact ih9 (k + 1) (sm + (sumB ((goN 0 10 ((lotR A (lotZ A z k) (A 5 0)).1)) 5 0) ((goN 0 10 ((lotR A (lotZ A z k) (A 5 0)).1)) 4))) X95 (by omega) (by omega) (by rw [sumB_s, ← hsm, if_neg (by omega)]; rfl) (by omega) hFr95
              · refine ev_iload (pc := 106) hC dX1_allByLot_106 rfl ?_
                refine ev_goto (pc := 108) hC 118 dX1_allByLot_108 (by decide) ?_
                have hlk : lotA A z k = goN 0 10 (lotR A (lotZ A z k) (A 5 0)).1 := rfl
                refine ev_iadd (pc := 118) hC ((sm + (bcnt 0 (goN 0 10 ((lotR A (lotZ A z k) (A 5 0)).1))) : Nat) : Int) (by omega) dX1_allByLot_118 ?_
                refine ev_istore (pc := 119) hC dX1_allByLot_119 (by rw [hKn]; decide) rfl ?_
                show Ev K 121 [some (.ref 4), some (vi ((n : Nat) : Int)), some (vi z), some (vi wt), some (vi ((sm + (bcnt 0 (goN 0 10 ((lotR A (lotZ A z k) (A 5 0)).1))) : Nat) : Int)), some (vi (lotZ A z (k + 1))), some (vi ((k : Nat) : Int)), some (vi ((bcnt 0 (goN 0 10 ((lotR A (lotZ A z k) (A 5 0)).1)) : Nat) : Int))] [] X95
                refine ev_iinc (pc := 121) hC ((k + 1 : Nat) : Int) dX1_allByLot_121 rfl (by omega) (by rw [hKn]; decide) rfl ?_
                show Ev K 124 [some (.ref 4), some (vi ((n : Nat) : Int)), some (vi z), some (vi wt), some (vi ((sm + (bcnt 0 (goN 0 10 ((lotR A (lotZ A z k) (A 5 0)).1))) : Nat) : Int)), some (vi (lotZ A z (k + 1))), some (vi ((k + 1 : Nat) : Int)), some (vi ((bcnt 0 (goN 0 10 ((lotR A (lotZ A z k) (A 5 0)).1)) : Nat) : Int))] [] X95
                refine ev_goto (pc := 124) hC 9 dX1_allByLot_124 (by decide) ?_
                refine ev_drop 7 ?_
                show Ev K 9 [some (.ref 4), some (vi ((n : Nat) : Int)), some (vi z), some (vi wt), some (vi ((sm + (bcnt 0 (goN 0 10 ((lotR A (lotZ A z k) (A 5 0)).1))) : Nat) : Int)), some (vi (lotZ A z (k + 1))), some (vi ((k + 1 : Nat) : Int)), none] [] X95
                exact ih9 (k + 1) (sm + (bcnt 0 (goN 0 10 ((lotR A (lotZ A z k) (A 5 0)).1)))) X95 (by omega) (by omega) (by rw [sumB_s, ← hsm, if_pos (by omega)]; rfl) (by omega) hFr95
            · refine ev_iload (pc := 35) hC dX1_allByLot_35 rfl ?_
              refine ev_callS (pc := 37) (as := [vi ((lotR A (lotZ A z k) j).2)]) (rest := []) hC gX1_allByLot_X1_stirred mtX1_stirred dX1_allByLot_37 (ru_X1_stirred ((lotR A (lotZ A z k) j).2)) (by decide) (by rfl) (Nat.le_of_ble_eq_true rfl) rfl (fun v37 X37 h37 => ?_)
              obtain ⟨rfl, rfl⟩ := h37
              show Ev K 40 [some (.ref 4), some (vi ((n : Nat) : Int)), some (vi z), some (vi wt), some (vi ((sm : Nat) : Int)), some (vi ((lotR A (lotZ A z k) j).2)), some (vi ((k : Nat) : Int)), some (vi ((j : Nat) : Int))] [vi (stir ((lotR A (lotZ A z k) j).2))] V
              refine ev_istore (pc := 40) hC dX1_allByLot_40 (by rw [hKn]; decide) rfl ?_
              show Ev K 42 [some (.ref 4), some (vi ((n : Nat) : Int)), some (vi z), some (vi wt), some (vi ((sm : Nat) : Int)), some (vi (stir ((lotR A (lotZ A z k) j).2))), some (vi ((k : Nat) : Int)), some (vi ((j : Nat) : Int))] [] V
              refine ev_aload_n (pc := 42) hC dX1_allByLot_42 rfl ?_
              refine ev_getr (pc := 43) hC 3 f15 dX1_allByLot_43 (by decide) (by decide) (by decide) (by decide) (by decide) ?_
              refine ev_getr (pc := 46) hC 26 f79 dX1_allByLot_46 (by decide) (by decide) (by decide) (by decide) (by decide) ?_
              refine ev_iload (pc := 49) hC dX1_allByLot_49 rfl ?_
              refine ev_iload (pc := 51) hC dX1_allByLot_51 rfl ?_
              refine ev_bipush (pc := 53) hC dX1_allByLot_53 (by decide) ?_
              refine ev_callS (pc := 55) (as := [vi (stir ((lotR A (lotZ A z k) j).2)), vi 25]) (rest := [vi ((j : Nat) : Int), .ref 26]) hC gX1_allByLot_X1_drawn mtX1_drawn dX1_allByLot_55 (ru_X1_drawn (stir ((lotR A (lotZ A z k) j).2)) 25 (by omega)) (by decide) (by rfl) (Nat.le_of_ble_eq_true rfl) rfl (fun v55 X55 h55 => ?_)
              obtain ⟨rfl, rfl⟩ := h55
              show Ev K 58 [some (.ref 4), some (vi ((n : Nat) : Int)), some (vi z), some (vi wt), some (vi ((sm : Nat) : Int)), some (vi (stir ((lotR A (lotZ A z k) j).2))), some (vi ((k : Nat) : Int)), some (vi ((j : Nat) : Int))] [vi ((drawI (stir ((lotR A (lotZ A z k) j).2)) 25 : Nat) : Int), vi ((j : Nat) : Int), .ref 26] V
              have hdl55 := drawI_lt (stir ((lotR A (lotZ A z k) j).2)) (m := 25) (by omega)
              refine ev_iast (pc := 58) hC j (by decide) (by decide) (rfl) (by have := (show alen 26 = 8 from rfl); omega) dX1_allByLot_58 ?_
              have hA58 : Rp (vC (mset V 26 j (zI ((drawI (stir ((lotR A (lotZ A z k) j).2)) 25 : Nat) : Int))) 3) (setR (lotR A (lotZ A z k) j).1 3 j (drawI (stir ((lotR A (lotZ A z k) j).2)) 25)) := Rp.setC3 (s := 3) (v := drawI (stir ((lotR A (lotZ A z k) j).2)) 25) h3 spl3 (by omega)
              have hFr58 := frS_set (s := 3) (r := 3) (i := j) (v := zI ((drawI (stir ((lotR A (lotZ A z k) j).2)) 25 : Nat) : Int)) hF2 (by omega)
              have hN158 := hA.fr31 hFr58
              refine ev_iload (pc := 59) hC dX1_allByLot_59 rfl ?_
              refine ev_callS (pc := 61) (as := [vi (stir ((lotR A (lotZ A z k) j).2))]) (rest := []) hC gX1_allByLot_X1_stirred mtX1_stirred dX1_allByLot_61 (ru_X1_stirred (stir ((lotR A (lotZ A z k) j).2))) (by decide) (by rfl) (Nat.le_of_ble_eq_true rfl) rfl (fun v61 X61 h61 => ?_)
              obtain ⟨rfl, rfl⟩ := h61
              show Ev K 64 [some (.ref 4), some (vi ((n : Nat) : Int)), some (vi z), some (vi wt), some (vi ((sm : Nat) : Int)), some (vi (stir ((lotR A (lotZ A z k) j).2))), some (vi ((k : Nat) : Int)), some (vi ((j : Nat) : Int))] [vi (stir (stir ((lotR A (lotZ A z k) j).2)))] (mset V 26 j (zI ((drawI (stir ((lotR A (lotZ A z k) j).2)) 25 : Nat) : Int)))
              refine ev_istore (pc := 64) hC dX1_allByLot_64 (by rw [hKn]; decide) rfl ?_
              show Ev K 66 [some (.ref 4), some (vi ((n : Nat) : Int)), some (vi z), some (vi wt), some (vi ((sm : Nat) : Int)), some (vi (stir (stir ((lotR A (lotZ A z k) j).2)))), some (vi ((k : Nat) : Int)), some (vi ((j : Nat) : Int))] [] (mset V 26 j (zI ((drawI (stir ((lotR A (lotZ A z k) j).2)) 25 : Nat) : Int)))
              refine ev_aload_n (pc := 66) hC dX1_allByLot_66 rfl ?_
              refine ev_getr (pc := 67) hC 3 f15 dX1_allByLot_67 (by decide) (by decide) (by decide) (by decide) (by decide) ?_
              refine ev_getr (pc := 70) hC 27 f60 dX1_allByLot_70 (by decide) (by decide) (by decide) (by decide) (by decide) ?_
              refine ev_iload (pc := 73) hC dX1_allByLot_73 rfl ?_
              refine ev_iload (pc := 75) hC dX1_allByLot_75 rfl ?_
              refine ev_bipush (pc := 77) hC dX1_allByLot_77 (by decide) ?_
              refine ev_callS (pc := 79) (as := [vi (stir (stir ((lotR A (lotZ A z k) j).2))), vi 10]) (rest := [vi ((j : Nat) : Int), .ref 27]) hC gX1_allByLot_X1_drawn mtX1_drawn dX1_allByLot_79 (ru_X1_drawn (stir (stir ((lotR A (lotZ A z k) j).2))) 10 (by omega)) (by decide) (by rfl) (Nat.le_of_ble_eq_true rfl) rfl (fun v79 X79 h79 => ?_)
              obtain ⟨rfl, rfl⟩ := h79
              show Ev K 82 [some (.ref 4), some (vi ((n : Nat) : Int)), some (vi z), some (vi wt), some (vi ((sm : Nat) : Int)), some (vi (stir (stir ((lotR A (lotZ A z k) j).2)))), some (vi ((k : Nat) : Int)), some (vi ((j : Nat) : Int))] [vi ((drawI (stir (stir ((lotR A (lotZ A z k) j).2))) 10 : Nat) : Int), vi ((j : Nat) : Int), .ref 27] (mset V 26 j (zI ((drawI (stir ((lotR A (lotZ A z k) j).2)) 25 : Nat) : Int)))
              have hdl79 := drawI_lt (stir (stir ((lotR A (lotZ A z k) j).2))) (m := 10) (by omega)
              refine ev_iast (pc := 82) hC j (by decide) (by decide) (rfl) (by have := (show alen 27 = 8 from rfl); omega) dX1_allByLot_82 ?_
              have hA82 : Rp (vC (mset (mset V 26 j (zI ((drawI (stir ((lotR A (lotZ A z k) j).2)) 25 : Nat) : Int))) 27 j (zI ((drawI (stir (stir ((lotR A (lotZ A z k) j).2))) 10 : Nat) : Int))) 3) (setR (setR (lotR A (lotZ A z k) j).1 3 j (drawI (stir ((lotR A (lotZ A z k) j).2)) 25)) 4 j (drawI (stir (stir ((lotR A (lotZ A z k) j).2))) 10)) := Rp.setC4 (s := 3) (v := drawI (stir (stir ((lotR A (lotZ A z k) j).2))) 10) hA58 spl3 (by omega)
              have hFr82 := frS_set (s := 3) (r := 4) (i := j) (v := zI ((drawI (stir (stir ((lotR A (lotZ A z k) j).2))) 10 : Nat) : Int)) hFr58 (by omega)
              have hN182 := hA.fr31 hFr82
              refine ev_iinc (pc := 83) hC ((j + 1 : Nat) : Int) dX1_allByLot_83 rfl (by omega) (by rw [hKn]; decide) rfl ?_
              show Ev K 86 [some (.ref 4), some (vi ((n : Nat) : Int)), some (vi z), some (vi wt), some (vi ((sm : Nat) : Int)), some (vi (stir (stir ((lotR A (lotZ A z k) j).2)))), some (vi ((k : Nat) : Int)), some (vi ((j + 1 : Nat) : Int))] [] (mset (mset V 26 j (zI ((drawI (stir ((lotR A (lotZ A z k) j).2)) 25 : Nat) : Int))) 27 j (zI ((drawI (stir (stir ((lotR A (lotZ A z k) j).2))) 10 : Nat) : Int)))
              refine ev_goto (pc := 86) hC 23 dX1_allByLot_86 (by decide) ?_
              exact ih23 (j + 1) (mset (mset V 26 j (zI ((drawI (stir ((lotR A (lotZ A z k) j).2)) 25 : Nat) : Int))) 27 j (zI ((drawI (stir (stir ((lotR A (lotZ A z k) j).2))) 10 : Nat) : Int))) (by omega) (by omega) hA82 hFr82
        exact lp23 _ 0 X16 (Nat.lt_succ_self _) (by omega) hA16 hFr16
  exact lp9 _ 0 0 X (Nat.lt_succ_self _) (by omega) rfl (by omega) (frS_rf 3 X)
theorem mtX1_power : MT yX1_power wsX1_power cX1_power 5 (some .long) 2 := ⟨⟨_, rfl⟩, by decide, by decide, by decide +kernel⟩
set_option maxRecDepth 100000 in
set_option maxHeartbeats 4000000 in
theorem ru_X1_power {X : Mem} (t n : Nat) (ht : t ≤ 20) (hn : n ≤ 7) : Ru yX1_power wsX1_power 0 0 [vi ((t : Nat) : Int), vi ((n : Nat) : Int)] X (fun v X' => v = some (vl ((t ^ n : Nat) : Int)) ∧ X = X') := by
  refine ru_of (w2 := _) rfl (by decide) [some (vi ((t : Nat) : Int)), some (vi ((n : Nat) : Int)), none, none, none] (fun _ => rfl) (fun _ => Nat.le_of_ble_eq_true rfl) ?_
  intro K hKn hC hR
  refine ev_lconst (pc := 0) hC 1 (by decide) dX1_power_0 ?_
  refine ev_lstore_n (pc := 1) hC dX1_power_1 (by rw [hKn]; decide) rfl ?_
  show Ev K 2 [some (vi ((t : Nat) : Int)), some (vi ((n : Nat) : Int)), some (vl 1), none, none] [] X
  refine ev_iconst (pc := 2) hC dX1_power_2 ?_
  refine ev_istore (pc := 3) hC dX1_power_3 (by rw [hKn]; decide) rfl ?_
  show Ev K 5 [some (vi ((t : Nat) : Int)), some (vi ((n : Nat) : Int)), some (vl 1), none, some (vi 0)] [] X
  have lp5 : ∀ (fz : Nat) (i : Nat) (pr : Nat), n - i < fz → (i ≤ n) → (pr = t ^ i) → Ev K 5 [some (vi ((t : Nat) : Int)), some (vi ((n : Nat) : Int)), some (vl ((pr : Nat) : Int)), none, some (vi ((i : Nat) : Int))] [] X := by
    intro fz
    induction fz with
    | zero => intro i pr hfz; exact absurd hfz (Nat.not_lt_zero _)
    | succ fz ih5 =>
      intro i pr hfz hi hp
      refine ev_iload (pc := 5) hC dX1_power_5 rfl ?_
      refine ev_iload_n (pc := 7) hC dX1_power_7 rfl ?_
      refine ev_icmp_ge (pc := 8) hC 22 dX1_power_8 (by decide) (by omega) (by omega) (fun c8 => ?_) (fun c8 => ?_)
      · refine ev_lload_n (pc := 22) hC dX1_power_22 rfl ?_
        exact ev_lreturn (pc := 23) hC hR dX1_power_23 (⟨rl (by rw [hp, show i = n by omega]), rfl⟩)
      · refine ev_lload_n (pc := 11) hC dX1_power_11 rfl ?_
        refine ev_iload_n (pc := 12) hC dX1_power_12 rfl ?_
        refine ev_i2l (pc := 13) hC (by omega) dX1_power_13 ?_
        refine ev_lmul (pc := 14) hC ((pr * t : Nat) : Int) (by push_cast; rfl) dX1_power_14 ?_
        refine ev_lstore_n (pc := 15) hC dX1_power_15 (by rw [hKn]; decide) rfl ?_
        show Ev K 16 [some (vi ((t : Nat) : Int)), some (vi ((n : Nat) : Int)), some (vl ((pr * t : Nat) : Int)), none, some (vi ((i : Nat) : Int))] [] X
        refine ev_iinc (pc := 16) hC ((i + 1 : Nat) : Int) dX1_power_16 rfl (by omega) (by rw [hKn]; decide) rfl ?_
        show Ev K 19 [some (vi ((t : Nat) : Int)), some (vi ((n : Nat) : Int)), some (vl ((pr * t : Nat) : Int)), none, some (vi ((i + 1 : Nat) : Int))] [] X
        refine ev_goto (pc := 19) hC 5 dX1_power_19 (by decide) ?_
        exact ih5 (i + 1) (pr * t) (by omega) (by omega) (by rw [Nat.pow_succ, ← hp])
  exact lp5 _ 0 1 (Nat.lt_succ_self _) (by omega) rfl
theorem mtX1_allBelieveIn : MT yX1_allBelieveIn wsX1_allBelieveIn cX1_allBelieveIn 4 (some .boolean) 2 := ⟨⟨_, rfl⟩, by decide, by decide, by decide +kernel⟩
set_option maxRecDepth 100000 in
set_option maxHeartbeats 4000000 in
theorem ru_X1_allBelieveIn {X : Mem} {A : Sl} (hA : Rp (vC X 1) A) (S n : Nat) (hS : S < 256) (hn : n ≤ 7) : Ru yX1_allBelieveIn wsX1_allBelieveIn 4 117 [.ref 4, vi ((S : Nat) : Int), vi ((n : Nat) : Int)] X (fun v X' => v = some (vi (b2i (allB (goW S n A)))) ∧ frS 3 X X') := by
  refine ru_of (w2 := _) rfl (by decide) [some (.ref 4), some (vi ((S : Nat) : Int)), some (vi ((n : Nat) : Int)), none] (fun _ => rfl) (fun _ => Nat.le_of_ble_eq_true rfl) ?_
  intro K hKn hC hR
  have wX1 : ∀ w ∈ u_ws RX1 TX1 2, w ∈ wsX1_allBelieveIn := by decide +kernel
  have f15 : Fl K RX1 15 1 1 := fl_of hC RX1 TX1 2 rfl (by decide) wX1 (show Cond.fieldLink RX1 15 "PicnicOfSomebody$Mind" "thought" "LPicnicOfSomebody$Slope;" ∈ _ by decide +kernel)
  have hn8 := hA.n8
  refine ev_aload_n (pc := 0) hC dX1_allBelieveIn_0 rfl ?_
  refine ev_callV (pc := 1) (as := []) (rest := []) hC gX1_allBelieveIn_X1_think mtX1_think dX1_allBelieveIn_1 (ru_X1_think hA) (by decide) (by decide) (by decide) rfl (by rfl) (Nat.le_of_ble_eq_true rfl) rfl (fun v1 X1 h1 => ?_)
  obtain ⟨rfl, hA1, hF1⟩ := h1
  show Ev K 4 [some (.ref 4), some (vi ((S : Nat) : Int)), some (vi ((n : Nat) : Int)), none] [.ref 3] X1
  have hN11 := hA.fr31 hF1
  have hFr1 := frS_tr (frS_rf 3 X) hF1
  refine ev_pop (pc := 4) hC rfl dX1_allBelieveIn_4 ?_
  refine ev_iconst (pc := 5) hC dX1_allBelieveIn_5 ?_
  refine ev_istore_n (pc := 6) hC dX1_allBelieveIn_6 (by rw [hKn]; decide) rfl ?_
  show Ev K 7 [some (.ref 4), some (vi ((S : Nat) : Int)), some (vi ((n : Nat) : Int)), some (vi 0)] [] X1
  have lp7 : ∀ (fz : Nat) (i : Nat) (Y : Mem), n - i < fz → (i ≤ n) → (Rp (vC Y 3) (goW S i A)) → (frS 3 X Y) → Ev K 7 [some (.ref 4), some (vi ((S : Nat) : Int)), some (vi ((n : Nat) : Int)), some (vi ((i : Nat) : Int))] [] Y := by
    intro fz
    induction fz with
    | zero => intro i Y hfz; exact absurd hfz (Nat.not_lt_zero _)
    | succ fz ih7 =>
      intro i Y hfz hi h3 hF
      have hN := hA.fr31 hF
      have h38 := h3.n8
      refine ev_iload_n (pc := 7) hC dX1_allBelieveIn_7 rfl ?_
      refine ev_iload_n (pc := 8) hC dX1_allBelieveIn_8 rfl ?_
      refine ev_icmp_ge (pc := 9) hC 31 dX1_allBelieveIn_9 (by decide) (by omega) (by omega) (fun c9 => ?_) (fun c9 => ?_)
      · have hie : i = n := by omega
        refine ev_aload_n (pc := 31) hC dX1_allBelieveIn_31 rfl ?_
        refine ev_callV (pc := 32) (as := []) (rest := []) hC gX1_allBelieveIn_X1_allBelieve mtX1_allBelieve dX1_allBelieveIn_32 (ru_X1_allBelieve h3) (by decide) (by decide) (by decide) rfl (by rfl) (Nat.le_of_ble_eq_true rfl) rfl (fun v32 X32 h32 => ?_)
        obtain ⟨rfl, rfl⟩ := h32
        show Ev K 35 [some (.ref 4), some (vi ((S : Nat) : Int)), some (vi ((n : Nat) : Int)), some (vi ((i : Nat) : Int))] [vi (b2i (allB (goW S i A)))] Y
        have hr32 := b2i_r (allB (goW S i A))
        exact ev_zreturn (pc := 35) hC hR dX1_allBelieveIn_35 (b2i_n _) (⟨rv (by rw [hie]), hF⟩)
      · refine ev_aload_n (pc := 12) hC dX1_allBelieveIn_12 rfl ?_
        refine ev_getr (pc := 13) hC 3 f15 dX1_allBelieveIn_13 (by decide) (by decide) (by decide) (by decide) (by decide) ?_
        refine ev_iload_n (pc := 16) hC dX1_allBelieveIn_16 rfl ?_
        refine ev_iload_n (pc := 17) hC dX1_allBelieveIn_17 rfl ?_
        refine ev_callN (pc := 18) (as := [vi ((S : Nat) : Int), vi ((i : Nat) : Int)]) (rest := [.ref 3]) hC (by decide +kernel) gX1_allBelieveIn_X5_isIn_n57 (show Cond.static yX5_isIn ∈ _ by decide +kernel) (show Cond.initialized RX5 ∈ _ by decide +kernel) mtX5_isIn dX1_allBelieveIn_18 (ru_X5_isIn S i (by omega) (by omega)) (by decide) (by rfl) (Nat.le_of_ble_eq_true rfl) rfl (fun v18 X18 h18 => ?_)
        obtain ⟨rfl, rfl⟩ := h18
        show Ev K 21 [some (.ref 4), some (vi ((S : Nat) : Int)), some (vi ((n : Nat) : Int)), some (vi ((i : Nat) : Int))] [vi (b2i (Nat.testBit S i)), .ref 3] Y
        have hr18 := b2i_r (Nat.testBit S i)
        refine ev_callV (pc := 21) (as := [vi (b2i (Nat.testBit S i))]) (rest := []) hC gX1_allBelieveIn_X3_passYear mtX3_passYear dX1_allBelieveIn_21 (ru_X3_passYear (s := 3) spl3 h3 (Nat.testBit S i)) (by decide) (by decide) (by decide) rfl (by rfl) (Nat.le_of_ble_eq_true rfl) rfl (fun v21 X21 h21 => ?_)
        obtain ⟨rfl, hA21, hF21⟩ := h21
        show Ev K 24 [some (.ref 4), some (vi ((S : Nat) : Int)), some (vi ((n : Nat) : Int)), some (vi ((i : Nat) : Int))] [vi (b2i (orB ((goW S i A) 5 0) (chP 0 (goW S i A))))] X21
        have hr21 := b2i_r (orB ((goW S i A) 5 0) (chP 0 (goW S i A)))
        have hN121 := hN.fr31 hF21
        have hFr21 := frS_tr hF hF21
        refine ev_pop (pc := 24) hC rfl dX1_allBelieveIn_24 ?_
        refine ev_iinc (pc := 25) hC ((i + 1 : Nat) : Int) dX1_allBelieveIn_25 rfl (by omega) (by rw [hKn]; decide) rfl ?_
        show Ev K 28 [some (.ref 4), some (vi ((S : Nat) : Int)), some (vi ((n : Nat) : Int)), some (vi ((i + 1 : Nat) : Int))] [] X21
        refine ev_goto (pc := 28) hC 7 dX1_allBelieveIn_28 (by decide) ?_
        exact ih7 (i + 1) X21 (by omega) (by omega) hA21 hFr21
  exact lp7 _ 0 X1 (Nat.lt_succ_self _) (by omega) hA1 hFr1
theorem mtX1_windsToAll : MT yX1_windsToAll wsX1_windsToAll cX1_windsToAll 6 (some .long) 2 := ⟨⟨_, rfl⟩, by decide, by decide, by decide +kernel⟩
set_option maxRecDepth 100000 in
set_option maxHeartbeats 4000000 in
theorem ru_X1_windsToAll {X : Mem} {A : Sl} (hA : Rp (vC X 1) A) (n t : Nat) (hn : n ≤ 7) (ht : 2 ≤ t ∧ t ≤ 20) : Ru yX1_windsToAll wsX1_windsToAll 5 140 [.ref 4, vi ((n : Nat) : Int), vi ((t : Nat) : Int)] X (fun v X' => v = some (vl ((windU n t A (2 ^ n) : Nat) : Int)) ∧ frS 3 X X') := by
  refine ru_of (w2 := _) rfl (by decide) [some (.ref 4), some (vi ((n : Nat) : Int)), some (vi ((t : Nat) : Int)), none, none, none] (fun _ => rfl) (fun _ => Nat.le_of_ble_eq_true rfl) ?_
  intro K hKn hC hR
  have hn8 := hA.n8
  have hpw : 2 ^ n ≤ 256 := pow8 (by omega)
  refine ev_lconst (pc := 0) hC 0 (by decide) dX1_windsToAll_0 ?_
  refine ev_lstore_n (pc := 1) hC dX1_windsToAll_1 (by rw [hKn]; decide) rfl ?_
  show Ev K 2 [some (.ref 4), some (vi ((n : Nat) : Int)), some (vi ((t : Nat) : Int)), some (vl 0), none, none] [] X
  refine ev_iconst (pc := 2) hC dX1_windsToAll_2 ?_
  refine ev_istore (pc := 3) hC dX1_windsToAll_3 (by rw [hKn]; decide) rfl ?_
  show Ev K 5 [some (.ref 4), some (vi ((n : Nat) : Int)), some (vi ((t : Nat) : Int)), some (vl 0), none, some (vi 0)] [] X
  have lp5 : ∀ (fz : Nat) (S : Nat) (u : Nat) (Y : Mem), 2 ^ n - S < fz → (S ≤ 2 ^ n) → (u = windU n t A S) → (frS 3 X Y) → Ev K 5 [some (.ref 4), some (vi ((n : Nat) : Int)), some (vi ((t : Nat) : Int)), some (vl ((u : Nat) : Int)), none, some (vi ((S : Nat) : Int))] [] Y := by
    intro fz
    induction fz with
    | zero => intro S u Y hfz; exact absurd hfz (Nat.not_lt_zero _)
    | succ fz ih5 =>
      intro S u Y hfz hS hu hF
      have hN := hA.fr31 hF
      refine ev_iload (pc := 5) hC dX1_windsToAll_5 rfl ?_
      refine ev_iconst (pc := 7) hC dX1_windsToAll_7 ?_
      refine ev_iload_n (pc := 8) hC dX1_windsToAll_8 rfl ?_
      refine ev_ishl (pc := 9) hC ((2 ^ n : Nat) : Int) (zI_shl1 n (by omega)) dX1_windsToAll_9 ?_
      refine ev_icmp_ge (pc := 10) hC 45 dX1_windsToAll_10 (by decide) (by omega) (by omega) (fun c10 => ?_) (fun c10 => ?_)
      · refine ev_lload_n (pc := 45) hC dX1_windsToAll_45 rfl ?_
        exact ev_lreturn (pc := 46) hC hR dX1_windsToAll_46 (⟨rl (by rw [hu, show S = 2 ^ n by omega]), hF⟩)
      · refine ev_aload_n (pc := 13) hC dX1_windsToAll_13 rfl ?_
        refine ev_iload (pc := 14) hC dX1_windsToAll_14 rfl ?_
        refine ev_iload_n (pc := 16) hC dX1_windsToAll_16 rfl ?_
        refine ev_callV (pc := 17) (as := [vi ((S : Nat) : Int), vi ((n : Nat) : Int)]) (rest := []) hC gX1_windsToAll_X1_allBelieveIn mtX1_allBelieveIn dX1_windsToAll_17 (ru_X1_allBelieveIn hN S n (by omega) (by omega)) (by decide) (by decide) (by decide) rfl (by rfl) (Nat.le_of_ble_eq_true rfl) rfl (fun v17 X17 h17 => ?_)
        obtain ⟨rfl, hF17⟩ := h17
        show Ev K 20 [some (.ref 4), some (vi ((n : Nat) : Int)), some (vi ((t : Nat) : Int)), some (vl ((u : Nat) : Int)), none, some (vi ((S : Nat) : Int))] [vi (b2i (allB (goW S n A)))] X17
        have hr17 := b2i_r (allB (goW S n A))
        have hN117 := hN.fr31 hF17
        have hFr17 := frS_tr hF hF17
        refine ev_if_eq (pc := 20) hC 39 dX1_windsToAll_20 (by decide) (by omega) (fun c20 => ?_) (fun c20 => ?_)
        · refine ev_iinc (pc := 39) hC ((S + 1 : Nat) : Int) dX1_windsToAll_39 rfl (by omega) (by rw [hKn]; decide) rfl ?_
          show Ev K 42 [some (.ref 4), some (vi ((n : Nat) : Int)), some (vi ((t : Nat) : Int)), some (vl ((u : Nat) : Int)), none, some (vi ((S + 1 : Nat) : Int))] [] X17
          refine ev_goto (pc := 42) hC 5 dX1_windsToAll_42 (by decide) ?_
          exact ih5 (S + 1) u X17 (by omega) (by omega) (by unfold windU; rw [if_neg (by rw [b2i_0 c20]; decide), ← hu]; rfl) hFr17
        · refine ev_lload_n (pc := 23) hC dX1_windsToAll_23 rfl ?_
          refine ev_iload_n (pc := 24) hC dX1_windsToAll_24 rfl ?_
          refine ev_iconst (pc := 25) hC dX1_windsToAll_25 ?_
          refine ev_isub (pc := 26) hC ((t - 1 : Nat) : Int) (by omega) dX1_windsToAll_26 ?_
          refine ev_iload_n (pc := 27) hC dX1_windsToAll_27 rfl ?_
          refine ev_iload (pc := 28) hC dX1_windsToAll_28 rfl ?_
          refine ev_callS (pc := 30) (as := [vi ((S : Nat) : Int)]) (rest := [vi ((n : Nat) : Int), vi ((t - 1 : Nat) : Int), vl ((u : Nat) : Int)]) hC gX1_windsToAll_J6_bitCount_0f7a4 mtJ6_bitCount_0f7a4 dX1_windsToAll_30 (ru_J6_bitCount_0f7a4 S (by omega)) (by decide) (by rfl) (Nat.le_of_ble_eq_true rfl) rfl (fun v30 X30 h30 => ?_)
          obtain ⟨rfl, rfl⟩ := h30
          show Ev K 33 [some (.ref 4), some (vi ((n : Nat) : Int)), some (vi ((t : Nat) : Int)), some (vl ((u : Nat) : Int)), none, some (vi ((S : Nat) : Int))] [vi ((pop S : Nat) : Int), vi ((n : Nat) : Int), vi ((t - 1 : Nat) : Int), vl ((u : Nat) : Int)] X17
          have hp30 := pop_le S
          have hpl := pop_le_lt (S := S) (n := n) (by omega) (by omega)
          refine ev_isub (pc := 33) hC ((n - pop S : Nat) : Int) (by omega) dX1_windsToAll_33 ?_
          refine ev_callS (pc := 34) (as := [vi ((t - 1 : Nat) : Int), vi ((n - pop S : Nat) : Int)]) (rest := [vl ((u : Nat) : Int)]) hC gX1_windsToAll_X1_power mtX1_power dX1_windsToAll_34 (ru_X1_power (t - 1) (n - pop S) (by omega) (by omega)) (by decide) (by rfl) (Nat.le_of_ble_eq_true rfl) rfl (fun v34 X34 h34 => ?_)
          obtain ⟨rfl, rfl⟩ := h34
          show Ev K 37 [some (.ref 4), some (vi ((n : Nat) : Int)), some (vi ((t : Nat) : Int)), some (vl ((u : Nat) : Int)), none, some (vi ((S : Nat) : Int))] [vl (((t - 1) ^ (n - pop S) : Nat) : Int), vl ((u : Nat) : Int)] X17
          refine ev_ladd (pc := 37) hC ((u + ((t - 1) ^ (n - pop S)) : Nat) : Int) (by omega) dX1_windsToAll_37 ?_
          refine ev_lstore_n (pc := 38) hC dX1_windsToAll_38 (by rw [hKn]; decide) rfl ?_
          show Ev K 39 [some (.ref 4), some (vi ((n : Nat) : Int)), some (vi ((t : Nat) : Int)), some (vl ((u + ((t - 1) ^ (n - pop S)) : Nat) : Int)), none, some (vi ((S : Nat) : Int))] [] X17
          refine ev_iinc (pc := 39) hC ((S + 1 : Nat) : Int) dX1_windsToAll_39 rfl (by omega) (by rw [hKn]; decide) rfl ?_
          show Ev K 42 [some (.ref 4), some (vi ((n : Nat) : Int)), some (vi ((t : Nat) : Int)), some (vl ((u + ((t - 1) ^ (n - pop S)) : Nat) : Int)), none, some (vi ((S + 1 : Nat) : Int))] [] X17
          refine ev_goto (pc := 42) hC 5 dX1_windsToAll_42 (by decide) ?_
          exact ih5 (S + 1) (u + ((t - 1) ^ (n - pop S))) X17 (by omega) (by omega) (by unfold windU; rw [if_pos (b2i_1 c20), ← hu]) hFr17
  exact lp5 _ 0 0 X (Nat.lt_succ_self _) (Nat.zero_le _) rfl (frS_rf 3 X)
theorem mtX1_believersByPair : MT yX1_believersByPair wsX1_believersByPair cX1_believersByPair 6 (some .int) 5 := ⟨⟨_, rfl⟩, by decide, by decide, by decide +kernel⟩
set_option maxRecDepth 100000 in
set_option maxHeartbeats 4000000 in
theorem ru_X1_believersByPair {X : Mem} {A : Sl} (hA : Rp (vC X 1) A) (a o b q n : Nat) (ha : a < A 5 0) (ho : o ≤ 1) (hb : b < A 5 0) (hq : q ≤ 1) (hn : n ≤ 60) : Ru yX1_believersByPair wsX1_believersByPair 5 139 [.ref 4, vi ((a : Nat) : Int), vi ((o : Nat) : Int), vi ((b : Nat) : Int), vi ((q : Nat) : Int), vi ((n : Nat) : Int)] X (fun v X' => v = some (vi (pairF A a b n o q)) ∧ frS 3 X X') := by
  refine ru_of (w2 := _) rfl (by decide) [some (.ref 4), some (vi ((a : Nat) : Int)), some (vi ((o : Nat) : Int)), some (vi ((b : Nat) : Int)), some (vi ((q : Nat) : Int)), some (vi ((n : Nat) : Int))] (fun _ => rfl) (fun _ => Nat.le_of_ble_eq_true rfl) ?_
  intro K hKn hC hR
  have wX1 : ∀ w ∈ u_ws RX1 TX1 2, w ∈ wsX1_believersByPair := by decide +kernel
  have f15 : Fl K RX1 15 1 1 := fl_of hC RX1 TX1 2 rfl (by decide) wX1 (show Cond.fieldLink RX1 15 "PicnicOfSomebody$Mind" "thought" "LPicnicOfSomebody$Slope;" ∈ _ by decide +kernel)
  have wX3 : ∀ w ∈ u_ws RX3 TX3 8, w ∈ wsX1_believersByPair := by decide +kernel
  have f60 : Fl K RX1 60 3 4 := fl_of hC RX3 TX3 8 rfl (by decide) wX3 (show Cond.fieldLink RX1 60 "PicnicOfSomebody$Slope" "beliefs" "[I" ∈ _ by decide +kernel)
  have hn8 := hA.n8
  refine ev_aload_n (pc := 0) hC dX1_believersByPair_0 rfl ?_
  refine ev_callV (pc := 1) (as := []) (rest := []) hC gX1_believersByPair_X1_think mtX1_think dX1_believersByPair_1 (ru_X1_think hA) (by decide) (by decide) (by decide) rfl (by rfl) (Nat.le_of_ble_eq_true rfl) rfl (fun v1 X1 h1 => ?_)
  obtain ⟨rfl, hA1, hF1⟩ := h1
  show Ev K 4 [some (.ref 4), some (vi ((a : Nat) : Int)), some (vi ((o : Nat) : Int)), some (vi ((b : Nat) : Int)), some (vi ((q : Nat) : Int)), some (vi ((n : Nat) : Int))] [.ref 3] X1
  have hN11 := hA.fr31 hF1
  have hFr1 := frS_tr (frS_rf 3 X) hF1
  refine ev_pop (pc := 4) hC rfl dX1_believersByPair_4 ?_
  refine ev_aload_n (pc := 5) hC dX1_believersByPair_5 rfl ?_
  refine ev_getr (pc := 6) hC 3 f15 dX1_believersByPair_6 (by decide) (by decide) (by decide) (by decide) (by decide) ?_
  refine ev_getr (pc := 9) hC 27 f60 dX1_believersByPair_9 (by decide) (by decide) (by decide) (by decide) (by decide) ?_
  refine ev_iload_n (pc := 12) hC dX1_believersByPair_12 rfl ?_
  refine ev_bipush (pc := 13) hC dX1_believersByPair_13 (by decide) ?_
  refine ev_iload_n (pc := 15) hC dX1_believersByPair_15 rfl ?_
  refine ev_imul (pc := 16) hC ((9 * o : Nat) : Int) (by omega) dX1_believersByPair_16 ?_
  refine ev_iast (pc := 17) hC a (by decide) (by decide) (rfl) (by have := (show alen 27 = 8 from rfl); omega) dX1_believersByPair_17 ?_
  have hA17 : Rp (vC (mset X1 27 a (zI ((9 * o : Nat) : Int))) 3) (setR A 4 a (9 * o)) := Rp.setC4 (s := 3) (v := 9 * o) hA1 spl3 (by omega)
  have hFr17 := frS_set (s := 3) (r := 4) (i := a) (v := zI ((9 * o : Nat) : Int)) hFr1 (by omega)
  have hN117 := hA.fr31 hFr17
  refine ev_aload_n (pc := 18) hC dX1_believersByPair_18 rfl ?_
  refine ev_getr (pc := 19) hC 3 f15 dX1_believersByPair_19 (by decide) (by decide) (by decide) (by decide) (by decide) ?_
  refine ev_getr (pc := 22) hC 27 f60 dX1_believersByPair_22 (by decide) (by decide) (by decide) (by decide) (by decide) ?_
  refine ev_iload_n (pc := 25) hC dX1_believersByPair_25 rfl ?_
  refine ev_bipush (pc := 26) hC dX1_believersByPair_26 (by decide) ?_
  refine ev_iload (pc := 28) hC dX1_believersByPair_28 rfl ?_
  refine ev_imul (pc := 30) hC ((9 * q : Nat) : Int) (by omega) dX1_believersByPair_30 ?_
  refine ev_iast (pc := 31) hC b (by decide) (by decide) (rfl) (by have := (show alen 27 = 8 from rfl); omega) dX1_believersByPair_31 ?_
  have hA31 : Rp (vC (mset (mset X1 27 a (zI ((9 * o : Nat) : Int))) 27 b (zI ((9 * q : Nat) : Int))) 3) (setR (setR A 4 a (9 * o)) 4 b (9 * q)) := Rp.setC4 (s := 3) (v := 9 * q) hA17 spl3 (by omega)
  have hFr31 := frS_set (s := 3) (r := 4) (i := b) (v := zI ((9 * q : Nat) : Int)) hFr17 (by omega)
  have hN131 := hA.fr31 hFr31
  refine ev_aload_n (pc := 32) hC dX1_believersByPair_32 rfl ?_
  refine ev_getr (pc := 33) hC 3 f15 dX1_believersByPair_33 (by decide) (by decide) (by decide) (by decide) (by decide) ?_
  refine ev_iload (pc := 36) hC dX1_believersByPair_36 rfl ?_
  refine ev_callV (pc := 38) (as := [vi ((n : Nat) : Int)]) (rest := []) hC gX1_believersByPair_X3_passYears mtX3_passYears dX1_believersByPair_38 (ru_X3_passYears (s := 3) spl3 hA31 n (by omega)) (by decide) (by decide) (by decide) rfl (by rfl) (Nat.le_of_ble_eq_true rfl) rfl (fun v38 X38 h38 => ?_)
  obtain ⟨rfl, hA38, hF38⟩ := h38
  show Ev K 41 [some (.ref 4), some (vi ((a : Nat) : Int)), some (vi ((o : Nat) : Int)), some (vi ((b : Nat) : Int)), some (vi ((q : Nat) : Int)), some (vi ((n : Nat) : Int))] [vi ((bcnt 0 (goN 0 n (setR (setR A 4 a (9 * o)) 4 b (9 * q))) : Nat) : Int)] X38
  have hl38 := bcnt_le 0 (goN 0 n (setR (setR A 4 a (9 * o)) 4 b (9 * q)))
  have hn38 := hA38.n8
  have hN138 := hN131.fr31 hF38
  have hFr38 := frS_tr hFr31 hF38
  exact ev_ireturn (pc := 41) hC hR dX1_believersByPair_41 (⟨rfl, hFr38⟩)
theorem mtX1_firstStillPair : MT yX1_firstStillPair wsX1_firstStillPair cX1_firstStillPair 9 (some .int) 3 := ⟨⟨_, rfl⟩, by decide, by decide, by decide +kernel⟩
set_option maxRecDepth 100000 in
set_option maxHeartbeats 4000000 in
theorem ru_X1_firstStillPair {X : Mem} {A : Sl} (hA : Rp (vC X 1) A) (a b n : Nat) (ha : a < A 5 0) (hb : b < A 5 0) (hn : n ≤ 60) : Ru yX1_firstStillPair wsX1_firstStillPair 6 164 [.ref 4, vi ((a : Nat) : Int), vi ((b : Nat) : Int), vi ((n : Nat) : Int)] X (fun v X' => v = some (vi (pairS A a b n)) ∧ frS 3 X X') := by
  refine ru_of (w2 := _) rfl (by decide) [some (.ref 4), some (vi ((a : Nat) : Int)), some (vi ((b : Nat) : Int)), some (vi ((n : Nat) : Int)), none, none, none, none, none] (fun _ => rfl) (fun _ => Nat.le_of_ble_eq_true rfl) ?_
  intro K hKn hC hR
  have hn8 := hA.n8
  refine ev_iconst (pc := 0) hC dX1_firstStillPair_0 ?_
  refine ev_istore (pc := 1) hC dX1_firstStillPair_1 (by rw [hKn]; decide) rfl ?_
  show Ev K 3 [some (.ref 4), some (vi ((a : Nat) : Int)), some (vi ((b : Nat) : Int)), some (vi ((n : Nat) : Int)), some (vi 0), none, none, none, none] [] X
  have lp3 : ∀ (fz : Nat) (o : Nat) (Y : Mem), 2 - o < fz → (o ≤ 2) → (∀ o', o' < o → ∀ q', q' ≤ 1 → stillP A a b n o' q' = false) → (frS 3 X Y) → Ev K 3 [some (.ref 4), some (vi ((a : Nat) : Int)), some (vi ((b : Nat) : Int)), some (vi ((n : Nat) : Int)), some (vi ((o : Nat) : Int)), none, none, none, none] [] Y := by
    intro fz
    induction fz with
    | zero => intro o Y hfz; exact absurd hfz (Nat.not_lt_zero _)
    | succ fz ih3 =>
      intro o Y hfz ho hno hF
      have hN := hA.fr31 hF
      refine ev_iload (pc := 3) hC dX1_firstStillPair_3 rfl ?_
      refine ev_iconst (pc := 5) hC dX1_firstStillPair_5 ?_
      refine ev_icmp_gt (pc := 6) hC 112 dX1_firstStillPair_6 (by decide) (by omega) (by omega) (fun c6 => ?_) (fun c6 => ?_)
      · refine ev_bipush (pc := 112) hC dX1_firstStillPair_112 (by decide) ?_
        exact ev_ireturn (pc := 114) hC hR dX1_firstStillPair_114 (⟨rv (pair_none (fun o1 h1 q1 h2 => hno o1 (by omega) q1 h2)), hF⟩)
      · refine ev_iconst (pc := 9) hC dX1_firstStillPair_9 ?_
        refine ev_istore (pc := 10) hC dX1_firstStillPair_10 (by rw [hKn]; decide) rfl ?_
        show Ev K 12 [some (.ref 4), some (vi ((a : Nat) : Int)), some (vi ((b : Nat) : Int)), some (vi ((n : Nat) : Int)), some (vi ((o : Nat) : Int)), some (vi 0), none, none, none] [] Y
        have lp12 : ∀ (fz : Nat) (q : Nat) (V : Mem), 2 - q < fz → (q ≤ 2) → (∀ q', q' < q → stillP A a b n o q' = false) → (frS 3 X V) → Ev K 12 [some (.ref 4), some (vi ((a : Nat) : Int)), some (vi ((b : Nat) : Int)), some (vi ((n : Nat) : Int)), some (vi ((o : Nat) : Int)), some (vi ((q : Nat) : Int)), none, none, none] [] V := by
          intro fz
          induction fz with
          | zero => intro q V hfz; exact absurd hfz (Nat.not_lt_zero _)
          | succ fz ih12 =>
            intro q V hfz hq hin hF2
            have hN2 := hA.fr31 hF2
            refine ev_iload (pc := 12) hC dX1_firstStillPair_12 rfl ?_
            refine ev_iconst (pc := 14) hC dX1_firstStillPair_14 ?_
            refine ev_icmp_gt (pc := 15) hC 106 dX1_firstStillPair_15 (by decide) (by omega) (by omega) (fun c15 => ?_) (fun c15 => ?_)
            · refine ev_iinc (pc := 106) hC ((o + 1 : Nat) : Int) dX1_firstStillPair_106 rfl (by omega) (by rw [hKn]; decide) rfl ?_
              show Ev K 109 [some (.ref 4), some (vi ((a : Nat) : Int)), some (vi ((b : Nat) : Int)), some (vi ((n : Nat) : Int)), some (vi ((o + 1 : Nat) : Int)), some (vi ((q : Nat) : Int)), none, none, none] [] V
              refine ev_goto (pc := 109) hC 3 dX1_firstStillPair_109 (by decide) ?_
              refine ev_drop 5 ?_
              show Ev K 3 [some (.ref 4), some (vi ((a : Nat) : Int)), some (vi ((b : Nat) : Int)), some (vi ((n : Nat) : Int)), some (vi ((o + 1 : Nat) : Int)), none, none, none, none] [] V
              exact ih3 (o + 1) V (by omega) (by omega) (fun o' h1 q' h2 => (if he : o' = o then he ▸ hin q' (by omega) else hno o' (by omega) q' h2)) hF2
            · refine ev_aload_n (pc := 18) hC dX1_firstStillPair_18 rfl ?_
              refine ev_iload_n (pc := 19) hC dX1_firstStillPair_19 rfl ?_
              refine ev_iload (pc := 20) hC dX1_firstStillPair_20 rfl ?_
              refine ev_iload_n (pc := 22) hC dX1_firstStillPair_22 rfl ?_
              refine ev_iload (pc := 23) hC dX1_firstStillPair_23 rfl ?_
              refine ev_iload_n (pc := 25) hC dX1_firstStillPair_25 rfl ?_
              refine ev_callV (pc := 26) (as := [vi ((a : Nat) : Int), vi ((o : Nat) : Int), vi ((b : Nat) : Int), vi ((q : Nat) : Int), vi ((n : Nat) : Int)]) (rest := []) hC gX1_firstStillPair_X1_believersByPair mtX1_believersByPair dX1_firstStillPair_26 (ru_X1_believersByPair hN2 a o b q n (by omega) (by omega) (by omega) (by omega) (by omega)) (by decide) (by decide) (by decide) rfl (by rfl) (Nat.le_of_ble_eq_true rfl) rfl (fun v26 X26 h26 => ?_)
              obtain ⟨rfl, hF26⟩ := h26
              show Ev K 29 [some (.ref 4), some (vi ((a : Nat) : Int)), some (vi ((b : Nat) : Int)), some (vi ((n : Nat) : Int)), some (vi ((o : Nat) : Int)), some (vi ((q : Nat) : Int)), none, none, none] [vi ((pairF A a b n o q : Nat) : Int)] X26
              have hr26 := pairF_le a b n o q hn8
              have hN126 := hN2.fr31 hF26
              have hFr26 := frS_tr hF2 hF26
              refine ev_istore (pc := 29) hC dX1_firstStillPair_29 (by rw [hKn]; decide) rfl ?_
              show Ev K 31 [some (.ref 4), some (vi ((a : Nat) : Int)), some (vi ((b : Nat) : Int)), some (vi ((n : Nat) : Int)), some (vi ((o : Nat) : Int)), some (vi ((q : Nat) : Int)), some (vi ((pairF A a b n o q : Nat) : Int)), none, none] [] X26
              refine ev_iload (pc := 31) hC dX1_firstStillPair_31 rfl ?_
              refine ev_aload_n (pc := 33) hC dX1_firstStillPair_33 rfl ?_
              refine ev_iload_n (pc := 34) hC dX1_firstStillPair_34 rfl ?_
              refine ev_iconst (pc := 35) hC dX1_firstStillPair_35 ?_
              refine ev_iload (pc := 36) hC dX1_firstStillPair_36 rfl ?_
              refine ev_isub (pc := 38) hC ((1 - o : Nat) : Int) (by omega) dX1_firstStillPair_38 ?_
              refine ev_iload_n (pc := 39) hC dX1_firstStillPair_39 rfl ?_
              refine ev_iload (pc := 40) hC dX1_firstStillPair_40 rfl ?_
              refine ev_iload_n (pc := 42) hC dX1_firstStillPair_42 rfl ?_
              refine ev_callV (pc := 43) (as := [vi ((a : Nat) : Int), vi ((1 - o : Nat) : Int), vi ((b : Nat) : Int), vi ((q : Nat) : Int), vi ((n : Nat) : Int)]) (rest := [vi ((pairF A a b n o q : Nat) : Int)]) hC gX1_firstStillPair_X1_believersByPair mtX1_believersByPair dX1_firstStillPair_43 (ru_X1_believersByPair hN126 a (1 - o) b q n (by omega) (by omega) (by omega) (by omega) (by omega)) (by decide) (by decide) (by decide) rfl (by rfl) (Nat.le_of_ble_eq_true rfl) rfl (fun v43 X43 h43 => ?_)
              obtain ⟨rfl, hF43⟩ := h43
              show Ev K 46 [some (.ref 4), some (vi ((a : Nat) : Int)), some (vi ((b : Nat) : Int)), some (vi ((n : Nat) : Int)), some (vi ((o : Nat) : Int)), some (vi ((q : Nat) : Int)), some (vi ((pairF A a b n o q : Nat) : Int)), none, none] [vi ((pairF A a b n (1 - o) q : Nat) : Int), vi ((pairF A a b n o q : Nat) : Int)] X43
              have hr43 := pairF_le a b n (1 - o) q hn8
              have hN143 := hN126.fr31 hF43
              have hFr43 := frS_tr hFr26 hF43
              refine ev_icmp_lt (pc := 46) hC 53 dX1_firstStillPair_46 (by decide) (by omega) (by omega) (fun c46 => ?_) (fun c46 => ?_)
              · have e : stillP A a b n o q = false := by unfold stillP; rw [decide_eq_false (by omega), Bool.false_and]
                refine ev_iconst (pc := 53) hC dX1_firstStillPair_53 ?_
                refine ev_istore (pc := 54) hC dX1_firstStillPair_54 (by rw [hKn]; decide) rfl ?_
                show Ev K 56 [some (.ref 4), some (vi ((a : Nat) : Int)), some (vi ((b : Nat) : Int)), some (vi ((n : Nat) : Int)), some (vi ((o : Nat) : Int)), some (vi ((q : Nat) : Int)), some (vi ((pairF A a b n o q : Nat) : Int)), some (vi 0), none] [] X43
                refine ev_iload (pc := 56) hC dX1_firstStillPair_56 rfl ?_
                refine ev_aload_n (pc := 58) hC dX1_firstStillPair_58 rfl ?_
                refine ev_iload_n (pc := 59) hC dX1_firstStillPair_59 rfl ?_
                refine ev_iload (pc := 60) hC dX1_firstStillPair_60 rfl ?_
                refine ev_iload_n (pc := 62) hC dX1_firstStillPair_62 rfl ?_
                refine ev_iconst (pc := 63) hC dX1_firstStillPair_63 ?_
                refine ev_iload (pc := 64) hC dX1_firstStillPair_64 rfl ?_
                refine ev_isub (pc := 66) hC ((1 - q : Nat) : Int) (by omega) dX1_firstStillPair_66 ?_
                refine ev_iload_n (pc := 67) hC dX1_firstStillPair_67 rfl ?_
                refine ev_callV (pc := 68) (as := [vi ((a : Nat) : Int), vi ((o : Nat) : Int), vi ((b : Nat) : Int), vi ((1 - q : Nat) : Int), vi ((n : Nat) : Int)]) (rest := [vi ((pairF A a b n o q : Nat) : Int)]) hC gX1_firstStillPair_X1_believersByPair mtX1_believersByPair dX1_firstStillPair_68 (ru_X1_believersByPair hN143 a o b (1 - q) n (by omega) (by omega) (by omega) (by omega) (by omega)) (by decide) (by decide) (by decide) rfl (by rfl) (Nat.le_of_ble_eq_true rfl) rfl (fun v68 X68 h68 => ?_)
                obtain ⟨rfl, hF68⟩ := h68
                show Ev K 71 [some (.ref 4), some (vi ((a : Nat) : Int)), some (vi ((b : Nat) : Int)), some (vi ((n : Nat) : Int)), some (vi ((o : Nat) : Int)), some (vi ((q : Nat) : Int)), some (vi ((pairF A a b n o q : Nat) : Int)), some (vi 0), none] [vi ((pairF A a b n o (1 - q) : Nat) : Int), vi ((pairF A a b n o q : Nat) : Int)] X68
                have hr68 := pairF_le a b n o (1 - q) hn8
                have hN168 := hN143.fr31 hF68
                have hFr68 := frS_tr hFr43 hF68
                refine ev_icmp_gt (pc := 71) hC 78 dX1_firstStillPair_71 (by decide) (by omega) (by omega) (fun c71 => ?_) (fun c71 => ?_)
                · have e : stillP A a b n o q = false := by unfold stillP; rw [decide_eq_false (p := pairF A a b n o q ≤ pairF A a b n o (1 - q)) (by omega), Bool.and_false]
                  refine ev_iconst (pc := 78) hC dX1_firstStillPair_78 ?_
                  refine ev_istore (pc := 79) hC dX1_firstStillPair_79 (by rw [hKn]; decide) rfl ?_
                  show Ev K 81 [some (.ref 4), some (vi ((a : Nat) : Int)), some (vi ((b : Nat) : Int)), some (vi ((n : Nat) : Int)), some (vi ((o : Nat) : Int)), some (vi ((q : Nat) : Int)), some (vi ((pairF A a b n o q : Nat) : Int)), some (vi 0), some (vi 0)] [] X68
                  refine ev_iload (pc := 81) hC dX1_firstStillPair_81 rfl ?_
                  refine ev_if_eq (pc := 83) hC 100 dX1_firstStillPair_83 (by decide) (by omega) (fun c83 => ?_) (fun c83 => absurd c83 (by decide))
                  refine ev_iinc (pc := 100) hC ((q + 1 : Nat) : Int) dX1_firstStillPair_100 rfl (by omega) (by rw [hKn]; decide) rfl ?_
                  show Ev K 103 [some (.ref 4), some (vi ((a : Nat) : Int)), some (vi ((b : Nat) : Int)), some (vi ((n : Nat) : Int)), some (vi ((o : Nat) : Int)), some (vi ((q + 1 : Nat) : Int)), some (vi ((pairF A a b n o q : Nat) : Int)), some (vi 0), some (vi 0)] [] X68
                  refine ev_goto (pc := 103) hC 12 dX1_firstStillPair_103 (by decide) ?_
                  refine ev_drop 6 ?_
                  refine ev_drop 7 ?_
                  refine ev_drop 8 ?_
                  show Ev K 12 [some (.ref 4), some (vi ((a : Nat) : Int)), some (vi ((b : Nat) : Int)), some (vi ((n : Nat) : Int)), some (vi ((o : Nat) : Int)), some (vi ((q + 1 : Nat) : Int)), none, none, none] [] X68
                  exact ih12 (q + 1) X68 (by omega) (by omega) (nostep hin e) hFr68
                · try have e : stillP A a b n o q = true := by unfold stillP; rw [decide_eq_true (by omega), decide_eq_true (by omega)]; rfl
                  refine ev_iconst (pc := 74) hC dX1_firstStillPair_74 ?_
                  refine ev_goto (pc := 75) hC 79 dX1_firstStillPair_75 (by decide) ?_
                  refine ev_istore (pc := 79) hC dX1_firstStillPair_79 (by rw [hKn]; decide) rfl ?_
                  show Ev K 81 [some (.ref 4), some (vi ((a : Nat) : Int)), some (vi ((b : Nat) : Int)), some (vi ((n : Nat) : Int)), some (vi ((o : Nat) : Int)), some (vi ((q : Nat) : Int)), some (vi ((pairF A a b n o q : Nat) : Int)), some (vi 0), some (vi 1)] [] X68
                  refine ev_iload (pc := 81) hC dX1_firstStillPair_81 rfl ?_
                  refine ev_if_eq (pc := 83) hC 100 dX1_firstStillPair_83 (by decide) (by omega) (fun c83 => ?_) (fun c83 => absurd c83 (by decide))
                  refine ev_iinc (pc := 100) hC ((q + 1 : Nat) : Int) dX1_firstStillPair_100 rfl (by omega) (by rw [hKn]; decide) rfl ?_
                  show Ev K 103 [some (.ref 4), some (vi ((a : Nat) : Int)), some (vi ((b : Nat) : Int)), some (vi ((n : Nat) : Int)), some (vi ((o : Nat) : Int)), some (vi ((q + 1 : Nat) : Int)), some (vi ((pairF A a b n o q : Nat) : Int)), some (vi 0), some (vi 1)] [] X68
                  refine ev_goto (pc := 103) hC 12 dX1_firstStillPair_103 (by decide) ?_
                  refine ev_drop 6 ?_
                  refine ev_drop 7 ?_
                  refine ev_drop 8 ?_
                  show Ev K 12 [some (.ref 4), some (vi ((a : Nat) : Int)), some (vi ((b : Nat) : Int)), some (vi ((n : Nat) : Int)), some (vi ((o : Nat) : Int)), some (vi ((q + 1 : Nat) : Int)), none, none, none] [] X68
                  exact ih12 (q + 1) X68 (by omega) (by omega) (nostep hin e) hFr68
              · refine ev_iconst (pc := 49) hC dX1_firstStillPair_49 ?_
                refine ev_goto (pc := 50) hC 54 dX1_firstStillPair_50 (by decide) ?_
                refine ev_istore (pc := 54) hC dX1_firstStillPair_54 (by rw [hKn]; decide) rfl ?_
                show Ev K 56 [some (.ref 4), some (vi ((a : Nat) : Int)), some (vi ((b : Nat) : Int)), some (vi ((n : Nat) : Int)), some (vi ((o : Nat) : Int)), some (vi ((q : Nat) : Int)), some (vi ((pairF A a b n o q : Nat) : Int)), some (vi 1), none] [] X43
                refine ev_iload (pc := 56) hC dX1_firstStillPair_56 rfl ?_
                refine ev_aload_n (pc := 58) hC dX1_firstStillPair_58 rfl ?_
                refine ev_iload_n (pc := 59) hC dX1_firstStillPair_59 rfl ?_
                refine ev_iload (pc := 60) hC dX1_firstStillPair_60 rfl ?_
                refine ev_iload_n (pc := 62) hC dX1_firstStillPair_62 rfl ?_
                refine ev_iconst (pc := 63) hC dX1_firstStillPair_63 ?_
                refine ev_iload (pc := 64) hC dX1_firstStillPair_64 rfl ?_
                refine ev_isub (pc := 66) hC ((1 - q : Nat) : Int) (by omega) dX1_firstStillPair_66 ?_
                refine ev_iload_n (pc := 67) hC dX1_firstStillPair_67 rfl ?_
                refine ev_callV (pc := 68) (as := [vi ((a : Nat) : Int), vi ((o : Nat) : Int), vi ((b : Nat) : Int), vi ((1 - q : Nat) : Int), vi ((n : Nat) : Int)]) (rest := [vi ((pairF A a b n o q : Nat) : Int)]) hC gX1_firstStillPair_X1_believersByPair mtX1_believersByPair dX1_firstStillPair_68 (ru_X1_believersByPair hN143 a o b (1 - q) n (by omega) (by omega) (by omega) (by omega) (by omega)) (by decide) (by decide) (by decide) rfl (by rfl) (Nat.le_of_ble_eq_true rfl) rfl (fun v68 X68 h68 => ?_)
                obtain ⟨rfl, hF68⟩ := h68
                show Ev K 71 [some (.ref 4), some (vi ((a : Nat) : Int)), some (vi ((b : Nat) : Int)), some (vi ((n : Nat) : Int)), some (vi ((o : Nat) : Int)), some (vi ((q : Nat) : Int)), some (vi ((pairF A a b n o q : Nat) : Int)), some (vi 1), none] [vi ((pairF A a b n o (1 - q) : Nat) : Int), vi ((pairF A a b n o q : Nat) : Int)] X68
                have hr68 := pairF_le a b n o (1 - q) hn8
                have hN168 := hN143.fr31 hF68
                have hFr68 := frS_tr hFr43 hF68
                refine ev_icmp_gt (pc := 71) hC 78 dX1_firstStillPair_71 (by decide) (by omega) (by omega) (fun c71 => ?_) (fun c71 => ?_)
                · have e : stillP A a b n o q = false := by unfold stillP; rw [decide_eq_false (p := pairF A a b n o q ≤ pairF A a b n o (1 - q)) (by omega), Bool.and_false]
                  refine ev_iconst (pc := 78) hC dX1_firstStillPair_78 ?_
                  refine ev_istore (pc := 79) hC dX1_firstStillPair_79 (by rw [hKn]; decide) rfl ?_
                  show Ev K 81 [some (.ref 4), some (vi ((a : Nat) : Int)), some (vi ((b : Nat) : Int)), some (vi ((n : Nat) : Int)), some (vi ((o : Nat) : Int)), some (vi ((q : Nat) : Int)), some (vi ((pairF A a b n o q : Nat) : Int)), some (vi 1), some (vi 0)] [] X68
                  refine ev_iload (pc := 81) hC dX1_firstStillPair_81 rfl ?_
                  refine ev_if_eq (pc := 83) hC 100 dX1_firstStillPair_83 (by decide) (by omega) (fun c83 => absurd c83 (by decide)) (fun c83 => ?_)
                  refine ev_iload (pc := 86) hC dX1_firstStillPair_86 rfl ?_
                  refine ev_if_eq (pc := 88) hC 100 dX1_firstStillPair_88 (by decide) (by omega) (fun c88 => ?_) (fun c88 => absurd c88 (by decide))
                  refine ev_iinc (pc := 100) hC ((q + 1 : Nat) : Int) dX1_firstStillPair_100 rfl (by omega) (by rw [hKn]; decide) rfl ?_
                  show Ev K 103 [some (.ref 4), some (vi ((a : Nat) : Int)), some (vi ((b : Nat) : Int)), some (vi ((n : Nat) : Int)), some (vi ((o : Nat) : Int)), some (vi ((q + 1 : Nat) : Int)), some (vi ((pairF A a b n o q : Nat) : Int)), some (vi 1), some (vi 0)] [] X68
                  refine ev_goto (pc := 103) hC 12 dX1_firstStillPair_103 (by decide) ?_
                  refine ev_drop 6 ?_
                  refine ev_drop 7 ?_
                  refine ev_drop 8 ?_
                  show Ev K 12 [some (.ref 4), some (vi ((a : Nat) : Int)), some (vi ((b : Nat) : Int)), some (vi ((n : Nat) : Int)), some (vi ((o : Nat) : Int)), some (vi ((q + 1 : Nat) : Int)), none, none, none] [] X68
                  exact ih12 (q + 1) X68 (by omega) (by omega) (nostep hin e) hFr68
                · try have e : stillP A a b n o q = true := by unfold stillP; rw [decide_eq_true (by omega), decide_eq_true (by omega)]; rfl
                  refine ev_iconst (pc := 74) hC dX1_firstStillPair_74 ?_
                  refine ev_goto (pc := 75) hC 79 dX1_firstStillPair_75 (by decide) ?_
                  refine ev_istore (pc := 79) hC dX1_firstStillPair_79 (by rw [hKn]; decide) rfl ?_
                  show Ev K 81 [some (.ref 4), some (vi ((a : Nat) : Int)), some (vi ((b : Nat) : Int)), some (vi ((n : Nat) : Int)), some (vi ((o : Nat) : Int)), some (vi ((q : Nat) : Int)), some (vi ((pairF A a b n o q : Nat) : Int)), some (vi 1), some (vi 1)] [] X68
                  refine ev_iload (pc := 81) hC dX1_firstStillPair_81 rfl ?_
                  refine ev_if_eq (pc := 83) hC 100 dX1_firstStillPair_83 (by decide) (by omega) (fun c83 => absurd c83 (by decide)) (fun c83 => ?_)
                  refine ev_iload (pc := 86) hC dX1_firstStillPair_86 rfl ?_
                  refine ev_if_eq (pc := 88) hC 100 dX1_firstStillPair_88 (by decide) (by omega) (fun c88 => absurd c88 (by decide)) (fun c88 => ?_)
                  refine ev_bipush (pc := 91) hC dX1_firstStillPair_91 (by decide) ?_
                  refine ev_iload (pc := 93) hC dX1_firstStillPair_93 rfl ?_
                  refine ev_imul (pc := 95) hC ((10 * o : Nat) : Int) (by omega) dX1_firstStillPair_95 ?_
                  refine ev_iload (pc := 96) hC dX1_firstStillPair_96 rfl ?_
                  refine ev_iadd (pc := 98) hC (((10 * o) + q : Nat) : Int) (by omega) dX1_firstStillPair_98 ?_
                  exact ev_ireturn (pc := 99) hC hR dX1_firstStillPair_99 (⟨rv (pair_hit (by omega) (by omega) hno hin e), hFr68⟩)
        exact lp12 _ 0 Y (Nat.lt_succ_self _) (by omega) (fun k hk => absurd hk (Nat.not_lt_zero k)) hF
  exact lp3 _ 0 X (Nat.lt_succ_self _) (by omega) (fun k hk => absurd hk (Nat.not_lt_zero k)) (frS_rf 3 X)
