theorem mtX1_think : MT yX1_think wsX1_think cX1_think 1 (some (.object "PicnicOfSomebody$Slope")) 0 := ⟨⟨_, rfl⟩, by decide, by decide, by decide +kernel⟩
set_option maxRecDepth 100000 in
set_option maxHeartbeats 4000000 in
theorem ru_X1_think {X : Mem} {A : Sl} (hA : Rp (vC X 1) A) : Ru yX1_think wsX1_think 2 61 [.ref 4] X (fun v X' => v = some (.ref 3) ∧ Rp (vC X' 3) A ∧ frS 3 X X') := by
  refine ru_of (w2 := _) rfl (by decide) [some (.ref 4)] (fun _ => rfl) (fun _ => Nat.le_of_ble_eq_true rfl) ?_
  intro K hKn hC hR
  have wX1 : ∀ w ∈ u_ws RX1 TX1 2, w ∈ wsX1_think := by decide +kernel
  have f15 : Fl K RX1 15 1 1 := fl_of hC RX1 TX1 2 rfl (by decide) wX1 (show Cond.fieldLink RX1 15 "PicnicOfSomebody$Mind" "thought" "LPicnicOfSomebody$Slope;" ∈ _ by decide +kernel)
  have f9 : Fl K RX1 9 1 0 := fl_of hC RX1 TX1 2 rfl (by decide) wX1 (show Cond.fieldLink RX1 9 "PicnicOfSomebody$Mind" "now" "LPicnicOfSomebody$Slope;" ∈ _ by decide +kernel)
  have hn8 := hA.n8
  refine ev_aload_n (pc := 0) hC dX1_think_0 rfl ?_
  refine ev_getr (pc := 1) hC 3 f15 dX1_think_1 (by decide) (by decide) (by decide) (by decide) (by decide) ?_
  refine ev_aload_n (pc := 4) hC dX1_think_4 rfl ?_
  refine ev_getr (pc := 5) hC 1 f9 dX1_think_5 (by decide) (by decide) (by decide) (by decide) (by decide) ?_
  refine ev_callV (pc := 8) (as := [.ref 1]) (rest := []) hC gX1_think_X3_take mtX3_take dX1_think_8 (ru_X3_take (s := 3) (t := 1) spl3 spl1 (by decide) hA) (by decide) (by decide) (by decide) rfl (by rfl) (Nat.le_of_ble_eq_true rfl) rfl (fun v8 X8 h8 => ?_)
  obtain ⟨rfl, hA8, hF8⟩ := h8
  show Ev K 11 [some (.ref 4)] [] X8
  have hN18 := hA.fr31 hF8
  have hFr8 := frS_tr (frS_rf 3 X) hF8
  refine ev_aload_n (pc := 11) hC dX1_think_11 rfl ?_
  refine ev_getr (pc := 12) hC 3 f15 dX1_think_12 (by decide) (by decide) (by decide) (by decide) (by decide) ?_
  exact ev_areturn (pc := 15) hC hR dX1_think_15 (⟨rfl, hA8, hF8⟩)
theorem mtX1_allBelieve : MT yX1_allBelieve wsX1_allBelieve cX1_allBelieve 1 (some .boolean) 0 := ⟨⟨_, rfl⟩, by decide, by decide, by decide +kernel⟩
set_option maxRecDepth 100000 in
set_option maxHeartbeats 4000000 in
theorem ru_X1_allBelieve {X : Mem} {B : Sl} (hB : Rp (vC X 3) B) : Ru yX1_allBelieve wsX1_allBelieve 3 63 [.ref 4] X (fun v X' => v = some (vi (b2i (allB B))) ∧ X = X') := by
  refine ru_of (w2 := _) rfl (by decide) [some (.ref 4)] (fun _ => rfl) (fun _ => Nat.le_of_ble_eq_true rfl) ?_
  intro K hKn hC hR
  have wX1 : ∀ w ∈ u_ws RX1 TX1 2, w ∈ wsX1_allBelieve := by decide +kernel
  have f15 : Fl K RX1 15 1 1 := fl_of hC RX1 TX1 2 rfl (by decide) wX1 (show Cond.fieldLink RX1 15 "PicnicOfSomebody$Mind" "thought" "LPicnicOfSomebody$Slope;" ∈ _ by decide +kernel)
  have wX3 : ∀ w ∈ u_ws RX3 TX3 8, w ∈ wsX1_allBelieve := by decide +kernel
  have f28 : Fl K RX1 28 3 6 := fl_of hC RX3 TX3 8 rfl (by decide) wX3 (show Cond.fieldLink RX1 28 "PicnicOfSomebody$Slope" "people" "I" ∈ _ by decide +kernel)
  have hn8 := hB.n8
  refine ev_aload_n (pc := 0) hC dX1_allBelieve_0 rfl ?_
  refine ev_getr (pc := 1) hC 3 f15 dX1_allBelieve_1 (by decide) (by decide) (by decide) (by decide) (by decide) ?_
  refine ev_callV (pc := 4) (as := []) (rest := []) hC gX1_allBelieve_X3_believers mtX3_believers dX1_allBelieve_4 (ru_X3_believers (s := 3) spl3 hB) (by decide) (by decide) (by decide) rfl (by rfl) (Nat.le_of_ble_eq_true rfl) rfl (fun v4 X4 h4 => ?_)
  obtain ⟨rfl, rfl⟩ := h4
  show Ev K 7 [some (.ref 4)] [vi ((bcnt 0 B : Nat) : Int)] X
  have hl4 := bcnt_le 0 B
  refine ev_aload_n (pc := 7) hC dX1_allBelieve_7 rfl ?_
  refine ev_getr (pc := 8) hC 3 f15 dX1_allBelieve_8 (by decide) (by decide) (by decide) (by decide) (by decide) ?_
  refine ev_geti (pc := 11) hC ((B 5 0 : Nat) : Int) f28 dX1_allBelieve_11 (by decide) (by decide) (by decide) (by decide) (by decide)  (hB.cn) ?_
  refine ev_icmp_ne (pc := 14) hC 21 dX1_allBelieve_14 (by decide) (by omega) (by omega) (fun c14 => ?_) (fun c14 => ?_)
  · refine ev_iconst (pc := 21) hC dX1_allBelieve_21 ?_
    exact ev_zreturn (pc := 22) hC hR dX1_allBelieve_22 (by decide) (⟨rv (by first | exact b2iT (decide_eq_true (by omega)) | exact b2iF (decide_eq_false (by omega))), rfl⟩)
  · refine ev_iconst (pc := 17) hC dX1_allBelieve_17 ?_
    refine ev_goto (pc := 18) hC 22 dX1_allBelieve_18 (by decide) ?_
    exact ev_zreturn (pc := 22) hC hR dX1_allBelieve_22 (by decide) (⟨rv (by first | exact b2iT (decide_eq_true (by omega)) | exact b2iF (decide_eq_false (by omega))), rfl⟩)
theorem mtX1_yearsTillAll : MT yX1_yearsTillAll wsX1_yearsTillAll cX1_yearsTillAll 2 (some .int) 0 := ⟨⟨_, rfl⟩, by decide, by decide, by decide +kernel⟩
set_option maxRecDepth 100000 in
set_option maxHeartbeats 4000000 in
theorem ru_X1_yearsTillAll {X : Mem} {A : Sl} (hA : Rp (vC X 1) A) : Ru yX1_yearsTillAll wsX1_yearsTillAll 4 117 [.ref 4] X (fun v X' => v = some (vi (firstB (fun k => allB (goN 0 k A)) 61)) ∧ frS 3 X X') := by
  refine ru_of (w2 := _) rfl (by decide) [some (.ref 4), none] (fun _ => rfl) (fun _ => Nat.le_of_ble_eq_true rfl) ?_
  intro K hKn hC hR
  have wX1 : ∀ w ∈ u_ws RX1 TX1 2, w ∈ wsX1_yearsTillAll := by decide +kernel
  have f15 : Fl K RX1 15 1 1 := fl_of hC RX1 TX1 2 rfl (by decide) wX1 (show Cond.fieldLink RX1 15 "PicnicOfSomebody$Mind" "thought" "LPicnicOfSomebody$Slope;" ∈ _ by decide +kernel)
  have hn8 := hA.n8
  refine ev_aload_n (pc := 0) hC dX1_yearsTillAll_0 rfl ?_
  refine ev_callV (pc := 1) (as := []) (rest := []) hC gX1_yearsTillAll_X1_think mtX1_think dX1_yearsTillAll_1 (ru_X1_think hA) (by decide) (by decide) (by decide) rfl (by rfl) (Nat.le_of_ble_eq_true rfl) rfl (fun v1 X1 h1 => ?_)
  obtain ⟨rfl, hA1, hF1⟩ := h1
  show Ev K 4 [some (.ref 4), none] [.ref 3] X1
  have hN11 := hA.fr31 hF1
  have hFr1 := frS_tr (frS_rf 3 X) hF1
  refine ev_pop (pc := 4) hC rfl dX1_yearsTillAll_4 ?_
  refine ev_iconst (pc := 5) hC dX1_yearsTillAll_5 ?_
  refine ev_istore_n (pc := 6) hC dX1_yearsTillAll_6 (by rw [hKn]; decide) rfl ?_
  show Ev K 7 [some (.ref 4), some (vi 0)] [] X1
  have lp7 : ∀ (fz : Nat) (i : Nat) (Y : Mem), 61 - i < fz → (i ≤ 61) → (∀ k, k < i → (fun k => allB (goN 0 k A)) k = false) → (Rp (vC Y 3) (goN 0 i A)) → (frS 3 X Y) → Ev K 7 [some (.ref 4), some (vi ((i : Nat) : Int))] [] Y := by
    intro fz
    induction fz with
    | zero => intro i Y hfz; exact absurd hfz (Nat.not_lt_zero _)
    | succ fz ih7 =>
      intro i Y hfz hi hno h3 hF
      have hN := hA.fr31 hF
      have h38 := h3.n8
      refine ev_iload_n (pc := 7) hC dX1_yearsTillAll_7 rfl ?_
      refine ev_bipush (pc := 8) hC dX1_yearsTillAll_8 (by decide) ?_
      refine ev_icmp_gt (pc := 10) hC 37 dX1_yearsTillAll_10 (by decide) (by omega) (by omega) (fun c10 => ?_) (fun c10 => ?_)
      · refine ev_bipush (pc := 37) hC dX1_yearsTillAll_37 (by decide) ?_
        exact ev_ireturn (pc := 39) hC hR dX1_yearsTillAll_39 (⟨rv (firstB_none (P := (fun k => allB (goN 0 k A))) (fun k hk => hno k (by omega))).symm, hF⟩)
      · refine ev_aload_n (pc := 13) hC dX1_yearsTillAll_13 rfl ?_
        refine ev_callV (pc := 14) (as := []) (rest := []) hC gX1_yearsTillAll_X1_allBelieve mtX1_allBelieve dX1_yearsTillAll_14 (ru_X1_allBelieve h3) (by decide) (by decide) (by decide) rfl (by rfl) (Nat.le_of_ble_eq_true rfl) rfl (fun v14 X14 h14 => ?_)
        obtain ⟨rfl, rfl⟩ := h14
        show Ev K 17 [some (.ref 4), some (vi ((i : Nat) : Int))] [vi (b2i (allB (goN 0 i A)))] Y
        have hr14 := b2i_r (allB (goN 0 i A))
        refine ev_if_eq (pc := 17) hC 22 dX1_yearsTillAll_17 (by decide) (by omega) (fun c17 => ?_) (fun c17 => ?_)
        · have e : allB (goN 0 i A) = false := b2i_0 c17
          refine ev_aload_n (pc := 22) hC dX1_yearsTillAll_22 rfl ?_
          refine ev_getr (pc := 23) hC 3 f15 dX1_yearsTillAll_23 (by decide) (by decide) (by decide) (by decide) (by decide) ?_
          refine ev_iconst (pc := 26) hC dX1_yearsTillAll_26 ?_
          refine ev_callV (pc := 27) (as := [vi 0]) (rest := []) hC gX1_yearsTillAll_X3_passYear mtX3_passYear dX1_yearsTillAll_27 (ru_X3_passYear (s := 3) spl3 h3 false) (by decide) (by decide) (by decide) rfl (by rfl) (Nat.le_of_ble_eq_true rfl) rfl (fun v27 X27 h27 => ?_)
          obtain ⟨rfl, hA27, hF27⟩ := h27
          show Ev K 30 [some (.ref 4), some (vi ((i : Nat) : Int))] [vi (b2i (orB ((goN 0 i A) 5 0) (chP 0 (goN 0 i A))))] X27
          have hr27 := b2i_r (orB ((goN 0 i A) 5 0) (chP 0 (goN 0 i A)))
          have hN127 := hN.fr31 hF27
          have hFr27 := frS_tr hF hF27
          refine ev_pop (pc := 30) hC rfl dX1_yearsTillAll_30 ?_
          refine ev_iinc (pc := 31) hC ((i + 1 : Nat) : Int) dX1_yearsTillAll_31 rfl (by omega) (by rw [hKn]; decide) rfl ?_
          show Ev K 34 [some (.ref 4), some (vi ((i + 1 : Nat) : Int))] [] X27
          refine ev_goto (pc := 34) hC 7 dX1_yearsTillAll_34 (by decide) ?_
          exact ih7 (i + 1) X27 (by omega) (by omega) (nostep hno e) hA27 hFr27
        · have e : allB (goN 0 i A) = true := b2i_1 c17
          refine ev_iload_n (pc := 20) hC dX1_yearsTillAll_20 rfl ?_
          exact ev_ireturn (pc := 21) hC hR dX1_yearsTillAll_21 (⟨rv (firstB_hit (P := (fun k => allB (goN 0 k A))) hno e (by omega)).symm, hF⟩)
  exact lp7 _ 0 X1 (Nat.lt_succ_self _) (by omega) (fun k hk => absurd hk (Nat.not_lt_zero k)) hA1 hFr1
theorem mtX1_yearsTillNone : MT yX1_yearsTillNone wsX1_yearsTillNone cX1_yearsTillNone 2 (some .int) 0 := ⟨⟨_, rfl⟩, by decide, by decide, by decide +kernel⟩
set_option maxRecDepth 100000 in
set_option maxHeartbeats 4000000 in
theorem ru_X1_yearsTillNone {X : Mem} {A : Sl} (hA : Rp (vC X 1) A) : Ru yX1_yearsTillNone wsX1_yearsTillNone 4 117 [.ref 4] X (fun v X' => v = some (vi (firstB (fun k => decide (bcnt 0 (goN 0 k A) = 0)) 61)) ∧ frS 3 X X') := by
  refine ru_of (w2 := _) rfl (by decide) [some (.ref 4), none] (fun _ => rfl) (fun _ => Nat.le_of_ble_eq_true rfl) ?_
  intro K hKn hC hR
  have wX1 : ∀ w ∈ u_ws RX1 TX1 2, w ∈ wsX1_yearsTillNone := by decide +kernel
  have f15 : Fl K RX1 15 1 1 := fl_of hC RX1 TX1 2 rfl (by decide) wX1 (show Cond.fieldLink RX1 15 "PicnicOfSomebody$Mind" "thought" "LPicnicOfSomebody$Slope;" ∈ _ by decide +kernel)
  have hn8 := hA.n8
  refine ev_aload_n (pc := 0) hC dX1_yearsTillNone_0 rfl ?_
  refine ev_callV (pc := 1) (as := []) (rest := []) hC gX1_yearsTillNone_X1_think mtX1_think dX1_yearsTillNone_1 (ru_X1_think hA) (by decide) (by decide) (by decide) rfl (by rfl) (Nat.le_of_ble_eq_true rfl) rfl (fun v1 X1 h1 => ?_)
  obtain ⟨rfl, hA1, hF1⟩ := h1
  show Ev K 4 [some (.ref 4), none] [.ref 3] X1
  have hN11 := hA.fr31 hF1
  have hFr1 := frS_tr (frS_rf 3 X) hF1
  refine ev_pop (pc := 4) hC rfl dX1_yearsTillNone_4 ?_
  refine ev_iconst (pc := 5) hC dX1_yearsTillNone_5 ?_
  refine ev_istore_n (pc := 6) hC dX1_yearsTillNone_6 (by rw [hKn]; decide) rfl ?_
  show Ev K 7 [some (.ref 4), some (vi 0)] [] X1
  have lp7 : ∀ (fz : Nat) (i : Nat) (Y : Mem), 61 - i < fz → (i ≤ 61) → (∀ k, k < i → (fun k => decide (bcnt 0 (goN 0 k A) = 0)) k = false) → (Rp (vC Y 3) (goN 0 i A)) → (frS 3 X Y) → Ev K 7 [some (.ref 4), some (vi ((i : Nat) : Int))] [] Y := by
    intro fz
    induction fz with
    | zero => intro i Y hfz; exact absurd hfz (Nat.not_lt_zero _)
    | succ fz ih7 =>
      intro i Y hfz hi hno h3 hF
      have hN := hA.fr31 hF
      have h38 := h3.n8
      refine ev_iload_n (pc := 7) hC dX1_yearsTillNone_7 rfl ?_
      refine ev_bipush (pc := 8) hC dX1_yearsTillNone_8 (by decide) ?_
      refine ev_icmp_gt (pc := 10) hC 40 dX1_yearsTillNone_10 (by decide) (by omega) (by omega) (fun c10 => ?_) (fun c10 => ?_)
      · refine ev_bipush (pc := 40) hC dX1_yearsTillNone_40 (by decide) ?_
        exact ev_ireturn (pc := 42) hC hR dX1_yearsTillNone_42 (⟨rv (firstB_none (P := (fun k => decide (bcnt 0 (goN 0 k A) = 0))) (fun k hk => hno k (by omega))).symm, hF⟩)
      · refine ev_aload_n (pc := 13) hC dX1_yearsTillNone_13 rfl ?_
        refine ev_getr (pc := 14) hC 3 f15 dX1_yearsTillNone_14 (by decide) (by decide) (by decide) (by decide) (by decide) ?_
        refine ev_callV (pc := 17) (as := []) (rest := []) hC gX1_yearsTillNone_X3_believers mtX3_believers dX1_yearsTillNone_17 (ru_X3_believers (s := 3) spl3 h3) (by decide) (by decide) (by decide) rfl (by rfl) (Nat.le_of_ble_eq_true rfl) rfl (fun v17 X17 h17 => ?_)
        obtain ⟨rfl, rfl⟩ := h17
        show Ev K 20 [some (.ref 4), some (vi ((i : Nat) : Int))] [vi ((bcnt 0 (goN 0 i A) : Nat) : Int)] Y
        have hl17 := bcnt_le 0 (goN 0 i A)
        refine ev_if_ne (pc := 20) hC 25 dX1_yearsTillNone_20 (by decide) (by omega) (fun c20 => ?_) (fun c20 => ?_)
        · have e : decide (bcnt 0 (goN 0 i A) = 0) = false := decide_eq_false (by omega)
          refine ev_aload_n (pc := 25) hC dX1_yearsTillNone_25 rfl ?_
          refine ev_getr (pc := 26) hC 3 f15 dX1_yearsTillNone_26 (by decide) (by decide) (by decide) (by decide) (by decide) ?_
          refine ev_iconst (pc := 29) hC dX1_yearsTillNone_29 ?_
          refine ev_callV (pc := 30) (as := [vi 0]) (rest := []) hC gX1_yearsTillNone_X3_passYear mtX3_passYear dX1_yearsTillNone_30 (ru_X3_passYear (s := 3) spl3 h3 false) (by decide) (by decide) (by decide) rfl (by rfl) (Nat.le_of_ble_eq_true rfl) rfl (fun v30 X30 h30 => ?_)
          obtain ⟨rfl, hA30, hF30⟩ := h30
          show Ev K 33 [some (.ref 4), some (vi ((i : Nat) : Int))] [vi (b2i (orB ((goN 0 i A) 5 0) (chP 0 (goN 0 i A))))] X30
          have hr30 := b2i_r (orB ((goN 0 i A) 5 0) (chP 0 (goN 0 i A)))
          have hN130 := hN.fr31 hF30
          have hFr30 := frS_tr hF hF30
          refine ev_pop (pc := 33) hC rfl dX1_yearsTillNone_33 ?_
          refine ev_iinc (pc := 34) hC ((i + 1 : Nat) : Int) dX1_yearsTillNone_34 rfl (by omega) (by rw [hKn]; decide) rfl ?_
          show Ev K 37 [some (.ref 4), some (vi ((i + 1 : Nat) : Int))] [] X30
          refine ev_goto (pc := 37) hC 7 dX1_yearsTillNone_37 (by decide) ?_
          exact ih7 (i + 1) X30 (by omega) (by omega) (nostep hno e) hA30 hFr30
        · have e : decide (bcnt 0 (goN 0 i A) = 0) = true := decide_eq_true (by omega)
          refine ev_iload_n (pc := 23) hC dX1_yearsTillNone_23 rfl ?_
          exact ev_ireturn (pc := 24) hC hR dX1_yearsTillNone_24 (⟨rv (firstB_hit (P := (fun k => decide (bcnt 0 (goN 0 k A) = 0))) hno e (by omega)).symm, hF⟩)
  exact lp7 _ 0 X1 (Nat.lt_succ_self _) (by omega) (fun k hk => absurd hk (Nat.not_lt_zero k)) hA1 hFr1
theorem mtX1_yearsTillSettled : MT yX1_yearsTillSettled wsX1_yearsTillSettled cX1_yearsTillSettled 2 (some .int) 0 := ⟨⟨_, rfl⟩, by decide, by decide, by decide +kernel⟩
set_option maxRecDepth 100000 in
set_option maxHeartbeats 4000000 in
theorem ru_X1_yearsTillSettled {X : Mem} {A : Sl} (hA : Rp (vC X 1) A) : Ru yX1_yearsTillSettled wsX1_yearsTillSettled 4 117 [.ref 4] X (fun v X' => v = some (vi (firstB (fun k => !(orB (goN 0 k A 5 0) (chP 0 (goN 0 k A)))) 61)) ∧ frS 3 X X') := by
  refine ru_of (w2 := _) rfl (by decide) [some (.ref 4), none] (fun _ => rfl) (fun _ => Nat.le_of_ble_eq_true rfl) ?_
  intro K hKn hC hR
  have wX1 : ∀ w ∈ u_ws RX1 TX1 2, w ∈ wsX1_yearsTillSettled := by decide +kernel
  have f15 : Fl K RX1 15 1 1 := fl_of hC RX1 TX1 2 rfl (by decide) wX1 (show Cond.fieldLink RX1 15 "PicnicOfSomebody$Mind" "thought" "LPicnicOfSomebody$Slope;" ∈ _ by decide +kernel)
  have hn8 := hA.n8
  refine ev_aload_n (pc := 0) hC dX1_yearsTillSettled_0 rfl ?_
  refine ev_callV (pc := 1) (as := []) (rest := []) hC gX1_yearsTillSettled_X1_think mtX1_think dX1_yearsTillSettled_1 (ru_X1_think hA) (by decide) (by decide) (by decide) rfl (by rfl) (Nat.le_of_ble_eq_true rfl) rfl (fun v1 X1 h1 => ?_)
  obtain ⟨rfl, hA1, hF1⟩ := h1
  show Ev K 4 [some (.ref 4), none] [.ref 3] X1
  have hN11 := hA.fr31 hF1
  have hFr1 := frS_tr (frS_rf 3 X) hF1
  refine ev_pop (pc := 4) hC rfl dX1_yearsTillSettled_4 ?_
  refine ev_iconst (pc := 5) hC dX1_yearsTillSettled_5 ?_
  refine ev_istore_n (pc := 6) hC dX1_yearsTillSettled_6 (by rw [hKn]; decide) rfl ?_
  show Ev K 7 [some (.ref 4), some (vi 0)] [] X1
  have lp7 : ∀ (fz : Nat) (i : Nat) (Y : Mem), 61 - i < fz → (i ≤ 61) → (∀ k, k < i → (fun k => !(orB (goN 0 k A 5 0) (chP 0 (goN 0 k A)))) k = false) → (Rp (vC Y 3) (goN 0 i A)) → (frS 3 X Y) → Ev K 7 [some (.ref 4), some (vi ((i : Nat) : Int))] [] Y := by
    intro fz
    induction fz with
    | zero => intro i Y hfz; exact absurd hfz (Nat.not_lt_zero _)
    | succ fz ih7 =>
      intro i Y hfz hi hno h3 hF
      have hN := hA.fr31 hF
      have h38 := h3.n8
      refine ev_iload_n (pc := 7) hC dX1_yearsTillSettled_7 rfl ?_
      refine ev_bipush (pc := 8) hC dX1_yearsTillSettled_8 (by decide) ?_
      refine ev_icmp_gt (pc := 10) hC 32 dX1_yearsTillSettled_10 (by decide) (by omega) (by omega) (fun c10 => ?_) (fun c10 => ?_)
      · refine ev_bipush (pc := 32) hC dX1_yearsTillSettled_32 (by decide) ?_
        exact ev_ireturn (pc := 34) hC hR dX1_yearsTillSettled_34 (⟨rv (firstB_none (P := (fun k => !(orB (goN 0 k A 5 0) (chP 0 (goN 0 k A))))) (fun k hk => hno k (by omega))).symm, hF⟩)
      · refine ev_aload_n (pc := 13) hC dX1_yearsTillSettled_13 rfl ?_
        refine ev_getr (pc := 14) hC 3 f15 dX1_yearsTillSettled_14 (by decide) (by decide) (by decide) (by decide) (by decide) ?_
        refine ev_iconst (pc := 17) hC dX1_yearsTillSettled_17 ?_
        refine ev_callV (pc := 18) (as := [vi 0]) (rest := []) hC gX1_yearsTillSettled_X3_passYear mtX3_passYear dX1_yearsTillSettled_18 (ru_X3_passYear (s := 3) spl3 h3 false) (by decide) (by decide) (by decide) rfl (by rfl) (Nat.le_of_ble_eq_true rfl) rfl (fun v18 X18 h18 => ?_)
        obtain ⟨rfl, hA18, hF18⟩ := h18
        show Ev K 21 [some (.ref 4), some (vi ((i : Nat) : Int))] [vi (b2i (orB ((goN 0 i A) 5 0) (chP 0 (goN 0 i A))))] X18
        have hr18 := b2i_r (orB ((goN 0 i A) 5 0) (chP 0 (goN 0 i A)))
        have hN118 := hN.fr31 hF18
        have hFr18 := frS_tr hF hF18
        refine ev_if_ne (pc := 21) hC 26 dX1_yearsTillSettled_21 (by decide) (by omega) (fun c21 => ?_) (fun c21 => ?_)
        · have e : (!(orB (goN 0 i A 5 0) (chP 0 (goN 0 i A)))) = false := by rw [b2i_1 c21]; rfl
          refine ev_iinc (pc := 26) hC ((i + 1 : Nat) : Int) dX1_yearsTillSettled_26 rfl (by omega) (by rw [hKn]; decide) rfl ?_
          show Ev K 29 [some (.ref 4), some (vi ((i + 1 : Nat) : Int))] [] X18
          refine ev_goto (pc := 29) hC 7 dX1_yearsTillSettled_29 (by decide) ?_
          exact ih7 (i + 1) X18 (by omega) (by omega) (nostep hno e) hA18 hFr18
        · have e : (!(orB (goN 0 i A 5 0) (chP 0 (goN 0 i A)))) = true := by rw [b2i_0 c21]; rfl
          refine ev_iload_n (pc := 24) hC dX1_yearsTillSettled_24 rfl ?_
          exact ev_ireturn (pc := 25) hC hR dX1_yearsTillSettled_25 (⟨rv (firstB_hit (P := (fun k => !(orB (goN 0 k A 5 0) (chP 0 (goN 0 k A))))) hno e (by omega)).symm, hFr18⟩)
  exact lp7 _ 0 X1 (Nat.lt_succ_self _) (by omega) (fun k hk => absurd hk (Nat.not_lt_zero k)) hA1 hFr1
theorem mtX1_yearsTillElsewhere : MT yX1_yearsTillElsewhere wsX1_yearsTillElsewhere cX1_yearsTillElsewhere 3 (some .int) 0 := ⟨⟨_, rfl⟩, by decide, by decide, by decide +kernel⟩
set_option maxRecDepth 100000 in
set_option maxHeartbeats 4000000 in
theorem ru_X1_yearsTillElsewhere {X : Mem} {A : Sl} (hA : Rp (vC X 1) A) : Ru yX1_yearsTillElsewhere wsX1_yearsTillElsewhere 4 117 [.ref 4] X (fun v X' => v = some (vi (firstB (fun k => decide (¬ here (goN 0 k A) = here A)) 61)) ∧ frS 3 X X') := by
  refine ru_of (w2 := _) rfl (by decide) [some (.ref 4), none, none] (fun _ => rfl) (fun _ => Nat.le_of_ble_eq_true rfl) ?_
  intro K hKn hC hR
  have wX1 : ∀ w ∈ u_ws RX1 TX1 2, w ∈ wsX1_yearsTillElsewhere := by decide +kernel
  have f15 : Fl K RX1 15 1 1 := fl_of hC RX1 TX1 2 rfl (by decide) wX1 (show Cond.fieldLink RX1 15 "PicnicOfSomebody$Mind" "thought" "LPicnicOfSomebody$Slope;" ∈ _ by decide +kernel)
  have hn8 := hA.n8
  refine ev_aload_n (pc := 0) hC dX1_yearsTillElsewhere_0 rfl ?_
  refine ev_callV (pc := 1) (as := []) (rest := []) hC gX1_yearsTillElsewhere_X1_think mtX1_think dX1_yearsTillElsewhere_1 (ru_X1_think hA) (by decide) (by decide) (by decide) rfl (by rfl) (Nat.le_of_ble_eq_true rfl) rfl (fun v1 X1 h1 => ?_)
  obtain ⟨rfl, hA1, hF1⟩ := h1
  show Ev K 4 [some (.ref 4), none, none] [.ref 3] X1
  have hN11 := hA.fr31 hF1
  have hFr1 := frS_tr (frS_rf 3 X) hF1
  refine ev_callV (pc := 4) (as := []) (rest := []) hC gX1_yearsTillElsewhere_X3_hollow mtX3_hollow dX1_yearsTillElsewhere_4 (ru_X3_hollow (s := 3) spl3 hA1) (by decide) (by decide) (by decide) rfl (by rfl) (Nat.le_of_ble_eq_true rfl) rfl (fun v4 X4 h4 => ?_)
  obtain ⟨rfl, rfl⟩ := h4
  show Ev K 7 [some (.ref 4), none, none] [vi ((here A : Nat) : Int)] X1
  have hh4 := here_lt A
  refine ev_istore_n (pc := 7) hC dX1_yearsTillElsewhere_7 (by rw [hKn]; decide) rfl ?_
  show Ev K 8 [some (.ref 4), some (vi ((here A : Nat) : Int)), none] [] X1
  refine ev_iconst (pc := 8) hC dX1_yearsTillElsewhere_8 ?_
  refine ev_istore_n (pc := 9) hC dX1_yearsTillElsewhere_9 (by rw [hKn]; decide) rfl ?_
  show Ev K 10 [some (.ref 4), some (vi ((here A : Nat) : Int)), some (vi 1)] [] X1
  have lp10 : ∀ (fz : Nat) (i : Nat) (Y : Mem), 61 - i < fz → (1 ≤ i ∧ i ≤ 61) → (∀ k, k < i → (fun k => decide (¬ here (goN 0 k A) = here A)) k = false) → (Rp (vC Y 3) (goN 0 (i - 1) A)) → (frS 3 X Y) → Ev K 10 [some (.ref 4), some (vi ((here A : Nat) : Int)), some (vi ((i : Nat) : Int))] [] Y := by
    intro fz
    induction fz with
    | zero => intro i Y hfz; exact absurd hfz (Nat.not_lt_zero _)
    | succ fz ih10 =>
      intro i Y hfz hi hno h3 hF
      have hN := hA.fr31 hF
      have h38 := h3.n8
      refine ev_iload_n (pc := 10) hC dX1_yearsTillElsewhere_10 rfl ?_
      refine ev_bipush (pc := 11) hC dX1_yearsTillElsewhere_11 (by decide) ?_
      refine ev_icmp_gt (pc := 13) hC 44 dX1_yearsTillElsewhere_13 (by decide) (by omega) (by omega) (fun c13 => ?_) (fun c13 => ?_)
      · refine ev_bipush (pc := 44) hC dX1_yearsTillElsewhere_44 (by decide) ?_
        exact ev_ireturn (pc := 46) hC hR dX1_yearsTillElsewhere_46 (⟨rv (firstB_none (P := (fun k => decide (¬ here (goN 0 k A) = here A))) (fun k hk => hno k (by omega))).symm, hF⟩)
      · refine ev_aload_n (pc := 16) hC dX1_yearsTillElsewhere_16 rfl ?_
        refine ev_getr (pc := 17) hC 3 f15 dX1_yearsTillElsewhere_17 (by decide) (by decide) (by decide) (by decide) (by decide) ?_
        refine ev_iconst (pc := 20) hC dX1_yearsTillElsewhere_20 ?_
        refine ev_callV (pc := 21) (as := [vi 0]) (rest := []) hC gX1_yearsTillElsewhere_X3_passYear mtX3_passYear dX1_yearsTillElsewhere_21 (ru_X3_passYear (s := 3) spl3 h3 false) (by decide) (by decide) (by decide) rfl (by rfl) (Nat.le_of_ble_eq_true rfl) rfl (fun v21 X21 h21 => ?_)
        obtain ⟨rfl, hA21, hF21⟩ := h21
        show Ev K 24 [some (.ref 4), some (vi ((here A : Nat) : Int)), some (vi ((i : Nat) : Int))] [vi (b2i (orB ((goN 0 (i - 1) A) 5 0) (chP 0 (goN 0 (i - 1) A))))] X21
        have hr21 := b2i_r (orB ((goN 0 (i - 1) A) 5 0) (chP 0 (goN 0 (i - 1) A)))
        have hN121 := hN.fr31 hF21
        have hFr21 := frS_tr hF hF21
        refine ev_pop (pc := 24) hC rfl dX1_yearsTillElsewhere_24 ?_
        refine ev_aload_n (pc := 25) hC dX1_yearsTillElsewhere_25 rfl ?_
        refine ev_getr (pc := 26) hC 3 f15 dX1_yearsTillElsewhere_26 (by decide) (by decide) (by decide) (by decide) (by decide) ?_
        refine ev_callV (pc := 29) (as := []) (rest := []) hC gX1_yearsTillElsewhere_X3_hollow mtX3_hollow dX1_yearsTillElsewhere_29 (ru_X3_hollow (s := 3) spl3 hA21) (by decide) (by decide) (by decide) rfl (by rfl) (Nat.le_of_ble_eq_true rfl) rfl (fun v29 X29 h29 => ?_)
        obtain ⟨rfl, rfl⟩ := h29
        show Ev K 32 [some (.ref 4), some (vi ((here A : Nat) : Int)), some (vi ((i : Nat) : Int))] [vi ((here (year 0 false (goN 0 (i - 1) A)) : Nat) : Int)] X21
        have hh29 := here_lt (year 0 false (goN 0 (i - 1) A))
        refine ev_iload_n (pc := 32) hC dX1_yearsTillElsewhere_32 rfl ?_
        refine ev_icmp_eq (pc := 33) hC 38 dX1_yearsTillElsewhere_33 (by decide) (by omega) (by omega) (fun c33 => ?_) (fun c33 => ?_)
        · have e : decide (¬ here (goN 0 i A) = here A) = false := by rw [show i = i - 1 + 1 by omega]; exact decide_eq_false (fun z => z (by show here (year 0 false (goN 0 (i - 1) A)) = _; omega))
          refine ev_iinc (pc := 38) hC ((i + 1 : Nat) : Int) dX1_yearsTillElsewhere_38 rfl (by omega) (by rw [hKn]; decide) rfl ?_
          show Ev K 41 [some (.ref 4), some (vi ((here A : Nat) : Int)), some (vi ((i + 1 : Nat) : Int))] [] X21
          refine ev_goto (pc := 41) hC 10 dX1_yearsTillElsewhere_41 (by decide) ?_
          exact ih10 (i + 1) X21 (by omega) (by omega) (nostep hno e) (show Rp _ (goN 0 (i + 1 - 1) A) from (show i + 1 - 1 = i - 1 + 1 by omega) ▸ hA21) hFr21
        · have e : decide (¬ here (goN 0 i A) = here A) = true := by rw [show i = i - 1 + 1 by omega]; exact decide_eq_true (by show ¬ here (year 0 false (goN 0 (i - 1) A)) = _; omega)
          refine ev_iload_n (pc := 36) hC dX1_yearsTillElsewhere_36 rfl ?_
          exact ev_ireturn (pc := 37) hC hR dX1_yearsTillElsewhere_37 (⟨rv (firstB_hit (P := (fun k => decide (¬ here (goN 0 k A) = here A))) hno e (by omega)).symm, hFr21⟩)
  exact lp10 _ 1 X1 (Nat.lt_succ_self _) (by omega) (fun k hk => by rw [show k = 0 by omega]; exact decide_eq_false (fun z => z rfl)) hA1 hFr1
theorem mtX1_isMadeBy : MT yX1_isMadeBy wsX1_isMadeBy cX1_isMadeBy 4 (some .boolean) 2 := ⟨⟨_, rfl⟩, by decide, by decide, by decide +kernel⟩
set_option maxRecDepth 100000 in
set_option maxHeartbeats 4000000 in
theorem ru_X1_isMadeBy {X : Mem} {A : Sl} (hA : Rp (vC X 1) A) (S n : Nat) (hS : S < 256) (hn : n ≤ 60) : Ru yX1_isMadeBy wsX1_isMadeBy 5 139 [.ref 4, vi ((S : Nat) : Int), vi ((n : Nat) : Int)] X (fun v X' => v = some (vi (b2i (mkP n A S))) ∧ frS 3 X X') := by
  refine ru_of (w2 := _) rfl (by decide) [some (.ref 4), some (vi ((S : Nat) : Int)), some (vi ((n : Nat) : Int)), none] (fun _ => rfl) (fun _ => Nat.le_of_ble_eq_true rfl) ?_
  intro K hKn hC hR
  have wX1 : ∀ w ∈ u_ws RX1 TX1 2, w ∈ wsX1_isMadeBy := by decide +kernel
  have f15 : Fl K RX1 15 1 1 := fl_of hC RX1 TX1 2 rfl (by decide) wX1 (show Cond.fieldLink RX1 15 "PicnicOfSomebody$Mind" "thought" "LPicnicOfSomebody$Slope;" ∈ _ by decide +kernel)
  have wX3 : ∀ w ∈ u_ws RX3 TX3 8, w ∈ wsX1_isMadeBy := by decide +kernel
  have f28 : Fl K RX1 28 3 6 := fl_of hC RX3 TX3 8 rfl (by decide) wX3 (show Cond.fieldLink RX1 28 "PicnicOfSomebody$Slope" "people" "I" ∈ _ by decide +kernel)
  have f60 : Fl K RX1 60 3 4 := fl_of hC RX3 TX3 8 rfl (by decide) wX3 (show Cond.fieldLink RX1 60 "PicnicOfSomebody$Slope" "beliefs" "[I" ∈ _ by decide +kernel)
  have hn8 := hA.n8
  refine ev_aload_n (pc := 0) hC dX1_isMadeBy_0 rfl ?_
  refine ev_callV (pc := 1) (as := []) (rest := []) hC gX1_isMadeBy_X1_think mtX1_think dX1_isMadeBy_1 (ru_X1_think hA) (by decide) (by decide) (by decide) rfl (by rfl) (Nat.le_of_ble_eq_true rfl) rfl (fun v1 X1 h1 => ?_)
  obtain ⟨rfl, hA1, hF1⟩ := h1
  show Ev K 4 [some (.ref 4), some (vi ((S : Nat) : Int)), some (vi ((n : Nat) : Int)), none] [.ref 3] X1
  have hN11 := hA.fr31 hF1
  have hFr1 := frS_tr (frS_rf 3 X) hF1
  refine ev_pop (pc := 4) hC rfl dX1_isMadeBy_4 ?_
  refine ev_iconst (pc := 5) hC dX1_isMadeBy_5 ?_
  refine ev_istore_n (pc := 6) hC dX1_isMadeBy_6 (by rw [hKn]; decide) rfl ?_
  show Ev K 7 [some (.ref 4), some (vi ((S : Nat) : Int)), some (vi ((n : Nat) : Int)), some (vi 0)] [] X1
  have lp7 : ∀ (fz : Nat) (i : Nat) (Y : Mem), A 5 0 - i < fz → (i ≤ A 5 0) → (Rp (vC Y 3) (ninesN S i A)) → (frS 3 X Y) → Ev K 7 [some (.ref 4), some (vi ((S : Nat) : Int)), some (vi ((n : Nat) : Int)), some (vi ((i : Nat) : Int))] [] Y := by
    intro fz
    induction fz with
    | zero => intro i Y hfz; exact absurd hfz (Nat.not_lt_zero _)
    | succ fz ih7 =>
      intro i Y hfz hi h3 hF
      have hN := hA.fr31 hF
      have h38 := h3.n8
      refine ev_iload_n (pc := 7) hC dX1_isMadeBy_7 rfl ?_
      refine ev_aload_n (pc := 8) hC dX1_isMadeBy_8 rfl ?_
      refine ev_getr (pc := 9) hC 3 f15 dX1_isMadeBy_9 (by decide) (by decide) (by decide) (by decide) (by decide) ?_
      refine ev_geti (pc := 12) hC ((A 5 0 : Nat) : Int) f28 dX1_isMadeBy_12 (by decide) (by decide) (by decide) (by decide) (by decide)  (h3.cn) ?_
      refine ev_icmp_ge (pc := 15) hC 43 dX1_isMadeBy_15 (by decide) (by omega) (by omega) (fun c15 => ?_) (fun c15 => ?_)
      · have h4 : Rp (vC Y 3) (nines S A) := nines_end (show i = A 5 0 by omega) h3
        refine ev_aload_n (pc := 43) hC dX1_isMadeBy_43 rfl ?_
        refine ev_getr (pc := 44) hC 3 f15 dX1_isMadeBy_44 (by decide) (by decide) (by decide) (by decide) (by decide) ?_
        refine ev_iload_n (pc := 47) hC dX1_isMadeBy_47 rfl ?_
        refine ev_callV (pc := 48) (as := [vi ((n : Nat) : Int)]) (rest := []) hC gX1_isMadeBy_X3_passYears mtX3_passYears dX1_isMadeBy_48 (ru_X3_passYears (s := 3) spl3 h4 n (by omega)) (by decide) (by decide) (by decide) rfl (by rfl) (Nat.le_of_ble_eq_true rfl) rfl (fun v48 X48 h48 => ?_)
        obtain ⟨rfl, hA48, hF48⟩ := h48
        show Ev K 51 [some (.ref 4), some (vi ((S : Nat) : Int)), some (vi ((n : Nat) : Int)), some (vi ((i : Nat) : Int))] [vi ((bcnt 0 (goN 0 n (nines S A)) : Nat) : Int)] X48
        have hl48 := bcnt_le 0 (goN 0 n (nines S A))
        have hn48 := hA48.n8
        have hN148 := hN.fr31 hF48
        have hFr48 := frS_tr hF hF48
        refine ev_pop (pc := 51) hC rfl dX1_isMadeBy_51 ?_
        refine ev_aload_n (pc := 52) hC dX1_isMadeBy_52 rfl ?_
        refine ev_callV (pc := 53) (as := []) (rest := []) hC gX1_isMadeBy_X1_allBelieve mtX1_allBelieve dX1_isMadeBy_53 (ru_X1_allBelieve hA48) (by decide) (by decide) (by decide) rfl (by rfl) (Nat.le_of_ble_eq_true rfl) rfl (fun v53 X53 h53 => ?_)
        obtain ⟨rfl, rfl⟩ := h53
        show Ev K 56 [some (.ref 4), some (vi ((S : Nat) : Int)), some (vi ((n : Nat) : Int)), some (vi ((i : Nat) : Int))] [vi (b2i (allB (goN 0 n (nines S A))))] X48
        have hr53 := b2i_r (allB (goN 0 n (nines S A)))
        exact ev_zreturn (pc := 56) hC hR dX1_isMadeBy_56 (b2i_n _) (⟨rfl, hFr48⟩)
      · refine ev_iload_n (pc := 18) hC dX1_isMadeBy_18 rfl ?_
        refine ev_iload_n (pc := 19) hC dX1_isMadeBy_19 rfl ?_
        refine ev_callN (pc := 20) (as := [vi ((S : Nat) : Int), vi ((i : Nat) : Int)]) (rest := []) hC (by decide +kernel) gX1_isMadeBy_X5_isIn_n57 (show Cond.static yX5_isIn ∈ _ by decide +kernel) (show Cond.initialized RX5 ∈ _ by decide +kernel) mtX5_isIn dX1_isMadeBy_20 (ru_X5_isIn S i (by omega) (by omega)) (by decide) (by rfl) (Nat.le_of_ble_eq_true rfl) rfl (fun v20 X20 h20 => ?_)
        obtain ⟨rfl, rfl⟩ := h20
        show Ev K 23 [some (.ref 4), some (vi ((S : Nat) : Int)), some (vi ((n : Nat) : Int)), some (vi ((i : Nat) : Int))] [vi (b2i (Nat.testBit S i))] Y
        have hr20 := b2i_r (Nat.testBit S i)
        refine ev_if_eq (pc := 23) hC 37 dX1_isMadeBy_23 (by decide) (by omega) (fun c23 => ?_) (fun c23 => ?_)
        · have e := b2i_0 c23
          refine ev_iinc (pc := 37) hC ((i + 1 : Nat) : Int) dX1_isMadeBy_37 rfl (by omega) (by rw [hKn]; decide) rfl ?_
          show Ev K 40 [some (.ref 4), some (vi ((S : Nat) : Int)), some (vi ((n : Nat) : Int)), some (vi ((i + 1 : Nat) : Int))] [] Y
          refine ev_goto (pc := 40) hC 7 dX1_isMadeBy_40 (by decide) ?_
          exact ih7 (i + 1) Y (by omega) (by omega) (by first | exact nines_t hA36 e | exact nines_f h3 e) hF
        · have e := b2i_1 c23
          refine ev_aload_n (pc := 26) hC dX1_isMadeBy_26 rfl ?_
          refine ev_getr (pc := 27) hC 3 f15 dX1_isMadeBy_27 (by decide) (by decide) (by decide) (by decide) (by decide) ?_
          refine ev_getr (pc := 30) hC 27 f60 dX1_isMadeBy_30 (by decide) (by decide) (by decide) (by decide) (by decide) ?_
          refine ev_iload_n (pc := 33) hC dX1_isMadeBy_33 rfl ?_
          refine ev_bipush (pc := 34) hC dX1_isMadeBy_34 (by decide) ?_
          refine ev_iast (pc := 36) hC i (by decide) (by decide) (rfl) (by have := (show alen 27 = 8 from rfl); omega) dX1_isMadeBy_36 ?_
          have hA36 : Rp (vC (mset Y 27 i (zI 9)) 3) (setR (ninesN S i A) 4 i 9) := Rp.setC4 (s := 3) (v := 9) h3 spl3 (by omega)
          have hFr36 := frS_set (s := 3) (r := 4) (i := i) (v := zI 9) hF (by omega)
          have hN136 := hA.fr31 hFr36
          refine ev_iinc (pc := 37) hC ((i + 1 : Nat) : Int) dX1_isMadeBy_37 rfl (by omega) (by rw [hKn]; decide) rfl ?_
          show Ev K 40 [some (.ref 4), some (vi ((S : Nat) : Int)), some (vi ((n : Nat) : Int)), some (vi ((i + 1 : Nat) : Int))] [] (mset Y 27 i (zI 9))
          refine ev_goto (pc := 40) hC 7 dX1_isMadeBy_40 (by decide) ?_
          exact ih7 (i + 1) (mset Y 27 i (zI 9)) (by omega) (by omega) (by first | exact nines_t hA36 e | exact nines_f h3 e) hFr36
  exact lp7 _ 0 X1 (Nat.lt_succ_self _) (by omega) (nines_0 S hA1) hFr1
theorem mtX1_believersWithout : MT yX1_believersWithout wsX1_believersWithout cX1_believersWithout 3 (some .int) 2 := ⟨⟨_, rfl⟩, by decide, by decide, by decide +kernel⟩
set_option maxRecDepth 100000 in
set_option maxHeartbeats 4000000 in
theorem ru_X1_believersWithout {X : Mem} {A : Sl} (hA : Rp (vC X 1) A) (S n : Nat) (hS : S < 256) (hn : n ≤ 60) : Ru yX1_believersWithout wsX1_believersWithout 5 139 [.ref 4, vi ((S : Nat) : Int), vi ((n : Nat) : Int)] X (fun v X' => v = some (vi (bcnt 0 (goN 0 n (dropA S A)))) ∧ frS 3 X X') := by
  refine ru_of (w2 := _) rfl (by decide) [some (.ref 4), some (vi ((S : Nat) : Int)), some (vi ((n : Nat) : Int))] (fun _ => rfl) (fun _ => Nat.le_of_ble_eq_true rfl) ?_
  intro K hKn hC hR
  have wX1 : ∀ w ∈ u_ws RX1 TX1 2, w ∈ wsX1_believersWithout := by decide +kernel
  have f15 : Fl K RX1 15 1 1 := fl_of hC RX1 TX1 2 rfl (by decide) wX1 (show Cond.fieldLink RX1 15 "PicnicOfSomebody$Mind" "thought" "LPicnicOfSomebody$Slope;" ∈ _ by decide +kernel)
  have hn8 := hA.n8
  refine ev_aload_n (pc := 0) hC dX1_believersWithout_0 rfl ?_
  refine ev_callV (pc := 1) (as := []) (rest := []) hC gX1_believersWithout_X1_think mtX1_think dX1_believersWithout_1 (ru_X1_think hA) (by decide) (by decide) (by decide) rfl (by rfl) (Nat.le_of_ble_eq_true rfl) rfl (fun v1 X1 h1 => ?_)
  obtain ⟨rfl, hA1, hF1⟩ := h1
  show Ev K 4 [some (.ref 4), some (vi ((S : Nat) : Int)), some (vi ((n : Nat) : Int))] [.ref 3] X1
  have hN11 := hA.fr31 hF1
  have hFr1 := frS_tr (frS_rf 3 X) hF1
  refine ev_iload_n (pc := 4) hC dX1_believersWithout_4 rfl ?_
  refine ev_callV (pc := 5) (as := [vi ((S : Nat) : Int)]) (rest := []) hC gX1_believersWithout_X3_dropAll mtX3_dropAll dX1_believersWithout_5 (ru_X3_dropAll (s := 3) spl3 hA1 S (by omega)) (by decide) (by decide) (by decide) rfl (by rfl) (Nat.le_of_ble_eq_true rfl) rfl (fun v5 X5 h5 => ?_)
  obtain ⟨rfl, hA5, hF5⟩ := h5
  show Ev K 8 [some (.ref 4), some (vi ((S : Nat) : Int)), some (vi ((n : Nat) : Int))] [] X5
  have hn5 := hA5.n8
  have hN15 := hN11.fr31 hF5
  have hFr5 := frS_tr hFr1 hF5
  refine ev_aload_n (pc := 8) hC dX1_believersWithout_8 rfl ?_
  refine ev_getr (pc := 9) hC 3 f15 dX1_believersWithout_9 (by decide) (by decide) (by decide) (by decide) (by decide) ?_
  refine ev_iload_n (pc := 12) hC dX1_believersWithout_12 rfl ?_
  refine ev_callV (pc := 13) (as := [vi ((n : Nat) : Int)]) (rest := []) hC gX1_believersWithout_X3_passYears mtX3_passYears dX1_believersWithout_13 (ru_X3_passYears (s := 3) spl3 hA5 n (by omega)) (by decide) (by decide) (by decide) rfl (by rfl) (Nat.le_of_ble_eq_true rfl) rfl (fun v13 X13 h13 => ?_)
  obtain ⟨rfl, hA13, hF13⟩ := h13
  show Ev K 16 [some (.ref 4), some (vi ((S : Nat) : Int)), some (vi ((n : Nat) : Int))] [vi ((bcnt 0 (goN 0 n (dropA S A)) : Nat) : Int)] X13
  have hl13 := bcnt_le 0 (goN 0 n (dropA S A))
  have hn13 := hA13.n8
  have hN113 := hN15.fr31 hF13
  have hFr13 := frS_tr hFr5 hF13
  exact ev_ireturn (pc := 16) hC hR dX1_believersWithout_16 (⟨rfl, hFr13⟩)
theorem mtX1_fewestMakers : MT yX1_fewestMakers wsX1_fewestMakers cX1_fewestMakers 6 (some .int) 1 := ⟨⟨_, rfl⟩, by decide, by decide, by decide +kernel⟩
set_option maxRecDepth 100000 in
set_option maxHeartbeats 4000000 in
theorem ru_X1_fewestMakers {X : Mem} {A : Sl} (hA : Rp (vC X 1) A) (n : Nat) (hn : n ≤ 60) : Ru yX1_fewestMakers wsX1_fewestMakers 6 162 [.ref 4, vi ((n : Nat) : Int)] X (fun v X' => v = some (vi (mkr (mkP n A) (2 ^ (A 5 0))).1) ∧ frS 3 X X') := by
  refine ru_of (w2 := _) rfl (by decide) [some (.ref 4), some (vi ((n : Nat) : Int)), none, none, none, none] (fun _ => rfl) (fun _ => Nat.le_of_ble_eq_true rfl) ?_
  intro K hKn hC hR
  have wX1 : ∀ w ∈ u_ws RX1 TX1 2, w ∈ wsX1_fewestMakers := by decide +kernel
  have f9 : Fl K RX1 9 1 0 := fl_of hC RX1 TX1 2 rfl (by decide) wX1 (show Cond.fieldLink RX1 9 "PicnicOfSomebody$Mind" "now" "LPicnicOfSomebody$Slope;" ∈ _ by decide +kernel)
  have wX3 : ∀ w ∈ u_ws RX3 TX3 8, w ∈ wsX1_fewestMakers := by decide +kernel
  have f28 : Fl K RX1 28 3 6 := fl_of hC RX3 TX3 8 rfl (by decide) wX3 (show Cond.fieldLink RX1 28 "PicnicOfSomebody$Slope" "people" "I" ∈ _ by decide +kernel)
  have hn8 := hA.n8
  have hpw : 2 ^ (A 5 0) ≤ 256 := pow8 hn8
  refine ev_bipush (pc := 0) hC dX1_fewestMakers_0 (by decide) ?_
  refine ev_istore_n (pc := 2) hC dX1_fewestMakers_2 (by rw [hKn]; decide) rfl ?_
  show Ev K 3 [some (.ref 4), some (vi ((n : Nat) : Int)), some (vi (-9)), none, none, none] [] X
  refine ev_bipush (pc := 3) hC dX1_fewestMakers_3 (by decide) ?_
  refine ev_istore_n (pc := 5) hC dX1_fewestMakers_5 (by rw [hKn]; decide) rfl ?_
  show Ev K 6 [some (.ref 4), some (vi ((n : Nat) : Int)), some (vi (-9)), some (vi 9), none, none] [] X
  refine ev_iconst (pc := 6) hC dX1_fewestMakers_6 ?_
  refine ev_istore (pc := 7) hC dX1_fewestMakers_7 (by rw [hKn]; decide) rfl ?_
  show Ev K 9 [some (.ref 4), some (vi ((n : Nat) : Int)), some (vi (-9)), some (vi 9), some (vi 0), none] [] X
  have lp9 : ∀ (fz : Nat) (S : Nat) (b : Int) (w : Nat) (Y : Mem), 2 ^ (A 5 0) - S < fz → (S ≤ 2 ^ (A 5 0)) → (b = (mkr (mkP n A) S).1) → (w = (mkr (mkP n A) S).2) → (frS 3 X Y) → Ev K 9 [some (.ref 4), some (vi ((n : Nat) : Int)), some (vi b), some (vi ((w : Nat) : Int)), some (vi ((S : Nat) : Int)), none] [] Y := by
    intro fz
    induction fz with
    | zero => intro S b w Y hfz; exact absurd hfz (Nat.not_lt_zero _)
    | succ fz ih9 =>
      intro S b w Y hfz hS hb hw hF
      have hN := hA.fr31 hF
      have hwr := mkr_r (mkP n A) S
      refine ev_iload (pc := 9) hC dX1_fewestMakers_9 rfl ?_
      refine ev_iconst (pc := 11) hC dX1_fewestMakers_11 ?_
      refine ev_aload_n (pc := 12) hC dX1_fewestMakers_12 rfl ?_
      refine ev_getr (pc := 13) hC 1 f9 dX1_fewestMakers_13 (by decide) (by decide) (by decide) (by decide) (by decide) ?_
      refine ev_geti (pc := 16) hC ((A 5 0 : Nat) : Int) f28 dX1_fewestMakers_16 (by decide) (by decide) (by decide) (by decide) (by decide)  (hN.cn) ?_
      refine ev_ishl (pc := 19) hC ((2 ^ (A 5 0) : Nat) : Int) (zI_shl1 (A 5 0) (by omega)) dX1_fewestMakers_19 ?_
      refine ev_icmp_ge (pc := 20) hC 58 dX1_fewestMakers_20 (by decide) (by omega) (by omega) (fun c20 => ?_) (fun c20 => ?_)
      · refine ev_iload_n (pc := 58) hC dX1_fewestMakers_58 rfl ?_
        exact ev_ireturn (pc := 59) hC hR dX1_fewestMakers_59 (⟨rv (by rw [hb, show S = 2 ^ (A 5 0) by omega]), hF⟩)
      · refine ev_iload (pc := 23) hC dX1_fewestMakers_23 rfl ?_
        refine ev_callS (pc := 25) (as := [vi ((S : Nat) : Int)]) (rest := []) hC gX1_fewestMakers_J6_bitCount_0f7a4 mtJ6_bitCount_0f7a4 dX1_fewestMakers_25 (ru_J6_bitCount_0f7a4 S (by omega)) (by decide) (by rfl) (Nat.le_of_ble_eq_true rfl) rfl (fun v25 X25 h25 => ?_)
        obtain ⟨rfl, rfl⟩ := h25
        show Ev K 28 [some (.ref 4), some (vi ((n : Nat) : Int)), some (vi b), some (vi ((w : Nat) : Int)), some (vi ((S : Nat) : Int)), none] [vi ((pop S : Nat) : Int)] Y
        have hp25 := pop_le S
        refine ev_istore (pc := 28) hC dX1_fewestMakers_28 (by rw [hKn]; decide) rfl ?_
        show Ev K 30 [some (.ref 4), some (vi ((n : Nat) : Int)), some (vi b), some (vi ((w : Nat) : Int)), some (vi ((S : Nat) : Int)), some (vi ((pop S : Nat) : Int))] [] Y
        refine ev_iload (pc := 30) hC dX1_fewestMakers_30 rfl ?_
        refine ev_iload_n (pc := 32) hC dX1_fewestMakers_32 rfl ?_
        refine ev_icmp_ge (pc := 33) hC 52 dX1_fewestMakers_33 (by decide) (by omega) (by omega) (fun c33 => ?_) (fun c33 => ?_)
        · refine ev_iinc (pc := 52) hC ((S + 1 : Nat) : Int) dX1_fewestMakers_52 rfl (by omega) (by rw [hKn]; decide) rfl ?_
          show Ev K 55 [some (.ref 4), some (vi ((n : Nat) : Int)), some (vi b), some (vi ((w : Nat) : Int)), some (vi ((S + 1 : Nat) : Int)), some (vi ((pop S : Nat) : Int))] [] Y
          refine ev_goto (pc := 55) hC 9 dX1_fewestMakers_55 (by decide) ?_
          refine ev_drop 5 ?_
          show Ev K 9 [some (.ref 4), some (vi ((n : Nat) : Int)), some (vi b), some (vi ((w : Nat) : Int)), some (vi ((S + 1 : Nat) : Int)), none] [] Y
          exact ih9 (S + 1) b w Y (by omega) (by omega) (by first | (rw [mkr_t (by rw [← hw]; omega) e]) | (rw [mkr_f (Or.inl (by rw [← hw]; omega))]; exact hb) | (rw [mkr_f (Or.inr e)]; exact hb)) (by first | (rw [mkr_t (by rw [← hw]; omega) e]) | (rw [mkr_f (Or.inl (by rw [← hw]; omega))]; exact hw) | (rw [mkr_f (Or.inr e)]; exact hw)) hF
        · refine ev_aload_n (pc := 36) hC dX1_fewestMakers_36 rfl ?_
          refine ev_iload (pc := 37) hC dX1_fewestMakers_37 rfl ?_
          refine ev_iload_n (pc := 39) hC dX1_fewestMakers_39 rfl ?_
          refine ev_callV (pc := 40) (as := [vi ((S : Nat) : Int), vi ((n : Nat) : Int)]) (rest := []) hC gX1_fewestMakers_X1_isMadeBy mtX1_isMadeBy dX1_fewestMakers_40 (ru_X1_isMadeBy hN S n (by omega) (by omega)) (by decide) (by decide) (by decide) rfl (by rfl) (Nat.le_of_ble_eq_true rfl) rfl (fun v40 X40 h40 => ?_)
          obtain ⟨rfl, hF40⟩ := h40
          show Ev K 43 [some (.ref 4), some (vi ((n : Nat) : Int)), some (vi b), some (vi ((w : Nat) : Int)), some (vi ((S : Nat) : Int)), some (vi ((pop S : Nat) : Int))] [vi (b2i (mkP n A S))] X40
          have hr40 := b2i_r (mkP n A S)
          have hN140 := hN.fr31 hF40
          have hFr40 := frS_tr hF hF40
          refine ev_if_eq (pc := 43) hC 52 dX1_fewestMakers_43 (by decide) (by omega) (fun c43 => ?_) (fun c43 => ?_)
          · have e := b2i_0 c43
            refine ev_iinc (pc := 52) hC ((S + 1 : Nat) : Int) dX1_fewestMakers_52 rfl (by omega) (by rw [hKn]; decide) rfl ?_
            show Ev K 55 [some (.ref 4), some (vi ((n : Nat) : Int)), some (vi b), some (vi ((w : Nat) : Int)), some (vi ((S + 1 : Nat) : Int)), some (vi ((pop S : Nat) : Int))] [] X40
            refine ev_goto (pc := 55) hC 9 dX1_fewestMakers_55 (by decide) ?_
            refine ev_drop 5 ?_
            show Ev K 9 [some (.ref 4), some (vi ((n : Nat) : Int)), some (vi b), some (vi ((w : Nat) : Int)), some (vi ((S + 1 : Nat) : Int)), none] [] X40
            exact ih9 (S + 1) b w X40 (by omega) (by omega) (by first | (rw [mkr_t (by rw [← hw]; omega) e]) | (rw [mkr_f (Or.inl (by rw [← hw]; omega))]; exact hb) | (rw [mkr_f (Or.inr e)]; exact hb)) (by first | (rw [mkr_t (by rw [← hw]; omega) e]) | (rw [mkr_f (Or.inl (by rw [← hw]; omega))]; exact hw) | (rw [mkr_f (Or.inr e)]; exact hw)) hFr40
          · have e := b2i_1 c43
            refine ev_iload (pc := 46) hC dX1_fewestMakers_46 rfl ?_
            refine ev_istore_n (pc := 48) hC dX1_fewestMakers_48 (by rw [hKn]; decide) rfl ?_
            show Ev K 49 [some (.ref 4), some (vi ((n : Nat) : Int)), some (vi b), some (vi ((pop S : Nat) : Int)), some (vi ((S : Nat) : Int)), some (vi ((pop S : Nat) : Int))] [] X40
            refine ev_iload (pc := 49) hC dX1_fewestMakers_49 rfl ?_
            refine ev_istore_n (pc := 51) hC dX1_fewestMakers_51 (by rw [hKn]; decide) rfl ?_
            show Ev K 52 [some (.ref 4), some (vi ((n : Nat) : Int)), some (vi ((S : Nat) : Int)), some (vi ((pop S : Nat) : Int)), some (vi ((S : Nat) : Int)), some (vi ((pop S : Nat) : Int))] [] X40
            refine ev_iinc (pc := 52) hC ((S + 1 : Nat) : Int) dX1_fewestMakers_52 rfl (by omega) (by rw [hKn]; decide) rfl ?_
            show Ev K 55 [some (.ref 4), some (vi ((n : Nat) : Int)), some (vi ((S : Nat) : Int)), some (vi ((pop S : Nat) : Int)), some (vi ((S + 1 : Nat) : Int)), some (vi ((pop S : Nat) : Int))] [] X40
            refine ev_goto (pc := 55) hC 9 dX1_fewestMakers_55 (by decide) ?_
            refine ev_drop 5 ?_
            show Ev K 9 [some (.ref 4), some (vi ((n : Nat) : Int)), some (vi ((S : Nat) : Int)), some (vi ((pop S : Nat) : Int)), some (vi ((S + 1 : Nat) : Int)), none] [] X40
            exact ih9 (S + 1) ((S : Nat) : Int) (pop S) X40 (by omega) (by omega) (by first | (rw [mkr_t (by rw [← hw]; omega) e]) | (rw [mkr_f (Or.inl (by rw [← hw]; omega))]; exact hb) | (rw [mkr_f (Or.inr e)]; exact hb)) (by first | (rw [mkr_t (by rw [← hw]; omega) e]) | (rw [mkr_f (Or.inl (by rw [← hw]; omega))]; exact hw) | (rw [mkr_f (Or.inr e)]; exact hw)) hFr40
  exact lp9 _ 0 (-9) 9 X (Nat.lt_succ_self _) (Nat.zero_le _) rfl rfl (frS_rf 3 X)
theorem mtX1_fewestLeavers : MT yX1_fewestLeavers wsX1_fewestLeavers cX1_fewestLeavers 6 (some .int) 1 := ⟨⟨_, rfl⟩, by decide, by decide, by decide +kernel⟩
set_option maxRecDepth 100000 in
set_option maxHeartbeats 4000000 in
theorem ru_X1_fewestLeavers {X : Mem} {A : Sl} (hA : Rp (vC X 1) A) (n : Nat) (hn : n ≤ 60) : Ru yX1_fewestLeavers wsX1_fewestLeavers 6 161 [.ref 4, vi ((n : Nat) : Int)] X (fun v X' => v = some (vi (mkr (lvP n A) (2 ^ (A 5 0))).1) ∧ frS 3 X X') := by
  refine ru_of (w2 := _) rfl (by decide) [some (.ref 4), some (vi ((n : Nat) : Int)), none, none, none, none] (fun _ => rfl) (fun _ => Nat.le_of_ble_eq_true rfl) ?_
  intro K hKn hC hR
  have wX1 : ∀ w ∈ u_ws RX1 TX1 2, w ∈ wsX1_fewestLeavers := by decide +kernel
  have f9 : Fl K RX1 9 1 0 := fl_of hC RX1 TX1 2 rfl (by decide) wX1 (show Cond.fieldLink RX1 9 "PicnicOfSomebody$Mind" "now" "LPicnicOfSomebody$Slope;" ∈ _ by decide +kernel)
  have wX3 : ∀ w ∈ u_ws RX3 TX3 8, w ∈ wsX1_fewestLeavers := by decide +kernel
  have f28 : Fl K RX1 28 3 6 := fl_of hC RX3 TX3 8 rfl (by decide) wX3 (show Cond.fieldLink RX1 28 "PicnicOfSomebody$Slope" "people" "I" ∈ _ by decide +kernel)
  have hn8 := hA.n8
  have hpw : 2 ^ (A 5 0) ≤ 256 := pow8 hn8
  refine ev_bipush (pc := 0) hC dX1_fewestLeavers_0 (by decide) ?_
  refine ev_istore_n (pc := 2) hC dX1_fewestLeavers_2 (by rw [hKn]; decide) rfl ?_
  show Ev K 3 [some (.ref 4), some (vi ((n : Nat) : Int)), some (vi (-9)), none, none, none] [] X
  refine ev_bipush (pc := 3) hC dX1_fewestLeavers_3 (by decide) ?_
  refine ev_istore_n (pc := 5) hC dX1_fewestLeavers_5 (by rw [hKn]; decide) rfl ?_
  show Ev K 6 [some (.ref 4), some (vi ((n : Nat) : Int)), some (vi (-9)), some (vi 9), none, none] [] X
  refine ev_iconst (pc := 6) hC dX1_fewestLeavers_6 ?_
  refine ev_istore (pc := 7) hC dX1_fewestLeavers_7 (by rw [hKn]; decide) rfl ?_
  show Ev K 9 [some (.ref 4), some (vi ((n : Nat) : Int)), some (vi (-9)), some (vi 9), some (vi 0), none] [] X
  have lp9 : ∀ (fz : Nat) (S : Nat) (b : Int) (w : Nat) (Y : Mem), 2 ^ (A 5 0) - S < fz → (S ≤ 2 ^ (A 5 0)) → (b = (mkr (lvP n A) S).1) → (w = (mkr (lvP n A) S).2) → (frS 3 X Y) → Ev K 9 [some (.ref 4), some (vi ((n : Nat) : Int)), some (vi b), some (vi ((w : Nat) : Int)), some (vi ((S : Nat) : Int)), none] [] Y := by
    intro fz
    induction fz with
    | zero => intro S b w Y hfz; exact absurd hfz (Nat.not_lt_zero _)
    | succ fz ih9 =>
      intro S b w Y hfz hS hb hw hF
      have hN := hA.fr31 hF
      have hwr := mkr_r (lvP n A) S
      refine ev_iload (pc := 9) hC dX1_fewestLeavers_9 rfl ?_
      refine ev_iconst (pc := 11) hC dX1_fewestLeavers_11 ?_
      refine ev_aload_n (pc := 12) hC dX1_fewestLeavers_12 rfl ?_
      refine ev_getr (pc := 13) hC 1 f9 dX1_fewestLeavers_13 (by decide) (by decide) (by decide) (by decide) (by decide) ?_
      refine ev_geti (pc := 16) hC ((A 5 0 : Nat) : Int) f28 dX1_fewestLeavers_16 (by decide) (by decide) (by decide) (by decide) (by decide)  (hN.cn) ?_
      refine ev_ishl (pc := 19) hC ((2 ^ (A 5 0) : Nat) : Int) (zI_shl1 (A 5 0) (by omega)) dX1_fewestLeavers_19 ?_
      refine ev_icmp_ge (pc := 20) hC 58 dX1_fewestLeavers_20 (by decide) (by omega) (by omega) (fun c20 => ?_) (fun c20 => ?_)
      · refine ev_iload_n (pc := 58) hC dX1_fewestLeavers_58 rfl ?_
        exact ev_ireturn (pc := 59) hC hR dX1_fewestLeavers_59 (⟨rv (by rw [hb, show S = 2 ^ (A 5 0) by omega]), hF⟩)
      · refine ev_iload (pc := 23) hC dX1_fewestLeavers_23 rfl ?_
        refine ev_callS (pc := 25) (as := [vi ((S : Nat) : Int)]) (rest := []) hC gX1_fewestLeavers_J6_bitCount_0f7a4 mtJ6_bitCount_0f7a4 dX1_fewestLeavers_25 (ru_J6_bitCount_0f7a4 S (by omega)) (by decide) (by rfl) (Nat.le_of_ble_eq_true rfl) rfl (fun v25 X25 h25 => ?_)
        obtain ⟨rfl, rfl⟩ := h25
        show Ev K 28 [some (.ref 4), some (vi ((n : Nat) : Int)), some (vi b), some (vi ((w : Nat) : Int)), some (vi ((S : Nat) : Int)), none] [vi ((pop S : Nat) : Int)] Y
        have hp25 := pop_le S
        refine ev_istore (pc := 28) hC dX1_fewestLeavers_28 (by rw [hKn]; decide) rfl ?_
        show Ev K 30 [some (.ref 4), some (vi ((n : Nat) : Int)), some (vi b), some (vi ((w : Nat) : Int)), some (vi ((S : Nat) : Int)), some (vi ((pop S : Nat) : Int))] [] Y
        refine ev_iload (pc := 30) hC dX1_fewestLeavers_30 rfl ?_
        refine ev_iload_n (pc := 32) hC dX1_fewestLeavers_32 rfl ?_
        refine ev_icmp_ge (pc := 33) hC 52 dX1_fewestLeavers_33 (by decide) (by omega) (by omega) (fun c33 => ?_) (fun c33 => ?_)
        · refine ev_iinc (pc := 52) hC ((S + 1 : Nat) : Int) dX1_fewestLeavers_52 rfl (by omega) (by rw [hKn]; decide) rfl ?_
          show Ev K 55 [some (.ref 4), some (vi ((n : Nat) : Int)), some (vi b), some (vi ((w : Nat) : Int)), some (vi ((S + 1 : Nat) : Int)), some (vi ((pop S : Nat) : Int))] [] Y
          refine ev_goto (pc := 55) hC 9 dX1_fewestLeavers_55 (by decide) ?_
          refine ev_drop 5 ?_
          show Ev K 9 [some (.ref 4), some (vi ((n : Nat) : Int)), some (vi b), some (vi ((w : Nat) : Int)), some (vi ((S + 1 : Nat) : Int)), none] [] Y
          exact ih9 (S + 1) b w Y (by omega) (by omega) (by first | (rw [mkr_t (by rw [← hw]; omega) e]) | (rw [mkr_f (Or.inl (by rw [← hw]; omega))]; exact hb) | (rw [mkr_f (Or.inr e)]; exact hb)) (by first | (rw [mkr_t (by rw [← hw]; omega) e]) | (rw [mkr_f (Or.inl (by rw [← hw]; omega))]; exact hw) | (rw [mkr_f (Or.inr e)]; exact hw)) hF
        · refine ev_aload_n (pc := 36) hC dX1_fewestLeavers_36 rfl ?_
          refine ev_iload (pc := 37) hC dX1_fewestLeavers_37 rfl ?_
          refine ev_iload_n (pc := 39) hC dX1_fewestLeavers_39 rfl ?_
          refine ev_callV (pc := 40) (as := [vi ((S : Nat) : Int), vi ((n : Nat) : Int)]) (rest := []) hC gX1_fewestLeavers_X1_believersWithout mtX1_believersWithout dX1_fewestLeavers_40 (ru_X1_believersWithout hN S n (by omega) (by omega)) (by decide) (by decide) (by decide) rfl (by rfl) (Nat.le_of_ble_eq_true rfl) rfl (fun v40 X40 h40 => ?_)
          obtain ⟨rfl, hF40⟩ := h40
          show Ev K 43 [some (.ref 4), some (vi ((n : Nat) : Int)), some (vi b), some (vi ((w : Nat) : Int)), some (vi ((S : Nat) : Int)), some (vi ((pop S : Nat) : Int))] [vi ((bcnt 0 (goN 0 n (dropA S A)) : Nat) : Int)] X40
          have hr40 := bcnt_drop_le S n A hn8
          have hN140 := hN.fr31 hF40
          have hFr40 := frS_tr hF hF40
          refine ev_if_ne (pc := 43) hC 52 dX1_fewestLeavers_43 (by decide) (by omega) (fun c43 => ?_) (fun c43 => ?_)
          · have e : lvP n A S = false := decide_eq_false (by omega)
            refine ev_iinc (pc := 52) hC ((S + 1 : Nat) : Int) dX1_fewestLeavers_52 rfl (by omega) (by rw [hKn]; decide) rfl ?_
            show Ev K 55 [some (.ref 4), some (vi ((n : Nat) : Int)), some (vi b), some (vi ((w : Nat) : Int)), some (vi ((S + 1 : Nat) : Int)), some (vi ((pop S : Nat) : Int))] [] X40
            refine ev_goto (pc := 55) hC 9 dX1_fewestLeavers_55 (by decide) ?_
            refine ev_drop 5 ?_
            show Ev K 9 [some (.ref 4), some (vi ((n : Nat) : Int)), some (vi b), some (vi ((w : Nat) : Int)), some (vi ((S + 1 : Nat) : Int)), none] [] X40
            exact ih9 (S + 1) b w X40 (by omega) (by omega) (by first | (rw [mkr_t (by rw [← hw]; omega) e]) | (rw [mkr_f (Or.inl (by rw [← hw]; omega))]; exact hb) | (rw [mkr_f (Or.inr e)]; exact hb)) (by first | (rw [mkr_t (by rw [← hw]; omega) e]) | (rw [mkr_f (Or.inl (by rw [← hw]; omega))]; exact hw) | (rw [mkr_f (Or.inr e)]; exact hw)) hFr40
          · have e : lvP n A S = true := decide_eq_true (by omega)
            refine ev_iload (pc := 46) hC dX1_fewestLeavers_46 rfl ?_
            refine ev_istore_n (pc := 48) hC dX1_fewestLeavers_48 (by rw [hKn]; decide) rfl ?_
            show Ev K 49 [some (.ref 4), some (vi ((n : Nat) : Int)), some (vi b), some (vi ((pop S : Nat) : Int)), some (vi ((S : Nat) : Int)), some (vi ((pop S : Nat) : Int))] [] X40
            refine ev_iload (pc := 49) hC dX1_fewestLeavers_49 rfl ?_
            refine ev_istore_n (pc := 51) hC dX1_fewestLeavers_51 (by rw [hKn]; decide) rfl ?_
            show Ev K 52 [some (.ref 4), some (vi ((n : Nat) : Int)), some (vi ((S : Nat) : Int)), some (vi ((pop S : Nat) : Int)), some (vi ((S : Nat) : Int)), some (vi ((pop S : Nat) : Int))] [] X40
            refine ev_iinc (pc := 52) hC ((S + 1 : Nat) : Int) dX1_fewestLeavers_52 rfl (by omega) (by rw [hKn]; decide) rfl ?_
            show Ev K 55 [some (.ref 4), some (vi ((n : Nat) : Int)), some (vi ((S : Nat) : Int)), some (vi ((pop S : Nat) : Int)), some (vi ((S + 1 : Nat) : Int)), some (vi ((pop S : Nat) : Int))] [] X40
            refine ev_goto (pc := 55) hC 9 dX1_fewestLeavers_55 (by decide) ?_
            refine ev_drop 5 ?_
            show Ev K 9 [some (.ref 4), some (vi ((n : Nat) : Int)), some (vi ((S : Nat) : Int)), some (vi ((pop S : Nat) : Int)), some (vi ((S + 1 : Nat) : Int)), none] [] X40
            exact ih9 (S + 1) ((S : Nat) : Int) (pop S) X40 (by omega) (by omega) (by first | (rw [mkr_t (by rw [← hw]; omega) e]) | (rw [mkr_f (Or.inl (by rw [← hw]; omega))]; exact hb) | (rw [mkr_f (Or.inr e)]; exact hb)) (by first | (rw [mkr_t (by rw [← hw]; omega) e]) | (rw [mkr_f (Or.inl (by rw [← hw]; omega))]; exact hw) | (rw [mkr_f (Or.inr e)]; exact hw)) hFr40
  exact lp9 _ 0 (-9) 9 X (Nat.lt_succ_self _) (Nat.zero_le _) rfl rfl (frS_rf 3 X)
theorem mtX1_whomToAsk : MT yX1_whomToAsk wsX1_whomToAsk cX1_whomToAsk 6 (some .int) 1 := ⟨⟨_, rfl⟩, by decide, by decide, by decide +kernel⟩
set_option maxRecDepth 100000 in
set_option maxHeartbeats 4000000 in
theorem ru_X1_whomToAsk {X : Mem} {A : Sl} (hA : Rp (vC X 1) A) (n : Nat) (hn : n ≤ 60) : Ru yX1_whomToAsk wsX1_whomToAsk 5 139 [.ref 4, vi ((n : Nat) : Int)] X (fun v X' => v = some (vi (mxr (askF n A) (-9) (bcnt 0 (goN 0 n A)) (A 5 0)).1) ∧ frS 3 X X') := by
  refine ru_of (w2 := _) rfl (by decide) [some (.ref 4), some (vi ((n : Nat) : Int)), none, none, none, none] (fun _ => rfl) (fun _ => Nat.le_of_ble_eq_true rfl) ?_
  intro K hKn hC hR
  have wX1 : ∀ w ∈ u_ws RX1 TX1 2, w ∈ wsX1_whomToAsk := by decide +kernel
  have f9 : Fl K RX1 9 1 0 := fl_of hC RX1 TX1 2 rfl (by decide) wX1 (show Cond.fieldLink RX1 9 "PicnicOfSomebody$Mind" "now" "LPicnicOfSomebody$Slope;" ∈ _ by decide +kernel)
  have wX3 : ∀ w ∈ u_ws RX3 TX3 8, w ∈ wsX1_whomToAsk := by decide +kernel
  have f28 : Fl K RX1 28 3 6 := fl_of hC RX3 TX3 8 rfl (by decide) wX3 (show Cond.fieldLink RX1 28 "PicnicOfSomebody$Slope" "people" "I" ∈ _ by decide +kernel)
  have f60 : Fl K RX1 60 3 4 := fl_of hC RX3 TX3 8 rfl (by decide) wX3 (show Cond.fieldLink RX1 60 "PicnicOfSomebody$Slope" "beliefs" "[I" ∈ _ by decide +kernel)
  have f15 : Fl K RX1 15 1 1 := fl_of hC RX1 TX1 2 rfl (by decide) wX1 (show Cond.fieldLink RX1 15 "PicnicOfSomebody$Mind" "thought" "LPicnicOfSomebody$Slope;" ∈ _ by decide +kernel)
  have hn8 := hA.n8
  refine ev_bipush (pc := 0) hC dX1_whomToAsk_0 (by decide) ?_
  refine ev_istore_n (pc := 2) hC dX1_whomToAsk_2 (by rw [hKn]; decide) rfl ?_
  show Ev K 3 [some (.ref 4), some (vi ((n : Nat) : Int)), some (vi (-9)), none, none, none] [] X
  refine ev_aload_n (pc := 3) hC dX1_whomToAsk_3 rfl ?_
  refine ev_callV (pc := 4) (as := []) (rest := []) hC gX1_whomToAsk_X1_think mtX1_think dX1_whomToAsk_4 (ru_X1_think hA) (by decide) (by decide) (by decide) rfl (by rfl) (Nat.le_of_ble_eq_true rfl) rfl (fun v4 X4 h4 => ?_)
  obtain ⟨rfl, hA4, hF4⟩ := h4
  show Ev K 7 [some (.ref 4), some (vi ((n : Nat) : Int)), some (vi (-9)), none, none, none] [.ref 3] X4
  have hN14 := hA.fr31 hF4
  have hFr4 := frS_tr (frS_rf 3 X) hF4
  refine ev_iload_n (pc := 7) hC dX1_whomToAsk_7 rfl ?_
  refine ev_callV (pc := 8) (as := [vi ((n : Nat) : Int)]) (rest := []) hC gX1_whomToAsk_X3_passYears mtX3_passYears dX1_whomToAsk_8 (ru_X3_passYears (s := 3) spl3 hA4 n (by omega)) (by decide) (by decide) (by decide) rfl (by rfl) (Nat.le_of_ble_eq_true rfl) rfl (fun v8 X8 h8 => ?_)
  obtain ⟨rfl, hA8, hF8⟩ := h8
  show Ev K 11 [some (.ref 4), some (vi ((n : Nat) : Int)), some (vi (-9)), none, none, none] [vi ((bcnt 0 (goN 0 n A) : Nat) : Int)] X8
  have hl8 := bcnt_le 0 (goN 0 n A)
  have hn8 := hA8.n8
  have hN18 := hN14.fr31 hF8
  have hFr8 := frS_tr hFr4 hF8
  refine ev_istore_n (pc := 11) hC dX1_whomToAsk_11 (by rw [hKn]; decide) rfl ?_
  show Ev K 12 [some (.ref 4), some (vi ((n : Nat) : Int)), some (vi (-9)), some (vi ((bcnt 0 (goN 0 n A) : Nat) : Int)), none, none] [] X8
  refine ev_iconst (pc := 12) hC dX1_whomToAsk_12 ?_
  refine ev_istore (pc := 13) hC dX1_whomToAsk_13 (by rw [hKn]; decide) rfl ?_
  show Ev K 15 [some (.ref 4), some (vi ((n : Nat) : Int)), some (vi (-9)), some (vi ((bcnt 0 (goN 0 n A) : Nat) : Int)), some (vi 0), none] [] X8
  have lp15 : ∀ (fz : Nat) (i : Nat) (b : Int) (w : Nat) (Y : Mem), A 5 0 - i < fz → (i ≤ A 5 0) → (b = (mxr (askF n A) (-9) (bcnt 0 (goN 0 n A)) i).1) → ((w : Int) = (mxr (askF n A) (-9) (bcnt 0 (goN 0 n A)) i).2) → (w ≤ 8) → (frS 3 X Y) → Ev K 15 [some (.ref 4), some (vi ((n : Nat) : Int)), some (vi b), some (vi ((w : Nat) : Int)), some (vi ((i : Nat) : Int)), none] [] Y := by
    intro fz
    induction fz with
    | zero => intro i b w Y hfz; exact absurd hfz (Nat.not_lt_zero _)
    | succ fz ih15 =>
      intro i b w Y hfz hi hb hw hwl hF
      have hN := hA.fr31 hF
      refine ev_iload (pc := 15) hC dX1_whomToAsk_15 rfl ?_
      refine ev_aload_n (pc := 17) hC dX1_whomToAsk_17 rfl ?_
      refine ev_getr (pc := 18) hC 1 f9 dX1_whomToAsk_18 (by decide) (by decide) (by decide) (by decide) (by decide) ?_
      refine ev_geti (pc := 21) hC ((A 5 0 : Nat) : Int) f28 dX1_whomToAsk_21 (by decide) (by decide) (by decide) (by decide) (by decide)  (hN.cn) ?_
      refine ev_icmp_ge (pc := 24) hC 67 dX1_whomToAsk_24 (by decide) (by omega) (by omega) (fun c24 => ?_) (fun c24 => ?_)
      · refine ev_iload_n (pc := 67) hC dX1_whomToAsk_67 rfl ?_
        exact ev_ireturn (pc := 68) hC hR dX1_whomToAsk_68 (⟨rv (by rw [hb, show i = A 5 0 by omega]), hF⟩)
      · refine ev_aload_n (pc := 27) hC dX1_whomToAsk_27 rfl ?_
        refine ev_callV (pc := 28) (as := []) (rest := []) hC gX1_whomToAsk_X1_think mtX1_think dX1_whomToAsk_28 (ru_X1_think hN) (by decide) (by decide) (by decide) rfl (by rfl) (Nat.le_of_ble_eq_true rfl) rfl (fun v28 X28 h28 => ?_)
        obtain ⟨rfl, hA28, hF28⟩ := h28
        show Ev K 31 [some (.ref 4), some (vi ((n : Nat) : Int)), some (vi b), some (vi ((w : Nat) : Int)), some (vi ((i : Nat) : Int)), none] [.ref 3] X28
        have hN128 := hN.fr31 hF28
        have hFr28 := frS_tr hF hF28
        refine ev_getr (pc := 31) hC 27 f60 dX1_whomToAsk_31 (by decide) (by decide) (by decide) (by decide) (by decide) ?_
        refine ev_iload (pc := 34) hC dX1_whomToAsk_34 rfl ?_
        refine ev_bipush (pc := 36) hC dX1_whomToAsk_36 (by decide) ?_
        refine ev_iast (pc := 38) hC i (by decide) (by decide) (rfl) (by have := (show alen 27 = 8 from rfl); omega) dX1_whomToAsk_38 ?_
        have hA38 : Rp (vC (mset X28 27 i (zI 9)) 3) (setR A 4 i 9) := Rp.setC4 (s := 3) (v := 9) hA28 spl3 (by omega)
        have hFr38 := frS_set (s := 3) (r := 4) (i := i) (v := zI 9) hFr28 (by omega)
        have hN138 := hA.fr31 hFr38
        refine ev_aload_n (pc := 39) hC dX1_whomToAsk_39 rfl ?_
        refine ev_getr (pc := 40) hC 3 f15 dX1_whomToAsk_40 (by decide) (by decide) (by decide) (by decide) (by decide) ?_
        refine ev_iload_n (pc := 43) hC dX1_whomToAsk_43 rfl ?_
        refine ev_callV (pc := 44) (as := [vi ((n : Nat) : Int)]) (rest := []) hC gX1_whomToAsk_X3_passYears mtX3_passYears dX1_whomToAsk_44 (ru_X3_passYears (s := 3) spl3 hA38 n (by omega)) (by decide) (by decide) (by decide) rfl (by rfl) (Nat.le_of_ble_eq_true rfl) rfl (fun v44 X44 h44 => ?_)
        obtain ⟨rfl, hA44, hF44⟩ := h44
        show Ev K 47 [some (.ref 4), some (vi ((n : Nat) : Int)), some (vi b), some (vi ((w : Nat) : Int)), some (vi ((i : Nat) : Int)), none] [vi ((bcnt 0 (goN 0 n (setR A 4 i 9)) : Nat) : Int)] X44
        have hl44 := bcnt_le 0 (goN 0 n (setR A 4 i 9))
        have hn44 := hA44.n8
        have hN144 := hN138.fr31 hF44
        have hFr44 := frS_tr hFr38 hF44
        refine ev_istore (pc := 47) hC dX1_whomToAsk_47 (by rw [hKn]; decide) rfl ?_
        show Ev K 49 [some (.ref 4), some (vi ((n : Nat) : Int)), some (vi b), some (vi ((w : Nat) : Int)), some (vi ((i : Nat) : Int)), some (vi ((bcnt 0 (goN 0 n (setR A 4 i 9)) : Nat) : Int))] [] X44
        refine ev_iload (pc := 49) hC dX1_whomToAsk_49 rfl ?_
        refine ev_iload_n (pc := 51) hC dX1_whomToAsk_51 rfl ?_
        refine ev_icmp_le (pc := 52) hC 61 dX1_whomToAsk_52 (by decide) (by omega) (by omega) (fun c52 => ?_) (fun c52 => ?_)
        · refine ev_iinc (pc := 61) hC ((i + 1 : Nat) : Int) dX1_whomToAsk_61 rfl (by omega) (by rw [hKn]; decide) rfl ?_
          show Ev K 64 [some (.ref 4), some (vi ((n : Nat) : Int)), some (vi b), some (vi ((w : Nat) : Int)), some (vi ((i + 1 : Nat) : Int)), some (vi ((bcnt 0 (goN 0 n (setR A 4 i 9)) : Nat) : Int))] [] X44
          refine ev_goto (pc := 64) hC 15 dX1_whomToAsk_64 (by decide) ?_
          refine ev_drop 5 ?_
          show Ev K 15 [some (.ref 4), some (vi ((n : Nat) : Int)), some (vi b), some (vi ((w : Nat) : Int)), some (vi ((i + 1 : Nat) : Int)), none] [] X44
          exact ih15 (i + 1) b w X44 (by omega) (by omega) (by first | (rw [mxr_t (by rw [← hw]; unfold askF; omega)]) | (rw [mxr_f (by rw [← hw]; unfold askF; omega)]; exact hb)) (by first | (rw [mxr_t (by rw [← hw]; unfold askF; omega)]; rfl) | (rw [mxr_f (by rw [← hw]; unfold askF; omega)]; exact hw)) (by omega) hFr44
        · refine ev_iload (pc := 55) hC dX1_whomToAsk_55 rfl ?_
          refine ev_istore_n (pc := 57) hC dX1_whomToAsk_57 (by rw [hKn]; decide) rfl ?_
          show Ev K 58 [some (.ref 4), some (vi ((n : Nat) : Int)), some (vi b), some (vi ((bcnt 0 (goN 0 n (setR A 4 i 9)) : Nat) : Int)), some (vi ((i : Nat) : Int)), some (vi ((bcnt 0 (goN 0 n (setR A 4 i 9)) : Nat) : Int))] [] X44
          refine ev_iload (pc := 58) hC dX1_whomToAsk_58 rfl ?_
          refine ev_istore_n (pc := 60) hC dX1_whomToAsk_60 (by rw [hKn]; decide) rfl ?_
          show Ev K 61 [some (.ref 4), some (vi ((n : Nat) : Int)), some (vi ((i : Nat) : Int)), some (vi ((bcnt 0 (goN 0 n (setR A 4 i 9)) : Nat) : Int)), some (vi ((i : Nat) : Int)), some (vi ((bcnt 0 (goN 0 n (setR A 4 i 9)) : Nat) : Int))] [] X44
          refine ev_iinc (pc := 61) hC ((i + 1 : Nat) : Int) dX1_whomToAsk_61 rfl (by omega) (by rw [hKn]; decide) rfl ?_
          show Ev K 64 [some (.ref 4), some (vi ((n : Nat) : Int)), some (vi ((i : Nat) : Int)), some (vi ((bcnt 0 (goN 0 n (setR A 4 i 9)) : Nat) : Int)), some (vi ((i + 1 : Nat) : Int)), some (vi ((bcnt 0 (goN 0 n (setR A 4 i 9)) : Nat) : Int))] [] X44
          refine ev_goto (pc := 64) hC 15 dX1_whomToAsk_64 (by decide) ?_
          refine ev_drop 5 ?_
          show Ev K 15 [some (.ref 4), some (vi ((n : Nat) : Int)), some (vi ((i : Nat) : Int)), some (vi ((bcnt 0 (goN 0 n (setR A 4 i 9)) : Nat) : Int)), some (vi ((i + 1 : Nat) : Int)), none] [] X44
          exact ih15 (i + 1) ((i : Nat) : Int) (bcnt 0 (goN 0 n (setR A 4 i 9))) X44 (by omega) (by omega) (by first | (rw [mxr_t (by rw [← hw]; unfold askF; omega)]) | (rw [mxr_f (by rw [← hw]; unfold askF; omega)]; exact hb)) (by first | (rw [mxr_t (by rw [← hw]; unfold askF; omega)]; rfl) | (rw [mxr_f (by rw [← hw]; unfold askF; omega)]; exact hw)) (by omega) hFr44
  exact lp15 _ 0 (-9) (bcnt 0 (goN 0 n A)) X8 (Nat.lt_succ_self _) (by omega) rfl rfl (by omega) hFr8
theorem mtX1_beliefFrom : MT yX1_beliefFrom wsX1_beliefFrom cX1_beliefFrom 4 (some .int) 3 := ⟨⟨_, rfl⟩, by decide, by decide, by decide +kernel⟩
set_option maxRecDepth 100000 in
set_option maxHeartbeats 4000000 in
theorem ru_X1_beliefFrom {X : Mem} {A : Sl} (hA : Rp (vC X 1) A) (ce p n : Nat) (hc : ce < 25) (hp : p < A 5 0) (hn : n ≤ 60) : Ru yX1_beliefFrom wsX1_beliefFrom 5 139 [.ref 4, vi ((ce : Nat) : Int), vi ((p : Nat) : Int), vi ((n : Nat) : Int)] X (fun v X' => v = some (vi (sitF p n A ce)) ∧ frS 3 X X') := by
  refine ru_of (w2 := _) rfl (by decide) [some (.ref 4), some (vi ((ce : Nat) : Int)), some (vi ((p : Nat) : Int)), some (vi ((n : Nat) : Int))] (fun _ => rfl) (fun _ => Nat.le_of_ble_eq_true rfl) ?_
  intro K hKn hC hR
  have wX3 : ∀ w ∈ u_ws RX3 TX3 8, w ∈ wsX1_beliefFrom := by decide +kernel
  have f79 : Fl K RX1 79 3 3 := fl_of hC RX3 TX3 8 rfl (by decide) wX3 (show Cond.fieldLink RX1 79 "PicnicOfSomebody$Slope" "cells" "[I" ∈ _ by decide +kernel)
  have wX1 : ∀ w ∈ u_ws RX1 TX1 2, w ∈ wsX1_beliefFrom := by decide +kernel
  have f15 : Fl K RX1 15 1 1 := fl_of hC RX1 TX1 2 rfl (by decide) wX1 (show Cond.fieldLink RX1 15 "PicnicOfSomebody$Mind" "thought" "LPicnicOfSomebody$Slope;" ∈ _ by decide +kernel)
  have f60 : Fl K RX1 60 3 4 := fl_of hC RX3 TX3 8 rfl (by decide) wX3 (show Cond.fieldLink RX1 60 "PicnicOfSomebody$Slope" "beliefs" "[I" ∈ _ by decide +kernel)
  have hn8 := hA.n8
  refine ev_aload_n (pc := 0) hC dX1_beliefFrom_0 rfl ?_
  refine ev_callV (pc := 1) (as := []) (rest := []) hC gX1_beliefFrom_X1_think mtX1_think dX1_beliefFrom_1 (ru_X1_think hA) (by decide) (by decide) (by decide) rfl (by rfl) (Nat.le_of_ble_eq_true rfl) rfl (fun v1 X1 h1 => ?_)
  obtain ⟨rfl, hA1, hF1⟩ := h1
  show Ev K 4 [some (.ref 4), some (vi ((ce : Nat) : Int)), some (vi ((p : Nat) : Int)), some (vi ((n : Nat) : Int))] [.ref 3] X1
  have hN11 := hA.fr31 hF1
  have hFr1 := frS_tr (frS_rf 3 X) hF1
  refine ev_getr (pc := 4) hC 26 f79 dX1_beliefFrom_4 (by decide) (by decide) (by decide) (by decide) (by decide) ?_
  refine ev_iload_n (pc := 7) hC dX1_beliefFrom_7 rfl ?_
  refine ev_iload_n (pc := 8) hC dX1_beliefFrom_8 rfl ?_
  refine ev_iast (pc := 9) hC p (by decide) (by decide) (rfl) (by have := (show alen 26 = 8 from rfl); omega) dX1_beliefFrom_9 ?_
  have hA9 : Rp (vC (mset X1 26 p (zI ((ce : Nat) : Int))) 3) (setR A 3 p ce) := Rp.setC3 (s := 3) (v := ce) hA1 spl3 (by omega)
  have hFr9 := frS_set (s := 3) (r := 3) (i := p) (v := zI ((ce : Nat) : Int)) hFr1 (by omega)
  have hN19 := hA.fr31 hFr9
  refine ev_aload_n (pc := 10) hC dX1_beliefFrom_10 rfl ?_
  refine ev_getr (pc := 11) hC 3 f15 dX1_beliefFrom_11 (by decide) (by decide) (by decide) (by decide) (by decide) ?_
  refine ev_iload_n (pc := 14) hC dX1_beliefFrom_14 rfl ?_
  refine ev_callV (pc := 15) (as := [vi ((n : Nat) : Int)]) (rest := []) hC gX1_beliefFrom_X3_passYears mtX3_passYears dX1_beliefFrom_15 (ru_X3_passYears (s := 3) spl3 hA9 n (by omega)) (by decide) (by decide) (by decide) rfl (by rfl) (Nat.le_of_ble_eq_true rfl) rfl (fun v15 X15 h15 => ?_)
  obtain ⟨rfl, hA15, hF15⟩ := h15
  show Ev K 18 [some (.ref 4), some (vi ((ce : Nat) : Int)), some (vi ((p : Nat) : Int)), some (vi ((n : Nat) : Int))] [vi ((bcnt 0 (goN 0 n (setR A 3 p ce)) : Nat) : Int)] X15
  have hl15 := bcnt_le 0 (goN 0 n (setR A 3 p ce))
  have hn15 := hA15.n8
  have hN115 := hN19.fr31 hF15
  have hFr15 := frS_tr hFr9 hF15
  refine ev_pop (pc := 18) hC rfl dX1_beliefFrom_18 ?_
  refine ev_aload_n (pc := 19) hC dX1_beliefFrom_19 rfl ?_
  refine ev_getr (pc := 20) hC 3 f15 dX1_beliefFrom_20 (by decide) (by decide) (by decide) (by decide) (by decide) ?_
  refine ev_getr (pc := 23) hC 27 f60 dX1_beliefFrom_23 (by decide) (by decide) (by decide) (by decide) (by decide) ?_
  refine ev_iload_n (pc := 26) hC dX1_beliefFrom_26 rfl ?_
  have hgn := goN_n 0 (setR A 3 p ce) n
  have hgp : p < goN 0 n (setR A 3 p ce) 5 0 := by rw [hgn]; exact hp
  have hb27 := hA15.b9 p (by omega)
  refine ev_iald (pc := 27) hC p (((goN 0 n (setR A 3 p ce)) 4 p : Nat) : Int) (by decide) (by decide) (rfl) (by have := (show alen 27 = 8 from rfl); omega) (hA15.c4 p (by omega)) dX1_beliefFrom_27 ?_
  exact ev_ireturn (pc := 28) hC hR dX1_beliefFrom_28 (⟨rfl, hFr15⟩)
theorem mtX1_bestCell : MT yX1_bestCell wsX1_bestCell cX1_bestCell 7 (some .int) 2 := ⟨⟨_, rfl⟩, by decide, by decide, by decide +kernel⟩
set_option maxRecDepth 100000 in
set_option maxHeartbeats 4000000 in
theorem ru_X1_bestCell {X : Mem} {A : Sl} (hA : Rp (vC X 1) A) (p n : Nat) (hp : p < A 5 0) (hn : n ≤ 60) : Ru yX1_bestCell wsX1_bestCell 6 162 [.ref 4, vi ((p : Nat) : Int), vi ((n : Nat) : Int)] X (fun v X' => v = some (vi (((mxr (sitF p n A) 0 (-1) 25).1.toNat : Nat) : Int)) ∧ frS 3 X X') := by
  refine ru_of (w2 := _) rfl (by decide) [some (.ref 4), some (vi ((p : Nat) : Int)), some (vi ((n : Nat) : Int)), none, none, none, none] (fun _ => rfl) (fun _ => Nat.le_of_ble_eq_true rfl) ?_
  intro K hKn hC hR
  have hn8 := hA.n8
  refine ev_iconst (pc := 0) hC dX1_bestCell_0 ?_
  refine ev_istore_n (pc := 1) hC dX1_bestCell_1 (by rw [hKn]; decide) rfl ?_
  show Ev K 2 [some (.ref 4), some (vi ((p : Nat) : Int)), some (vi ((n : Nat) : Int)), some (vi 0), none, none, none] [] X
  refine ev_iconst (pc := 2) hC dX1_bestCell_2 ?_
  refine ev_istore (pc := 3) hC dX1_bestCell_3 (by rw [hKn]; decide) rfl ?_
  show Ev K 5 [some (.ref 4), some (vi ((p : Nat) : Int)), some (vi ((n : Nat) : Int)), some (vi 0), some (vi (-1)), none, none] [] X
  refine ev_iconst (pc := 5) hC dX1_bestCell_5 ?_
  refine ev_istore (pc := 6) hC dX1_bestCell_6 (by rw [hKn]; decide) rfl ?_
  show Ev K 8 [some (.ref 4), some (vi ((p : Nat) : Int)), some (vi ((n : Nat) : Int)), some (vi 0), some (vi (-1)), some (vi 0), none] [] X
  have lp8 : ∀ (fz : Nat) (i : Nat) (b : Int) (w : Int) (Y : Mem), 25 - i < fz → (i ≤ 25) → (b = (mxr (sitF p n A) 0 (-1) i).1) → (w = (mxr (sitF p n A) 0 (-1) i).2) → (-1 ≤ w ∧ w ≤ 9) → (frS 3 X Y) → Ev K 8 [some (.ref 4), some (vi ((p : Nat) : Int)), some (vi ((n : Nat) : Int)), some (vi b), some (vi w), some (vi ((i : Nat) : Int)), none] [] Y := by
    intro fz
    induction fz with
    | zero => intro i b w Y hfz; exact absurd hfz (Nat.not_lt_zero _)
    | succ fz ih8 =>
      intro i b w Y hfz hi hb hw hwl hF
      have hN := hA.fr31 hF
      refine ev_iload (pc := 8) hC dX1_bestCell_8 rfl ?_
      refine ev_bipush (pc := 10) hC dX1_bestCell_10 (by decide) ?_
      refine ev_icmp_ge (pc := 12) hC 45 dX1_bestCell_12 (by decide) (by omega) (by omega) (fun c12 => ?_) (fun c12 => ?_)
      · refine ev_iload_n (pc := 45) hC dX1_bestCell_45 rfl ?_
        exact ev_ireturn (pc := 46) hC hR dX1_bestCell_46 (⟨rv (by rw [hb, show i = 25 by omega]; exact (Int.toNat_of_nonneg (best_r hA.ok hp).1).symm), hF⟩)
      · refine ev_aload_n (pc := 15) hC dX1_bestCell_15 rfl ?_
        refine ev_iload (pc := 16) hC dX1_bestCell_16 rfl ?_
        refine ev_iload_n (pc := 18) hC dX1_bestCell_18 rfl ?_
        refine ev_iload_n (pc := 19) hC dX1_bestCell_19 rfl ?_
        refine ev_callV (pc := 20) (as := [vi ((i : Nat) : Int), vi ((p : Nat) : Int), vi ((n : Nat) : Int)]) (rest := []) hC gX1_bestCell_X1_beliefFrom mtX1_beliefFrom dX1_bestCell_20 (ru_X1_beliefFrom hN i p n (by omega) (by omega) (by omega)) (by decide) (by decide) (by decide) rfl (by rfl) (Nat.le_of_ble_eq_true rfl) rfl (fun v20 X20 h20 => ?_)
        obtain ⟨rfl, hF20⟩ := h20
        show Ev K 23 [some (.ref 4), some (vi ((p : Nat) : Int)), some (vi ((n : Nat) : Int)), some (vi b), some (vi w), some (vi ((i : Nat) : Int)), none] [vi (sitF p n A i)] X20
        have hr20 := sitF_r (n := n) hA.ok (show p < _ by omega) (show i < 25 by omega)
        have hN120 := hN.fr31 hF20
        have hFr20 := frS_tr hF hF20
        refine ev_istore (pc := 23) hC dX1_bestCell_23 (by rw [hKn]; decide) rfl ?_
        show Ev K 25 [some (.ref 4), some (vi ((p : Nat) : Int)), some (vi ((n : Nat) : Int)), some (vi b), some (vi w), some (vi ((i : Nat) : Int)), some (vi (sitF p n A i))] [] X20
        refine ev_iload (pc := 25) hC dX1_bestCell_25 rfl ?_
        refine ev_iload (pc := 27) hC dX1_bestCell_27 rfl ?_
        refine ev_icmp_le (pc := 29) hC 39 dX1_bestCell_29 (by decide) (by omega) (by omega) (fun c29 => ?_) (fun c29 => ?_)
        · refine ev_iinc (pc := 39) hC ((i + 1 : Nat) : Int) dX1_bestCell_39 rfl (by omega) (by rw [hKn]; decide) rfl ?_
          show Ev K 42 [some (.ref 4), some (vi ((p : Nat) : Int)), some (vi ((n : Nat) : Int)), some (vi b), some (vi w), some (vi ((i + 1 : Nat) : Int)), some (vi (sitF p n A i))] [] X20
          refine ev_goto (pc := 42) hC 8 dX1_bestCell_42 (by decide) ?_
          refine ev_drop 6 ?_
          show Ev K 8 [some (.ref 4), some (vi ((p : Nat) : Int)), some (vi ((n : Nat) : Int)), some (vi b), some (vi w), some (vi ((i + 1 : Nat) : Int)), none] [] X20
          exact ih8 (i + 1) b w X20 (by omega) (by omega) (by first | (rw [mxr_t (by rw [← hw]; omega)]) | (rw [mxr_f (by rw [← hw]; omega)]; exact hb)) (by first | (rw [mxr_t (by rw [← hw]; omega)]) | (rw [mxr_f (by rw [← hw]; omega)]; exact hw)) (by omega) hFr20
        · refine ev_iload (pc := 32) hC dX1_bestCell_32 rfl ?_
          refine ev_istore (pc := 34) hC dX1_bestCell_34 (by rw [hKn]; decide) rfl ?_
          show Ev K 36 [some (.ref 4), some (vi ((p : Nat) : Int)), some (vi ((n : Nat) : Int)), some (vi b), some (vi (sitF p n A i)), some (vi ((i : Nat) : Int)), some (vi (sitF p n A i))] [] X20
          refine ev_iload (pc := 36) hC dX1_bestCell_36 rfl ?_
          refine ev_istore_n (pc := 38) hC dX1_bestCell_38 (by rw [hKn]; decide) rfl ?_
          show Ev K 39 [some (.ref 4), some (vi ((p : Nat) : Int)), some (vi ((n : Nat) : Int)), some (vi ((i : Nat) : Int)), some (vi (sitF p n A i)), some (vi ((i : Nat) : Int)), some (vi (sitF p n A i))] [] X20
          refine ev_iinc (pc := 39) hC ((i + 1 : Nat) : Int) dX1_bestCell_39 rfl (by omega) (by rw [hKn]; decide) rfl ?_
          show Ev K 42 [some (.ref 4), some (vi ((p : Nat) : Int)), some (vi ((n : Nat) : Int)), some (vi ((i : Nat) : Int)), some (vi (sitF p n A i)), some (vi ((i + 1 : Nat) : Int)), some (vi (sitF p n A i))] [] X20
          refine ev_goto (pc := 42) hC 8 dX1_bestCell_42 (by decide) ?_
          refine ev_drop 6 ?_
          show Ev K 8 [some (.ref 4), some (vi ((p : Nat) : Int)), some (vi ((n : Nat) : Int)), some (vi ((i : Nat) : Int)), some (vi (sitF p n A i)), some (vi ((i + 1 : Nat) : Int)), none] [] X20
          exact ih8 (i + 1) ((i : Nat) : Int) (sitF p n A i) X20 (by omega) (by omega) (by first | (rw [mxr_t (by rw [← hw]; omega)]) | (rw [mxr_f (by rw [← hw]; omega)]; exact hb)) (by first | (rw [mxr_t (by rw [← hw]; omega)]) | (rw [mxr_f (by rw [← hw]; omega)]; exact hw)) (by omega) hFr20
  exact lp8 _ 0 0 (-1) X (Nat.lt_succ_self _) (by omega) rfl rfl (by omega) (frS_rf 3 X)
theorem mtX1_worstDoubter : MT yX1_worstDoubter wsX1_worstDoubter cX1_worstDoubter 6 (some .int) 1 := ⟨⟨_, rfl⟩, by decide, by decide, by decide +kernel⟩
set_option maxRecDepth 100000 in
set_option maxHeartbeats 4000000 in
theorem ru_X1_worstDoubter {X : Mem} {A : Sl} (hA : Rp (vC X 1) A) (n : Nat) (hn : n ≤ 60) : Ru yX1_worstDoubter wsX1_worstDoubter 5 139 [.ref 4, vi ((n : Nat) : Int)] X (fun v X' => v = some (vi (mnr (dbtF n A) 9 (A 5 0)).1) ∧ frS 3 X X') := by
  refine ru_of (w2 := _) rfl (by decide) [some (.ref 4), some (vi ((n : Nat) : Int)), none, none, none, none] (fun _ => rfl) (fun _ => Nat.le_of_ble_eq_true rfl) ?_
  intro K hKn hC hR
  have wX1 : ∀ w ∈ u_ws RX1 TX1 2, w ∈ wsX1_worstDoubter := by decide +kernel
  have f9 : Fl K RX1 9 1 0 := fl_of hC RX1 TX1 2 rfl (by decide) wX1 (show Cond.fieldLink RX1 9 "PicnicOfSomebody$Mind" "now" "LPicnicOfSomebody$Slope;" ∈ _ by decide +kernel)
  have wX3 : ∀ w ∈ u_ws RX3 TX3 8, w ∈ wsX1_worstDoubter := by decide +kernel
  have f28 : Fl K RX1 28 3 6 := fl_of hC RX3 TX3 8 rfl (by decide) wX3 (show Cond.fieldLink RX1 28 "PicnicOfSomebody$Slope" "people" "I" ∈ _ by decide +kernel)
  have f82 : Fl K RX1 82 3 1 := fl_of hC RX3 TX3 8 rfl (by decide) wX3 (show Cond.fieldLink RX1 82 "PicnicOfSomebody$Slope" "kinds" "[I" ∈ _ by decide +kernel)
  have f15 : Fl K RX1 15 1 1 := fl_of hC RX1 TX1 2 rfl (by decide) wX1 (show Cond.fieldLink RX1 15 "PicnicOfSomebody$Mind" "thought" "LPicnicOfSomebody$Slope;" ∈ _ by decide +kernel)
  have hn8 := hA.n8
  refine ev_bipush (pc := 0) hC dX1_worstDoubter_0 (by decide) ?_
  refine ev_istore_n (pc := 2) hC dX1_worstDoubter_2 (by rw [hKn]; decide) rfl ?_
  show Ev K 3 [some (.ref 4), some (vi ((n : Nat) : Int)), some (vi (-9)), none, none, none] [] X
  refine ev_bipush (pc := 3) hC dX1_worstDoubter_3 (by decide) ?_
  refine ev_istore_n (pc := 5) hC dX1_worstDoubter_5 (by rw [hKn]; decide) rfl ?_
  show Ev K 6 [some (.ref 4), some (vi ((n : Nat) : Int)), some (vi (-9)), some (vi 9), none, none] [] X
  refine ev_iconst (pc := 6) hC dX1_worstDoubter_6 ?_
  refine ev_istore (pc := 7) hC dX1_worstDoubter_7 (by rw [hKn]; decide) rfl ?_
  show Ev K 9 [some (.ref 4), some (vi ((n : Nat) : Int)), some (vi (-9)), some (vi 9), some (vi 0), none] [] X
  have lp9 : ∀ (fz : Nat) (i : Nat) (b : Int) (w : Nat) (Y : Mem), A 5 0 - i < fz → (i ≤ A 5 0) → (b = (mnr (dbtF n A) 9 i).1) → ((w : Int) = (mnr (dbtF n A) 9 i).2) → (w ≤ 9) → (frS 3 X Y) → Ev K 9 [some (.ref 4), some (vi ((n : Nat) : Int)), some (vi b), some (vi ((w : Nat) : Int)), some (vi ((i : Nat) : Int)), none] [] Y := by
    intro fz
    induction fz with
    | zero => intro i b w Y hfz; exact absurd hfz (Nat.not_lt_zero _)
    | succ fz ih9 =>
      intro i b w Y hfz hi hb hw hwl hF
      have hN := hA.fr31 hF
      refine ev_iload (pc := 9) hC dX1_worstDoubter_9 rfl ?_
      refine ev_aload_n (pc := 11) hC dX1_worstDoubter_11 rfl ?_
      refine ev_getr (pc := 12) hC 1 f9 dX1_worstDoubter_12 (by decide) (by decide) (by decide) (by decide) (by decide) ?_
      refine ev_geti (pc := 15) hC ((A 5 0 : Nat) : Int) f28 dX1_worstDoubter_15 (by decide) (by decide) (by decide) (by decide) (by decide)  (hN.cn) ?_
      refine ev_icmp_ge (pc := 18) hC 60 dX1_worstDoubter_18 (by decide) (by omega) (by omega) (fun c18 => ?_) (fun c18 => ?_)
      · refine ev_iload_n (pc := 60) hC dX1_worstDoubter_60 rfl ?_
        exact ev_ireturn (pc := 61) hC hR dX1_worstDoubter_61 (⟨rv (by rw [hb, show i = A 5 0 by omega]), hF⟩)
      · refine ev_aload_n (pc := 21) hC dX1_worstDoubter_21 rfl ?_
        refine ev_callV (pc := 22) (as := []) (rest := []) hC gX1_worstDoubter_X1_think mtX1_think dX1_worstDoubter_22 (ru_X1_think hN) (by decide) (by decide) (by decide) rfl (by rfl) (Nat.le_of_ble_eq_true rfl) rfl (fun v22 X22 h22 => ?_)
        obtain ⟨rfl, hA22, hF22⟩ := h22
        show Ev K 25 [some (.ref 4), some (vi ((n : Nat) : Int)), some (vi b), some (vi ((w : Nat) : Int)), some (vi ((i : Nat) : Int)), none] [.ref 3] X22
        have hN122 := hN.fr31 hF22
        have hFr22 := frS_tr hF hF22
        refine ev_getr (pc := 25) hC 24 f82 dX1_worstDoubter_25 (by decide) (by decide) (by decide) (by decide) (by decide) ?_
        refine ev_iload (pc := 28) hC dX1_worstDoubter_28 rfl ?_
        refine ev_iconst (pc := 30) hC dX1_worstDoubter_30 ?_
        refine ev_iast (pc := 31) hC i (by decide) (by decide) (rfl) (by have := (show alen 24 = 8 from rfl); omega) dX1_worstDoubter_31 ?_
        have hA31 : Rp (vC (mset X22 24 i (zI 3)) 3) (setR A 1 i 3) := Rp.setC1 (s := 3) (v := 3) hA22 spl3 (by omega)
        have hFr31 := frS_set (s := 3) (r := 1) (i := i) (v := zI 3) hFr22 (by omega)
        have hN131 := hA.fr31 hFr31
        refine ev_aload_n (pc := 32) hC dX1_worstDoubter_32 rfl ?_
        refine ev_getr (pc := 33) hC 3 f15 dX1_worstDoubter_33 (by decide) (by decide) (by decide) (by decide) (by decide) ?_
        refine ev_iload_n (pc := 36) hC dX1_worstDoubter_36 rfl ?_
        refine ev_callV (pc := 37) (as := [vi ((n : Nat) : Int)]) (rest := []) hC gX1_worstDoubter_X3_passYears mtX3_passYears dX1_worstDoubter_37 (ru_X3_passYears (s := 3) spl3 hA31 n (by omega)) (by decide) (by decide) (by decide) rfl (by rfl) (Nat.le_of_ble_eq_true rfl) rfl (fun v37 X37 h37 => ?_)
        obtain ⟨rfl, hA37, hF37⟩ := h37
        show Ev K 40 [some (.ref 4), some (vi ((n : Nat) : Int)), some (vi b), some (vi ((w : Nat) : Int)), some (vi ((i : Nat) : Int)), none] [vi ((bcnt 0 (goN 0 n (setR A 1 i 3)) : Nat) : Int)] X37
        have hl37 := bcnt_le 0 (goN 0 n (setR A 1 i 3))
        have hn37 := hA37.n8
        have hN137 := hN131.fr31 hF37
        have hFr37 := frS_tr hFr31 hF37
        refine ev_istore (pc := 40) hC dX1_worstDoubter_40 (by rw [hKn]; decide) rfl ?_
        show Ev K 42 [some (.ref 4), some (vi ((n : Nat) : Int)), some (vi b), some (vi ((w : Nat) : Int)), some (vi ((i : Nat) : Int)), some (vi ((bcnt 0 (goN 0 n (setR A 1 i 3)) : Nat) : Int))] [] X37
        refine ev_iload (pc := 42) hC dX1_worstDoubter_42 rfl ?_
        refine ev_iload_n (pc := 44) hC dX1_worstDoubter_44 rfl ?_
        refine ev_icmp_ge (pc := 45) hC 54 dX1_worstDoubter_45 (by decide) (by omega) (by omega) (fun c45 => ?_) (fun c45 => ?_)
        · refine ev_iinc (pc := 54) hC ((i + 1 : Nat) : Int) dX1_worstDoubter_54 rfl (by omega) (by rw [hKn]; decide) rfl ?_
          show Ev K 57 [some (.ref 4), some (vi ((n : Nat) : Int)), some (vi b), some (vi ((w : Nat) : Int)), some (vi ((i + 1 : Nat) : Int)), some (vi ((bcnt 0 (goN 0 n (setR A 1 i 3)) : Nat) : Int))] [] X37
          refine ev_goto (pc := 57) hC 9 dX1_worstDoubter_57 (by decide) ?_
          refine ev_drop 5 ?_
          show Ev K 9 [some (.ref 4), some (vi ((n : Nat) : Int)), some (vi b), some (vi ((w : Nat) : Int)), some (vi ((i + 1 : Nat) : Int)), none] [] X37
          exact ih9 (i + 1) b w X37 (by omega) (by omega) (by first | (rw [mnr_t (by rw [← hw]; unfold dbtF; omega)]) | (rw [mnr_f (by rw [← hw]; unfold dbtF; omega)]; exact hb)) (by first | (rw [mnr_t (by rw [← hw]; unfold dbtF; omega)]; rfl) | (rw [mnr_f (by rw [← hw]; unfold dbtF; omega)]; exact hw)) (by omega) hFr37
        · refine ev_iload (pc := 48) hC dX1_worstDoubter_48 rfl ?_
          refine ev_istore_n (pc := 50) hC dX1_worstDoubter_50 (by rw [hKn]; decide) rfl ?_
          show Ev K 51 [some (.ref 4), some (vi ((n : Nat) : Int)), some (vi b), some (vi ((bcnt 0 (goN 0 n (setR A 1 i 3)) : Nat) : Int)), some (vi ((i : Nat) : Int)), some (vi ((bcnt 0 (goN 0 n (setR A 1 i 3)) : Nat) : Int))] [] X37
          refine ev_iload (pc := 51) hC dX1_worstDoubter_51 rfl ?_
          refine ev_istore_n (pc := 53) hC dX1_worstDoubter_53 (by rw [hKn]; decide) rfl ?_
          show Ev K 54 [some (.ref 4), some (vi ((n : Nat) : Int)), some (vi ((i : Nat) : Int)), some (vi ((bcnt 0 (goN 0 n (setR A 1 i 3)) : Nat) : Int)), some (vi ((i : Nat) : Int)), some (vi ((bcnt 0 (goN 0 n (setR A 1 i 3)) : Nat) : Int))] [] X37
          refine ev_iinc (pc := 54) hC ((i + 1 : Nat) : Int) dX1_worstDoubter_54 rfl (by omega) (by rw [hKn]; decide) rfl ?_
          show Ev K 57 [some (.ref 4), some (vi ((n : Nat) : Int)), some (vi ((i : Nat) : Int)), some (vi ((bcnt 0 (goN 0 n (setR A 1 i 3)) : Nat) : Int)), some (vi ((i + 1 : Nat) : Int)), some (vi ((bcnt 0 (goN 0 n (setR A 1 i 3)) : Nat) : Int))] [] X37
          refine ev_goto (pc := 57) hC 9 dX1_worstDoubter_57 (by decide) ?_
          refine ev_drop 5 ?_
          show Ev K 9 [some (.ref 4), some (vi ((n : Nat) : Int)), some (vi ((i : Nat) : Int)), some (vi ((bcnt 0 (goN 0 n (setR A 1 i 3)) : Nat) : Int)), some (vi ((i + 1 : Nat) : Int)), none] [] X37
          exact ih9 (i + 1) ((i : Nat) : Int) (bcnt 0 (goN 0 n (setR A 1 i 3))) X37 (by omega) (by omega) (by first | (rw [mnr_t (by rw [← hw]; unfold dbtF; omega)]) | (rw [mnr_f (by rw [← hw]; unfold dbtF; omega)]; exact hb)) (by first | (rw [mnr_t (by rw [← hw]; unfold dbtF; omega)]; rfl) | (rw [mnr_f (by rw [← hw]; unfold dbtF; omega)]; exact hw)) (by omega) hFr37
  exact lp9 _ 0 (-9) 9 X (Nat.lt_succ_self _) (by omega) rfl rfl (by omega) (frS_rf 3 X)
theorem mtX1_moreByStranger : MT yX1_moreByStranger wsX1_moreByStranger cX1_moreByStranger 5 (some .int) 1 := ⟨⟨_, rfl⟩, by decide, by decide, by decide +kernel⟩
set_option maxRecDepth 100000 in
set_option maxHeartbeats 4000000 in
theorem ru_X1_moreByStranger {X : Mem} {A : Sl} (hA : Rp (vC X 1) A) (n : Nat) (hn : n ≤ 60) : Ru yX1_moreByStranger wsX1_moreByStranger 5 139 [.ref 4, vi ((n : Nat) : Int)] X (fun v X' => v = some (vi (strF n A)) ∧ frS 3 X X') := by
  refine ru_of (w2 := _) rfl (by decide) [some (.ref 4), some (vi ((n : Nat) : Int)), none, none, none] (fun _ => rfl) (fun _ => Nat.le_of_ble_eq_true rfl) ?_
  intro K hKn hC hR
  have wX1 : ∀ w ∈ u_ws RX1 TX1 2, w ∈ wsX1_moreByStranger := by decide +kernel
  have f9 : Fl K RX1 9 1 0 := fl_of hC RX1 TX1 2 rfl (by decide) wX1 (show Cond.fieldLink RX1 9 "PicnicOfSomebody$Mind" "now" "LPicnicOfSomebody$Slope;" ∈ _ by decide +kernel)
  have f15 : Fl K RX1 15 1 1 := fl_of hC RX1 TX1 2 rfl (by decide) wX1 (show Cond.fieldLink RX1 15 "PicnicOfSomebody$Mind" "thought" "LPicnicOfSomebody$Slope;" ∈ _ by decide +kernel)
  have wX3 : ∀ w ∈ u_ws RX3 TX3 8, w ∈ wsX1_moreByStranger := by decide +kernel
  have f28 : Fl K RX1 28 3 6 := fl_of hC RX3 TX3 8 rfl (by decide) wX3 (show Cond.fieldLink RX1 28 "PicnicOfSomebody$Slope" "people" "I" ∈ _ by decide +kernel)
  have hn8 := hA.n8
  refine ev_aload_n (pc := 0) hC dX1_moreByStranger_0 rfl ?_
  refine ev_getr (pc := 1) hC 1 f9 dX1_moreByStranger_1 (by decide) (by decide) (by decide) (by decide) (by decide) ?_
  refine ev_callV (pc := 4) (as := []) (rest := []) hC gX1_moreByStranger_X3_isFull mtX3_isFull dX1_moreByStranger_4 (ru_X3_isFull (s := 1) spl1 hA) (by decide) (by decide) (by decide) rfl (by rfl) (Nat.le_of_ble_eq_true rfl) rfl (fun v4 X4 h4 => ?_)
  obtain ⟨rfl, rfl⟩ := h4
  show Ev K 7 [some (.ref 4), some (vi ((n : Nat) : Int)), none, none, none] [vi (b2i (decide (8 ≤ A 5 0)))] X
  have hr4 := b2i_r (decide (8 ≤ A 5 0))
  refine ev_if_eq (pc := 7) hC 13 dX1_moreByStranger_7 (by decide) (by omega) (fun c7 => ?_) (fun c7 => ?_)
  · have e : A 5 0 < 8 := by have := of_decide_eq_false (b2i_0 c7); omega
    refine ev_aload_n (pc := 13) hC dX1_moreByStranger_13 rfl ?_
    refine ev_callV (pc := 14) (as := []) (rest := []) hC gX1_moreByStranger_X1_think mtX1_think dX1_moreByStranger_14 (ru_X1_think hA) (by decide) (by decide) (by decide) rfl (by rfl) (Nat.le_of_ble_eq_true rfl) rfl (fun v14 X14 h14 => ?_)
    obtain ⟨rfl, hA14, hF14⟩ := h14
    show Ev K 17 [some (.ref 4), some (vi ((n : Nat) : Int)), none, none, none] [.ref 3] X14
    have hN114 := hA.fr31 hF14
    have hFr14 := frS_tr (frS_rf 3 X) hF14
    refine ev_iload_n (pc := 17) hC dX1_moreByStranger_17 rfl ?_
    refine ev_callV (pc := 18) (as := [vi ((n : Nat) : Int)]) (rest := []) hC gX1_moreByStranger_X3_passYears mtX3_passYears dX1_moreByStranger_18 (ru_X3_passYears (s := 3) spl3 hA14 n (by omega)) (by decide) (by decide) (by decide) rfl (by rfl) (Nat.le_of_ble_eq_true rfl) rfl (fun v18 X18 h18 => ?_)
    obtain ⟨rfl, hA18, hF18⟩ := h18
    show Ev K 21 [some (.ref 4), some (vi ((n : Nat) : Int)), none, none, none] [vi ((bcnt 0 (goN 0 n A) : Nat) : Int)] X18
    have hl18 := bcnt_le 0 (goN 0 n A)
    have hn18 := hA18.n8
    have hN118 := hN114.fr31 hF18
    have hFr18 := frS_tr hFr14 hF18
    refine ev_istore_n (pc := 21) hC dX1_moreByStranger_21 (by rw [hKn]; decide) rfl ?_
    show Ev K 22 [some (.ref 4), some (vi ((n : Nat) : Int)), some (vi ((bcnt 0 (goN 0 n A) : Nat) : Int)), none, none] [] X18
    refine ev_aload_n (pc := 22) hC dX1_moreByStranger_22 rfl ?_
    refine ev_callV (pc := 23) (as := []) (rest := []) hC gX1_moreByStranger_X1_think mtX1_think dX1_moreByStranger_23 (ru_X1_think hN118) (by decide) (by decide) (by decide) rfl (by rfl) (Nat.le_of_ble_eq_true rfl) rfl (fun v23 X23 h23 => ?_)
    obtain ⟨rfl, hA23, hF23⟩ := h23
    show Ev K 26 [some (.ref 4), some (vi ((n : Nat) : Int)), some (vi ((bcnt 0 (goN 0 n A) : Nat) : Int)), none, none] [.ref 3] X23
    have hN123 := hN118.fr31 hF23
    have hFr23 := frS_tr hFr18 hF23
    refine ev_iconst (pc := 26) hC dX1_moreByStranger_26 ?_
    refine ev_iconst (pc := 27) hC dX1_moreByStranger_27 ?_
    refine ev_bipush (pc := 28) hC dX1_moreByStranger_28 (by decide) ?_
    refine ev_bipush (pc := 30) hC dX1_moreByStranger_30 (by decide) ?_
    refine ev_callV (pc := 32) (as := [vi 0, vi 0, vi 24, vi 9]) (rest := []) hC gX1_moreByStranger_X3_join mtX3_join dX1_moreByStranger_32 (ru_X3_join (s := 3) spl3 hA23 0 0 24 9 (by omega) (by omega) (by omega) (by omega) (by omega)) (by decide) (by decide) (by decide) rfl (by rfl) (Nat.le_of_ble_eq_true rfl) rfl (fun v32 X32 h32 => ?_)
    obtain ⟨rfl, hA32, hF32⟩ := h32
    show Ev K 35 [some (.ref 4), some (vi ((n : Nat) : Int)), some (vi ((bcnt 0 (goN 0 n A) : Nat) : Int)), none, none] [] X32
    have hN132 := hN123.fr31 hF32
    have hFr32 := frS_tr hFr23 hF32
    refine ev_aload_n (pc := 35) hC dX1_moreByStranger_35 rfl ?_
    refine ev_getr (pc := 36) hC 3 f15 dX1_moreByStranger_36 (by decide) (by decide) (by decide) (by decide) (by decide) ?_
    refine ev_iload_n (pc := 39) hC dX1_moreByStranger_39 rfl ?_
    refine ev_callV (pc := 40) (as := [vi ((n : Nat) : Int)]) (rest := []) hC gX1_moreByStranger_X3_passYears mtX3_passYears dX1_moreByStranger_40 (ru_X3_passYears (s := 3) spl3 hA32 n (by omega)) (by decide) (by decide) (by decide) rfl (by rfl) (Nat.le_of_ble_eq_true rfl) rfl (fun v40 X40 h40 => ?_)
    obtain ⟨rfl, hA40, hF40⟩ := h40
    show Ev K 43 [some (.ref 4), some (vi ((n : Nat) : Int)), some (vi ((bcnt 0 (goN 0 n A) : Nat) : Int)), none, none] [vi ((bcnt 0 (goN 0 n (addP A 0 0 24 9)) : Nat) : Int)] X40
    have hl40 := bcnt_le 0 (goN 0 n (addP A 0 0 24 9))
    have hn40 := hA40.n8
    have hN140 := hN132.fr31 hF40
    have hFr40 := frS_tr hFr32 hF40
    have hgn := goN_n 0 (addP A 0 0 24 9) n
    have hga : A 5 0 < goN 0 n (addP A 0 0 24 9) 5 0 := by rw [hgn]; exact Nat.lt_succ_self _
    refine ev_istore_n (pc := 43) hC dX1_moreByStranger_43 (by rw [hKn]; decide) rfl ?_
    show Ev K 44 [some (.ref 4), some (vi ((n : Nat) : Int)), some (vi ((bcnt 0 (goN 0 n A) : Nat) : Int)), some (vi ((bcnt 0 (goN 0 n (addP A 0 0 24 9)) : Nat) : Int)), none] [] X40
    refine ev_aload_n (pc := 44) hC dX1_moreByStranger_44 rfl ?_
    refine ev_getr (pc := 45) hC 3 f15 dX1_moreByStranger_45 (by decide) (by decide) (by decide) (by decide) (by decide) ?_
    refine ev_aload_n (pc := 48) hC dX1_moreByStranger_48 rfl ?_
    refine ev_getr (pc := 49) hC 1 f9 dX1_moreByStranger_49 (by decide) (by decide) (by decide) (by decide) (by decide) ?_
    refine ev_geti (pc := 52) hC ((A 5 0 : Nat) : Int) f28 dX1_moreByStranger_52 (by decide) (by decide) (by decide) (by decide) (by decide)  (hN140.cn) ?_
    refine ev_callV (pc := 55) (as := [vi ((A 5 0 : Nat) : Int)]) (rest := []) hC gX1_moreByStranger_X3_isBeliever mtX3_isBeliever dX1_moreByStranger_55 (ru_X3_isBeliever (s := 3) spl3 (A 5 0) _ (by have := hA40.n8; omega) (hA40.c4 (A 5 0) (by omega)) (hA40.b9 (A 5 0) (by omega))) (by decide) (by decide) (by decide) rfl (by rfl) (Nat.le_of_ble_eq_true rfl) rfl (fun v55 X55 h55 => ?_)
    obtain ⟨rfl, rfl⟩ := h55
    show Ev K 58 [some (.ref 4), some (vi ((n : Nat) : Int)), some (vi ((bcnt 0 (goN 0 n A) : Nat) : Int)), some (vi ((bcnt 0 (goN 0 n (addP A 0 0 24 9)) : Nat) : Int)), none] [vi (b2i (bel (goN 0 n (addP A 0 0 24 9)) (A 5 0)))] X40
    have hr55 := b2i_r (bel (goN 0 n (addP A 0 0 24 9)) (A 5 0))
    refine ev_if_eq (pc := 58) hC 65 dX1_moreByStranger_58 (by decide) (by omega) (fun c58 => ?_) (fun c58 => ?_)
    · have e2 := b2i_0 c58
      refine ev_iconst (pc := 65) hC dX1_moreByStranger_65 ?_
      refine ev_istore (pc := 66) hC dX1_moreByStranger_66 (by rw [hKn]; decide) rfl ?_
      show Ev K 68 [some (.ref 4), some (vi ((n : Nat) : Int)), some (vi ((bcnt 0 (goN 0 n A) : Nat) : Int)), some (vi ((bcnt 0 (goN 0 n (addP A 0 0 24 9)) : Nat) : Int)), some (vi 0)] [] X40
      refine ev_iload_n (pc := 68) hC dX1_moreByStranger_68 rfl ?_
      refine ev_iload (pc := 69) hC dX1_moreByStranger_69 rfl ?_
      refine ev_isub (pc := 71) hC (((bcnt 0 (goN 0 n (addP A 0 0 24 9)) : Nat) : Int) - 0) (rfl) dX1_moreByStranger_71 ?_
      refine ev_iload_n (pc := 72) hC dX1_moreByStranger_72 rfl ?_
      refine ev_isub (pc := 73) hC ((((bcnt 0 (goN 0 n (addP A 0 0 24 9)) : Nat) : Int) - 0) - ((bcnt 0 (goN 0 n A) : Nat) : Int)) (rfl) dX1_moreByStranger_73 ?_
      exact ev_ireturn (pc := 74) hC hR dX1_moreByStranger_74 (⟨rv (by unfold strF; rw [if_neg (by omega)]; first | rw [b2i_t e2] | rw [b2i_ff e2]), hFr40⟩)
    · have e2 := b2i_1 c58
      refine ev_iconst (pc := 61) hC dX1_moreByStranger_61 ?_
      refine ev_goto (pc := 62) hC 66 dX1_moreByStranger_62 (by decide) ?_
      refine ev_istore (pc := 66) hC dX1_moreByStranger_66 (by rw [hKn]; decide) rfl ?_
      show Ev K 68 [some (.ref 4), some (vi ((n : Nat) : Int)), some (vi ((bcnt 0 (goN 0 n A) : Nat) : Int)), some (vi ((bcnt 0 (goN 0 n (addP A 0 0 24 9)) : Nat) : Int)), some (vi 1)] [] X40
      refine ev_iload_n (pc := 68) hC dX1_moreByStranger_68 rfl ?_
      refine ev_iload (pc := 69) hC dX1_moreByStranger_69 rfl ?_
      refine ev_isub (pc := 71) hC (((bcnt 0 (goN 0 n (addP A 0 0 24 9)) : Nat) : Int) - 1) (rfl) dX1_moreByStranger_71 ?_
      refine ev_iload_n (pc := 72) hC dX1_moreByStranger_72 rfl ?_
      refine ev_isub (pc := 73) hC ((((bcnt 0 (goN 0 n (addP A 0 0 24 9)) : Nat) : Int) - 1) - ((bcnt 0 (goN 0 n A) : Nat) : Int)) (rfl) dX1_moreByStranger_73 ?_
      exact ev_ireturn (pc := 74) hC hR dX1_moreByStranger_74 (⟨rv (by unfold strF; rw [if_neg (by omega)]; first | rw [b2i_t e2] | rw [b2i_ff e2]), hFr40⟩)
  · have e := of_decide_eq_true (b2i_1 c7)
    refine ev_bipush (pc := 10) hC dX1_moreByStranger_10 (by decide) ?_
    exact ev_ireturn (pc := 12) hC hR dX1_moreByStranger_12 (⟨rv (by unfold strF; rw [if_pos (by omega)]), frS_rf 3 X⟩)
theorem mtX1_figuresOfBelievers : MT yX1_figuresOfBelievers wsX1_figuresOfBelievers cX1_figuresOfBelievers 3 (some .int) 0 := ⟨⟨_, rfl⟩, by decide, by decide, by decide +kernel⟩
set_option maxRecDepth 100000 in
set_option maxHeartbeats 4000000 in
theorem ru_X1_figuresOfBelievers {X : Mem} {B : Sl} (hB : Rp (vC X 3) B) : Ru yX1_figuresOfBelievers wsX1_figuresOfBelievers 1 21 [.ref 4] X (fun v X' => v = some (vi (figs B)) ∧ X = X') := by
  refine ru_of (w2 := _) rfl (by decide) [some (.ref 4), none, none] (fun _ => rfl) (fun _ => Nat.le_of_ble_eq_true rfl) ?_
  intro K hKn hC hR
  have wX1 : ∀ w ∈ u_ws RX1 TX1 2, w ∈ wsX1_figuresOfBelievers := by decide +kernel
  have f15 : Fl K RX1 15 1 1 := fl_of hC RX1 TX1 2 rfl (by decide) wX1 (show Cond.fieldLink RX1 15 "PicnicOfSomebody$Mind" "thought" "LPicnicOfSomebody$Slope;" ∈ _ by decide +kernel)
  have wX3 : ∀ w ∈ u_ws RX3 TX3 8, w ∈ wsX1_figuresOfBelievers := by decide +kernel
  have f28 : Fl K RX1 28 3 6 := fl_of hC RX3 TX3 8 rfl (by decide) wX3 (show Cond.fieldLink RX1 28 "PicnicOfSomebody$Slope" "people" "I" ∈ _ by decide +kernel)
  have f99 : Fl K RX1 99 3 2 := fl_of hC RX3 TX3 8 rfl (by decide) wX3 (show Cond.fieldLink RX1 99 "PicnicOfSomebody$Slope" "figures" "[I" ∈ _ by decide +kernel)
  have hn8 := hB.n8
  refine ev_iconst (pc := 0) hC dX1_figuresOfBelievers_0 ?_
  refine ev_istore_n (pc := 1) hC dX1_figuresOfBelievers_1 (by rw [hKn]; decide) rfl ?_
  show Ev K 2 [some (.ref 4), some (vi 0), none] [] X
  refine ev_iconst (pc := 2) hC dX1_figuresOfBelievers_2 ?_
  refine ev_istore_n (pc := 3) hC dX1_figuresOfBelievers_3 (by rw [hKn]; decide) rfl ?_
  show Ev K 4 [some (.ref 4), some (vi 0), some (vi 0)] [] X
  have lp4 : ∀ (fz : Nat) (i : Nat) (b : Nat), B 5 0 - i < fz → (i ≤ B 5 0) → (b = sumB i (fun i => if bel B i = true then B 2 i else 0)) → Ev K 4 [some (.ref 4), some (vi ((b : Nat) : Int)), some (vi ((i : Nat) : Int))] [] X := by
    intro fz
    induction fz with
    | zero => intro i b hfz; exact absurd hfz (Nat.not_lt_zero _)
    | succ fz ih4 =>
      intro i b hfz hi hb
      refine ev_iload_n (pc := 4) hC dX1_figuresOfBelievers_4 rfl ?_
      refine ev_aload_n (pc := 5) hC dX1_figuresOfBelievers_5 rfl ?_
      refine ev_getr (pc := 6) hC 3 f15 dX1_figuresOfBelievers_6 (by decide) (by decide) (by decide) (by decide) (by decide) ?_
      refine ev_geti (pc := 9) hC ((B 5 0 : Nat) : Int) f28 dX1_figuresOfBelievers_9 (by decide) (by decide) (by decide) (by decide) (by decide)  (hB.cn) ?_
      refine ev_icmp_ge (pc := 12) hC 44 dX1_figuresOfBelievers_12 (by decide) (by omega) (by omega) (fun c12 => ?_) (fun c12 => ?_)
      · refine ev_iload_n (pc := 44) hC dX1_figuresOfBelievers_44 rfl ?_
        exact ev_ireturn (pc := 45) hC hR dX1_figuresOfBelievers_45 (⟨rv (by rw [hb, show i = B 5 0 by omega]; rfl), rfl⟩)
      · refine ev_aload_n (pc := 15) hC dX1_figuresOfBelievers_15 rfl ?_
        refine ev_getr (pc := 16) hC 3 f15 dX1_figuresOfBelievers_16 (by decide) (by decide) (by decide) (by decide) (by decide) ?_
        refine ev_iload_n (pc := 19) hC dX1_figuresOfBelievers_19 rfl ?_
        refine ev_callV (pc := 20) (as := [vi ((i : Nat) : Int)]) (rest := []) hC gX1_figuresOfBelievers_X3_isBeliever mtX3_isBeliever dX1_figuresOfBelievers_20 (ru_X3_isBeliever (s := 3) spl3 i _ (by have := hB.n8; omega) (hB.c4 i (by omega)) (hB.b9 i (by omega))) (by decide) (by decide) (by decide) rfl (by rfl) (Nat.le_of_ble_eq_true rfl) rfl (fun v20 X20 h20 => ?_)
        obtain ⟨rfl, rfl⟩ := h20
        show Ev K 23 [some (.ref 4), some (vi ((b : Nat) : Int)), some (vi ((i : Nat) : Int))] [vi (b2i (bel B i))] X
        have hr20 := b2i_r (bel B i)
        refine ev_if_eq (pc := 23) hC 38 dX1_figuresOfBelievers_23 (by decide) (by omega) (fun c23 => ?_) (fun c23 => ?_)
        · have e := b2i_0 c23
          refine ev_iinc (pc := 38) hC ((i + 1 : Nat) : Int) dX1_figuresOfBelievers_38 rfl (by omega) (by rw [hKn]; decide) rfl ?_
          show Ev K 41 [some (.ref 4), some (vi ((b : Nat) : Int)), some (vi ((i + 1 : Nat) : Int))] [] X
          refine ev_goto (pc := 41) hC 4 dX1_figuresOfBelievers_41 (by decide) ?_
          exact ih4 (i + 1) b (by omega) (by omega) (by first | (rw [sumB_s, if_pos e, ← hb]) | (rw [sumB_s, if_neg (by rw [e]; decide), ← hb]; rfl))
        · have e := b2i_1 c23
          refine ev_iload_n (pc := 26) hC dX1_figuresOfBelievers_26 rfl ?_
          refine ev_aload_n (pc := 27) hC dX1_figuresOfBelievers_27 rfl ?_
          refine ev_getr (pc := 28) hC 3 f15 dX1_figuresOfBelievers_28 (by decide) (by decide) (by decide) (by decide) (by decide) ?_
          refine ev_getr (pc := 31) hC 25 f99 dX1_figuresOfBelievers_31 (by decide) (by decide) (by decide) (by decide) (by decide) ?_
          refine ev_iload_n (pc := 34) hC dX1_figuresOfBelievers_34 rfl ?_
          have hb35 := hB.f9 i (by omega)
          refine ev_iald (pc := 35) hC i ((B 2 i : Nat) : Int) (by decide) (by decide) (rfl) (by have := (show alen 25 = 8 from rfl); omega) (hB.c2 i (by omega)) dX1_figuresOfBelievers_35 ?_
          refine ev_iadd (pc := 36) hC ((b + (B 2 i) : Nat) : Int) (by omega) dX1_figuresOfBelievers_36 ?_
          refine ev_istore_n (pc := 37) hC dX1_figuresOfBelievers_37 (by rw [hKn]; decide) rfl ?_
          show Ev K 38 [some (.ref 4), some (vi ((b + (B 2 i) : Nat) : Int)), some (vi ((i : Nat) : Int))] [] X
          refine ev_iinc (pc := 38) hC ((i + 1 : Nat) : Int) dX1_figuresOfBelievers_38 rfl (by omega) (by rw [hKn]; decide) rfl ?_
          show Ev K 41 [some (.ref 4), some (vi ((b + (B 2 i) : Nat) : Int)), some (vi ((i + 1 : Nat) : Int))] [] X
          refine ev_goto (pc := 41) hC 4 dX1_figuresOfBelievers_41 (by decide) ?_
          exact ih4 (i + 1) (b + (B 2 i)) (by omega) (by omega) (by first | (rw [sumB_s, if_pos e, ← hb]) | (rw [sumB_s, if_neg (by rw [e]; decide), ← hb]; rfl))
  exact lp4 _ 0 0 (Nat.lt_succ_self _) (by omega) rfl
theorem mtX1_thingsPassed : MT yX1_thingsPassed wsX1_thingsPassed cX1_thingsPassed 4 (some .int) 1 := ⟨⟨_, rfl⟩, by decide, by decide, by decide +kernel⟩
set_option maxRecDepth 100000 in
set_option maxHeartbeats 4000000 in
theorem ru_X1_thingsPassed {X : Mem} {A : Sl} (hA : Rp (vC X 1) A) (n : Nat) (hn : n ≤ 60) : Ru yX1_thingsPassed wsX1_thingsPassed 4 117 [.ref 4, vi ((n : Nat) : Int)] X (fun v X' => v = some (vi (sumB n (fun k => figs (goN 0 k A)))) ∧ frS 3 X X') := by
  refine ru_of (w2 := _) rfl (by decide) [some (.ref 4), some (vi ((n : Nat) : Int)), none, none] (fun _ => rfl) (fun _ => Nat.le_of_ble_eq_true rfl) ?_
  intro K hKn hC hR
  have wX1 : ∀ w ∈ u_ws RX1 TX1 2, w ∈ wsX1_thingsPassed := by decide +kernel
  have f15 : Fl K RX1 15 1 1 := fl_of hC RX1 TX1 2 rfl (by decide) wX1 (show Cond.fieldLink RX1 15 "PicnicOfSomebody$Mind" "thought" "LPicnicOfSomebody$Slope;" ∈ _ by decide +kernel)
  have hn8 := hA.n8
  refine ev_aload_n (pc := 0) hC dX1_thingsPassed_0 rfl ?_
  refine ev_callV (pc := 1) (as := []) (rest := []) hC gX1_thingsPassed_X1_think mtX1_think dX1_thingsPassed_1 (ru_X1_think hA) (by decide) (by decide) (by decide) rfl (by rfl) (Nat.le_of_ble_eq_true rfl) rfl (fun v1 X1 h1 => ?_)
  obtain ⟨rfl, hA1, hF1⟩ := h1
  show Ev K 4 [some (.ref 4), some (vi ((n : Nat) : Int)), none, none] [.ref 3] X1
  have hN11 := hA.fr31 hF1
  have hFr1 := frS_tr (frS_rf 3 X) hF1
  refine ev_pop (pc := 4) hC rfl dX1_thingsPassed_4 ?_
  refine ev_iconst (pc := 5) hC dX1_thingsPassed_5 ?_
  refine ev_istore_n (pc := 6) hC dX1_thingsPassed_6 (by rw [hKn]; decide) rfl ?_
  show Ev K 7 [some (.ref 4), some (vi ((n : Nat) : Int)), some (vi 0), none] [] X1
  refine ev_iconst (pc := 7) hC dX1_thingsPassed_7 ?_
  refine ev_istore_n (pc := 8) hC dX1_thingsPassed_8 (by rw [hKn]; decide) rfl ?_
  show Ev K 9 [some (.ref 4), some (vi ((n : Nat) : Int)), some (vi 0), some (vi 0)] [] X1
  have lp9 : ∀ (fz : Nat) (i : Nat) (b : Nat) (Y : Mem), n - i < fz → (i ≤ n) → (b = sumB i (fun k => figs (goN 0 k A))) → (Rp (vC Y 3) (goN 0 i A)) → (frS 3 X Y) → Ev K 9 [some (.ref 4), some (vi ((n : Nat) : Int)), some (vi ((b : Nat) : Int)), some (vi ((i : Nat) : Int))] [] Y := by
    intro fz
    induction fz with
    | zero => intro i b Y hfz; exact absurd hfz (Nat.not_lt_zero _)
    | succ fz ih9 =>
      intro i b Y hfz hi hb h3 hF
      have hN := hA.fr31 hF
      have h38 := h3.n8
      refine ev_iload_n (pc := 9) hC dX1_thingsPassed_9 rfl ?_
      refine ev_iload_n (pc := 10) hC dX1_thingsPassed_10 rfl ?_
      refine ev_icmp_ge (pc := 11) hC 36 dX1_thingsPassed_11 (by decide) (by omega) (by omega) (fun c11 => ?_) (fun c11 => ?_)
      · refine ev_iload_n (pc := 36) hC dX1_thingsPassed_36 rfl ?_
        exact ev_ireturn (pc := 37) hC hR dX1_thingsPassed_37 (⟨rv (by rw [hb, show i = n by omega]), hF⟩)
      · refine ev_iload_n (pc := 14) hC dX1_thingsPassed_14 rfl ?_
        refine ev_aload_n (pc := 15) hC dX1_thingsPassed_15 rfl ?_
        refine ev_callV (pc := 16) (as := []) (rest := [vi ((b : Nat) : Int)]) hC gX1_thingsPassed_X1_figuresOfBelievers mtX1_figuresOfBelievers dX1_thingsPassed_16 (ru_X1_figuresOfBelievers h3) (by decide) (by decide) (by decide) rfl (by rfl) (Nat.le_of_ble_eq_true rfl) rfl (fun v16 X16 h16 => ?_)
        obtain ⟨rfl, rfl⟩ := h16
        show Ev K 19 [some (.ref 4), some (vi ((n : Nat) : Int)), some (vi ((b : Nat) : Int)), some (vi ((i : Nat) : Int))] [vi ((figs (goN 0 i A) : Nat) : Int), vi ((b : Nat) : Int)] Y
        refine ev_iadd (pc := 19) hC ((b + (figs (goN 0 i A)) : Nat) : Int) (by omega) dX1_thingsPassed_19 ?_
        refine ev_istore_n (pc := 20) hC dX1_thingsPassed_20 (by rw [hKn]; decide) rfl ?_
        show Ev K 21 [some (.ref 4), some (vi ((n : Nat) : Int)), some (vi ((b + (figs (goN 0 i A)) : Nat) : Int)), some (vi ((i : Nat) : Int))] [] Y
        refine ev_aload_n (pc := 21) hC dX1_thingsPassed_21 rfl ?_
        refine ev_getr (pc := 22) hC 3 f15 dX1_thingsPassed_22 (by decide) (by decide) (by decide) (by decide) (by decide) ?_
        refine ev_iconst (pc := 25) hC dX1_thingsPassed_25 ?_
        refine ev_callV (pc := 26) (as := [vi 0]) (rest := []) hC gX1_thingsPassed_X3_passYear mtX3_passYear dX1_thingsPassed_26 (ru_X3_passYear (s := 3) spl3 h3 false) (by decide) (by decide) (by decide) rfl (by rfl) (Nat.le_of_ble_eq_true rfl) rfl (fun v26 X26 h26 => ?_)
        obtain ⟨rfl, hA26, hF26⟩ := h26
        show Ev K 29 [some (.ref 4), some (vi ((n : Nat) : Int)), some (vi ((b + (figs (goN 0 i A)) : Nat) : Int)), some (vi ((i : Nat) : Int))] [vi (b2i (orB ((goN 0 i A) 5 0) (chP 0 (goN 0 i A))))] X26
        have hr26 := b2i_r (orB ((goN 0 i A) 5 0) (chP 0 (goN 0 i A)))
        have hN126 := hN.fr31 hF26
        have hFr26 := frS_tr hF hF26
        refine ev_pop (pc := 29) hC rfl dX1_thingsPassed_29 ?_
        refine ev_iinc (pc := 30) hC ((i + 1 : Nat) : Int) dX1_thingsPassed_30 rfl (by omega) (by rw [hKn]; decide) rfl ?_
        show Ev K 33 [some (.ref 4), some (vi ((n : Nat) : Int)), some (vi ((b + (figs (goN 0 i A)) : Nat) : Int)), some (vi ((i + 1 : Nat) : Int))] [] X26
        refine ev_goto (pc := 33) hC 9 dX1_thingsPassed_33 (by decide) ?_
        exact ih9 (i + 1) (b + (figs (goN 0 i A))) X26 (by omega) (by omega) (by rw [sumB_s, ← hb]) hA26 hFr26
  exact lp9 _ 0 0 X1 (Nat.lt_succ_self _) (by omega) rfl hA1 hFr1
