theorem mtX6_depth : MT yX6_depth wsX6_depth cX6_depth 2 (some .int) 1 := ⟨⟨_, rfl⟩, by decide, by decide, by decide +kernel⟩
set_option maxRecDepth 100000 in
set_option maxHeartbeats 4000000 in
theorem ru_X6_depth {X : Mem} {V : St} (hV : mI X V) (x0 : Int) (hx0 : -2147483648 ≤ x0 ∧ x0 ≤ 2147483647) : Ru yX6_depth wsX6_depth 1 21 [.ref 29, vi x0] X (fun v X' => v = some (vi (sp2 x0 V).1) ∧ mI X' (sp2 x0 V).2 ∧ frM X X') := by
  refine ru_of (w2 := _) rfl (by decide) [some (.ref 29), some (vi x0)] (fun _ => rfl) (fun _ => Nat.le_of_ble_eq_true rfl) ?_
  intro K hKn hC hR
  have wX6 : ∀ w ∈ u_ws RX6 TX6 25, w ∈ wsX6_depth := by decide +kernel
  have f13 : Fl K RX6 13 6 1 := fl_of hC RX6 TX6 25 rfl (by decide) wX6 (show Cond.fieldLink RX6 13 "PicnicOfSomebodyModel" "deep" "[I" ∈ _ by decide +kernel)
  obtain ⟨A, B, hh, T, n, W, rs, C⟩ := V
  have hA : Rp (vM X) A := hV.1
  have hyA : A 5 1 ≤ 999 := hV.2.1
  have hB : hh = true → Rp (vK X 0) B ∧ B 5 1 ≤ 999 := hV.2.2.1
  have hi : X 29 17 = zI (b2i hh) := hV.2.2.2.1
  have hg : X 29 8 = zI ((0 : Nat) : Int) := hV.2.2.2.2.1
  have hT : TxM X T n := hV.2.2.2.2.2.1
  have hW : RwM X W rs := hV.2.2.2.2.2.2.1
  have hCn : ∀ k, k < 7 → X 30 k = zI (C k : Nat) := hV.2.2.2.2.2.2.2
  have hn8 := hA.n8
  have hn96 := hT.2.1
  have hrs := hW.2.1
  have hG : 0 < 256 := by decide
  have hI : mI X (A, B, hh, T, n, W, rs, C) := hV
  have hq1 := cdC_cases x0
  refine ev_iload_n (pc := 0) hC dX6_depth_0 rfl ?_
  refine ev_callS (pc := 1) (as := [vi x0]) (rest := []) hC gX6_depth_X6_isCell mtX6_isCell dX6_depth_1 (ru_X6_isCell x0 (by omega)) (by decide) (by rfl) (Nat.le_of_ble_eq_true rfl) rfl (fun v1 X1 h1 => ?_)
  obtain ⟨rfl, rfl⟩ := h1
  show Ev K 4 [some (.ref 29), some (vi x0)] [vi (b2i (decide (0 ≤ x0 ∧ x0 < 25)))] X
  have hr1 := b2i_r (decide (0 ≤ x0 ∧ x0 < 25))
  refine ev_if_eq (pc := 4) hC 16 dX6_depth_4 (by decide) (by omega) (fun c4 => ?_) (fun c4 => ?_)
  · have e4 := of_decide_eq_false (b2i_0 c4)
    refine ev_aload_n (pc := 16) hC dX6_depth_16 rfl ?_
    refine ev_iconst (pc := 17) hC dX6_depth_17 ?_
    refine ev_callV (pc := 18) (as := [vi (-1)]) (rest := []) hC gX6_depth_X6_no mtX6_no dX6_depth_18 (ru_X6_no2 (-1) (by omega)) (by decide) (by decide) (by decide) rfl (by rfl) (Nat.le_of_ble_eq_true rfl) rfl (fun v18 X18 h18 => ?_)
    obtain ⟨rfl, rfl⟩ := h18
    show Ev K 21 [some (.ref 29), some (vi x0)] [vi (-1)] (mset X 30 (-(-1)).toNat (X 30 (-(-1)).toNat + 1))
    exact ev_ireturn (pc := 21) hC hR dX6_depth_21 (no_endM (show cdC x0 = (-1) by omega) (by omega) hI)
  · have e4 := of_decide_eq_true (b2i_1 c4)
    obtain ⟨p0, rfl⟩ : ∃ k : Nat, x0 = (k : Int) := ⟨x0.toNat, by omega⟩
    refine ev_aload_n (pc := 7) hC dX6_depth_7 rfl ?_
    refine ev_getr (pc := 8) hC 31 f13 dX6_depth_8 (by decide) (by decide) (by decide) (by decide) (by decide) ?_
    refine ev_iload_n (pc := 11) hC dX6_depth_11 rfl ?_
    have hb12 := hA.d99 p0 (by omega)
    refine ev_iald (pc := 12) hC p0 ((A 0 p0 : Nat) : Int) (by decide) (by decide) (rfl) (by have := (show alen 31 = 25 from rfl); omega) (hA.m0 p0 (by omega)) dX6_depth_12 ?_
    refine ev_goto (pc := 13) hC 21 dX6_depth_13 (by decide) ?_
    exact ev_ireturn (pc := 21) hC hR dX6_depth_21 (ok_endM (show cdC ((p0 : Nat) : Int) = 0 by omega) rfl (mI_put hI hA hyA (frT_rf 1 X)) (frM_T (frT_rf 1 X)))
theorem mtX6_person : MT yX6_person wsX6_person cX6_person 3 (some .int) 2 := ⟨⟨_, rfl⟩, by decide, by decide, by decide +kernel⟩
set_option maxRecDepth 100000 in
set_option maxHeartbeats 4000000 in
theorem ru_X6_person {X : Mem} {V : St} (hV : mI X V) (x0 : Int) (hx0 : -2147483648 ≤ x0 ∧ x0 ≤ 2147483647) (x1 : Int) (hx1 : -2147483648 ≤ x1 ∧ x1 ≤ 2147483647) : Ru yX6_person wsX6_person 7 153 [.ref 29, vi x0, vi x1] X (fun v X' => v = some (vi (sp3 x0 x1 V).1) ∧ mI X' (sp3 x0 x1 V).2 ∧ frM X X') := by
  refine ru_of (w2 := _) rfl (by decide) [some (.ref 29), some (vi x0), some (vi x1)] (fun _ => rfl) (fun _ => Nat.le_of_ble_eq_true rfl) ?_
  intro K hKn hC hR
  have wX6 : ∀ w ∈ u_ws RX6 TX6 25, w ∈ wsX6_person := by decide +kernel
  have f16 : Fl K RX6 16 6 2 := fl_of hC RX6 TX6 25 rfl (by decide) wX6 (show Cond.fieldLink RX6 16 "PicnicOfSomebodyModel" "kind" "[I" ∈ _ by decide +kernel)
  have f19 : Fl K RX6 19 6 3 := fl_of hC RX6 TX6 25 rfl (by decide) wX6 (show Cond.fieldLink RX6 19 "PicnicOfSomebodyModel" "figure" "[I" ∈ _ by decide +kernel)
  have f22 : Fl K RX6 22 6 4 := fl_of hC RX6 TX6 25 rfl (by decide) wX6 (show Cond.fieldLink RX6 22 "PicnicOfSomebodyModel" "cell" "[I" ∈ _ by decide +kernel)
  have f25 : Fl K RX6 25 6 5 := fl_of hC RX6 TX6 25 rfl (by decide) wX6 (show Cond.fieldLink RX6 25 "PicnicOfSomebodyModel" "belief" "[I" ∈ _ by decide +kernel)
  obtain ⟨A, B, hh, T, n, W, rs, C⟩ := V
  have hA : Rp (vM X) A := hV.1
  have hyA : A 5 1 ≤ 999 := hV.2.1
  have hB : hh = true → Rp (vK X 0) B ∧ B 5 1 ≤ 999 := hV.2.2.1
  have hi : X 29 17 = zI (b2i hh) := hV.2.2.2.1
  have hg : X 29 8 = zI ((0 : Nat) : Int) := hV.2.2.2.2.1
  have hT : TxM X T n := hV.2.2.2.2.2.1
  have hW : RwM X W rs := hV.2.2.2.2.2.2.1
  have hCn : ∀ k, k < 7 → X 30 k = zI (C k : Nat) := hV.2.2.2.2.2.2.2
  have hn8 := hA.n8
  have hn96 := hT.2.1
  have hrs := hW.2.1
  have hG : 0 < 256 := by decide
  have hI : mI X (A, B, hh, T, n, W, rs, C) := hV
  have hq1 := cdP_cases A x0
  have hq2 := cdO_cases x1 7
  have hq3 := f3_cases (cdP A x0) (cdO x1 7) 0
  refine ev_aload_n (pc := 0) hC dX6_person_0 rfl ?_
  refine ev_iload_n (pc := 1) hC dX6_person_1 rfl ?_
  refine ev_callV (pc := 2) (as := [vi x0]) (rest := []) hC gX6_person_X6_isOne mtX6_isOne dX6_person_2 (ru_X6_isOne hA x0 (by omega)) (by decide) (by decide) (by decide) rfl (by rfl) (Nat.le_of_ble_eq_true rfl) rfl (fun v2 X2 h2 => ?_)
  obtain ⟨rfl, rfl⟩ := h2
  show Ev K 5 [some (.ref 29), some (vi x0), some (vi x1)] [vi (b2i (decide (0 ≤ x0 ∧ x0 < (A 5 0 : Int))))] X
  have hr2 := b2i_r (decide (0 ≤ x0 ∧ x0 < (A 5 0 : Int)))
  refine ev_if_ne (pc := 5) hC 14 dX6_person_5 (by decide) (by omega) (fun c5 => ?_) (fun c5 => ?_)
  · have e5 := of_decide_eq_true (b2i_1 c5)
    obtain ⟨p0, rfl⟩ : ∃ k : Nat, x0 = (k : Int) := ⟨x0.toNat, by omega⟩
    refine ev_iload_n (pc := 14) hC dX6_person_14 rfl ?_
    rcases (show x1 = 0 ∨ x1 = 1 ∨ x1 = 2 ∨ x1 = 3 ∨ x1 = 4 ∨ x1 = 5 ∨ x1 = 6 ∨ x1 < 0 ∨ 6 < x1 by omega) with c15 | c15 | c15 | c15 | c15 | c15 | c15 | c15
    · refine ev_tabin (pc := 15) hC 56 dX6_person_15 (by omega) (by omega) (by rw [c15]; rfl) (by decide) ?_
      refine ev_aload_n (pc := 56) hC dX6_person_56 rfl ?_
      refine ev_getr (pc := 57) hC 32 f16 dX6_person_57 (by decide) (by decide) (by decide) (by decide) (by decide) ?_
      refine ev_iload_n (pc := 60) hC dX6_person_60 rfl ?_
      have hb61 := hA.k5 p0 (by omega)
      refine ev_iald (pc := 61) hC p0 ((A 1 p0 : Nat) : Int) (by decide) (by decide) (rfl) (by have := (show alen 32 = 8 from rfl); omega) (hA.m1 p0 (by omega)) dX6_person_61 ?_
      exact ev_ireturn (pc := 62) hC hR dX6_person_62 (ok_endM (show f3 (cdP A ((p0 : Nat) : Int)) (cdO x1 7) 0 = 0 by omega) (by show _ = ((psn A p0 x1 : Nat) : Int); rw [show x1 = 0 by omega]; rfl) (mI_put hI hA hyA (frT_rf 1 X)) (frM_T (frT_rf 1 X)))
    · refine ev_tabin (pc := 15) hC 63 dX6_person_15 (by omega) (by omega) (by rw [c15]; rfl) (by decide) ?_
      refine ev_aload_n (pc := 63) hC dX6_person_63 rfl ?_
      refine ev_getr (pc := 64) hC 33 f19 dX6_person_64 (by decide) (by decide) (by decide) (by decide) (by decide) ?_
      refine ev_iload_n (pc := 67) hC dX6_person_67 rfl ?_
      have hb68 := hA.f9 p0 (by omega)
      refine ev_iald (pc := 68) hC p0 ((A 2 p0 : Nat) : Int) (by decide) (by decide) (rfl) (by have := (show alen 33 = 8 from rfl); omega) (hA.m2 p0 (by omega)) dX6_person_68 ?_
      exact ev_ireturn (pc := 69) hC hR dX6_person_69 (ok_endM (show f3 (cdP A ((p0 : Nat) : Int)) (cdO x1 7) 0 = 0 by omega) (by show _ = ((psn A p0 x1 : Nat) : Int); rw [show x1 = 1 by omega]; rfl) (mI_put hI hA hyA (frT_rf 1 X)) (frM_T (frT_rf 1 X)))
    · refine ev_tabin (pc := 15) hC 70 dX6_person_15 (by omega) (by omega) (by rw [c15]; rfl) (by decide) ?_
      refine ev_aload_n (pc := 70) hC dX6_person_70 rfl ?_
      refine ev_getr (pc := 71) hC 34 f22 dX6_person_71 (by decide) (by decide) (by decide) (by decide) (by decide) ?_
      refine ev_iload_n (pc := 74) hC dX6_person_74 rfl ?_
      have hb75 := hA.c25 p0 (by omega)
      refine ev_iald (pc := 75) hC p0 ((A 3 p0 : Nat) : Int) (by decide) (by decide) (rfl) (by have := (show alen 34 = 8 from rfl); omega) (hA.m3 p0 (by omega)) dX6_person_75 ?_
      exact ev_ireturn (pc := 76) hC hR dX6_person_76 (ok_endM (show f3 (cdP A ((p0 : Nat) : Int)) (cdO x1 7) 0 = 0 by omega) (by show _ = ((psn A p0 x1 : Nat) : Int); rw [show x1 = 2 by omega]; rfl) (mI_put hI hA hyA (frT_rf 1 X)) (frM_T (frT_rf 1 X)))
    · refine ev_tabin (pc := 15) hC 77 dX6_person_15 (by omega) (by omega) (by rw [c15]; rfl) (by decide) ?_
      refine ev_aload_n (pc := 77) hC dX6_person_77 rfl ?_
      refine ev_getr (pc := 78) hC 35 f25 dX6_person_78 (by decide) (by decide) (by decide) (by decide) (by decide) ?_
      refine ev_iload_n (pc := 81) hC dX6_person_81 rfl ?_
      have hb82 := hA.b9 p0 (by omega)
      refine ev_iald (pc := 82) hC p0 ((A 4 p0 : Nat) : Int) (by decide) (by decide) (rfl) (by have := (show alen 35 = 8 from rfl); omega) (hA.m4 p0 (by omega)) dX6_person_82 ?_
      exact ev_ireturn (pc := 83) hC hR dX6_person_83 (ok_endM (show f3 (cdP A ((p0 : Nat) : Int)) (cdO x1 7) 0 = 0 by omega) (by show _ = ((psn A p0 x1 : Nat) : Int); rw [show x1 = 3 by omega]; rfl) (mI_put hI hA hyA (frT_rf 1 X)) (frM_T (frT_rf 1 X)))
    · refine ev_tabin (pc := 15) hC 84 dX6_person_15 (by omega) (by omega) (by rw [c15]; rfl) (by decide) ?_
      refine ev_aload_n (pc := 84) hC dX6_person_84 rfl ?_
      refine ev_iload_n (pc := 85) hC dX6_person_85 rfl ?_
      refine ev_callV (pc := 86) (as := [vi ((p0 : Nat) : Int)]) (rest := []) hC gX6_person_X6_manyBeside mtX6_manyBeside dX6_person_86 (ru_X6_manyBeside hA hg hG p0 (by omega)) (by decide) (by decide) (by decide) rfl (by rfl) (Nat.le_of_ble_eq_true rfl) rfl (fun v86 X86 h86 => ?_)
      obtain ⟨rfl, rfl⟩ := h86
      show Ev K 89 [some (.ref 29), some (vi ((p0 : Nat) : Int)), some (vi x1)] [vi ((many 0 A p0 : Nat) : Int)] X
      have hl86 := many_le 0 A p0
      exact ev_ireturn (pc := 89) hC hR dX6_person_89 (ok_endM (show f3 (cdP A ((p0 : Nat) : Int)) (cdO x1 7) 0 = 0 by omega) (by show _ = ((psn A p0 x1 : Nat) : Int); rw [show x1 = 4 by omega]; rfl) (mI_put hI hA hyA (frT_rf 1 X)) (frM_T (frT_rf 1 X)))
    · refine ev_tabin (pc := 15) hC 90 dX6_person_15 (by omega) (by omega) (by rw [c15]; rfl) (by decide) ?_
      refine ev_aload_n (pc := 90) hC dX6_person_90 rfl ?_
      refine ev_iload_n (pc := 91) hC dX6_person_91 rfl ?_
      refine ev_callV (pc := 92) (as := [vi ((p0 : Nat) : Int)]) (rest := []) hC gX6_person_X6_believersBeside mtX6_believersBeside dX6_person_92 (ru_X6_believersBeside hA hg hG p0 (by omega)) (by decide) (by decide) (by decide) rfl (by rfl) (Nat.le_of_ble_eq_true rfl) rfl (fun v92 X92 h92 => ?_)
      obtain ⟨rfl, rfl⟩ := h92
      show Ev K 95 [some (.ref 29), some (vi ((p0 : Nat) : Int)), some (vi x1)] [vi ((bbl 0 A p0 : Nat) : Int)] X
      have hl92 := bbl_le 0 A p0
      exact ev_ireturn (pc := 95) hC hR dX6_person_95 (ok_endM (show f3 (cdP A ((p0 : Nat) : Int)) (cdO x1 7) 0 = 0 by omega) (by show _ = ((psn A p0 x1 : Nat) : Int); rw [show x1 = 5 by omega]; rfl) (mI_put hI hA hyA (frT_rf 1 X)) (frM_T (frT_rf 1 X)))
    · refine ev_tabin (pc := 15) hC 96 dX6_person_15 (by omega) (by omega) (by rw [c15]; rfl) (by decide) ?_
      refine ev_aload_n (pc := 96) hC dX6_person_96 rfl ?_
      refine ev_iload_n (pc := 97) hC dX6_person_97 rfl ?_
      refine ev_aload_n (pc := 98) hC dX6_person_98 rfl ?_
      refine ev_callV (pc := 99) (as := []) (rest := [vi ((p0 : Nat) : Int), .ref 29]) hC gX6_person_X6_here mtX6_here dX6_person_99 (ru_X6_here hA) (by decide) (by decide) (by decide) rfl (by rfl) (Nat.le_of_ble_eq_true rfl) rfl (fun v99 X99 h99 => ?_)
      obtain ⟨rfl, rfl⟩ := h99
      show Ev K 102 [some (.ref 29), some (vi ((p0 : Nat) : Int)), some (vi x1)] [vi ((here A : Nat) : Int), vi ((p0 : Nat) : Int), .ref 29] X
      have hh99 := here_lt A
      refine ev_callV (pc := 102) (as := [vi ((p0 : Nat) : Int), vi ((here A : Nat) : Int)]) (rest := []) hC gX6_person_X6_nextBelief mtX6_nextBelief dX6_person_102 (ru_X6_nextBelief hA hg hG p0 (here A) (by omega) (by omega)) (by decide) (by decide) (by decide) rfl (by rfl) (Nat.le_of_ble_eq_true rfl) rfl (fun v102 X102 h102 => ?_)
      obtain ⟨rfl, rfl⟩ := h102
      show Ev K 105 [some (.ref 29), some (vi ((p0 : Nat) : Int)), some (vi x1)] [vi ((nextB 0 A p0 (here A) : Nat) : Int)] X
      have hl102 := nextB_le 0 A p0 (here A)
      exact ev_ireturn (pc := 105) hC hR dX6_person_105 (ok_endM (show f3 (cdP A ((p0 : Nat) : Int)) (cdO x1 7) 0 = 0 by omega) (by show _ = ((psn A p0 x1 : Nat) : Int); rw [show x1 = 6 by omega]; rfl) (mI_put hI hA hyA (frT_rf 1 X)) (frM_T (frT_rf 1 X)))
    · refine ev_tabout (pc := 15) hC 106 dX6_person_15 (by omega) (by omega) (by decide) ?_
      refine ev_aload_n (pc := 106) hC dX6_person_106 rfl ?_
      refine ev_bipush (pc := 107) hC dX6_person_107 (by decide) ?_
      refine ev_callV (pc := 109) (as := [vi (-2)]) (rest := []) hC gX6_person_X6_no mtX6_no dX6_person_109 (ru_X6_no2 (-2) (by omega)) (by decide) (by decide) (by decide) rfl (by rfl) (Nat.le_of_ble_eq_true rfl) rfl (fun v109 X109 h109 => ?_)
      obtain ⟨rfl, rfl⟩ := h109
      show Ev K 112 [some (.ref 29), some (vi ((p0 : Nat) : Int)), some (vi x1)] [vi (-2)] (mset X 30 (-(-2)).toNat (X 30 (-(-2)).toNat + 1))
      exact ev_ireturn (pc := 112) hC hR dX6_person_112 (no_endM (show f3 (cdP A ((p0 : Nat) : Int)) (cdO x1 7) 0 = (-2) by omega) (by omega) hI)
  · have e5 := of_decide_eq_false (b2i_0 c5)
    refine ev_aload_n (pc := 8) hC dX6_person_8 rfl ?_
    refine ev_iconst (pc := 9) hC dX6_person_9 ?_
    refine ev_callV (pc := 10) (as := [vi (-1)]) (rest := []) hC gX6_person_X6_no mtX6_no dX6_person_10 (ru_X6_no2 (-1) (by omega)) (by decide) (by decide) (by decide) rfl (by rfl) (Nat.le_of_ble_eq_true rfl) rfl (fun v10 X10 h10 => ?_)
    obtain ⟨rfl, rfl⟩ := h10
    show Ev K 13 [some (.ref 29), some (vi x0), some (vi x1)] [vi (-1)] (mset X 30 (-(-1)).toNat (X 30 (-(-1)).toNat + 1))
    exact ev_ireturn (pc := 13) hC hR dX6_person_13 (no_endM (show f3 (cdP A x0) (cdO x1 7) 0 = (-1) by omega) (by omega) hI)
theorem mtX6_place : MT yX6_place wsX6_place cX6_place 1 (some .int) 0 := ⟨⟨_, rfl⟩, by decide, by decide, by decide +kernel⟩
set_option maxRecDepth 100000 in
set_option maxHeartbeats 4000000 in
theorem ru_X6_place {X : Mem} {V : St} (hV : mI X V) : Ru yX6_place wsX6_place 1 22 [.ref 29] X (fun v X' => v = some (vi (sp4  V).1) ∧ mI X' (sp4  V).2 ∧ frM X X') := by
  refine ru_of (w2 := _) rfl (by decide) [some (.ref 29)] (fun _ => rfl) (fun _ => Nat.le_of_ble_eq_true rfl) ?_
  intro K hKn hC hR
  obtain ⟨A, B, hh, T, n, W, rs, C⟩ := V
  have hA : Rp (vM X) A := hV.1
  have hyA : A 5 1 ≤ 999 := hV.2.1
  have hB : hh = true → Rp (vK X 0) B ∧ B 5 1 ≤ 999 := hV.2.2.1
  have hi : X 29 17 = zI (b2i hh) := hV.2.2.2.1
  have hg : X 29 8 = zI ((0 : Nat) : Int) := hV.2.2.2.2.1
  have hT : TxM X T n := hV.2.2.2.2.2.1
  have hW : RwM X W rs := hV.2.2.2.2.2.2.1
  have hCn : ∀ k, k < 7 → X 30 k = zI (C k : Nat) := hV.2.2.2.2.2.2.2
  have hn8 := hA.n8
  have hn96 := hT.2.1
  have hrs := hW.2.1
  have hG : 0 < 256 := by decide
  have hI : mI X (A, B, hh, T, n, W, rs, C) := hV
  refine ev_aload_n (pc := 0) hC dX6_place_0 rfl ?_
  refine ev_callV (pc := 1) (as := []) (rest := []) hC gX6_place_X6_here mtX6_here dX6_place_1 (ru_X6_here hA) (by decide) (by decide) (by decide) rfl (by rfl) (Nat.le_of_ble_eq_true rfl) rfl (fun v1 X1 h1 => ?_)
  obtain ⟨rfl, rfl⟩ := h1
  show Ev K 4 [some (.ref 29)] [vi ((here A : Nat) : Int)] X
  have hh1 := here_lt A
  exact ev_ireturn (pc := 4) hC hR dX6_place_4 (⟨rv rfl, (mI_put hI hA hyA (frT_rf 1 X)), (frM_T (frT_rf 1 X))⟩)
theorem mtX6_digs : MT yX6_digs wsX6_digs cX6_digs 5 (some .int) 2 := ⟨⟨_, rfl⟩, by decide, by decide, by decide +kernel⟩
set_option maxRecDepth 100000 in
set_option maxHeartbeats 4000000 in
theorem ru_X6_digs {X : Mem} {V : St} (hV : mI X V) (x0 : Int) (hx0 : -2147483648 ≤ x0 ∧ x0 ≤ 2147483647) (x1 : Int) (hx1 : -2147483648 ≤ x1 ∧ x1 ≤ 2147483647) : Ru yX6_digs wsX6_digs 1 22 [.ref 29, vi x0, vi x1] X (fun v X' => v = some (vi (sp5 x0 x1 V).1) ∧ mI X' (sp5 x0 x1 V).2 ∧ frM X X') := by
  refine ru_of (w2 := _) rfl (by decide) [some (.ref 29), some (vi x0), some (vi x1), none, none] (fun _ => rfl) (fun _ => Nat.le_of_ble_eq_true rfl) ?_
  intro K hKn hC hR
  have wX6 : ∀ w ∈ u_ws RX6 TX6 25, w ∈ wsX6_digs := by decide +kernel
  have f13 : Fl K RX6 13 6 1 := fl_of hC RX6 TX6 25 rfl (by decide) wX6 (show Cond.fieldLink RX6 13 "PicnicOfSomebodyModel" "deep" "[I" ∈ _ by decide +kernel)
  obtain ⟨A, B, hh, T, n, W, rs, C⟩ := V
  have hA : Rp (vM X) A := hV.1
  have hyA : A 5 1 ≤ 999 := hV.2.1
  have hB : hh = true → Rp (vK X 0) B ∧ B 5 1 ≤ 999 := hV.2.2.1
  have hi : X 29 17 = zI (b2i hh) := hV.2.2.2.1
  have hg : X 29 8 = zI ((0 : Nat) : Int) := hV.2.2.2.2.1
  have hT : TxM X T n := hV.2.2.2.2.2.1
  have hW : RwM X W rs := hV.2.2.2.2.2.2.1
  have hCn : ∀ k, k < 7 → X 30 k = zI (C k : Nat) := hV.2.2.2.2.2.2.2
  have hn8 := hA.n8
  have hn96 := hT.2.1
  have hrs := hW.2.1
  have hG : 0 < 256 := by decide
  have hI : mI X (A, B, hh, T, n, W, rs, C) := hV
  have hq1 := cdC_cases x0
  have hq2 := bnd_cases x1 0 99
  have hq3 := f3_cases (cdC x0) (bnd x1 0 99) 0
  refine ev_iload_n (pc := 0) hC dX6_digs_0 rfl ?_
  refine ev_callS (pc := 1) (as := [vi x0]) (rest := []) hC gX6_digs_X6_isCell mtX6_isCell dX6_digs_1 (ru_X6_isCell x0 (by omega)) (by decide) (by rfl) (Nat.le_of_ble_eq_true rfl) rfl (fun v1 X1 h1 => ?_)
  obtain ⟨rfl, rfl⟩ := h1
  show Ev K 4 [some (.ref 29), some (vi x0), some (vi x1), none, none] [vi (b2i (decide (0 ≤ x0 ∧ x0 < 25)))] X
  have hr1 := b2i_r (decide (0 ≤ x0 ∧ x0 < 25))
  refine ev_if_ne (pc := 4) hC 11 dX6_digs_4 (by decide) (by omega) (fun c4 => ?_) (fun c4 => ?_)
  · have e4 := of_decide_eq_true (b2i_1 c4)
    refine ev_iload_n (pc := 11) hC dX6_digs_11 rfl ?_
    refine ev_iconst (pc := 12) hC dX6_digs_12 ?_
    refine ev_bipush (pc := 13) hC dX6_digs_13 (by decide) ?_
    refine ev_callS (pc := 15) (as := [vi x1, vi 0, vi 99]) (rest := []) hC gX6_digs_X6_bound mtX6_bound dX6_digs_15 (ru_X6_bound x1 0 99 (by omega) (by omega) (by omega)) (by decide) (by rfl) (Nat.le_of_ble_eq_true rfl) rfl (fun v15 X15 h15 => ?_)
    obtain ⟨rfl, rfl⟩ := h15
    show Ev K 18 [some (.ref 29), some (vi x0), some (vi x1), none, none] [vi (bnd x1 0 99)] X
    have hbd15 := bnd_cases x1 0 99
    refine ev_istore_n (pc := 18) hC dX6_digs_18 (by rw [hKn]; decide) rfl ?_
    show Ev K 19 [some (.ref 29), some (vi x0), some (vi x1), some (vi (bnd x1 0 99)), none] [] X
    refine ev_iload_n (pc := 19) hC dX6_digs_19 rfl ?_
    refine ev_if_eq (pc := 20) hC 29 dX6_digs_20 (by decide) (by omega) (fun c20 => ?_) (fun c20 => ?_)
    · obtain ⟨p0, rfl⟩ : ∃ k : Nat, x0 = (k : Int) := ⟨x0.toNat, by omega⟩
      obtain ⟨p1, rfl⟩ : ∃ k : Nat, x1 = (k : Int) := ⟨x1.toNat, by omega⟩
      refine ev_aload_n (pc := 29) hC dX6_digs_29 rfl ?_
      refine ev_getr (pc := 30) hC 31 f13 dX6_digs_30 (by decide) (by decide) (by decide) (by decide) (by decide) ?_
      refine ev_iload_n (pc := 33) hC dX6_digs_33 rfl ?_
      have hb34 := hA.d99 p0 (by omega)
      refine ev_iald (pc := 34) hC p0 ((A 0 p0 : Nat) : Int) (by decide) (by decide) (rfl) (by have := (show alen 31 = 25 from rfl); omega) (hA.m0 p0 (by omega)) dX6_digs_34 ?_
      refine ev_istore (pc := 35) hC dX6_digs_35 (by rw [hKn]; decide) rfl ?_
      show Ev K 37 [some (.ref 29), some (vi ((p0 : Nat) : Int)), some (vi ((p1 : Nat) : Int)), some (vi (bnd ((p1 : Nat) : Int) 0 99)), some (vi ((A 0 p0 : Nat) : Int))] [] X
      refine ev_aload_n (pc := 37) hC dX6_digs_37 rfl ?_
      refine ev_getr (pc := 38) hC 31 f13 dX6_digs_38 (by decide) (by decide) (by decide) (by decide) (by decide) ?_
      refine ev_iload_n (pc := 41) hC dX6_digs_41 rfl ?_
      refine ev_iload_n (pc := 42) hC dX6_digs_42 rfl ?_
      refine ev_iast (pc := 43) hC p0 (by decide) (by decide) (rfl) (by have := (show alen 31 = 25 from rfl); omega) dX6_digs_43 ?_
      have hA43 : Rp (vM (mset X 31 p0 (zI ((p1 : Nat) : Int)))) (setR A 0 p0 p1) := Rp.setM0 (v := p1) hA (by omega)
      have hg43 : (mset X 31 p0 (zI ((p1 : Nat) : Int))) 29 8 = zI ((0 : Nat) : Int) := by rw [mset_row (by omega)]; exact hg
      have hFr43 : frT 1 X (mset X 31 p0 (zI ((p1 : Nat) : Int))) := frT_set (r := 0) (frT_rf 1 X) (by omega)
      refine ev_iload (pc := 44) hC dX6_digs_44 rfl ?_
      exact ev_ireturn (pc := 46) hC hR dX6_digs_46 (ok_endM (show f3 (cdC ((p0 : Nat) : Int)) (bnd ((p1 : Nat) : Int) 0 99) 0 = 0 by omega) rfl (mI_put hI hA43 hyA hFr43) (frM_T hFr43))
    · refine ev_aload_n (pc := 23) hC dX6_digs_23 rfl ?_
      refine ev_iload_n (pc := 24) hC dX6_digs_24 rfl ?_
      refine ev_callV (pc := 25) (as := [vi (bnd x1 0 99)]) (rest := []) hC gX6_digs_X6_no mtX6_no dX6_digs_25 (ru_X6_no2 (bnd x1 0 99) (by omega)) (by decide) (by decide) (by decide) rfl (by rfl) (Nat.le_of_ble_eq_true rfl) rfl (fun v25 X25 h25 => ?_)
      obtain ⟨rfl, rfl⟩ := h25
      show Ev K 28 [some (.ref 29), some (vi x0), some (vi x1), some (vi (bnd x1 0 99)), none] [vi (bnd x1 0 99)] (mset X 30 (-(bnd x1 0 99)).toNat (X 30 (-(bnd x1 0 99)).toNat + 1))
      exact ev_ireturn (pc := 28) hC hR dX6_digs_28 (no_endM (show f3 (cdC x0) (bnd x1 0 99) 0 = (bnd x1 0 99) by omega) (by omega) hI)
  · have e4 := of_decide_eq_false (b2i_0 c4)
    refine ev_iconst (pc := 7) hC dX6_digs_7 ?_
    refine ev_goto (pc := 8) hC 18 dX6_digs_8 (by decide) ?_
    refine ev_istore_n (pc := 18) hC dX6_digs_18 (by rw [hKn]; decide) rfl ?_
    show Ev K 19 [some (.ref 29), some (vi x0), some (vi x1), some (vi (-1)), none] [] X
    refine ev_iload_n (pc := 19) hC dX6_digs_19 rfl ?_
    refine ev_if_eq (pc := 20) hC 29 dX6_digs_20 (by decide) (by omega) (fun c20 => absurd c20 (by decide)) (fun c20 => ?_)
    refine ev_aload_n (pc := 23) hC dX6_digs_23 rfl ?_
    refine ev_iload_n (pc := 24) hC dX6_digs_24 rfl ?_
    refine ev_callV (pc := 25) (as := [vi (-1)]) (rest := []) hC gX6_digs_X6_no mtX6_no dX6_digs_25 (ru_X6_no2 (-1) (by omega)) (by decide) (by decide) (by decide) rfl (by rfl) (Nat.le_of_ble_eq_true rfl) rfl (fun v25 X25 h25 => ?_)
    obtain ⟨rfl, rfl⟩ := h25
    show Ev K 28 [some (.ref 29), some (vi x0), some (vi x1), some (vi (-1)), none] [vi (-1)] (mset X 30 (-(-1)).toNat (X 30 (-(-1)).toNat + 1))
    exact ev_ireturn (pc := 28) hC hR dX6_digs_28 (no_endM (show f3 (cdC x0) (bnd x1 0 99) 0 = (-1) by omega) (by omega) hI)
theorem mtX6_believes : MT yX6_believes wsX6_believes cX6_believes 5 (some .int) 2 := ⟨⟨_, rfl⟩, by decide, by decide, by decide +kernel⟩
set_option maxRecDepth 100000 in
set_option maxHeartbeats 4000000 in
theorem ru_X6_believes {X : Mem} {V : St} (hV : mI X V) (x0 : Int) (hx0 : -2147483648 ≤ x0 ∧ x0 ≤ 2147483647) (x1 : Int) (hx1 : -2147483648 ≤ x1 ∧ x1 ≤ 2147483647) : Ru yX6_believes wsX6_believes 1 22 [.ref 29, vi x0, vi x1] X (fun v X' => v = some (vi (sp6 x0 x1 V).1) ∧ mI X' (sp6 x0 x1 V).2 ∧ frM X X') := by
  refine ru_of (w2 := _) rfl (by decide) [some (.ref 29), some (vi x0), some (vi x1), none, none] (fun _ => rfl) (fun _ => Nat.le_of_ble_eq_true rfl) ?_
  intro K hKn hC hR
  have wX6 : ∀ w ∈ u_ws RX6 TX6 25, w ∈ wsX6_believes := by decide +kernel
  have f25 : Fl K RX6 25 6 5 := fl_of hC RX6 TX6 25 rfl (by decide) wX6 (show Cond.fieldLink RX6 25 "PicnicOfSomebodyModel" "belief" "[I" ∈ _ by decide +kernel)
  obtain ⟨A, B, hh, T, n, W, rs, C⟩ := V
  have hA : Rp (vM X) A := hV.1
  have hyA : A 5 1 ≤ 999 := hV.2.1
  have hB : hh = true → Rp (vK X 0) B ∧ B 5 1 ≤ 999 := hV.2.2.1
  have hi : X 29 17 = zI (b2i hh) := hV.2.2.2.1
  have hg : X 29 8 = zI ((0 : Nat) : Int) := hV.2.2.2.2.1
  have hT : TxM X T n := hV.2.2.2.2.2.1
  have hW : RwM X W rs := hV.2.2.2.2.2.2.1
  have hCn : ∀ k, k < 7 → X 30 k = zI (C k : Nat) := hV.2.2.2.2.2.2.2
  have hn8 := hA.n8
  have hn96 := hT.2.1
  have hrs := hW.2.1
  have hG : 0 < 256 := by decide
  have hI : mI X (A, B, hh, T, n, W, rs, C) := hV
  have hq1 := cdP_cases A x0
  have hq2 := bnd_cases x1 0 9
  have hq3 := f3_cases (cdP A x0) (bnd x1 0 9) 0
  refine ev_aload_n (pc := 0) hC dX6_believes_0 rfl ?_
  refine ev_iload_n (pc := 1) hC dX6_believes_1 rfl ?_
  refine ev_callV (pc := 2) (as := [vi x0]) (rest := []) hC gX6_believes_X6_isOne mtX6_isOne dX6_believes_2 (ru_X6_isOne hA x0 (by omega)) (by decide) (by decide) (by decide) rfl (by rfl) (Nat.le_of_ble_eq_true rfl) rfl (fun v2 X2 h2 => ?_)
  obtain ⟨rfl, rfl⟩ := h2
  show Ev K 5 [some (.ref 29), some (vi x0), some (vi x1), none, none] [vi (b2i (decide (0 ≤ x0 ∧ x0 < (A 5 0 : Int))))] X
  have hr2 := b2i_r (decide (0 ≤ x0 ∧ x0 < (A 5 0 : Int)))
  refine ev_if_ne (pc := 5) hC 12 dX6_believes_5 (by decide) (by omega) (fun c5 => ?_) (fun c5 => ?_)
  · have e5 := of_decide_eq_true (b2i_1 c5)
    refine ev_iload_n (pc := 12) hC dX6_believes_12 rfl ?_
    refine ev_iconst (pc := 13) hC dX6_believes_13 ?_
    refine ev_bipush (pc := 14) hC dX6_believes_14 (by decide) ?_
    refine ev_callS (pc := 16) (as := [vi x1, vi 0, vi 9]) (rest := []) hC gX6_believes_X6_bound mtX6_bound dX6_believes_16 (ru_X6_bound x1 0 9 (by omega) (by omega) (by omega)) (by decide) (by rfl) (Nat.le_of_ble_eq_true rfl) rfl (fun v16 X16 h16 => ?_)
    obtain ⟨rfl, rfl⟩ := h16
    show Ev K 19 [some (.ref 29), some (vi x0), some (vi x1), none, none] [vi (bnd x1 0 9)] X
    have hbd16 := bnd_cases x1 0 9
    refine ev_istore_n (pc := 19) hC dX6_believes_19 (by rw [hKn]; decide) rfl ?_
    show Ev K 20 [some (.ref 29), some (vi x0), some (vi x1), some (vi (bnd x1 0 9)), none] [] X
    refine ev_iload_n (pc := 20) hC dX6_believes_20 rfl ?_
    refine ev_if_eq (pc := 21) hC 30 dX6_believes_21 (by decide) (by omega) (fun c21 => ?_) (fun c21 => ?_)
    · obtain ⟨p0, rfl⟩ : ∃ k : Nat, x0 = (k : Int) := ⟨x0.toNat, by omega⟩
      obtain ⟨p1, rfl⟩ : ∃ k : Nat, x1 = (k : Int) := ⟨x1.toNat, by omega⟩
      refine ev_aload_n (pc := 30) hC dX6_believes_30 rfl ?_
      refine ev_getr (pc := 31) hC 35 f25 dX6_believes_31 (by decide) (by decide) (by decide) (by decide) (by decide) ?_
      refine ev_iload_n (pc := 34) hC dX6_believes_34 rfl ?_
      have hb35 := hA.b9 p0 (by omega)
      refine ev_iald (pc := 35) hC p0 ((A 4 p0 : Nat) : Int) (by decide) (by decide) (rfl) (by have := (show alen 35 = 8 from rfl); omega) (hA.m4 p0 (by omega)) dX6_believes_35 ?_
      refine ev_istore (pc := 36) hC dX6_believes_36 (by rw [hKn]; decide) rfl ?_
      show Ev K 38 [some (.ref 29), some (vi ((p0 : Nat) : Int)), some (vi ((p1 : Nat) : Int)), some (vi (bnd ((p1 : Nat) : Int) 0 9)), some (vi ((A 4 p0 : Nat) : Int))] [] X
      refine ev_aload_n (pc := 38) hC dX6_believes_38 rfl ?_
      refine ev_getr (pc := 39) hC 35 f25 dX6_believes_39 (by decide) (by decide) (by decide) (by decide) (by decide) ?_
      refine ev_iload_n (pc := 42) hC dX6_believes_42 rfl ?_
      refine ev_iload_n (pc := 43) hC dX6_believes_43 rfl ?_
      refine ev_iast (pc := 44) hC p0 (by decide) (by decide) (rfl) (by have := (show alen 35 = 8 from rfl); omega) dX6_believes_44 ?_
      have hA44 : Rp (vM (mset X 35 p0 (zI ((p1 : Nat) : Int)))) (setR A 4 p0 p1) := Rp.setM4 (v := p1) hA (by omega)
      have hg44 : (mset X 35 p0 (zI ((p1 : Nat) : Int))) 29 8 = zI ((0 : Nat) : Int) := by rw [mset_row (by omega)]; exact hg
      have hFr44 : frT 1 X (mset X 35 p0 (zI ((p1 : Nat) : Int))) := frT_set (r := 4) (frT_rf 1 X) (by omega)
      refine ev_iload (pc := 45) hC dX6_believes_45 rfl ?_
      exact ev_ireturn (pc := 47) hC hR dX6_believes_47 (ok_endM (show f3 (cdP A ((p0 : Nat) : Int)) (bnd ((p1 : Nat) : Int) 0 9) 0 = 0 by omega) rfl (mI_put hI hA44 hyA hFr44) (frM_T hFr44))
    · refine ev_aload_n (pc := 24) hC dX6_believes_24 rfl ?_
      refine ev_iload_n (pc := 25) hC dX6_believes_25 rfl ?_
      refine ev_callV (pc := 26) (as := [vi (bnd x1 0 9)]) (rest := []) hC gX6_believes_X6_no mtX6_no dX6_believes_26 (ru_X6_no2 (bnd x1 0 9) (by omega)) (by decide) (by decide) (by decide) rfl (by rfl) (Nat.le_of_ble_eq_true rfl) rfl (fun v26 X26 h26 => ?_)
      obtain ⟨rfl, rfl⟩ := h26
      show Ev K 29 [some (.ref 29), some (vi x0), some (vi x1), some (vi (bnd x1 0 9)), none] [vi (bnd x1 0 9)] (mset X 30 (-(bnd x1 0 9)).toNat (X 30 (-(bnd x1 0 9)).toNat + 1))
      exact ev_ireturn (pc := 29) hC hR dX6_believes_29 (no_endM (show f3 (cdP A x0) (bnd x1 0 9) 0 = (bnd x1 0 9) by omega) (by omega) hI)
  · have e5 := of_decide_eq_false (b2i_0 c5)
    refine ev_iconst (pc := 8) hC dX6_believes_8 ?_
    refine ev_goto (pc := 9) hC 19 dX6_believes_9 (by decide) ?_
    refine ev_istore_n (pc := 19) hC dX6_believes_19 (by rw [hKn]; decide) rfl ?_
    show Ev K 20 [some (.ref 29), some (vi x0), some (vi x1), some (vi (-1)), none] [] X
    refine ev_iload_n (pc := 20) hC dX6_believes_20 rfl ?_
    refine ev_if_eq (pc := 21) hC 30 dX6_believes_21 (by decide) (by omega) (fun c21 => absurd c21 (by decide)) (fun c21 => ?_)
    refine ev_aload_n (pc := 24) hC dX6_believes_24 rfl ?_
    refine ev_iload_n (pc := 25) hC dX6_believes_25 rfl ?_
    refine ev_callV (pc := 26) (as := [vi (-1)]) (rest := []) hC gX6_believes_X6_no mtX6_no dX6_believes_26 (ru_X6_no2 (-1) (by omega)) (by decide) (by decide) (by decide) rfl (by rfl) (Nat.le_of_ble_eq_true rfl) rfl (fun v26 X26 h26 => ?_)
    obtain ⟨rfl, rfl⟩ := h26
    show Ev K 29 [some (.ref 29), some (vi x0), some (vi x1), some (vi (-1)), none] [vi (-1)] (mset X 30 (-(-1)).toNat (X 30 (-(-1)).toNat + 1))
    exact ev_ireturn (pc := 29) hC hR dX6_believes_29 (no_endM (show f3 (cdP A x0) (bnd x1 0 9) 0 = (-1) by omega) (by omega) hI)
theorem mtX6_sits : MT yX6_sits wsX6_sits cX6_sits 4 (some .int) 2 := ⟨⟨_, rfl⟩, by decide, by decide, by decide +kernel⟩
set_option maxRecDepth 100000 in
set_option maxHeartbeats 4000000 in
theorem ru_X6_sits {X : Mem} {V : St} (hV : mI X V) (x0 : Int) (hx0 : -2147483648 ≤ x0 ∧ x0 ≤ 2147483647) (x1 : Int) (hx1 : -2147483648 ≤ x1 ∧ x1 ≤ 2147483647) : Ru yX6_sits wsX6_sits 1 21 [.ref 29, vi x0, vi x1] X (fun v X' => v = some (vi (sp7 x0 x1 V).1) ∧ mI X' (sp7 x0 x1 V).2 ∧ frM X X') := by
  refine ru_of (w2 := _) rfl (by decide) [some (.ref 29), some (vi x0), some (vi x1), none] (fun _ => rfl) (fun _ => Nat.le_of_ble_eq_true rfl) ?_
  intro K hKn hC hR
  have wX6 : ∀ w ∈ u_ws RX6 TX6 25, w ∈ wsX6_sits := by decide +kernel
  have f22 : Fl K RX6 22 6 4 := fl_of hC RX6 TX6 25 rfl (by decide) wX6 (show Cond.fieldLink RX6 22 "PicnicOfSomebodyModel" "cell" "[I" ∈ _ by decide +kernel)
  obtain ⟨A, B, hh, T, n, W, rs, C⟩ := V
  have hA : Rp (vM X) A := hV.1
  have hyA : A 5 1 ≤ 999 := hV.2.1
  have hB : hh = true → Rp (vK X 0) B ∧ B 5 1 ≤ 999 := hV.2.2.1
  have hi : X 29 17 = zI (b2i hh) := hV.2.2.2.1
  have hg : X 29 8 = zI ((0 : Nat) : Int) := hV.2.2.2.2.1
  have hT : TxM X T n := hV.2.2.2.2.2.1
  have hW : RwM X W rs := hV.2.2.2.2.2.2.1
  have hCn : ∀ k, k < 7 → X 30 k = zI (C k : Nat) := hV.2.2.2.2.2.2.2
  have hn8 := hA.n8
  have hn96 := hT.2.1
  have hrs := hW.2.1
  have hG : 0 < 256 := by decide
  have hI : mI X (A, B, hh, T, n, W, rs, C) := hV
  have hq1 := cdP_cases A x0
  have hq2 := cdC_cases x1
  have hq3 := f3_cases (cdP A x0) (cdC x1) 0
  refine ev_aload_n (pc := 0) hC dX6_sits_0 rfl ?_
  refine ev_iload_n (pc := 1) hC dX6_sits_1 rfl ?_
  refine ev_callV (pc := 2) (as := [vi x0]) (rest := []) hC gX6_sits_X6_isOne mtX6_isOne dX6_sits_2 (ru_X6_isOne hA x0 (by omega)) (by decide) (by decide) (by decide) rfl (by rfl) (Nat.le_of_ble_eq_true rfl) rfl (fun v2 X2 h2 => ?_)
  obtain ⟨rfl, rfl⟩ := h2
  show Ev K 5 [some (.ref 29), some (vi x0), some (vi x1), none] [vi (b2i (decide (0 ≤ x0 ∧ x0 < (A 5 0 : Int))))] X
  have hr2 := b2i_r (decide (0 ≤ x0 ∧ x0 < (A 5 0 : Int)))
  refine ev_if_eq (pc := 5) hC 15 dX6_sits_5 (by decide) (by omega) (fun c5 => ?_) (fun c5 => ?_)
  · have e5 := of_decide_eq_false (b2i_0 c5)
    refine ev_aload_n (pc := 15) hC dX6_sits_15 rfl ?_
    refine ev_iconst (pc := 16) hC dX6_sits_16 ?_
    refine ev_callV (pc := 17) (as := [vi (-1)]) (rest := []) hC gX6_sits_X6_no mtX6_no dX6_sits_17 (ru_X6_no2 (-1) (by omega)) (by decide) (by decide) (by decide) rfl (by rfl) (Nat.le_of_ble_eq_true rfl) rfl (fun v17 X17 h17 => ?_)
    obtain ⟨rfl, rfl⟩ := h17
    show Ev K 20 [some (.ref 29), some (vi x0), some (vi x1), none] [vi (-1)] (mset X 30 (-(-1)).toNat (X 30 (-(-1)).toNat + 1))
    exact ev_ireturn (pc := 20) hC hR dX6_sits_20 (no_endM (show f3 (cdP A x0) (cdC x1) 0 = (-1) by omega) (by omega) hI)
  · have e5 := of_decide_eq_true (b2i_1 c5)
    refine ev_iload_n (pc := 8) hC dX6_sits_8 rfl ?_
    refine ev_callS (pc := 9) (as := [vi x1]) (rest := []) hC gX6_sits_X6_isCell mtX6_isCell dX6_sits_9 (ru_X6_isCell x1 (by omega)) (by decide) (by rfl) (Nat.le_of_ble_eq_true rfl) rfl (fun v9 X9 h9 => ?_)
    obtain ⟨rfl, rfl⟩ := h9
    show Ev K 12 [some (.ref 29), some (vi x0), some (vi x1), none] [vi (b2i (decide (0 ≤ x1 ∧ x1 < 25)))] X
    have hr9 := b2i_r (decide (0 ≤ x1 ∧ x1 < 25))
    refine ev_if_ne (pc := 12) hC 21 dX6_sits_12 (by decide) (by omega) (fun c12 => ?_) (fun c12 => ?_)
    · have e12 := of_decide_eq_true (b2i_1 c12)
      obtain ⟨p0, rfl⟩ : ∃ k : Nat, x0 = (k : Int) := ⟨x0.toNat, by omega⟩
      obtain ⟨p1, rfl⟩ : ∃ k : Nat, x1 = (k : Int) := ⟨x1.toNat, by omega⟩
      refine ev_aload_n (pc := 21) hC dX6_sits_21 rfl ?_
      refine ev_getr (pc := 22) hC 34 f22 dX6_sits_22 (by decide) (by decide) (by decide) (by decide) (by decide) ?_
      refine ev_iload_n (pc := 25) hC dX6_sits_25 rfl ?_
      have hb26 := hA.c25 p0 (by omega)
      refine ev_iald (pc := 26) hC p0 ((A 3 p0 : Nat) : Int) (by decide) (by decide) (rfl) (by have := (show alen 34 = 8 from rfl); omega) (hA.m3 p0 (by omega)) dX6_sits_26 ?_
      refine ev_istore_n (pc := 27) hC dX6_sits_27 (by rw [hKn]; decide) rfl ?_
      show Ev K 28 [some (.ref 29), some (vi ((p0 : Nat) : Int)), some (vi ((p1 : Nat) : Int)), some (vi ((A 3 p0 : Nat) : Int))] [] X
      refine ev_aload_n (pc := 28) hC dX6_sits_28 rfl ?_
      refine ev_getr (pc := 29) hC 34 f22 dX6_sits_29 (by decide) (by decide) (by decide) (by decide) (by decide) ?_
      refine ev_iload_n (pc := 32) hC dX6_sits_32 rfl ?_
      refine ev_iload_n (pc := 33) hC dX6_sits_33 rfl ?_
      refine ev_iast (pc := 34) hC p0 (by decide) (by decide) (rfl) (by have := (show alen 34 = 8 from rfl); omega) dX6_sits_34 ?_
      have hA34 : Rp (vM (mset X 34 p0 (zI ((p1 : Nat) : Int)))) (setR A 3 p0 p1) := Rp.setM3 (v := p1) hA (by omega)
      have hg34 : (mset X 34 p0 (zI ((p1 : Nat) : Int))) 29 8 = zI ((0 : Nat) : Int) := by rw [mset_row (by omega)]; exact hg
      have hFr34 : frT 1 X (mset X 34 p0 (zI ((p1 : Nat) : Int))) := frT_set (r := 3) (frT_rf 1 X) (by omega)
      refine ev_iload_n (pc := 35) hC dX6_sits_35 rfl ?_
      exact ev_ireturn (pc := 36) hC hR dX6_sits_36 (ok_endM (show f3 (cdP A ((p0 : Nat) : Int)) (cdC ((p1 : Nat) : Int)) 0 = 0 by omega) rfl (mI_put hI hA34 hyA hFr34) (frM_T hFr34))
    · have e12 := of_decide_eq_false (b2i_0 c12)
      refine ev_aload_n (pc := 15) hC dX6_sits_15 rfl ?_
      refine ev_iconst (pc := 16) hC dX6_sits_16 ?_
      refine ev_callV (pc := 17) (as := [vi (-1)]) (rest := []) hC gX6_sits_X6_no mtX6_no dX6_sits_17 (ru_X6_no2 (-1) (by omega)) (by decide) (by decide) (by decide) rfl (by rfl) (Nat.le_of_ble_eq_true rfl) rfl (fun v17 X17 h17 => ?_)
      obtain ⟨rfl, rfl⟩ := h17
      show Ev K 20 [some (.ref 29), some (vi x0), some (vi x1), none] [vi (-1)] (mset X 30 (-(-1)).toNat (X 30 (-(-1)).toNat + 1))
      exact ev_ireturn (pc := 20) hC hR dX6_sits_20 (no_endM (show f3 (cdP A x0) (cdC x1) 0 = (-1) by omega) (by omega) hI)
theorem mtX6_turn : MT yX6_turn wsX6_turn cX6_turn 6 (some .int) 3 := ⟨⟨_, rfl⟩, by decide, by decide, by decide +kernel⟩
set_option maxRecDepth 100000 in
set_option maxHeartbeats 4000000 in
theorem ru_X6_turn {X : Mem} {V : St} (hV : mI X V) (x0 : Int) (hx0 : -2147483648 ≤ x0 ∧ x0 ≤ 2147483647) (x1 : Int) (hx1 : -2147483648 ≤ x1 ∧ x1 ≤ 2147483647) (x2 : Int) (hx2 : -2147483648 ≤ x2 ∧ x2 ≤ 2147483647) : Ru yX6_turn wsX6_turn 1 22 [.ref 29, vi x0, vi x1, vi x2] X (fun v X' => v = some (vi (sp8 x0 x1 x2 V).1) ∧ mI X' (sp8 x0 x1 x2 V).2 ∧ frM X X') := by
  refine ru_of (w2 := _) rfl (by decide) [some (.ref 29), some (vi x0), some (vi x1), some (vi x2), none, none] (fun _ => rfl) (fun _ => Nat.le_of_ble_eq_true rfl) ?_
  intro K hKn hC hR
  have wX6 : ∀ w ∈ u_ws RX6 TX6 25, w ∈ wsX6_turn := by decide +kernel
  have f16 : Fl K RX6 16 6 2 := fl_of hC RX6 TX6 25 rfl (by decide) wX6 (show Cond.fieldLink RX6 16 "PicnicOfSomebodyModel" "kind" "[I" ∈ _ by decide +kernel)
  have f19 : Fl K RX6 19 6 3 := fl_of hC RX6 TX6 25 rfl (by decide) wX6 (show Cond.fieldLink RX6 19 "PicnicOfSomebodyModel" "figure" "[I" ∈ _ by decide +kernel)
  obtain ⟨A, B, hh, T, n, W, rs, C⟩ := V
  have hA : Rp (vM X) A := hV.1
  have hyA : A 5 1 ≤ 999 := hV.2.1
  have hB : hh = true → Rp (vK X 0) B ∧ B 5 1 ≤ 999 := hV.2.2.1
  have hi : X 29 17 = zI (b2i hh) := hV.2.2.2.1
  have hg : X 29 8 = zI ((0 : Nat) : Int) := hV.2.2.2.2.1
  have hT : TxM X T n := hV.2.2.2.2.2.1
  have hW : RwM X W rs := hV.2.2.2.2.2.2.1
  have hCn : ∀ k, k < 7 → X 30 k = zI (C k : Nat) := hV.2.2.2.2.2.2.2
  have hn8 := hA.n8
  have hn96 := hT.2.1
  have hrs := hW.2.1
  have hG : 0 < 256 := by decide
  have hI : mI X (A, B, hh, T, n, W, rs, C) := hV
  have hq1 := cdP_cases A x0
  have hq2 := cdO_cases x1 6
  have hq3 := f3_cases (cdP A x0) (cdO x1 6) (bnd x2 0 9)
  have hq4 := bnd_cases x2 0 9
  refine ev_aload_n (pc := 0) hC dX6_turn_0 rfl ?_
  refine ev_iload_n (pc := 1) hC dX6_turn_1 rfl ?_
  refine ev_callV (pc := 2) (as := [vi x0]) (rest := []) hC gX6_turn_X6_isOne mtX6_isOne dX6_turn_2 (ru_X6_isOne hA x0 (by omega)) (by decide) (by decide) (by decide) rfl (by rfl) (Nat.le_of_ble_eq_true rfl) rfl (fun v2 X2 h2 => ?_)
  obtain ⟨rfl, rfl⟩ := h2
  show Ev K 5 [some (.ref 29), some (vi x0), some (vi x1), some (vi x2), none, none] [vi (b2i (decide (0 ≤ x0 ∧ x0 < (A 5 0 : Int))))] X
  have hr2 := b2i_r (decide (0 ≤ x0 ∧ x0 < (A 5 0 : Int)))
  refine ev_if_ne (pc := 5) hC 12 dX6_turn_5 (by decide) (by omega) (fun c5 => ?_) (fun c5 => ?_)
  · have e5 := of_decide_eq_true (b2i_1 c5)
    refine ev_iload_n (pc := 12) hC dX6_turn_12 rfl ?_
    refine ev_iconst (pc := 13) hC dX6_turn_13 ?_
    refine ev_iconst (pc := 14) hC dX6_turn_14 ?_
    refine ev_callS (pc := 15) (as := [vi x1, vi 0, vi 5]) (rest := []) hC gX6_turn_X6_isIn mtX6_isIn dX6_turn_15 (ru_X6_isIn x1 0 5 (by omega) (by omega) (by omega)) (by decide) (by rfl) (Nat.le_of_ble_eq_true rfl) rfl (fun v15 X15 h15 => ?_)
    obtain ⟨rfl, rfl⟩ := h15
    show Ev K 18 [some (.ref 29), some (vi x0), some (vi x1), some (vi x2), none, none] [vi (b2i (decide (0 ≤ x1 ∧ x1 ≤ 5)))] X
    have hr15 := b2i_r (decide (0 ≤ x1 ∧ x1 ≤ 5))
    refine ev_if_ne (pc := 18) hC 26 dX6_turn_18 (by decide) (by omega) (fun c18 => ?_) (fun c18 => ?_)
    · have e18 := of_decide_eq_true (b2i_1 c18)
      refine ev_iload_n (pc := 26) hC dX6_turn_26 rfl ?_
      refine ev_iconst (pc := 27) hC dX6_turn_27 ?_
      refine ev_bipush (pc := 28) hC dX6_turn_28 (by decide) ?_
      refine ev_callS (pc := 30) (as := [vi x2, vi 0, vi 9]) (rest := []) hC gX6_turn_X6_bound mtX6_bound dX6_turn_30 (ru_X6_bound x2 0 9 (by omega) (by omega) (by omega)) (by decide) (by rfl) (Nat.le_of_ble_eq_true rfl) rfl (fun v30 X30 h30 => ?_)
      obtain ⟨rfl, rfl⟩ := h30
      show Ev K 33 [some (.ref 29), some (vi x0), some (vi x1), some (vi x2), none, none] [vi (bnd x2 0 9)] X
      have hbd30 := bnd_cases x2 0 9
      refine ev_istore (pc := 33) hC dX6_turn_33 (by rw [hKn]; decide) rfl ?_
      show Ev K 35 [some (.ref 29), some (vi x0), some (vi x1), some (vi x2), some (vi (bnd x2 0 9)), none] [] X
      refine ev_iload (pc := 35) hC dX6_turn_35 rfl ?_
      refine ev_if_eq (pc := 37) hC 47 dX6_turn_37 (by decide) (by omega) (fun c37 => ?_) (fun c37 => ?_)
      · obtain ⟨p0, rfl⟩ : ∃ k : Nat, x0 = (k : Int) := ⟨x0.toNat, by omega⟩
        obtain ⟨p1, rfl⟩ : ∃ k : Nat, x1 = (k : Int) := ⟨x1.toNat, by omega⟩
        obtain ⟨p2, rfl⟩ : ∃ k : Nat, x2 = (k : Int) := ⟨x2.toNat, by omega⟩
        refine ev_bipush (pc := 47) hC dX6_turn_47 (by decide) ?_
        refine ev_aload_n (pc := 49) hC dX6_turn_49 rfl ?_
        refine ev_getr (pc := 50) hC 32 f16 dX6_turn_50 (by decide) (by decide) (by decide) (by decide) (by decide) ?_
        refine ev_iload_n (pc := 53) hC dX6_turn_53 rfl ?_
        have hb54 := hA.k5 p0 (by omega)
        refine ev_iald (pc := 54) hC p0 ((A 1 p0 : Nat) : Int) (by decide) (by decide) (rfl) (by have := (show alen 32 = 8 from rfl); omega) (hA.m1 p0 (by omega)) dX6_turn_54 ?_
        refine ev_imul (pc := 55) hC ((10 * (A 1 p0) : Nat) : Int) (by omega) dX6_turn_55 ?_
        refine ev_aload_n (pc := 56) hC dX6_turn_56 rfl ?_
        refine ev_getr (pc := 57) hC 33 f19 dX6_turn_57 (by decide) (by decide) (by decide) (by decide) (by decide) ?_
        refine ev_iload_n (pc := 60) hC dX6_turn_60 rfl ?_
        have hb61 := hA.f9 p0 (by omega)
        refine ev_iald (pc := 61) hC p0 ((A 2 p0 : Nat) : Int) (by decide) (by decide) (rfl) (by have := (show alen 33 = 8 from rfl); omega) (hA.m2 p0 (by omega)) dX6_turn_61 ?_
        refine ev_iadd (pc := 62) hC (((10 * (A 1 p0)) + (A 2 p0) : Nat) : Int) (by omega) dX6_turn_62 ?_
        refine ev_istore (pc := 63) hC dX6_turn_63 (by rw [hKn]; decide) rfl ?_
        show Ev K 65 [some (.ref 29), some (vi ((p0 : Nat) : Int)), some (vi ((p1 : Nat) : Int)), some (vi ((p2 : Nat) : Int)), some (vi (bnd ((p2 : Nat) : Int) 0 9)), some (vi (((10 * (A 1 p0)) + (A 2 p0) : Nat) : Int))] [] X
        refine ev_aload_n (pc := 65) hC dX6_turn_65 rfl ?_
        refine ev_getr (pc := 66) hC 32 f16 dX6_turn_66 (by decide) (by decide) (by decide) (by decide) (by decide) ?_
        refine ev_iload_n (pc := 69) hC dX6_turn_69 rfl ?_
        refine ev_iload_n (pc := 70) hC dX6_turn_70 rfl ?_
        refine ev_iast (pc := 71) hC p0 (by decide) (by decide) (rfl) (by have := (show alen 32 = 8 from rfl); omega) dX6_turn_71 ?_
        have hA71 : Rp (vM (mset X 32 p0 (zI ((p1 : Nat) : Int)))) (setR A 1 p0 p1) := Rp.setM1 (v := p1) hA (by omega)
        have hg71 : (mset X 32 p0 (zI ((p1 : Nat) : Int))) 29 8 = zI ((0 : Nat) : Int) := by rw [mset_row (by omega)]; exact hg
        have hFr71 : frT 1 X (mset X 32 p0 (zI ((p1 : Nat) : Int))) := frT_set (r := 1) (frT_rf 1 X) (by omega)
        refine ev_aload_n (pc := 72) hC dX6_turn_72 rfl ?_
        refine ev_getr (pc := 73) hC 33 f19 dX6_turn_73 (by decide) (by decide) (by decide) (by decide) (by decide) ?_
        refine ev_iload_n (pc := 76) hC dX6_turn_76 rfl ?_
        refine ev_iload_n (pc := 77) hC dX6_turn_77 rfl ?_
        refine ev_iast (pc := 78) hC p0 (by decide) (by decide) (rfl) (by have := (show alen 33 = 8 from rfl); omega) dX6_turn_78 ?_
        have hA78 : Rp (vM (mset (mset X 32 p0 (zI ((p1 : Nat) : Int))) 33 p0 (zI ((p2 : Nat) : Int)))) (setR (setR A 1 p0 p1) 2 p0 p2) := Rp.setM2 (v := p2) hA71 (by omega)
        have hg78 : (mset (mset X 32 p0 (zI ((p1 : Nat) : Int))) 33 p0 (zI ((p2 : Nat) : Int))) 29 8 = zI ((0 : Nat) : Int) := by rw [mset_row (by omega)]; exact hg71
        have hFr78 : frT 1 X (mset (mset X 32 p0 (zI ((p1 : Nat) : Int))) 33 p0 (zI ((p2 : Nat) : Int))) := frT_set (r := 2) hFr71 (by omega)
        refine ev_iload (pc := 79) hC dX6_turn_79 rfl ?_
        exact ev_ireturn (pc := 81) hC hR dX6_turn_81 (ok_endM (show f3 (cdP A ((p0 : Nat) : Int)) (cdO ((p1 : Nat) : Int) 6) (bnd ((p2 : Nat) : Int) 0 9) = 0 by omega) rfl (mI_put hI hA78 hyA hFr78) (frM_T hFr78))
      · refine ev_aload_n (pc := 40) hC dX6_turn_40 rfl ?_
        refine ev_iload (pc := 41) hC dX6_turn_41 rfl ?_
        refine ev_callV (pc := 43) (as := [vi (bnd x2 0 9)]) (rest := []) hC gX6_turn_X6_no mtX6_no dX6_turn_43 (ru_X6_no2 (bnd x2 0 9) (by omega)) (by decide) (by decide) (by decide) rfl (by rfl) (Nat.le_of_ble_eq_true rfl) rfl (fun v43 X43 h43 => ?_)
        obtain ⟨rfl, rfl⟩ := h43
        show Ev K 46 [some (.ref 29), some (vi x0), some (vi x1), some (vi x2), some (vi (bnd x2 0 9)), none] [vi (bnd x2 0 9)] (mset X 30 (-(bnd x2 0 9)).toNat (X 30 (-(bnd x2 0 9)).toNat + 1))
        exact ev_ireturn (pc := 46) hC hR dX6_turn_46 (no_endM (show f3 (cdP A x0) (cdO x1 6) (bnd x2 0 9) = (bnd x2 0 9) by omega) (by omega) hI)
    · have e18 := of_decide_eq_false (b2i_0 c18)
      refine ev_bipush (pc := 21) hC dX6_turn_21 (by decide) ?_
      refine ev_goto (pc := 23) hC 33 dX6_turn_23 (by decide) ?_
      refine ev_istore (pc := 33) hC dX6_turn_33 (by rw [hKn]; decide) rfl ?_
      show Ev K 35 [some (.ref 29), some (vi x0), some (vi x1), some (vi x2), some (vi (-2)), none] [] X
      refine ev_iload (pc := 35) hC dX6_turn_35 rfl ?_
      refine ev_if_eq (pc := 37) hC 47 dX6_turn_37 (by decide) (by omega) (fun c37 => absurd c37 (by decide)) (fun c37 => ?_)
      refine ev_aload_n (pc := 40) hC dX6_turn_40 rfl ?_
      refine ev_iload (pc := 41) hC dX6_turn_41 rfl ?_
      refine ev_callV (pc := 43) (as := [vi (-2)]) (rest := []) hC gX6_turn_X6_no mtX6_no dX6_turn_43 (ru_X6_no2 (-2) (by omega)) (by decide) (by decide) (by decide) rfl (by rfl) (Nat.le_of_ble_eq_true rfl) rfl (fun v43 X43 h43 => ?_)
      obtain ⟨rfl, rfl⟩ := h43
      show Ev K 46 [some (.ref 29), some (vi x0), some (vi x1), some (vi x2), some (vi (-2)), none] [vi (-2)] (mset X 30 (-(-2)).toNat (X 30 (-(-2)).toNat + 1))
      exact ev_ireturn (pc := 46) hC hR dX6_turn_46 (no_endM (show f3 (cdP A x0) (cdO x1 6) (bnd x2 0 9) = (-2) by omega) (by omega) hI)
  · have e5 := of_decide_eq_false (b2i_0 c5)
    refine ev_iconst (pc := 8) hC dX6_turn_8 ?_
    refine ev_goto (pc := 9) hC 33 dX6_turn_9 (by decide) ?_
    refine ev_istore (pc := 33) hC dX6_turn_33 (by rw [hKn]; decide) rfl ?_
    show Ev K 35 [some (.ref 29), some (vi x0), some (vi x1), some (vi x2), some (vi (-1)), none] [] X
    refine ev_iload (pc := 35) hC dX6_turn_35 rfl ?_
    refine ev_if_eq (pc := 37) hC 47 dX6_turn_37 (by decide) (by omega) (fun c37 => absurd c37 (by decide)) (fun c37 => ?_)
    refine ev_aload_n (pc := 40) hC dX6_turn_40 rfl ?_
    refine ev_iload (pc := 41) hC dX6_turn_41 rfl ?_
    refine ev_callV (pc := 43) (as := [vi (-1)]) (rest := []) hC gX6_turn_X6_no mtX6_no dX6_turn_43 (ru_X6_no2 (-1) (by omega)) (by decide) (by decide) (by decide) rfl (by rfl) (Nat.le_of_ble_eq_true rfl) rfl (fun v43 X43 h43 => ?_)
    obtain ⟨rfl, rfl⟩ := h43
    show Ev K 46 [some (.ref 29), some (vi x0), some (vi x1), some (vi x2), some (vi (-1)), none] [vi (-1)] (mset X 30 (-(-1)).toNat (X 30 (-(-1)).toNat + 1))
    exact ev_ireturn (pc := 46) hC hR dX6_turn_46 (no_endM (show f3 (cdP A x0) (cdO x1 6) (bnd x2 0 9) = (-1) by omega) (by omega) hI)
theorem mtX6_years : MT yX6_years wsX6_years cX6_years 3 (some .int) 1 := ⟨⟨_, rfl⟩, by decide, by decide, by decide +kernel⟩
set_option maxRecDepth 100000 in
set_option maxHeartbeats 4000000 in
theorem ru_X6_years {X : Mem} {V : St} (hV : mI X V) (x0 : Int) (hx0 : -2147483648 ≤ x0 ∧ x0 ≤ 2147483647) : Ru yX6_years wsX6_years 9 199 [.ref 29, vi x0] X (fun v X' => v = some (vi (sp9 x0 V).1) ∧ mI X' (sp9 x0 V).2 ∧ frM X X') := by
  refine ru_of (w2 := _) rfl (by decide) [some (.ref 29), some (vi x0), none] (fun _ => rfl) (fun _ => Nat.le_of_ble_eq_true rfl) ?_
  intro K hKn hC hR
  have wX6 : ∀ w ∈ u_ws RX6 TX6 25, w ∈ wsX6_years := by decide +kernel
  have f104 : Fl K RX6 104 6 7 := fl_of hC RX6 TX6 25 rfl (by decide) wX6 (show Cond.fieldLink RX6 104 "PicnicOfSomebodyModel" "year" "I" ∈ _ by decide +kernel)
  obtain ⟨A, B, hh, T, n, W, rs, C⟩ := V
  have hA : Rp (vM X) A := hV.1
  have hyA : A 5 1 ≤ 999 := hV.2.1
  have hB : hh = true → Rp (vK X 0) B ∧ B 5 1 ≤ 999 := hV.2.2.1
  have hi : X 29 17 = zI (b2i hh) := hV.2.2.2.1
  have hg : X 29 8 = zI ((0 : Nat) : Int) := hV.2.2.2.2.1
  have hT : TxM X T n := hV.2.2.2.2.2.1
  have hW : RwM X W rs := hV.2.2.2.2.2.2.1
  have hCn : ∀ k, k < 7 → X 30 k = zI (C k : Nat) := hV.2.2.2.2.2.2.2
  have hn8 := hA.n8
  have hn96 := hT.2.1
  have hrs := hW.2.1
  have hG : 0 < 256 := by decide
  have hI : mI X (A, B, hh, T, n, W, rs, C) := hV
  have hq1 := bnd_cases x0 1 60
  have hq2 := fulD_cases (bnd x0 1 60) (999 < (A 5 1 : Int) + x0)
  refine ev_iload_n (pc := 0) hC dX6_years_0 rfl ?_
  refine ev_iconst (pc := 1) hC dX6_years_1 ?_
  refine ev_bipush (pc := 2) hC dX6_years_2 (by decide) ?_
  refine ev_callS (pc := 4) (as := [vi x0, vi 1, vi 60]) (rest := []) hC gX6_years_X6_bound mtX6_bound dX6_years_4 (ru_X6_bound x0 1 60 (by omega) (by omega) (by omega)) (by decide) (by rfl) (Nat.le_of_ble_eq_true rfl) rfl (fun v4 X4 h4 => ?_)
  obtain ⟨rfl, rfl⟩ := h4
  show Ev K 7 [some (.ref 29), some (vi x0), none] [vi (bnd x0 1 60)] X
  have hbd4 := bnd_cases x0 1 60
  refine ev_istore_n (pc := 7) hC dX6_years_7 (by rw [hKn]; decide) rfl ?_
  show Ev K 8 [some (.ref 29), some (vi x0), some (vi (bnd x0 1 60))] [] X
  refine ev_iload_n (pc := 8) hC dX6_years_8 rfl ?_
  refine ev_if_ne (pc := 9) hC 27 dX6_years_9 (by decide) (by omega) (fun c9 => ?_) (fun c9 => ?_)
  · refine ev_iload_n (pc := 27) hC dX6_years_27 rfl ?_
    refine ev_if_eq (pc := 28) hC 37 dX6_years_28 (by decide) (by omega) (fun c28 => ?_) (fun c28 => ?_)
    · obtain ⟨p0, rfl⟩ : ∃ k : Nat, x0 = (k : Int) := ⟨x0.toNat, by omega⟩
      refine ev_aload_n (pc := 37) hC dX6_years_37 rfl ?_
      refine ev_iload_n (pc := 38) hC dX6_years_38 rfl ?_
      refine ev_callV (pc := 39) (as := [vi ((p0 : Nat) : Int)]) (rest := []) hC gX6_years_X6_goes mtX6_goes dX6_years_39 (ru_X6_goes hA hg hG p0 (by omega)) (by decide) (by decide) (by decide) rfl (by rfl) (Nat.le_of_ble_eq_true rfl) rfl (fun v39 X39 h39 => ?_)
      obtain ⟨rfl, hA39, hF39⟩ := h39
      show Ev K 42 [some (.ref 29), some (vi ((p0 : Nat) : Int)), some (vi (bnd ((p0 : Nat) : Int) 1 60))] [] X39
      have hgn39 := goN_n 0 A p0
      have hg39 := frT_gone hF39 hg
      have hFr39 := frT_tr (frT_rf 1 X) hF39 (by omega)
      have hn8_39 := hA39.n8
      refine ev_aload_n (pc := 42) hC dX6_years_42 rfl ?_
      refine ev_callV (pc := 43) (as := []) (rest := []) hC gX6_years_X6_believers mtX6_believers dX6_years_43 (ru_X6_believers hA39 hg39 hG  ) (by decide) (by decide) (by decide) rfl (by rfl) (Nat.le_of_ble_eq_true rfl) rfl (fun v43 X43 h43 => ?_)
      obtain ⟨rfl, rfl⟩ := h43
      show Ev K 46 [some (.ref 29), some (vi ((p0 : Nat) : Int)), some (vi (bnd ((p0 : Nat) : Int) 1 60))] [vi ((bset 0 (goN 0 p0 A) : Nat) : Int)] X39
      have hl43 := bset_lt (G := 0) hA39.n8
      refine ev_callS (pc := 46) (as := [vi ((bset 0 (goN 0 p0 A) : Nat) : Int)]) (rest := []) hC gX6_years_X6_bits mtX6_bits dX6_years_46 (ru_X6_bits (bset 0 (goN 0 p0 A)) (by omega)) (by decide) (by rfl) (Nat.le_of_ble_eq_true rfl) rfl (fun v46 X46 h46 => ?_)
      obtain ⟨rfl, rfl⟩ := h46
      show Ev K 49 [some (.ref 29), some (vi ((p0 : Nat) : Int)), some (vi (bnd ((p0 : Nat) : Int) 1 60))] [vi ((pop (bset 0 (goN 0 p0 A)) : Nat) : Int)] X39
      have hp46 := pop_le (bset 0 (goN 0 p0 A))
      exact ev_ireturn (pc := 49) hC hR dX6_years_49 (ok_endM (show fulC (bnd ((p0 : Nat) : Int) 1 60) (decide (999 < (A 5 1 : Int) + ((p0 : Nat) : Int))) = 0 by omega) (by show ((pop (bset 0 (goN 0 p0 A)) : Nat) : Int) = ((bcnt 0 (goN 0 p0 A) : Nat) : Int); rw [pop_bset (by rw [goN_n]; exact hn8)]) (mI_put hI hA39 (by show goN 0 p0 A 5 1 ≤ 999; rw [goN_y]; omega) hFr39) (frM_T hFr39))
    · refine ev_aload_n (pc := 31) hC dX6_years_31 rfl ?_
      refine ev_iload_n (pc := 32) hC dX6_years_32 rfl ?_
      refine ev_callV (pc := 33) (as := [vi (bnd x0 1 60)]) (rest := []) hC gX6_years_X6_no mtX6_no dX6_years_33 (ru_X6_no2 (bnd x0 1 60) (by omega)) (by decide) (by decide) (by decide) rfl (by rfl) (Nat.le_of_ble_eq_true rfl) rfl (fun v33 X33 h33 => ?_)
      obtain ⟨rfl, rfl⟩ := h33
      show Ev K 36 [some (.ref 29), some (vi x0), some (vi (bnd x0 1 60))] [vi (bnd x0 1 60)] (mset X 30 (-(bnd x0 1 60)).toNat (X 30 (-(bnd x0 1 60)).toNat + 1))
      exact ev_ireturn (pc := 36) hC hR dX6_years_36 (no_endM (show fulC (bnd x0 1 60) (decide (999 < (A 5 1 : Int) + x0)) = (bnd x0 1 60) by omega) (by omega) hI)
  · refine ev_aload_n (pc := 12) hC dX6_years_12 rfl ?_
    refine ev_geti (pc := 13) hC ((A 5 1 : Nat) : Int) f104 dX6_years_13 (by decide) (by decide) (by decide) (by decide) (by decide)  (hA.my) ?_
    refine ev_iload_n (pc := 16) hC dX6_years_16 rfl ?_
    refine ev_iadd (pc := 17) hC (((A 5 1 : Nat) : Int) + x0) (rfl) dX6_years_17 ?_
    refine ev_sipush (pc := 18) hC dX6_years_18 (by decide) ?_
    refine ev_icmp_le (pc := 21) hC 27 dX6_years_21 (by decide) (by omega) (by omega) (fun c21 => ?_) (fun c21 => ?_)
    · refine ev_iload_n (pc := 27) hC dX6_years_27 rfl ?_
      refine ev_if_eq (pc := 28) hC 37 dX6_years_28 (by decide) (by omega) (fun c28 => ?_) (fun c28 => ?_)
      · obtain ⟨p0, rfl⟩ : ∃ k : Nat, x0 = (k : Int) := ⟨x0.toNat, by omega⟩
        refine ev_aload_n (pc := 37) hC dX6_years_37 rfl ?_
        refine ev_iload_n (pc := 38) hC dX6_years_38 rfl ?_
        refine ev_callV (pc := 39) (as := [vi ((p0 : Nat) : Int)]) (rest := []) hC gX6_years_X6_goes mtX6_goes dX6_years_39 (ru_X6_goes hA hg hG p0 (by omega)) (by decide) (by decide) (by decide) rfl (by rfl) (Nat.le_of_ble_eq_true rfl) rfl (fun v39 X39 h39 => ?_)
        obtain ⟨rfl, hA39, hF39⟩ := h39
        show Ev K 42 [some (.ref 29), some (vi ((p0 : Nat) : Int)), some (vi (bnd ((p0 : Nat) : Int) 1 60))] [] X39
        have hgn39 := goN_n 0 A p0
        have hg39 := frT_gone hF39 hg
        have hFr39 := frT_tr (frT_rf 1 X) hF39 (by omega)
        have hn8_39 := hA39.n8
        refine ev_aload_n (pc := 42) hC dX6_years_42 rfl ?_
        refine ev_callV (pc := 43) (as := []) (rest := []) hC gX6_years_X6_believers mtX6_believers dX6_years_43 (ru_X6_believers hA39 hg39 hG  ) (by decide) (by decide) (by decide) rfl (by rfl) (Nat.le_of_ble_eq_true rfl) rfl (fun v43 X43 h43 => ?_)
        obtain ⟨rfl, rfl⟩ := h43
        show Ev K 46 [some (.ref 29), some (vi ((p0 : Nat) : Int)), some (vi (bnd ((p0 : Nat) : Int) 1 60))] [vi ((bset 0 (goN 0 p0 A) : Nat) : Int)] X39
        have hl43 := bset_lt (G := 0) hA39.n8
        refine ev_callS (pc := 46) (as := [vi ((bset 0 (goN 0 p0 A) : Nat) : Int)]) (rest := []) hC gX6_years_X6_bits mtX6_bits dX6_years_46 (ru_X6_bits (bset 0 (goN 0 p0 A)) (by omega)) (by decide) (by rfl) (Nat.le_of_ble_eq_true rfl) rfl (fun v46 X46 h46 => ?_)
        obtain ⟨rfl, rfl⟩ := h46
        show Ev K 49 [some (.ref 29), some (vi ((p0 : Nat) : Int)), some (vi (bnd ((p0 : Nat) : Int) 1 60))] [vi ((pop (bset 0 (goN 0 p0 A)) : Nat) : Int)] X39
        have hp46 := pop_le (bset 0 (goN 0 p0 A))
        exact ev_ireturn (pc := 49) hC hR dX6_years_49 (ok_endM (show fulC (bnd ((p0 : Nat) : Int) 1 60) (decide (999 < (A 5 1 : Int) + ((p0 : Nat) : Int))) = 0 by omega) (by show ((pop (bset 0 (goN 0 p0 A)) : Nat) : Int) = ((bcnt 0 (goN 0 p0 A) : Nat) : Int); rw [pop_bset (by rw [goN_n]; exact hn8)]) (mI_put hI hA39 (by show goN 0 p0 A 5 1 ≤ 999; rw [goN_y]; omega) hFr39) (frM_T hFr39))
      · refine ev_aload_n (pc := 31) hC dX6_years_31 rfl ?_
        refine ev_iload_n (pc := 32) hC dX6_years_32 rfl ?_
        refine ev_callV (pc := 33) (as := [vi (bnd x0 1 60)]) (rest := []) hC gX6_years_X6_no mtX6_no dX6_years_33 (ru_X6_no2 (bnd x0 1 60) (by omega)) (by decide) (by decide) (by decide) rfl (by rfl) (Nat.le_of_ble_eq_true rfl) rfl (fun v33 X33 h33 => ?_)
        obtain ⟨rfl, rfl⟩ := h33
        show Ev K 36 [some (.ref 29), some (vi x0), some (vi (bnd x0 1 60))] [vi (bnd x0 1 60)] (mset X 30 (-(bnd x0 1 60)).toNat (X 30 (-(bnd x0 1 60)).toNat + 1))
        exact ev_ireturn (pc := 36) hC hR dX6_years_36 (no_endM (show fulC (bnd x0 1 60) (decide (999 < (A 5 1 : Int) + x0)) = (bnd x0 1 60) by omega) (by omega) hI)
    · refine ev_bipush (pc := 24) hC dX6_years_24 (by decide) ?_
      refine ev_istore_n (pc := 26) hC dX6_years_26 (by rw [hKn]; decide) rfl ?_
      show Ev K 27 [some (.ref 29), some (vi x0), some (vi (-6))] [] X
      refine ev_iload_n (pc := 27) hC dX6_years_27 rfl ?_
      refine ev_if_eq (pc := 28) hC 37 dX6_years_28 (by decide) (by omega) (fun c28 => absurd c28 (by decide)) (fun c28 => ?_)
      refine ev_aload_n (pc := 31) hC dX6_years_31 rfl ?_
      refine ev_iload_n (pc := 32) hC dX6_years_32 rfl ?_
      refine ev_callV (pc := 33) (as := [vi (-6)]) (rest := []) hC gX6_years_X6_no mtX6_no dX6_years_33 (ru_X6_no2 (-6) (by omega)) (by decide) (by decide) (by decide) rfl (by rfl) (Nat.le_of_ble_eq_true rfl) rfl (fun v33 X33 h33 => ?_)
      obtain ⟨rfl, rfl⟩ := h33
      show Ev K 36 [some (.ref 29), some (vi x0), some (vi (-6))] [vi (-6)] (mset X 30 (-(-6)).toNat (X 30 (-(-6)).toNat + 1))
      exact ev_ireturn (pc := 36) hC hR dX6_years_36 (no_endM (show fulC (bnd x0 1 60) (decide (999 < (A 5 1 : Int) + x0)) = (-6) by omega) (by omega) hI)
theorem mtX6_behind : MT yX6_behind wsX6_behind cX6_behind 6 (some .int) 3 := ⟨⟨_, rfl⟩, by decide, by decide, by decide +kernel⟩
set_option maxRecDepth 100000 in
set_option maxHeartbeats 4000000 in
theorem ru_X6_behind {X : Mem} {V : St} (hV : mI X V) (x0 : Int) (hx0 : -2147483648 ≤ x0 ∧ x0 ≤ 2147483647) (x1 : Int) (hx1 : -2147483648 ≤ x1 ∧ x1 ≤ 2147483647) (x2 : Int) (hx2 : -2147483648 ≤ x2 ∧ x2 ≤ 2147483647) : Ru yX6_behind wsX6_behind 9 199 [.ref 29, vi x0, vi x1, vi x2] X (fun v X' => v = some (vi (sp10 x0 x1 x2 V).1) ∧ mI X' (sp10 x0 x1 x2 V).2 ∧ frM X X') := by
  refine ru_of (w2 := _) rfl (by decide) [some (.ref 29), some (vi x0), some (vi x1), some (vi x2), none, none] (fun _ => rfl) (fun _ => Nat.le_of_ble_eq_true rfl) ?_
  intro K hKn hC hR
  have wX6 : ∀ w ∈ u_ws RX6 TX6 25, w ∈ wsX6_behind := by decide +kernel
  have f25 : Fl K RX6 25 6 5 := fl_of hC RX6 TX6 25 rfl (by decide) wX6 (show Cond.fieldLink RX6 25 "PicnicOfSomebodyModel" "belief" "[I" ∈ _ by decide +kernel)
  have f22 : Fl K RX6 22 6 4 := fl_of hC RX6 TX6 25 rfl (by decide) wX6 (show Cond.fieldLink RX6 22 "PicnicOfSomebodyModel" "cell" "[I" ∈ _ by decide +kernel)
  obtain ⟨A, B, hh, T, n, W, rs, C⟩ := V
  have hA : Rp (vM X) A := hV.1
  have hyA : A 5 1 ≤ 999 := hV.2.1
  have hB : hh = true → Rp (vK X 0) B ∧ B 5 1 ≤ 999 := hV.2.2.1
  have hi : X 29 17 = zI (b2i hh) := hV.2.2.2.1
  have hg : X 29 8 = zI ((0 : Nat) : Int) := hV.2.2.2.2.1
  have hT : TxM X T n := hV.2.2.2.2.2.1
  have hW : RwM X W rs := hV.2.2.2.2.2.2.1
  have hCn : ∀ k, k < 7 → X 30 k = zI (C k : Nat) := hV.2.2.2.2.2.2.2
  have hn8 := hA.n8
  have hn96 := hT.2.1
  have hrs := hW.2.1
  have hG : 0 < 256 := by decide
  have hI : mI X (A, B, hh, T, n, W, rs, C) := hV
  have hq1 := cdP_cases A x0
  have hq2 := bnd_cases x1 0 60
  have hq4 := cdO_cases x2 2
  have hq3 := f3_cases (cdP A x0) (bnd x1 0 60) (cdO x2 2)
  refine ev_aload_n (pc := 0) hC dX6_behind_0 rfl ?_
  refine ev_iload_n (pc := 1) hC dX6_behind_1 rfl ?_
  refine ev_callV (pc := 2) (as := [vi x0]) (rest := []) hC gX6_behind_X6_isOne mtX6_isOne dX6_behind_2 (ru_X6_isOne hA x0 (by omega)) (by decide) (by decide) (by decide) rfl (by rfl) (Nat.le_of_ble_eq_true rfl) rfl (fun v2 X2 h2 => ?_)
  obtain ⟨rfl, rfl⟩ := h2
  show Ev K 5 [some (.ref 29), some (vi x0), some (vi x1), some (vi x2), none, none] [vi (b2i (decide (0 ≤ x0 ∧ x0 < (A 5 0 : Int))))] X
  have hr2 := b2i_r (decide (0 ≤ x0 ∧ x0 < (A 5 0 : Int)))
  refine ev_if_ne (pc := 5) hC 12 dX6_behind_5 (by decide) (by omega) (fun c5 => ?_) (fun c5 => ?_)
  · have e5 := of_decide_eq_true (b2i_1 c5)
    refine ev_iload_n (pc := 12) hC dX6_behind_12 rfl ?_
    refine ev_callS (pc := 13) (as := [vi x1]) (rest := []) hC gX6_behind_X6_notYears mtX6_notYears dX6_behind_13 (ru_X6_notYears x1 (by omega)) (by decide) (by rfl) (Nat.le_of_ble_eq_true rfl) rfl (fun v13 X13 h13 => ?_)
    obtain ⟨rfl, rfl⟩ := h13
    show Ev K 16 [some (.ref 29), some (vi x0), some (vi x1), some (vi x2), none, none] [vi (bnd x1 0 60)] X
    have hbd13 := bnd_cases x1 0 60
    refine ev_istore (pc := 16) hC dX6_behind_16 (by rw [hKn]; decide) rfl ?_
    show Ev K 18 [some (.ref 29), some (vi x0), some (vi x1), some (vi x2), some (vi (bnd x1 0 60)), none] [] X
    refine ev_iload (pc := 18) hC dX6_behind_18 rfl ?_
    refine ev_if_ne (pc := 20) hC 36 dX6_behind_20 (by decide) (by omega) (fun c20 => ?_) (fun c20 => ?_)
    · refine ev_iload (pc := 36) hC dX6_behind_36 rfl ?_
      refine ev_if_eq (pc := 38) hC 48 dX6_behind_38 (by decide) (by omega) (fun c38 => ?_) (fun c38 => ?_)
      · obtain ⟨p0, rfl⟩ : ∃ k : Nat, x0 = (k : Int) := ⟨x0.toNat, by omega⟩
        obtain ⟨p1, rfl⟩ : ∃ k : Nat, x1 = (k : Int) := ⟨x1.toNat, by omega⟩
        refine ev_aload_n (pc := 48) hC dX6_behind_48 rfl ?_
        refine ev_callV (pc := 49) (as := []) (rest := []) hC gX6_behind_X6_thinks mtX6_thinks dX6_behind_49 (ru_X6_thinks) (by decide) (by decide) (by decide) rfl (by rfl) (Nat.le_of_ble_eq_true rfl) rfl (fun v49 X49 h49 => ?_)
        obtain ⟨rfl, hS49⟩ := h49
        show Ev K 52 [some (.ref 29), some (vi ((p0 : Nat) : Int)), some (vi ((p1 : Nat) : Int)), some (vi x2), some (vi (bnd ((p1 : Nat) : Int) 0 60)), none] [] X49
        have hF49 := ks_fr hS49
        have hA49 := ks_repM hS49 hA
        have hk2_49 := ks_rep hS49 hA
        have hg49 := frT_gone hF49 hg
        have hFr49 := frT_tr (frT_rf 1 X) hF49 (by omega)
        have hn8_49 := hA49.n8
        refine ev_aload_n (pc := 52) hC dX6_behind_52 rfl ?_
        refine ev_iload_n (pc := 53) hC dX6_behind_53 rfl ?_
        refine ev_callV (pc := 54) (as := [vi ((p1 : Nat) : Int)]) (rest := []) hC gX6_behind_X6_goes mtX6_goes dX6_behind_54 (ru_X6_goes hA49 hg49 hG p1 (by omega)) (by decide) (by decide) (by decide) rfl (by rfl) (Nat.le_of_ble_eq_true rfl) rfl (fun v54 X54 h54 => ?_)
        obtain ⟨rfl, hA54, hF54⟩ := h54
        show Ev K 57 [some (.ref 29), some (vi ((p0 : Nat) : Int)), some (vi ((p1 : Nat) : Int)), some (vi x2), some (vi (bnd ((p1 : Nat) : Int) 0 60)), none] [] X54
        have hgn54 := goN_n 0 A p1
        have hg54 := frT_gone hF54 hg49
        have hk2_54 := hk2_49.keepK hF54 (by omega)
        have hFr54 := frT_tr hFr49 hF54 (by omega)
        have hn8_54 := hA54.n8
        refine ev_iload_n (pc := 57) hC dX6_behind_57 rfl ?_
        refine ev_if_ne (pc := 58) hC 70 dX6_behind_58 (by decide) (by omega) (fun c58 => ?_) (fun c58 => ?_)
        · refine ev_aload_n (pc := 70) hC dX6_behind_70 rfl ?_
          refine ev_getr (pc := 71) hC 34 f22 dX6_behind_71 (by decide) (by decide) (by decide) (by decide) (by decide) ?_
          refine ev_iload_n (pc := 74) hC dX6_behind_74 rfl ?_
          have hb75 := hA54.c25 p0 (by omega)
          refine ev_iald (pc := 75) hC p0 (((goN 0 p1 A) 3 p0 : Nat) : Int) (by decide) (by decide) (rfl) (by have := (show alen 34 = 8 from rfl); omega) (hA54.m3 p0 (by omega)) dX6_behind_75 ?_
          refine ev_istore (pc := 76) hC dX6_behind_76 (by rw [hKn]; decide) rfl ?_
          show Ev K 78 [some (.ref 29), some (vi ((p0 : Nat) : Int)), some (vi ((p1 : Nat) : Int)), some (vi x2), some (vi (bnd ((p1 : Nat) : Int) 0 60)), some (vi (((goN 0 p1 A) 3 p0 : Nat) : Int))] [] X54
          refine ev_aload_n (pc := 78) hC dX6_behind_78 rfl ?_
          refine ev_callV (pc := 79) (as := []) (rest := []) hC gX6_behind_X6_forgets mtX6_forgets dX6_behind_79 (ru_X6_forgets) (by decide) (by decide) (by decide) rfl (by rfl) (Nat.le_of_ble_eq_true rfl) rfl (fun v79 X79 h79 => ?_)
          obtain ⟨rfl, hS79⟩ := h79
          show Ev K 82 [some (.ref 29), some (vi ((p0 : Nat) : Int)), some (vi ((p1 : Nat) : Int)), some (vi x2), some (vi (bnd ((p1 : Nat) : Int) 0 60)), some (vi (((goN 0 p1 A) 3 p0 : Nat) : Int))] [] X79
          have hF79 := ps_fr hS79
          have hA79 := ps_rep hS79 hk2_54
          have hg79 := frT_gone hF79 hg54
          have hk2_79 := hk2_54.keepK hF79 (by omega)
          have hFr79 := frT_tr hFr54 hF79 (by omega)
          have hn8_79 := hA79.n8
          refine ev_iload (pc := 82) hC dX6_behind_82 rfl ?_
          exact ev_ireturn (pc := 84) hC hR dX6_behind_84 (ok_endM (show f3 (cdP A ((p0 : Nat) : Int)) (bnd ((p1 : Nat) : Int) 0 60) (cdO x2 2) = 0 by omega) (by rw [if_neg c58]; first | done | rfl) (mI_put hI hA79 hyA hFr79) (frM_T hFr79))
        · refine ev_aload_n (pc := 61) hC dX6_behind_61 rfl ?_
          refine ev_getr (pc := 62) hC 35 f25 dX6_behind_62 (by decide) (by decide) (by decide) (by decide) (by decide) ?_
          refine ev_iload_n (pc := 65) hC dX6_behind_65 rfl ?_
          have hb66 := hA54.b9 p0 (by omega)
          refine ev_iald (pc := 66) hC p0 (((goN 0 p1 A) 4 p0 : Nat) : Int) (by decide) (by decide) (rfl) (by have := (show alen 35 = 8 from rfl); omega) (hA54.m4 p0 (by omega)) dX6_behind_66 ?_
          refine ev_goto (pc := 67) hC 76 dX6_behind_67 (by decide) ?_
          refine ev_istore (pc := 76) hC dX6_behind_76 (by rw [hKn]; decide) rfl ?_
          show Ev K 78 [some (.ref 29), some (vi ((p0 : Nat) : Int)), some (vi ((p1 : Nat) : Int)), some (vi x2), some (vi (bnd ((p1 : Nat) : Int) 0 60)), some (vi (((goN 0 p1 A) 4 p0 : Nat) : Int))] [] X54
          refine ev_aload_n (pc := 78) hC dX6_behind_78 rfl ?_
          refine ev_callV (pc := 79) (as := []) (rest := []) hC gX6_behind_X6_forgets mtX6_forgets dX6_behind_79 (ru_X6_forgets) (by decide) (by decide) (by decide) rfl (by rfl) (Nat.le_of_ble_eq_true rfl) rfl (fun v79 X79 h79 => ?_)
          obtain ⟨rfl, hS79⟩ := h79
          show Ev K 82 [some (.ref 29), some (vi ((p0 : Nat) : Int)), some (vi ((p1 : Nat) : Int)), some (vi x2), some (vi (bnd ((p1 : Nat) : Int) 0 60)), some (vi (((goN 0 p1 A) 4 p0 : Nat) : Int))] [] X79
          have hF79 := ps_fr hS79
          have hA79 := ps_rep hS79 hk2_54
          have hg79 := frT_gone hF79 hg54
          have hk2_79 := hk2_54.keepK hF79 (by omega)
          have hFr79 := frT_tr hFr54 hF79 (by omega)
          have hn8_79 := hA79.n8
          refine ev_iload (pc := 82) hC dX6_behind_82 rfl ?_
          exact ev_ireturn (pc := 84) hC hR dX6_behind_84 (ok_endM (show f3 (cdP A ((p0 : Nat) : Int)) (bnd ((p1 : Nat) : Int) 0 60) (cdO x2 2) = 0 by omega) (by rw [if_pos c58]; first | done | rfl) (mI_put hI hA79 hyA hFr79) (frM_T hFr79))
      · refine ev_aload_n (pc := 41) hC dX6_behind_41 rfl ?_
        refine ev_iload (pc := 42) hC dX6_behind_42 rfl ?_
        refine ev_callV (pc := 44) (as := [vi (bnd x1 0 60)]) (rest := []) hC gX6_behind_X6_no mtX6_no dX6_behind_44 (ru_X6_no2 (bnd x1 0 60) (by omega)) (by decide) (by decide) (by decide) rfl (by rfl) (Nat.le_of_ble_eq_true rfl) rfl (fun v44 X44 h44 => ?_)
        obtain ⟨rfl, rfl⟩ := h44
        show Ev K 47 [some (.ref 29), some (vi x0), some (vi x1), some (vi x2), some (vi (bnd x1 0 60)), none] [vi (bnd x1 0 60)] (mset X 30 (-(bnd x1 0 60)).toNat (X 30 (-(bnd x1 0 60)).toNat + 1))
        exact ev_ireturn (pc := 47) hC hR dX6_behind_47 (no_endM (show f3 (cdP A x0) (bnd x1 0 60) (cdO x2 2) = (bnd x1 0 60) by omega) (by omega) hI)
    · refine ev_iload_n (pc := 23) hC dX6_behind_23 rfl ?_
      refine ev_iconst (pc := 24) hC dX6_behind_24 ?_
      refine ev_iconst (pc := 25) hC dX6_behind_25 ?_
      refine ev_callS (pc := 26) (as := [vi x2, vi 0, vi 1]) (rest := []) hC gX6_behind_X6_isIn mtX6_isIn dX6_behind_26 (ru_X6_isIn x2 0 1 (by omega) (by omega) (by omega)) (by decide) (by rfl) (Nat.le_of_ble_eq_true rfl) rfl (fun v26 X26 h26 => ?_)
      obtain ⟨rfl, rfl⟩ := h26
      show Ev K 29 [some (.ref 29), some (vi x0), some (vi x1), some (vi x2), some (vi (bnd x1 0 60)), none] [vi (b2i (decide (0 ≤ x2 ∧ x2 ≤ 1)))] X
      have hr26 := b2i_r (decide (0 ≤ x2 ∧ x2 ≤ 1))
      refine ev_if_ne (pc := 29) hC 36 dX6_behind_29 (by decide) (by omega) (fun c29 => ?_) (fun c29 => ?_)
      · have e29 := of_decide_eq_true (b2i_1 c29)
        refine ev_iload (pc := 36) hC dX6_behind_36 rfl ?_
        refine ev_if_eq (pc := 38) hC 48 dX6_behind_38 (by decide) (by omega) (fun c38 => ?_) (fun c38 => ?_)
        · obtain ⟨p0, rfl⟩ : ∃ k : Nat, x0 = (k : Int) := ⟨x0.toNat, by omega⟩
          obtain ⟨p1, rfl⟩ : ∃ k : Nat, x1 = (k : Int) := ⟨x1.toNat, by omega⟩
          refine ev_aload_n (pc := 48) hC dX6_behind_48 rfl ?_
          refine ev_callV (pc := 49) (as := []) (rest := []) hC gX6_behind_X6_thinks mtX6_thinks dX6_behind_49 (ru_X6_thinks) (by decide) (by decide) (by decide) rfl (by rfl) (Nat.le_of_ble_eq_true rfl) rfl (fun v49 X49 h49 => ?_)
          obtain ⟨rfl, hS49⟩ := h49
          show Ev K 52 [some (.ref 29), some (vi ((p0 : Nat) : Int)), some (vi ((p1 : Nat) : Int)), some (vi x2), some (vi (bnd ((p1 : Nat) : Int) 0 60)), none] [] X49
          have hF49 := ks_fr hS49
          have hA49 := ks_repM hS49 hA
          have hk2_49 := ks_rep hS49 hA
          have hg49 := frT_gone hF49 hg
          have hFr49 := frT_tr (frT_rf 1 X) hF49 (by omega)
          have hn8_49 := hA49.n8
          refine ev_aload_n (pc := 52) hC dX6_behind_52 rfl ?_
          refine ev_iload_n (pc := 53) hC dX6_behind_53 rfl ?_
          refine ev_callV (pc := 54) (as := [vi ((p1 : Nat) : Int)]) (rest := []) hC gX6_behind_X6_goes mtX6_goes dX6_behind_54 (ru_X6_goes hA49 hg49 hG p1 (by omega)) (by decide) (by decide) (by decide) rfl (by rfl) (Nat.le_of_ble_eq_true rfl) rfl (fun v54 X54 h54 => ?_)
          obtain ⟨rfl, hA54, hF54⟩ := h54
          show Ev K 57 [some (.ref 29), some (vi ((p0 : Nat) : Int)), some (vi ((p1 : Nat) : Int)), some (vi x2), some (vi (bnd ((p1 : Nat) : Int) 0 60)), none] [] X54
          have hgn54 := goN_n 0 A p1
          have hg54 := frT_gone hF54 hg49
          have hk2_54 := hk2_49.keepK hF54 (by omega)
          have hFr54 := frT_tr hFr49 hF54 (by omega)
          have hn8_54 := hA54.n8
          refine ev_iload_n (pc := 57) hC dX6_behind_57 rfl ?_
          refine ev_if_ne (pc := 58) hC 70 dX6_behind_58 (by decide) (by omega) (fun c58 => ?_) (fun c58 => ?_)
          · refine ev_aload_n (pc := 70) hC dX6_behind_70 rfl ?_
            refine ev_getr (pc := 71) hC 34 f22 dX6_behind_71 (by decide) (by decide) (by decide) (by decide) (by decide) ?_
            refine ev_iload_n (pc := 74) hC dX6_behind_74 rfl ?_
            have hb75 := hA54.c25 p0 (by omega)
            refine ev_iald (pc := 75) hC p0 (((goN 0 p1 A) 3 p0 : Nat) : Int) (by decide) (by decide) (rfl) (by have := (show alen 34 = 8 from rfl); omega) (hA54.m3 p0 (by omega)) dX6_behind_75 ?_
            refine ev_istore (pc := 76) hC dX6_behind_76 (by rw [hKn]; decide) rfl ?_
            show Ev K 78 [some (.ref 29), some (vi ((p0 : Nat) : Int)), some (vi ((p1 : Nat) : Int)), some (vi x2), some (vi (bnd ((p1 : Nat) : Int) 0 60)), some (vi (((goN 0 p1 A) 3 p0 : Nat) : Int))] [] X54
            refine ev_aload_n (pc := 78) hC dX6_behind_78 rfl ?_
            refine ev_callV (pc := 79) (as := []) (rest := []) hC gX6_behind_X6_forgets mtX6_forgets dX6_behind_79 (ru_X6_forgets) (by decide) (by decide) (by decide) rfl (by rfl) (Nat.le_of_ble_eq_true rfl) rfl (fun v79 X79 h79 => ?_)
            obtain ⟨rfl, hS79⟩ := h79
            show Ev K 82 [some (.ref 29), some (vi ((p0 : Nat) : Int)), some (vi ((p1 : Nat) : Int)), some (vi x2), some (vi (bnd ((p1 : Nat) : Int) 0 60)), some (vi (((goN 0 p1 A) 3 p0 : Nat) : Int))] [] X79
            have hF79 := ps_fr hS79
            have hA79 := ps_rep hS79 hk2_54
            have hg79 := frT_gone hF79 hg54
            have hk2_79 := hk2_54.keepK hF79 (by omega)
            have hFr79 := frT_tr hFr54 hF79 (by omega)
            have hn8_79 := hA79.n8
            refine ev_iload (pc := 82) hC dX6_behind_82 rfl ?_
            exact ev_ireturn (pc := 84) hC hR dX6_behind_84 (ok_endM (show f3 (cdP A ((p0 : Nat) : Int)) (bnd ((p1 : Nat) : Int) 0 60) (cdO x2 2) = 0 by omega) (by rw [if_neg c58]; first | done | rfl) (mI_put hI hA79 hyA hFr79) (frM_T hFr79))
          · refine ev_aload_n (pc := 61) hC dX6_behind_61 rfl ?_
            refine ev_getr (pc := 62) hC 35 f25 dX6_behind_62 (by decide) (by decide) (by decide) (by decide) (by decide) ?_
            refine ev_iload_n (pc := 65) hC dX6_behind_65 rfl ?_
            have hb66 := hA54.b9 p0 (by omega)
            refine ev_iald (pc := 66) hC p0 (((goN 0 p1 A) 4 p0 : Nat) : Int) (by decide) (by decide) (rfl) (by have := (show alen 35 = 8 from rfl); omega) (hA54.m4 p0 (by omega)) dX6_behind_66 ?_
            refine ev_goto (pc := 67) hC 76 dX6_behind_67 (by decide) ?_
            refine ev_istore (pc := 76) hC dX6_behind_76 (by rw [hKn]; decide) rfl ?_
            show Ev K 78 [some (.ref 29), some (vi ((p0 : Nat) : Int)), some (vi ((p1 : Nat) : Int)), some (vi x2), some (vi (bnd ((p1 : Nat) : Int) 0 60)), some (vi (((goN 0 p1 A) 4 p0 : Nat) : Int))] [] X54
            refine ev_aload_n (pc := 78) hC dX6_behind_78 rfl ?_
            refine ev_callV (pc := 79) (as := []) (rest := []) hC gX6_behind_X6_forgets mtX6_forgets dX6_behind_79 (ru_X6_forgets) (by decide) (by decide) (by decide) rfl (by rfl) (Nat.le_of_ble_eq_true rfl) rfl (fun v79 X79 h79 => ?_)
            obtain ⟨rfl, hS79⟩ := h79
            show Ev K 82 [some (.ref 29), some (vi ((p0 : Nat) : Int)), some (vi ((p1 : Nat) : Int)), some (vi x2), some (vi (bnd ((p1 : Nat) : Int) 0 60)), some (vi (((goN 0 p1 A) 4 p0 : Nat) : Int))] [] X79
            have hF79 := ps_fr hS79
            have hA79 := ps_rep hS79 hk2_54
            have hg79 := frT_gone hF79 hg54
            have hk2_79 := hk2_54.keepK hF79 (by omega)
            have hFr79 := frT_tr hFr54 hF79 (by omega)
            have hn8_79 := hA79.n8
            refine ev_iload (pc := 82) hC dX6_behind_82 rfl ?_
            exact ev_ireturn (pc := 84) hC hR dX6_behind_84 (ok_endM (show f3 (cdP A ((p0 : Nat) : Int)) (bnd ((p1 : Nat) : Int) 0 60) (cdO x2 2) = 0 by omega) (by rw [if_pos c58]; first | done | rfl) (mI_put hI hA79 hyA hFr79) (frM_T hFr79))
        · refine ev_aload_n (pc := 41) hC dX6_behind_41 rfl ?_
          refine ev_iload (pc := 42) hC dX6_behind_42 rfl ?_
          refine ev_callV (pc := 44) (as := [vi (bnd x1 0 60)]) (rest := []) hC gX6_behind_X6_no mtX6_no dX6_behind_44 (ru_X6_no2 (bnd x1 0 60) (by omega)) (by decide) (by decide) (by decide) rfl (by rfl) (Nat.le_of_ble_eq_true rfl) rfl (fun v44 X44 h44 => ?_)
          obtain ⟨rfl, rfl⟩ := h44
          show Ev K 47 [some (.ref 29), some (vi x0), some (vi x1), some (vi x2), some (vi (bnd x1 0 60)), none] [vi (bnd x1 0 60)] (mset X 30 (-(bnd x1 0 60)).toNat (X 30 (-(bnd x1 0 60)).toNat + 1))
          exact ev_ireturn (pc := 47) hC hR dX6_behind_47 (no_endM (show f3 (cdP A x0) (bnd x1 0 60) (cdO x2 2) = (bnd x1 0 60) by omega) (by omega) hI)
      · have e29 := of_decide_eq_false (b2i_0 c29)
        refine ev_bipush (pc := 32) hC dX6_behind_32 (by decide) ?_
        refine ev_istore (pc := 34) hC dX6_behind_34 (by rw [hKn]; decide) rfl ?_
        show Ev K 36 [some (.ref 29), some (vi x0), some (vi x1), some (vi x2), some (vi (-2)), none] [] X
        refine ev_iload (pc := 36) hC dX6_behind_36 rfl ?_
        refine ev_if_eq (pc := 38) hC 48 dX6_behind_38 (by decide) (by omega) (fun c38 => absurd c38 (by decide)) (fun c38 => ?_)
        refine ev_aload_n (pc := 41) hC dX6_behind_41 rfl ?_
        refine ev_iload (pc := 42) hC dX6_behind_42 rfl ?_
        refine ev_callV (pc := 44) (as := [vi (-2)]) (rest := []) hC gX6_behind_X6_no mtX6_no dX6_behind_44 (ru_X6_no2 (-2) (by omega)) (by decide) (by decide) (by decide) rfl (by rfl) (Nat.le_of_ble_eq_true rfl) rfl (fun v44 X44 h44 => ?_)
        obtain ⟨rfl, rfl⟩ := h44
        show Ev K 47 [some (.ref 29), some (vi x0), some (vi x1), some (vi x2), some (vi (-2)), none] [vi (-2)] (mset X 30 (-(-2)).toNat (X 30 (-(-2)).toNat + 1))
        exact ev_ireturn (pc := 47) hC hR dX6_behind_47 (no_endM (show f3 (cdP A x0) (bnd x1 0 60) (cdO x2 2) = (-2) by omega) (by omega) hI)
  · have e5 := of_decide_eq_false (b2i_0 c5)
    refine ev_iconst (pc := 8) hC dX6_behind_8 ?_
    refine ev_goto (pc := 9) hC 16 dX6_behind_9 (by decide) ?_
    refine ev_istore (pc := 16) hC dX6_behind_16 (by rw [hKn]; decide) rfl ?_
    show Ev K 18 [some (.ref 29), some (vi x0), some (vi x1), some (vi x2), some (vi (-1)), none] [] X
    refine ev_iload (pc := 18) hC dX6_behind_18 rfl ?_
    refine ev_if_ne (pc := 20) hC 36 dX6_behind_20 (by decide) (by omega) (fun c20 => ?_) (fun c20 => absurd c20 (by decide))
    refine ev_iload (pc := 36) hC dX6_behind_36 rfl ?_
    refine ev_if_eq (pc := 38) hC 48 dX6_behind_38 (by decide) (by omega) (fun c38 => absurd c38 (by decide)) (fun c38 => ?_)
    refine ev_aload_n (pc := 41) hC dX6_behind_41 rfl ?_
    refine ev_iload (pc := 42) hC dX6_behind_42 rfl ?_
    refine ev_callV (pc := 44) (as := [vi (-1)]) (rest := []) hC gX6_behind_X6_no mtX6_no dX6_behind_44 (ru_X6_no2 (-1) (by omega)) (by decide) (by decide) (by decide) rfl (by rfl) (Nat.le_of_ble_eq_true rfl) rfl (fun v44 X44 h44 => ?_)
    obtain ⟨rfl, rfl⟩ := h44
    show Ev K 47 [some (.ref 29), some (vi x0), some (vi x1), some (vi x2), some (vi (-1)), none] [vi (-1)] (mset X 30 (-(-1)).toNat (X 30 (-(-1)).toNat + 1))
    exact ev_ireturn (pc := 47) hC hR dX6_behind_47 (no_endM (show f3 (cdP A x0) (bnd x1 0 60) (cdO x2 2) = (-1) by omega) (by omega) hI)
theorem mtX6_then : MT yX6_then wsX6_then cX6_then 5 (some .int) 2 := ⟨⟨_, rfl⟩, by decide, by decide, by decide +kernel⟩
set_option maxRecDepth 100000 in
set_option maxHeartbeats 4000000 in
theorem ru_X6_then {X : Mem} {V : St} (hV : mI X V) (x0 : Int) (hx0 : -2147483648 ≤ x0 ∧ x0 ≤ 2147483647) (x1 : Int) (hx1 : -2147483648 ≤ x1 ∧ x1 ≤ 2147483647) : Ru yX6_then wsX6_then 10 221 [.ref 29, vi x0, vi x1] X (fun v X' => v = some (vi (sp11 x0 x1 V).1) ∧ mI X' (sp11 x0 x1 V).2 ∧ frM X X') := by
  refine ru_of (w2 := _) rfl (by decide) [some (.ref 29), some (vi x0), some (vi x1), none, none] (fun _ => rfl) (fun _ => Nat.le_of_ble_eq_true rfl) ?_
  intro K hKn hC hR
  obtain ⟨A, B, hh, T, n, W, rs, C⟩ := V
  have hA : Rp (vM X) A := hV.1
  have hyA : A 5 1 ≤ 999 := hV.2.1
  have hB : hh = true → Rp (vK X 0) B ∧ B 5 1 ≤ 999 := hV.2.2.1
  have hi : X 29 17 = zI (b2i hh) := hV.2.2.2.1
  have hg : X 29 8 = zI ((0 : Nat) : Int) := hV.2.2.2.2.1
  have hT : TxM X T n := hV.2.2.2.2.2.1
  have hW : RwM X W rs := hV.2.2.2.2.2.2.1
  have hCn : ∀ k, k < 7 → X 30 k = zI (C k : Nat) := hV.2.2.2.2.2.2.2
  have hn8 := hA.n8
  have hn96 := hT.2.1
  have hrs := hW.2.1
  have hG : 0 < 256 := by decide
  have hI : mI X (A, B, hh, T, n, W, rs, C) := hV
  have hq1 := bnd_cases x0 0 60
  have hq2 := cdO_cases x1 2
  have hq3 := f3_cases (bnd x0 0 60) (cdO x1 2) 0
  refine ev_iload_n (pc := 0) hC dX6_then_0 rfl ?_
  refine ev_callS (pc := 1) (as := [vi x0]) (rest := []) hC gX6_then_X6_notYears mtX6_notYears dX6_then_1 (ru_X6_notYears x0 (by omega)) (by decide) (by rfl) (Nat.le_of_ble_eq_true rfl) rfl (fun v1 X1 h1 => ?_)
  obtain ⟨rfl, rfl⟩ := h1
  show Ev K 4 [some (.ref 29), some (vi x0), some (vi x1), none, none] [vi (bnd x0 0 60)] X
  have hbd1 := bnd_cases x0 0 60
  refine ev_istore_n (pc := 4) hC dX6_then_4 (by rw [hKn]; decide) rfl ?_
  show Ev K 5 [some (.ref 29), some (vi x0), some (vi x1), some (vi (bnd x0 0 60)), none] [] X
  refine ev_iload_n (pc := 5) hC dX6_then_5 rfl ?_
  refine ev_if_ne (pc := 6) hC 21 dX6_then_6 (by decide) (by omega) (fun c6 => ?_) (fun c6 => ?_)
  · refine ev_iload_n (pc := 21) hC dX6_then_21 rfl ?_
    refine ev_if_eq (pc := 22) hC 31 dX6_then_22 (by decide) (by omega) (fun c22 => ?_) (fun c22 => ?_)
    · obtain ⟨p0, rfl⟩ : ∃ k : Nat, x0 = (k : Int) := ⟨x0.toNat, by omega⟩
      refine ev_iload_n (pc := 31) hC dX6_then_31 rfl ?_
      refine ev_iconst (pc := 32) hC dX6_then_32 ?_
      refine ev_icmp_ne (pc := 33) hC 45 dX6_then_33 (by decide) (by omega) (by omega) (fun c33 => ?_) (fun c33 => ?_)
      · refine ev_aload_n (pc := 45) hC dX6_then_45 rfl ?_
        refine ev_callV (pc := 46) (as := []) (rest := []) hC gX6_then_X6_thinks mtX6_thinks dX6_then_46 (ru_X6_thinks) (by decide) (by decide) (by decide) rfl (by rfl) (Nat.le_of_ble_eq_true rfl) rfl (fun v46 X46 h46 => ?_)
        obtain ⟨rfl, hS46⟩ := h46
        show Ev K 49 [some (.ref 29), some (vi ((p0 : Nat) : Int)), some (vi x1), some (vi (bnd ((p0 : Nat) : Int) 0 60)), none] [] X46
        have hF46 := ks_fr hS46
        have hA46 := ks_repM hS46 hA
        have hk2_46 := ks_rep hS46 hA
        have hg46 := frT_gone hF46 hg
        have hFr46 := frT_tr (frT_rf 1 X) hF46 (by omega)
        have hn8_46 := hA46.n8
        refine ev_aload_n (pc := 49) hC dX6_then_49 rfl ?_
        refine ev_iload_n (pc := 50) hC dX6_then_50 rfl ?_
        refine ev_callV (pc := 51) (as := [vi ((p0 : Nat) : Int)]) (rest := []) hC gX6_then_X6_goes mtX6_goes dX6_then_51 (ru_X6_goes hA46 hg46 hG p0 (by omega)) (by decide) (by decide) (by decide) rfl (by rfl) (Nat.le_of_ble_eq_true rfl) rfl (fun v51 X51 h51 => ?_)
        obtain ⟨rfl, hA51, hF51⟩ := h51
        show Ev K 54 [some (.ref 29), some (vi ((p0 : Nat) : Int)), some (vi x1), some (vi (bnd ((p0 : Nat) : Int) 0 60)), none] [] X51
        have hgn51 := goN_n 0 A p0
        have hg51 := frT_gone hF51 hg46
        have hk2_51 := hk2_46.keepK hF51 (by omega)
        have hFr51 := frT_tr hFr46 hF51 (by omega)
        have hn8_51 := hA51.n8
        refine ev_aload_n (pc := 54) hC dX6_then_54 rfl ?_
        refine ev_callV (pc := 55) (as := []) (rest := []) hC gX6_then_X6_here mtX6_here dX6_then_55 (ru_X6_here hA51) (by decide) (by decide) (by decide) rfl (by rfl) (Nat.le_of_ble_eq_true rfl) rfl (fun v55 X55 h55 => ?_)
        obtain ⟨rfl, rfl⟩ := h55
        show Ev K 58 [some (.ref 29), some (vi ((p0 : Nat) : Int)), some (vi x1), some (vi (bnd ((p0 : Nat) : Int) 0 60)), none] [vi ((here (goN 0 p0 A) : Nat) : Int)] X51
        have hh55 := here_lt (goN 0 p0 A)
        refine ev_istore (pc := 58) hC dX6_then_58 (by rw [hKn]; decide) rfl ?_
        show Ev K 60 [some (.ref 29), some (vi ((p0 : Nat) : Int)), some (vi x1), some (vi (bnd ((p0 : Nat) : Int) 0 60)), some (vi ((here (goN 0 p0 A) : Nat) : Int))] [] X51
        refine ev_aload_n (pc := 60) hC dX6_then_60 rfl ?_
        refine ev_callV (pc := 61) (as := []) (rest := []) hC gX6_then_X6_forgets mtX6_forgets dX6_then_61 (ru_X6_forgets) (by decide) (by decide) (by decide) rfl (by rfl) (Nat.le_of_ble_eq_true rfl) rfl (fun v61 X61 h61 => ?_)
        obtain ⟨rfl, hS61⟩ := h61
        show Ev K 64 [some (.ref 29), some (vi ((p0 : Nat) : Int)), some (vi x1), some (vi (bnd ((p0 : Nat) : Int) 0 60)), some (vi ((here (goN 0 p0 A) : Nat) : Int))] [] X61
        have hF61 := ps_fr hS61
        have hA61 := ps_rep hS61 hk2_51
        have hg61 := frT_gone hF61 hg51
        have hk2_61 := hk2_51.keepK hF61 (by omega)
        have hFr61 := frT_tr hFr51 hF61 (by omega)
        have hn8_61 := hA61.n8
        refine ev_iload (pc := 64) hC dX6_then_64 rfl ?_
        exact ev_ireturn (pc := 66) hC hR dX6_then_66 (ok_endM (show f3 (bnd ((p0 : Nat) : Int) 0 60) (cdO x1 2) 0 = 0 by omega) (by rw [if_pos (show x1 = 0 by omega)]; first | done | rfl) (mI_put hI hA61 hyA hFr61) (frM_T hFr61))
      · refine ev_aload_n (pc := 36) hC dX6_then_36 rfl ?_
        refine ev_iload_n (pc := 37) hC dX6_then_37 rfl ?_
        refine ev_callV (pc := 38) (as := [vi ((p0 : Nat) : Int)]) (rest := []) hC gX6_then_X6_believersIn mtX6_believersIn dX6_then_38 (ru_X6_believersIn hA hg hG p0 (by omega)) (by decide) (by decide) (by decide) rfl (by rfl) (Nat.le_of_ble_eq_true rfl) rfl (fun v38 X38 h38 => ?_)
        obtain ⟨rfl, hA38, hF38⟩ := h38
        show Ev K 41 [some (.ref 29), some (vi ((p0 : Nat) : Int)), some (vi x1), some (vi (bnd ((p0 : Nat) : Int) 0 60)), none] [vi ((bset 0 (goN 0 p0 A) : Nat) : Int)] X38
        have hgn38 := goN_n 0 A p0
        have hbl38 : bset 0 (goN 0 p0 A) < 256 := bset_lt (by rw [hgn38]; exact hA.n8)
        have hg38 := frT_gone hF38 hg
        have hFr38 := frT_tr (frT_rf 1 X) hF38 (by omega)
        have hn8_38 := hA38.n8
        refine ev_callS (pc := 41) (as := [vi ((bset 0 (goN 0 p0 A) : Nat) : Int)]) (rest := []) hC gX6_then_X6_bits mtX6_bits dX6_then_41 (ru_X6_bits (bset 0 (goN 0 p0 A)) (by omega)) (by decide) (by rfl) (Nat.le_of_ble_eq_true rfl) rfl (fun v41 X41 h41 => ?_)
        obtain ⟨rfl, rfl⟩ := h41
        show Ev K 44 [some (.ref 29), some (vi ((p0 : Nat) : Int)), some (vi x1), some (vi (bnd ((p0 : Nat) : Int) 0 60)), none] [vi ((pop (bset 0 (goN 0 p0 A)) : Nat) : Int)] X38
        have hp41 := pop_le (bset 0 (goN 0 p0 A))
        exact ev_ireturn (pc := 44) hC hR dX6_then_44 (ok_endM (show f3 (bnd ((p0 : Nat) : Int) 0 60) (cdO x1 2) 0 = 0 by omega) (by rw [if_neg (show ¬ x1 = 0 by omega)]; show ((pop (bset 0 (goN 0 p0 A)) : Nat) : Int) = ((bcnt 0 (goN 0 p0 A) : Nat) : Int); rw [pop_bset (by rw [goN_n]; exact hn8)]) (mI_put hI hA38 hyA hFr38) (frM_T hFr38))
    · refine ev_aload_n (pc := 25) hC dX6_then_25 rfl ?_
      refine ev_iload_n (pc := 26) hC dX6_then_26 rfl ?_
      refine ev_callV (pc := 27) (as := [vi (bnd x0 0 60)]) (rest := []) hC gX6_then_X6_no mtX6_no dX6_then_27 (ru_X6_no2 (bnd x0 0 60) (by omega)) (by decide) (by decide) (by decide) rfl (by rfl) (Nat.le_of_ble_eq_true rfl) rfl (fun v27 X27 h27 => ?_)
      obtain ⟨rfl, rfl⟩ := h27
      show Ev K 30 [some (.ref 29), some (vi x0), some (vi x1), some (vi (bnd x0 0 60)), none] [vi (bnd x0 0 60)] (mset X 30 (-(bnd x0 0 60)).toNat (X 30 (-(bnd x0 0 60)).toNat + 1))
      exact ev_ireturn (pc := 30) hC hR dX6_then_30 (no_endM (show f3 (bnd x0 0 60) (cdO x1 2) 0 = (bnd x0 0 60) by omega) (by omega) hI)
  · refine ev_iload_n (pc := 9) hC dX6_then_9 rfl ?_
    refine ev_iconst (pc := 10) hC dX6_then_10 ?_
    refine ev_iconst (pc := 11) hC dX6_then_11 ?_
    refine ev_callS (pc := 12) (as := [vi x1, vi 0, vi 1]) (rest := []) hC gX6_then_X6_isIn mtX6_isIn dX6_then_12 (ru_X6_isIn x1 0 1 (by omega) (by omega) (by omega)) (by decide) (by rfl) (Nat.le_of_ble_eq_true rfl) rfl (fun v12 X12 h12 => ?_)
    obtain ⟨rfl, rfl⟩ := h12
    show Ev K 15 [some (.ref 29), some (vi x0), some (vi x1), some (vi (bnd x0 0 60)), none] [vi (b2i (decide (0 ≤ x1 ∧ x1 ≤ 1)))] X
    have hr12 := b2i_r (decide (0 ≤ x1 ∧ x1 ≤ 1))
    refine ev_if_ne (pc := 15) hC 21 dX6_then_15 (by decide) (by omega) (fun c15 => ?_) (fun c15 => ?_)
    · have e15 := of_decide_eq_true (b2i_1 c15)
      refine ev_iload_n (pc := 21) hC dX6_then_21 rfl ?_
      refine ev_if_eq (pc := 22) hC 31 dX6_then_22 (by decide) (by omega) (fun c22 => ?_) (fun c22 => ?_)
      · obtain ⟨p0, rfl⟩ : ∃ k : Nat, x0 = (k : Int) := ⟨x0.toNat, by omega⟩
        refine ev_iload_n (pc := 31) hC dX6_then_31 rfl ?_
        refine ev_iconst (pc := 32) hC dX6_then_32 ?_
        refine ev_icmp_ne (pc := 33) hC 45 dX6_then_33 (by decide) (by omega) (by omega) (fun c33 => ?_) (fun c33 => ?_)
        · refine ev_aload_n (pc := 45) hC dX6_then_45 rfl ?_
          refine ev_callV (pc := 46) (as := []) (rest := []) hC gX6_then_X6_thinks mtX6_thinks dX6_then_46 (ru_X6_thinks) (by decide) (by decide) (by decide) rfl (by rfl) (Nat.le_of_ble_eq_true rfl) rfl (fun v46 X46 h46 => ?_)
          obtain ⟨rfl, hS46⟩ := h46
          show Ev K 49 [some (.ref 29), some (vi ((p0 : Nat) : Int)), some (vi x1), some (vi (bnd ((p0 : Nat) : Int) 0 60)), none] [] X46
          have hF46 := ks_fr hS46
          have hA46 := ks_repM hS46 hA
          have hk2_46 := ks_rep hS46 hA
          have hg46 := frT_gone hF46 hg
          have hFr46 := frT_tr (frT_rf 1 X) hF46 (by omega)
          have hn8_46 := hA46.n8
          refine ev_aload_n (pc := 49) hC dX6_then_49 rfl ?_
          refine ev_iload_n (pc := 50) hC dX6_then_50 rfl ?_
          refine ev_callV (pc := 51) (as := [vi ((p0 : Nat) : Int)]) (rest := []) hC gX6_then_X6_goes mtX6_goes dX6_then_51 (ru_X6_goes hA46 hg46 hG p0 (by omega)) (by decide) (by decide) (by decide) rfl (by rfl) (Nat.le_of_ble_eq_true rfl) rfl (fun v51 X51 h51 => ?_)
          obtain ⟨rfl, hA51, hF51⟩ := h51
          show Ev K 54 [some (.ref 29), some (vi ((p0 : Nat) : Int)), some (vi x1), some (vi (bnd ((p0 : Nat) : Int) 0 60)), none] [] X51
          have hgn51 := goN_n 0 A p0
          have hg51 := frT_gone hF51 hg46
          have hk2_51 := hk2_46.keepK hF51 (by omega)
          have hFr51 := frT_tr hFr46 hF51 (by omega)
          have hn8_51 := hA51.n8
          refine ev_aload_n (pc := 54) hC dX6_then_54 rfl ?_
          refine ev_callV (pc := 55) (as := []) (rest := []) hC gX6_then_X6_here mtX6_here dX6_then_55 (ru_X6_here hA51) (by decide) (by decide) (by decide) rfl (by rfl) (Nat.le_of_ble_eq_true rfl) rfl (fun v55 X55 h55 => ?_)
          obtain ⟨rfl, rfl⟩ := h55
          show Ev K 58 [some (.ref 29), some (vi ((p0 : Nat) : Int)), some (vi x1), some (vi (bnd ((p0 : Nat) : Int) 0 60)), none] [vi ((here (goN 0 p0 A) : Nat) : Int)] X51
          have hh55 := here_lt (goN 0 p0 A)
          refine ev_istore (pc := 58) hC dX6_then_58 (by rw [hKn]; decide) rfl ?_
          show Ev K 60 [some (.ref 29), some (vi ((p0 : Nat) : Int)), some (vi x1), some (vi (bnd ((p0 : Nat) : Int) 0 60)), some (vi ((here (goN 0 p0 A) : Nat) : Int))] [] X51
          refine ev_aload_n (pc := 60) hC dX6_then_60 rfl ?_
          refine ev_callV (pc := 61) (as := []) (rest := []) hC gX6_then_X6_forgets mtX6_forgets dX6_then_61 (ru_X6_forgets) (by decide) (by decide) (by decide) rfl (by rfl) (Nat.le_of_ble_eq_true rfl) rfl (fun v61 X61 h61 => ?_)
          obtain ⟨rfl, hS61⟩ := h61
          show Ev K 64 [some (.ref 29), some (vi ((p0 : Nat) : Int)), some (vi x1), some (vi (bnd ((p0 : Nat) : Int) 0 60)), some (vi ((here (goN 0 p0 A) : Nat) : Int))] [] X61
          have hF61 := ps_fr hS61
          have hA61 := ps_rep hS61 hk2_51
          have hg61 := frT_gone hF61 hg51
          have hk2_61 := hk2_51.keepK hF61 (by omega)
          have hFr61 := frT_tr hFr51 hF61 (by omega)
          have hn8_61 := hA61.n8
          refine ev_iload (pc := 64) hC dX6_then_64 rfl ?_
          exact ev_ireturn (pc := 66) hC hR dX6_then_66 (ok_endM (show f3 (bnd ((p0 : Nat) : Int) 0 60) (cdO x1 2) 0 = 0 by omega) (by rw [if_pos (show x1 = 0 by omega)]; first | done | rfl) (mI_put hI hA61 hyA hFr61) (frM_T hFr61))
        · refine ev_aload_n (pc := 36) hC dX6_then_36 rfl ?_
          refine ev_iload_n (pc := 37) hC dX6_then_37 rfl ?_
          refine ev_callV (pc := 38) (as := [vi ((p0 : Nat) : Int)]) (rest := []) hC gX6_then_X6_believersIn mtX6_believersIn dX6_then_38 (ru_X6_believersIn hA hg hG p0 (by omega)) (by decide) (by decide) (by decide) rfl (by rfl) (Nat.le_of_ble_eq_true rfl) rfl (fun v38 X38 h38 => ?_)
          obtain ⟨rfl, hA38, hF38⟩ := h38
          show Ev K 41 [some (.ref 29), some (vi ((p0 : Nat) : Int)), some (vi x1), some (vi (bnd ((p0 : Nat) : Int) 0 60)), none] [vi ((bset 0 (goN 0 p0 A) : Nat) : Int)] X38
          have hgn38 := goN_n 0 A p0
          have hbl38 : bset 0 (goN 0 p0 A) < 256 := bset_lt (by rw [hgn38]; exact hA.n8)
          have hg38 := frT_gone hF38 hg
          have hFr38 := frT_tr (frT_rf 1 X) hF38 (by omega)
          have hn8_38 := hA38.n8
          refine ev_callS (pc := 41) (as := [vi ((bset 0 (goN 0 p0 A) : Nat) : Int)]) (rest := []) hC gX6_then_X6_bits mtX6_bits dX6_then_41 (ru_X6_bits (bset 0 (goN 0 p0 A)) (by omega)) (by decide) (by rfl) (Nat.le_of_ble_eq_true rfl) rfl (fun v41 X41 h41 => ?_)
          obtain ⟨rfl, rfl⟩ := h41
          show Ev K 44 [some (.ref 29), some (vi ((p0 : Nat) : Int)), some (vi x1), some (vi (bnd ((p0 : Nat) : Int) 0 60)), none] [vi ((pop (bset 0 (goN 0 p0 A)) : Nat) : Int)] X38
          have hp41 := pop_le (bset 0 (goN 0 p0 A))
          exact ev_ireturn (pc := 44) hC hR dX6_then_44 (ok_endM (show f3 (bnd ((p0 : Nat) : Int) 0 60) (cdO x1 2) 0 = 0 by omega) (by rw [if_neg (show ¬ x1 = 0 by omega)]; show ((pop (bset 0 (goN 0 p0 A)) : Nat) : Int) = ((bcnt 0 (goN 0 p0 A) : Nat) : Int); rw [pop_bset (by rw [goN_n]; exact hn8)]) (mI_put hI hA38 hyA hFr38) (frM_T hFr38))
      · refine ev_aload_n (pc := 25) hC dX6_then_25 rfl ?_
        refine ev_iload_n (pc := 26) hC dX6_then_26 rfl ?_
        refine ev_callV (pc := 27) (as := [vi (bnd x0 0 60)]) (rest := []) hC gX6_then_X6_no mtX6_no dX6_then_27 (ru_X6_no2 (bnd x0 0 60) (by omega)) (by decide) (by decide) (by decide) rfl (by rfl) (Nat.le_of_ble_eq_true rfl) rfl (fun v27 X27 h27 => ?_)
        obtain ⟨rfl, rfl⟩ := h27
        show Ev K 30 [some (.ref 29), some (vi x0), some (vi x1), some (vi (bnd x0 0 60)), none] [vi (bnd x0 0 60)] (mset X 30 (-(bnd x0 0 60)).toNat (X 30 (-(bnd x0 0 60)).toNat + 1))
        exact ev_ireturn (pc := 30) hC hR dX6_then_30 (no_endM (show f3 (bnd x0 0 60) (cdO x1 2) 0 = (bnd x0 0 60) by omega) (by omega) hI)
    · have e15 := of_decide_eq_false (b2i_0 c15)
      refine ev_bipush (pc := 18) hC dX6_then_18 (by decide) ?_
      refine ev_istore_n (pc := 20) hC dX6_then_20 (by rw [hKn]; decide) rfl ?_
      show Ev K 21 [some (.ref 29), some (vi x0), some (vi x1), some (vi (-2)), none] [] X
      refine ev_iload_n (pc := 21) hC dX6_then_21 rfl ?_
      refine ev_if_eq (pc := 22) hC 31 dX6_then_22 (by decide) (by omega) (fun c22 => absurd c22 (by decide)) (fun c22 => ?_)
      refine ev_aload_n (pc := 25) hC dX6_then_25 rfl ?_
      refine ev_iload_n (pc := 26) hC dX6_then_26 rfl ?_
      refine ev_callV (pc := 27) (as := [vi (-2)]) (rest := []) hC gX6_then_X6_no mtX6_no dX6_then_27 (ru_X6_no2 (-2) (by omega)) (by decide) (by decide) (by decide) rfl (by rfl) (Nat.le_of_ble_eq_true rfl) rfl (fun v27 X27 h27 => ?_)
      obtain ⟨rfl, rfl⟩ := h27
      show Ev K 30 [some (.ref 29), some (vi x0), some (vi x1), some (vi (-2)), none] [vi (-2)] (mset X 30 (-(-2)).toNat (X 30 (-(-2)).toNat + 1))
      exact ev_ireturn (pc := 30) hC hR dX6_then_30 (no_endM (show f3 (bnd x0 0 60) (cdO x1 2) 0 = (-2) by omega) (by omega) hI)
theorem mtX6_depthThen : MT yX6_depthThen wsX6_depthThen cX6_depthThen 5 (some .int) 2 := ⟨⟨_, rfl⟩, by decide, by decide, by decide +kernel⟩
set_option maxRecDepth 100000 in
set_option maxHeartbeats 4000000 in
theorem ru_X6_depthThen {X : Mem} {V : St} (hV : mI X V) (x0 : Int) (hx0 : -2147483648 ≤ x0 ∧ x0 ≤ 2147483647) (x1 : Int) (hx1 : -2147483648 ≤ x1 ∧ x1 ≤ 2147483647) : Ru yX6_depthThen wsX6_depthThen 9 199 [.ref 29, vi x0, vi x1] X (fun v X' => v = some (vi (sp12 x0 x1 V).1) ∧ mI X' (sp12 x0 x1 V).2 ∧ frM X X') := by
  refine ru_of (w2 := _) rfl (by decide) [some (.ref 29), some (vi x0), some (vi x1), none, none] (fun _ => rfl) (fun _ => Nat.le_of_ble_eq_true rfl) ?_
  intro K hKn hC hR
  have wX6 : ∀ w ∈ u_ws RX6 TX6 25, w ∈ wsX6_depthThen := by decide +kernel
  have f13 : Fl K RX6 13 6 1 := fl_of hC RX6 TX6 25 rfl (by decide) wX6 (show Cond.fieldLink RX6 13 "PicnicOfSomebodyModel" "deep" "[I" ∈ _ by decide +kernel)
  obtain ⟨A, B, hh, T, n, W, rs, C⟩ := V
  have hA : Rp (vM X) A := hV.1
  have hyA : A 5 1 ≤ 999 := hV.2.1
  have hB : hh = true → Rp (vK X 0) B ∧ B 5 1 ≤ 999 := hV.2.2.1
  have hi : X 29 17 = zI (b2i hh) := hV.2.2.2.1
  have hg : X 29 8 = zI ((0 : Nat) : Int) := hV.2.2.2.2.1
  have hT : TxM X T n := hV.2.2.2.2.2.1
  have hW : RwM X W rs := hV.2.2.2.2.2.2.1
  have hCn : ∀ k, k < 7 → X 30 k = zI (C k : Nat) := hV.2.2.2.2.2.2.2
  have hn8 := hA.n8
  have hn96 := hT.2.1
  have hrs := hW.2.1
  have hG : 0 < 256 := by decide
  have hI : mI X (A, B, hh, T, n, W, rs, C) := hV
  have hq1 := cdC_cases x0
  have hq2 := bnd_cases x1 0 60
  have hq3 := f3_cases (cdC x0) (bnd x1 0 60) 0
  refine ev_iload_n (pc := 0) hC dX6_depthThen_0 rfl ?_
  refine ev_callS (pc := 1) (as := [vi x0]) (rest := []) hC gX6_depthThen_X6_isCell mtX6_isCell dX6_depthThen_1 (ru_X6_isCell x0 (by omega)) (by decide) (by rfl) (Nat.le_of_ble_eq_true rfl) rfl (fun v1 X1 h1 => ?_)
  obtain ⟨rfl, rfl⟩ := h1
  show Ev K 4 [some (.ref 29), some (vi x0), some (vi x1), none, none] [vi (b2i (decide (0 ≤ x0 ∧ x0 < 25)))] X
  have hr1 := b2i_r (decide (0 ≤ x0 ∧ x0 < 25))
  refine ev_if_ne (pc := 4) hC 11 dX6_depthThen_4 (by decide) (by omega) (fun c4 => ?_) (fun c4 => ?_)
  · have e4 := of_decide_eq_true (b2i_1 c4)
    refine ev_iload_n (pc := 11) hC dX6_depthThen_11 rfl ?_
    refine ev_callS (pc := 12) (as := [vi x1]) (rest := []) hC gX6_depthThen_X6_notYears mtX6_notYears dX6_depthThen_12 (ru_X6_notYears x1 (by omega)) (by decide) (by rfl) (Nat.le_of_ble_eq_true rfl) rfl (fun v12 X12 h12 => ?_)
    obtain ⟨rfl, rfl⟩ := h12
    show Ev K 15 [some (.ref 29), some (vi x0), some (vi x1), none, none] [vi (bnd x1 0 60)] X
    have hbd12 := bnd_cases x1 0 60
    refine ev_istore_n (pc := 15) hC dX6_depthThen_15 (by rw [hKn]; decide) rfl ?_
    show Ev K 16 [some (.ref 29), some (vi x0), some (vi x1), some (vi (bnd x1 0 60)), none] [] X
    refine ev_iload_n (pc := 16) hC dX6_depthThen_16 rfl ?_
    refine ev_if_eq (pc := 17) hC 26 dX6_depthThen_17 (by decide) (by omega) (fun c17 => ?_) (fun c17 => ?_)
    · obtain ⟨p0, rfl⟩ : ∃ k : Nat, x0 = (k : Int) := ⟨x0.toNat, by omega⟩
      obtain ⟨p1, rfl⟩ : ∃ k : Nat, x1 = (k : Int) := ⟨x1.toNat, by omega⟩
      refine ev_aload_n (pc := 26) hC dX6_depthThen_26 rfl ?_
      refine ev_callV (pc := 27) (as := []) (rest := []) hC gX6_depthThen_X6_thinks mtX6_thinks dX6_depthThen_27 (ru_X6_thinks) (by decide) (by decide) (by decide) rfl (by rfl) (Nat.le_of_ble_eq_true rfl) rfl (fun v27 X27 h27 => ?_)
      obtain ⟨rfl, hS27⟩ := h27
      show Ev K 30 [some (.ref 29), some (vi ((p0 : Nat) : Int)), some (vi ((p1 : Nat) : Int)), some (vi (bnd ((p1 : Nat) : Int) 0 60)), none] [] X27
      have hF27 := ks_fr hS27
      have hA27 := ks_repM hS27 hA
      have hk2_27 := ks_rep hS27 hA
      have hg27 := frT_gone hF27 hg
      have hFr27 := frT_tr (frT_rf 1 X) hF27 (by omega)
      have hn8_27 := hA27.n8
      refine ev_aload_n (pc := 30) hC dX6_depthThen_30 rfl ?_
      refine ev_iload_n (pc := 31) hC dX6_depthThen_31 rfl ?_
      refine ev_callV (pc := 32) (as := [vi ((p1 : Nat) : Int)]) (rest := []) hC gX6_depthThen_X6_goes mtX6_goes dX6_depthThen_32 (ru_X6_goes hA27 hg27 hG p1 (by omega)) (by decide) (by decide) (by decide) rfl (by rfl) (Nat.le_of_ble_eq_true rfl) rfl (fun v32 X32 h32 => ?_)
      obtain ⟨rfl, hA32, hF32⟩ := h32
      show Ev K 35 [some (.ref 29), some (vi ((p0 : Nat) : Int)), some (vi ((p1 : Nat) : Int)), some (vi (bnd ((p1 : Nat) : Int) 0 60)), none] [] X32
      have hgn32 := goN_n 0 A p1
      have hg32 := frT_gone hF32 hg27
      have hk2_32 := hk2_27.keepK hF32 (by omega)
      have hFr32 := frT_tr hFr27 hF32 (by omega)
      have hn8_32 := hA32.n8
      refine ev_aload_n (pc := 35) hC dX6_depthThen_35 rfl ?_
      refine ev_getr (pc := 36) hC 31 f13 dX6_depthThen_36 (by decide) (by decide) (by decide) (by decide) (by decide) ?_
      refine ev_iload_n (pc := 39) hC dX6_depthThen_39 rfl ?_
      have hb40 := hA32.d99 p0 (by omega)
      refine ev_iald (pc := 40) hC p0 (((goN 0 p1 A) 0 p0 : Nat) : Int) (by decide) (by decide) (rfl) (by have := (show alen 31 = 25 from rfl); omega) (hA32.m0 p0 (by omega)) dX6_depthThen_40 ?_
      refine ev_istore (pc := 41) hC dX6_depthThen_41 (by rw [hKn]; decide) rfl ?_
      show Ev K 43 [some (.ref 29), some (vi ((p0 : Nat) : Int)), some (vi ((p1 : Nat) : Int)), some (vi (bnd ((p1 : Nat) : Int) 0 60)), some (vi (((goN 0 p1 A) 0 p0 : Nat) : Int))] [] X32
      refine ev_aload_n (pc := 43) hC dX6_depthThen_43 rfl ?_
      refine ev_callV (pc := 44) (as := []) (rest := []) hC gX6_depthThen_X6_forgets mtX6_forgets dX6_depthThen_44 (ru_X6_forgets) (by decide) (by decide) (by decide) rfl (by rfl) (Nat.le_of_ble_eq_true rfl) rfl (fun v44 X44 h44 => ?_)
      obtain ⟨rfl, hS44⟩ := h44
      show Ev K 47 [some (.ref 29), some (vi ((p0 : Nat) : Int)), some (vi ((p1 : Nat) : Int)), some (vi (bnd ((p1 : Nat) : Int) 0 60)), some (vi (((goN 0 p1 A) 0 p0 : Nat) : Int))] [] X44
      have hF44 := ps_fr hS44
      have hA44 := ps_rep hS44 hk2_32
      have hg44 := frT_gone hF44 hg32
      have hk2_44 := hk2_32.keepK hF44 (by omega)
      have hFr44 := frT_tr hFr32 hF44 (by omega)
      have hn8_44 := hA44.n8
      refine ev_iload (pc := 47) hC dX6_depthThen_47 rfl ?_
      exact ev_ireturn (pc := 49) hC hR dX6_depthThen_49 (ok_endM (show f3 (cdC ((p0 : Nat) : Int)) (bnd ((p1 : Nat) : Int) 0 60) 0 = 0 by omega) rfl (mI_put hI hA44 hyA hFr44) (frM_T hFr44))
    · refine ev_aload_n (pc := 20) hC dX6_depthThen_20 rfl ?_
      refine ev_iload_n (pc := 21) hC dX6_depthThen_21 rfl ?_
      refine ev_callV (pc := 22) (as := [vi (bnd x1 0 60)]) (rest := []) hC gX6_depthThen_X6_no mtX6_no dX6_depthThen_22 (ru_X6_no2 (bnd x1 0 60) (by omega)) (by decide) (by decide) (by decide) rfl (by rfl) (Nat.le_of_ble_eq_true rfl) rfl (fun v22 X22 h22 => ?_)
      obtain ⟨rfl, rfl⟩ := h22
      show Ev K 25 [some (.ref 29), some (vi x0), some (vi x1), some (vi (bnd x1 0 60)), none] [vi (bnd x1 0 60)] (mset X 30 (-(bnd x1 0 60)).toNat (X 30 (-(bnd x1 0 60)).toNat + 1))
      exact ev_ireturn (pc := 25) hC hR dX6_depthThen_25 (no_endM (show f3 (cdC x0) (bnd x1 0 60) 0 = (bnd x1 0 60) by omega) (by omega) hI)
  · have e4 := of_decide_eq_false (b2i_0 c4)
    refine ev_iconst (pc := 7) hC dX6_depthThen_7 ?_
    refine ev_goto (pc := 8) hC 15 dX6_depthThen_8 (by decide) ?_
    refine ev_istore_n (pc := 15) hC dX6_depthThen_15 (by rw [hKn]; decide) rfl ?_
    show Ev K 16 [some (.ref 29), some (vi x0), some (vi x1), some (vi (-1)), none] [] X
    refine ev_iload_n (pc := 16) hC dX6_depthThen_16 rfl ?_
    refine ev_if_eq (pc := 17) hC 26 dX6_depthThen_17 (by decide) (by omega) (fun c17 => absurd c17 (by decide)) (fun c17 => ?_)
    refine ev_aload_n (pc := 20) hC dX6_depthThen_20 rfl ?_
    refine ev_iload_n (pc := 21) hC dX6_depthThen_21 rfl ?_
    refine ev_callV (pc := 22) (as := [vi (-1)]) (rest := []) hC gX6_depthThen_X6_no mtX6_no dX6_depthThen_22 (ru_X6_no2 (-1) (by omega)) (by decide) (by decide) (by decide) rfl (by rfl) (Nat.le_of_ble_eq_true rfl) rfl (fun v22 X22 h22 => ?_)
    obtain ⟨rfl, rfl⟩ := h22
    show Ev K 25 [some (.ref 29), some (vi x0), some (vi x1), some (vi (-1)), none] [vi (-1)] (mset X 30 (-(-1)).toNat (X 30 (-(-1)).toNat + 1))
    exact ev_ireturn (pc := 25) hC hR dX6_depthThen_25 (no_endM (show f3 (cdC x0) (bnd x1 0 60) 0 = (-1) by omega) (by omega) hI)
theorem mtX6_first : MT yX6_first wsX6_first cX6_first 5 (some .int) 1 := ⟨⟨_, rfl⟩, by decide, by decide, by decide +kernel⟩
set_option maxRecDepth 100000 in
set_option maxHeartbeats 4000000 in
theorem ru_X6_first {X : Mem} {V : St} (hV : mI X V) (x0 : Int) (hx0 : -2147483648 ≤ x0 ∧ x0 ≤ 2147483647) : Ru yX6_first wsX6_first 9 198 [.ref 29, vi x0] X (fun v X' => v = some (vi (sp13 x0 V).1) ∧ mI X' (sp13 x0 V).2 ∧ frM X X') := by
  refine ru_of (w2 := _) rfl (by decide) [some (.ref 29), some (vi x0), none, none, none] (fun _ => rfl) (fun _ => Nat.le_of_ble_eq_true rfl) ?_
  intro K hKn hC hR
  obtain ⟨A, B, hh, T, n, W, rs, C⟩ := V
  have hA : Rp (vM X) A := hV.1
  have hyA : A 5 1 ≤ 999 := hV.2.1
  have hB : hh = true → Rp (vK X 0) B ∧ B 5 1 ≤ 999 := hV.2.2.1
  have hi : X 29 17 = zI (b2i hh) := hV.2.2.2.1
  have hg : X 29 8 = zI ((0 : Nat) : Int) := hV.2.2.2.2.1
  have hT : TxM X T n := hV.2.2.2.2.2.1
  have hW : RwM X W rs := hV.2.2.2.2.2.2.1
  have hCn : ∀ k, k < 7 → X 30 k = zI (C k : Nat) := hV.2.2.2.2.2.2.2
  have hn8 := hA.n8
  have hn96 := hT.2.1
  have hrs := hW.2.1
  have hG : 0 < 256 := by decide
  have hI : mI X (A, B, hh, T, n, W, rs, C) := hV
  have hq1 := cdO_cases x0 4
  refine ev_iload_n (pc := 0) hC dX6_first_0 rfl ?_
  refine ev_iconst (pc := 1) hC dX6_first_1 ?_
  refine ev_iconst (pc := 2) hC dX6_first_2 ?_
  refine ev_callS (pc := 3) (as := [vi x0, vi 0, vi 3]) (rest := []) hC gX6_first_X6_isIn mtX6_isIn dX6_first_3 (ru_X6_isIn x0 0 3 (by omega) (by omega) (by omega)) (by decide) (by rfl) (Nat.le_of_ble_eq_true rfl) rfl (fun v3 X3 h3 => ?_)
  obtain ⟨rfl, rfl⟩ := h3
  show Ev K 6 [some (.ref 29), some (vi x0), none, none, none] [vi (b2i (decide (0 ≤ x0 ∧ x0 ≤ 3)))] X
  have hr3 := b2i_r (decide (0 ≤ x0 ∧ x0 ≤ 3))
  refine ev_if_ne (pc := 6) hC 16 dX6_first_6 (by decide) (by omega) (fun c6 => ?_) (fun c6 => ?_)
  · have e6 := of_decide_eq_true (b2i_1 c6)
    refine ev_aload_n (pc := 16) hC dX6_first_16 rfl ?_
    refine ev_callV (pc := 17) (as := []) (rest := []) hC gX6_first_X6_here mtX6_here dX6_first_17 (ru_X6_here hA) (by decide) (by decide) (by decide) rfl (by rfl) (Nat.le_of_ble_eq_true rfl) rfl (fun v17 X17 h17 => ?_)
    obtain ⟨rfl, rfl⟩ := h17
    show Ev K 20 [some (.ref 29), some (vi x0), none, none, none] [vi ((here A : Nat) : Int)] X
    have hh17 := here_lt A
    refine ev_istore_n (pc := 20) hC dX6_first_20 (by rw [hKn]; decide) rfl ?_
    show Ev K 21 [some (.ref 29), some (vi x0), some (vi ((here A : Nat) : Int)), none, none] [] X
    refine ev_aload_n (pc := 21) hC dX6_first_21 rfl ?_
    refine ev_callV (pc := 22) (as := []) (rest := []) hC gX6_first_X6_thinks mtX6_thinks dX6_first_22 (ru_X6_thinks) (by decide) (by decide) (by decide) rfl (by rfl) (Nat.le_of_ble_eq_true rfl) rfl (fun v22 X22 h22 => ?_)
    obtain ⟨rfl, hS22⟩ := h22
    show Ev K 25 [some (.ref 29), some (vi x0), some (vi ((here A : Nat) : Int)), none, none] [] X22
    have hF22 := ks_fr hS22
    have hA22 := ks_repM hS22 hA
    have hk2_22 := ks_rep hS22 hA
    have hg22 := frT_gone hF22 hg
    have hFr22 := frT_tr (frT_rf 1 X) hF22 (by omega)
    have hn8_22 := hA22.n8
    refine ev_bipush (pc := 25) hC dX6_first_25 (by decide) ?_
    refine ev_istore_n (pc := 27) hC dX6_first_27 (by rw [hKn]; decide) rfl ?_
    show Ev K 28 [some (.ref 29), some (vi x0), some (vi ((here A : Nat) : Int)), some (vi (-9)), none] [] X22
    refine ev_iconst (pc := 28) hC dX6_first_28 ?_
    refine ev_istore (pc := 29) hC dX6_first_29 (by rw [hKn]; decide) rfl ?_
    show Ev K 31 [some (.ref 29), some (vi x0), some (vi ((here A : Nat) : Int)), some (vi (-9)), some (vi 0)] [] X22
    have lp31 : ∀ (fz : Nat) (i : Nat) (z : Int) (Y : Mem), 61 - i < fz → (i ≤ 61) → ((z = -9 ∧ ∀ k, k < i → (fun k => fsP x0 (here A) (goN 0 k A)) k = false) ∨ (0 ≤ z ∧ z = firstB (fun k => fsP x0 (here A) (goN 0 k A)) 61)) → (-9 ≤ z ∧ z < 61) → (Rp (vM Y) (goN 0 i A)) → (Y 29 8 = zI ((0 : Nat) : Int)) → (frT 1 X Y) → (Rp (vK Y 2) A) → Ev K 31 [some (.ref 29), some (vi x0), some (vi ((here A : Nat) : Int)), some (vi z), some (vi ((i : Nat) : Int))] [] Y := by
      intro fz
      induction fz with
      | zero => intro i z Y hfz; exact absurd hfz (Nat.not_lt_zero _)
      | succ fz ih31 =>
        intro i z Y hfz hi hz hzr hAY hgY hFY hK2Y
        have hY8 := hAY.n8
        refine ev_iload (pc := 31) hC dX6_first_31 rfl ?_
        refine ev_bipush (pc := 33) hC dX6_first_33 (by decide) ?_
        refine ev_icmp_gt (pc := 35) hC 70 dX6_first_35 (by decide) (by omega) (by omega) (fun c35 => ?_) (fun c35 => ?_)
        · refine ev_aload_n (pc := 70) hC dX6_first_70 rfl ?_
          refine ev_callV (pc := 71) (as := []) (rest := []) hC gX6_first_X6_forgets mtX6_forgets dX6_first_71 (ru_X6_forgets) (by decide) (by decide) (by decide) rfl (by rfl) (Nat.le_of_ble_eq_true rfl) rfl (fun v71 X71 h71 => ?_)
          obtain ⟨rfl, hS71⟩ := h71
          show Ev K 74 [some (.ref 29), some (vi x0), some (vi ((here A : Nat) : Int)), some (vi z), some (vi ((i : Nat) : Int))] [] X71
          have hF71 := ps_fr hS71
          have hA71 := ps_rep hS71 hK2Y
          have hg71 := frT_gone hF71 hgY
          have hk2_71 := hK2Y.keepK hF71 (by omega)
          have hFr71 := frT_tr hFY hF71 (by omega)
          have hn8_71 := hA71.n8
          refine ev_iload_n (pc := 74) hC dX6_first_74 rfl ?_
          exact ev_ireturn (pc := 75) hC hR dX6_first_75 (ok_endM (show cdO x0 4 = 0 by omega) (by show z = fstS A x0; rw [fst_eq (by omega)]; rcases hz with h | h; rw [h.1]; exact (firstB_none (P := (fun k => fsP x0 (here A) (goN 0 k A))) (fun k hk => h.2 k (by omega))).symm; exact h.2) (mI_put hI hA71 hyA hFr71) (frM_T hFr71))
        · refine ev_iload_n (pc := 38) hC dX6_first_38 rfl ?_
          refine ev_if_ge (pc := 39) hC 70 dX6_first_39 (by decide) (by omega) (fun c39 => ?_) (fun c39 => ?_)
          · refine ev_aload_n (pc := 70) hC dX6_first_70 rfl ?_
            refine ev_callV (pc := 71) (as := []) (rest := []) hC gX6_first_X6_forgets mtX6_forgets dX6_first_71 (ru_X6_forgets) (by decide) (by decide) (by decide) rfl (by rfl) (Nat.le_of_ble_eq_true rfl) rfl (fun v71 X71 h71 => ?_)
            obtain ⟨rfl, hS71⟩ := h71
            show Ev K 74 [some (.ref 29), some (vi x0), some (vi ((here A : Nat) : Int)), some (vi z), some (vi ((i : Nat) : Int))] [] X71
            have hF71 := ps_fr hS71
            have hA71 := ps_rep hS71 hK2Y
            have hg71 := frT_gone hF71 hgY
            have hk2_71 := hK2Y.keepK hF71 (by omega)
            have hFr71 := frT_tr hFY hF71 (by omega)
            have hn8_71 := hA71.n8
            refine ev_iload_n (pc := 74) hC dX6_first_74 rfl ?_
            exact ev_ireturn (pc := 75) hC hR dX6_first_75 (ok_endM (show cdO x0 4 = 0 by omega) (by show z = fstS A x0; rw [fst_eq (by omega)]; rcases hz with h | h; exact absurd h.1 (by omega); exact h.2) (mI_put hI hA71 hyA hFr71) (frM_T hFr71))
          · have hno : ∀ k, k < i → (fun k => fsP x0 (here A) (goN 0 k A)) k = false := by rcases hz with h | h; exact h.2; exact absurd h.1 (by omega)
            refine ev_aload_n (pc := 42) hC dX6_first_42 rfl ?_
            refine ev_iload_n (pc := 43) hC dX6_first_43 rfl ?_
            refine ev_iload_n (pc := 44) hC dX6_first_44 rfl ?_
            refine ev_callV (pc := 45) (as := [vi x0, vi ((here A : Nat) : Int)]) (rest := []) hC gX6_first_X6_isFirst mtX6_isFirst dX6_first_45 (ru_X6_isFirst hAY hgY x0 (here A) (by omega) (by omega)) (by decide) (by decide) (by decide) rfl (by rfl) (Nat.le_of_ble_eq_true rfl) rfl (fun v45 X45 h45 => ?_)
            obtain ⟨rfl, rfl⟩ := h45
            show Ev K 48 [some (.ref 29), some (vi x0), some (vi ((here A : Nat) : Int)), some (vi z), some (vi ((i : Nat) : Int))] [vi (b2i (fsP x0 (here A) (goN 0 i A)))] Y
            have hr45 := b2i_r (fsP x0 (here A) (goN 0 i A))
            refine ev_if_eq (pc := 48) hC 56 dX6_first_48 (by decide) (by omega) (fun c48 => ?_) (fun c48 => ?_)
            · have e48 := b2i_0 c48
              refine ev_bipush (pc := 56) hC dX6_first_56 (by decide) ?_
              refine ev_istore_n (pc := 58) hC dX6_first_58 (by rw [hKn]; decide) rfl ?_
              show Ev K 59 [some (.ref 29), some (vi x0), some (vi ((here A : Nat) : Int)), some (vi (-9)), some (vi ((i : Nat) : Int))] [] Y
              refine ev_aload_n (pc := 59) hC dX6_first_59 rfl ?_
              refine ev_iconst (pc := 60) hC dX6_first_60 ?_
              refine ev_callV (pc := 61) (as := [vi 0]) (rest := []) hC gX6_first_X6_goesYear mtX6_goesYear dX6_first_61 (ru_X6_goesYear hAY hgY hG false) (by decide) (by decide) (by decide) rfl (by rfl) (Nat.le_of_ble_eq_true rfl) rfl (fun v61 X61 h61 => ?_)
              obtain ⟨rfl, hA61, hF61⟩ := h61
              show Ev K 64 [some (.ref 29), some (vi x0), some (vi ((here A : Nat) : Int)), some (vi (-9)), some (vi ((i : Nat) : Int))] [] X61
              have hg61 := frT_gone hF61 hgY
              have hk2_61 := hK2Y.keepK hF61 (by omega)
              have hFr61 := frT_tr hFY hF61 (by omega)
              have hn8_61 := hA61.n8
              refine ev_iinc (pc := 64) hC ((i + 1 : Nat) : Int) dX6_first_64 rfl (by omega) (by rw [hKn]; decide) rfl ?_
              show Ev K 67 [some (.ref 29), some (vi x0), some (vi ((here A : Nat) : Int)), some (vi (-9)), some (vi ((i + 1 : Nat) : Int))] [] X61
              refine ev_goto (pc := 67) hC 31 dX6_first_67 (by decide) ?_
              exact ih31 (i + 1) (-9) X61 (by omega) (by omega) (Or.inl ⟨rfl, nostep hno e48⟩) (by omega) hA61 hg61 hFr61 hk2_61
            · have e48 := b2i_1 c48
              refine ev_iload (pc := 51) hC dX6_first_51 rfl ?_
              refine ev_goto (pc := 53) hC 58 dX6_first_53 (by decide) ?_
              refine ev_istore_n (pc := 58) hC dX6_first_58 (by rw [hKn]; decide) rfl ?_
              show Ev K 59 [some (.ref 29), some (vi x0), some (vi ((here A : Nat) : Int)), some (vi ((i : Nat) : Int)), some (vi ((i : Nat) : Int))] [] Y
              refine ev_aload_n (pc := 59) hC dX6_first_59 rfl ?_
              refine ev_iconst (pc := 60) hC dX6_first_60 ?_
              refine ev_callV (pc := 61) (as := [vi 0]) (rest := []) hC gX6_first_X6_goesYear mtX6_goesYear dX6_first_61 (ru_X6_goesYear hAY hgY hG false) (by decide) (by decide) (by decide) rfl (by rfl) (Nat.le_of_ble_eq_true rfl) rfl (fun v61 X61 h61 => ?_)
              obtain ⟨rfl, hA61, hF61⟩ := h61
              show Ev K 64 [some (.ref 29), some (vi x0), some (vi ((here A : Nat) : Int)), some (vi ((i : Nat) : Int)), some (vi ((i : Nat) : Int))] [] X61
              have hg61 := frT_gone hF61 hgY
              have hk2_61 := hK2Y.keepK hF61 (by omega)
              have hFr61 := frT_tr hFY hF61 (by omega)
              have hn8_61 := hA61.n8
              refine ev_iinc (pc := 64) hC ((i + 1 : Nat) : Int) dX6_first_64 rfl (by omega) (by rw [hKn]; decide) rfl ?_
              show Ev K 67 [some (.ref 29), some (vi x0), some (vi ((here A : Nat) : Int)), some (vi ((i : Nat) : Int)), some (vi ((i + 1 : Nat) : Int))] [] X61
              refine ev_goto (pc := 67) hC 31 dX6_first_67 (by decide) ?_
              exact ih31 (i + 1) ((i : Nat) : Int) X61 (by omega) (by omega) (Or.inr ⟨by omega, (firstB_hit (P := (fun k => fsP x0 (here A) (goN 0 k A))) hno e48 (by omega)).symm⟩) (by omega) hA61 hg61 hFr61 hk2_61
    exact lp31 _ 0 (-9) X22 (Nat.lt_succ_self _) (by omega) (Or.inl ⟨rfl, fun k hk => absurd hk (Nat.not_lt_zero k)⟩) (by omega) hA22 hg22 hFr22 hk2_22
  · have e6 := of_decide_eq_false (b2i_0 c6)
    refine ev_aload_n (pc := 9) hC dX6_first_9 rfl ?_
    refine ev_bipush (pc := 10) hC dX6_first_10 (by decide) ?_
    refine ev_callV (pc := 12) (as := [vi (-2)]) (rest := []) hC gX6_first_X6_no mtX6_no dX6_first_12 (ru_X6_no2 (-2) (by omega)) (by decide) (by decide) (by decide) rfl (by rfl) (Nat.le_of_ble_eq_true rfl) rfl (fun v12 X12 h12 => ?_)
    obtain ⟨rfl, rfl⟩ := h12
    show Ev K 15 [some (.ref 29), some (vi x0), none, none, none] [vi (-2)] (mset X 30 (-(-2)).toNat (X 30 (-(-2)).toNat + 1))
    exact ev_ireturn (pc := 15) hC hR dX6_first_15 (no_endM (show cdO x0 4 = (-2) by omega) (by omega) hI)
theorem mtX6_ask : MT yX6_ask wsX6_ask cX6_ask 7 (some .int) 1 := ⟨⟨_, rfl⟩, by decide, by decide, by decide +kernel⟩
set_option maxRecDepth 100000 in
set_option maxHeartbeats 4000000 in
theorem ru_X6_ask {X : Mem} {V : St} (hV : mI X V) (x0 : Int) (hx0 : -2147483648 ≤ x0 ∧ x0 ≤ 2147483647) : Ru yX6_ask wsX6_ask 11 244 [.ref 29, vi x0] X (fun v X' => v = some (vi (sp16 x0 V).1) ∧ mI X' (sp16 x0 V).2 ∧ frM X X') := by
  refine ru_of (w2 := _) rfl (by decide) [some (.ref 29), some (vi x0), none, none, none, none, none] (fun _ => rfl) (fun _ => Nat.le_of_ble_eq_true rfl) ?_
  intro K hKn hC hR
  have wX6 : ∀ w ∈ u_ws RX6 TX6 25, w ∈ wsX6_ask := by decide +kernel
  have f52 : Fl K RX6 52 6 6 := fl_of hC RX6 TX6 25 rfl (by decide) wX6 (show Cond.fieldLink RX6 52 "PicnicOfSomebodyModel" "people" "I" ∈ _ by decide +kernel)
  obtain ⟨A, B, hh, T, n, W, rs, C⟩ := V
  have hA : Rp (vM X) A := hV.1
  have hyA : A 5 1 ≤ 999 := hV.2.1
  have hB : hh = true → Rp (vK X 0) B ∧ B 5 1 ≤ 999 := hV.2.2.1
  have hi : X 29 17 = zI (b2i hh) := hV.2.2.2.1
  have hg : X 29 8 = zI ((0 : Nat) : Int) := hV.2.2.2.2.1
  have hT : TxM X T n := hV.2.2.2.2.2.1
  have hW : RwM X W rs := hV.2.2.2.2.2.2.1
  have hCn : ∀ k, k < 7 → X 30 k = zI (C k : Nat) := hV.2.2.2.2.2.2.2
  have hn8 := hA.n8
  have hn96 := hT.2.1
  have hrs := hW.2.1
  have hG : 0 < 256 := by decide
  have hI : mI X (A, B, hh, T, n, W, rs, C) := hV
  have hq1 := bnd_cases x0 0 60
  refine ev_iload_n (pc := 0) hC dX6_ask_0 rfl ?_
  refine ev_callS (pc := 1) (as := [vi x0]) (rest := []) hC gX6_ask_X6_notYears mtX6_notYears dX6_ask_1 (ru_X6_notYears x0 (by omega)) (by decide) (by rfl) (Nat.le_of_ble_eq_true rfl) rfl (fun v1 X1 h1 => ?_)
  obtain ⟨rfl, rfl⟩ := h1
  show Ev K 4 [some (.ref 29), some (vi x0), none, none, none, none, none] [vi (bnd x0 0 60)] X
  have hbd1 := bnd_cases x0 0 60
  refine ev_istore_n (pc := 4) hC dX6_ask_4 (by rw [hKn]; decide) rfl ?_
  show Ev K 5 [some (.ref 29), some (vi x0), some (vi (bnd x0 0 60)), none, none, none, none] [] X
  refine ev_iload_n (pc := 5) hC dX6_ask_5 rfl ?_
  refine ev_if_eq (pc := 6) hC 15 dX6_ask_6 (by decide) (by omega) (fun c6 => ?_) (fun c6 => ?_)
  · obtain ⟨p0, rfl⟩ : ∃ k : Nat, x0 = (k : Int) := ⟨x0.toNat, by omega⟩
    refine ev_bipush (pc := 15) hC dX6_ask_15 (by decide) ?_
    refine ev_istore_n (pc := 17) hC dX6_ask_17 (by rw [hKn]; decide) rfl ?_
    show Ev K 18 [some (.ref 29), some (vi ((p0 : Nat) : Int)), some (vi (bnd ((p0 : Nat) : Int) 0 60)), some (vi (-9)), none, none, none] [] X
    refine ev_aload_n (pc := 18) hC dX6_ask_18 rfl ?_
    refine ev_iload_n (pc := 19) hC dX6_ask_19 rfl ?_
    refine ev_callV (pc := 20) (as := [vi ((p0 : Nat) : Int)]) (rest := []) hC gX6_ask_X6_believersIn mtX6_believersIn dX6_ask_20 (ru_X6_believersIn hA hg hG p0 (by omega)) (by decide) (by decide) (by decide) rfl (by rfl) (Nat.le_of_ble_eq_true rfl) rfl (fun v20 X20 h20 => ?_)
    obtain ⟨rfl, hA20, hF20⟩ := h20
    show Ev K 23 [some (.ref 29), some (vi ((p0 : Nat) : Int)), some (vi (bnd ((p0 : Nat) : Int) 0 60)), some (vi (-9)), none, none, none] [vi ((bset 0 (goN 0 p0 A) : Nat) : Int)] X20
    have hgn20 := goN_n 0 A p0
    have hbl20 : bset 0 (goN 0 p0 A) < 256 := bset_lt (by rw [hgn20]; exact hA.n8)
    have hg20 := frT_gone hF20 hg
    have hFr20 := frT_tr (frT_rf 1 X) hF20 (by omega)
    have hn8_20 := hA20.n8
    refine ev_callS (pc := 23) (as := [vi ((bset 0 (goN 0 p0 A) : Nat) : Int)]) (rest := []) hC gX6_ask_X6_bits mtX6_bits dX6_ask_23 (ru_X6_bits (bset 0 (goN 0 p0 A)) (by omega)) (by decide) (by rfl) (Nat.le_of_ble_eq_true rfl) rfl (fun v23 X23 h23 => ?_)
    obtain ⟨rfl, rfl⟩ := h23
    show Ev K 26 [some (.ref 29), some (vi ((p0 : Nat) : Int)), some (vi (bnd ((p0 : Nat) : Int) 0 60)), some (vi (-9)), none, none, none] [vi ((pop (bset 0 (goN 0 p0 A)) : Nat) : Int)] X20
    have hp23 := pop_le (bset 0 (goN 0 p0 A))
    refine ev_istore (pc := 26) hC dX6_ask_26 (by rw [hKn]; decide) rfl ?_
    show Ev K 28 [some (.ref 29), some (vi ((p0 : Nat) : Int)), some (vi (bnd ((p0 : Nat) : Int) 0 60)), some (vi (-9)), some (vi ((pop (bset 0 (goN 0 p0 A)) : Nat) : Int)), none, none] [] X20
    refine ev_iconst (pc := 28) hC dX6_ask_28 ?_
    refine ev_istore (pc := 29) hC dX6_ask_29 (by rw [hKn]; decide) rfl ?_
    show Ev K 31 [some (.ref 29), some (vi ((p0 : Nat) : Int)), some (vi (bnd ((p0 : Nat) : Int) 0 60)), some (vi (-9)), some (vi ((pop (bset 0 (goN 0 p0 A)) : Nat) : Int)), some (vi 0), none] [] X20
    have lp31 : ∀ (fz : Nat) (i : Nat) (b : Int) (w : Nat) (Y : Mem), A 5 0 - i < fz → (i ≤ A 5 0) → (b = (mxr (askF p0 A) (-9) (bcnt 0 (goN 0 p0 A)) i).1) → ((w : Int) = (mxr (askF p0 A) (-9) (bcnt 0 (goN 0 p0 A)) i).2) → (w ≤ 31) → (Rp (vM Y) A) → (Y 29 8 = zI ((0 : Nat) : Int)) → (frT 1 X Y) → Ev K 31 [some (.ref 29), some (vi ((p0 : Nat) : Int)), some (vi (bnd ((p0 : Nat) : Int) 0 60)), some (vi b), some (vi ((w : Nat) : Int)), some (vi ((i : Nat) : Int)), none] [] Y := by
      intro fz
      induction fz with
      | zero => intro i b w Y hfz; exact absurd hfz (Nat.not_lt_zero _)
      | succ fz ih31 =>
        intro i b w Y hfz hi hb hw hwl hAY hgY hFY
        have hY8 := hAY.n8
        refine ev_iload (pc := 31) hC dX6_ask_31 rfl ?_
        refine ev_aload_n (pc := 33) hC dX6_ask_33 rfl ?_
        refine ev_geti (pc := 34) hC ((A 5 0 : Nat) : Int) f52 dX6_ask_34 (by decide) (by decide) (by decide) (by decide) (by decide)  (hAY.mn) ?_
        refine ev_icmp_ge (pc := 37) hC 77 dX6_ask_37 (by decide) (by omega) (by omega) (fun c37 => ?_) (fun c37 => ?_)
        · refine ev_iload_n (pc := 77) hC dX6_ask_77 rfl ?_
          exact ev_ireturn (pc := 78) hC hR dX6_ask_78 (ok_endM (show bnd ((p0 : Nat) : Int) 0 60 = 0 by omega) (by rw [hb, show i = A 5 0 by omega]; first | done | rfl) (mI_put hI hAY hyA hFY) (frM_T hFY))
        · refine ev_aload_n (pc := 40) hC dX6_ask_40 rfl ?_
          refine ev_iconst (pc := 41) hC dX6_ask_41 ?_
          refine ev_iload (pc := 42) hC dX6_ask_42 rfl ?_
          refine ev_ishl (pc := 44) hC ((2 ^ i : Nat) : Int) (zI_shl1 i (by omega)) dX6_ask_44 ?_
          have hpl := pow_lt8 (show i < 8 by omega)
          refine ev_iload_n (pc := 45) hC dX6_ask_45 rfl ?_
          refine ev_callV (pc := 46) (as := [vi ((2 ^ i : Nat) : Int), vi ((p0 : Nat) : Int)]) (rest := []) hC gX6_ask_X6_believersIf mtX6_believersIf dX6_ask_46 (ru_X6_believersIf hAY hgY hG (2 ^ i) p0 (by omega) (by omega)) (by decide) (by decide) (by decide) rfl (by rfl) (Nat.le_of_ble_eq_true rfl) rfl (fun v46 X46 h46 => ?_)
          obtain ⟨rfl, hA46, hF46⟩ := h46
          show Ev K 49 [some (.ref 29), some (vi ((p0 : Nat) : Int)), some (vi (bnd ((p0 : Nat) : Int) 0 60)), some (vi b), some (vi ((w : Nat) : Int)), some (vi ((i : Nat) : Int)), none] [vi ((bset 0 (goN 0 p0 (nines (2 ^ i) A)) : Nat) : Int)] X46
          have hgn46 := goN_n 0 (nines (2 ^ i) A) p0
          have hbl46 : bset 0 (goN 0 p0 (nines (2 ^ i) A)) < 256 := bset_lt (by rw [hgn46]; exact hAY.n8)
          have hg46 := frT_gone hF46 hgY
          have hFr46 := frT_tr hFY hF46 (by omega)
          have hn8_46 := hA46.n8
          refine ev_callS (pc := 49) (as := [vi ((bset 0 (goN 0 p0 (nines (2 ^ i) A)) : Nat) : Int)]) (rest := []) hC gX6_ask_X6_bits mtX6_bits dX6_ask_49 (ru_X6_bits (bset 0 (goN 0 p0 (nines (2 ^ i) A))) (by omega)) (by decide) (by rfl) (Nat.le_of_ble_eq_true rfl) rfl (fun v49 X49 h49 => ?_)
          obtain ⟨rfl, rfl⟩ := h49
          show Ev K 52 [some (.ref 29), some (vi ((p0 : Nat) : Int)), some (vi (bnd ((p0 : Nat) : Int) 0 60)), some (vi b), some (vi ((w : Nat) : Int)), some (vi ((i : Nat) : Int)), none] [vi ((pop (bset 0 (goN 0 p0 (nines (2 ^ i) A))) : Nat) : Int)] X46
          have hp49 := pop_le (bset 0 (goN 0 p0 (nines (2 ^ i) A)))
          have hmn : ((pop (bset 0 (goN 0 p0 (nines (2 ^ i) A))) : Nat) : Int) = askF p0 A i := by rw [nines_pow, pop_bset (by rw [goN_n]; exact hn8)]; rfl
          refine ev_istore (pc := 52) hC dX6_ask_52 (by rw [hKn]; decide) rfl ?_
          show Ev K 54 [some (.ref 29), some (vi ((p0 : Nat) : Int)), some (vi (bnd ((p0 : Nat) : Int) 0 60)), some (vi b), some (vi ((w : Nat) : Int)), some (vi ((i : Nat) : Int)), some (vi ((pop (bset 0 (goN 0 p0 (nines (2 ^ i) A))) : Nat) : Int))] [] X46
          refine ev_iload (pc := 54) hC dX6_ask_54 rfl ?_
          refine ev_iload (pc := 56) hC dX6_ask_56 rfl ?_
          refine ev_icmp_gt (pc := 58) hC 64 dX6_ask_58 (by decide) (by omega) (by omega) (fun c58 => ?_) (fun c58 => ?_)
          · have hgt : (mxr (askF p0 A) (-9) (bcnt 0 (goN 0 p0 A)) i).2 < askF p0 A i := by rw [← hw, ← hmn]; omega
            refine ev_iload (pc := 64) hC dX6_ask_64 rfl ?_
            refine ev_istore_n (pc := 66) hC dX6_ask_66 (by rw [hKn]; decide) rfl ?_
            show Ev K 67 [some (.ref 29), some (vi ((p0 : Nat) : Int)), some (vi (bnd ((p0 : Nat) : Int) 0 60)), some (vi ((i : Nat) : Int)), some (vi ((w : Nat) : Int)), some (vi ((i : Nat) : Int)), some (vi ((pop (bset 0 (goN 0 p0 (nines (2 ^ i) A))) : Nat) : Int))] [] X46
            refine ev_iload (pc := 67) hC dX6_ask_67 rfl ?_
            refine ev_istore (pc := 69) hC dX6_ask_69 (by rw [hKn]; decide) rfl ?_
            show Ev K 71 [some (.ref 29), some (vi ((p0 : Nat) : Int)), some (vi (bnd ((p0 : Nat) : Int) 0 60)), some (vi ((i : Nat) : Int)), some (vi ((pop (bset 0 (goN 0 p0 (nines (2 ^ i) A))) : Nat) : Int)), some (vi ((i : Nat) : Int)), some (vi ((pop (bset 0 (goN 0 p0 (nines (2 ^ i) A))) : Nat) : Int))] [] X46
            refine ev_iinc (pc := 71) hC ((i + 1 : Nat) : Int) dX6_ask_71 rfl (by omega) (by rw [hKn]; decide) rfl ?_
            show Ev K 74 [some (.ref 29), some (vi ((p0 : Nat) : Int)), some (vi (bnd ((p0 : Nat) : Int) 0 60)), some (vi ((i : Nat) : Int)), some (vi ((pop (bset 0 (goN 0 p0 (nines (2 ^ i) A))) : Nat) : Int)), some (vi ((i + 1 : Nat) : Int)), some (vi ((pop (bset 0 (goN 0 p0 (nines (2 ^ i) A))) : Nat) : Int))] [] X46
            refine ev_goto (pc := 74) hC 31 dX6_ask_74 (by decide) ?_
            refine ev_drop 6 ?_
            show Ev K 31 [some (.ref 29), some (vi ((p0 : Nat) : Int)), some (vi (bnd ((p0 : Nat) : Int) 0 60)), some (vi ((i : Nat) : Int)), some (vi ((pop (bset 0 (goN 0 p0 (nines (2 ^ i) A))) : Nat) : Int)), some (vi ((i + 1 : Nat) : Int)), none] [] X46
            exact ih31 (i + 1) ((i : Nat) : Int) (pop (bset 0 (goN 0 p0 (nines (2 ^ i) A)))) X46 (by omega) (by omega) (by rw [mxr_t hgt]) (by rw [mxr_t hgt]; exact hmn) (by omega) hA46 hg46 hFr46
          · have hgt : ¬ (mxr (askF p0 A) (-9) (bcnt 0 (goN 0 p0 A)) i).2 < askF p0 A i := by rw [← hw, ← hmn]; omega
            refine ev_goto (pc := 61) hC 71 dX6_ask_61 (by decide) ?_
            refine ev_iinc (pc := 71) hC ((i + 1 : Nat) : Int) dX6_ask_71 rfl (by omega) (by rw [hKn]; decide) rfl ?_
            show Ev K 74 [some (.ref 29), some (vi ((p0 : Nat) : Int)), some (vi (bnd ((p0 : Nat) : Int) 0 60)), some (vi b), some (vi ((w : Nat) : Int)), some (vi ((i + 1 : Nat) : Int)), some (vi ((pop (bset 0 (goN 0 p0 (nines (2 ^ i) A))) : Nat) : Int))] [] X46
            refine ev_goto (pc := 74) hC 31 dX6_ask_74 (by decide) ?_
            refine ev_drop 6 ?_
            show Ev K 31 [some (.ref 29), some (vi ((p0 : Nat) : Int)), some (vi (bnd ((p0 : Nat) : Int) 0 60)), some (vi b), some (vi ((w : Nat) : Int)), some (vi ((i + 1 : Nat) : Int)), none] [] X46
            exact ih31 (i + 1) b w X46 (by omega) (by omega) (by rw [mxr_f hgt]; exact hb) (by rw [mxr_f hgt]; exact hw) (by omega) hA46 hg46 hFr46
    exact lp31 _ 0 (-9) (pop (bset 0 (goN 0 p0 A))) X20 (Nat.lt_succ_self _) (by omega) rfl (by show ((pop (bset 0 (goN 0 p0 A)) : Nat) : Int) = ((bcnt 0 (goN 0 p0 A) : Nat) : Int); rw [pop_bset (by rw [goN_n]; exact hn8)]) (by omega) hA20 hg20 hFr20
  · refine ev_aload_n (pc := 9) hC dX6_ask_9 rfl ?_
    refine ev_iload_n (pc := 10) hC dX6_ask_10 rfl ?_
    refine ev_callV (pc := 11) (as := [vi (bnd x0 0 60)]) (rest := []) hC gX6_ask_X6_no mtX6_no dX6_ask_11 (ru_X6_no2 (bnd x0 0 60) (by omega)) (by decide) (by decide) (by decide) rfl (by rfl) (Nat.le_of_ble_eq_true rfl) rfl (fun v11 X11 h11 => ?_)
    obtain ⟨rfl, rfl⟩ := h11
    show Ev K 14 [some (.ref 29), some (vi x0), some (vi (bnd x0 0 60)), none, none, none, none] [vi (bnd x0 0 60)] (mset X 30 (-(bnd x0 0 60)).toNat (X 30 (-(bnd x0 0 60)).toNat + 1))
    exact ev_ireturn (pc := 14) hC hR dX6_ask_14 (no_endM (show bnd x0 0 60 = (bnd x0 0 60) by omega) (by omega) hI)
theorem mtX6_sit : MT yX6_sit wsX6_sit cX6_sit 9 (some .int) 3 := ⟨⟨_, rfl⟩, by decide, by decide, by decide +kernel⟩
set_option maxRecDepth 100000 in
set_option maxHeartbeats 4000000 in
theorem ru_X6_sit {X : Mem} {V : St} (hV : mI X V) (x0 : Int) (hx0 : -2147483648 ≤ x0 ∧ x0 ≤ 2147483647) (x1 : Int) (hx1 : -2147483648 ≤ x1 ∧ x1 ≤ 2147483647) (x2 : Int) (hx2 : -2147483648 ≤ x2 ∧ x2 ≤ 2147483647) : Ru yX6_sit wsX6_sit 10 223 [.ref 29, vi x0, vi x1, vi x2] X (fun v X' => v = some (vi (sp17 x0 x1 x2 V).1) ∧ mI X' (sp17 x0 x1 x2 V).2 ∧ frM X X') := by
  refine ru_of (w2 := _) rfl (by decide) [some (.ref 29), some (vi x0), some (vi x1), some (vi x2), none, none, none, none, none] (fun _ => rfl) (fun _ => Nat.le_of_ble_eq_true rfl) ?_
  intro K hKn hC hR
  obtain ⟨A, B, hh, T, n, W, rs, C⟩ := V
  have hA : Rp (vM X) A := hV.1
  have hyA : A 5 1 ≤ 999 := hV.2.1
  have hB : hh = true → Rp (vK X 0) B ∧ B 5 1 ≤ 999 := hV.2.2.1
  have hi : X 29 17 = zI (b2i hh) := hV.2.2.2.1
  have hg : X 29 8 = zI ((0 : Nat) : Int) := hV.2.2.2.2.1
  have hT : TxM X T n := hV.2.2.2.2.2.1
  have hW : RwM X W rs := hV.2.2.2.2.2.2.1
  have hCn : ∀ k, k < 7 → X 30 k = zI (C k : Nat) := hV.2.2.2.2.2.2.2
  have hn8 := hA.n8
  have hn96 := hT.2.1
  have hrs := hW.2.1
  have hG : 0 < 256 := by decide
  have hI : mI X (A, B, hh, T, n, W, rs, C) := hV
  have hq1 := cdP_cases A x0
  have hq2 := bnd_cases x1 0 20
  have hq4 := cdO_cases x2 2
  have hq3 := f3_cases (cdP A x0) (bnd x1 0 20) (cdO x2 2)
  refine ev_aload_n (pc := 0) hC dX6_sit_0 rfl ?_
  refine ev_iload_n (pc := 1) hC dX6_sit_1 rfl ?_
  refine ev_callV (pc := 2) (as := [vi x0]) (rest := []) hC gX6_sit_X6_isOne mtX6_isOne dX6_sit_2 (ru_X6_isOne hA x0 (by omega)) (by decide) (by decide) (by decide) rfl (by rfl) (Nat.le_of_ble_eq_true rfl) rfl (fun v2 X2 h2 => ?_)
  obtain ⟨rfl, rfl⟩ := h2
  show Ev K 5 [some (.ref 29), some (vi x0), some (vi x1), some (vi x2), none, none, none, none, none] [vi (b2i (decide (0 ≤ x0 ∧ x0 < (A 5 0 : Int))))] X
  have hr2 := b2i_r (decide (0 ≤ x0 ∧ x0 < (A 5 0 : Int)))
  refine ev_if_ne (pc := 5) hC 12 dX6_sit_5 (by decide) (by omega) (fun c5 => ?_) (fun c5 => ?_)
  · have e5 := of_decide_eq_true (b2i_1 c5)
    refine ev_iload_n (pc := 12) hC dX6_sit_12 rfl ?_
    refine ev_callS (pc := 13) (as := [vi x1]) (rest := []) hC gX6_sit_X6_notShort mtX6_notShort dX6_sit_13 (ru_X6_notShort x1 (by omega)) (by decide) (by rfl) (Nat.le_of_ble_eq_true rfl) rfl (fun v13 X13 h13 => ?_)
    obtain ⟨rfl, rfl⟩ := h13
    show Ev K 16 [some (.ref 29), some (vi x0), some (vi x1), some (vi x2), none, none, none, none, none] [vi (bnd x1 0 20)] X
    have hbd13 := bnd_cases x1 0 20
    refine ev_istore (pc := 16) hC dX6_sit_16 (by rw [hKn]; decide) rfl ?_
    show Ev K 18 [some (.ref 29), some (vi x0), some (vi x1), some (vi x2), some (vi (bnd x1 0 20)), none, none, none, none] [] X
    refine ev_iload (pc := 18) hC dX6_sit_18 rfl ?_
    refine ev_if_ne (pc := 20) hC 36 dX6_sit_20 (by decide) (by omega) (fun c20 => ?_) (fun c20 => ?_)
    · refine ev_iload (pc := 36) hC dX6_sit_36 rfl ?_
      refine ev_if_eq (pc := 38) hC 48 dX6_sit_38 (by decide) (by omega) (fun c38 => ?_) (fun c38 => ?_)
      · obtain ⟨p0, rfl⟩ : ∃ k : Nat, x0 = (k : Int) := ⟨x0.toNat, by omega⟩
        obtain ⟨p1, rfl⟩ : ∃ k : Nat, x1 = (k : Int) := ⟨x1.toNat, by omega⟩
        refine ev_iconst (pc := 48) hC dX6_sit_48 ?_
        refine ev_istore (pc := 49) hC dX6_sit_49 (by rw [hKn]; decide) rfl ?_
        show Ev K 51 [some (.ref 29), some (vi ((p0 : Nat) : Int)), some (vi ((p1 : Nat) : Int)), some (vi x2), some (vi (bnd ((p1 : Nat) : Int) 0 20)), some (vi 0), none, none, none] [] X
        refine ev_bipush (pc := 51) hC dX6_sit_51 (by decide) ?_
        refine ev_istore (pc := 53) hC dX6_sit_53 (by rw [hKn]; decide) rfl ?_
        show Ev K 55 [some (.ref 29), some (vi ((p0 : Nat) : Int)), some (vi ((p1 : Nat) : Int)), some (vi x2), some (vi (bnd ((p1 : Nat) : Int) 0 20)), some (vi 0), some (vi (-9)), none, none] [] X
        refine ev_iconst (pc := 55) hC dX6_sit_55 ?_
        refine ev_istore (pc := 56) hC dX6_sit_56 (by rw [hKn]; decide) rfl ?_
        show Ev K 58 [some (.ref 29), some (vi ((p0 : Nat) : Int)), some (vi ((p1 : Nat) : Int)), some (vi x2), some (vi (bnd ((p1 : Nat) : Int) 0 20)), some (vi 0), some (vi (-9)), some (vi 0), none] [] X
        have lp58 : ∀ (fz : Nat) (i : Nat) (b : Int) (w : Int) (Y : Mem), 25 - i < fz → (i ≤ 25) → ((i = 0 ∧ b = 0 ∧ w = -9) ∨ (1 ≤ i ∧ b = (mxr (sitF p0 p1 A) 0 (-1) i).1 ∧ w = (mxr (sitF p0 p1 A) 0 (-1) i).2)) → (-9 ≤ w ∧ w ≤ 9) → (Rp (vM Y) A) → (Y 29 8 = zI ((0 : Nat) : Int)) → (frT 1 X Y) → Ev K 58 [some (.ref 29), some (vi ((p0 : Nat) : Int)), some (vi ((p1 : Nat) : Int)), some (vi x2), some (vi (bnd ((p1 : Nat) : Int) 0 20)), some (vi b), some (vi w), some (vi ((i : Nat) : Int)), none] [] Y := by
          intro fz
          induction fz with
          | zero => intro i b w Y hfz; exact absurd hfz (Nat.not_lt_zero _)
          | succ fz ih58 =>
            intro i b w Y hfz hi hs hwl hAY hgY hFY
            have hY8 := hAY.n8
            refine ev_iload (pc := 58) hC dX6_sit_58 rfl ?_
            refine ev_bipush (pc := 60) hC dX6_sit_60 (by decide) ?_
            refine ev_icmp_ge (pc := 62) hC 99 dX6_sit_62 (by decide) (by omega) (by omega) (fun c62 => ?_) (fun c62 => ?_)
            · refine ev_iload_n (pc := 99) hC dX6_sit_99 rfl ?_
              refine ev_if_ne (pc := 100) hC 108 dX6_sit_100 (by decide) (by omega) (fun c100 => ?_) (fun c100 => ?_)
              · refine ev_iload (pc := 108) hC dX6_sit_108 rfl ?_
                exact ev_ireturn (pc := 110) hC hR dX6_sit_110 (ok_endM (show f3 (cdP A ((p0 : Nat) : Int)) (bnd ((p1 : Nat) : Int) 0 20) (cdO x2 2) = 0 by omega) (by obtain ⟨h1, h2, h3⟩ := hs.resolve_left (fun z => absurd z.1 (by omega)); have hie : i = 25 := (by omega); subst hie; rw [if_neg c100, h3]; exact (mxr_val (f := (sitF p0 p1 A)) (fun k hk => (sitF_r (n := p1) hA.ok (show p0 < A 5 0 by omega) hk).1) 24 (by omega)).2) (mI_put hI hAY hyA hFY) (frM_T hFY))
              · refine ev_iload (pc := 103) hC dX6_sit_103 rfl ?_
                refine ev_goto (pc := 105) hC 110 dX6_sit_105 (by decide) ?_
                exact ev_ireturn (pc := 110) hC hR dX6_sit_110 (ok_endM (show f3 (cdP A ((p0 : Nat) : Int)) (bnd ((p1 : Nat) : Int) 0 20) (cdO x2 2) = 0 by omega) (by obtain ⟨h1, h2, h3⟩ := hs.resolve_left (fun z => absurd z.1 (by omega)); have hie : i = 25 := (by omega); subst hie; rw [if_pos c100]; exact h2) (mI_put hI hAY hyA hFY) (frM_T hFY))
            · have hsr := sitF_r (n := p1) hA.ok (show p0 < A 5 0 by omega) (show i < 25 by omega)
              have hse : sitF p0 p1 A i = ((goN 0 p1 (setR A 3 p0 i) 4 p0 : Nat) : Int) := rfl
              refine ev_aload_n (pc := 65) hC dX6_sit_65 rfl ?_
              refine ev_iload_n (pc := 66) hC dX6_sit_66 rfl ?_
              refine ev_iload (pc := 67) hC dX6_sit_67 rfl ?_
              refine ev_iload_n (pc := 69) hC dX6_sit_69 rfl ?_
              refine ev_callV (pc := 70) (as := [vi ((p0 : Nat) : Int), vi ((i : Nat) : Int), vi ((p1 : Nat) : Int)]) (rest := []) hC gX6_sit_X6_beliefFrom mtX6_beliefFrom dX6_sit_70 (ru_X6_beliefFrom hAY hgY hG p0 i p1 (by omega) (by omega) (by omega)) (by decide) (by decide) (by decide) rfl (by rfl) (Nat.le_of_ble_eq_true rfl) rfl (fun v70 X70 h70 => ?_)
              obtain ⟨rfl, hA70, hF70⟩ := h70
              show Ev K 73 [some (.ref 29), some (vi ((p0 : Nat) : Int)), some (vi ((p1 : Nat) : Int)), some (vi x2), some (vi (bnd ((p1 : Nat) : Int) 0 20)), some (vi b), some (vi w), some (vi ((i : Nat) : Int)), none] [vi ((goN 0 p1 (setR A 3 p0 i) 4 p0 : Nat) : Int)] X70
              have hg70 := frT_gone hF70 hgY
              have hFr70 := frT_tr hFY hF70 (by omega)
              have hn8_70 := hA70.n8
              refine ev_istore (pc := 73) hC dX6_sit_73 (by rw [hKn]; decide) rfl ?_
              show Ev K 75 [some (.ref 29), some (vi ((p0 : Nat) : Int)), some (vi ((p1 : Nat) : Int)), some (vi x2), some (vi (bnd ((p1 : Nat) : Int) 0 20)), some (vi b), some (vi w), some (vi ((i : Nat) : Int)), some (vi ((goN 0 p1 (setR A 3 p0 i) 4 p0 : Nat) : Int))] [] X70
              refine ev_iload (pc := 75) hC dX6_sit_75 rfl ?_
              refine ev_iload (pc := 77) hC dX6_sit_77 rfl ?_
              refine ev_icmp_gt (pc := 79) hC 85 dX6_sit_79 (by decide) (by omega) (by omega) (fun c79 => ?_) (fun c79 => ?_)
              · refine ev_iload (pc := 85) hC dX6_sit_85 rfl ?_
                refine ev_istore (pc := 87) hC dX6_sit_87 (by rw [hKn]; decide) rfl ?_
                show Ev K 89 [some (.ref 29), some (vi ((p0 : Nat) : Int)), some (vi ((p1 : Nat) : Int)), some (vi x2), some (vi (bnd ((p1 : Nat) : Int) 0 20)), some (vi ((i : Nat) : Int)), some (vi w), some (vi ((i : Nat) : Int)), some (vi ((goN 0 p1 (setR A 3 p0 i) 4 p0 : Nat) : Int))] [] X70
                refine ev_iload (pc := 89) hC dX6_sit_89 rfl ?_
                refine ev_istore (pc := 91) hC dX6_sit_91 (by rw [hKn]; decide) rfl ?_
                show Ev K 93 [some (.ref 29), some (vi ((p0 : Nat) : Int)), some (vi ((p1 : Nat) : Int)), some (vi x2), some (vi (bnd ((p1 : Nat) : Int) 0 20)), some (vi ((i : Nat) : Int)), some (vi ((goN 0 p1 (setR A 3 p0 i) 4 p0 : Nat) : Int)), some (vi ((i : Nat) : Int)), some (vi ((goN 0 p1 (setR A 3 p0 i) 4 p0 : Nat) : Int))] [] X70
                refine ev_iinc (pc := 93) hC ((i + 1 : Nat) : Int) dX6_sit_93 rfl (by omega) (by rw [hKn]; decide) rfl ?_
                show Ev K 96 [some (.ref 29), some (vi ((p0 : Nat) : Int)), some (vi ((p1 : Nat) : Int)), some (vi x2), some (vi (bnd ((p1 : Nat) : Int) 0 20)), some (vi ((i : Nat) : Int)), some (vi ((goN 0 p1 (setR A 3 p0 i) 4 p0 : Nat) : Int)), some (vi ((i + 1 : Nat) : Int)), some (vi ((goN 0 p1 (setR A 3 p0 i) 4 p0 : Nat) : Int))] [] X70
                refine ev_goto (pc := 96) hC 58 dX6_sit_96 (by decide) ?_
                refine ev_drop 8 ?_
                show Ev K 58 [some (.ref 29), some (vi ((p0 : Nat) : Int)), some (vi ((p1 : Nat) : Int)), some (vi x2), some (vi (bnd ((p1 : Nat) : Int) 0 20)), some (vi ((i : Nat) : Int)), some (vi ((goN 0 p1 (setR A 3 p0 i) 4 p0 : Nat) : Int)), some (vi ((i + 1 : Nat) : Int)), none] [] X70
                exact ih58 (i + 1) ((i : Nat) : Int) ((goN 0 p1 (setR A 3 p0 i) 4 p0 : Nat) : Int) X70 (by omega) (by omega) (Or.inr (sit_t (f := (sitF p0 p1 A)) hsr.1 hs (by omega))) (by omega) hA70 hg70 hFr70
              · refine ev_goto (pc := 82) hC 93 dX6_sit_82 (by decide) ?_
                refine ev_iinc (pc := 93) hC ((i + 1 : Nat) : Int) dX6_sit_93 rfl (by omega) (by rw [hKn]; decide) rfl ?_
                show Ev K 96 [some (.ref 29), some (vi ((p0 : Nat) : Int)), some (vi ((p1 : Nat) : Int)), some (vi x2), some (vi (bnd ((p1 : Nat) : Int) 0 20)), some (vi b), some (vi w), some (vi ((i + 1 : Nat) : Int)), some (vi ((goN 0 p1 (setR A 3 p0 i) 4 p0 : Nat) : Int))] [] X70
                refine ev_goto (pc := 96) hC 58 dX6_sit_96 (by decide) ?_
                refine ev_drop 8 ?_
                show Ev K 58 [some (.ref 29), some (vi ((p0 : Nat) : Int)), some (vi ((p1 : Nat) : Int)), some (vi x2), some (vi (bnd ((p1 : Nat) : Int) 0 20)), some (vi b), some (vi w), some (vi ((i + 1 : Nat) : Int)), none] [] X70
                exact ih58 (i + 1) b w X70 (by omega) (by omega) (Or.inr (sit_f (f := (sitF p0 p1 A)) hsr.1 hs (by omega))) (by omega) hA70 hg70 hFr70
        exact lp58 _ 0 0 (-9) X (Nat.lt_succ_self _) (by omega) (Or.inl ⟨rfl, rfl, rfl⟩) (by omega) hA hg (frT_rf 1 X)
      · refine ev_aload_n (pc := 41) hC dX6_sit_41 rfl ?_
        refine ev_iload (pc := 42) hC dX6_sit_42 rfl ?_
        refine ev_callV (pc := 44) (as := [vi (bnd x1 0 20)]) (rest := []) hC gX6_sit_X6_no mtX6_no dX6_sit_44 (ru_X6_no2 (bnd x1 0 20) (by omega)) (by decide) (by decide) (by decide) rfl (by rfl) (Nat.le_of_ble_eq_true rfl) rfl (fun v44 X44 h44 => ?_)
        obtain ⟨rfl, rfl⟩ := h44
        show Ev K 47 [some (.ref 29), some (vi x0), some (vi x1), some (vi x2), some (vi (bnd x1 0 20)), none, none, none, none] [vi (bnd x1 0 20)] (mset X 30 (-(bnd x1 0 20)).toNat (X 30 (-(bnd x1 0 20)).toNat + 1))
        exact ev_ireturn (pc := 47) hC hR dX6_sit_47 (no_endM (show f3 (cdP A x0) (bnd x1 0 20) (cdO x2 2) = (bnd x1 0 20) by omega) (by omega) hI)
    · refine ev_iload_n (pc := 23) hC dX6_sit_23 rfl ?_
      refine ev_iconst (pc := 24) hC dX6_sit_24 ?_
      refine ev_iconst (pc := 25) hC dX6_sit_25 ?_
      refine ev_callS (pc := 26) (as := [vi x2, vi 0, vi 1]) (rest := []) hC gX6_sit_X6_isIn mtX6_isIn dX6_sit_26 (ru_X6_isIn x2 0 1 (by omega) (by omega) (by omega)) (by decide) (by rfl) (Nat.le_of_ble_eq_true rfl) rfl (fun v26 X26 h26 => ?_)
      obtain ⟨rfl, rfl⟩ := h26
      show Ev K 29 [some (.ref 29), some (vi x0), some (vi x1), some (vi x2), some (vi (bnd x1 0 20)), none, none, none, none] [vi (b2i (decide (0 ≤ x2 ∧ x2 ≤ 1)))] X
      have hr26 := b2i_r (decide (0 ≤ x2 ∧ x2 ≤ 1))
      refine ev_if_ne (pc := 29) hC 36 dX6_sit_29 (by decide) (by omega) (fun c29 => ?_) (fun c29 => ?_)
      · have e29 := of_decide_eq_true (b2i_1 c29)
        refine ev_iload (pc := 36) hC dX6_sit_36 rfl ?_
        refine ev_if_eq (pc := 38) hC 48 dX6_sit_38 (by decide) (by omega) (fun c38 => ?_) (fun c38 => ?_)
        · obtain ⟨p0, rfl⟩ : ∃ k : Nat, x0 = (k : Int) := ⟨x0.toNat, by omega⟩
          obtain ⟨p1, rfl⟩ : ∃ k : Nat, x1 = (k : Int) := ⟨x1.toNat, by omega⟩
          refine ev_iconst (pc := 48) hC dX6_sit_48 ?_
          refine ev_istore (pc := 49) hC dX6_sit_49 (by rw [hKn]; decide) rfl ?_
          show Ev K 51 [some (.ref 29), some (vi ((p0 : Nat) : Int)), some (vi ((p1 : Nat) : Int)), some (vi x2), some (vi (bnd ((p1 : Nat) : Int) 0 20)), some (vi 0), none, none, none] [] X
          refine ev_bipush (pc := 51) hC dX6_sit_51 (by decide) ?_
          refine ev_istore (pc := 53) hC dX6_sit_53 (by rw [hKn]; decide) rfl ?_
          show Ev K 55 [some (.ref 29), some (vi ((p0 : Nat) : Int)), some (vi ((p1 : Nat) : Int)), some (vi x2), some (vi (bnd ((p1 : Nat) : Int) 0 20)), some (vi 0), some (vi (-9)), none, none] [] X
          refine ev_iconst (pc := 55) hC dX6_sit_55 ?_
          refine ev_istore (pc := 56) hC dX6_sit_56 (by rw [hKn]; decide) rfl ?_
          show Ev K 58 [some (.ref 29), some (vi ((p0 : Nat) : Int)), some (vi ((p1 : Nat) : Int)), some (vi x2), some (vi (bnd ((p1 : Nat) : Int) 0 20)), some (vi 0), some (vi (-9)), some (vi 0), none] [] X
          have lp58 : ∀ (fz : Nat) (i : Nat) (b : Int) (w : Int) (Y : Mem), 25 - i < fz → (i ≤ 25) → ((i = 0 ∧ b = 0 ∧ w = -9) ∨ (1 ≤ i ∧ b = (mxr (sitF p0 p1 A) 0 (-1) i).1 ∧ w = (mxr (sitF p0 p1 A) 0 (-1) i).2)) → (-9 ≤ w ∧ w ≤ 9) → (Rp (vM Y) A) → (Y 29 8 = zI ((0 : Nat) : Int)) → (frT 1 X Y) → Ev K 58 [some (.ref 29), some (vi ((p0 : Nat) : Int)), some (vi ((p1 : Nat) : Int)), some (vi x2), some (vi (bnd ((p1 : Nat) : Int) 0 20)), some (vi b), some (vi w), some (vi ((i : Nat) : Int)), none] [] Y := by
            intro fz
            induction fz with
            | zero => intro i b w Y hfz; exact absurd hfz (Nat.not_lt_zero _)
            | succ fz ih58 =>
              intro i b w Y hfz hi hs hwl hAY hgY hFY
              have hY8 := hAY.n8
              refine ev_iload (pc := 58) hC dX6_sit_58 rfl ?_
              refine ev_bipush (pc := 60) hC dX6_sit_60 (by decide) ?_
              refine ev_icmp_ge (pc := 62) hC 99 dX6_sit_62 (by decide) (by omega) (by omega) (fun c62 => ?_) (fun c62 => ?_)
              · refine ev_iload_n (pc := 99) hC dX6_sit_99 rfl ?_
                refine ev_if_ne (pc := 100) hC 108 dX6_sit_100 (by decide) (by omega) (fun c100 => ?_) (fun c100 => ?_)
                · refine ev_iload (pc := 108) hC dX6_sit_108 rfl ?_
                  exact ev_ireturn (pc := 110) hC hR dX6_sit_110 (ok_endM (show f3 (cdP A ((p0 : Nat) : Int)) (bnd ((p1 : Nat) : Int) 0 20) (cdO x2 2) = 0 by omega) (by obtain ⟨h1, h2, h3⟩ := hs.resolve_left (fun z => absurd z.1 (by omega)); have hie : i = 25 := (by omega); subst hie; rw [if_neg c100, h3]; exact (mxr_val (f := (sitF p0 p1 A)) (fun k hk => (sitF_r (n := p1) hA.ok (show p0 < A 5 0 by omega) hk).1) 24 (by omega)).2) (mI_put hI hAY hyA hFY) (frM_T hFY))
                · refine ev_iload (pc := 103) hC dX6_sit_103 rfl ?_
                  refine ev_goto (pc := 105) hC 110 dX6_sit_105 (by decide) ?_
                  exact ev_ireturn (pc := 110) hC hR dX6_sit_110 (ok_endM (show f3 (cdP A ((p0 : Nat) : Int)) (bnd ((p1 : Nat) : Int) 0 20) (cdO x2 2) = 0 by omega) (by obtain ⟨h1, h2, h3⟩ := hs.resolve_left (fun z => absurd z.1 (by omega)); have hie : i = 25 := (by omega); subst hie; rw [if_pos c100]; exact h2) (mI_put hI hAY hyA hFY) (frM_T hFY))
              · have hsr := sitF_r (n := p1) hA.ok (show p0 < A 5 0 by omega) (show i < 25 by omega)
                have hse : sitF p0 p1 A i = ((goN 0 p1 (setR A 3 p0 i) 4 p0 : Nat) : Int) := rfl
                refine ev_aload_n (pc := 65) hC dX6_sit_65 rfl ?_
                refine ev_iload_n (pc := 66) hC dX6_sit_66 rfl ?_
                refine ev_iload (pc := 67) hC dX6_sit_67 rfl ?_
                refine ev_iload_n (pc := 69) hC dX6_sit_69 rfl ?_
                refine ev_callV (pc := 70) (as := [vi ((p0 : Nat) : Int), vi ((i : Nat) : Int), vi ((p1 : Nat) : Int)]) (rest := []) hC gX6_sit_X6_beliefFrom mtX6_beliefFrom dX6_sit_70 (ru_X6_beliefFrom hAY hgY hG p0 i p1 (by omega) (by omega) (by omega)) (by decide) (by decide) (by decide) rfl (by rfl) (Nat.le_of_ble_eq_true rfl) rfl (fun v70 X70 h70 => ?_)
                obtain ⟨rfl, hA70, hF70⟩ := h70
                show Ev K 73 [some (.ref 29), some (vi ((p0 : Nat) : Int)), some (vi ((p1 : Nat) : Int)), some (vi x2), some (vi (bnd ((p1 : Nat) : Int) 0 20)), some (vi b), some (vi w), some (vi ((i : Nat) : Int)), none] [vi ((goN 0 p1 (setR A 3 p0 i) 4 p0 : Nat) : Int)] X70
                have hg70 := frT_gone hF70 hgY
                have hFr70 := frT_tr hFY hF70 (by omega)
                have hn8_70 := hA70.n8
                refine ev_istore (pc := 73) hC dX6_sit_73 (by rw [hKn]; decide) rfl ?_
                show Ev K 75 [some (.ref 29), some (vi ((p0 : Nat) : Int)), some (vi ((p1 : Nat) : Int)), some (vi x2), some (vi (bnd ((p1 : Nat) : Int) 0 20)), some (vi b), some (vi w), some (vi ((i : Nat) : Int)), some (vi ((goN 0 p1 (setR A 3 p0 i) 4 p0 : Nat) : Int))] [] X70
                refine ev_iload (pc := 75) hC dX6_sit_75 rfl ?_
                refine ev_iload (pc := 77) hC dX6_sit_77 rfl ?_
                refine ev_icmp_gt (pc := 79) hC 85 dX6_sit_79 (by decide) (by omega) (by omega) (fun c79 => ?_) (fun c79 => ?_)
                · refine ev_iload (pc := 85) hC dX6_sit_85 rfl ?_
                  refine ev_istore (pc := 87) hC dX6_sit_87 (by rw [hKn]; decide) rfl ?_
                  show Ev K 89 [some (.ref 29), some (vi ((p0 : Nat) : Int)), some (vi ((p1 : Nat) : Int)), some (vi x2), some (vi (bnd ((p1 : Nat) : Int) 0 20)), some (vi ((i : Nat) : Int)), some (vi w), some (vi ((i : Nat) : Int)), some (vi ((goN 0 p1 (setR A 3 p0 i) 4 p0 : Nat) : Int))] [] X70
                  refine ev_iload (pc := 89) hC dX6_sit_89 rfl ?_
                  refine ev_istore (pc := 91) hC dX6_sit_91 (by rw [hKn]; decide) rfl ?_
                  show Ev K 93 [some (.ref 29), some (vi ((p0 : Nat) : Int)), some (vi ((p1 : Nat) : Int)), some (vi x2), some (vi (bnd ((p1 : Nat) : Int) 0 20)), some (vi ((i : Nat) : Int)), some (vi ((goN 0 p1 (setR A 3 p0 i) 4 p0 : Nat) : Int)), some (vi ((i : Nat) : Int)), some (vi ((goN 0 p1 (setR A 3 p0 i) 4 p0 : Nat) : Int))] [] X70
                  refine ev_iinc (pc := 93) hC ((i + 1 : Nat) : Int) dX6_sit_93 rfl (by omega) (by rw [hKn]; decide) rfl ?_
                  show Ev K 96 [some (.ref 29), some (vi ((p0 : Nat) : Int)), some (vi ((p1 : Nat) : Int)), some (vi x2), some (vi (bnd ((p1 : Nat) : Int) 0 20)), some (vi ((i : Nat) : Int)), some (vi ((goN 0 p1 (setR A 3 p0 i) 4 p0 : Nat) : Int)), some (vi ((i + 1 : Nat) : Int)), some (vi ((goN 0 p1 (setR A 3 p0 i) 4 p0 : Nat) : Int))] [] X70
                  refine ev_goto (pc := 96) hC 58 dX6_sit_96 (by decide) ?_
                  refine ev_drop 8 ?_
                  show Ev K 58 [some (.ref 29), some (vi ((p0 : Nat) : Int)), some (vi ((p1 : Nat) : Int)), some (vi x2), some (vi (bnd ((p1 : Nat) : Int) 0 20)), some (vi ((i : Nat) : Int)), some (vi ((goN 0 p1 (setR A 3 p0 i) 4 p0 : Nat) : Int)), some (vi ((i + 1 : Nat) : Int)), none] [] X70
                  exact ih58 (i + 1) ((i : Nat) : Int) ((goN 0 p1 (setR A 3 p0 i) 4 p0 : Nat) : Int) X70 (by omega) (by omega) (Or.inr (sit_t (f := (sitF p0 p1 A)) hsr.1 hs (by omega))) (by omega) hA70 hg70 hFr70
                · refine ev_goto (pc := 82) hC 93 dX6_sit_82 (by decide) ?_
                  refine ev_iinc (pc := 93) hC ((i + 1 : Nat) : Int) dX6_sit_93 rfl (by omega) (by rw [hKn]; decide) rfl ?_
                  show Ev K 96 [some (.ref 29), some (vi ((p0 : Nat) : Int)), some (vi ((p1 : Nat) : Int)), some (vi x2), some (vi (bnd ((p1 : Nat) : Int) 0 20)), some (vi b), some (vi w), some (vi ((i + 1 : Nat) : Int)), some (vi ((goN 0 p1 (setR A 3 p0 i) 4 p0 : Nat) : Int))] [] X70
                  refine ev_goto (pc := 96) hC 58 dX6_sit_96 (by decide) ?_
                  refine ev_drop 8 ?_
                  show Ev K 58 [some (.ref 29), some (vi ((p0 : Nat) : Int)), some (vi ((p1 : Nat) : Int)), some (vi x2), some (vi (bnd ((p1 : Nat) : Int) 0 20)), some (vi b), some (vi w), some (vi ((i + 1 : Nat) : Int)), none] [] X70
                  exact ih58 (i + 1) b w X70 (by omega) (by omega) (Or.inr (sit_f (f := (sitF p0 p1 A)) hsr.1 hs (by omega))) (by omega) hA70 hg70 hFr70
          exact lp58 _ 0 0 (-9) X (Nat.lt_succ_self _) (by omega) (Or.inl ⟨rfl, rfl, rfl⟩) (by omega) hA hg (frT_rf 1 X)
        · refine ev_aload_n (pc := 41) hC dX6_sit_41 rfl ?_
          refine ev_iload (pc := 42) hC dX6_sit_42 rfl ?_
          refine ev_callV (pc := 44) (as := [vi (bnd x1 0 20)]) (rest := []) hC gX6_sit_X6_no mtX6_no dX6_sit_44 (ru_X6_no2 (bnd x1 0 20) (by omega)) (by decide) (by decide) (by decide) rfl (by rfl) (Nat.le_of_ble_eq_true rfl) rfl (fun v44 X44 h44 => ?_)
          obtain ⟨rfl, rfl⟩ := h44
          show Ev K 47 [some (.ref 29), some (vi x0), some (vi x1), some (vi x2), some (vi (bnd x1 0 20)), none, none, none, none] [vi (bnd x1 0 20)] (mset X 30 (-(bnd x1 0 20)).toNat (X 30 (-(bnd x1 0 20)).toNat + 1))
          exact ev_ireturn (pc := 47) hC hR dX6_sit_47 (no_endM (show f3 (cdP A x0) (bnd x1 0 20) (cdO x2 2) = (bnd x1 0 20) by omega) (by omega) hI)
      · have e29 := of_decide_eq_false (b2i_0 c29)
        refine ev_bipush (pc := 32) hC dX6_sit_32 (by decide) ?_
        refine ev_istore (pc := 34) hC dX6_sit_34 (by rw [hKn]; decide) rfl ?_
        show Ev K 36 [some (.ref 29), some (vi x0), some (vi x1), some (vi x2), some (vi (-2)), none, none, none, none] [] X
        refine ev_iload (pc := 36) hC dX6_sit_36 rfl ?_
        refine ev_if_eq (pc := 38) hC 48 dX6_sit_38 (by decide) (by omega) (fun c38 => absurd c38 (by decide)) (fun c38 => ?_)
        refine ev_aload_n (pc := 41) hC dX6_sit_41 rfl ?_
        refine ev_iload (pc := 42) hC dX6_sit_42 rfl ?_
        refine ev_callV (pc := 44) (as := [vi (-2)]) (rest := []) hC gX6_sit_X6_no mtX6_no dX6_sit_44 (ru_X6_no2 (-2) (by omega)) (by decide) (by decide) (by decide) rfl (by rfl) (Nat.le_of_ble_eq_true rfl) rfl (fun v44 X44 h44 => ?_)
        obtain ⟨rfl, rfl⟩ := h44
        show Ev K 47 [some (.ref 29), some (vi x0), some (vi x1), some (vi x2), some (vi (-2)), none, none, none, none] [vi (-2)] (mset X 30 (-(-2)).toNat (X 30 (-(-2)).toNat + 1))
        exact ev_ireturn (pc := 47) hC hR dX6_sit_47 (no_endM (show f3 (cdP A x0) (bnd x1 0 20) (cdO x2 2) = (-2) by omega) (by omega) hI)
  · have e5 := of_decide_eq_false (b2i_0 c5)
    refine ev_iconst (pc := 8) hC dX6_sit_8 ?_
    refine ev_goto (pc := 9) hC 16 dX6_sit_9 (by decide) ?_
    refine ev_istore (pc := 16) hC dX6_sit_16 (by rw [hKn]; decide) rfl ?_
    show Ev K 18 [some (.ref 29), some (vi x0), some (vi x1), some (vi x2), some (vi (-1)), none, none, none, none] [] X
    refine ev_iload (pc := 18) hC dX6_sit_18 rfl ?_
    refine ev_if_ne (pc := 20) hC 36 dX6_sit_20 (by decide) (by omega) (fun c20 => ?_) (fun c20 => absurd c20 (by decide))
    refine ev_iload (pc := 36) hC dX6_sit_36 rfl ?_
    refine ev_if_eq (pc := 38) hC 48 dX6_sit_38 (by decide) (by omega) (fun c38 => absurd c38 (by decide)) (fun c38 => ?_)
    refine ev_aload_n (pc := 41) hC dX6_sit_41 rfl ?_
    refine ev_iload (pc := 42) hC dX6_sit_42 rfl ?_
    refine ev_callV (pc := 44) (as := [vi (-1)]) (rest := []) hC gX6_sit_X6_no mtX6_no dX6_sit_44 (ru_X6_no2 (-1) (by omega)) (by decide) (by decide) (by decide) rfl (by rfl) (Nat.le_of_ble_eq_true rfl) rfl (fun v44 X44 h44 => ?_)
    obtain ⟨rfl, rfl⟩ := h44
    show Ev K 47 [some (.ref 29), some (vi x0), some (vi x1), some (vi x2), some (vi (-1)), none, none, none, none] [vi (-1)] (mset X 30 (-(-1)).toNat (X 30 (-(-1)).toNat + 1))
    exact ev_ireturn (pc := 47) hC hR dX6_sit_47 (no_endM (show f3 (cdP A x0) (bnd x1 0 20) (cdO x2 2) = (-1) by omega) (by omega) hI)
theorem mtX6_doubt : MT yX6_doubt wsX6_doubt cX6_doubt 8 (some .int) 1 := ⟨⟨_, rfl⟩, by decide, by decide, by decide +kernel⟩
set_option maxRecDepth 100000 in
set_option maxHeartbeats 4000000 in
theorem ru_X6_doubt {X : Mem} {V : St} (hV : mI X V) (x0 : Int) (hx0 : -2147483648 ≤ x0 ∧ x0 ≤ 2147483647) : Ru yX6_doubt wsX6_doubt 10 221 [.ref 29, vi x0] X (fun v X' => v = some (vi (sp18 x0 V).1) ∧ mI X' (sp18 x0 V).2 ∧ frM X X') := by
  refine ru_of (w2 := _) rfl (by decide) [some (.ref 29), some (vi x0), none, none, none, none, none, none] (fun _ => rfl) (fun _ => Nat.le_of_ble_eq_true rfl) ?_
  intro K hKn hC hR
  have wX6 : ∀ w ∈ u_ws RX6 TX6 25, w ∈ wsX6_doubt := by decide +kernel
  have f52 : Fl K RX6 52 6 6 := fl_of hC RX6 TX6 25 rfl (by decide) wX6 (show Cond.fieldLink RX6 52 "PicnicOfSomebodyModel" "people" "I" ∈ _ by decide +kernel)
  have f16 : Fl K RX6 16 6 2 := fl_of hC RX6 TX6 25 rfl (by decide) wX6 (show Cond.fieldLink RX6 16 "PicnicOfSomebodyModel" "kind" "[I" ∈ _ by decide +kernel)
  obtain ⟨A, B, hh, T, n, W, rs, C⟩ := V
  have hA : Rp (vM X) A := hV.1
  have hyA : A 5 1 ≤ 999 := hV.2.1
  have hB : hh = true → Rp (vK X 0) B ∧ B 5 1 ≤ 999 := hV.2.2.1
  have hi : X 29 17 = zI (b2i hh) := hV.2.2.2.1
  have hg : X 29 8 = zI ((0 : Nat) : Int) := hV.2.2.2.2.1
  have hT : TxM X T n := hV.2.2.2.2.2.1
  have hW : RwM X W rs := hV.2.2.2.2.2.2.1
  have hCn : ∀ k, k < 7 → X 30 k = zI (C k : Nat) := hV.2.2.2.2.2.2.2
  have hn8 := hA.n8
  have hn96 := hT.2.1
  have hrs := hW.2.1
  have hG : 0 < 256 := by decide
  have hI : mI X (A, B, hh, T, n, W, rs, C) := hV
  have hq1 := bnd_cases x0 0 60
  refine ev_iload_n (pc := 0) hC dX6_doubt_0 rfl ?_
  refine ev_callS (pc := 1) (as := [vi x0]) (rest := []) hC gX6_doubt_X6_notYears mtX6_notYears dX6_doubt_1 (ru_X6_notYears x0 (by omega)) (by decide) (by rfl) (Nat.le_of_ble_eq_true rfl) rfl (fun v1 X1 h1 => ?_)
  obtain ⟨rfl, rfl⟩ := h1
  show Ev K 4 [some (.ref 29), some (vi x0), none, none, none, none, none, none] [vi (bnd x0 0 60)] X
  have hbd1 := bnd_cases x0 0 60
  refine ev_istore_n (pc := 4) hC dX6_doubt_4 (by rw [hKn]; decide) rfl ?_
  show Ev K 5 [some (.ref 29), some (vi x0), some (vi (bnd x0 0 60)), none, none, none, none, none] [] X
  refine ev_iload_n (pc := 5) hC dX6_doubt_5 rfl ?_
  refine ev_if_eq (pc := 6) hC 15 dX6_doubt_6 (by decide) (by omega) (fun c6 => ?_) (fun c6 => ?_)
  · obtain ⟨p0, rfl⟩ : ∃ k : Nat, x0 = (k : Int) := ⟨x0.toNat, by omega⟩
    refine ev_bipush (pc := 15) hC dX6_doubt_15 (by decide) ?_
    refine ev_istore_n (pc := 17) hC dX6_doubt_17 (by rw [hKn]; decide) rfl ?_
    show Ev K 18 [some (.ref 29), some (vi ((p0 : Nat) : Int)), some (vi (bnd ((p0 : Nat) : Int) 0 60)), some (vi (-9)), none, none, none, none] [] X
    refine ev_bipush (pc := 18) hC dX6_doubt_18 (by decide) ?_
    refine ev_istore (pc := 20) hC dX6_doubt_20 (by rw [hKn]; decide) rfl ?_
    show Ev K 22 [some (.ref 29), some (vi ((p0 : Nat) : Int)), some (vi (bnd ((p0 : Nat) : Int) 0 60)), some (vi (-9)), some (vi 9), none, none, none] [] X
    refine ev_iconst (pc := 22) hC dX6_doubt_22 ?_
    refine ev_istore (pc := 23) hC dX6_doubt_23 (by rw [hKn]; decide) rfl ?_
    show Ev K 25 [some (.ref 29), some (vi ((p0 : Nat) : Int)), some (vi (bnd ((p0 : Nat) : Int) 0 60)), some (vi (-9)), some (vi 9), some (vi 0), none, none] [] X
    have lp25 : ∀ (fz : Nat) (i : Nat) (b : Int) (w : Nat) (Y : Mem), A 5 0 - i < fz → (i ≤ A 5 0) → (b = (mnr (dbtF p0 A) 9 i).1) → ((w : Int) = (mnr (dbtF p0 A) 9 i).2) → (w ≤ 31) → (Rp (vM Y) A) → (Y 29 8 = zI ((0 : Nat) : Int)) → (frT 1 X Y) → Ev K 25 [some (.ref 29), some (vi ((p0 : Nat) : Int)), some (vi (bnd ((p0 : Nat) : Int) 0 60)), some (vi b), some (vi ((w : Nat) : Int)), some (vi ((i : Nat) : Int)), none, none] [] Y := by
      intro fz
      induction fz with
      | zero => intro i b w Y hfz; exact absurd hfz (Nat.not_lt_zero _)
      | succ fz ih25 =>
        intro i b w Y hfz hi hb hw hwl hAY hgY hFY
        have hY8 := hAY.n8
        refine ev_iload (pc := 25) hC dX6_doubt_25 rfl ?_
        refine ev_aload_n (pc := 27) hC dX6_doubt_27 rfl ?_
        refine ev_geti (pc := 28) hC ((A 5 0 : Nat) : Int) f52 dX6_doubt_28 (by decide) (by decide) (by decide) (by decide) (by decide)  (hAY.mn) ?_
        refine ev_icmp_ge (pc := 31) hC 93 dX6_doubt_31 (by decide) (by omega) (by omega) (fun c31 => ?_) (fun c31 => ?_)
        · refine ev_iload_n (pc := 93) hC dX6_doubt_93 rfl ?_
          exact ev_ireturn (pc := 94) hC hR dX6_doubt_94 (ok_endM (show bnd ((p0 : Nat) : Int) 0 60 = 0 by omega) (by rw [hb, show i = A 5 0 by omega]; first | done | rfl) (mI_put hI hAY hyA hFY) (frM_T hFY))
        · refine ev_aload_n (pc := 34) hC dX6_doubt_34 rfl ?_
          refine ev_getr (pc := 35) hC 32 f16 dX6_doubt_35 (by decide) (by decide) (by decide) (by decide) (by decide) ?_
          refine ev_iload (pc := 38) hC dX6_doubt_38 rfl ?_
          have hb40 := hAY.k5 i (by omega)
          refine ev_iald (pc := 40) hC i ((A 1 i : Nat) : Int) (by decide) (by decide) (rfl) (by have := (show alen 32 = 8 from rfl); omega) (hAY.m1 i (by omega)) dX6_doubt_40 ?_
          refine ev_istore (pc := 41) hC dX6_doubt_41 (by rw [hKn]; decide) rfl ?_
          show Ev K 43 [some (.ref 29), some (vi ((p0 : Nat) : Int)), some (vi (bnd ((p0 : Nat) : Int) 0 60)), some (vi b), some (vi ((w : Nat) : Int)), some (vi ((i : Nat) : Int)), some (vi ((A 1 i : Nat) : Int)), none] [] Y
          refine ev_aload_n (pc := 43) hC dX6_doubt_43 rfl ?_
          refine ev_getr (pc := 44) hC 32 f16 dX6_doubt_44 (by decide) (by decide) (by decide) (by decide) (by decide) ?_
          refine ev_iload (pc := 47) hC dX6_doubt_47 rfl ?_
          refine ev_iconst (pc := 49) hC dX6_doubt_49 ?_
          refine ev_iast (pc := 50) hC i (by decide) (by decide) (rfl) (by have := (show alen 32 = 8 from rfl); omega) dX6_doubt_50 ?_
          have hA50 : Rp (vM (mset Y 32 i (zI 3))) (setR A 1 i 3) := Rp.setM1 (v := 3) hAY (by omega)
          have hg50 : (mset Y 32 i (zI 3)) 29 8 = zI ((0 : Nat) : Int) := by rw [mset_row (by omega)]; exact hgY
          have hFr50 : frT 1 X (mset Y 32 i (zI 3)) := frT_set (r := 1) hFY (by omega)
          refine ev_aload_n (pc := 51) hC dX6_doubt_51 rfl ?_
          refine ev_iload_n (pc := 52) hC dX6_doubt_52 rfl ?_
          refine ev_callV (pc := 53) (as := [vi ((p0 : Nat) : Int)]) (rest := []) hC gX6_doubt_X6_believersIn mtX6_believersIn dX6_doubt_53 (ru_X6_believersIn hA50 hg50 hG p0 (by omega)) (by decide) (by decide) (by decide) rfl (by rfl) (Nat.le_of_ble_eq_true rfl) rfl (fun v53 X53 h53 => ?_)
          obtain ⟨rfl, hA53, hF53⟩ := h53
          show Ev K 56 [some (.ref 29), some (vi ((p0 : Nat) : Int)), some (vi (bnd ((p0 : Nat) : Int) 0 60)), some (vi b), some (vi ((w : Nat) : Int)), some (vi ((i : Nat) : Int)), some (vi ((A 1 i : Nat) : Int)), none] [vi ((bset 0 (goN 0 p0 (setR A 1 i 3)) : Nat) : Int)] X53
          have hgn53 := goN_n 0 (setR A 1 i 3) p0
          have hbl53 : bset 0 (goN 0 p0 (setR A 1 i 3)) < 256 := bset_lt (by rw [hgn53]; exact hA50.n8)
          have hg53 := frT_gone hF53 hg50
          have hFr53 := frT_tr hFr50 hF53 (by omega)
          have hn8_53 := hA53.n8
          refine ev_callS (pc := 56) (as := [vi ((bset 0 (goN 0 p0 (setR A 1 i 3)) : Nat) : Int)]) (rest := []) hC gX6_doubt_X6_bits mtX6_bits dX6_doubt_56 (ru_X6_bits (bset 0 (goN 0 p0 (setR A 1 i 3))) (by omega)) (by decide) (by rfl) (Nat.le_of_ble_eq_true rfl) rfl (fun v56 X56 h56 => ?_)
          obtain ⟨rfl, rfl⟩ := h56
          show Ev K 59 [some (.ref 29), some (vi ((p0 : Nat) : Int)), some (vi (bnd ((p0 : Nat) : Int) 0 60)), some (vi b), some (vi ((w : Nat) : Int)), some (vi ((i : Nat) : Int)), some (vi ((A 1 i : Nat) : Int)), none] [vi ((pop (bset 0 (goN 0 p0 (setR A 1 i 3))) : Nat) : Int)] X53
          have hp56 := pop_le (bset 0 (goN 0 p0 (setR A 1 i 3)))
          have hmn : ((pop (bset 0 (goN 0 p0 (setR A 1 i 3))) : Nat) : Int) = dbtF p0 A i := by rw [pop_bset (by rw [goN_n]; exact hn8)]; rfl
          refine ev_istore (pc := 59) hC dX6_doubt_59 (by rw [hKn]; decide) rfl ?_
          show Ev K 61 [some (.ref 29), some (vi ((p0 : Nat) : Int)), some (vi (bnd ((p0 : Nat) : Int) 0 60)), some (vi b), some (vi ((w : Nat) : Int)), some (vi ((i : Nat) : Int)), some (vi ((A 1 i : Nat) : Int)), some (vi ((pop (bset 0 (goN 0 p0 (setR A 1 i 3))) : Nat) : Int))] [] X53
          refine ev_aload_n (pc := 61) hC dX6_doubt_61 rfl ?_
          refine ev_getr (pc := 62) hC 32 f16 dX6_doubt_62 (by decide) (by decide) (by decide) (by decide) (by decide) ?_
          refine ev_iload (pc := 65) hC dX6_doubt_65 rfl ?_
          refine ev_iload (pc := 67) hC dX6_doubt_67 rfl ?_
          refine ev_iast (pc := 69) hC i (by decide) (by decide) (rfl) (by have := (show alen 32 = 8 from rfl); omega) dX6_doubt_69 ?_
          have hA69 : Rp (vM (mset X53 32 i (zI ((A 1 i : Nat) : Int)))) (setR (setR A 1 i 3) 1 i (A 1 i)) := Rp.setM1 (v := A 1 i) hA53 (by omega)
          have hg69 : (mset X53 32 i (zI ((A 1 i : Nat) : Int))) 29 8 = zI ((0 : Nat) : Int) := by rw [mset_row (by omega)]; exact hg53
          have hFr69 : frT 1 X (mset X53 32 i (zI ((A 1 i : Nat) : Int))) := frT_set (r := 1) hFr53 (by omega)
          refine ev_iload (pc := 70) hC dX6_doubt_70 rfl ?_
          refine ev_iload (pc := 72) hC dX6_doubt_72 rfl ?_
          refine ev_icmp_lt (pc := 74) hC 80 dX6_doubt_74 (by decide) (by omega) (by omega) (fun c74 => ?_) (fun c74 => ?_)
          · have hgt : dbtF p0 A i < (mnr (dbtF p0 A) 9 i).2 := by rw [← hw, ← hmn]; omega
            refine ev_iload (pc := 80) hC dX6_doubt_80 rfl ?_
            refine ev_istore_n (pc := 82) hC dX6_doubt_82 (by rw [hKn]; decide) rfl ?_
            show Ev K 83 [some (.ref 29), some (vi ((p0 : Nat) : Int)), some (vi (bnd ((p0 : Nat) : Int) 0 60)), some (vi ((i : Nat) : Int)), some (vi ((w : Nat) : Int)), some (vi ((i : Nat) : Int)), some (vi ((A 1 i : Nat) : Int)), some (vi ((pop (bset 0 (goN 0 p0 (setR A 1 i 3))) : Nat) : Int))] [] (mset X53 32 i (zI ((A 1 i : Nat) : Int)))
            refine ev_iload (pc := 83) hC dX6_doubt_83 rfl ?_
            refine ev_istore (pc := 85) hC dX6_doubt_85 (by rw [hKn]; decide) rfl ?_
            show Ev K 87 [some (.ref 29), some (vi ((p0 : Nat) : Int)), some (vi (bnd ((p0 : Nat) : Int) 0 60)), some (vi ((i : Nat) : Int)), some (vi ((pop (bset 0 (goN 0 p0 (setR A 1 i 3))) : Nat) : Int)), some (vi ((i : Nat) : Int)), some (vi ((A 1 i : Nat) : Int)), some (vi ((pop (bset 0 (goN 0 p0 (setR A 1 i 3))) : Nat) : Int))] [] (mset X53 32 i (zI ((A 1 i : Nat) : Int)))
            refine ev_iinc (pc := 87) hC ((i + 1 : Nat) : Int) dX6_doubt_87 rfl (by omega) (by rw [hKn]; decide) rfl ?_
            show Ev K 90 [some (.ref 29), some (vi ((p0 : Nat) : Int)), some (vi (bnd ((p0 : Nat) : Int) 0 60)), some (vi ((i : Nat) : Int)), some (vi ((pop (bset 0 (goN 0 p0 (setR A 1 i 3))) : Nat) : Int)), some (vi ((i + 1 : Nat) : Int)), some (vi ((A 1 i : Nat) : Int)), some (vi ((pop (bset 0 (goN 0 p0 (setR A 1 i 3))) : Nat) : Int))] [] (mset X53 32 i (zI ((A 1 i : Nat) : Int)))
            refine ev_goto (pc := 90) hC 25 dX6_doubt_90 (by decide) ?_
            refine ev_drop 6 ?_
            refine ev_drop 7 ?_
            show Ev K 25 [some (.ref 29), some (vi ((p0 : Nat) : Int)), some (vi (bnd ((p0 : Nat) : Int) 0 60)), some (vi ((i : Nat) : Int)), some (vi ((pop (bset 0 (goN 0 p0 (setR A 1 i 3))) : Nat) : Int)), some (vi ((i + 1 : Nat) : Int)), none, none] [] (mset X53 32 i (zI ((A 1 i : Nat) : Int)))
            exact ih25 (i + 1) ((i : Nat) : Int) (pop (bset 0 (goN 0 p0 (setR A 1 i 3)))) (mset X53 32 i (zI ((A 1 i : Nat) : Int))) (by omega) (by omega) (by rw [mnr_t hgt]) (by rw [mnr_t hgt]; exact hmn) (by omega) (by have z := hA69; rw [setR_back] at z; exact z) hg69 hFr69
          · have hgt : ¬ dbtF p0 A i < (mnr (dbtF p0 A) 9 i).2 := by rw [← hw, ← hmn]; omega
            refine ev_goto (pc := 77) hC 87 dX6_doubt_77 (by decide) ?_
            refine ev_iinc (pc := 87) hC ((i + 1 : Nat) : Int) dX6_doubt_87 rfl (by omega) (by rw [hKn]; decide) rfl ?_
            show Ev K 90 [some (.ref 29), some (vi ((p0 : Nat) : Int)), some (vi (bnd ((p0 : Nat) : Int) 0 60)), some (vi b), some (vi ((w : Nat) : Int)), some (vi ((i + 1 : Nat) : Int)), some (vi ((A 1 i : Nat) : Int)), some (vi ((pop (bset 0 (goN 0 p0 (setR A 1 i 3))) : Nat) : Int))] [] (mset X53 32 i (zI ((A 1 i : Nat) : Int)))
            refine ev_goto (pc := 90) hC 25 dX6_doubt_90 (by decide) ?_
            refine ev_drop 6 ?_
            refine ev_drop 7 ?_
            show Ev K 25 [some (.ref 29), some (vi ((p0 : Nat) : Int)), some (vi (bnd ((p0 : Nat) : Int) 0 60)), some (vi b), some (vi ((w : Nat) : Int)), some (vi ((i + 1 : Nat) : Int)), none, none] [] (mset X53 32 i (zI ((A 1 i : Nat) : Int)))
            exact ih25 (i + 1) b w (mset X53 32 i (zI ((A 1 i : Nat) : Int))) (by omega) (by omega) (by rw [mnr_f hgt]; exact hb) (by rw [mnr_f hgt]; exact hw) (by omega) (by have z := hA69; rw [setR_back] at z; exact z) hg69 hFr69
    exact lp25 _ 0 (-9) 9 X (Nat.lt_succ_self _) (by omega) rfl rfl (by omega) hA hg (frT_rf 1 X)
  · refine ev_aload_n (pc := 9) hC dX6_doubt_9 rfl ?_
    refine ev_iload_n (pc := 10) hC dX6_doubt_10 rfl ?_
    refine ev_callV (pc := 11) (as := [vi (bnd x0 0 60)]) (rest := []) hC gX6_doubt_X6_no mtX6_no dX6_doubt_11 (ru_X6_no2 (bnd x0 0 60) (by omega)) (by decide) (by decide) (by decide) rfl (by rfl) (Nat.le_of_ble_eq_true rfl) rfl (fun v11 X11 h11 => ?_)
    obtain ⟨rfl, rfl⟩ := h11
    show Ev K 14 [some (.ref 29), some (vi x0), some (vi (bnd x0 0 60)), none, none, none, none, none] [vi (bnd x0 0 60)] (mset X 30 (-(bnd x0 0 60)).toNat (X 30 (-(bnd x0 0 60)).toNat + 1))
    exact ev_ireturn (pc := 14) hC hR dX6_doubt_14 (no_endM (show bnd x0 0 60 = (bnd x0 0 60) by omega) (by omega) hI)
theorem mtX6_stranger : MT yX6_stranger wsX6_stranger cX6_stranger 6 (some .int) 1 := ⟨⟨_, rfl⟩, by decide, by decide, by decide +kernel⟩
set_option maxRecDepth 100000 in
set_option maxHeartbeats 4000000 in
theorem ru_X6_stranger {X : Mem} {V : St} (hV : mI X V) (x0 : Int) (hx0 : -2147483648 ≤ x0 ∧ x0 ≤ 2147483647) : Ru yX6_stranger wsX6_stranger 10 221 [.ref 29, vi x0] X (fun v X' => v = some (vi (sp19 x0 V).1) ∧ mI X' (sp19 x0 V).2 ∧ frM X X') := by
  refine ru_of (w2 := _) rfl (by decide) [some (.ref 29), some (vi x0), none, none, none, none] (fun _ => rfl) (fun _ => Nat.le_of_ble_eq_true rfl) ?_
  intro K hKn hC hR
  have wX6 : ∀ w ∈ u_ws RX6 TX6 25, w ∈ wsX6_stranger := by decide +kernel
  have f52 : Fl K RX6 52 6 6 := fl_of hC RX6 TX6 25 rfl (by decide) wX6 (show Cond.fieldLink RX6 52 "PicnicOfSomebodyModel" "people" "I" ∈ _ by decide +kernel)
  obtain ⟨A, B, hh, T, n, W, rs, C⟩ := V
  have hA : Rp (vM X) A := hV.1
  have hyA : A 5 1 ≤ 999 := hV.2.1
  have hB : hh = true → Rp (vK X 0) B ∧ B 5 1 ≤ 999 := hV.2.2.1
  have hi : X 29 17 = zI (b2i hh) := hV.2.2.2.1
  have hg : X 29 8 = zI ((0 : Nat) : Int) := hV.2.2.2.2.1
  have hT : TxM X T n := hV.2.2.2.2.2.1
  have hW : RwM X W rs := hV.2.2.2.2.2.2.1
  have hCn : ∀ k, k < 7 → X 30 k = zI (C k : Nat) := hV.2.2.2.2.2.2.2
  have hn8 := hA.n8
  have hn96 := hT.2.1
  have hrs := hW.2.1
  have hG : 0 < 256 := by decide
  have hI : mI X (A, B, hh, T, n, W, rs, C) := hV
  have hq1 := bnd_cases x0 0 60
  refine ev_iload_n (pc := 0) hC dX6_stranger_0 rfl ?_
  refine ev_callS (pc := 1) (as := [vi x0]) (rest := []) hC gX6_stranger_X6_notYears mtX6_notYears dX6_stranger_1 (ru_X6_notYears x0 (by omega)) (by decide) (by rfl) (Nat.le_of_ble_eq_true rfl) rfl (fun v1 X1 h1 => ?_)
  obtain ⟨rfl, rfl⟩ := h1
  show Ev K 4 [some (.ref 29), some (vi x0), none, none, none, none] [vi (bnd x0 0 60)] X
  have hbd1 := bnd_cases x0 0 60
  refine ev_istore_n (pc := 4) hC dX6_stranger_4 (by rw [hKn]; decide) rfl ?_
  show Ev K 5 [some (.ref 29), some (vi x0), some (vi (bnd x0 0 60)), none, none, none] [] X
  refine ev_iload_n (pc := 5) hC dX6_stranger_5 rfl ?_
  refine ev_if_eq (pc := 6) hC 15 dX6_stranger_6 (by decide) (by omega) (fun c6 => ?_) (fun c6 => ?_)
  · obtain ⟨p0, rfl⟩ : ∃ k : Nat, x0 = (k : Int) := ⟨x0.toNat, by omega⟩
    refine ev_aload_n (pc := 15) hC dX6_stranger_15 rfl ?_
    refine ev_geti (pc := 16) hC ((A 5 0 : Nat) : Int) f52 dX6_stranger_16 (by decide) (by decide) (by decide) (by decide) (by decide)  (hA.mn) ?_
    refine ev_bipush (pc := 19) hC dX6_stranger_19 (by decide) ?_
    refine ev_icmp_ne (pc := 21) hC 27 dX6_stranger_21 (by decide) (by omega) (by omega) (fun c21 => ?_) (fun c21 => ?_)
    · refine ev_aload_n (pc := 27) hC dX6_stranger_27 rfl ?_
      refine ev_iload_n (pc := 28) hC dX6_stranger_28 rfl ?_
      refine ev_callV (pc := 29) (as := [vi ((p0 : Nat) : Int)]) (rest := []) hC gX6_stranger_X6_believersIn mtX6_believersIn dX6_stranger_29 (ru_X6_believersIn hA hg hG p0 (by omega)) (by decide) (by decide) (by decide) rfl (by rfl) (Nat.le_of_ble_eq_true rfl) rfl (fun v29 X29 h29 => ?_)
      obtain ⟨rfl, hA29, hF29⟩ := h29
      show Ev K 32 [some (.ref 29), some (vi ((p0 : Nat) : Int)), some (vi (bnd ((p0 : Nat) : Int) 0 60)), none, none, none] [vi ((bset 0 (goN 0 p0 A) : Nat) : Int)] X29
      have hgn29 := goN_n 0 A p0
      have hbl29 : bset 0 (goN 0 p0 A) < 256 := bset_lt (by rw [hgn29]; exact hA.n8)
      have hg29 := frT_gone hF29 hg
      have hFr29 := frT_tr (frT_rf 1 X) hF29 (by omega)
      have hn8_29 := hA29.n8
      refine ev_callS (pc := 32) (as := [vi ((bset 0 (goN 0 p0 A) : Nat) : Int)]) (rest := []) hC gX6_stranger_X6_bits mtX6_bits dX6_stranger_32 (ru_X6_bits (bset 0 (goN 0 p0 A)) (by omega)) (by decide) (by rfl) (Nat.le_of_ble_eq_true rfl) rfl (fun v32 X32 h32 => ?_)
      obtain ⟨rfl, rfl⟩ := h32
      show Ev K 35 [some (.ref 29), some (vi ((p0 : Nat) : Int)), some (vi (bnd ((p0 : Nat) : Int) 0 60)), none, none, none] [vi ((pop (bset 0 (goN 0 p0 A)) : Nat) : Int)] X29
      have hp32 := pop_le (bset 0 (goN 0 p0 A))
      refine ev_istore_n (pc := 35) hC dX6_stranger_35 (by rw [hKn]; decide) rfl ?_
      show Ev K 36 [some (.ref 29), some (vi ((p0 : Nat) : Int)), some (vi (bnd ((p0 : Nat) : Int) 0 60)), some (vi ((pop (bset 0 (goN 0 p0 A)) : Nat) : Int)), none, none] [] X29
      refine ev_aload_n (pc := 36) hC dX6_stranger_36 rfl ?_
      refine ev_callV (pc := 37) (as := []) (rest := []) hC gX6_stranger_X6_everybody mtX6_everybody dX6_stranger_37 (ru_X6_everybody hA29) (by decide) (by decide) (by decide) rfl (by rfl) (Nat.le_of_ble_eq_true rfl) rfl (fun v37 X37 h37 => ?_)
      obtain ⟨rfl, rfl⟩ := h37
      show Ev K 40 [some (.ref 29), some (vi ((p0 : Nat) : Int)), some (vi (bnd ((p0 : Nat) : Int) 0 60)), some (vi ((pop (bset 0 (goN 0 p0 A)) : Nat) : Int)), none, none] [vi ((evb A : Nat) : Int)] X29
      have hl37 := evb_lt (A := A) (by omega)
      refine ev_istore (pc := 40) hC dX6_stranger_40 (by rw [hKn]; decide) rfl ?_
      show Ev K 42 [some (.ref 29), some (vi ((p0 : Nat) : Int)), some (vi (bnd ((p0 : Nat) : Int) 0 60)), some (vi ((pop (bset 0 (goN 0 p0 A)) : Nat) : Int)), some (vi ((evb A : Nat) : Int)), none] [] X29
      refine ev_aload_n (pc := 42) hC dX6_stranger_42 rfl ?_
      refine ev_iconst (pc := 43) hC dX6_stranger_43 ?_
      refine ev_iconst (pc := 44) hC dX6_stranger_44 ?_
      refine ev_callV (pc := 45) (as := [vi 1, vi 1]) (rest := []) hC gX6_stranger_X6_passesAll mtX6_passesAll dX6_stranger_45 (ru_X6_passesAll_k 1 (by omega)) (by decide) (by decide) (by decide) rfl (by rfl) (Nat.le_of_ble_eq_true rfl) rfl (fun v45 X45 h45 => ?_)
      obtain ⟨rfl, hS45⟩ := h45
      show Ev K 48 [some (.ref 29), some (vi ((p0 : Nat) : Int)), some (vi (bnd ((p0 : Nat) : Int) 0 60)), some (vi ((pop (bset 0 (goN 0 p0 A)) : Nat) : Int)), some (vi ((evb A : Nat) : Int)), none] [] X45
      have hF45 := ks_fr hS45
      have hA45 := ks_repM hS45 hA29
      have hk1_45 := ks_rep hS45 hA29
      have hg45 := frT_gone hF45 hg29
      have hFr45 := frT_tr hFr29 hF45 (by omega)
      have hn8_45 := hA45.n8
      refine ev_aload_n (pc := 48) hC dX6_stranger_48 rfl ?_
      refine ev_iconst (pc := 49) hC dX6_stranger_49 ?_
      refine ev_iconst (pc := 50) hC dX6_stranger_50 ?_
      refine ev_bipush (pc := 51) hC dX6_stranger_51 (by decide) ?_
      refine ev_bipush (pc := 53) hC dX6_stranger_53 (by decide) ?_
      refine ev_callV (pc := 55) (as := [vi 0, vi 0, vi 24, vi 9]) (rest := []) hC gX6_stranger_X6_adds mtX6_adds dX6_stranger_55 (ru_X6_adds hA45 0 0 24 9 (by omega) (by omega) (by omega) (by omega) (by omega)) (by decide) (by decide) (by decide) rfl (by rfl) (Nat.le_of_ble_eq_true rfl) rfl (fun v55 X55 h55 => ?_)
      obtain ⟨rfl, hA55, hF55⟩ := h55
      show Ev K 58 [some (.ref 29), some (vi ((p0 : Nat) : Int)), some (vi (bnd ((p0 : Nat) : Int) 0 60)), some (vi ((pop (bset 0 (goN 0 p0 A)) : Nat) : Int)), some (vi ((evb A : Nat) : Int)), none] [] X55
      have hg55 := frT_gone hF55 hg45
      have hk1_55 := hk1_45.keepK hF55 (by omega)
      have hFr55 := frT_tr hFr45 hF55 (by omega)
      have hn8_55 := hA55.n8
      have ha5 : addP A 0 0 24 9 5 0 = A 5 0 + 1 := rfl
      refine ev_aload_n (pc := 58) hC dX6_stranger_58 rfl ?_
      refine ev_iload_n (pc := 59) hC dX6_stranger_59 rfl ?_
      refine ev_callV (pc := 60) (as := [vi ((p0 : Nat) : Int)]) (rest := []) hC gX6_stranger_X6_believersIn mtX6_believersIn dX6_stranger_60 (ru_X6_believersIn hA55 hg55 hG p0 (by omega)) (by decide) (by decide) (by decide) rfl (by rfl) (Nat.le_of_ble_eq_true rfl) rfl (fun v60 X60 h60 => ?_)
      obtain ⟨rfl, hA60, hF60⟩ := h60
      show Ev K 63 [some (.ref 29), some (vi ((p0 : Nat) : Int)), some (vi (bnd ((p0 : Nat) : Int) 0 60)), some (vi ((pop (bset 0 (goN 0 p0 A)) : Nat) : Int)), some (vi ((evb A : Nat) : Int)), none] [vi ((bset 0 (goN 0 p0 (addP A 0 0 24 9)) : Nat) : Int)] X60
      have hgn60 := goN_n 0 (addP A 0 0 24 9) p0
      have hbl60 : bset 0 (goN 0 p0 (addP A 0 0 24 9)) < 256 := bset_lt (by rw [hgn60]; exact hA55.n8)
      have hg60 := frT_gone hF60 hg55
      have hk1_60 := hk1_55.keepK hF60 (by omega)
      have hFr60 := frT_tr hFr55 hF60 (by omega)
      have hn8_60 := hA60.n8
      have hab := and_lt256 (b := evb A) hbl60
      refine ev_iload (pc := 63) hC dX6_stranger_63 rfl ?_
      refine ev_iand (pc := 65) hC (((bset 0 (goN 0 p0 (addP A 0 0 24 9))) &&& (evb A) : Nat) : Int) (zI_and (bset 0 (goN 0 p0 (addP A 0 0 24 9))) (evb A)) dX6_stranger_65 ?_
      refine ev_callS (pc := 66) (as := [vi (((bset 0 (goN 0 p0 (addP A 0 0 24 9))) &&& (evb A) : Nat) : Int)]) (rest := []) hC gX6_stranger_X6_bits mtX6_bits dX6_stranger_66 (ru_X6_bits ((bset 0 (goN 0 p0 (addP A 0 0 24 9))) &&& (evb A)) (by omega)) (by decide) (by rfl) (Nat.le_of_ble_eq_true rfl) rfl (fun v66 X66 h66 => ?_)
      obtain ⟨rfl, rfl⟩ := h66
      show Ev K 69 [some (.ref 29), some (vi ((p0 : Nat) : Int)), some (vi (bnd ((p0 : Nat) : Int) 0 60)), some (vi ((pop (bset 0 (goN 0 p0 A)) : Nat) : Int)), some (vi ((evb A : Nat) : Int)), none] [vi ((pop ((bset 0 (goN 0 p0 (addP A 0 0 24 9))) &&& (evb A)) : Nat) : Int)] X60
      have hp66 := pop_le ((bset 0 (goN 0 p0 (addP A 0 0 24 9))) &&& (evb A))
      refine ev_istore (pc := 69) hC dX6_stranger_69 (by rw [hKn]; decide) rfl ?_
      show Ev K 71 [some (.ref 29), some (vi ((p0 : Nat) : Int)), some (vi (bnd ((p0 : Nat) : Int) 0 60)), some (vi ((pop (bset 0 (goN 0 p0 A)) : Nat) : Int)), some (vi ((evb A : Nat) : Int)), some (vi ((pop ((bset 0 (goN 0 p0 (addP A 0 0 24 9))) &&& (evb A)) : Nat) : Int))] [] X60
      refine ev_aload_n (pc := 71) hC dX6_stranger_71 rfl ?_
      refine ev_iconst (pc := 72) hC dX6_stranger_72 ?_
      refine ev_iconst (pc := 73) hC dX6_stranger_73 ?_
      refine ev_callV (pc := 74) (as := [vi 1, vi 0]) (rest := []) hC gX6_stranger_X6_passesAll mtX6_passesAll dX6_stranger_74 (ru_X6_passesAll_p 1 (by omega)) (by decide) (by decide) (by decide) rfl (by rfl) (Nat.le_of_ble_eq_true rfl) rfl (fun v74 X74 h74 => ?_)
      obtain ⟨rfl, hS74⟩ := h74
      show Ev K 77 [some (.ref 29), some (vi ((p0 : Nat) : Int)), some (vi (bnd ((p0 : Nat) : Int) 0 60)), some (vi ((pop (bset 0 (goN 0 p0 A)) : Nat) : Int)), some (vi ((evb A : Nat) : Int)), some (vi ((pop ((bset 0 (goN 0 p0 (addP A 0 0 24 9))) &&& (evb A)) : Nat) : Int))] [] X74
      have hF74 := ps_fr hS74
      have hA74 := ps_rep hS74 hk1_60
      have hg74 := frT_gone hF74 hg60
      have hk1_74 := hk1_60.keepK hF74 (by omega)
      have hFr74 := frT_tr hFr60 hF74 (by omega)
      have hn8_74 := hA74.n8
      refine ev_iload (pc := 77) hC dX6_stranger_77 rfl ?_
      refine ev_iload_n (pc := 79) hC dX6_stranger_79 rfl ?_
      refine ev_isub (pc := 80) hC (((pop ((bset 0 (goN 0 p0 (addP A 0 0 24 9))) &&& (evb A)) : Nat) : Int) - ((pop (bset 0 (goN 0 p0 A)) : Nat) : Int)) (rfl) dX6_stranger_80 ?_
      exact ev_ireturn (pc := 81) hC hR dX6_stranger_81 (ok_endMC (show bnd ((p0 : Nat) : Int) 0 60 = 0 by omega) (str_eq (by omega)) (mI_put hI hA74 hyA hFr74) (frM_T hFr74))
    · refine ev_bipush (pc := 24) hC dX6_stranger_24 (by decide) ?_
      exact ev_ireturn (pc := 26) hC hR dX6_stranger_26 (ok_endMC (show bnd ((p0 : Nat) : Int) 0 60 = 0 by omega) (by show _ = strF p0 A; unfold strF; rw [if_pos (by omega)]) (mI_put hI hA hyA (frT_rf 1 X)) (frM_T (frT_rf 1 X)))
  · refine ev_aload_n (pc := 9) hC dX6_stranger_9 rfl ?_
    refine ev_iload_n (pc := 10) hC dX6_stranger_10 rfl ?_
    refine ev_callV (pc := 11) (as := [vi (bnd x0 0 60)]) (rest := []) hC gX6_stranger_X6_lower mtX6_lower dX6_stranger_11 (ru_X6_lower2 (bnd x0 0 60) (by omega)) (by decide) (by decide) (by decide) rfl (by rfl) (Nat.le_of_ble_eq_true rfl) rfl (fun v11 X11 h11 => ?_)
    obtain ⟨rfl, rfl⟩ := h11
    show Ev K 14 [some (.ref 29), some (vi x0), some (vi (bnd x0 0 60)), none, none, none] [vi (1000000000 - (bnd x0 0 60))] (mset X 30 (-(bnd x0 0 60)).toNat (X 30 (-(bnd x0 0 60)).toNat + 1))
    exact ev_ireturn (pc := 14) hC hR dX6_stranger_14 (no_endMC (show bnd x0 0 60 = (bnd x0 0 60) by omega) (by omega) hI)
theorem mtX6_nearest : MT yX6_nearest wsX6_nearest cX6_nearest 4 (some .int) 0 := ⟨⟨_, rfl⟩, by decide, by decide, by decide +kernel⟩
set_option maxRecDepth 100000 in
set_option maxHeartbeats 4000000 in
theorem ru_X6_nearest {X : Mem} {V : St} (hV : mI X V) : Ru yX6_nearest wsX6_nearest 2 42 [.ref 29] X (fun v X' => v = some (vi (sp20  V).1) ∧ mI X' (sp20  V).2 ∧ frM X X') := by
  refine ru_of (w2 := _) rfl (by decide) [some (.ref 29), none, none, none] (fun _ => rfl) (fun _ => Nat.le_of_ble_eq_true rfl) ?_
  intro K hKn hC hR
  have wX6 : ∀ w ∈ u_ws RX6 TX6 25, w ∈ wsX6_nearest := by decide +kernel
  have f52 : Fl K RX6 52 6 6 := fl_of hC RX6 TX6 25 rfl (by decide) wX6 (show Cond.fieldLink RX6 52 "PicnicOfSomebodyModel" "people" "I" ∈ _ by decide +kernel)
  have f22 : Fl K RX6 22 6 4 := fl_of hC RX6 TX6 25 rfl (by decide) wX6 (show Cond.fieldLink RX6 22 "PicnicOfSomebodyModel" "cell" "[I" ∈ _ by decide +kernel)
  obtain ⟨A, B, hh, T, n, W, rs, C⟩ := V
  have hA : Rp (vM X) A := hV.1
  have hyA : A 5 1 ≤ 999 := hV.2.1
  have hB : hh = true → Rp (vK X 0) B ∧ B 5 1 ≤ 999 := hV.2.2.1
  have hi : X 29 17 = zI (b2i hh) := hV.2.2.2.1
  have hg : X 29 8 = zI ((0 : Nat) : Int) := hV.2.2.2.2.1
  have hT : TxM X T n := hV.2.2.2.2.2.1
  have hW : RwM X W rs := hV.2.2.2.2.2.2.1
  have hCn : ∀ k, k < 7 → X 30 k = zI (C k : Nat) := hV.2.2.2.2.2.2.2
  have hn8 := hA.n8
  have hn96 := hT.2.1
  have hrs := hW.2.1
  have hG : 0 < 256 := by decide
  have hI : mI X (A, B, hh, T, n, W, rs, C) := hV
  refine ev_aload_n (pc := 0) hC dX6_nearest_0 rfl ?_
  refine ev_callV (pc := 1) (as := []) (rest := []) hC gX6_nearest_X6_here mtX6_here dX6_nearest_1 (ru_X6_here hA) (by decide) (by decide) (by decide) rfl (by rfl) (Nat.le_of_ble_eq_true rfl) rfl (fun v1 X1 h1 => ?_)
  obtain ⟨rfl, rfl⟩ := h1
  show Ev K 4 [some (.ref 29), none, none, none] [vi ((here A : Nat) : Int)] X
  have hh1 := here_lt A
  refine ev_istore_n (pc := 4) hC dX6_nearest_4 (by rw [hKn]; decide) rfl ?_
  show Ev K 5 [some (.ref 29), some (vi ((here A : Nat) : Int)), none, none] [] X
  refine ev_bipush (pc := 5) hC dX6_nearest_5 (by decide) ?_
  refine ev_istore_n (pc := 7) hC dX6_nearest_7 (by rw [hKn]; decide) rfl ?_
  show Ev K 8 [some (.ref 29), some (vi ((here A : Nat) : Int)), some (vi (-9)), none] [] X
  refine ev_iconst (pc := 8) hC dX6_nearest_8 ?_
  refine ev_istore_n (pc := 9) hC dX6_nearest_9 (by rw [hKn]; decide) rfl ?_
  show Ev K 10 [some (.ref 29), some (vi ((here A : Nat) : Int)), some (vi (-9)), some (vi 0)] [] X
  have lp10 : ∀ (fz : Nat) (i : Nat) (b : Int), A 5 0 - i < fz → (i ≤ A 5 0) → ((b = -9 ∧ mnr (nrF A (here A)) 9 i = (-9, 9)) ∨ (0 ≤ b ∧ b.toNat < i ∧ mnr (nrF A (here A)) 9 i = (b, (nrF A (here A)) b.toNat))) → (-9 ≤ b ∧ b < 9) → Ev K 10 [some (.ref 29), some (vi ((here A : Nat) : Int)), some (vi b), some (vi ((i : Nat) : Int))] [] X := by
    intro fz
    induction fz with
    | zero => intro i b hfz; exact absurd hfz (Nat.not_lt_zero _)
    | succ fz ih10 =>
      intro i b hfz hi hn hbr
      refine ev_iload_n (pc := 10) hC dX6_nearest_10 rfl ?_
      refine ev_aload_n (pc := 11) hC dX6_nearest_11 rfl ?_
      refine ev_geti (pc := 12) hC ((A 5 0 : Nat) : Int) f52 dX6_nearest_12 (by decide) (by decide) (by decide) (by decide) (by decide)  (hA.mn) ?_
      refine ev_icmp_ge (pc := 15) hC 53 dX6_nearest_15 (by decide) (by omega) (by omega) (fun c15 => ?_) (fun c15 => ?_)
      · refine ev_iload_n (pc := 53) hC dX6_nearest_53 rfl ?_
        exact ev_ireturn (pc := 54) hC hR dX6_nearest_54 (⟨rv ((nr_e hn).trans (by rw [show i = A 5 0 by omega]; first | done | rfl)), (mI_put hI hA hyA (frT_rf 1 X)), (frM_T (frT_rf 1 X))⟩)
      · have hbi : b < 0 ∨ b.toNat < i := by omega
        have hst := stp_le (hA.c25 i (by omega)) (here_lt A)
        have hf9 : (nrF A (here A)) i < 9 := by show ((stp (A 3 i) (here A) : Nat) : Int) < 9; omega
        refine ev_iload_n (pc := 18) hC dX6_nearest_18 rfl ?_
        refine ev_if_lt (pc := 19) hC 45 dX6_nearest_19 (by decide) (by omega) (fun c19 => ?_) (fun c19 => ?_)
        · refine ev_iload_n (pc := 45) hC dX6_nearest_45 rfl ?_
          refine ev_istore_n (pc := 46) hC dX6_nearest_46 (by rw [hKn]; decide) rfl ?_
          show Ev K 47 [some (.ref 29), some (vi ((here A : Nat) : Int)), some (vi ((i : Nat) : Int)), some (vi ((i : Nat) : Int))] [] X
          refine ev_iinc (pc := 47) hC ((i + 1 : Nat) : Int) dX6_nearest_47 rfl (by omega) (by rw [hKn]; decide) rfl ?_
          show Ev K 50 [some (.ref 29), some (vi ((here A : Nat) : Int)), some (vi ((i : Nat) : Int)), some (vi ((i + 1 : Nat) : Int))] [] X
          refine ev_goto (pc := 50) hC 10 dX6_nearest_50 (by decide) ?_
          exact ih10 (i + 1) ((i : Nat) : Int) (by omega) (by omega) (nr_t hf9 hn (Or.inl (by omega))) (by omega)
        · refine ev_aload_n (pc := 22) hC dX6_nearest_22 rfl ?_
          refine ev_getr (pc := 23) hC 34 f22 dX6_nearest_23 (by decide) (by decide) (by decide) (by decide) (by decide) ?_
          refine ev_iload_n (pc := 26) hC dX6_nearest_26 rfl ?_
          have hb27 := hA.c25 i (by omega)
          refine ev_iald (pc := 27) hC i ((A 3 i : Nat) : Int) (by decide) (by decide) (rfl) (by have := (show alen 34 = 8 from rfl); omega) (hA.m3 i (by omega)) dX6_nearest_27 ?_
          refine ev_iload_n (pc := 28) hC dX6_nearest_28 rfl ?_
          refine ev_callS (pc := 29) (as := [vi ((A 3 i : Nat) : Int), vi ((here A : Nat) : Int)]) (rest := []) hC gX6_nearest_X6_steps mtX6_steps dX6_nearest_29 (ru_X6_steps (A 3 i) (here A) (by omega) (by omega)) (by decide) (by rfl) (Nat.le_of_ble_eq_true rfl) rfl (fun v29 X29 h29 => ?_)
          obtain ⟨rfl, rfl⟩ := h29
          show Ev K 32 [some (.ref 29), some (vi ((here A : Nat) : Int)), some (vi b), some (vi ((i : Nat) : Int))] [vi ((stp (A 3 i) (here A) : Nat) : Int)] X
          have hst29 := stp_le (a := A 3 i) (b := here A) (by omega) (by omega)
          refine ev_aload_n (pc := 32) hC dX6_nearest_32 rfl ?_
          refine ev_getr (pc := 33) hC 34 f22 dX6_nearest_33 (by decide) (by decide) (by decide) (by decide) (by decide) ?_
          refine ev_iload_n (pc := 36) hC dX6_nearest_36 rfl ?_
          have hb37 := hA.c25 ((b).toNat) (by omega)
          refine ev_iald (pc := 37) hC ((b).toNat) ((A 3 ((b).toNat) : Nat) : Int) (by decide) (by decide) (by omega) (by have := (show alen 34 = 8 from rfl); omega) (hA.m3 ((b).toNat) (by omega)) dX6_nearest_37 ?_
          refine ev_iload_n (pc := 38) hC dX6_nearest_38 rfl ?_
          refine ev_callS (pc := 39) (as := [vi ((A 3 ((b).toNat) : Nat) : Int), vi ((here A : Nat) : Int)]) (rest := [vi ((stp (A 3 i) (here A) : Nat) : Int)]) hC gX6_nearest_X6_steps mtX6_steps dX6_nearest_39 (ru_X6_steps (A 3 ((b).toNat)) (here A) (by omega) (by omega)) (by decide) (by rfl) (Nat.le_of_ble_eq_true rfl) rfl (fun v39 X39 h39 => ?_)
          obtain ⟨rfl, rfl⟩ := h39
          show Ev K 42 [some (.ref 29), some (vi ((here A : Nat) : Int)), some (vi b), some (vi ((i : Nat) : Int))] [vi ((stp (A 3 ((b).toNat)) (here A) : Nat) : Int), vi ((stp (A 3 i) (here A) : Nat) : Int)] X
          have hst39 := stp_le (a := A 3 ((b).toNat)) (b := here A) (by omega) (by omega)
          refine ev_icmp_ge (pc := 42) hC 47 dX6_nearest_42 (by decide) (by omega) (by omega) (fun c42 => ?_) (fun c42 => ?_)
          · refine ev_iinc (pc := 47) hC ((i + 1 : Nat) : Int) dX6_nearest_47 rfl (by omega) (by rw [hKn]; decide) rfl ?_
            show Ev K 50 [some (.ref 29), some (vi ((here A : Nat) : Int)), some (vi b), some (vi ((i + 1 : Nat) : Int))] [] X
            refine ev_goto (pc := 50) hC 10 dX6_nearest_50 (by decide) ?_
            exact ih10 (i + 1) b (by omega) (by omega) (nr_f hn (by omega) (by show ¬ ((stp (A 3 i) (here A) : Nat) : Int) < ((stp (A 3 b.toNat) (here A) : Nat) : Int); omega)) (by omega)
          · refine ev_iload_n (pc := 45) hC dX6_nearest_45 rfl ?_
            refine ev_istore_n (pc := 46) hC dX6_nearest_46 (by rw [hKn]; decide) rfl ?_
            show Ev K 47 [some (.ref 29), some (vi ((here A : Nat) : Int)), some (vi ((i : Nat) : Int)), some (vi ((i : Nat) : Int))] [] X
            refine ev_iinc (pc := 47) hC ((i + 1 : Nat) : Int) dX6_nearest_47 rfl (by omega) (by rw [hKn]; decide) rfl ?_
            show Ev K 50 [some (.ref 29), some (vi ((here A : Nat) : Int)), some (vi ((i : Nat) : Int)), some (vi ((i + 1 : Nat) : Int))] [] X
            refine ev_goto (pc := 50) hC 10 dX6_nearest_50 (by decide) ?_
            exact ih10 (i + 1) ((i : Nat) : Int) (by omega) (by omega) (nr_t hf9 hn (Or.inr (by show ((stp (A 3 i) (here A) : Nat) : Int) < ((stp (A 3 b.toNat) (here A) : Nat) : Int); omega))) (by omega)
  exact lp10 _ 0 (-9) (Nat.lt_succ_self _) (by omega) (Or.inl ⟨rfl, rfl⟩) (by omega)
theorem mtX6_passed : MT yX6_passed wsX6_passed cX6_passed 6 (some .int) 1 := ⟨⟨_, rfl⟩, by decide, by decide, by decide +kernel⟩
set_option maxRecDepth 100000 in
set_option maxHeartbeats 4000000 in
theorem ru_X6_passed {X : Mem} {V : St} (hV : mI X V) (x0 : Int) (hx0 : -2147483648 ≤ x0 ∧ x0 ≤ 2147483647) : Ru yX6_passed wsX6_passed 8 177 [.ref 29, vi x0] X (fun v X' => v = some (vi (sp21 x0 V).1) ∧ mI X' (sp21 x0 V).2 ∧ frM X X') := by
  refine ru_of (w2 := _) rfl (by decide) [some (.ref 29), some (vi x0), none, none, none, none] (fun _ => rfl) (fun _ => Nat.le_of_ble_eq_true rfl) ?_
  intro K hKn hC hR
  have wX6 : ∀ w ∈ u_ws RX6 TX6 25, w ∈ wsX6_passed := by decide +kernel
  have f52 : Fl K RX6 52 6 6 := fl_of hC RX6 TX6 25 rfl (by decide) wX6 (show Cond.fieldLink RX6 52 "PicnicOfSomebodyModel" "people" "I" ∈ _ by decide +kernel)
  have f19 : Fl K RX6 19 6 3 := fl_of hC RX6 TX6 25 rfl (by decide) wX6 (show Cond.fieldLink RX6 19 "PicnicOfSomebodyModel" "figure" "[I" ∈ _ by decide +kernel)
  obtain ⟨A, B, hh, T, n, W, rs, C⟩ := V
  have hA : Rp (vM X) A := hV.1
  have hyA : A 5 1 ≤ 999 := hV.2.1
  have hB : hh = true → Rp (vK X 0) B ∧ B 5 1 ≤ 999 := hV.2.2.1
  have hi : X 29 17 = zI (b2i hh) := hV.2.2.2.1
  have hg : X 29 8 = zI ((0 : Nat) : Int) := hV.2.2.2.2.1
  have hT : TxM X T n := hV.2.2.2.2.2.1
  have hW : RwM X W rs := hV.2.2.2.2.2.2.1
  have hCn : ∀ k, k < 7 → X 30 k = zI (C k : Nat) := hV.2.2.2.2.2.2.2
  have hn8 := hA.n8
  have hn96 := hT.2.1
  have hrs := hW.2.1
  have hG : 0 < 256 := by decide
  have hI : mI X (A, B, hh, T, n, W, rs, C) := hV
  have hq1 := bnd_cases x0 0 60
  refine ev_iload_n (pc := 0) hC dX6_passed_0 rfl ?_
  refine ev_callS (pc := 1) (as := [vi x0]) (rest := []) hC gX6_passed_X6_notYears mtX6_notYears dX6_passed_1 (ru_X6_notYears x0 (by omega)) (by decide) (by rfl) (Nat.le_of_ble_eq_true rfl) rfl (fun v1 X1 h1 => ?_)
  obtain ⟨rfl, rfl⟩ := h1
  show Ev K 4 [some (.ref 29), some (vi x0), none, none, none, none] [vi (bnd x0 0 60)] X
  have hbd1 := bnd_cases x0 0 60
  refine ev_istore_n (pc := 4) hC dX6_passed_4 (by rw [hKn]; decide) rfl ?_
  show Ev K 5 [some (.ref 29), some (vi x0), some (vi (bnd x0 0 60)), none, none, none] [] X
  refine ev_iload_n (pc := 5) hC dX6_passed_5 rfl ?_
  refine ev_if_eq (pc := 6) hC 15 dX6_passed_6 (by decide) (by omega) (fun c6 => ?_) (fun c6 => ?_)
  · obtain ⟨p0, rfl⟩ : ∃ k : Nat, x0 = (k : Int) := ⟨x0.toNat, by omega⟩
    refine ev_aload_n (pc := 15) hC dX6_passed_15 rfl ?_
    refine ev_callV (pc := 16) (as := []) (rest := []) hC gX6_passed_X6_thinks mtX6_thinks dX6_passed_16 (ru_X6_thinks) (by decide) (by decide) (by decide) rfl (by rfl) (Nat.le_of_ble_eq_true rfl) rfl (fun v16 X16 h16 => ?_)
    obtain ⟨rfl, hS16⟩ := h16
    show Ev K 19 [some (.ref 29), some (vi ((p0 : Nat) : Int)), some (vi (bnd ((p0 : Nat) : Int) 0 60)), none, none, none] [] X16
    have hF16 := ks_fr hS16
    have hA16 := ks_repM hS16 hA
    have hk2_16 := ks_rep hS16 hA
    have hg16 := frT_gone hF16 hg
    have hFr16 := frT_tr (frT_rf 1 X) hF16 (by omega)
    have hn8_16 := hA16.n8
    refine ev_iconst (pc := 19) hC dX6_passed_19 ?_
    refine ev_istore_n (pc := 20) hC dX6_passed_20 (by rw [hKn]; decide) rfl ?_
    show Ev K 21 [some (.ref 29), some (vi ((p0 : Nat) : Int)), some (vi (bnd ((p0 : Nat) : Int) 0 60)), some (vi 0), none, none] [] X16
    refine ev_iconst (pc := 21) hC dX6_passed_21 ?_
    refine ev_istore (pc := 22) hC dX6_passed_22 (by rw [hKn]; decide) rfl ?_
    show Ev K 24 [some (.ref 29), some (vi ((p0 : Nat) : Int)), some (vi (bnd ((p0 : Nat) : Int) 0 60)), some (vi 0), some (vi 0), none] [] X16
    have lp24 : ∀ (fz : Nat) (k : Nat) (s : Nat) (Y : Mem), p0 - k < fz → (k ≤ p0) → (s = sumB k (fun k => figs (goN 0 k A))) → (Rp (vM Y) (goN 0 k A)) → (Y 29 8 = zI ((0 : Nat) : Int)) → (frT 1 X Y) → (Rp (vK Y 2) A) → Ev K 24 [some (.ref 29), some (vi ((p0 : Nat) : Int)), some (vi (bnd ((p0 : Nat) : Int) 0 60)), some (vi ((s : Nat) : Int)), some (vi ((k : Nat) : Int)), none] [] Y := by
      intro fz
      induction fz with
      | zero => intro k s Y hfz; exact absurd hfz (Nat.not_lt_zero _)
      | succ fz ih24 =>
        intro k s Y hfz hk hs hAY hgY hFY hK2Y
        have hY8 := hAY.n8
        refine ev_iload (pc := 24) hC dX6_passed_24 rfl ?_
        refine ev_iload_n (pc := 26) hC dX6_passed_26 rfl ?_
        refine ev_icmp_ge (pc := 27) hC 82 dX6_passed_27 (by decide) (by omega) (by omega) (fun c27 => ?_) (fun c27 => ?_)
        · refine ev_aload_n (pc := 82) hC dX6_passed_82 rfl ?_
          refine ev_callV (pc := 83) (as := []) (rest := []) hC gX6_passed_X6_forgets mtX6_forgets dX6_passed_83 (ru_X6_forgets) (by decide) (by decide) (by decide) rfl (by rfl) (Nat.le_of_ble_eq_true rfl) rfl (fun v83 X83 h83 => ?_)
          obtain ⟨rfl, hS83⟩ := h83
          show Ev K 86 [some (.ref 29), some (vi ((p0 : Nat) : Int)), some (vi (bnd ((p0 : Nat) : Int) 0 60)), some (vi ((s : Nat) : Int)), some (vi ((k : Nat) : Int)), none] [] X83
          have hF83 := ps_fr hS83
          have hA83 := ps_rep hS83 hK2Y
          have hg83 := frT_gone hF83 hgY
          have hk2_83 := hK2Y.keepK hF83 (by omega)
          have hFr83 := frT_tr hFY hF83 (by omega)
          have hn8_83 := hA83.n8
          refine ev_iload_n (pc := 86) hC dX6_passed_86 rfl ?_
          exact ev_ireturn (pc := 87) hC hR dX6_passed_87 (ok_endM (show bnd ((p0 : Nat) : Int) 0 60 = 0 by omega) (by rw [hs, show k = p0 by omega]; first | done | rfl) (mI_put hI hA83 hyA hFr83) (frM_T hFr83))
        · refine ev_iconst (pc := 30) hC dX6_passed_30 ?_
          refine ev_istore (pc := 31) hC dX6_passed_31 (by rw [hKn]; decide) rfl ?_
          show Ev K 33 [some (.ref 29), some (vi ((p0 : Nat) : Int)), some (vi (bnd ((p0 : Nat) : Int) 0 60)), some (vi ((s : Nat) : Int)), some (vi ((k : Nat) : Int)), some (vi 0)] [] Y
          have lp33 : ∀ (fz : Nat) (p : Nat) (s2 : Nat), goN 0 k A 5 0 - p < fz → (p ≤ goN 0 k A 5 0) → (s2 = s + sumB p (fun i => if bel (goN 0 k A) i = true then goN 0 k A 2 i else 0)) → Ev K 33 [some (.ref 29), some (vi ((p0 : Nat) : Int)), some (vi (bnd ((p0 : Nat) : Int) 0 60)), some (vi ((s2 : Nat) : Int)), some (vi ((k : Nat) : Int)), some (vi ((p : Nat) : Int))] [] Y := by
            intro fz
            induction fz with
            | zero => intro p s2 hfz; exact absurd hfz (Nat.not_lt_zero _)
            | succ fz ih33 =>
              intro p s2 hfz hp hs2
              refine ev_iload (pc := 33) hC dX6_passed_33 rfl ?_
              refine ev_aload_n (pc := 35) hC dX6_passed_35 rfl ?_
              refine ev_geti (pc := 36) hC (((goN 0 k A) 5 0 : Nat) : Int) f52 dX6_passed_36 (by decide) (by decide) (by decide) (by decide) (by decide)  (hAY.mn) ?_
              refine ev_icmp_ge (pc := 39) hC 71 dX6_passed_39 (by decide) (by omega) (by omega) (fun c39 => ?_) (fun c39 => ?_)
              · refine ev_aload_n (pc := 71) hC dX6_passed_71 rfl ?_
                refine ev_iconst (pc := 72) hC dX6_passed_72 ?_
                refine ev_callV (pc := 73) (as := [vi 0]) (rest := []) hC gX6_passed_X6_goesYear mtX6_goesYear dX6_passed_73 (ru_X6_goesYear hAY hgY hG false) (by decide) (by decide) (by decide) rfl (by rfl) (Nat.le_of_ble_eq_true rfl) rfl (fun v73 X73 h73 => ?_)
                obtain ⟨rfl, hA73, hF73⟩ := h73
                show Ev K 76 [some (.ref 29), some (vi ((p0 : Nat) : Int)), some (vi (bnd ((p0 : Nat) : Int) 0 60)), some (vi ((s2 : Nat) : Int)), some (vi ((k : Nat) : Int)), some (vi ((p : Nat) : Int))] [] X73
                have hg73 := frT_gone hF73 hgY
                have hk2_73 := hK2Y.keepK hF73 (by omega)
                have hFr73 := frT_tr hFY hF73 (by omega)
                have hn8_73 := hA73.n8
                refine ev_iinc (pc := 76) hC ((k + 1 : Nat) : Int) dX6_passed_76 rfl (by omega) (by rw [hKn]; decide) rfl ?_
                show Ev K 79 [some (.ref 29), some (vi ((p0 : Nat) : Int)), some (vi (bnd ((p0 : Nat) : Int) 0 60)), some (vi ((s2 : Nat) : Int)), some (vi ((k + 1 : Nat) : Int)), some (vi ((p : Nat) : Int))] [] X73
                refine ev_goto (pc := 79) hC 24 dX6_passed_79 (by decide) ?_
                refine ev_drop 5 ?_
                show Ev K 24 [some (.ref 29), some (vi ((p0 : Nat) : Int)), some (vi (bnd ((p0 : Nat) : Int) 0 60)), some (vi ((s2 : Nat) : Int)), some (vi ((k + 1 : Nat) : Int)), none] [] X73
                exact ih24 (k + 1) s2 X73 (by omega) (by omega) (by rw [sumB_s, ← hs, hs2, show p = goN 0 k A 5 0 by omega]; rfl) hA73 hg73 hFr73 hk2_73
              · refine ev_iload_n (pc := 42) hC dX6_passed_42 rfl ?_
                refine ev_aload_n (pc := 43) hC dX6_passed_43 rfl ?_
                refine ev_iload (pc := 44) hC dX6_passed_44 rfl ?_
                refine ev_callV (pc := 46) (as := [vi ((p : Nat) : Int)]) (rest := [vi ((s2 : Nat) : Int)]) hC gX6_passed_X6_believesNow mtX6_believesNow dX6_passed_46 (ru_X6_believesNow p _ (by have := hAY.n8; omega) (hAY.m4 p (by omega)) (hAY.b9 p (by omega))) (by decide) (by decide) (by decide) rfl (by rfl) (Nat.le_of_ble_eq_true rfl) rfl (fun v46 X46 h46 => ?_)
                obtain ⟨rfl, rfl⟩ := h46
                show Ev K 49 [some (.ref 29), some (vi ((p0 : Nat) : Int)), some (vi (bnd ((p0 : Nat) : Int) 0 60)), some (vi ((s2 : Nat) : Int)), some (vi ((k : Nat) : Int)), some (vi ((p : Nat) : Int))] [vi (b2i (bel (goN 0 k A) p)), vi ((s2 : Nat) : Int)] Y
                have hr46 := b2i_r (bel (goN 0 k A) p)
                refine ev_if_eq (pc := 49) hC 62 dX6_passed_49 (by decide) (by omega) (fun c49 => ?_) (fun c49 => ?_)
                · have e49 := b2i_0 c49
                  refine ev_iconst (pc := 62) hC dX6_passed_62 ?_
                  refine ev_iadd (pc := 63) hC ((s2 + 0 : Nat) : Int) (by omega) dX6_passed_63 ?_
                  refine ev_istore_n (pc := 64) hC dX6_passed_64 (by rw [hKn]; decide) rfl ?_
                  show Ev K 65 [some (.ref 29), some (vi ((p0 : Nat) : Int)), some (vi (bnd ((p0 : Nat) : Int) 0 60)), some (vi ((s2 + 0 : Nat) : Int)), some (vi ((k : Nat) : Int)), some (vi ((p : Nat) : Int))] [] Y
                  refine ev_iinc (pc := 65) hC ((p + 1 : Nat) : Int) dX6_passed_65 rfl (by omega) (by rw [hKn]; decide) rfl ?_
                  show Ev K 68 [some (.ref 29), some (vi ((p0 : Nat) : Int)), some (vi (bnd ((p0 : Nat) : Int) 0 60)), some (vi ((s2 + 0 : Nat) : Int)), some (vi ((k : Nat) : Int)), some (vi ((p + 1 : Nat) : Int))] [] Y
                  refine ev_goto (pc := 68) hC 33 dX6_passed_68 (by decide) ?_
                  exact ih33 (p + 1) (s2 + 0) (by omega) (by omega) (by rw [sumB_s, hs2, if_neg (by rw [e49]; decide)]; omega)
                · have e49 := b2i_1 c49
                  refine ev_aload_n (pc := 52) hC dX6_passed_52 rfl ?_
                  refine ev_getr (pc := 53) hC 33 f19 dX6_passed_53 (by decide) (by decide) (by decide) (by decide) (by decide) ?_
                  refine ev_iload (pc := 56) hC dX6_passed_56 rfl ?_
                  have hb58 := hAY.f9 p (by omega)
                  refine ev_iald (pc := 58) hC p (((goN 0 k A) 2 p : Nat) : Int) (by decide) (by decide) (rfl) (by have := (show alen 33 = 8 from rfl); omega) (hAY.m2 p (by omega)) dX6_passed_58 ?_
                  refine ev_goto (pc := 59) hC 63 dX6_passed_59 (by decide) ?_
                  refine ev_iadd (pc := 63) hC ((s2 + ((goN 0 k A) 2 p) : Nat) : Int) (by omega) dX6_passed_63 ?_
                  refine ev_istore_n (pc := 64) hC dX6_passed_64 (by rw [hKn]; decide) rfl ?_
                  show Ev K 65 [some (.ref 29), some (vi ((p0 : Nat) : Int)), some (vi (bnd ((p0 : Nat) : Int) 0 60)), some (vi ((s2 + ((goN 0 k A) 2 p) : Nat) : Int)), some (vi ((k : Nat) : Int)), some (vi ((p : Nat) : Int))] [] Y
                  refine ev_iinc (pc := 65) hC ((p + 1 : Nat) : Int) dX6_passed_65 rfl (by omega) (by rw [hKn]; decide) rfl ?_
                  show Ev K 68 [some (.ref 29), some (vi ((p0 : Nat) : Int)), some (vi (bnd ((p0 : Nat) : Int) 0 60)), some (vi ((s2 + ((goN 0 k A) 2 p) : Nat) : Int)), some (vi ((k : Nat) : Int)), some (vi ((p + 1 : Nat) : Int))] [] Y
                  refine ev_goto (pc := 68) hC 33 dX6_passed_68 (by decide) ?_
                  exact ih33 (p + 1) (s2 + ((goN 0 k A) 2 p)) (by omega) (by omega) (by rw [sumB_s, hs2, if_pos e49]; omega)
          exact lp33 _ 0 s (Nat.lt_succ_self _) (by omega) rfl
    exact lp24 _ 0 0 X16 (Nat.lt_succ_self _) (by omega) rfl hA16 hg16 hFr16 hk2_16
  · refine ev_aload_n (pc := 9) hC dX6_passed_9 rfl ?_
    refine ev_iload_n (pc := 10) hC dX6_passed_10 rfl ?_
    refine ev_callV (pc := 11) (as := [vi (bnd x0 0 60)]) (rest := []) hC gX6_passed_X6_no mtX6_no dX6_passed_11 (ru_X6_no2 (bnd x0 0 60) (by omega)) (by decide) (by decide) (by decide) rfl (by rfl) (Nat.le_of_ble_eq_true rfl) rfl (fun v11 X11 h11 => ?_)
    obtain ⟨rfl, rfl⟩ := h11
    show Ev K 14 [some (.ref 29), some (vi x0), some (vi (bnd x0 0 60)), none, none, none] [vi (bnd x0 0 60)] (mset X 30 (-(bnd x0 0 60)).toNat (X 30 (-(bnd x0 0 60)).toNat + 1))
    exact ev_ireturn (pc := 14) hC hR dX6_passed_14 (no_endM (show bnd x0 0 60 = (bnd x0 0 60) by omega) (by omega) hI)
theorem mtX6_image : MT yX6_image wsX6_image cX6_image 1 (some .int) 0 := ⟨⟨_, rfl⟩, by decide, by decide, by decide +kernel⟩
set_option maxRecDepth 100000 in
set_option maxHeartbeats 4000000 in
theorem ru_X6_image {X : Mem} {V : St} (hV : mI X V) : Ru yX6_image wsX6_image 2 44 [.ref 29] X (fun v X' => v = some (vi (sp34  V).1) ∧ mI X' (sp34  V).2 ∧ frM X X') := by
  refine ru_of (w2 := _) rfl (by decide) [some (.ref 29)] (fun _ => rfl) (fun _ => Nat.le_of_ble_eq_true rfl) ?_
  intro K hKn hC hR
  have wX6 : ∀ w ∈ u_ws RX6 TX6 25, w ∈ wsX6_image := by decide +kernel
  have f149 : Fl K RX6 149 6 17 := fl_of hC RX6 TX6 25 rfl (by decide) wX6 (show Cond.fieldLink RX6 149 "PicnicOfSomebodyModel" "hasImage" "Z" ∈ _ by decide +kernel)
  have f104 : Fl K RX6 104 6 7 := fl_of hC RX6 TX6 25 rfl (by decide) wX6 (show Cond.fieldLink RX6 104 "PicnicOfSomebodyModel" "year" "I" ∈ _ by decide +kernel)
  obtain ⟨A, B, hh, T, n, W, rs, C⟩ := V
  have hA : Rp (vM X) A := hV.1
  have hyA : A 5 1 ≤ 999 := hV.2.1
  have hB : hh = true → Rp (vK X 0) B ∧ B 5 1 ≤ 999 := hV.2.2.1
  have hi : X 29 17 = zI (b2i hh) := hV.2.2.2.1
  have hg : X 29 8 = zI ((0 : Nat) : Int) := hV.2.2.2.2.1
  have hT : TxM X T n := hV.2.2.2.2.2.1
  have hW : RwM X W rs := hV.2.2.2.2.2.2.1
  have hCn : ∀ k, k < 7 → X 30 k = zI (C k : Nat) := hV.2.2.2.2.2.2.2
  have hn8 := hA.n8
  have hn96 := hT.2.1
  have hrs := hW.2.1
  have hG : 0 < 256 := by decide
  have hI : mI X (A, B, hh, T, n, W, rs, C) := hV
  refine ev_aload_n (pc := 0) hC dX6_image_0 rfl ?_
  refine ev_iconst (pc := 1) hC dX6_image_1 ?_
  refine ev_puti (pc := 2) hC f149 fpX6_17 dX6_image_2 (by decide) (by decide) (by decide) (by decide) (by decide) (by decide) (by decide) ?_
  refine ev_aload_n (pc := 5) hC dX6_image_5 rfl ?_
  refine ev_iconst (pc := 6) hC dX6_image_6 ?_
  refine ev_iconst (pc := 7) hC dX6_image_7 ?_
  refine ev_callV (pc := 8) (as := [vi 0, vi 1]) (rest := []) hC gX6_image_X6_passesAll mtX6_passesAll dX6_image_8 (ru_X6_passesAll_k 0 (by omega)) (by decide) (by decide) (by decide) rfl (by rfl) (Nat.le_of_ble_eq_true rfl) rfl (fun v8 X8 h8 => ?_)
  obtain ⟨rfl, hS8⟩ := h8
  show Ev K 11 [some (.ref 29)] [] X8
  refine ev_aload_n (pc := 11) hC dX6_image_11 rfl ?_
  refine ev_geti (pc := 12) hC ((A 5 1 : Nat) : Int) f104 dX6_image_12 (by decide) (by decide) (by decide) (by decide) (by decide)  ((by rw [hS8.2.1 7 (by omega) (by omega), mset_ne _ _ _ _ (by omega)]; exact hA.my)) ?_
  exact ev_ireturn (pc := 15) hC hR dX6_image_15 (⟨rfl, (mI_image hI hS8).1, (mI_image hI hS8).2⟩)
theorem mtX6_on : MT yX6_on wsX6_on cX6_on 1 (some .int) 0 := ⟨⟨_, rfl⟩, by decide, by decide, by decide +kernel⟩
set_option maxRecDepth 100000 in
set_option maxHeartbeats 4000000 in
theorem ru_X6_on {X : Mem} {V : St} (hV : mI X V) : Ru yX6_on wsX6_on 2 44 [.ref 29] X (fun v X' => v = some (vi (sp35  V).1) ∧ mI X' (sp35  V).2 ∧ frM X X') := by
  refine ru_of (w2 := _) rfl (by decide) [some (.ref 29)] (fun _ => rfl) (fun _ => Nat.le_of_ble_eq_true rfl) ?_
  intro K hKn hC hR
  have wX6 : ∀ w ∈ u_ws RX6 TX6 25, w ∈ wsX6_on := by decide +kernel
  have f149 : Fl K RX6 149 6 17 := fl_of hC RX6 TX6 25 rfl (by decide) wX6 (show Cond.fieldLink RX6 149 "PicnicOfSomebodyModel" "hasImage" "Z" ∈ _ by decide +kernel)
  have f104 : Fl K RX6 104 6 7 := fl_of hC RX6 TX6 25 rfl (by decide) wX6 (show Cond.fieldLink RX6 104 "PicnicOfSomebodyModel" "year" "I" ∈ _ by decide +kernel)
  obtain ⟨A, B, hh, T, n, W, rs, C⟩ := V
  have hA : Rp (vM X) A := hV.1
  have hyA : A 5 1 ≤ 999 := hV.2.1
  have hB : hh = true → Rp (vK X 0) B ∧ B 5 1 ≤ 999 := hV.2.2.1
  have hi : X 29 17 = zI (b2i hh) := hV.2.2.2.1
  have hg : X 29 8 = zI ((0 : Nat) : Int) := hV.2.2.2.2.1
  have hT : TxM X T n := hV.2.2.2.2.2.1
  have hW : RwM X W rs := hV.2.2.2.2.2.2.1
  have hCn : ∀ k, k < 7 → X 30 k = zI (C k : Nat) := hV.2.2.2.2.2.2.2
  have hn8 := hA.n8
  have hn96 := hT.2.1
  have hrs := hW.2.1
  have hG : 0 < 256 := by decide
  have hI : mI X (A, B, hh, T, n, W, rs, C) := hV
  have hhr := b2i_r hh
  refine ev_aload_n (pc := 0) hC dX6_on_0 rfl ?_
  refine ev_geti (pc := 1) hC (b2i hh) f149 dX6_on_1 (by decide) (by decide) (by decide) (by decide) (by decide)  (hi) ?_
  refine ev_if_ne (pc := 4) hC 14 dX6_on_4 (by decide) (by omega) (fun c4 => ?_) (fun c4 => ?_)
  · have e4 := b2i_1 c4
    obtain ⟨hB2, hyB⟩ := hB e4
    refine ev_aload_n (pc := 14) hC dX6_on_14 rfl ?_
    refine ev_iconst (pc := 15) hC dX6_on_15 ?_
    refine ev_iconst (pc := 16) hC dX6_on_16 ?_
    refine ev_callV (pc := 17) (as := [vi 0, vi 0]) (rest := []) hC gX6_on_X6_passesAll mtX6_passesAll dX6_on_17 (ru_X6_passesAll_p 0 (by omega)) (by decide) (by decide) (by decide) rfl (by rfl) (Nat.le_of_ble_eq_true rfl) rfl (fun v17 X17 h17 => ?_)
    obtain ⟨rfl, hS17⟩ := h17
    show Ev K 20 [some (.ref 29)] [] X17
    refine ev_aload_n (pc := 20) hC dX6_on_20 rfl ?_
    refine ev_geti (pc := 21) hC ((B 5 1 : Nat) : Int) f104 dX6_on_21 (by decide) (by decide) (by decide) (by decide) (by decide)  ((ps_rep hS17 hB2).my) ?_
    exact ev_ireturn (pc := 24) hC hR dX6_on_24 (mon_ok e4 (mI_put hI (ps_rep hS17 hB2) hyB (frT_le (ps_fr hS17) (by omega))) (frM_T (ps_fr hS17)))
  · have e4 := b2i_0 c4
    refine ev_aload_n (pc := 7) hC dX6_on_7 rfl ?_
    refine ev_bipush (pc := 8) hC dX6_on_8 (by decide) ?_
    refine ev_callV (pc := 10) (as := [vi (-3)]) (rest := []) hC gX6_on_X6_no mtX6_no dX6_on_10 (ru_X6_no2 (-3) (by omega)) (by decide) (by decide) (by decide) rfl (by rfl) (Nat.le_of_ble_eq_true rfl) rfl (fun v10 X10 h10 => ?_)
    obtain ⟨rfl, rfl⟩ := h10
    show Ev K 13 [some (.ref 29)] [vi (-3)] (mset X 30 (-(-3)).toNat (X 30 (-(-3)).toNat + 1))
    exact ev_ireturn (pc := 13) hC hR dX6_on_13 (mon_no e4 hI)
theorem mtX6_letter : MT yX6_letter wsX6_letter cX6_letter 3 (some .int) 1 := ⟨⟨_, rfl⟩, by decide, by decide, by decide +kernel⟩
set_option maxRecDepth 100000 in
set_option maxHeartbeats 4000000 in
theorem ru_X6_letter {X : Mem} {V : St} (hV : mI X V) (x0 : Int) (hx0 : -2147483648 ≤ x0 ∧ x0 ≤ 2147483647) : Ru yX6_letter wsX6_letter 1 22 [.ref 29, vi x0] X (fun v X' => v = some (vi (sp0 x0 V).1) ∧ mI X' (sp0 x0 V).2 ∧ frM X X') := by
  refine ru_of (w2 := _) rfl (by decide) [some (.ref 29), some (vi x0), none] (fun _ => rfl) (fun _ => Nat.le_of_ble_eq_true rfl) ?_
  intro K hKn hC hR
  have wX6 : ∀ w ∈ u_ws RX6 TX6 25, w ∈ wsX6_letter := by decide +kernel
  have f70 : Fl K RX6 70 6 13 := fl_of hC RX6 TX6 25 rfl (by decide) wX6 (show Cond.fieldLink RX6 70 "PicnicOfSomebodyModel" "taped" "I" ∈ _ by decide +kernel)
  have f28 : Fl K RX6 28 6 9 := fl_of hC RX6 TX6 25 rfl (by decide) wX6 (show Cond.fieldLink RX6 28 "PicnicOfSomebodyModel" "tape" "[I" ∈ _ by decide +kernel)
  obtain ⟨A, B, hh, T, n, W, rs, C⟩ := V
  have hA : Rp (vM X) A := hV.1
  have hyA : A 5 1 ≤ 999 := hV.2.1
  have hB : hh = true → Rp (vK X 0) B ∧ B 5 1 ≤ 999 := hV.2.2.1
  have hi : X 29 17 = zI (b2i hh) := hV.2.2.2.1
  have hg : X 29 8 = zI ((0 : Nat) : Int) := hV.2.2.2.2.1
  have hT : TxM X T n := hV.2.2.2.2.2.1
  have hW : RwM X W rs := hV.2.2.2.2.2.2.1
  have hCn : ∀ k, k < 7 → X 30 k = zI (C k : Nat) := hV.2.2.2.2.2.2.2
  have hn8 := hA.n8
  have hn96 := hT.2.1
  have hrs := hW.2.1
  have hG : 0 < 256 := by decide
  have hI : mI X (A, B, hh, T, n, W, rs, C) := hV
  have hq1 := bnd_cases x0 0 255
  have hq2 := fulD_cases (bnd x0 0 255) (96 ≤ n)
  refine ev_iload_n (pc := 0) hC dX6_letter_0 rfl ?_
  refine ev_iconst (pc := 1) hC dX6_letter_1 ?_
  refine ev_sipush (pc := 2) hC dX6_letter_2 (by decide) ?_
  refine ev_callS (pc := 5) (as := [vi x0, vi 0, vi 255]) (rest := []) hC gX6_letter_X6_bound mtX6_bound dX6_letter_5 (ru_X6_bound x0 0 255 (by omega) (by omega) (by omega)) (by decide) (by rfl) (Nat.le_of_ble_eq_true rfl) rfl (fun v5 X5 h5 => ?_)
  obtain ⟨rfl, rfl⟩ := h5
  show Ev K 8 [some (.ref 29), some (vi x0), none] [vi (bnd x0 0 255)] X
  have hbd5 := bnd_cases x0 0 255
  refine ev_istore_n (pc := 8) hC dX6_letter_8 (by rw [hKn]; decide) rfl ?_
  show Ev K 9 [some (.ref 29), some (vi x0), some (vi (bnd x0 0 255))] [] X
  refine ev_iload_n (pc := 9) hC dX6_letter_9 rfl ?_
  refine ev_if_ne (pc := 10) hC 25 dX6_letter_10 (by decide) (by omega) (fun c10 => ?_) (fun c10 => ?_)
  · refine ev_iload_n (pc := 25) hC dX6_letter_25 rfl ?_
    refine ev_if_eq (pc := 26) hC 35 dX6_letter_26 (by decide) (by omega) (fun c26 => ?_) (fun c26 => ?_)
    · refine ev_aload_n (pc := 35) hC dX6_letter_35 rfl ?_
      refine ev_getr (pc := 36) hC 36 f28 dX6_letter_36 (by decide) (by decide) (by decide) (by decide) (by decide) ?_
      refine ev_aload_n (pc := 39) hC dX6_letter_39 rfl ?_
      refine ev_geti (pc := 40) hC ((n : Nat) : Int) f70 dX6_letter_40 (by decide) (by decide) (by decide) (by decide) (by decide)  (hT.1) ?_
      refine ev_iload_n (pc := 43) hC dX6_letter_43 rfl ?_
      refine ev_iast (pc := 44) hC n (by decide) (by decide) (rfl) (by have := (show alen 36 = 96 from rfl); omega) dX6_letter_44 ?_
      refine ev_aload_n (pc := 45) hC dX6_letter_45 rfl ?_
      refine ev_dup (pc := 46) hC rfl dX6_letter_46 ?_
      refine ev_geti (pc := 47) hC ((n : Nat) : Int) f70 dX6_letter_47 (by decide) (by decide) (by decide) (by decide) (by decide)  ((by rw [mset_row (by omega)]; exact hT.1)) ?_
      refine ev_iconst (pc := 50) hC dX6_letter_50 ?_
      refine ev_iadd (pc := 51) hC ((n + 1 : Nat) : Int) (by omega) dX6_letter_51 ?_
      refine ev_puti (pc := 52) hC f70 fpX6_13 dX6_letter_52 (by decide) (by decide) (by decide) (by decide) (by decide) (rfl) (rfl) ?_
      refine ev_aload_n (pc := 55) hC dX6_letter_55 rfl ?_
      refine ev_geti (pc := 56) hC ((n + 1 : Nat) : Int) f70 dX6_letter_56 (by decide) (by decide) (by decide) (by decide) (by decide)  (mset_eq _ _ _ _) ?_
      exact ev_ireturn (pc := 59) hC hR dX6_letter_59 (ok_endM (show fulC (bnd x0 0 255) (decide (96 ≤ n)) = 0 by omega) rfl (mI_putT hI (by show n < 96; omega) (by omega)) (frM_set (frM_set (frM_rf X) (by omega)) (by omega)))
    · refine ev_aload_n (pc := 29) hC dX6_letter_29 rfl ?_
      refine ev_iload_n (pc := 30) hC dX6_letter_30 rfl ?_
      refine ev_callV (pc := 31) (as := [vi (bnd x0 0 255)]) (rest := []) hC gX6_letter_X6_no mtX6_no dX6_letter_31 (ru_X6_no2 (bnd x0 0 255) (by omega)) (by decide) (by decide) (by decide) rfl (by rfl) (Nat.le_of_ble_eq_true rfl) rfl (fun v31 X31 h31 => ?_)
      obtain ⟨rfl, rfl⟩ := h31
      show Ev K 34 [some (.ref 29), some (vi x0), some (vi (bnd x0 0 255))] [vi (bnd x0 0 255)] (mset X 30 (-(bnd x0 0 255)).toNat (X 30 (-(bnd x0 0 255)).toNat + 1))
      exact ev_ireturn (pc := 34) hC hR dX6_letter_34 (no_endM (show fulC (bnd x0 0 255) (decide (96 ≤ n)) = (bnd x0 0 255) by omega) (by omega) hI)
  · refine ev_aload_n (pc := 13) hC dX6_letter_13 rfl ?_
    refine ev_geti (pc := 14) hC ((n : Nat) : Int) f70 dX6_letter_14 (by decide) (by decide) (by decide) (by decide) (by decide)  (hT.1) ?_
    refine ev_bipush (pc := 17) hC dX6_letter_17 (by decide) ?_
    refine ev_icmp_ne (pc := 19) hC 25 dX6_letter_19 (by decide) (by omega) (by omega) (fun c19 => ?_) (fun c19 => ?_)
    · refine ev_iload_n (pc := 25) hC dX6_letter_25 rfl ?_
      refine ev_if_eq (pc := 26) hC 35 dX6_letter_26 (by decide) (by omega) (fun c26 => ?_) (fun c26 => ?_)
      · refine ev_aload_n (pc := 35) hC dX6_letter_35 rfl ?_
        refine ev_getr (pc := 36) hC 36 f28 dX6_letter_36 (by decide) (by decide) (by decide) (by decide) (by decide) ?_
        refine ev_aload_n (pc := 39) hC dX6_letter_39 rfl ?_
        refine ev_geti (pc := 40) hC ((n : Nat) : Int) f70 dX6_letter_40 (by decide) (by decide) (by decide) (by decide) (by decide)  (hT.1) ?_
        refine ev_iload_n (pc := 43) hC dX6_letter_43 rfl ?_
        refine ev_iast (pc := 44) hC n (by decide) (by decide) (rfl) (by have := (show alen 36 = 96 from rfl); omega) dX6_letter_44 ?_
        refine ev_aload_n (pc := 45) hC dX6_letter_45 rfl ?_
        refine ev_dup (pc := 46) hC rfl dX6_letter_46 ?_
        refine ev_geti (pc := 47) hC ((n : Nat) : Int) f70 dX6_letter_47 (by decide) (by decide) (by decide) (by decide) (by decide)  ((by rw [mset_row (by omega)]; exact hT.1)) ?_
        refine ev_iconst (pc := 50) hC dX6_letter_50 ?_
        refine ev_iadd (pc := 51) hC ((n + 1 : Nat) : Int) (by omega) dX6_letter_51 ?_
        refine ev_puti (pc := 52) hC f70 fpX6_13 dX6_letter_52 (by decide) (by decide) (by decide) (by decide) (by decide) (rfl) (rfl) ?_
        refine ev_aload_n (pc := 55) hC dX6_letter_55 rfl ?_
        refine ev_geti (pc := 56) hC ((n + 1 : Nat) : Int) f70 dX6_letter_56 (by decide) (by decide) (by decide) (by decide) (by decide)  (mset_eq _ _ _ _) ?_
        exact ev_ireturn (pc := 59) hC hR dX6_letter_59 (ok_endM (show fulC (bnd x0 0 255) (decide (96 ≤ n)) = 0 by omega) rfl (mI_putT hI (by show n < 96; omega) (by omega)) (frM_set (frM_set (frM_rf X) (by omega)) (by omega)))
      · refine ev_aload_n (pc := 29) hC dX6_letter_29 rfl ?_
        refine ev_iload_n (pc := 30) hC dX6_letter_30 rfl ?_
        refine ev_callV (pc := 31) (as := [vi (bnd x0 0 255)]) (rest := []) hC gX6_letter_X6_no mtX6_no dX6_letter_31 (ru_X6_no2 (bnd x0 0 255) (by omega)) (by decide) (by decide) (by decide) rfl (by rfl) (Nat.le_of_ble_eq_true rfl) rfl (fun v31 X31 h31 => ?_)
        obtain ⟨rfl, rfl⟩ := h31
        show Ev K 34 [some (.ref 29), some (vi x0), some (vi (bnd x0 0 255))] [vi (bnd x0 0 255)] (mset X 30 (-(bnd x0 0 255)).toNat (X 30 (-(bnd x0 0 255)).toNat + 1))
        exact ev_ireturn (pc := 34) hC hR dX6_letter_34 (no_endM (show fulC (bnd x0 0 255) (decide (96 ≤ n)) = (bnd x0 0 255) by omega) (by omega) hI)
    · refine ev_bipush (pc := 22) hC dX6_letter_22 (by decide) ?_
      refine ev_istore_n (pc := 24) hC dX6_letter_24 (by rw [hKn]; decide) rfl ?_
      show Ev K 25 [some (.ref 29), some (vi x0), some (vi (-6))] [] X
      refine ev_iload_n (pc := 25) hC dX6_letter_25 rfl ?_
      refine ev_if_eq (pc := 26) hC 35 dX6_letter_26 (by decide) (by omega) (fun c26 => absurd c26 (by decide)) (fun c26 => ?_)
      refine ev_aload_n (pc := 29) hC dX6_letter_29 rfl ?_
      refine ev_iload_n (pc := 30) hC dX6_letter_30 rfl ?_
      refine ev_callV (pc := 31) (as := [vi (-6)]) (rest := []) hC gX6_letter_X6_no mtX6_no dX6_letter_31 (ru_X6_no2 (-6) (by omega)) (by decide) (by decide) (by decide) rfl (by rfl) (Nat.le_of_ble_eq_true rfl) rfl (fun v31 X31 h31 => ?_)
      obtain ⟨rfl, rfl⟩ := h31
      show Ev K 34 [some (.ref 29), some (vi x0), some (vi (-6))] [vi (-6)] (mset X 30 (-(-6)).toNat (X 30 (-(-6)).toNat + 1))
      exact ev_ireturn (pc := 34) hC hR dX6_letter_34 (no_endM (show fulC (bnd x0 0 255) (decide (96 ≤ n)) = (-6) by omega) (by omega) hI)
theorem mtX6_row : MT yX6_row wsX6_row cX6_row 3 (some .int) 1 := ⟨⟨_, rfl⟩, by decide, by decide, by decide +kernel⟩
set_option maxRecDepth 100000 in
set_option maxHeartbeats 4000000 in
theorem ru_X6_row {X : Mem} {V : St} (hV : mI X V) (x0 : Int) (hx0 : -2147483648 ≤ x0 ∧ x0 ≤ 2147483647) : Ru yX6_row wsX6_row 1 22 [.ref 29, vi x0] X (fun v X' => v = some (vi (sp30 x0 V).1) ∧ mI X' (sp30 x0 V).2 ∧ frM X X') := by
  refine ru_of (w2 := _) rfl (by decide) [some (.ref 29), some (vi x0), none] (fun _ => rfl) (fun _ => Nat.le_of_ble_eq_true rfl) ?_
  intro K hKn hC hR
  have wX6 : ∀ w ∈ u_ws RX6 TX6 25, w ∈ wsX6_row := by decide +kernel
  have f266 : Fl K RX6 266 6 23 := fl_of hC RX6 TX6 25 rfl (by decide) wX6 (show Cond.fieldLink RX6 266 "PicnicOfSomebodyModel" "rowMany" "I" ∈ _ by decide +kernel)
  have f49 : Fl K RX6 49 6 22 := fl_of hC RX6 TX6 25 rfl (by decide) wX6 (show Cond.fieldLink RX6 49 "PicnicOfSomebodyModel" "row" "[I" ∈ _ by decide +kernel)
  obtain ⟨A, B, hh, T, n, W, rs, C⟩ := V
  have hA : Rp (vM X) A := hV.1
  have hyA : A 5 1 ≤ 999 := hV.2.1
  have hB : hh = true → Rp (vK X 0) B ∧ B 5 1 ≤ 999 := hV.2.2.1
  have hi : X 29 17 = zI (b2i hh) := hV.2.2.2.1
  have hg : X 29 8 = zI ((0 : Nat) : Int) := hV.2.2.2.2.1
  have hT : TxM X T n := hV.2.2.2.2.2.1
  have hW : RwM X W rs := hV.2.2.2.2.2.2.1
  have hCn : ∀ k, k < 7 → X 30 k = zI (C k : Nat) := hV.2.2.2.2.2.2.2
  have hn8 := hA.n8
  have hn96 := hT.2.1
  have hrs := hW.2.1
  have hG : 0 < 256 := by decide
  have hI : mI X (A, B, hh, T, n, W, rs, C) := hV
  have hq1 := bnd_cases x0 0 99
  have hq2 := fulD_cases (bnd x0 0 99) (16 ≤ rs)
  refine ev_iload_n (pc := 0) hC dX6_row_0 rfl ?_
  refine ev_iconst (pc := 1) hC dX6_row_1 ?_
  refine ev_bipush (pc := 2) hC dX6_row_2 (by decide) ?_
  refine ev_callS (pc := 4) (as := [vi x0, vi 0, vi 99]) (rest := []) hC gX6_row_X6_bound mtX6_bound dX6_row_4 (ru_X6_bound x0 0 99 (by omega) (by omega) (by omega)) (by decide) (by rfl) (Nat.le_of_ble_eq_true rfl) rfl (fun v4 X4 h4 => ?_)
  obtain ⟨rfl, rfl⟩ := h4
  show Ev K 7 [some (.ref 29), some (vi x0), none] [vi (bnd x0 0 99)] X
  have hbd4 := bnd_cases x0 0 99
  refine ev_istore_n (pc := 7) hC dX6_row_7 (by rw [hKn]; decide) rfl ?_
  show Ev K 8 [some (.ref 29), some (vi x0), some (vi (bnd x0 0 99))] [] X
  refine ev_iload_n (pc := 8) hC dX6_row_8 rfl ?_
  refine ev_if_ne (pc := 9) hC 24 dX6_row_9 (by decide) (by omega) (fun c9 => ?_) (fun c9 => ?_)
  · refine ev_iload_n (pc := 24) hC dX6_row_24 rfl ?_
    refine ev_if_eq (pc := 25) hC 34 dX6_row_25 (by decide) (by omega) (fun c25 => ?_) (fun c25 => ?_)
    · refine ev_aload_n (pc := 34) hC dX6_row_34 rfl ?_
      refine ev_getr (pc := 35) hC 43 f49 dX6_row_35 (by decide) (by decide) (by decide) (by decide) (by decide) ?_
      refine ev_aload_n (pc := 38) hC dX6_row_38 rfl ?_
      refine ev_geti (pc := 39) hC ((rs : Nat) : Int) f266 dX6_row_39 (by decide) (by decide) (by decide) (by decide) (by decide)  (hW.1) ?_
      refine ev_iload_n (pc := 42) hC dX6_row_42 rfl ?_
      refine ev_iast (pc := 43) hC rs (by decide) (by decide) (rfl) (by have := (show alen 43 = 16 from rfl); omega) dX6_row_43 ?_
      refine ev_aload_n (pc := 44) hC dX6_row_44 rfl ?_
      refine ev_dup (pc := 45) hC rfl dX6_row_45 ?_
      refine ev_geti (pc := 46) hC ((rs : Nat) : Int) f266 dX6_row_46 (by decide) (by decide) (by decide) (by decide) (by decide)  ((by rw [mset_row (by omega)]; exact hW.1)) ?_
      refine ev_iconst (pc := 49) hC dX6_row_49 ?_
      refine ev_iadd (pc := 50) hC ((rs + 1 : Nat) : Int) (by omega) dX6_row_50 ?_
      refine ev_puti (pc := 51) hC f266 fpX6_23 dX6_row_51 (by decide) (by decide) (by decide) (by decide) (by decide) (rfl) (rfl) ?_
      refine ev_aload_n (pc := 54) hC dX6_row_54 rfl ?_
      refine ev_geti (pc := 55) hC ((rs + 1 : Nat) : Int) f266 dX6_row_55 (by decide) (by decide) (by decide) (by decide) (by decide)  (mset_eq _ _ _ _) ?_
      exact ev_ireturn (pc := 58) hC hR dX6_row_58 (ok_endM (show fulC (bnd x0 0 99) (decide (16 ≤ rs)) = 0 by omega) rfl (mI_putW hI (by show rs < 16; omega) (by omega)) (frM_set (frM_set (frM_rf X) (by omega)) (by omega)))
    · refine ev_aload_n (pc := 28) hC dX6_row_28 rfl ?_
      refine ev_iload_n (pc := 29) hC dX6_row_29 rfl ?_
      refine ev_callV (pc := 30) (as := [vi (bnd x0 0 99)]) (rest := []) hC gX6_row_X6_no mtX6_no dX6_row_30 (ru_X6_no2 (bnd x0 0 99) (by omega)) (by decide) (by decide) (by decide) rfl (by rfl) (Nat.le_of_ble_eq_true rfl) rfl (fun v30 X30 h30 => ?_)
      obtain ⟨rfl, rfl⟩ := h30
      show Ev K 33 [some (.ref 29), some (vi x0), some (vi (bnd x0 0 99))] [vi (bnd x0 0 99)] (mset X 30 (-(bnd x0 0 99)).toNat (X 30 (-(bnd x0 0 99)).toNat + 1))
      exact ev_ireturn (pc := 33) hC hR dX6_row_33 (no_endM (show fulC (bnd x0 0 99) (decide (16 ≤ rs)) = (bnd x0 0 99) by omega) (by omega) hI)
  · refine ev_aload_n (pc := 12) hC dX6_row_12 rfl ?_
    refine ev_geti (pc := 13) hC ((rs : Nat) : Int) f266 dX6_row_13 (by decide) (by decide) (by decide) (by decide) (by decide)  (hW.1) ?_
    refine ev_bipush (pc := 16) hC dX6_row_16 (by decide) ?_
    refine ev_icmp_ne (pc := 18) hC 24 dX6_row_18 (by decide) (by omega) (by omega) (fun c18 => ?_) (fun c18 => ?_)
    · refine ev_iload_n (pc := 24) hC dX6_row_24 rfl ?_
      refine ev_if_eq (pc := 25) hC 34 dX6_row_25 (by decide) (by omega) (fun c25 => ?_) (fun c25 => ?_)
      · refine ev_aload_n (pc := 34) hC dX6_row_34 rfl ?_
        refine ev_getr (pc := 35) hC 43 f49 dX6_row_35 (by decide) (by decide) (by decide) (by decide) (by decide) ?_
        refine ev_aload_n (pc := 38) hC dX6_row_38 rfl ?_
        refine ev_geti (pc := 39) hC ((rs : Nat) : Int) f266 dX6_row_39 (by decide) (by decide) (by decide) (by decide) (by decide)  (hW.1) ?_
        refine ev_iload_n (pc := 42) hC dX6_row_42 rfl ?_
        refine ev_iast (pc := 43) hC rs (by decide) (by decide) (rfl) (by have := (show alen 43 = 16 from rfl); omega) dX6_row_43 ?_
        refine ev_aload_n (pc := 44) hC dX6_row_44 rfl ?_
        refine ev_dup (pc := 45) hC rfl dX6_row_45 ?_
        refine ev_geti (pc := 46) hC ((rs : Nat) : Int) f266 dX6_row_46 (by decide) (by decide) (by decide) (by decide) (by decide)  ((by rw [mset_row (by omega)]; exact hW.1)) ?_
        refine ev_iconst (pc := 49) hC dX6_row_49 ?_
        refine ev_iadd (pc := 50) hC ((rs + 1 : Nat) : Int) (by omega) dX6_row_50 ?_
        refine ev_puti (pc := 51) hC f266 fpX6_23 dX6_row_51 (by decide) (by decide) (by decide) (by decide) (by decide) (rfl) (rfl) ?_
        refine ev_aload_n (pc := 54) hC dX6_row_54 rfl ?_
        refine ev_geti (pc := 55) hC ((rs + 1 : Nat) : Int) f266 dX6_row_55 (by decide) (by decide) (by decide) (by decide) (by decide)  (mset_eq _ _ _ _) ?_
        exact ev_ireturn (pc := 58) hC hR dX6_row_58 (ok_endM (show fulC (bnd x0 0 99) (decide (16 ≤ rs)) = 0 by omega) rfl (mI_putW hI (by show rs < 16; omega) (by omega)) (frM_set (frM_set (frM_rf X) (by omega)) (by omega)))
      · refine ev_aload_n (pc := 28) hC dX6_row_28 rfl ?_
        refine ev_iload_n (pc := 29) hC dX6_row_29 rfl ?_
        refine ev_callV (pc := 30) (as := [vi (bnd x0 0 99)]) (rest := []) hC gX6_row_X6_no mtX6_no dX6_row_30 (ru_X6_no2 (bnd x0 0 99) (by omega)) (by decide) (by decide) (by decide) rfl (by rfl) (Nat.le_of_ble_eq_true rfl) rfl (fun v30 X30 h30 => ?_)
        obtain ⟨rfl, rfl⟩ := h30
        show Ev K 33 [some (.ref 29), some (vi x0), some (vi (bnd x0 0 99))] [vi (bnd x0 0 99)] (mset X 30 (-(bnd x0 0 99)).toNat (X 30 (-(bnd x0 0 99)).toNat + 1))
        exact ev_ireturn (pc := 33) hC hR dX6_row_33 (no_endM (show fulC (bnd x0 0 99) (decide (16 ≤ rs)) = (bnd x0 0 99) by omega) (by omega) hI)
    · refine ev_bipush (pc := 21) hC dX6_row_21 (by decide) ?_
      refine ev_istore_n (pc := 23) hC dX6_row_23 (by rw [hKn]; decide) rfl ?_
      show Ev K 24 [some (.ref 29), some (vi x0), some (vi (-6))] [] X
      refine ev_iload_n (pc := 24) hC dX6_row_24 rfl ?_
      refine ev_if_eq (pc := 25) hC 34 dX6_row_25 (by decide) (by omega) (fun c25 => absurd c25 (by decide)) (fun c25 => ?_)
      refine ev_aload_n (pc := 28) hC dX6_row_28 rfl ?_
      refine ev_iload_n (pc := 29) hC dX6_row_29 rfl ?_
      refine ev_callV (pc := 30) (as := [vi (-6)]) (rest := []) hC gX6_row_X6_no mtX6_no dX6_row_30 (ru_X6_no2 (-6) (by omega)) (by decide) (by decide) (by decide) rfl (by rfl) (Nat.le_of_ble_eq_true rfl) rfl (fun v30 X30 h30 => ?_)
      obtain ⟨rfl, rfl⟩ := h30
      show Ev K 33 [some (.ref 29), some (vi x0), some (vi (-6))] [vi (-6)] (mset X 30 (-(-6)).toNat (X 30 (-(-6)).toNat + 1))
      exact ev_ireturn (pc := 33) hC hR dX6_row_33 (no_endM (show fulC (bnd x0 0 99) (decide (16 ≤ rs)) = (-6) by omega) (by omega) hI)
theorem mtX6_clear : MT yX6_clear wsX6_clear cX6_clear 2 (some .int) 0 := ⟨⟨_, rfl⟩, by decide, by decide, by decide +kernel⟩
set_option maxRecDepth 100000 in
set_option maxHeartbeats 4000000 in
theorem ru_X6_clear {X : Mem} {V : St} (hV : mI X V) : Ru yX6_clear wsX6_clear 0 0 [.ref 29] X (fun v X' => v = some (vi (sp32  V).1) ∧ mI X' (sp32  V).2 ∧ frM X X') := by
  refine ru_of (w2 := _) rfl (by decide) [some (.ref 29), none] (fun _ => rfl) (fun _ => Nat.le_of_ble_eq_true rfl) ?_
  intro K hKn hC hR
  have wX6 : ∀ w ∈ u_ws RX6 TX6 25, w ∈ wsX6_clear := by decide +kernel
  have f266 : Fl K RX6 266 6 23 := fl_of hC RX6 TX6 25 rfl (by decide) wX6 (show Cond.fieldLink RX6 266 "PicnicOfSomebodyModel" "rowMany" "I" ∈ _ by decide +kernel)
  obtain ⟨A, B, hh, T, n, W, rs, C⟩ := V
  have hA : Rp (vM X) A := hV.1
  have hyA : A 5 1 ≤ 999 := hV.2.1
  have hB : hh = true → Rp (vK X 0) B ∧ B 5 1 ≤ 999 := hV.2.2.1
  have hi : X 29 17 = zI (b2i hh) := hV.2.2.2.1
  have hg : X 29 8 = zI ((0 : Nat) : Int) := hV.2.2.2.2.1
  have hT : TxM X T n := hV.2.2.2.2.2.1
  have hW : RwM X W rs := hV.2.2.2.2.2.2.1
  have hCn : ∀ k, k < 7 → X 30 k = zI (C k : Nat) := hV.2.2.2.2.2.2.2
  have hn8 := hA.n8
  have hn96 := hT.2.1
  have hrs := hW.2.1
  have hG : 0 < 256 := by decide
  have hI : mI X (A, B, hh, T, n, W, rs, C) := hV
  refine ev_aload_n (pc := 0) hC dX6_clear_0 rfl ?_
  refine ev_geti (pc := 1) hC ((rs : Nat) : Int) f266 dX6_clear_1 (by decide) (by decide) (by decide) (by decide) (by decide)  (hW.1) ?_
  refine ev_istore_n (pc := 4) hC dX6_clear_4 (by rw [hKn]; decide) rfl ?_
  show Ev K 5 [some (.ref 29), some (vi ((rs : Nat) : Int))] [] X
  refine ev_aload_n (pc := 5) hC dX6_clear_5 rfl ?_
  refine ev_iconst (pc := 6) hC dX6_clear_6 ?_
  refine ev_puti (pc := 7) hC f266 fpX6_23 dX6_clear_7 (by decide) (by decide) (by decide) (by decide) (by decide) (rfl) (rfl) ?_
  refine ev_iload_n (pc := 10) hC dX6_clear_10 rfl ?_
  exact ev_ireturn (pc := 11) hC hR dX6_clear_11 (⟨rv rfl, mI_putW0 hI, frM_set (frM_rf X) (by omega)⟩)
theorem mtX6_count : MT yX6_count wsX6_count cX6_count 4 (some .int) 1 := ⟨⟨_, rfl⟩, by decide, by decide, by decide +kernel⟩
set_option maxRecDepth 100000 in
set_option maxHeartbeats 4000000 in
theorem ru_X6_count {X : Mem} {V : St} (hV : mI X V) (x0 : Int) (hx0 : -2147483648 ≤ x0 ∧ x0 ≤ 2147483647) : Ru yX6_count wsX6_count 3 64 [.ref 29, vi x0] X (fun v X' => v = some (vi (sp36 x0 V).1) ∧ mI X' (sp36 x0 V).2 ∧ frM X X') := by
  refine ru_of (w2 := _) rfl (by decide) [some (.ref 29), some (vi x0), none, none] (fun _ => rfl) (fun _ => Nat.le_of_ble_eq_true rfl) ?_
  intro K hKn hC hR
  have wX6 : ∀ w ∈ u_ws RX6 TX6 25, w ∈ wsX6_count := by decide +kernel
  have f7 : Fl K RX6 7 6 0 := fl_of hC RX6 TX6 25 rfl (by decide) wX6 (show Cond.fieldLink RX6 7 "PicnicOfSomebodyModel" "refused" "[I" ∈ _ by decide +kernel)
  have f52 : Fl K RX6 52 6 6 := fl_of hC RX6 TX6 25 rfl (by decide) wX6 (show Cond.fieldLink RX6 52 "PicnicOfSomebodyModel" "people" "I" ∈ _ by decide +kernel)
  have f104 : Fl K RX6 104 6 7 := fl_of hC RX6 TX6 25 rfl (by decide) wX6 (show Cond.fieldLink RX6 104 "PicnicOfSomebodyModel" "year" "I" ∈ _ by decide +kernel)
  have f13 : Fl K RX6 13 6 1 := fl_of hC RX6 TX6 25 rfl (by decide) wX6 (show Cond.fieldLink RX6 13 "PicnicOfSomebodyModel" "deep" "[I" ∈ _ by decide +kernel)
  have f266 : Fl K RX6 266 6 23 := fl_of hC RX6 TX6 25 rfl (by decide) wX6 (show Cond.fieldLink RX6 266 "PicnicOfSomebodyModel" "rowMany" "I" ∈ _ by decide +kernel)
  have f70 : Fl K RX6 70 6 13 := fl_of hC RX6 TX6 25 rfl (by decide) wX6 (show Cond.fieldLink RX6 70 "PicnicOfSomebodyModel" "taped" "I" ∈ _ by decide +kernel)
  obtain ⟨A, B, hh, T, n, W, rs, C⟩ := V
  have hA : Rp (vM X) A := hV.1
  have hyA : A 5 1 ≤ 999 := hV.2.1
  have hB : hh = true → Rp (vK X 0) B ∧ B 5 1 ≤ 999 := hV.2.2.1
  have hi : X 29 17 = zI (b2i hh) := hV.2.2.2.1
  have hg : X 29 8 = zI ((0 : Nat) : Int) := hV.2.2.2.2.1
  have hT : TxM X T n := hV.2.2.2.2.2.1
  have hW : RwM X W rs := hV.2.2.2.2.2.2.1
  have hCn : ∀ k, k < 7 → X 30 k = zI (C k : Nat) := hV.2.2.2.2.2.2.2
  have hn8 := hA.n8
  have hn96 := hT.2.1
  have hrs := hW.2.1
  have hG : 0 < 256 := by decide
  have hI : mI X (A, B, hh, T, n, W, rs, C) := hV
  refine ev_iload_n (pc := 0) hC dX6_count_0 rfl ?_
  refine ev_bipush (pc := 1) hC dX6_count_1 (by decide) ?_
  refine ev_bipush (pc := 3) hC dX6_count_3 (by decide) ?_
  refine ev_callS (pc := 5) (as := [vi x0, vi 11, vi 16]) (rest := []) hC gX6_count_X6_isIn mtX6_isIn dX6_count_5 (ru_X6_isIn x0 11 16 (by omega) (by omega) (by omega)) (by decide) (by rfl) (Nat.le_of_ble_eq_true rfl) rfl (fun v5 X5 h5 => ?_)
  obtain ⟨rfl, rfl⟩ := h5
  show Ev K 8 [some (.ref 29), some (vi x0), none, none] [vi (b2i (decide (11 ≤ x0 ∧ x0 ≤ 16)))] X
  have hr5 := b2i_r (decide (11 ≤ x0 ∧ x0 ≤ 16))
  refine ev_if_eq (pc := 8) hC 21 dX6_count_8 (by decide) (by omega) (fun c8 => ?_) (fun c8 => ?_)
  · have e8 := of_decide_eq_false (b2i_0 c8)
    refine ev_iconst (pc := 21) hC dX6_count_21 ?_
    refine ev_istore_n (pc := 22) hC dX6_count_22 (by rw [hKn]; decide) rfl ?_
    show Ev K 23 [some (.ref 29), some (vi x0), some (vi 0), none] [] X
    refine ev_iload_n (pc := 23) hC dX6_count_23 rfl ?_
    rcases (show x0 = 0 ∨ x0 = 1 ∨ x0 = 2 ∨ x0 = 3 ∨ x0 = 4 ∨ x0 = 5 ∨ x0 = 6 ∨ x0 = 7 ∨ x0 < 0 ∨ 7 < x0 by omega) with c24 | c24 | c24 | c24 | c24 | c24 | c24 | c24 | c24
    · refine ev_tabin (pc := 24) hC 72 dX6_count_24 (by omega) (by omega) (by rw [c24]; rfl) (by decide) ?_
      refine ev_aload_n (pc := 72) hC dX6_count_72 rfl ?_
      refine ev_geti (pc := 73) hC ((A 5 0 : Nat) : Int) f52 dX6_count_73 (by decide) (by decide) (by decide) (by decide) (by decide)  (hA.mn) ?_
      exact ev_ireturn (pc := 76) hC hR dX6_count_76 (⟨rv (by unfold sp36 cnS; rw [if_neg (show ¬ (11 ≤ x0 ∧ x0 ≤ 16) by omega), if_pos (show x0 = 0 by omega)]), (mI_put hI hA hyA (frT_rf 1 X)), (frM_T (frT_rf 1 X))⟩)
    · refine ev_tabin (pc := 24) hC 77 dX6_count_24 (by omega) (by omega) (by rw [c24]; rfl) (by decide) ?_
      refine ev_aload_n (pc := 77) hC dX6_count_77 rfl ?_
      refine ev_geti (pc := 78) hC ((A 5 1 : Nat) : Int) f104 dX6_count_78 (by decide) (by decide) (by decide) (by decide) (by decide)  (hA.my) ?_
      exact ev_ireturn (pc := 81) hC hR dX6_count_81 (⟨rv (by unfold sp36 cnS; rw [if_neg (show ¬ (11 ≤ x0 ∧ x0 ≤ 16) by omega), if_neg (show ¬ x0 = 0 by omega), if_pos (show x0 = 1 by omega)]), (mI_put hI hA hyA (frT_rf 1 X)), (frM_T (frT_rf 1 X))⟩)
    · refine ev_tabin (pc := 24) hC 82 dX6_count_24 (by omega) (by omega) (by rw [c24]; rfl) (by decide) ?_
      refine ev_aload_n (pc := 82) hC dX6_count_82 rfl ?_
      refine ev_callV (pc := 83) (as := []) (rest := []) hC gX6_count_X6_believers mtX6_believers dX6_count_83 (ru_X6_believers hA hg hG  ) (by decide) (by decide) (by decide) rfl (by rfl) (Nat.le_of_ble_eq_true rfl) rfl (fun v83 X83 h83 => ?_)
      obtain ⟨rfl, rfl⟩ := h83
      show Ev K 86 [some (.ref 29), some (vi x0), some (vi 0), none] [vi ((bset 0 A : Nat) : Int)] X
      have hl83 := bset_lt (G := 0) hA.n8
      exact ev_ireturn (pc := 86) hC hR dX6_count_86 (⟨rv (by unfold sp36 cnS; rw [if_neg (show ¬ (11 ≤ x0 ∧ x0 ≤ 16) by omega), if_neg (show ¬ x0 = 0 by omega), if_neg (show ¬ x0 = 1 by omega), if_pos (show x0 = 2 by omega)]), (mI_put hI hA hyA (frT_rf 1 X)), (frM_T (frT_rf 1 X))⟩)
    · refine ev_tabin (pc := 24) hC 87 dX6_count_24 (by omega) (by omega) (by rw [c24]; rfl) (by decide) ?_
      refine ev_aload_n (pc := 87) hC dX6_count_87 rfl ?_
      refine ev_callV (pc := 88) (as := []) (rest := []) hC gX6_count_X6_allBelief mtX6_allBelief dX6_count_88 (ru_X6_allBelief hA) (by decide) (by decide) (by decide) rfl (by rfl) (Nat.le_of_ble_eq_true rfl) rfl (fun v88 X88 h88 => ?_)
      obtain ⟨rfl, rfl⟩ := h88
      show Ev K 91 [some (.ref 29), some (vi x0), some (vi 0), none] [vi ((sumB (A 5 0) (A 4) : Nat) : Int)] X
      have hl88 := allB_le hA.ok
      exact ev_ireturn (pc := 91) hC hR dX6_count_91 (⟨rv (by unfold sp36 cnS; rw [if_neg (show ¬ (11 ≤ x0 ∧ x0 ≤ 16) by omega), if_neg (show ¬ x0 = 0 by omega), if_neg (show ¬ x0 = 1 by omega), if_neg (show ¬ x0 = 2 by omega), if_pos (show x0 = 3 by omega)]), (mI_put hI hA hyA (frT_rf 1 X)), (frM_T (frT_rf 1 X))⟩)
    · refine ev_tabin (pc := 24) hC 92 dX6_count_24 (by omega) (by omega) (by rw [c24]; rfl) (by decide) ?_
      refine ev_iconst (pc := 92) hC dX6_count_92 ?_
      refine ev_istore_n (pc := 93) hC dX6_count_93 (by rw [hKn]; decide) rfl ?_
      show Ev K 94 [some (.ref 29), some (vi x0), some (vi 0), some (vi 0)] [] X
      have lp94 : ∀ (fz : Nat) (i : Nat) (b : Nat), 25 - i < fz → (i ≤ 25) → (b = sumB i (A 0)) → Ev K 94 [some (.ref 29), some (vi x0), some (vi ((b : Nat) : Int)), some (vi ((i : Nat) : Int))] [] X := by
        intro fz
        induction fz with
        | zero => intro i b hfz; exact absurd hfz (Nat.not_lt_zero _)
        | succ fz ih94 =>
          intro i b hfz hi hb
          refine ev_iload_n (pc := 94) hC dX6_count_94 rfl ?_
          refine ev_bipush (pc := 95) hC dX6_count_95 (by decide) ?_
          refine ev_icmp_ge (pc := 97) hC 115 dX6_count_97 (by decide) (by omega) (by omega) (fun c97 => ?_) (fun c97 => ?_)
          · refine ev_iload_n (pc := 115) hC dX6_count_115 rfl ?_
            exact ev_ireturn (pc := 116) hC hR dX6_count_116 (⟨rv (by unfold sp36 cnS; rw [if_neg (show ¬ (11 ≤ x0 ∧ x0 ≤ 16) by omega), if_neg (show ¬ x0 = 0 by omega), if_neg (show ¬ x0 = 1 by omega), if_neg (show ¬ x0 = 2 by omega), if_neg (show ¬ x0 = 3 by omega), if_pos (show x0 = 4 by omega)]; rw [hb, show i = 25 by omega]), (mI_put hI hA hyA (frT_rf 1 X)), (frM_T (frT_rf 1 X))⟩)
          · refine ev_iload_n (pc := 100) hC dX6_count_100 rfl ?_
            refine ev_aload_n (pc := 101) hC dX6_count_101 rfl ?_
            refine ev_getr (pc := 102) hC 31 f13 dX6_count_102 (by decide) (by decide) (by decide) (by decide) (by decide) ?_
            refine ev_iload_n (pc := 105) hC dX6_count_105 rfl ?_
            have hb106 := hA.d99 i (by omega)
            refine ev_iald (pc := 106) hC i ((A 0 i : Nat) : Int) (by decide) (by decide) (rfl) (by have := (show alen 31 = 25 from rfl); omega) (hA.m0 i (by omega)) dX6_count_106 ?_
            refine ev_iadd (pc := 107) hC ((b + (A 0 i) : Nat) : Int) (by omega) dX6_count_107 ?_
            refine ev_istore_n (pc := 108) hC dX6_count_108 (by rw [hKn]; decide) rfl ?_
            show Ev K 109 [some (.ref 29), some (vi x0), some (vi ((b + (A 0 i) : Nat) : Int)), some (vi ((i : Nat) : Int))] [] X
            refine ev_iinc (pc := 109) hC ((i + 1 : Nat) : Int) dX6_count_109 rfl (by omega) (by rw [hKn]; decide) rfl ?_
            show Ev K 112 [some (.ref 29), some (vi x0), some (vi ((b + (A 0 i) : Nat) : Int)), some (vi ((i + 1 : Nat) : Int))] [] X
            refine ev_goto (pc := 112) hC 94 dX6_count_112 (by decide) ?_
            exact ih94 (i + 1) (b + (A 0 i)) (by omega) (by omega) (by rw [sumB_s, ← hb])
      exact lp94 _ 0 0 (Nat.lt_succ_self _) (by omega) rfl
    · refine ev_tabin (pc := 24) hC 117 dX6_count_24 (by omega) (by omega) (by rw [c24]; rfl) (by decide) ?_
      refine ev_aload_n (pc := 117) hC dX6_count_117 rfl ?_
      refine ev_callV (pc := 118) (as := []) (rest := []) hC gX6_count_X6_here mtX6_here dX6_count_118 (ru_X6_here hA) (by decide) (by decide) (by decide) rfl (by rfl) (Nat.le_of_ble_eq_true rfl) rfl (fun v118 X118 h118 => ?_)
      obtain ⟨rfl, rfl⟩ := h118
      show Ev K 121 [some (.ref 29), some (vi x0), some (vi 0), none] [vi ((here A : Nat) : Int)] X
      have hh118 := here_lt A
      exact ev_ireturn (pc := 121) hC hR dX6_count_121 (⟨rv (by unfold sp36 cnS; rw [if_neg (show ¬ (11 ≤ x0 ∧ x0 ≤ 16) by omega), if_neg (show ¬ x0 = 0 by omega), if_neg (show ¬ x0 = 1 by omega), if_neg (show ¬ x0 = 2 by omega), if_neg (show ¬ x0 = 3 by omega), if_neg (show ¬ x0 = 4 by omega), if_pos (show x0 = 5 by omega)]), (mI_put hI hA hyA (frT_rf 1 X)), (frM_T (frT_rf 1 X))⟩)
    · refine ev_tabin (pc := 24) hC 122 dX6_count_24 (by omega) (by omega) (by rw [c24]; rfl) (by decide) ?_
      refine ev_aload_n (pc := 122) hC dX6_count_122 rfl ?_
      refine ev_geti (pc := 123) hC ((rs : Nat) : Int) f266 dX6_count_123 (by decide) (by decide) (by decide) (by decide) (by decide)  (hW.1) ?_
      exact ev_ireturn (pc := 126) hC hR dX6_count_126 (⟨rv (by unfold sp36 cnS; rw [if_neg (show ¬ (11 ≤ x0 ∧ x0 ≤ 16) by omega), if_neg (show ¬ x0 = 0 by omega), if_neg (show ¬ x0 = 1 by omega), if_neg (show ¬ x0 = 2 by omega), if_neg (show ¬ x0 = 3 by omega), if_neg (show ¬ x0 = 4 by omega), if_neg (show ¬ x0 = 5 by omega), if_pos (show x0 = 6 by omega)]), (mI_put hI hA hyA (frT_rf 1 X)), (frM_T (frT_rf 1 X))⟩)
    · refine ev_tabin (pc := 24) hC 127 dX6_count_24 (by omega) (by omega) (by rw [c24]; rfl) (by decide) ?_
      refine ev_aload_n (pc := 127) hC dX6_count_127 rfl ?_
      refine ev_geti (pc := 128) hC ((n : Nat) : Int) f70 dX6_count_128 (by decide) (by decide) (by decide) (by decide) (by decide)  (hT.1) ?_
      exact ev_ireturn (pc := 131) hC hR dX6_count_131 (⟨rv (by unfold sp36 cnS; rw [if_neg (show ¬ (11 ≤ x0 ∧ x0 ≤ 16) by omega), if_neg (show ¬ x0 = 0 by omega), if_neg (show ¬ x0 = 1 by omega), if_neg (show ¬ x0 = 2 by omega), if_neg (show ¬ x0 = 3 by omega), if_neg (show ¬ x0 = 4 by omega), if_neg (show ¬ x0 = 5 by omega), if_neg (show ¬ x0 = 6 by omega), if_pos (show x0 = 7 by omega)]), (mI_put hI hA hyA (frT_rf 1 X)), (frM_T (frT_rf 1 X))⟩)
    · refine ev_tabout (pc := 24) hC 132 dX6_count_24 (by omega) (by omega) (by decide) ?_
      refine ev_bipush (pc := 132) hC dX6_count_132 (by decide) ?_
      exact ev_ireturn (pc := 134) hC hR dX6_count_134 (⟨rv (by unfold sp36 cnS; rw [if_neg (show ¬ (11 ≤ x0 ∧ x0 ≤ 16) by omega), if_neg (show ¬ x0 = 0 by omega), if_neg (show ¬ x0 = 1 by omega), if_neg (show ¬ x0 = 2 by omega), if_neg (show ¬ x0 = 3 by omega), if_neg (show ¬ x0 = 4 by omega), if_neg (show ¬ x0 = 5 by omega), if_neg (show ¬ x0 = 6 by omega), if_neg (show ¬ x0 = 7 by omega)]), (mI_put hI hA hyA (frT_rf 1 X)), (frM_T (frT_rf 1 X))⟩)
  · have e8 := of_decide_eq_true (b2i_1 c8)
    refine ev_aload_n (pc := 11) hC dX6_count_11 rfl ?_
    refine ev_getr (pc := 12) hC 30 f7 dX6_count_12 (by decide) (by decide) (by decide) (by decide) (by decide) ?_
    refine ev_iload_n (pc := 15) hC dX6_count_15 rfl ?_
    refine ev_bipush (pc := 16) hC dX6_count_16 (by decide) ?_
    refine ev_isub (pc := 18) hC (x0 - 10) (rfl) dX6_count_18 ?_
    refine ev_iald (pc := 19) hC ((x0 - 10).toNat) ((C (x0 - 10).toNat : Nat) : Int) (by decide) (by decide) (by omega) (by have := (show alen 30 = 7 from rfl); omega) (hCn _ (by omega)) dX6_count_19 ?_
    exact ev_ireturn (pc := 20) hC hR dX6_count_20 (⟨rv (cnS_r (V := (A, B, hh, T, n, W, rs, C)) (x := x0) (by omega)), (mI_put hI hA hyA (frT_rf 1 X)), (frM_T (frT_rf 1 X))⟩)
theorem mtX6_makes : MT yX6_makes wsX6_makes cX6_makes 5 (some .int) 1 := ⟨⟨_, rfl⟩, by decide, by decide, by decide +kernel⟩
set_option maxRecDepth 100000 in
set_option maxHeartbeats 4000000 in
theorem ru_X6_makes {X : Mem} {V : St} (hV : mI X V) (x0 : Int) (hx0 : -2147483648 ≤ x0 ∧ x0 ≤ 2147483647) : Ru yX6_makes wsX6_makes 11 244 [.ref 29, vi x0] X (fun v X' => v = some (vi (sp14 x0 V).1) ∧ mI X' (sp14 x0 V).2 ∧ frM X X') := by
  refine ru_of (w2 := _) rfl (by decide) [some (.ref 29), some (vi x0), none, none, none] (fun _ => rfl) (fun _ => Nat.le_of_ble_eq_true rfl) ?_
  intro K hKn hC hR
  have wX6 : ∀ w ∈ u_ws RX6 TX6 25, w ∈ wsX6_makes := by decide +kernel
  have f52 : Fl K RX6 52 6 6 := fl_of hC RX6 TX6 25 rfl (by decide) wX6 (show Cond.fieldLink RX6 52 "PicnicOfSomebodyModel" "people" "I" ∈ _ by decide +kernel)
  obtain ⟨A, B, hh, T, n, W, rs, C⟩ := V
  have hA : Rp (vM X) A := hV.1
  have hyA : A 5 1 ≤ 999 := hV.2.1
  have hB : hh = true → Rp (vK X 0) B ∧ B 5 1 ≤ 999 := hV.2.2.1
  have hi : X 29 17 = zI (b2i hh) := hV.2.2.2.1
  have hg : X 29 8 = zI ((0 : Nat) : Int) := hV.2.2.2.2.1
  have hT : TxM X T n := hV.2.2.2.2.2.1
  have hW : RwM X W rs := hV.2.2.2.2.2.2.1
  have hCn : ∀ k, k < 7 → X 30 k = zI (C k : Nat) := hV.2.2.2.2.2.2.2
  have hn8 := hA.n8
  have hn96 := hT.2.1
  have hrs := hW.2.1
  have hG : 0 < 256 := by decide
  have hI : mI X (A, B, hh, T, n, W, rs, C) := hV
  have hq1 := bnd_cases x0 0 20
  have hpw : 2 ^ (A 5 0) ≤ 256 := pow8 hn8
  refine ev_iload_n (pc := 0) hC dX6_makes_0 rfl ?_
  refine ev_callS (pc := 1) (as := [vi x0]) (rest := []) hC gX6_makes_X6_notShort mtX6_notShort dX6_makes_1 (ru_X6_notShort x0 (by omega)) (by decide) (by rfl) (Nat.le_of_ble_eq_true rfl) rfl (fun v1 X1 h1 => ?_)
  obtain ⟨rfl, rfl⟩ := h1
  show Ev K 4 [some (.ref 29), some (vi x0), none, none, none] [vi (bnd x0 0 20)] X
  have hbd1 := bnd_cases x0 0 20
  refine ev_istore_n (pc := 4) hC dX6_makes_4 (by rw [hKn]; decide) rfl ?_
  show Ev K 5 [some (.ref 29), some (vi x0), some (vi (bnd x0 0 20)), none, none] [] X
  refine ev_iload_n (pc := 5) hC dX6_makes_5 rfl ?_
  refine ev_if_eq (pc := 6) hC 15 dX6_makes_6 (by decide) (by omega) (fun c6 => ?_) (fun c6 => ?_)
  · obtain ⟨p0, rfl⟩ : ∃ k : Nat, x0 = (k : Int) := ⟨x0.toNat, by omega⟩
    refine ev_bipush (pc := 15) hC dX6_makes_15 (by decide) ?_
    refine ev_istore_n (pc := 17) hC dX6_makes_17 (by rw [hKn]; decide) rfl ?_
    show Ev K 18 [some (.ref 29), some (vi ((p0 : Nat) : Int)), some (vi (bnd ((p0 : Nat) : Int) 0 20)), some (vi (-9)), none] [] X
    refine ev_iconst (pc := 18) hC dX6_makes_18 ?_
    refine ev_istore (pc := 19) hC dX6_makes_19 (by rw [hKn]; decide) rfl ?_
    show Ev K 21 [some (.ref 29), some (vi ((p0 : Nat) : Int)), some (vi (bnd ((p0 : Nat) : Int) 0 20)), some (vi (-9)), some (vi 0)] [] X
    have lp21 : ∀ (fz : Nat) (S : Nat) (b : Int) (Y : Mem), 2 ^ (A 5 0) - S < fz → (S ≤ 2 ^ (A 5 0)) → (mkI (mkP p0 A) S b) → (-9 ≤ b ∧ b < 256) → (Rp (vM Y) A) → (Y 29 8 = zI ((0 : Nat) : Int)) → (frT 1 X Y) → Ev K 21 [some (.ref 29), some (vi ((p0 : Nat) : Int)), some (vi (bnd ((p0 : Nat) : Int) 0 20)), some (vi b), some (vi ((S : Nat) : Int))] [] Y := by
      intro fz
      induction fz with
      | zero => intro S b Y hfz; exact absurd hfz (Nat.not_lt_zero _)
      | succ fz ih21 =>
        intro S b Y hfz hS hm hbr hAY hgY hFY
        have hY8 := hAY.n8
        refine ev_iload (pc := 21) hC dX6_makes_21 rfl ?_
        refine ev_iconst (pc := 23) hC dX6_makes_23 ?_
        refine ev_aload_n (pc := 24) hC dX6_makes_24 rfl ?_
        refine ev_geti (pc := 25) hC ((A 5 0 : Nat) : Int) f52 dX6_makes_25 (by decide) (by decide) (by decide) (by decide) (by decide)  (hAY.mn) ?_
        refine ev_ishl (pc := 28) hC ((2 ^ (A 5 0) : Nat) : Int) (zI_shl1 (A 5 0) (by omega)) dX6_makes_28 ?_
        refine ev_icmp_ge (pc := 29) hC 74 dX6_makes_29 (by decide) (by omega) (by omega) (fun c29 => ?_) (fun c29 => ?_)
        · refine ev_iload_n (pc := 74) hC dX6_makes_74 rfl ?_
          exact ev_ireturn (pc := 75) hC hR dX6_makes_75 (ok_endM (show bnd ((p0 : Nat) : Int) 0 20 = 0 by omega) ((mk_e hm).trans (by rw [show S = 2 ^ (A 5 0) by omega]; first | done | rfl)) (mI_put hI hAY hyA hFY) (frM_T hFY))
        · refine ev_iload_n (pc := 32) hC dX6_makes_32 rfl ?_
          refine ev_if_lt (pc := 33) hC 51 dX6_makes_33 (by decide) (by omega) (fun c33 => ?_) (fun c33 => ?_)
          · refine ev_aload_n (pc := 51) hC dX6_makes_51 rfl ?_
            refine ev_iload (pc := 52) hC dX6_makes_52 rfl ?_
            refine ev_iload_n (pc := 54) hC dX6_makes_54 rfl ?_
            refine ev_callV (pc := 55) (as := [vi ((S : Nat) : Int), vi ((p0 : Nat) : Int)]) (rest := []) hC gX6_makes_X6_believersIf mtX6_believersIf dX6_makes_55 (ru_X6_believersIf hAY hgY hG S p0 (by omega) (by omega)) (by decide) (by decide) (by decide) rfl (by rfl) (Nat.le_of_ble_eq_true rfl) rfl (fun v55 X55 h55 => ?_)
            obtain ⟨rfl, hA55, hF55⟩ := h55
            show Ev K 58 [some (.ref 29), some (vi ((p0 : Nat) : Int)), some (vi (bnd ((p0 : Nat) : Int) 0 20)), some (vi b), some (vi ((S : Nat) : Int))] [vi ((bset 0 (goN 0 p0 (nines S A)) : Nat) : Int)] X55
            have hgn55 := goN_n 0 (nines S A) p0
            have hbl55 : bset 0 (goN 0 p0 (nines S A)) < 256 := bset_lt (by rw [hgn55]; exact hAY.n8)
            have hg55 := frT_gone hF55 hgY
            have hFr55 := frT_tr hFY hF55 (by omega)
            have hn8_55 := hA55.n8
            refine ev_aload_n (pc := 58) hC dX6_makes_58 rfl ?_
            refine ev_callV (pc := 59) (as := []) (rest := [vi ((bset 0 (goN 0 p0 (nines S A)) : Nat) : Int)]) hC gX6_makes_X6_everybody mtX6_everybody dX6_makes_59 (ru_X6_everybody hA55) (by decide) (by decide) (by decide) rfl (by rfl) (Nat.le_of_ble_eq_true rfl) rfl (fun v59 X59 h59 => ?_)
            obtain ⟨rfl, rfl⟩ := h59
            show Ev K 62 [some (.ref 29), some (vi ((p0 : Nat) : Int)), some (vi (bnd ((p0 : Nat) : Int) 0 20)), some (vi b), some (vi ((S : Nat) : Int))] [vi ((evb A : Nat) : Int), vi ((bset 0 (goN 0 p0 (nines S A)) : Nat) : Int)] X55
            have hl59 := evb_lt (A := A) (by omega)
            have hev : evb (goN 0 p0 (nines S A)) = evb A := by unfold evb; rw [goN_n]; rfl
            refine ev_icmp_ne (pc := 62) hC 68 dX6_makes_62 (by decide) (by omega) (by omega) (fun c62 => ?_) (fun c62 => ?_)
            · have e62 : mkP p0 A S = false := all_f (by omega)
              refine ev_iinc (pc := 68) hC ((S + 1 : Nat) : Int) dX6_makes_68 rfl (by omega) (by rw [hKn]; decide) rfl ?_
              show Ev K 71 [some (.ref 29), some (vi ((p0 : Nat) : Int)), some (vi (bnd ((p0 : Nat) : Int) 0 20)), some (vi b), some (vi ((S + 1 : Nat) : Int))] [] X55
              refine ev_goto (pc := 71) hC 21 dX6_makes_71 (by decide) ?_
              exact ih21 (S + 1) b X55 (by omega) (by omega) (mk_f hm e62) (by omega) hA55 hg55 hFr55
            · have e62 : mkP p0 A S = true := all_t (by omega)
              refine ev_iload (pc := 65) hC dX6_makes_65 rfl ?_
              refine ev_istore_n (pc := 67) hC dX6_makes_67 (by rw [hKn]; decide) rfl ?_
              show Ev K 68 [some (.ref 29), some (vi ((p0 : Nat) : Int)), some (vi (bnd ((p0 : Nat) : Int) 0 20)), some (vi ((S : Nat) : Int)), some (vi ((S : Nat) : Int))] [] X55
              refine ev_iinc (pc := 68) hC ((S + 1 : Nat) : Int) dX6_makes_68 rfl (by omega) (by rw [hKn]; decide) rfl ?_
              show Ev K 71 [some (.ref 29), some (vi ((p0 : Nat) : Int)), some (vi (bnd ((p0 : Nat) : Int) 0 20)), some (vi ((S : Nat) : Int)), some (vi ((S + 1 : Nat) : Int))] [] X55
              refine ev_goto (pc := 71) hC 21 dX6_makes_71 (by decide) ?_
              exact ih21 (S + 1) ((S : Nat) : Int) X55 (by omega) (by omega) (mk_t hm (by omega) (Or.inl c33) e62) (by omega) hA55 hg55 hFr55
          · obtain ⟨bn, rfl⟩ : ∃ k : Nat, b = (k : Int) := ⟨b.toNat, by omega⟩
            refine ev_iload (pc := 36) hC dX6_makes_36 rfl ?_
            refine ev_callS (pc := 38) (as := [vi ((S : Nat) : Int)]) (rest := []) hC gX6_makes_X6_bits mtX6_bits dX6_makes_38 (ru_X6_bits S (by omega)) (by decide) (by rfl) (Nat.le_of_ble_eq_true rfl) rfl (fun v38 X38 h38 => ?_)
            obtain ⟨rfl, rfl⟩ := h38
            show Ev K 41 [some (.ref 29), some (vi ((p0 : Nat) : Int)), some (vi (bnd ((p0 : Nat) : Int) 0 20)), some (vi ((bn : Nat) : Int)), some (vi ((S : Nat) : Int))] [vi ((pop S : Nat) : Int)] Y
            have hp38 := pop_le S
            refine ev_iload_n (pc := 41) hC dX6_makes_41 rfl ?_
            refine ev_callS (pc := 42) (as := [vi ((bn : Nat) : Int)]) (rest := [vi ((pop S : Nat) : Int)]) hC gX6_makes_X6_bits mtX6_bits dX6_makes_42 (ru_X6_bits bn (by omega)) (by decide) (by rfl) (Nat.le_of_ble_eq_true rfl) rfl (fun v42 X42 h42 => ?_)
            obtain ⟨rfl, rfl⟩ := h42
            show Ev K 45 [some (.ref 29), some (vi ((p0 : Nat) : Int)), some (vi (bnd ((p0 : Nat) : Int) 0 20)), some (vi ((bn : Nat) : Int)), some (vi ((S : Nat) : Int))] [vi ((pop bn : Nat) : Int), vi ((pop S : Nat) : Int)] Y
            have hp42 := pop_le bn
            refine ev_icmp_lt (pc := 45) hC 51 dX6_makes_45 (by decide) (by omega) (by omega) (fun c45 => ?_) (fun c45 => ?_)
            · refine ev_aload_n (pc := 51) hC dX6_makes_51 rfl ?_
              refine ev_iload (pc := 52) hC dX6_makes_52 rfl ?_
              refine ev_iload_n (pc := 54) hC dX6_makes_54 rfl ?_
              refine ev_callV (pc := 55) (as := [vi ((S : Nat) : Int), vi ((p0 : Nat) : Int)]) (rest := []) hC gX6_makes_X6_believersIf mtX6_believersIf dX6_makes_55 (ru_X6_believersIf hAY hgY hG S p0 (by omega) (by omega)) (by decide) (by decide) (by decide) rfl (by rfl) (Nat.le_of_ble_eq_true rfl) rfl (fun v55 X55 h55 => ?_)
              obtain ⟨rfl, hA55, hF55⟩ := h55
              show Ev K 58 [some (.ref 29), some (vi ((p0 : Nat) : Int)), some (vi (bnd ((p0 : Nat) : Int) 0 20)), some (vi ((bn : Nat) : Int)), some (vi ((S : Nat) : Int))] [vi ((bset 0 (goN 0 p0 (nines S A)) : Nat) : Int)] X55
              have hgn55 := goN_n 0 (nines S A) p0
              have hbl55 : bset 0 (goN 0 p0 (nines S A)) < 256 := bset_lt (by rw [hgn55]; exact hAY.n8)
              have hg55 := frT_gone hF55 hgY
              have hFr55 := frT_tr hFY hF55 (by omega)
              have hn8_55 := hA55.n8
              refine ev_aload_n (pc := 58) hC dX6_makes_58 rfl ?_
              refine ev_callV (pc := 59) (as := []) (rest := [vi ((bset 0 (goN 0 p0 (nines S A)) : Nat) : Int)]) hC gX6_makes_X6_everybody mtX6_everybody dX6_makes_59 (ru_X6_everybody hA55) (by decide) (by decide) (by decide) rfl (by rfl) (Nat.le_of_ble_eq_true rfl) rfl (fun v59 X59 h59 => ?_)
              obtain ⟨rfl, rfl⟩ := h59
              show Ev K 62 [some (.ref 29), some (vi ((p0 : Nat) : Int)), some (vi (bnd ((p0 : Nat) : Int) 0 20)), some (vi ((bn : Nat) : Int)), some (vi ((S : Nat) : Int))] [vi ((evb A : Nat) : Int), vi ((bset 0 (goN 0 p0 (nines S A)) : Nat) : Int)] X55
              have hl59 := evb_lt (A := A) (by omega)
              have hev : evb (goN 0 p0 (nines S A)) = evb A := by unfold evb; rw [goN_n]; rfl
              refine ev_icmp_ne (pc := 62) hC 68 dX6_makes_62 (by decide) (by omega) (by omega) (fun c62 => ?_) (fun c62 => ?_)
              · have e62 : mkP p0 A S = false := all_f (by omega)
                refine ev_iinc (pc := 68) hC ((S + 1 : Nat) : Int) dX6_makes_68 rfl (by omega) (by rw [hKn]; decide) rfl ?_
                show Ev K 71 [some (.ref 29), some (vi ((p0 : Nat) : Int)), some (vi (bnd ((p0 : Nat) : Int) 0 20)), some (vi ((bn : Nat) : Int)), some (vi ((S + 1 : Nat) : Int))] [] X55
                refine ev_goto (pc := 71) hC 21 dX6_makes_71 (by decide) ?_
                exact ih21 (S + 1) ((bn : Nat) : Int) X55 (by omega) (by omega) (mk_f hm e62) (by omega) hA55 hg55 hFr55
              · have e62 : mkP p0 A S = true := all_t (by omega)
                refine ev_iload (pc := 65) hC dX6_makes_65 rfl ?_
                refine ev_istore_n (pc := 67) hC dX6_makes_67 (by rw [hKn]; decide) rfl ?_
                show Ev K 68 [some (.ref 29), some (vi ((p0 : Nat) : Int)), some (vi (bnd ((p0 : Nat) : Int) 0 20)), some (vi ((S : Nat) : Int)), some (vi ((S : Nat) : Int))] [] X55
                refine ev_iinc (pc := 68) hC ((S + 1 : Nat) : Int) dX6_makes_68 rfl (by omega) (by rw [hKn]; decide) rfl ?_
                show Ev K 71 [some (.ref 29), some (vi ((p0 : Nat) : Int)), some (vi (bnd ((p0 : Nat) : Int) 0 20)), some (vi ((S : Nat) : Int)), some (vi ((S + 1 : Nat) : Int))] [] X55
                refine ev_goto (pc := 71) hC 21 dX6_makes_71 (by decide) ?_
                exact ih21 (S + 1) ((S : Nat) : Int) X55 (by omega) (by omega) (mk_t hm (by omega) (Or.inr (by show pop S < pop bn; omega)) e62) (by omega) hA55 hg55 hFr55
            · refine ev_goto (pc := 48) hC 68 dX6_makes_48 (by decide) ?_
              refine ev_iinc (pc := 68) hC ((S + 1 : Nat) : Int) dX6_makes_68 rfl (by omega) (by rw [hKn]; decide) rfl ?_
              show Ev K 71 [some (.ref 29), some (vi ((p0 : Nat) : Int)), some (vi (bnd ((p0 : Nat) : Int) 0 20)), some (vi ((bn : Nat) : Int)), some (vi ((S + 1 : Nat) : Int))] [] Y
              refine ev_goto (pc := 71) hC 21 dX6_makes_71 (by decide) ?_
              exact ih21 (S + 1) ((bn : Nat) : Int) Y (by omega) (by omega) (mk_g hm (by omega) (by show ¬ pop S < pop bn; omega)) (by omega) hAY hgY hFY
    exact lp21 _ 0 (-9) X (Nat.lt_succ_self _) (Nat.zero_le _) (Or.inl ⟨rfl, rfl⟩) (by omega) hA hg (frT_rf 1 X)
  · refine ev_aload_n (pc := 9) hC dX6_makes_9 rfl ?_
    refine ev_iload_n (pc := 10) hC dX6_makes_10 rfl ?_
    refine ev_callV (pc := 11) (as := [vi (bnd x0 0 20)]) (rest := []) hC gX6_makes_X6_no mtX6_no dX6_makes_11 (ru_X6_no2 (bnd x0 0 20) (by omega)) (by decide) (by decide) (by decide) rfl (by rfl) (Nat.le_of_ble_eq_true rfl) rfl (fun v11 X11 h11 => ?_)
    obtain ⟨rfl, rfl⟩ := h11
    show Ev K 14 [some (.ref 29), some (vi x0), some (vi (bnd x0 0 20)), none, none] [vi (bnd x0 0 20)] (mset X 30 (-(bnd x0 0 20)).toNat (X 30 (-(bnd x0 0 20)).toNat + 1))
    exact ev_ireturn (pc := 14) hC hR dX6_makes_14 (no_endM (show bnd x0 0 20 = (bnd x0 0 20) by omega) (by omega) hI)
