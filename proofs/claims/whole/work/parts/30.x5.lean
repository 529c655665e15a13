theorem mtX5_refuse : MT yX5_refuse wsX5_refuse cX5_refuse 3 (some .int) 1 := ⟨⟨_, rfl⟩, by decide, by decide, by decide +kernel⟩
set_option maxRecDepth 100000 in
set_option maxHeartbeats 4000000 in
theorem ru_X5_refuse {X : Mem} (z : Int) (hz : -6 ≤ z ∧ z ≤ -1) : Ru yX5_refuse wsX5_refuse 0 0 [.ref 0, vi z] X (fun v X' => v = some (vi z) ∧ X' = mset X 8 (-z).toNat (X 8 (-z).toNat + 1)) := by
  refine ru_of (w2 := _) rfl (by decide) [some (.ref 0), some (vi z), none] (fun _ => rfl) (fun _ => Nat.le_of_ble_eq_true rfl) ?_
  intro K hKn hC hR
  have wX5 : ∀ w ∈ u_ws RX5 TX5 9, w ∈ wsX5_refuse := by decide +kernel
  have f54 : Fl K RX5 54 5 7 := fl_of hC RX5 TX5 9 rfl (by decide) wX5 (show Cond.fieldLink RX5 54 "PicnicOfSomebody" "refusals" "[I" ∈ _ by decide +kernel)
  refine ev_iload_n (pc := 0) hC dX5_refuse_0 rfl ?_
  refine ev_ineg (pc := 1) hC (- z) (rfl) dX5_refuse_1 ?_
  refine ev_istore_n (pc := 2) hC dX5_refuse_2 (by rw [hKn]; decide) rfl ?_
  show Ev K 3 [some (.ref 0), some (vi z), some (vi (- z))] [] X
  refine ev_iload_n (pc := 3) hC dX5_refuse_3 rfl ?_
  refine ev_if_le (pc := 4) hC 23 dX5_refuse_4 (by decide) (by omega) (fun c4 => ?_) (fun c4 => ?_)
  · exact absurd c4 (by omega)
  · refine ev_iload_n (pc := 7) hC dX5_refuse_7 rfl ?_
    refine ev_bipush (pc := 8) hC dX5_refuse_8 (by decide) ?_
    refine ev_icmp_ge (pc := 10) hC 23 dX5_refuse_10 (by decide) (by omega) (by omega) (fun c10 => ?_) (fun c10 => ?_)
    · exact absurd c10 (by omega)
    · refine ev_aload_n (pc := 13) hC dX5_refuse_13 rfl ?_
      refine ev_getr (pc := 14) hC 8 f54 dX5_refuse_14 (by decide) (by decide) (by decide) (by decide) (by decide) ?_
      refine ev_iload_n (pc := 17) hC dX5_refuse_17 rfl ?_
      refine ev_dup2 (pc := 18) hC rfl rfl dX5_refuse_18 ?_
      refine ev_iald (pc := 19) hC ((-z).toNat) ((X 8 (-z).toNat).toInt) (by decide) (by decide) (by omega) (by have := (show alen 8 = 7 from rfl); omega) ((zI_self _).symm) dX5_refuse_19 ?_
      refine ev_iconst (pc := 20) hC dX5_refuse_20 ?_
      refine ev_iadd (pc := 21) hC ((X 8 (-z).toNat).toInt + 1) (rfl) dX5_refuse_21 ?_
      refine ev_iast (pc := 22) hC ((-z).toNat) (by decide) (by decide) (by omega) (by have := (show alen 8 = 7 from rfl); omega) dX5_refuse_22 ?_
      refine ev_iload_n (pc := 23) hC dX5_refuse_23 rfl ?_
      exact ev_ireturn (pc := 24) hC hR dX5_refuse_24 (⟨rfl, by rw [zI_add1]⟩)
theorem mtX5_noPerson : MT yX5_noPerson wsX5_noPerson cX5_noPerson 2 (some .int) 1 := ⟨⟨_, rfl⟩, by decide, by decide, by decide +kernel⟩
set_option maxRecDepth 100000 in
set_option maxHeartbeats 4000000 in
theorem ru_X5_noPerson {X : Mem} {A : Sl} (hA : Rp (vC X 1) A) (x : Int) (hx : -2147483648 ≤ x ∧ x ≤ 2147483647) : Ru yX5_noPerson wsX5_noPerson 0 0 [.ref 0, vi x] X (fun v X' => v = some (vi (cdP A x)) ∧ X = X') := by
  refine ru_of (w2 := _) rfl (by decide) [some (.ref 0), some (vi x)] (fun _ => rfl) (fun _ => Nat.le_of_ble_eq_true rfl) ?_
  intro K hKn hC hR
  have wX5 : ∀ w ∈ u_ws RX5 TX5 9, w ∈ wsX5_noPerson := by decide +kernel
  have f12 : Fl K RX5 12 5 0 := fl_of hC RX5 TX5 9 rfl (by decide) wX5 (show Cond.fieldLink RX5 12 "PicnicOfSomebody" "now" "LPicnicOfSomebody$Slope;" ∈ _ by decide +kernel)
  have wX3 : ∀ w ∈ u_ws RX3 TX3 8, w ∈ wsX5_noPerson := by decide +kernel
  have f211 : Fl K RX5 211 3 6 := fl_of hC RX3 TX3 8 rfl (by decide) wX3 (show Cond.fieldLink RX5 211 "PicnicOfSomebody$Slope" "people" "I" ∈ _ by decide +kernel)
  have hn8 := hA.n8
  have hcc := cdP_cases A x
  refine ev_iload_n (pc := 0) hC dX5_noPerson_0 rfl ?_
  refine ev_if_lt (pc := 1) hC 15 dX5_noPerson_1 (by decide) (by omega) (fun c1 => ?_) (fun c1 => ?_)
  · refine ev_iconst (pc := 15) hC dX5_noPerson_15 ?_
    refine ev_goto (pc := 16) hC 20 dX5_noPerson_16 (by decide) ?_
    exact ev_ireturn (pc := 20) hC hR dX5_noPerson_20 (⟨rv (by omega), rfl⟩)
  · refine ev_iload_n (pc := 4) hC dX5_noPerson_4 rfl ?_
    refine ev_aload_n (pc := 5) hC dX5_noPerson_5 rfl ?_
    refine ev_getr (pc := 6) hC 1 f12 dX5_noPerson_6 (by decide) (by decide) (by decide) (by decide) (by decide) ?_
    refine ev_geti (pc := 9) hC ((A 5 0 : Nat) : Int) f211 dX5_noPerson_9 (by decide) (by decide) (by decide) (by decide) (by decide)  (hA.cn) ?_
    refine ev_icmp_lt (pc := 12) hC 19 dX5_noPerson_12 (by decide) (by omega) (by omega) (fun c12 => ?_) (fun c12 => ?_)
    · refine ev_iconst (pc := 19) hC dX5_noPerson_19 ?_
      exact ev_ireturn (pc := 20) hC hR dX5_noPerson_20 (⟨rv (by omega), rfl⟩)
    · refine ev_iconst (pc := 15) hC dX5_noPerson_15 ?_
      refine ev_goto (pc := 16) hC 20 dX5_noPerson_16 (by decide) ?_
      exact ev_ireturn (pc := 20) hC hR dX5_noPerson_20 (⟨rv (by omega), rfl⟩)
theorem mtX5_noCell : MT yX5_noCell wsX5_noCell cX5_noCell 1 (some .int) 1 := ⟨⟨_, rfl⟩, by decide, by decide, by decide +kernel⟩
set_option maxRecDepth 100000 in
set_option maxHeartbeats 4000000 in
theorem ru_X5_noCell {X : Mem} (x : Int) (hx : -2147483648 ≤ x ∧ x ≤ 2147483647) : Ru yX5_noCell wsX5_noCell 0 0 [vi x] X (fun v X' => v = some (vi (cdC x)) ∧ X = X') := by
  refine ru_of (w2 := _) rfl (by decide) [some (vi x)] (fun _ => rfl) (fun _ => Nat.le_of_ble_eq_true rfl) ?_
  intro K hKn hC hR
  have hcc := cdC_cases x
  refine ev_iload_n (pc := 0) hC dX5_noCell_0 rfl ?_
  refine ev_if_lt (pc := 1) hC 10 dX5_noCell_1 (by decide) (by omega) (fun c1 => ?_) (fun c1 => ?_)
  · refine ev_iconst (pc := 10) hC dX5_noCell_10 ?_
    refine ev_goto (pc := 11) hC 15 dX5_noCell_11 (by decide) ?_
    exact ev_ireturn (pc := 15) hC hR dX5_noCell_15 (⟨rv (by omega), rfl⟩)
  · refine ev_iload_n (pc := 4) hC dX5_noCell_4 rfl ?_
    refine ev_bipush (pc := 5) hC dX5_noCell_5 (by decide) ?_
    refine ev_icmp_lt (pc := 7) hC 14 dX5_noCell_7 (by decide) (by omega) (by omega) (fun c7 => ?_) (fun c7 => ?_)
    · refine ev_iconst (pc := 14) hC dX5_noCell_14 ?_
      exact ev_ireturn (pc := 15) hC hR dX5_noCell_15 (⟨rv (by omega), rfl⟩)
    · refine ev_iconst (pc := 10) hC dX5_noCell_10 ?_
      refine ev_goto (pc := 11) hC 15 dX5_noCell_11 (by decide) ?_
      exact ev_ireturn (pc := 15) hC hR dX5_noCell_15 (⟨rv (by omega), rfl⟩)
theorem mtX5_other : MT yX5_other wsX5_other cX5_other 2 (some .int) 2 := ⟨⟨_, rfl⟩, by decide, by decide, by decide +kernel⟩
set_option maxRecDepth 100000 in
set_option maxHeartbeats 4000000 in
theorem ru_X5_other {X : Mem} (x m : Int) (hx : -2147483648 ≤ x ∧ x ≤ 2147483647) (hm : -2147483648 ≤ m ∧ m ≤ 2147483647) : Ru yX5_other wsX5_other 0 0 [vi x, vi m] X (fun v X' => v = some (vi (cdO x m)) ∧ X = X') := by
  refine ru_of (w2 := _) rfl (by decide) [some (vi x), some (vi m)] (fun _ => rfl) (fun _ => Nat.le_of_ble_eq_true rfl) ?_
  intro K hKn hC hR
  have hcc := cdO_cases x m
  refine ev_iload_n (pc := 0) hC dX5_other_0 rfl ?_
  refine ev_if_lt (pc := 1) hC 9 dX5_other_1 (by decide) (by omega) (fun c1 => ?_) (fun c1 => ?_)
  · refine ev_bipush (pc := 9) hC dX5_other_9 (by decide) ?_
    refine ev_goto (pc := 11) hC 15 dX5_other_11 (by decide) ?_
    exact ev_ireturn (pc := 15) hC hR dX5_other_15 (⟨rv (by omega), rfl⟩)
  · refine ev_iload_n (pc := 4) hC dX5_other_4 rfl ?_
    refine ev_iload_n (pc := 5) hC dX5_other_5 rfl ?_
    refine ev_icmp_lt (pc := 6) hC 14 dX5_other_6 (by decide) (by omega) (by omega) (fun c6 => ?_) (fun c6 => ?_)
    · refine ev_iconst (pc := 14) hC dX5_other_14 ?_
      exact ev_ireturn (pc := 15) hC hR dX5_other_15 (⟨rv (by omega), rfl⟩)
    · refine ev_bipush (pc := 9) hC dX5_other_9 (by decide) ?_
      refine ev_goto (pc := 11) hC 15 dX5_other_11 (by decide) ?_
      exact ev_ireturn (pc := 15) hC hR dX5_other_15 (⟨rv (by omega), rfl⟩)
theorem mtX5_range : MT yX5_range wsX5_range cX5_range 3 (some .int) 3 := ⟨⟨_, rfl⟩, by decide, by decide, by decide +kernel⟩
set_option maxRecDepth 100000 in
set_option maxHeartbeats 4000000 in
theorem ru_X5_range {X : Mem} (x a b : Int) (hx : -2147483648 ≤ x ∧ x ≤ 2147483647) (ha : -2147483648 ≤ a ∧ a ≤ 2147483647) (hb : -2147483648 ≤ b ∧ b ≤ 2147483647) : Ru yX5_range wsX5_range 0 0 [vi x, vi a, vi b] X (fun v X' => v = some (vi (bnd x a b)) ∧ X = X') := by
  refine ru_of (w2 := _) rfl (by decide) [some (vi x), some (vi a), some (vi b)] (fun _ => rfl) (fun _ => Nat.le_of_ble_eq_true rfl) ?_
  intro K hKn hC hR
  have hcc := bnd_cases x a b
  refine ev_iload_n (pc := 0) hC dX5_range_0 rfl ?_
  refine ev_iload_n (pc := 1) hC dX5_range_1 rfl ?_
  refine ev_icmp_ge (pc := 2) hC 8 dX5_range_2 (by decide) (by omega) (by omega) (fun c2 => ?_) (fun c2 => ?_)
  · refine ev_iload_n (pc := 8) hC dX5_range_8 rfl ?_
    refine ev_iload_n (pc := 9) hC dX5_range_9 rfl ?_
    refine ev_icmp_le (pc := 10) hC 18 dX5_range_10 (by decide) (by omega) (by omega) (fun c10 => ?_) (fun c10 => ?_)
    · refine ev_iconst (pc := 18) hC dX5_range_18 ?_
      exact ev_ireturn (pc := 19) hC hR dX5_range_19 (⟨rv (by omega), rfl⟩)
    · refine ev_bipush (pc := 13) hC dX5_range_13 (by decide) ?_
      refine ev_goto (pc := 15) hC 19 dX5_range_15 (by decide) ?_
      exact ev_ireturn (pc := 19) hC hR dX5_range_19 (⟨rv (by omega), rfl⟩)
  · refine ev_bipush (pc := 5) hC dX5_range_5 (by decide) ?_
    exact ev_ireturn (pc := 7) hC hR dX5_range_7 (⟨rv (by omega), rfl⟩)
theorem mtX5_firstOf : MT yX5_firstOf wsX5_firstOf cX5_firstOf 3 (some .int) 3 := ⟨⟨_, rfl⟩, by decide, by decide, by decide +kernel⟩
set_option maxRecDepth 100000 in
set_option maxHeartbeats 4000000 in
theorem ru_X5_firstOf {X : Mem} (x a b : Int) (hx : -2147483648 ≤ x ∧ x ≤ 2147483647) (ha : -2147483648 ≤ a ∧ a ≤ 2147483647) (hb : -2147483648 ≤ b ∧ b ≤ 2147483647) : Ru yX5_firstOf wsX5_firstOf 0 0 [vi x, vi a, vi b] X (fun v X' => v = some (vi (f3 x a b)) ∧ X = X') := by
  refine ru_of (w2 := _) rfl (by decide) [some (vi x), some (vi a), some (vi b)] (fun _ => rfl) (fun _ => Nat.le_of_ble_eq_true rfl) ?_
  intro K hKn hC hR
  have hcc := f3_cases x a b
  refine ev_iload_n (pc := 0) hC dX5_firstOf_0 rfl ?_
  refine ev_if_eq (pc := 1) hC 6 dX5_firstOf_1 (by decide) (by omega) (fun c1 => ?_) (fun c1 => ?_)
  · refine ev_iload_n (pc := 6) hC dX5_firstOf_6 rfl ?_
    refine ev_if_eq (pc := 7) hC 14 dX5_firstOf_7 (by decide) (by omega) (fun c7 => ?_) (fun c7 => ?_)
    · refine ev_iload_n (pc := 14) hC dX5_firstOf_14 rfl ?_
      exact ev_ireturn (pc := 15) hC hR dX5_firstOf_15 (⟨rv (by omega), rfl⟩)
    · refine ev_iload_n (pc := 10) hC dX5_firstOf_10 rfl ?_
      refine ev_goto (pc := 11) hC 15 dX5_firstOf_11 (by decide) ?_
      exact ev_ireturn (pc := 15) hC hR dX5_firstOf_15 (⟨rv (by omega), rfl⟩)
  · refine ev_iload_n (pc := 4) hC dX5_firstOf_4 rfl ?_
    exact ev_ireturn (pc := 5) hC hR dX5_firstOf_5 (⟨rv (by omega), rfl⟩)
theorem mtX5_depth : MT yX5_depth wsX5_depth cX5_depth 3 (some .int) 1 := ⟨⟨_, rfl⟩, by decide, by decide, by decide +kernel⟩
set_option maxRecDepth 100000 in
set_option maxHeartbeats 4000000 in
theorem ru_X5_depth {X : Mem} {V : St} (hV : cI X V) (x0 : Int) (hx0 : -2147483648 ≤ x0 ∧ x0 ≤ 2147483647) : Ru yX5_depth wsX5_depth 1 22 [.ref 0, vi x0] X (fun v X' => v = some (vi (sp2 x0 V).1) ∧ cI X' (sp2 x0 V).2 ∧ frC X X') := by
  refine ru_of (w2 := _) rfl (by decide) [some (.ref 0), some (vi x0), none] (fun _ => rfl) (fun _ => Nat.le_of_ble_eq_true rfl) ?_
  intro K hKn hC hR
  have wX5 : ∀ w ∈ u_ws RX5 TX5 9, w ∈ wsX5_depth := by decide +kernel
  have f12 : Fl K RX5 12 5 0 := fl_of hC RX5 TX5 9 rfl (by decide) wX5 (show Cond.fieldLink RX5 12 "PicnicOfSomebody" "now" "LPicnicOfSomebody$Slope;" ∈ _ by decide +kernel)
  have wX3 : ∀ w ∈ u_ws RX3 TX3 8, w ∈ wsX5_depth := by decide +kernel
  have f87 : Fl K RX5 87 3 0 := fl_of hC RX3 TX3 8 rfl (by decide) wX3 (show Cond.fieldLink RX5 87 "PicnicOfSomebody$Slope" "depths" "[I" ∈ _ by decide +kernel)
  obtain ⟨A, B, hh, T, n, W, rs, C⟩ := V
  have hA : Rp (vC X 1) A := hV.1
  have hyA : A 5 1 ≤ 999 := hV.2.1
  have hB : hh = true → Rp (vC X 2) B ∧ B 5 1 ≤ 999 := hV.2.2.1
  have hi : X 0 8 = zI (b2i hh) := hV.2.2.2.1
  have hT : Txt X T n := hV.2.2.2.2.1
  have hW : RWp X W rs := hV.2.2.2.2.2.1
  have hCn : ∀ k, k < 7 → X 8 k = zI (C k : Nat) := hV.2.2.2.2.2.2
  have hn8 := hA.n8
  have hn96 := hT.2.1
  have hrs := hW.2.1
  refine ev_iload_n (pc := 0) hC dX5_depth_0 rfl ?_
  refine ev_callS (pc := 1) (as := [vi x0]) (rest := []) hC gX5_depth_X5_noCell mtX5_noCell dX5_depth_1 (ru_X5_noCell x0 (by omega)) (by decide) (by rfl) (Nat.le_of_ble_eq_true rfl) rfl (fun v1 X1 h1 => ?_)
  obtain ⟨rfl, rfl⟩ := h1
  show Ev K 4 [some (.ref 0), some (vi x0), none] [vi (cdC x0)] X
  have hcd1 := cdC_cases x0
  refine ev_istore_n (pc := 4) hC dX5_depth_4 (by rw [hKn]; decide) rfl ?_
  show Ev K 5 [some (.ref 0), some (vi x0), some (vi (cdC x0))] [] X
  refine ev_iload_n (pc := 5) hC dX5_depth_5 rfl ?_
  refine ev_if_eq (pc := 6) hC 17 dX5_depth_6 (by decide) (by omega) (fun c6 => ?_) (fun c6 => ?_)
  · obtain ⟨p0, rfl⟩ : ∃ k : Nat, x0 = (k : Int) := ⟨x0.toNat, by omega⟩
    refine ev_aload_n (pc := 17) hC dX5_depth_17 rfl ?_
    refine ev_getr (pc := 18) hC 1 f12 dX5_depth_18 (by decide) (by decide) (by decide) (by decide) (by decide) ?_
    refine ev_getr (pc := 21) hC 11 f87 dX5_depth_21 (by decide) (by decide) (by decide) (by decide) (by decide) ?_
    refine ev_iload_n (pc := 24) hC dX5_depth_24 rfl ?_
    have hb25 := hA.d99 p0 (by omega)
    refine ev_iald (pc := 25) hC p0 ((A 0 p0 : Nat) : Int) (by decide) (by decide) (rfl) (by have := (show alen 11 = 25 from rfl); omega) (hA.c0 p0 (by omega)) dX5_depth_25 ?_
    exact ev_ireturn (pc := 26) hC hR dX5_depth_26 (⟨rv (w1_okr c6 (by rfl)), cI_ok c6 (cI_fr3 hV (frS_rf 3 X)), frC_3 (frS_rf 3 X)⟩)
  · refine ev_aload_n (pc := 9) hC dX5_depth_9 rfl ?_
    refine ev_iload_n (pc := 10) hC dX5_depth_10 rfl ?_
    refine ev_callV (pc := 11) (as := [vi (cdC x0)]) (rest := []) hC gX5_depth_X5_refuse mtX5_refuse dX5_depth_11 (ru_X5_refuse (cdC x0) (by omega)) (by decide) (by decide) (by decide) rfl (by rfl) (Nat.le_of_ble_eq_true rfl) rfl (fun v11 X11 h11 => ?_)
    obtain ⟨rfl, rfl⟩ := h11
    show Ev K 14 [some (.ref 0), some (vi x0), some (vi (cdC x0))] [vi (cdC x0)] (mset X 8 (-(cdC x0)).toNat (X 8 (-(cdC x0)).toNat + 1))
    refine ev_goto (pc := 14) hC 26 dX5_depth_14 (by decide) ?_
    exact ev_ireturn (pc := 26) hC hR dX5_depth_26 (⟨rv (w1_no c6), cI_no c6 hV, frC_set (frC_rf X) (by omega)⟩)
theorem mtX5_person : MT yX5_person wsX5_person cX5_person 4 (some .int) 2 := ⟨⟨_, rfl⟩, by decide, by decide, by decide +kernel⟩
set_option maxRecDepth 100000 in
set_option maxHeartbeats 4000000 in
theorem ru_X5_person {X : Mem} {V : St} (hV : cI X V) (x0 : Int) (hx0 : -2147483648 ≤ x0 ∧ x0 ≤ 2147483647) (x1 : Int) (hx1 : -2147483648 ≤ x1 ∧ x1 ≤ 2147483647) : Ru yX5_person wsX5_person 3 93 [.ref 0, vi x0, vi x1] X (fun v X' => v = some (vi (sp3 x0 x1 V).1) ∧ cI X' (sp3 x0 x1 V).2 ∧ frC X X') := by
  refine ru_of (w2 := _) rfl (by decide) [some (.ref 0), some (vi x0), some (vi x1), none] (fun _ => rfl) (fun _ => Nat.le_of_ble_eq_true rfl) ?_
  intro K hKn hC hR
  have wX5 : ∀ w ∈ u_ws RX5 TX5 9, w ∈ wsX5_person := by decide +kernel
  have f12 : Fl K RX5 12 5 0 := fl_of hC RX5 TX5 9 rfl (by decide) wX5 (show Cond.fieldLink RX5 12 "PicnicOfSomebody" "now" "LPicnicOfSomebody$Slope;" ∈ _ by decide +kernel)
  have wX3 : ∀ w ∈ u_ws RX3 TX3 8, w ∈ wsX5_person := by decide +kernel
  have f100 : Fl K RX5 100 3 1 := fl_of hC RX3 TX3 8 rfl (by decide) wX3 (show Cond.fieldLink RX5 100 "PicnicOfSomebody$Slope" "kinds" "[I" ∈ _ by decide +kernel)
  have f103 : Fl K RX5 103 3 2 := fl_of hC RX3 TX3 8 rfl (by decide) wX3 (show Cond.fieldLink RX5 103 "PicnicOfSomebody$Slope" "figures" "[I" ∈ _ by decide +kernel)
  have f106 : Fl K RX5 106 3 3 := fl_of hC RX3 TX3 8 rfl (by decide) wX3 (show Cond.fieldLink RX5 106 "PicnicOfSomebody$Slope" "cells" "[I" ∈ _ by decide +kernel)
  have f109 : Fl K RX5 109 3 4 := fl_of hC RX3 TX3 8 rfl (by decide) wX3 (show Cond.fieldLink RX5 109 "PicnicOfSomebody$Slope" "beliefs" "[I" ∈ _ by decide +kernel)
  obtain ⟨A, B, hh, T, n, W, rs, C⟩ := V
  have hA : Rp (vC X 1) A := hV.1
  have hyA : A 5 1 ≤ 999 := hV.2.1
  have hB : hh = true → Rp (vC X 2) B ∧ B 5 1 ≤ 999 := hV.2.2.1
  have hi : X 0 8 = zI (b2i hh) := hV.2.2.2.1
  have hT : Txt X T n := hV.2.2.2.2.1
  have hW : RWp X W rs := hV.2.2.2.2.2.1
  have hCn : ∀ k, k < 7 → X 8 k = zI (C k : Nat) := hV.2.2.2.2.2.2
  have hn8 := hA.n8
  have hn96 := hT.2.1
  have hrs := hW.2.1
  refine ev_aload_n (pc := 0) hC dX5_person_0 rfl ?_
  refine ev_iload_n (pc := 1) hC dX5_person_1 rfl ?_
  refine ev_callV (pc := 2) (as := [vi x0]) (rest := []) hC gX5_person_X5_noPerson mtX5_noPerson dX5_person_2 (ru_X5_noPerson hA x0 (by omega)) (by decide) (by decide) (by decide) rfl (by rfl) (Nat.le_of_ble_eq_true rfl) rfl (fun v2 X2 h2 => ?_)
  obtain ⟨rfl, rfl⟩ := h2
  show Ev K 5 [some (.ref 0), some (vi x0), some (vi x1), none] [vi (cdP A x0)] X
  have hcd2 := cdP_cases A x0
  refine ev_iload_n (pc := 5) hC dX5_person_5 rfl ?_
  refine ev_bipush (pc := 6) hC dX5_person_6 (by decide) ?_
  refine ev_callS (pc := 8) (as := [vi x1, vi 7]) (rest := [vi (cdP A x0)]) hC gX5_person_X5_other mtX5_other dX5_person_8 (ru_X5_other x1 7 (by omega) (by omega)) (by decide) (by rfl) (Nat.le_of_ble_eq_true rfl) rfl (fun v8 X8 h8 => ?_)
  obtain ⟨rfl, rfl⟩ := h8
  show Ev K 11 [some (.ref 0), some (vi x0), some (vi x1), none] [vi (cdO x1 7), vi (cdP A x0)] X
  have hcd8 := cdO_cases x1 7
  refine ev_iconst (pc := 11) hC dX5_person_11 ?_
  refine ev_callS (pc := 12) (as := [vi (cdP A x0), vi (cdO x1 7), vi 0]) (rest := []) hC gX5_person_X5_firstOf mtX5_firstOf dX5_person_12 (ru_X5_firstOf (cdP A x0) (cdO x1 7) 0 (by omega) (by omega) (by omega)) (by decide) (by rfl) (Nat.le_of_ble_eq_true rfl) rfl (fun v12 X12 h12 => ?_)
  obtain ⟨rfl, rfl⟩ := h12
  show Ev K 15 [some (.ref 0), some (vi x0), some (vi x1), none] [vi (f3 (cdP A x0) (cdO x1 7) 0)] X
  have hcd12 := f3_cases (cdP A x0) (cdO x1 7) 0
  refine ev_istore_n (pc := 15) hC dX5_person_15 (by rw [hKn]; decide) rfl ?_
  show Ev K 16 [some (.ref 0), some (vi x0), some (vi x1), some (vi (f3 (cdP A x0) (cdO x1 7) 0))] [] X
  refine ev_iload_n (pc := 16) hC dX5_person_16 rfl ?_
  refine ev_if_eq (pc := 17) hC 26 dX5_person_17 (by decide) (by omega) (fun c17 => ?_) (fun c17 => ?_)
  · obtain ⟨p0, rfl⟩ : ∃ k : Nat, x0 = (k : Int) := ⟨x0.toNat, by omega⟩
    refine ev_iload_n (pc := 26) hC dX5_person_26 rfl ?_
    rcases (show x1 = 0 ∨ x1 = 1 ∨ x1 = 2 ∨ x1 = 3 ∨ x1 = 4 ∨ x1 = 5 ∨ x1 < 0 ∨ 5 < x1 by omega) with c27 | c27 | c27 | c27 | c27 | c27 | c27
    · refine ev_tabin (pc := 27) hC 64 dX5_person_27 (by omega) (by omega) (by rw [c27]; rfl) (by decide) ?_
      refine ev_aload_n (pc := 64) hC dX5_person_64 rfl ?_
      refine ev_getr (pc := 65) hC 1 f12 dX5_person_65 (by decide) (by decide) (by decide) (by decide) (by decide) ?_
      refine ev_getr (pc := 68) hC 12 f100 dX5_person_68 (by decide) (by decide) (by decide) (by decide) (by decide) ?_
      refine ev_iload_n (pc := 71) hC dX5_person_71 rfl ?_
      have hb72 := hA.k5 p0 (by omega)
      refine ev_iald (pc := 72) hC p0 ((A 1 p0 : Nat) : Int) (by decide) (by decide) (rfl) (by have := (show alen 12 = 8 from rfl); omega) (hA.c1 p0 (by omega)) dX5_person_72 ?_
      exact ev_ireturn (pc := 73) hC hR dX5_person_73 (⟨rv (psn_w c17 (by rw [show x1 = 0 by omega]; rfl)), cI_ok c17 hV, frC_rf X⟩)
    · refine ev_tabin (pc := 27) hC 74 dX5_person_27 (by omega) (by omega) (by rw [c27]; rfl) (by decide) ?_
      refine ev_aload_n (pc := 74) hC dX5_person_74 rfl ?_
      refine ev_getr (pc := 75) hC 1 f12 dX5_person_75 (by decide) (by decide) (by decide) (by decide) (by decide) ?_
      refine ev_getr (pc := 78) hC 13 f103 dX5_person_78 (by decide) (by decide) (by decide) (by decide) (by decide) ?_
      refine ev_iload_n (pc := 81) hC dX5_person_81 rfl ?_
      have hb82 := hA.f9 p0 (by omega)
      refine ev_iald (pc := 82) hC p0 ((A 2 p0 : Nat) : Int) (by decide) (by decide) (rfl) (by have := (show alen 13 = 8 from rfl); omega) (hA.c2 p0 (by omega)) dX5_person_82 ?_
      exact ev_ireturn (pc := 83) hC hR dX5_person_83 (⟨rv (psn_w c17 (by rw [show x1 = 1 by omega]; rfl)), cI_ok c17 hV, frC_rf X⟩)
    · refine ev_tabin (pc := 27) hC 84 dX5_person_27 (by omega) (by omega) (by rw [c27]; rfl) (by decide) ?_
      refine ev_aload_n (pc := 84) hC dX5_person_84 rfl ?_
      refine ev_getr (pc := 85) hC 1 f12 dX5_person_85 (by decide) (by decide) (by decide) (by decide) (by decide) ?_
      refine ev_getr (pc := 88) hC 14 f106 dX5_person_88 (by decide) (by decide) (by decide) (by decide) (by decide) ?_
      refine ev_iload_n (pc := 91) hC dX5_person_91 rfl ?_
      have hb92 := hA.c25 p0 (by omega)
      refine ev_iald (pc := 92) hC p0 ((A 3 p0 : Nat) : Int) (by decide) (by decide) (rfl) (by have := (show alen 14 = 8 from rfl); omega) (hA.c3 p0 (by omega)) dX5_person_92 ?_
      exact ev_ireturn (pc := 93) hC hR dX5_person_93 (⟨rv (psn_w c17 (by rw [show x1 = 2 by omega]; rfl)), cI_ok c17 hV, frC_rf X⟩)
    · refine ev_tabin (pc := 27) hC 94 dX5_person_27 (by omega) (by omega) (by rw [c27]; rfl) (by decide) ?_
      refine ev_aload_n (pc := 94) hC dX5_person_94 rfl ?_
      refine ev_getr (pc := 95) hC 1 f12 dX5_person_95 (by decide) (by decide) (by decide) (by decide) (by decide) ?_
      refine ev_getr (pc := 98) hC 15 f109 dX5_person_98 (by decide) (by decide) (by decide) (by decide) (by decide) ?_
      refine ev_iload_n (pc := 101) hC dX5_person_101 rfl ?_
      have hb102 := hA.b9 p0 (by omega)
      refine ev_iald (pc := 102) hC p0 ((A 4 p0 : Nat) : Int) (by decide) (by decide) (rfl) (by have := (show alen 15 = 8 from rfl); omega) (hA.c4 p0 (by omega)) dX5_person_102 ?_
      exact ev_ireturn (pc := 103) hC hR dX5_person_103 (⟨rv (psn_w c17 (by rw [show x1 = 3 by omega]; rfl)), cI_ok c17 hV, frC_rf X⟩)
    · refine ev_tabin (pc := 27) hC 104 dX5_person_27 (by omega) (by omega) (by rw [c27]; rfl) (by decide) ?_
      refine ev_aload_n (pc := 104) hC dX5_person_104 rfl ?_
      refine ev_getr (pc := 105) hC 1 f12 dX5_person_105 (by decide) (by decide) (by decide) (by decide) (by decide) ?_
      refine ev_iload_n (pc := 108) hC dX5_person_108 rfl ?_
      refine ev_callV (pc := 109) (as := [vi ((p0 : Nat) : Int)]) (rest := []) hC gX5_person_X3_besideBits mtX3_besideBits dX5_person_109 (ru_X3_besideBits (s := 1) spl1 hA p0 (by omega)) (by decide) (by decide) (by decide) rfl (by rfl) (Nat.le_of_ble_eq_true rfl) rfl (fun v109 X109 h109 => ?_)
      obtain ⟨rfl, rfl⟩ := h109
      show Ev K 112 [some (.ref 0), some (vi ((p0 : Nat) : Int)), some (vi x1), some (vi (f3 (cdP A ((p0 : Nat) : Int)) (cdO x1 7) 0))] [vi ((bitsB (A 5 0) (bes 0 A p0) : Nat) : Int)] X
      have hl109 := bitsB_lt8 (bes 0 A p0) hA.n8
      refine ev_callS (pc := 112) (as := [vi ((bitsB (A 5 0) (bes 0 A p0) : Nat) : Int)]) (rest := []) hC gX5_person_J6_bitCount_0f7a4 mtJ6_bitCount_0f7a4 dX5_person_112 (ru_J6_bitCount_0f7a4 (bitsB (A 5 0) (bes 0 A p0)) (by omega)) (by decide) (by rfl) (Nat.le_of_ble_eq_true rfl) rfl (fun v112 X112 h112 => ?_)
      obtain ⟨rfl, rfl⟩ := h112
      show Ev K 115 [some (.ref 0), some (vi ((p0 : Nat) : Int)), some (vi x1), some (vi (f3 (cdP A ((p0 : Nat) : Int)) (cdO x1 7) 0))] [vi ((pop (bitsB (A 5 0) (bes 0 A p0)) : Nat) : Int)] X
      have hp112 := pop_le (bitsB (A 5 0) (bes 0 A p0))
      exact ev_ireturn (pc := 115) hC hR dX5_person_115 (⟨rv (psn_w c17 (by rw [show x1 = 4 by omega]; exact congrArg Nat.cast (pop_bitsB _ (by omega)))), cI_ok c17 hV, frC_rf X⟩)
    · refine ev_tabin (pc := 27) hC 116 dX5_person_27 (by omega) (by omega) (by rw [c27]; rfl) (by decide) ?_
      refine ev_aload_n (pc := 116) hC dX5_person_116 rfl ?_
      refine ev_getr (pc := 117) hC 1 f12 dX5_person_117 (by decide) (by decide) (by decide) (by decide) (by decide) ?_
      refine ev_iload_n (pc := 120) hC dX5_person_120 rfl ?_
      refine ev_callV (pc := 121) (as := [vi ((p0 : Nat) : Int)]) (rest := []) hC gX5_person_X3_besideBits mtX3_besideBits dX5_person_121 (ru_X3_besideBits (s := 1) spl1 hA p0 (by omega)) (by decide) (by decide) (by decide) rfl (by rfl) (Nat.le_of_ble_eq_true rfl) rfl (fun v121 X121 h121 => ?_)
      obtain ⟨rfl, rfl⟩ := h121
      show Ev K 124 [some (.ref 0), some (vi ((p0 : Nat) : Int)), some (vi x1), some (vi (f3 (cdP A ((p0 : Nat) : Int)) (cdO x1 7) 0))] [vi ((bitsB (A 5 0) (bes 0 A p0) : Nat) : Int)] X
      have hl121 := bitsB_lt8 (bes 0 A p0) hA.n8
      refine ev_aload_n (pc := 124) hC dX5_person_124 rfl ?_
      refine ev_getr (pc := 125) hC 1 f12 dX5_person_125 (by decide) (by decide) (by decide) (by decide) (by decide) ?_
      refine ev_callV (pc := 128) (as := []) (rest := [vi ((bitsB (A 5 0) (bes 0 A p0) : Nat) : Int)]) hC gX5_person_X3_believerBits mtX3_believerBits dX5_person_128 (ru_X3_believerBits (s := 1) spl1 hA) (by decide) (by decide) (by decide) rfl (by rfl) (Nat.le_of_ble_eq_true rfl) rfl (fun v128 X128 h128 => ?_)
      obtain ⟨rfl, rfl⟩ := h128
      show Ev K 131 [some (.ref 0), some (vi ((p0 : Nat) : Int)), some (vi x1), some (vi (f3 (cdP A ((p0 : Nat) : Int)) (cdO x1 7) 0))] [vi ((bset 0 A : Nat) : Int), vi ((bitsB (A 5 0) (bes 0 A p0) : Nat) : Int)] X
      have hl128 := bset_lt (G := 0) hA.n8
      refine ev_iand (pc := 131) hC (((bitsB (A 5 0) (bes 0 A p0)) &&& (bset 0 A) : Nat) : Int) (zI_and (bitsB (A 5 0) (bes 0 A p0)) (bset 0 A)) dX5_person_131 ?_
      have hb132 := and_lt256 (b := bset 0 A) hl121
      refine ev_callS (pc := 132) (as := [vi (((bitsB (A 5 0) (bes 0 A p0)) &&& (bset 0 A) : Nat) : Int)]) (rest := []) hC gX5_person_J6_bitCount_0f7a4 mtJ6_bitCount_0f7a4 dX5_person_132 (ru_J6_bitCount_0f7a4 ((bitsB (A 5 0) (bes 0 A p0)) &&& (bset 0 A)) (by omega)) (by decide) (by rfl) (Nat.le_of_ble_eq_true rfl) rfl (fun v132 X132 h132 => ?_)
      obtain ⟨rfl, rfl⟩ := h132
      show Ev K 135 [some (.ref 0), some (vi ((p0 : Nat) : Int)), some (vi x1), some (vi (f3 (cdP A ((p0 : Nat) : Int)) (cdO x1 7) 0))] [vi ((pop ((bitsB (A 5 0) (bes 0 A p0)) &&& (bset 0 A)) : Nat) : Int)] X
      have hp132 := pop_le ((bitsB (A 5 0) (bes 0 A p0)) &&& (bset 0 A))
      exact ev_ireturn (pc := 135) hC hR dX5_person_135 (⟨rv (psn_w c17 (by rw [show x1 = 5 by omega]; exact congrArg Nat.cast (bb_pop (by omega)))), cI_ok c17 hV, frC_rf X⟩)
    · refine ev_tabout (pc := 27) hC 136 dX5_person_27 (by omega) (by omega) (by decide) ?_
      refine ev_aload_n (pc := 136) hC dX5_person_136 rfl ?_
      refine ev_getr (pc := 137) hC 1 f12 dX5_person_137 (by decide) (by decide) (by decide) (by decide) (by decide) ?_
      refine ev_iload_n (pc := 140) hC dX5_person_140 rfl ?_
      refine ev_aload_n (pc := 141) hC dX5_person_141 rfl ?_
      refine ev_getr (pc := 142) hC 1 f12 dX5_person_142 (by decide) (by decide) (by decide) (by decide) (by decide) ?_
      refine ev_callV (pc := 145) (as := []) (rest := [vi ((p0 : Nat) : Int), .ref 1]) hC gX5_person_X3_hollow mtX3_hollow dX5_person_145 (ru_X3_hollow (s := 1) spl1 hA) (by decide) (by decide) (by decide) rfl (by rfl) (Nat.le_of_ble_eq_true rfl) rfl (fun v145 X145 h145 => ?_)
      obtain ⟨rfl, rfl⟩ := h145
      show Ev K 148 [some (.ref 0), some (vi ((p0 : Nat) : Int)), some (vi x1), some (vi (f3 (cdP A ((p0 : Nat) : Int)) (cdO x1 7) 0))] [vi ((here A : Nat) : Int), vi ((p0 : Nat) : Int), .ref 1] X
      have hh145 := here_lt A
      refine ev_callV (pc := 148) (as := [vi ((p0 : Nat) : Int), vi ((here A : Nat) : Int)]) (rest := []) hC gX5_person_X3_nextBelief mtX3_nextBelief dX5_person_148 (ru_X3_nextBelief (s := 1) spl1 hA p0 (here A) (by omega) (by omega)) (by decide) (by decide) (by decide) rfl (by rfl) (Nat.le_of_ble_eq_true rfl) rfl (fun v148 X148 h148 => ?_)
      obtain ⟨rfl, rfl⟩ := h148
      show Ev K 151 [some (.ref 0), some (vi ((p0 : Nat) : Int)), some (vi x1), some (vi (f3 (cdP A ((p0 : Nat) : Int)) (cdO x1 7) 0))] [vi ((nextB 0 A p0 (here A) : Nat) : Int)] X
      have hl148 := nextB_le 0 A p0 (here A)
      exact ev_ireturn (pc := 151) hC hR dX5_person_151 (⟨rv (psn_w c17 (by rw [show x1 = 6 by omega]; rfl)), cI_ok c17 hV, frC_rf X⟩)
  · refine ev_aload_n (pc := 20) hC dX5_person_20 rfl ?_
    refine ev_iload_n (pc := 21) hC dX5_person_21 rfl ?_
    refine ev_callV (pc := 22) (as := [vi (f3 (cdP A x0) (cdO x1 7) 0)]) (rest := []) hC gX5_person_X5_refuse mtX5_refuse dX5_person_22 (ru_X5_refuse (f3 (cdP A x0) (cdO x1 7) 0) (by omega)) (by decide) (by decide) (by decide) rfl (by rfl) (Nat.le_of_ble_eq_true rfl) rfl (fun v22 X22 h22 => ?_)
    obtain ⟨rfl, rfl⟩ := h22
    show Ev K 25 [some (.ref 0), some (vi x0), some (vi x1), some (vi (f3 (cdP A x0) (cdO x1 7) 0))] [vi (f3 (cdP A x0) (cdO x1 7) 0)] (mset X 8 (-(f3 (cdP A x0) (cdO x1 7) 0)).toNat (X 8 (-(f3 (cdP A x0) (cdO x1 7) 0)).toNat + 1))
    exact ev_ireturn (pc := 25) hC hR dX5_person_25 (⟨rv (w1_no c17), cI_no c17 hV, frC_set (frC_rf X) (by omega)⟩)
theorem mtX5_digs : MT yX5_digs wsX5_digs cX5_digs 5 (some .int) 2 := ⟨⟨_, rfl⟩, by decide, by decide, by decide +kernel⟩
set_option maxRecDepth 100000 in
set_option maxHeartbeats 4000000 in
theorem ru_X5_digs {X : Mem} {V : St} (hV : cI X V) (x0 : Int) (hx0 : -2147483648 ≤ x0 ∧ x0 ≤ 2147483647) (x1 : Int) (hx1 : -2147483648 ≤ x1 ∧ x1 ≤ 2147483647) : Ru yX5_digs wsX5_digs 1 22 [.ref 0, vi x0, vi x1] X (fun v X' => v = some (vi (sp5 x0 x1 V).1) ∧ cI X' (sp5 x0 x1 V).2 ∧ frC X X') := by
  refine ru_of (w2 := _) rfl (by decide) [some (.ref 0), some (vi x0), some (vi x1), none, none] (fun _ => rfl) (fun _ => Nat.le_of_ble_eq_true rfl) ?_
  intro K hKn hC hR
  have wX5 : ∀ w ∈ u_ws RX5 TX5 9, w ∈ wsX5_digs := by decide +kernel
  have f12 : Fl K RX5 12 5 0 := fl_of hC RX5 TX5 9 rfl (by decide) wX5 (show Cond.fieldLink RX5 12 "PicnicOfSomebody" "now" "LPicnicOfSomebody$Slope;" ∈ _ by decide +kernel)
  have wX3 : ∀ w ∈ u_ws RX3 TX3 8, w ∈ wsX5_digs := by decide +kernel
  have f87 : Fl K RX5 87 3 0 := fl_of hC RX3 TX3 8 rfl (by decide) wX3 (show Cond.fieldLink RX5 87 "PicnicOfSomebody$Slope" "depths" "[I" ∈ _ by decide +kernel)
  obtain ⟨A, B, hh, T, n, W, rs, C⟩ := V
  have hA : Rp (vC X 1) A := hV.1
  have hyA : A 5 1 ≤ 999 := hV.2.1
  have hB : hh = true → Rp (vC X 2) B ∧ B 5 1 ≤ 999 := hV.2.2.1
  have hi : X 0 8 = zI (b2i hh) := hV.2.2.2.1
  have hT : Txt X T n := hV.2.2.2.2.1
  have hW : RWp X W rs := hV.2.2.2.2.2.1
  have hCn : ∀ k, k < 7 → X 8 k = zI (C k : Nat) := hV.2.2.2.2.2.2
  have hn8 := hA.n8
  have hn96 := hT.2.1
  have hrs := hW.2.1
  refine ev_iload_n (pc := 0) hC dX5_digs_0 rfl ?_
  refine ev_callS (pc := 1) (as := [vi x0]) (rest := []) hC gX5_digs_X5_noCell mtX5_noCell dX5_digs_1 (ru_X5_noCell x0 (by omega)) (by decide) (by rfl) (Nat.le_of_ble_eq_true rfl) rfl (fun v1 X1 h1 => ?_)
  obtain ⟨rfl, rfl⟩ := h1
  show Ev K 4 [some (.ref 0), some (vi x0), some (vi x1), none, none] [vi (cdC x0)] X
  have hcd1 := cdC_cases x0
  refine ev_iload_n (pc := 4) hC dX5_digs_4 rfl ?_
  refine ev_iconst (pc := 5) hC dX5_digs_5 ?_
  refine ev_bipush (pc := 6) hC dX5_digs_6 (by decide) ?_
  refine ev_callS (pc := 8) (as := [vi x1, vi 0, vi 99]) (rest := [vi (cdC x0)]) hC gX5_digs_X5_range mtX5_range dX5_digs_8 (ru_X5_range x1 0 99 (by omega) (by omega) (by omega)) (by decide) (by rfl) (Nat.le_of_ble_eq_true rfl) rfl (fun v8 X8 h8 => ?_)
  obtain ⟨rfl, rfl⟩ := h8
  show Ev K 11 [some (.ref 0), some (vi x0), some (vi x1), none, none] [vi (bnd x1 0 99), vi (cdC x0)] X
  have hcd8 := bnd_cases x1 0 99
  refine ev_iconst (pc := 11) hC dX5_digs_11 ?_
  refine ev_callS (pc := 12) (as := [vi (cdC x0), vi (bnd x1 0 99), vi 0]) (rest := []) hC gX5_digs_X5_firstOf mtX5_firstOf dX5_digs_12 (ru_X5_firstOf (cdC x0) (bnd x1 0 99) 0 (by omega) (by omega) (by omega)) (by decide) (by rfl) (Nat.le_of_ble_eq_true rfl) rfl (fun v12 X12 h12 => ?_)
  obtain ⟨rfl, rfl⟩ := h12
  show Ev K 15 [some (.ref 0), some (vi x0), some (vi x1), none, none] [vi (f3 (cdC x0) (bnd x1 0 99) 0)] X
  have hcd12 := f3_cases (cdC x0) (bnd x1 0 99) 0
  refine ev_istore_n (pc := 15) hC dX5_digs_15 (by rw [hKn]; decide) rfl ?_
  show Ev K 16 [some (.ref 0), some (vi x0), some (vi x1), some (vi (f3 (cdC x0) (bnd x1 0 99) 0)), none] [] X
  refine ev_iload_n (pc := 16) hC dX5_digs_16 rfl ?_
  refine ev_if_eq (pc := 17) hC 26 dX5_digs_17 (by decide) (by omega) (fun c17 => ?_) (fun c17 => ?_)
  · obtain ⟨p0, rfl⟩ : ∃ k : Nat, x0 = (k : Int) := ⟨x0.toNat, by omega⟩
    obtain ⟨p1, rfl⟩ : ∃ k : Nat, x1 = (k : Int) := ⟨x1.toNat, by omega⟩
    refine ev_aload_n (pc := 26) hC dX5_digs_26 rfl ?_
    refine ev_getr (pc := 27) hC 1 f12 dX5_digs_27 (by decide) (by decide) (by decide) (by decide) (by decide) ?_
    refine ev_getr (pc := 30) hC 11 f87 dX5_digs_30 (by decide) (by decide) (by decide) (by decide) (by decide) ?_
    refine ev_iload_n (pc := 33) hC dX5_digs_33 rfl ?_
    have hb34 := hA.d99 p0 (by omega)
    refine ev_iald (pc := 34) hC p0 ((A 0 p0 : Nat) : Int) (by decide) (by decide) (rfl) (by have := (show alen 11 = 25 from rfl); omega) (hA.c0 p0 (by omega)) dX5_digs_34 ?_
    refine ev_istore (pc := 35) hC dX5_digs_35 (by rw [hKn]; decide) rfl ?_
    show Ev K 37 [some (.ref 0), some (vi ((p0 : Nat) : Int)), some (vi ((p1 : Nat) : Int)), some (vi (f3 (cdC ((p0 : Nat) : Int)) (bnd ((p1 : Nat) : Int) 0 99) 0)), some (vi ((A 0 p0 : Nat) : Int))] [] X
    refine ev_aload_n (pc := 37) hC dX5_digs_37 rfl ?_
    refine ev_getr (pc := 38) hC 1 f12 dX5_digs_38 (by decide) (by decide) (by decide) (by decide) (by decide) ?_
    refine ev_getr (pc := 41) hC 11 f87 dX5_digs_41 (by decide) (by decide) (by decide) (by decide) (by decide) ?_
    refine ev_iload_n (pc := 44) hC dX5_digs_44 rfl ?_
    refine ev_iload_n (pc := 45) hC dX5_digs_45 rfl ?_
    refine ev_iast (pc := 46) hC p0 (by decide) (by decide) (rfl) (by have := (show alen 11 = 25 from rfl); omega) dX5_digs_46 ?_
    have hA46 : Rp (vC (mset X 11 p0 (zI ((p1 : Nat) : Int))) 1) (setR A 0 p0 p1) := Rp.setD (s := 1) (v := p1) hA spl1 (by omega)
    have hFr46 := frS_set (s := 1) (r := 0) (i := p0) (v := zI ((p1 : Nat) : Int)) (frS_rf 1 X) (by omega)
    refine ev_iload (pc := 47) hC dX5_digs_47 rfl ?_
    exact ev_ireturn (pc := 49) hC hR dX5_digs_49 (⟨rv (w1_okr c17 (by rfl)), cI_ok c17 (cI_putA hV hA46 hyA hFr46), frC_1 hFr46⟩)
  · refine ev_aload_n (pc := 20) hC dX5_digs_20 rfl ?_
    refine ev_iload_n (pc := 21) hC dX5_digs_21 rfl ?_
    refine ev_callV (pc := 22) (as := [vi (f3 (cdC x0) (bnd x1 0 99) 0)]) (rest := []) hC gX5_digs_X5_refuse mtX5_refuse dX5_digs_22 (ru_X5_refuse (f3 (cdC x0) (bnd x1 0 99) 0) (by omega)) (by decide) (by decide) (by decide) rfl (by rfl) (Nat.le_of_ble_eq_true rfl) rfl (fun v22 X22 h22 => ?_)
    obtain ⟨rfl, rfl⟩ := h22
    show Ev K 25 [some (.ref 0), some (vi x0), some (vi x1), some (vi (f3 (cdC x0) (bnd x1 0 99) 0)), none] [vi (f3 (cdC x0) (bnd x1 0 99) 0)] (mset X 8 (-(f3 (cdC x0) (bnd x1 0 99) 0)).toNat (X 8 (-(f3 (cdC x0) (bnd x1 0 99) 0)).toNat + 1))
    exact ev_ireturn (pc := 25) hC hR dX5_digs_25 (⟨rv (w1_no c17), cI_no c17 hV, frC_set (frC_rf X) (by omega)⟩)
theorem mtX5_believes : MT yX5_believes wsX5_believes cX5_believes 5 (some .int) 2 := ⟨⟨_, rfl⟩, by decide, by decide, by decide +kernel⟩
set_option maxRecDepth 100000 in
set_option maxHeartbeats 4000000 in
theorem ru_X5_believes {X : Mem} {V : St} (hV : cI X V) (x0 : Int) (hx0 : -2147483648 ≤ x0 ∧ x0 ≤ 2147483647) (x1 : Int) (hx1 : -2147483648 ≤ x1 ∧ x1 ≤ 2147483647) : Ru yX5_believes wsX5_believes 1 22 [.ref 0, vi x0, vi x1] X (fun v X' => v = some (vi (sp6 x0 x1 V).1) ∧ cI X' (sp6 x0 x1 V).2 ∧ frC X X') := by
  refine ru_of (w2 := _) rfl (by decide) [some (.ref 0), some (vi x0), some (vi x1), none, none] (fun _ => rfl) (fun _ => Nat.le_of_ble_eq_true rfl) ?_
  intro K hKn hC hR
  have wX5 : ∀ w ∈ u_ws RX5 TX5 9, w ∈ wsX5_believes := by decide +kernel
  have f12 : Fl K RX5 12 5 0 := fl_of hC RX5 TX5 9 rfl (by decide) wX5 (show Cond.fieldLink RX5 12 "PicnicOfSomebody" "now" "LPicnicOfSomebody$Slope;" ∈ _ by decide +kernel)
  have wX3 : ∀ w ∈ u_ws RX3 TX3 8, w ∈ wsX5_believes := by decide +kernel
  have f109 : Fl K RX5 109 3 4 := fl_of hC RX3 TX3 8 rfl (by decide) wX3 (show Cond.fieldLink RX5 109 "PicnicOfSomebody$Slope" "beliefs" "[I" ∈ _ by decide +kernel)
  obtain ⟨A, B, hh, T, n, W, rs, C⟩ := V
  have hA : Rp (vC X 1) A := hV.1
  have hyA : A 5 1 ≤ 999 := hV.2.1
  have hB : hh = true → Rp (vC X 2) B ∧ B 5 1 ≤ 999 := hV.2.2.1
  have hi : X 0 8 = zI (b2i hh) := hV.2.2.2.1
  have hT : Txt X T n := hV.2.2.2.2.1
  have hW : RWp X W rs := hV.2.2.2.2.2.1
  have hCn : ∀ k, k < 7 → X 8 k = zI (C k : Nat) := hV.2.2.2.2.2.2
  have hn8 := hA.n8
  have hn96 := hT.2.1
  have hrs := hW.2.1
  refine ev_aload_n (pc := 0) hC dX5_believes_0 rfl ?_
  refine ev_iload_n (pc := 1) hC dX5_believes_1 rfl ?_
  refine ev_callV (pc := 2) (as := [vi x0]) (rest := []) hC gX5_believes_X5_noPerson mtX5_noPerson dX5_believes_2 (ru_X5_noPerson hA x0 (by omega)) (by decide) (by decide) (by decide) rfl (by rfl) (Nat.le_of_ble_eq_true rfl) rfl (fun v2 X2 h2 => ?_)
  obtain ⟨rfl, rfl⟩ := h2
  show Ev K 5 [some (.ref 0), some (vi x0), some (vi x1), none, none] [vi (cdP A x0)] X
  have hcd2 := cdP_cases A x0
  refine ev_iload_n (pc := 5) hC dX5_believes_5 rfl ?_
  refine ev_iconst (pc := 6) hC dX5_believes_6 ?_
  refine ev_bipush (pc := 7) hC dX5_believes_7 (by decide) ?_
  refine ev_callS (pc := 9) (as := [vi x1, vi 0, vi 9]) (rest := [vi (cdP A x0)]) hC gX5_believes_X5_range mtX5_range dX5_believes_9 (ru_X5_range x1 0 9 (by omega) (by omega) (by omega)) (by decide) (by rfl) (Nat.le_of_ble_eq_true rfl) rfl (fun v9 X9 h9 => ?_)
  obtain ⟨rfl, rfl⟩ := h9
  show Ev K 12 [some (.ref 0), some (vi x0), some (vi x1), none, none] [vi (bnd x1 0 9), vi (cdP A x0)] X
  have hcd9 := bnd_cases x1 0 9
  refine ev_iconst (pc := 12) hC dX5_believes_12 ?_
  refine ev_callS (pc := 13) (as := [vi (cdP A x0), vi (bnd x1 0 9), vi 0]) (rest := []) hC gX5_believes_X5_firstOf mtX5_firstOf dX5_believes_13 (ru_X5_firstOf (cdP A x0) (bnd x1 0 9) 0 (by omega) (by omega) (by omega)) (by decide) (by rfl) (Nat.le_of_ble_eq_true rfl) rfl (fun v13 X13 h13 => ?_)
  obtain ⟨rfl, rfl⟩ := h13
  show Ev K 16 [some (.ref 0), some (vi x0), some (vi x1), none, none] [vi (f3 (cdP A x0) (bnd x1 0 9) 0)] X
  have hcd13 := f3_cases (cdP A x0) (bnd x1 0 9) 0
  refine ev_istore_n (pc := 16) hC dX5_believes_16 (by rw [hKn]; decide) rfl ?_
  show Ev K 17 [some (.ref 0), some (vi x0), some (vi x1), some (vi (f3 (cdP A x0) (bnd x1 0 9) 0)), none] [] X
  refine ev_iload_n (pc := 17) hC dX5_believes_17 rfl ?_
  refine ev_if_eq (pc := 18) hC 27 dX5_believes_18 (by decide) (by omega) (fun c18 => ?_) (fun c18 => ?_)
  · obtain ⟨p0, rfl⟩ : ∃ k : Nat, x0 = (k : Int) := ⟨x0.toNat, by omega⟩
    obtain ⟨p1, rfl⟩ : ∃ k : Nat, x1 = (k : Int) := ⟨x1.toNat, by omega⟩
    refine ev_aload_n (pc := 27) hC dX5_believes_27 rfl ?_
    refine ev_getr (pc := 28) hC 1 f12 dX5_believes_28 (by decide) (by decide) (by decide) (by decide) (by decide) ?_
    refine ev_getr (pc := 31) hC 15 f109 dX5_believes_31 (by decide) (by decide) (by decide) (by decide) (by decide) ?_
    refine ev_iload_n (pc := 34) hC dX5_believes_34 rfl ?_
    have hb35 := hA.b9 p0 (by omega)
    refine ev_iald (pc := 35) hC p0 ((A 4 p0 : Nat) : Int) (by decide) (by decide) (rfl) (by have := (show alen 15 = 8 from rfl); omega) (hA.c4 p0 (by omega)) dX5_believes_35 ?_
    refine ev_istore (pc := 36) hC dX5_believes_36 (by rw [hKn]; decide) rfl ?_
    show Ev K 38 [some (.ref 0), some (vi ((p0 : Nat) : Int)), some (vi ((p1 : Nat) : Int)), some (vi (f3 (cdP A ((p0 : Nat) : Int)) (bnd ((p1 : Nat) : Int) 0 9) 0)), some (vi ((A 4 p0 : Nat) : Int))] [] X
    refine ev_aload_n (pc := 38) hC dX5_believes_38 rfl ?_
    refine ev_getr (pc := 39) hC 1 f12 dX5_believes_39 (by decide) (by decide) (by decide) (by decide) (by decide) ?_
    refine ev_getr (pc := 42) hC 15 f109 dX5_believes_42 (by decide) (by decide) (by decide) (by decide) (by decide) ?_
    refine ev_iload_n (pc := 45) hC dX5_believes_45 rfl ?_
    refine ev_iload_n (pc := 46) hC dX5_believes_46 rfl ?_
    refine ev_iast (pc := 47) hC p0 (by decide) (by decide) (rfl) (by have := (show alen 15 = 8 from rfl); omega) dX5_believes_47 ?_
    have hA47 : Rp (vC (mset X 15 p0 (zI ((p1 : Nat) : Int))) 1) (setR A 4 p0 p1) := Rp.setC4 (s := 1) (v := p1) hA spl1 (by omega)
    have hFr47 := frS_set (s := 1) (r := 4) (i := p0) (v := zI ((p1 : Nat) : Int)) (frS_rf 1 X) (by omega)
    refine ev_iload (pc := 48) hC dX5_believes_48 rfl ?_
    exact ev_ireturn (pc := 50) hC hR dX5_believes_50 (⟨rv (w1_okr c18 (by rfl)), cI_ok c18 (cI_putA hV hA47 hyA hFr47), frC_1 hFr47⟩)
  · refine ev_aload_n (pc := 21) hC dX5_believes_21 rfl ?_
    refine ev_iload_n (pc := 22) hC dX5_believes_22 rfl ?_
    refine ev_callV (pc := 23) (as := [vi (f3 (cdP A x0) (bnd x1 0 9) 0)]) (rest := []) hC gX5_believes_X5_refuse mtX5_refuse dX5_believes_23 (ru_X5_refuse (f3 (cdP A x0) (bnd x1 0 9) 0) (by omega)) (by decide) (by decide) (by decide) rfl (by rfl) (Nat.le_of_ble_eq_true rfl) rfl (fun v23 X23 h23 => ?_)
    obtain ⟨rfl, rfl⟩ := h23
    show Ev K 26 [some (.ref 0), some (vi x0), some (vi x1), some (vi (f3 (cdP A x0) (bnd x1 0 9) 0)), none] [vi (f3 (cdP A x0) (bnd x1 0 9) 0)] (mset X 8 (-(f3 (cdP A x0) (bnd x1 0 9) 0)).toNat (X 8 (-(f3 (cdP A x0) (bnd x1 0 9) 0)).toNat + 1))
    exact ev_ireturn (pc := 26) hC hR dX5_believes_26 (⟨rv (w1_no c18), cI_no c18 hV, frC_set (frC_rf X) (by omega)⟩)
theorem mtX5_sits : MT yX5_sits wsX5_sits cX5_sits 5 (some .int) 2 := ⟨⟨_, rfl⟩, by decide, by decide, by decide +kernel⟩
set_option maxRecDepth 100000 in
set_option maxHeartbeats 4000000 in
theorem ru_X5_sits {X : Mem} {V : St} (hV : cI X V) (x0 : Int) (hx0 : -2147483648 ≤ x0 ∧ x0 ≤ 2147483647) (x1 : Int) (hx1 : -2147483648 ≤ x1 ∧ x1 ≤ 2147483647) : Ru yX5_sits wsX5_sits 1 22 [.ref 0, vi x0, vi x1] X (fun v X' => v = some (vi (sp7 x0 x1 V).1) ∧ cI X' (sp7 x0 x1 V).2 ∧ frC X X') := by
  refine ru_of (w2 := _) rfl (by decide) [some (.ref 0), some (vi x0), some (vi x1), none, none] (fun _ => rfl) (fun _ => Nat.le_of_ble_eq_true rfl) ?_
  intro K hKn hC hR
  have wX5 : ∀ w ∈ u_ws RX5 TX5 9, w ∈ wsX5_sits := by decide +kernel
  have f12 : Fl K RX5 12 5 0 := fl_of hC RX5 TX5 9 rfl (by decide) wX5 (show Cond.fieldLink RX5 12 "PicnicOfSomebody" "now" "LPicnicOfSomebody$Slope;" ∈ _ by decide +kernel)
  have wX3 : ∀ w ∈ u_ws RX3 TX3 8, w ∈ wsX5_sits := by decide +kernel
  have f106 : Fl K RX5 106 3 3 := fl_of hC RX3 TX3 8 rfl (by decide) wX3 (show Cond.fieldLink RX5 106 "PicnicOfSomebody$Slope" "cells" "[I" ∈ _ by decide +kernel)
  obtain ⟨A, B, hh, T, n, W, rs, C⟩ := V
  have hA : Rp (vC X 1) A := hV.1
  have hyA : A 5 1 ≤ 999 := hV.2.1
  have hB : hh = true → Rp (vC X 2) B ∧ B 5 1 ≤ 999 := hV.2.2.1
  have hi : X 0 8 = zI (b2i hh) := hV.2.2.2.1
  have hT : Txt X T n := hV.2.2.2.2.1
  have hW : RWp X W rs := hV.2.2.2.2.2.1
  have hCn : ∀ k, k < 7 → X 8 k = zI (C k : Nat) := hV.2.2.2.2.2.2
  have hn8 := hA.n8
  have hn96 := hT.2.1
  have hrs := hW.2.1
  refine ev_aload_n (pc := 0) hC dX5_sits_0 rfl ?_
  refine ev_iload_n (pc := 1) hC dX5_sits_1 rfl ?_
  refine ev_callV (pc := 2) (as := [vi x0]) (rest := []) hC gX5_sits_X5_noPerson mtX5_noPerson dX5_sits_2 (ru_X5_noPerson hA x0 (by omega)) (by decide) (by decide) (by decide) rfl (by rfl) (Nat.le_of_ble_eq_true rfl) rfl (fun v2 X2 h2 => ?_)
  obtain ⟨rfl, rfl⟩ := h2
  show Ev K 5 [some (.ref 0), some (vi x0), some (vi x1), none, none] [vi (cdP A x0)] X
  have hcd2 := cdP_cases A x0
  refine ev_iload_n (pc := 5) hC dX5_sits_5 rfl ?_
  refine ev_callS (pc := 6) (as := [vi x1]) (rest := [vi (cdP A x0)]) hC gX5_sits_X5_noCell mtX5_noCell dX5_sits_6 (ru_X5_noCell x1 (by omega)) (by decide) (by rfl) (Nat.le_of_ble_eq_true rfl) rfl (fun v6 X6 h6 => ?_)
  obtain ⟨rfl, rfl⟩ := h6
  show Ev K 9 [some (.ref 0), some (vi x0), some (vi x1), none, none] [vi (cdC x1), vi (cdP A x0)] X
  have hcd6 := cdC_cases x1
  refine ev_iconst (pc := 9) hC dX5_sits_9 ?_
  refine ev_callS (pc := 10) (as := [vi (cdP A x0), vi (cdC x1), vi 0]) (rest := []) hC gX5_sits_X5_firstOf mtX5_firstOf dX5_sits_10 (ru_X5_firstOf (cdP A x0) (cdC x1) 0 (by omega) (by omega) (by omega)) (by decide) (by rfl) (Nat.le_of_ble_eq_true rfl) rfl (fun v10 X10 h10 => ?_)
  obtain ⟨rfl, rfl⟩ := h10
  show Ev K 13 [some (.ref 0), some (vi x0), some (vi x1), none, none] [vi (f3 (cdP A x0) (cdC x1) 0)] X
  have hcd10 := f3_cases (cdP A x0) (cdC x1) 0
  refine ev_istore_n (pc := 13) hC dX5_sits_13 (by rw [hKn]; decide) rfl ?_
  show Ev K 14 [some (.ref 0), some (vi x0), some (vi x1), some (vi (f3 (cdP A x0) (cdC x1) 0)), none] [] X
  refine ev_iload_n (pc := 14) hC dX5_sits_14 rfl ?_
  refine ev_if_eq (pc := 15) hC 24 dX5_sits_15 (by decide) (by omega) (fun c15 => ?_) (fun c15 => ?_)
  · obtain ⟨p0, rfl⟩ : ∃ k : Nat, x0 = (k : Int) := ⟨x0.toNat, by omega⟩
    obtain ⟨p1, rfl⟩ : ∃ k : Nat, x1 = (k : Int) := ⟨x1.toNat, by omega⟩
    refine ev_aload_n (pc := 24) hC dX5_sits_24 rfl ?_
    refine ev_getr (pc := 25) hC 1 f12 dX5_sits_25 (by decide) (by decide) (by decide) (by decide) (by decide) ?_
    refine ev_getr (pc := 28) hC 14 f106 dX5_sits_28 (by decide) (by decide) (by decide) (by decide) (by decide) ?_
    refine ev_iload_n (pc := 31) hC dX5_sits_31 rfl ?_
    have hb32 := hA.c25 p0 (by omega)
    refine ev_iald (pc := 32) hC p0 ((A 3 p0 : Nat) : Int) (by decide) (by decide) (rfl) (by have := (show alen 14 = 8 from rfl); omega) (hA.c3 p0 (by omega)) dX5_sits_32 ?_
    refine ev_istore (pc := 33) hC dX5_sits_33 (by rw [hKn]; decide) rfl ?_
    show Ev K 35 [some (.ref 0), some (vi ((p0 : Nat) : Int)), some (vi ((p1 : Nat) : Int)), some (vi (f3 (cdP A ((p0 : Nat) : Int)) (cdC ((p1 : Nat) : Int)) 0)), some (vi ((A 3 p0 : Nat) : Int))] [] X
    refine ev_aload_n (pc := 35) hC dX5_sits_35 rfl ?_
    refine ev_getr (pc := 36) hC 1 f12 dX5_sits_36 (by decide) (by decide) (by decide) (by decide) (by decide) ?_
    refine ev_getr (pc := 39) hC 14 f106 dX5_sits_39 (by decide) (by decide) (by decide) (by decide) (by decide) ?_
    refine ev_iload_n (pc := 42) hC dX5_sits_42 rfl ?_
    refine ev_iload_n (pc := 43) hC dX5_sits_43 rfl ?_
    refine ev_iast (pc := 44) hC p0 (by decide) (by decide) (rfl) (by have := (show alen 14 = 8 from rfl); omega) dX5_sits_44 ?_
    have hA44 : Rp (vC (mset X 14 p0 (zI ((p1 : Nat) : Int))) 1) (setR A 3 p0 p1) := Rp.setC3 (s := 1) (v := p1) hA spl1 (by omega)
    have hFr44 := frS_set (s := 1) (r := 3) (i := p0) (v := zI ((p1 : Nat) : Int)) (frS_rf 1 X) (by omega)
    refine ev_iload (pc := 45) hC dX5_sits_45 rfl ?_
    exact ev_ireturn (pc := 47) hC hR dX5_sits_47 (⟨rv (w1_okr c15 (by rfl)), cI_ok c15 (cI_putA hV hA44 hyA hFr44), frC_1 hFr44⟩)
  · refine ev_aload_n (pc := 18) hC dX5_sits_18 rfl ?_
    refine ev_iload_n (pc := 19) hC dX5_sits_19 rfl ?_
    refine ev_callV (pc := 20) (as := [vi (f3 (cdP A x0) (cdC x1) 0)]) (rest := []) hC gX5_sits_X5_refuse mtX5_refuse dX5_sits_20 (ru_X5_refuse (f3 (cdP A x0) (cdC x1) 0) (by omega)) (by decide) (by decide) (by decide) rfl (by rfl) (Nat.le_of_ble_eq_true rfl) rfl (fun v20 X20 h20 => ?_)
    obtain ⟨rfl, rfl⟩ := h20
    show Ev K 23 [some (.ref 0), some (vi x0), some (vi x1), some (vi (f3 (cdP A x0) (cdC x1) 0)), none] [vi (f3 (cdP A x0) (cdC x1) 0)] (mset X 8 (-(f3 (cdP A x0) (cdC x1) 0)).toNat (X 8 (-(f3 (cdP A x0) (cdC x1) 0)).toNat + 1))
    exact ev_ireturn (pc := 23) hC hR dX5_sits_23 (⟨rv (w1_no c15), cI_no c15 hV, frC_set (frC_rf X) (by omega)⟩)
theorem mtX5_turn : MT yX5_turn wsX5_turn cX5_turn 6 (some .int) 3 := ⟨⟨_, rfl⟩, by decide, by decide, by decide +kernel⟩
set_option maxRecDepth 100000 in
set_option maxHeartbeats 4000000 in
theorem ru_X5_turn {X : Mem} {V : St} (hV : cI X V) (x0 : Int) (hx0 : -2147483648 ≤ x0 ∧ x0 ≤ 2147483647) (x1 : Int) (hx1 : -2147483648 ≤ x1 ∧ x1 ≤ 2147483647) (x2 : Int) (hx2 : -2147483648 ≤ x2 ∧ x2 ≤ 2147483647) : Ru yX5_turn wsX5_turn 1 22 [.ref 0, vi x0, vi x1, vi x2] X (fun v X' => v = some (vi (sp8 x0 x1 x2 V).1) ∧ cI X' (sp8 x0 x1 x2 V).2 ∧ frC X X') := by
  refine ru_of (w2 := _) rfl (by decide) [some (.ref 0), some (vi x0), some (vi x1), some (vi x2), none, none] (fun _ => rfl) (fun _ => Nat.le_of_ble_eq_true rfl) ?_
  intro K hKn hC hR
  have wX5 : ∀ w ∈ u_ws RX5 TX5 9, w ∈ wsX5_turn := by decide +kernel
  have f12 : Fl K RX5 12 5 0 := fl_of hC RX5 TX5 9 rfl (by decide) wX5 (show Cond.fieldLink RX5 12 "PicnicOfSomebody" "now" "LPicnicOfSomebody$Slope;" ∈ _ by decide +kernel)
  have wX3 : ∀ w ∈ u_ws RX3 TX3 8, w ∈ wsX5_turn := by decide +kernel
  have f100 : Fl K RX5 100 3 1 := fl_of hC RX3 TX3 8 rfl (by decide) wX3 (show Cond.fieldLink RX5 100 "PicnicOfSomebody$Slope" "kinds" "[I" ∈ _ by decide +kernel)
  have f103 : Fl K RX5 103 3 2 := fl_of hC RX3 TX3 8 rfl (by decide) wX3 (show Cond.fieldLink RX5 103 "PicnicOfSomebody$Slope" "figures" "[I" ∈ _ by decide +kernel)
  obtain ⟨A, B, hh, T, n, W, rs, C⟩ := V
  have hA : Rp (vC X 1) A := hV.1
  have hyA : A 5 1 ≤ 999 := hV.2.1
  have hB : hh = true → Rp (vC X 2) B ∧ B 5 1 ≤ 999 := hV.2.2.1
  have hi : X 0 8 = zI (b2i hh) := hV.2.2.2.1
  have hT : Txt X T n := hV.2.2.2.2.1
  have hW : RWp X W rs := hV.2.2.2.2.2.1
  have hCn : ∀ k, k < 7 → X 8 k = zI (C k : Nat) := hV.2.2.2.2.2.2
  have hn8 := hA.n8
  have hn96 := hT.2.1
  have hrs := hW.2.1
  refine ev_aload_n (pc := 0) hC dX5_turn_0 rfl ?_
  refine ev_iload_n (pc := 1) hC dX5_turn_1 rfl ?_
  refine ev_callV (pc := 2) (as := [vi x0]) (rest := []) hC gX5_turn_X5_noPerson mtX5_noPerson dX5_turn_2 (ru_X5_noPerson hA x0 (by omega)) (by decide) (by decide) (by decide) rfl (by rfl) (Nat.le_of_ble_eq_true rfl) rfl (fun v2 X2 h2 => ?_)
  obtain ⟨rfl, rfl⟩ := h2
  show Ev K 5 [some (.ref 0), some (vi x0), some (vi x1), some (vi x2), none, none] [vi (cdP A x0)] X
  have hcd2 := cdP_cases A x0
  refine ev_iload_n (pc := 5) hC dX5_turn_5 rfl ?_
  refine ev_bipush (pc := 6) hC dX5_turn_6 (by decide) ?_
  refine ev_callS (pc := 8) (as := [vi x1, vi 6]) (rest := [vi (cdP A x0)]) hC gX5_turn_X5_other mtX5_other dX5_turn_8 (ru_X5_other x1 6 (by omega) (by omega)) (by decide) (by rfl) (Nat.le_of_ble_eq_true rfl) rfl (fun v8 X8 h8 => ?_)
  obtain ⟨rfl, rfl⟩ := h8
  show Ev K 11 [some (.ref 0), some (vi x0), some (vi x1), some (vi x2), none, none] [vi (cdO x1 6), vi (cdP A x0)] X
  have hcd8 := cdO_cases x1 6
  refine ev_iload_n (pc := 11) hC dX5_turn_11 rfl ?_
  refine ev_iconst (pc := 12) hC dX5_turn_12 ?_
  refine ev_bipush (pc := 13) hC dX5_turn_13 (by decide) ?_
  refine ev_callS (pc := 15) (as := [vi x2, vi 0, vi 9]) (rest := [vi (cdO x1 6), vi (cdP A x0)]) hC gX5_turn_X5_range mtX5_range dX5_turn_15 (ru_X5_range x2 0 9 (by omega) (by omega) (by omega)) (by decide) (by rfl) (Nat.le_of_ble_eq_true rfl) rfl (fun v15 X15 h15 => ?_)
  obtain ⟨rfl, rfl⟩ := h15
  show Ev K 18 [some (.ref 0), some (vi x0), some (vi x1), some (vi x2), none, none] [vi (bnd x2 0 9), vi (cdO x1 6), vi (cdP A x0)] X
  have hcd15 := bnd_cases x2 0 9
  refine ev_callS (pc := 18) (as := [vi (cdP A x0), vi (cdO x1 6), vi (bnd x2 0 9)]) (rest := []) hC gX5_turn_X5_firstOf mtX5_firstOf dX5_turn_18 (ru_X5_firstOf (cdP A x0) (cdO x1 6) (bnd x2 0 9) (by omega) (by omega) (by omega)) (by decide) (by rfl) (Nat.le_of_ble_eq_true rfl) rfl (fun v18 X18 h18 => ?_)
  obtain ⟨rfl, rfl⟩ := h18
  show Ev K 21 [some (.ref 0), some (vi x0), some (vi x1), some (vi x2), none, none] [vi (f3 (cdP A x0) (cdO x1 6) (bnd x2 0 9))] X
  have hcd18 := f3_cases (cdP A x0) (cdO x1 6) (bnd x2 0 9)
  refine ev_istore (pc := 21) hC dX5_turn_21 (by rw [hKn]; decide) rfl ?_
  show Ev K 23 [some (.ref 0), some (vi x0), some (vi x1), some (vi x2), some (vi (f3 (cdP A x0) (cdO x1 6) (bnd x2 0 9))), none] [] X
  refine ev_iload (pc := 23) hC dX5_turn_23 rfl ?_
  refine ev_if_eq (pc := 25) hC 35 dX5_turn_25 (by decide) (by omega) (fun c25 => ?_) (fun c25 => ?_)
  · obtain ⟨p0, rfl⟩ : ∃ k : Nat, x0 = (k : Int) := ⟨x0.toNat, by omega⟩
    obtain ⟨p1, rfl⟩ : ∃ k : Nat, x1 = (k : Int) := ⟨x1.toNat, by omega⟩
    obtain ⟨p2, rfl⟩ : ∃ k : Nat, x2 = (k : Int) := ⟨x2.toNat, by omega⟩
    refine ev_bipush (pc := 35) hC dX5_turn_35 (by decide) ?_
    refine ev_aload_n (pc := 37) hC dX5_turn_37 rfl ?_
    refine ev_getr (pc := 38) hC 1 f12 dX5_turn_38 (by decide) (by decide) (by decide) (by decide) (by decide) ?_
    refine ev_getr (pc := 41) hC 12 f100 dX5_turn_41 (by decide) (by decide) (by decide) (by decide) (by decide) ?_
    refine ev_iload_n (pc := 44) hC dX5_turn_44 rfl ?_
    have hb45 := hA.k5 p0 (by omega)
    refine ev_iald (pc := 45) hC p0 ((A 1 p0 : Nat) : Int) (by decide) (by decide) (rfl) (by have := (show alen 12 = 8 from rfl); omega) (hA.c1 p0 (by omega)) dX5_turn_45 ?_
    refine ev_imul (pc := 46) hC ((10 * (A 1 p0) : Nat) : Int) (by omega) dX5_turn_46 ?_
    refine ev_aload_n (pc := 47) hC dX5_turn_47 rfl ?_
    refine ev_getr (pc := 48) hC 1 f12 dX5_turn_48 (by decide) (by decide) (by decide) (by decide) (by decide) ?_
    refine ev_getr (pc := 51) hC 13 f103 dX5_turn_51 (by decide) (by decide) (by decide) (by decide) (by decide) ?_
    refine ev_iload_n (pc := 54) hC dX5_turn_54 rfl ?_
    have hb55 := hA.f9 p0 (by omega)
    refine ev_iald (pc := 55) hC p0 ((A 2 p0 : Nat) : Int) (by decide) (by decide) (rfl) (by have := (show alen 13 = 8 from rfl); omega) (hA.c2 p0 (by omega)) dX5_turn_55 ?_
    refine ev_iadd (pc := 56) hC (((10 * (A 1 p0)) + (A 2 p0) : Nat) : Int) (by omega) dX5_turn_56 ?_
    refine ev_istore (pc := 57) hC dX5_turn_57 (by rw [hKn]; decide) rfl ?_
    show Ev K 59 [some (.ref 0), some (vi ((p0 : Nat) : Int)), some (vi ((p1 : Nat) : Int)), some (vi ((p2 : Nat) : Int)), some (vi (f3 (cdP A ((p0 : Nat) : Int)) (cdO ((p1 : Nat) : Int) 6) (bnd ((p2 : Nat) : Int) 0 9))), some (vi (((10 * (A 1 p0)) + (A 2 p0) : Nat) : Int))] [] X
    refine ev_aload_n (pc := 59) hC dX5_turn_59 rfl ?_
    refine ev_getr (pc := 60) hC 1 f12 dX5_turn_60 (by decide) (by decide) (by decide) (by decide) (by decide) ?_
    refine ev_getr (pc := 63) hC 12 f100 dX5_turn_63 (by decide) (by decide) (by decide) (by decide) (by decide) ?_
    refine ev_iload_n (pc := 66) hC dX5_turn_66 rfl ?_
    refine ev_iload_n (pc := 67) hC dX5_turn_67 rfl ?_
    refine ev_iast (pc := 68) hC p0 (by decide) (by decide) (rfl) (by have := (show alen 12 = 8 from rfl); omega) dX5_turn_68 ?_
    have hA68 : Rp (vC (mset X 12 p0 (zI ((p1 : Nat) : Int))) 1) (setR A 1 p0 p1) := Rp.setC1 (s := 1) (v := p1) hA spl1 (by omega)
    have hFr68 := frS_set (s := 1) (r := 1) (i := p0) (v := zI ((p1 : Nat) : Int)) (frS_rf 1 X) (by omega)
    refine ev_aload_n (pc := 69) hC dX5_turn_69 rfl ?_
    refine ev_getr (pc := 70) hC 1 f12 dX5_turn_70 (by decide) (by decide) (by decide) (by decide) (by decide) ?_
    refine ev_getr (pc := 73) hC 13 f103 dX5_turn_73 (by decide) (by decide) (by decide) (by decide) (by decide) ?_
    refine ev_iload_n (pc := 76) hC dX5_turn_76 rfl ?_
    refine ev_iload_n (pc := 77) hC dX5_turn_77 rfl ?_
    refine ev_iast (pc := 78) hC p0 (by decide) (by decide) (rfl) (by have := (show alen 13 = 8 from rfl); omega) dX5_turn_78 ?_
    have hA78 : Rp (vC (mset (mset X 12 p0 (zI ((p1 : Nat) : Int))) 13 p0 (zI ((p2 : Nat) : Int))) 1) (setR (setR A 1 p0 p1) 2 p0 p2) := Rp.setC2 (s := 1) (v := p2) hA68 spl1 (by omega)
    have hFr78 := frS_set (s := 1) (r := 2) (i := p0) (v := zI ((p2 : Nat) : Int)) hFr68 (by omega)
    refine ev_iload (pc := 79) hC dX5_turn_79 rfl ?_
    exact ev_ireturn (pc := 81) hC hR dX5_turn_81 (⟨rv (w1_okr c25 (by rfl)), cI_ok c25 (cI_putA hV hA78 hyA hFr78), frC_1 hFr78⟩)
  · refine ev_aload_n (pc := 28) hC dX5_turn_28 rfl ?_
    refine ev_iload (pc := 29) hC dX5_turn_29 rfl ?_
    refine ev_callV (pc := 31) (as := [vi (f3 (cdP A x0) (cdO x1 6) (bnd x2 0 9))]) (rest := []) hC gX5_turn_X5_refuse mtX5_refuse dX5_turn_31 (ru_X5_refuse (f3 (cdP A x0) (cdO x1 6) (bnd x2 0 9)) (by omega)) (by decide) (by decide) (by decide) rfl (by rfl) (Nat.le_of_ble_eq_true rfl) rfl (fun v31 X31 h31 => ?_)
    obtain ⟨rfl, rfl⟩ := h31
    show Ev K 34 [some (.ref 0), some (vi x0), some (vi x1), some (vi x2), some (vi (f3 (cdP A x0) (cdO x1 6) (bnd x2 0 9))), none] [vi (f3 (cdP A x0) (cdO x1 6) (bnd x2 0 9))] (mset X 8 (-(f3 (cdP A x0) (cdO x1 6) (bnd x2 0 9))).toNat (X 8 (-(f3 (cdP A x0) (cdO x1 6) (bnd x2 0 9))).toNat + 1))
    exact ev_ireturn (pc := 34) hC hR dX5_turn_34 (⟨rv (w1_no c25), cI_no c25 hV, frC_set (frC_rf X) (by omega)⟩)
theorem mtX5_behind : MT yX5_behind wsX5_behind cX5_behind 5 (some .int) 3 := ⟨⟨_, rfl⟩, by decide, by decide, by decide +kernel⟩
set_option maxRecDepth 100000 in
set_option maxHeartbeats 4000000 in
theorem ru_X5_behind {X : Mem} {V : St} (hV : cI X V) (x0 : Int) (hx0 : -2147483648 ≤ x0 ∧ x0 ≤ 2147483647) (x1 : Int) (hx1 : -2147483648 ≤ x1 ∧ x1 ≤ 2147483647) (x2 : Int) (hx2 : -2147483648 ≤ x2 ∧ x2 ≤ 2147483647) : Ru yX5_behind wsX5_behind 5 139 [.ref 0, vi x0, vi x1, vi x2] X (fun v X' => v = some (vi (sp10 x0 x1 x2 V).1) ∧ cI X' (sp10 x0 x1 x2 V).2 ∧ frC X X') := by
  refine ru_of (w2 := _) rfl (by decide) [some (.ref 0), some (vi x0), some (vi x1), some (vi x2), none] (fun _ => rfl) (fun _ => Nat.le_of_ble_eq_true rfl) ?_
  intro K hKn hC hR
  have wX5 : ∀ w ∈ u_ws RX5 TX5 9, w ∈ wsX5_behind := by decide +kernel
  have f27 : Fl K RX5 27 5 3 := fl_of hC RX5 TX5 9 rfl (by decide) wX5 (show Cond.fieldLink RX5 27 "PicnicOfSomebody" "mind" "LPicnicOfSomebody$Mind;" ∈ _ by decide +kernel)
  have f19 : Fl K RX5 19 5 2 := fl_of hC RX5 TX5 9 rfl (by decide) wX5 (show Cond.fieldLink RX5 19 "PicnicOfSomebody" "thought" "LPicnicOfSomebody$Slope;" ∈ _ by decide +kernel)
  have wX3 : ∀ w ∈ u_ws RX3 TX3 8, w ∈ wsX5_behind := by decide +kernel
  have f109 : Fl K RX5 109 3 4 := fl_of hC RX3 TX3 8 rfl (by decide) wX3 (show Cond.fieldLink RX5 109 "PicnicOfSomebody$Slope" "beliefs" "[I" ∈ _ by decide +kernel)
  have f106 : Fl K RX5 106 3 3 := fl_of hC RX3 TX3 8 rfl (by decide) wX3 (show Cond.fieldLink RX5 106 "PicnicOfSomebody$Slope" "cells" "[I" ∈ _ by decide +kernel)
  obtain ⟨A, B, hh, T, n, W, rs, C⟩ := V
  have hA : Rp (vC X 1) A := hV.1
  have hyA : A 5 1 ≤ 999 := hV.2.1
  have hB : hh = true → Rp (vC X 2) B ∧ B 5 1 ≤ 999 := hV.2.2.1
  have hi : X 0 8 = zI (b2i hh) := hV.2.2.2.1
  have hT : Txt X T n := hV.2.2.2.2.1
  have hW : RWp X W rs := hV.2.2.2.2.2.1
  have hCn : ∀ k, k < 7 → X 8 k = zI (C k : Nat) := hV.2.2.2.2.2.2
  have hn8 := hA.n8
  have hn96 := hT.2.1
  have hrs := hW.2.1
  refine ev_aload_n (pc := 0) hC dX5_behind_0 rfl ?_
  refine ev_iload_n (pc := 1) hC dX5_behind_1 rfl ?_
  refine ev_callV (pc := 2) (as := [vi x0]) (rest := []) hC gX5_behind_X5_noPerson mtX5_noPerson dX5_behind_2 (ru_X5_noPerson hA x0 (by omega)) (by decide) (by decide) (by decide) rfl (by rfl) (Nat.le_of_ble_eq_true rfl) rfl (fun v2 X2 h2 => ?_)
  obtain ⟨rfl, rfl⟩ := h2
  show Ev K 5 [some (.ref 0), some (vi x0), some (vi x1), some (vi x2), none] [vi (cdP A x0)] X
  have hcd2 := cdP_cases A x0
  refine ev_iload_n (pc := 5) hC dX5_behind_5 rfl ?_
  refine ev_iconst (pc := 6) hC dX5_behind_6 ?_
  refine ev_bipush (pc := 7) hC dX5_behind_7 (by decide) ?_
  refine ev_callS (pc := 9) (as := [vi x1, vi 0, vi 60]) (rest := [vi (cdP A x0)]) hC gX5_behind_X5_range mtX5_range dX5_behind_9 (ru_X5_range x1 0 60 (by omega) (by omega) (by omega)) (by decide) (by rfl) (Nat.le_of_ble_eq_true rfl) rfl (fun v9 X9 h9 => ?_)
  obtain ⟨rfl, rfl⟩ := h9
  show Ev K 12 [some (.ref 0), some (vi x0), some (vi x1), some (vi x2), none] [vi (bnd x1 0 60), vi (cdP A x0)] X
  have hcd9 := bnd_cases x1 0 60
  refine ev_iload_n (pc := 12) hC dX5_behind_12 rfl ?_
  refine ev_iconst (pc := 13) hC dX5_behind_13 ?_
  refine ev_callS (pc := 14) (as := [vi x2, vi 2]) (rest := [vi (bnd x1 0 60), vi (cdP A x0)]) hC gX5_behind_X5_other mtX5_other dX5_behind_14 (ru_X5_other x2 2 (by omega) (by omega)) (by decide) (by rfl) (Nat.le_of_ble_eq_true rfl) rfl (fun v14 X14 h14 => ?_)
  obtain ⟨rfl, rfl⟩ := h14
  show Ev K 17 [some (.ref 0), some (vi x0), some (vi x1), some (vi x2), none] [vi (cdO x2 2), vi (bnd x1 0 60), vi (cdP A x0)] X
  have hcd14 := cdO_cases x2 2
  refine ev_callS (pc := 17) (as := [vi (cdP A x0), vi (bnd x1 0 60), vi (cdO x2 2)]) (rest := []) hC gX5_behind_X5_firstOf mtX5_firstOf dX5_behind_17 (ru_X5_firstOf (cdP A x0) (bnd x1 0 60) (cdO x2 2) (by omega) (by omega) (by omega)) (by decide) (by rfl) (Nat.le_of_ble_eq_true rfl) rfl (fun v17 X17 h17 => ?_)
  obtain ⟨rfl, rfl⟩ := h17
  show Ev K 20 [some (.ref 0), some (vi x0), some (vi x1), some (vi x2), none] [vi (f3 (cdP A x0) (bnd x1 0 60) (cdO x2 2))] X
  have hcd17 := f3_cases (cdP A x0) (bnd x1 0 60) (cdO x2 2)
  refine ev_istore (pc := 20) hC dX5_behind_20 (by rw [hKn]; decide) rfl ?_
  show Ev K 22 [some (.ref 0), some (vi x0), some (vi x1), some (vi x2), some (vi (f3 (cdP A x0) (bnd x1 0 60) (cdO x2 2)))] [] X
  refine ev_iload (pc := 22) hC dX5_behind_22 rfl ?_
  refine ev_if_eq (pc := 24) hC 34 dX5_behind_24 (by decide) (by omega) (fun c24 => ?_) (fun c24 => ?_)
  · obtain ⟨p0, rfl⟩ : ∃ k : Nat, x0 = (k : Int) := ⟨x0.toNat, by omega⟩
    obtain ⟨p1, rfl⟩ : ∃ k : Nat, x1 = (k : Int) := ⟨x1.toNat, by omega⟩
    refine ev_aload_n (pc := 34) hC dX5_behind_34 rfl ?_
    refine ev_getr (pc := 35) hC 4 f27 dX5_behind_35 (by decide) (by decide) (by decide) (by decide) (by decide) ?_
    refine ev_callV (pc := 38) (as := []) (rest := []) hC gX5_behind_X1_think mtX1_think dX5_behind_38 (ru_X1_think hA) (by decide) (by decide) (by decide) rfl (by rfl) (Nat.le_of_ble_eq_true rfl) rfl (fun v38 X38 h38 => ?_)
    obtain ⟨rfl, hA38, hF38⟩ := h38
    show Ev K 41 [some (.ref 0), some (vi ((p0 : Nat) : Int)), some (vi ((p1 : Nat) : Int)), some (vi x2), some (vi (f3 (cdP A ((p0 : Nat) : Int)) (bnd ((p1 : Nat) : Int) 0 60) (cdO x2 2)))] [.ref 3] X38
    have hN138 := hA.fr31 hF38
    have hFr38 := frS_tr (frS_rf 3 X) hF38
    refine ev_iload_n (pc := 41) hC dX5_behind_41 rfl ?_
    refine ev_callV (pc := 42) (as := [vi ((p1 : Nat) : Int)]) (rest := []) hC gX5_behind_X3_passYears mtX3_passYears dX5_behind_42 (ru_X3_passYears (s := 3) spl3 hA38 p1 (by omega)) (by decide) (by decide) (by decide) rfl (by rfl) (Nat.le_of_ble_eq_true rfl) rfl (fun v42 X42 h42 => ?_)
    obtain ⟨rfl, hA42, hF42⟩ := h42
    show Ev K 45 [some (.ref 0), some (vi ((p0 : Nat) : Int)), some (vi ((p1 : Nat) : Int)), some (vi x2), some (vi (f3 (cdP A ((p0 : Nat) : Int)) (bnd ((p1 : Nat) : Int) 0 60) (cdO x2 2)))] [vi ((bcnt 0 (goN 0 p1 A) : Nat) : Int)] X42
    have hl42 := bcnt_le 0 (goN 0 p1 A)
    have hn42 := hA42.n8
    have hN142 := hN138.fr31 hF42
    have hFr42 := frS_tr hFr38 hF42
    refine ev_pop (pc := 45) hC rfl dX5_behind_45 ?_
    have hgn := goN_n 0 A p1
    refine ev_iload_n (pc := 46) hC dX5_behind_46 rfl ?_
    refine ev_if_ne (pc := 47) hC 62 dX5_behind_47 (by decide) (by omega) (fun c47 => ?_) (fun c47 => ?_)
    · refine ev_aload_n (pc := 62) hC dX5_behind_62 rfl ?_
      refine ev_getr (pc := 63) hC 3 f19 dX5_behind_63 (by decide) (by decide) (by decide) (by decide) (by decide) ?_
      refine ev_getr (pc := 66) hC 26 f106 dX5_behind_66 (by decide) (by decide) (by decide) (by decide) (by decide) ?_
      refine ev_iload_n (pc := 69) hC dX5_behind_69 rfl ?_
      have hb70 := hA42.c25 p0 (by omega)
      refine ev_iald (pc := 70) hC p0 (((goN 0 p1 A) 3 p0 : Nat) : Int) (by decide) (by decide) (rfl) (by have := (show alen 26 = 8 from rfl); omega) (hA42.c3 p0 (by omega)) dX5_behind_70 ?_
      exact ev_ireturn (pc := 71) hC hR dX5_behind_71 (⟨rv (w1_okr c24 (by rw [if_neg c47]; first | done | rfl)), cI_ok c24 (cI_fr3 hV hFr42), frC_3 hFr42⟩)
    · refine ev_aload_n (pc := 50) hC dX5_behind_50 rfl ?_
      refine ev_getr (pc := 51) hC 3 f19 dX5_behind_51 (by decide) (by decide) (by decide) (by decide) (by decide) ?_
      refine ev_getr (pc := 54) hC 27 f109 dX5_behind_54 (by decide) (by decide) (by decide) (by decide) (by decide) ?_
      refine ev_iload_n (pc := 57) hC dX5_behind_57 rfl ?_
      have hb58 := hA42.b9 p0 (by omega)
      refine ev_iald (pc := 58) hC p0 (((goN 0 p1 A) 4 p0 : Nat) : Int) (by decide) (by decide) (rfl) (by have := (show alen 27 = 8 from rfl); omega) (hA42.c4 p0 (by omega)) dX5_behind_58 ?_
      refine ev_goto (pc := 59) hC 71 dX5_behind_59 (by decide) ?_
      exact ev_ireturn (pc := 71) hC hR dX5_behind_71 (⟨rv (w1_okr c24 (by rw [if_pos c47]; first | done | rfl)), cI_ok c24 (cI_fr3 hV hFr42), frC_3 hFr42⟩)
  · refine ev_aload_n (pc := 27) hC dX5_behind_27 rfl ?_
    refine ev_iload (pc := 28) hC dX5_behind_28 rfl ?_
    refine ev_callV (pc := 30) (as := [vi (f3 (cdP A x0) (bnd x1 0 60) (cdO x2 2))]) (rest := []) hC gX5_behind_X5_refuse mtX5_refuse dX5_behind_30 (ru_X5_refuse (f3 (cdP A x0) (bnd x1 0 60) (cdO x2 2)) (by omega)) (by decide) (by decide) (by decide) rfl (by rfl) (Nat.le_of_ble_eq_true rfl) rfl (fun v30 X30 h30 => ?_)
    obtain ⟨rfl, rfl⟩ := h30
    show Ev K 33 [some (.ref 0), some (vi x0), some (vi x1), some (vi x2), some (vi (f3 (cdP A x0) (bnd x1 0 60) (cdO x2 2)))] [vi (f3 (cdP A x0) (bnd x1 0 60) (cdO x2 2))] (mset X 8 (-(f3 (cdP A x0) (bnd x1 0 60) (cdO x2 2))).toNat (X 8 (-(f3 (cdP A x0) (bnd x1 0 60) (cdO x2 2))).toNat + 1))
    exact ev_ireturn (pc := 33) hC hR dX5_behind_33 (⟨rv (w1_no c24), cI_no c24 hV, frC_set (frC_rf X) (by omega)⟩)
theorem mtX5_then : MT yX5_then wsX5_then cX5_then 5 (some .int) 2 := ⟨⟨_, rfl⟩, by decide, by decide, by decide +kernel⟩
set_option maxRecDepth 100000 in
set_option maxHeartbeats 4000000 in
theorem ru_X5_then {X : Mem} {V : St} (hV : cI X V) (x0 : Int) (hx0 : -2147483648 ≤ x0 ∧ x0 ≤ 2147483647) (x1 : Int) (hx1 : -2147483648 ≤ x1 ∧ x1 ≤ 2147483647) : Ru yX5_then wsX5_then 5 139 [.ref 0, vi x0, vi x1] X (fun v X' => v = some (vi (sp11 x0 x1 V).1) ∧ cI X' (sp11 x0 x1 V).2 ∧ frC X X') := by
  refine ru_of (w2 := _) rfl (by decide) [some (.ref 0), some (vi x0), some (vi x1), none, none] (fun _ => rfl) (fun _ => Nat.le_of_ble_eq_true rfl) ?_
  intro K hKn hC hR
  have wX5 : ∀ w ∈ u_ws RX5 TX5 9, w ∈ wsX5_then := by decide +kernel
  have f27 : Fl K RX5 27 5 3 := fl_of hC RX5 TX5 9 rfl (by decide) wX5 (show Cond.fieldLink RX5 27 "PicnicOfSomebody" "mind" "LPicnicOfSomebody$Mind;" ∈ _ by decide +kernel)
  have f19 : Fl K RX5 19 5 2 := fl_of hC RX5 TX5 9 rfl (by decide) wX5 (show Cond.fieldLink RX5 19 "PicnicOfSomebody" "thought" "LPicnicOfSomebody$Slope;" ∈ _ by decide +kernel)
  obtain ⟨A, B, hh, T, n, W, rs, C⟩ := V
  have hA : Rp (vC X 1) A := hV.1
  have hyA : A 5 1 ≤ 999 := hV.2.1
  have hB : hh = true → Rp (vC X 2) B ∧ B 5 1 ≤ 999 := hV.2.2.1
  have hi : X 0 8 = zI (b2i hh) := hV.2.2.2.1
  have hT : Txt X T n := hV.2.2.2.2.1
  have hW : RWp X W rs := hV.2.2.2.2.2.1
  have hCn : ∀ k, k < 7 → X 8 k = zI (C k : Nat) := hV.2.2.2.2.2.2
  have hn8 := hA.n8
  have hn96 := hT.2.1
  have hrs := hW.2.1
  refine ev_iload_n (pc := 0) hC dX5_then_0 rfl ?_
  refine ev_iconst (pc := 1) hC dX5_then_1 ?_
  refine ev_bipush (pc := 2) hC dX5_then_2 (by decide) ?_
  refine ev_callS (pc := 4) (as := [vi x0, vi 0, vi 60]) (rest := []) hC gX5_then_X5_range mtX5_range dX5_then_4 (ru_X5_range x0 0 60 (by omega) (by omega) (by omega)) (by decide) (by rfl) (Nat.le_of_ble_eq_true rfl) rfl (fun v4 X4 h4 => ?_)
  obtain ⟨rfl, rfl⟩ := h4
  show Ev K 7 [some (.ref 0), some (vi x0), some (vi x1), none, none] [vi (bnd x0 0 60)] X
  have hcd4 := bnd_cases x0 0 60
  refine ev_iload_n (pc := 7) hC dX5_then_7 rfl ?_
  refine ev_iconst (pc := 8) hC dX5_then_8 ?_
  refine ev_callS (pc := 9) (as := [vi x1, vi 2]) (rest := [vi (bnd x0 0 60)]) hC gX5_then_X5_other mtX5_other dX5_then_9 (ru_X5_other x1 2 (by omega) (by omega)) (by decide) (by rfl) (Nat.le_of_ble_eq_true rfl) rfl (fun v9 X9 h9 => ?_)
  obtain ⟨rfl, rfl⟩ := h9
  show Ev K 12 [some (.ref 0), some (vi x0), some (vi x1), none, none] [vi (cdO x1 2), vi (bnd x0 0 60)] X
  have hcd9 := cdO_cases x1 2
  refine ev_iconst (pc := 12) hC dX5_then_12 ?_
  refine ev_callS (pc := 13) (as := [vi (bnd x0 0 60), vi (cdO x1 2), vi 0]) (rest := []) hC gX5_then_X5_firstOf mtX5_firstOf dX5_then_13 (ru_X5_firstOf (bnd x0 0 60) (cdO x1 2) 0 (by omega) (by omega) (by omega)) (by decide) (by rfl) (Nat.le_of_ble_eq_true rfl) rfl (fun v13 X13 h13 => ?_)
  obtain ⟨rfl, rfl⟩ := h13
  show Ev K 16 [some (.ref 0), some (vi x0), some (vi x1), none, none] [vi (f3 (bnd x0 0 60) (cdO x1 2) 0)] X
  have hcd13 := f3_cases (bnd x0 0 60) (cdO x1 2) 0
  refine ev_istore_n (pc := 16) hC dX5_then_16 (by rw [hKn]; decide) rfl ?_
  show Ev K 17 [some (.ref 0), some (vi x0), some (vi x1), some (vi (f3 (bnd x0 0 60) (cdO x1 2) 0)), none] [] X
  refine ev_iload_n (pc := 17) hC dX5_then_17 rfl ?_
  refine ev_if_eq (pc := 18) hC 27 dX5_then_18 (by decide) (by omega) (fun c18 => ?_) (fun c18 => ?_)
  · obtain ⟨p0, rfl⟩ : ∃ k : Nat, x0 = (k : Int) := ⟨x0.toNat, by omega⟩
    refine ev_aload_n (pc := 27) hC dX5_then_27 rfl ?_
    refine ev_getr (pc := 28) hC 4 f27 dX5_then_28 (by decide) (by decide) (by decide) (by decide) (by decide) ?_
    refine ev_callV (pc := 31) (as := []) (rest := []) hC gX5_then_X1_think mtX1_think dX5_then_31 (ru_X1_think hA) (by decide) (by decide) (by decide) rfl (by rfl) (Nat.le_of_ble_eq_true rfl) rfl (fun v31 X31 h31 => ?_)
    obtain ⟨rfl, hA31, hF31⟩ := h31
    show Ev K 34 [some (.ref 0), some (vi ((p0 : Nat) : Int)), some (vi x1), some (vi (f3 (bnd ((p0 : Nat) : Int) 0 60) (cdO x1 2) 0)), none] [.ref 3] X31
    have hN131 := hA.fr31 hF31
    have hFr31 := frS_tr (frS_rf 3 X) hF31
    refine ev_iload_n (pc := 34) hC dX5_then_34 rfl ?_
    refine ev_callV (pc := 35) (as := [vi ((p0 : Nat) : Int)]) (rest := []) hC gX5_then_X3_passYears mtX3_passYears dX5_then_35 (ru_X3_passYears (s := 3) spl3 hA31 p0 (by omega)) (by decide) (by decide) (by decide) rfl (by rfl) (Nat.le_of_ble_eq_true rfl) rfl (fun v35 X35 h35 => ?_)
    obtain ⟨rfl, hA35, hF35⟩ := h35
    show Ev K 38 [some (.ref 0), some (vi ((p0 : Nat) : Int)), some (vi x1), some (vi (f3 (bnd ((p0 : Nat) : Int) 0 60) (cdO x1 2) 0)), none] [vi ((bcnt 0 (goN 0 p0 A) : Nat) : Int)] X35
    have hl35 := bcnt_le 0 (goN 0 p0 A)
    have hn35 := hA35.n8
    have hN135 := hN131.fr31 hF35
    have hFr35 := frS_tr hFr31 hF35
    refine ev_istore (pc := 38) hC dX5_then_38 (by rw [hKn]; decide) rfl ?_
    show Ev K 40 [some (.ref 0), some (vi ((p0 : Nat) : Int)), some (vi x1), some (vi (f3 (bnd ((p0 : Nat) : Int) 0 60) (cdO x1 2) 0)), some (vi ((bcnt 0 (goN 0 p0 A) : Nat) : Int))] [] X35
    refine ev_iload_n (pc := 40) hC dX5_then_40 rfl ?_
    refine ev_if_ne (pc := 41) hC 54 dX5_then_41 (by decide) (by omega) (fun c41 => ?_) (fun c41 => ?_)
    · refine ev_iload (pc := 54) hC dX5_then_54 rfl ?_
      exact ev_ireturn (pc := 56) hC hR dX5_then_56 (⟨rv (w1_okr c18 (by rw [if_neg c41]; first | done | rfl)), cI_ok c18 (cI_fr3 hV hFr35), frC_3 hFr35⟩)
    · refine ev_aload_n (pc := 44) hC dX5_then_44 rfl ?_
      refine ev_getr (pc := 45) hC 3 f19 dX5_then_45 (by decide) (by decide) (by decide) (by decide) (by decide) ?_
      refine ev_callV (pc := 48) (as := []) (rest := []) hC gX5_then_X3_hollow mtX3_hollow dX5_then_48 (ru_X3_hollow (s := 3) spl3 hA35) (by decide) (by decide) (by decide) rfl (by rfl) (Nat.le_of_ble_eq_true rfl) rfl (fun v48 X48 h48 => ?_)
      obtain ⟨rfl, rfl⟩ := h48
      show Ev K 51 [some (.ref 0), some (vi ((p0 : Nat) : Int)), some (vi x1), some (vi (f3 (bnd ((p0 : Nat) : Int) 0 60) (cdO x1 2) 0)), some (vi ((bcnt 0 (goN 0 p0 A) : Nat) : Int))] [vi ((here (goN 0 p0 A) : Nat) : Int)] X35
      have hh48 := here_lt (goN 0 p0 A)
      refine ev_goto (pc := 51) hC 56 dX5_then_51 (by decide) ?_
      exact ev_ireturn (pc := 56) hC hR dX5_then_56 (⟨rv (w1_okr c18 (by rw [if_pos c41]; first | done | rfl)), cI_ok c18 (cI_fr3 hV hFr35), frC_3 hFr35⟩)
  · refine ev_aload_n (pc := 21) hC dX5_then_21 rfl ?_
    refine ev_iload_n (pc := 22) hC dX5_then_22 rfl ?_
    refine ev_callV (pc := 23) (as := [vi (f3 (bnd x0 0 60) (cdO x1 2) 0)]) (rest := []) hC gX5_then_X5_refuse mtX5_refuse dX5_then_23 (ru_X5_refuse (f3 (bnd x0 0 60) (cdO x1 2) 0) (by omega)) (by decide) (by decide) (by decide) rfl (by rfl) (Nat.le_of_ble_eq_true rfl) rfl (fun v23 X23 h23 => ?_)
    obtain ⟨rfl, rfl⟩ := h23
    show Ev K 26 [some (.ref 0), some (vi x0), some (vi x1), some (vi (f3 (bnd x0 0 60) (cdO x1 2) 0)), none] [vi (f3 (bnd x0 0 60) (cdO x1 2) 0)] (mset X 8 (-(f3 (bnd x0 0 60) (cdO x1 2) 0)).toNat (X 8 (-(f3 (bnd x0 0 60) (cdO x1 2) 0)).toNat + 1))
    exact ev_ireturn (pc := 26) hC hR dX5_then_26 (⟨rv (w1_no c18), cI_no c18 hV, frC_set (frC_rf X) (by omega)⟩)
theorem mtX5_depthThen : MT yX5_depthThen wsX5_depthThen cX5_depthThen 4 (some .int) 2 := ⟨⟨_, rfl⟩, by decide, by decide, by decide +kernel⟩
set_option maxRecDepth 100000 in
set_option maxHeartbeats 4000000 in
theorem ru_X5_depthThen {X : Mem} {V : St} (hV : cI X V) (x0 : Int) (hx0 : -2147483648 ≤ x0 ∧ x0 ≤ 2147483647) (x1 : Int) (hx1 : -2147483648 ≤ x1 ∧ x1 ≤ 2147483647) : Ru yX5_depthThen wsX5_depthThen 5 139 [.ref 0, vi x0, vi x1] X (fun v X' => v = some (vi (sp12 x0 x1 V).1) ∧ cI X' (sp12 x0 x1 V).2 ∧ frC X X') := by
  refine ru_of (w2 := _) rfl (by decide) [some (.ref 0), some (vi x0), some (vi x1), none] (fun _ => rfl) (fun _ => Nat.le_of_ble_eq_true rfl) ?_
  intro K hKn hC hR
  have wX5 : ∀ w ∈ u_ws RX5 TX5 9, w ∈ wsX5_depthThen := by decide +kernel
  have f27 : Fl K RX5 27 5 3 := fl_of hC RX5 TX5 9 rfl (by decide) wX5 (show Cond.fieldLink RX5 27 "PicnicOfSomebody" "mind" "LPicnicOfSomebody$Mind;" ∈ _ by decide +kernel)
  have f19 : Fl K RX5 19 5 2 := fl_of hC RX5 TX5 9 rfl (by decide) wX5 (show Cond.fieldLink RX5 19 "PicnicOfSomebody" "thought" "LPicnicOfSomebody$Slope;" ∈ _ by decide +kernel)
  have wX3 : ∀ w ∈ u_ws RX3 TX3 8, w ∈ wsX5_depthThen := by decide +kernel
  have f87 : Fl K RX5 87 3 0 := fl_of hC RX3 TX3 8 rfl (by decide) wX3 (show Cond.fieldLink RX5 87 "PicnicOfSomebody$Slope" "depths" "[I" ∈ _ by decide +kernel)
  obtain ⟨A, B, hh, T, n, W, rs, C⟩ := V
  have hA : Rp (vC X 1) A := hV.1
  have hyA : A 5 1 ≤ 999 := hV.2.1
  have hB : hh = true → Rp (vC X 2) B ∧ B 5 1 ≤ 999 := hV.2.2.1
  have hi : X 0 8 = zI (b2i hh) := hV.2.2.2.1
  have hT : Txt X T n := hV.2.2.2.2.1
  have hW : RWp X W rs := hV.2.2.2.2.2.1
  have hCn : ∀ k, k < 7 → X 8 k = zI (C k : Nat) := hV.2.2.2.2.2.2
  have hn8 := hA.n8
  have hn96 := hT.2.1
  have hrs := hW.2.1
  refine ev_iload_n (pc := 0) hC dX5_depthThen_0 rfl ?_
  refine ev_callS (pc := 1) (as := [vi x0]) (rest := []) hC gX5_depthThen_X5_noCell mtX5_noCell dX5_depthThen_1 (ru_X5_noCell x0 (by omega)) (by decide) (by rfl) (Nat.le_of_ble_eq_true rfl) rfl (fun v1 X1 h1 => ?_)
  obtain ⟨rfl, rfl⟩ := h1
  show Ev K 4 [some (.ref 0), some (vi x0), some (vi x1), none] [vi (cdC x0)] X
  have hcd1 := cdC_cases x0
  refine ev_iload_n (pc := 4) hC dX5_depthThen_4 rfl ?_
  refine ev_iconst (pc := 5) hC dX5_depthThen_5 ?_
  refine ev_bipush (pc := 6) hC dX5_depthThen_6 (by decide) ?_
  refine ev_callS (pc := 8) (as := [vi x1, vi 0, vi 60]) (rest := [vi (cdC x0)]) hC gX5_depthThen_X5_range mtX5_range dX5_depthThen_8 (ru_X5_range x1 0 60 (by omega) (by omega) (by omega)) (by decide) (by rfl) (Nat.le_of_ble_eq_true rfl) rfl (fun v8 X8 h8 => ?_)
  obtain ⟨rfl, rfl⟩ := h8
  show Ev K 11 [some (.ref 0), some (vi x0), some (vi x1), none] [vi (bnd x1 0 60), vi (cdC x0)] X
  have hcd8 := bnd_cases x1 0 60
  refine ev_iconst (pc := 11) hC dX5_depthThen_11 ?_
  refine ev_callS (pc := 12) (as := [vi (cdC x0), vi (bnd x1 0 60), vi 0]) (rest := []) hC gX5_depthThen_X5_firstOf mtX5_firstOf dX5_depthThen_12 (ru_X5_firstOf (cdC x0) (bnd x1 0 60) 0 (by omega) (by omega) (by omega)) (by decide) (by rfl) (Nat.le_of_ble_eq_true rfl) rfl (fun v12 X12 h12 => ?_)
  obtain ⟨rfl, rfl⟩ := h12
  show Ev K 15 [some (.ref 0), some (vi x0), some (vi x1), none] [vi (f3 (cdC x0) (bnd x1 0 60) 0)] X
  have hcd12 := f3_cases (cdC x0) (bnd x1 0 60) 0
  refine ev_istore_n (pc := 15) hC dX5_depthThen_15 (by rw [hKn]; decide) rfl ?_
  show Ev K 16 [some (.ref 0), some (vi x0), some (vi x1), some (vi (f3 (cdC x0) (bnd x1 0 60) 0))] [] X
  refine ev_iload_n (pc := 16) hC dX5_depthThen_16 rfl ?_
  refine ev_if_eq (pc := 17) hC 26 dX5_depthThen_17 (by decide) (by omega) (fun c17 => ?_) (fun c17 => ?_)
  · obtain ⟨p0, rfl⟩ : ∃ k : Nat, x0 = (k : Int) := ⟨x0.toNat, by omega⟩
    obtain ⟨p1, rfl⟩ : ∃ k : Nat, x1 = (k : Int) := ⟨x1.toNat, by omega⟩
    refine ev_aload_n (pc := 26) hC dX5_depthThen_26 rfl ?_
    refine ev_getr (pc := 27) hC 4 f27 dX5_depthThen_27 (by decide) (by decide) (by decide) (by decide) (by decide) ?_
    refine ev_callV (pc := 30) (as := []) (rest := []) hC gX5_depthThen_X1_think mtX1_think dX5_depthThen_30 (ru_X1_think hA) (by decide) (by decide) (by decide) rfl (by rfl) (Nat.le_of_ble_eq_true rfl) rfl (fun v30 X30 h30 => ?_)
    obtain ⟨rfl, hA30, hF30⟩ := h30
    show Ev K 33 [some (.ref 0), some (vi ((p0 : Nat) : Int)), some (vi ((p1 : Nat) : Int)), some (vi (f3 (cdC ((p0 : Nat) : Int)) (bnd ((p1 : Nat) : Int) 0 60) 0))] [.ref 3] X30
    have hN130 := hA.fr31 hF30
    have hFr30 := frS_tr (frS_rf 3 X) hF30
    refine ev_iload_n (pc := 33) hC dX5_depthThen_33 rfl ?_
    refine ev_callV (pc := 34) (as := [vi ((p1 : Nat) : Int)]) (rest := []) hC gX5_depthThen_X3_passYears mtX3_passYears dX5_depthThen_34 (ru_X3_passYears (s := 3) spl3 hA30 p1 (by omega)) (by decide) (by decide) (by decide) rfl (by rfl) (Nat.le_of_ble_eq_true rfl) rfl (fun v34 X34 h34 => ?_)
    obtain ⟨rfl, hA34, hF34⟩ := h34
    show Ev K 37 [some (.ref 0), some (vi ((p0 : Nat) : Int)), some (vi ((p1 : Nat) : Int)), some (vi (f3 (cdC ((p0 : Nat) : Int)) (bnd ((p1 : Nat) : Int) 0 60) 0))] [vi ((bcnt 0 (goN 0 p1 A) : Nat) : Int)] X34
    have hl34 := bcnt_le 0 (goN 0 p1 A)
    have hn34 := hA34.n8
    have hN134 := hN130.fr31 hF34
    have hFr34 := frS_tr hFr30 hF34
    refine ev_pop (pc := 37) hC rfl dX5_depthThen_37 ?_
    refine ev_aload_n (pc := 38) hC dX5_depthThen_38 rfl ?_
    refine ev_getr (pc := 39) hC 3 f19 dX5_depthThen_39 (by decide) (by decide) (by decide) (by decide) (by decide) ?_
    refine ev_getr (pc := 42) hC 23 f87 dX5_depthThen_42 (by decide) (by decide) (by decide) (by decide) (by decide) ?_
    refine ev_iload_n (pc := 45) hC dX5_depthThen_45 rfl ?_
    have hb46 := hA34.d99 p0 (by omega)
    refine ev_iald (pc := 46) hC p0 (((goN 0 p1 A) 0 p0 : Nat) : Int) (by decide) (by decide) (rfl) (by have := (show alen 23 = 25 from rfl); omega) (hA34.c0 p0 (by omega)) dX5_depthThen_46 ?_
    exact ev_ireturn (pc := 47) hC hR dX5_depthThen_47 (⟨rv (w1_okr c17 (by rfl)), cI_ok c17 (cI_fr3 hV hFr34), frC_3 hFr34⟩)
  · refine ev_aload_n (pc := 20) hC dX5_depthThen_20 rfl ?_
    refine ev_iload_n (pc := 21) hC dX5_depthThen_21 rfl ?_
    refine ev_callV (pc := 22) (as := [vi (f3 (cdC x0) (bnd x1 0 60) 0)]) (rest := []) hC gX5_depthThen_X5_refuse mtX5_refuse dX5_depthThen_22 (ru_X5_refuse (f3 (cdC x0) (bnd x1 0 60) 0) (by omega)) (by decide) (by decide) (by decide) rfl (by rfl) (Nat.le_of_ble_eq_true rfl) rfl (fun v22 X22 h22 => ?_)
    obtain ⟨rfl, rfl⟩ := h22
    show Ev K 25 [some (.ref 0), some (vi x0), some (vi x1), some (vi (f3 (cdC x0) (bnd x1 0 60) 0))] [vi (f3 (cdC x0) (bnd x1 0 60) 0)] (mset X 8 (-(f3 (cdC x0) (bnd x1 0 60) 0)).toNat (X 8 (-(f3 (cdC x0) (bnd x1 0 60) 0)).toNat + 1))
    exact ev_ireturn (pc := 25) hC hR dX5_depthThen_25 (⟨rv (w1_no c17), cI_no c17 hV, frC_set (frC_rf X) (by omega)⟩)
theorem mtX5_makes : MT yX5_makes wsX5_makes cX5_makes 3 (some .int) 1 := ⟨⟨_, rfl⟩, by decide, by decide, by decide +kernel⟩
set_option maxRecDepth 100000 in
set_option maxHeartbeats 4000000 in
theorem ru_X5_makes {X : Mem} {V : St} (hV : cI X V) (x0 : Int) (hx0 : -2147483648 ≤ x0 ∧ x0 ≤ 2147483647) : Ru yX5_makes wsX5_makes 7 187 [.ref 0, vi x0] X (fun v X' => v = some (vi (sp14 x0 V).1) ∧ cI X' (sp14 x0 V).2 ∧ frC X X') := by
  refine ru_of (w2 := _) rfl (by decide) [some (.ref 0), some (vi x0), none] (fun _ => rfl) (fun _ => Nat.le_of_ble_eq_true rfl) ?_
  intro K hKn hC hR
  have wX5 : ∀ w ∈ u_ws RX5 TX5 9, w ∈ wsX5_makes := by decide +kernel
  have f27 : Fl K RX5 27 5 3 := fl_of hC RX5 TX5 9 rfl (by decide) wX5 (show Cond.fieldLink RX5 27 "PicnicOfSomebody" "mind" "LPicnicOfSomebody$Mind;" ∈ _ by decide +kernel)
  obtain ⟨A, B, hh, T, n, W, rs, C⟩ := V
  have hA : Rp (vC X 1) A := hV.1
  have hyA : A 5 1 ≤ 999 := hV.2.1
  have hB : hh = true → Rp (vC X 2) B ∧ B 5 1 ≤ 999 := hV.2.2.1
  have hi : X 0 8 = zI (b2i hh) := hV.2.2.2.1
  have hT : Txt X T n := hV.2.2.2.2.1
  have hW : RWp X W rs := hV.2.2.2.2.2.1
  have hCn : ∀ k, k < 7 → X 8 k = zI (C k : Nat) := hV.2.2.2.2.2.2
  have hn8 := hA.n8
  have hn96 := hT.2.1
  have hrs := hW.2.1
  refine ev_iload_n (pc := 0) hC dX5_makes_0 rfl ?_
  refine ev_iconst (pc := 1) hC dX5_makes_1 ?_
  refine ev_bipush (pc := 2) hC dX5_makes_2 (by decide) ?_
  refine ev_callS (pc := 4) (as := [vi x0, vi 0, vi 20]) (rest := []) hC gX5_makes_X5_range mtX5_range dX5_makes_4 (ru_X5_range x0 0 20 (by omega) (by omega) (by omega)) (by decide) (by rfl) (Nat.le_of_ble_eq_true rfl) rfl (fun v4 X4 h4 => ?_)
  obtain ⟨rfl, rfl⟩ := h4
  show Ev K 7 [some (.ref 0), some (vi x0), none] [vi (bnd x0 0 20)] X
  have hcd4 := bnd_cases x0 0 20
  refine ev_istore_n (pc := 7) hC dX5_makes_7 (by rw [hKn]; decide) rfl ?_
  show Ev K 8 [some (.ref 0), some (vi x0), some (vi (bnd x0 0 20))] [] X
  refine ev_iload_n (pc := 8) hC dX5_makes_8 rfl ?_
  refine ev_if_eq (pc := 9) hC 20 dX5_makes_9 (by decide) (by omega) (fun c9 => ?_) (fun c9 => ?_)
  · obtain ⟨p0, rfl⟩ : ∃ k : Nat, x0 = (k : Int) := ⟨x0.toNat, by omega⟩
    refine ev_aload_n (pc := 20) hC dX5_makes_20 rfl ?_
    refine ev_getr (pc := 21) hC 4 f27 dX5_makes_21 (by decide) (by decide) (by decide) (by decide) (by decide) ?_
    refine ev_iload_n (pc := 24) hC dX5_makes_24 rfl ?_
    refine ev_callV (pc := 25) (as := [vi ((p0 : Nat) : Int)]) (rest := []) hC gX5_makes_X1_fewestMakers mtX1_fewestMakers dX5_makes_25 (ru_X1_fewestMakers hA p0 (by omega)) (by decide) (by decide) (by decide) rfl (by rfl) (Nat.le_of_ble_eq_true rfl) rfl (fun v25 X25 h25 => ?_)
    obtain ⟨rfl, hF25⟩ := h25
    show Ev K 28 [some (.ref 0), some (vi ((p0 : Nat) : Int)), some (vi (bnd ((p0 : Nat) : Int) 0 20))] [vi ((mkr (mkP p0 A) (2 ^ (A 5 0))).1)] X25
    have hN125 := hA.fr31 hF25
    have hFr25 := frS_tr (frS_rf 3 X) hF25
    exact ev_ireturn (pc := 28) hC hR dX5_makes_28 (⟨rv (w1_okr c9 (by rfl)), cI_ok c9 (cI_fr3 hV hFr25), frC_3 hFr25⟩)
  · refine ev_aload_n (pc := 12) hC dX5_makes_12 rfl ?_
    refine ev_iload_n (pc := 13) hC dX5_makes_13 rfl ?_
    refine ev_callV (pc := 14) (as := [vi (bnd x0 0 20)]) (rest := []) hC gX5_makes_X5_refuse mtX5_refuse dX5_makes_14 (ru_X5_refuse (bnd x0 0 20) (by omega)) (by decide) (by decide) (by decide) rfl (by rfl) (Nat.le_of_ble_eq_true rfl) rfl (fun v14 X14 h14 => ?_)
    obtain ⟨rfl, rfl⟩ := h14
    show Ev K 17 [some (.ref 0), some (vi x0), some (vi (bnd x0 0 20))] [vi (bnd x0 0 20)] (mset X 8 (-(bnd x0 0 20)).toNat (X 8 (-(bnd x0 0 20)).toNat + 1))
    refine ev_goto (pc := 17) hC 28 dX5_makes_17 (by decide) ?_
    exact ev_ireturn (pc := 28) hC hR dX5_makes_28 (⟨rv (w1_no c9), cI_no c9 hV, frC_set (frC_rf X) (by omega)⟩)
theorem mtX5_leaves : MT yX5_leaves wsX5_leaves cX5_leaves 3 (some .int) 1 := ⟨⟨_, rfl⟩, by decide, by decide, by decide +kernel⟩
set_option maxRecDepth 100000 in
set_option maxHeartbeats 4000000 in
theorem ru_X5_leaves {X : Mem} {V : St} (hV : cI X V) (x0 : Int) (hx0 : -2147483648 ≤ x0 ∧ x0 ≤ 2147483647) : Ru yX5_leaves wsX5_leaves 7 186 [.ref 0, vi x0] X (fun v X' => v = some (vi (sp15 x0 V).1) ∧ cI X' (sp15 x0 V).2 ∧ frC X X') := by
  refine ru_of (w2 := _) rfl (by decide) [some (.ref 0), some (vi x0), none] (fun _ => rfl) (fun _ => Nat.le_of_ble_eq_true rfl) ?_
  intro K hKn hC hR
  have wX5 : ∀ w ∈ u_ws RX5 TX5 9, w ∈ wsX5_leaves := by decide +kernel
  have f27 : Fl K RX5 27 5 3 := fl_of hC RX5 TX5 9 rfl (by decide) wX5 (show Cond.fieldLink RX5 27 "PicnicOfSomebody" "mind" "LPicnicOfSomebody$Mind;" ∈ _ by decide +kernel)
  obtain ⟨A, B, hh, T, n, W, rs, C⟩ := V
  have hA : Rp (vC X 1) A := hV.1
  have hyA : A 5 1 ≤ 999 := hV.2.1
  have hB : hh = true → Rp (vC X 2) B ∧ B 5 1 ≤ 999 := hV.2.2.1
  have hi : X 0 8 = zI (b2i hh) := hV.2.2.2.1
  have hT : Txt X T n := hV.2.2.2.2.1
  have hW : RWp X W rs := hV.2.2.2.2.2.1
  have hCn : ∀ k, k < 7 → X 8 k = zI (C k : Nat) := hV.2.2.2.2.2.2
  have hn8 := hA.n8
  have hn96 := hT.2.1
  have hrs := hW.2.1
  refine ev_iload_n (pc := 0) hC dX5_leaves_0 rfl ?_
  refine ev_iconst (pc := 1) hC dX5_leaves_1 ?_
  refine ev_bipush (pc := 2) hC dX5_leaves_2 (by decide) ?_
  refine ev_callS (pc := 4) (as := [vi x0, vi 0, vi 20]) (rest := []) hC gX5_leaves_X5_range mtX5_range dX5_leaves_4 (ru_X5_range x0 0 20 (by omega) (by omega) (by omega)) (by decide) (by rfl) (Nat.le_of_ble_eq_true rfl) rfl (fun v4 X4 h4 => ?_)
  obtain ⟨rfl, rfl⟩ := h4
  show Ev K 7 [some (.ref 0), some (vi x0), none] [vi (bnd x0 0 20)] X
  have hcd4 := bnd_cases x0 0 20
  refine ev_istore_n (pc := 7) hC dX5_leaves_7 (by rw [hKn]; decide) rfl ?_
  show Ev K 8 [some (.ref 0), some (vi x0), some (vi (bnd x0 0 20))] [] X
  refine ev_iload_n (pc := 8) hC dX5_leaves_8 rfl ?_
  refine ev_if_eq (pc := 9) hC 20 dX5_leaves_9 (by decide) (by omega) (fun c9 => ?_) (fun c9 => ?_)
  · obtain ⟨p0, rfl⟩ : ∃ k : Nat, x0 = (k : Int) := ⟨x0.toNat, by omega⟩
    refine ev_aload_n (pc := 20) hC dX5_leaves_20 rfl ?_
    refine ev_getr (pc := 21) hC 4 f27 dX5_leaves_21 (by decide) (by decide) (by decide) (by decide) (by decide) ?_
    refine ev_iload_n (pc := 24) hC dX5_leaves_24 rfl ?_
    refine ev_callV (pc := 25) (as := [vi ((p0 : Nat) : Int)]) (rest := []) hC gX5_leaves_X1_fewestLeavers mtX1_fewestLeavers dX5_leaves_25 (ru_X1_fewestLeavers hA p0 (by omega)) (by decide) (by decide) (by decide) rfl (by rfl) (Nat.le_of_ble_eq_true rfl) rfl (fun v25 X25 h25 => ?_)
    obtain ⟨rfl, hF25⟩ := h25
    show Ev K 28 [some (.ref 0), some (vi ((p0 : Nat) : Int)), some (vi (bnd ((p0 : Nat) : Int) 0 20))] [vi ((mkr (lvP p0 A) (2 ^ (A 5 0))).1)] X25
    have hN125 := hA.fr31 hF25
    have hFr25 := frS_tr (frS_rf 3 X) hF25
    exact ev_ireturn (pc := 28) hC hR dX5_leaves_28 (⟨rv (w1_okr c9 (by rfl)), cI_ok c9 (cI_fr3 hV hFr25), frC_3 hFr25⟩)
  · refine ev_aload_n (pc := 12) hC dX5_leaves_12 rfl ?_
    refine ev_iload_n (pc := 13) hC dX5_leaves_13 rfl ?_
    refine ev_callV (pc := 14) (as := [vi (bnd x0 0 20)]) (rest := []) hC gX5_leaves_X5_refuse mtX5_refuse dX5_leaves_14 (ru_X5_refuse (bnd x0 0 20) (by omega)) (by decide) (by decide) (by decide) rfl (by rfl) (Nat.le_of_ble_eq_true rfl) rfl (fun v14 X14 h14 => ?_)
    obtain ⟨rfl, rfl⟩ := h14
    show Ev K 17 [some (.ref 0), some (vi x0), some (vi (bnd x0 0 20))] [vi (bnd x0 0 20)] (mset X 8 (-(bnd x0 0 20)).toNat (X 8 (-(bnd x0 0 20)).toNat + 1))
    refine ev_goto (pc := 17) hC 28 dX5_leaves_17 (by decide) ?_
    exact ev_ireturn (pc := 28) hC hR dX5_leaves_28 (⟨rv (w1_no c9), cI_no c9 hV, frC_set (frC_rf X) (by omega)⟩)
theorem mtX5_ask : MT yX5_ask wsX5_ask cX5_ask 3 (some .int) 1 := ⟨⟨_, rfl⟩, by decide, by decide, by decide +kernel⟩
set_option maxRecDepth 100000 in
set_option maxHeartbeats 4000000 in
theorem ru_X5_ask {X : Mem} {V : St} (hV : cI X V) (x0 : Int) (hx0 : -2147483648 ≤ x0 ∧ x0 ≤ 2147483647) : Ru yX5_ask wsX5_ask 6 164 [.ref 0, vi x0] X (fun v X' => v = some (vi (sp16 x0 V).1) ∧ cI X' (sp16 x0 V).2 ∧ frC X X') := by
  refine ru_of (w2 := _) rfl (by decide) [some (.ref 0), some (vi x0), none] (fun _ => rfl) (fun _ => Nat.le_of_ble_eq_true rfl) ?_
  intro K hKn hC hR
  have wX5 : ∀ w ∈ u_ws RX5 TX5 9, w ∈ wsX5_ask := by decide +kernel
  have f27 : Fl K RX5 27 5 3 := fl_of hC RX5 TX5 9 rfl (by decide) wX5 (show Cond.fieldLink RX5 27 "PicnicOfSomebody" "mind" "LPicnicOfSomebody$Mind;" ∈ _ by decide +kernel)
  obtain ⟨A, B, hh, T, n, W, rs, C⟩ := V
  have hA : Rp (vC X 1) A := hV.1
  have hyA : A 5 1 ≤ 999 := hV.2.1
  have hB : hh = true → Rp (vC X 2) B ∧ B 5 1 ≤ 999 := hV.2.2.1
  have hi : X 0 8 = zI (b2i hh) := hV.2.2.2.1
  have hT : Txt X T n := hV.2.2.2.2.1
  have hW : RWp X W rs := hV.2.2.2.2.2.1
  have hCn : ∀ k, k < 7 → X 8 k = zI (C k : Nat) := hV.2.2.2.2.2.2
  have hn8 := hA.n8
  have hn96 := hT.2.1
  have hrs := hW.2.1
  refine ev_iload_n (pc := 0) hC dX5_ask_0 rfl ?_
  refine ev_iconst (pc := 1) hC dX5_ask_1 ?_
  refine ev_bipush (pc := 2) hC dX5_ask_2 (by decide) ?_
  refine ev_callS (pc := 4) (as := [vi x0, vi 0, vi 60]) (rest := []) hC gX5_ask_X5_range mtX5_range dX5_ask_4 (ru_X5_range x0 0 60 (by omega) (by omega) (by omega)) (by decide) (by rfl) (Nat.le_of_ble_eq_true rfl) rfl (fun v4 X4 h4 => ?_)
  obtain ⟨rfl, rfl⟩ := h4
  show Ev K 7 [some (.ref 0), some (vi x0), none] [vi (bnd x0 0 60)] X
  have hcd4 := bnd_cases x0 0 60
  refine ev_istore_n (pc := 7) hC dX5_ask_7 (by rw [hKn]; decide) rfl ?_
  show Ev K 8 [some (.ref 0), some (vi x0), some (vi (bnd x0 0 60))] [] X
  refine ev_iload_n (pc := 8) hC dX5_ask_8 rfl ?_
  refine ev_if_eq (pc := 9) hC 20 dX5_ask_9 (by decide) (by omega) (fun c9 => ?_) (fun c9 => ?_)
  · obtain ⟨p0, rfl⟩ : ∃ k : Nat, x0 = (k : Int) := ⟨x0.toNat, by omega⟩
    refine ev_aload_n (pc := 20) hC dX5_ask_20 rfl ?_
    refine ev_getr (pc := 21) hC 4 f27 dX5_ask_21 (by decide) (by decide) (by decide) (by decide) (by decide) ?_
    refine ev_iload_n (pc := 24) hC dX5_ask_24 rfl ?_
    refine ev_callV (pc := 25) (as := [vi ((p0 : Nat) : Int)]) (rest := []) hC gX5_ask_X1_whomToAsk mtX1_whomToAsk dX5_ask_25 (ru_X1_whomToAsk hA p0 (by omega)) (by decide) (by decide) (by decide) rfl (by rfl) (Nat.le_of_ble_eq_true rfl) rfl (fun v25 X25 h25 => ?_)
    obtain ⟨rfl, hF25⟩ := h25
    show Ev K 28 [some (.ref 0), some (vi ((p0 : Nat) : Int)), some (vi (bnd ((p0 : Nat) : Int) 0 60))] [vi ((mxr (askF p0 A) (-9) (bcnt 0 (goN 0 p0 A)) (A 5 0)).1)] X25
    have hN125 := hA.fr31 hF25
    have hFr25 := frS_tr (frS_rf 3 X) hF25
    exact ev_ireturn (pc := 28) hC hR dX5_ask_28 (⟨rv (w1_okr c9 (by rfl)), cI_ok c9 (cI_fr3 hV hFr25), frC_3 hFr25⟩)
  · refine ev_aload_n (pc := 12) hC dX5_ask_12 rfl ?_
    refine ev_iload_n (pc := 13) hC dX5_ask_13 rfl ?_
    refine ev_callV (pc := 14) (as := [vi (bnd x0 0 60)]) (rest := []) hC gX5_ask_X5_refuse mtX5_refuse dX5_ask_14 (ru_X5_refuse (bnd x0 0 60) (by omega)) (by decide) (by decide) (by decide) rfl (by rfl) (Nat.le_of_ble_eq_true rfl) rfl (fun v14 X14 h14 => ?_)
    obtain ⟨rfl, rfl⟩ := h14
    show Ev K 17 [some (.ref 0), some (vi x0), some (vi (bnd x0 0 60))] [vi (bnd x0 0 60)] (mset X 8 (-(bnd x0 0 60)).toNat (X 8 (-(bnd x0 0 60)).toNat + 1))
    refine ev_goto (pc := 17) hC 28 dX5_ask_17 (by decide) ?_
    exact ev_ireturn (pc := 28) hC hR dX5_ask_28 (⟨rv (w1_no c9), cI_no c9 hV, frC_set (frC_rf X) (by omega)⟩)
theorem mtX5_doubt : MT yX5_doubt wsX5_doubt cX5_doubt 3 (some .int) 1 := ⟨⟨_, rfl⟩, by decide, by decide, by decide +kernel⟩
set_option maxRecDepth 100000 in
set_option maxHeartbeats 4000000 in
theorem ru_X5_doubt {X : Mem} {V : St} (hV : cI X V) (x0 : Int) (hx0 : -2147483648 ≤ x0 ∧ x0 ≤ 2147483647) : Ru yX5_doubt wsX5_doubt 6 164 [.ref 0, vi x0] X (fun v X' => v = some (vi (sp18 x0 V).1) ∧ cI X' (sp18 x0 V).2 ∧ frC X X') := by
  refine ru_of (w2 := _) rfl (by decide) [some (.ref 0), some (vi x0), none] (fun _ => rfl) (fun _ => Nat.le_of_ble_eq_true rfl) ?_
  intro K hKn hC hR
  have wX5 : ∀ w ∈ u_ws RX5 TX5 9, w ∈ wsX5_doubt := by decide +kernel
  have f27 : Fl K RX5 27 5 3 := fl_of hC RX5 TX5 9 rfl (by decide) wX5 (show Cond.fieldLink RX5 27 "PicnicOfSomebody" "mind" "LPicnicOfSomebody$Mind;" ∈ _ by decide +kernel)
  obtain ⟨A, B, hh, T, n, W, rs, C⟩ := V
  have hA : Rp (vC X 1) A := hV.1
  have hyA : A 5 1 ≤ 999 := hV.2.1
  have hB : hh = true → Rp (vC X 2) B ∧ B 5 1 ≤ 999 := hV.2.2.1
  have hi : X 0 8 = zI (b2i hh) := hV.2.2.2.1
  have hT : Txt X T n := hV.2.2.2.2.1
  have hW : RWp X W rs := hV.2.2.2.2.2.1
  have hCn : ∀ k, k < 7 → X 8 k = zI (C k : Nat) := hV.2.2.2.2.2.2
  have hn8 := hA.n8
  have hn96 := hT.2.1
  have hrs := hW.2.1
  refine ev_iload_n (pc := 0) hC dX5_doubt_0 rfl ?_
  refine ev_iconst (pc := 1) hC dX5_doubt_1 ?_
  refine ev_bipush (pc := 2) hC dX5_doubt_2 (by decide) ?_
  refine ev_callS (pc := 4) (as := [vi x0, vi 0, vi 60]) (rest := []) hC gX5_doubt_X5_range mtX5_range dX5_doubt_4 (ru_X5_range x0 0 60 (by omega) (by omega) (by omega)) (by decide) (by rfl) (Nat.le_of_ble_eq_true rfl) rfl (fun v4 X4 h4 => ?_)
  obtain ⟨rfl, rfl⟩ := h4
  show Ev K 7 [some (.ref 0), some (vi x0), none] [vi (bnd x0 0 60)] X
  have hcd4 := bnd_cases x0 0 60
  refine ev_istore_n (pc := 7) hC dX5_doubt_7 (by rw [hKn]; decide) rfl ?_
  show Ev K 8 [some (.ref 0), some (vi x0), some (vi (bnd x0 0 60))] [] X
  refine ev_iload_n (pc := 8) hC dX5_doubt_8 rfl ?_
  refine ev_if_eq (pc := 9) hC 20 dX5_doubt_9 (by decide) (by omega) (fun c9 => ?_) (fun c9 => ?_)
  · obtain ⟨p0, rfl⟩ : ∃ k : Nat, x0 = (k : Int) := ⟨x0.toNat, by omega⟩
    refine ev_aload_n (pc := 20) hC dX5_doubt_20 rfl ?_
    refine ev_getr (pc := 21) hC 4 f27 dX5_doubt_21 (by decide) (by decide) (by decide) (by decide) (by decide) ?_
    refine ev_iload_n (pc := 24) hC dX5_doubt_24 rfl ?_
    refine ev_callV (pc := 25) (as := [vi ((p0 : Nat) : Int)]) (rest := []) hC gX5_doubt_X1_worstDoubter mtX1_worstDoubter dX5_doubt_25 (ru_X1_worstDoubter hA p0 (by omega)) (by decide) (by decide) (by decide) rfl (by rfl) (Nat.le_of_ble_eq_true rfl) rfl (fun v25 X25 h25 => ?_)
    obtain ⟨rfl, hF25⟩ := h25
    show Ev K 28 [some (.ref 0), some (vi ((p0 : Nat) : Int)), some (vi (bnd ((p0 : Nat) : Int) 0 60))] [vi ((mnr (dbtF p0 A) 9 (A 5 0)).1)] X25
    have hN125 := hA.fr31 hF25
    have hFr25 := frS_tr (frS_rf 3 X) hF25
    exact ev_ireturn (pc := 28) hC hR dX5_doubt_28 (⟨rv (w1_okr c9 (by rfl)), cI_ok c9 (cI_fr3 hV hFr25), frC_3 hFr25⟩)
  · refine ev_aload_n (pc := 12) hC dX5_doubt_12 rfl ?_
    refine ev_iload_n (pc := 13) hC dX5_doubt_13 rfl ?_
    refine ev_callV (pc := 14) (as := [vi (bnd x0 0 60)]) (rest := []) hC gX5_doubt_X5_refuse mtX5_refuse dX5_doubt_14 (ru_X5_refuse (bnd x0 0 60) (by omega)) (by decide) (by decide) (by decide) rfl (by rfl) (Nat.le_of_ble_eq_true rfl) rfl (fun v14 X14 h14 => ?_)
    obtain ⟨rfl, rfl⟩ := h14
    show Ev K 17 [some (.ref 0), some (vi x0), some (vi (bnd x0 0 60))] [vi (bnd x0 0 60)] (mset X 8 (-(bnd x0 0 60)).toNat (X 8 (-(bnd x0 0 60)).toNat + 1))
    refine ev_goto (pc := 17) hC 28 dX5_doubt_17 (by decide) ?_
    exact ev_ireturn (pc := 28) hC hR dX5_doubt_28 (⟨rv (w1_no c9), cI_no c9 hV, frC_set (frC_rf X) (by omega)⟩)
theorem mtX5_passed : MT yX5_passed wsX5_passed cX5_passed 3 (some .int) 1 := ⟨⟨_, rfl⟩, by decide, by decide, by decide +kernel⟩
set_option maxRecDepth 100000 in
set_option maxHeartbeats 4000000 in
theorem ru_X5_passed {X : Mem} {V : St} (hV : cI X V) (x0 : Int) (hx0 : -2147483648 ≤ x0 ∧ x0 ≤ 2147483647) : Ru yX5_passed wsX5_passed 5 140 [.ref 0, vi x0] X (fun v X' => v = some (vi (sp21 x0 V).1) ∧ cI X' (sp21 x0 V).2 ∧ frC X X') := by
  refine ru_of (w2 := _) rfl (by decide) [some (.ref 0), some (vi x0), none] (fun _ => rfl) (fun _ => Nat.le_of_ble_eq_true rfl) ?_
  intro K hKn hC hR
  have wX5 : ∀ w ∈ u_ws RX5 TX5 9, w ∈ wsX5_passed := by decide +kernel
  have f27 : Fl K RX5 27 5 3 := fl_of hC RX5 TX5 9 rfl (by decide) wX5 (show Cond.fieldLink RX5 27 "PicnicOfSomebody" "mind" "LPicnicOfSomebody$Mind;" ∈ _ by decide +kernel)
  obtain ⟨A, B, hh, T, n, W, rs, C⟩ := V
  have hA : Rp (vC X 1) A := hV.1
  have hyA : A 5 1 ≤ 999 := hV.2.1
  have hB : hh = true → Rp (vC X 2) B ∧ B 5 1 ≤ 999 := hV.2.2.1
  have hi : X 0 8 = zI (b2i hh) := hV.2.2.2.1
  have hT : Txt X T n := hV.2.2.2.2.1
  have hW : RWp X W rs := hV.2.2.2.2.2.1
  have hCn : ∀ k, k < 7 → X 8 k = zI (C k : Nat) := hV.2.2.2.2.2.2
  have hn8 := hA.n8
  have hn96 := hT.2.1
  have hrs := hW.2.1
  refine ev_iload_n (pc := 0) hC dX5_passed_0 rfl ?_
  refine ev_iconst (pc := 1) hC dX5_passed_1 ?_
  refine ev_bipush (pc := 2) hC dX5_passed_2 (by decide) ?_
  refine ev_callS (pc := 4) (as := [vi x0, vi 0, vi 60]) (rest := []) hC gX5_passed_X5_range mtX5_range dX5_passed_4 (ru_X5_range x0 0 60 (by omega) (by omega) (by omega)) (by decide) (by rfl) (Nat.le_of_ble_eq_true rfl) rfl (fun v4 X4 h4 => ?_)
  obtain ⟨rfl, rfl⟩ := h4
  show Ev K 7 [some (.ref 0), some (vi x0), none] [vi (bnd x0 0 60)] X
  have hcd4 := bnd_cases x0 0 60
  refine ev_istore_n (pc := 7) hC dX5_passed_7 (by rw [hKn]; decide) rfl ?_
  show Ev K 8 [some (.ref 0), some (vi x0), some (vi (bnd x0 0 60))] [] X
  refine ev_iload_n (pc := 8) hC dX5_passed_8 rfl ?_
  refine ev_if_eq (pc := 9) hC 20 dX5_passed_9 (by decide) (by omega) (fun c9 => ?_) (fun c9 => ?_)
  · obtain ⟨p0, rfl⟩ : ∃ k : Nat, x0 = (k : Int) := ⟨x0.toNat, by omega⟩
    refine ev_aload_n (pc := 20) hC dX5_passed_20 rfl ?_
    refine ev_getr (pc := 21) hC 4 f27 dX5_passed_21 (by decide) (by decide) (by decide) (by decide) (by decide) ?_
    refine ev_iload_n (pc := 24) hC dX5_passed_24 rfl ?_
    refine ev_callV (pc := 25) (as := [vi ((p0 : Nat) : Int)]) (rest := []) hC gX5_passed_X1_thingsPassed mtX1_thingsPassed dX5_passed_25 (ru_X1_thingsPassed hA p0 (by omega)) (by decide) (by decide) (by decide) rfl (by rfl) (Nat.le_of_ble_eq_true rfl) rfl (fun v25 X25 h25 => ?_)
    obtain ⟨rfl, hF25⟩ := h25
    show Ev K 28 [some (.ref 0), some (vi ((p0 : Nat) : Int)), some (vi (bnd ((p0 : Nat) : Int) 0 60))] [vi ((sumB p0 (fun k => figs (goN 0 k A)) : Nat) : Int)] X25
    have hN125 := hA.fr31 hF25
    have hFr25 := frS_tr (frS_rf 3 X) hF25
    exact ev_ireturn (pc := 28) hC hR dX5_passed_28 (⟨rv (w1_okr c9 (by rfl)), cI_ok c9 (cI_fr3 hV hFr25), frC_3 hFr25⟩)
  · refine ev_aload_n (pc := 12) hC dX5_passed_12 rfl ?_
    refine ev_iload_n (pc := 13) hC dX5_passed_13 rfl ?_
    refine ev_callV (pc := 14) (as := [vi (bnd x0 0 60)]) (rest := []) hC gX5_passed_X5_refuse mtX5_refuse dX5_passed_14 (ru_X5_refuse (bnd x0 0 60) (by omega)) (by decide) (by decide) (by decide) rfl (by rfl) (Nat.le_of_ble_eq_true rfl) rfl (fun v14 X14 h14 => ?_)
    obtain ⟨rfl, rfl⟩ := h14
    show Ev K 17 [some (.ref 0), some (vi x0), some (vi (bnd x0 0 60))] [vi (bnd x0 0 60)] (mset X 8 (-(bnd x0 0 60)).toNat (X 8 (-(bnd x0 0 60)).toNat + 1))
    refine ev_goto (pc := 17) hC 28 dX5_passed_17 (by decide) ?_
    exact ev_ireturn (pc := 28) hC hR dX5_passed_28 (⟨rv (w1_no c9), cI_no c9 hV, frC_set (frC_rf X) (by omega)⟩)
theorem mtX5_heard : MT yX5_heard wsX5_heard cX5_heard 3 (some .int) 1 := ⟨⟨_, rfl⟩, by decide, by decide, by decide +kernel⟩
set_option maxRecDepth 100000 in
set_option maxHeartbeats 4000000 in
theorem ru_X5_heard {X : Mem} {V : St} (hV : cI X V) (x0 : Int) (hx0 : -2147483648 ≤ x0 ∧ x0 ≤ 2147483647) : Ru yX5_heard wsX5_heard 3 70 [.ref 0, vi x0] X (fun v X' => v = some (vi (sp22 x0 V).1) ∧ cI X' (sp22 x0 V).2 ∧ frC X X') := by
  refine ru_of (w2 := _) rfl (by decide) [some (.ref 0), some (vi x0), none] (fun _ => rfl) (fun _ => Nat.le_of_ble_eq_true rfl) ?_
  intro K hKn hC hR
  have wX5 : ∀ w ∈ u_ws RX5 TX5 9, w ∈ wsX5_heard := by decide +kernel
  have f36 : Fl K RX5 36 5 4 := fl_of hC RX5 TX5 9 rfl (by decide) wX5 (show Cond.fieldLink RX5 36 "PicnicOfSomebody" "company" "LPicnicOfSomebody$Company;" ∈ _ by decide +kernel)
  obtain ⟨A, B, hh, T, n, W, rs, C⟩ := V
  have hA : Rp (vC X 1) A := hV.1
  have hyA : A 5 1 ≤ 999 := hV.2.1
  have hB : hh = true → Rp (vC X 2) B ∧ B 5 1 ≤ 999 := hV.2.2.1
  have hi : X 0 8 = zI (b2i hh) := hV.2.2.2.1
  have hT : Txt X T n := hV.2.2.2.2.1
  have hW : RWp X W rs := hV.2.2.2.2.2.1
  have hCn : ∀ k, k < 7 → X 8 k = zI (C k : Nat) := hV.2.2.2.2.2.2
  have hn8 := hA.n8
  have hn96 := hT.2.1
  have hrs := hW.2.1
  refine ev_aload_n (pc := 0) hC dX5_heard_0 rfl ?_
  refine ev_iload_n (pc := 1) hC dX5_heard_1 rfl ?_
  refine ev_callV (pc := 2) (as := [vi x0]) (rest := []) hC gX5_heard_X5_noPerson mtX5_noPerson dX5_heard_2 (ru_X5_noPerson hA x0 (by omega)) (by decide) (by decide) (by decide) rfl (by rfl) (Nat.le_of_ble_eq_true rfl) rfl (fun v2 X2 h2 => ?_)
  obtain ⟨rfl, rfl⟩ := h2
  show Ev K 5 [some (.ref 0), some (vi x0), none] [vi (cdP A x0)] X
  have hcd2 := cdP_cases A x0
  refine ev_istore_n (pc := 5) hC dX5_heard_5 (by rw [hKn]; decide) rfl ?_
  show Ev K 6 [some (.ref 0), some (vi x0), some (vi (cdP A x0))] [] X
  refine ev_iload_n (pc := 6) hC dX5_heard_6 rfl ?_
  refine ev_if_eq (pc := 7) hC 18 dX5_heard_7 (by decide) (by omega) (fun c7 => ?_) (fun c7 => ?_)
  · obtain ⟨p0, rfl⟩ : ∃ k : Nat, x0 = (k : Int) := ⟨x0.toNat, by omega⟩
    refine ev_aload_n (pc := 18) hC dX5_heard_18 rfl ?_
    refine ev_getr (pc := 19) hC 5 f36 dX5_heard_19 (by decide) (by decide) (by decide) (by decide) (by decide) ?_
    refine ev_iload_n (pc := 22) hC dX5_heard_22 rfl ?_
    refine ev_callV (pc := 23) (as := [vi ((p0 : Nat) : Int)]) (rest := []) hC gX5_heard_X0_chainOf mtX0_chainOf dX5_heard_23 (ru_X0_chainOf hA p0 (by omega)) (by decide) (by decide) (by decide) rfl (by rfl) (Nat.le_of_ble_eq_true rfl) rfl (fun v23 X23 h23 => ?_)
    obtain ⟨rfl, rfl⟩ := h23
    show Ev K 26 [some (.ref 0), some (vi ((p0 : Nat) : Int)), some (vi (cdP A ((p0 : Nat) : Int)))] [vi ((chn A p0 : Nat) : Int)] X
    have hl23 := chn_lt (p := p0) hn8 (by omega)
    exact ev_ireturn (pc := 26) hC hR dX5_heard_26 (⟨rv (w1_okr c7 (by rfl)), cI_ok c7 (cI_fr3 hV (frS_rf 3 X)), frC_3 (frS_rf 3 X)⟩)
  · refine ev_aload_n (pc := 10) hC dX5_heard_10 rfl ?_
    refine ev_iload_n (pc := 11) hC dX5_heard_11 rfl ?_
    refine ev_callV (pc := 12) (as := [vi (cdP A x0)]) (rest := []) hC gX5_heard_X5_refuse mtX5_refuse dX5_heard_12 (ru_X5_refuse (cdP A x0) (by omega)) (by decide) (by decide) (by decide) rfl (by rfl) (Nat.le_of_ble_eq_true rfl) rfl (fun v12 X12 h12 => ?_)
    obtain ⟨rfl, rfl⟩ := h12
    show Ev K 15 [some (.ref 0), some (vi x0), some (vi (cdP A x0))] [vi (cdP A x0)] (mset X 8 (-(cdP A x0)).toNat (X 8 (-(cdP A x0)).toNat + 1))
    refine ev_goto (pc := 15) hC 26 dX5_heard_15 (by decide) ?_
    exact ev_ireturn (pc := 26) hC hR dX5_heard_26 (⟨rv (w1_no c7), cI_no c7 hV, frC_set (frC_rf X) (by omega)⟩)
theorem mtX5_sit : MT yX5_sit wsX5_sit cX5_sit 6 (some .int) 3 := ⟨⟨_, rfl⟩, by decide, by decide, by decide +kernel⟩
set_option maxRecDepth 100000 in
set_option maxHeartbeats 4000000 in
theorem ru_X5_sit {X : Mem} {V : St} (hV : cI X V) (x0 : Int) (hx0 : -2147483648 ≤ x0 ∧ x0 ≤ 2147483647) (x1 : Int) (hx1 : -2147483648 ≤ x1 ∧ x1 ≤ 2147483647) (x2 : Int) (hx2 : -2147483648 ≤ x2 ∧ x2 ≤ 2147483647) : Ru yX5_sit wsX5_sit 7 188 [.ref 0, vi x0, vi x1, vi x2] X (fun v X' => v = some (vi (sp17 x0 x1 x2 V).1) ∧ cI X' (sp17 x0 x1 x2 V).2 ∧ frC X X') := by
  refine ru_of (w2 := _) rfl (by decide) [some (.ref 0), some (vi x0), some (vi x1), some (vi x2), none, none] (fun _ => rfl) (fun _ => Nat.le_of_ble_eq_true rfl) ?_
  intro K hKn hC hR
  have wX5 : ∀ w ∈ u_ws RX5 TX5 9, w ∈ wsX5_sit := by decide +kernel
  have f27 : Fl K RX5 27 5 3 := fl_of hC RX5 TX5 9 rfl (by decide) wX5 (show Cond.fieldLink RX5 27 "PicnicOfSomebody" "mind" "LPicnicOfSomebody$Mind;" ∈ _ by decide +kernel)
  obtain ⟨A, B, hh, T, n, W, rs, C⟩ := V
  have hA : Rp (vC X 1) A := hV.1
  have hyA : A 5 1 ≤ 999 := hV.2.1
  have hB : hh = true → Rp (vC X 2) B ∧ B 5 1 ≤ 999 := hV.2.2.1
  have hi : X 0 8 = zI (b2i hh) := hV.2.2.2.1
  have hT : Txt X T n := hV.2.2.2.2.1
  have hW : RWp X W rs := hV.2.2.2.2.2.1
  have hCn : ∀ k, k < 7 → X 8 k = zI (C k : Nat) := hV.2.2.2.2.2.2
  have hn8 := hA.n8
  have hn96 := hT.2.1
  have hrs := hW.2.1
  refine ev_aload_n (pc := 0) hC dX5_sit_0 rfl ?_
  refine ev_iload_n (pc := 1) hC dX5_sit_1 rfl ?_
  refine ev_callV (pc := 2) (as := [vi x0]) (rest := []) hC gX5_sit_X5_noPerson mtX5_noPerson dX5_sit_2 (ru_X5_noPerson hA x0 (by omega)) (by decide) (by decide) (by decide) rfl (by rfl) (Nat.le_of_ble_eq_true rfl) rfl (fun v2 X2 h2 => ?_)
  obtain ⟨rfl, rfl⟩ := h2
  show Ev K 5 [some (.ref 0), some (vi x0), some (vi x1), some (vi x2), none, none] [vi (cdP A x0)] X
  have hcd2 := cdP_cases A x0
  refine ev_iload_n (pc := 5) hC dX5_sit_5 rfl ?_
  refine ev_iconst (pc := 6) hC dX5_sit_6 ?_
  refine ev_bipush (pc := 7) hC dX5_sit_7 (by decide) ?_
  refine ev_callS (pc := 9) (as := [vi x1, vi 0, vi 20]) (rest := [vi (cdP A x0)]) hC gX5_sit_X5_range mtX5_range dX5_sit_9 (ru_X5_range x1 0 20 (by omega) (by omega) (by omega)) (by decide) (by rfl) (Nat.le_of_ble_eq_true rfl) rfl (fun v9 X9 h9 => ?_)
  obtain ⟨rfl, rfl⟩ := h9
  show Ev K 12 [some (.ref 0), some (vi x0), some (vi x1), some (vi x2), none, none] [vi (bnd x1 0 20), vi (cdP A x0)] X
  have hcd9 := bnd_cases x1 0 20
  refine ev_iload_n (pc := 12) hC dX5_sit_12 rfl ?_
  refine ev_iconst (pc := 13) hC dX5_sit_13 ?_
  refine ev_callS (pc := 14) (as := [vi x2, vi 2]) (rest := [vi (bnd x1 0 20), vi (cdP A x0)]) hC gX5_sit_X5_other mtX5_other dX5_sit_14 (ru_X5_other x2 2 (by omega) (by omega)) (by decide) (by rfl) (Nat.le_of_ble_eq_true rfl) rfl (fun v14 X14 h14 => ?_)
  obtain ⟨rfl, rfl⟩ := h14
  show Ev K 17 [some (.ref 0), some (vi x0), some (vi x1), some (vi x2), none, none] [vi (cdO x2 2), vi (bnd x1 0 20), vi (cdP A x0)] X
  have hcd14 := cdO_cases x2 2
  refine ev_callS (pc := 17) (as := [vi (cdP A x0), vi (bnd x1 0 20), vi (cdO x2 2)]) (rest := []) hC gX5_sit_X5_firstOf mtX5_firstOf dX5_sit_17 (ru_X5_firstOf (cdP A x0) (bnd x1 0 20) (cdO x2 2) (by omega) (by omega) (by omega)) (by decide) (by rfl) (Nat.le_of_ble_eq_true rfl) rfl (fun v17 X17 h17 => ?_)
  obtain ⟨rfl, rfl⟩ := h17
  show Ev K 20 [some (.ref 0), some (vi x0), some (vi x1), some (vi x2), none, none] [vi (f3 (cdP A x0) (bnd x1 0 20) (cdO x2 2))] X
  have hcd17 := f3_cases (cdP A x0) (bnd x1 0 20) (cdO x2 2)
  refine ev_istore (pc := 20) hC dX5_sit_20 (by rw [hKn]; decide) rfl ?_
  show Ev K 22 [some (.ref 0), some (vi x0), some (vi x1), some (vi x2), some (vi (f3 (cdP A x0) (bnd x1 0 20) (cdO x2 2))), none] [] X
  refine ev_iload (pc := 22) hC dX5_sit_22 rfl ?_
  refine ev_if_eq (pc := 24) hC 34 dX5_sit_24 (by decide) (by omega) (fun c24 => ?_) (fun c24 => ?_)
  · obtain ⟨p0, rfl⟩ : ∃ k : Nat, x0 = (k : Int) := ⟨x0.toNat, by omega⟩
    obtain ⟨p1, rfl⟩ : ∃ k : Nat, x1 = (k : Int) := ⟨x1.toNat, by omega⟩
    refine ev_aload_n (pc := 34) hC dX5_sit_34 rfl ?_
    refine ev_getr (pc := 35) hC 4 f27 dX5_sit_35 (by decide) (by decide) (by decide) (by decide) (by decide) ?_
    refine ev_iload_n (pc := 38) hC dX5_sit_38 rfl ?_
    refine ev_iload_n (pc := 39) hC dX5_sit_39 rfl ?_
    refine ev_callV (pc := 40) (as := [vi ((p0 : Nat) : Int), vi ((p1 : Nat) : Int)]) (rest := []) hC gX5_sit_X1_bestCell mtX1_bestCell dX5_sit_40 (ru_X1_bestCell hA p0 p1 (by omega) (by omega)) (by decide) (by decide) (by decide) rfl (by rfl) (Nat.le_of_ble_eq_true rfl) rfl (fun v40 X40 h40 => ?_)
    obtain ⟨rfl, hF40⟩ := h40
    show Ev K 43 [some (.ref 0), some (vi ((p0 : Nat) : Int)), some (vi ((p1 : Nat) : Int)), some (vi x2), some (vi (f3 (cdP A ((p0 : Nat) : Int)) (bnd ((p1 : Nat) : Int) 0 20) (cdO x2 2))), none] [vi (((mxr (sitF p0 p1 A) 0 (-1) 25).1.toNat : Nat) : Int)] X40
    have hbc40 := best_r (p := p0) (n := p1) hA.ok (show p0 < A 5 0 by omega)
    have hN140 := hA.fr31 hF40
    have hFr40 := frS_tr (frS_rf 3 X) hF40
    refine ev_istore (pc := 43) hC dX5_sit_43 (by rw [hKn]; decide) rfl ?_
    show Ev K 45 [some (.ref 0), some (vi ((p0 : Nat) : Int)), some (vi ((p1 : Nat) : Int)), some (vi x2), some (vi (f3 (cdP A ((p0 : Nat) : Int)) (bnd ((p1 : Nat) : Int) 0 20) (cdO x2 2))), some (vi (((mxr (sitF p0 p1 A) 0 (-1) 25).1.toNat : Nat) : Int))] [] X40
    refine ev_iload_n (pc := 45) hC dX5_sit_45 rfl ?_
    refine ev_if_ne (pc := 46) hC 54 dX5_sit_46 (by decide) (by omega) (fun c46 => ?_) (fun c46 => ?_)
    · refine ev_aload_n (pc := 54) hC dX5_sit_54 rfl ?_
      refine ev_getr (pc := 55) hC 4 f27 dX5_sit_55 (by decide) (by decide) (by decide) (by decide) (by decide) ?_
      refine ev_iload (pc := 58) hC dX5_sit_58 rfl ?_
      refine ev_iload_n (pc := 60) hC dX5_sit_60 rfl ?_
      refine ev_iload_n (pc := 61) hC dX5_sit_61 rfl ?_
      refine ev_callV (pc := 62) (as := [vi (((mxr (sitF p0 p1 A) 0 (-1) 25).1.toNat : Nat) : Int), vi ((p0 : Nat) : Int), vi ((p1 : Nat) : Int)]) (rest := []) hC gX5_sit_X1_beliefFrom mtX1_beliefFrom dX5_sit_62 (ru_X1_beliefFrom hN140 ((mxr (sitF p0 p1 A) 0 (-1) 25).1.toNat) p0 p1 (by omega) (by omega) (by omega)) (by decide) (by decide) (by decide) rfl (by rfl) (Nat.le_of_ble_eq_true rfl) rfl (fun v62 X62 h62 => ?_)
      obtain ⟨rfl, hF62⟩ := h62
      show Ev K 65 [some (.ref 0), some (vi ((p0 : Nat) : Int)), some (vi ((p1 : Nat) : Int)), some (vi x2), some (vi (f3 (cdP A ((p0 : Nat) : Int)) (bnd ((p1 : Nat) : Int) 0 20) (cdO x2 2))), some (vi (((mxr (sitF p0 p1 A) 0 (-1) 25).1.toNat : Nat) : Int))] [vi (sitF p0 p1 A ((mxr (sitF p0 p1 A) 0 (-1) 25).1.toNat))] X62
      have hr62 := sitF_r (n := p1) hA.ok (show p0 < _ by omega) (show ((mxr (sitF p0 p1 A) 0 (-1) 25).1.toNat) < 25 by omega)
      have hN162 := hN140.fr31 hF62
      have hFr62 := frS_tr hFr40 hF62
      exact ev_ireturn (pc := 65) hC hR dX5_sit_65 (⟨rv (w1_okr c24 (by rw [if_neg c46]; first | done | rfl)), cI_ok c24 (cI_fr3 hV hFr62), frC_3 hFr62⟩)
    · refine ev_iload (pc := 49) hC dX5_sit_49 rfl ?_
      refine ev_goto (pc := 51) hC 65 dX5_sit_51 (by decide) ?_
      exact ev_ireturn (pc := 65) hC hR dX5_sit_65 (⟨rv (w1_okr c24 (by rw [if_pos c46]; exact Int.toNat_of_nonneg (by omega))), cI_ok c24 (cI_fr3 hV hFr40), frC_3 hFr40⟩)
  · refine ev_aload_n (pc := 27) hC dX5_sit_27 rfl ?_
    refine ev_iload (pc := 28) hC dX5_sit_28 rfl ?_
    refine ev_callV (pc := 30) (as := [vi (f3 (cdP A x0) (bnd x1 0 20) (cdO x2 2))]) (rest := []) hC gX5_sit_X5_refuse mtX5_refuse dX5_sit_30 (ru_X5_refuse (f3 (cdP A x0) (bnd x1 0 20) (cdO x2 2)) (by omega)) (by decide) (by decide) (by decide) rfl (by rfl) (Nat.le_of_ble_eq_true rfl) rfl (fun v30 X30 h30 => ?_)
    obtain ⟨rfl, rfl⟩ := h30
    show Ev K 33 [some (.ref 0), some (vi x0), some (vi x1), some (vi x2), some (vi (f3 (cdP A x0) (bnd x1 0 20) (cdO x2 2))), none] [vi (f3 (cdP A x0) (bnd x1 0 20) (cdO x2 2))] (mset X 8 (-(f3 (cdP A x0) (bnd x1 0 20) (cdO x2 2))).toNat (X 8 (-(f3 (cdP A x0) (bnd x1 0 20) (cdO x2 2))).toNat + 1))
    exact ev_ireturn (pc := 33) hC hR dX5_sit_33 (⟨rv (w1_no c24), cI_no c24 hV, frC_set (frC_rf X) (by omega)⟩)
theorem mtX5_stranger : MT yX5_stranger wsX5_stranger cX5_stranger 3 (some .int) 1 := ⟨⟨_, rfl⟩, by decide, by decide, by decide +kernel⟩
set_option maxRecDepth 100000 in
set_option maxHeartbeats 4000000 in
theorem ru_X5_stranger {X : Mem} {V : St} (hV : cI X V) (x0 : Int) (hx0 : -2147483648 ≤ x0 ∧ x0 ≤ 2147483647) : Ru yX5_stranger wsX5_stranger 6 163 [.ref 0, vi x0] X (fun v X' => v = some (vi (sp19 x0 V).1) ∧ cI X' (sp19 x0 V).2 ∧ frC X X') := by
  refine ru_of (w2 := _) rfl (by decide) [some (.ref 0), some (vi x0), none] (fun _ => rfl) (fun _ => Nat.le_of_ble_eq_true rfl) ?_
  intro K hKn hC hR
  have wX5 : ∀ w ∈ u_ws RX5 TX5 9, w ∈ wsX5_stranger := by decide +kernel
  have f27 : Fl K RX5 27 5 3 := fl_of hC RX5 TX5 9 rfl (by decide) wX5 (show Cond.fieldLink RX5 27 "PicnicOfSomebody" "mind" "LPicnicOfSomebody$Mind;" ∈ _ by decide +kernel)
  obtain ⟨A, B, hh, T, n, W, rs, C⟩ := V
  have hA : Rp (vC X 1) A := hV.1
  have hyA : A 5 1 ≤ 999 := hV.2.1
  have hB : hh = true → Rp (vC X 2) B ∧ B 5 1 ≤ 999 := hV.2.2.1
  have hi : X 0 8 = zI (b2i hh) := hV.2.2.2.1
  have hT : Txt X T n := hV.2.2.2.2.1
  have hW : RWp X W rs := hV.2.2.2.2.2.1
  have hCn : ∀ k, k < 7 → X 8 k = zI (C k : Nat) := hV.2.2.2.2.2.2
  have hn8 := hA.n8
  have hn96 := hT.2.1
  have hrs := hW.2.1
  refine ev_iload_n (pc := 0) hC dX5_stranger_0 rfl ?_
  refine ev_iconst (pc := 1) hC dX5_stranger_1 ?_
  refine ev_bipush (pc := 2) hC dX5_stranger_2 (by decide) ?_
  refine ev_callS (pc := 4) (as := [vi x0, vi 0, vi 60]) (rest := []) hC gX5_stranger_X5_range mtX5_range dX5_stranger_4 (ru_X5_range x0 0 60 (by omega) (by omega) (by omega)) (by decide) (by rfl) (Nat.le_of_ble_eq_true rfl) rfl (fun v4 X4 h4 => ?_)
  obtain ⟨rfl, rfl⟩ := h4
  show Ev K 7 [some (.ref 0), some (vi x0), none] [vi (bnd x0 0 60)] X
  have hcd4 := bnd_cases x0 0 60
  refine ev_istore_n (pc := 7) hC dX5_stranger_7 (by rw [hKn]; decide) rfl ?_
  show Ev K 8 [some (.ref 0), some (vi x0), some (vi (bnd x0 0 60))] [] X
  refine ev_iload_n (pc := 8) hC dX5_stranger_8 rfl ?_
  refine ev_if_eq (pc := 9) hC 23 dX5_stranger_9 (by decide) (by omega) (fun c9 => ?_) (fun c9 => ?_)
  · obtain ⟨p0, rfl⟩ : ∃ k : Nat, x0 = (k : Int) := ⟨x0.toNat, by omega⟩
    refine ev_aload_n (pc := 23) hC dX5_stranger_23 rfl ?_
    refine ev_getr (pc := 24) hC 4 f27 dX5_stranger_24 (by decide) (by decide) (by decide) (by decide) (by decide) ?_
    refine ev_iload_n (pc := 27) hC dX5_stranger_27 rfl ?_
    refine ev_callV (pc := 28) (as := [vi ((p0 : Nat) : Int)]) (rest := []) hC gX5_stranger_X1_moreByStranger mtX1_moreByStranger dX5_stranger_28 (ru_X1_moreByStranger hA p0 (by omega)) (by decide) (by decide) (by decide) rfl (by rfl) (Nat.le_of_ble_eq_true rfl) rfl (fun v28 X28 h28 => ?_)
    obtain ⟨rfl, hF28⟩ := h28
    show Ev K 31 [some (.ref 0), some (vi ((p0 : Nat) : Int)), some (vi (bnd ((p0 : Nat) : Int) 0 60))] [vi (strF p0 A)] X28
    have hN128 := hA.fr31 hF28
    have hFr28 := frS_tr (frS_rf 3 X) hF28
    exact ev_ireturn (pc := 31) hC hR dX5_stranger_31 (⟨rv (w1_okrB c9 (by rfl)), cI_okB c9 (cI_fr3 hV hFr28), frC_3 hFr28⟩)
  · refine ev_ldc (pc := 12) hC 1000000000 (show Cond.constant RX5 170 (1000000000) ∈ _ by decide +kernel) (by decide) dX5_stranger_12 ?_
    refine ev_aload_n (pc := 14) hC dX5_stranger_14 rfl ?_
    refine ev_iload_n (pc := 15) hC dX5_stranger_15 rfl ?_
    refine ev_callV (pc := 16) (as := [vi (bnd x0 0 60)]) (rest := [vi 1000000000]) hC gX5_stranger_X5_refuse mtX5_refuse dX5_stranger_16 (ru_X5_refuse (bnd x0 0 60) (by omega)) (by decide) (by decide) (by decide) rfl (by rfl) (Nat.le_of_ble_eq_true rfl) rfl (fun v16 X16 h16 => ?_)
    obtain ⟨rfl, rfl⟩ := h16
    show Ev K 19 [some (.ref 0), some (vi x0), some (vi (bnd x0 0 60))] [vi (bnd x0 0 60), vi 1000000000] (mset X 8 (-(bnd x0 0 60)).toNat (X 8 (-(bnd x0 0 60)).toNat + 1))
    refine ev_isub (pc := 19) hC (1000000000 - (bnd x0 0 60)) (rfl) dX5_stranger_19 ?_
    refine ev_goto (pc := 20) hC 31 dX5_stranger_20 (by decide) ?_
    exact ev_ireturn (pc := 31) hC hR dX5_stranger_31 (⟨rv (w1_noB c9), cI_noB c9 hV, frC_set (frC_rf X) (by omega)⟩)
theorem mtX5_groups : MT yX5_groups wsX5_groups cX5_groups 3 (some .int) 1 := ⟨⟨_, rfl⟩, by decide, by decide, by decide +kernel⟩
set_option maxRecDepth 100000 in
set_option maxHeartbeats 4000000 in
theorem ru_X5_groups {X : Mem} {V : St} (hV : cI X V) (x0 : Int) (hx0 : -2147483648 ≤ x0 ∧ x0 ≤ 2147483647) : Ru yX5_groups wsX5_groups 4 93 [.ref 0, vi x0] X (fun v X' => v = some (vi (sp23 x0 V).1) ∧ cI X' (sp23 x0 V).2 ∧ frC X X') := by
  refine ru_of (w2 := _) rfl (by decide) [some (.ref 0), some (vi x0), none] (fun _ => rfl) (fun _ => Nat.le_of_ble_eq_true rfl) ?_
  intro K hKn hC hR
  have wX5 : ∀ w ∈ u_ws RX5 TX5 9, w ∈ wsX5_groups := by decide +kernel
  have f36 : Fl K RX5 36 5 4 := fl_of hC RX5 TX5 9 rfl (by decide) wX5 (show Cond.fieldLink RX5 36 "PicnicOfSomebody" "company" "LPicnicOfSomebody$Company;" ∈ _ by decide +kernel)
  obtain ⟨A, B, hh, T, n, W, rs, C⟩ := V
  have hA : Rp (vC X 1) A := hV.1
  have hyA : A 5 1 ≤ 999 := hV.2.1
  have hB : hh = true → Rp (vC X 2) B ∧ B 5 1 ≤ 999 := hV.2.2.1
  have hi : X 0 8 = zI (b2i hh) := hV.2.2.2.1
  have hT : Txt X T n := hV.2.2.2.2.1
  have hW : RWp X W rs := hV.2.2.2.2.2.1
  have hCn : ∀ k, k < 7 → X 8 k = zI (C k : Nat) := hV.2.2.2.2.2.2
  have hn8 := hA.n8
  have hn96 := hT.2.1
  have hrs := hW.2.1
  refine ev_iload_n (pc := 0) hC dX5_groups_0 rfl ?_
  refine ev_iconst (pc := 1) hC dX5_groups_1 ?_
  refine ev_callS (pc := 2) (as := [vi x0, vi 2]) (rest := []) hC gX5_groups_X5_other mtX5_other dX5_groups_2 (ru_X5_other x0 2 (by omega) (by omega)) (by decide) (by rfl) (Nat.le_of_ble_eq_true rfl) rfl (fun v2 X2 h2 => ?_)
  obtain ⟨rfl, rfl⟩ := h2
  show Ev K 5 [some (.ref 0), some (vi x0), none] [vi (cdO x0 2)] X
  have hcd2 := cdO_cases x0 2
  refine ev_istore_n (pc := 5) hC dX5_groups_5 (by rw [hKn]; decide) rfl ?_
  show Ev K 6 [some (.ref 0), some (vi x0), some (vi (cdO x0 2))] [] X
  refine ev_iload_n (pc := 6) hC dX5_groups_6 rfl ?_
  refine ev_if_eq (pc := 7) hC 16 dX5_groups_7 (by decide) (by omega) (fun c7 => ?_) (fun c7 => ?_)
  · refine ev_iload_n (pc := 16) hC dX5_groups_16 rfl ?_
    refine ev_if_ne (pc := 17) hC 30 dX5_groups_17 (by decide) (by omega) (fun c17 => ?_) (fun c17 => ?_)
    · refine ev_aload_n (pc := 30) hC dX5_groups_30 rfl ?_
      refine ev_getr (pc := 31) hC 5 f36 dX5_groups_31 (by decide) (by decide) (by decide) (by decide) (by decide) ?_
      refine ev_callV (pc := 34) (as := []) (rest := []) hC gX5_groups_X0_mostInAChain mtX0_mostInAChain dX5_groups_34 (ru_X0_mostInAChain hA) (by decide) (by decide) (by decide) rfl (by rfl) (Nat.le_of_ble_eq_true rfl) rfl (fun v34 X34 h34 => ?_)
      obtain ⟨rfl, rfl⟩ := h34
      show Ev K 37 [some (.ref 0), some (vi x0), some (vi (cdO x0 2))] [vi ((mxB (A 5 0) (fun _ => true) (fun i => pop (chn A i)) : Nat) : Int)] X
      exact ev_ireturn (pc := 37) hC hR dX5_groups_37 (⟨rv (w1_okr c7 (by rw [if_neg c17]; first | done | rfl)), cI_ok c7 hV, frC_rf X⟩)
    · refine ev_aload_n (pc := 20) hC dX5_groups_20 rfl ?_
      refine ev_getr (pc := 21) hC 5 f36 dX5_groups_21 (by decide) (by decide) (by decide) (by decide) (by decide) ?_
      refine ev_callV (pc := 24) (as := []) (rest := []) hC gX5_groups_X0_chains mtX0_chains dX5_groups_24 (ru_X0_chains hA) (by decide) (by decide) (by decide) rfl (by rfl) (Nat.le_of_ble_eq_true rfl) rfl (fun v24 X24 h24 => ?_)
      obtain ⟨rfl, rfl⟩ := h24
      show Ev K 27 [some (.ref 0), some (vi x0), some (vi (cdO x0 2))] [vi (((grpN A (A 5 0)).1 : Nat) : Int)] X
      refine ev_goto (pc := 27) hC 37 dX5_groups_27 (by decide) ?_
      exact ev_ireturn (pc := 37) hC hR dX5_groups_37 (⟨rv (w1_okr c7 (by rw [if_pos c17]; first | done | rfl)), cI_ok c7 hV, frC_rf X⟩)
  · refine ev_aload_n (pc := 10) hC dX5_groups_10 rfl ?_
    refine ev_iload_n (pc := 11) hC dX5_groups_11 rfl ?_
    refine ev_callV (pc := 12) (as := [vi (cdO x0 2)]) (rest := []) hC gX5_groups_X5_refuse mtX5_refuse dX5_groups_12 (ru_X5_refuse (cdO x0 2) (by omega)) (by decide) (by decide) (by decide) rfl (by rfl) (Nat.le_of_ble_eq_true rfl) rfl (fun v12 X12 h12 => ?_)
    obtain ⟨rfl, rfl⟩ := h12
    show Ev K 15 [some (.ref 0), some (vi x0), some (vi (cdO x0 2))] [vi (cdO x0 2)] (mset X 8 (-(cdO x0 2)).toNat (X 8 (-(cdO x0 2)).toNat + 1))
    exact ev_ireturn (pc := 15) hC hR dX5_groups_15 (⟨rv (w1_no c7), cI_no c7 hV, frC_set (frC_rf X) (by omega)⟩)
theorem mtX5_middle : MT yX5_middle wsX5_middle cX5_middle 4 (some .int) 1 := ⟨⟨_, rfl⟩, by decide, by decide, by decide +kernel⟩
set_option maxRecDepth 100000 in
set_option maxHeartbeats 4000000 in
theorem ru_X5_middle {X : Mem} {V : St} (hV : cI X V) (x0 : Int) (hx0 : -2147483648 ≤ x0 ∧ x0 ≤ 2147483647) : Ru yX5_middle wsX5_middle 3 70 [.ref 0, vi x0] X (fun v X' => v = some (vi (sp24 x0 V).1) ∧ cI X' (sp24 x0 V).2 ∧ frC X X') := by
  refine ru_of (w2 := _) rfl (by decide) [some (.ref 0), some (vi x0), none, none] (fun _ => rfl) (fun _ => Nat.le_of_ble_eq_true rfl) ?_
  intro K hKn hC hR
  have wX5 : ∀ w ∈ u_ws RX5 TX5 9, w ∈ wsX5_middle := by decide +kernel
  have f36 : Fl K RX5 36 5 4 := fl_of hC RX5 TX5 9 rfl (by decide) wX5 (show Cond.fieldLink RX5 36 "PicnicOfSomebody" "company" "LPicnicOfSomebody$Company;" ∈ _ by decide +kernel)
  obtain ⟨A, B, hh, T, n, W, rs, C⟩ := V
  have hA : Rp (vC X 1) A := hV.1
  have hyA : A 5 1 ≤ 999 := hV.2.1
  have hB : hh = true → Rp (vC X 2) B ∧ B 5 1 ≤ 999 := hV.2.2.1
  have hi : X 0 8 = zI (b2i hh) := hV.2.2.2.1
  have hT : Txt X T n := hV.2.2.2.2.1
  have hW : RWp X W rs := hV.2.2.2.2.2.1
  have hCn : ∀ k, k < 7 → X 8 k = zI (C k : Nat) := hV.2.2.2.2.2.2
  have hn8 := hA.n8
  have hn96 := hT.2.1
  have hrs := hW.2.1
  refine ev_iload_n (pc := 0) hC dX5_middle_0 rfl ?_
  refine ev_iconst (pc := 1) hC dX5_middle_1 ?_
  refine ev_callS (pc := 2) (as := [vi x0, vi 2]) (rest := []) hC gX5_middle_X5_other mtX5_other dX5_middle_2 (ru_X5_other x0 2 (by omega) (by omega)) (by decide) (by rfl) (Nat.le_of_ble_eq_true rfl) rfl (fun v2 X2 h2 => ?_)
  obtain ⟨rfl, rfl⟩ := h2
  show Ev K 5 [some (.ref 0), some (vi x0), none, none] [vi (cdO x0 2)] X
  have hcd2 := cdO_cases x0 2
  refine ev_istore_n (pc := 5) hC dX5_middle_5 (by rw [hKn]; decide) rfl ?_
  show Ev K 6 [some (.ref 0), some (vi x0), some (vi (cdO x0 2)), none] [] X
  refine ev_iload_n (pc := 6) hC dX5_middle_6 rfl ?_
  refine ev_if_eq (pc := 7) hC 16 dX5_middle_7 (by decide) (by omega) (fun c7 => ?_) (fun c7 => ?_)
  · refine ev_aload_n (pc := 16) hC dX5_middle_16 rfl ?_
    refine ev_getr (pc := 17) hC 5 f36 dX5_middle_17 (by decide) (by decide) (by decide) (by decide) (by decide) ?_
    refine ev_callV (pc := 20) (as := []) (rest := []) hC gX5_middle_X0_middleCell mtX0_middleCell dX5_middle_20 (ru_X0_middleCell hA) (by decide) (by decide) (by decide) rfl (by rfl) (Nat.le_of_ble_eq_true rfl) rfl (fun v20 X20 h20 => ?_)
    obtain ⟨rfl, rfl⟩ := h20
    show Ev K 23 [some (.ref 0), some (vi x0), some (vi (cdO x0 2)), none] [vi ((mdN (stpF A) 24 : Nat) : Int)] X
    have hml20 := mdN_le (stpF A) 24
    refine ev_istore_n (pc := 23) hC dX5_middle_23 (by rw [hKn]; decide) rfl ?_
    show Ev K 24 [some (.ref 0), some (vi x0), some (vi (cdO x0 2)), some (vi ((mdN (stpF A) 24 : Nat) : Int))] [] X
    refine ev_iload_n (pc := 24) hC dX5_middle_24 rfl ?_
    refine ev_if_ne (pc := 25) hC 32 dX5_middle_25 (by decide) (by omega) (fun c25 => ?_) (fun c25 => ?_)
    · refine ev_aload_n (pc := 32) hC dX5_middle_32 rfl ?_
      refine ev_getr (pc := 33) hC 5 f36 dX5_middle_33 (by decide) (by decide) (by decide) (by decide) (by decide) ?_
      refine ev_iload_n (pc := 36) hC dX5_middle_36 rfl ?_
      refine ev_callV (pc := 37) (as := [vi ((mdN (stpF A) 24 : Nat) : Int)]) (rest := []) hC gX5_middle_X0_stepsFrom mtX0_stepsFrom dX5_middle_37 (ru_X0_stepsFrom hA (mdN (stpF A) 24) (by omega)) (by decide) (by decide) (by decide) rfl (by rfl) (Nat.le_of_ble_eq_true rfl) rfl (fun v37 X37 h37 => ?_)
      obtain ⟨rfl, rfl⟩ := h37
      show Ev K 40 [some (.ref 0), some (vi x0), some (vi (cdO x0 2)), some (vi ((mdN (stpF A) 24 : Nat) : Int))] [vi ((stpF A (mdN (stpF A) 24) : Nat) : Int)] X
      have hl37 := stpF_le (c := mdN (stpF A) 24) hA.ok (by omega)
      exact ev_ireturn (pc := 40) hC hR dX5_middle_40 (⟨rv (w1_okr c7 (by rw [if_neg c25]; first | done | rfl)), cI_ok c7 hV, frC_rf X⟩)
    · refine ev_iload_n (pc := 28) hC dX5_middle_28 rfl ?_
      refine ev_goto (pc := 29) hC 40 dX5_middle_29 (by decide) ?_
      exact ev_ireturn (pc := 40) hC hR dX5_middle_40 (⟨rv (w1_okr c7 (by rw [if_pos c25]; first | done | rfl)), cI_ok c7 hV, frC_rf X⟩)
  · refine ev_aload_n (pc := 10) hC dX5_middle_10 rfl ?_
    refine ev_iload_n (pc := 11) hC dX5_middle_11 rfl ?_
    refine ev_callV (pc := 12) (as := [vi (cdO x0 2)]) (rest := []) hC gX5_middle_X5_refuse mtX5_refuse dX5_middle_12 (ru_X5_refuse (cdO x0 2) (by omega)) (by decide) (by decide) (by decide) rfl (by rfl) (Nat.le_of_ble_eq_true rfl) rfl (fun v12 X12 h12 => ?_)
    obtain ⟨rfl, rfl⟩ := h12
    show Ev K 15 [some (.ref 0), some (vi x0), some (vi (cdO x0 2)), none] [vi (cdO x0 2)] (mset X 8 (-(cdO x0 2)).toNat (X 8 (-(cdO x0 2)).toNat + 1))
    exact ev_ireturn (pc := 15) hC hR dX5_middle_15 (⟨rv (w1_no c7), cI_no c7 hV, frC_set (frC_rf X) (by omega)⟩)
theorem mtX5_whatIs : MT yX5_whatIs wsX5_whatIs cX5_whatIs 4 (some .int) 2 := ⟨⟨_, rfl⟩, by decide, by decide, by decide +kernel⟩
set_option maxRecDepth 100000 in
set_option maxHeartbeats 4000000 in
theorem ru_X5_whatIs {X : Mem} {V : St} (hV : cI X V) (x0 : Int) (hx0 : -2147483648 ≤ x0 ∧ x0 ≤ 2147483647) (x1 : Int) (hx1 : -2147483648 ≤ x1 ∧ x1 ≤ 2147483647) : Ru yX5_whatIs wsX5_whatIs 6 164 [.ref 0, vi x0, vi x1] X (fun v X' => v = some (vi (sp28 x0 x1 V).1) ∧ cI X' (sp28 x0 x1 V).2 ∧ frC X X') := by
  refine ru_of (w2 := _) rfl (by decide) [some (.ref 0), some (vi x0), some (vi x1), none] (fun _ => rfl) (fun _ => Nat.le_of_ble_eq_true rfl) ?_
  intro K hKn hC hR
  have wX5 : ∀ w ∈ u_ws RX5 TX5 9, w ∈ wsX5_whatIs := by decide +kernel
  have f27 : Fl K RX5 27 5 3 := fl_of hC RX5 TX5 9 rfl (by decide) wX5 (show Cond.fieldLink RX5 27 "PicnicOfSomebody" "mind" "LPicnicOfSomebody$Mind;" ∈ _ by decide +kernel)
  have f50 : Fl K RX5 50 5 6 := fl_of hC RX5 TX5 9 rfl (by decide) wX5 (show Cond.fieldLink RX5 50 "PicnicOfSomebody" "told" "LPicnicOfSomebody$Row;" ∈ _ by decide +kernel)
  obtain ⟨A, B, hh, T, n, W, rs, C⟩ := V
  have hA : Rp (vC X 1) A := hV.1
  have hyA : A 5 1 ≤ 999 := hV.2.1
  have hB : hh = true → Rp (vC X 2) B ∧ B 5 1 ≤ 999 := hV.2.2.1
  have hi : X 0 8 = zI (b2i hh) := hV.2.2.2.1
  have hT : Txt X T n := hV.2.2.2.2.1
  have hW : RWp X W rs := hV.2.2.2.2.2.1
  have hCn : ∀ k, k < 7 → X 8 k = zI (C k : Nat) := hV.2.2.2.2.2.2
  have hn8 := hA.n8
  have hn96 := hT.2.1
  have hrs := hW.2.1
  refine ev_aload_n (pc := 0) hC dX5_whatIs_0 rfl ?_
  refine ev_iload_n (pc := 1) hC dX5_whatIs_1 rfl ?_
  refine ev_callV (pc := 2) (as := [vi x0]) (rest := []) hC gX5_whatIs_X5_noPerson mtX5_noPerson dX5_whatIs_2 (ru_X5_noPerson hA x0 (by omega)) (by decide) (by decide) (by decide) rfl (by rfl) (Nat.le_of_ble_eq_true rfl) rfl (fun v2 X2 h2 => ?_)
  obtain ⟨rfl, rfl⟩ := h2
  show Ev K 5 [some (.ref 0), some (vi x0), some (vi x1), none] [vi (cdP A x0)] X
  have hcd2 := cdP_cases A x0
  refine ev_iload_n (pc := 5) hC dX5_whatIs_5 rfl ?_
  refine ev_iconst (pc := 6) hC dX5_whatIs_6 ?_
  refine ev_callS (pc := 7) (as := [vi x1, vi 2]) (rest := [vi (cdP A x0)]) hC gX5_whatIs_X5_other mtX5_other dX5_whatIs_7 (ru_X5_other x1 2 (by omega) (by omega)) (by decide) (by rfl) (Nat.le_of_ble_eq_true rfl) rfl (fun v7 X7 h7 => ?_)
  obtain ⟨rfl, rfl⟩ := h7
  show Ev K 10 [some (.ref 0), some (vi x0), some (vi x1), none] [vi (cdO x1 2), vi (cdP A x0)] X
  have hcd7 := cdO_cases x1 2
  refine ev_iconst (pc := 10) hC dX5_whatIs_10 ?_
  refine ev_callS (pc := 11) (as := [vi (cdP A x0), vi (cdO x1 2), vi 0]) (rest := []) hC gX5_whatIs_X5_firstOf mtX5_firstOf dX5_whatIs_11 (ru_X5_firstOf (cdP A x0) (cdO x1 2) 0 (by omega) (by omega) (by omega)) (by decide) (by rfl) (Nat.le_of_ble_eq_true rfl) rfl (fun v11 X11 h11 => ?_)
  obtain ⟨rfl, rfl⟩ := h11
  show Ev K 14 [some (.ref 0), some (vi x0), some (vi x1), none] [vi (f3 (cdP A x0) (cdO x1 2) 0)] X
  have hcd11 := f3_cases (cdP A x0) (cdO x1 2) 0
  refine ev_istore_n (pc := 14) hC dX5_whatIs_14 (by rw [hKn]; decide) rfl ?_
  show Ev K 15 [some (.ref 0), some (vi x0), some (vi x1), some (vi (f3 (cdP A x0) (cdO x1 2) 0))] [] X
  refine ev_iload_n (pc := 15) hC dX5_whatIs_15 rfl ?_
  refine ev_if_eq (pc := 16) hC 25 dX5_whatIs_16 (by decide) (by omega) (fun c16 => ?_) (fun c16 => ?_)
  · obtain ⟨p0, rfl⟩ : ∃ k : Nat, x0 = (k : Int) := ⟨x0.toNat, by omega⟩
    refine ev_iload_n (pc := 25) hC dX5_whatIs_25 rfl ?_
    refine ev_if_ne (pc := 26) hC 44 dX5_whatIs_26 (by decide) (by omega) (fun c26 => ?_) (fun c26 => ?_)
    · refine ev_aload_n (pc := 44) hC dX5_whatIs_44 rfl ?_
      refine ev_getr (pc := 45) hC 4 f27 dX5_whatIs_45 (by decide) (by decide) (by decide) (by decide) (by decide) ?_
      refine ev_aload_n (pc := 48) hC dX5_whatIs_48 rfl ?_
      refine ev_getr (pc := 49) hC 7 f50 dX5_whatIs_49 (by decide) (by decide) (by decide) (by decide) (by decide) ?_
      refine ev_iload_n (pc := 52) hC dX5_whatIs_52 rfl ?_
      refine ev_callV (pc := 53) (as := [.ref 7, vi ((p0 : Nat) : Int)]) (rest := []) hC gX5_whatIs_X1_figuresBy mtX1_figuresBy dX5_whatIs_53 (ru_X1_figuresBy hA hW p0 (by omega)) (by decide) (by decide) (by decide) rfl (by rfl) (Nat.le_of_ble_eq_true rfl) rfl (fun v53 X53 h53 => ?_)
      obtain ⟨rfl, hF53⟩ := h53
      show Ev K 56 [some (.ref 0), some (vi ((p0 : Nat) : Int)), some (vi x1), some (vi (f3 (cdP A ((p0 : Nat) : Int)) (cdO x1 2) 0))] [vi ((bitsB 10 (kdP W rs 2 p0 A) : Nat) : Int)] X53
      have hN153 := hA.fr31 hF53
      have hFr53 := frS_tr (frS_rf 3 X) hF53
      have hWm53 := hW.fr3 hF53
      exact ev_ireturn (pc := 56) hC hR dX5_whatIs_56 (⟨rv (w1_okr c16 (by rw [if_neg c26]; first | done | rfl)), cI_ok c16 (cI_fr3 hV hFr53), frC_3 hFr53⟩)
    · refine ev_aload_n (pc := 29) hC dX5_whatIs_29 rfl ?_
      refine ev_getr (pc := 30) hC 4 f27 dX5_whatIs_30 (by decide) (by decide) (by decide) (by decide) (by decide) ?_
      refine ev_aload_n (pc := 33) hC dX5_whatIs_33 rfl ?_
      refine ev_getr (pc := 34) hC 7 f50 dX5_whatIs_34 (by decide) (by decide) (by decide) (by decide) (by decide) ?_
      refine ev_iload_n (pc := 37) hC dX5_whatIs_37 rfl ?_
      refine ev_callV (pc := 38) (as := [.ref 7, vi ((p0 : Nat) : Int)]) (rest := []) hC gX5_whatIs_X1_kindsBy mtX1_kindsBy dX5_whatIs_38 (ru_X1_kindsBy hA hW p0 (by omega)) (by decide) (by decide) (by decide) rfl (by rfl) (Nat.le_of_ble_eq_true rfl) rfl (fun v38 X38 h38 => ?_)
      obtain ⟨rfl, hF38⟩ := h38
      show Ev K 41 [some (.ref 0), some (vi ((p0 : Nat) : Int)), some (vi x1), some (vi (f3 (cdP A ((p0 : Nat) : Int)) (cdO x1 2) 0))] [vi ((bitsB 6 (kdP W rs 1 p0 A) : Nat) : Int)] X38
      have hN138 := hA.fr31 hF38
      have hFr38 := frS_tr (frS_rf 3 X) hF38
      have hWm38 := hW.fr3 hF38
      refine ev_goto (pc := 41) hC 56 dX5_whatIs_41 (by decide) ?_
      exact ev_ireturn (pc := 56) hC hR dX5_whatIs_56 (⟨rv (w1_okr c16 (by rw [if_pos c26]; first | done | rfl)), cI_ok c16 (cI_fr3 hV hFr38), frC_3 hFr38⟩)
  · refine ev_aload_n (pc := 19) hC dX5_whatIs_19 rfl ?_
    refine ev_iload_n (pc := 20) hC dX5_whatIs_20 rfl ?_
    refine ev_callV (pc := 21) (as := [vi (f3 (cdP A x0) (cdO x1 2) 0)]) (rest := []) hC gX5_whatIs_X5_refuse mtX5_refuse dX5_whatIs_21 (ru_X5_refuse (f3 (cdP A x0) (cdO x1 2) 0) (by omega)) (by decide) (by decide) (by decide) rfl (by rfl) (Nat.le_of_ble_eq_true rfl) rfl (fun v21 X21 h21 => ?_)
    obtain ⟨rfl, rfl⟩ := h21
    show Ev K 24 [some (.ref 0), some (vi x0), some (vi x1), some (vi (f3 (cdP A x0) (cdO x1 2) 0))] [vi (f3 (cdP A x0) (cdO x1 2) 0)] (mset X 8 (-(f3 (cdP A x0) (cdO x1 2) 0)).toNat (X 8 (-(f3 (cdP A x0) (cdO x1 2) 0)).toNat + 1))
    exact ev_ireturn (pc := 24) hC hR dX5_whatIs_24 (⟨rv (w1_no c16), cI_no c16 hV, frC_set (frC_rf X) (by omega)⟩)
theorem mtX5_lots : MT yX5_lots wsX5_lots cX5_lots 5 (some .int) 3 := ⟨⟨_, rfl⟩, by decide, by decide, by decide +kernel⟩
set_option maxRecDepth 100000 in
set_option maxHeartbeats 4000000 in
theorem ru_X5_lots {X : Mem} {V : St} (hV : cI X V) (x0 : Int) (hx0 : -2147483648 ≤ x0 ∧ x0 ≤ 2147483647) (x1 : Int) (hx1 : -2147483648 ≤ x1 ∧ x1 ≤ 2147483647) (x2 : Int) (hx2 : -2147483648 ≤ x2 ∧ x2 ≤ 2147483647) : Ru yX5_lots wsX5_lots 6 166 [.ref 0, vi x0, vi x1, vi x2] X (fun v X' => v = some (vi (sp33 x0 x1 x2 V).1) ∧ cI X' (sp33 x0 x1 x2 V).2 ∧ frC X X') := by
  refine ru_of (w2 := _) rfl (by decide) [some (.ref 0), some (vi x0), some (vi x1), some (vi x2), none] (fun _ => rfl) (fun _ => Nat.le_of_ble_eq_true rfl) ?_
  intro K hKn hC hR
  have wX5 : ∀ w ∈ u_ws RX5 TX5 9, w ∈ wsX5_lots := by decide +kernel
  have f27 : Fl K RX5 27 5 3 := fl_of hC RX5 TX5 9 rfl (by decide) wX5 (show Cond.fieldLink RX5 27 "PicnicOfSomebody" "mind" "LPicnicOfSomebody$Mind;" ∈ _ by decide +kernel)
  obtain ⟨A, B, hh, T, n, W, rs, C⟩ := V
  have hA : Rp (vC X 1) A := hV.1
  have hyA : A 5 1 ≤ 999 := hV.2.1
  have hB : hh = true → Rp (vC X 2) B ∧ B 5 1 ≤ 999 := hV.2.2.1
  have hi : X 0 8 = zI (b2i hh) := hV.2.2.2.1
  have hT : Txt X T n := hV.2.2.2.2.1
  have hW : RWp X W rs := hV.2.2.2.2.2.1
  have hCn : ∀ k, k < 7 → X 8 k = zI (C k : Nat) := hV.2.2.2.2.2.2
  have hn8 := hA.n8
  have hn96 := hT.2.1
  have hrs := hW.2.1
  refine ev_iload_n (pc := 0) hC dX5_lots_0 rfl ?_
  refine ev_iconst (pc := 1) hC dX5_lots_1 ?_
  refine ev_bipush (pc := 2) hC dX5_lots_2 (by decide) ?_
  refine ev_callS (pc := 4) (as := [vi x0, vi 1, vi 20]) (rest := []) hC gX5_lots_X5_range mtX5_range dX5_lots_4 (ru_X5_range x0 1 20 (by omega) (by omega) (by omega)) (by decide) (by rfl) (Nat.le_of_ble_eq_true rfl) rfl (fun v4 X4 h4 => ?_)
  obtain ⟨rfl, rfl⟩ := h4
  show Ev K 7 [some (.ref 0), some (vi x0), some (vi x1), some (vi x2), none] [vi (bnd x0 1 20)] X
  have hcd4 := bnd_cases x0 1 20
  refine ev_iload_n (pc := 7) hC dX5_lots_7 rfl ?_
  refine ev_iconst (pc := 8) hC dX5_lots_8 ?_
  refine ev_callS (pc := 9) (as := [vi x2, vi 2]) (rest := [vi (bnd x0 1 20)]) hC gX5_lots_X5_other mtX5_other dX5_lots_9 (ru_X5_other x2 2 (by omega) (by omega)) (by decide) (by rfl) (Nat.le_of_ble_eq_true rfl) rfl (fun v9 X9 h9 => ?_)
  obtain ⟨rfl, rfl⟩ := h9
  show Ev K 12 [some (.ref 0), some (vi x0), some (vi x1), some (vi x2), none] [vi (cdO x2 2), vi (bnd x0 1 20)] X
  have hcd9 := cdO_cases x2 2
  refine ev_iconst (pc := 12) hC dX5_lots_12 ?_
  refine ev_callS (pc := 13) (as := [vi (bnd x0 1 20), vi (cdO x2 2), vi 0]) (rest := []) hC gX5_lots_X5_firstOf mtX5_firstOf dX5_lots_13 (ru_X5_firstOf (bnd x0 1 20) (cdO x2 2) 0 (by omega) (by omega) (by omega)) (by decide) (by rfl) (Nat.le_of_ble_eq_true rfl) rfl (fun v13 X13 h13 => ?_)
  obtain ⟨rfl, rfl⟩ := h13
  show Ev K 16 [some (.ref 0), some (vi x0), some (vi x1), some (vi x2), none] [vi (f3 (bnd x0 1 20) (cdO x2 2) 0)] X
  have hcd13 := f3_cases (bnd x0 1 20) (cdO x2 2) 0
  refine ev_istore (pc := 16) hC dX5_lots_16 (by rw [hKn]; decide) rfl ?_
  show Ev K 18 [some (.ref 0), some (vi x0), some (vi x1), some (vi x2), some (vi (f3 (bnd x0 1 20) (cdO x2 2) 0))] [] X
  refine ev_iload (pc := 18) hC dX5_lots_18 rfl ?_
  refine ev_if_eq (pc := 20) hC 32 dX5_lots_20 (by decide) (by omega) (fun c20 => ?_) (fun c20 => ?_)
  · obtain ⟨p0, rfl⟩ : ∃ k : Nat, x0 = (k : Int) := ⟨x0.toNat, by omega⟩
    refine ev_aload_n (pc := 32) hC dX5_lots_32 rfl ?_
    refine ev_getr (pc := 33) hC 4 f27 dX5_lots_33 (by decide) (by decide) (by decide) (by decide) (by decide) ?_
    refine ev_iload_n (pc := 36) hC dX5_lots_36 rfl ?_
    refine ev_iload_n (pc := 37) hC dX5_lots_37 rfl ?_
    refine ev_iload_n (pc := 38) hC dX5_lots_38 rfl ?_
    refine ev_callV (pc := 39) (as := [vi ((p0 : Nat) : Int), vi x1, vi x2]) (rest := []) hC gX5_lots_X1_allByLot mtX1_allByLot dX5_lots_39 (ru_X1_allByLot hA p0 x1 x2 (by omega) (by omega)) (by decide) (by decide) (by decide) rfl (by rfl) (Nat.le_of_ble_eq_true rfl) rfl (fun v39 X39 h39 => ?_)
    obtain ⟨rfl, hF39⟩ := h39
    show Ev K 42 [some (.ref 0), some (vi ((p0 : Nat) : Int)), some (vi x1), some (vi x2), some (vi (f3 (bnd ((p0 : Nat) : Int) 1 20) (cdO x2 2) 0))] [vi ((lotT A x1 x2 p0 : Nat) : Int)] X39
    have hN139 := hA.fr31 hF39
    have hFr39 := frS_tr (frS_rf 3 X) hF39
    exact ev_ireturn (pc := 42) hC hR dX5_lots_42 (⟨rv (w1_okr c20 (by rfl)), cI_ok c20 (cI_fr3 hV hFr39), frC_3 hFr39⟩)
  · refine ev_aload_n (pc := 23) hC dX5_lots_23 rfl ?_
    refine ev_iload (pc := 24) hC dX5_lots_24 rfl ?_
    refine ev_callV (pc := 26) (as := [vi (f3 (bnd x0 1 20) (cdO x2 2) 0)]) (rest := []) hC gX5_lots_X5_refuse mtX5_refuse dX5_lots_26 (ru_X5_refuse (f3 (bnd x0 1 20) (cdO x2 2) 0) (by omega)) (by decide) (by decide) (by decide) rfl (by rfl) (Nat.le_of_ble_eq_true rfl) rfl (fun v26 X26 h26 => ?_)
    obtain ⟨rfl, rfl⟩ := h26
    show Ev K 29 [some (.ref 0), some (vi x0), some (vi x1), some (vi x2), some (vi (f3 (bnd x0 1 20) (cdO x2 2) 0))] [vi (f3 (bnd x0 1 20) (cdO x2 2) 0)] (mset X 8 (-(f3 (bnd x0 1 20) (cdO x2 2) 0)).toNat (X 8 (-(f3 (bnd x0 1 20) (cdO x2 2) 0)).toNat + 1))
    refine ev_goto (pc := 29) hC 42 dX5_lots_29 (by decide) ?_
    exact ev_ireturn (pc := 42) hC hR dX5_lots_42 (⟨rv (w1_no c20), cI_no c20 hV, frC_set (frC_rf X) (by omega)⟩)
theorem mtX5_first : MT yX5_first wsX5_first cX5_first 2 (some .int) 1 := ⟨⟨_, rfl⟩, by decide, by decide, by decide +kernel⟩
set_option maxRecDepth 100000 in
set_option maxHeartbeats 4000000 in
theorem ru_X5_first {X : Mem} {V : St} (hV : cI X V) (x0 : Int) (hx0 : -2147483648 ≤ x0 ∧ x0 ≤ 2147483647) : Ru yX5_first wsX5_first 5 139 [.ref 0, vi x0] X (fun v X' => v = some (vi (sp13 x0 V).1) ∧ cI X' (sp13 x0 V).2 ∧ frC X X') := by
  refine ru_of (w2 := _) rfl (by decide) [some (.ref 0), some (vi x0)] (fun _ => rfl) (fun _ => Nat.le_of_ble_eq_true rfl) ?_
  intro K hKn hC hR
  have wX5 : ∀ w ∈ u_ws RX5 TX5 9, w ∈ wsX5_first := by decide +kernel
  have f27 : Fl K RX5 27 5 3 := fl_of hC RX5 TX5 9 rfl (by decide) wX5 (show Cond.fieldLink RX5 27 "PicnicOfSomebody" "mind" "LPicnicOfSomebody$Mind;" ∈ _ by decide +kernel)
  obtain ⟨A, B, hh, T, n, W, rs, C⟩ := V
  have hA : Rp (vC X 1) A := hV.1
  have hyA : A 5 1 ≤ 999 := hV.2.1
  have hB : hh = true → Rp (vC X 2) B ∧ B 5 1 ≤ 999 := hV.2.2.1
  have hi : X 0 8 = zI (b2i hh) := hV.2.2.2.1
  have hT : Txt X T n := hV.2.2.2.2.1
  have hW : RWp X W rs := hV.2.2.2.2.2.1
  have hCn : ∀ k, k < 7 → X 8 k = zI (C k : Nat) := hV.2.2.2.2.2.2
  have hn8 := hA.n8
  have hn96 := hT.2.1
  have hrs := hW.2.1
  have hco := cdO_cases x0 4
  refine ev_iload_n (pc := 0) hC dX5_first_0 rfl ?_
  rcases (show x0 = 0 ∨ x0 = 1 ∨ x0 = 2 ∨ x0 = 3 ∨ x0 < 0 ∨ 3 < x0 by omega) with c1 | c1 | c1 | c1 | c1
  · refine ev_tabin (pc := 1) hC 32 dX5_first_1 (by omega) (by omega) (by rw [c1]; rfl) (by decide) ?_
    refine ev_aload_n (pc := 32) hC dX5_first_32 rfl ?_
    refine ev_getr (pc := 33) hC 4 f27 dX5_first_33 (by decide) (by decide) (by decide) (by decide) (by decide) ?_
    refine ev_callV (pc := 36) (as := []) (rest := []) hC gX5_first_X1_yearsTillAll mtX1_yearsTillAll dX5_first_36 (ru_X1_yearsTillAll hA  ) (by decide) (by decide) (by decide) rfl (by rfl) (Nat.le_of_ble_eq_true rfl) rfl (fun v36 X36 h36 => ?_)
    obtain ⟨rfl, hF36⟩ := h36
    show Ev K 39 [some (.ref 0), some (vi x0)] [vi (firstB (fun k => allB (goN 0 k A)) 61)] X36
    have hN136 := hA.fr31 hF36
    have hFr36 := frS_tr (frS_rf 3 X) hF36
    exact ev_ireturn (pc := 39) hC hR dX5_first_39 (⟨rv (fst_w (x := x0) (show cdO x0 4 = 0 by omega) (by rw [show x0 = 0 by omega]; rfl)), cI_ok (show cdO x0 4 = 0 by omega) (cI_fr3 hV hFr36), frC_3 hFr36⟩)
  · refine ev_tabin (pc := 1) hC 40 dX5_first_1 (by omega) (by omega) (by rw [c1]; rfl) (by decide) ?_
    refine ev_aload_n (pc := 40) hC dX5_first_40 rfl ?_
    refine ev_getr (pc := 41) hC 4 f27 dX5_first_41 (by decide) (by decide) (by decide) (by decide) (by decide) ?_
    refine ev_callV (pc := 44) (as := []) (rest := []) hC gX5_first_X1_yearsTillNone mtX1_yearsTillNone dX5_first_44 (ru_X1_yearsTillNone hA  ) (by decide) (by decide) (by decide) rfl (by rfl) (Nat.le_of_ble_eq_true rfl) rfl (fun v44 X44 h44 => ?_)
    obtain ⟨rfl, hF44⟩ := h44
    show Ev K 47 [some (.ref 0), some (vi x0)] [vi (firstB (fun k => decide (bcnt 0 (goN 0 k A) = 0)) 61)] X44
    have hN144 := hA.fr31 hF44
    have hFr44 := frS_tr (frS_rf 3 X) hF44
    exact ev_ireturn (pc := 47) hC hR dX5_first_47 (⟨rv (fst_w (x := x0) (show cdO x0 4 = 0 by omega) (by rw [show x0 = 1 by omega]; rfl)), cI_ok (show cdO x0 4 = 0 by omega) (cI_fr3 hV hFr44), frC_3 hFr44⟩)
  · refine ev_tabin (pc := 1) hC 48 dX5_first_1 (by omega) (by omega) (by rw [c1]; rfl) (by decide) ?_
    refine ev_aload_n (pc := 48) hC dX5_first_48 rfl ?_
    refine ev_getr (pc := 49) hC 4 f27 dX5_first_49 (by decide) (by decide) (by decide) (by decide) (by decide) ?_
    refine ev_callV (pc := 52) (as := []) (rest := []) hC gX5_first_X1_yearsTillSettled mtX1_yearsTillSettled dX5_first_52 (ru_X1_yearsTillSettled hA  ) (by decide) (by decide) (by decide) rfl (by rfl) (Nat.le_of_ble_eq_true rfl) rfl (fun v52 X52 h52 => ?_)
    obtain ⟨rfl, hF52⟩ := h52
    show Ev K 55 [some (.ref 0), some (vi x0)] [vi (firstB (fun k => !(orB (goN 0 k A 5 0) (chP 0 (goN 0 k A)))) 61)] X52
    have hN152 := hA.fr31 hF52
    have hFr52 := frS_tr (frS_rf 3 X) hF52
    exact ev_ireturn (pc := 55) hC hR dX5_first_55 (⟨rv (fst_w (x := x0) (show cdO x0 4 = 0 by omega) (by rw [show x0 = 2 by omega]; rfl)), cI_ok (show cdO x0 4 = 0 by omega) (cI_fr3 hV hFr52), frC_3 hFr52⟩)
  · refine ev_tabin (pc := 1) hC 56 dX5_first_1 (by omega) (by omega) (by rw [c1]; rfl) (by decide) ?_
    refine ev_aload_n (pc := 56) hC dX5_first_56 rfl ?_
    refine ev_getr (pc := 57) hC 4 f27 dX5_first_57 (by decide) (by decide) (by decide) (by decide) (by decide) ?_
    refine ev_callV (pc := 60) (as := []) (rest := []) hC gX5_first_X1_yearsTillElsewhere mtX1_yearsTillElsewhere dX5_first_60 (ru_X1_yearsTillElsewhere hA  ) (by decide) (by decide) (by decide) rfl (by rfl) (Nat.le_of_ble_eq_true rfl) rfl (fun v60 X60 h60 => ?_)
    obtain ⟨rfl, hF60⟩ := h60
    show Ev K 63 [some (.ref 0), some (vi x0)] [vi (firstB (fun k => decide (¬ here (goN 0 k A) = here A)) 61)] X60
    have hN160 := hA.fr31 hF60
    have hFr60 := frS_tr (frS_rf 3 X) hF60
    exact ev_ireturn (pc := 63) hC hR dX5_first_63 (⟨rv (fst_w (x := x0) (show cdO x0 4 = 0 by omega) (by rw [show x0 = 3 by omega]; rfl)), cI_ok (show cdO x0 4 = 0 by omega) (cI_fr3 hV hFr60), frC_3 hFr60⟩)
  · refine ev_tabout (pc := 1) hC 64 dX5_first_1 (by omega) (by omega) (by decide) ?_
    refine ev_aload_n (pc := 64) hC dX5_first_64 rfl ?_
    refine ev_bipush (pc := 65) hC dX5_first_65 (by decide) ?_
    refine ev_callV (pc := 67) (as := [vi (-2)]) (rest := []) hC gX5_first_X5_refuse mtX5_refuse dX5_first_67 (ru_X5_refuse (-2) (by omega)) (by decide) (by decide) (by decide) rfl (by rfl) (Nat.le_of_ble_eq_true rfl) rfl (fun v67 X67 h67 => ?_)
    obtain ⟨rfl, rfl⟩ := h67
    show Ev K 70 [some (.ref 0), some (vi x0)] [vi (-2)] (mset X 8 (-(-2)).toNat (X 8 (-(-2)).toNat + 1))
    exact ev_ireturn (pc := 70) hC hR dX5_first_70 (⟨rv (by rw [← show cdO x0 4 = -2 by omega]; exact w1_no (show ¬ cdO x0 4 = 0 by omega)), first_no hV (show cdO x0 4 = -2 by omega), frC_set (frC_rf X) (by omega)⟩)
theorem mtX5_place : MT yX5_place wsX5_place cX5_place 1 (some .int) 0 := ⟨⟨_, rfl⟩, by decide, by decide, by decide +kernel⟩
set_option maxRecDepth 100000 in
set_option maxHeartbeats 4000000 in
theorem ru_X5_place {X : Mem} {V : St} (hV : cI X V) : Ru yX5_place wsX5_place 1 22 [.ref 0] X (fun v X' => v = some (vi (sp4  V).1) ∧ cI X' (sp4  V).2 ∧ frC X X') := by
  refine ru_of (w2 := _) rfl (by decide) [some (.ref 0)] (fun _ => rfl) (fun _ => Nat.le_of_ble_eq_true rfl) ?_
  intro K hKn hC hR
  have wX5 : ∀ w ∈ u_ws RX5 TX5 9, w ∈ wsX5_place := by decide +kernel
  have f12 : Fl K RX5 12 5 0 := fl_of hC RX5 TX5 9 rfl (by decide) wX5 (show Cond.fieldLink RX5 12 "PicnicOfSomebody" "now" "LPicnicOfSomebody$Slope;" ∈ _ by decide +kernel)
  obtain ⟨A, B, hh, T, n, W, rs, C⟩ := V
  have hA : Rp (vC X 1) A := hV.1
  have hyA : A 5 1 ≤ 999 := hV.2.1
  have hB : hh = true → Rp (vC X 2) B ∧ B 5 1 ≤ 999 := hV.2.2.1
  have hi : X 0 8 = zI (b2i hh) := hV.2.2.2.1
  have hT : Txt X T n := hV.2.2.2.2.1
  have hW : RWp X W rs := hV.2.2.2.2.2.1
  have hCn : ∀ k, k < 7 → X 8 k = zI (C k : Nat) := hV.2.2.2.2.2.2
  have hn8 := hA.n8
  have hn96 := hT.2.1
  have hrs := hW.2.1
  refine ev_aload_n (pc := 0) hC dX5_place_0 rfl ?_
  refine ev_getr (pc := 1) hC 1 f12 dX5_place_1 (by decide) (by decide) (by decide) (by decide) (by decide) ?_
  refine ev_callV (pc := 4) (as := []) (rest := []) hC gX5_place_X3_hollow mtX3_hollow dX5_place_4 (ru_X3_hollow (s := 1) spl1 hA) (by decide) (by decide) (by decide) rfl (by rfl) (Nat.le_of_ble_eq_true rfl) rfl (fun v4 X4 h4 => ?_)
  obtain ⟨rfl, rfl⟩ := h4
  show Ev K 7 [some (.ref 0)] [vi ((here A : Nat) : Int)] X
  have hh4 := here_lt A
  exact ev_ireturn (pc := 7) hC hR dX5_place_7 (⟨rfl, hV, frC_rf X⟩)
theorem mtX5_nearest : MT yX5_nearest wsX5_nearest cX5_nearest 1 (some .int) 0 := ⟨⟨_, rfl⟩, by decide, by decide, by decide +kernel⟩
set_option maxRecDepth 100000 in
set_option maxHeartbeats 4000000 in
theorem ru_X5_nearest {X : Mem} {V : St} (hV : cI X V) : Ru yX5_nearest wsX5_nearest 2 48 [.ref 0] X (fun v X' => v = some (vi (sp20  V).1) ∧ cI X' (sp20  V).2 ∧ frC X X') := by
  refine ru_of (w2 := _) rfl (by decide) [some (.ref 0)] (fun _ => rfl) (fun _ => Nat.le_of_ble_eq_true rfl) ?_
  intro K hKn hC hR
  have wX5 : ∀ w ∈ u_ws RX5 TX5 9, w ∈ wsX5_nearest := by decide +kernel
  have f36 : Fl K RX5 36 5 4 := fl_of hC RX5 TX5 9 rfl (by decide) wX5 (show Cond.fieldLink RX5 36 "PicnicOfSomebody" "company" "LPicnicOfSomebody$Company;" ∈ _ by decide +kernel)
  have f12 : Fl K RX5 12 5 0 := fl_of hC RX5 TX5 9 rfl (by decide) wX5 (show Cond.fieldLink RX5 12 "PicnicOfSomebody" "now" "LPicnicOfSomebody$Slope;" ∈ _ by decide +kernel)
  obtain ⟨A, B, hh, T, n, W, rs, C⟩ := V
  have hA : Rp (vC X 1) A := hV.1
  have hyA : A 5 1 ≤ 999 := hV.2.1
  have hB : hh = true → Rp (vC X 2) B ∧ B 5 1 ≤ 999 := hV.2.2.1
  have hi : X 0 8 = zI (b2i hh) := hV.2.2.2.1
  have hT : Txt X T n := hV.2.2.2.2.1
  have hW : RWp X W rs := hV.2.2.2.2.2.1
  have hCn : ∀ k, k < 7 → X 8 k = zI (C k : Nat) := hV.2.2.2.2.2.2
  have hn8 := hA.n8
  have hn96 := hT.2.1
  have hrs := hW.2.1
  refine ev_aload_n (pc := 0) hC dX5_nearest_0 rfl ?_
  refine ev_getr (pc := 1) hC 5 f36 dX5_nearest_1 (by decide) (by decide) (by decide) (by decide) (by decide) ?_
  refine ev_aload_n (pc := 4) hC dX5_nearest_4 rfl ?_
  refine ev_getr (pc := 5) hC 1 f12 dX5_nearest_5 (by decide) (by decide) (by decide) (by decide) (by decide) ?_
  refine ev_callV (pc := 8) (as := []) (rest := [.ref 5]) hC gX5_nearest_X3_hollow mtX3_hollow dX5_nearest_8 (ru_X3_hollow (s := 1) spl1 hA) (by decide) (by decide) (by decide) rfl (by rfl) (Nat.le_of_ble_eq_true rfl) rfl (fun v8 X8 h8 => ?_)
  obtain ⟨rfl, rfl⟩ := h8
  show Ev K 11 [some (.ref 0)] [vi ((here A : Nat) : Int), .ref 5] X
  have hh8 := here_lt A
  refine ev_callV (pc := 11) (as := [vi ((here A : Nat) : Int)]) (rest := []) hC gX5_nearest_X0_nearestTo mtX0_nearestTo dX5_nearest_11 (ru_X0_nearestTo hA (here A) (by omega)) (by decide) (by decide) (by decide) rfl (by rfl) (Nat.le_of_ble_eq_true rfl) rfl (fun v11 X11 h11 => ?_)
  obtain ⟨rfl, rfl⟩ := h11
  show Ev K 14 [some (.ref 0)] [vi ((mnr (nrF A (here A)) 9 (A 5 0)).1)] X
  exact ev_ireturn (pc := 14) hC hR dX5_nearest_14 (⟨rfl, hV, frC_rf X⟩)
theorem mtX5_who : MT yX5_who wsX5_who cX5_who 1 (some .int) 0 := ⟨⟨_, rfl⟩, by decide, by decide, by decide +kernel⟩
set_option maxRecDepth 100000 in
set_option maxHeartbeats 4000000 in
theorem ru_X5_who {X : Mem} {V : St} (hV : cI X V) : Ru yX5_who wsX5_who 6 162 [.ref 0] X (fun v X' => v = some (vi (sp29  V).1) ∧ cI X' (sp29  V).2 ∧ frC X X') := by
  refine ru_of (w2 := _) rfl (by decide) [some (.ref 0)] (fun _ => rfl) (fun _ => Nat.le_of_ble_eq_true rfl) ?_
  intro K hKn hC hR
  have wX5 : ∀ w ∈ u_ws RX5 TX5 9, w ∈ wsX5_who := by decide +kernel
  have f27 : Fl K RX5 27 5 3 := fl_of hC RX5 TX5 9 rfl (by decide) wX5 (show Cond.fieldLink RX5 27 "PicnicOfSomebody" "mind" "LPicnicOfSomebody$Mind;" ∈ _ by decide +kernel)
  have f50 : Fl K RX5 50 5 6 := fl_of hC RX5 TX5 9 rfl (by decide) wX5 (show Cond.fieldLink RX5 50 "PicnicOfSomebody" "told" "LPicnicOfSomebody$Row;" ∈ _ by decide +kernel)
  obtain ⟨A, B, hh, T, n, W, rs, C⟩ := V
  have hA : Rp (vC X 1) A := hV.1
  have hyA : A 5 1 ≤ 999 := hV.2.1
  have hB : hh = true → Rp (vC X 2) B ∧ B 5 1 ≤ 999 := hV.2.2.1
  have hi : X 0 8 = zI (b2i hh) := hV.2.2.2.1
  have hT : Txt X T n := hV.2.2.2.2.1
  have hW : RWp X W rs := hV.2.2.2.2.2.1
  have hCn : ∀ k, k < 7 → X 8 k = zI (C k : Nat) := hV.2.2.2.2.2.2
  have hn8 := hA.n8
  have hn96 := hT.2.1
  have hrs := hW.2.1
  refine ev_aload_n (pc := 0) hC dX5_who_0 rfl ?_
  refine ev_getr (pc := 1) hC 4 f27 dX5_who_1 (by decide) (by decide) (by decide) (by decide) (by decide) ?_
  refine ev_aload_n (pc := 4) hC dX5_who_4 rfl ?_
  refine ev_getr (pc := 5) hC 7 f50 dX5_who_5 (by decide) (by decide) (by decide) (by decide) (by decide) ?_
  refine ev_callV (pc := 8) (as := [.ref 7]) (rest := []) hC gX5_who_X1_missingBy mtX1_missingBy dX5_who_8 (ru_X1_missingBy hA hW  ) (by decide) (by decide) (by decide) rfl (by rfl) (Nat.le_of_ble_eq_true rfl) rfl (fun v8 X8 h8 => ?_)
  obtain ⟨rfl, hF8⟩ := h8
  show Ev K 11 [some (.ref 0)] [vi ((bitsB (A 5 0) (whP W rs A) : Nat) : Int)] X8
  have hN18 := hA.fr31 hF8
  have hFr8 := frS_tr (frS_rf 3 X) hF8
  have hWm8 := hW.fr3 hF8
  exact ev_ireturn (pc := 11) hC hR dX5_who_11 (⟨rfl, cI_fr3 hV hFr8, frC_3 hFr8⟩)
