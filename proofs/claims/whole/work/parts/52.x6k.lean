theorem mtX6_statement : MT yX6_statement wsX6_statement cX6_statement 2 (some .boolean) 0 := ⟨⟨_, rfl⟩, by decide, by decide, by decide +kernel⟩
set_option maxRecDepth 100000 in
set_option maxHeartbeats 4000000 in
theorem ru_X6_statement {X : Mem} {T : Nat → Nat} {n a c : Nat} (hT : TxM X T n) (hat : X 29 14 = zI ((a : Nat) : Int)) (hst : X 29 15 = zI ((c : Nat) : Int)) (ha9 : a ≤ 96) (hc : c ≤ 24) : Ru yX6_statement wsX6_statement 4 89 [.ref 29] X (fun v X' => smP v X X' T n a c) := by
  refine ru_of (w2 := _) rfl (by decide) [some (.ref 29), none] (fun _ => rfl) (fun _ => Nat.le_of_ble_eq_true rfl) ?_
  intro K hKn hC hR
  have wX6 : ∀ w ∈ u_ws RX6 TX6 25, w ∈ wsX6_statement := by decide +kernel
  have f31 : Fl K RX6 31 6 10 := fl_of hC RX6 TX6 25 rfl (by decide) wX6 (show Cond.fieldLink RX6 31 "PicnicOfSomebodyModel" "letter" "[I" ∈ _ by decide +kernel)
  have f98 : Fl K RX6 98 6 15 := fl_of hC RX6 TX6 25 rfl (by decide) wX6 (show Cond.fieldLink RX6 98 "PicnicOfSomebodyModel" "statements" "I" ∈ _ by decide +kernel)
  have f34 : Fl K RX6 34 6 11 := fl_of hC RX6 TX6 25 rfl (by decide) wX6 (show Cond.fieldLink RX6 34 "PicnicOfSomebodyModel" "letterAt" "[I" ∈ _ by decide +kernel)
  have f77 : Fl K RX6 77 6 14 := fl_of hC RX6 TX6 25 rfl (by decide) wX6 (show Cond.fieldLink RX6 77 "PicnicOfSomebodyModel" "at" "I" ∈ _ by decide +kernel)
  have hn96 := hT.2.1
  have hlc := lenT_cases (T a)
  refine ev_aload_n (pc := 0) hC dX6_statement_0 rfl ?_
  refine ev_callV (pc := 1) (as := []) (rest := []) hC gX6_statement_X6_next mtX6_next dX6_statement_1 (ru_X6_next hT hat (by omega)) (by decide) (by decide) (by decide) rfl (by rfl) (Nat.le_of_ble_eq_true rfl) rfl (fun v1 X1 h1 => ?_)
  obtain ⟨rfl, rfl⟩ := h1
  show Ev K 4 [some (.ref 29), none] [vi (nx T n a)] X
  have hnx1 := nx_cases T n a
  have hnr1 := nx_r hT a
  refine ev_istore_n (pc := 4) hC dX6_statement_4 (by rw [hKn]; decide) rfl ?_
  show Ev K 5 [some (.ref 29), some (vi (nx T n a))] [] X
  have J37 : ∀ (z : Int), z = ((T a : Nat) : Int) → a < n → 0 < lenT (T a) → Ev K 37 [some (.ref 29), some (vi z)] [] X := by
    intro z hz hin hla
    subst hz
    refine ev_aload_n (pc := 37) hC dX6_statement_37 rfl ?_
    refine ev_getr (pc := 38) hC 37 f31 dX6_statement_38 (by decide) (by decide) (by decide) (by decide) (by decide) ?_
    refine ev_aload_n (pc := 41) hC dX6_statement_41 rfl ?_
    refine ev_geti (pc := 42) hC ((c : Nat) : Int) f98 dX6_statement_42 (by decide) (by decide) (by decide) (by decide) (by decide)  (hst) ?_
    refine ev_iload_n (pc := 45) hC dX6_statement_45 rfl ?_
    refine ev_iast (pc := 46) hC c (by decide) (by decide) (rfl) (by have := (show alen 37 = 48 from rfl); omega) dX6_statement_46 ?_
    refine ev_aload_n (pc := 47) hC dX6_statement_47 rfl ?_
    refine ev_getr (pc := 48) hC 38 f34 dX6_statement_48 (by decide) (by decide) (by decide) (by decide) (by decide) ?_
    refine ev_aload_n (pc := 51) hC dX6_statement_51 rfl ?_
    refine ev_geti (pc := 52) hC ((c : Nat) : Int) f98 dX6_statement_52 (by decide) (by decide) (by decide) (by decide) (by decide)  ((by rw [mset_row (by omega)]; exact hst)) ?_
    refine ev_aload_n (pc := 55) hC dX6_statement_55 rfl ?_
    refine ev_geti (pc := 56) hC ((a : Nat) : Int) f77 dX6_statement_56 (by decide) (by decide) (by decide) (by decide) (by decide)  ((by rw [mset_row (by omega)]; exact hat)) ?_
    refine ev_iast (pc := 59) hC c (by decide) (by decide) (rfl) (by have := (show alen 38 = 48 from rfl); omega) dX6_statement_59 ?_
    refine ev_aload_n (pc := 60) hC dX6_statement_60 rfl ?_
    refine ev_dup (pc := 61) hC rfl dX6_statement_61 ?_
    refine ev_geti (pc := 62) hC ((a : Nat) : Int) f77 dX6_statement_62 (by decide) (by decide) (by decide) (by decide) (by decide)  ((by rw [mset_row (by omega), mset_row (by omega)]; exact hat)) ?_
    refine ev_iconst (pc := 65) hC dX6_statement_65 ?_
    refine ev_iadd (pc := 66) hC ((a + 1 : Nat) : Int) (by omega) dX6_statement_66 ?_
    refine ev_puti (pc := 67) hC f77 fpX6_14 dX6_statement_67 (by decide) (by decide) (by decide) (by decide) (by decide) (rfl) (rfl) ?_
    have hT67 : TxM (mset (mset (mset X 37 c (zI ((T a : Nat) : Int))) 38 c (zI ((a : Nat) : Int))) 29 14 (zI ((a + 1 : Nat) : Int))) T n := ((hT.set_at (Or.inr (by omega))).set_at (Or.inr (by omega))).set_at (Or.inl ⟨rfl, by omega⟩)
    have hat67 : (mset (mset (mset X 37 c (zI ((T a : Nat) : Int))) 38 c (zI ((a : Nat) : Int))) 29 14 (zI ((a + 1 : Nat) : Int))) 29 14 = zI ((a + 1 : Nat) : Int) := mset_eq _ _ _ _
    refine ev_aload_n (pc := 70) hC dX6_statement_70 rfl ?_
    refine ev_iload_n (pc := 71) hC dX6_statement_71 rfl ?_
    refine ev_iconst (pc := 72) hC dX6_statement_72 ?_
    refine ev_aload_n (pc := 73) hC dX6_statement_73 rfl ?_
    refine ev_geti (pc := 74) hC ((c : Nat) : Int) f98 dX6_statement_74 (by decide) (by decide) (by decide) (by decide) (by decide)  ((by rw [mset_ne _ _ _ _ (by omega), mset_row (by omega), mset_row (by omega)]; exact hst)) ?_
    refine ev_imul (pc := 77) hC ((4 * c : Nat) : Int) (by omega) dX6_statement_77 ?_
    refine ev_callV (pc := 78) (as := [vi ((T a : Nat) : Int), vi ((4 * c : Nat) : Int)]) (rest := []) hC gX6_statement_X6_readsAll mtX6_readsAll dX6_statement_78 (ru_X6_readsAll a (4 * c) hT67 hat67 (by omega) hla (by omega)) (by decide) (by decide) (by decide) rfl (by rfl) (Nat.le_of_ble_eq_true rfl) rfl (fun v78 X78 h78 => ?_)
    rcases h78 with ⟨rfl, o78, a78, t78, f78⟩ | ⟨j, j1, j2, j3, j4, rfl, a78, f78⟩
    · show Ev K 81 [some (.ref 29), some (vi ((T a : Nat) : Int))] [vi 1] X78
      have hT78 := TxM.rd hT67 f78
      refine ev_if_eq (pc := 81) hC 93 dX6_statement_81 (by decide) (by omega) (fun c81 => absurd c81 (by decide)) (fun c81 => ?_)
      refine ev_aload_n (pc := 84) hC dX6_statement_84 rfl ?_
      refine ev_callV (pc := 85) (as := []) (rest := []) hC gX6_statement_X6_next mtX6_next dX6_statement_85 (ru_X6_next hT78 a78 (by omega)) (by decide) (by decide) (by decide) rfl (by rfl) (Nat.le_of_ble_eq_true rfl) rfl (fun v85 X85 h85 => ?_)
      obtain ⟨rfl, rfl⟩ := h85
      show Ev K 88 [some (.ref 29), some (vi ((T a : Nat) : Int))] [vi (nx T n (a + (lenT (T a) - 1)))] X78
      have hnx85 := nx_cases T n (a + (lenT (T a) - 1))
      have hnr85 := nx_r hT78 (a + (lenT (T a) - 1))
      refine ev_bipush (pc := 88) hC dX6_statement_88 (by decide) ?_
      refine ev_icmp_eq (pc := 90) hC 95 dX6_statement_90 (by decide) (by omega) (by omega) (fun c90 => ?_) (fun c90 => ?_)
      · refine ev_aload_n (pc := 95) hC dX6_statement_95 rfl ?_
        refine ev_dup (pc := 96) hC rfl dX6_statement_96 ?_
        refine ev_geti (pc := 97) hC (((a + (lenT (T a) - 1)) : Nat) : Int) f77 dX6_statement_97 (by decide) (by decide) (by decide) (by decide) (by decide)  (a78) ?_
        refine ev_iconst (pc := 100) hC dX6_statement_100 ?_
        refine ev_iadd (pc := 101) hC (((a + (lenT (T a) - 1)) + 1 : Nat) : Int) (by omega) dX6_statement_101 ?_
        refine ev_puti (pc := 102) hC f77 fpX6_14 dX6_statement_102 (by decide) (by decide) (by decide) (by decide) (by decide) (rfl) (rfl) ?_
        refine ev_iconst (pc := 105) hC dX6_statement_105 ?_
        exact ev_zreturn (pc := 106) hC hR dX6_statement_106 (by decide) (sm_ok hin hla o78 (by omega) t78 f78)
      · refine ev_iconst (pc := 93) hC dX6_statement_93 ?_
        exact ev_zreturn (pc := 94) hC hR dX6_statement_94 (by decide) (sm_semi hin hla o78 (by omega) a78 f78)
    · show Ev K 81 [some (.ref 29), some (vi ((T a : Nat) : Int))] [vi 0] X78
      refine ev_if_eq (pc := 81) hC 93 dX6_statement_81 (by decide) (by omega) (fun c81 => ?_) (fun c81 => absurd c81 (by decide))
      refine ev_iconst (pc := 93) hC dX6_statement_93 ?_
      exact ev_zreturn (pc := 94) hC hR dX6_statement_94 (by decide) (sm_bad hin j1 j2 j3 j4 a78 f78)
  refine ev_iload_n (pc := 5) hC dX6_statement_5 rfl ?_
  refine ev_bipush (pc := 6) hC dX6_statement_6 (by decide) ?_
  refine ev_icmp_eq (pc := 8) hC 37 dX6_statement_8 (by decide) (by omega) (by omega) (fun c8 => ?_) (fun c8 => ?_)
  · exact J37 _ (by omega) (by omega) (by omega)
  · refine ev_iload_n (pc := 11) hC dX6_statement_11 rfl ?_
    refine ev_bipush (pc := 12) hC dX6_statement_12 (by decide) ?_
    refine ev_icmp_eq (pc := 14) hC 37 dX6_statement_14 (by decide) (by omega) (by omega) (fun c14 => ?_) (fun c14 => ?_)
    · exact J37 _ (by omega) (by omega) (by omega)
    · refine ev_iload_n (pc := 17) hC dX6_statement_17 rfl ?_
      refine ev_bipush (pc := 18) hC dX6_statement_18 (by decide) ?_
      refine ev_icmp_eq (pc := 20) hC 37 dX6_statement_20 (by decide) (by omega) (by omega) (fun c20 => ?_) (fun c20 => ?_)
      · exact J37 _ (by omega) (by omega) (by omega)
      · refine ev_iload_n (pc := 23) hC dX6_statement_23 rfl ?_
        refine ev_bipush (pc := 24) hC dX6_statement_24 (by decide) ?_
        refine ev_icmp_eq (pc := 26) hC 37 dX6_statement_26 (by decide) (by omega) (by omega) (fun c26 => ?_) (fun c26 => ?_)
        · exact J37 _ (by omega) (by omega) (by omega)
        · refine ev_iload_n (pc := 29) hC dX6_statement_29 rfl ?_
          refine ev_bipush (pc := 30) hC dX6_statement_30 (by decide) ?_
          refine ev_icmp_eq (pc := 32) hC 37 dX6_statement_32 (by decide) (by omega) (by omega) (fun c32 => ?_) (fun c32 => ?_)
          · exact J37 _ (by omega) (by omega) (by omega)
          · refine ev_iconst (pc := 35) hC dX6_statement_35 ?_
            exact ev_zreturn (pc := 36) hC hR dX6_statement_36 (by decide) (sm_none (by omega) hat)
theorem mtX6_comesYears : MT yX6_comesYears wsX6_comesYears cX6_comesYears 2 (some .boolean) 1 := ⟨⟨_, rfl⟩, by decide, by decide, by decide +kernel⟩
set_option maxRecDepth 100000 in
set_option maxHeartbeats 4000000 in
theorem ru_X6_comesYears {X : Mem} {A : Sl} (hA : Rp (vM X) A) (hg : X 29 8 = zI ((0 : Nat) : Int)) (y : Nat) (hy : y ≤ 99) (hyA : A 5 1 ≤ 999) : Ru yX6_comesYears wsX6_comesYears 9 199 [.ref 29, vi ((y : Nat) : Int)] X (fun v X' => v = some (vi (b2i (decide (1 ≤ y ∧ y ≤ 60 ∧ A 5 1 + y ≤ 999)))) ∧ (1 ≤ y ∧ y ≤ 60 ∧ A 5 1 + y ≤ 999 → Rp (vM X') (goN 0 y A)) ∧ frT 3 X X') := by
  refine ru_of (w2 := _) rfl (by decide) [some (.ref 29), some (vi ((y : Nat) : Int))] (fun _ => rfl) (fun _ => Nat.le_of_ble_eq_true rfl) ?_
  intro K hKn hC hR
  have wX6 : ∀ w ∈ u_ws RX6 TX6 25, w ∈ wsX6_comesYears := by decide +kernel
  have f104 : Fl K RX6 104 6 7 := fl_of hC RX6 TX6 25 rfl (by decide) wX6 (show Cond.fieldLink RX6 104 "PicnicOfSomebodyModel" "year" "I" ∈ _ by decide +kernel)
  have hn8 := hA.n8
  have hG : 0 < 256 := by decide
  refine ev_iload_n (pc := 0) hC dX6_comesYears_0 rfl ?_
  refine ev_iconst (pc := 1) hC dX6_comesYears_1 ?_
  refine ev_bipush (pc := 2) hC dX6_comesYears_2 (by decide) ?_
  refine ev_callS (pc := 4) (as := [vi ((y : Nat) : Int), vi 1, vi 60]) (rest := []) hC gX6_comesYears_X6_isIn mtX6_isIn dX6_comesYears_4 (ru_X6_isIn ((y : Nat) : Int) 1 60 (by omega) (by omega) (by omega)) (by decide) (by rfl) (Nat.le_of_ble_eq_true rfl) rfl (fun v4 X4 h4 => ?_)
  obtain ⟨rfl, rfl⟩ := h4
  show Ev K 7 [some (.ref 29), some (vi ((y : Nat) : Int))] [vi (b2i (decide (1 ≤ ((y : Nat) : Int) ∧ ((y : Nat) : Int) ≤ 60)))] X
  have hr4 := b2i_r (decide (1 ≤ ((y : Nat) : Int) ∧ ((y : Nat) : Int) ≤ 60))
  refine ev_if_eq (pc := 7) hC 22 dX6_comesYears_7 (by decide) (by omega) (fun c7 => ?_) (fun c7 => ?_)
  · have e7 := of_decide_eq_false (b2i_0 c7)
    refine ev_iconst (pc := 22) hC dX6_comesYears_22 ?_
    exact ev_zreturn (pc := 23) hC hR dX6_comesYears_23 (by decide) (⟨rv (b2iF (decide_eq_false (by omega))), fun z => absurd z (by omega), frT_rf 3 X⟩)
  · have e7 := of_decide_eq_true (b2i_1 c7)
    refine ev_aload_n (pc := 10) hC dX6_comesYears_10 rfl ?_
    refine ev_geti (pc := 11) hC ((A 5 1 : Nat) : Int) f104 dX6_comesYears_11 (by decide) (by decide) (by decide) (by decide) (by decide)  (hA.my) ?_
    refine ev_iload_n (pc := 14) hC dX6_comesYears_14 rfl ?_
    refine ev_iadd (pc := 15) hC (((A 5 1) + y : Nat) : Int) (by omega) dX6_comesYears_15 ?_
    refine ev_sipush (pc := 16) hC dX6_comesYears_16 (by decide) ?_
    refine ev_icmp_le (pc := 19) hC 24 dX6_comesYears_19 (by decide) (by omega) (by omega) (fun c19 => ?_) (fun c19 => ?_)
    · refine ev_aload_n (pc := 24) hC dX6_comesYears_24 rfl ?_
      refine ev_iload_n (pc := 25) hC dX6_comesYears_25 rfl ?_
      refine ev_callV (pc := 26) (as := [vi ((y : Nat) : Int)]) (rest := []) hC gX6_comesYears_X6_goes mtX6_goes dX6_comesYears_26 (ru_X6_goes hA hg hG y (by omega)) (by decide) (by decide) (by decide) rfl (by rfl) (Nat.le_of_ble_eq_true rfl) rfl (fun v26 X26 h26 => ?_)
      obtain ⟨rfl, hA26, hF26⟩ := h26
      show Ev K 29 [some (.ref 29), some (vi ((y : Nat) : Int))] [] X26
      have hgn26 := goN_n 0 A y
      have hg26 := frT_gone hF26 hg
      have hFr26 := frT_tr (frT_rf 3 X) hF26 (by omega)
      have hn8_26 := hA26.n8
      refine ev_iconst (pc := 29) hC dX6_comesYears_29 ?_
      exact ev_zreturn (pc := 30) hC hR dX6_comesYears_30 (by decide) (⟨rv (b2iT (decide_eq_true (by omega))), fun _ => hA26, hFr26⟩)
    · refine ev_iconst (pc := 22) hC dX6_comesYears_22 ?_
      exact ev_zreturn (pc := 23) hC hR dX6_comesYears_23 (by decide) (⟨rv (b2iF (decide_eq_false (by omega))), fun z => absurd z (by omega), frT_rf 3 X⟩)
theorem mtX6_comes : MT yX6_comes wsX6_comes cX6_comes 3 (some .boolean) 1 := ⟨⟨_, rfl⟩, by decide, by decide, by decide +kernel⟩
set_option maxRecDepth 100000 in
set_option maxHeartbeats 4000000 in
theorem ru_X6_comes {X : Mem} {A : Sl} {T : Nat → Nat} {n a : Nat} (hA : Rp (vM X) A) (hg : X 29 8 = zI ((0 : Nat) : Int)) (k : Nat) (hgd : goodT T n a) (hl : X 37 k = zI ((T a : Nat) : Int)) (ht : tldP X T a (4 * k)) (hyA : A 5 1 ≤ 999) (hk : k ≤ 40) : Ru yX6_comes wsX6_comes 10 220 [.ref 29, vi ((k : Nat) : Int)] X (fun v X' => v = some (vi (b2i (doS T a A).isSome)) ∧ (∀ B, doS T a A = some B → Rp (vM X') B) ∧ frT 3 X X') := by
  refine ru_of (w2 := _) rfl (by decide) [some (.ref 29), some (vi ((k : Nat) : Int)), none] (fun _ => rfl) (fun _ => Nat.le_of_ble_eq_true rfl) ?_
  intro K hKn hC hR
  have wX6 : ∀ w ∈ u_ws RX6 TX6 25, w ∈ wsX6_comes := by decide +kernel
  have f31 : Fl K RX6 31 6 10 := fl_of hC RX6 TX6 25 rfl (by decide) wX6 (show Cond.fieldLink RX6 31 "PicnicOfSomebodyModel" "letter" "[I" ∈ _ by decide +kernel)
  have f37 : Fl K RX6 37 6 12 := fl_of hC RX6 TX6 25 rfl (by decide) wX6 (show Cond.fieldLink RX6 37 "PicnicOfSomebodyModel" "told" "[I" ∈ _ by decide +kernel)
  have f52 : Fl K RX6 52 6 6 := fl_of hC RX6 TX6 25 rfl (by decide) wX6 (show Cond.fieldLink RX6 52 "PicnicOfSomebodyModel" "people" "I" ∈ _ by decide +kernel)
  have f13 : Fl K RX6 13 6 1 := fl_of hC RX6 TX6 25 rfl (by decide) wX6 (show Cond.fieldLink RX6 13 "PicnicOfSomebodyModel" "deep" "[I" ∈ _ by decide +kernel)
  have f25 : Fl K RX6 25 6 5 := fl_of hC RX6 TX6 25 rfl (by decide) wX6 (show Cond.fieldLink RX6 25 "PicnicOfSomebodyModel" "belief" "[I" ∈ _ by decide +kernel)
  have f22 : Fl K RX6 22 6 4 := fl_of hC RX6 TX6 25 rfl (by decide) wX6 (show Cond.fieldLink RX6 22 "PicnicOfSomebodyModel" "cell" "[I" ∈ _ by decide +kernel)
  have hn8 := hA.n8
  have hG : 0 < 256 := by decide
  have hlc := lenT_cases (T a)
  have hga := hgd.1
  have hgl := hgd.2.1
  refine ev_iconst (pc := 0) hC dX6_comes_0 ?_
  refine ev_iload_n (pc := 1) hC dX6_comes_1 rfl ?_
  refine ev_imul (pc := 2) hC ((4 * k : Nat) : Int) (by omega) dX6_comes_2 ?_
  refine ev_istore_n (pc := 3) hC dX6_comes_3 (by rw [hKn]; decide) rfl ?_
  show Ev K 4 [some (.ref 29), some (vi ((k : Nat) : Int)), some (vi ((4 * k : Nat) : Int))] [] X
  refine ev_aload_n (pc := 4) hC dX6_comes_4 rfl ?_
  refine ev_getr (pc := 5) hC 37 f31 dX6_comes_5 (by decide) (by decide) (by decide) (by decide) (by decide) ?_
  refine ev_iload_n (pc := 8) hC dX6_comes_8 rfl ?_
  refine ev_iald (pc := 9) hC k ((T a : Nat) : Int) (by decide) (by decide) (rfl) (by have := (show alen 37 = 48 from rfl); omega) (hl) dX6_comes_9 ?_
  rcases (show ((T a : Nat) : Int) = 97 ∨ ((T a : Nat) : Int) = 98 ∨ ((T a : Nat) : Int) = 104 ∨ ((T a : Nat) : Int) = 112 ∨ (¬ ((T a : Nat) : Int) = 97 ∧ ¬ ((T a : Nat) : Int) = 98 ∧ ¬ ((T a : Nat) : Int) = 104 ∧ ¬ ((T a : Nat) : Int) = 112) by omega) with c10 | c10 | c10 | c10 | c10
  · refine ev_lookup (pc := 10) hC 184 dX6_comes_10 (by decide) (by omega) (by rw [c10]) (by decide) ?_
    have hTa : T a = 97 := by omega
    have hq := tld_a ht hTa
    have hg1 := gd hgd 1 (by omega) (by omega) (by omega)
    have hg2 := gd hgd 2 (by omega) (by omega) (by omega)
    have hg3 := gd hgd 3 (by omega) (by omega) (by omega)
    have hdg1 := dg_le (T := T) (a := a + 1) (by omega)
    have hdd2 := dd_le (T := T) (a := a + 2) (by omega) (show T (a + 3) ≤ 57 by omega)
    refine ev_aload_n (pc := 184) hC dX6_comes_184 rfl ?_
    refine ev_aload_n (pc := 185) hC dX6_comes_185 rfl ?_
    refine ev_getr (pc := 186) hC 39 f37 dX6_comes_186 (by decide) (by decide) (by decide) (by decide) (by decide) ?_
    refine ev_iload_n (pc := 189) hC dX6_comes_189 rfl ?_
    refine ev_iald (pc := 190) hC (4 * k) ((dg T (a + 1) : Nat) : Int) (by decide) (by decide) (rfl) (by have := (show alen 39 = 192 from rfl); omega) (hq.1) dX6_comes_190 ?_
    refine ev_callV (pc := 191) (as := [vi ((dg T (a + 1) : Nat) : Int)]) (rest := []) hC gX6_comes_X6_isOne mtX6_isOne dX6_comes_191 (ru_X6_isOne hA ((dg T (a + 1) : Nat) : Int) (by omega)) (by decide) (by decide) (by decide) rfl (by rfl) (Nat.le_of_ble_eq_true rfl) rfl (fun v191 X191 h191 => ?_)
    obtain ⟨rfl, rfl⟩ := h191
    show Ev K 194 [some (.ref 29), some (vi ((k : Nat) : Int)), some (vi ((4 * k : Nat) : Int))] [vi (b2i (decide (0 ≤ ((dg T (a + 1) : Nat) : Int) ∧ ((dg T (a + 1) : Nat) : Int) < (A 5 0 : Int))))] X
    have hr191 := b2i_r (decide (0 ≤ ((dg T (a + 1) : Nat) : Int) ∧ ((dg T (a + 1) : Nat) : Int) < (A 5 0 : Int)))
    refine ev_if_eq (pc := 194) hC 211 dX6_comes_194 (by decide) (by omega) (fun c194 => ?_) (fun c194 => ?_)
    · have e194 := of_decide_eq_false (b2i_0 c194)
      refine ev_iconst (pc := 211) hC dX6_comes_211 ?_
      exact ev_zreturn (pc := 212) hC hR dX6_comes_212 (by decide) (⟨rv (by rw [doS_a hTa, isSome_ite]; exact b2iF (decide_eq_false (by omega))), by rw [doS_a hTa]; exact opt_imp (fun z => absurd z (by omega)), frT_rf 3 X⟩)
    · have e194 := of_decide_eq_true (b2i_1 c194)
      refine ev_aload_n (pc := 197) hC dX6_comes_197 rfl ?_
      refine ev_getr (pc := 198) hC 39 f37 dX6_comes_198 (by decide) (by decide) (by decide) (by decide) (by decide) ?_
      refine ev_iload_n (pc := 201) hC dX6_comes_201 rfl ?_
      refine ev_iconst (pc := 202) hC dX6_comes_202 ?_
      refine ev_iadd (pc := 203) hC (((4 * k) + 1 : Nat) : Int) (by omega) dX6_comes_203 ?_
      refine ev_iald (pc := 204) hC ((4 * k) + 1) ((dd T (a + 2) : Nat) : Int) (by decide) (by decide) (rfl) (by have := (show alen 39 = 192 from rfl); omega) (hq.2) dX6_comes_204 ?_
      refine ev_callS (pc := 205) (as := [vi ((dd T (a + 2) : Nat) : Int)]) (rest := []) hC gX6_comes_X6_isCell mtX6_isCell dX6_comes_205 (ru_X6_isCell ((dd T (a + 2) : Nat) : Int) (by omega)) (by decide) (by rfl) (Nat.le_of_ble_eq_true rfl) rfl (fun v205 X205 h205 => ?_)
      obtain ⟨rfl, rfl⟩ := h205
      show Ev K 208 [some (.ref 29), some (vi ((k : Nat) : Int)), some (vi ((4 * k : Nat) : Int))] [vi (b2i (decide (0 ≤ ((dd T (a + 2) : Nat) : Int) ∧ ((dd T (a + 2) : Nat) : Int) < 25)))] X
      have hr205 := b2i_r (decide (0 ≤ ((dd T (a + 2) : Nat) : Int) ∧ ((dd T (a + 2) : Nat) : Int) < 25))
      refine ev_if_ne (pc := 208) hC 213 dX6_comes_208 (by decide) (by omega) (fun c208 => ?_) (fun c208 => ?_)
      · have e208 := of_decide_eq_true (b2i_1 c208)
        refine ev_aload_n (pc := 213) hC dX6_comes_213 rfl ?_
        refine ev_getr (pc := 214) hC 34 f22 dX6_comes_214 (by decide) (by decide) (by decide) (by decide) (by decide) ?_
        refine ev_aload_n (pc := 217) hC dX6_comes_217 rfl ?_
        refine ev_getr (pc := 218) hC 39 f37 dX6_comes_218 (by decide) (by decide) (by decide) (by decide) (by decide) ?_
        refine ev_iload_n (pc := 221) hC dX6_comes_221 rfl ?_
        refine ev_iald (pc := 222) hC (4 * k) ((dg T (a + 1) : Nat) : Int) (by decide) (by decide) (rfl) (by have := (show alen 39 = 192 from rfl); omega) (hq.1) dX6_comes_222 ?_
        refine ev_aload_n (pc := 223) hC dX6_comes_223 rfl ?_
        refine ev_getr (pc := 224) hC 39 f37 dX6_comes_224 (by decide) (by decide) (by decide) (by decide) (by decide) ?_
        refine ev_iload_n (pc := 227) hC dX6_comes_227 rfl ?_
        refine ev_iconst (pc := 228) hC dX6_comes_228 ?_
        refine ev_iadd (pc := 229) hC (((4 * k) + 1 : Nat) : Int) (by omega) dX6_comes_229 ?_
        refine ev_iald (pc := 230) hC ((4 * k) + 1) ((dd T (a + 2) : Nat) : Int) (by decide) (by decide) (rfl) (by have := (show alen 39 = 192 from rfl); omega) (hq.2) dX6_comes_230 ?_
        refine ev_iast (pc := 231) hC (dg T (a + 1)) (by decide) (by decide) (rfl) (by have := (show alen 34 = 8 from rfl); omega) dX6_comes_231 ?_
        have hA231 : Rp (vM (mset X 34 (dg T (a + 1)) (zI ((dd T (a + 2) : Nat) : Int)))) (setR A 3 (dg T (a + 1)) (dd T (a + 2))) := Rp.setM3 (v := dd T (a + 2)) hA (by omega)
        have hg231 : (mset X 34 (dg T (a + 1)) (zI ((dd T (a + 2) : Nat) : Int))) 29 8 = zI ((0 : Nat) : Int) := by rw [mset_row (by omega)]; exact hg
        have hFr231 : frT 3 X (mset X 34 (dg T (a + 1)) (zI ((dd T (a + 2) : Nat) : Int))) := frT_set (r := 3) (frT_rf 3 X) (by omega)
        refine ev_iconst (pc := 232) hC dX6_comes_232 ?_
        exact ev_zreturn (pc := 233) hC hR dX6_comes_233 (by decide) (⟨rv (by rw [doS_a hTa, isSome_ite]; exact b2iT (decide_eq_true (by omega))), by rw [doS_a hTa]; exact opt_imp (fun _ => hA231), hFr231⟩)
      · have e208 := of_decide_eq_false (b2i_0 c208)
        refine ev_iconst (pc := 211) hC dX6_comes_211 ?_
        exact ev_zreturn (pc := 212) hC hR dX6_comes_212 (by decide) (⟨rv (by rw [doS_a hTa, isSome_ite]; exact b2iF (decide_eq_false (by omega))), by rw [doS_a hTa]; exact opt_imp (fun z => absurd z (by omega)), frT_rf 3 X⟩)
  · refine ev_lookup (pc := 10) hC 148 dX6_comes_10 (by decide) (by omega) (by rw [c10]) (by decide) ?_
    have hTa : T a = 98 := by omega
    have hq := tld_b ht hTa
    have hg1 := gd hgd 1 (by omega) (by omega) (by omega)
    have hg2 := gd hgd 2 (by omega) (by omega) (by omega)
    have hdg1 := dg_le (T := T) (a := a + 1) (by omega)
    have hdg2 := dg_le (T := T) (a := a + 2) (by omega)
    refine ev_aload_n (pc := 148) hC dX6_comes_148 rfl ?_
    refine ev_aload_n (pc := 149) hC dX6_comes_149 rfl ?_
    refine ev_getr (pc := 150) hC 39 f37 dX6_comes_150 (by decide) (by decide) (by decide) (by decide) (by decide) ?_
    refine ev_iload_n (pc := 153) hC dX6_comes_153 rfl ?_
    refine ev_iald (pc := 154) hC (4 * k) ((dg T (a + 1) : Nat) : Int) (by decide) (by decide) (rfl) (by have := (show alen 39 = 192 from rfl); omega) (hq.1) dX6_comes_154 ?_
    refine ev_callV (pc := 155) (as := [vi ((dg T (a + 1) : Nat) : Int)]) (rest := []) hC gX6_comes_X6_isOne mtX6_isOne dX6_comes_155 (ru_X6_isOne hA ((dg T (a + 1) : Nat) : Int) (by omega)) (by decide) (by decide) (by decide) rfl (by rfl) (Nat.le_of_ble_eq_true rfl) rfl (fun v155 X155 h155 => ?_)
    obtain ⟨rfl, rfl⟩ := h155
    show Ev K 158 [some (.ref 29), some (vi ((k : Nat) : Int)), some (vi ((4 * k : Nat) : Int))] [vi (b2i (decide (0 ≤ ((dg T (a + 1) : Nat) : Int) ∧ ((dg T (a + 1) : Nat) : Int) < (A 5 0 : Int))))] X
    have hr155 := b2i_r (decide (0 ≤ ((dg T (a + 1) : Nat) : Int) ∧ ((dg T (a + 1) : Nat) : Int) < (A 5 0 : Int)))
    refine ev_if_ne (pc := 158) hC 163 dX6_comes_158 (by decide) (by omega) (fun c158 => ?_) (fun c158 => ?_)
    · have e158 := of_decide_eq_true (b2i_1 c158)
      refine ev_aload_n (pc := 163) hC dX6_comes_163 rfl ?_
      refine ev_getr (pc := 164) hC 35 f25 dX6_comes_164 (by decide) (by decide) (by decide) (by decide) (by decide) ?_
      refine ev_aload_n (pc := 167) hC dX6_comes_167 rfl ?_
      refine ev_getr (pc := 168) hC 39 f37 dX6_comes_168 (by decide) (by decide) (by decide) (by decide) (by decide) ?_
      refine ev_iload_n (pc := 171) hC dX6_comes_171 rfl ?_
      refine ev_iald (pc := 172) hC (4 * k) ((dg T (a + 1) : Nat) : Int) (by decide) (by decide) (rfl) (by have := (show alen 39 = 192 from rfl); omega) (hq.1) dX6_comes_172 ?_
      refine ev_aload_n (pc := 173) hC dX6_comes_173 rfl ?_
      refine ev_getr (pc := 174) hC 39 f37 dX6_comes_174 (by decide) (by decide) (by decide) (by decide) (by decide) ?_
      refine ev_iload_n (pc := 177) hC dX6_comes_177 rfl ?_
      refine ev_iconst (pc := 178) hC dX6_comes_178 ?_
      refine ev_iadd (pc := 179) hC (((4 * k) + 1 : Nat) : Int) (by omega) dX6_comes_179 ?_
      refine ev_iald (pc := 180) hC ((4 * k) + 1) ((dg T (a + 2) : Nat) : Int) (by decide) (by decide) (rfl) (by have := (show alen 39 = 192 from rfl); omega) (hq.2) dX6_comes_180 ?_
      refine ev_iast (pc := 181) hC (dg T (a + 1)) (by decide) (by decide) (rfl) (by have := (show alen 35 = 8 from rfl); omega) dX6_comes_181 ?_
      have hA181 : Rp (vM (mset X 35 (dg T (a + 1)) (zI ((dg T (a + 2) : Nat) : Int)))) (setR A 4 (dg T (a + 1)) (dg T (a + 2))) := Rp.setM4 (v := dg T (a + 2)) hA (by omega)
      have hg181 : (mset X 35 (dg T (a + 1)) (zI ((dg T (a + 2) : Nat) : Int))) 29 8 = zI ((0 : Nat) : Int) := by rw [mset_row (by omega)]; exact hg
      have hFr181 : frT 3 X (mset X 35 (dg T (a + 1)) (zI ((dg T (a + 2) : Nat) : Int))) := frT_set (r := 4) (frT_rf 3 X) (by omega)
      refine ev_iconst (pc := 182) hC dX6_comes_182 ?_
      exact ev_zreturn (pc := 183) hC hR dX6_comes_183 (by decide) (⟨rv (by rw [doS_b hTa, isSome_ite]; exact b2iT (decide_eq_true (by omega))), by rw [doS_b hTa]; exact opt_imp (fun _ => hA181), hFr181⟩)
    · have e158 := of_decide_eq_false (b2i_0 c158)
      refine ev_iconst (pc := 161) hC dX6_comes_161 ?_
      exact ev_zreturn (pc := 162) hC hR dX6_comes_162 (by decide) (⟨rv (by rw [doS_b hTa, isSome_ite]; exact b2iF (decide_eq_false (by omega))), by rw [doS_b hTa]; exact opt_imp (fun z => absurd z (by omega)), frT_rf 3 X⟩)
  · refine ev_lookup (pc := 10) hC 113 dX6_comes_10 (by decide) (by omega) (by rw [c10]) (by decide) ?_
    have hTa : T a = 104 := by omega
    have hq := tld_h ht hTa
    have hg1 := gd hgd 1 (by omega) (by omega) (by omega)
    have hg2 := gd hgd 2 (by omega) (by omega) (by omega)
    have hg3 := gd hgd 3 (by omega) (by omega) (by omega)
    have hg4 := gd hgd 4 (by omega) (by omega) (by omega)
    have hdd1 := dd_le (T := T) (a := a + 1) (by omega) (show T (a + 2) ≤ 57 by omega)
    have hdd3 := dd_le (T := T) (a := a + 3) (by omega) (show T (a + 4) ≤ 57 by omega)
    refine ev_aload_n (pc := 113) hC dX6_comes_113 rfl ?_
    refine ev_getr (pc := 114) hC 39 f37 dX6_comes_114 (by decide) (by decide) (by decide) (by decide) (by decide) ?_
    refine ev_iload_n (pc := 117) hC dX6_comes_117 rfl ?_
    refine ev_iald (pc := 118) hC (4 * k) ((dd T (a + 1) : Nat) : Int) (by decide) (by decide) (rfl) (by have := (show alen 39 = 192 from rfl); omega) (hq.1) dX6_comes_118 ?_
    refine ev_callS (pc := 119) (as := [vi ((dd T (a + 1) : Nat) : Int)]) (rest := []) hC gX6_comes_X6_isCell mtX6_isCell dX6_comes_119 (ru_X6_isCell ((dd T (a + 1) : Nat) : Int) (by omega)) (by decide) (by rfl) (Nat.le_of_ble_eq_true rfl) rfl (fun v119 X119 h119 => ?_)
    obtain ⟨rfl, rfl⟩ := h119
    show Ev K 122 [some (.ref 29), some (vi ((k : Nat) : Int)), some (vi ((4 * k : Nat) : Int))] [vi (b2i (decide (0 ≤ ((dd T (a + 1) : Nat) : Int) ∧ ((dd T (a + 1) : Nat) : Int) < 25)))] X
    have hr119 := b2i_r (decide (0 ≤ ((dd T (a + 1) : Nat) : Int) ∧ ((dd T (a + 1) : Nat) : Int) < 25))
    refine ev_if_ne (pc := 122) hC 127 dX6_comes_122 (by decide) (by omega) (fun c122 => ?_) (fun c122 => ?_)
    · have e122 := of_decide_eq_true (b2i_1 c122)
      refine ev_aload_n (pc := 127) hC dX6_comes_127 rfl ?_
      refine ev_getr (pc := 128) hC 31 f13 dX6_comes_128 (by decide) (by decide) (by decide) (by decide) (by decide) ?_
      refine ev_aload_n (pc := 131) hC dX6_comes_131 rfl ?_
      refine ev_getr (pc := 132) hC 39 f37 dX6_comes_132 (by decide) (by decide) (by decide) (by decide) (by decide) ?_
      refine ev_iload_n (pc := 135) hC dX6_comes_135 rfl ?_
      refine ev_iald (pc := 136) hC (4 * k) ((dd T (a + 1) : Nat) : Int) (by decide) (by decide) (rfl) (by have := (show alen 39 = 192 from rfl); omega) (hq.1) dX6_comes_136 ?_
      refine ev_aload_n (pc := 137) hC dX6_comes_137 rfl ?_
      refine ev_getr (pc := 138) hC 39 f37 dX6_comes_138 (by decide) (by decide) (by decide) (by decide) (by decide) ?_
      refine ev_iload_n (pc := 141) hC dX6_comes_141 rfl ?_
      refine ev_iconst (pc := 142) hC dX6_comes_142 ?_
      refine ev_iadd (pc := 143) hC (((4 * k) + 1 : Nat) : Int) (by omega) dX6_comes_143 ?_
      refine ev_iald (pc := 144) hC ((4 * k) + 1) ((dd T (a + 3) : Nat) : Int) (by decide) (by decide) (rfl) (by have := (show alen 39 = 192 from rfl); omega) (hq.2) dX6_comes_144 ?_
      refine ev_iast (pc := 145) hC (dd T (a + 1)) (by decide) (by decide) (rfl) (by have := (show alen 31 = 25 from rfl); omega) dX6_comes_145 ?_
      have hA145 : Rp (vM (mset X 31 (dd T (a + 1)) (zI ((dd T (a + 3) : Nat) : Int)))) (setR A 0 (dd T (a + 1)) (dd T (a + 3))) := Rp.setM0 (v := dd T (a + 3)) hA (by omega)
      have hg145 : (mset X 31 (dd T (a + 1)) (zI ((dd T (a + 3) : Nat) : Int))) 29 8 = zI ((0 : Nat) : Int) := by rw [mset_row (by omega)]; exact hg
      have hFr145 : frT 3 X (mset X 31 (dd T (a + 1)) (zI ((dd T (a + 3) : Nat) : Int))) := frT_set (r := 0) (frT_rf 3 X) (by omega)
      refine ev_iconst (pc := 146) hC dX6_comes_146 ?_
      exact ev_zreturn (pc := 147) hC hR dX6_comes_147 (by decide) (⟨rv (by rw [doS_h hTa, isSome_ite]; exact b2iT (decide_eq_true (by omega))), by rw [doS_h hTa]; exact opt_imp (fun _ => hA145), hFr145⟩)
    · have e122 := of_decide_eq_false (b2i_0 c122)
      refine ev_iconst (pc := 125) hC dX6_comes_125 ?_
      exact ev_zreturn (pc := 126) hC hR dX6_comes_126 (by decide) (⟨rv (by rw [doS_h hTa, isSome_ite]; exact b2iF (decide_eq_false (by omega))), by rw [doS_h hTa]; exact opt_imp (fun z => absurd z (by omega)), frT_rf 3 X⟩)
  · refine ev_lookup (pc := 10) hC 52 dX6_comes_10 (by decide) (by omega) (by rw [c10]) (by decide) ?_
    have hTa : T a = 112 := by omega
    have hq := tld_p ht hTa
    have hk1 := fit_kind ⟨hTa, rfl⟩ (hgd.2.2 1 (by omega) (by omega)).2
    have hkc := kindT_cases (T (a + 1))
    have hg2 := gd hgd 2 (by omega) (by omega) (by omega)
    have hg3 := gd hgd 3 (by omega) (by omega) (by omega)
    have hg4 := gd hgd 4 (by omega) (by omega) (by omega)
    have hg5 := gd hgd 5 (by omega) (by omega) (by omega)
    have hdg2 := dg_le (T := T) (a := a + 2) (by omega)
    have hdd3 := dd_le (T := T) (a := a + 3) (by omega) (show T (a + 4) ≤ 57 by omega)
    have hdg5 := dg_le (T := T) (a := a + 5) (by omega)
    refine ev_aload_n (pc := 52) hC dX6_comes_52 rfl ?_
    refine ev_getr (pc := 53) hC 39 f37 dX6_comes_53 (by decide) (by decide) (by decide) (by decide) (by decide) ?_
    refine ev_iload_n (pc := 56) hC dX6_comes_56 rfl ?_
    refine ev_iconst (pc := 57) hC dX6_comes_57 ?_
    refine ev_iadd (pc := 58) hC (((4 * k) + 2 : Nat) : Int) (by omega) dX6_comes_58 ?_
    refine ev_iald (pc := 59) hC ((4 * k) + 2) ((dd T (a + 3) : Nat) : Int) (by decide) (by decide) (rfl) (by have := (show alen 39 = 192 from rfl); omega) (hq.2.2.1) dX6_comes_59 ?_
    refine ev_callS (pc := 60) (as := [vi ((dd T (a + 3) : Nat) : Int)]) (rest := []) hC gX6_comes_X6_isCell mtX6_isCell dX6_comes_60 (ru_X6_isCell ((dd T (a + 3) : Nat) : Int) (by omega)) (by decide) (by rfl) (Nat.le_of_ble_eq_true rfl) rfl (fun v60 X60 h60 => ?_)
    obtain ⟨rfl, rfl⟩ := h60
    show Ev K 63 [some (.ref 29), some (vi ((k : Nat) : Int)), some (vi ((4 * k : Nat) : Int))] [vi (b2i (decide (0 ≤ ((dd T (a + 3) : Nat) : Int) ∧ ((dd T (a + 3) : Nat) : Int) < 25)))] X
    have hr60 := b2i_r (decide (0 ≤ ((dd T (a + 3) : Nat) : Int) ∧ ((dd T (a + 3) : Nat) : Int) < 25))
    refine ev_if_eq (pc := 63) hC 75 dX6_comes_63 (by decide) (by omega) (fun c63 => ?_) (fun c63 => ?_)
    · have e63 := of_decide_eq_false (b2i_0 c63)
      refine ev_iconst (pc := 75) hC dX6_comes_75 ?_
      exact ev_zreturn (pc := 76) hC hR dX6_comes_76 (by decide) (⟨rv (by rw [doS_p hTa, isSome_ite]; exact b2iF (decide_eq_false (by omega))), by rw [doS_p hTa]; exact opt_imp (fun z => absurd z (by omega)), frT_rf 3 X⟩)
    · have e63 := of_decide_eq_true (b2i_1 c63)
      refine ev_aload_n (pc := 66) hC dX6_comes_66 rfl ?_
      refine ev_geti (pc := 67) hC ((A 5 0 : Nat) : Int) f52 dX6_comes_67 (by decide) (by decide) (by decide) (by decide) (by decide)  (hA.mn) ?_
      refine ev_bipush (pc := 70) hC dX6_comes_70 (by decide) ?_
      refine ev_icmp_ne (pc := 72) hC 77 dX6_comes_72 (by decide) (by omega) (by omega) (fun c72 => ?_) (fun c72 => ?_)
      · refine ev_aload_n (pc := 77) hC dX6_comes_77 rfl ?_
        refine ev_aload_n (pc := 78) hC dX6_comes_78 rfl ?_
        refine ev_getr (pc := 79) hC 39 f37 dX6_comes_79 (by decide) (by decide) (by decide) (by decide) (by decide) ?_
        refine ev_iload_n (pc := 82) hC dX6_comes_82 rfl ?_
        refine ev_iald (pc := 83) hC (4 * k) (((kindT (T (a + 1))).toNat : Nat) : Int) (by decide) (by decide) (rfl) (by have := (show alen 39 = 192 from rfl); omega) ((hq.1.trans (by rw [Int.toNat_of_nonneg hk1]))) dX6_comes_83 ?_
        refine ev_aload_n (pc := 84) hC dX6_comes_84 rfl ?_
        refine ev_getr (pc := 85) hC 39 f37 dX6_comes_85 (by decide) (by decide) (by decide) (by decide) (by decide) ?_
        refine ev_iload_n (pc := 88) hC dX6_comes_88 rfl ?_
        refine ev_iconst (pc := 89) hC dX6_comes_89 ?_
        refine ev_iadd (pc := 90) hC (((4 * k) + 1 : Nat) : Int) (by omega) dX6_comes_90 ?_
        refine ev_iald (pc := 91) hC ((4 * k) + 1) ((dg T (a + 2) : Nat) : Int) (by decide) (by decide) (rfl) (by have := (show alen 39 = 192 from rfl); omega) (hq.2.1) dX6_comes_91 ?_
        refine ev_aload_n (pc := 92) hC dX6_comes_92 rfl ?_
        refine ev_getr (pc := 93) hC 39 f37 dX6_comes_93 (by decide) (by decide) (by decide) (by decide) (by decide) ?_
        refine ev_iload_n (pc := 96) hC dX6_comes_96 rfl ?_
        refine ev_iconst (pc := 97) hC dX6_comes_97 ?_
        refine ev_iadd (pc := 98) hC (((4 * k) + 2 : Nat) : Int) (by omega) dX6_comes_98 ?_
        refine ev_iald (pc := 99) hC ((4 * k) + 2) ((dd T (a + 3) : Nat) : Int) (by decide) (by decide) (rfl) (by have := (show alen 39 = 192 from rfl); omega) (hq.2.2.1) dX6_comes_99 ?_
        refine ev_aload_n (pc := 100) hC dX6_comes_100 rfl ?_
        refine ev_getr (pc := 101) hC 39 f37 dX6_comes_101 (by decide) (by decide) (by decide) (by decide) (by decide) ?_
        refine ev_iload_n (pc := 104) hC dX6_comes_104 rfl ?_
        refine ev_iconst (pc := 105) hC dX6_comes_105 ?_
        refine ev_iadd (pc := 106) hC (((4 * k) + 3 : Nat) : Int) (by omega) dX6_comes_106 ?_
        refine ev_iald (pc := 107) hC ((4 * k) + 3) ((dg T (a + 5) : Nat) : Int) (by decide) (by decide) (rfl) (by have := (show alen 39 = 192 from rfl); omega) (hq.2.2.2) dX6_comes_107 ?_
        refine ev_callV (pc := 108) (as := [vi (((kindT (T (a + 1))).toNat : Nat) : Int), vi ((dg T (a + 2) : Nat) : Int), vi ((dd T (a + 3) : Nat) : Int), vi ((dg T (a + 5) : Nat) : Int)]) (rest := []) hC gX6_comes_X6_adds mtX6_adds dX6_comes_108 (ru_X6_adds hA ((kindT (T (a + 1))).toNat) (dg T (a + 2)) (dd T (a + 3)) (dg T (a + 5)) (by omega) (by omega) (by omega) (by omega) (by omega)) (by decide) (by decide) (by decide) rfl (by rfl) (Nat.le_of_ble_eq_true rfl) rfl (fun v108 X108 h108 => ?_)
        obtain ⟨rfl, hA108, hF108⟩ := h108
        show Ev K 111 [some (.ref 29), some (vi ((k : Nat) : Int)), some (vi ((4 * k : Nat) : Int))] [] X108
        have hg108 := frT_gone hF108 hg
        have hFr108 := frT_tr (frT_rf 3 X) hF108 (by omega)
        have hn8_108 := hA108.n8
        refine ev_iconst (pc := 111) hC dX6_comes_111 ?_
        exact ev_zreturn (pc := 112) hC hR dX6_comes_112 (by decide) (⟨rv (by rw [doS_p hTa, isSome_ite]; exact b2iT (decide_eq_true (by omega))), by rw [doS_p hTa]; exact opt_imp (fun _ => hA108), hFr108⟩)
      · refine ev_iconst (pc := 75) hC dX6_comes_75 ?_
        exact ev_zreturn (pc := 76) hC hR dX6_comes_76 (by decide) (⟨rv (by rw [doS_p hTa, isSome_ite]; exact b2iF (decide_eq_false (by omega))), by rw [doS_p hTa]; exact opt_imp (fun z => absurd z (by omega)), frT_rf 3 X⟩)
  · refine ev_lookup (pc := 10) hC (off := 224) 234 dX6_comes_10 (by decide) (by omega) (by simp [Op.lookupswitch.offset, show ¬ (97 : Int) = ((T a : Nat) : Int) by omega, show ¬ (98 : Int) = ((T a : Nat) : Int) by omega, show ¬ (104 : Int) = ((T a : Nat) : Int) by omega, show ¬ (112 : Int) = ((T a : Nat) : Int) by omega]) (by decide) ?_
    have hTa : T a = 121 := by omega
    have hq := tld_y ht hTa
    have hg1 := gd hgd 1 (by omega) (by omega) (by omega)
    have hg2 := gd hgd 2 (by omega) (by omega) (by omega)
    have hdd1 := dd_le (T := T) (a := a + 1) (by omega) (show T (a + 2) ≤ 57 by omega)
    refine ev_aload_n (pc := 234) hC dX6_comes_234 rfl ?_
    refine ev_aload_n (pc := 235) hC dX6_comes_235 rfl ?_
    refine ev_getr (pc := 236) hC 39 f37 dX6_comes_236 (by decide) (by decide) (by decide) (by decide) (by decide) ?_
    refine ev_iload_n (pc := 239) hC dX6_comes_239 rfl ?_
    refine ev_iald (pc := 240) hC (4 * k) ((dd T (a + 1) : Nat) : Int) (by decide) (by decide) (rfl) (by have := (show alen 39 = 192 from rfl); omega) (hq) dX6_comes_240 ?_
    refine ev_callV (pc := 241) (as := [vi ((dd T (a + 1) : Nat) : Int)]) (rest := []) hC gX6_comes_X6_comesYears mtX6_comesYears dX6_comes_241 (ru_X6_comesYears hA hg (dd T (a + 1)) (by omega) hyA) (by decide) (by decide) (by decide) rfl (by rfl) (Nat.le_of_ble_eq_true rfl) rfl (fun v241 X241 h241 => ?_)
    obtain ⟨rfl, hq241, hF241⟩ := h241
    show Ev K 244 [some (.ref 29), some (vi ((k : Nat) : Int)), some (vi ((4 * k : Nat) : Int))] [vi (b2i (decide (1 ≤ dd T (a + 1) ∧ dd T (a + 1) ≤ 60 ∧ A 5 1 + dd T (a + 1) ≤ 999)))] X241
    exact ev_zreturn (pc := 244) hC hR dX6_comes_244 (b2i_n _) (⟨rv (by rw [doS_y hTa, isSome_ite]), by rw [doS_y hTa]; exact opt_imp hq241, hF241⟩)
theorem mtX6_slope : MT yX6_slope wsX6_slope cX6_slope 3 (some .int) 0 := ⟨⟨_, rfl⟩, by decide, by decide, by decide +kernel⟩
set_option maxRecDepth 100000 in
set_option maxHeartbeats 4000000 in
theorem ru_X6_slope {X : Mem} {V : St} (hV : mI X V) : Ru yX6_slope wsX6_slope 11 242 [.ref 29] X (fun v X' => v = some (vi (sp1 V).1) ∧ mI X' (sp1 V).2 ∧ frM X X') := by
  refine ru_of (w2 := _) rfl (by decide) [some (.ref 29), none, none] (fun _ => rfl) (fun _ => Nat.le_of_ble_eq_true rfl) ?_
  intro K hKn hC hR
  have wX6 : ∀ w ∈ u_ws RX6 TX6 25, w ∈ wsX6_slope := by decide +kernel
  have f77 : Fl K RX6 77 6 14 := fl_of hC RX6 TX6 25 rfl (by decide) wX6 (show Cond.fieldLink RX6 77 "PicnicOfSomebodyModel" "at" "I" ∈ _ by decide +kernel)
  have f98 : Fl K RX6 98 6 15 := fl_of hC RX6 TX6 25 rfl (by decide) wX6 (show Cond.fieldLink RX6 98 "PicnicOfSomebodyModel" "statements" "I" ∈ _ by decide +kernel)
  have f70 : Fl K RX6 70 6 13 := fl_of hC RX6 TX6 25 rfl (by decide) wX6 (show Cond.fieldLink RX6 70 "PicnicOfSomebodyModel" "taped" "I" ∈ _ by decide +kernel)
  have f34 : Fl K RX6 34 6 11 := fl_of hC RX6 TX6 25 rfl (by decide) wX6 (show Cond.fieldLink RX6 34 "PicnicOfSomebodyModel" "letterAt" "[I" ∈ _ by decide +kernel)
  obtain ⟨A, B, hh, T, n, W, rs, C⟩ := V
  have hA : Rp (vM X) A := hV.1
  have hyA : A 5 1 ≤ 999 := hV.2.1
  have hB : hh = true → Rp (vK X 0) B ∧ B 5 1 ≤ 999 := hV.2.2.1
  have hi : X 29 17 = zI (b2i hh) := hV.2.2.2.1
  have hg : X 29 8 = zI ((0 : Nat) : Int) := hV.2.2.2.2.1
  have hT : TxM X T n := hV.2.2.2.2.2.1
  have hW : RwM X W rs := hV.2.2.2.2.2.2.1
  have hCn : ∀ k, k < 7 → X 30 k = zI (C k : Nat) := hV.2.2.2.2.2.2.2
  have hn8 := hA.n8
  have hn96 := hT.2.1
  have hrs := hW.2.1
  have hG : 0 < 256 := by decide
  have hI : mI X (A, B, hh, T, n, W, rs, C) := hV
  refine ev_aload_n (pc := 0) hC dX6_slope_0 rfl ?_
  refine ev_iconst (pc := 1) hC dX6_slope_1 ?_
  refine ev_puti (pc := 2) hC f77 fpX6_14 dX6_slope_2 (by decide) (by decide) (by decide) (by decide) (by decide) (rfl) (rfl) ?_
  refine ev_aload_n (pc := 5) hC dX6_slope_5 rfl ?_
  refine ev_iconst (pc := 6) hC dX6_slope_6 ?_
  refine ev_puti (pc := 7) hC f98 fpX6_15 dX6_slope_7 (by decide) (by decide) (by decide) (by decide) (by decide) (rfl) (rfl) ?_
  refine ev_iconst (pc := 10) hC dX6_slope_10 ?_
  refine ev_istore_n (pc := 11) hC dX6_slope_11 (by rw [hKn]; decide) rfl ?_
  show Ev K 12 [some (.ref 29), some (vi 1), none] [] (mset (mset X 29 14 (zI 0)) 29 15 (zI 0))
  have lp12 : ∀ (fz : Nat) (c : Nat) (a : Nat) (z : Int) (f : Nat) (Y : Mem), f < fz → ((z = 1 ∧ slG Y T n c a f) ∨ (z = 0 ∧ wfR T n 100 0 = ((a : Nat) : Int))) → (Y 29 14 = zI ((a : Nat) : Int)) → (Y 29 15 = zI ((c : Nat) : Int)) → (slK X Y) → Ev K 12 [some (.ref 29), some (vi z), none] [] Y := by
    intro fz
    induction fz with
    | zero => intro c a z f Y hfz; exact absurd hfz (Nat.not_lt_zero _)
    | succ fz ih12 =>
      intro c a z f Y hfz hz hat hst hK
      have hTY := slK_T hT hK
      refine ev_iload_n (pc := 12) hC dX6_slope_12 rfl ?_
      refine ev_if_eq (pc := 13) hC 60 dX6_slope_13 (by decide) (by omega) (fun c13 => ?_) (fun c13 => ?_)
      · obtain rfl : z = 0 := by omega
        have hw : wfR T n 100 0 = ((a : Nat) : Int) := by rcases hz with h | h; exact absurd h.1 (by decide); exact h.2
        refine ev_aload_n (pc := 60) hC dX6_slope_60 rfl ?_
        refine ev_iconst (pc := 61) hC dX6_slope_61 ?_
        refine ev_puti (pc := 62) hC f70 fpX6_13 dX6_slope_62 (by decide) (by decide) (by decide) (by decide) (by decide) (rfl) (rfl) ?_
        have hA5 : Rp (vM (mset Y 29 13 (zI 0))) A := hA.keepM ((mset_ne _ _ _ _ (by omega)).trans (hK.2 6 (by omega) (by omega))) ((mset_ne _ _ _ _ (by omega)).trans (hK.2 7 (by omega) (by omega))) (fun q hq => (mset_row (by omega)).trans (hK.1 _ (by omega) (by omega) (by omega) (by omega)))
        have hg5 : (mset Y 29 13 (zI 0)) 29 8 = zI ((0 : Nat) : Int) := ((mset_ne _ _ _ _ (by omega)).trans (hK.2 8 (by omega) (by omega))).trans hg
        refine ev_iload_n (pc := 65) hC dX6_slope_65 rfl ?_
        refine ev_if_ne (pc := 66) hC 78 dX6_slope_66 (by decide) (by omega) (fun c66 => absurd c66 (by decide)) (fun c66 => ?_)
        refine ev_sipush (pc := 69) hC dX6_slope_69 (by decide) ?_
        refine ev_aload_n (pc := 72) hC dX6_slope_72 rfl ?_
        refine ev_geti (pc := 73) hC ((a : Nat) : Int) f77 dX6_slope_73 (by decide) (by decide) (by decide) (by decide) (by decide)  (((mset_ne _ _ _ _ (by omega)).trans hat)) ?_
        refine ev_isub (pc := 76) hC ((-1000) - ((a : Nat) : Int)) (rfl) dX6_slope_76 ?_
        exact ev_ireturn (pc := 77) hC hR dX6_slope_77 (sl_end1 hI hK hw)
      · obtain rfl : z = 1 := by omega
        have hGd : slG Y T n c a f := by rcases hz with h | h; exact h.2; exact absurd h.1 (by decide)
        have hbd1 : a ≤ n := hGd.2.2.1
        have hbd2 : 4 * c ≤ a := hGd.2.1
        refine ev_aload_n (pc := 16) hC dX6_slope_16 rfl ?_
        refine ev_geti (pc := 17) hC ((a : Nat) : Int) f77 dX6_slope_17 (by decide) (by decide) (by decide) (by decide) (by decide)  (hat) ?_
        refine ev_aload_n (pc := 20) hC dX6_slope_20 rfl ?_
        refine ev_geti (pc := 21) hC ((n : Nat) : Int) f70 dX6_slope_21 (by decide) (by decide) (by decide) (by decide) (by decide)  (hTY.1) ?_
        refine ev_icmp_lt (pc := 24) hC 34 dX6_slope_24 (by decide) (by omega) (by omega) (fun c24 => ?_) (fun c24 => ?_)
        · have hcn : c = 0 ∨ a < n := by omega
          obtain ⟨q1, q2, q3, q4, q5, -⟩ := id hGd
          obtain ⟨q5, q6⟩ := q5 hcn
          obtain ⟨g, rfl⟩ : ∃ g, f = g + 1 := ⟨f - 1, by omega⟩
          have hTY := slK_T hT hK
          refine ev_aload_n (pc := 34) hC dX6_slope_34 rfl ?_
          refine ev_callV (pc := 35) (as := []) (rest := []) hC gX6_slope_X6_statement mtX6_statement dX6_slope_35 (ru_X6_statement hTY hat hst (by omega) (by omega)) (by decide) (by decide) (by decide) rfl (by rfl) (Nat.le_of_ble_eq_true rfl) rfl (fun v35 X35 h35 => ?_)
          rcases h35 with ⟨rfl, s1, s2, s3, s4, s5, s6⟩ | ⟨w, rfl, s2, s3, s6⟩
          · show Ev K 38 [some (.ref 29), some (vi 1), none] [vi 1] X35
            refine ev_istore_n (pc := 38) hC dX6_slope_38 (by rw [hKn]; decide) rfl ?_
            show Ev K 39 [some (.ref 29), some (vi 1), none] [] X35
            refine ev_aload_n (pc := 39) hC dX6_slope_39 rfl ?_
            refine ev_dup (pc := 40) hC rfl dX6_slope_40 ?_
            refine ev_geti (pc := 41) hC ((c : Nat) : Int) f98 dX6_slope_41 (by decide) (by decide) (by decide) (by decide) (by decide)  (((s6.2.1 15 (by omega)).trans hst)) ?_
            refine ev_iload_n (pc := 44) hC dX6_slope_44 rfl ?_
            refine ev_if_eq (pc := 45) hC 52 dX6_slope_45 (by decide) (by omega) (fun c45 => absurd c45 (by decide)) (fun c45 => ?_)
            refine ev_iconst (pc := 48) hC dX6_slope_48 ?_
            refine ev_goto (pc := 49) hC 53 dX6_slope_49 (by decide) ?_
            refine ev_iadd (pc := 53) hC ((c + 1 : Nat) : Int) (by omega) dX6_slope_53 ?_
            refine ev_puti (pc := 54) hC f98 fpX6_15 dX6_slope_54 (by decide) (by decide) (by decide) (by decide) (by decide) (rfl) (rfl) ?_
            refine ev_goto (pc := 57) hC 12 dX6_slope_57 (by decide) ?_
            exact ih12 (c + 1) (a + lenT (T a)) 1 g (mset X35 29 15 (zI ((c + 1 : Nat) : Int))) (by omega) (Or.inl ⟨rfl, slG_step hGd hcn s1 s3 s4 s5 s6⟩) ((mset_ne _ _ _ _ (by omega)).trans s2) (mset_eq _ _ _ _) (slK_st hK s6)
          · show Ev K 38 [some (.ref 29), some (vi 1), none] [vi 0] X35
            refine ev_istore_n (pc := 38) hC dX6_slope_38 (by rw [hKn]; decide) rfl ?_
            show Ev K 39 [some (.ref 29), some (vi 0), none] [] X35
            refine ev_aload_n (pc := 39) hC dX6_slope_39 rfl ?_
            refine ev_dup (pc := 40) hC rfl dX6_slope_40 ?_
            refine ev_geti (pc := 41) hC ((c : Nat) : Int) f98 dX6_slope_41 (by decide) (by decide) (by decide) (by decide) (by decide)  (((s6.2.1 15 (by omega)).trans hst)) ?_
            refine ev_iload_n (pc := 44) hC dX6_slope_44 rfl ?_
            refine ev_if_eq (pc := 45) hC 52 dX6_slope_45 (by decide) (by omega) (fun c45 => ?_) (fun c45 => absurd c45 (by decide))
            refine ev_iconst (pc := 52) hC dX6_slope_52 ?_
            refine ev_iadd (pc := 53) hC ((c + 0 : Nat) : Int) (by omega) dX6_slope_53 ?_
            refine ev_puti (pc := 54) hC f98 fpX6_15 dX6_slope_54 (by decide) (by decide) (by decide) (by decide) (by decide) (rfl) (rfl) ?_
            refine ev_goto (pc := 57) hC 12 dX6_slope_57 (by decide) ?_
            exact ih12 (c + 0) w 0 g (mset X35 29 15 (zI ((c + 0 : Nat) : Int))) (by omega) (Or.inr ⟨rfl, q5.symm.trans (s3 g)⟩) ((mset_ne _ _ _ _ (by omega)).trans s2) (mset_eq _ _ _ _) (slK_st hK s6)
        · refine ev_aload_n (pc := 27) hC dX6_slope_27 rfl ?_
          refine ev_geti (pc := 28) hC ((c : Nat) : Int) f98 dX6_slope_28 (by decide) (by decide) (by decide) (by decide) (by decide)  (hst) ?_
          refine ev_if_ne (pc := 31) hC 60 dX6_slope_31 (by decide) (by omega) (fun c31 => ?_) (fun c31 => ?_)
          · obtain ⟨q1, q2, q3, q4, -, q6⟩ := id hGd
            have hw := q6 (by omega)
            refine ev_aload_n (pc := 60) hC dX6_slope_60 rfl ?_
            refine ev_iconst (pc := 61) hC dX6_slope_61 ?_
            refine ev_puti (pc := 62) hC f70 fpX6_13 dX6_slope_62 (by decide) (by decide) (by decide) (by decide) (by decide) (rfl) (rfl) ?_
            have hA5 : Rp (vM (mset Y 29 13 (zI 0))) A := hA.keepM ((mset_ne _ _ _ _ (by omega)).trans (hK.2 6 (by omega) (by omega))) ((mset_ne _ _ _ _ (by omega)).trans (hK.2 7 (by omega) (by omega))) (fun q hq => (mset_row (by omega)).trans (hK.1 _ (by omega) (by omega) (by omega) (by omega)))
            have hg5 : (mset Y 29 13 (zI 0)) 29 8 = zI ((0 : Nat) : Int) := ((mset_ne _ _ _ _ (by omega)).trans (hK.2 8 (by omega) (by omega))).trans hg
            refine ev_iload_n (pc := 65) hC dX6_slope_65 rfl ?_
            refine ev_if_ne (pc := 66) hC 78 dX6_slope_66 (by decide) (by omega) (fun c66 => ?_) (fun c66 => absurd c66 (by decide))
            refine ev_aload_n (pc := 78) hC dX6_slope_78 rfl ?_
            refine ev_iconst (pc := 79) hC dX6_slope_79 ?_
            refine ev_iconst (pc := 80) hC dX6_slope_80 ?_
            refine ev_callV (pc := 81) (as := [vi 1, vi 1]) (rest := []) hC gX6_slope_X6_passesAll mtX6_passesAll dX6_slope_81 (ru_X6_passesAll_k 1 (by omega)) (by decide) (by decide) (by decide) rfl (by rfl) (Nat.le_of_ble_eq_true rfl) rfl (fun v81 X81 h81 => ?_)
            obtain ⟨rfl, hS81⟩ := h81
            show Ev K 84 [some (.ref 29), some (vi 1), none] [] X81
            have hF81 := ks_fr hS81
            have hA81 := ks_repM hS81 hA5
            have hk1_81 := ks_rep hS81 hA5
            have hg81 := frT_gone hF81 hg5
            have hFr81 := frT_tr (frT_rf 1 (mset Y 29 13 (zI 0))) hF81 (by omega)
            have hn8_81 := hA81.n8
            refine ev_iconst (pc := 84) hC dX6_slope_84 ?_
            refine ev_istore_n (pc := 85) hC dX6_slope_85 (by rw [hKn]; decide) rfl ?_
            show Ev K 86 [some (.ref 29), some (vi 1), some (vi 0)] [] X81
            have lp86 : ∀ (fz : Nat) (k : Nat) (D : Sl) (e : Nat) (Z : Mem), c - k < fz → (k ≤ c) → (runS T n e (posT T k) k D = runS T n 100 0 0 A) → (n < posT T k + e) → (D 5 1 ≤ 999) → (Rp (vM Z) D) → (Z 29 8 = zI ((0 : Nat) : Int)) → (frT 1 (mset Y 29 13 (zI 0)) Z) → (Rp (vK Z 1) A) → Ev K 86 [some (.ref 29), none, some (vi ((k : Nat) : Int))] [] Z := by
              intro fz
              induction fz with
              | zero => intro k D e Z hfz; exact absurd hfz (Nat.not_lt_zero _)
              | succ fz ih86 =>
                intro k D e Z hfz hk hrun hfu hyD hDZ hgZ hFZ hKZ
                have hstZ : Z 29 15 = zI ((c : Nat) : Int) := (hFZ.2.1 15 (by omega) (by omega) (by omega) (by omega)).trans ((mset_ne _ _ _ _ (by omega)).trans hst)
                refine ev_iload_n (pc := 86) hC dX6_slope_86 rfl ?_
                refine ev_aload_n (pc := 87) hC dX6_slope_87 rfl ?_
                refine ev_geti (pc := 88) hC ((c : Nat) : Int) f98 dX6_slope_88 (by decide) (by decide) (by decide) (by decide) (by decide)  (hstZ) ?_
                refine ev_icmp_ge (pc := 91) hC 128 dX6_slope_91 (by decide) (by omega) (by omega) (fun c91 => ?_) (fun c91 => ?_)
                · refine ev_aload_n (pc := 128) hC dX6_slope_128 rfl ?_
                  refine ev_geti (pc := 129) hC ((c : Nat) : Int) f98 dX6_slope_129 (by decide) (by decide) (by decide) (by decide) (by decide)  (hstZ) ?_
                  exact ev_ireturn (pc := 132) hC hR dX6_slope_132 (sl_end2 (o := some D) hI hK hw (by rw [← hrun, show k = c by omega, runS_ge (by omega)]) hFZ hDZ hyD)
                · have hkc : k < c := by omega
                  obtain ⟨g1, g2, g3, g4⟩ := q4 k hkc
                  obtain ⟨g, rfl⟩ : ∃ g, e = g + 1 := ⟨e - 1, by have := g1.1; omega⟩
                  have hlZ : Z 37 k = zI ((T (posT T k) : Nat) : Int) := by rw [hFZ.1 37 (by omega) (by omega) (by omega) (by omega), mset_row (by omega)]; exact g2
                  have htZ : tldP Z T (posT T k) (4 * k) := tldP_same g4 (fun j _ _ => by rw [hFZ.1 39 (by omega) (by omega) (by omega) (by omega), mset_row (by omega)])
                  refine ev_aload_n (pc := 94) hC dX6_slope_94 rfl ?_
                  refine ev_iload_n (pc := 95) hC dX6_slope_95 rfl ?_
                  refine ev_callV (pc := 96) (as := [vi ((k : Nat) : Int)]) (rest := []) hC gX6_slope_X6_comes mtX6_comes dX6_slope_96 (ru_X6_comes hDZ hgZ k g1 hlZ htZ hyD (by omega)) (by decide) (by decide) (by decide) rfl (by rfl) (Nat.le_of_ble_eq_true rfl) rfl (fun v96 X96 h96 => ?_)
                  obtain ⟨rfl, hq96, hF96⟩ := h96
                  show Ev K 99 [some (.ref 29), none, some (vi ((k : Nat) : Int))] [vi (b2i ((doS T (posT T k) D).isSome))] X96
                  have hr96 := b2i_r (doS T (posT T k) D).isSome
                  have hg96 := frT_gone hF96 hgZ
                  have hk96 := hKZ.keepK hF96 (by omega)
                  have hFr96 := frT_tr hFZ hF96 (by omega)
                  refine ev_if_eq (pc := 99) hC 105 dX6_slope_99 (by decide) (by omega) (fun c99 => ?_) (fun c99 => ?_)
                  · have hD2 := isSome_no (b2i_0 c99)
                    refine ev_aload_n (pc := 105) hC dX6_slope_105 rfl ?_
                    refine ev_iconst (pc := 106) hC dX6_slope_106 ?_
                    refine ev_iconst (pc := 107) hC dX6_slope_107 ?_
                    refine ev_callV (pc := 108) (as := [vi 1, vi 0]) (rest := []) hC gX6_slope_X6_passesAll mtX6_passesAll dX6_slope_108 (ru_X6_passesAll_p 1 (by omega)) (by decide) (by decide) (by decide) rfl (by rfl) (Nat.le_of_ble_eq_true rfl) rfl (fun v108 X108 h108 => ?_)
                    obtain ⟨rfl, hS108⟩ := h108
                    show Ev K 111 [some (.ref 29), none, some (vi ((k : Nat) : Int))] [] X108
                    have hF108 := ps_fr hS108
                    have hA108 := ps_rep hS108 hk96
                    have hg108 := frT_gone hF108 hg96
                    have hk1_108 := hk96.keepK hF108 (by omega)
                    have hFr108 := frT_tr hFr96 hF108 (by omega)
                    have hn8_108 := hA108.n8
                    refine ev_sipush (pc := 111) hC dX6_slope_111 (by decide) ?_
                    refine ev_aload_n (pc := 114) hC dX6_slope_114 rfl ?_
                    refine ev_getr (pc := 115) hC 38 f34 dX6_slope_115 (by decide) (by decide) (by decide) (by decide) (by decide) ?_
                    refine ev_iload_n (pc := 118) hC dX6_slope_118 rfl ?_
                    refine ev_iald (pc := 119) hC k ((posT T k : Nat) : Int) (by decide) (by decide) (rfl) (by have := (show alen 38 = 48 from rfl); omega) ((by rw [hFr108.1 38 (by omega) (by omega) (by omega) (by omega), mset_row (by omega)]; exact g3)) dX6_slope_119 ?_
                    refine ev_isub (pc := 120) hC ((-2000) - ((posT T k : Nat) : Int)) (rfl) dX6_slope_120 ?_
                    exact ev_ireturn (pc := 121) hC hR dX6_slope_121 (sl_end2 (o := none) hI hK hw (by rw [← hrun, runS_none g1.1 hD2]) hFr108 hA108 hyA)
                  · obtain ⟨D2, hD2⟩ := isSome_ex (b2i_1 c99)
                    refine ev_goto (pc := 102) hC 122 dX6_slope_102 (by decide) ?_
                    refine ev_iinc (pc := 122) hC ((k + 1 : Nat) : Int) dX6_slope_122 rfl (by omega) (by rw [hKn]; decide) rfl ?_
                    show Ev K 125 [some (.ref 29), none, some (vi ((k + 1 : Nat) : Int))] [] X96
                    refine ev_goto (pc := 125) hC 86 dX6_slope_125 (by decide) ?_
                    exact ih86 (k + 1) D2 g X96 (by omega) (by omega) (by show runS T n g (posT T k + lenT (T (posT T k))) (k + 1) D2 = _; rw [← runS_some g1.1 hD2]; exact hrun) (by show n < posT T k + lenT (T (posT T k)) + g; have := g1.2.1; omega) (doS_year hyD hD2) (hq96 D2 hD2) hg96 hFr96 hk96
            refine ev_drop 1 ?_
            show Ev K 86 [some (.ref 29), none, some (vi 0)] [] X81
            exact lp86 _ 0 A 100 X81 (Nat.lt_succ_self _) (by omega) rfl (show n < 0 + 100 by omega) hyA hA81 hg81 hFr81 hk1_81
          · have hcn : c = 0 ∨ a < n := by omega
            obtain ⟨q1, q2, q3, q4, q5, -⟩ := id hGd
            obtain ⟨q5, q6⟩ := q5 hcn
            obtain ⟨g, rfl⟩ : ∃ g, f = g + 1 := ⟨f - 1, by omega⟩
            have hTY := slK_T hT hK
            refine ev_aload_n (pc := 34) hC dX6_slope_34 rfl ?_
            refine ev_callV (pc := 35) (as := []) (rest := []) hC gX6_slope_X6_statement mtX6_statement dX6_slope_35 (ru_X6_statement hTY hat hst (by omega) (by omega)) (by decide) (by decide) (by decide) rfl (by rfl) (Nat.le_of_ble_eq_true rfl) rfl (fun v35 X35 h35 => ?_)
            rcases h35 with ⟨rfl, s1, s2, s3, s4, s5, s6⟩ | ⟨w, rfl, s2, s3, s6⟩
            · show Ev K 38 [some (.ref 29), some (vi 1), none] [vi 1] X35
              refine ev_istore_n (pc := 38) hC dX6_slope_38 (by rw [hKn]; decide) rfl ?_
              show Ev K 39 [some (.ref 29), some (vi 1), none] [] X35
              refine ev_aload_n (pc := 39) hC dX6_slope_39 rfl ?_
              refine ev_dup (pc := 40) hC rfl dX6_slope_40 ?_
              refine ev_geti (pc := 41) hC ((c : Nat) : Int) f98 dX6_slope_41 (by decide) (by decide) (by decide) (by decide) (by decide)  (((s6.2.1 15 (by omega)).trans hst)) ?_
              refine ev_iload_n (pc := 44) hC dX6_slope_44 rfl ?_
              refine ev_if_eq (pc := 45) hC 52 dX6_slope_45 (by decide) (by omega) (fun c45 => absurd c45 (by decide)) (fun c45 => ?_)
              refine ev_iconst (pc := 48) hC dX6_slope_48 ?_
              refine ev_goto (pc := 49) hC 53 dX6_slope_49 (by decide) ?_
              refine ev_iadd (pc := 53) hC ((c + 1 : Nat) : Int) (by omega) dX6_slope_53 ?_
              refine ev_puti (pc := 54) hC f98 fpX6_15 dX6_slope_54 (by decide) (by decide) (by decide) (by decide) (by decide) (rfl) (rfl) ?_
              refine ev_goto (pc := 57) hC 12 dX6_slope_57 (by decide) ?_
              exact ih12 (c + 1) (a + lenT (T a)) 1 g (mset X35 29 15 (zI ((c + 1 : Nat) : Int))) (by omega) (Or.inl ⟨rfl, slG_step hGd hcn s1 s3 s4 s5 s6⟩) ((mset_ne _ _ _ _ (by omega)).trans s2) (mset_eq _ _ _ _) (slK_st hK s6)
            · show Ev K 38 [some (.ref 29), some (vi 1), none] [vi 0] X35
              refine ev_istore_n (pc := 38) hC dX6_slope_38 (by rw [hKn]; decide) rfl ?_
              show Ev K 39 [some (.ref 29), some (vi 0), none] [] X35
              refine ev_aload_n (pc := 39) hC dX6_slope_39 rfl ?_
              refine ev_dup (pc := 40) hC rfl dX6_slope_40 ?_
              refine ev_geti (pc := 41) hC ((c : Nat) : Int) f98 dX6_slope_41 (by decide) (by decide) (by decide) (by decide) (by decide)  (((s6.2.1 15 (by omega)).trans hst)) ?_
              refine ev_iload_n (pc := 44) hC dX6_slope_44 rfl ?_
              refine ev_if_eq (pc := 45) hC 52 dX6_slope_45 (by decide) (by omega) (fun c45 => ?_) (fun c45 => absurd c45 (by decide))
              refine ev_iconst (pc := 52) hC dX6_slope_52 ?_
              refine ev_iadd (pc := 53) hC ((c + 0 : Nat) : Int) (by omega) dX6_slope_53 ?_
              refine ev_puti (pc := 54) hC f98 fpX6_15 dX6_slope_54 (by decide) (by decide) (by decide) (by decide) (by decide) (rfl) (rfl) ?_
              refine ev_goto (pc := 57) hC 12 dX6_slope_57 (by decide) ?_
              exact ih12 (c + 0) w 0 g (mset X35 29 15 (zI ((c + 0 : Nat) : Int))) (by omega) (Or.inr ⟨rfl, q5.symm.trans (s3 g)⟩) ((mset_ne _ _ _ _ (by omega)).trans s2) (mset_eq _ _ _ _) (slK_st hK s6)
  exact lp12 _ 0 0 1 100 (mset (mset X 29 14 (zI 0)) 29 15 (zI 0)) (Nat.lt_succ_self _) (Or.inl ⟨rfl, slG_0 hn96⟩) ((mset_ne _ _ _ _ (by omega)).trans (mset_eq _ _ _ _)) (mset_eq _ _ _ _) slK_0
