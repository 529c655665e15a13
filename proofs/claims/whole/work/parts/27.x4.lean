theorem mtX4_lengthOf : MT yX4_lengthOf wsX4_lengthOf cX4_lengthOf 1 (some .int) 1 := ⟨⟨_, rfl⟩, by decide, by decide, by decide +kernel⟩
set_option maxRecDepth 100000 in
set_option maxHeartbeats 4000000 in
theorem ru_X4_lengthOf {X : Mem} (c : Nat) (hc : c ≤ 255) : Ru yX4_lengthOf wsX4_lengthOf 0 0 [vi ((c : Nat) : Int)] X (fun v X' => v = some (vi (lenT c)) ∧ X = X') := by
  refine ru_of (w2 := _) rfl (by decide) [some (vi ((c : Nat) : Int))] (fun _ => rfl) (fun _ => Nat.le_of_ble_eq_true rfl) ?_
  intro K hKn hC hR
  have hlc := lenT_cases c
  refine ev_iload_n (pc := 0) hC dX4_lengthOf_0 rfl ?_
  rcases (show ((c : Nat) : Int) = 97 ∨ ((c : Nat) : Int) = 98 ∨ ((c : Nat) : Int) = 104 ∨ ((c : Nat) : Int) = 112 ∨ ((c : Nat) : Int) = 121 ∨ (¬ ((c : Nat) : Int) = 97 ∧ ¬ ((c : Nat) : Int) = 98 ∧ ¬ ((c : Nat) : Int) = 104 ∧ ¬ ((c : Nat) : Int) = 112 ∧ ¬ ((c : Nat) : Int) = 121) by omega) with c1 | c1 | c1 | c1 | c1 | c1
  · refine ev_lookup (pc := 1) hC 58 dX4_lengthOf_1 (by decide) (by omega) (by rw [c1]) (by decide) ?_
    refine ev_iconst (pc := 58) hC dX4_lengthOf_58 ?_
    exact ev_ireturn (pc := 59) hC hR dX4_lengthOf_59 (⟨rv (by omega), rfl⟩)
  · refine ev_lookup (pc := 1) hC 60 dX4_lengthOf_1 (by decide) (by omega) (by rw [c1]) (by decide) ?_
    refine ev_iconst (pc := 60) hC dX4_lengthOf_60 ?_
    exact ev_ireturn (pc := 61) hC hR dX4_lengthOf_61 (⟨rv (by omega), rfl⟩)
  · refine ev_lookup (pc := 1) hC 55 dX4_lengthOf_1 (by decide) (by omega) (by rw [c1]) (by decide) ?_
    refine ev_bipush (pc := 55) hC dX4_lengthOf_55 (by decide) ?_
    exact ev_ireturn (pc := 57) hC hR dX4_lengthOf_57 (⟨rv (by omega), rfl⟩)
  · refine ev_lookup (pc := 1) hC 52 dX4_lengthOf_1 (by decide) (by omega) (by rw [c1]) (by decide) ?_
    refine ev_bipush (pc := 52) hC dX4_lengthOf_52 (by decide) ?_
    exact ev_ireturn (pc := 54) hC hR dX4_lengthOf_54 (⟨rv (by omega), rfl⟩)
  · refine ev_lookup (pc := 1) hC 60 dX4_lengthOf_1 (by decide) (by omega) (by rw [c1]) (by decide) ?_
    refine ev_iconst (pc := 60) hC dX4_lengthOf_60 ?_
    exact ev_ireturn (pc := 61) hC hR dX4_lengthOf_61 (⟨rv (by omega), rfl⟩)
  · refine ev_lookup (pc := 1) hC (off := 61) 62 dX4_lengthOf_1 (by decide) (by omega) (by simp [Op.lookupswitch.offset, show ¬ (97 : Int) = ((c : Nat) : Int) by omega, show ¬ (98 : Int) = ((c : Nat) : Int) by omega, show ¬ (104 : Int) = ((c : Nat) : Int) by omega, show ¬ (112 : Int) = ((c : Nat) : Int) by omega, show ¬ (121 : Int) = ((c : Nat) : Int) by omega]) (by decide) ?_
    refine ev_iconst (pc := 62) hC dX4_lengthOf_62 ?_
    exact ev_ireturn (pc := 63) hC hR dX4_lengthOf_63 (⟨rv (by omega), rfl⟩)
theorem mtX4_kindOf : MT yX4_kindOf wsX4_kindOf cX4_kindOf 1 (some .int) 1 := ⟨⟨_, rfl⟩, by decide, by decide, by decide +kernel⟩
set_option maxRecDepth 100000 in
set_option maxHeartbeats 4000000 in
theorem ru_X4_kindOf {X : Mem} (c : Nat) (hc : c ≤ 255) (z : Int) (hz : z = kindT c) : Ru yX4_kindOf wsX4_kindOf 0 0 [vi ((c : Nat) : Int)] X (fun v X' => v = some (vi z) ∧ X = X') := by
  refine ru_of (w2 := _) rfl (by decide) [some (vi ((c : Nat) : Int))] (fun _ => rfl) (fun _ => Nat.le_of_ble_eq_true rfl) ?_
  intro K hKn hC hR
  have hkc := kindT_cases c
  refine ev_iload_n (pc := 0) hC dX4_kindOf_0 rfl ?_
  rcases (show ((c : Nat) : Int) = 99 ∨ ((c : Nat) : Int) = 100 ∨ ((c : Nat) : Int) = 101 ∨ ((c : Nat) : Int) = 102 ∨ ((c : Nat) : Int) = 103 ∨ ((c : Nat) : Int) = 104 ∨ ((c : Nat) : Int) = 105 ∨ ((c : Nat) : Int) = 106 ∨ ((c : Nat) : Int) = 107 ∨ ((c : Nat) : Int) = 108 ∨ ((c : Nat) : Int) = 109 ∨ ((c : Nat) : Int) = 110 ∨ ((c : Nat) : Int) = 111 ∨ ((c : Nat) : Int) = 112 ∨ ((c : Nat) : Int) = 113 ∨ ((c : Nat) : Int) = 114 ∨ ((c : Nat) : Int) = 115 ∨ ((c : Nat) : Int) < 99 ∨ 115 < ((c : Nat) : Int) by omega) with c1 | c1 | c1 | c1 | c1 | c1 | c1 | c1 | c1 | c1 | c1 | c1 | c1 | c1 | c1 | c1 | c1 | c1
  · refine ev_tabin (pc := 1) hC 88 dX4_kindOf_1 (by omega) (by omega) (by rw [c1]; rfl) (by decide) ?_
    refine ev_iconst (pc := 88) hC dX4_kindOf_88 ?_
    exact ev_ireturn (pc := 89) hC hR dX4_kindOf_89 (⟨rv (by omega), rfl⟩)
  · refine ev_tabin (pc := 1) hC 94 dX4_kindOf_1 (by omega) (by omega) (by rw [c1]; rfl) (by decide) ?_
    refine ev_iconst (pc := 94) hC dX4_kindOf_94 ?_
    exact ev_ireturn (pc := 95) hC hR dX4_kindOf_95 (⟨rv (by omega), rfl⟩)
  · refine ev_tabin (pc := 1) hC 96 dX4_kindOf_1 (by omega) (by omega) (by rw [c1]; rfl) (by decide) ?_
    refine ev_iconst (pc := 96) hC dX4_kindOf_96 ?_
    exact ev_ireturn (pc := 97) hC hR dX4_kindOf_97 (⟨rv (by omega), rfl⟩)
  · refine ev_tabin (pc := 1) hC 86 dX4_kindOf_1 (by omega) (by omega) (by rw [c1]; rfl) (by decide) ?_
    refine ev_iconst (pc := 86) hC dX4_kindOf_86 ?_
    exact ev_ireturn (pc := 87) hC hR dX4_kindOf_87 (⟨rv (by omega), rfl⟩)
  · refine ev_tabin (pc := 1) hC 84 dX4_kindOf_1 (by omega) (by omega) (by rw [c1]; rfl) (by decide) ?_
    refine ev_iconst (pc := 84) hC dX4_kindOf_84 ?_
    exact ev_ireturn (pc := 85) hC hR dX4_kindOf_85 (⟨rv (by omega), rfl⟩)
  · refine ev_tabin (pc := 1) hC 96 dX4_kindOf_1 (by omega) (by omega) (by rw [c1]; rfl) (by decide) ?_
    refine ev_iconst (pc := 96) hC dX4_kindOf_96 ?_
    exact ev_ireturn (pc := 97) hC hR dX4_kindOf_97 (⟨rv (by omega), rfl⟩)
  · refine ev_tabin (pc := 1) hC 96 dX4_kindOf_1 (by omega) (by omega) (by rw [c1]; rfl) (by decide) ?_
    refine ev_iconst (pc := 96) hC dX4_kindOf_96 ?_
    exact ev_ireturn (pc := 97) hC hR dX4_kindOf_97 (⟨rv (by omega), rfl⟩)
  · refine ev_tabin (pc := 1) hC 96 dX4_kindOf_1 (by omega) (by omega) (by rw [c1]; rfl) (by decide) ?_
    refine ev_iconst (pc := 96) hC dX4_kindOf_96 ?_
    exact ev_ireturn (pc := 97) hC hR dX4_kindOf_97 (⟨rv (by omega), rfl⟩)
  · refine ev_tabin (pc := 1) hC 96 dX4_kindOf_1 (by omega) (by omega) (by rw [c1]; rfl) (by decide) ?_
    refine ev_iconst (pc := 96) hC dX4_kindOf_96 ?_
    exact ev_ireturn (pc := 97) hC hR dX4_kindOf_97 (⟨rv (by omega), rfl⟩)
  · refine ev_tabin (pc := 1) hC 96 dX4_kindOf_1 (by omega) (by omega) (by rw [c1]; rfl) (by decide) ?_
    refine ev_iconst (pc := 96) hC dX4_kindOf_96 ?_
    exact ev_ireturn (pc := 97) hC hR dX4_kindOf_97 (⟨rv (by omega), rfl⟩)
  · refine ev_tabin (pc := 1) hC 96 dX4_kindOf_1 (by omega) (by omega) (by rw [c1]; rfl) (by decide) ?_
    refine ev_iconst (pc := 96) hC dX4_kindOf_96 ?_
    exact ev_ireturn (pc := 97) hC hR dX4_kindOf_97 (⟨rv (by omega), rfl⟩)
  · refine ev_tabin (pc := 1) hC 96 dX4_kindOf_1 (by omega) (by omega) (by rw [c1]; rfl) (by decide) ?_
    refine ev_iconst (pc := 96) hC dX4_kindOf_96 ?_
    exact ev_ireturn (pc := 97) hC hR dX4_kindOf_97 (⟨rv (by omega), rfl⟩)
  · refine ev_tabin (pc := 1) hC 92 dX4_kindOf_1 (by omega) (by omega) (by rw [c1]; rfl) (by decide) ?_
    refine ev_iconst (pc := 92) hC dX4_kindOf_92 ?_
    exact ev_ireturn (pc := 93) hC hR dX4_kindOf_93 (⟨rv (by omega), rfl⟩)
  · refine ev_tabin (pc := 1) hC 96 dX4_kindOf_1 (by omega) (by omega) (by rw [c1]; rfl) (by decide) ?_
    refine ev_iconst (pc := 96) hC dX4_kindOf_96 ?_
    exact ev_ireturn (pc := 97) hC hR dX4_kindOf_97 (⟨rv (by omega), rfl⟩)
  · refine ev_tabin (pc := 1) hC 96 dX4_kindOf_1 (by omega) (by omega) (by rw [c1]; rfl) (by decide) ?_
    refine ev_iconst (pc := 96) hC dX4_kindOf_96 ?_
    exact ev_ireturn (pc := 97) hC hR dX4_kindOf_97 (⟨rv (by omega), rfl⟩)
  · refine ev_tabin (pc := 1) hC 96 dX4_kindOf_1 (by omega) (by omega) (by rw [c1]; rfl) (by decide) ?_
    refine ev_iconst (pc := 96) hC dX4_kindOf_96 ?_
    exact ev_ireturn (pc := 97) hC hR dX4_kindOf_97 (⟨rv (by omega), rfl⟩)
  · refine ev_tabin (pc := 1) hC 90 dX4_kindOf_1 (by omega) (by omega) (by rw [c1]; rfl) (by decide) ?_
    refine ev_iconst (pc := 90) hC dX4_kindOf_90 ?_
    exact ev_ireturn (pc := 91) hC hR dX4_kindOf_91 (⟨rv (by omega), rfl⟩)
  · refine ev_tabout (pc := 1) hC 96 dX4_kindOf_1 (by omega) (by omega) (by decide) ?_
    refine ev_iconst (pc := 96) hC dX4_kindOf_96 ?_
    exact ev_ireturn (pc := 97) hC hR dX4_kindOf_97 (⟨rv (by omega), rfl⟩)
theorem mtX4_fits : MT yX4_fits wsX4_fits cX4_fits 3 (some .boolean) 3 := ⟨⟨_, rfl⟩, by decide, by decide, by decide +kernel⟩
set_option maxRecDepth 100000 in
set_option maxHeartbeats 4000000 in
theorem ru_X4_fits {X : Mem} (h i c : Nat) (hh : h ≤ 255) (hi : 1 ≤ i ∧ i ≤ 10) (hc : c ≤ 255) : Ru yX4_fits wsX4_fits 1 20 [vi ((h : Nat) : Int), vi ((i : Nat) : Int), vi ((c : Nat) : Int)] X (fun v X' => v = some (vi (b2i (fitT h i c))) ∧ X = X') := by
  refine ru_of (w2 := _) rfl (by decide) [some (vi ((h : Nat) : Int)), some (vi ((i : Nat) : Int)), some (vi ((c : Nat) : Int))] (fun _ => rfl) (fun _ => Nat.le_of_ble_eq_true rfl) ?_
  intro K hKn hC hR
  refine ev_iload_n (pc := 0) hC dX4_fits_0 rfl ?_
  refine ev_iload_n (pc := 1) hC dX4_fits_1 rfl ?_
  refine ev_callS (pc := 2) (as := [vi ((h : Nat) : Int)]) (rest := [vi ((i : Nat) : Int)]) hC gX4_fits_X4_lengthOf mtX4_lengthOf dX4_fits_2 (ru_X4_lengthOf h (by omega)) (by decide) (by rfl) (Nat.le_of_ble_eq_true rfl) rfl (fun v2 X2 h2 => ?_)
  obtain ⟨rfl, rfl⟩ := h2
  show Ev K 5 [some (vi ((h : Nat) : Int)), some (vi ((i : Nat) : Int)), some (vi ((c : Nat) : Int))] [vi ((lenT h : Nat) : Int), vi ((i : Nat) : Int)] X
  have hlc2 := lenT_cases h
  refine ev_iconst (pc := 5) hC dX4_fits_5 ?_
  refine ev_isub (pc := 6) hC (((lenT h : Nat) : Int) - 1) (rfl) dX4_fits_6 ?_
  refine ev_icmp_ne (pc := 7) hC 22 dX4_fits_7 (by decide) (by omega) (by omega) (fun c7 => ?_) (fun c7 => ?_)
  · refine ev_iload_n (pc := 22) hC dX4_fits_22 rfl ?_
    refine ev_bipush (pc := 23) hC dX4_fits_23 (by decide) ?_
    refine ev_icmp_ne (pc := 25) hC 46 dX4_fits_25 (by decide) (by omega) (by omega) (fun c25 => ?_) (fun c25 => ?_)
    · refine ev_iload_n (pc := 46) hC dX4_fits_46 rfl ?_
      refine ev_bipush (pc := 47) hC dX4_fits_47 (by decide) ?_
      refine ev_icmp_lt (pc := 49) hC 62 dX4_fits_49 (by decide) (by omega) (by omega) (fun c49 => ?_) (fun c49 => ?_)
      · refine ev_iconst (pc := 62) hC dX4_fits_62 ?_
        exact ev_zreturn (pc := 63) hC hR dX4_fits_63 (by decide) (⟨rv (b2iF (by unfold fitT; rw [if_neg (by omega), if_neg (by omega)]; exact decide_eq_false (by omega))), rfl⟩)
      · refine ev_iload_n (pc := 52) hC dX4_fits_52 rfl ?_
        refine ev_bipush (pc := 53) hC dX4_fits_53 (by decide) ?_
        refine ev_icmp_gt (pc := 55) hC 62 dX4_fits_55 (by decide) (by omega) (by omega) (fun c55 => ?_) (fun c55 => ?_)
        · refine ev_iconst (pc := 62) hC dX4_fits_62 ?_
          exact ev_zreturn (pc := 63) hC hR dX4_fits_63 (by decide) (⟨rv (b2iF (by unfold fitT; rw [if_neg (by omega), if_neg (by omega)]; exact decide_eq_false (by omega))), rfl⟩)
        · refine ev_iconst (pc := 58) hC dX4_fits_58 ?_
          refine ev_goto (pc := 59) hC 63 dX4_fits_59 (by decide) ?_
          exact ev_zreturn (pc := 63) hC hR dX4_fits_63 (by decide) (⟨rv (b2iT (by unfold fitT; rw [if_neg (by omega), if_neg (by omega)]; exact decide_eq_true (by omega))), rfl⟩)
    · refine ev_iload_n (pc := 28) hC dX4_fits_28 rfl ?_
      refine ev_iconst (pc := 29) hC dX4_fits_29 ?_
      refine ev_icmp_ne (pc := 30) hC 46 dX4_fits_30 (by decide) (by omega) (by omega) (fun c30 => ?_) (fun c30 => ?_)
      · refine ev_iload_n (pc := 46) hC dX4_fits_46 rfl ?_
        refine ev_bipush (pc := 47) hC dX4_fits_47 (by decide) ?_
        refine ev_icmp_lt (pc := 49) hC 62 dX4_fits_49 (by decide) (by omega) (by omega) (fun c49 => ?_) (fun c49 => ?_)
        · refine ev_iconst (pc := 62) hC dX4_fits_62 ?_
          exact ev_zreturn (pc := 63) hC hR dX4_fits_63 (by decide) (⟨rv (b2iF (by unfold fitT; rw [if_neg (by omega), if_neg (by omega)]; exact decide_eq_false (by omega))), rfl⟩)
        · refine ev_iload_n (pc := 52) hC dX4_fits_52 rfl ?_
          refine ev_bipush (pc := 53) hC dX4_fits_53 (by decide) ?_
          refine ev_icmp_gt (pc := 55) hC 62 dX4_fits_55 (by decide) (by omega) (by omega) (fun c55 => ?_) (fun c55 => ?_)
          · refine ev_iconst (pc := 62) hC dX4_fits_62 ?_
            exact ev_zreturn (pc := 63) hC hR dX4_fits_63 (by decide) (⟨rv (b2iF (by unfold fitT; rw [if_neg (by omega), if_neg (by omega)]; exact decide_eq_false (by omega))), rfl⟩)
          · refine ev_iconst (pc := 58) hC dX4_fits_58 ?_
            refine ev_goto (pc := 59) hC 63 dX4_fits_59 (by decide) ?_
            exact ev_zreturn (pc := 63) hC hR dX4_fits_63 (by decide) (⟨rv (b2iT (by unfold fitT; rw [if_neg (by omega), if_neg (by omega)]; exact decide_eq_true (by omega))), rfl⟩)
      · refine ev_iload_n (pc := 33) hC dX4_fits_33 rfl ?_
        refine ev_callS (pc := 34) (as := [vi ((c : Nat) : Int)]) (rest := []) hC gX4_fits_X4_kindOf mtX4_kindOf dX4_fits_34 (ru_X4_kindOf c (by omega) _ rfl) (by decide) (by rfl) (Nat.le_of_ble_eq_true rfl) rfl (fun v34 X34 h34 => ?_)
        obtain ⟨rfl, rfl⟩ := h34
        show Ev K 37 [some (vi ((h : Nat) : Int)), some (vi ((i : Nat) : Int)), some (vi ((c : Nat) : Int))] [vi (kindT c)] X
        have hkc34 := kindT_cases c
        refine ev_if_lt (pc := 37) hC 44 dX4_fits_37 (by decide) (by omega) (fun c37 => ?_) (fun c37 => ?_)
        · refine ev_iconst (pc := 44) hC dX4_fits_44 ?_
          exact ev_zreturn (pc := 45) hC hR dX4_fits_45 (by decide) (⟨rv (b2iF (by unfold fitT; rw [if_neg (by omega), if_pos (by omega)]; exact decide_eq_false (by omega))), rfl⟩)
        · refine ev_iconst (pc := 40) hC dX4_fits_40 ?_
          refine ev_goto (pc := 41) hC 45 dX4_fits_41 (by decide) ?_
          exact ev_zreturn (pc := 45) hC hR dX4_fits_45 (by decide) (⟨rv (b2iT (by unfold fitT; rw [if_neg (by omega), if_pos (by omega)]; exact decide_eq_true (by omega))), rfl⟩)
  · refine ev_iload_n (pc := 10) hC dX4_fits_10 rfl ?_
    refine ev_bipush (pc := 11) hC dX4_fits_11 (by decide) ?_
    refine ev_icmp_ne (pc := 13) hC 20 dX4_fits_13 (by decide) (by omega) (by omega) (fun c13 => ?_) (fun c13 => ?_)
    · refine ev_iconst (pc := 20) hC dX4_fits_20 ?_
      exact ev_zreturn (pc := 21) hC hR dX4_fits_21 (by decide) (⟨rv (b2iF (by unfold fitT; rw [if_pos (by omega)]; exact decide_eq_false (by omega))), rfl⟩)
    · refine ev_iconst (pc := 16) hC dX4_fits_16 ?_
      refine ev_goto (pc := 17) hC 21 dX4_fits_17 (by decide) ?_
      exact ev_zreturn (pc := 21) hC hR dX4_fits_21 (by decide) (⟨rv (b2iT (by unfold fitT; rw [if_pos (by omega)]; exact decide_eq_true (by omega))), rfl⟩)
theorem mtX4_letterAt : MT yX4_letterAt wsX4_letterAt cX4_letterAt 2 (some .int) 1 := ⟨⟨_, rfl⟩, by decide, by decide, by decide +kernel⟩
set_option maxRecDepth 100000 in
set_option maxHeartbeats 4000000 in
theorem ru_X4_letterAt {X : Mem} {T : Nat → Nat} {n : Nat} (hT : Txt X T n) (a : Nat) (ha : a < n) : Ru yX4_letterAt wsX4_letterAt 0 0 [.ref 6, vi ((a : Nat) : Int)] X (fun v X' => v = some (vi (T a)) ∧ X = X') := by
  refine ru_of (w2 := _) rfl (by decide) [some (.ref 6), some (vi ((a : Nat) : Int))] (fun _ => rfl) (fun _ => Nat.le_of_ble_eq_true rfl) ?_
  intro K hKn hC hR
  have wX4 : ∀ w ∈ u_ws RX4 TX4 4, w ∈ wsX4_letterAt := by decide +kernel
  have f15 : Fl K RX4 15 4 3 := fl_of hC RX4 TX4 4 rfl (by decide) wX4 (show Cond.fieldLink RX4 15 "PicnicOfSomebody$Text" "size" "I" ∈ _ by decide +kernel)
  have f9 : Fl K RX4 9 4 0 := fl_of hC RX4 TX4 4 rfl (by decide) wX4 (show Cond.fieldLink RX4 9 "PicnicOfSomebody$Text" "letters" "[I" ∈ _ by decide +kernel)
  have hn96 := hT.2.1
  refine ev_iload_n (pc := 0) hC dX4_letterAt_0 rfl ?_
  refine ev_if_lt (pc := 1) hC 21 dX4_letterAt_1 (by decide) (by omega) (fun c1 => ?_) (fun c1 => ?_)
  · exact absurd c1 (by omega)
  · refine ev_iload_n (pc := 4) hC dX4_letterAt_4 rfl ?_
    refine ev_aload_n (pc := 5) hC dX4_letterAt_5 rfl ?_
    refine ev_geti (pc := 6) hC ((n : Nat) : Int) f15 dX4_letterAt_6 (by decide) (by decide) (by decide) (by decide) (by decide)  (hT.1) ?_
    refine ev_icmp_ge (pc := 9) hC 21 dX4_letterAt_9 (by decide) (by omega) (by omega) (fun c9 => ?_) (fun c9 => ?_)
    · exact absurd c9 (by omega)
    · refine ev_aload_n (pc := 12) hC dX4_letterAt_12 rfl ?_
      refine ev_getr (pc := 13) hC 9 f9 dX4_letterAt_13 (by decide) (by decide) (by decide) (by decide) (by decide) ?_
      refine ev_iload_n (pc := 16) hC dX4_letterAt_16 rfl ?_
      have hT17 := (hT.2.2 a (by omega)).2
      refine ev_iald (pc := 17) hC a ((T a : Nat) : Int) (by decide) (by decide) (rfl) (by have := (show alen 9 = 96 from rfl); omega) ((hT.2.2 a (by omega)).1) dX4_letterAt_17 ?_
      refine ev_goto (pc := 18) hC 23 dX4_letterAt_18 (by decide) ?_
      exact ev_ireturn (pc := 23) hC hR dX4_letterAt_23 (⟨rfl, rfl⟩)
theorem mtX4_digit : MT yX4_digit wsX4_digit cX4_digit 2 (some .int) 1 := ⟨⟨_, rfl⟩, by decide, by decide, by decide +kernel⟩
set_option maxRecDepth 100000 in
set_option maxHeartbeats 4000000 in
theorem ru_X4_digit {X : Mem} {T : Nat → Nat} {n : Nat} (hT : Txt X T n) (a : Nat) (ha : a < n) (hd : 48 ≤ T a ∧ T a ≤ 57) : Ru yX4_digit wsX4_digit 1 21 [.ref 6, vi ((a : Nat) : Int)] X (fun v X' => v = some (vi (dg T a)) ∧ X = X') := by
  refine ru_of (w2 := _) rfl (by decide) [some (.ref 6), some (vi ((a : Nat) : Int))] (fun _ => rfl) (fun _ => Nat.le_of_ble_eq_true rfl) ?_
  intro K hKn hC hR
  have hn96 := hT.2.1
  refine ev_aload_n (pc := 0) hC dX4_digit_0 rfl ?_
  refine ev_iload_n (pc := 1) hC dX4_digit_1 rfl ?_
  refine ev_callV (pc := 2) (as := [vi ((a : Nat) : Int)]) (rest := []) hC gX4_digit_X4_letterAt mtX4_letterAt dX4_digit_2 (ru_X4_letterAt hT a (by omega)) (by decide) (by decide) (by decide) rfl (by rfl) (Nat.le_of_ble_eq_true rfl) rfl (fun v2 X2 h2 => ?_)
  obtain ⟨rfl, rfl⟩ := h2
  show Ev K 5 [some (.ref 6), some (vi ((a : Nat) : Int))] [vi ((T a : Nat) : Int)] X
  have hTl2 := (hT.2.2 a (by omega)).2
  refine ev_bipush (pc := 5) hC dX4_digit_5 (by decide) ?_
  refine ev_isub (pc := 7) hC ((dg T a : Nat) : Int) (by unfold dg; omega) dX4_digit_7 ?_
  exact ev_ireturn (pc := 8) hC hR dX4_digit_8 (⟨rfl, rfl⟩)
theorem mtX4_twoDigits : MT yX4_twoDigits wsX4_twoDigits cX4_twoDigits 2 (some .int) 1 := ⟨⟨_, rfl⟩, by decide, by decide, by decide +kernel⟩
set_option maxRecDepth 100000 in
set_option maxHeartbeats 4000000 in
theorem ru_X4_twoDigits {X : Mem} {T : Nat → Nat} {n : Nat} (hT : Txt X T n) (a : Nat) (ha : a + 1 < n) (hd : 48 ≤ T a ∧ T a ≤ 57) (hd1 : 48 ≤ T (a + 1) ∧ T (a + 1) ≤ 57) : Ru yX4_twoDigits wsX4_twoDigits 2 42 [.ref 6, vi ((a : Nat) : Int)] X (fun v X' => v = some (vi (dd T a)) ∧ X = X') := by
  refine ru_of (w2 := _) rfl (by decide) [some (.ref 6), some (vi ((a : Nat) : Int))] (fun _ => rfl) (fun _ => Nat.le_of_ble_eq_true rfl) ?_
  intro K hKn hC hR
  have hn96 := hT.2.1
  refine ev_bipush (pc := 0) hC dX4_twoDigits_0 (by decide) ?_
  refine ev_aload_n (pc := 2) hC dX4_twoDigits_2 rfl ?_
  refine ev_iload_n (pc := 3) hC dX4_twoDigits_3 rfl ?_
  refine ev_callV (pc := 4) (as := [vi ((a : Nat) : Int)]) (rest := [vi 10]) hC gX4_twoDigits_X4_digit mtX4_digit dX4_twoDigits_4 (ru_X4_digit hT a (by omega) (by omega)) (by decide) (by decide) (by decide) rfl (by rfl) (Nat.le_of_ble_eq_true rfl) rfl (fun v4 X4 h4 => ?_)
  obtain ⟨rfl, rfl⟩ := h4
  show Ev K 7 [some (.ref 6), some (vi ((a : Nat) : Int))] [vi ((dg T a : Nat) : Int), vi 10] X
  have hdg4 := dg_le (T := T) (a := a) (by omega)
  refine ev_imul (pc := 7) hC ((10 * (dg T a) : Nat) : Int) (by omega) dX4_twoDigits_7 ?_
  refine ev_aload_n (pc := 8) hC dX4_twoDigits_8 rfl ?_
  refine ev_iload_n (pc := 9) hC dX4_twoDigits_9 rfl ?_
  refine ev_iconst (pc := 10) hC dX4_twoDigits_10 ?_
  refine ev_iadd (pc := 11) hC ((a + 1 : Nat) : Int) (by omega) dX4_twoDigits_11 ?_
  refine ev_callV (pc := 12) (as := [vi ((a + 1 : Nat) : Int)]) (rest := [vi ((10 * (dg T a) : Nat) : Int)]) hC gX4_twoDigits_X4_digit mtX4_digit dX4_twoDigits_12 (ru_X4_digit hT (a + 1) (by omega) (by omega)) (by decide) (by decide) (by decide) rfl (by rfl) (Nat.le_of_ble_eq_true rfl) rfl (fun v12 X12 h12 => ?_)
  obtain ⟨rfl, rfl⟩ := h12
  show Ev K 15 [some (.ref 6), some (vi ((a : Nat) : Int))] [vi ((dg T (a + 1) : Nat) : Int), vi ((10 * (dg T a) : Nat) : Int)] X
  have hdg12 := dg_le (T := T) (a := a + 1) (by omega)
  refine ev_iadd (pc := 15) hC (((10 * (dg T a)) + (dg T (a + 1)) : Nat) : Int) (by omega) dX4_twoDigits_15 ?_
  exact ev_ireturn (pc := 16) hC hR dX4_twoDigits_16 (⟨rfl, rfl⟩)
theorem mtX4_personComes : MT yX4_personComes wsX4_personComes cX4_personComes 5 (some .boolean) 4 := ⟨⟨_, rfl⟩, by decide, by decide, by decide +kernel⟩
set_option maxRecDepth 100000 in
set_option maxHeartbeats 4000000 in
theorem ru_X4_personComes {X : Mem} {A : Sl} (hA : Rp (vC X 3) A) (kd fg ce bl : Nat) (h1 : kd ≤ 5) (h2 : fg ≤ 9) (h3 : ce ≤ 99) (h4 : bl ≤ 9) : Ru yX4_personComes wsX4_personComes 2 44 [.ref 6, vi ((kd : Nat) : Int), vi ((fg : Nat) : Int), vi ((ce : Nat) : Int), vi ((bl : Nat) : Int)] X (fun v X' => v = some (vi (b2i (decide (A 5 0 < 8 ∧ ce < 25)))) ∧ (A 5 0 < 8 ∧ ce < 25 → Rp (vC X' 3) (addP A kd fg ce bl)) ∧ frS 3 X X') := by
  refine ru_of (w2 := _) rfl (by decide) [some (.ref 6), some (vi ((kd : Nat) : Int)), some (vi ((fg : Nat) : Int)), some (vi ((ce : Nat) : Int)), some (vi ((bl : Nat) : Int))] (fun _ => rfl) (fun _ => Nat.le_of_ble_eq_true rfl) ?_
  intro K hKn hC hR
  have wX4 : ∀ w ∈ u_ws RX4 TX4 4, w ∈ wsX4_personComes := by decide +kernel
  have f23 : Fl K RX4 23 4 2 := fl_of hC RX4 TX4 4 rfl (by decide) wX4 (show Cond.fieldLink RX4 23 "PicnicOfSomebody$Text" "draft" "LPicnicOfSomebody$Slope;" ∈ _ by decide +kernel)
  have hn8 := hA.n8
  refine ev_aload_n (pc := 0) hC dX4_personComes_0 rfl ?_
  refine ev_getr (pc := 1) hC 3 f23 dX4_personComes_1 (by decide) (by decide) (by decide) (by decide) (by decide) ?_
  refine ev_callV (pc := 4) (as := []) (rest := []) hC gX4_personComes_X3_isFull mtX3_isFull dX4_personComes_4 (ru_X3_isFull (s := 3) spl3 hA) (by decide) (by decide) (by decide) rfl (by rfl) (Nat.le_of_ble_eq_true rfl) rfl (fun v4 X4 h4 => ?_)
  obtain ⟨rfl, rfl⟩ := h4
  show Ev K 7 [some (.ref 6), some (vi ((kd : Nat) : Int)), some (vi ((fg : Nat) : Int)), some (vi ((ce : Nat) : Int)), some (vi ((bl : Nat) : Int))] [vi (b2i (decide (8 ≤ A 5 0)))] X
  have hr4 := b2i_r (decide (8 ≤ A 5 0))
  refine ev_if_ne (pc := 7) hC 16 dX4_personComes_7 (by decide) (by omega) (fun c7 => ?_) (fun c7 => ?_)
  · have e7 := of_decide_eq_true (b2i_1 c7)
    refine ev_iconst (pc := 16) hC dX4_personComes_16 ?_
    exact ev_zreturn (pc := 17) hC hR dX4_personComes_17 (by decide) (⟨rv (b2iF (decide_eq_false (by omega))), fun z => absurd z (by omega), (frS_rf 3 X)⟩)
  · have e7 := of_decide_eq_false (b2i_0 c7)
    refine ev_iload_n (pc := 10) hC dX4_personComes_10 rfl ?_
    refine ev_bipush (pc := 11) hC dX4_personComes_11 (by decide) ?_
    refine ev_icmp_lt (pc := 13) hC 18 dX4_personComes_13 (by decide) (by omega) (by omega) (fun c13 => ?_) (fun c13 => ?_)
    · refine ev_aload_n (pc := 18) hC dX4_personComes_18 rfl ?_
      refine ev_getr (pc := 19) hC 3 f23 dX4_personComes_19 (by decide) (by decide) (by decide) (by decide) (by decide) ?_
      refine ev_iload_n (pc := 22) hC dX4_personComes_22 rfl ?_
      refine ev_iload_n (pc := 23) hC dX4_personComes_23 rfl ?_
      refine ev_iload_n (pc := 24) hC dX4_personComes_24 rfl ?_
      refine ev_iload (pc := 25) hC dX4_personComes_25 rfl ?_
      refine ev_callV (pc := 27) (as := [vi ((kd : Nat) : Int), vi ((fg : Nat) : Int), vi ((ce : Nat) : Int), vi ((bl : Nat) : Int)]) (rest := []) hC gX4_personComes_X3_join mtX3_join dX4_personComes_27 (ru_X3_join (s := 3) spl3 hA kd fg ce bl (by omega) (by omega) (by omega) (by omega) (by omega)) (by decide) (by decide) (by decide) rfl (by rfl) (Nat.le_of_ble_eq_true rfl) rfl (fun v27 X27 h27 => ?_)
      obtain ⟨rfl, hA27, hF27⟩ := h27
      show Ev K 30 [some (.ref 6), some (vi ((kd : Nat) : Int)), some (vi ((fg : Nat) : Int)), some (vi ((ce : Nat) : Int)), some (vi ((bl : Nat) : Int))] [] X27
      have hFr27 := frS_tr (frS_rf 3 X) hF27
      refine ev_iconst (pc := 30) hC dX4_personComes_30 ?_
      exact ev_zreturn (pc := 31) hC hR dX4_personComes_31 (by decide) (⟨rv (b2iT (decide_eq_true (by omega))), fun _ => hA27, hFr27⟩)
    · refine ev_iconst (pc := 16) hC dX4_personComes_16 ?_
      exact ev_zreturn (pc := 17) hC hR dX4_personComes_17 (by decide) (⟨rv (b2iF (decide_eq_false (by omega))), fun z => absurd z (by omega), (frS_rf 3 X)⟩)
theorem mtX4_depthComes : MT yX4_depthComes wsX4_depthComes cX4_depthComes 3 (some .boolean) 2 := ⟨⟨_, rfl⟩, by decide, by decide, by decide +kernel⟩
set_option maxRecDepth 100000 in
set_option maxHeartbeats 4000000 in
theorem ru_X4_depthComes {X : Mem} {A : Sl} (hA : Rp (vC X 3) A) (ce v0 : Nat) (h1 : ce ≤ 99) (h2 : v0 ≤ 99) : Ru yX4_depthComes wsX4_depthComes 0 0 [.ref 6, vi ((ce : Nat) : Int), vi ((v0 : Nat) : Int)] X (fun v X' => v = some (vi (b2i (decide (ce < 25)))) ∧ (ce < 25 → Rp (vC X' 3) (setR A 0 ce v0)) ∧ frS 3 X X') := by
  refine ru_of (w2 := _) rfl (by decide) [some (.ref 6), some (vi ((ce : Nat) : Int)), some (vi ((v0 : Nat) : Int))] (fun _ => rfl) (fun _ => Nat.le_of_ble_eq_true rfl) ?_
  intro K hKn hC hR
  have wX4 : ∀ w ∈ u_ws RX4 TX4 4, w ∈ wsX4_depthComes := by decide +kernel
  have f23 : Fl K RX4 23 4 2 := fl_of hC RX4 TX4 4 rfl (by decide) wX4 (show Cond.fieldLink RX4 23 "PicnicOfSomebody$Text" "draft" "LPicnicOfSomebody$Slope;" ∈ _ by decide +kernel)
  have wX3 : ∀ w ∈ u_ws RX3 TX3 8, w ∈ wsX4_depthComes := by decide +kernel
  have f95 : Fl K RX4 95 3 0 := fl_of hC RX3 TX3 8 rfl (by decide) wX3 (show Cond.fieldLink RX4 95 "PicnicOfSomebody$Slope" "depths" "[I" ∈ _ by decide +kernel)
  have hn8 := hA.n8
  refine ev_iload_n (pc := 0) hC dX4_depthComes_0 rfl ?_
  refine ev_if_lt (pc := 1) hC 10 dX4_depthComes_1 (by decide) (by omega) (fun c1 => ?_) (fun c1 => ?_)
  · refine ev_iconst (pc := 10) hC dX4_depthComes_10 ?_
    exact ev_zreturn (pc := 11) hC hR dX4_depthComes_11 (by decide) (⟨rv (b2iF (decide_eq_false (by omega))), fun z => absurd z (by omega), (frS_rf 3 X)⟩)
  · refine ev_iload_n (pc := 4) hC dX4_depthComes_4 rfl ?_
    refine ev_bipush (pc := 5) hC dX4_depthComes_5 (by decide) ?_
    refine ev_icmp_lt (pc := 7) hC 12 dX4_depthComes_7 (by decide) (by omega) (by omega) (fun c7 => ?_) (fun c7 => ?_)
    · refine ev_aload_n (pc := 12) hC dX4_depthComes_12 rfl ?_
      refine ev_getr (pc := 13) hC 3 f23 dX4_depthComes_13 (by decide) (by decide) (by decide) (by decide) (by decide) ?_
      refine ev_getr (pc := 16) hC 23 f95 dX4_depthComes_16 (by decide) (by decide) (by decide) (by decide) (by decide) ?_
      refine ev_iload_n (pc := 19) hC dX4_depthComes_19 rfl ?_
      refine ev_iload_n (pc := 20) hC dX4_depthComes_20 rfl ?_
      refine ev_iast (pc := 21) hC ce (by decide) (by decide) (rfl) (by have := (show alen 23 = 25 from rfl); omega) dX4_depthComes_21 ?_
      have hA21 : Rp (vC (mset X 23 ce (zI ((v0 : Nat) : Int))) 3) (setR A 0 ce v0) := Rp.setD (s := 3) (v := v0) hA spl3 (by omega)
      have hFr21 := frS_set (s := 3) (r := 0) (i := ce) (v := zI ((v0 : Nat) : Int)) (frS_rf 3 X) (by omega)
      refine ev_iconst (pc := 22) hC dX4_depthComes_22 ?_
      exact ev_zreturn (pc := 23) hC hR dX4_depthComes_23 (by decide) (⟨rv (b2iT (decide_eq_true (by omega))), fun _ => hA21, hFr21⟩)
    · refine ev_iconst (pc := 10) hC dX4_depthComes_10 ?_
      exact ev_zreturn (pc := 11) hC hR dX4_depthComes_11 (by decide) (⟨rv (b2iF (decide_eq_false (by omega))), fun z => absurd z (by omega), (frS_rf 3 X)⟩)
theorem mtX4_beliefComes : MT yX4_beliefComes wsX4_beliefComes cX4_beliefComes 3 (some .boolean) 2 := ⟨⟨_, rfl⟩, by decide, by decide, by decide +kernel⟩
set_option maxRecDepth 100000 in
set_option maxHeartbeats 4000000 in
theorem ru_X4_beliefComes {X : Mem} {A : Sl} (hA : Rp (vC X 3) A) (p v0 : Nat) (h1 : p ≤ 99) (h2 : v0 ≤ 9) : Ru yX4_beliefComes wsX4_beliefComes 0 0 [.ref 6, vi ((p : Nat) : Int), vi ((v0 : Nat) : Int)] X (fun v X' => v = some (vi (b2i (decide (p < A 5 0)))) ∧ (p < A 5 0 → Rp (vC X' 3) (setR A 4 p v0)) ∧ frS 3 X X') := by
  refine ru_of (w2 := _) rfl (by decide) [some (.ref 6), some (vi ((p : Nat) : Int)), some (vi ((v0 : Nat) : Int))] (fun _ => rfl) (fun _ => Nat.le_of_ble_eq_true rfl) ?_
  intro K hKn hC hR
  have wX4 : ∀ w ∈ u_ws RX4 TX4 4, w ∈ wsX4_beliefComes := by decide +kernel
  have f23 : Fl K RX4 23 4 2 := fl_of hC RX4 TX4 4 rfl (by decide) wX4 (show Cond.fieldLink RX4 23 "PicnicOfSomebody$Text" "draft" "LPicnicOfSomebody$Slope;" ∈ _ by decide +kernel)
  have wX3 : ∀ w ∈ u_ws RX3 TX3 8, w ∈ wsX4_beliefComes := by decide +kernel
  have f98 : Fl K RX4 98 3 6 := fl_of hC RX3 TX3 8 rfl (by decide) wX3 (show Cond.fieldLink RX4 98 "PicnicOfSomebody$Slope" "people" "I" ∈ _ by decide +kernel)
  have f101 : Fl K RX4 101 3 4 := fl_of hC RX3 TX3 8 rfl (by decide) wX3 (show Cond.fieldLink RX4 101 "PicnicOfSomebody$Slope" "beliefs" "[I" ∈ _ by decide +kernel)
  have hn8 := hA.n8
  refine ev_iload_n (pc := 0) hC dX4_beliefComes_0 rfl ?_
  refine ev_if_lt (pc := 1) hC 15 dX4_beliefComes_1 (by decide) (by omega) (fun c1 => ?_) (fun c1 => ?_)
  · refine ev_iconst (pc := 15) hC dX4_beliefComes_15 ?_
    exact ev_zreturn (pc := 16) hC hR dX4_beliefComes_16 (by decide) (⟨rv (b2iF (decide_eq_false (by omega))), fun z => absurd z (by omega), (frS_rf 3 X)⟩)
  · refine ev_iload_n (pc := 4) hC dX4_beliefComes_4 rfl ?_
    refine ev_aload_n (pc := 5) hC dX4_beliefComes_5 rfl ?_
    refine ev_getr (pc := 6) hC 3 f23 dX4_beliefComes_6 (by decide) (by decide) (by decide) (by decide) (by decide) ?_
    refine ev_geti (pc := 9) hC ((A 5 0 : Nat) : Int) f98 dX4_beliefComes_9 (by decide) (by decide) (by decide) (by decide) (by decide)  (hA.cn) ?_
    refine ev_icmp_lt (pc := 12) hC 17 dX4_beliefComes_12 (by decide) (by omega) (by omega) (fun c12 => ?_) (fun c12 => ?_)
    · refine ev_aload_n (pc := 17) hC dX4_beliefComes_17 rfl ?_
      refine ev_getr (pc := 18) hC 3 f23 dX4_beliefComes_18 (by decide) (by decide) (by decide) (by decide) (by decide) ?_
      refine ev_getr (pc := 21) hC 27 f101 dX4_beliefComes_21 (by decide) (by decide) (by decide) (by decide) (by decide) ?_
      refine ev_iload_n (pc := 24) hC dX4_beliefComes_24 rfl ?_
      refine ev_iload_n (pc := 25) hC dX4_beliefComes_25 rfl ?_
      refine ev_iast (pc := 26) hC p (by decide) (by decide) (rfl) (by have := (show alen 27 = 8 from rfl); omega) dX4_beliefComes_26 ?_
      have hA26 : Rp (vC (mset X 27 p (zI ((v0 : Nat) : Int))) 3) (setR A 4 p v0) := Rp.setC4 (s := 3) (v := v0) hA spl3 (by omega)
      have hFr26 := frS_set (s := 3) (r := 4) (i := p) (v := zI ((v0 : Nat) : Int)) (frS_rf 3 X) (by omega)
      refine ev_iconst (pc := 27) hC dX4_beliefComes_27 ?_
      exact ev_zreturn (pc := 28) hC hR dX4_beliefComes_28 (by decide) (⟨rv (b2iT (decide_eq_true (by omega))), fun _ => hA26, hFr26⟩)
    · refine ev_iconst (pc := 15) hC dX4_beliefComes_15 ?_
      exact ev_zreturn (pc := 16) hC hR dX4_beliefComes_16 (by decide) (⟨rv (b2iF (decide_eq_false (by omega))), fun z => absurd z (by omega), (frS_rf 3 X)⟩)
theorem mtX4_seatComes : MT yX4_seatComes wsX4_seatComes cX4_seatComes 3 (some .boolean) 2 := ⟨⟨_, rfl⟩, by decide, by decide, by decide +kernel⟩
set_option maxRecDepth 100000 in
set_option maxHeartbeats 4000000 in
theorem ru_X4_seatComes {X : Mem} {A : Sl} (hA : Rp (vC X 3) A) (p ce : Nat) (h1 : p ≤ 99) (h2 : ce ≤ 99) : Ru yX4_seatComes wsX4_seatComes 0 0 [.ref 6, vi ((p : Nat) : Int), vi ((ce : Nat) : Int)] X (fun v X' => v = some (vi (b2i (decide (p < A 5 0 ∧ ce < 25)))) ∧ (p < A 5 0 ∧ ce < 25 → Rp (vC X' 3) (setR A 3 p ce)) ∧ frS 3 X X') := by
  refine ru_of (w2 := _) rfl (by decide) [some (.ref 6), some (vi ((p : Nat) : Int)), some (vi ((ce : Nat) : Int))] (fun _ => rfl) (fun _ => Nat.le_of_ble_eq_true rfl) ?_
  intro K hKn hC hR
  have wX4 : ∀ w ∈ u_ws RX4 TX4 4, w ∈ wsX4_seatComes := by decide +kernel
  have f23 : Fl K RX4 23 4 2 := fl_of hC RX4 TX4 4 rfl (by decide) wX4 (show Cond.fieldLink RX4 23 "PicnicOfSomebody$Text" "draft" "LPicnicOfSomebody$Slope;" ∈ _ by decide +kernel)
  have wX3 : ∀ w ∈ u_ws RX3 TX3 8, w ∈ wsX4_seatComes := by decide +kernel
  have f98 : Fl K RX4 98 3 6 := fl_of hC RX3 TX3 8 rfl (by decide) wX3 (show Cond.fieldLink RX4 98 "PicnicOfSomebody$Slope" "people" "I" ∈ _ by decide +kernel)
  have f104 : Fl K RX4 104 3 3 := fl_of hC RX3 TX3 8 rfl (by decide) wX3 (show Cond.fieldLink RX4 104 "PicnicOfSomebody$Slope" "cells" "[I" ∈ _ by decide +kernel)
  have hn8 := hA.n8
  refine ev_iload_n (pc := 0) hC dX4_seatComes_0 rfl ?_
  refine ev_if_lt (pc := 1) hC 21 dX4_seatComes_1 (by decide) (by omega) (fun c1 => ?_) (fun c1 => ?_)
  · refine ev_iconst (pc := 21) hC dX4_seatComes_21 ?_
    exact ev_zreturn (pc := 22) hC hR dX4_seatComes_22 (by decide) (⟨rv (b2iF (decide_eq_false (by omega))), fun z => absurd z (by omega), (frS_rf 3 X)⟩)
  · refine ev_iload_n (pc := 4) hC dX4_seatComes_4 rfl ?_
    refine ev_aload_n (pc := 5) hC dX4_seatComes_5 rfl ?_
    refine ev_getr (pc := 6) hC 3 f23 dX4_seatComes_6 (by decide) (by decide) (by decide) (by decide) (by decide) ?_
    refine ev_geti (pc := 9) hC ((A 5 0 : Nat) : Int) f98 dX4_seatComes_9 (by decide) (by decide) (by decide) (by decide) (by decide)  (hA.cn) ?_
    refine ev_icmp_ge (pc := 12) hC 21 dX4_seatComes_12 (by decide) (by omega) (by omega) (fun c12 => ?_) (fun c12 => ?_)
    · refine ev_iconst (pc := 21) hC dX4_seatComes_21 ?_
      exact ev_zreturn (pc := 22) hC hR dX4_seatComes_22 (by decide) (⟨rv (b2iF (decide_eq_false (by omega))), fun z => absurd z (by omega), (frS_rf 3 X)⟩)
    · refine ev_iload_n (pc := 15) hC dX4_seatComes_15 rfl ?_
      refine ev_bipush (pc := 16) hC dX4_seatComes_16 (by decide) ?_
      refine ev_icmp_lt (pc := 18) hC 23 dX4_seatComes_18 (by decide) (by omega) (by omega) (fun c18 => ?_) (fun c18 => ?_)
      · refine ev_aload_n (pc := 23) hC dX4_seatComes_23 rfl ?_
        refine ev_getr (pc := 24) hC 3 f23 dX4_seatComes_24 (by decide) (by decide) (by decide) (by decide) (by decide) ?_
        refine ev_getr (pc := 27) hC 26 f104 dX4_seatComes_27 (by decide) (by decide) (by decide) (by decide) (by decide) ?_
        refine ev_iload_n (pc := 30) hC dX4_seatComes_30 rfl ?_
        refine ev_iload_n (pc := 31) hC dX4_seatComes_31 rfl ?_
        refine ev_iast (pc := 32) hC p (by decide) (by decide) (rfl) (by have := (show alen 26 = 8 from rfl); omega) dX4_seatComes_32 ?_
        have hA32 : Rp (vC (mset X 26 p (zI ((ce : Nat) : Int))) 3) (setR A 3 p ce) := Rp.setC3 (s := 3) (v := ce) hA spl3 (by omega)
        have hFr32 := frS_set (s := 3) (r := 3) (i := p) (v := zI ((ce : Nat) : Int)) (frS_rf 3 X) (by omega)
        refine ev_iconst (pc := 33) hC dX4_seatComes_33 ?_
        exact ev_zreturn (pc := 34) hC hR dX4_seatComes_34 (by decide) (⟨rv (b2iT (decide_eq_true (by omega))), fun _ => hA32, hFr32⟩)
      · refine ev_iconst (pc := 21) hC dX4_seatComes_21 ?_
        exact ev_zreturn (pc := 22) hC hR dX4_seatComes_22 (by decide) (⟨rv (b2iF (decide_eq_false (by omega))), fun z => absurd z (by omega), (frS_rf 3 X)⟩)
theorem mtX4_comes : MT yX4_comes wsX4_comes cX4_comes 3 (some .boolean) 1 := ⟨⟨_, rfl⟩, by decide, by decide, by decide +kernel⟩
set_option maxRecDepth 100000 in
set_option maxHeartbeats 4000000 in
theorem ru_X4_comes {X : Mem} {T : Nat → Nat} {n : Nat} (hT : Txt X T n) {A : Sl} (hA : Rp (vC X 3) A) (hy : A 5 1 ≤ 999) (a : Nat) (hg : goodT T n a) : Ru yX4_comes wsX4_comes 5 139 [.ref 6, vi ((a : Nat) : Int)] X (fun v X' => v = some (vi (b2i (doS T a A).isSome)) ∧ (∀ B, doS T a A = some B → Rp (vC X' 3) B) ∧ frS 3 X X') := by
  refine ru_of (w2 := _) rfl (by decide) [some (.ref 6), some (vi ((a : Nat) : Int)), none] (fun _ => rfl) (fun _ => Nat.le_of_ble_eq_true rfl) ?_
  intro K hKn hC hR
  have wX4 : ∀ w ∈ u_ws RX4 TX4 4, w ∈ wsX4_comes := by decide +kernel
  have f23 : Fl K RX4 23 4 2 := fl_of hC RX4 TX4 4 rfl (by decide) wX4 (show Cond.fieldLink RX4 23 "PicnicOfSomebody$Text" "draft" "LPicnicOfSomebody$Slope;" ∈ _ by decide +kernel)
  have wX3 : ∀ w ∈ u_ws RX3 TX3 8, w ∈ wsX4_comes := by decide +kernel
  have f84 : Fl K RX4 84 3 7 := fl_of hC RX3 TX3 8 rfl (by decide) wX3 (show Cond.fieldLink RX4 84 "PicnicOfSomebody$Slope" "year" "I" ∈ _ by decide +kernel)
  have hn96 := hT.2.1
  have hn8 := hA.n8
  have hlc := lenT_cases (T a)
  have hga := hg.1
  have hgl := hg.2.1
  refine ev_aload_n (pc := 0) hC dX4_comes_0 rfl ?_
  refine ev_iload_n (pc := 1) hC dX4_comes_1 rfl ?_
  refine ev_callV (pc := 2) (as := [vi ((a : Nat) : Int)]) (rest := []) hC gX4_comes_X4_letterAt mtX4_letterAt dX4_comes_2 (ru_X4_letterAt hT a (by omega)) (by decide) (by decide) (by decide) rfl (by rfl) (Nat.le_of_ble_eq_true rfl) rfl (fun v2 X2 h2 => ?_)
  obtain ⟨rfl, rfl⟩ := h2
  show Ev K 5 [some (.ref 6), some (vi ((a : Nat) : Int)), none] [vi ((T a : Nat) : Int)] X
  have hTl2 := (hT.2.2 a (by omega)).2
  rcases (show ((T a : Nat) : Int) = 97 ∨ ((T a : Nat) : Int) = 98 ∨ ((T a : Nat) : Int) = 104 ∨ ((T a : Nat) : Int) = 112 ∨ (¬ ((T a : Nat) : Int) = 97 ∧ ¬ ((T a : Nat) : Int) = 98 ∧ ¬ ((T a : Nat) : Int) = 104 ∧ ¬ ((T a : Nat) : Int) = 112) by omega) with c5 | c5 | c5 | c5 | c5
  · refine ev_lookup (pc := 5) hC 122 dX4_comes_5 (by decide) (by omega) (by rw [c5]) (by decide) ?_
    have hTa : T a = 97 := by omega
    have hg1 := gd hg 1 (by omega) (by omega) (by omega)
    have hg2 := gd hg 2 (by omega) (by omega) (by omega)
    have hg3 := gd hg 3 (by omega) (by omega) (by omega)
    refine ev_aload_n (pc := 122) hC dX4_comes_122 rfl ?_
    refine ev_aload_n (pc := 123) hC dX4_comes_123 rfl ?_
    refine ev_iload_n (pc := 124) hC dX4_comes_124 rfl ?_
    refine ev_iconst (pc := 125) hC dX4_comes_125 ?_
    refine ev_iadd (pc := 126) hC ((a + 1 : Nat) : Int) (by omega) dX4_comes_126 ?_
    refine ev_callV (pc := 127) (as := [vi ((a + 1 : Nat) : Int)]) (rest := [.ref 6]) hC gX4_comes_X4_digit mtX4_digit dX4_comes_127 (ru_X4_digit hT (a + 1) (by omega) (by omega)) (by decide) (by decide) (by decide) rfl (by rfl) (Nat.le_of_ble_eq_true rfl) rfl (fun v127 X127 h127 => ?_)
    obtain ⟨rfl, rfl⟩ := h127
    show Ev K 130 [some (.ref 6), some (vi ((a : Nat) : Int)), none] [vi ((dg T (a + 1) : Nat) : Int), .ref 6] X
    have hdg127 := dg_le (T := T) (a := a + 1) (by omega)
    refine ev_aload_n (pc := 130) hC dX4_comes_130 rfl ?_
    refine ev_iload_n (pc := 131) hC dX4_comes_131 rfl ?_
    refine ev_iconst (pc := 132) hC dX4_comes_132 ?_
    refine ev_iadd (pc := 133) hC ((a + 2 : Nat) : Int) (by omega) dX4_comes_133 ?_
    refine ev_callV (pc := 134) (as := [vi ((a + 2 : Nat) : Int)]) (rest := [vi ((dg T (a + 1) : Nat) : Int), .ref 6]) hC gX4_comes_X4_twoDigits mtX4_twoDigits dX4_comes_134 (ru_X4_twoDigits hT (a + 2) (by omega) (by omega) (show 48 ≤ T (a + 3) ∧ T (a + 3) ≤ 57 by omega)) (by decide) (by decide) (by decide) rfl (by rfl) (Nat.le_of_ble_eq_true rfl) rfl (fun v134 X134 h134 => ?_)
    obtain ⟨rfl, rfl⟩ := h134
    show Ev K 137 [some (.ref 6), some (vi ((a : Nat) : Int)), none] [vi ((dd T (a + 2) : Nat) : Int), vi ((dg T (a + 1) : Nat) : Int), .ref 6] X
    have hdd134 := dd_le (T := T) (a := a + 2) (by omega) (show T (a + 3) ≤ 57 by omega)
    refine ev_callV (pc := 137) (as := [vi ((dg T (a + 1) : Nat) : Int), vi ((dd T (a + 2) : Nat) : Int)]) (rest := []) hC gX4_comes_X4_seatComes mtX4_seatComes dX4_comes_137 (ru_X4_seatComes hA (dg T (a + 1)) (dd T (a + 2)) (by omega) (by omega)) (by decide) (by decide) (by decide) rfl (by rfl) (Nat.le_of_ble_eq_true rfl) rfl (fun v137 X137 h137 => ?_)
    obtain ⟨rfl, hq137, hF137⟩ := h137
    show Ev K 140 [some (.ref 6), some (vi ((a : Nat) : Int)), none] [vi (b2i (decide (dg T (a + 1) < A 5 0 ∧ dd T (a + 2) < 25)))] X137
    exact ev_zreturn (pc := 140) hC hR dX4_comes_140 (b2i_n _) (⟨rv (by rw [doS_a hTa, isSome_ite]), by rw [doS_a hTa]; exact opt_imp hq137, hF137⟩)
  · refine ev_lookup (pc := 5) hC 103 dX4_comes_5 (by decide) (by omega) (by rw [c5]) (by decide) ?_
    have hTa : T a = 98 := by omega
    have hg1 := gd hg 1 (by omega) (by omega) (by omega)
    have hg2 := gd hg 2 (by omega) (by omega) (by omega)
    refine ev_aload_n (pc := 103) hC dX4_comes_103 rfl ?_
    refine ev_aload_n (pc := 104) hC dX4_comes_104 rfl ?_
    refine ev_iload_n (pc := 105) hC dX4_comes_105 rfl ?_
    refine ev_iconst (pc := 106) hC dX4_comes_106 ?_
    refine ev_iadd (pc := 107) hC ((a + 1 : Nat) : Int) (by omega) dX4_comes_107 ?_
    refine ev_callV (pc := 108) (as := [vi ((a + 1 : Nat) : Int)]) (rest := [.ref 6]) hC gX4_comes_X4_digit mtX4_digit dX4_comes_108 (ru_X4_digit hT (a + 1) (by omega) (by omega)) (by decide) (by decide) (by decide) rfl (by rfl) (Nat.le_of_ble_eq_true rfl) rfl (fun v108 X108 h108 => ?_)
    obtain ⟨rfl, rfl⟩ := h108
    show Ev K 111 [some (.ref 6), some (vi ((a : Nat) : Int)), none] [vi ((dg T (a + 1) : Nat) : Int), .ref 6] X
    have hdg108 := dg_le (T := T) (a := a + 1) (by omega)
    refine ev_aload_n (pc := 111) hC dX4_comes_111 rfl ?_
    refine ev_iload_n (pc := 112) hC dX4_comes_112 rfl ?_
    refine ev_iconst (pc := 113) hC dX4_comes_113 ?_
    refine ev_iadd (pc := 114) hC ((a + 2 : Nat) : Int) (by omega) dX4_comes_114 ?_
    refine ev_callV (pc := 115) (as := [vi ((a + 2 : Nat) : Int)]) (rest := [vi ((dg T (a + 1) : Nat) : Int), .ref 6]) hC gX4_comes_X4_digit mtX4_digit dX4_comes_115 (ru_X4_digit hT (a + 2) (by omega) (by omega)) (by decide) (by decide) (by decide) rfl (by rfl) (Nat.le_of_ble_eq_true rfl) rfl (fun v115 X115 h115 => ?_)
    obtain ⟨rfl, rfl⟩ := h115
    show Ev K 118 [some (.ref 6), some (vi ((a : Nat) : Int)), none] [vi ((dg T (a + 2) : Nat) : Int), vi ((dg T (a + 1) : Nat) : Int), .ref 6] X
    have hdg115 := dg_le (T := T) (a := a + 2) (by omega)
    refine ev_callV (pc := 118) (as := [vi ((dg T (a + 1) : Nat) : Int), vi ((dg T (a + 2) : Nat) : Int)]) (rest := []) hC gX4_comes_X4_beliefComes mtX4_beliefComes dX4_comes_118 (ru_X4_beliefComes hA (dg T (a + 1)) (dg T (a + 2)) (by omega) (by omega)) (by decide) (by decide) (by decide) rfl (by rfl) (Nat.le_of_ble_eq_true rfl) rfl (fun v118 X118 h118 => ?_)
    obtain ⟨rfl, hq118, hF118⟩ := h118
    show Ev K 121 [some (.ref 6), some (vi ((a : Nat) : Int)), none] [vi (b2i (decide (dg T (a + 1) < A 5 0)))] X118
    exact ev_zreturn (pc := 121) hC hR dX4_comes_121 (b2i_n _) (⟨rv (by rw [doS_b hTa, isSome_ite]), by rw [doS_b hTa]; exact opt_imp hq118, hF118⟩)
  · refine ev_lookup (pc := 5) hC 84 dX4_comes_5 (by decide) (by omega) (by rw [c5]) (by decide) ?_
    have hTa : T a = 104 := by omega
    have hg1 := gd hg 1 (by omega) (by omega) (by omega)
    have hg2 := gd hg 2 (by omega) (by omega) (by omega)
    have hg3 := gd hg 3 (by omega) (by omega) (by omega)
    have hg4 := gd hg 4 (by omega) (by omega) (by omega)
    refine ev_aload_n (pc := 84) hC dX4_comes_84 rfl ?_
    refine ev_aload_n (pc := 85) hC dX4_comes_85 rfl ?_
    refine ev_iload_n (pc := 86) hC dX4_comes_86 rfl ?_
    refine ev_iconst (pc := 87) hC dX4_comes_87 ?_
    refine ev_iadd (pc := 88) hC ((a + 1 : Nat) : Int) (by omega) dX4_comes_88 ?_
    refine ev_callV (pc := 89) (as := [vi ((a + 1 : Nat) : Int)]) (rest := [.ref 6]) hC gX4_comes_X4_twoDigits mtX4_twoDigits dX4_comes_89 (ru_X4_twoDigits hT (a + 1) (by omega) (by omega) (show 48 ≤ T (a + 2) ∧ T (a + 2) ≤ 57 by omega)) (by decide) (by decide) (by decide) rfl (by rfl) (Nat.le_of_ble_eq_true rfl) rfl (fun v89 X89 h89 => ?_)
    obtain ⟨rfl, rfl⟩ := h89
    show Ev K 92 [some (.ref 6), some (vi ((a : Nat) : Int)), none] [vi ((dd T (a + 1) : Nat) : Int), .ref 6] X
    have hdd89 := dd_le (T := T) (a := a + 1) (by omega) (show T (a + 2) ≤ 57 by omega)
    refine ev_aload_n (pc := 92) hC dX4_comes_92 rfl ?_
    refine ev_iload_n (pc := 93) hC dX4_comes_93 rfl ?_
    refine ev_iconst (pc := 94) hC dX4_comes_94 ?_
    refine ev_iadd (pc := 95) hC ((a + 3 : Nat) : Int) (by omega) dX4_comes_95 ?_
    refine ev_callV (pc := 96) (as := [vi ((a + 3 : Nat) : Int)]) (rest := [vi ((dd T (a + 1) : Nat) : Int), .ref 6]) hC gX4_comes_X4_twoDigits mtX4_twoDigits dX4_comes_96 (ru_X4_twoDigits hT (a + 3) (by omega) (by omega) (show 48 ≤ T (a + 4) ∧ T (a + 4) ≤ 57 by omega)) (by decide) (by decide) (by decide) rfl (by rfl) (Nat.le_of_ble_eq_true rfl) rfl (fun v96 X96 h96 => ?_)
    obtain ⟨rfl, rfl⟩ := h96
    show Ev K 99 [some (.ref 6), some (vi ((a : Nat) : Int)), none] [vi ((dd T (a + 3) : Nat) : Int), vi ((dd T (a + 1) : Nat) : Int), .ref 6] X
    have hdd96 := dd_le (T := T) (a := a + 3) (by omega) (show T (a + 4) ≤ 57 by omega)
    refine ev_callV (pc := 99) (as := [vi ((dd T (a + 1) : Nat) : Int), vi ((dd T (a + 3) : Nat) : Int)]) (rest := []) hC gX4_comes_X4_depthComes mtX4_depthComes dX4_comes_99 (ru_X4_depthComes hA (dd T (a + 1)) (dd T (a + 3)) (by omega) (by omega)) (by decide) (by decide) (by decide) rfl (by rfl) (Nat.le_of_ble_eq_true rfl) rfl (fun v99 X99 h99 => ?_)
    obtain ⟨rfl, hq99, hF99⟩ := h99
    show Ev K 102 [some (.ref 6), some (vi ((a : Nat) : Int)), none] [vi (b2i (decide (dd T (a + 1) < 25)))] X99
    exact ev_zreturn (pc := 102) hC hR dX4_comes_102 (b2i_n _) (⟨rv (by rw [doS_h hTa, isSome_ite]), by rw [doS_h hTa]; exact opt_imp hq99, hF99⟩)
  · refine ev_lookup (pc := 5) hC 48 dX4_comes_5 (by decide) (by omega) (by rw [c5]) (by decide) ?_
    have hTa : T a = 112 := by omega
    have hk1 := fit_kind ⟨hTa, rfl⟩ (hg.2.2 1 (by omega) (by omega)).2
    have hk2 := (hg.2.2 1 (by omega) (by omega)).1
    have hg2 := gd hg 2 (by omega) (by omega) (by omega)
    have hg3 := gd hg 3 (by omega) (by omega) (by omega)
    have hg4 := gd hg 4 (by omega) (by omega) (by omega)
    have hg5 := gd hg 5 (by omega) (by omega) (by omega)
    refine ev_aload_n (pc := 48) hC dX4_comes_48 rfl ?_
    refine ev_aload_n (pc := 49) hC dX4_comes_49 rfl ?_
    refine ev_iload_n (pc := 50) hC dX4_comes_50 rfl ?_
    refine ev_iconst (pc := 51) hC dX4_comes_51 ?_
    refine ev_iadd (pc := 52) hC ((a + 1 : Nat) : Int) (by omega) dX4_comes_52 ?_
    refine ev_callV (pc := 53) (as := [vi ((a + 1 : Nat) : Int)]) (rest := [.ref 6]) hC gX4_comes_X4_letterAt mtX4_letterAt dX4_comes_53 (ru_X4_letterAt hT (a + 1) (by omega)) (by decide) (by decide) (by decide) rfl (by rfl) (Nat.le_of_ble_eq_true rfl) rfl (fun v53 X53 h53 => ?_)
    obtain ⟨rfl, rfl⟩ := h53
    show Ev K 56 [some (.ref 6), some (vi ((a : Nat) : Int)), none] [vi ((T (a + 1) : Nat) : Int), .ref 6] X
    have hTl53 := (hT.2.2 (a + 1) (by omega)).2
    refine ev_callS (pc := 56) (as := [vi ((T (a + 1) : Nat) : Int)]) (rest := [.ref 6]) hC gX4_comes_X4_kindOf mtX4_kindOf dX4_comes_56 (ru_X4_kindOf (T (a + 1)) (by omega) (((kindT (T (a + 1))).toNat : Nat) : Int) (Int.toNat_of_nonneg hk1)) (by decide) (by rfl) (Nat.le_of_ble_eq_true rfl) rfl (fun v56 X56 h56 => ?_)
    obtain ⟨rfl, rfl⟩ := h56
    show Ev K 59 [some (.ref 6), some (vi ((a : Nat) : Int)), none] [vi (((kindT (T (a + 1))).toNat : Nat) : Int), .ref 6] X
    have hkc56 := kindT_cases (T (a + 1))
    refine ev_aload_n (pc := 59) hC dX4_comes_59 rfl ?_
    refine ev_iload_n (pc := 60) hC dX4_comes_60 rfl ?_
    refine ev_iconst (pc := 61) hC dX4_comes_61 ?_
    refine ev_iadd (pc := 62) hC ((a + 2 : Nat) : Int) (by omega) dX4_comes_62 ?_
    refine ev_callV (pc := 63) (as := [vi ((a + 2 : Nat) : Int)]) (rest := [vi (((kindT (T (a + 1))).toNat : Nat) : Int), .ref 6]) hC gX4_comes_X4_digit mtX4_digit dX4_comes_63 (ru_X4_digit hT (a + 2) (by omega) (by omega)) (by decide) (by decide) (by decide) rfl (by rfl) (Nat.le_of_ble_eq_true rfl) rfl (fun v63 X63 h63 => ?_)
    obtain ⟨rfl, rfl⟩ := h63
    show Ev K 66 [some (.ref 6), some (vi ((a : Nat) : Int)), none] [vi ((dg T (a + 2) : Nat) : Int), vi (((kindT (T (a + 1))).toNat : Nat) : Int), .ref 6] X
    have hdg63 := dg_le (T := T) (a := a + 2) (by omega)
    refine ev_aload_n (pc := 66) hC dX4_comes_66 rfl ?_
    refine ev_iload_n (pc := 67) hC dX4_comes_67 rfl ?_
    refine ev_iconst (pc := 68) hC dX4_comes_68 ?_
    refine ev_iadd (pc := 69) hC ((a + 3 : Nat) : Int) (by omega) dX4_comes_69 ?_
    refine ev_callV (pc := 70) (as := [vi ((a + 3 : Nat) : Int)]) (rest := [vi ((dg T (a + 2) : Nat) : Int), vi (((kindT (T (a + 1))).toNat : Nat) : Int), .ref 6]) hC gX4_comes_X4_twoDigits mtX4_twoDigits dX4_comes_70 (ru_X4_twoDigits hT (a + 3) (by omega) (by omega) (show 48 ≤ T (a + 4) ∧ T (a + 4) ≤ 57 by omega)) (by decide) (by decide) (by decide) rfl (by rfl) (Nat.le_of_ble_eq_true rfl) rfl (fun v70 X70 h70 => ?_)
    obtain ⟨rfl, rfl⟩ := h70
    show Ev K 73 [some (.ref 6), some (vi ((a : Nat) : Int)), none] [vi ((dd T (a + 3) : Nat) : Int), vi ((dg T (a + 2) : Nat) : Int), vi (((kindT (T (a + 1))).toNat : Nat) : Int), .ref 6] X
    have hdd70 := dd_le (T := T) (a := a + 3) (by omega) (show T (a + 4) ≤ 57 by omega)
    refine ev_aload_n (pc := 73) hC dX4_comes_73 rfl ?_
    refine ev_iload_n (pc := 74) hC dX4_comes_74 rfl ?_
    refine ev_iconst (pc := 75) hC dX4_comes_75 ?_
    refine ev_iadd (pc := 76) hC ((a + 5 : Nat) : Int) (by omega) dX4_comes_76 ?_
    refine ev_callV (pc := 77) (as := [vi ((a + 5 : Nat) : Int)]) (rest := [vi ((dd T (a + 3) : Nat) : Int), vi ((dg T (a + 2) : Nat) : Int), vi (((kindT (T (a + 1))).toNat : Nat) : Int), .ref 6]) hC gX4_comes_X4_digit mtX4_digit dX4_comes_77 (ru_X4_digit hT (a + 5) (by omega) (by omega)) (by decide) (by decide) (by decide) rfl (by rfl) (Nat.le_of_ble_eq_true rfl) rfl (fun v77 X77 h77 => ?_)
    obtain ⟨rfl, rfl⟩ := h77
    show Ev K 80 [some (.ref 6), some (vi ((a : Nat) : Int)), none] [vi ((dg T (a + 5) : Nat) : Int), vi ((dd T (a + 3) : Nat) : Int), vi ((dg T (a + 2) : Nat) : Int), vi (((kindT (T (a + 1))).toNat : Nat) : Int), .ref 6] X
    have hdg77 := dg_le (T := T) (a := a + 5) (by omega)
    refine ev_callV (pc := 80) (as := [vi (((kindT (T (a + 1))).toNat : Nat) : Int), vi ((dg T (a + 2) : Nat) : Int), vi ((dd T (a + 3) : Nat) : Int), vi ((dg T (a + 5) : Nat) : Int)]) (rest := []) hC gX4_comes_X4_personComes mtX4_personComes dX4_comes_80 (ru_X4_personComes hA ((kindT (T (a + 1))).toNat) (dg T (a + 2)) (dd T (a + 3)) (dg T (a + 5)) (by omega) (by omega) (by omega) (by omega)) (by decide) (by decide) (by decide) rfl (by rfl) (Nat.le_of_ble_eq_true rfl) rfl (fun v80 X80 h80 => ?_)
    obtain ⟨rfl, hq80, hF80⟩ := h80
    show Ev K 83 [some (.ref 6), some (vi ((a : Nat) : Int)), none] [vi (b2i (decide (A 5 0 < 8 ∧ dd T (a + 3) < 25)))] X80
    exact ev_zreturn (pc := 83) hC hR dX4_comes_83 (b2i_n _) (⟨rv (by rw [doS_p hTa, isSome_ite]), by rw [doS_p hTa]; exact opt_imp hq80, hF80⟩)
  · refine ev_lookup (pc := 5) hC (off := 136) 141 dX4_comes_5 (by decide) (by omega) (by simp [Op.lookupswitch.offset, show ¬ (97 : Int) = ((T a : Nat) : Int) by omega, show ¬ (98 : Int) = ((T a : Nat) : Int) by omega, show ¬ (104 : Int) = ((T a : Nat) : Int) by omega, show ¬ (112 : Int) = ((T a : Nat) : Int) by omega]) (by decide) ?_
    have hTa : T a = 121 := by omega
    have hg1 := gd hg 1 (by omega) (by omega) (by omega)
    have hg2 := gd hg 2 (by omega) (by omega) (by omega)
    refine ev_aload_n (pc := 141) hC dX4_comes_141 rfl ?_
    refine ev_iload_n (pc := 142) hC dX4_comes_142 rfl ?_
    refine ev_iconst (pc := 143) hC dX4_comes_143 ?_
    refine ev_iadd (pc := 144) hC ((a + 1 : Nat) : Int) (by omega) dX4_comes_144 ?_
    refine ev_callV (pc := 145) (as := [vi ((a + 1 : Nat) : Int)]) (rest := []) hC gX4_comes_X4_twoDigits mtX4_twoDigits dX4_comes_145 (ru_X4_twoDigits hT (a + 1) (by omega) (by omega) (show 48 ≤ T (a + 2) ∧ T (a + 2) ≤ 57 by omega)) (by decide) (by decide) (by decide) rfl (by rfl) (Nat.le_of_ble_eq_true rfl) rfl (fun v145 X145 h145 => ?_)
    obtain ⟨rfl, rfl⟩ := h145
    show Ev K 148 [some (.ref 6), some (vi ((a : Nat) : Int)), none] [vi ((dd T (a + 1) : Nat) : Int)] X
    have hdd145 := dd_le (T := T) (a := a + 1) (by omega) (show T (a + 2) ≤ 57 by omega)
    refine ev_istore_n (pc := 148) hC dX4_comes_148 (by rw [hKn]; decide) rfl ?_
    show Ev K 149 [some (.ref 6), some (vi ((a : Nat) : Int)), some (vi ((dd T (a + 1) : Nat) : Int))] [] X
    refine ev_iload_n (pc := 149) hC dX4_comes_149 rfl ?_
    refine ev_iconst (pc := 150) hC dX4_comes_150 ?_
    refine ev_icmp_lt (pc := 151) hC 175 dX4_comes_151 (by decide) (by omega) (by omega) (fun c151 => ?_) (fun c151 => ?_)
    · refine ev_iconst (pc := 175) hC dX4_comes_175 ?_
      exact ev_zreturn (pc := 176) hC hR dX4_comes_176 (by decide) (⟨rv (by rw [doS_y hTa, isSome_ite]; exact b2iF (decide_eq_false (by omega))), by rw [doS_y hTa]; exact opt_imp (fun z => absurd z (by omega)), frS_rf 3 X⟩)
    · refine ev_iload_n (pc := 154) hC dX4_comes_154 rfl ?_
      refine ev_bipush (pc := 155) hC dX4_comes_155 (by decide) ?_
      refine ev_icmp_gt (pc := 157) hC 175 dX4_comes_157 (by decide) (by omega) (by omega) (fun c157 => ?_) (fun c157 => ?_)
      · refine ev_iconst (pc := 175) hC dX4_comes_175 ?_
        exact ev_zreturn (pc := 176) hC hR dX4_comes_176 (by decide) (⟨rv (by rw [doS_y hTa, isSome_ite]; exact b2iF (decide_eq_false (by omega))), by rw [doS_y hTa]; exact opt_imp (fun z => absurd z (by omega)), frS_rf 3 X⟩)
      · refine ev_aload_n (pc := 160) hC dX4_comes_160 rfl ?_
        refine ev_getr (pc := 161) hC 3 f23 dX4_comes_161 (by decide) (by decide) (by decide) (by decide) (by decide) ?_
        refine ev_geti (pc := 164) hC ((A 5 1 : Nat) : Int) f84 dX4_comes_164 (by decide) (by decide) (by decide) (by decide) (by decide)  (hA.cy) ?_
        refine ev_iload_n (pc := 167) hC dX4_comes_167 rfl ?_
        refine ev_iadd (pc := 168) hC (((A 5 1) + (dd T (a + 1)) : Nat) : Int) (by omega) dX4_comes_168 ?_
        refine ev_sipush (pc := 169) hC dX4_comes_169 (by decide) ?_
        refine ev_icmp_le (pc := 172) hC 177 dX4_comes_172 (by decide) (by omega) (by omega) (fun c172 => ?_) (fun c172 => ?_)
        · refine ev_aload_n (pc := 177) hC dX4_comes_177 rfl ?_
          refine ev_getr (pc := 178) hC 3 f23 dX4_comes_178 (by decide) (by decide) (by decide) (by decide) (by decide) ?_
          refine ev_iload_n (pc := 181) hC dX4_comes_181 rfl ?_
          refine ev_callV (pc := 182) (as := [vi ((dd T (a + 1) : Nat) : Int)]) (rest := []) hC gX4_comes_X3_passYears mtX3_passYears dX4_comes_182 (ru_X3_passYears (s := 3) spl3 hA (dd T (a + 1)) (by omega)) (by decide) (by decide) (by decide) rfl (by rfl) (Nat.le_of_ble_eq_true rfl) rfl (fun v182 X182 h182 => ?_)
          obtain ⟨rfl, hA182, hF182⟩ := h182
          show Ev K 185 [some (.ref 6), some (vi ((a : Nat) : Int)), some (vi ((dd T (a + 1) : Nat) : Int))] [vi ((bcnt 0 (goN 0 (dd T (a + 1)) A) : Nat) : Int)] X182
          have hl182 := bcnt_le 0 (goN 0 (dd T (a + 1)) A)
          have hn182 := hA182.n8
          have hFr182 := frS_tr (frS_rf 3 X) hF182
          refine ev_pop (pc := 185) hC rfl dX4_comes_185 ?_
          refine ev_iconst (pc := 186) hC dX4_comes_186 ?_
          exact ev_zreturn (pc := 187) hC hR dX4_comes_187 (by decide) (⟨rv (by rw [doS_y hTa, isSome_ite]; exact b2iT (decide_eq_true (by omega))), by rw [doS_y hTa]; exact opt_imp (fun _ => hA182), hF182⟩)
        · refine ev_iconst (pc := 175) hC dX4_comes_175 ?_
          exact ev_zreturn (pc := 176) hC hR dX4_comes_176 (by decide) (⟨rv (by rw [doS_y hTa, isSome_ite]; exact b2iF (decide_eq_false (by omega))), by rw [doS_y hTa]; exact opt_imp (fun z => absurd z (by omega)), frS_rf 3 X⟩)
theorem mtX4_placeOfWrongForm : MT yX4_placeOfWrongForm wsX4_placeOfWrongForm cX4_placeOfWrongForm 4 (some .int) 0 := ⟨⟨_, rfl⟩, by decide, by decide, by decide +kernel⟩
set_option maxRecDepth 100000 in
set_option maxHeartbeats 4000000 in
theorem ru_X4_placeOfWrongForm {X : Mem} {T : Nat → Nat} {n : Nat} (hT : Txt X T n) : Ru yX4_placeOfWrongForm wsX4_placeOfWrongForm 2 42 [.ref 6] X (fun v X' => v = some (vi (wfR T n 100 0)) ∧ X = X') := by
  refine ru_of (w2 := _) rfl (by decide) [some (.ref 6), none, none, none] (fun _ => rfl) (fun _ => Nat.le_of_ble_eq_true rfl) ?_
  intro K hKn hC hR
  have wX4 : ∀ w ∈ u_ws RX4 TX4 4, w ∈ wsX4_placeOfWrongForm := by decide +kernel
  have f15 : Fl K RX4 15 4 3 := fl_of hC RX4 TX4 4 rfl (by decide) wX4 (show Cond.fieldLink RX4 15 "PicnicOfSomebody$Text" "size" "I" ∈ _ by decide +kernel)
  have f9 : Fl K RX4 9 4 0 := fl_of hC RX4 TX4 4 rfl (by decide) wX4 (show Cond.fieldLink RX4 9 "PicnicOfSomebody$Text" "letters" "[I" ∈ _ by decide +kernel)
  have hn96 := hT.2.1
  refine ev_iconst (pc := 0) hC dX4_placeOfWrongForm_0 ?_
  refine ev_istore_n (pc := 1) hC dX4_placeOfWrongForm_1 (by rw [hKn]; decide) rfl ?_
  show Ev K 2 [some (.ref 6), some (vi 0), none, none] [] X
  have lp2 : ∀ (fz : Nat) (a : Nat) (f : Nat), f < fz → (a ≤ n) → (n < a + f) → (wfR T n f a = wfR T n 100 0) → Ev K 2 [some (.ref 6), some (vi ((a : Nat) : Int)), none, none] [] X := by
    intro fz
    induction fz with
    | zero => intro a f hfz; exact absurd hfz (Nat.not_lt_zero _)
    | succ fz ih2 =>
      intro a f hfz ha hfu hw
      obtain ⟨g, rfl⟩ : ∃ g, f = g + 1 := ⟨f - 1, by omega⟩
      refine ev_iload_n (pc := 2) hC dX4_placeOfWrongForm_2 rfl ?_
      refine ev_aload_n (pc := 3) hC dX4_placeOfWrongForm_3 rfl ?_
      refine ev_geti (pc := 4) hC ((n : Nat) : Int) f15 dX4_placeOfWrongForm_4 (by decide) (by decide) (by decide) (by decide) (by decide)  (hT.1) ?_
      refine ev_icmp_ge (pc := 7) hC 22 dX4_placeOfWrongForm_7 (by decide) (by omega) (by omega) (fun c7 => ?_) (fun c7 => ?_)
      · refine ev_iconst (pc := 22) hC dX4_placeOfWrongForm_22 ?_
        refine ev_istore_n (pc := 23) hC dX4_placeOfWrongForm_23 (by rw [hKn]; decide) rfl ?_
        show Ev K 24 [some (.ref 6), some (vi ((a : Nat) : Int)), some (vi 0), none] [] X
        refine ev_iload_n (pc := 24) hC dX4_placeOfWrongForm_24 rfl ?_
        refine ev_if_ne (pc := 25) hC 30 dX4_placeOfWrongForm_25 (by decide) (by omega) (fun c25 => absurd c25 (by decide)) (fun c25 => ?_)
        refine ev_iload_n (pc := 28) hC dX4_placeOfWrongForm_28 rfl ?_
        exact ev_ireturn (pc := 29) hC hR dX4_placeOfWrongForm_29 (⟨rv (by rw [← hw, wfR_0 (stL_out (by omega))]), rfl⟩)
      · refine ev_aload_n (pc := 10) hC dX4_placeOfWrongForm_10 rfl ?_
        refine ev_getr (pc := 11) hC 9 f9 dX4_placeOfWrongForm_11 (by decide) (by decide) (by decide) (by decide) (by decide) ?_
        refine ev_iload_n (pc := 14) hC dX4_placeOfWrongForm_14 rfl ?_
        have hT15 := (hT.2.2 a (by omega)).2
        refine ev_iald (pc := 15) hC a ((T a : Nat) : Int) (by decide) (by decide) (rfl) (by have := (show alen 9 = 96 from rfl); omega) ((hT.2.2 a (by omega)).1) dX4_placeOfWrongForm_15 ?_
        refine ev_callS (pc := 16) (as := [vi ((T a : Nat) : Int)]) (rest := []) hC gX4_placeOfWrongForm_X4_lengthOf mtX4_lengthOf dX4_placeOfWrongForm_16 (ru_X4_lengthOf (T a) (by omega)) (by decide) (by rfl) (Nat.le_of_ble_eq_true rfl) rfl (fun v16 X16 h16 => ?_)
        obtain ⟨rfl, rfl⟩ := h16
        show Ev K 19 [some (.ref 6), some (vi ((a : Nat) : Int)), none, none] [vi ((lenT (T a) : Nat) : Int)] X
        have hlc16 := lenT_cases (T a)
        refine ev_goto (pc := 19) hC 23 dX4_placeOfWrongForm_19 (by decide) ?_
        refine ev_istore_n (pc := 23) hC dX4_placeOfWrongForm_23 (by rw [hKn]; decide) rfl ?_
        show Ev K 24 [some (.ref 6), some (vi ((a : Nat) : Int)), some (vi ((lenT (T a) : Nat) : Int)), none] [] X
        refine ev_iload_n (pc := 24) hC dX4_placeOfWrongForm_24 rfl ?_
        refine ev_if_ne (pc := 25) hC 30 dX4_placeOfWrongForm_25 (by decide) (by omega) (fun c25 => ?_) (fun c25 => ?_)
        · refine ev_iconst (pc := 30) hC dX4_placeOfWrongForm_30 ?_
          refine ev_istore_n (pc := 31) hC dX4_placeOfWrongForm_31 (by rw [hKn]; decide) rfl ?_
          show Ev K 32 [some (.ref 6), some (vi ((a : Nat) : Int)), some (vi ((lenT (T a) : Nat) : Int)), some (vi 1)] [] X
          have lp32 : ∀ (fz : Nat) (i : Nat), 10 - i < fz → (1 ≤ i ∧ i ≤ lenT (T a)) → (∀ j, j < i - 1 → (!(okT T n a (j + 1))) = false) → Ev K 32 [some (.ref 6), some (vi ((a : Nat) : Int)), some (vi ((lenT (T a) : Nat) : Int)), some (vi ((i : Nat) : Int))] [] X := by
            intro fz
            induction fz with
            | zero => intro i hfz; exact absurd hfz (Nat.not_lt_zero _)
            | succ fz ih32 =>
              intro i hfz hi hno
              refine ev_iload_n (pc := 32) hC dX4_placeOfWrongForm_32 rfl ?_
              refine ev_iload_n (pc := 33) hC dX4_placeOfWrongForm_33 rfl ?_
              refine ev_icmp_ge (pc := 34) hC 78 dX4_placeOfWrongForm_34 (by decide) (by omega) (by omega) (fun c34 => ?_) (fun c34 => ?_)
              · refine ev_iload_n (pc := 78) hC dX4_placeOfWrongForm_78 rfl ?_
                refine ev_iload_n (pc := 79) hC dX4_placeOfWrongForm_79 rfl ?_
                refine ev_iadd (pc := 80) hC ((a + (lenT (T a)) : Nat) : Int) (by omega) dX4_placeOfWrongForm_80 ?_
                refine ev_istore_n (pc := 81) hC dX4_placeOfWrongForm_81 (by rw [hKn]; decide) rfl ?_
                show Ev K 82 [some (.ref 6), some (vi ((a + (lenT (T a)) : Nat) : Int)), some (vi ((lenT (T a) : Nat) : Int)), some (vi ((i : Nat) : Int))] [] X
                refine ev_iload_n (pc := 82) hC dX4_placeOfWrongForm_82 rfl ?_
                refine ev_aload_n (pc := 83) hC dX4_placeOfWrongForm_83 rfl ?_
                refine ev_geti (pc := 84) hC ((n : Nat) : Int) f15 dX4_placeOfWrongForm_84 (by decide) (by decide) (by decide) (by decide) (by decide)  (hT.1) ?_
                refine ev_icmp_lt (pc := 87) hC 2 dX4_placeOfWrongForm_87 (by decide) (by omega) (by omega) (fun c87 => ?_) (fun c87 => ?_)
                · refine ev_drop 2 ?_
                  refine ev_drop 3 ?_
                  show Ev K 2 [some (.ref 6), some (vi ((a + (lenT (T a)) : Nat) : Int)), none, none] [] X
                  exact ih2 (a + (lenT (T a))) g (by omega) (by omega) (by omega) (by rw [← hw, wfR_step (by omega) (by omega) (fun j hj => hno j (by omega)), if_pos (by omega)])
                · refine ev_iconst (pc := 90) hC dX4_placeOfWrongForm_90 ?_
                  exact ev_ireturn (pc := 91) hC hR dX4_placeOfWrongForm_91 (⟨rv (by rw [← hw, wfR_step (by omega) (by omega) (fun j hj => hno j (by omega)), if_neg (by omega)]), rfl⟩)
              · refine ev_iload_n (pc := 37) hC dX4_placeOfWrongForm_37 rfl ?_
                refine ev_iload_n (pc := 38) hC dX4_placeOfWrongForm_38 rfl ?_
                refine ev_iadd (pc := 39) hC ((a + i : Nat) : Int) (by omega) dX4_placeOfWrongForm_39 ?_
                refine ev_aload_n (pc := 40) hC dX4_placeOfWrongForm_40 rfl ?_
                refine ev_geti (pc := 41) hC ((n : Nat) : Int) f15 dX4_placeOfWrongForm_41 (by decide) (by decide) (by decide) (by decide) (by decide)  (hT.1) ?_
                refine ev_icmp_ge (pc := 44) hC 68 dX4_placeOfWrongForm_44 (by decide) (by omega) (by omega) (fun c44 => ?_) (fun c44 => ?_)
                · have e : okT T n a i = false := ok_f1 (by omega)
                  refine ev_iload_n (pc := 68) hC dX4_placeOfWrongForm_68 rfl ?_
                  refine ev_iload_n (pc := 69) hC dX4_placeOfWrongForm_69 rfl ?_
                  refine ev_iadd (pc := 70) hC ((a + i : Nat) : Int) (by omega) dX4_placeOfWrongForm_70 ?_
                  exact ev_ireturn (pc := 71) hC hR dX4_placeOfWrongForm_71 (⟨rv (by rw [← hw, wfR_bad (by omega) (by omega) (by omega) hno e]; omega), rfl⟩)
                · refine ev_aload_n (pc := 47) hC dX4_placeOfWrongForm_47 rfl ?_
                  refine ev_getr (pc := 48) hC 9 f9 dX4_placeOfWrongForm_48 (by decide) (by decide) (by decide) (by decide) (by decide) ?_
                  refine ev_iload_n (pc := 51) hC dX4_placeOfWrongForm_51 rfl ?_
                  have hT52 := (hT.2.2 a (by omega)).2
                  refine ev_iald (pc := 52) hC a ((T a : Nat) : Int) (by decide) (by decide) (rfl) (by have := (show alen 9 = 96 from rfl); omega) ((hT.2.2 a (by omega)).1) dX4_placeOfWrongForm_52 ?_
                  refine ev_iload_n (pc := 53) hC dX4_placeOfWrongForm_53 rfl ?_
                  refine ev_aload_n (pc := 54) hC dX4_placeOfWrongForm_54 rfl ?_
                  refine ev_getr (pc := 55) hC 9 f9 dX4_placeOfWrongForm_55 (by decide) (by decide) (by decide) (by decide) (by decide) ?_
                  refine ev_iload_n (pc := 58) hC dX4_placeOfWrongForm_58 rfl ?_
                  refine ev_iload_n (pc := 59) hC dX4_placeOfWrongForm_59 rfl ?_
                  refine ev_iadd (pc := 60) hC ((a + i : Nat) : Int) (by omega) dX4_placeOfWrongForm_60 ?_
                  have hT61 := (hT.2.2 (a + i) (by omega)).2
                  refine ev_iald (pc := 61) hC (a + i) ((T (a + i) : Nat) : Int) (by decide) (by decide) (rfl) (by have := (show alen 9 = 96 from rfl); omega) ((hT.2.2 (a + i) (by omega)).1) dX4_placeOfWrongForm_61 ?_
                  refine ev_callS (pc := 62) (as := [vi ((T a : Nat) : Int), vi ((i : Nat) : Int), vi ((T (a + i) : Nat) : Int)]) (rest := []) hC gX4_placeOfWrongForm_X4_fits mtX4_fits dX4_placeOfWrongForm_62 (ru_X4_fits (T a) i (T (a + i)) (by omega) (by omega) (by omega)) (by decide) (by rfl) (Nat.le_of_ble_eq_true rfl) rfl (fun v62 X62 h62 => ?_)
                  obtain ⟨rfl, rfl⟩ := h62
                  show Ev K 65 [some (.ref 6), some (vi ((a : Nat) : Int)), some (vi ((lenT (T a) : Nat) : Int)), some (vi ((i : Nat) : Int))] [vi (b2i (fitT (T a) i (T (a + i))))] X
                  have hr62 := b2i_r (fitT (T a) i (T (a + i)))
                  refine ev_if_ne (pc := 65) hC 72 dX4_placeOfWrongForm_65 (by decide) (by omega) (fun c65 => ?_) (fun c65 => ?_)
                  · have e : okT T n a i = true := ok_t (by omega) (b2i_1 c65)
                    refine ev_iinc (pc := 72) hC ((i + 1 : Nat) : Int) dX4_placeOfWrongForm_72 rfl (by omega) (by rw [hKn]; decide) rfl ?_
                    show Ev K 75 [some (.ref 6), some (vi ((a : Nat) : Int)), some (vi ((lenT (T a) : Nat) : Int)), some (vi ((i + 1 : Nat) : Int))] [] X
                    refine ev_goto (pc := 75) hC 32 dX4_placeOfWrongForm_75 (by decide) ?_
                    exact ih32 (i + 1) (by omega) (by omega) (okstep (by omega) hno e)
                  · have e : okT T n a i = false := ok_f2 (b2i_0 c65)
                    refine ev_iload_n (pc := 68) hC dX4_placeOfWrongForm_68 rfl ?_
                    refine ev_iload_n (pc := 69) hC dX4_placeOfWrongForm_69 rfl ?_
                    refine ev_iadd (pc := 70) hC ((a + i : Nat) : Int) (by omega) dX4_placeOfWrongForm_70 ?_
                    exact ev_ireturn (pc := 71) hC hR dX4_placeOfWrongForm_71 (⟨rv (by rw [← hw, wfR_bad (by omega) (by omega) (by omega) hno e]; omega), rfl⟩)
          exact lp32 _ 1 (Nat.lt_succ_self _) (by omega) (fun j hj => absurd hj (by omega))
        · refine ev_iload_n (pc := 28) hC dX4_placeOfWrongForm_28 rfl ?_
          exact ev_ireturn (pc := 29) hC hR dX4_placeOfWrongForm_29 (⟨rv (by rw [← hw, wfR_0 (by rw [stL_in (by omega)]; omega)]), rfl⟩)
  exact lp2 _ 0 100 (Nat.lt_succ_self _) (by omega) (by omega) rfl
theorem mtX4_become : MT yX4_become wsX4_become cX4_become 4 (some .int) 0 := ⟨⟨_, rfl⟩, by decide, by decide, by decide +kernel⟩
set_option maxRecDepth 100000 in
set_option maxHeartbeats 4000000 in
theorem ru_X4_become {X : Mem} {T : Nat → Nat} {n : Nat} (hT : Txt X T n) {A : Sl} (hA : Rp (vC X 1) A) (hyA : A 5 1 ≤ 999) : Ru yX4_become wsX4_become 6 161 [.ref 6] X (fun v X' => v = some (vi (slopeS T n A).1) ∧ Rp (vC X' 1) (orA A (slopeS T n A).2) ∧ fr13 X X') := by
  refine ru_of (w2 := _) rfl (by decide) [some (.ref 6), none, none, none] (fun _ => rfl) (fun _ => Nat.le_of_ble_eq_true rfl) ?_
  intro K hKn hC hR
  have wX4 : ∀ w ∈ u_ws RX4 TX4 4, w ∈ wsX4_become := by decide +kernel
  have f23 : Fl K RX4 23 4 2 := fl_of hC RX4 TX4 4 rfl (by decide) wX4 (show Cond.fieldLink RX4 23 "PicnicOfSomebody$Text" "draft" "LPicnicOfSomebody$Slope;" ∈ _ by decide +kernel)
  have f19 : Fl K RX4 19 4 1 := fl_of hC RX4 TX4 4 rfl (by decide) wX4 (show Cond.fieldLink RX4 19 "PicnicOfSomebody$Text" "now" "LPicnicOfSomebody$Slope;" ∈ _ by decide +kernel)
  have f15 : Fl K RX4 15 4 3 := fl_of hC RX4 TX4 4 rfl (by decide) wX4 (show Cond.fieldLink RX4 15 "PicnicOfSomebody$Text" "size" "I" ∈ _ by decide +kernel)
  have f9 : Fl K RX4 9 4 0 := fl_of hC RX4 TX4 4 rfl (by decide) wX4 (show Cond.fieldLink RX4 9 "PicnicOfSomebody$Text" "letters" "[I" ∈ _ by decide +kernel)
  have hn96 := hT.2.1
  have hn8 := hA.n8
  refine ev_aload_n (pc := 0) hC dX4_become_0 rfl ?_
  refine ev_callV (pc := 1) (as := []) (rest := []) hC gX4_become_X4_placeOfWrongForm mtX4_placeOfWrongForm dX4_become_1 (ru_X4_placeOfWrongForm hT) (by decide) (by decide) (by decide) rfl (by rfl) (Nat.le_of_ble_eq_true rfl) rfl (fun v1 X1 h1 => ?_)
  obtain ⟨rfl, rfl⟩ := h1
  show Ev K 4 [some (.ref 6), none, none, none] [vi (wfR T n 100 0)] X
  have hwr1 := wfR_r T n 100 0
  refine ev_istore_n (pc := 4) hC dX4_become_4 (by rw [hKn]; decide) rfl ?_
  show Ev K 5 [some (.ref 6), some (vi (wfR T n 100 0)), none, none] [] X
  refine ev_iload_n (pc := 5) hC dX4_become_5 rfl ?_
  refine ev_if_lt (pc := 6) hC 15 dX4_become_6 (by decide) (by omega) (fun c6 => ?_) (fun c6 => ?_)
  · have hwn : wfR T n 100 0 < 0 := by omega
    refine ev_aload_n (pc := 15) hC dX4_become_15 rfl ?_
    refine ev_getr (pc := 16) hC 3 f23 dX4_become_16 (by decide) (by decide) (by decide) (by decide) (by decide) ?_
    refine ev_aload_n (pc := 19) hC dX4_become_19 rfl ?_
    refine ev_getr (pc := 20) hC 1 f19 dX4_become_20 (by decide) (by decide) (by decide) (by decide) (by decide) ?_
    refine ev_callV (pc := 23) (as := [.ref 1]) (rest := []) hC gX4_become_X3_take mtX3_take dX4_become_23 (ru_X3_take (s := 3) (t := 1) spl3 spl1 (by decide) hA) (by decide) (by decide) (by decide) rfl (by rfl) (Nat.le_of_ble_eq_true rfl) rfl (fun v23 X23 h23 => ?_)
    obtain ⟨rfl, hA23, hF23⟩ := h23
    show Ev K 26 [some (.ref 6), some (vi (wfR T n 100 0)), none, none] [] X23
    have hN123 := hA.fr31 hF23
    have hFr23 := frS_tr (frS_rf 3 X) hF23
    refine ev_iconst (pc := 26) hC dX4_become_26 ?_
    refine ev_istore_n (pc := 27) hC dX4_become_27 (by rw [hKn]; decide) rfl ?_
    show Ev K 28 [some (.ref 6), some (vi (wfR T n 100 0)), some (vi 0), none] [] X23
    refine ev_iconst (pc := 28) hC dX4_become_28 ?_
    refine ev_istore_n (pc := 29) hC dX4_become_29 (by rw [hKn]; decide) rfl ?_
    show Ev K 30 [some (.ref 6), some (vi (wfR T n 100 0)), some (vi 0), some (vi 0)] [] X23
    have lp30 : ∀ (fz : Nat) (a : Nat) (c : Nat) (f : Nat) (B : Sl) (Y : Mem), f < fz → (a ≤ 200) → (c ≤ a) → (n < a + f) → (runS T n f a c B = runS T n 100 0 0 A) → (a < n → wfR T n f a = -1) → (B 5 1 ≤ 999) → (Rp (vC Y 3) B) → (frS 3 X Y) → Ev K 30 [some (.ref 6), none, some (vi ((c : Nat) : Int)), some (vi ((a : Nat) : Int))] [] Y := by
      intro fz
      induction fz with
      | zero => intro a c f B Y hfz; exact absurd hfz (Nat.not_lt_zero _)
      | succ fz ih30 =>
        intro a c f B Y hfz ha hcc hfu hrun hwf hy h3 hF
        have hTY := hT.fr3 hF
        have hN := hA.fr31 hF
        refine ev_iload_n (pc := 30) hC dX4_become_30 rfl ?_
        refine ev_aload_n (pc := 31) hC dX4_become_31 rfl ?_
        refine ev_geti (pc := 32) hC ((n : Nat) : Int) f15 dX4_become_32 (by decide) (by decide) (by decide) (by decide) (by decide)  (hTY.1) ?_
        refine ev_icmp_ge (pc := 35) hC 74 dX4_become_35 (by decide) (by omega) (by omega) (fun c35 => ?_) (fun c35 => ?_)
        · refine ev_aload_n (pc := 74) hC dX4_become_74 rfl ?_
          refine ev_getr (pc := 75) hC 1 f19 dX4_become_75 (by decide) (by decide) (by decide) (by decide) (by decide) ?_
          refine ev_aload_n (pc := 78) hC dX4_become_78 rfl ?_
          refine ev_getr (pc := 79) hC 3 f23 dX4_become_79 (by decide) (by decide) (by decide) (by decide) (by decide) ?_
          refine ev_callV (pc := 82) (as := [.ref 3]) (rest := []) hC gX4_become_X3_take mtX3_take dX4_become_82 (ru_X3_take (s := 1) (t := 3) spl1 spl3 (by decide) h3) (by decide) (by decide) (by decide) rfl (by rfl) (Nat.le_of_ble_eq_true rfl) rfl (fun v82 X82 h82 => ?_)
          obtain ⟨rfl, hA82, hF82⟩ := h82
          show Ev K 85 [some (.ref 6), none, some (vi ((c : Nat) : Int)), some (vi ((a : Nat) : Int))] [] X82
          refine ev_iload_n (pc := 85) hC dX4_become_85 rfl ?_
          exact ev_ireturn (pc := 86) hC hR dX4_become_86 (⟨rv (by unfold slopeS; rw [if_neg (by omega), ← hrun, runS_ge (by omega)]), by unfold slopeS; rw [if_neg (by omega), ← hrun, runS_ge (by omega)]; exact hA82, fr13_of hF hF82⟩)
        · have hlt : a < n := by omega
          obtain ⟨g, rfl⟩ : ∃ g, f = g + 1 := ⟨f - 1, by omega⟩
          have hgd := wfR_good (hwf hlt)
          have hgl := hgd.1.2.1
          refine ev_aload_n (pc := 38) hC dX4_become_38 rfl ?_
          refine ev_iload_n (pc := 39) hC dX4_become_39 rfl ?_
          refine ev_callV (pc := 40) (as := [vi ((a : Nat) : Int)]) (rest := []) hC gX4_become_X4_comes mtX4_comes dX4_become_40 (ru_X4_comes hTY h3 hy a hgd.1) (by decide) (by decide) (by decide) rfl (by rfl) (Nat.le_of_ble_eq_true rfl) rfl (fun v40 X40 h40 => ?_)
          obtain ⟨rfl, hq40, hF40⟩ := h40
          show Ev K 43 [some (.ref 6), none, some (vi ((c : Nat) : Int)), some (vi ((a : Nat) : Int))] [vi (b2i ((doS T a B).isSome))] X40
          have hr40 := b2i_r (doS T a B).isSome
          have hFr40 := frS_tr hF hF40
          have hT40 := hT.fr3 hFr40
          refine ev_if_ne (pc := 43) hC 52 dX4_become_43 (by decide) (by omega) (fun c43 => ?_) (fun c43 => ?_)
          · obtain ⟨B2, hB2⟩ := isSome_ex (b2i_1 c43)
            refine ev_iinc (pc := 52) hC ((c + 1 : Nat) : Int) dX4_become_52 rfl (by omega) (by rw [hKn]; decide) rfl ?_
            show Ev K 55 [some (.ref 6), none, some (vi ((c + 1 : Nat) : Int)), some (vi ((a : Nat) : Int))] [] X40
            refine ev_iload_n (pc := 55) hC dX4_become_55 rfl ?_
            refine ev_iconst (pc := 56) hC dX4_become_56 ?_
            refine ev_aload_n (pc := 57) hC dX4_become_57 rfl ?_
            refine ev_getr (pc := 58) hC 9 f9 dX4_become_58 (by decide) (by decide) (by decide) (by decide) (by decide) ?_
            refine ev_iload_n (pc := 61) hC dX4_become_61 rfl ?_
            have hT62 := (hT40.2.2 a (by omega)).2
            refine ev_iald (pc := 62) hC a ((T a : Nat) : Int) (by decide) (by decide) (rfl) (by have := (show alen 9 = 96 from rfl); omega) ((hT40.2.2 a (by omega)).1) dX4_become_62 ?_
            refine ev_callS (pc := 63) (as := [vi ((T a : Nat) : Int)]) (rest := [vi 1, vi ((a : Nat) : Int)]) hC gX4_become_X4_lengthOf mtX4_lengthOf dX4_become_63 (ru_X4_lengthOf (T a) (by omega)) (by decide) (by rfl) (Nat.le_of_ble_eq_true rfl) rfl (fun v63 X63 h63 => ?_)
            obtain ⟨rfl, rfl⟩ := h63
            show Ev K 66 [some (.ref 6), none, some (vi ((c + 1 : Nat) : Int)), some (vi ((a : Nat) : Int))] [vi ((lenT (T a) : Nat) : Int), vi 1, vi ((a : Nat) : Int)] X40
            have hlc63 := lenT_cases (T a)
            refine ev_mmax (pc := 66) hC ((lenT (T a) : Nat) : Int) (by omega) (by omega) (by omega) (show Cond.methodLink RX4 48 Lib.Math.max.name ∈ _ by decide +kernel) (show Cond.static Lib.Math.max.name ∈ _ by decide +kernel) (show Cond.initialized "java/lang/Math" ∈ _ by decide +kernel) (show Cond.code Lib.Math.max.name Lib.Math.max.code 2 (some .int) ∈ _ by decide +kernel) (by decide) (by decide) (Nat.le_of_ble_eq_true rfl) dX4_become_66 ?_
            refine ev_iadd (pc := 69) hC ((a + (lenT (T a)) : Nat) : Int) (by omega) dX4_become_69 ?_
            refine ev_istore_n (pc := 70) hC dX4_become_70 (by rw [hKn]; decide) rfl ?_
            show Ev K 71 [some (.ref 6), none, some (vi ((c + 1 : Nat) : Int)), some (vi ((a + (lenT (T a)) : Nat) : Int))] [] X40
            refine ev_goto (pc := 71) hC 30 dX4_become_71 (by decide) ?_
            exact ih30 (a + (lenT (T a))) (c + 1) g B2 X40 (by omega) (by omega) (by omega) (by omega) (by rw [← hrun, runS_some hlt hB2]) hgd.2 (doS_year hy hB2) (hq40 B2 hB2) hFr40
          · have hB2 := isSome_no (b2i_0 c43)
            refine ev_sipush (pc := 46) hC dX4_become_46 (by decide) ?_
            refine ev_iload_n (pc := 49) hC dX4_become_49 rfl ?_
            refine ev_isub (pc := 50) hC ((-2000) - ((a : Nat) : Int)) (rfl) dX4_become_50 ?_
            exact ev_ireturn (pc := 51) hC hR dX4_become_51 (⟨rv (by unfold slopeS; rw [if_neg (by omega), ← hrun, runS_none hlt hB2]), by unfold slopeS; rw [if_neg (by omega), ← hrun, runS_none hlt hB2]; exact hA.fr31 hFr40, fr13_3 hFr40⟩)
    refine ev_drop 1 ?_
    show Ev K 30 [some (.ref 6), none, some (vi 0), some (vi 0)] [] X23
    exact lp30 _ 0 0 100 A X23 (Nat.lt_succ_self _) (by omega) (by omega) (by omega) rfl (fun _ => by omega) hyA hA23 hFr23
  · refine ev_sipush (pc := 9) hC dX4_become_9 (by decide) ?_
    refine ev_iload_n (pc := 12) hC dX4_become_12 rfl ?_
    refine ev_isub (pc := 13) hC ((-1000) - (wfR T n 100 0)) (rfl) dX4_become_13 ?_
    exact ev_ireturn (pc := 14) hC hR dX4_become_14 (⟨rv (by unfold slopeS; rw [if_pos (by omega)]), by unfold slopeS; rw [if_pos (by omega)]; exact hA, fr13_3 (frS_rf 3 X)⟩)
