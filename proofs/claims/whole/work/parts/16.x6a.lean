theorem mtX6_no : MT yX6_no wsX6_no cX6_no 2 (some .int) 1 := ⟨⟨_, rfl⟩, by decide, by decide, by decide +kernel⟩
set_option maxRecDepth 100000 in
set_option maxHeartbeats 4000000 in
theorem ru_X6_no {X : Mem} (k : Nat) (c : Int32) (hk : k < 7) (hc : X 30 k = c) : Ru yX6_no wsX6_no 0 0 [.ref 29, vi (-(k : Int))] X (fun v X' => v = some (vi (-(k : Int))) ∧ X' = mset X 30 k (c + 1)) := by
  refine ru_of (w2 := _) rfl (by decide) [some (.ref 29), some (vi (-(k : Int)))] (fun _ => rfl) (fun _ => Nat.le_of_ble_eq_true rfl) ?_
  intro K hKn hC hR
  have wX6 : ∀ w ∈ u_ws RX6 TX6 25, w ∈ wsX6_no := by decide +kernel
  have f7 : Fl K RX6 7 6 0 := fl_of hC RX6 TX6 25 rfl (by decide) wX6 (show Cond.fieldLink RX6 7 "PicnicOfSomebodyModel" "refused" "[I" ∈ _ by decide +kernel)
  refine ev_aload_n (pc := 0) hC dX6_no_0 rfl ?_
  refine ev_getr (pc := 1) hC 30 f7 dX6_no_1 (by decide) (by decide) (by decide) (by decide) (by decide) ?_
  refine ev_iload_n (pc := 4) hC dX6_no_4 rfl ?_
  refine ev_ineg (pc := 5) hC (- (-(k : Int))) (rfl) dX6_no_5 ?_
  refine ev_dup2 (pc := 6) hC rfl rfl dX6_no_6 ?_
  refine ev_iald (pc := 7) hC k c.toInt (by decide) (by decide) (by omega) (by have := (show alen 30 = 7 from rfl); omega) ((by rw [hc, zI_self])) dX6_no_7 ?_
  refine ev_iconst (pc := 8) hC dX6_no_8 ?_
  refine ev_iadd (pc := 9) hC (c.toInt + 1) (rfl) dX6_no_9 ?_
  refine ev_iast (pc := 10) hC k (by decide) (by decide) (by omega) (by have := (show alen 30 = 7 from rfl); omega) dX6_no_10 ?_
  refine ev_iload_n (pc := 11) hC dX6_no_11 rfl ?_
  exact ev_ireturn (pc := 12) hC hR dX6_no_12 (⟨rfl, by rw [zI_add1]⟩)
theorem mtX6_lower : MT yX6_lower wsX6_lower cX6_lower 2 (some .int) 1 := ⟨⟨_, rfl⟩, by decide, by decide, by decide +kernel⟩
set_option maxRecDepth 100000 in
set_option maxHeartbeats 4000000 in
theorem ru_X6_lower {X : Mem} (k : Nat) (c : Int32) (hk : k < 7) (hc : X 30 k = c) : Ru yX6_lower wsX6_lower 0 0 [.ref 29, vi (-(k : Int))] X (fun v X' => v = some (vi (1000000000 + (k : Int))) ∧ X' = mset X 30 k (c + 1)) := by
  refine ru_of (w2 := _) rfl (by decide) [some (.ref 29), some (vi (-(k : Int)))] (fun _ => rfl) (fun _ => Nat.le_of_ble_eq_true rfl) ?_
  intro K hKn hC hR
  have wX6 : ∀ w ∈ u_ws RX6 TX6 25, w ∈ wsX6_lower := by decide +kernel
  have f7 : Fl K RX6 7 6 0 := fl_of hC RX6 TX6 25 rfl (by decide) wX6 (show Cond.fieldLink RX6 7 "PicnicOfSomebodyModel" "refused" "[I" ∈ _ by decide +kernel)
  refine ev_aload_n (pc := 0) hC dX6_lower_0 rfl ?_
  refine ev_getr (pc := 1) hC 30 f7 dX6_lower_1 (by decide) (by decide) (by decide) (by decide) (by decide) ?_
  refine ev_iload_n (pc := 4) hC dX6_lower_4 rfl ?_
  refine ev_ineg (pc := 5) hC (- (-(k : Int))) (rfl) dX6_lower_5 ?_
  refine ev_dup2 (pc := 6) hC rfl rfl dX6_lower_6 ?_
  refine ev_iald (pc := 7) hC k c.toInt (by decide) (by decide) (by omega) (by have := (show alen 30 = 7 from rfl); omega) ((by rw [hc, zI_self])) dX6_lower_7 ?_
  refine ev_iconst (pc := 8) hC dX6_lower_8 ?_
  refine ev_iadd (pc := 9) hC (c.toInt + 1) (rfl) dX6_lower_9 ?_
  refine ev_iast (pc := 10) hC k (by decide) (by decide) (by omega) (by have := (show alen 30 = 7 from rfl); omega) dX6_lower_10 ?_
  refine ev_ldc (pc := 11) hC 1000000000 (show Cond.constant RX6 56 (1000000000) ∈ _ by decide +kernel) (by decide) dX6_lower_11 ?_
  refine ev_iload_n (pc := 13) hC dX6_lower_13 rfl ?_
  refine ev_isub (pc := 14) hC (1000000000 - (-(k : Int))) (rfl) dX6_lower_14 ?_
  exact ev_ireturn (pc := 15) hC hR dX6_lower_15 (⟨rv (by omega), by rw [zI_add1]⟩)
theorem mtX6_lowest : MT yX6_lowest wsX6_lowest cX6_lowest 2 (some .long) 1 := ⟨⟨_, rfl⟩, by decide, by decide, by decide +kernel⟩
set_option maxRecDepth 100000 in
set_option maxHeartbeats 4000000 in
theorem ru_X6_lowest {X : Mem} (k : Nat) (c : Int32) (hk : k < 7) (hc : X 30 k = c) : Ru yX6_lowest wsX6_lowest 0 0 [.ref 29, vi (-(k : Int))] X (fun v X' => v = some (vl (4000000000000000000 + (k : Int))) ∧ X' = mset X 30 k (c + 1)) := by
  refine ru_of (w2 := _) rfl (by decide) [some (.ref 29), some (vi (-(k : Int)))] (fun _ => rfl) (fun _ => Nat.le_of_ble_eq_true rfl) ?_
  intro K hKn hC hR
  have wX6 : ∀ w ∈ u_ws RX6 TX6 25, w ∈ wsX6_lowest := by decide +kernel
  have f7 : Fl K RX6 7 6 0 := fl_of hC RX6 TX6 25 rfl (by decide) wX6 (show Cond.fieldLink RX6 7 "PicnicOfSomebodyModel" "refused" "[I" ∈ _ by decide +kernel)
  refine ev_aload_n (pc := 0) hC dX6_lowest_0 rfl ?_
  refine ev_getr (pc := 1) hC 30 f7 dX6_lowest_1 (by decide) (by decide) (by decide) (by decide) (by decide) ?_
  refine ev_iload_n (pc := 4) hC dX6_lowest_4 rfl ?_
  refine ev_ineg (pc := 5) hC (- (-(k : Int))) (rfl) dX6_lowest_5 ?_
  refine ev_dup2 (pc := 6) hC rfl rfl dX6_lowest_6 ?_
  refine ev_iald (pc := 7) hC k c.toInt (by decide) (by decide) (by omega) (by have := (show alen 30 = 7 from rfl); omega) ((by rw [hc, zI_self])) dX6_lowest_7 ?_
  refine ev_iconst (pc := 8) hC dX6_lowest_8 ?_
  refine ev_iadd (pc := 9) hC (c.toInt + 1) (rfl) dX6_lowest_9 ?_
  refine ev_iast (pc := 10) hC k (by decide) (by decide) (by omega) (by have := (show alen 30 = 7 from rfl); omega) dX6_lowest_10 ?_
  refine ev_ldc2 (pc := 11) hC 4000000000000000000 (show Cond.constantLong RX6 57 (4000000000000000000) ∈ _ by decide +kernel) (by decide) dX6_lowest_11 ?_
  refine ev_iload_n (pc := 14) hC dX6_lowest_14 rfl ?_
  refine ev_i2l (pc := 15) hC (by omega) dX6_lowest_15 ?_
  refine ev_lsub (pc := 16) hC (4000000000000000000 - (-(k : Int))) (rfl) dX6_lowest_16 ?_
  exact ev_lreturn (pc := 17) hC hR dX6_lowest_17 (⟨rl (by omega), by rw [zI_add1]⟩)
theorem mtX6_isIn : MT yX6_isIn wsX6_isIn cX6_isIn 3 (some .boolean) 3 := ⟨⟨_, rfl⟩, by decide, by decide, by decide +kernel⟩
set_option maxRecDepth 100000 in
set_option maxHeartbeats 4000000 in
theorem ru_X6_isIn {X : Mem} (x a b : Int) (hx : -2147483648 ≤ x ∧ x ≤ 2147483647) (ha : -2147483648 ≤ a ∧ a ≤ 2147483647) (hb : -2147483648 ≤ b ∧ b ≤ 2147483647) : Ru yX6_isIn wsX6_isIn 0 0 [vi x, vi a, vi b] X (fun v X' => v = some (vi (b2i (decide (a ≤ x ∧ x ≤ b)))) ∧ X = X') := by
  refine ru_of (w2 := _) rfl (by decide) [some (vi x), some (vi a), some (vi b)] (fun _ => rfl) (fun _ => Nat.le_of_ble_eq_true rfl) ?_
  intro K hKn hC hR
  refine ev_iload_n (pc := 0) hC dX6_isIn_0 rfl ?_
  refine ev_iload_n (pc := 1) hC dX6_isIn_1 rfl ?_
  refine ev_icmp_lt (pc := 2) hC 14 dX6_isIn_2 (by decide) (by omega) (by omega) (fun c2 => ?_) (fun c2 => ?_)
  · refine ev_iconst (pc := 14) hC dX6_isIn_14 ?_
    exact ev_zreturn (pc := 15) hC hR dX6_isIn_15 (by decide) (⟨rv (by first | exact b2iT (decide_eq_true (by omega)) | exact b2iF (decide_eq_false (by omega))), rfl⟩)
  · refine ev_iload_n (pc := 5) hC dX6_isIn_5 rfl ?_
    refine ev_iload_n (pc := 6) hC dX6_isIn_6 rfl ?_
    refine ev_icmp_gt (pc := 7) hC 14 dX6_isIn_7 (by decide) (by omega) (by omega) (fun c7 => ?_) (fun c7 => ?_)
    · refine ev_iconst (pc := 14) hC dX6_isIn_14 ?_
      exact ev_zreturn (pc := 15) hC hR dX6_isIn_15 (by decide) (⟨rv (by first | exact b2iT (decide_eq_true (by omega)) | exact b2iF (decide_eq_false (by omega))), rfl⟩)
    · refine ev_iconst (pc := 10) hC dX6_isIn_10 ?_
      refine ev_goto (pc := 11) hC 15 dX6_isIn_11 (by decide) ?_
      exact ev_zreturn (pc := 15) hC hR dX6_isIn_15 (by decide) (⟨rv (by first | exact b2iT (decide_eq_true (by omega)) | exact b2iF (decide_eq_false (by omega))), rfl⟩)
theorem mtX6_bound : MT yX6_bound wsX6_bound cX6_bound 3 (some .int) 3 := ⟨⟨_, rfl⟩, by decide, by decide, by decide +kernel⟩
set_option maxRecDepth 100000 in
set_option maxHeartbeats 4000000 in
theorem ru_X6_bound {X : Mem} (x a b : Int) (hx : -2147483648 ≤ x ∧ x ≤ 2147483647) (ha : -2147483648 ≤ a ∧ a ≤ 2147483647) (hb : -2147483648 ≤ b ∧ b ≤ 2147483647) : Ru yX6_bound wsX6_bound 0 0 [vi x, vi a, vi b] X (fun v X' => v = some (vi (bnd x a b)) ∧ X = X') := by
  refine ru_of (w2 := _) rfl (by decide) [some (vi x), some (vi a), some (vi b)] (fun _ => rfl) (fun _ => Nat.le_of_ble_eq_true rfl) ?_
  intro K hKn hC hR
  refine ev_iload_n (pc := 0) hC dX6_bound_0 rfl ?_
  refine ev_iload_n (pc := 1) hC dX6_bound_1 rfl ?_
  refine ev_icmp_ge (pc := 2) hC 10 dX6_bound_2 (by decide) (by omega) (by omega) (fun c2 => ?_) (fun c2 => ?_)
  · refine ev_iload_n (pc := 10) hC dX6_bound_10 rfl ?_
    refine ev_iload_n (pc := 11) hC dX6_bound_11 rfl ?_
    refine ev_icmp_le (pc := 12) hC 20 dX6_bound_12 (by decide) (by omega) (by omega) (fun c12 => ?_) (fun c12 => ?_)
    · refine ev_iconst (pc := 20) hC dX6_bound_20 ?_
      exact ev_ireturn (pc := 21) hC hR dX6_bound_21 (⟨rv (by have := bnd_cases x a b; omega), rfl⟩)
    · refine ev_bipush (pc := 15) hC dX6_bound_15 (by decide) ?_
      refine ev_goto (pc := 17) hC 21 dX6_bound_17 (by decide) ?_
      exact ev_ireturn (pc := 21) hC hR dX6_bound_21 (⟨rv (by have := bnd_cases x a b; omega), rfl⟩)
  · refine ev_bipush (pc := 5) hC dX6_bound_5 (by decide) ?_
    refine ev_goto (pc := 7) hC 21 dX6_bound_7 (by decide) ?_
    exact ev_ireturn (pc := 21) hC hR dX6_bound_21 (⟨rv (by have := bnd_cases x a b; omega), rfl⟩)
theorem mtX6_held : MT yX6_held wsX6_held cX6_held 3 (some .int) 3 := ⟨⟨_, rfl⟩, by decide, by decide, by decide +kernel⟩
set_option maxRecDepth 100000 in
set_option maxHeartbeats 4000000 in
theorem ru_X6_held {X : Mem} (x a b : Int) (hx : -2147483648 ≤ x ∧ x ≤ 2147483647) (ha : -2147483648 ≤ a ∧ a ≤ 2147483647) (hb : -2147483648 ≤ b ∧ b ≤ 2147483647) : Ru yX6_held wsX6_held 0 0 [vi x, vi a, vi b] X (fun v X' => v = some (vi (hld x a b)) ∧ X = X') := by
  refine ru_of (w2 := _) rfl (by decide) [some (vi x), some (vi a), some (vi b)] (fun _ => rfl) (fun _ => Nat.le_of_ble_eq_true rfl) ?_
  intro K hKn hC hR
  refine ev_iload_n (pc := 0) hC dX6_held_0 rfl ?_
  refine ev_iload_n (pc := 1) hC dX6_held_1 rfl ?_
  refine ev_icmp_ge (pc := 2) hC 9 dX6_held_2 (by decide) (by omega) (by omega) (fun c2 => ?_) (fun c2 => ?_)
  · refine ev_iload_n (pc := 9) hC dX6_held_9 rfl ?_
    refine ev_iload_n (pc := 10) hC dX6_held_10 rfl ?_
    refine ev_icmp_le (pc := 11) hC 18 dX6_held_11 (by decide) (by omega) (by omega) (fun c11 => ?_) (fun c11 => ?_)
    · refine ev_iload_n (pc := 18) hC dX6_held_18 rfl ?_
      exact ev_ireturn (pc := 19) hC hR dX6_held_19 (⟨rv (by have := hld_cases x a b; omega), rfl⟩)
    · refine ev_iload_n (pc := 14) hC dX6_held_14 rfl ?_
      refine ev_goto (pc := 15) hC 19 dX6_held_15 (by decide) ?_
      exact ev_ireturn (pc := 19) hC hR dX6_held_19 (⟨rv (by have := hld_cases x a b; omega), rfl⟩)
  · refine ev_iload_n (pc := 5) hC dX6_held_5 rfl ?_
    refine ev_goto (pc := 6) hC 19 dX6_held_6 (by decide) ?_
    exact ev_ireturn (pc := 19) hC hR dX6_held_19 (⟨rv (by have := hld_cases x a b; omega), rfl⟩)
theorem mtX6_has : MT yX6_has wsX6_has cX6_has 2 (some .boolean) 2 := ⟨⟨_, rfl⟩, by decide, by decide, by decide +kernel⟩
set_option maxRecDepth 100000 in
set_option maxHeartbeats 4000000 in
theorem ru_X6_has {X : Mem} (S k : Nat) (hS : S < 2147483648) (hk : k < 31) : Ru yX6_has wsX6_has 0 0 [vi ((S : Nat) : Int), vi ((k : Nat) : Int)] X (fun v X' => v = some (vi (b2i (S.testBit k))) ∧ X = X') := by
  refine ru_of (w2 := _) rfl (by decide) [some (vi ((S : Nat) : Int)), some (vi ((k : Nat) : Int))] (fun _ => rfl) (fun _ => Nat.le_of_ble_eq_true rfl) ?_
  intro K hKn hC hR
  refine ev_iload_n (pc := 0) hC dX6_has_0 rfl ?_
  refine ev_iload_n (pc := 1) hC dX6_has_1 rfl ?_
  refine ev_ishr (pc := 2) hC ((S / 2 ^ k : Nat) : Int) (zI_shr (a := S) (k := k) (by omega) (by omega)) dX6_has_2 ?_
  have hdv : S / 2 ^ k ≤ S := Nat.div_le_self _ _
  have hm2 : S / 2 ^ k &&& 1 = S / 2 ^ k % 2 := and1 _
  refine ev_iconst (pc := 3) hC dX6_has_3 ?_
  refine ev_iand (pc := 4) hC (((S / 2 ^ k) &&& 1 : Nat) : Int) (zI_and (S / 2 ^ k) 1) dX6_has_4 ?_
  refine ev_iconst (pc := 5) hC dX6_has_5 ?_
  refine ev_icmp_ne (pc := 6) hC 13 dX6_has_6 (by decide) (by omega) (by omega) (fun c6 => ?_) (fun c6 => ?_)
  · refine ev_iconst (pc := 13) hC dX6_has_13 ?_
    exact ev_zreturn (pc := 14) hC hR dX6_has_14 (by decide) (⟨rv (by rw [tb_div]; first | exact b2iT (decide_eq_true (by omega)) | exact b2iF (decide_eq_false (by omega))), rfl⟩)
  · refine ev_iconst (pc := 9) hC dX6_has_9 ?_
    refine ev_goto (pc := 10) hC 14 dX6_has_10 (by decide) ?_
    exact ev_zreturn (pc := 14) hC hR dX6_has_14 (by decide) (⟨rv (by rw [tb_div]; first | exact b2iT (decide_eq_true (by omega)) | exact b2iF (decide_eq_false (by omega))), rfl⟩)
theorem mtX6_bits : MT yX6_bits wsX6_bits cX6_bits 3 (some .int) 1 := ⟨⟨_, rfl⟩, by decide, by decide, by decide +kernel⟩
set_option maxRecDepth 100000 in
set_option maxHeartbeats 4000000 in
theorem ru_X6_bits {X : Mem} (S : Nat) (hS : S < 2147483648) : Ru yX6_bits wsX6_bits 0 0 [vi ((S : Nat) : Int)] X (fun v X' => v = some (vi (pop S)) ∧ X = X') := by
  refine ru_of (w2 := _) rfl (by decide) [some (vi ((S : Nat) : Int)), none, none] (fun _ => rfl) (fun _ => Nat.le_of_ble_eq_true rfl) ?_
  intro K hKn hC hR
  refine ev_iconst (pc := 0) hC dX6_bits_0 ?_
  refine ev_istore_n (pc := 1) hC dX6_bits_1 (by rw [hKn]; decide) rfl ?_
  show Ev K 2 [some (vi ((S : Nat) : Int)), some (vi 0), none] [] X
  refine ev_iconst (pc := 2) hC dX6_bits_2 ?_
  refine ev_istore_n (pc := 3) hC dX6_bits_3 (by rw [hKn]; decide) rfl ?_
  show Ev K 4 [some (vi ((S : Nat) : Int)), some (vi 0), some (vi 0)] [] X
  have lp4 : ∀ (fz : Nat) (i : Nat) (b : Nat), 31 - i < fz → (i ≤ 31) → (b = cntB i (fun k => S.testBit k)) → (b ≤ i) → Ev K 4 [some (vi ((S : Nat) : Int)), some (vi ((b : Nat) : Int)), some (vi ((i : Nat) : Int))] [] X := by
    intro fz
    induction fz with
    | zero => intro i b hfz; exact absurd hfz (Nat.not_lt_zero _)
    | succ fz ih4 =>
      intro i b hfz hi hb hbl
      refine ev_iload_n (pc := 4) hC dX6_bits_4 rfl ?_
      refine ev_bipush (pc := 5) hC dX6_bits_5 (by decide) ?_
      refine ev_icmp_ge (pc := 7) hC 24 dX6_bits_7 (by decide) (by omega) (by omega) (fun c7 => ?_) (fun c7 => ?_)
      · refine ev_iload_n (pc := 24) hC dX6_bits_24 rfl ?_
        exact ev_ireturn (pc := 25) hC hR dX6_bits_25 (⟨rv (by rw [hb, show i = 31 by omega]; rfl), rfl⟩)
      · refine ev_iload_n (pc := 10) hC dX6_bits_10 rfl ?_
        refine ev_iload_n (pc := 11) hC dX6_bits_11 rfl ?_
        refine ev_iload_n (pc := 12) hC dX6_bits_12 rfl ?_
        refine ev_ishr (pc := 13) hC ((S / 2 ^ i : Nat) : Int) (zI_shr (a := S) (k := i) (by omega) (by omega)) dX6_bits_13 ?_
        have hdv : S / 2 ^ i ≤ S := Nat.div_le_self _ _
        have hm2 : S / 2 ^ i &&& 1 = S / 2 ^ i % 2 := and1 _
        refine ev_iconst (pc := 14) hC dX6_bits_14 ?_
        refine ev_iand (pc := 15) hC (((S / 2 ^ i) &&& 1 : Nat) : Int) (zI_and (S / 2 ^ i) 1) dX6_bits_15 ?_
        refine ev_iadd (pc := 16) hC ((b + ((S / 2 ^ i) &&& 1) : Nat) : Int) (by omega) dX6_bits_16 ?_
        refine ev_istore_n (pc := 17) hC dX6_bits_17 (by rw [hKn]; decide) rfl ?_
        show Ev K 18 [some (vi ((S : Nat) : Int)), some (vi ((b + ((S / 2 ^ i) &&& 1) : Nat) : Int)), some (vi ((i : Nat) : Int))] [] X
        refine ev_iinc (pc := 18) hC ((i + 1 : Nat) : Int) dX6_bits_18 rfl (by omega) (by rw [hKn]; decide) rfl ?_
        show Ev K 21 [some (vi ((S : Nat) : Int)), some (vi ((b + ((S / 2 ^ i) &&& 1) : Nat) : Int)), some (vi ((i + 1 : Nat) : Int))] [] X
        refine ev_goto (pc := 21) hC 4 dX6_bits_21 (by decide) ?_
        exact ih4 (i + 1) (b + ((S / 2 ^ i) &&& 1)) (by omega) (by omega) (pop_step hb) (by omega)
  exact lp4 _ 0 0 (Nat.lt_succ_self _) (by omega) rfl (by omega)
theorem mtX6_isCell : MT yX6_isCell wsX6_isCell cX6_isCell 1 (some .boolean) 1 := ⟨⟨_, rfl⟩, by decide, by decide, by decide +kernel⟩
set_option maxRecDepth 100000 in
set_option maxHeartbeats 4000000 in
theorem ru_X6_isCell {X : Mem} (x : Int) (hx : -2147483648 ≤ x ∧ x ≤ 2147483647) : Ru yX6_isCell wsX6_isCell 0 0 [vi x] X (fun v X' => v = some (vi (b2i (decide (0 ≤ x ∧ x < 25)))) ∧ X = X') := by
  refine ru_of (w2 := _) rfl (by decide) [some (vi x)] (fun _ => rfl) (fun _ => Nat.le_of_ble_eq_true rfl) ?_
  intro K hKn hC hR
  refine ev_iload_n (pc := 0) hC dX6_isCell_0 rfl ?_
  refine ev_if_lt (pc := 1) hC 14 dX6_isCell_1 (by decide) (by omega) (fun c1 => ?_) (fun c1 => ?_)
  · refine ev_iconst (pc := 14) hC dX6_isCell_14 ?_
    exact ev_zreturn (pc := 15) hC hR dX6_isCell_15 (by decide) (⟨rv (by first | exact b2iT (decide_eq_true (by omega)) | exact b2iF (decide_eq_false (by omega))), rfl⟩)
  · refine ev_iload_n (pc := 4) hC dX6_isCell_4 rfl ?_
    refine ev_bipush (pc := 5) hC dX6_isCell_5 (by decide) ?_
    refine ev_icmp_ge (pc := 7) hC 14 dX6_isCell_7 (by decide) (by omega) (by omega) (fun c7 => ?_) (fun c7 => ?_)
    · refine ev_iconst (pc := 14) hC dX6_isCell_14 ?_
      exact ev_zreturn (pc := 15) hC hR dX6_isCell_15 (by decide) (⟨rv (by first | exact b2iT (decide_eq_true (by omega)) | exact b2iF (decide_eq_false (by omega))), rfl⟩)
    · refine ev_iconst (pc := 10) hC dX6_isCell_10 ?_
      refine ev_goto (pc := 11) hC 15 dX6_isCell_11 (by decide) ?_
      exact ev_zreturn (pc := 15) hC hR dX6_isCell_15 (by decide) (⟨rv (by first | exact b2iT (decide_eq_true (by omega)) | exact b2iF (decide_eq_false (by omega))), rfl⟩)
theorem mtX6_isOne : MT yX6_isOne wsX6_isOne cX6_isOne 2 (some .boolean) 1 := ⟨⟨_, rfl⟩, by decide, by decide, by decide +kernel⟩
set_option maxRecDepth 100000 in
set_option maxHeartbeats 4000000 in
theorem ru_X6_isOne {X : Mem} {A : Sl} (hA : Rp (vM X) A) (x : Int) (hx : -2147483648 ≤ x ∧ x ≤ 2147483647) : Ru yX6_isOne wsX6_isOne 0 0 [.ref 29, vi x] X (fun v X' => v = some (vi (b2i (decide (0 ≤ x ∧ x < (A 5 0 : Int))))) ∧ X = X') := by
  refine ru_of (w2 := _) rfl (by decide) [some (.ref 29), some (vi x)] (fun _ => rfl) (fun _ => Nat.le_of_ble_eq_true rfl) ?_
  intro K hKn hC hR
  have wX6 : ∀ w ∈ u_ws RX6 TX6 25, w ∈ wsX6_isOne := by decide +kernel
  have f52 : Fl K RX6 52 6 6 := fl_of hC RX6 TX6 25 rfl (by decide) wX6 (show Cond.fieldLink RX6 52 "PicnicOfSomebodyModel" "people" "I" ∈ _ by decide +kernel)
  have hn8 := hA.n8
  refine ev_iload_n (pc := 0) hC dX6_isOne_0 rfl ?_
  refine ev_if_lt (pc := 1) hC 16 dX6_isOne_1 (by decide) (by omega) (fun c1 => ?_) (fun c1 => ?_)
  · refine ev_iconst (pc := 16) hC dX6_isOne_16 ?_
    exact ev_zreturn (pc := 17) hC hR dX6_isOne_17 (by decide) (⟨rv (by first | exact b2iT (decide_eq_true (by omega)) | exact b2iF (decide_eq_false (by omega))), rfl⟩)
  · refine ev_iload_n (pc := 4) hC dX6_isOne_4 rfl ?_
    refine ev_aload_n (pc := 5) hC dX6_isOne_5 rfl ?_
    refine ev_geti (pc := 6) hC ((A 5 0 : Nat) : Int) f52 dX6_isOne_6 (by decide) (by decide) (by decide) (by decide) (by decide)  (hA.mn) ?_
    refine ev_icmp_ge (pc := 9) hC 16 dX6_isOne_9 (by decide) (by omega) (by omega) (fun c9 => ?_) (fun c9 => ?_)
    · refine ev_iconst (pc := 16) hC dX6_isOne_16 ?_
      exact ev_zreturn (pc := 17) hC hR dX6_isOne_17 (by decide) (⟨rv (by first | exact b2iT (decide_eq_true (by omega)) | exact b2iF (decide_eq_false (by omega))), rfl⟩)
    · refine ev_iconst (pc := 12) hC dX6_isOne_12 ?_
      refine ev_goto (pc := 13) hC 17 dX6_isOne_13 (by decide) ?_
      exact ev_zreturn (pc := 17) hC hR dX6_isOne_17 (by decide) (⟨rv (by first | exact b2iT (decide_eq_true (by omega)) | exact b2iF (decide_eq_false (by omega))), rfl⟩)
theorem mtX6_isThere : MT yX6_isThere wsX6_isThere cX6_isThere 2 (some .boolean) 1 := ⟨⟨_, rfl⟩, by decide, by decide, by decide +kernel⟩
set_option maxRecDepth 100000 in
set_option maxHeartbeats 4000000 in
theorem ru_X6_isThere {X : Mem} {A : Sl} {G : Nat} (hA : Rp (vM X) A) (hg : X 29 8 = zI (G : Nat)) (hG : G < 256) (q : Nat) (hq : q < 8) (t : Bool) (ht : t = (decide (q < A 5 0) && !(Nat.testBit G q))) : Ru yX6_isThere wsX6_isThere 1 21 [.ref 29, vi ((q : Nat) : Int)] X (fun v X' => v = some (vi (b2i t)) ∧ X = X') := by
  refine ru_of (w2 := _) rfl (by decide) [some (.ref 29), some (vi ((q : Nat) : Int))] (fun _ => rfl) (fun _ => Nat.le_of_ble_eq_true rfl) ?_
  intro K hKn hC hR
  have wX6 : ∀ w ∈ u_ws RX6 TX6 25, w ∈ wsX6_isThere := by decide +kernel
  have f52 : Fl K RX6 52 6 6 := fl_of hC RX6 TX6 25 rfl (by decide) wX6 (show Cond.fieldLink RX6 52 "PicnicOfSomebodyModel" "people" "I" ∈ _ by decide +kernel)
  have f59 : Fl K RX6 59 6 8 := fl_of hC RX6 TX6 25 rfl (by decide) wX6 (show Cond.fieldLink RX6 59 "PicnicOfSomebodyModel" "gone" "I" ∈ _ by decide +kernel)
  have hn8 := hA.n8
  refine ev_iload_n (pc := 0) hC dX6_isThere_0 rfl ?_
  refine ev_aload_n (pc := 1) hC dX6_isThere_1 rfl ?_
  refine ev_geti (pc := 2) hC ((A 5 0 : Nat) : Int) f52 dX6_isThere_2 (by decide) (by decide) (by decide) (by decide) (by decide)  (hA.mn) ?_
  refine ev_icmp_ge (pc := 5) hC 23 dX6_isThere_5 (by decide) (by omega) (by omega) (fun c5 => ?_) (fun c5 => ?_)
  · have e1 : ¬ q < A 5 0 := by omega
    refine ev_iconst (pc := 23) hC dX6_isThere_23 ?_
    exact ev_zreturn (pc := 24) hC hR dX6_isThere_24 (by decide) (⟨rv (b2iF (by rw [ht]; simp [e1])), rfl⟩)
  · have e1 : q < A 5 0 := by omega
    refine ev_aload_n (pc := 8) hC dX6_isThere_8 rfl ?_
    refine ev_geti (pc := 9) hC ((G : Nat) : Int) f59 dX6_isThere_9 (by decide) (by decide) (by decide) (by decide) (by decide)  (hg) ?_
    refine ev_iload_n (pc := 12) hC dX6_isThere_12 rfl ?_
    refine ev_callS (pc := 13) (as := [vi ((G : Nat) : Int), vi ((q : Nat) : Int)]) (rest := []) hC gX6_isThere_X6_has mtX6_has dX6_isThere_13 (ru_X6_has G q (by omega) (by omega)) (by decide) (by rfl) (Nat.le_of_ble_eq_true rfl) rfl (fun v13 X13 h13 => ?_)
    obtain ⟨rfl, rfl⟩ := h13
    show Ev K 16 [some (.ref 29), some (vi ((q : Nat) : Int))] [vi (b2i (Nat.testBit G q))] X
    have hr13 := b2i_r (Nat.testBit G q)
    refine ev_if_ne (pc := 16) hC 23 dX6_isThere_16 (by decide) (by omega) (fun c16 => ?_) (fun c16 => ?_)
    · have e2 := b2i_1 c16
      refine ev_iconst (pc := 23) hC dX6_isThere_23 ?_
      exact ev_zreturn (pc := 24) hC hR dX6_isThere_24 (by decide) (⟨rv (b2iF (by rw [ht, e2]; simp)), rfl⟩)
    · have e2 := b2i_0 c16
      refine ev_iconst (pc := 19) hC dX6_isThere_19 ?_
      refine ev_goto (pc := 20) hC 24 dX6_isThere_20 (by decide) ?_
      exact ev_zreturn (pc := 24) hC hR dX6_isThere_24 (by decide) (⟨rv (b2iT (by rw [ht, e2]; simp [e1])), rfl⟩)
theorem mtX6_far : MT yX6_far wsX6_far cX6_far 2 (some .int) 2 := ⟨⟨_, rfl⟩, by decide, by decide, by decide +kernel⟩
set_option maxRecDepth 100000 in
set_option maxHeartbeats 4000000 in
theorem ru_X6_far {X : Mem} (a b : Nat) (ha : a < 1000) (hb : b < 1000) : Ru yX6_far wsX6_far 0 0 [vi ((a : Nat) : Int), vi ((b : Nat) : Int)] X (fun v X' => v = some (vi (far a b)) ∧ X = X') := by
  refine ru_of (w2 := _) rfl (by decide) [some (vi ((a : Nat) : Int)), some (vi ((b : Nat) : Int))] (fun _ => rfl) (fun _ => Nat.le_of_ble_eq_true rfl) ?_
  intro K hKn hC hR
  refine ev_iload_n (pc := 0) hC dX6_far_0 rfl ?_
  refine ev_iload_n (pc := 1) hC dX6_far_1 rfl ?_
  refine ev_icmp_le (pc := 2) hC 11 dX6_far_2 (by decide) (by omega) (by omega) (fun c2 => ?_) (fun c2 => ?_)
  · refine ev_iload_n (pc := 11) hC dX6_far_11 rfl ?_
    refine ev_iload_n (pc := 12) hC dX6_far_12 rfl ?_
    refine ev_isub (pc := 13) hC (((b : Nat) : Int) - ((a : Nat) : Int)) (rfl) dX6_far_13 ?_
    exact ev_ireturn (pc := 14) hC hR dX6_far_14 (⟨rv (by unfold far; omega), rfl⟩)
  · refine ev_iload_n (pc := 5) hC dX6_far_5 rfl ?_
    refine ev_iload_n (pc := 6) hC dX6_far_6 rfl ?_
    refine ev_isub (pc := 7) hC (((a : Nat) : Int) - ((b : Nat) : Int)) (rfl) dX6_far_7 ?_
    refine ev_goto (pc := 8) hC 14 dX6_far_8 (by decide) ?_
    exact ev_ireturn (pc := 14) hC hR dX6_far_14 (⟨rv (by unfold far; omega), rfl⟩)
theorem mtX6_steps : MT yX6_steps wsX6_steps cX6_steps 2 (some .int) 2 := ⟨⟨_, rfl⟩, by decide, by decide, by decide +kernel⟩
set_option maxRecDepth 100000 in
set_option maxHeartbeats 4000000 in
theorem ru_X6_steps {X : Mem} (a b : Nat) (ha : a < 25) (hb : b < 25) : Ru yX6_steps wsX6_steps 1 21 [vi ((a : Nat) : Int), vi ((b : Nat) : Int)] X (fun v X' => v = some (vi (stp a b)) ∧ X = X') := by
  refine ru_of (w2 := _) rfl (by decide) [some (vi ((a : Nat) : Int)), some (vi ((b : Nat) : Int))] (fun _ => rfl) (fun _ => Nat.le_of_ble_eq_true rfl) ?_
  intro K hKn hC hR
  refine ev_iload_n (pc := 0) hC dX6_steps_0 rfl ?_
  refine ev_iconst (pc := 1) hC dX6_steps_1 ?_
  refine ev_idiv (pc := 2) hC ((a / 5 : Nat) : Int) (by omega) (by omega) (by omega) dX6_steps_2 ?_
  refine ev_iload_n (pc := 3) hC dX6_steps_3 rfl ?_
  refine ev_iconst (pc := 4) hC dX6_steps_4 ?_
  refine ev_idiv (pc := 5) hC ((b / 5 : Nat) : Int) (by omega) (by omega) (by omega) dX6_steps_5 ?_
  refine ev_callS (pc := 6) (as := [vi ((a / 5 : Nat) : Int), vi ((b / 5 : Nat) : Int)]) (rest := []) hC gX6_steps_X6_far mtX6_far dX6_steps_6 (ru_X6_far (a / 5) (b / 5) (by omega) (by omega)) (by decide) (by rfl) (Nat.le_of_ble_eq_true rfl) rfl (fun v6 X6 h6 => ?_)
  obtain ⟨rfl, rfl⟩ := h6
  show Ev K 9 [some (vi ((a : Nat) : Int)), some (vi ((b : Nat) : Int))] [vi ((far (a / 5) (b / 5) : Nat) : Int)] X
  have hfr6 : far (a / 5) (b / 5) < 1000 := by unfold far; omega
  refine ev_iload_n (pc := 9) hC dX6_steps_9 rfl ?_
  refine ev_iconst (pc := 10) hC dX6_steps_10 ?_
  refine ev_irem (pc := 11) hC ((a % 5 : Nat) : Int) (by omega) (by omega) (by omega) dX6_steps_11 ?_
  refine ev_iload_n (pc := 12) hC dX6_steps_12 rfl ?_
  refine ev_iconst (pc := 13) hC dX6_steps_13 ?_
  refine ev_irem (pc := 14) hC ((b % 5 : Nat) : Int) (by omega) (by omega) (by omega) dX6_steps_14 ?_
  refine ev_callS (pc := 15) (as := [vi ((a % 5 : Nat) : Int), vi ((b % 5 : Nat) : Int)]) (rest := [vi ((far (a / 5) (b / 5) : Nat) : Int)]) hC gX6_steps_X6_far mtX6_far dX6_steps_15 (ru_X6_far (a % 5) (b % 5) (by omega) (by omega)) (by decide) (by rfl) (Nat.le_of_ble_eq_true rfl) rfl (fun v15 X15 h15 => ?_)
  obtain ⟨rfl, rfl⟩ := h15
  show Ev K 18 [some (vi ((a : Nat) : Int)), some (vi ((b : Nat) : Int))] [vi ((far (a % 5) (b % 5) : Nat) : Int), vi ((far (a / 5) (b / 5) : Nat) : Int)] X
  have hfr15 : far (a % 5) (b % 5) < 1000 := by unfold far; omega
  refine ev_iadd (pc := 18) hC (((far (a / 5) (b / 5)) + (far (a % 5) (b % 5)) : Nat) : Int) (by omega) dX6_steps_18 ?_
  exact ev_ireturn (pc := 19) hC hR dX6_steps_19 (⟨rfl, rfl⟩)
theorem mtX6_here : MT yX6_here wsX6_here cX6_here 3 (some .int) 0 := ⟨⟨_, rfl⟩, by decide, by decide, by decide +kernel⟩
set_option maxRecDepth 100000 in
set_option maxHeartbeats 4000000 in
theorem ru_X6_here {X : Mem} {A : Sl} (hA : Rp (vM X) A) : Ru yX6_here wsX6_here 0 0 [.ref 29] X (fun v X' => v = some (vi (here A)) ∧ X = X') := by
  refine ru_of (w2 := _) rfl (by decide) [some (.ref 29), none, none] (fun _ => rfl) (fun _ => Nat.le_of_ble_eq_true rfl) ?_
  intro K hKn hC hR
  have wX6 : ∀ w ∈ u_ws RX6 TX6 25, w ∈ wsX6_here := by decide +kernel
  have f13 : Fl K RX6 13 6 1 := fl_of hC RX6 TX6 25 rfl (by decide) wX6 (show Cond.fieldLink RX6 13 "PicnicOfSomebodyModel" "deep" "[I" ∈ _ by decide +kernel)
  refine ev_iconst (pc := 0) hC dX6_here_0 ?_
  refine ev_istore_n (pc := 1) hC dX6_here_1 (by rw [hKn]; decide) rfl ?_
  show Ev K 2 [some (.ref 29), some (vi 0), none] [] X
  refine ev_iconst (pc := 2) hC dX6_here_2 ?_
  refine ev_istore_n (pc := 3) hC dX6_here_3 (by rw [hKn]; decide) rfl ?_
  show Ev K 4 [some (.ref 29), some (vi 0), some (vi 1)] [] X
  have lp4 : ∀ (fz : Nat) (i : Nat) (d : Nat), 25 - i < fz → (1 ≤ i ∧ i ≤ 25) → (d = hereN A (i - 1)) → (d < i) → Ev K 4 [some (.ref 29), some (vi ((d : Nat) : Int)), some (vi ((i : Nat) : Int))] [] X := by
    intro fz
    induction fz with
    | zero => intro i d hfz; exact absurd hfz (Nat.not_lt_zero _)
    | succ fz ih4 =>
      intro i d hfz h1 hd hdl
      refine ev_iload_n (pc := 4) hC dX6_here_4 rfl ?_
      refine ev_bipush (pc := 5) hC dX6_here_5 (by decide) ?_
      refine ev_icmp_ge (pc := 7) hC 37 dX6_here_7 (by decide) (by omega) (by omega) (fun c7 => ?_) (fun c7 => ?_)
      · refine ev_iload_n (pc := 37) hC dX6_here_37 rfl ?_
        exact ev_ireturn (pc := 38) hC hR dX6_here_38 (⟨rv (by rw [hd, show i - 1 = 24 by omega]; rfl), rfl⟩)
      · refine ev_aload_n (pc := 10) hC dX6_here_10 rfl ?_
        refine ev_getr (pc := 11) hC 31 f13 dX6_here_11 (by decide) (by decide) (by decide) (by decide) (by decide) ?_
        refine ev_iload_n (pc := 14) hC dX6_here_14 rfl ?_
        have hb15 := hA.d99 i (by omega)
        refine ev_iald (pc := 15) hC i ((A 0 i : Nat) : Int) (by decide) (by decide) (rfl) (by have := (show alen 31 = 25 from rfl); omega) (hA.m0 i (by omega)) dX6_here_15 ?_
        refine ev_aload_n (pc := 16) hC dX6_here_16 rfl ?_
        refine ev_getr (pc := 17) hC 31 f13 dX6_here_17 (by decide) (by decide) (by decide) (by decide) (by decide) ?_
        refine ev_iload_n (pc := 20) hC dX6_here_20 rfl ?_
        have hb21 := hA.d99 d (by omega)
        refine ev_iald (pc := 21) hC d ((A 0 d : Nat) : Int) (by decide) (by decide) (rfl) (by have := (show alen 31 = 25 from rfl); omega) (hA.m0 d (by omega)) dX6_here_21 ?_
        refine ev_icmp_le (pc := 22) hC 29 dX6_here_22 (by decide) (by omega) (by omega) (fun c22 => ?_) (fun c22 => ?_)
        · refine ev_iload_n (pc := 29) hC dX6_here_29 rfl ?_
          refine ev_istore_n (pc := 30) hC dX6_here_30 (by rw [hKn]; decide) rfl ?_
          show Ev K 31 [some (.ref 29), some (vi ((d : Nat) : Int)), some (vi ((i : Nat) : Int))] [] X
          refine ev_iinc (pc := 31) hC ((i + 1 : Nat) : Int) dX6_here_31 rfl (by omega) (by rw [hKn]; decide) rfl ?_
          show Ev K 34 [some (.ref 29), some (vi ((d : Nat) : Int)), some (vi ((i + 1 : Nat) : Int))] [] X
          refine ev_goto (pc := 34) hC 4 dX6_here_34 (by decide) ?_
          exact ih4 (i + 1) d (by omega) (by omega) (by show _ = hereN A i; rw [show i = (i - 1) + 1 by omega, hereN_succ, ← hd]; first | (rw [if_pos (by rw [show i - 1 + 1 = i by omega]; omega)]; try omega) | rw [if_neg (by rw [show i - 1 + 1 = i by omega]; omega)]) (by omega)
        · refine ev_iload_n (pc := 25) hC dX6_here_25 rfl ?_
          refine ev_goto (pc := 26) hC 30 dX6_here_26 (by decide) ?_
          refine ev_istore_n (pc := 30) hC dX6_here_30 (by rw [hKn]; decide) rfl ?_
          show Ev K 31 [some (.ref 29), some (vi ((i : Nat) : Int)), some (vi ((i : Nat) : Int))] [] X
          refine ev_iinc (pc := 31) hC ((i + 1 : Nat) : Int) dX6_here_31 rfl (by omega) (by rw [hKn]; decide) rfl ?_
          show Ev K 34 [some (.ref 29), some (vi ((i : Nat) : Int)), some (vi ((i + 1 : Nat) : Int))] [] X
          refine ev_goto (pc := 34) hC 4 dX6_here_34 (by decide) ?_
          exact ih4 (i + 1) i (by omega) (by omega) (by show _ = hereN A i; rw [show i = (i - 1) + 1 by omega, hereN_succ, ← hd]; first | (rw [if_pos (by rw [show i - 1 + 1 = i by omega]; omega)]; try omega) | rw [if_neg (by rw [show i - 1 + 1 = i by omega]; omega)]) (by omega)
  exact lp4 _ 1 0 (Nat.lt_succ_self _) (by omega) rfl (by omega)
theorem mtX6_believesNow : MT yX6_believesNow wsX6_believesNow cX6_believesNow 2 (some .boolean) 1 := ⟨⟨_, rfl⟩, by decide, by decide, by decide +kernel⟩
set_option maxRecDepth 100000 in
set_option maxHeartbeats 4000000 in
theorem ru_X6_believesNow {X : Mem} (p b : Nat) (hp : p < 8) (hb : X 35 p = zI b) (hb9 : b ≤ 9) : Ru yX6_believesNow wsX6_believesNow 0 0 [.ref 29, vi ((p : Nat) : Int)] X (fun v X' => v = some (vi (b2i (decide (5 ≤ b)))) ∧ X = X') := by
  refine ru_of (w2 := _) rfl (by decide) [some (.ref 29), some (vi ((p : Nat) : Int))] (fun _ => rfl) (fun _ => Nat.le_of_ble_eq_true rfl) ?_
  intro K hKn hC hR
  have wX6 : ∀ w ∈ u_ws RX6 TX6 25, w ∈ wsX6_believesNow := by decide +kernel
  have f25 : Fl K RX6 25 6 5 := fl_of hC RX6 TX6 25 rfl (by decide) wX6 (show Cond.fieldLink RX6 25 "PicnicOfSomebodyModel" "belief" "[I" ∈ _ by decide +kernel)
  refine ev_aload_n (pc := 0) hC dX6_believesNow_0 rfl ?_
  refine ev_getr (pc := 1) hC 35 f25 dX6_believesNow_1 (by decide) (by decide) (by decide) (by decide) (by decide) ?_
  refine ev_iload_n (pc := 4) hC dX6_believesNow_4 rfl ?_
  refine ev_iald (pc := 5) hC p ((b : Nat) : Int) (by decide) (by decide) (rfl) (by have := (show alen 35 = 8 from rfl); omega) (hb) dX6_believesNow_5 ?_
  refine ev_iconst (pc := 6) hC dX6_believesNow_6 ?_
  refine ev_icmp_lt (pc := 7) hC 14 dX6_believesNow_7 (by decide) (by omega) (by omega) (fun c7 => ?_) (fun c7 => ?_)
  · refine ev_iconst (pc := 14) hC dX6_believesNow_14 ?_
    exact ev_zreturn (pc := 15) hC hR dX6_believesNow_15 (by decide) (⟨rv (by first | exact b2iT (decide_eq_true (by omega)) | exact b2iF (decide_eq_false (by omega))), rfl⟩)
  · refine ev_iconst (pc := 10) hC dX6_believesNow_10 ?_
    refine ev_goto (pc := 11) hC 15 dX6_believesNow_11 (by decide) ?_
    exact ev_zreturn (pc := 15) hC hR dX6_believesNow_15 (by decide) (⟨rv (by first | exact b2iT (decide_eq_true (by omega)) | exact b2iF (decide_eq_false (by omega))), rfl⟩)
theorem mtX6_areBeside : MT yX6_areBeside wsX6_areBeside cX6_areBeside 3 (some .boolean) 2 := ⟨⟨_, rfl⟩, by decide, by decide, by decide +kernel⟩
set_option maxRecDepth 100000 in
set_option maxHeartbeats 4000000 in
theorem ru_X6_areBeside {X : Mem} {A : Sl} {G : Nat} (hA : Rp (vM X) A) (hg : X 29 8 = zI (G : Nat)) (hG : G < 256) (p q : Nat) (hp : p < A 5 0) (hq : q < 8) (t : Bool) (ht : t = (decide (q < A 5 0) && bes G A p q)) : Ru yX6_areBeside wsX6_areBeside 2 42 [.ref 29, vi ((p : Nat) : Int), vi ((q : Nat) : Int)] X (fun v X' => v = some (vi (b2i t)) ∧ X = X') := by
  refine ru_of (w2 := _) rfl (by decide) [some (.ref 29), some (vi ((p : Nat) : Int)), some (vi ((q : Nat) : Int))] (fun _ => rfl) (fun _ => Nat.le_of_ble_eq_true rfl) ?_
  intro K hKn hC hR
  have wX6 : ∀ w ∈ u_ws RX6 TX6 25, w ∈ wsX6_areBeside := by decide +kernel
  have f22 : Fl K RX6 22 6 4 := fl_of hC RX6 TX6 25 rfl (by decide) wX6 (show Cond.fieldLink RX6 22 "PicnicOfSomebodyModel" "cell" "[I" ∈ _ by decide +kernel)
  have hn8 := hA.n8
  refine ev_iload_n (pc := 0) hC dX6_areBeside_0 rfl ?_
  refine ev_iload_n (pc := 1) hC dX6_areBeside_1 rfl ?_
  refine ev_icmp_eq (pc := 2) hC 36 dX6_areBeside_2 (by decide) (by omega) (by omega) (fun c2 => ?_) (fun c2 => ?_)
  · have e1 : bes G A p q = false := bes_f (Or.inl (by omega))
    refine ev_iconst (pc := 36) hC dX6_areBeside_36 ?_
    exact ev_zreturn (pc := 37) hC hR dX6_areBeside_37 (by decide) (⟨rv (by first | exact b2iF e1 | exact b2iF (by rw [ht, e1, Bool.and_false]) | exact b2iT (by rw [ht, e1]; simp [e3])), rfl⟩)
  · refine ev_aload_n (pc := 5) hC dX6_areBeside_5 rfl ?_
    refine ev_iload_n (pc := 6) hC dX6_areBeside_6 rfl ?_
    refine ev_callV (pc := 7) (as := [vi ((q : Nat) : Int)]) (rest := []) hC gX6_areBeside_X6_isThere mtX6_isThere dX6_areBeside_7 (ru_X6_isThere hA hg hG q (by omega) (decide (q < A 5 0) && !(Nat.testBit G q)) rfl) (by decide) (by decide) (by decide) rfl (by rfl) (Nat.le_of_ble_eq_true rfl) rfl (fun v7 X7 h7 => ?_)
    obtain ⟨rfl, rfl⟩ := h7
    show Ev K 10 [some (.ref 29), some (vi ((p : Nat) : Int)), some (vi ((q : Nat) : Int))] [vi (b2i (decide (q < A 5 0) && !(Nat.testBit G q)))] X
    have hr7 := b2i_r (decide (q < A 5 0) && !(Nat.testBit G q))
    refine ev_if_eq (pc := 10) hC 36 dX6_areBeside_10 (by decide) (by omega) (fun c10 => ?_) (fun c10 => ?_)
    · have e2 := b2i_0 c10
      have e1 : t = false := by rw [ht]; exact ib_2 e2
      refine ev_iconst (pc := 36) hC dX6_areBeside_36 ?_
      exact ev_zreturn (pc := 37) hC hR dX6_areBeside_37 (by decide) (⟨rv (by first | exact b2iF e1 | exact b2iF (by rw [ht, e1, Bool.and_false]) | exact b2iT (by rw [ht, e1]; simp [e3])), rfl⟩)
    · have e2 := b2i_1 c10
      obtain ⟨e3, e4⟩ := ib_3 e2
      refine ev_aload_n (pc := 13) hC dX6_areBeside_13 rfl ?_
      refine ev_getr (pc := 14) hC 34 f22 dX6_areBeside_14 (by decide) (by decide) (by decide) (by decide) (by decide) ?_
      refine ev_iload_n (pc := 17) hC dX6_areBeside_17 rfl ?_
      have hb18 := hA.c25 p (by omega)
      refine ev_iald (pc := 18) hC p ((A 3 p : Nat) : Int) (by decide) (by decide) (rfl) (by have := (show alen 34 = 8 from rfl); omega) (hA.m3 p (by omega)) dX6_areBeside_18 ?_
      refine ev_aload_n (pc := 19) hC dX6_areBeside_19 rfl ?_
      refine ev_getr (pc := 20) hC 34 f22 dX6_areBeside_20 (by decide) (by decide) (by decide) (by decide) (by decide) ?_
      refine ev_iload_n (pc := 23) hC dX6_areBeside_23 rfl ?_
      have hb24 := hA.c25 q (by omega)
      refine ev_iald (pc := 24) hC q ((A 3 q : Nat) : Int) (by decide) (by decide) (rfl) (by have := (show alen 34 = 8 from rfl); omega) (hA.m3 q (by omega)) dX6_areBeside_24 ?_
      refine ev_callS (pc := 25) (as := [vi ((A 3 p : Nat) : Int), vi ((A 3 q : Nat) : Int)]) (rest := []) hC gX6_areBeside_X6_steps mtX6_steps dX6_areBeside_25 (ru_X6_steps (A 3 p) (A 3 q) (by omega) (by omega)) (by decide) (by rfl) (Nat.le_of_ble_eq_true rfl) rfl (fun v25 X25 h25 => ?_)
      obtain ⟨rfl, rfl⟩ := h25
      show Ev K 28 [some (.ref 29), some (vi ((p : Nat) : Int)), some (vi ((q : Nat) : Int))] [vi ((stp (A 3 p) (A 3 q) : Nat) : Int)] X
      have hst25 := stp_le (a := A 3 p) (b := A 3 q) (by omega) (by omega)
      refine ev_iconst (pc := 28) hC dX6_areBeside_28 ?_
      refine ev_icmp_ge (pc := 29) hC 36 dX6_areBeside_29 (by decide) (by omega) (by omega) (fun c29 => ?_) (fun c29 => ?_)
      · have e1 : bes G A p q = false := bes_f (Or.inr (Or.inr (by omega)))
        refine ev_iconst (pc := 36) hC dX6_areBeside_36 ?_
        exact ev_zreturn (pc := 37) hC hR dX6_areBeside_37 (by decide) (⟨rv (by first | exact b2iF e1 | exact b2iF (by rw [ht, e1, Bool.and_false]) | exact b2iT (by rw [ht, e1]; simp [e3])), rfl⟩)
      · have e1 : bes G A p q = true := bes_t (by omega) e4 (by omega)
        refine ev_iconst (pc := 32) hC dX6_areBeside_32 ?_
        refine ev_goto (pc := 33) hC 37 dX6_areBeside_33 (by decide) ?_
        exact ev_zreturn (pc := 37) hC hR dX6_areBeside_37 (by decide) (⟨rv (by first | exact b2iF e1 | exact b2iF (by rw [ht, e1, Bool.and_false]) | exact b2iT (by rw [ht, e1]; simp [e3])), rfl⟩)
theorem mtX6_manyBeside : MT yX6_manyBeside wsX6_manyBeside cX6_manyBeside 4 (some .int) 1 := ⟨⟨_, rfl⟩, by decide, by decide, by decide +kernel⟩
set_option maxRecDepth 100000 in
set_option maxHeartbeats 4000000 in
theorem ru_X6_manyBeside {X : Mem} {A : Sl} {G : Nat} (hA : Rp (vM X) A) (hg : X 29 8 = zI (G : Nat)) (hG : G < 256) (p : Nat) (hp : p < A 5 0) : Ru yX6_manyBeside wsX6_manyBeside 3 64 [.ref 29, vi ((p : Nat) : Int)] X (fun v X' => v = some (vi (many G A p)) ∧ X = X') := by
  refine ru_of (w2 := _) rfl (by decide) [some (.ref 29), some (vi ((p : Nat) : Int)), none, none] (fun _ => rfl) (fun _ => Nat.le_of_ble_eq_true rfl) ?_
  intro K hKn hC hR
  have wX6 : ∀ w ∈ u_ws RX6 TX6 25, w ∈ wsX6_manyBeside := by decide +kernel
  have f52 : Fl K RX6 52 6 6 := fl_of hC RX6 TX6 25 rfl (by decide) wX6 (show Cond.fieldLink RX6 52 "PicnicOfSomebodyModel" "people" "I" ∈ _ by decide +kernel)
  have hn8 := hA.n8
  refine ev_iconst (pc := 0) hC dX6_manyBeside_0 ?_
  refine ev_istore_n (pc := 1) hC dX6_manyBeside_1 (by rw [hKn]; decide) rfl ?_
  show Ev K 2 [some (.ref 29), some (vi ((p : Nat) : Int)), some (vi 0), none] [] X
  refine ev_iconst (pc := 2) hC dX6_manyBeside_2 ?_
  refine ev_istore_n (pc := 3) hC dX6_manyBeside_3 (by rw [hKn]; decide) rfl ?_
  show Ev K 4 [some (.ref 29), some (vi ((p : Nat) : Int)), some (vi 0), some (vi 0)] [] X
  have lp4 : ∀ (fz : Nat) (i : Nat) (b : Nat), A 5 0 - i < fz → (i ≤ A 5 0) → (b = cntB i (bes G A p)) → (b ≤ i) → Ev K 4 [some (.ref 29), some (vi ((p : Nat) : Int)), some (vi ((b : Nat) : Int)), some (vi ((i : Nat) : Int))] [] X := by
    intro fz
    induction fz with
    | zero => intro i b hfz; exact absurd hfz (Nat.not_lt_zero _)
    | succ fz ih4 =>
      intro i b hfz hi hb hbl
      refine ev_iload_n (pc := 4) hC dX6_manyBeside_4 rfl ?_
      refine ev_aload_n (pc := 5) hC dX6_manyBeside_5 rfl ?_
      refine ev_geti (pc := 6) hC ((A 5 0 : Nat) : Int) f52 dX6_manyBeside_6 (by decide) (by decide) (by decide) (by decide) (by decide)  (hA.mn) ?_
      refine ev_icmp_ge (pc := 9) hC 35 dX6_manyBeside_9 (by decide) (by omega) (by omega) (fun c9 => ?_) (fun c9 => ?_)
      · refine ev_iload_n (pc := 35) hC dX6_manyBeside_35 rfl ?_
        exact ev_ireturn (pc := 36) hC hR dX6_manyBeside_36 (⟨rv (by rw [hb, show i = A 5 0 by omega]; rfl), rfl⟩)
      · refine ev_iload_n (pc := 12) hC dX6_manyBeside_12 rfl ?_
        refine ev_aload_n (pc := 13) hC dX6_manyBeside_13 rfl ?_
        refine ev_iload_n (pc := 14) hC dX6_manyBeside_14 rfl ?_
        refine ev_iload_n (pc := 15) hC dX6_manyBeside_15 rfl ?_
        refine ev_callV (pc := 16) (as := [vi ((p : Nat) : Int), vi ((i : Nat) : Int)]) (rest := [vi ((b : Nat) : Int)]) hC gX6_manyBeside_X6_areBeside mtX6_areBeside dX6_manyBeside_16 (ru_X6_areBeside hA hg hG p i (by omega) (by omega) (bes G A p i) (ib_t (by omega))) (by decide) (by decide) (by decide) rfl (by rfl) (Nat.le_of_ble_eq_true rfl) rfl (fun v16 X16 h16 => ?_)
        obtain ⟨rfl, rfl⟩ := h16
        show Ev K 19 [some (.ref 29), some (vi ((p : Nat) : Int)), some (vi ((b : Nat) : Int)), some (vi ((i : Nat) : Int))] [vi (b2i (bes G A p i)), vi ((b : Nat) : Int)] X
        have hr16 := b2i_r (bes G A p i)
        refine ev_if_eq (pc := 19) hC 26 dX6_manyBeside_19 (by decide) (by omega) (fun c19 => ?_) (fun c19 => ?_)
        · have e := b2i_0 c19
          refine ev_iconst (pc := 26) hC dX6_manyBeside_26 ?_
          refine ev_iadd (pc := 27) hC ((b + 0 : Nat) : Int) (by omega) dX6_manyBeside_27 ?_
          refine ev_istore_n (pc := 28) hC dX6_manyBeside_28 (by rw [hKn]; decide) rfl ?_
          show Ev K 29 [some (.ref 29), some (vi ((p : Nat) : Int)), some (vi ((b + 0 : Nat) : Int)), some (vi ((i : Nat) : Int))] [] X
          refine ev_iinc (pc := 29) hC ((i + 1 : Nat) : Int) dX6_manyBeside_29 rfl (by omega) (by rw [hKn]; decide) rfl ?_
          show Ev K 32 [some (.ref 29), some (vi ((p : Nat) : Int)), some (vi ((b + 0 : Nat) : Int)), some (vi ((i + 1 : Nat) : Int))] [] X
          refine ev_goto (pc := 32) hC 4 dX6_manyBeside_32 (by decide) ?_
          exact ih4 (i + 1) (b + 0) (by omega) (by omega) (by first | exact cntB_t e hb | exact cntB_f e hb) (by omega)
        · have e := b2i_1 c19
          refine ev_iconst (pc := 22) hC dX6_manyBeside_22 ?_
          refine ev_goto (pc := 23) hC 27 dX6_manyBeside_23 (by decide) ?_
          refine ev_iadd (pc := 27) hC ((b + 1 : Nat) : Int) (by omega) dX6_manyBeside_27 ?_
          refine ev_istore_n (pc := 28) hC dX6_manyBeside_28 (by rw [hKn]; decide) rfl ?_
          show Ev K 29 [some (.ref 29), some (vi ((p : Nat) : Int)), some (vi ((b + 1 : Nat) : Int)), some (vi ((i : Nat) : Int))] [] X
          refine ev_iinc (pc := 29) hC ((i + 1 : Nat) : Int) dX6_manyBeside_29 rfl (by omega) (by rw [hKn]; decide) rfl ?_
          show Ev K 32 [some (.ref 29), some (vi ((p : Nat) : Int)), some (vi ((b + 1 : Nat) : Int)), some (vi ((i + 1 : Nat) : Int))] [] X
          refine ev_goto (pc := 32) hC 4 dX6_manyBeside_32 (by decide) ?_
          exact ih4 (i + 1) (b + 1) (by omega) (by omega) (by first | exact cntB_t e hb | exact cntB_f e hb) (by omega)
  exact lp4 _ 0 0 (Nat.lt_succ_self _) (by omega) rfl (by omega)
theorem mtX6_believersBeside : MT yX6_believersBeside wsX6_believersBeside cX6_believersBeside 4 (some .int) 1 := ⟨⟨_, rfl⟩, by decide, by decide, by decide +kernel⟩
set_option maxRecDepth 100000 in
set_option maxHeartbeats 4000000 in
theorem ru_X6_believersBeside {X : Mem} {A : Sl} {G : Nat} (hA : Rp (vM X) A) (hg : X 29 8 = zI (G : Nat)) (hG : G < 256) (p : Nat) (hp : p < A 5 0) : Ru yX6_believersBeside wsX6_believersBeside 3 64 [.ref 29, vi ((p : Nat) : Int)] X (fun v X' => v = some (vi (bbl G A p)) ∧ X = X') := by
  refine ru_of (w2 := _) rfl (by decide) [some (.ref 29), some (vi ((p : Nat) : Int)), none, none] (fun _ => rfl) (fun _ => Nat.le_of_ble_eq_true rfl) ?_
  intro K hKn hC hR
  have wX6 : ∀ w ∈ u_ws RX6 TX6 25, w ∈ wsX6_believersBeside := by decide +kernel
  have f52 : Fl K RX6 52 6 6 := fl_of hC RX6 TX6 25 rfl (by decide) wX6 (show Cond.fieldLink RX6 52 "PicnicOfSomebodyModel" "people" "I" ∈ _ by decide +kernel)
  have hn8 := hA.n8
  refine ev_iconst (pc := 0) hC dX6_believersBeside_0 ?_
  refine ev_istore_n (pc := 1) hC dX6_believersBeside_1 (by rw [hKn]; decide) rfl ?_
  show Ev K 2 [some (.ref 29), some (vi ((p : Nat) : Int)), some (vi 0), none] [] X
  refine ev_iconst (pc := 2) hC dX6_believersBeside_2 ?_
  refine ev_istore_n (pc := 3) hC dX6_believersBeside_3 (by rw [hKn]; decide) rfl ?_
  show Ev K 4 [some (.ref 29), some (vi ((p : Nat) : Int)), some (vi 0), some (vi 0)] [] X
  have lp4 : ∀ (fz : Nat) (i : Nat) (b : Nat), A 5 0 - i < fz → (i ≤ A 5 0) → (b = cntB i (fun q => bes G A p q && bel A q)) → (b ≤ i) → Ev K 4 [some (.ref 29), some (vi ((p : Nat) : Int)), some (vi ((b : Nat) : Int)), some (vi ((i : Nat) : Int))] [] X := by
    intro fz
    induction fz with
    | zero => intro i b hfz; exact absurd hfz (Nat.not_lt_zero _)
    | succ fz ih4 =>
      intro i b hfz hi hb hbl
      refine ev_iload_n (pc := 4) hC dX6_believersBeside_4 rfl ?_
      refine ev_aload_n (pc := 5) hC dX6_believersBeside_5 rfl ?_
      refine ev_geti (pc := 6) hC ((A 5 0 : Nat) : Int) f52 dX6_believersBeside_6 (by decide) (by decide) (by decide) (by decide) (by decide)  (hA.mn) ?_
      refine ev_icmp_ge (pc := 9) hC 43 dX6_believersBeside_9 (by decide) (by omega) (by omega) (fun c9 => ?_) (fun c9 => ?_)
      · refine ev_iload_n (pc := 43) hC dX6_believersBeside_43 rfl ?_
        exact ev_ireturn (pc := 44) hC hR dX6_believersBeside_44 (⟨rv (by rw [hb, show i = A 5 0 by omega]; rfl), rfl⟩)
      · refine ev_iload_n (pc := 12) hC dX6_believersBeside_12 rfl ?_
        refine ev_aload_n (pc := 13) hC dX6_believersBeside_13 rfl ?_
        refine ev_iload_n (pc := 14) hC dX6_believersBeside_14 rfl ?_
        refine ev_iload_n (pc := 15) hC dX6_believersBeside_15 rfl ?_
        refine ev_callV (pc := 16) (as := [vi ((p : Nat) : Int), vi ((i : Nat) : Int)]) (rest := [vi ((b : Nat) : Int)]) hC gX6_believersBeside_X6_areBeside mtX6_areBeside dX6_believersBeside_16 (ru_X6_areBeside hA hg hG p i (by omega) (by omega) (bes G A p i) (ib_t (by omega))) (by decide) (by decide) (by decide) rfl (by rfl) (Nat.le_of_ble_eq_true rfl) rfl (fun v16 X16 h16 => ?_)
        obtain ⟨rfl, rfl⟩ := h16
        show Ev K 19 [some (.ref 29), some (vi ((p : Nat) : Int)), some (vi ((b : Nat) : Int)), some (vi ((i : Nat) : Int))] [vi (b2i (bes G A p i)), vi ((b : Nat) : Int)] X
        have hr16 := b2i_r (bes G A p i)
        refine ev_if_eq (pc := 19) hC 34 dX6_believersBeside_19 (by decide) (by omega) (fun c19 => ?_) (fun c19 => ?_)
        · have e := b2i_0 c19
          refine ev_iconst (pc := 34) hC dX6_believersBeside_34 ?_
          refine ev_iadd (pc := 35) hC ((b + 0 : Nat) : Int) (by omega) dX6_believersBeside_35 ?_
          refine ev_istore_n (pc := 36) hC dX6_believersBeside_36 (by rw [hKn]; decide) rfl ?_
          show Ev K 37 [some (.ref 29), some (vi ((p : Nat) : Int)), some (vi ((b + 0 : Nat) : Int)), some (vi ((i : Nat) : Int))] [] X
          refine ev_iinc (pc := 37) hC ((i + 1 : Nat) : Int) dX6_believersBeside_37 rfl (by omega) (by rw [hKn]; decide) rfl ?_
          show Ev K 40 [some (.ref 29), some (vi ((p : Nat) : Int)), some (vi ((b + 0 : Nat) : Int)), some (vi ((i + 1 : Nat) : Int))] [] X
          refine ev_goto (pc := 40) hC 4 dX6_believersBeside_40 (by decide) ?_
          exact ih4 (i + 1) (b + 0) (by omega) (by omega) (cntB_f (by simp [e]) hb) (by omega)
        · have e := b2i_1 c19
          refine ev_aload_n (pc := 22) hC dX6_believersBeside_22 rfl ?_
          refine ev_iload_n (pc := 23) hC dX6_believersBeside_23 rfl ?_
          refine ev_callV (pc := 24) (as := [vi ((i : Nat) : Int)]) (rest := [vi ((b : Nat) : Int)]) hC gX6_believersBeside_X6_believesNow mtX6_believesNow dX6_believersBeside_24 (ru_X6_believesNow i _ (by have := hA.n8; omega) (hA.m4 i (by omega)) (hA.b9 i (by omega))) (by decide) (by decide) (by decide) rfl (by rfl) (Nat.le_of_ble_eq_true rfl) rfl (fun v24 X24 h24 => ?_)
          obtain ⟨rfl, rfl⟩ := h24
          show Ev K 27 [some (.ref 29), some (vi ((p : Nat) : Int)), some (vi ((b : Nat) : Int)), some (vi ((i : Nat) : Int))] [vi (b2i (bel A i)), vi ((b : Nat) : Int)] X
          have hr24 := b2i_r (bel A i)
          refine ev_if_eq (pc := 27) hC 34 dX6_believersBeside_27 (by decide) (by omega) (fun c27 => ?_) (fun c27 => ?_)
          · have e2 := b2i_0 c27
            refine ev_iconst (pc := 34) hC dX6_believersBeside_34 ?_
            refine ev_iadd (pc := 35) hC ((b + 0 : Nat) : Int) (by omega) dX6_believersBeside_35 ?_
            refine ev_istore_n (pc := 36) hC dX6_believersBeside_36 (by rw [hKn]; decide) rfl ?_
            show Ev K 37 [some (.ref 29), some (vi ((p : Nat) : Int)), some (vi ((b + 0 : Nat) : Int)), some (vi ((i : Nat) : Int))] [] X
            refine ev_iinc (pc := 37) hC ((i + 1 : Nat) : Int) dX6_believersBeside_37 rfl (by omega) (by rw [hKn]; decide) rfl ?_
            show Ev K 40 [some (.ref 29), some (vi ((p : Nat) : Int)), some (vi ((b + 0 : Nat) : Int)), some (vi ((i + 1 : Nat) : Int))] [] X
            refine ev_goto (pc := 40) hC 4 dX6_believersBeside_40 (by decide) ?_
            exact ih4 (i + 1) (b + 0) (by omega) (by omega) (cntB_f (by simp [e2]) hb) (by omega)
          · have e2 := b2i_1 c27
            refine ev_iconst (pc := 30) hC dX6_believersBeside_30 ?_
            refine ev_goto (pc := 31) hC 35 dX6_believersBeside_31 (by decide) ?_
            refine ev_iadd (pc := 35) hC ((b + 1 : Nat) : Int) (by omega) dX6_believersBeside_35 ?_
            refine ev_istore_n (pc := 36) hC dX6_believersBeside_36 (by rw [hKn]; decide) rfl ?_
            show Ev K 37 [some (.ref 29), some (vi ((p : Nat) : Int)), some (vi ((b + 1 : Nat) : Int)), some (vi ((i : Nat) : Int))] [] X
            refine ev_iinc (pc := 37) hC ((i + 1 : Nat) : Int) dX6_believersBeside_37 rfl (by omega) (by rw [hKn]; decide) rfl ?_
            show Ev K 40 [some (.ref 29), some (vi ((p : Nat) : Int)), some (vi ((b + 1 : Nat) : Int)), some (vi ((i + 1 : Nat) : Int))] [] X
            refine ev_goto (pc := 40) hC 4 dX6_believersBeside_40 (by decide) ?_
            exact ih4 (i + 1) (b + 1) (by omega) (by omega) (cntB_t (by simp [e, e2]) hb) (by omega)
  exact lp4 _ 0 0 (Nat.lt_succ_self _) (by omega) rfl (by omega)
theorem mtX6_asGuest : MT yX6_asGuest wsX6_asGuest cX6_asGuest 3 (some .int) 1 := ⟨⟨_, rfl⟩, by decide, by decide, by decide +kernel⟩
set_option maxRecDepth 100000 in
set_option maxHeartbeats 4000000 in
theorem ru_X6_asGuest {X : Mem} {A : Sl} {G : Nat} (hA : Rp (vM X) A) (hg : X 29 8 = zI (G : Nat)) (hG : G < 256) (p : Nat) (hp : p < A 5 0) : Ru yX6_asGuest wsX6_asGuest 4 87 [.ref 29, vi ((p : Nat) : Int)] X (fun v X' => v = some (vi (guest G A p)) ∧ X = X') := by
  refine ru_of (w2 := _) rfl (by decide) [some (.ref 29), some (vi ((p : Nat) : Int)), none] (fun _ => rfl) (fun _ => Nat.le_of_ble_eq_true rfl) ?_
  intro K hKn hC hR
  have wX6 : ∀ w ∈ u_ws RX6 TX6 25, w ∈ wsX6_asGuest := by decide +kernel
  have f25 : Fl K RX6 25 6 5 := fl_of hC RX6 TX6 25 rfl (by decide) wX6 (show Cond.fieldLink RX6 25 "PicnicOfSomebodyModel" "belief" "[I" ∈ _ by decide +kernel)
  have hn8 := hA.n8
  refine ev_iconst (pc := 0) hC dX6_asGuest_0 ?_
  refine ev_aload_n (pc := 1) hC dX6_asGuest_1 rfl ?_
  refine ev_iload_n (pc := 2) hC dX6_asGuest_2 rfl ?_
  refine ev_callV (pc := 3) (as := [vi ((p : Nat) : Int)]) (rest := [vi 2]) hC gX6_asGuest_X6_believersBeside mtX6_believersBeside dX6_asGuest_3 (ru_X6_believersBeside hA hg hG p (by omega)) (by decide) (by decide) (by decide) rfl (by rfl) (Nat.le_of_ble_eq_true rfl) rfl (fun v3 X3 h3 => ?_)
  obtain ⟨rfl, rfl⟩ := h3
  show Ev K 6 [some (.ref 29), some (vi ((p : Nat) : Int)), none] [vi ((bbl G A p : Nat) : Int), vi 2] X
  have hl3 := bbl_le G A p
  refine ev_imul (pc := 6) hC ((2 * (bbl G A p) : Nat) : Int) (by omega) dX6_asGuest_6 ?_
  refine ev_aload_n (pc := 7) hC dX6_asGuest_7 rfl ?_
  refine ev_iload_n (pc := 8) hC dX6_asGuest_8 rfl ?_
  refine ev_callV (pc := 9) (as := [vi ((p : Nat) : Int)]) (rest := [vi ((2 * (bbl G A p) : Nat) : Int)]) hC gX6_asGuest_X6_manyBeside mtX6_manyBeside dX6_asGuest_9 (ru_X6_manyBeside hA hg hG p (by omega)) (by decide) (by decide) (by decide) rfl (by rfl) (Nat.le_of_ble_eq_true rfl) rfl (fun v9 X9 h9 => ?_)
  obtain ⟨rfl, rfl⟩ := h9
  show Ev K 12 [some (.ref 29), some (vi ((p : Nat) : Int)), none] [vi ((many G A p : Nat) : Int), vi ((2 * (bbl G A p) : Nat) : Int)] X
  have hl9 := many_le G A p
  refine ev_isub (pc := 12) hC (((2 * (bbl G A p) : Nat) : Int) - ((many G A p : Nat) : Int)) (rfl) dX6_asGuest_12 ?_
  refine ev_istore_n (pc := 13) hC dX6_asGuest_13 (by rw [hKn]; decide) rfl ?_
  show Ev K 14 [some (.ref 29), some (vi ((p : Nat) : Int)), some (vi (((2 * (bbl G A p) : Nat) : Int) - ((many G A p : Nat) : Int)))] [] X
  refine ev_aload_n (pc := 14) hC dX6_asGuest_14 rfl ?_
  refine ev_getr (pc := 15) hC 35 f25 dX6_asGuest_15 (by decide) (by decide) (by decide) (by decide) (by decide) ?_
  refine ev_iload_n (pc := 18) hC dX6_asGuest_18 rfl ?_
  have hb19 := hA.b9 p (by omega)
  refine ev_iald (pc := 19) hC p ((A 4 p : Nat) : Int) (by decide) (by decide) (rfl) (by have := (show alen 35 = 8 from rfl); omega) (hA.m4 p (by omega)) dX6_asGuest_19 ?_
  refine ev_iload_n (pc := 20) hC dX6_asGuest_20 rfl ?_
  refine ev_if_le (pc := 21) hC 28 dX6_asGuest_21 (by decide) (by omega) (fun c21 => ?_) (fun c21 => ?_)
  · refine ev_iload_n (pc := 28) hC dX6_asGuest_28 rfl ?_
    refine ev_if_ge (pc := 29) hC 36 dX6_asGuest_29 (by decide) (by omega) (fun c29 => ?_) (fun c29 => ?_)
    · refine ev_iconst (pc := 36) hC dX6_asGuest_36 ?_
      refine ev_iadd (pc := 37) hC (((A 4 p) + 0 : Nat) : Int) (by omega) dX6_asGuest_37 ?_
      exact ev_ireturn (pc := 38) hC hR dX6_asGuest_38 (⟨rv (by (unfold guest; repeat' split) <;> omega), rfl⟩)
    · refine ev_iconst (pc := 32) hC dX6_asGuest_32 ?_
      refine ev_goto (pc := 33) hC 37 dX6_asGuest_33 (by decide) ?_
      refine ev_iadd (pc := 37) hC (((A 4 p : Nat) : Int) + (-1)) (rfl) dX6_asGuest_37 ?_
      exact ev_ireturn (pc := 38) hC hR dX6_asGuest_38 (⟨rv (by (unfold guest; repeat' split) <;> omega), rfl⟩)
  · refine ev_iconst (pc := 24) hC dX6_asGuest_24 ?_
    refine ev_goto (pc := 25) hC 37 dX6_asGuest_25 (by decide) ?_
    refine ev_iadd (pc := 37) hC (((A 4 p) + 1 : Nat) : Int) (by omega) dX6_asGuest_37 ?_
    exact ev_ireturn (pc := 38) hC hR dX6_asGuest_38 (⟨rv (by (unfold guest; repeat' split) <;> omega), rfl⟩)
theorem mtX6_asFriend : MT yX6_asFriend wsX6_asFriend cX6_asFriend 3 (some .int) 2 := ⟨⟨_, rfl⟩, by decide, by decide, by decide +kernel⟩
set_option maxRecDepth 100000 in
set_option maxHeartbeats 4000000 in
theorem ru_X6_asFriend {X : Mem} {A : Sl} {G : Nat} (hA : Rp (vM X) A) (hg : X 29 8 = zI (G : Nat)) (hG : G < 256) (p w : Nat) (hp : p < A 5 0) (hw : w < 25) : Ru yX6_asFriend wsX6_asFriend 5 109 [.ref 29, vi ((p : Nat) : Int), vi ((w : Nat) : Int)] X (fun v X' => v = some (vi (friend G A p w)) ∧ X = X') := by
  refine ru_of (w2 := _) rfl (by decide) [some (.ref 29), some (vi ((p : Nat) : Int)), some (vi ((w : Nat) : Int))] (fun _ => rfl) (fun _ => Nat.le_of_ble_eq_true rfl) ?_
  intro K hKn hC hR
  have wX6 : ∀ w ∈ u_ws RX6 TX6 25, w ∈ wsX6_asFriend := by decide +kernel
  have f22 : Fl K RX6 22 6 4 := fl_of hC RX6 TX6 25 rfl (by decide) wX6 (show Cond.fieldLink RX6 22 "PicnicOfSomebodyModel" "cell" "[I" ∈ _ by decide +kernel)
  have f19 : Fl K RX6 19 6 3 := fl_of hC RX6 TX6 25 rfl (by decide) wX6 (show Cond.fieldLink RX6 19 "PicnicOfSomebodyModel" "figure" "[I" ∈ _ by decide +kernel)
  have hn8 := hA.n8
  refine ev_aload_n (pc := 0) hC dX6_asFriend_0 rfl ?_
  refine ev_iload_n (pc := 1) hC dX6_asFriend_1 rfl ?_
  refine ev_callV (pc := 2) (as := [vi ((p : Nat) : Int)]) (rest := []) hC gX6_asFriend_X6_asGuest mtX6_asGuest dX6_asFriend_2 (ru_X6_asGuest hA hg hG p (by omega)) (by decide) (by decide) (by decide) rfl (by rfl) (Nat.le_of_ble_eq_true rfl) rfl (fun v2 X2 h2 => ?_)
  obtain ⟨rfl, rfl⟩ := h2
  show Ev K 5 [some (.ref 29), some (vi ((p : Nat) : Int)), some (vi ((w : Nat) : Int))] [vi (guest G A p)] X
  have hl2 := guest_r (G := G) (hA.b9 p (by omega))
  refine ev_aload_n (pc := 5) hC dX6_asFriend_5 rfl ?_
  refine ev_getr (pc := 6) hC 34 f22 dX6_asFriend_6 (by decide) (by decide) (by decide) (by decide) (by decide) ?_
  refine ev_iload_n (pc := 9) hC dX6_asFriend_9 rfl ?_
  have hb10 := hA.c25 p (by omega)
  refine ev_iald (pc := 10) hC p ((A 3 p : Nat) : Int) (by decide) (by decide) (rfl) (by have := (show alen 34 = 8 from rfl); omega) (hA.m3 p (by omega)) dX6_asFriend_10 ?_
  refine ev_iload_n (pc := 11) hC dX6_asFriend_11 rfl ?_
  refine ev_callS (pc := 12) (as := [vi ((A 3 p : Nat) : Int), vi ((w : Nat) : Int)]) (rest := [vi (guest G A p)]) hC gX6_asFriend_X6_steps mtX6_steps dX6_asFriend_12 (ru_X6_steps (A 3 p) w (by omega) (by omega)) (by decide) (by rfl) (Nat.le_of_ble_eq_true rfl) rfl (fun v12 X12 h12 => ?_)
  obtain ⟨rfl, rfl⟩ := h12
  show Ev K 15 [some (.ref 29), some (vi ((p : Nat) : Int)), some (vi ((w : Nat) : Int))] [vi ((stp (A 3 p) w : Nat) : Int), vi (guest G A p)] X
  have hst12 := stp_le (a := A 3 p) (b := w) (by omega) (by omega)
  refine ev_aload_n (pc := 15) hC dX6_asFriend_15 rfl ?_
  refine ev_getr (pc := 16) hC 33 f19 dX6_asFriend_16 (by decide) (by decide) (by decide) (by decide) (by decide) ?_
  refine ev_iload_n (pc := 19) hC dX6_asFriend_19 rfl ?_
  have hb20 := hA.f9 p (by omega)
  refine ev_iald (pc := 20) hC p ((A 2 p : Nat) : Int) (by decide) (by decide) (rfl) (by have := (show alen 33 = 8 from rfl); omega) (hA.m2 p (by omega)) dX6_asFriend_20 ?_
  refine ev_icmp_gt (pc := 21) hC 28 dX6_asFriend_21 (by decide) (by omega) (by omega) (fun c21 => ?_) (fun c21 => ?_)
  · refine ev_iconst (pc := 28) hC dX6_asFriend_28 ?_
    refine ev_iadd (pc := 29) hC ((guest G A p) + 0) (rfl) dX6_asFriend_29 ?_
    exact ev_ireturn (pc := 30) hC hR dX6_asFriend_30 (⟨rv (by unfold friend; split <;> omega), rfl⟩)
  · refine ev_iconst (pc := 24) hC dX6_asFriend_24 ?_
    refine ev_goto (pc := 25) hC 29 dX6_asFriend_25 (by decide) ?_
    refine ev_iadd (pc := 29) hC ((guest G A p) + 1) (rfl) dX6_asFriend_29 ?_
    exact ev_ireturn (pc := 30) hC hR dX6_asFriend_30 (⟨rv (by unfold friend; split <;> omega), rfl⟩)
theorem mtX6_asChild : MT yX6_asChild wsX6_asChild cX6_asChild 4 (some .int) 1 := ⟨⟨_, rfl⟩, by decide, by decide, by decide +kernel⟩
set_option maxRecDepth 100000 in
set_option maxHeartbeats 4000000 in
theorem ru_X6_asChild {X : Mem} {A : Sl} {G : Nat} (hA : Rp (vM X) A) (hg : X 29 8 = zI (G : Nat)) (hG : G < 256) (p : Nat) (hp : p < A 5 0) : Ru yX6_asChild wsX6_asChild 4 87 [.ref 29, vi ((p : Nat) : Int)] X (fun v X' => v = some (vi (child G A p)) ∧ X = X') := by
  refine ru_of (w2 := _) rfl (by decide) [some (.ref 29), some (vi ((p : Nat) : Int)), none, none] (fun _ => rfl) (fun _ => Nat.le_of_ble_eq_true rfl) ?_
  intro K hKn hC hR
  have wX6 : ∀ w ∈ u_ws RX6 TX6 25, w ∈ wsX6_asChild := by decide +kernel
  have f25 : Fl K RX6 25 6 5 := fl_of hC RX6 TX6 25 rfl (by decide) wX6 (show Cond.fieldLink RX6 25 "PicnicOfSomebodyModel" "belief" "[I" ∈ _ by decide +kernel)
  have f52 : Fl K RX6 52 6 6 := fl_of hC RX6 TX6 25 rfl (by decide) wX6 (show Cond.fieldLink RX6 52 "PicnicOfSomebodyModel" "people" "I" ∈ _ by decide +kernel)
  have hn8 := hA.n8
  refine ev_aload_n (pc := 0) hC dX6_asChild_0 rfl ?_
  refine ev_iload_n (pc := 1) hC dX6_asChild_1 rfl ?_
  refine ev_callV (pc := 2) (as := [vi ((p : Nat) : Int)]) (rest := []) hC gX6_asChild_X6_manyBeside mtX6_manyBeside dX6_asChild_2 (ru_X6_manyBeside hA hg hG p (by omega)) (by decide) (by decide) (by decide) rfl (by rfl) (Nat.le_of_ble_eq_true rfl) rfl (fun v2 X2 h2 => ?_)
  obtain ⟨rfl, rfl⟩ := h2
  show Ev K 5 [some (.ref 29), some (vi ((p : Nat) : Int)), none, none] [vi ((many G A p : Nat) : Int)] X
  have hl2 := many_le G A p
  refine ev_if_ne (pc := 5) hC 15 dX6_asChild_5 (by decide) (by omega) (fun c5 => ?_) (fun c5 => ?_)
  · refine ev_iconst (pc := 15) hC dX6_asChild_15 ?_
    refine ev_istore_n (pc := 16) hC dX6_asChild_16 (by rw [hKn]; decide) rfl ?_
    show Ev K 17 [some (.ref 29), some (vi ((p : Nat) : Int)), some (vi 0), none] [] X
    refine ev_iconst (pc := 17) hC dX6_asChild_17 ?_
    refine ev_istore_n (pc := 18) hC dX6_asChild_18 (by rw [hKn]; decide) rfl ?_
    show Ev K 19 [some (.ref 29), some (vi ((p : Nat) : Int)), some (vi 0), some (vi 0)] [] X
    have lp19 : ∀ (fz : Nat) (i : Nat) (b : Nat), A 5 0 - i < fz → (i ≤ A 5 0) → (b = mxB i (bes G A p) (A 4)) → (b ≤ 9) → Ev K 19 [some (.ref 29), some (vi ((p : Nat) : Int)), some (vi ((b : Nat) : Int)), some (vi ((i : Nat) : Int))] [] X := by
      intro fz
      induction fz with
      | zero => intro i b hfz; exact absurd hfz (Nat.not_lt_zero _)
      | succ fz ih19 =>
        intro i b hfz hi hb hbl
        refine ev_iload_n (pc := 19) hC dX6_asChild_19 rfl ?_
        refine ev_aload_n (pc := 20) hC dX6_asChild_20 rfl ?_
        refine ev_geti (pc := 21) hC ((A 5 0 : Nat) : Int) f52 dX6_asChild_21 (by decide) (by decide) (by decide) (by decide) (by decide)  (hA.mn) ?_
        refine ev_icmp_ge (pc := 24) hC 63 dX6_asChild_24 (by decide) (by omega) (by omega) (fun c24 => ?_) (fun c24 => ?_)
        · refine ev_iload_n (pc := 63) hC dX6_asChild_63 rfl ?_
          exact ev_ireturn (pc := 64) hC hR dX6_asChild_64 (⟨rv (by unfold child; rw [if_neg (by omega), hb, show i = A 5 0 by omega]), rfl⟩)
        · refine ev_aload_n (pc := 27) hC dX6_asChild_27 rfl ?_
          refine ev_iload_n (pc := 28) hC dX6_asChild_28 rfl ?_
          refine ev_iload_n (pc := 29) hC dX6_asChild_29 rfl ?_
          refine ev_callV (pc := 30) (as := [vi ((p : Nat) : Int), vi ((i : Nat) : Int)]) (rest := []) hC gX6_asChild_X6_areBeside mtX6_areBeside dX6_asChild_30 (ru_X6_areBeside hA hg hG p i (by omega) (by omega) (bes G A p i) (ib_t (by omega))) (by decide) (by decide) (by decide) rfl (by rfl) (Nat.le_of_ble_eq_true rfl) rfl (fun v30 X30 h30 => ?_)
          obtain ⟨rfl, rfl⟩ := h30
          show Ev K 33 [some (.ref 29), some (vi ((p : Nat) : Int)), some (vi ((b : Nat) : Int)), some (vi ((i : Nat) : Int))] [vi (b2i (bes G A p i))] X
          have hr30 := b2i_r (bes G A p i)
          refine ev_if_eq (pc := 33) hC 55 dX6_asChild_33 (by decide) (by omega) (fun c33 => ?_) (fun c33 => ?_)
          · have e := b2i_0 c33
            refine ev_iload_n (pc := 55) hC dX6_asChild_55 rfl ?_
            refine ev_istore_n (pc := 56) hC dX6_asChild_56 (by rw [hKn]; decide) rfl ?_
            show Ev K 57 [some (.ref 29), some (vi ((p : Nat) : Int)), some (vi ((b : Nat) : Int)), some (vi ((i : Nat) : Int))] [] X
            refine ev_iinc (pc := 57) hC ((i + 1 : Nat) : Int) dX6_asChild_57 rfl (by omega) (by rw [hKn]; decide) rfl ?_
            show Ev K 60 [some (.ref 29), some (vi ((p : Nat) : Int)), some (vi ((b : Nat) : Int)), some (vi ((i + 1 : Nat) : Int))] [] X
            refine ev_goto (pc := 60) hC 19 dX6_asChild_60 (by decide) ?_
            exact ih19 (i + 1) b (by omega) (by omega) (by first | (rw [mxB_f e]; exact hb) | (rw [mxB_t e, ← hb]; omega)) (by omega)
          · have e := b2i_1 c33
            refine ev_aload_n (pc := 36) hC dX6_asChild_36 rfl ?_
            refine ev_getr (pc := 37) hC 35 f25 dX6_asChild_37 (by decide) (by decide) (by decide) (by decide) (by decide) ?_
            refine ev_iload_n (pc := 40) hC dX6_asChild_40 rfl ?_
            have hb41 := hA.b9 i (by omega)
            refine ev_iald (pc := 41) hC i ((A 4 i : Nat) : Int) (by decide) (by decide) (rfl) (by have := (show alen 35 = 8 from rfl); omega) (hA.m4 i (by omega)) dX6_asChild_41 ?_
            refine ev_iload_n (pc := 42) hC dX6_asChild_42 rfl ?_
            refine ev_icmp_le (pc := 43) hC 55 dX6_asChild_43 (by decide) (by omega) (by omega) (fun c43 => ?_) (fun c43 => ?_)
            · refine ev_iload_n (pc := 55) hC dX6_asChild_55 rfl ?_
              refine ev_istore_n (pc := 56) hC dX6_asChild_56 (by rw [hKn]; decide) rfl ?_
              show Ev K 57 [some (.ref 29), some (vi ((p : Nat) : Int)), some (vi ((b : Nat) : Int)), some (vi ((i : Nat) : Int))] [] X
              refine ev_iinc (pc := 57) hC ((i + 1 : Nat) : Int) dX6_asChild_57 rfl (by omega) (by rw [hKn]; decide) rfl ?_
              show Ev K 60 [some (.ref 29), some (vi ((p : Nat) : Int)), some (vi ((b : Nat) : Int)), some (vi ((i + 1 : Nat) : Int))] [] X
              refine ev_goto (pc := 60) hC 19 dX6_asChild_60 (by decide) ?_
              exact ih19 (i + 1) b (by omega) (by omega) (by first | (rw [mxB_f e]; exact hb) | (rw [mxB_t e, ← hb]; omega)) (by omega)
            · refine ev_aload_n (pc := 46) hC dX6_asChild_46 rfl ?_
              refine ev_getr (pc := 47) hC 35 f25 dX6_asChild_47 (by decide) (by decide) (by decide) (by decide) (by decide) ?_
              refine ev_iload_n (pc := 50) hC dX6_asChild_50 rfl ?_
              have hb51 := hA.b9 i (by omega)
              refine ev_iald (pc := 51) hC i ((A 4 i : Nat) : Int) (by decide) (by decide) (rfl) (by have := (show alen 35 = 8 from rfl); omega) (hA.m4 i (by omega)) dX6_asChild_51 ?_
              refine ev_goto (pc := 52) hC 56 dX6_asChild_52 (by decide) ?_
              refine ev_istore_n (pc := 56) hC dX6_asChild_56 (by rw [hKn]; decide) rfl ?_
              show Ev K 57 [some (.ref 29), some (vi ((p : Nat) : Int)), some (vi ((A 4 i : Nat) : Int)), some (vi ((i : Nat) : Int))] [] X
              refine ev_iinc (pc := 57) hC ((i + 1 : Nat) : Int) dX6_asChild_57 rfl (by omega) (by rw [hKn]; decide) rfl ?_
              show Ev K 60 [some (.ref 29), some (vi ((p : Nat) : Int)), some (vi ((A 4 i : Nat) : Int)), some (vi ((i + 1 : Nat) : Int))] [] X
              refine ev_goto (pc := 60) hC 19 dX6_asChild_60 (by decide) ?_
              exact ih19 (i + 1) (A 4 i) (by omega) (by omega) (by first | (rw [mxB_f e]; exact hb) | (rw [mxB_t e, ← hb]; omega)) (by omega)
    exact lp19 _ 0 0 (Nat.lt_succ_self _) (by omega) rfl (by omega)
  · refine ev_aload_n (pc := 8) hC dX6_asChild_8 rfl ?_
    refine ev_getr (pc := 9) hC 35 f25 dX6_asChild_9 (by decide) (by decide) (by decide) (by decide) (by decide) ?_
    refine ev_iload_n (pc := 12) hC dX6_asChild_12 rfl ?_
    have hb13 := hA.b9 p (by omega)
    refine ev_iald (pc := 13) hC p ((A 4 p : Nat) : Int) (by decide) (by decide) (rfl) (by have := (show alen 35 = 8 from rfl); omega) (hA.m4 p (by omega)) dX6_asChild_13 ?_
    exact ev_ireturn (pc := 14) hC hR dX6_asChild_14 (⟨rv (by unfold child; rw [if_pos (by omega)]), rfl⟩)
theorem mtX6_nextBelief : MT yX6_nextBelief wsX6_nextBelief cX6_nextBelief 3 (some .int) 2 := ⟨⟨_, rfl⟩, by decide, by decide, by decide +kernel⟩
set_option maxRecDepth 100000 in
set_option maxHeartbeats 4000000 in
theorem ru_X6_nextBelief {X : Mem} {A : Sl} {G : Nat} (hA : Rp (vM X) A) (hg : X 29 8 = zI (G : Nat)) (hG : G < 256) (p w : Nat) (hp : p < A 5 0) (hw : w < 25) : Ru yX6_nextBelief wsX6_nextBelief 6 131 [.ref 29, vi ((p : Nat) : Int), vi ((w : Nat) : Int)] X (fun v X' => v = some (vi (nextB G A p w)) ∧ X = X') := by
  refine ru_of (w2 := _) rfl (by decide) [some (.ref 29), some (vi ((p : Nat) : Int)), some (vi ((w : Nat) : Int))] (fun _ => rfl) (fun _ => Nat.le_of_ble_eq_true rfl) ?_
  intro K hKn hC hR
  have wX6 : ∀ w ∈ u_ws RX6 TX6 25, w ∈ wsX6_nextBelief := by decide +kernel
  have f16 : Fl K RX6 16 6 2 := fl_of hC RX6 TX6 25 rfl (by decide) wX6 (show Cond.fieldLink RX6 16 "PicnicOfSomebodyModel" "kind" "[I" ∈ _ by decide +kernel)
  have f25 : Fl K RX6 25 6 5 := fl_of hC RX6 TX6 25 rfl (by decide) wX6 (show Cond.fieldLink RX6 25 "PicnicOfSomebodyModel" "belief" "[I" ∈ _ by decide +kernel)
  have hn8 := hA.n8
  refine ev_aload_n (pc := 0) hC dX6_nextBelief_0 rfl ?_
  refine ev_getr (pc := 1) hC 32 f16 dX6_nextBelief_1 (by decide) (by decide) (by decide) (by decide) (by decide) ?_
  refine ev_iload_n (pc := 4) hC dX6_nextBelief_4 rfl ?_
  have hb5 := hA.k5 p (by omega)
  refine ev_iald (pc := 5) hC p ((A 1 p : Nat) : Int) (by decide) (by decide) (rfl) (by have := (show alen 32 = 8 from rfl); omega) (hA.m1 p (by omega)) dX6_nextBelief_5 ?_
  rcases (show ((A 1 p : Nat) : Int) = 1 ∨ ((A 1 p : Nat) : Int) = 2 ∨ ((A 1 p : Nat) : Int) = 3 ∨ ((A 1 p : Nat) : Int) = 4 ∨ ((A 1 p : Nat) : Int) = 5 ∨ ((A 1 p : Nat) : Int) < 1 ∨ 5 < ((A 1 p : Nat) : Int) by omega) with c6 | c6 | c6 | c6 | c6 | c6
  · refine ev_tabin (pc := 6) hC 40 dX6_nextBelief_6 (by omega) (by omega) (by rw [c6]; rfl) (by decide) ?_
    refine ev_aload_n (pc := 40) hC dX6_nextBelief_40 rfl ?_
    refine ev_iload_n (pc := 41) hC dX6_nextBelief_41 rfl ?_
    refine ev_iload_n (pc := 42) hC dX6_nextBelief_42 rfl ?_
    refine ev_callV (pc := 43) (as := [vi ((p : Nat) : Int), vi ((w : Nat) : Int)]) (rest := []) hC gX6_nextBelief_X6_asFriend mtX6_asFriend dX6_nextBelief_43 (ru_X6_asFriend hA hg hG p w (by omega) (by omega)) (by decide) (by decide) (by decide) rfl (by rfl) (Nat.le_of_ble_eq_true rfl) rfl (fun v43 X43 h43 => ?_)
    obtain ⟨rfl, rfl⟩ := h43
    show Ev K 46 [some (.ref 29), some (vi ((p : Nat) : Int)), some (vi ((w : Nat) : Int))] [vi (friend G A p w)] X
    have hl43 := friend_r (G := G) (w := w) (hA.b9 p (by omega))
    refine ev_iconst (pc := 46) hC dX6_nextBelief_46 ?_
    refine ev_bipush (pc := 47) hC dX6_nextBelief_47 (by decide) ?_
    refine ev_callS (pc := 49) (as := [vi (friend G A p w), vi 0, vi 9]) (rest := []) hC gX6_nextBelief_X6_held mtX6_held dX6_nextBelief_49 (ru_X6_held (friend G A p w) 0 9 (by omega) (by omega) (by omega)) (by decide) (by rfl) (Nat.le_of_ble_eq_true rfl) rfl (fun v49 X49 h49 => ?_)
    obtain ⟨rfl, rfl⟩ := h49
    show Ev K 52 [some (.ref 29), some (vi ((p : Nat) : Int)), some (vi ((w : Nat) : Int))] [vi (hld (friend G A p w) 0 9)] X
    have hhd49 := hld_cases (friend G A p w) 0 9
    exact ev_ireturn (pc := 52) hC hR dX6_nextBelief_52 (⟨rv (by unfold nextB; rw [if_pos (by omega), hld_clamp]), rfl⟩)
  · refine ev_tabin (pc := 6) hC 53 dX6_nextBelief_6 (by omega) (by omega) (by rw [c6]; rfl) (by decide) ?_
    refine ev_aload_n (pc := 53) hC dX6_nextBelief_53 rfl ?_
    refine ev_iload_n (pc := 54) hC dX6_nextBelief_54 rfl ?_
    refine ev_callV (pc := 55) (as := [vi ((p : Nat) : Int)]) (rest := []) hC gX6_nextBelief_X6_asChild mtX6_asChild dX6_nextBelief_55 (ru_X6_asChild hA hg hG p (by omega)) (by decide) (by decide) (by decide) rfl (by rfl) (Nat.le_of_ble_eq_true rfl) rfl (fun v55 X55 h55 => ?_)
    obtain ⟨rfl, rfl⟩ := h55
    show Ev K 58 [some (.ref 29), some (vi ((p : Nat) : Int)), some (vi ((w : Nat) : Int))] [vi ((child G A p : Nat) : Int)] X
    have hl55 := child_le (G := G) hA.ok (show p < _ by omega)
    exact ev_ireturn (pc := 58) hC hR dX6_nextBelief_58 (⟨rv (by unfold nextB; rw [if_neg (by omega), if_pos (by omega)]; unfold clamp; omega), rfl⟩)
  · refine ev_tabin (pc := 6) hC 59 dX6_nextBelief_6 (by omega) (by omega) (by rw [c6]; rfl) (by decide) ?_
    refine ev_aload_n (pc := 59) hC dX6_nextBelief_59 rfl ?_
    refine ev_iload_n (pc := 60) hC dX6_nextBelief_60 rfl ?_
    refine ev_callV (pc := 61) (as := [vi ((p : Nat) : Int)]) (rest := []) hC gX6_nextBelief_X6_asGuest mtX6_asGuest dX6_nextBelief_61 (ru_X6_asGuest hA hg hG p (by omega)) (by decide) (by decide) (by decide) rfl (by rfl) (Nat.le_of_ble_eq_true rfl) rfl (fun v61 X61 h61 => ?_)
    obtain ⟨rfl, rfl⟩ := h61
    show Ev K 64 [some (.ref 29), some (vi ((p : Nat) : Int)), some (vi ((w : Nat) : Int))] [vi (guest G A p)] X
    have hl61 := guest_r (G := G) (hA.b9 p (by omega))
    refine ev_iconst (pc := 64) hC dX6_nextBelief_64 ?_
    refine ev_isub (pc := 65) hC ((guest G A p) - 1) (rfl) dX6_nextBelief_65 ?_
    refine ev_iconst (pc := 66) hC dX6_nextBelief_66 ?_
    refine ev_bipush (pc := 67) hC dX6_nextBelief_67 (by decide) ?_
    refine ev_callS (pc := 69) (as := [vi ((guest G A p) - 1), vi 0, vi 9]) (rest := []) hC gX6_nextBelief_X6_held mtX6_held dX6_nextBelief_69 (ru_X6_held ((guest G A p) - 1) 0 9 (by omega) (by omega) (by omega)) (by decide) (by rfl) (Nat.le_of_ble_eq_true rfl) rfl (fun v69 X69 h69 => ?_)
    obtain ⟨rfl, rfl⟩ := h69
    show Ev K 72 [some (.ref 29), some (vi ((p : Nat) : Int)), some (vi ((w : Nat) : Int))] [vi (hld ((guest G A p) - 1) 0 9)] X
    have hhd69 := hld_cases ((guest G A p) - 1) 0 9
    exact ev_ireturn (pc := 72) hC hR dX6_nextBelief_72 (⟨rv (by unfold nextB; rw [if_neg (by omega), if_neg (by omega), if_pos (by omega), hld_clamp]), rfl⟩)
  · refine ev_tabin (pc := 6) hC 73 dX6_nextBelief_6 (by omega) (by omega) (by rw [c6]; rfl) (by decide) ?_
    refine ev_aload_n (pc := 73) hC dX6_nextBelief_73 rfl ?_
    refine ev_iload_n (pc := 74) hC dX6_nextBelief_74 rfl ?_
    refine ev_iload_n (pc := 75) hC dX6_nextBelief_75 rfl ?_
    refine ev_callV (pc := 76) (as := [vi ((p : Nat) : Int), vi ((w : Nat) : Int)]) (rest := []) hC gX6_nextBelief_X6_asFriend mtX6_asFriend dX6_nextBelief_76 (ru_X6_asFriend hA hg hG p w (by omega) (by omega)) (by decide) (by decide) (by decide) rfl (by rfl) (Nat.le_of_ble_eq_true rfl) rfl (fun v76 X76 h76 => ?_)
    obtain ⟨rfl, rfl⟩ := h76
    show Ev K 79 [some (.ref 29), some (vi ((p : Nat) : Int)), some (vi ((w : Nat) : Int))] [vi (friend G A p w)] X
    have hl76 := friend_r (G := G) (w := w) (hA.b9 p (by omega))
    refine ev_aload_n (pc := 79) hC dX6_nextBelief_79 rfl ?_
    refine ev_getr (pc := 80) hC 35 f25 dX6_nextBelief_80 (by decide) (by decide) (by decide) (by decide) (by decide) ?_
    refine ev_iload_n (pc := 83) hC dX6_nextBelief_83 rfl ?_
    have hb84 := hA.b9 p (by omega)
    refine ev_iald (pc := 84) hC p ((A 4 p : Nat) : Int) (by decide) (by decide) (rfl) (by have := (show alen 35 = 8 from rfl); omega) (hA.m4 p (by omega)) dX6_nextBelief_84 ?_
    refine ev_bipush (pc := 85) hC dX6_nextBelief_85 (by decide) ?_
    refine ev_callS (pc := 87) (as := [vi (friend G A p w), vi ((A 4 p : Nat) : Int), vi 9]) (rest := []) hC gX6_nextBelief_X6_held mtX6_held dX6_nextBelief_87 (ru_X6_held (friend G A p w) ((A 4 p : Nat) : Int) 9 (by omega) (by omega) (by omega)) (by decide) (by rfl) (Nat.le_of_ble_eq_true rfl) rfl (fun v87 X87 h87 => ?_)
    obtain ⟨rfl, rfl⟩ := h87
    show Ev K 90 [some (.ref 29), some (vi ((p : Nat) : Int)), some (vi ((w : Nat) : Int))] [vi (hld (friend G A p w) ((A 4 p : Nat) : Int) 9)] X
    have hhd87 := hld_cases (friend G A p w) ((A 4 p : Nat) : Int) 9
    exact ev_ireturn (pc := 90) hC hR dX6_nextBelief_90 (⟨rv (by unfold nextB; rw [if_neg (by omega), if_neg (by omega), if_neg (by omega), if_pos (by omega)]; unfold clamp; omega), rfl⟩)
  · refine ev_tabin (pc := 6) hC 91 dX6_nextBelief_6 (by omega) (by omega) (by rw [c6]; rfl) (by decide) ?_
    refine ev_aload_n (pc := 91) hC dX6_nextBelief_91 rfl ?_
    refine ev_iload_n (pc := 92) hC dX6_nextBelief_92 rfl ?_
    refine ev_callV (pc := 93) (as := [vi ((p : Nat) : Int)]) (rest := []) hC gX6_nextBelief_X6_asChild mtX6_asChild dX6_nextBelief_93 (ru_X6_asChild hA hg hG p (by omega)) (by decide) (by decide) (by decide) rfl (by rfl) (Nat.le_of_ble_eq_true rfl) rfl (fun v93 X93 h93 => ?_)
    obtain ⟨rfl, rfl⟩ := h93
    show Ev K 96 [some (.ref 29), some (vi ((p : Nat) : Int)), some (vi ((w : Nat) : Int))] [vi ((child G A p : Nat) : Int)] X
    have hl93 := child_le (G := G) hA.ok (show p < _ by omega)
    refine ev_iconst (pc := 96) hC dX6_nextBelief_96 ?_
    refine ev_iadd (pc := 97) hC (((child G A p) + 1 : Nat) : Int) (by omega) dX6_nextBelief_97 ?_
    refine ev_iconst (pc := 98) hC dX6_nextBelief_98 ?_
    refine ev_bipush (pc := 99) hC dX6_nextBelief_99 (by decide) ?_
    refine ev_callS (pc := 101) (as := [vi (((child G A p) + 1 : Nat) : Int), vi 0, vi 9]) (rest := []) hC gX6_nextBelief_X6_held mtX6_held dX6_nextBelief_101 (ru_X6_held (((child G A p) + 1 : Nat) : Int) 0 9 (by omega) (by omega) (by omega)) (by decide) (by rfl) (Nat.le_of_ble_eq_true rfl) rfl (fun v101 X101 h101 => ?_)
    obtain ⟨rfl, rfl⟩ := h101
    show Ev K 104 [some (.ref 29), some (vi ((p : Nat) : Int)), some (vi ((w : Nat) : Int))] [vi (hld (((child G A p) + 1 : Nat) : Int) 0 9)] X
    have hhd101 := hld_cases (((child G A p) + 1 : Nat) : Int) 0 9
    exact ev_ireturn (pc := 104) hC hR dX6_nextBelief_104 (⟨rv (by unfold nextB; rw [if_neg (by omega), if_neg (by omega), if_neg (by omega), if_neg (by omega), if_pos (by omega)]; unfold clamp; omega), rfl⟩)
  · refine ev_tabout (pc := 6) hC 105 dX6_nextBelief_6 (by omega) (by omega) (by decide) ?_
    refine ev_aload_n (pc := 105) hC dX6_nextBelief_105 rfl ?_
    refine ev_iload_n (pc := 106) hC dX6_nextBelief_106 rfl ?_
    refine ev_callV (pc := 107) (as := [vi ((p : Nat) : Int)]) (rest := []) hC gX6_nextBelief_X6_asGuest mtX6_asGuest dX6_nextBelief_107 (ru_X6_asGuest hA hg hG p (by omega)) (by decide) (by decide) (by decide) rfl (by rfl) (Nat.le_of_ble_eq_true rfl) rfl (fun v107 X107 h107 => ?_)
    obtain ⟨rfl, rfl⟩ := h107
    show Ev K 110 [some (.ref 29), some (vi ((p : Nat) : Int)), some (vi ((w : Nat) : Int))] [vi (guest G A p)] X
    have hl107 := guest_r (G := G) (hA.b9 p (by omega))
    refine ev_iconst (pc := 110) hC dX6_nextBelief_110 ?_
    refine ev_bipush (pc := 111) hC dX6_nextBelief_111 (by decide) ?_
    refine ev_callS (pc := 113) (as := [vi (guest G A p), vi 0, vi 9]) (rest := []) hC gX6_nextBelief_X6_held mtX6_held dX6_nextBelief_113 (ru_X6_held (guest G A p) 0 9 (by omega) (by omega) (by omega)) (by decide) (by rfl) (Nat.le_of_ble_eq_true rfl) rfl (fun v113 X113 h113 => ?_)
    obtain ⟨rfl, rfl⟩ := h113
    show Ev K 116 [some (.ref 29), some (vi ((p : Nat) : Int)), some (vi ((w : Nat) : Int))] [vi (hld (guest G A p) 0 9)] X
    have hhd113 := hld_cases (guest G A p) 0 9
    exact ev_ireturn (pc := 116) hC hR dX6_nextBelief_116 (⟨rv (by unfold nextB; rw [if_neg (by omega), if_neg (by omega), if_neg (by omega), if_neg (by omega), if_neg (by omega), hld_clamp]), rfl⟩)
theorem mtX6_believersAt : MT yX6_believersAt wsX6_believersAt cX6_believersAt 4 (some .int) 1 := ⟨⟨_, rfl⟩, by decide, by decide, by decide +kernel⟩
set_option maxRecDepth 100000 in
set_option maxHeartbeats 4000000 in
theorem ru_X6_believersAt {X : Mem} {A : Sl} {G : Nat} (hA : Rp (vM X) A) (hg : X 29 8 = zI (G : Nat)) (hG : G < 256) (w : Nat) (hw : w < 25) : Ru yX6_believersAt wsX6_believersAt 2 42 [.ref 29, vi ((w : Nat) : Int)] X (fun v X' => v = some (vi (blvAt G A w)) ∧ X = X') := by
  refine ru_of (w2 := _) rfl (by decide) [some (.ref 29), some (vi ((w : Nat) : Int)), none, none] (fun _ => rfl) (fun _ => Nat.le_of_ble_eq_true rfl) ?_
  intro K hKn hC hR
  have wX6 : ∀ w ∈ u_ws RX6 TX6 25, w ∈ wsX6_believersAt := by decide +kernel
  have f52 : Fl K RX6 52 6 6 := fl_of hC RX6 TX6 25 rfl (by decide) wX6 (show Cond.fieldLink RX6 52 "PicnicOfSomebodyModel" "people" "I" ∈ _ by decide +kernel)
  have f22 : Fl K RX6 22 6 4 := fl_of hC RX6 TX6 25 rfl (by decide) wX6 (show Cond.fieldLink RX6 22 "PicnicOfSomebodyModel" "cell" "[I" ∈ _ by decide +kernel)
  have hn8 := hA.n8
  refine ev_iconst (pc := 0) hC dX6_believersAt_0 ?_
  refine ev_istore_n (pc := 1) hC dX6_believersAt_1 (by rw [hKn]; decide) rfl ?_
  show Ev K 2 [some (.ref 29), some (vi ((w : Nat) : Int)), some (vi 0), none] [] X
  refine ev_iconst (pc := 2) hC dX6_believersAt_2 ?_
  refine ev_istore_n (pc := 3) hC dX6_believersAt_3 (by rw [hKn]; decide) rfl ?_
  show Ev K 4 [some (.ref 29), some (vi ((w : Nat) : Int)), some (vi 0), some (vi 0)] [] X
  have lp4 : ∀ (fz : Nat) (i : Nat) (b : Nat), A 5 0 - i < fz → (i ≤ A 5 0) → (b = cntB i (fun p => !(Nat.testBit G p) && bel A p && decide (stp (A 3 p) w ≤ 2))) → (b ≤ i) → Ev K 4 [some (.ref 29), some (vi ((w : Nat) : Int)), some (vi ((b : Nat) : Int)), some (vi ((i : Nat) : Int))] [] X := by
    intro fz
    induction fz with
    | zero => intro i b hfz; exact absurd hfz (Nat.not_lt_zero _)
    | succ fz ih4 =>
      intro i b hfz hi hb hbl
      refine ev_iload_n (pc := 4) hC dX6_believersAt_4 rfl ?_
      refine ev_aload_n (pc := 5) hC dX6_believersAt_5 rfl ?_
      refine ev_geti (pc := 6) hC ((A 5 0 : Nat) : Int) f52 dX6_believersAt_6 (by decide) (by decide) (by decide) (by decide) (by decide)  (hA.mn) ?_
      refine ev_icmp_ge (pc := 9) hC 56 dX6_believersAt_9 (by decide) (by omega) (by omega) (fun c9 => ?_) (fun c9 => ?_)
      · refine ev_iload_n (pc := 56) hC dX6_believersAt_56 rfl ?_
        exact ev_ireturn (pc := 57) hC hR dX6_believersAt_57 (⟨rv (by rw [hb, show i = A 5 0 by omega]; rfl), rfl⟩)
      · refine ev_iload_n (pc := 12) hC dX6_believersAt_12 rfl ?_
        refine ev_aload_n (pc := 13) hC dX6_believersAt_13 rfl ?_
        refine ev_iload_n (pc := 14) hC dX6_believersAt_14 rfl ?_
        refine ev_callV (pc := 15) (as := [vi ((i : Nat) : Int)]) (rest := [vi ((b : Nat) : Int)]) hC gX6_believersAt_X6_isThere mtX6_isThere dX6_believersAt_15 (ru_X6_isThere hA hg hG i (by omega) (!(Nat.testBit G i)) (ib_t (by omega))) (by decide) (by decide) (by decide) rfl (by rfl) (Nat.le_of_ble_eq_true rfl) rfl (fun v15 X15 h15 => ?_)
        obtain ⟨rfl, rfl⟩ := h15
        show Ev K 18 [some (.ref 29), some (vi ((w : Nat) : Int)), some (vi ((b : Nat) : Int)), some (vi ((i : Nat) : Int))] [vi (b2i (!(Nat.testBit G i))), vi ((b : Nat) : Int)] X
        have hr15 := b2i_r (!(Nat.testBit G i))
        refine ev_if_eq (pc := 18) hC 47 dX6_believersAt_18 (by decide) (by omega) (fun c18 => ?_) (fun c18 => ?_)
        · have e := b2i_nf c18
          refine ev_iconst (pc := 47) hC dX6_believersAt_47 ?_
          refine ev_iadd (pc := 48) hC ((b + 0 : Nat) : Int) (by omega) dX6_believersAt_48 ?_
          refine ev_istore_n (pc := 49) hC dX6_believersAt_49 (by rw [hKn]; decide) rfl ?_
          show Ev K 50 [some (.ref 29), some (vi ((w : Nat) : Int)), some (vi ((b + 0 : Nat) : Int)), some (vi ((i : Nat) : Int))] [] X
          refine ev_iinc (pc := 50) hC ((i + 1 : Nat) : Int) dX6_believersAt_50 rfl (by omega) (by rw [hKn]; decide) rfl ?_
          show Ev K 53 [some (.ref 29), some (vi ((w : Nat) : Int)), some (vi ((b + 0 : Nat) : Int)), some (vi ((i + 1 : Nat) : Int))] [] X
          refine ev_goto (pc := 53) hC 4 dX6_believersAt_53 (by decide) ?_
          exact ih4 (i + 1) (b + 0) (by omega) (by omega) (cntB_f (by simp [e]) hb) (by omega)
        · have e := b2i_nt c18
          refine ev_aload_n (pc := 21) hC dX6_believersAt_21 rfl ?_
          refine ev_iload_n (pc := 22) hC dX6_believersAt_22 rfl ?_
          refine ev_callV (pc := 23) (as := [vi ((i : Nat) : Int)]) (rest := [vi ((b : Nat) : Int)]) hC gX6_believersAt_X6_believesNow mtX6_believesNow dX6_believersAt_23 (ru_X6_believesNow i _ (by have := hA.n8; omega) (hA.m4 i (by omega)) (hA.b9 i (by omega))) (by decide) (by decide) (by decide) rfl (by rfl) (Nat.le_of_ble_eq_true rfl) rfl (fun v23 X23 h23 => ?_)
          obtain ⟨rfl, rfl⟩ := h23
          show Ev K 26 [some (.ref 29), some (vi ((w : Nat) : Int)), some (vi ((b : Nat) : Int)), some (vi ((i : Nat) : Int))] [vi (b2i (bel A i)), vi ((b : Nat) : Int)] X
          have hr23 := b2i_r (bel A i)
          refine ev_if_eq (pc := 26) hC 47 dX6_believersAt_26 (by decide) (by omega) (fun c26 => ?_) (fun c26 => ?_)
          · have e2 := b2i_0 c26
            refine ev_iconst (pc := 47) hC dX6_believersAt_47 ?_
            refine ev_iadd (pc := 48) hC ((b + 0 : Nat) : Int) (by omega) dX6_believersAt_48 ?_
            refine ev_istore_n (pc := 49) hC dX6_believersAt_49 (by rw [hKn]; decide) rfl ?_
            show Ev K 50 [some (.ref 29), some (vi ((w : Nat) : Int)), some (vi ((b + 0 : Nat) : Int)), some (vi ((i : Nat) : Int))] [] X
            refine ev_iinc (pc := 50) hC ((i + 1 : Nat) : Int) dX6_believersAt_50 rfl (by omega) (by rw [hKn]; decide) rfl ?_
            show Ev K 53 [some (.ref 29), some (vi ((w : Nat) : Int)), some (vi ((b + 0 : Nat) : Int)), some (vi ((i + 1 : Nat) : Int))] [] X
            refine ev_goto (pc := 53) hC 4 dX6_believersAt_53 (by decide) ?_
            exact ih4 (i + 1) (b + 0) (by omega) (by omega) (cntB_f (by simp [e2]) hb) (by omega)
          · have e2 := b2i_1 c26
            refine ev_aload_n (pc := 29) hC dX6_believersAt_29 rfl ?_
            refine ev_getr (pc := 30) hC 34 f22 dX6_believersAt_30 (by decide) (by decide) (by decide) (by decide) (by decide) ?_
            refine ev_iload_n (pc := 33) hC dX6_believersAt_33 rfl ?_
            have hb34 := hA.c25 i (by omega)
            refine ev_iald (pc := 34) hC i ((A 3 i : Nat) : Int) (by decide) (by decide) (rfl) (by have := (show alen 34 = 8 from rfl); omega) (hA.m3 i (by omega)) dX6_believersAt_34 ?_
            refine ev_iload_n (pc := 35) hC dX6_believersAt_35 rfl ?_
            refine ev_callS (pc := 36) (as := [vi ((A 3 i : Nat) : Int), vi ((w : Nat) : Int)]) (rest := [vi ((b : Nat) : Int)]) hC gX6_believersAt_X6_steps mtX6_steps dX6_believersAt_36 (ru_X6_steps (A 3 i) w (by omega) (by omega)) (by decide) (by rfl) (Nat.le_of_ble_eq_true rfl) rfl (fun v36 X36 h36 => ?_)
            obtain ⟨rfl, rfl⟩ := h36
            show Ev K 39 [some (.ref 29), some (vi ((w : Nat) : Int)), some (vi ((b : Nat) : Int)), some (vi ((i : Nat) : Int))] [vi ((stp (A 3 i) w : Nat) : Int), vi ((b : Nat) : Int)] X
            have hst36 := stp_le (a := A 3 i) (b := w) (by omega) (by omega)
            refine ev_iconst (pc := 39) hC dX6_believersAt_39 ?_
            refine ev_icmp_ge (pc := 40) hC 47 dX6_believersAt_40 (by decide) (by omega) (by omega) (fun c40 => ?_) (fun c40 => ?_)
            · have e3 : ¬ stp (A 3 i) w ≤ 2 := by omega
              refine ev_iconst (pc := 47) hC dX6_believersAt_47 ?_
              refine ev_iadd (pc := 48) hC ((b + 0 : Nat) : Int) (by omega) dX6_believersAt_48 ?_
              refine ev_istore_n (pc := 49) hC dX6_believersAt_49 (by rw [hKn]; decide) rfl ?_
              show Ev K 50 [some (.ref 29), some (vi ((w : Nat) : Int)), some (vi ((b + 0 : Nat) : Int)), some (vi ((i : Nat) : Int))] [] X
              refine ev_iinc (pc := 50) hC ((i + 1 : Nat) : Int) dX6_believersAt_50 rfl (by omega) (by rw [hKn]; decide) rfl ?_
              show Ev K 53 [some (.ref 29), some (vi ((w : Nat) : Int)), some (vi ((b + 0 : Nat) : Int)), some (vi ((i + 1 : Nat) : Int))] [] X
              refine ev_goto (pc := 53) hC 4 dX6_believersAt_53 (by decide) ?_
              exact ih4 (i + 1) (b + 0) (by omega) (by omega) (cntB_f (by rw [decide_eq_false e3, Bool.and_false]) hb) (by omega)
            · have e3 : stp (A 3 i) w ≤ 2 := by omega
              refine ev_iconst (pc := 43) hC dX6_believersAt_43 ?_
              refine ev_goto (pc := 44) hC 48 dX6_believersAt_44 (by decide) ?_
              refine ev_iadd (pc := 48) hC ((b + 1 : Nat) : Int) (by omega) dX6_believersAt_48 ?_
              refine ev_istore_n (pc := 49) hC dX6_believersAt_49 (by rw [hKn]; decide) rfl ?_
              show Ev K 50 [some (.ref 29), some (vi ((w : Nat) : Int)), some (vi ((b + 1 : Nat) : Int)), some (vi ((i : Nat) : Int))] [] X
              refine ev_iinc (pc := 50) hC ((i + 1 : Nat) : Int) dX6_believersAt_50 rfl (by omega) (by rw [hKn]; decide) rfl ?_
              show Ev K 53 [some (.ref 29), some (vi ((w : Nat) : Int)), some (vi ((b + 1 : Nat) : Int)), some (vi ((i + 1 : Nat) : Int))] [] X
              refine ev_goto (pc := 53) hC 4 dX6_believersAt_53 (by decide) ?_
              exact ih4 (i + 1) (b + 1) (by omega) (by omega) (cntB_t (by simp [e, e2, e3]) hb) (by omega)
  exact lp4 _ 0 0 (Nat.lt_succ_self _) (by omega) rfl (by omega)
theorem mtX6_towards : MT yX6_towards wsX6_towards cX6_towards 2 (some .int) 2 := ⟨⟨_, rfl⟩, by decide, by decide, by decide +kernel⟩
set_option maxRecDepth 100000 in
set_option maxHeartbeats 4000000 in
theorem ru_X6_towards {X : Mem} (a b : Nat) (ha : a < 25) (hb : b < 25) : Ru yX6_towards wsX6_towards 0 0 [vi ((a : Nat) : Int), vi ((b : Nat) : Int)] X (fun v X' => v = some (vi (toward a b)) ∧ X = X') := by
  refine ru_of (w2 := _) rfl (by decide) [some (vi ((a : Nat) : Int)), some (vi ((b : Nat) : Int))] (fun _ => rfl) (fun _ => Nat.le_of_ble_eq_true rfl) ?_
  intro K hKn hC hR
  have k3 := toward_cases a b
  refine ev_iload_n (pc := 0) hC dX6_towards_0 rfl ?_
  refine ev_iconst (pc := 1) hC dX6_towards_1 ?_
  refine ev_idiv (pc := 2) hC ((a / 5 : Nat) : Int) (by omega) (by omega) (by omega) dX6_towards_2 ?_
  refine ev_iload_n (pc := 3) hC dX6_towards_3 rfl ?_
  refine ev_iconst (pc := 4) hC dX6_towards_4 ?_
  refine ev_idiv (pc := 5) hC ((b / 5 : Nat) : Int) (by omega) (by omega) (by omega) dX6_towards_5 ?_
  refine ev_icmp_eq (pc := 6) hC 28 dX6_towards_6 (by decide) (by omega) (by omega) (fun c6 => ?_) (fun c6 => ?_)
  · refine ev_iload_n (pc := 28) hC dX6_towards_28 rfl ?_
    refine ev_iconst (pc := 29) hC dX6_towards_29 ?_
    refine ev_irem (pc := 30) hC ((a % 5 : Nat) : Int) (by omega) (by omega) (by omega) dX6_towards_30 ?_
    refine ev_iload_n (pc := 31) hC dX6_towards_31 rfl ?_
    refine ev_iconst (pc := 32) hC dX6_towards_32 ?_
    refine ev_irem (pc := 33) hC ((b % 5 : Nat) : Int) (by omega) (by omega) (by omega) dX6_towards_33 ?_
    refine ev_icmp_ge (pc := 34) hC 43 dX6_towards_34 (by decide) (by omega) (by omega) (fun c34 => ?_) (fun c34 => ?_)
    · refine ev_iload_n (pc := 43) hC dX6_towards_43 rfl ?_
      refine ev_iconst (pc := 44) hC dX6_towards_44 ?_
      refine ev_irem (pc := 45) hC ((a % 5 : Nat) : Int) (by omega) (by omega) (by omega) dX6_towards_45 ?_
      refine ev_iload_n (pc := 46) hC dX6_towards_46 rfl ?_
      refine ev_iconst (pc := 47) hC dX6_towards_47 ?_
      refine ev_irem (pc := 48) hC ((b % 5 : Nat) : Int) (by omega) (by omega) (by omega) dX6_towards_48 ?_
      refine ev_icmp_le (pc := 49) hC 58 dX6_towards_49 (by decide) (by omega) (by omega) (fun c49 => ?_) (fun c49 => ?_)
      · refine ev_iload_n (pc := 58) hC dX6_towards_58 rfl ?_
        exact ev_ireturn (pc := 59) hC hR dX6_towards_59 (⟨rv (by omega), rfl⟩)
      · refine ev_iload_n (pc := 52) hC dX6_towards_52 rfl ?_
        refine ev_iconst (pc := 53) hC dX6_towards_53 ?_
        refine ev_isub (pc := 54) hC (((a : Nat) : Int) - 1) (rfl) dX6_towards_54 ?_
        refine ev_goto (pc := 55) hC 59 dX6_towards_55 (by decide) ?_
        exact ev_ireturn (pc := 59) hC hR dX6_towards_59 (⟨rv (by omega), rfl⟩)
    · refine ev_iload_n (pc := 37) hC dX6_towards_37 rfl ?_
      refine ev_iconst (pc := 38) hC dX6_towards_38 ?_
      refine ev_iadd (pc := 39) hC ((a + 1 : Nat) : Int) (by omega) dX6_towards_39 ?_
      refine ev_goto (pc := 40) hC 59 dX6_towards_40 (by decide) ?_
      exact ev_ireturn (pc := 59) hC hR dX6_towards_59 (⟨rv (by omega), rfl⟩)
  · refine ev_iload_n (pc := 9) hC dX6_towards_9 rfl ?_
    refine ev_iconst (pc := 10) hC dX6_towards_10 ?_
    refine ev_idiv (pc := 11) hC ((a / 5 : Nat) : Int) (by omega) (by omega) (by omega) dX6_towards_11 ?_
    refine ev_iload_n (pc := 12) hC dX6_towards_12 rfl ?_
    refine ev_iconst (pc := 13) hC dX6_towards_13 ?_
    refine ev_idiv (pc := 14) hC ((b / 5 : Nat) : Int) (by omega) (by omega) (by omega) dX6_towards_14 ?_
    refine ev_icmp_ge (pc := 15) hC 24 dX6_towards_15 (by decide) (by omega) (by omega) (fun c15 => ?_) (fun c15 => ?_)
    · refine ev_iload_n (pc := 24) hC dX6_towards_24 rfl ?_
      refine ev_iconst (pc := 25) hC dX6_towards_25 ?_
      refine ev_isub (pc := 26) hC (((a : Nat) : Int) - 5) (rfl) dX6_towards_26 ?_
      exact ev_ireturn (pc := 27) hC hR dX6_towards_27 (⟨rv (by omega), rfl⟩)
    · refine ev_iload_n (pc := 18) hC dX6_towards_18 rfl ?_
      refine ev_iconst (pc := 19) hC dX6_towards_19 ?_
      refine ev_iadd (pc := 20) hC ((a + 5 : Nat) : Int) (by omega) dX6_towards_20 ?_
      refine ev_goto (pc := 21) hC 27 dX6_towards_21 (by decide) ?_
      exact ev_ireturn (pc := 27) hC hR dX6_towards_27 (⟨rv (by omega), rfl⟩)
theorem mtX6_believers : MT yX6_believers wsX6_believers cX6_believers 3 (some .int) 0 := ⟨⟨_, rfl⟩, by decide, by decide, by decide +kernel⟩
set_option maxRecDepth 100000 in
set_option maxHeartbeats 4000000 in
theorem ru_X6_believers {X : Mem} {A : Sl} {G : Nat} (hA : Rp (vM X) A) (hg : X 29 8 = zI (G : Nat)) (hG : G < 256) : Ru yX6_believers wsX6_believers 2 42 [.ref 29] X (fun v X' => v = some (vi (bset G A)) ∧ X = X') := by
  refine ru_of (w2 := _) rfl (by decide) [some (.ref 29), none, none] (fun _ => rfl) (fun _ => Nat.le_of_ble_eq_true rfl) ?_
  intro K hKn hC hR
  have wX6 : ∀ w ∈ u_ws RX6 TX6 25, w ∈ wsX6_believers := by decide +kernel
  have f52 : Fl K RX6 52 6 6 := fl_of hC RX6 TX6 25 rfl (by decide) wX6 (show Cond.fieldLink RX6 52 "PicnicOfSomebodyModel" "people" "I" ∈ _ by decide +kernel)
  have hn8 := hA.n8
  refine ev_iconst (pc := 0) hC dX6_believers_0 ?_
  refine ev_istore_n (pc := 1) hC dX6_believers_1 (by rw [hKn]; decide) rfl ?_
  show Ev K 2 [some (.ref 29), some (vi 0), none] [] X
  refine ev_iconst (pc := 2) hC dX6_believers_2 ?_
  refine ev_istore_n (pc := 3) hC dX6_believers_3 (by rw [hKn]; decide) rfl ?_
  show Ev K 4 [some (.ref 29), some (vi 0), some (vi 0)] [] X
  have lp4 : ∀ (fz : Nat) (i : Nat) (b : Nat), A 5 0 - i < fz → (i ≤ A 5 0) → (b = bitsB i (fun p => !(Nat.testBit G p) && bel A p)) → Ev K 4 [some (.ref 29), some (vi ((b : Nat) : Int)), some (vi ((i : Nat) : Int))] [] X := by
    intro fz
    induction fz with
    | zero => intro i b hfz; exact absurd hfz (Nat.not_lt_zero _)
    | succ fz ih4 =>
      intro i b hfz hi hb
      refine ev_iload_n (pc := 4) hC dX6_believers_4 rfl ?_
      refine ev_aload_n (pc := 5) hC dX6_believers_5 rfl ?_
      refine ev_geti (pc := 6) hC ((A 5 0 : Nat) : Int) f52 dX6_believers_6 (by decide) (by decide) (by decide) (by decide) (by decide)  (hA.mn) ?_
      refine ev_icmp_ge (pc := 9) hC 44 dX6_believers_9 (by decide) (by omega) (by omega) (fun c9 => ?_) (fun c9 => ?_)
      · refine ev_iload_n (pc := 44) hC dX6_believers_44 rfl ?_
        exact ev_ireturn (pc := 45) hC hR dX6_believers_45 (⟨rv (by rw [hb, show i = A 5 0 by omega]; rfl), rfl⟩)
      · refine ev_iload_n (pc := 12) hC dX6_believers_12 rfl ?_
        refine ev_aload_n (pc := 13) hC dX6_believers_13 rfl ?_
        refine ev_iload_n (pc := 14) hC dX6_believers_14 rfl ?_
        refine ev_callV (pc := 15) (as := [vi ((i : Nat) : Int)]) (rest := [vi ((b : Nat) : Int)]) hC gX6_believers_X6_isThere mtX6_isThere dX6_believers_15 (ru_X6_isThere hA hg hG i (by omega) (!(Nat.testBit G i)) (ib_t (by omega))) (by decide) (by decide) (by decide) rfl (by rfl) (Nat.le_of_ble_eq_true rfl) rfl (fun v15 X15 h15 => ?_)
        obtain ⟨rfl, rfl⟩ := h15
        show Ev K 18 [some (.ref 29), some (vi ((b : Nat) : Int)), some (vi ((i : Nat) : Int))] [vi (b2i (!(Nat.testBit G i))), vi ((b : Nat) : Int)] X
        have hr15 := b2i_r (!(Nat.testBit G i))
        refine ev_if_eq (pc := 18) hC 35 dX6_believers_18 (by decide) (by omega) (fun c18 => ?_) (fun c18 => ?_)
        · have e := b2i_nf c18
          refine ev_iconst (pc := 35) hC dX6_believers_35 ?_
          refine ev_ior (pc := 36) hC ((b ||| 0 : Nat) : Int) (zI_or b 0) dX6_believers_36 ?_
          refine ev_istore_n (pc := 37) hC dX6_believers_37 (by rw [hKn]; decide) rfl ?_
          show Ev K 38 [some (.ref 29), some (vi ((b ||| 0 : Nat) : Int)), some (vi ((i : Nat) : Int))] [] X
          refine ev_iinc (pc := 38) hC ((i + 1 : Nat) : Int) dX6_believers_38 rfl (by omega) (by rw [hKn]; decide) rfl ?_
          show Ev K 41 [some (.ref 29), some (vi ((b ||| 0 : Nat) : Int)), some (vi ((i + 1 : Nat) : Int))] [] X
          refine ev_goto (pc := 41) hC 4 dX6_believers_41 (by decide) ?_
          exact ih4 (i + 1) (b ||| 0) (by omega) (by omega) (bitsB_f0 (by simp [e]) hb)
        · have e := b2i_nt c18
          refine ev_aload_n (pc := 21) hC dX6_believers_21 rfl ?_
          refine ev_iload_n (pc := 22) hC dX6_believers_22 rfl ?_
          refine ev_callV (pc := 23) (as := [vi ((i : Nat) : Int)]) (rest := [vi ((b : Nat) : Int)]) hC gX6_believers_X6_believesNow mtX6_believesNow dX6_believers_23 (ru_X6_believesNow i _ (by have := hA.n8; omega) (hA.m4 i (by omega)) (hA.b9 i (by omega))) (by decide) (by decide) (by decide) rfl (by rfl) (Nat.le_of_ble_eq_true rfl) rfl (fun v23 X23 h23 => ?_)
          obtain ⟨rfl, rfl⟩ := h23
          show Ev K 26 [some (.ref 29), some (vi ((b : Nat) : Int)), some (vi ((i : Nat) : Int))] [vi (b2i (bel A i)), vi ((b : Nat) : Int)] X
          have hr23 := b2i_r (bel A i)
          refine ev_if_eq (pc := 26) hC 35 dX6_believers_26 (by decide) (by omega) (fun c26 => ?_) (fun c26 => ?_)
          · have e2 := b2i_0 c26
            refine ev_iconst (pc := 35) hC dX6_believers_35 ?_
            refine ev_ior (pc := 36) hC ((b ||| 0 : Nat) : Int) (zI_or b 0) dX6_believers_36 ?_
            refine ev_istore_n (pc := 37) hC dX6_believers_37 (by rw [hKn]; decide) rfl ?_
            show Ev K 38 [some (.ref 29), some (vi ((b ||| 0 : Nat) : Int)), some (vi ((i : Nat) : Int))] [] X
            refine ev_iinc (pc := 38) hC ((i + 1 : Nat) : Int) dX6_believers_38 rfl (by omega) (by rw [hKn]; decide) rfl ?_
            show Ev K 41 [some (.ref 29), some (vi ((b ||| 0 : Nat) : Int)), some (vi ((i + 1 : Nat) : Int))] [] X
            refine ev_goto (pc := 41) hC 4 dX6_believers_41 (by decide) ?_
            exact ih4 (i + 1) (b ||| 0) (by omega) (by omega) (bitsB_f0 (by simp [e2]) hb)
          · have e2 := b2i_1 c26
            refine ev_iconst (pc := 29) hC dX6_believers_29 ?_
            refine ev_iload_n (pc := 30) hC dX6_believers_30 rfl ?_
            refine ev_ishl (pc := 31) hC ((2 ^ i : Nat) : Int) (zI_shl1 i (by omega)) dX6_believers_31 ?_
            refine ev_goto (pc := 32) hC 36 dX6_believers_32 (by decide) ?_
            refine ev_ior (pc := 36) hC ((b ||| (2 ^ i) : Nat) : Int) (zI_or b (2 ^ i)) dX6_believers_36 ?_
            refine ev_istore_n (pc := 37) hC dX6_believers_37 (by rw [hKn]; decide) rfl ?_
            show Ev K 38 [some (.ref 29), some (vi ((b ||| (2 ^ i) : Nat) : Int)), some (vi ((i : Nat) : Int))] [] X
            refine ev_iinc (pc := 38) hC ((i + 1 : Nat) : Int) dX6_believers_38 rfl (by omega) (by rw [hKn]; decide) rfl ?_
            show Ev K 41 [some (.ref 29), some (vi ((b ||| (2 ^ i) : Nat) : Int)), some (vi ((i + 1 : Nat) : Int))] [] X
            refine ev_goto (pc := 41) hC 4 dX6_believers_41 (by decide) ?_
            exact ih4 (i + 1) (b ||| (2 ^ i)) (by omega) (by omega) (bitsB_t (by simp [e, e2]) hb)
  exact lp4 _ 0 0 (Nat.lt_succ_self _) (by omega) rfl
theorem mtX6_everybody : MT yX6_everybody wsX6_everybody cX6_everybody 1 (some .int) 0 := ⟨⟨_, rfl⟩, by decide, by decide, by decide +kernel⟩
set_option maxRecDepth 100000 in
set_option maxHeartbeats 4000000 in
theorem ru_X6_everybody {X : Mem} {A : Sl} (hA : Rp (vM X) A) : Ru yX6_everybody wsX6_everybody 0 0 [.ref 29] X (fun v X' => v = some (vi (evb A)) ∧ X = X') := by
  refine ru_of (w2 := _) rfl (by decide) [some (.ref 29)] (fun _ => rfl) (fun _ => Nat.le_of_ble_eq_true rfl) ?_
  intro K hKn hC hR
  have wX6 : ∀ w ∈ u_ws RX6 TX6 25, w ∈ wsX6_everybody := by decide +kernel
  have f52 : Fl K RX6 52 6 6 := fl_of hC RX6 TX6 25 rfl (by decide) wX6 (show Cond.fieldLink RX6 52 "PicnicOfSomebodyModel" "people" "I" ∈ _ by decide +kernel)
  have hn8 := hA.n8
  refine ev_iconst (pc := 0) hC dX6_everybody_0 ?_
  refine ev_aload_n (pc := 1) hC dX6_everybody_1 rfl ?_
  refine ev_geti (pc := 2) hC ((A 5 0 : Nat) : Int) f52 dX6_everybody_2 (by decide) (by decide) (by decide) (by decide) (by decide)  (hA.mn) ?_
  refine ev_ishl (pc := 5) hC ((2 ^ (A 5 0) : Nat) : Int) (zI_shl1 (A 5 0) (by omega)) dX6_everybody_5 ?_
  refine ev_iconst (pc := 6) hC dX6_everybody_6 ?_
  refine ev_isub (pc := 7) hC (((2 ^ (A 5 0) : Nat) : Int) - 1) (rfl) dX6_everybody_7 ?_
  exact ev_ireturn (pc := 8) hC hR dX6_everybody_8 (⟨rv (by have := Nat.two_pow_pos (A 5 0); unfold evb; omega), rfl⟩)
