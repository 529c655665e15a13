theorem mtX5_apart : MT yX5_apart wsX5_apart cX5_apart 4 (some .int) 2 := ⟨⟨_, rfl⟩, by decide, by decide, by decide +kernel⟩
set_option maxRecDepth 100000 in
set_option maxHeartbeats 4000000 in
theorem ru_X5_apart {X : Mem} (a b : Nat) (ha : a < 25) (hb : b < 25) : Ru yX5_apart wsX5_apart 0 0 [vi ((a : Nat) : Int), vi ((b : Nat) : Int)] X (fun v X' => v = some (vi (stp a b)) ∧ X = X') := by
  refine ru_of (w2 := _) rfl (by decide) [some (vi ((a : Nat) : Int)), some (vi ((b : Nat) : Int)), none, none] (fun _ => rfl) (fun _ => Nat.le_of_ble_eq_true rfl) ?_
  intro K hKn hC hR
  refine ev_iload_n (pc := 0) hC dX5_apart_0 rfl ?_
  refine ev_iconst (pc := 1) hC dX5_apart_1 ?_
  refine ev_idiv (pc := 2) hC ((a / 5 : Nat) : Int) (by omega) (by omega) (by omega) dX5_apart_2 ?_
  refine ev_iload_n (pc := 3) hC dX5_apart_3 rfl ?_
  refine ev_iconst (pc := 4) hC dX5_apart_4 ?_
  refine ev_idiv (pc := 5) hC ((b / 5 : Nat) : Int) (by omega) (by omega) (by omega) dX5_apart_5 ?_
  refine ev_isub (pc := 6) hC (((a / 5 : Nat) : Int) - ((b / 5 : Nat) : Int)) (rfl) dX5_apart_6 ?_
  refine ev_istore_n (pc := 7) hC dX5_apart_7 (by rw [hKn]; decide) rfl ?_
  show Ev K 8 [some (vi ((a : Nat) : Int)), some (vi ((b : Nat) : Int)), some (vi (((a / 5 : Nat) : Int) - ((b / 5 : Nat) : Int))), none] [] X
  refine ev_iload_n (pc := 8) hC dX5_apart_8 rfl ?_
  refine ev_iconst (pc := 9) hC dX5_apart_9 ?_
  refine ev_irem (pc := 10) hC ((a % 5 : Nat) : Int) (by omega) (by omega) (by omega) dX5_apart_10 ?_
  refine ev_iload_n (pc := 11) hC dX5_apart_11 rfl ?_
  refine ev_iconst (pc := 12) hC dX5_apart_12 ?_
  refine ev_irem (pc := 13) hC ((b % 5 : Nat) : Int) (by omega) (by omega) (by omega) dX5_apart_13 ?_
  refine ev_isub (pc := 14) hC (((a % 5 : Nat) : Int) - ((b % 5 : Nat) : Int)) (rfl) dX5_apart_14 ?_
  refine ev_istore_n (pc := 15) hC dX5_apart_15 (by rw [hKn]; decide) rfl ?_
  show Ev K 16 [some (vi ((a : Nat) : Int)), some (vi ((b : Nat) : Int)), some (vi (((a / 5 : Nat) : Int) - ((b / 5 : Nat) : Int))), some (vi (((a % 5 : Nat) : Int) - ((b % 5 : Nat) : Int)))] [] X
  refine ev_iload_n (pc := 16) hC dX5_apart_16 rfl ?_
  refine ev_if_ge (pc := 17) hC 25 dX5_apart_17 (by decide) (by omega) (fun c17 => ?_) (fun c17 => ?_)
  · refine ev_iload_n (pc := 25) hC dX5_apart_25 rfl ?_
    refine ev_iload_n (pc := 26) hC dX5_apart_26 rfl ?_
    refine ev_if_ge (pc := 27) hC 35 dX5_apart_27 (by decide) (by omega) (fun c27 => ?_) (fun c27 => ?_)
    · refine ev_iload_n (pc := 35) hC dX5_apart_35 rfl ?_
      refine ev_iadd (pc := 36) hC ((((a / 5 : Nat) : Int) - ((b / 5 : Nat) : Int)) + (((a % 5 : Nat) : Int) - ((b % 5 : Nat) : Int))) (rfl) dX5_apart_36 ?_
      exact ev_ireturn (pc := 37) hC hR dX5_apart_37 (⟨rv (by unfold stp far; omega), rfl⟩)
    · refine ev_iload_n (pc := 30) hC dX5_apart_30 rfl ?_
      refine ev_ineg (pc := 31) hC (- (((a % 5 : Nat) : Int) - ((b % 5 : Nat) : Int))) (rfl) dX5_apart_31 ?_
      refine ev_goto (pc := 32) hC 36 dX5_apart_32 (by decide) ?_
      refine ev_iadd (pc := 36) hC ((((a / 5 : Nat) : Int) - ((b / 5 : Nat) : Int)) + (- (((a % 5 : Nat) : Int) - ((b % 5 : Nat) : Int)))) (rfl) dX5_apart_36 ?_
      exact ev_ireturn (pc := 37) hC hR dX5_apart_37 (⟨rv (by unfold stp far; omega), rfl⟩)
  · refine ev_iload_n (pc := 20) hC dX5_apart_20 rfl ?_
    refine ev_ineg (pc := 21) hC (- (((a / 5 : Nat) : Int) - ((b / 5 : Nat) : Int))) (rfl) dX5_apart_21 ?_
    refine ev_goto (pc := 22) hC 26 dX5_apart_22 (by decide) ?_
    refine ev_iload_n (pc := 26) hC dX5_apart_26 rfl ?_
    refine ev_if_ge (pc := 27) hC 35 dX5_apart_27 (by decide) (by omega) (fun c27 => ?_) (fun c27 => ?_)
    · refine ev_iload_n (pc := 35) hC dX5_apart_35 rfl ?_
      refine ev_iadd (pc := 36) hC ((- (((a / 5 : Nat) : Int) - ((b / 5 : Nat) : Int))) + (((a % 5 : Nat) : Int) - ((b % 5 : Nat) : Int))) (rfl) dX5_apart_36 ?_
      exact ev_ireturn (pc := 37) hC hR dX5_apart_37 (⟨rv (by unfold stp far; omega), rfl⟩)
    · refine ev_iload_n (pc := 30) hC dX5_apart_30 rfl ?_
      refine ev_ineg (pc := 31) hC (- (((a % 5 : Nat) : Int) - ((b % 5 : Nat) : Int))) (rfl) dX5_apart_31 ?_
      refine ev_goto (pc := 32) hC 36 dX5_apart_32 (by decide) ?_
      refine ev_iadd (pc := 36) hC ((- (((a / 5 : Nat) : Int) - ((b / 5 : Nat) : Int))) + (- (((a % 5 : Nat) : Int) - ((b % 5 : Nat) : Int)))) (rfl) dX5_apart_36 ?_
      exact ev_ireturn (pc := 37) hC hR dX5_apart_37 (⟨rv (by unfold stp far; omega), rfl⟩)
theorem mtX5_isIn : MT yX5_isIn wsX5_isIn cX5_isIn 2 (some .boolean) 2 := ⟨⟨_, rfl⟩, by decide, by decide, by decide +kernel⟩
set_option maxRecDepth 100000 in
set_option maxHeartbeats 4000000 in
theorem ru_X5_isIn {X : Mem} (S k : Nat) (hS : S < 2147483648) (hk : k < 31) : Ru yX5_isIn wsX5_isIn 0 0 [vi ((S : Nat) : Int), vi ((k : Nat) : Int)] X (fun v X' => v = some (vi (b2i (S.testBit k))) ∧ X = X') := by
  refine ru_of (w2 := _) rfl (by decide) [some (vi ((S : Nat) : Int)), some (vi ((k : Nat) : Int))] (fun _ => rfl) (fun _ => Nat.le_of_ble_eq_true rfl) ?_
  intro K hKn hC hR
  refine ev_iload_n (pc := 0) hC dX5_isIn_0 rfl ?_
  refine ev_iload_n (pc := 1) hC dX5_isIn_1 rfl ?_
  refine ev_ishr (pc := 2) hC ((S / 2 ^ k : Nat) : Int) (zI_shr (a := S) (k := k) (by omega) (by omega)) dX5_isIn_2 ?_
  have hdv : S / 2 ^ k ≤ S := Nat.div_le_self _ _
  have hm2 : S / 2 ^ k &&& 1 = S / 2 ^ k % 2 := and1 _
  refine ev_iconst (pc := 3) hC dX5_isIn_3 ?_
  refine ev_iand (pc := 4) hC (((S / 2 ^ k) &&& 1 : Nat) : Int) (zI_and (S / 2 ^ k) 1) dX5_isIn_4 ?_
  refine ev_if_eq (pc := 5) hC 12 dX5_isIn_5 (by decide) (by omega) (fun c5 => ?_) (fun c5 => ?_)
  · refine ev_iconst (pc := 12) hC dX5_isIn_12 ?_
    exact ev_zreturn (pc := 13) hC hR dX5_isIn_13 (by decide) (⟨rv (by rw [tb_div]; unfold b2i; simp only [decide_eq_true_eq]; split <;> omega), rfl⟩)
  · refine ev_iconst (pc := 8) hC dX5_isIn_8 ?_
    refine ev_goto (pc := 9) hC 13 dX5_isIn_9 (by decide) ?_
    exact ev_zreturn (pc := 13) hC hR dX5_isIn_13 (by decide) (⟨rv (by rw [tb_div]; unfold b2i; simp only [decide_eq_true_eq]; split <;> omega), rfl⟩)
theorem mtX3_isFull : MT yX3_isFull wsX3_isFull cX3_isFull 1 (some .boolean) 0 := ⟨⟨_, rfl⟩, by decide, by decide, by decide +kernel⟩
set_option maxRecDepth 100000 in
set_option maxHeartbeats 4000000 in
theorem ru_X3_isFull {X : Mem} {s : Nat} {A : Sl} (hs : Sp s) (hA : Rp (vC X s) A) : Ru yX3_isFull wsX3_isFull 0 0 [.ref s] X (fun v X' => v = some (vi (b2i (decide (8 ≤ A 5 0)))) ∧ X = X') := by
  refine ru_of (w2 := _) rfl (by decide) [some (.ref s)] (fun _ => rfl) (fun _ => Nat.le_of_ble_eq_true rfl) ?_
  intro K hKn hC hR
  have wX3 : ∀ w ∈ u_ws RX3 TX3 8, w ∈ wsX3_isFull := by decide +kernel
  have f30 : Fl K RX3 30 3 6 := fl_of hC RX3 TX3 8 rfl (by decide) wX3 (show Cond.fieldLink RX3 30 "PicnicOfSomebody$Slope" "people" "I" ∈ _ by decide +kernel)
  have hn8 := hA.n8
  refine ev_aload_n (pc := 0) hC dX3_isFull_0 rfl ?_
  refine ev_geti (pc := 1) hC ((A 5 0 : Nat) : Int) f30 dX3_isFull_1 (sp_lt hs) (sp_o hs) (sp_c hs) (by rw [sp_nf hs]; decide) (sp_fn6 hs)  (hA.cn) ?_
  refine ev_bipush (pc := 4) hC dX3_isFull_4 (by decide) ?_
  refine ev_icmp_lt (pc := 6) hC 13 dX3_isFull_6 (by decide) (by omega) (by omega) (fun c6 => ?_) (fun c6 => ?_)
  · refine ev_iconst (pc := 13) hC dX3_isFull_13 ?_
    exact ev_zreturn (pc := 14) hC hR dX3_isFull_14 (by decide) (⟨rv (by unfold b2i; simp only [decide_eq_true_eq]; split <;> omega), rfl⟩)
  · refine ev_iconst (pc := 9) hC dX3_isFull_9 ?_
    refine ev_goto (pc := 10) hC 14 dX3_isFull_10 (by decide) ?_
    exact ev_zreturn (pc := 14) hC hR dX3_isFull_14 (by decide) (⟨rv (by unfold b2i; simp only [decide_eq_true_eq]; split <;> omega), rfl⟩)
theorem mtX3_hollow : MT yX3_hollow wsX3_hollow cX3_hollow 3 (some .int) 0 := ⟨⟨_, rfl⟩, by decide, by decide, by decide +kernel⟩
set_option maxRecDepth 100000 in
set_option maxHeartbeats 4000000 in
theorem ru_X3_hollow {X : Mem} {s : Nat} {A : Sl} (hs : Sp s) (hA : Rp (vC X s) A) : Ru yX3_hollow wsX3_hollow 0 0 [.ref s] X (fun v X' => v = some (vi (here A)) ∧ X = X') := by
  refine ru_of (w2 := _) rfl (by decide) [some (.ref s), none, none] (fun _ => rfl) (fun _ => Nat.le_of_ble_eq_true rfl) ?_
  intro K hKn hC hR
  have wX3 : ∀ w ∈ u_ws RX3 TX3 8, w ∈ wsX3_hollow := by decide +kernel
  have f9 : Fl K RX3 9 3 0 := fl_of hC RX3 TX3 8 rfl (by decide) wX3 (show Cond.fieldLink RX3 9 "PicnicOfSomebody$Slope" "depths" "[I" ∈ _ by decide +kernel)
  have hn8 := hA.n8
  refine ev_iconst (pc := 0) hC dX3_hollow_0 ?_
  refine ev_istore_n (pc := 1) hC dX3_hollow_1 (by rw [hKn]; decide) rfl ?_
  show Ev K 2 [some (.ref s), some (vi 0), none] [] X
  refine ev_iconst (pc := 2) hC dX3_hollow_2 ?_
  refine ev_istore_n (pc := 3) hC dX3_hollow_3 (by rw [hKn]; decide) rfl ?_
  show Ev K 4 [some (.ref s), some (vi 0), some (vi 1)] [] X
  have lp4 : ∀ (fz : Nat) (i : Nat) (d : Nat), 25 - i < fz → (1 ≤ i ∧ i ≤ 25) → (d = hereN A (i - 1)) → (d < i) → Ev K 4 [some (.ref s), some (vi ((d : Nat) : Int)), some (vi ((i : Nat) : Int))] [] X := by
    intro fz
    induction fz with
    | zero => intro i d hfz; exact absurd hfz (Nat.not_lt_zero _)
    | succ fz ih4 =>
      intro i d hfz h1 hd hdl
      refine ev_iload_n (pc := 4) hC dX3_hollow_4 rfl ?_
      refine ev_bipush (pc := 5) hC dX3_hollow_5 (by decide) ?_
      refine ev_icmp_ge (pc := 7) hC 33 dX3_hollow_7 (by decide) (by omega) (by omega) (fun c7 => ?_) (fun c7 => ?_)
      · refine ev_iload_n (pc := 33) hC dX3_hollow_33 rfl ?_
        exact ev_ireturn (pc := 34) hC hR dX3_hollow_34 (⟨rv (by rw [hd, show i - 1 = 24 by omega]; rfl), rfl⟩)
      · refine ev_aload_n (pc := 10) hC dX3_hollow_10 rfl ?_
        refine ev_getr (pc := 11) hC (5 + 6 * s + 0) f9 dX3_hollow_11 (sp_lt hs) (sp_o hs) (sp_c hs) (by rw [sp_nf hs]; decide) (sp_fr0 hs) ?_
        refine ev_iload_n (pc := 14) hC dX3_hollow_14 rfl ?_
        have hb15 := hA.d99 i (by omega)
        refine ev_iald (pc := 15) hC i ((A 0 i : Nat) : Int) (sp_alt0 hs) (sp_ao0 hs) (rfl) (by have := (sp_al0 hs); omega) (hA.c0 i (by omega)) dX3_hollow_15 ?_
        refine ev_aload_n (pc := 16) hC dX3_hollow_16 rfl ?_
        refine ev_getr (pc := 17) hC (5 + 6 * s + 0) f9 dX3_hollow_17 (sp_lt hs) (sp_o hs) (sp_c hs) (by rw [sp_nf hs]; decide) (sp_fr0 hs) ?_
        refine ev_iload_n (pc := 20) hC dX3_hollow_20 rfl ?_
        have hb21 := hA.d99 d (by omega)
        refine ev_iald (pc := 21) hC d ((A 0 d : Nat) : Int) (sp_alt0 hs) (sp_ao0 hs) (rfl) (by have := (sp_al0 hs); omega) (hA.c0 d (by omega)) dX3_hollow_21 ?_
        refine ev_icmp_le (pc := 22) hC 27 dX3_hollow_22 (by decide) (by omega) (by omega) (fun c22 => ?_) (fun c22 => ?_)
        · refine ev_iinc (pc := 27) hC ((i + 1 : Nat) : Int) dX3_hollow_27 rfl (by omega) (by rw [hKn]; decide) rfl ?_
          show Ev K 30 [some (.ref s), some (vi ((d : Nat) : Int)), some (vi ((i + 1 : Nat) : Int))] [] X
          refine ev_goto (pc := 30) hC 4 dX3_hollow_30 (by decide) ?_
          exact ih4 (i + 1) d (by omega) (by omega) (by show _ = hereN A i; rw [show i = (i - 1) + 1 by omega, hereN_succ, ← hd]; first | (rw [if_pos (by rw [show i - 1 + 1 = i by omega]; omega)]; try omega) | rw [if_neg (by rw [show i - 1 + 1 = i by omega]; omega)]) (by omega)
        · refine ev_iload_n (pc := 25) hC dX3_hollow_25 rfl ?_
          refine ev_istore_n (pc := 26) hC dX3_hollow_26 (by rw [hKn]; decide) rfl ?_
          show Ev K 27 [some (.ref s), some (vi ((i : Nat) : Int)), some (vi ((i : Nat) : Int))] [] X
          refine ev_iinc (pc := 27) hC ((i + 1 : Nat) : Int) dX3_hollow_27 rfl (by omega) (by rw [hKn]; decide) rfl ?_
          show Ev K 30 [some (.ref s), some (vi ((i : Nat) : Int)), some (vi ((i + 1 : Nat) : Int))] [] X
          refine ev_goto (pc := 30) hC 4 dX3_hollow_30 (by decide) ?_
          exact ih4 (i + 1) i (by omega) (by omega) (by show _ = hereN A i; rw [show i = (i - 1) + 1 by omega, hereN_succ, ← hd]; first | (rw [if_pos (by rw [show i - 1 + 1 = i by omega]; omega)]; try omega) | rw [if_neg (by rw [show i - 1 + 1 = i by omega]; omega)]) (by omega)
  exact lp4 _ 1 0 (Nat.lt_succ_self _) (by omega) rfl (by omega)
theorem mtX3_besideBits : MT yX3_besideBits wsX3_besideBits cX3_besideBits 4 (some .int) 1 := ⟨⟨_, rfl⟩, by decide, by decide, by decide +kernel⟩
set_option maxRecDepth 100000 in
set_option maxHeartbeats 4000000 in
theorem ru_X3_besideBits {X : Mem} {s : Nat} {A : Sl} (hs : Sp s) (hA : Rp (vC X s) A) (p : Nat) (hp : p < A 5 0) : Ru yX3_besideBits wsX3_besideBits 1 23 [.ref s, vi ((p : Nat) : Int)] X (fun v X' => v = some (vi (bitsB (A 5 0) (bes 0 A p))) ∧ X = X') := by
  refine ru_of (w2 := _) rfl (by decide) [some (.ref s), some (vi ((p : Nat) : Int)), none, none] (fun _ => rfl) (fun _ => Nat.le_of_ble_eq_true rfl) ?_
  intro K hKn hC hR
  have wX3 : ∀ w ∈ u_ws RX3 TX3 8, w ∈ wsX3_besideBits := by decide +kernel
  have f30 : Fl K RX3 30 3 6 := fl_of hC RX3 TX3 8 rfl (by decide) wX3 (show Cond.fieldLink RX3 30 "PicnicOfSomebody$Slope" "people" "I" ∈ _ by decide +kernel)
  have f21 : Fl K RX3 21 3 3 := fl_of hC RX3 TX3 8 rfl (by decide) wX3 (show Cond.fieldLink RX3 21 "PicnicOfSomebody$Slope" "cells" "[I" ∈ _ by decide +kernel)
  have hn8 := hA.n8
  refine ev_iconst (pc := 0) hC dX3_besideBits_0 ?_
  refine ev_istore_n (pc := 1) hC dX3_besideBits_1 (by rw [hKn]; decide) rfl ?_
  show Ev K 2 [some (.ref s), some (vi ((p : Nat) : Int)), some (vi 0), none] [] X
  refine ev_iconst (pc := 2) hC dX3_besideBits_2 ?_
  refine ev_istore_n (pc := 3) hC dX3_besideBits_3 (by rw [hKn]; decide) rfl ?_
  show Ev K 4 [some (.ref s), some (vi ((p : Nat) : Int)), some (vi 0), some (vi 0)] [] X
  have lp4 : ∀ (fz : Nat) (i : Nat) (b : Nat), A 5 0 - i < fz → (i ≤ A 5 0) → (b = bitsB i (bes 0 A p)) → Ev K 4 [some (.ref s), some (vi ((p : Nat) : Int)), some (vi ((b : Nat) : Int)), some (vi ((i : Nat) : Int))] [] X := by
    intro fz
    induction fz with
    | zero => intro i b hfz; exact absurd hfz (Nat.not_lt_zero _)
    | succ fz ih4 =>
      intro i b hfz hi hb
      refine ev_iload_n (pc := 4) hC dX3_besideBits_4 rfl ?_
      refine ev_aload_n (pc := 5) hC dX3_besideBits_5 rfl ?_
      refine ev_geti (pc := 6) hC ((A 5 0 : Nat) : Int) f30 dX3_besideBits_6 (sp_lt hs) (sp_o hs) (sp_c hs) (by rw [sp_nf hs]; decide) (sp_fn6 hs)  (hA.cn) ?_
      refine ev_icmp_ge (pc := 9) hC 48 dX3_besideBits_9 (by decide) (by omega) (by omega) (fun c9 => ?_) (fun c9 => ?_)
      · refine ev_iload_n (pc := 48) hC dX3_besideBits_48 rfl ?_
        exact ev_ireturn (pc := 49) hC hR dX3_besideBits_49 (⟨rv (by rw [hb, show i = A 5 0 by omega]), rfl⟩)
      · refine ev_iload_n (pc := 12) hC dX3_besideBits_12 rfl ?_
        refine ev_iload_n (pc := 13) hC dX3_besideBits_13 rfl ?_
        refine ev_icmp_eq (pc := 14) hC 42 dX3_besideBits_14 (by decide) (by omega) (by omega) (fun c14 => ?_) (fun c14 => ?_)
        · have e : bes 0 A p i = false := bes0_f (Or.inl (by omega))
          refine ev_iinc (pc := 42) hC ((i + 1 : Nat) : Int) dX3_besideBits_42 rfl (by omega) (by rw [hKn]; decide) rfl ?_
          show Ev K 45 [some (.ref s), some (vi ((p : Nat) : Int)), some (vi ((b : Nat) : Int)), some (vi ((i + 1 : Nat) : Int))] [] X
          refine ev_goto (pc := 45) hC 4 dX3_besideBits_45 (by decide) ?_
          exact ih4 (i + 1) b (by omega) (by omega) (by first | exact bitsB_t e hb | exact bitsB_f e hb)
        · refine ev_aload_n (pc := 17) hC dX3_besideBits_17 rfl ?_
          refine ev_getr (pc := 18) hC (5 + 6 * s + 3) f21 dX3_besideBits_18 (sp_lt hs) (sp_o hs) (sp_c hs) (by rw [sp_nf hs]; decide) (sp_fr3 hs) ?_
          refine ev_iload_n (pc := 21) hC dX3_besideBits_21 rfl ?_
          have hb22 := hA.c25 i (by omega)
          refine ev_iald (pc := 22) hC i ((A 3 i : Nat) : Int) (sp_alt3 hs) (sp_ao3 hs) (rfl) (by have := (sp_al3 hs); omega) (hA.c3 i (by omega)) dX3_besideBits_22 ?_
          refine ev_aload_n (pc := 23) hC dX3_besideBits_23 rfl ?_
          refine ev_getr (pc := 24) hC (5 + 6 * s + 3) f21 dX3_besideBits_24 (sp_lt hs) (sp_o hs) (sp_c hs) (by rw [sp_nf hs]; decide) (sp_fr3 hs) ?_
          refine ev_iload_n (pc := 27) hC dX3_besideBits_27 rfl ?_
          have hb28 := hA.c25 p (by omega)
          refine ev_iald (pc := 28) hC p ((A 3 p : Nat) : Int) (sp_alt3 hs) (sp_ao3 hs) (rfl) (by have := (sp_al3 hs); omega) (hA.c3 p (by omega)) dX3_besideBits_28 ?_
          refine ev_callN (pc := 29) (as := [vi ((A 3 i : Nat) : Int), vi ((A 3 p : Nat) : Int)]) (rest := []) hC (by decide +kernel) gX3_besideBits_X5_apart_n51 (show Cond.static yX5_apart ∈ _ by decide +kernel) (show Cond.initialized RX5 ∈ _ by decide +kernel) mtX5_apart dX3_besideBits_29 (ru_X5_apart (A 3 i) (A 3 p) (by omega) (by omega)) (by decide) (by rfl) (Nat.le_of_ble_eq_true rfl) rfl (fun v29 X29 h29 => ?_)
          obtain ⟨rfl, rfl⟩ := h29
          show Ev K 32 [some (.ref s), some (vi ((p : Nat) : Int)), some (vi ((b : Nat) : Int)), some (vi ((i : Nat) : Int))] [vi ((stp (A 3 i) (A 3 p) : Nat) : Int)] X
          have hst29 := stp_le (a := A 3 i) (b := A 3 p) (by omega) (by omega)
          refine ev_iconst (pc := 32) hC dX3_besideBits_32 ?_
          refine ev_icmp_gt (pc := 33) hC 42 dX3_besideBits_33 (by decide) (by omega) (by omega) (fun c33 => ?_) (fun c33 => ?_)
          · have e : bes 0 A p i = false := bes0_f (Or.inr (by rw [stp_comm]; omega))
            refine ev_iinc (pc := 42) hC ((i + 1 : Nat) : Int) dX3_besideBits_42 rfl (by omega) (by rw [hKn]; decide) rfl ?_
            show Ev K 45 [some (.ref s), some (vi ((p : Nat) : Int)), some (vi ((b : Nat) : Int)), some (vi ((i + 1 : Nat) : Int))] [] X
            refine ev_goto (pc := 45) hC 4 dX3_besideBits_45 (by decide) ?_
            exact ih4 (i + 1) b (by omega) (by omega) (by first | exact bitsB_t e hb | exact bitsB_f e hb)
          · have e : bes 0 A p i = true := bes0_t (by omega) (by rw [stp_comm]; omega)
            refine ev_iload_n (pc := 36) hC dX3_besideBits_36 rfl ?_
            refine ev_iconst (pc := 37) hC dX3_besideBits_37 ?_
            refine ev_iload_n (pc := 38) hC dX3_besideBits_38 rfl ?_
            refine ev_ishl (pc := 39) hC ((2 ^ i : Nat) : Int) (zI_shl1 i (by omega)) dX3_besideBits_39 ?_
            refine ev_ior (pc := 40) hC ((b ||| (2 ^ i) : Nat) : Int) (zI_or b (2 ^ i)) dX3_besideBits_40 ?_
            refine ev_istore_n (pc := 41) hC dX3_besideBits_41 (by rw [hKn]; decide) rfl ?_
            show Ev K 42 [some (.ref s), some (vi ((p : Nat) : Int)), some (vi ((b ||| (2 ^ i) : Nat) : Int)), some (vi ((i : Nat) : Int))] [] X
            refine ev_iinc (pc := 42) hC ((i + 1 : Nat) : Int) dX3_besideBits_42 rfl (by omega) (by rw [hKn]; decide) rfl ?_
            show Ev K 45 [some (.ref s), some (vi ((p : Nat) : Int)), some (vi ((b ||| (2 ^ i) : Nat) : Int)), some (vi ((i + 1 : Nat) : Int))] [] X
            refine ev_goto (pc := 45) hC 4 dX3_besideBits_45 (by decide) ?_
            exact ih4 (i + 1) (b ||| (2 ^ i)) (by omega) (by omega) (by first | exact bitsB_t e hb | exact bitsB_f e hb)
  exact lp4 _ 0 0 (Nat.lt_succ_self _) (by omega) rfl
theorem mtX3_isBeliever : MT yX3_isBeliever wsX3_isBeliever cX3_isBeliever 2 (some .boolean) 1 := ⟨⟨_, rfl⟩, by decide, by decide, by decide +kernel⟩
set_option maxRecDepth 100000 in
set_option maxHeartbeats 4000000 in
theorem ru_X3_isBeliever {X : Mem} {s : Nat} (hs : Sp s) (p b : Nat) (hp : p < 8) (hb : X (5 + 6 * s + 4) p = zI b) (hb9 : b ≤ 9) : Ru yX3_isBeliever wsX3_isBeliever 0 0 [.ref s, vi ((p : Nat) : Int)] X (fun v X' => v = some (vi (b2i (decide (5 ≤ b)))) ∧ X = X') := by
  refine ru_of (w2 := _) rfl (by decide) [some (.ref s), some (vi ((p : Nat) : Int))] (fun _ => rfl) (fun _ => Nat.le_of_ble_eq_true rfl) ?_
  intro K hKn hC hR
  have wX3 : ∀ w ∈ u_ws RX3 TX3 8, w ∈ wsX3_isBeliever := by decide +kernel
  have f24 : Fl K RX3 24 3 4 := fl_of hC RX3 TX3 8 rfl (by decide) wX3 (show Cond.fieldLink RX3 24 "PicnicOfSomebody$Slope" "beliefs" "[I" ∈ _ by decide +kernel)
  refine ev_aload_n (pc := 0) hC dX3_isBeliever_0 rfl ?_
  refine ev_getr (pc := 1) hC (5 + 6 * s + 4) f24 dX3_isBeliever_1 (sp_lt hs) (sp_o hs) (sp_c hs) (by rw [sp_nf hs]; decide) (sp_fr4 hs) ?_
  refine ev_iload_n (pc := 4) hC dX3_isBeliever_4 rfl ?_
  refine ev_iald (pc := 5) hC p ((b : Nat) : Int) (sp_alt4 hs) (sp_ao4 hs) (rfl) (by have := (sp_al4 hs); omega) (hb) dX3_isBeliever_5 ?_
  refine ev_iconst (pc := 6) hC dX3_isBeliever_6 ?_
  refine ev_icmp_lt (pc := 7) hC 14 dX3_isBeliever_7 (by decide) (by omega) (by omega) (fun c7 => ?_) (fun c7 => ?_)
  · refine ev_iconst (pc := 14) hC dX3_isBeliever_14 ?_
    exact ev_zreturn (pc := 15) hC hR dX3_isBeliever_15 (by decide) (⟨rv (by unfold b2i; simp only [decide_eq_true_eq]; split <;> omega), rfl⟩)
  · refine ev_iconst (pc := 10) hC dX3_isBeliever_10 ?_
    refine ev_goto (pc := 11) hC 15 dX3_isBeliever_11 (by decide) ?_
    exact ev_zreturn (pc := 15) hC hR dX3_isBeliever_15 (by decide) (⟨rv (by unfold b2i; simp only [decide_eq_true_eq]; split <;> omega), rfl⟩)
theorem mtX3_believerBits : MT yX3_believerBits wsX3_believerBits cX3_believerBits 3 (some .int) 0 := ⟨⟨_, rfl⟩, by decide, by decide, by decide +kernel⟩
set_option maxRecDepth 100000 in
set_option maxHeartbeats 4000000 in
theorem ru_X3_believerBits {X : Mem} {s : Nat} {A : Sl} (hs : Sp s) (hA : Rp (vC X s) A) : Ru yX3_believerBits wsX3_believerBits 1 21 [.ref s] X (fun v X' => v = some (vi (bset 0 A)) ∧ X = X') := by
  refine ru_of (w2 := _) rfl (by decide) [some (.ref s), none, none] (fun _ => rfl) (fun _ => Nat.le_of_ble_eq_true rfl) ?_
  intro K hKn hC hR
  have wX3 : ∀ w ∈ u_ws RX3 TX3 8, w ∈ wsX3_believerBits := by decide +kernel
  have f30 : Fl K RX3 30 3 6 := fl_of hC RX3 TX3 8 rfl (by decide) wX3 (show Cond.fieldLink RX3 30 "PicnicOfSomebody$Slope" "people" "I" ∈ _ by decide +kernel)
  have hn8 := hA.n8
  refine ev_iconst (pc := 0) hC dX3_believerBits_0 ?_
  refine ev_istore_n (pc := 1) hC dX3_believerBits_1 (by rw [hKn]; decide) rfl ?_
  show Ev K 2 [some (.ref s), some (vi 0), none] [] X
  refine ev_iconst (pc := 2) hC dX3_believerBits_2 ?_
  refine ev_istore_n (pc := 3) hC dX3_believerBits_3 (by rw [hKn]; decide) rfl ?_
  show Ev K 4 [some (.ref s), some (vi 0), some (vi 0)] [] X
  have lp4 : ∀ (fz : Nat) (i : Nat) (b : Nat), A 5 0 - i < fz → (i ≤ A 5 0) → (b = bitsB i (fun p => !(Nat.testBit 0 p) && bel A p)) → Ev K 4 [some (.ref s), some (vi ((b : Nat) : Int)), some (vi ((i : Nat) : Int))] [] X := by
    intro fz
    induction fz with
    | zero => intro i b hfz; exact absurd hfz (Nat.not_lt_zero _)
    | succ fz ih4 =>
      intro i b hfz hi hb
      refine ev_iload_n (pc := 4) hC dX3_believerBits_4 rfl ?_
      refine ev_aload_n (pc := 5) hC dX3_believerBits_5 rfl ?_
      refine ev_geti (pc := 6) hC ((A 5 0 : Nat) : Int) f30 dX3_believerBits_6 (sp_lt hs) (sp_o hs) (sp_c hs) (by rw [sp_nf hs]; decide) (sp_fn6 hs)  (hA.cn) ?_
      refine ev_icmp_ge (pc := 9) hC 32 dX3_believerBits_9 (by decide) (by omega) (by omega) (fun c9 => ?_) (fun c9 => ?_)
      · refine ev_iload_n (pc := 32) hC dX3_believerBits_32 rfl ?_
        exact ev_ireturn (pc := 33) hC hR dX3_believerBits_33 (⟨rv (by rw [hb, show i = A 5 0 by omega]; rfl), rfl⟩)
      · refine ev_aload_n (pc := 12) hC dX3_believerBits_12 rfl ?_
        refine ev_iload_n (pc := 13) hC dX3_believerBits_13 rfl ?_
        refine ev_callV (pc := 14) (as := [vi ((i : Nat) : Int)]) (rest := []) hC gX3_believerBits_X3_isBeliever mtX3_isBeliever dX3_believerBits_14 (ru_X3_isBeliever hs i _ (by have := hA.n8; omega) (hA.c4 i (by omega)) (hA.b9 i (by omega))) (by decide) (sp_lt hs) (sp_o hs) (sp_cn hs) (by rfl) (Nat.le_of_ble_eq_true rfl) rfl (fun v14 X14 h14 => ?_)
        obtain ⟨rfl, rfl⟩ := h14
        show Ev K 17 [some (.ref s), some (vi ((b : Nat) : Int)), some (vi ((i : Nat) : Int))] [vi (b2i (bel A i))] X
        have hr14 := b2i_r (bel A i)
        refine ev_if_eq (pc := 17) hC 26 dX3_believerBits_17 (by decide) (by omega) (fun c17 => ?_) (fun c17 => ?_)
        · have e : bel A i = false := b2i_0 c17
          refine ev_iinc (pc := 26) hC ((i + 1 : Nat) : Int) dX3_believerBits_26 rfl (by omega) (by rw [hKn]; decide) rfl ?_
          show Ev K 29 [some (.ref s), some (vi ((b : Nat) : Int)), some (vi ((i + 1 : Nat) : Int))] [] X
          refine ev_goto (pc := 29) hC 4 dX3_believerBits_29 (by decide) ?_
          exact ih4 (i + 1) b (by omega) (by omega) (bitsB_f (by simp [e]) hb)
        · have e : bel A i = true := b2i_1 c17
          refine ev_iload_n (pc := 20) hC dX3_believerBits_20 rfl ?_
          refine ev_iconst (pc := 21) hC dX3_believerBits_21 ?_
          refine ev_iload_n (pc := 22) hC dX3_believerBits_22 rfl ?_
          refine ev_ishl (pc := 23) hC ((2 ^ i : Nat) : Int) (zI_shl1 i (by omega)) dX3_believerBits_23 ?_
          refine ev_ior (pc := 24) hC ((b ||| (2 ^ i) : Nat) : Int) (zI_or b (2 ^ i)) dX3_believerBits_24 ?_
          refine ev_istore_n (pc := 25) hC dX3_believerBits_25 (by rw [hKn]; decide) rfl ?_
          show Ev K 26 [some (.ref s), some (vi ((b ||| (2 ^ i) : Nat) : Int)), some (vi ((i : Nat) : Int))] [] X
          refine ev_iinc (pc := 26) hC ((i + 1 : Nat) : Int) dX3_believerBits_26 rfl (by omega) (by rw [hKn]; decide) rfl ?_
          show Ev K 29 [some (.ref s), some (vi ((b ||| (2 ^ i) : Nat) : Int)), some (vi ((i + 1 : Nat) : Int))] [] X
          refine ev_goto (pc := 29) hC 4 dX3_believerBits_29 (by decide) ?_
          exact ih4 (i + 1) (b ||| (2 ^ i)) (by omega) (by omega) (bitsB_t (by simp [e]) hb)
  exact lp4 _ 0 0 (Nat.lt_succ_self _) (by omega) rfl
theorem mtJ6_bitCount_0f7a4 : MT yJ6_bitCount_0f7a4 wsJ6_bitCount_0f7a4 cJ6_bitCount_0f7a4 1 (some .int) 1 := ⟨⟨_, rfl⟩, by decide, by decide, by decide +kernel⟩
set_option maxRecDepth 100000 in
set_option maxHeartbeats 4000000 in
theorem ru_J6_bitCount_0f7a4 {X : Mem} (S : Nat) (hS : S < 256) : Ru yJ6_bitCount_0f7a4 wsJ6_bitCount_0f7a4 0 0 [vi ((S : Nat) : Int)] X (fun v X' => v = some (vi (pop S)) ∧ X = X') := by
  refine ru_of (w2 := _) rfl (by decide) [some (vi ((S : Nat) : Int))] (fun _ => rfl) (fun _ => Nat.le_of_ble_eq_true rfl) ?_
  intro K hKn hC hR
  refine ev_iload_n (pc := 0) hC dJ6_bitCount_0f7a4_0 rfl ?_
  refine ev_iload_n (pc := 1) hC dJ6_bitCount_0f7a4_1 rfl ?_
  refine ev_iconst (pc := 2) hC dJ6_bitCount_0f7a4_2 ?_
  refine ev_iushr (pc := 3) hC ((bc1 S : Nat) : Int) (bc1_ok S hS) dJ6_bitCount_0f7a4_3 ?_
  refine ev_ldcw (pc := 4) hC 1431655765 (show Cond.constant RJ6 265 (1431655765) ∈ _ by decide +kernel) (by decide) dJ6_bitCount_0f7a4_4 ?_
  refine ev_iand (pc := 7) hC ((bc2 S : Nat) : Int) (bc2_ok S hS) dJ6_bitCount_0f7a4_7 ?_
  refine ev_isub (pc := 8) hC ((bc3 S : Nat) : Int) (bc3_ok S hS) dJ6_bitCount_0f7a4_8 ?_
  refine ev_istore_n (pc := 9) hC dJ6_bitCount_0f7a4_9 (by rw [hKn]; decide) rfl ?_
  show Ev K 10 [some (vi ((bc3 S : Nat) : Int))] [] X
  refine ev_iload_n (pc := 10) hC dJ6_bitCount_0f7a4_10 rfl ?_
  refine ev_ldcw (pc := 11) hC 858993459 (show Cond.constant RJ6 266 (858993459) ∈ _ by decide +kernel) (by decide) dJ6_bitCount_0f7a4_11 ?_
  refine ev_iand (pc := 14) hC ((bc4 S : Nat) : Int) (bc4_ok S hS) dJ6_bitCount_0f7a4_14 ?_
  refine ev_iload_n (pc := 15) hC dJ6_bitCount_0f7a4_15 rfl ?_
  refine ev_iconst (pc := 16) hC dJ6_bitCount_0f7a4_16 ?_
  refine ev_iushr (pc := 17) hC ((bc5 S : Nat) : Int) (bc5_ok S hS) dJ6_bitCount_0f7a4_17 ?_
  refine ev_ldcw (pc := 18) hC 858993459 (show Cond.constant RJ6 266 (858993459) ∈ _ by decide +kernel) (by decide) dJ6_bitCount_0f7a4_18 ?_
  refine ev_iand (pc := 21) hC ((bc6 S : Nat) : Int) (bc6_ok S hS) dJ6_bitCount_0f7a4_21 ?_
  refine ev_iadd (pc := 22) hC ((bc7 S : Nat) : Int) (bc7_ok S hS) dJ6_bitCount_0f7a4_22 ?_
  refine ev_istore_n (pc := 23) hC dJ6_bitCount_0f7a4_23 (by rw [hKn]; decide) rfl ?_
  show Ev K 24 [some (vi ((bc7 S : Nat) : Int))] [] X
  refine ev_iload_n (pc := 24) hC dJ6_bitCount_0f7a4_24 rfl ?_
  refine ev_iload_n (pc := 25) hC dJ6_bitCount_0f7a4_25 rfl ?_
  refine ev_iconst (pc := 26) hC dJ6_bitCount_0f7a4_26 ?_
  refine ev_iushr (pc := 27) hC ((bc8 S : Nat) : Int) (bc8_ok S hS) dJ6_bitCount_0f7a4_27 ?_
  refine ev_iadd (pc := 28) hC ((bc9 S : Nat) : Int) (bc9_ok S hS) dJ6_bitCount_0f7a4_28 ?_
  refine ev_ldcw (pc := 29) hC 252645135 (show Cond.constant RJ6 267 (252645135) ∈ _ by decide +kernel) (by decide) dJ6_bitCount_0f7a4_29 ?_
  refine ev_iand (pc := 32) hC ((bc10 S : Nat) : Int) (bc10_ok S hS) dJ6_bitCount_0f7a4_32 ?_
  refine ev_istore_n (pc := 33) hC dJ6_bitCount_0f7a4_33 (by rw [hKn]; decide) rfl ?_
  show Ev K 34 [some (vi ((bc10 S : Nat) : Int))] [] X
  refine ev_iload_n (pc := 34) hC dJ6_bitCount_0f7a4_34 rfl ?_
  refine ev_iload_n (pc := 35) hC dJ6_bitCount_0f7a4_35 rfl ?_
  refine ev_bipush (pc := 36) hC dJ6_bitCount_0f7a4_36 (by decide) ?_
  refine ev_iushr (pc := 38) hC ((bc11 S : Nat) : Int) (bc11_ok S hS) dJ6_bitCount_0f7a4_38 ?_
  refine ev_iadd (pc := 39) hC ((bc12 S : Nat) : Int) (bc12_ok S hS) dJ6_bitCount_0f7a4_39 ?_
  refine ev_istore_n (pc := 40) hC dJ6_bitCount_0f7a4_40 (by rw [hKn]; decide) rfl ?_
  show Ev K 41 [some (vi ((bc12 S : Nat) : Int))] [] X
  refine ev_iload_n (pc := 41) hC dJ6_bitCount_0f7a4_41 rfl ?_
  refine ev_iload_n (pc := 42) hC dJ6_bitCount_0f7a4_42 rfl ?_
  refine ev_bipush (pc := 43) hC dJ6_bitCount_0f7a4_43 (by decide) ?_
  refine ev_iushr (pc := 45) hC ((bc13 S : Nat) : Int) (bc13_ok S hS) dJ6_bitCount_0f7a4_45 ?_
  refine ev_iadd (pc := 46) hC ((bc14 S : Nat) : Int) (bc14_ok S hS) dJ6_bitCount_0f7a4_46 ?_
  refine ev_istore_n (pc := 47) hC dJ6_bitCount_0f7a4_47 (by rw [hKn]; decide) rfl ?_
  show Ev K 48 [some (vi ((bc14 S : Nat) : Int))] [] X
  refine ev_iload_n (pc := 48) hC dJ6_bitCount_0f7a4_48 rfl ?_
  refine ev_bipush (pc := 49) hC dJ6_bitCount_0f7a4_49 (by decide) ?_
  refine ev_iand (pc := 51) hC ((bc15 S : Nat) : Int) (bc15_ok S hS) dJ6_bitCount_0f7a4_51 ?_
  exact ev_ireturn (pc := 52) hC hR dJ6_bitCount_0f7a4_52 (⟨rv (congrArg Nat.cast (bc_pop S hS)), rfl⟩)
theorem mtJ6_compare_7cf53 : MT yJ6_compare_7cf53 wsJ6_compare_7cf53 cJ6_compare_7cf53 2 (some .int) 2 := ⟨⟨_, rfl⟩, by decide, by decide, by decide +kernel⟩
set_option maxRecDepth 100000 in
set_option maxHeartbeats 4000000 in
theorem ru_J6_compare_7cf53 {X : Mem} (x y : Int) (hx : -2147483648 ≤ x ∧ x ≤ 2147483647) (hy : -2147483648 ≤ y ∧ y ≤ 2147483647) : Ru yJ6_compare_7cf53 wsJ6_compare_7cf53 0 0 [vi x, vi y] X (fun v X' => v = some (vi (cmpI x y)) ∧ X = X') := by
  refine ru_of (w2 := _) rfl (by decide) [some (vi x), some (vi y)] (fun _ => rfl) (fun _ => Nat.le_of_ble_eq_true rfl) ?_
  intro K hKn hC hR
  refine ev_iload_n (pc := 0) hC dJ6_compare_7cf53_0 rfl ?_
  refine ev_iload_n (pc := 1) hC dJ6_compare_7cf53_1 rfl ?_
  refine ev_icmp_ge (pc := 2) hC 9 dJ6_compare_7cf53_2 (by decide) (by omega) (by omega) (fun c2 => ?_) (fun c2 => ?_)
  · refine ev_iload_n (pc := 9) hC dJ6_compare_7cf53_9 rfl ?_
    refine ev_iload_n (pc := 10) hC dJ6_compare_7cf53_10 rfl ?_
    refine ev_icmp_ne (pc := 11) hC 18 dJ6_compare_7cf53_11 (by decide) (by omega) (by omega) (fun c11 => ?_) (fun c11 => ?_)
    · refine ev_iconst (pc := 18) hC dJ6_compare_7cf53_18 ?_
      exact ev_ireturn (pc := 19) hC hR dJ6_compare_7cf53_19 (⟨rv (by (unfold cmpI; repeat' split) <;> omega), rfl⟩)
    · refine ev_iconst (pc := 14) hC dJ6_compare_7cf53_14 ?_
      refine ev_goto (pc := 15) hC 19 dJ6_compare_7cf53_15 (by decide) ?_
      exact ev_ireturn (pc := 19) hC hR dJ6_compare_7cf53_19 (⟨rv (by (unfold cmpI; repeat' split) <;> omega), rfl⟩)
  · refine ev_iconst (pc := 5) hC dJ6_compare_7cf53_5 ?_
    refine ev_goto (pc := 6) hC 19 dJ6_compare_7cf53_6 (by decide) ?_
    exact ev_ireturn (pc := 19) hC hR dJ6_compare_7cf53_19 (⟨rv (by (unfold cmpI; repeat' split) <;> omega), rfl⟩)
theorem mtX3_believers : MT yX3_believers wsX3_believers cX3_believers 1 (some .int) 0 := ⟨⟨_, rfl⟩, by decide, by decide, by decide +kernel⟩
set_option maxRecDepth 100000 in
set_option maxHeartbeats 4000000 in
theorem ru_X3_believers {X : Mem} {s : Nat} {A : Sl} (hs : Sp s) (hA : Rp (vC X s) A) : Ru yX3_believers wsX3_believers 2 43 [.ref s] X (fun v X' => v = some (vi (bcnt 0 A)) ∧ X = X') := by
  refine ru_of (w2 := _) rfl (by decide) [some (.ref s)] (fun _ => rfl) (fun _ => Nat.le_of_ble_eq_true rfl) ?_
  intro K hKn hC hR
  have hn8 := hA.n8
  refine ev_aload_n (pc := 0) hC dX3_believers_0 rfl ?_
  refine ev_callV (pc := 1) (as := []) (rest := []) hC gX3_believers_X3_believerBits mtX3_believerBits dX3_believers_1 (ru_X3_believerBits hs hA) (by decide) (sp_lt hs) (sp_o hs) (sp_cn hs) (by rfl) (Nat.le_of_ble_eq_true rfl) rfl (fun v1 X1 h1 => ?_)
  obtain ⟨rfl, rfl⟩ := h1
  show Ev K 4 [some (.ref s)] [vi ((bset 0 A : Nat) : Int)] X
  have hl1 := bset_lt (G := 0) hA.n8
  refine ev_callS (pc := 4) (as := [vi ((bset 0 A : Nat) : Int)]) (rest := []) hC gX3_believers_J6_bitCount_0f7a4 mtJ6_bitCount_0f7a4 dX3_believers_4 (ru_J6_bitCount_0f7a4 (bset 0 A) (by omega)) (by decide) (by rfl) (Nat.le_of_ble_eq_true rfl) rfl (fun v4 X4 h4 => ?_)
  obtain ⟨rfl, rfl⟩ := h4
  show Ev K 7 [some (.ref s)] [vi ((pop (bset 0 A) : Nat) : Int)] X
  have hp4 := pop_le (bset 0 A)
  exact ev_ireturn (pc := 7) hC hR dX3_believers_7 (⟨rv (by rw [pop_bset hA.n8]), rfl⟩)
theorem mtX3_allBelief : MT yX3_allBelief wsX3_allBelief cX3_allBelief 3 (some .int) 0 := ⟨⟨_, rfl⟩, by decide, by decide, by decide +kernel⟩
set_option maxRecDepth 100000 in
set_option maxHeartbeats 4000000 in
theorem ru_X3_allBelief {X : Mem} {s : Nat} {A : Sl} (hs : Sp s) (hA : Rp (vC X s) A) : Ru yX3_allBelief wsX3_allBelief 0 0 [.ref s] X (fun v X' => v = some (vi (sumB (A 5 0) (A 4))) ∧ X = X') := by
  refine ru_of (w2 := _) rfl (by decide) [some (.ref s), none, none] (fun _ => rfl) (fun _ => Nat.le_of_ble_eq_true rfl) ?_
  intro K hKn hC hR
  have wX3 : ∀ w ∈ u_ws RX3 TX3 8, w ∈ wsX3_allBelief := by decide +kernel
  have f30 : Fl K RX3 30 3 6 := fl_of hC RX3 TX3 8 rfl (by decide) wX3 (show Cond.fieldLink RX3 30 "PicnicOfSomebody$Slope" "people" "I" ∈ _ by decide +kernel)
  have f24 : Fl K RX3 24 3 4 := fl_of hC RX3 TX3 8 rfl (by decide) wX3 (show Cond.fieldLink RX3 24 "PicnicOfSomebody$Slope" "beliefs" "[I" ∈ _ by decide +kernel)
  have hn8 := hA.n8
  refine ev_iconst (pc := 0) hC dX3_allBelief_0 ?_
  refine ev_istore_n (pc := 1) hC dX3_allBelief_1 (by rw [hKn]; decide) rfl ?_
  show Ev K 2 [some (.ref s), some (vi 0), none] [] X
  refine ev_iconst (pc := 2) hC dX3_allBelief_2 ?_
  refine ev_istore_n (pc := 3) hC dX3_allBelief_3 (by rw [hKn]; decide) rfl ?_
  show Ev K 4 [some (.ref s), some (vi 0), some (vi 0)] [] X
  have lp4 : ∀ (fz : Nat) (i : Nat) (b : Nat), A 5 0 - i < fz → (i ≤ A 5 0) → (b = sumB i (A 4)) → Ev K 4 [some (.ref s), some (vi ((b : Nat) : Int)), some (vi ((i : Nat) : Int))] [] X := by
    intro fz
    induction fz with
    | zero => intro i b hfz; exact absurd hfz (Nat.not_lt_zero _)
    | succ fz ih4 =>
      intro i b hfz hi hb
      refine ev_iload_n (pc := 4) hC dX3_allBelief_4 rfl ?_
      refine ev_aload_n (pc := 5) hC dX3_allBelief_5 rfl ?_
      refine ev_geti (pc := 6) hC ((A 5 0 : Nat) : Int) f30 dX3_allBelief_6 (sp_lt hs) (sp_o hs) (sp_c hs) (by rw [sp_nf hs]; decide) (sp_fn6 hs)  (hA.cn) ?_
      refine ev_icmp_ge (pc := 9) hC 27 dX3_allBelief_9 (by decide) (by omega) (by omega) (fun c9 => ?_) (fun c9 => ?_)
      · refine ev_iload_n (pc := 27) hC dX3_allBelief_27 rfl ?_
        exact ev_ireturn (pc := 28) hC hR dX3_allBelief_28 (⟨rv (by rw [hb, show i = A 5 0 by omega]), rfl⟩)
      · refine ev_iload_n (pc := 12) hC dX3_allBelief_12 rfl ?_
        refine ev_aload_n (pc := 13) hC dX3_allBelief_13 rfl ?_
        refine ev_getr (pc := 14) hC (5 + 6 * s + 4) f24 dX3_allBelief_14 (sp_lt hs) (sp_o hs) (sp_c hs) (by rw [sp_nf hs]; decide) (sp_fr4 hs) ?_
        refine ev_iload_n (pc := 17) hC dX3_allBelief_17 rfl ?_
        have hb18 := hA.b9 i (by omega)
        refine ev_iald (pc := 18) hC i ((A 4 i : Nat) : Int) (sp_alt4 hs) (sp_ao4 hs) (rfl) (by have := (sp_al4 hs); omega) (hA.c4 i (by omega)) dX3_allBelief_18 ?_
        refine ev_iadd (pc := 19) hC ((b + (A 4 i) : Nat) : Int) (by omega) dX3_allBelief_19 ?_
        refine ev_istore_n (pc := 20) hC dX3_allBelief_20 (by rw [hKn]; decide) rfl ?_
        show Ev K 21 [some (.ref s), some (vi ((b + (A 4 i) : Nat) : Int)), some (vi ((i : Nat) : Int))] [] X
        refine ev_iinc (pc := 21) hC ((i + 1 : Nat) : Int) dX3_allBelief_21 rfl (by omega) (by rw [hKn]; decide) rfl ?_
        show Ev K 24 [some (.ref s), some (vi ((b + (A 4 i) : Nat) : Int)), some (vi ((i + 1 : Nat) : Int))] [] X
        refine ev_goto (pc := 24) hC 4 dX3_allBelief_24 (by decide) ?_
        exact ih4 (i + 1) (b + (A 4 i)) (by omega) (by omega) (by rw [sumB_s, hb])
  exact lp4 _ 0 0 (Nat.lt_succ_self _) (by omega) rfl
theorem mtX3_allDepth : MT yX3_allDepth wsX3_allDepth cX3_allDepth 3 (some .int) 0 := ⟨⟨_, rfl⟩, by decide, by decide, by decide +kernel⟩
set_option maxRecDepth 100000 in
set_option maxHeartbeats 4000000 in
theorem ru_X3_allDepth {X : Mem} {s : Nat} {A : Sl} (hs : Sp s) (hA : Rp (vC X s) A) : Ru yX3_allDepth wsX3_allDepth 0 0 [.ref s] X (fun v X' => v = some (vi (sumB 25 (A 0))) ∧ X = X') := by
  refine ru_of (w2 := _) rfl (by decide) [some (.ref s), none, none] (fun _ => rfl) (fun _ => Nat.le_of_ble_eq_true rfl) ?_
  intro K hKn hC hR
  have wX3 : ∀ w ∈ u_ws RX3 TX3 8, w ∈ wsX3_allDepth := by decide +kernel
  have f9 : Fl K RX3 9 3 0 := fl_of hC RX3 TX3 8 rfl (by decide) wX3 (show Cond.fieldLink RX3 9 "PicnicOfSomebody$Slope" "depths" "[I" ∈ _ by decide +kernel)
  have hn8 := hA.n8
  refine ev_iconst (pc := 0) hC dX3_allDepth_0 ?_
  refine ev_istore_n (pc := 1) hC dX3_allDepth_1 (by rw [hKn]; decide) rfl ?_
  show Ev K 2 [some (.ref s), some (vi 0), none] [] X
  refine ev_iconst (pc := 2) hC dX3_allDepth_2 ?_
  refine ev_istore_n (pc := 3) hC dX3_allDepth_3 (by rw [hKn]; decide) rfl ?_
  show Ev K 4 [some (.ref s), some (vi 0), some (vi 0)] [] X
  have lp4 : ∀ (fz : Nat) (i : Nat) (b : Nat), 25 - i < fz → (i ≤ 25) → (b = sumB i (A 0)) → Ev K 4 [some (.ref s), some (vi ((b : Nat) : Int)), some (vi ((i : Nat) : Int))] [] X := by
    intro fz
    induction fz with
    | zero => intro i b hfz; exact absurd hfz (Nat.not_lt_zero _)
    | succ fz ih4 =>
      intro i b hfz hi hb
      refine ev_iload_n (pc := 4) hC dX3_allDepth_4 rfl ?_
      refine ev_bipush (pc := 5) hC dX3_allDepth_5 (by decide) ?_
      refine ev_icmp_ge (pc := 7) hC 25 dX3_allDepth_7 (by decide) (by omega) (by omega) (fun c7 => ?_) (fun c7 => ?_)
      · refine ev_iload_n (pc := 25) hC dX3_allDepth_25 rfl ?_
        exact ev_ireturn (pc := 26) hC hR dX3_allDepth_26 (⟨rv (by rw [hb, show i = 25 by omega]), rfl⟩)
      · refine ev_iload_n (pc := 10) hC dX3_allDepth_10 rfl ?_
        refine ev_aload_n (pc := 11) hC dX3_allDepth_11 rfl ?_
        refine ev_getr (pc := 12) hC (5 + 6 * s + 0) f9 dX3_allDepth_12 (sp_lt hs) (sp_o hs) (sp_c hs) (by rw [sp_nf hs]; decide) (sp_fr0 hs) ?_
        refine ev_iload_n (pc := 15) hC dX3_allDepth_15 rfl ?_
        have hb16 := hA.d99 i (by omega)
        refine ev_iald (pc := 16) hC i ((A 0 i : Nat) : Int) (sp_alt0 hs) (sp_ao0 hs) (rfl) (by have := (sp_al0 hs); omega) (hA.c0 i (by omega)) dX3_allDepth_16 ?_
        refine ev_iadd (pc := 17) hC ((b + (A 0 i) : Nat) : Int) (by omega) dX3_allDepth_17 ?_
        refine ev_istore_n (pc := 18) hC dX3_allDepth_18 (by rw [hKn]; decide) rfl ?_
        show Ev K 19 [some (.ref s), some (vi ((b + (A 0 i) : Nat) : Int)), some (vi ((i : Nat) : Int))] [] X
        refine ev_iinc (pc := 19) hC ((i + 1 : Nat) : Int) dX3_allDepth_19 rfl (by omega) (by rw [hKn]; decide) rfl ?_
        show Ev K 22 [some (.ref s), some (vi ((b + (A 0 i) : Nat) : Int)), some (vi ((i + 1 : Nat) : Int))] [] X
        refine ev_goto (pc := 22) hC 4 dX3_allDepth_22 (by decide) ?_
        exact ih4 (i + 1) (b + (A 0 i)) (by omega) (by omega) (by rw [sumB_s, hb])
  exact lp4 _ 0 0 (Nat.lt_succ_self _) (by omega) rfl
theorem mtX3_nextOfKind : MT yX3_nextOfKind wsX3_nextOfKind cX3_nextOfKind 5 (some .int) 4 := ⟨⟨_, rfl⟩, by decide, by decide, by decide +kernel⟩
set_option maxRecDepth 100000 in
set_option maxHeartbeats 4000000 in
theorem ru_X3_nextOfKind {X : Mem} {s : Nat} {A : Sl} (hs : Sp s) (hA : Rp (vC X s) A) (p : Nat) (g f c : Int) (hp : p < A 5 0) (hg : -100 ≤ g ∧ g ≤ 100) (hf : -100 ≤ f ∧ f ≤ 100) (hc : -100 ≤ c ∧ c ≤ 100) : Ru yX3_nextOfKind wsX3_nextOfKind 1 40 [.ref s, vi ((p : Nat) : Int), vi g, vi f, vi c] X (fun v X' => v = some (vi (nok (A 1 p) g f c (A 4 p))) ∧ X = X') := by
  refine ru_of (w2 := _) rfl (by decide) [some (.ref s), some (vi ((p : Nat) : Int)), some (vi g), some (vi f), some (vi c)] (fun _ => rfl) (fun _ => Nat.le_of_ble_eq_true rfl) ?_
  intro K hKn hC hR
  have wX3 : ∀ w ∈ u_ws RX3 TX3 8, w ∈ wsX3_nextOfKind := by decide +kernel
  have f15 : Fl K RX3 15 3 1 := fl_of hC RX3 TX3 8 rfl (by decide) wX3 (show Cond.fieldLink RX3 15 "PicnicOfSomebody$Slope" "kinds" "[I" ∈ _ by decide +kernel)
  have f24 : Fl K RX3 24 3 4 := fl_of hC RX3 TX3 8 rfl (by decide) wX3 (show Cond.fieldLink RX3 24 "PicnicOfSomebody$Slope" "beliefs" "[I" ∈ _ by decide +kernel)
  have hn8 := hA.n8
  refine ev_aload_n (pc := 0) hC dX3_nextOfKind_0 rfl ?_
  refine ev_getr (pc := 1) hC (5 + 6 * s + 1) f15 dX3_nextOfKind_1 (sp_lt hs) (sp_o hs) (sp_c hs) (by rw [sp_nf hs]; decide) (sp_fr1 hs) ?_
  refine ev_iload_n (pc := 4) hC dX3_nextOfKind_4 rfl ?_
  have hb5 := hA.k5 p (by omega)
  refine ev_iald (pc := 5) hC p ((A 1 p : Nat) : Int) (sp_alt1 hs) (sp_ao1 hs) (rfl) (by have := (sp_al1 hs); omega) (hA.c1 p (by omega)) dX3_nextOfKind_5 ?_
  rcases (show ((A 1 p : Nat) : Int) = 1 ∨ ((A 1 p : Nat) : Int) = 2 ∨ ((A 1 p : Nat) : Int) = 3 ∨ ((A 1 p : Nat) : Int) = 4 ∨ ((A 1 p : Nat) : Int) = 5 ∨ ((A 1 p : Nat) : Int) < 1 ∨ 5 < ((A 1 p : Nat) : Int) by omega) with c6 | c6 | c6 | c6 | c6 | c6
  · refine ev_tabin (pc := 6) hC 40 dX3_nextOfKind_6 (by omega) (by omega) (by rw [c6]; rfl) (by decide) ?_
    refine ev_iload_n (pc := 40) hC dX3_nextOfKind_40 rfl ?_
    exact ev_ireturn (pc := 41) hC hR dX3_nextOfKind_41 (⟨rv (by rw [show A 1 p = 1 by omega]; rfl), rfl⟩)
  · refine ev_tabin (pc := 6) hC 42 dX3_nextOfKind_6 (by omega) (by omega) (by rw [c6]; rfl) (by decide) ?_
    refine ev_iload (pc := 42) hC dX3_nextOfKind_42 rfl ?_
    exact ev_ireturn (pc := 44) hC hR dX3_nextOfKind_44 (⟨rv (by rw [show A 1 p = 2 by omega]; rfl), rfl⟩)
  · refine ev_tabin (pc := 6) hC 45 dX3_nextOfKind_6 (by omega) (by omega) (by rw [c6]; rfl) (by decide) ?_
    refine ev_iload_n (pc := 45) hC dX3_nextOfKind_45 rfl ?_
    refine ev_iconst (pc := 46) hC dX3_nextOfKind_46 ?_
    refine ev_isub (pc := 47) hC (g - 1) (rfl) dX3_nextOfKind_47 ?_
    exact ev_ireturn (pc := 48) hC hR dX3_nextOfKind_48 (⟨rv (by rw [show A 1 p = 3 by omega]; rfl), rfl⟩)
  · refine ev_tabin (pc := 6) hC 49 dX3_nextOfKind_6 (by omega) (by omega) (by rw [c6]; rfl) (by decide) ?_
    refine ev_iload_n (pc := 49) hC dX3_nextOfKind_49 rfl ?_
    refine ev_aload_n (pc := 50) hC dX3_nextOfKind_50 rfl ?_
    refine ev_getr (pc := 51) hC (5 + 6 * s + 4) f24 dX3_nextOfKind_51 (sp_lt hs) (sp_o hs) (sp_c hs) (by rw [sp_nf hs]; decide) (sp_fr4 hs) ?_
    refine ev_iload_n (pc := 54) hC dX3_nextOfKind_54 rfl ?_
    have hb55 := hA.b9 p (by omega)
    refine ev_iald (pc := 55) hC p ((A 4 p : Nat) : Int) (sp_alt4 hs) (sp_ao4 hs) (rfl) (by have := (sp_al4 hs); omega) (hA.c4 p (by omega)) dX3_nextOfKind_55 ?_
    refine ev_mmax (pc := 56) hC (max f ((A 4 p : Nat) : Int)) (by omega) (by omega) (rfl) (show Cond.methodLink RX3 69 Lib.Math.max.name ∈ _ by decide +kernel) (show Cond.static Lib.Math.max.name ∈ _ by decide +kernel) (show Cond.initialized "java/lang/Math" ∈ _ by decide +kernel) (show Cond.code Lib.Math.max.name Lib.Math.max.code 2 (some .int) ∈ _ by decide +kernel) (by decide) (by decide) (Nat.le_of_ble_eq_true rfl) dX3_nextOfKind_56 ?_
    exact ev_ireturn (pc := 59) hC hR dX3_nextOfKind_59 (⟨rv (by rw [show A 1 p = 4 by omega]; rfl), rfl⟩)
  · refine ev_tabin (pc := 6) hC 60 dX3_nextOfKind_6 (by omega) (by omega) (by rw [c6]; rfl) (by decide) ?_
    refine ev_iload (pc := 60) hC dX3_nextOfKind_60 rfl ?_
    refine ev_iconst (pc := 62) hC dX3_nextOfKind_62 ?_
    refine ev_iadd (pc := 63) hC (c + 1) (rfl) dX3_nextOfKind_63 ?_
    exact ev_ireturn (pc := 64) hC hR dX3_nextOfKind_64 (⟨rv (by rw [show A 1 p = 5 by omega]; rfl), rfl⟩)
  · refine ev_tabout (pc := 6) hC 65 dX3_nextOfKind_6 (by omega) (by omega) (by decide) ?_
    refine ev_iload_n (pc := 65) hC dX3_nextOfKind_65 rfl ?_
    exact ev_ireturn (pc := 66) hC hR dX3_nextOfKind_66 (⟨rv (by unfold nok; rw [if_neg (by omega), if_neg (by omega), if_neg (by omega), if_neg (by omega), if_neg (by omega)]), rfl⟩)
theorem mtX3_nextBelief : MT yX3_nextBelief wsX3_nextBelief cX3_nextBelief 10 (some .int) 2 := ⟨⟨_, rfl⟩, by decide, by decide, by decide +kernel⟩
set_option maxRecDepth 100000 in
set_option maxHeartbeats 4000000 in
theorem ru_X3_nextBelief {X : Mem} {s : Nat} {A : Sl} (hs : Sp s) (hA : Rp (vC X s) A) (p w : Nat) (hp : p < A 5 0) (hw : w < 25) : Ru yX3_nextBelief wsX3_nextBelief 2 64 [.ref s, vi ((p : Nat) : Int), vi ((w : Nat) : Int)] X (fun v X' => v = some (vi (nextB 0 A p w)) ∧ X = X') := by
  refine ru_of (w2 := _) rfl (by decide) [some (.ref s), some (vi ((p : Nat) : Int)), some (vi ((w : Nat) : Int)), none, none, none, none, none, none, none] (fun _ => rfl) (fun _ => Nat.le_of_ble_eq_true rfl) ?_
  intro K hKn hC hR
  have wX3 : ∀ w ∈ u_ws RX3 TX3 8, w ∈ wsX3_nextBelief := by decide +kernel
  have f24 : Fl K RX3 24 3 4 := fl_of hC RX3 TX3 8 rfl (by decide) wX3 (show Cond.fieldLink RX3 24 "PicnicOfSomebody$Slope" "beliefs" "[I" ∈ _ by decide +kernel)
  have f21 : Fl K RX3 21 3 3 := fl_of hC RX3 TX3 8 rfl (by decide) wX3 (show Cond.fieldLink RX3 21 "PicnicOfSomebody$Slope" "cells" "[I" ∈ _ by decide +kernel)
  have f30 : Fl K RX3 30 3 6 := fl_of hC RX3 TX3 8 rfl (by decide) wX3 (show Cond.fieldLink RX3 30 "PicnicOfSomebody$Slope" "people" "I" ∈ _ by decide +kernel)
  have f18 : Fl K RX3 18 3 2 := fl_of hC RX3 TX3 8 rfl (by decide) wX3 (show Cond.fieldLink RX3 18 "PicnicOfSomebody$Slope" "figures" "[I" ∈ _ by decide +kernel)
  have hn8 := hA.n8
  refine ev_aload_n (pc := 0) hC dX3_nextBelief_0 rfl ?_
  refine ev_getr (pc := 1) hC (5 + 6 * s + 4) f24 dX3_nextBelief_1 (sp_lt hs) (sp_o hs) (sp_c hs) (by rw [sp_nf hs]; decide) (sp_fr4 hs) ?_
  refine ev_iload_n (pc := 4) hC dX3_nextBelief_4 rfl ?_
  have hb5 := hA.b9 p (by omega)
  refine ev_iald (pc := 5) hC p ((A 4 p : Nat) : Int) (sp_alt4 hs) (sp_ao4 hs) (rfl) (by have := (sp_al4 hs); omega) (hA.c4 p (by omega)) dX3_nextBelief_5 ?_
  refine ev_istore_n (pc := 6) hC dX3_nextBelief_6 (by rw [hKn]; decide) rfl ?_
  show Ev K 7 [some (.ref s), some (vi ((p : Nat) : Int)), some (vi ((w : Nat) : Int)), some (vi ((A 4 p : Nat) : Int)), none, none, none, none, none, none] [] X
  refine ev_aload_n (pc := 7) hC dX3_nextBelief_7 rfl ?_
  refine ev_getr (pc := 8) hC (5 + 6 * s + 3) f21 dX3_nextBelief_8 (sp_lt hs) (sp_o hs) (sp_c hs) (by rw [sp_nf hs]; decide) (sp_fr3 hs) ?_
  refine ev_iload_n (pc := 11) hC dX3_nextBelief_11 rfl ?_
  have hb12 := hA.c25 p (by omega)
  refine ev_iald (pc := 12) hC p ((A 3 p : Nat) : Int) (sp_alt3 hs) (sp_ao3 hs) (rfl) (by have := (sp_al3 hs); omega) (hA.c3 p (by omega)) dX3_nextBelief_12 ?_
  refine ev_istore (pc := 13) hC dX3_nextBelief_13 (by rw [hKn]; decide) rfl ?_
  show Ev K 15 [some (.ref s), some (vi ((p : Nat) : Int)), some (vi ((w : Nat) : Int)), some (vi ((A 4 p : Nat) : Int)), some (vi ((A 3 p : Nat) : Int)), none, none, none, none, none] [] X
  refine ev_iconst (pc := 15) hC dX3_nextBelief_15 ?_
  refine ev_istore (pc := 16) hC dX3_nextBelief_16 (by rw [hKn]; decide) rfl ?_
  show Ev K 18 [some (.ref s), some (vi ((p : Nat) : Int)), some (vi ((w : Nat) : Int)), some (vi ((A 4 p : Nat) : Int)), some (vi ((A 3 p : Nat) : Int)), some (vi 0), none, none, none, none] [] X
  refine ev_iconst (pc := 18) hC dX3_nextBelief_18 ?_
  refine ev_istore (pc := 19) hC dX3_nextBelief_19 (by rw [hKn]; decide) rfl ?_
  show Ev K 21 [some (.ref s), some (vi ((p : Nat) : Int)), some (vi ((w : Nat) : Int)), some (vi ((A 4 p : Nat) : Int)), some (vi ((A 3 p : Nat) : Int)), some (vi 0), some (vi (-1)), none, none, none] [] X
  refine ev_iconst (pc := 21) hC dX3_nextBelief_21 ?_
  refine ev_istore (pc := 22) hC dX3_nextBelief_22 (by rw [hKn]; decide) rfl ?_
  show Ev K 24 [some (.ref s), some (vi ((p : Nat) : Int)), some (vi ((w : Nat) : Int)), some (vi ((A 4 p : Nat) : Int)), some (vi ((A 3 p : Nat) : Int)), some (vi 0), some (vi (-1)), some (vi 0), none, none] [] X
  have lp24 : ∀ (fz : Nat) (i : Nat) (ln : Int) (gr : Int), A 5 0 - i < fz → (i ≤ A 5 0) → (ln = lnI A p i) → (gr = grI A p i) → (-1 ≤ gr ∧ gr ≤ 9) → Ev K 24 [some (.ref s), some (vi ((p : Nat) : Int)), some (vi ((w : Nat) : Int)), some (vi ((A 4 p : Nat) : Int)), some (vi ((A 3 p : Nat) : Int)), some (vi ln), some (vi gr), some (vi ((i : Nat) : Int)), none, none] [] X := by
    intro fz
    induction fz with
    | zero => intro i ln gr hfz; exact absurd hfz (Nat.not_lt_zero _)
    | succ fz ih24 =>
      intro i ln gr hfz hi hln hgr hgb
      have hlr := lnI_r (A := A) (p := p) (i := i) (by omega)
      refine ev_iload (pc := 24) hC dX3_nextBelief_24 rfl ?_
      refine ev_aload_n (pc := 26) hC dX3_nextBelief_26 rfl ?_
      refine ev_geti (pc := 27) hC ((A 5 0 : Nat) : Int) f30 dX3_nextBelief_27 (sp_lt hs) (sp_o hs) (sp_c hs) (by rw [sp_nf hs]; decide) (sp_fn6 hs)  (hA.cn) ?_
      refine ev_icmp_ge (pc := 30) hC 94 dX3_nextBelief_30 (by decide) (by omega) (by omega) (fun c30 => ?_) (fun c30 => ?_)
      · have hie : i = A 5 0 := by omega
        refine ev_iload_n (pc := 94) hC dX3_nextBelief_94 rfl ?_
        refine ev_iload (pc := 95) hC dX3_nextBelief_95 rfl ?_
        refine ev_iconst (pc := 97) hC dX3_nextBelief_97 ?_
        refine ev_callS (pc := 98) (as := [vi ln, vi 0]) (rest := [vi ((A 4 p : Nat) : Int)]) hC gX3_nextBelief_J6_compare_7cf53 mtJ6_compare_7cf53 dX3_nextBelief_98 (ru_J6_compare_7cf53 ln 0 (by omega) (by omega)) (by decide) (by rfl) (Nat.le_of_ble_eq_true rfl) rfl (fun v98 X98 h98 => ?_)
        obtain ⟨rfl, rfl⟩ := h98
        show Ev K 101 [some (.ref s), some (vi ((p : Nat) : Int)), some (vi ((w : Nat) : Int)), some (vi ((A 4 p : Nat) : Int)), some (vi ((A 3 p : Nat) : Int)), some (vi ln), some (vi gr), some (vi ((i : Nat) : Int)), none, none] [vi (cmpI ln 0), vi ((A 4 p : Nat) : Int)] X
        have hc98 := cmpI_r ln 0
        refine ev_iadd (pc := 101) hC (((A 4 p : Nat) : Int) + (cmpI ln 0)) (rfl) dX3_nextBelief_101 ?_
        refine ev_istore (pc := 102) hC dX3_nextBelief_102 (by rw [hKn]; decide) rfl ?_
        show Ev K 104 [some (.ref s), some (vi ((p : Nat) : Int)), some (vi ((w : Nat) : Int)), some (vi ((A 4 p : Nat) : Int)), some (vi ((A 3 p : Nat) : Int)), some (vi ln), some (vi gr), some (vi (((A 4 p : Nat) : Int) + (cmpI ln 0))), none, none] [] X
        refine ev_iload (pc := 104) hC dX3_nextBelief_104 rfl ?_
        refine ev_iload_n (pc := 106) hC dX3_nextBelief_106 rfl ?_
        refine ev_callN (pc := 107) (as := [vi ((A 3 p : Nat) : Int), vi ((w : Nat) : Int)]) (rest := []) hC (by decide +kernel) gX3_nextBelief_X5_apart_n51 (show Cond.static yX5_apart ∈ _ by decide +kernel) (show Cond.initialized RX5 ∈ _ by decide +kernel) mtX5_apart dX3_nextBelief_107 (ru_X5_apart (A 3 p) w (by omega) (by omega)) (by decide) (by rfl) (Nat.le_of_ble_eq_true rfl) rfl (fun v107 X107 h107 => ?_)
        obtain ⟨rfl, rfl⟩ := h107
        show Ev K 110 [some (.ref s), some (vi ((p : Nat) : Int)), some (vi ((w : Nat) : Int)), some (vi ((A 4 p : Nat) : Int)), some (vi ((A 3 p : Nat) : Int)), some (vi ln), some (vi gr), some (vi (((A 4 p : Nat) : Int) + (cmpI ln 0))), none, none] [vi ((stp (A 3 p) w : Nat) : Int)] X
        have hst107 := stp_le (a := A 3 p) (b := w) (by omega) (by omega)
        refine ev_aload_n (pc := 110) hC dX3_nextBelief_110 rfl ?_
        refine ev_getr (pc := 111) hC (5 + 6 * s + 2) f18 dX3_nextBelief_111 (sp_lt hs) (sp_o hs) (sp_c hs) (by rw [sp_nf hs]; decide) (sp_fr2 hs) ?_
        refine ev_iload_n (pc := 114) hC dX3_nextBelief_114 rfl ?_
        have hb115 := hA.f9 p (by omega)
        refine ev_iald (pc := 115) hC p ((A 2 p : Nat) : Int) (sp_alt2 hs) (sp_ao2 hs) (rfl) (by have := (sp_al2 hs); omega) (hA.c2 p (by omega)) dX3_nextBelief_115 ?_
        refine ev_icmp_gt (pc := 116) hC 126 dX3_nextBelief_116 (by decide) (by omega) (by omega) (fun c116 => ?_) (fun c116 => ?_)
        · refine ev_iload (pc := 126) hC dX3_nextBelief_126 rfl ?_
          refine ev_istore (pc := 128) hC dX3_nextBelief_128 (by rw [hKn]; decide) rfl ?_
          show Ev K 130 [some (.ref s), some (vi ((p : Nat) : Int)), some (vi ((w : Nat) : Int)), some (vi ((A 4 p : Nat) : Int)), some (vi ((A 3 p : Nat) : Int)), some (vi ln), some (vi gr), some (vi (((A 4 p : Nat) : Int) + (cmpI ln 0))), some (vi (((A 4 p : Nat) : Int) + (cmpI ln 0))), none] [] X
          refine ev_iload (pc := 130) hC dX3_nextBelief_130 rfl ?_
          refine ev_if_ge (pc := 132) hC 139 dX3_nextBelief_132 (by decide) (by omega) (fun c132 => ?_) (fun c132 => ?_)
          · refine ev_iload (pc := 139) hC dX3_nextBelief_139 rfl ?_
            refine ev_istore (pc := 141) hC dX3_nextBelief_141 (by rw [hKn]; decide) rfl ?_
            show Ev K 143 [some (.ref s), some (vi ((p : Nat) : Int)), some (vi ((w : Nat) : Int)), some (vi ((A 4 p : Nat) : Int)), some (vi ((A 3 p : Nat) : Int)), some (vi ln), some (vi gr), some (vi (((A 4 p : Nat) : Int) + (cmpI ln 0))), some (vi (((A 4 p : Nat) : Int) + (cmpI ln 0))), some (vi gr)] [] X
            refine ev_iconst (pc := 143) hC dX3_nextBelief_143 ?_
            refine ev_bipush (pc := 144) hC dX3_nextBelief_144 (by decide) ?_
            refine ev_aload_n (pc := 146) hC dX3_nextBelief_146 rfl ?_
            refine ev_iload_n (pc := 147) hC dX3_nextBelief_147 rfl ?_
            refine ev_iload (pc := 148) hC dX3_nextBelief_148 rfl ?_
            refine ev_iload (pc := 150) hC dX3_nextBelief_150 rfl ?_
            refine ev_iload (pc := 152) hC dX3_nextBelief_152 rfl ?_
            refine ev_callV (pc := 154) (as := [vi ((p : Nat) : Int), vi (((A 4 p : Nat) : Int) + (cmpI ln 0)), vi (((A 4 p : Nat) : Int) + (cmpI ln 0)), vi gr]) (rest := [vi 9, vi 0]) hC gX3_nextBelief_X3_nextOfKind mtX3_nextOfKind dX3_nextBelief_154 (ru_X3_nextOfKind hs hA p (((A 4 p : Nat) : Int) + (cmpI ln 0)) (((A 4 p : Nat) : Int) + (cmpI ln 0)) gr (by omega) (by omega) (by omega) (by omega)) (by decide) (sp_lt hs) (sp_o hs) (sp_cn hs) (by rfl) (Nat.le_of_ble_eq_true rfl) rfl (fun v154 X154 h154 => ?_)
            obtain ⟨rfl, rfl⟩ := h154
            show Ev K 157 [some (.ref s), some (vi ((p : Nat) : Int)), some (vi ((w : Nat) : Int)), some (vi ((A 4 p : Nat) : Int)), some (vi ((A 3 p : Nat) : Int)), some (vi ln), some (vi gr), some (vi (((A 4 p : Nat) : Int) + (cmpI ln 0))), some (vi (((A 4 p : Nat) : Int) + (cmpI ln 0))), some (vi gr)] [vi (nok (A 1 p) (((A 4 p : Nat) : Int) + (cmpI ln 0)) (((A 4 p : Nat) : Int) + (cmpI ln 0)) gr (A 4 p)), vi 9, vi 0] X
            have hnk154 := nok_r (k := A 1 p) (b := A 4 p) (g := (((A 4 p : Nat) : Int) + (cmpI ln 0))) (f := (((A 4 p : Nat) : Int) + (cmpI ln 0))) (c := gr) (by omega) (by omega) (by omega) (by have := hA.b9 p (by omega); omega)
            refine ev_mmin (pc := 157) hC (min 9 (nok (A 1 p) (((A 4 p : Nat) : Int) + (cmpI ln 0)) (((A 4 p : Nat) : Int) + (cmpI ln 0)) gr (A 4 p))) (by omega) (by omega) (rfl) (show Cond.methodLink RX3 81 Lib.Math.min.name ∈ _ by decide +kernel) (show Cond.static Lib.Math.min.name ∈ _ by decide +kernel) (show Cond.initialized "java/lang/Math" ∈ _ by decide +kernel) (show Cond.code Lib.Math.min.name Lib.Math.min.code 2 (some .int) ∈ _ by decide +kernel) (by decide) (by decide) (Nat.le_of_ble_eq_true rfl) dX3_nextBelief_157 ?_
            refine ev_mmax (pc := 160) hC (max 0 (min 9 (nok (A 1 p) (((A 4 p : Nat) : Int) + (cmpI ln 0)) (((A 4 p : Nat) : Int) + (cmpI ln 0)) gr (A 4 p)))) (by omega) (by omega) (rfl) (show Cond.methodLink RX3 69 Lib.Math.max.name ∈ _ by decide +kernel) (show Cond.static Lib.Math.max.name ∈ _ by decide +kernel) (show Cond.initialized "java/lang/Math" ∈ _ by decide +kernel) (show Cond.code Lib.Math.max.name Lib.Math.max.code 2 (some .int) ∈ _ by decide +kernel) (by decide) (by decide) (Nat.le_of_ble_eq_true rfl) dX3_nextBelief_160 ?_
            exact ev_ireturn (pc := 163) hC hR dX3_nextBelief_163 (⟨rv (nb_ok (hie ▸ hln) (hie ▸ hgr) hgb rfl (by split <;> omega) (by split <;> omega)), rfl⟩)
          · refine ev_iload_n (pc := 135) hC dX3_nextBelief_135 rfl ?_
            refine ev_goto (pc := 136) hC 141 dX3_nextBelief_136 (by decide) ?_
            refine ev_istore (pc := 141) hC dX3_nextBelief_141 (by rw [hKn]; decide) rfl ?_
            show Ev K 143 [some (.ref s), some (vi ((p : Nat) : Int)), some (vi ((w : Nat) : Int)), some (vi ((A 4 p : Nat) : Int)), some (vi ((A 3 p : Nat) : Int)), some (vi ln), some (vi gr), some (vi (((A 4 p : Nat) : Int) + (cmpI ln 0))), some (vi (((A 4 p : Nat) : Int) + (cmpI ln 0))), some (vi ((A 4 p : Nat) : Int))] [] X
            refine ev_iconst (pc := 143) hC dX3_nextBelief_143 ?_
            refine ev_bipush (pc := 144) hC dX3_nextBelief_144 (by decide) ?_
            refine ev_aload_n (pc := 146) hC dX3_nextBelief_146 rfl ?_
            refine ev_iload_n (pc := 147) hC dX3_nextBelief_147 rfl ?_
            refine ev_iload (pc := 148) hC dX3_nextBelief_148 rfl ?_
            refine ev_iload (pc := 150) hC dX3_nextBelief_150 rfl ?_
            refine ev_iload (pc := 152) hC dX3_nextBelief_152 rfl ?_
            refine ev_callV (pc := 154) (as := [vi ((p : Nat) : Int), vi (((A 4 p : Nat) : Int) + (cmpI ln 0)), vi (((A 4 p : Nat) : Int) + (cmpI ln 0)), vi ((A 4 p : Nat) : Int)]) (rest := [vi 9, vi 0]) hC gX3_nextBelief_X3_nextOfKind mtX3_nextOfKind dX3_nextBelief_154 (ru_X3_nextOfKind hs hA p (((A 4 p : Nat) : Int) + (cmpI ln 0)) (((A 4 p : Nat) : Int) + (cmpI ln 0)) ((A 4 p : Nat) : Int) (by omega) (by omega) (by omega) (by omega)) (by decide) (sp_lt hs) (sp_o hs) (sp_cn hs) (by rfl) (Nat.le_of_ble_eq_true rfl) rfl (fun v154 X154 h154 => ?_)
            obtain ⟨rfl, rfl⟩ := h154
            show Ev K 157 [some (.ref s), some (vi ((p : Nat) : Int)), some (vi ((w : Nat) : Int)), some (vi ((A 4 p : Nat) : Int)), some (vi ((A 3 p : Nat) : Int)), some (vi ln), some (vi gr), some (vi (((A 4 p : Nat) : Int) + (cmpI ln 0))), some (vi (((A 4 p : Nat) : Int) + (cmpI ln 0))), some (vi ((A 4 p : Nat) : Int))] [vi (nok (A 1 p) (((A 4 p : Nat) : Int) + (cmpI ln 0)) (((A 4 p : Nat) : Int) + (cmpI ln 0)) ((A 4 p : Nat) : Int) (A 4 p)), vi 9, vi 0] X
            have hnk154 := nok_r (k := A 1 p) (b := A 4 p) (g := (((A 4 p : Nat) : Int) + (cmpI ln 0))) (f := (((A 4 p : Nat) : Int) + (cmpI ln 0))) (c := ((A 4 p : Nat) : Int)) (by omega) (by omega) (by omega) (by have := hA.b9 p (by omega); omega)
            refine ev_mmin (pc := 157) hC (min 9 (nok (A 1 p) (((A 4 p : Nat) : Int) + (cmpI ln 0)) (((A 4 p : Nat) : Int) + (cmpI ln 0)) ((A 4 p : Nat) : Int) (A 4 p))) (by omega) (by omega) (rfl) (show Cond.methodLink RX3 81 Lib.Math.min.name ∈ _ by decide +kernel) (show Cond.static Lib.Math.min.name ∈ _ by decide +kernel) (show Cond.initialized "java/lang/Math" ∈ _ by decide +kernel) (show Cond.code Lib.Math.min.name Lib.Math.min.code 2 (some .int) ∈ _ by decide +kernel) (by decide) (by decide) (Nat.le_of_ble_eq_true rfl) dX3_nextBelief_157 ?_
            refine ev_mmax (pc := 160) hC (max 0 (min 9 (nok (A 1 p) (((A 4 p : Nat) : Int) + (cmpI ln 0)) (((A 4 p : Nat) : Int) + (cmpI ln 0)) ((A 4 p : Nat) : Int) (A 4 p)))) (by omega) (by omega) (rfl) (show Cond.methodLink RX3 69 Lib.Math.max.name ∈ _ by decide +kernel) (show Cond.static Lib.Math.max.name ∈ _ by decide +kernel) (show Cond.initialized "java/lang/Math" ∈ _ by decide +kernel) (show Cond.code Lib.Math.max.name Lib.Math.max.code 2 (some .int) ∈ _ by decide +kernel) (by decide) (by decide) (Nat.le_of_ble_eq_true rfl) dX3_nextBelief_160 ?_
            exact ev_ireturn (pc := 163) hC hR dX3_nextBelief_163 (⟨rv (nb_ok (hie ▸ hln) (hie ▸ hgr) hgb rfl (by split <;> omega) (by split <;> omega)), rfl⟩)
        · refine ev_iload (pc := 119) hC dX3_nextBelief_119 rfl ?_
          refine ev_iconst (pc := 121) hC dX3_nextBelief_121 ?_
          refine ev_iadd (pc := 122) hC ((((A 4 p : Nat) : Int) + (cmpI ln 0)) + 1) (rfl) dX3_nextBelief_122 ?_
          refine ev_goto (pc := 123) hC 128 dX3_nextBelief_123 (by decide) ?_
          refine ev_istore (pc := 128) hC dX3_nextBelief_128 (by rw [hKn]; decide) rfl ?_
          show Ev K 130 [some (.ref s), some (vi ((p : Nat) : Int)), some (vi ((w : Nat) : Int)), some (vi ((A 4 p : Nat) : Int)), some (vi ((A 3 p : Nat) : Int)), some (vi ln), some (vi gr), some (vi (((A 4 p : Nat) : Int) + (cmpI ln 0))), some (vi ((((A 4 p : Nat) : Int) + (cmpI ln 0)) + 1)), none] [] X
          refine ev_iload (pc := 130) hC dX3_nextBelief_130 rfl ?_
          refine ev_if_ge (pc := 132) hC 139 dX3_nextBelief_132 (by decide) (by omega) (fun c132 => ?_) (fun c132 => ?_)
          · refine ev_iload (pc := 139) hC dX3_nextBelief_139 rfl ?_
            refine ev_istore (pc := 141) hC dX3_nextBelief_141 (by rw [hKn]; decide) rfl ?_
            show Ev K 143 [some (.ref s), some (vi ((p : Nat) : Int)), some (vi ((w : Nat) : Int)), some (vi ((A 4 p : Nat) : Int)), some (vi ((A 3 p : Nat) : Int)), some (vi ln), some (vi gr), some (vi (((A 4 p : Nat) : Int) + (cmpI ln 0))), some (vi ((((A 4 p : Nat) : Int) + (cmpI ln 0)) + 1)), some (vi gr)] [] X
            refine ev_iconst (pc := 143) hC dX3_nextBelief_143 ?_
            refine ev_bipush (pc := 144) hC dX3_nextBelief_144 (by decide) ?_
            refine ev_aload_n (pc := 146) hC dX3_nextBelief_146 rfl ?_
            refine ev_iload_n (pc := 147) hC dX3_nextBelief_147 rfl ?_
            refine ev_iload (pc := 148) hC dX3_nextBelief_148 rfl ?_
            refine ev_iload (pc := 150) hC dX3_nextBelief_150 rfl ?_
            refine ev_iload (pc := 152) hC dX3_nextBelief_152 rfl ?_
            refine ev_callV (pc := 154) (as := [vi ((p : Nat) : Int), vi (((A 4 p : Nat) : Int) + (cmpI ln 0)), vi ((((A 4 p : Nat) : Int) + (cmpI ln 0)) + 1), vi gr]) (rest := [vi 9, vi 0]) hC gX3_nextBelief_X3_nextOfKind mtX3_nextOfKind dX3_nextBelief_154 (ru_X3_nextOfKind hs hA p (((A 4 p : Nat) : Int) + (cmpI ln 0)) ((((A 4 p : Nat) : Int) + (cmpI ln 0)) + 1) gr (by omega) (by omega) (by omega) (by omega)) (by decide) (sp_lt hs) (sp_o hs) (sp_cn hs) (by rfl) (Nat.le_of_ble_eq_true rfl) rfl (fun v154 X154 h154 => ?_)
            obtain ⟨rfl, rfl⟩ := h154
            show Ev K 157 [some (.ref s), some (vi ((p : Nat) : Int)), some (vi ((w : Nat) : Int)), some (vi ((A 4 p : Nat) : Int)), some (vi ((A 3 p : Nat) : Int)), some (vi ln), some (vi gr), some (vi (((A 4 p : Nat) : Int) + (cmpI ln 0))), some (vi ((((A 4 p : Nat) : Int) + (cmpI ln 0)) + 1)), some (vi gr)] [vi (nok (A 1 p) (((A 4 p : Nat) : Int) + (cmpI ln 0)) ((((A 4 p : Nat) : Int) + (cmpI ln 0)) + 1) gr (A 4 p)), vi 9, vi 0] X
            have hnk154 := nok_r (k := A 1 p) (b := A 4 p) (g := (((A 4 p : Nat) : Int) + (cmpI ln 0))) (f := ((((A 4 p : Nat) : Int) + (cmpI ln 0)) + 1)) (c := gr) (by omega) (by omega) (by omega) (by have := hA.b9 p (by omega); omega)
            refine ev_mmin (pc := 157) hC (min 9 (nok (A 1 p) (((A 4 p : Nat) : Int) + (cmpI ln 0)) ((((A 4 p : Nat) : Int) + (cmpI ln 0)) + 1) gr (A 4 p))) (by omega) (by omega) (rfl) (show Cond.methodLink RX3 81 Lib.Math.min.name ∈ _ by decide +kernel) (show Cond.static Lib.Math.min.name ∈ _ by decide +kernel) (show Cond.initialized "java/lang/Math" ∈ _ by decide +kernel) (show Cond.code Lib.Math.min.name Lib.Math.min.code 2 (some .int) ∈ _ by decide +kernel) (by decide) (by decide) (Nat.le_of_ble_eq_true rfl) dX3_nextBelief_157 ?_
            refine ev_mmax (pc := 160) hC (max 0 (min 9 (nok (A 1 p) (((A 4 p : Nat) : Int) + (cmpI ln 0)) ((((A 4 p : Nat) : Int) + (cmpI ln 0)) + 1) gr (A 4 p)))) (by omega) (by omega) (rfl) (show Cond.methodLink RX3 69 Lib.Math.max.name ∈ _ by decide +kernel) (show Cond.static Lib.Math.max.name ∈ _ by decide +kernel) (show Cond.initialized "java/lang/Math" ∈ _ by decide +kernel) (show Cond.code Lib.Math.max.name Lib.Math.max.code 2 (some .int) ∈ _ by decide +kernel) (by decide) (by decide) (Nat.le_of_ble_eq_true rfl) dX3_nextBelief_160 ?_
            exact ev_ireturn (pc := 163) hC hR dX3_nextBelief_163 (⟨rv (nb_ok (hie ▸ hln) (hie ▸ hgr) hgb rfl (by split <;> omega) (by split <;> omega)), rfl⟩)
          · refine ev_iload_n (pc := 135) hC dX3_nextBelief_135 rfl ?_
            refine ev_goto (pc := 136) hC 141 dX3_nextBelief_136 (by decide) ?_
            refine ev_istore (pc := 141) hC dX3_nextBelief_141 (by rw [hKn]; decide) rfl ?_
            show Ev K 143 [some (.ref s), some (vi ((p : Nat) : Int)), some (vi ((w : Nat) : Int)), some (vi ((A 4 p : Nat) : Int)), some (vi ((A 3 p : Nat) : Int)), some (vi ln), some (vi gr), some (vi (((A 4 p : Nat) : Int) + (cmpI ln 0))), some (vi ((((A 4 p : Nat) : Int) + (cmpI ln 0)) + 1)), some (vi ((A 4 p : Nat) : Int))] [] X
            refine ev_iconst (pc := 143) hC dX3_nextBelief_143 ?_
            refine ev_bipush (pc := 144) hC dX3_nextBelief_144 (by decide) ?_
            refine ev_aload_n (pc := 146) hC dX3_nextBelief_146 rfl ?_
            refine ev_iload_n (pc := 147) hC dX3_nextBelief_147 rfl ?_
            refine ev_iload (pc := 148) hC dX3_nextBelief_148 rfl ?_
            refine ev_iload (pc := 150) hC dX3_nextBelief_150 rfl ?_
            refine ev_iload (pc := 152) hC dX3_nextBelief_152 rfl ?_
            refine ev_callV (pc := 154) (as := [vi ((p : Nat) : Int), vi (((A 4 p : Nat) : Int) + (cmpI ln 0)), vi ((((A 4 p : Nat) : Int) + (cmpI ln 0)) + 1), vi ((A 4 p : Nat) : Int)]) (rest := [vi 9, vi 0]) hC gX3_nextBelief_X3_nextOfKind mtX3_nextOfKind dX3_nextBelief_154 (ru_X3_nextOfKind hs hA p (((A 4 p : Nat) : Int) + (cmpI ln 0)) ((((A 4 p : Nat) : Int) + (cmpI ln 0)) + 1) ((A 4 p : Nat) : Int) (by omega) (by omega) (by omega) (by omega)) (by decide) (sp_lt hs) (sp_o hs) (sp_cn hs) (by rfl) (Nat.le_of_ble_eq_true rfl) rfl (fun v154 X154 h154 => ?_)
            obtain ⟨rfl, rfl⟩ := h154
            show Ev K 157 [some (.ref s), some (vi ((p : Nat) : Int)), some (vi ((w : Nat) : Int)), some (vi ((A 4 p : Nat) : Int)), some (vi ((A 3 p : Nat) : Int)), some (vi ln), some (vi gr), some (vi (((A 4 p : Nat) : Int) + (cmpI ln 0))), some (vi ((((A 4 p : Nat) : Int) + (cmpI ln 0)) + 1)), some (vi ((A 4 p : Nat) : Int))] [vi (nok (A 1 p) (((A 4 p : Nat) : Int) + (cmpI ln 0)) ((((A 4 p : Nat) : Int) + (cmpI ln 0)) + 1) ((A 4 p : Nat) : Int) (A 4 p)), vi 9, vi 0] X
            have hnk154 := nok_r (k := A 1 p) (b := A 4 p) (g := (((A 4 p : Nat) : Int) + (cmpI ln 0))) (f := ((((A 4 p : Nat) : Int) + (cmpI ln 0)) + 1)) (c := ((A 4 p : Nat) : Int)) (by omega) (by omega) (by omega) (by have := hA.b9 p (by omega); omega)
            refine ev_mmin (pc := 157) hC (min 9 (nok (A 1 p) (((A 4 p : Nat) : Int) + (cmpI ln 0)) ((((A 4 p : Nat) : Int) + (cmpI ln 0)) + 1) ((A 4 p : Nat) : Int) (A 4 p))) (by omega) (by omega) (rfl) (show Cond.methodLink RX3 81 Lib.Math.min.name ∈ _ by decide +kernel) (show Cond.static Lib.Math.min.name ∈ _ by decide +kernel) (show Cond.initialized "java/lang/Math" ∈ _ by decide +kernel) (show Cond.code Lib.Math.min.name Lib.Math.min.code 2 (some .int) ∈ _ by decide +kernel) (by decide) (by decide) (Nat.le_of_ble_eq_true rfl) dX3_nextBelief_157 ?_
            refine ev_mmax (pc := 160) hC (max 0 (min 9 (nok (A 1 p) (((A 4 p : Nat) : Int) + (cmpI ln 0)) ((((A 4 p : Nat) : Int) + (cmpI ln 0)) + 1) ((A 4 p : Nat) : Int) (A 4 p)))) (by omega) (by omega) (rfl) (show Cond.methodLink RX3 69 Lib.Math.max.name ∈ _ by decide +kernel) (show Cond.static Lib.Math.max.name ∈ _ by decide +kernel) (show Cond.initialized "java/lang/Math" ∈ _ by decide +kernel) (show Cond.code Lib.Math.max.name Lib.Math.max.code 2 (some .int) ∈ _ by decide +kernel) (by decide) (by decide) (Nat.le_of_ble_eq_true rfl) dX3_nextBelief_160 ?_
            exact ev_ireturn (pc := 163) hC hR dX3_nextBelief_163 (⟨rv (nb_ok (hie ▸ hln) (hie ▸ hgr) hgb rfl (by split <;> omega) (by split <;> omega)), rfl⟩)
      · refine ev_iload (pc := 33) hC dX3_nextBelief_33 rfl ?_
        refine ev_iload_n (pc := 35) hC dX3_nextBelief_35 rfl ?_
        refine ev_icmp_eq (pc := 36) hC 88 dX3_nextBelief_36 (by decide) (by omega) (by omega) (fun c36 => ?_) (fun c36 => ?_)
        · have e : bes 0 A p i = false := bes0_f (Or.inl (by omega))
          refine ev_iinc (pc := 88) hC ((i + 1 : Nat) : Int) dX3_nextBelief_88 rfl (by omega) (by rw [hKn]; decide) rfl ?_
          show Ev K 91 [some (.ref s), some (vi ((p : Nat) : Int)), some (vi ((w : Nat) : Int)), some (vi ((A 4 p : Nat) : Int)), some (vi ((A 3 p : Nat) : Int)), some (vi ln), some (vi gr), some (vi ((i + 1 : Nat) : Int)), none, none] [] X
          refine ev_goto (pc := 91) hC 24 dX3_nextBelief_91 (by decide) ?_
          exact ih24 (i + 1) ln gr (by omega) (by omega) (by first | exact ln_f e hln | exact ln_b e e2 hln | exact ln_n e e2 hln) (by first | exact gr_f e hgr | exact gr_t e hgr) (by omega)
        · refine ev_aload_n (pc := 39) hC dX3_nextBelief_39 rfl ?_
          refine ev_getr (pc := 40) hC (5 + 6 * s + 3) f21 dX3_nextBelief_40 (sp_lt hs) (sp_o hs) (sp_c hs) (by rw [sp_nf hs]; decide) (sp_fr3 hs) ?_
          refine ev_iload (pc := 43) hC dX3_nextBelief_43 rfl ?_
          have hb45 := hA.c25 i (by omega)
          refine ev_iald (pc := 45) hC i ((A 3 i : Nat) : Int) (sp_alt3 hs) (sp_ao3 hs) (rfl) (by have := (sp_al3 hs); omega) (hA.c3 i (by omega)) dX3_nextBelief_45 ?_
          refine ev_iload (pc := 46) hC dX3_nextBelief_46 rfl ?_
          refine ev_callN (pc := 48) (as := [vi ((A 3 i : Nat) : Int), vi ((A 3 p : Nat) : Int)]) (rest := []) hC (by decide +kernel) gX3_nextBelief_X5_apart_n51 (show Cond.static yX5_apart ∈ _ by decide +kernel) (show Cond.initialized RX5 ∈ _ by decide +kernel) mtX5_apart dX3_nextBelief_48 (ru_X5_apart (A 3 i) (A 3 p) (by omega) (by omega)) (by decide) (by rfl) (Nat.le_of_ble_eq_true rfl) rfl (fun v48 X48 h48 => ?_)
          obtain ⟨rfl, rfl⟩ := h48
          show Ev K 51 [some (.ref s), some (vi ((p : Nat) : Int)), some (vi ((w : Nat) : Int)), some (vi ((A 4 p : Nat) : Int)), some (vi ((A 3 p : Nat) : Int)), some (vi ln), some (vi gr), some (vi ((i : Nat) : Int)), none, none] [vi ((stp (A 3 i) (A 3 p) : Nat) : Int)] X
          have hst48 := stp_le (a := A 3 i) (b := A 3 p) (by omega) (by omega)
          refine ev_iconst (pc := 51) hC dX3_nextBelief_51 ?_
          refine ev_icmp_gt (pc := 52) hC 88 dX3_nextBelief_52 (by decide) (by omega) (by omega) (fun c52 => ?_) (fun c52 => ?_)
          · have e : bes 0 A p i = false := bes0_f (Or.inr (by rw [stp_comm]; omega))
            refine ev_iinc (pc := 88) hC ((i + 1 : Nat) : Int) dX3_nextBelief_88 rfl (by omega) (by rw [hKn]; decide) rfl ?_
            show Ev K 91 [some (.ref s), some (vi ((p : Nat) : Int)), some (vi ((w : Nat) : Int)), some (vi ((A 4 p : Nat) : Int)), some (vi ((A 3 p : Nat) : Int)), some (vi ln), some (vi gr), some (vi ((i + 1 : Nat) : Int)), none, none] [] X
            refine ev_goto (pc := 91) hC 24 dX3_nextBelief_91 (by decide) ?_
            exact ih24 (i + 1) ln gr (by omega) (by omega) (by first | exact ln_f e hln | exact ln_b e e2 hln | exact ln_n e e2 hln) (by first | exact gr_f e hgr | exact gr_t e hgr) (by omega)
          · have e : bes 0 A p i = true := bes0_t (by omega) (by rw [stp_comm]; omega)
            refine ev_iload (pc := 55) hC dX3_nextBelief_55 rfl ?_
            refine ev_aload_n (pc := 57) hC dX3_nextBelief_57 rfl ?_
            refine ev_iload (pc := 58) hC dX3_nextBelief_58 rfl ?_
            refine ev_callV (pc := 60) (as := [vi ((i : Nat) : Int)]) (rest := [vi ln]) hC gX3_nextBelief_X3_isBeliever mtX3_isBeliever dX3_nextBelief_60 (ru_X3_isBeliever hs i _ (by have := hA.n8; omega) (hA.c4 i (by omega)) (hA.b9 i (by omega))) (by decide) (sp_lt hs) (sp_o hs) (sp_cn hs) (by rfl) (Nat.le_of_ble_eq_true rfl) rfl (fun v60 X60 h60 => ?_)
            obtain ⟨rfl, rfl⟩ := h60
            show Ev K 63 [some (.ref s), some (vi ((p : Nat) : Int)), some (vi ((w : Nat) : Int)), some (vi ((A 4 p : Nat) : Int)), some (vi ((A 3 p : Nat) : Int)), some (vi ln), some (vi gr), some (vi ((i : Nat) : Int)), none, none] [vi (b2i (bel A i)), vi ln] X
            have hr60 := b2i_r (bel A i)
            refine ev_if_eq (pc := 63) hC 70 dX3_nextBelief_63 (by decide) (by omega) (fun c63 => ?_) (fun c63 => ?_)
            · have e2 : bel A i = false := b2i_0 c63
              refine ev_iconst (pc := 70) hC dX3_nextBelief_70 ?_
              refine ev_iadd (pc := 71) hC (ln + (-1)) (rfl) dX3_nextBelief_71 ?_
              refine ev_istore (pc := 72) hC dX3_nextBelief_72 (by rw [hKn]; decide) rfl ?_
              show Ev K 74 [some (.ref s), some (vi ((p : Nat) : Int)), some (vi ((w : Nat) : Int)), some (vi ((A 4 p : Nat) : Int)), some (vi ((A 3 p : Nat) : Int)), some (vi (ln + (-1))), some (vi gr), some (vi ((i : Nat) : Int)), none, none] [] X
              refine ev_iload (pc := 74) hC dX3_nextBelief_74 rfl ?_
              refine ev_aload_n (pc := 76) hC dX3_nextBelief_76 rfl ?_
              refine ev_getr (pc := 77) hC (5 + 6 * s + 4) f24 dX3_nextBelief_77 (sp_lt hs) (sp_o hs) (sp_c hs) (by rw [sp_nf hs]; decide) (sp_fr4 hs) ?_
              refine ev_iload (pc := 80) hC dX3_nextBelief_80 rfl ?_
              have hb82 := hA.b9 i (by omega)
              refine ev_iald (pc := 82) hC i ((A 4 i : Nat) : Int) (sp_alt4 hs) (sp_ao4 hs) (rfl) (by have := (sp_al4 hs); omega) (hA.c4 i (by omega)) dX3_nextBelief_82 ?_
              refine ev_mmax (pc := 83) hC (max gr ((A 4 i : Nat) : Int)) (by omega) (by omega) (rfl) (show Cond.methodLink RX3 69 Lib.Math.max.name ∈ _ by decide +kernel) (show Cond.static Lib.Math.max.name ∈ _ by decide +kernel) (show Cond.initialized "java/lang/Math" ∈ _ by decide +kernel) (show Cond.code Lib.Math.max.name Lib.Math.max.code 2 (some .int) ∈ _ by decide +kernel) (by decide) (by decide) (Nat.le_of_ble_eq_true rfl) dX3_nextBelief_83 ?_
              refine ev_istore (pc := 86) hC dX3_nextBelief_86 (by rw [hKn]; decide) rfl ?_
              show Ev K 88 [some (.ref s), some (vi ((p : Nat) : Int)), some (vi ((w : Nat) : Int)), some (vi ((A 4 p : Nat) : Int)), some (vi ((A 3 p : Nat) : Int)), some (vi (ln + (-1))), some (vi (max gr ((A 4 i : Nat) : Int))), some (vi ((i : Nat) : Int)), none, none] [] X
              refine ev_iinc (pc := 88) hC ((i + 1 : Nat) : Int) dX3_nextBelief_88 rfl (by omega) (by rw [hKn]; decide) rfl ?_
              show Ev K 91 [some (.ref s), some (vi ((p : Nat) : Int)), some (vi ((w : Nat) : Int)), some (vi ((A 4 p : Nat) : Int)), some (vi ((A 3 p : Nat) : Int)), some (vi (ln + (-1))), some (vi (max gr ((A 4 i : Nat) : Int))), some (vi ((i + 1 : Nat) : Int)), none, none] [] X
              refine ev_goto (pc := 91) hC 24 dX3_nextBelief_91 (by decide) ?_
              exact ih24 (i + 1) (ln + (-1)) (max gr ((A 4 i : Nat) : Int)) (by omega) (by omega) (by first | exact ln_f e hln | exact ln_b e e2 hln | exact ln_n e e2 hln) (by first | exact gr_f e hgr | exact gr_t e hgr) (by omega)
            · have e2 : bel A i = true := b2i_1 c63
              refine ev_iconst (pc := 66) hC dX3_nextBelief_66 ?_
              refine ev_goto (pc := 67) hC 71 dX3_nextBelief_67 (by decide) ?_
              refine ev_iadd (pc := 71) hC (ln + 1) (rfl) dX3_nextBelief_71 ?_
              refine ev_istore (pc := 72) hC dX3_nextBelief_72 (by rw [hKn]; decide) rfl ?_
              show Ev K 74 [some (.ref s), some (vi ((p : Nat) : Int)), some (vi ((w : Nat) : Int)), some (vi ((A 4 p : Nat) : Int)), some (vi ((A 3 p : Nat) : Int)), some (vi (ln + 1)), some (vi gr), some (vi ((i : Nat) : Int)), none, none] [] X
              refine ev_iload (pc := 74) hC dX3_nextBelief_74 rfl ?_
              refine ev_aload_n (pc := 76) hC dX3_nextBelief_76 rfl ?_
              refine ev_getr (pc := 77) hC (5 + 6 * s + 4) f24 dX3_nextBelief_77 (sp_lt hs) (sp_o hs) (sp_c hs) (by rw [sp_nf hs]; decide) (sp_fr4 hs) ?_
              refine ev_iload (pc := 80) hC dX3_nextBelief_80 rfl ?_
              have hb82 := hA.b9 i (by omega)
              refine ev_iald (pc := 82) hC i ((A 4 i : Nat) : Int) (sp_alt4 hs) (sp_ao4 hs) (rfl) (by have := (sp_al4 hs); omega) (hA.c4 i (by omega)) dX3_nextBelief_82 ?_
              refine ev_mmax (pc := 83) hC (max gr ((A 4 i : Nat) : Int)) (by omega) (by omega) (rfl) (show Cond.methodLink RX3 69 Lib.Math.max.name ∈ _ by decide +kernel) (show Cond.static Lib.Math.max.name ∈ _ by decide +kernel) (show Cond.initialized "java/lang/Math" ∈ _ by decide +kernel) (show Cond.code Lib.Math.max.name Lib.Math.max.code 2 (some .int) ∈ _ by decide +kernel) (by decide) (by decide) (Nat.le_of_ble_eq_true rfl) dX3_nextBelief_83 ?_
              refine ev_istore (pc := 86) hC dX3_nextBelief_86 (by rw [hKn]; decide) rfl ?_
              show Ev K 88 [some (.ref s), some (vi ((p : Nat) : Int)), some (vi ((w : Nat) : Int)), some (vi ((A 4 p : Nat) : Int)), some (vi ((A 3 p : Nat) : Int)), some (vi (ln + 1)), some (vi (max gr ((A 4 i : Nat) : Int))), some (vi ((i : Nat) : Int)), none, none] [] X
              refine ev_iinc (pc := 88) hC ((i + 1 : Nat) : Int) dX3_nextBelief_88 rfl (by omega) (by rw [hKn]; decide) rfl ?_
              show Ev K 91 [some (.ref s), some (vi ((p : Nat) : Int)), some (vi ((w : Nat) : Int)), some (vi ((A 4 p : Nat) : Int)), some (vi ((A 3 p : Nat) : Int)), some (vi (ln + 1)), some (vi (max gr ((A 4 i : Nat) : Int))), some (vi ((i + 1 : Nat) : Int)), none, none] [] X
              refine ev_goto (pc := 91) hC 24 dX3_nextBelief_91 (by decide) ?_
              exact ih24 (i + 1) (ln + 1) (max gr ((A 4 i : Nat) : Int)) (by omega) (by omega) (by first | exact ln_f e hln | exact ln_b e e2 hln | exact ln_n e e2 hln) (by first | exact gr_f e hgr | exact gr_t e hgr) (by omega)
  exact lp24 _ 0 0 (-1) (Nat.lt_succ_self _) (by omega) rfl rfl (by omega)
theorem mtX3_nearer : MT yX3_nearer wsX3_nearer cX3_nearer 3 (some .int) 2 := ⟨⟨_, rfl⟩, by decide, by decide, by decide +kernel⟩
set_option maxRecDepth 100000 in
set_option maxHeartbeats 4000000 in
theorem ru_X3_nearer {X : Mem} (a b : Nat) (ha : a < 25) (hb : b < 25) : Ru yX3_nearer wsX3_nearer 1 21 [vi ((a : Nat) : Int), vi ((b : Nat) : Int)] X (fun v X' => v = some (vi (toward a b)) ∧ X = X') := by
  refine ru_of (w2 := _) rfl (by decide) [some (vi ((a : Nat) : Int)), some (vi ((b : Nat) : Int)), none] (fun _ => rfl) (fun _ => Nat.le_of_ble_eq_true rfl) ?_
  intro K hKn hC hR
  have k1 := cmpI_cases ((b / 5 : Nat) : Int) ((a / 5 : Nat) : Int)
  have k2 := cmpI_cases ((b % 5 : Nat) : Int) ((a % 5 : Nat) : Int)
  have k3 := toward_cases a b
  refine ev_iload_n (pc := 0) hC dX3_nearer_0 rfl ?_
  refine ev_iconst (pc := 1) hC dX3_nearer_1 ?_
  refine ev_idiv (pc := 2) hC ((b / 5 : Nat) : Int) (by omega) (by omega) (by omega) dX3_nearer_2 ?_
  refine ev_iload_n (pc := 3) hC dX3_nearer_3 rfl ?_
  refine ev_iconst (pc := 4) hC dX3_nearer_4 ?_
  refine ev_idiv (pc := 5) hC ((a / 5 : Nat) : Int) (by omega) (by omega) (by omega) dX3_nearer_5 ?_
  refine ev_callS (pc := 6) (as := [vi ((b / 5 : Nat) : Int), vi ((a / 5 : Nat) : Int)]) (rest := []) hC gX3_nearer_J6_compare_7cf53 mtJ6_compare_7cf53 dX3_nearer_6 (ru_J6_compare_7cf53 ((b / 5 : Nat) : Int) ((a / 5 : Nat) : Int) (by omega) (by omega)) (by decide) (by rfl) (Nat.le_of_ble_eq_true rfl) rfl (fun v6 X6 h6 => ?_)
  obtain ⟨rfl, rfl⟩ := h6
  show Ev K 9 [some (vi ((a : Nat) : Int)), some (vi ((b : Nat) : Int)), none] [vi (cmpI ((b / 5 : Nat) : Int) ((a / 5 : Nat) : Int))] X
  have hc6 := cmpI_r ((b / 5 : Nat) : Int) ((a / 5 : Nat) : Int)
  refine ev_istore_n (pc := 9) hC dX3_nearer_9 (by rw [hKn]; decide) rfl ?_
  show Ev K 10 [some (vi ((a : Nat) : Int)), some (vi ((b : Nat) : Int)), some (vi (cmpI ((b / 5 : Nat) : Int) ((a / 5 : Nat) : Int)))] [] X
  refine ev_iload_n (pc := 10) hC dX3_nearer_10 rfl ?_
  refine ev_if_eq (pc := 11) hC 22 dX3_nearer_11 (by decide) (by omega) (fun c11 => ?_) (fun c11 => ?_)
  · refine ev_iload_n (pc := 22) hC dX3_nearer_22 rfl ?_
    refine ev_iload_n (pc := 23) hC dX3_nearer_23 rfl ?_
    refine ev_iconst (pc := 24) hC dX3_nearer_24 ?_
    refine ev_irem (pc := 25) hC ((b % 5 : Nat) : Int) (by omega) (by omega) (by omega) dX3_nearer_25 ?_
    refine ev_iload_n (pc := 26) hC dX3_nearer_26 rfl ?_
    refine ev_iconst (pc := 27) hC dX3_nearer_27 ?_
    refine ev_irem (pc := 28) hC ((a % 5 : Nat) : Int) (by omega) (by omega) (by omega) dX3_nearer_28 ?_
    refine ev_callS (pc := 29) (as := [vi ((b % 5 : Nat) : Int), vi ((a % 5 : Nat) : Int)]) (rest := [vi ((a : Nat) : Int)]) hC gX3_nearer_J6_compare_7cf53 mtJ6_compare_7cf53 dX3_nearer_29 (ru_J6_compare_7cf53 ((b % 5 : Nat) : Int) ((a % 5 : Nat) : Int) (by omega) (by omega)) (by decide) (by rfl) (Nat.le_of_ble_eq_true rfl) rfl (fun v29 X29 h29 => ?_)
    obtain ⟨rfl, rfl⟩ := h29
    show Ev K 32 [some (vi ((a : Nat) : Int)), some (vi ((b : Nat) : Int)), some (vi (cmpI ((b / 5 : Nat) : Int) ((a / 5 : Nat) : Int)))] [vi (cmpI ((b % 5 : Nat) : Int) ((a % 5 : Nat) : Int)), vi ((a : Nat) : Int)] X
    have hc29 := cmpI_r ((b % 5 : Nat) : Int) ((a % 5 : Nat) : Int)
    refine ev_iadd (pc := 32) hC (((a : Nat) : Int) + (cmpI ((b % 5 : Nat) : Int) ((a % 5 : Nat) : Int))) (rfl) dX3_nearer_32 ?_
    exact ev_ireturn (pc := 33) hC hR dX3_nearer_33 (⟨rv (by omega), rfl⟩)
  · refine ev_iload_n (pc := 14) hC dX3_nearer_14 rfl ?_
    refine ev_iconst (pc := 15) hC dX3_nearer_15 ?_
    refine ev_iload_n (pc := 16) hC dX3_nearer_16 rfl ?_
    refine ev_imul (pc := 17) hC (5 * (cmpI ((b / 5 : Nat) : Int) ((a / 5 : Nat) : Int))) (rfl) dX3_nearer_17 ?_
    refine ev_iadd (pc := 18) hC (((a : Nat) : Int) + (5 * (cmpI ((b / 5 : Nat) : Int) ((a / 5 : Nat) : Int)))) (rfl) dX3_nearer_18 ?_
    refine ev_goto (pc := 19) hC 33 dX3_nearer_19 (by decide) ?_
    exact ev_ireturn (pc := 33) hC hR dX3_nearer_33 (⟨rv (by omega), rfl⟩)
theorem mtX3_believersAround : MT yX3_believersAround wsX3_believersAround cX3_believersAround 4 (some .int) 1 := ⟨⟨_, rfl⟩, by decide, by decide, by decide +kernel⟩
set_option maxRecDepth 100000 in
set_option maxHeartbeats 4000000 in
theorem ru_X3_believersAround {X : Mem} {s : Nat} {A : Sl} (hs : Sp s) (hA : Rp (vC X s) A) (w : Nat) (hw : w < 25) : Ru yX3_believersAround wsX3_believersAround 1 23 [.ref s, vi ((w : Nat) : Int)] X (fun v X' => v = some (vi (blvAt 0 A w)) ∧ X = X') := by
  refine ru_of (w2 := _) rfl (by decide) [some (.ref s), some (vi ((w : Nat) : Int)), none, none] (fun _ => rfl) (fun _ => Nat.le_of_ble_eq_true rfl) ?_
  intro K hKn hC hR
  have wX3 : ∀ w ∈ u_ws RX3 TX3 8, w ∈ wsX3_believersAround := by decide +kernel
  have f30 : Fl K RX3 30 3 6 := fl_of hC RX3 TX3 8 rfl (by decide) wX3 (show Cond.fieldLink RX3 30 "PicnicOfSomebody$Slope" "people" "I" ∈ _ by decide +kernel)
  have f21 : Fl K RX3 21 3 3 := fl_of hC RX3 TX3 8 rfl (by decide) wX3 (show Cond.fieldLink RX3 21 "PicnicOfSomebody$Slope" "cells" "[I" ∈ _ by decide +kernel)
  have hn8 := hA.n8
  refine ev_iconst (pc := 0) hC dX3_believersAround_0 ?_
  refine ev_istore_n (pc := 1) hC dX3_believersAround_1 (by rw [hKn]; decide) rfl ?_
  show Ev K 2 [some (.ref s), some (vi ((w : Nat) : Int)), some (vi 0), none] [] X
  refine ev_iconst (pc := 2) hC dX3_believersAround_2 ?_
  refine ev_istore_n (pc := 3) hC dX3_believersAround_3 (by rw [hKn]; decide) rfl ?_
  show Ev K 4 [some (.ref s), some (vi ((w : Nat) : Int)), some (vi 0), some (vi 0)] [] X
  have lp4 : ∀ (fz : Nat) (i : Nat) (b : Nat), A 5 0 - i < fz → (i ≤ A 5 0) → (b = cntB i (fun p => !(Nat.testBit 0 p) && bel A p && decide (stp (A 3 p) w ≤ 2))) → (b ≤ i) → Ev K 4 [some (.ref s), some (vi ((w : Nat) : Int)), some (vi ((b : Nat) : Int)), some (vi ((i : Nat) : Int))] [] X := by
    intro fz
    induction fz with
    | zero => intro i b hfz; exact absurd hfz (Nat.not_lt_zero _)
    | succ fz ih4 =>
      intro i b hfz hi hb hbl
      refine ev_iload_n (pc := 4) hC dX3_believersAround_4 rfl ?_
      refine ev_aload_n (pc := 5) hC dX3_believersAround_5 rfl ?_
      refine ev_geti (pc := 6) hC ((A 5 0 : Nat) : Int) f30 dX3_believersAround_6 (sp_lt hs) (sp_o hs) (sp_c hs) (by rw [sp_nf hs]; decide) (sp_fn6 hs)  (hA.cn) ?_
      refine ev_icmp_ge (pc := 9) hC 43 dX3_believersAround_9 (by decide) (by omega) (by omega) (fun c9 => ?_) (fun c9 => ?_)
      · refine ev_iload_n (pc := 43) hC dX3_believersAround_43 rfl ?_
        exact ev_ireturn (pc := 44) hC hR dX3_believersAround_44 (⟨rv (by rw [hb, show i = A 5 0 by omega]; rfl), rfl⟩)
      · refine ev_aload_n (pc := 12) hC dX3_believersAround_12 rfl ?_
        refine ev_iload_n (pc := 13) hC dX3_believersAround_13 rfl ?_
        refine ev_callV (pc := 14) (as := [vi ((i : Nat) : Int)]) (rest := []) hC gX3_believersAround_X3_isBeliever mtX3_isBeliever dX3_believersAround_14 (ru_X3_isBeliever hs i _ (by have := hA.n8; omega) (hA.c4 i (by omega)) (hA.b9 i (by omega))) (by decide) (sp_lt hs) (sp_o hs) (sp_cn hs) (by rfl) (Nat.le_of_ble_eq_true rfl) rfl (fun v14 X14 h14 => ?_)
        obtain ⟨rfl, rfl⟩ := h14
        show Ev K 17 [some (.ref s), some (vi ((w : Nat) : Int)), some (vi ((b : Nat) : Int)), some (vi ((i : Nat) : Int))] [vi (b2i (bel A i))] X
        have hr14 := b2i_r (bel A i)
        refine ev_if_eq (pc := 17) hC 37 dX3_believersAround_17 (by decide) (by omega) (fun c17 => ?_) (fun c17 => ?_)
        · have e : bel A i = false := b2i_0 c17
          refine ev_iinc (pc := 37) hC ((i + 1 : Nat) : Int) dX3_believersAround_37 rfl (by omega) (by rw [hKn]; decide) rfl ?_
          show Ev K 40 [some (.ref s), some (vi ((w : Nat) : Int)), some (vi ((b : Nat) : Int)), some (vi ((i + 1 : Nat) : Int))] [] X
          refine ev_goto (pc := 40) hC 4 dX3_believersAround_40 (by decide) ?_
          exact ih4 (i + 1) b (by omega) (by omega) (cntB_f (by simp [e]) hb) (by omega)
        · have e : bel A i = true := b2i_1 c17
          refine ev_aload_n (pc := 20) hC dX3_believersAround_20 rfl ?_
          refine ev_getr (pc := 21) hC (5 + 6 * s + 3) f21 dX3_believersAround_21 (sp_lt hs) (sp_o hs) (sp_c hs) (by rw [sp_nf hs]; decide) (sp_fr3 hs) ?_
          refine ev_iload_n (pc := 24) hC dX3_believersAround_24 rfl ?_
          have hb25 := hA.c25 i (by omega)
          refine ev_iald (pc := 25) hC i ((A 3 i : Nat) : Int) (sp_alt3 hs) (sp_ao3 hs) (rfl) (by have := (sp_al3 hs); omega) (hA.c3 i (by omega)) dX3_believersAround_25 ?_
          refine ev_iload_n (pc := 26) hC dX3_believersAround_26 rfl ?_
          refine ev_callN (pc := 27) (as := [vi ((A 3 i : Nat) : Int), vi ((w : Nat) : Int)]) (rest := []) hC (by decide +kernel) gX3_believersAround_X5_apart_n51 (show Cond.static yX5_apart ∈ _ by decide +kernel) (show Cond.initialized RX5 ∈ _ by decide +kernel) mtX5_apart dX3_believersAround_27 (ru_X5_apart (A 3 i) w (by omega) (by omega)) (by decide) (by rfl) (Nat.le_of_ble_eq_true rfl) rfl (fun v27 X27 h27 => ?_)
          obtain ⟨rfl, rfl⟩ := h27
          show Ev K 30 [some (.ref s), some (vi ((w : Nat) : Int)), some (vi ((b : Nat) : Int)), some (vi ((i : Nat) : Int))] [vi ((stp (A 3 i) w : Nat) : Int)] X
          have hst27 := stp_le (a := A 3 i) (b := w) (by omega) (by omega)
          refine ev_iconst (pc := 30) hC dX3_believersAround_30 ?_
          refine ev_icmp_gt (pc := 31) hC 37 dX3_believersAround_31 (by decide) (by omega) (by omega) (fun c31 => ?_) (fun c31 => ?_)
          · have e2 : ¬ stp (A 3 i) w ≤ 2 := by omega
            refine ev_iinc (pc := 37) hC ((i + 1 : Nat) : Int) dX3_believersAround_37 rfl (by omega) (by rw [hKn]; decide) rfl ?_
            show Ev K 40 [some (.ref s), some (vi ((w : Nat) : Int)), some (vi ((b : Nat) : Int)), some (vi ((i + 1 : Nat) : Int))] [] X
            refine ev_goto (pc := 40) hC 4 dX3_believersAround_40 (by decide) ?_
            exact ih4 (i + 1) b (by omega) (by omega) (cntB_f (by rw [decide_eq_false e2, Bool.and_false]) hb) (by omega)
          · have e2 : stp (A 3 i) w ≤ 2 := by omega
            refine ev_iinc (pc := 34) hC ((b + 1 : Nat) : Int) dX3_believersAround_34 rfl (by omega) (by rw [hKn]; decide) rfl ?_
            show Ev K 37 [some (.ref s), some (vi ((w : Nat) : Int)), some (vi ((b + 1 : Nat) : Int)), some (vi ((i : Nat) : Int))] [] X
            refine ev_iinc (pc := 37) hC ((i + 1 : Nat) : Int) dX3_believersAround_37 rfl (by omega) (by rw [hKn]; decide) rfl ?_
            show Ev K 40 [some (.ref s), some (vi ((w : Nat) : Int)), some (vi ((b + 1 : Nat) : Int)), some (vi ((i + 1 : Nat) : Int))] [] X
            refine ev_goto (pc := 40) hC 4 dX3_believersAround_40 (by decide) ?_
            exact ih4 (i + 1) (b + 1) (by omega) (by omega) (cntB_t (by simp [e, e2]) hb) (by omega)
  exact lp4 _ 0 0 (Nat.lt_succ_self _) (by omega) rfl (by omega)
theorem mtX3_deepen : MT yX3_deepen wsX3_deepen cX3_deepen 5 none 2 := ⟨⟨_, rfl⟩, by decide, by decide, by decide +kernel⟩
set_option maxRecDepth 100000 in
set_option maxHeartbeats 4000000 in
theorem ru_X3_deepen {X : Mem} {s : Nat} {A : Sl} (hs : Sp s) (hA : Rp (vC X s) A) (w m : Nat) (hw : w < 25) (hm : m ≤ 8) : Ru yX3_deepen wsX3_deepen 1 40 [.ref s, vi ((w : Nat) : Int), vi ((m : Nat) : Int)] X (fun v X' => v = none ∧ (∀ q, ¬ q = 5 + 6 * s + 0 → X' q = X q) ∧ ∀ k, k < 25 → X' (5 + 6 * s + 0) k = zI ((dpn A w m k : Nat) : Int)) := by
  refine ru_of (w2 := _) rfl (by decide) [some (.ref s), some (vi ((w : Nat) : Int)), some (vi ((m : Nat) : Int)), none, none] (fun _ => rfl) (fun _ => Nat.le_of_ble_eq_true rfl) ?_
  intro K hKn hC hR
  have wX3 : ∀ w ∈ u_ws RX3 TX3 8, w ∈ wsX3_deepen := by decide +kernel
  have f9 : Fl K RX3 9 3 0 := fl_of hC RX3 TX3 8 rfl (by decide) wX3 (show Cond.fieldLink RX3 9 "PicnicOfSomebody$Slope" "depths" "[I" ∈ _ by decide +kernel)
  have hn8 := hA.n8
  refine ev_iconst (pc := 0) hC dX3_deepen_0 ?_
  refine ev_istore_n (pc := 1) hC dX3_deepen_1 (by rw [hKn]; decide) rfl ?_
  show Ev K 2 [some (.ref s), some (vi ((w : Nat) : Int)), some (vi ((m : Nat) : Int)), some (vi 0), none] [] X
  have lp2 : ∀ (fz : Nat) (i : Nat) (Y : Mem), 25 - i < fz → (i ≤ 25) → (∀ q, ¬ q = 5 + 6 * s + 0 → Y q = X q) → (∀ k, k < 25 → Y (5 + 6 * s + 0) k = zI (((if k < i then dpn A w m k else A 0 k : Nat)) : Int)) → Ev K 2 [some (.ref s), some (vi ((w : Nat) : Int)), some (vi ((m : Nat) : Int)), some (vi ((i : Nat) : Int)), none] [] Y := by
    intro fz
    induction fz with
    | zero => intro i Y hfz; exact absurd hfz (Nat.not_lt_zero _)
    | succ fz ih2 =>
      intro i Y hfz hi hF hD
      refine ev_iload_n (pc := 2) hC dX3_deepen_2 rfl ?_
      refine ev_bipush (pc := 3) hC dX3_deepen_3 (by decide) ?_
      refine ev_icmp_ge (pc := 5) hC 50 dX3_deepen_5 (by decide) (by omega) (by omega) (fun c5 => ?_) (fun c5 => ?_)
      · exact ev_return (pc := 50) hC hR dX3_deepen_50 (⟨rfl, hF, fun k hk => (hD k hk).trans (by rw [if_pos (by omega)])⟩)
      · refine ev_iload_n (pc := 8) hC dX3_deepen_8 rfl ?_
        refine ev_iload_n (pc := 9) hC dX3_deepen_9 rfl ?_
        refine ev_icmp_ne (pc := 10) hC 17 dX3_deepen_10 (by decide) (by omega) (by omega) (fun c10 => ?_) (fun c10 => ?_)
        · refine ev_iconst (pc := 17) hC dX3_deepen_17 ?_
          refine ev_istore (pc := 18) hC dX3_deepen_18 (by rw [hKn]; decide) rfl ?_
          show Ev K 20 [some (.ref s), some (vi ((w : Nat) : Int)), some (vi ((m : Nat) : Int)), some (vi ((i : Nat) : Int)), some (vi (-1))] [] Y
          refine ev_aload_n (pc := 20) hC dX3_deepen_20 rfl ?_
          refine ev_getr (pc := 21) hC (5 + 6 * s + 0) f9 dX3_deepen_21 (sp_lt hs) (sp_o hs) (sp_c hs) (by rw [sp_nf hs]; decide) (sp_fr0 hs) ?_
          refine ev_iload_n (pc := 24) hC dX3_deepen_24 rfl ?_
          refine ev_iconst (pc := 25) hC dX3_deepen_25 ?_
          refine ev_bipush (pc := 26) hC dX3_deepen_26 (by decide) ?_
          refine ev_aload_n (pc := 28) hC dX3_deepen_28 rfl ?_
          refine ev_getr (pc := 29) hC (5 + 6 * s + 0) f9 dX3_deepen_29 (sp_lt hs) (sp_o hs) (sp_c hs) (by rw [sp_nf hs]; decide) (sp_fr0 hs) ?_
          refine ev_iload_n (pc := 32) hC dX3_deepen_32 rfl ?_
          have hb33 := hA.d99 i (by omega)
          refine ev_iald (pc := 33) hC i ((A 0 i : Nat) : Int) (sp_alt0 hs) (sp_ao0 hs) (rfl) (by have := (sp_al0 hs); omega) ((hD i (by omega)).trans (by rw [if_neg (by omega)])) dX3_deepen_33 ?_
          refine ev_iload (pc := 34) hC dX3_deepen_34 rfl ?_
          refine ev_iadd (pc := 36) hC (((A 0 i : Nat) : Int) + (-1)) (rfl) dX3_deepen_36 ?_
          refine ev_mmin (pc := 37) hC (min 99 (((A 0 i : Nat) : Int) + (-1))) (by omega) (by omega) (rfl) (show Cond.methodLink RX3 81 Lib.Math.min.name ∈ _ by decide +kernel) (show Cond.static Lib.Math.min.name ∈ _ by decide +kernel) (show Cond.initialized "java/lang/Math" ∈ _ by decide +kernel) (show Cond.code Lib.Math.min.name Lib.Math.min.code 2 (some .int) ∈ _ by decide +kernel) (by decide) (by decide) (Nat.le_of_ble_eq_true rfl) dX3_deepen_37 ?_
          refine ev_mmax (pc := 40) hC (max 0 (min 99 (((A 0 i : Nat) : Int) + (-1)))) (by omega) (by omega) (rfl) (show Cond.methodLink RX3 69 Lib.Math.max.name ∈ _ by decide +kernel) (show Cond.static Lib.Math.max.name ∈ _ by decide +kernel) (show Cond.initialized "java/lang/Math" ∈ _ by decide +kernel) (show Cond.code Lib.Math.max.name Lib.Math.max.code 2 (some .int) ∈ _ by decide +kernel) (by decide) (by decide) (Nat.le_of_ble_eq_true rfl) dX3_deepen_40 ?_
          refine ev_iast (pc := 43) hC i (sp_alt0 hs) (sp_ao0 hs) (rfl) (by have := (sp_al0 hs); omega) dX3_deepen_43 ?_
          refine ev_iinc (pc := 44) hC ((i + 1 : Nat) : Int) dX3_deepen_44 rfl (by omega) (by rw [hKn]; decide) rfl ?_
          show Ev K 47 [some (.ref s), some (vi ((w : Nat) : Int)), some (vi ((m : Nat) : Int)), some (vi ((i + 1 : Nat) : Int)), some (vi (-1))] [] (mset Y (5 + 6 * s + 0) i (zI (max 0 (min 99 (((A 0 i : Nat) : Int) + (-1))))))
          refine ev_goto (pc := 47) hC 2 dX3_deepen_47 (by decide) ?_
          refine ev_drop 4 ?_
          show Ev K 2 [some (.ref s), some (vi ((w : Nat) : Int)), some (vi ((m : Nat) : Int)), some (vi ((i + 1 : Nat) : Int)), none] [] (mset Y (5 + 6 * s + 0) i (zI (max 0 (min 99 (((A 0 i : Nat) : Int) + (-1))))))
          exact ih2 (i + 1) (mset Y (5 + 6 * s + 0) i (zI (max 0 (min 99 (((A 0 i : Nat) : Int) + (-1)))))) (by omega) (by omega) (fun q hq => by rw [mset_row hq]; exact hF q hq) (arr_if_put hD (by unfold dpn; split <;> omega))
        · refine ev_iload_n (pc := 13) hC dX3_deepen_13 rfl ?_
          refine ev_goto (pc := 14) hC 18 dX3_deepen_14 (by decide) ?_
          refine ev_istore (pc := 18) hC dX3_deepen_18 (by rw [hKn]; decide) rfl ?_
          show Ev K 20 [some (.ref s), some (vi ((w : Nat) : Int)), some (vi ((m : Nat) : Int)), some (vi ((i : Nat) : Int)), some (vi ((m : Nat) : Int))] [] Y
          refine ev_aload_n (pc := 20) hC dX3_deepen_20 rfl ?_
          refine ev_getr (pc := 21) hC (5 + 6 * s + 0) f9 dX3_deepen_21 (sp_lt hs) (sp_o hs) (sp_c hs) (by rw [sp_nf hs]; decide) (sp_fr0 hs) ?_
          refine ev_iload_n (pc := 24) hC dX3_deepen_24 rfl ?_
          refine ev_iconst (pc := 25) hC dX3_deepen_25 ?_
          refine ev_bipush (pc := 26) hC dX3_deepen_26 (by decide) ?_
          refine ev_aload_n (pc := 28) hC dX3_deepen_28 rfl ?_
          refine ev_getr (pc := 29) hC (5 + 6 * s + 0) f9 dX3_deepen_29 (sp_lt hs) (sp_o hs) (sp_c hs) (by rw [sp_nf hs]; decide) (sp_fr0 hs) ?_
          refine ev_iload_n (pc := 32) hC dX3_deepen_32 rfl ?_
          have hb33 := hA.d99 i (by omega)
          refine ev_iald (pc := 33) hC i ((A 0 i : Nat) : Int) (sp_alt0 hs) (sp_ao0 hs) (rfl) (by have := (sp_al0 hs); omega) ((hD i (by omega)).trans (by rw [if_neg (by omega)])) dX3_deepen_33 ?_
          refine ev_iload (pc := 34) hC dX3_deepen_34 rfl ?_
          refine ev_iadd (pc := 36) hC (((A 0 i) + m : Nat) : Int) (by omega) dX3_deepen_36 ?_
          refine ev_mmin (pc := 37) hC ((min 99 ((A 0 i) + m) : Nat) : Int) (by omega) (by omega) (by omega) (show Cond.methodLink RX3 81 Lib.Math.min.name ∈ _ by decide +kernel) (show Cond.static Lib.Math.min.name ∈ _ by decide +kernel) (show Cond.initialized "java/lang/Math" ∈ _ by decide +kernel) (show Cond.code Lib.Math.min.name Lib.Math.min.code 2 (some .int) ∈ _ by decide +kernel) (by decide) (by decide) (Nat.le_of_ble_eq_true rfl) dX3_deepen_37 ?_
          refine ev_mmax (pc := 40) hC ((max 0 (min 99 ((A 0 i) + m)) : Nat) : Int) (by omega) (by omega) (by omega) (show Cond.methodLink RX3 69 Lib.Math.max.name ∈ _ by decide +kernel) (show Cond.static Lib.Math.max.name ∈ _ by decide +kernel) (show Cond.initialized "java/lang/Math" ∈ _ by decide +kernel) (show Cond.code Lib.Math.max.name Lib.Math.max.code 2 (some .int) ∈ _ by decide +kernel) (by decide) (by decide) (Nat.le_of_ble_eq_true rfl) dX3_deepen_40 ?_
          refine ev_iast (pc := 43) hC i (sp_alt0 hs) (sp_ao0 hs) (rfl) (by have := (sp_al0 hs); omega) dX3_deepen_43 ?_
          refine ev_iinc (pc := 44) hC ((i + 1 : Nat) : Int) dX3_deepen_44 rfl (by omega) (by rw [hKn]; decide) rfl ?_
          show Ev K 47 [some (.ref s), some (vi ((w : Nat) : Int)), some (vi ((m : Nat) : Int)), some (vi ((i + 1 : Nat) : Int)), some (vi ((m : Nat) : Int))] [] (mset Y (5 + 6 * s + 0) i (zI ((max 0 (min 99 ((A 0 i) + m)) : Nat) : Int)))
          refine ev_goto (pc := 47) hC 2 dX3_deepen_47 (by decide) ?_
          refine ev_drop 4 ?_
          show Ev K 2 [some (.ref s), some (vi ((w : Nat) : Int)), some (vi ((m : Nat) : Int)), some (vi ((i + 1 : Nat) : Int)), none] [] (mset Y (5 + 6 * s + 0) i (zI ((max 0 (min 99 ((A 0 i) + m)) : Nat) : Int)))
          exact ih2 (i + 1) (mset Y (5 + 6 * s + 0) i (zI ((max 0 (min 99 ((A 0 i) + m)) : Nat) : Int))) (by omega) (by omega) (fun q hq => by rw [mset_row hq]; exact hF q hq) (arr_if_put hD (by unfold dpn; split <;> omega))
  exact lp2 _ 0 X (Nat.lt_succ_self _) (by omega) (fun q _ => rfl) (fun k hk => by rw [if_neg (by omega)]; exact hA.c0 k hk)
theorem mtX3_passYear : MT yX3_passYear wsX3_passYear cX3_passYear 5 (some .boolean) 1 := ⟨⟨_, rfl⟩, by decide, by decide, by decide +kernel⟩
set_option maxRecDepth 100000 in
set_option maxHeartbeats 4000000 in
theorem ru_X3_passYear {X : Mem} {s : Nat} {A : Sl} (hs : Sp s) (hA : Rp (vC X s) A) (wd : Bool) : Ru yX3_passYear wsX3_passYear 3 93 [.ref s, vi (b2i wd)] X (fun v X' => v = some (vi (b2i (orB (A 5 0) (chP 0 A)))) ∧ Rp (vC X' s) (year 0 wd A) ∧ frS s X X') := by
  refine ru_of (w2 := _) rfl (by decide) [some (.ref s), some (vi (b2i wd)), none, none, none] (fun _ => rfl) (fun _ => Nat.le_of_ble_eq_true rfl) ?_
  intro K hKn hC hR
  have wX3 : ∀ w ∈ u_ws RX3 TX3 8, w ∈ wsX3_passYear := by decide +kernel
  have f30 : Fl K RX3 30 3 6 := fl_of hC RX3 TX3 8 rfl (by decide) wX3 (show Cond.fieldLink RX3 30 "PicnicOfSomebody$Slope" "people" "I" ∈ _ by decide +kernel)
  have f27 : Fl K RX3 27 3 5 := fl_of hC RX3 TX3 8 rfl (by decide) wX3 (show Cond.fieldLink RX3 27 "PicnicOfSomebody$Slope" "nexts" "[I" ∈ _ by decide +kernel)
  have f34 : Fl K RX3 34 3 7 := fl_of hC RX3 TX3 8 rfl (by decide) wX3 (show Cond.fieldLink RX3 34 "PicnicOfSomebody$Slope" "year" "I" ∈ _ by decide +kernel)
  have f24 : Fl K RX3 24 3 4 := fl_of hC RX3 TX3 8 rfl (by decide) wX3 (show Cond.fieldLink RX3 24 "PicnicOfSomebody$Slope" "beliefs" "[I" ∈ _ by decide +kernel)
  have f21 : Fl K RX3 21 3 3 := fl_of hC RX3 TX3 8 rfl (by decide) wX3 (show Cond.fieldLink RX3 21 "PicnicOfSomebody$Slope" "cells" "[I" ∈ _ by decide +kernel)
  have hn8 := hA.n8
  have hs3 : 1 ≤ s ∧ s ≤ 3 := by rcases hs with rfl | rfl | rfl <;> omega
  have hwr := b2i_r wd
  refine ev_aload_n (pc := 0) hC dX3_passYear_0 rfl ?_
  refine ev_callV (pc := 1) (as := []) (rest := []) hC gX3_passYear_X3_hollow mtX3_hollow dX3_passYear_1 (ru_X3_hollow hs hA) (by decide) (sp_lt hs) (sp_o hs) (sp_cn hs) (by rfl) (Nat.le_of_ble_eq_true rfl) rfl (fun v1 X1 h1 => ?_)
  obtain ⟨rfl, rfl⟩ := h1
  show Ev K 4 [some (.ref s), some (vi (b2i wd)), none, none, none] [vi ((here A : Nat) : Int)] X
  have hh1 := here_lt A
  refine ev_istore_n (pc := 4) hC dX3_passYear_4 (by rw [hKn]; decide) rfl ?_
  show Ev K 5 [some (.ref s), some (vi (b2i wd)), some (vi ((here A : Nat) : Int)), none, none] [] X
  refine ev_iconst (pc := 5) hC dX3_passYear_5 ?_
  refine ev_istore_n (pc := 6) hC dX3_passYear_6 (by rw [hKn]; decide) rfl ?_
  show Ev K 7 [some (.ref s), some (vi (b2i wd)), some (vi ((here A : Nat) : Int)), some (vi 0), none] [] X
  have lp7 : ∀ (fz : Nat) (i : Nat) (Y : Mem), A 5 0 - i < fz → (i ≤ A 5 0) → (∀ q, ¬ q = 5 + 6 * s + 5 → Y q = X q) → (∀ k, k < i → Y (5 + 6 * s + 5) k = zI ((nextB 0 A k (here A) : Nat) : Int)) → Ev K 7 [some (.ref s), some (vi (b2i wd)), some (vi ((here A : Nat) : Int)), some (vi ((i : Nat) : Int)), none] [] Y := by
    intro fz
    induction fz with
    | zero => intro i Y hfz; exact absurd hfz (Nat.not_lt_zero _)
    | succ fz ih7 =>
      intro i Y hfz hi hF hN
      have hAY : Rp (vC Y s) A := Rp.keep hA (hF s (by omega)) (fun q hq => hF _ (by omega))
      refine ev_iload_n (pc := 7) hC dX3_passYear_7 rfl ?_
      refine ev_aload_n (pc := 8) hC dX3_passYear_8 rfl ?_
      refine ev_geti (pc := 9) hC ((A 5 0 : Nat) : Int) f30 dX3_passYear_9 (sp_lt hs) (sp_o hs) (sp_c hs) (by rw [sp_nf hs]; decide) (sp_fn6 hs)  (hAY.cn) ?_
      refine ev_icmp_ge (pc := 12) hC 33 dX3_passYear_12 (by decide) (by omega) (by omega) (fun c12 => ?_) (fun c12 => ?_)
      · have J48 : ∀ (m : Nat), m = (if wd = true then 0 else blvAt 0 A (here A)) → m ≤ 8 → Ev K 48 [some (.ref s), some (vi (b2i wd)), some (vi ((here A : Nat) : Int)), some (vi ((i : Nat) : Int)), none] [vi ((m : Nat) : Int), vi ((here A : Nat) : Int), .ref s] Y := by
          intro m hm hm8
          refine ev_callV (pc := 48) (as := [vi ((here A : Nat) : Int), vi ((m : Nat) : Int)]) (rest := []) hC gX3_passYear_X3_deepen mtX3_deepen dX3_passYear_48 (ru_X3_deepen hs hAY (here A) m (by omega) (by omega)) (by decide) (sp_lt hs) (sp_o hs) (sp_cn hs) (by rfl) (Nat.le_of_ble_eq_true rfl) rfl (fun v48 X48 h48 => ?_)
          obtain ⟨rfl, hf48, hd48⟩ := h48
          show Ev K 51 [some (.ref s), some (vi (b2i wd)), some (vi ((here A : Nat) : Int)), some (vi ((i : Nat) : Int)), none] [] X48
          refine ev_aload_n (pc := 51) hC dX3_passYear_51 rfl ?_
          refine ev_dup (pc := 52) hC rfl dX3_passYear_52 ?_
          refine ev_geti (pc := 53) hC ((A 5 1 : Nat) : Int) f34 dX3_passYear_53 (sp_lt hs) (sp_o hs) (sp_c hs) (by rw [sp_nf hs]; decide) (sp_fn7 hs)  ((by rw [hf48 s (by omega)]; exact hAY.cy)) ?_
          refine ev_iconst (pc := 56) hC dX3_passYear_56 ?_
          refine ev_iadd (pc := 57) hC (((A 5 1) + 1 : Nat) : Int) (by omega) dX3_passYear_57 ?_
          refine ev_puti (pc := 58) hC f34 fpX3_7 dX3_passYear_58 (sp_lt hs) (sp_o hs) (sp_c hs) (by rw [sp_nf hs]; decide) (sp_fn7 hs) (rfl) (rfl) ?_
          refine ev_iconst (pc := 61) hC dX3_passYear_61 ?_
          refine ev_istore_n (pc := 62) hC dX3_passYear_62 (by rw [hKn]; decide) rfl ?_
          show Ev K 63 [some (.ref s), some (vi (b2i wd)), some (vi ((here A : Nat) : Int)), some (vi 0), none] [] (mset X48 s 7 (zI (((A 5 1) + 1 : Nat) : Int)))
          refine ev_iconst (pc := 63) hC dX3_passYear_63 ?_
          refine ev_istore (pc := 64) hC dX3_passYear_64 (by rw [hKn]; decide) rfl ?_
          show Ev K 66 [some (.ref s), some (vi (b2i wd)), some (vi ((here A : Nat) : Int)), some (vi 0), some (vi 0)] [] (mset X48 s 7 (zI (((A 5 1) + 1 : Nat) : Int)))
          have lp66 : ∀ (fz : Nat) (i : Nat) (cb : Bool) (Z : Mem), A 5 0 - i < fz → (i ≤ A 5 0) → (cb = orB i (chP 0 A)) → (∀ q, ¬ q = 5 + 6 * s + 3 → ¬ q = 5 + 6 * s + 4 → Z q = (mset X48 s 7 (zI ((A 5 1 + 1 : Nat) : Int))) q) → (∀ k, k < A 5 0 → Z (5 + 6 * s + 4) k = zI (((if k < i then nextB 0 A k (here A) else A 4 k : Nat)) : Int)) → (∀ k, k < A 5 0 → Z (5 + 6 * s + 3) k = zI (((if k < i then ycell A k else A 3 k : Nat)) : Int)) → Ev K 66 [some (.ref s), some (vi (b2i wd)), some (vi ((here A : Nat) : Int)), some (vi (b2i cb)), some (vi ((i : Nat) : Int))] [] Z := by
            intro fz
            induction fz with
            | zero => intro i cb Z hfz; exact absurd hfz (Nat.not_lt_zero _)
            | succ fz ih66 =>
              intro i cb Z hfz hi2 hcb hG hB hCc
              have hZn : Z s 6 = zI ((A 5 0 : Nat) : Int) := by rw [hG s (by omega) (by omega), mset_ne _ _ _ _ (by omega), hf48 s (by omega)]; exact hAY.cn
              have hZN : ∀ k, k < A 5 0 → Z (5 + 6 * s + 5) k = zI ((nextB 0 A k (here A) : Nat) : Int) := fun k hk => by rw [hG _ (by omega) (by omega), mset_row (by omega), hf48 _ (by omega)]; exact hN k (by omega)
              refine ev_iload (pc := 66) hC dX3_passYear_66 rfl ?_
              refine ev_aload_n (pc := 68) hC dX3_passYear_68 rfl ?_
              refine ev_geti (pc := 69) hC ((A 5 0 : Nat) : Int) f30 dX3_passYear_69 (sp_lt hs) (sp_o hs) (sp_c hs) (by rw [sp_nf hs]; decide) (sp_fn6 hs)  (hZn) ?_
              refine ev_icmp_ge (pc := 72) hC 160 dX3_passYear_72 (by decide) (by omega) (by omega) (fun c72 => ?_) (fun c72 => ?_)
              · refine ev_iload_n (pc := 160) hC dX3_passYear_160 rfl ?_
                exact ev_zreturn (pc := 161) hC hR dX3_passYear_161 (b2i_n cb) (⟨rv (by rw [hcb, show i = A 5 0 by omega]), py_rep hs3 hA hm hd48 hf48 hF hG (show A 5 0 ≤ i by omega) hB hCc, py_fr hF hf48 hG⟩)
              · refine ev_iload_n (pc := 75) hC dX3_passYear_75 rfl ?_
                refine ev_aload_n (pc := 76) hC dX3_passYear_76 rfl ?_
                refine ev_getr (pc := 77) hC (5 + 6 * s + 5) f27 dX3_passYear_77 (sp_lt hs) (sp_o hs) (sp_c hs) (by rw [sp_nf hs]; decide) (sp_fr5 hs) ?_
                refine ev_iload (pc := 80) hC dX3_passYear_80 rfl ?_
                have hnl := nextB_le 0 A i (here A)
                refine ev_iald (pc := 82) hC i ((nextB 0 A i (here A) : Nat) : Int) (sp_alt5 hs) (sp_ao5 hs) (rfl) (by have := (sp_al5 hs); omega) (hZN i (by omega)) dX3_passYear_82 ?_
                refine ev_aload_n (pc := 83) hC dX3_passYear_83 rfl ?_
                refine ev_getr (pc := 84) hC (5 + 6 * s + 4) f24 dX3_passYear_84 (sp_lt hs) (sp_o hs) (sp_c hs) (by rw [sp_nf hs]; decide) (sp_fr4 hs) ?_
                refine ev_iload (pc := 87) hC dX3_passYear_87 rfl ?_
                have hb89 := hA.b9 i (by omega)
                refine ev_iald (pc := 89) hC i ((A 4 i : Nat) : Int) (sp_alt4 hs) (sp_ao4 hs) (rfl) (by have := (sp_al4 hs); omega) ((hB i (by omega)).trans (by rw [if_neg (by omega)])) dX3_passYear_89 ?_
                refine ev_icmp_eq (pc := 90) hC 97 dX3_passYear_90 (by decide) (by omega) (by omega) (fun c90 => ?_) (fun c90 => ?_)
                · refine ev_iconst (pc := 97) hC dX3_passYear_97 ?_
                  refine ev_ior (pc := 98) hC (b2i (cb || false)) (b2i_or cb false) dX3_passYear_98 ?_
                  refine ev_istore_n (pc := 99) hC dX3_passYear_99 (by rw [hKn]; decide) rfl ?_
                  show Ev K 100 [some (.ref s), some (vi (b2i wd)), some (vi ((here A : Nat) : Int)), some (vi (b2i (cb || false))), some (vi ((i : Nat) : Int))] [] Z
                  refine ev_aload_n (pc := 100) hC dX3_passYear_100 rfl ?_
                  refine ev_getr (pc := 101) hC (5 + 6 * s + 4) f24 dX3_passYear_101 (sp_lt hs) (sp_o hs) (sp_c hs) (by rw [sp_nf hs]; decide) (sp_fr4 hs) ?_
                  refine ev_iload (pc := 104) hC dX3_passYear_104 rfl ?_
                  refine ev_aload_n (pc := 106) hC dX3_passYear_106 rfl ?_
                  refine ev_getr (pc := 107) hC (5 + 6 * s + 5) f27 dX3_passYear_107 (sp_lt hs) (sp_o hs) (sp_c hs) (by rw [sp_nf hs]; decide) (sp_fr5 hs) ?_
                  refine ev_iload (pc := 110) hC dX3_passYear_110 rfl ?_
                  refine ev_iald (pc := 112) hC i ((nextB 0 A i (here A) : Nat) : Int) (sp_alt5 hs) (sp_ao5 hs) (rfl) (by have := (sp_al5 hs); omega) (hZN i (by omega)) dX3_passYear_112 ?_
                  refine ev_iast (pc := 113) hC i (sp_alt4 hs) (sp_ao4 hs) (rfl) (by have := (sp_al4 hs); omega) dX3_passYear_113 ?_
                  refine ev_aload_n (pc := 114) hC dX3_passYear_114 rfl ?_
                  refine ev_iload (pc := 115) hC dX3_passYear_115 rfl ?_
                  refine ev_callV (pc := 117) (as := [vi ((i : Nat) : Int)]) (rest := []) hC gX3_passYear_X3_isBeliever mtX3_isBeliever dX3_passYear_117 (ru_X3_isBeliever hs i (nextB 0 A i (here A)) (by omega) (mset_eq _ _ _ _) (nextB_le _ _ _ _)) (by decide) (sp_lt hs) (sp_o hs) (sp_cn hs) (by rfl) (Nat.le_of_ble_eq_true rfl) rfl (fun v117 X117 h117 => ?_)
                  obtain ⟨rfl, rfl⟩ := h117
                  show Ev K 120 [some (.ref s), some (vi (b2i wd)), some (vi ((here A : Nat) : Int)), some (vi (b2i (cb || false))), some (vi ((i : Nat) : Int))] [vi (b2i (decide (5 ≤ nextB 0 A i (here A))))] (mset Z (5 + 6 * s + 4) i (zI ((nextB 0 A i (here A) : Nat) : Int)))
                  have hr117 := b2i_r (decide (5 ≤ nextB 0 A i (here A)))
                  refine ev_if_eq (pc := 120) hC 154 dX3_passYear_120 (by decide) (by omega) (fun c120 => ?_) (fun c120 => ?_)
                  · have e5 : ¬ 5 ≤ nextB 0 A i (here A) := of_decide_eq_false (b2i_0 c120)
                    refine ev_iinc (pc := 154) hC ((i + 1 : Nat) : Int) dX3_passYear_154 rfl (by omega) (by rw [hKn]; decide) rfl ?_
                    show Ev K 157 [some (.ref s), some (vi (b2i wd)), some (vi ((here A : Nat) : Int)), some (vi (b2i (cb || false))), some (vi ((i + 1 : Nat) : Int))] [] (mset Z (5 + 6 * s + 4) i (zI ((nextB 0 A i (here A) : Nat) : Int)))
                    refine ev_goto (pc := 157) hC 66 dX3_passYear_157 (by decide) ?_
                    exact ih66 (i + 1) (cb || false) (mset Z (5 + 6 * s + 4) i (zI ((nextB 0 A i (here A) : Nat) : Int))) (by omega) (by omega) (by first | exact orB_1 hcb (ch_1 (by omega) (by omega)) | exact orB_1 hcb (ch_2 (by omega)) | exact orB_3 (ch_3 (by omega) (by omega))) (fun q h1 h2 => by first | (rw [mset_row h1, mset_row h2]; exact hG q h1 h2) | (rw [mset_row h2]; exact hG q h1 h2)) (arr_if_put hB rfl) (arr_row (arr_if_keep hCc (ycell_s (by omega))) (by omega))
                  · have e5 : 5 ≤ nextB 0 A i (here A) := of_decide_eq_true (b2i_1 c120)
                    refine ev_aload_n (pc := 123) hC dX3_passYear_123 rfl ?_
                    refine ev_getr (pc := 124) hC (5 + 6 * s + 3) f21 dX3_passYear_124 (sp_lt hs) (sp_o hs) (sp_c hs) (by rw [sp_nf hs]; decide) (sp_fr3 hs) ?_
                    refine ev_iload (pc := 127) hC dX3_passYear_127 rfl ?_
                    have hb129 := hA.c25 i (by omega)
                    refine ev_iald (pc := 129) hC i ((A 3 i : Nat) : Int) (sp_alt3 hs) (sp_ao3 hs) (rfl) (by have := (sp_al3 hs); omega) ((by rw [mset_row (by omega)]; exact (hCc i (by omega)).trans (by rw [if_neg (by omega)]))) dX3_passYear_129 ?_
                    refine ev_iload_n (pc := 130) hC dX3_passYear_130 rfl ?_
                    refine ev_icmp_eq (pc := 131) hC 154 dX3_passYear_131 (by decide) (by omega) (by omega) (fun c131 => ?_) (fun c131 => ?_)
                    · refine ev_iinc (pc := 154) hC ((i + 1 : Nat) : Int) dX3_passYear_154 rfl (by omega) (by rw [hKn]; decide) rfl ?_
                      show Ev K 157 [some (.ref s), some (vi (b2i wd)), some (vi ((here A : Nat) : Int)), some (vi (b2i (cb || false))), some (vi ((i + 1 : Nat) : Int))] [] (mset Z (5 + 6 * s + 4) i (zI ((nextB 0 A i (here A) : Nat) : Int)))
                      refine ev_goto (pc := 157) hC 66 dX3_passYear_157 (by decide) ?_
                      exact ih66 (i + 1) (cb || false) (mset Z (5 + 6 * s + 4) i (zI ((nextB 0 A i (here A) : Nat) : Int))) (by omega) (by omega) (by first | exact orB_1 hcb (ch_1 (by omega) (by omega)) | exact orB_1 hcb (ch_2 (by omega)) | exact orB_3 (ch_3 (by omega) (by omega))) (fun q h1 h2 => by first | (rw [mset_row h1, mset_row h2]; exact hG q h1 h2) | (rw [mset_row h2]; exact hG q h1 h2)) (arr_if_put hB rfl) (arr_row (arr_if_keep hCc (ycell_s (by omega))) (by omega))
                    · refine ev_aload_n (pc := 134) hC dX3_passYear_134 rfl ?_
                      refine ev_getr (pc := 135) hC (5 + 6 * s + 3) f21 dX3_passYear_135 (sp_lt hs) (sp_o hs) (sp_c hs) (by rw [sp_nf hs]; decide) (sp_fr3 hs) ?_
                      refine ev_iload (pc := 138) hC dX3_passYear_138 rfl ?_
                      refine ev_aload_n (pc := 140) hC dX3_passYear_140 rfl ?_
                      refine ev_getr (pc := 141) hC (5 + 6 * s + 3) f21 dX3_passYear_141 (sp_lt hs) (sp_o hs) (sp_c hs) (by rw [sp_nf hs]; decide) (sp_fr3 hs) ?_
                      refine ev_iload (pc := 144) hC dX3_passYear_144 rfl ?_
                      refine ev_iald (pc := 146) hC i ((A 3 i : Nat) : Int) (sp_alt3 hs) (sp_ao3 hs) (rfl) (by have := (sp_al3 hs); omega) ((by rw [mset_row (by omega)]; exact (hCc i (by omega)).trans (by rw [if_neg (by omega)]))) dX3_passYear_146 ?_
                      refine ev_iload_n (pc := 147) hC dX3_passYear_147 rfl ?_
                      refine ev_callS (pc := 148) (as := [vi ((A 3 i : Nat) : Int), vi ((here A : Nat) : Int)]) (rest := [vi ((i : Nat) : Int), .ref (5 + 6 * s + 3)]) hC gX3_passYear_X3_nearer mtX3_nearer dX3_passYear_148 (ru_X3_nearer (A 3 i) (here A) (by omega) (by omega)) (by decide) (by rfl) (Nat.le_of_ble_eq_true rfl) rfl (fun v148 X148 h148 => ?_)
                      obtain ⟨rfl, rfl⟩ := h148
                      show Ev K 151 [some (.ref s), some (vi (b2i wd)), some (vi ((here A : Nat) : Int)), some (vi (b2i (cb || false))), some (vi ((i : Nat) : Int))] [vi ((toward (A 3 i) (here A) : Nat) : Int), vi ((i : Nat) : Int), .ref (5 + 6 * s + 3)] (mset Z (5 + 6 * s + 4) i (zI ((nextB 0 A i (here A) : Nat) : Int)))
                      have hl148 := toward_lt (a := A 3 i) (b := here A) (by omega) (by omega)
                      refine ev_iast (pc := 151) hC i (sp_alt3 hs) (sp_ao3 hs) (rfl) (by have := (sp_al3 hs); omega) dX3_passYear_151 ?_
                      refine ev_iconst (pc := 152) hC dX3_passYear_152 ?_
                      refine ev_istore_n (pc := 153) hC dX3_passYear_153 (by rw [hKn]; decide) rfl ?_
                      show Ev K 154 [some (.ref s), some (vi (b2i wd)), some (vi ((here A : Nat) : Int)), some (vi 1), some (vi ((i : Nat) : Int))] [] (mset (mset Z (5 + 6 * s + 4) i (zI ((nextB 0 A i (here A) : Nat) : Int))) (5 + 6 * s + 3) i (zI ((toward (A 3 i) (here A) : Nat) : Int)))
                      refine ev_iinc (pc := 154) hC ((i + 1 : Nat) : Int) dX3_passYear_154 rfl (by omega) (by rw [hKn]; decide) rfl ?_
                      show Ev K 157 [some (.ref s), some (vi (b2i wd)), some (vi ((here A : Nat) : Int)), some (vi 1), some (vi ((i + 1 : Nat) : Int))] [] (mset (mset Z (5 + 6 * s + 4) i (zI ((nextB 0 A i (here A) : Nat) : Int))) (5 + 6 * s + 3) i (zI ((toward (A 3 i) (here A) : Nat) : Int)))
                      refine ev_goto (pc := 157) hC 66 dX3_passYear_157 (by decide) ?_
                      exact ih66 (i + 1) true (mset (mset Z (5 + 6 * s + 4) i (zI ((nextB 0 A i (here A) : Nat) : Int))) (5 + 6 * s + 3) i (zI ((toward (A 3 i) (here A) : Nat) : Int))) (by omega) (by omega) (by first | exact orB_1 hcb (ch_1 (by omega) (by omega)) | exact orB_1 hcb (ch_2 (by omega)) | exact orB_3 (ch_3 (by omega) (by omega))) (fun q h1 h2 => by first | (rw [mset_row h1, mset_row h2]; exact hG q h1 h2) | (rw [mset_row h2]; exact hG q h1 h2)) (arr_row (arr_if_put hB rfl) (by omega)) (arr_if_put (arr_row hCc (by omega)) (by rw [ycell_m e5]))
                · refine ev_iconst (pc := 93) hC dX3_passYear_93 ?_
                  refine ev_goto (pc := 94) hC 98 dX3_passYear_94 (by decide) ?_
                  refine ev_ior (pc := 98) hC (b2i (cb || true)) (b2i_or cb true) dX3_passYear_98 ?_
                  refine ev_istore_n (pc := 99) hC dX3_passYear_99 (by rw [hKn]; decide) rfl ?_
                  show Ev K 100 [some (.ref s), some (vi (b2i wd)), some (vi ((here A : Nat) : Int)), some (vi (b2i (cb || true))), some (vi ((i : Nat) : Int))] [] Z
                  refine ev_aload_n (pc := 100) hC dX3_passYear_100 rfl ?_
                  refine ev_getr (pc := 101) hC (5 + 6 * s + 4) f24 dX3_passYear_101 (sp_lt hs) (sp_o hs) (sp_c hs) (by rw [sp_nf hs]; decide) (sp_fr4 hs) ?_
                  refine ev_iload (pc := 104) hC dX3_passYear_104 rfl ?_
                  refine ev_aload_n (pc := 106) hC dX3_passYear_106 rfl ?_
                  refine ev_getr (pc := 107) hC (5 + 6 * s + 5) f27 dX3_passYear_107 (sp_lt hs) (sp_o hs) (sp_c hs) (by rw [sp_nf hs]; decide) (sp_fr5 hs) ?_
                  refine ev_iload (pc := 110) hC dX3_passYear_110 rfl ?_
                  refine ev_iald (pc := 112) hC i ((nextB 0 A i (here A) : Nat) : Int) (sp_alt5 hs) (sp_ao5 hs) (rfl) (by have := (sp_al5 hs); omega) (hZN i (by omega)) dX3_passYear_112 ?_
                  refine ev_iast (pc := 113) hC i (sp_alt4 hs) (sp_ao4 hs) (rfl) (by have := (sp_al4 hs); omega) dX3_passYear_113 ?_
                  refine ev_aload_n (pc := 114) hC dX3_passYear_114 rfl ?_
                  refine ev_iload (pc := 115) hC dX3_passYear_115 rfl ?_
                  refine ev_callV (pc := 117) (as := [vi ((i : Nat) : Int)]) (rest := []) hC gX3_passYear_X3_isBeliever mtX3_isBeliever dX3_passYear_117 (ru_X3_isBeliever hs i (nextB 0 A i (here A)) (by omega) (mset_eq _ _ _ _) (nextB_le _ _ _ _)) (by decide) (sp_lt hs) (sp_o hs) (sp_cn hs) (by rfl) (Nat.le_of_ble_eq_true rfl) rfl (fun v117 X117 h117 => ?_)
                  obtain ⟨rfl, rfl⟩ := h117
                  show Ev K 120 [some (.ref s), some (vi (b2i wd)), some (vi ((here A : Nat) : Int)), some (vi (b2i (cb || true))), some (vi ((i : Nat) : Int))] [vi (b2i (decide (5 ≤ nextB 0 A i (here A))))] (mset Z (5 + 6 * s + 4) i (zI ((nextB 0 A i (here A) : Nat) : Int)))
                  have hr117 := b2i_r (decide (5 ≤ nextB 0 A i (here A)))
                  refine ev_if_eq (pc := 120) hC 154 dX3_passYear_120 (by decide) (by omega) (fun c120 => ?_) (fun c120 => ?_)
                  · have e5 : ¬ 5 ≤ nextB 0 A i (here A) := of_decide_eq_false (b2i_0 c120)
                    refine ev_iinc (pc := 154) hC ((i + 1 : Nat) : Int) dX3_passYear_154 rfl (by omega) (by rw [hKn]; decide) rfl ?_
                    show Ev K 157 [some (.ref s), some (vi (b2i wd)), some (vi ((here A : Nat) : Int)), some (vi (b2i (cb || true))), some (vi ((i + 1 : Nat) : Int))] [] (mset Z (5 + 6 * s + 4) i (zI ((nextB 0 A i (here A) : Nat) : Int)))
                    refine ev_goto (pc := 157) hC 66 dX3_passYear_157 (by decide) ?_
                    exact ih66 (i + 1) (cb || true) (mset Z (5 + 6 * s + 4) i (zI ((nextB 0 A i (here A) : Nat) : Int))) (by omega) (by omega) (by first | exact orB_1 hcb (ch_1 (by omega) (by omega)) | exact orB_1 hcb (ch_2 (by omega)) | exact orB_3 (ch_3 (by omega) (by omega))) (fun q h1 h2 => by first | (rw [mset_row h1, mset_row h2]; exact hG q h1 h2) | (rw [mset_row h2]; exact hG q h1 h2)) (arr_if_put hB rfl) (arr_row (arr_if_keep hCc (ycell_s (by omega))) (by omega))
                  · have e5 : 5 ≤ nextB 0 A i (here A) := of_decide_eq_true (b2i_1 c120)
                    refine ev_aload_n (pc := 123) hC dX3_passYear_123 rfl ?_
                    refine ev_getr (pc := 124) hC (5 + 6 * s + 3) f21 dX3_passYear_124 (sp_lt hs) (sp_o hs) (sp_c hs) (by rw [sp_nf hs]; decide) (sp_fr3 hs) ?_
                    refine ev_iload (pc := 127) hC dX3_passYear_127 rfl ?_
                    have hb129 := hA.c25 i (by omega)
                    refine ev_iald (pc := 129) hC i ((A 3 i : Nat) : Int) (sp_alt3 hs) (sp_ao3 hs) (rfl) (by have := (sp_al3 hs); omega) ((by rw [mset_row (by omega)]; exact (hCc i (by omega)).trans (by rw [if_neg (by omega)]))) dX3_passYear_129 ?_
                    refine ev_iload_n (pc := 130) hC dX3_passYear_130 rfl ?_
                    refine ev_icmp_eq (pc := 131) hC 154 dX3_passYear_131 (by decide) (by omega) (by omega) (fun c131 => ?_) (fun c131 => ?_)
                    · refine ev_iinc (pc := 154) hC ((i + 1 : Nat) : Int) dX3_passYear_154 rfl (by omega) (by rw [hKn]; decide) rfl ?_
                      show Ev K 157 [some (.ref s), some (vi (b2i wd)), some (vi ((here A : Nat) : Int)), some (vi (b2i (cb || true))), some (vi ((i + 1 : Nat) : Int))] [] (mset Z (5 + 6 * s + 4) i (zI ((nextB 0 A i (here A) : Nat) : Int)))
                      refine ev_goto (pc := 157) hC 66 dX3_passYear_157 (by decide) ?_
                      exact ih66 (i + 1) (cb || true) (mset Z (5 + 6 * s + 4) i (zI ((nextB 0 A i (here A) : Nat) : Int))) (by omega) (by omega) (by first | exact orB_1 hcb (ch_1 (by omega) (by omega)) | exact orB_1 hcb (ch_2 (by omega)) | exact orB_3 (ch_3 (by omega) (by omega))) (fun q h1 h2 => by first | (rw [mset_row h1, mset_row h2]; exact hG q h1 h2) | (rw [mset_row h2]; exact hG q h1 h2)) (arr_if_put hB rfl) (arr_row (arr_if_keep hCc (ycell_s (by omega))) (by omega))
                    · refine ev_aload_n (pc := 134) hC dX3_passYear_134 rfl ?_
                      refine ev_getr (pc := 135) hC (5 + 6 * s + 3) f21 dX3_passYear_135 (sp_lt hs) (sp_o hs) (sp_c hs) (by rw [sp_nf hs]; decide) (sp_fr3 hs) ?_
                      refine ev_iload (pc := 138) hC dX3_passYear_138 rfl ?_
                      refine ev_aload_n (pc := 140) hC dX3_passYear_140 rfl ?_
                      refine ev_getr (pc := 141) hC (5 + 6 * s + 3) f21 dX3_passYear_141 (sp_lt hs) (sp_o hs) (sp_c hs) (by rw [sp_nf hs]; decide) (sp_fr3 hs) ?_
                      refine ev_iload (pc := 144) hC dX3_passYear_144 rfl ?_
                      refine ev_iald (pc := 146) hC i ((A 3 i : Nat) : Int) (sp_alt3 hs) (sp_ao3 hs) (rfl) (by have := (sp_al3 hs); omega) ((by rw [mset_row (by omega)]; exact (hCc i (by omega)).trans (by rw [if_neg (by omega)]))) dX3_passYear_146 ?_
                      refine ev_iload_n (pc := 147) hC dX3_passYear_147 rfl ?_
                      refine ev_callS (pc := 148) (as := [vi ((A 3 i : Nat) : Int), vi ((here A : Nat) : Int)]) (rest := [vi ((i : Nat) : Int), .ref (5 + 6 * s + 3)]) hC gX3_passYear_X3_nearer mtX3_nearer dX3_passYear_148 (ru_X3_nearer (A 3 i) (here A) (by omega) (by omega)) (by decide) (by rfl) (Nat.le_of_ble_eq_true rfl) rfl (fun v148 X148 h148 => ?_)
                      obtain ⟨rfl, rfl⟩ := h148
                      show Ev K 151 [some (.ref s), some (vi (b2i wd)), some (vi ((here A : Nat) : Int)), some (vi (b2i (cb || true))), some (vi ((i : Nat) : Int))] [vi ((toward (A 3 i) (here A) : Nat) : Int), vi ((i : Nat) : Int), .ref (5 + 6 * s + 3)] (mset Z (5 + 6 * s + 4) i (zI ((nextB 0 A i (here A) : Nat) : Int)))
                      have hl148 := toward_lt (a := A 3 i) (b := here A) (by omega) (by omega)
                      refine ev_iast (pc := 151) hC i (sp_alt3 hs) (sp_ao3 hs) (rfl) (by have := (sp_al3 hs); omega) dX3_passYear_151 ?_
                      refine ev_iconst (pc := 152) hC dX3_passYear_152 ?_
                      refine ev_istore_n (pc := 153) hC dX3_passYear_153 (by rw [hKn]; decide) rfl ?_
                      show Ev K 154 [some (.ref s), some (vi (b2i wd)), some (vi ((here A : Nat) : Int)), some (vi 1), some (vi ((i : Nat) : Int))] [] (mset (mset Z (5 + 6 * s + 4) i (zI ((nextB 0 A i (here A) : Nat) : Int))) (5 + 6 * s + 3) i (zI ((toward (A 3 i) (here A) : Nat) : Int)))
                      refine ev_iinc (pc := 154) hC ((i + 1 : Nat) : Int) dX3_passYear_154 rfl (by omega) (by rw [hKn]; decide) rfl ?_
                      show Ev K 157 [some (.ref s), some (vi (b2i wd)), some (vi ((here A : Nat) : Int)), some (vi 1), some (vi ((i + 1 : Nat) : Int))] [] (mset (mset Z (5 + 6 * s + 4) i (zI ((nextB 0 A i (here A) : Nat) : Int))) (5 + 6 * s + 3) i (zI ((toward (A 3 i) (here A) : Nat) : Int)))
                      refine ev_goto (pc := 157) hC 66 dX3_passYear_157 (by decide) ?_
                      exact ih66 (i + 1) true (mset (mset Z (5 + 6 * s + 4) i (zI ((nextB 0 A i (here A) : Nat) : Int))) (5 + 6 * s + 3) i (zI ((toward (A 3 i) (here A) : Nat) : Int))) (by omega) (by omega) (by first | exact orB_1 hcb (ch_1 (by omega) (by omega)) | exact orB_1 hcb (ch_2 (by omega)) | exact orB_3 (ch_3 (by omega) (by omega))) (fun q h1 h2 => by first | (rw [mset_row h1, mset_row h2]; exact hG q h1 h2) | (rw [mset_row h2]; exact hG q h1 h2)) (arr_row (arr_if_put hB rfl) (by omega)) (arr_if_put (arr_row hCc (by omega)) (by rw [ycell_m e5]))
          exact lp66 _ 0 false (mset X48 s 7 (zI ((A 5 1 + 1 : Nat) : Int))) (Nat.lt_succ_self _) (by omega) rfl (fun q _ _ => rfl) (fun k hk => by rw [if_neg (by omega), mset_row (by omega), hf48 _ (by omega)]; exact hAY.c4 k hk) (fun k hk => by rw [if_neg (by omega), mset_row (by omega), hf48 _ (by omega)]; exact hAY.c3 k hk)
        refine ev_aload_n (pc := 33) hC dX3_passYear_33 rfl ?_
        refine ev_iload_n (pc := 34) hC dX3_passYear_34 rfl ?_
        refine ev_iload_n (pc := 35) hC dX3_passYear_35 rfl ?_
        refine ev_if_eq (pc := 36) hC 43 dX3_passYear_36 (by decide) (by omega) (fun c36 => ?_) (fun c36 => ?_)
        · refine ev_aload_n (pc := 43) hC dX3_passYear_43 rfl ?_
          refine ev_iload_n (pc := 44) hC dX3_passYear_44 rfl ?_
          refine ev_callV (pc := 45) (as := [vi ((here A : Nat) : Int)]) (rest := [vi ((here A : Nat) : Int), .ref s]) hC gX3_passYear_X3_believersAround mtX3_believersAround dX3_passYear_45 (ru_X3_believersAround hs hAY (here A) (by omega)) (by decide) (sp_lt hs) (sp_o hs) (sp_cn hs) (by rfl) (Nat.le_of_ble_eq_true rfl) rfl (fun v45 X45 h45 => ?_)
          obtain ⟨rfl, rfl⟩ := h45
          show Ev K 48 [some (.ref s), some (vi (b2i wd)), some (vi ((here A : Nat) : Int)), some (vi ((i : Nat) : Int)), none] [vi ((blvAt 0 A (here A) : Nat) : Int), vi ((here A : Nat) : Int), .ref s] Y
          have hl45 : blvAt 0 A (here A) ≤ A 5 0 := cntB_le _ _
          exact J48 (blvAt 0 A (here A)) (by rw [if_neg (by rw [b2i_0 c36]; decide)]) (by omega)
        · refine ev_iconst (pc := 39) hC dX3_passYear_39 ?_
          refine ev_goto (pc := 40) hC 48 dX3_passYear_40 (by decide) ?_
          exact J48 0 (by rw [if_pos (b2i_1 c36)]) (by omega)
      · refine ev_aload_n (pc := 15) hC dX3_passYear_15 rfl ?_
        refine ev_getr (pc := 16) hC (5 + 6 * s + 5) f27 dX3_passYear_16 (sp_lt hs) (sp_o hs) (sp_c hs) (by rw [sp_nf hs]; decide) (sp_fr5 hs) ?_
        refine ev_iload_n (pc := 19) hC dX3_passYear_19 rfl ?_
        refine ev_aload_n (pc := 20) hC dX3_passYear_20 rfl ?_
        refine ev_iload_n (pc := 21) hC dX3_passYear_21 rfl ?_
        refine ev_iload_n (pc := 22) hC dX3_passYear_22 rfl ?_
        refine ev_callV (pc := 23) (as := [vi ((i : Nat) : Int), vi ((here A : Nat) : Int)]) (rest := [vi ((i : Nat) : Int), .ref (5 + 6 * s + 5)]) hC gX3_passYear_X3_nextBelief mtX3_nextBelief dX3_passYear_23 (ru_X3_nextBelief hs hAY i (here A) (by omega) (by omega)) (by decide) (sp_lt hs) (sp_o hs) (sp_cn hs) (by rfl) (Nat.le_of_ble_eq_true rfl) rfl (fun v23 X23 h23 => ?_)
        obtain ⟨rfl, rfl⟩ := h23
        show Ev K 26 [some (.ref s), some (vi (b2i wd)), some (vi ((here A : Nat) : Int)), some (vi ((i : Nat) : Int)), none] [vi ((nextB 0 A i (here A) : Nat) : Int), vi ((i : Nat) : Int), .ref (5 + 6 * s + 5)] Y
        have hl23 := nextB_le 0 A i (here A)
        refine ev_iast (pc := 26) hC i (sp_alt5 hs) (sp_ao5 hs) (rfl) (by have := (sp_al5 hs); omega) dX3_passYear_26 ?_
        refine ev_iinc (pc := 27) hC ((i + 1 : Nat) : Int) dX3_passYear_27 rfl (by omega) (by rw [hKn]; decide) rfl ?_
        show Ev K 30 [some (.ref s), some (vi (b2i wd)), some (vi ((here A : Nat) : Int)), some (vi ((i + 1 : Nat) : Int)), none] [] (mset Y (5 + 6 * s + 5) i (zI ((nextB 0 A i (here A) : Nat) : Int)))
        refine ev_goto (pc := 30) hC 7 dX3_passYear_30 (by decide) ?_
        exact ih7 (i + 1) (mset Y (5 + 6 * s + 5) i (zI ((nextB 0 A i (here A) : Nat) : Int))) (by omega) (by omega) (fun q hq => by rw [mset_row hq]; exact hF q hq) (arr_grow hN rfl)
  exact lp7 _ 0 X (Nat.lt_succ_self _) (by omega) (fun q _ => rfl) (fun k hk => absurd hk (Nat.not_lt_zero k))
theorem mtX3_passYears : MT yX3_passYears wsX3_passYears cX3_passYears 3 (some .int) 1 := ⟨⟨_, rfl⟩, by decide, by decide, by decide +kernel⟩
set_option maxRecDepth 100000 in
set_option maxHeartbeats 4000000 in
theorem ru_X3_passYears {X : Mem} {s : Nat} {A : Sl} (hs : Sp s) (hA : Rp (vC X s) A) (n : Nat) (hn : n ≤ 1000) : Ru yX3_passYears wsX3_passYears 4 117 [.ref s, vi ((n : Nat) : Int)] X (fun v X' => v = some (vi (bcnt 0 (goN 0 n A))) ∧ Rp (vC X' s) (goN 0 n A) ∧ frS s X X') := by
  refine ru_of (w2 := _) rfl (by decide) [some (.ref s), some (vi ((n : Nat) : Int)), none] (fun _ => rfl) (fun _ => Nat.le_of_ble_eq_true rfl) ?_
  intro K hKn hC hR
  refine ev_iconst (pc := 0) hC dX3_passYears_0 ?_
  refine ev_istore_n (pc := 1) hC dX3_passYears_1 (by rw [hKn]; decide) rfl ?_
  show Ev K 2 [some (.ref s), some (vi ((n : Nat) : Int)), some (vi 0)] [] X
  have lp2 : ∀ (fz : Nat) (i : Nat) (Y : Mem), n - i < fz → (i ≤ n) → (Rp (vC Y s) (goN 0 i A)) → (frS s X Y) → Ev K 2 [some (.ref s), some (vi ((n : Nat) : Int)), some (vi ((i : Nat) : Int))] [] Y := by
    intro fz
    induction fz with
    | zero => intro i Y hfz; exact absurd hfz (Nat.not_lt_zero _)
    | succ fz ih2 =>
      intro i Y hfz hi hAY hF
      refine ev_iload_n (pc := 2) hC dX3_passYears_2 rfl ?_
      refine ev_iload_n (pc := 3) hC dX3_passYears_3 rfl ?_
      refine ev_icmp_ge (pc := 4) hC 19 dX3_passYears_4 (by decide) (by omega) (by omega) (fun c4 => ?_) (fun c4 => ?_)
      · have hie : i = n := by omega
        have hn8 := hAY.n8
        refine ev_aload_n (pc := 19) hC dX3_passYears_19 rfl ?_
        refine ev_callV (pc := 20) (as := []) (rest := []) hC gX3_passYears_X3_believers mtX3_believers dX3_passYears_20 (ru_X3_believers hs hAY) (by decide) (sp_lt hs) (sp_o hs) (sp_cn hs) (by rfl) (Nat.le_of_ble_eq_true rfl) rfl (fun v20 X20 h20 => ?_)
        obtain ⟨rfl, rfl⟩ := h20
        show Ev K 23 [some (.ref s), some (vi ((n : Nat) : Int)), some (vi ((i : Nat) : Int))] [vi ((bcnt 0 (goN 0 i A) : Nat) : Int)] Y
        have hl20 := bcnt_le 0 (goN 0 i A)
        exact ev_ireturn (pc := 23) hC hR dX3_passYears_23 (⟨rv (by rw [hie]), hie ▸ hAY, hF⟩)
      · refine ev_aload_n (pc := 7) hC dX3_passYears_7 rfl ?_
        refine ev_iconst (pc := 8) hC dX3_passYears_8 ?_
        refine ev_callV (pc := 9) (as := [vi 0]) (rest := []) hC gX3_passYears_X3_passYear mtX3_passYear dX3_passYears_9 (ru_X3_passYear hs hAY false) (by decide) (sp_lt hs) (sp_o hs) (sp_cn hs) (by rfl) (Nat.le_of_ble_eq_true rfl) rfl (fun v9 X9 h9 => ?_)
        obtain ⟨rfl, hA9, hF9⟩ := h9
        show Ev K 12 [some (.ref s), some (vi ((n : Nat) : Int)), some (vi ((i : Nat) : Int))] [vi (b2i (orB ((goN 0 i A) 5 0) (chP 0 (goN 0 i A))))] X9
        have hr9 := b2i_r (orB ((goN 0 i A) 5 0) (chP 0 (goN 0 i A)))
        refine ev_pop (pc := 12) hC rfl dX3_passYears_12 ?_
        refine ev_iinc (pc := 13) hC ((i + 1 : Nat) : Int) dX3_passYears_13 rfl (by omega) (by rw [hKn]; decide) rfl ?_
        show Ev K 16 [some (.ref s), some (vi ((n : Nat) : Int)), some (vi ((i + 1 : Nat) : Int))] [] X9
        refine ev_goto (pc := 16) hC 2 dX3_passYears_16 (by decide) ?_
        exact ih2 (i + 1) X9 (by omega) (by omega) hA9 (frS_tr hF hF9)
  exact lp2 _ 0 X (Nat.lt_succ_self _) (by omega) hA (frS_rf s X)
