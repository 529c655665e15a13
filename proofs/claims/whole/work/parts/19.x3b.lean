theorem mtX3_join : MT yX3_join wsX3_join cX3_join 5 none 4 := ⟨⟨_, rfl⟩, by decide, by decide, by decide +kernel⟩
set_option maxRecDepth 100000 in
set_option maxHeartbeats 4000000 in
theorem ru_X3_join {X : Mem} {s : Nat} {A : Sl} (hs : Sp s) (hA : Rp (vC X s) A) (kd fg ce bl : Nat) (h1 : kd ≤ 5) (h2 : fg ≤ 9) (h3 : ce < 25) (h4 : bl ≤ 9) (hlt : A 5 0 < 8) : Ru yX3_join wsX3_join 1 20 [.ref s, vi ((kd : Nat) : Int), vi ((fg : Nat) : Int), vi ((ce : Nat) : Int), vi ((bl : Nat) : Int)] X (fun v X' => v = none ∧ Rp (vC X' s) (addP A kd fg ce bl) ∧ frS s X X') := by
  refine ru_of (w2 := _) rfl (by decide) [some (.ref s), some (vi ((kd : Nat) : Int)), some (vi ((fg : Nat) : Int)), some (vi ((ce : Nat) : Int)), some (vi ((bl : Nat) : Int))] (fun _ => rfl) (fun _ => Nat.le_of_ble_eq_true rfl) ?_
  intro K hKn hC hR
  have wX3 : ∀ w ∈ u_ws RX3 TX3 8, w ∈ wsX3_join := by decide +kernel
  have f15 : Fl K RX3 15 3 1 := fl_of hC RX3 TX3 8 rfl (by decide) wX3 (show Cond.fieldLink RX3 15 "PicnicOfSomebody$Slope" "kinds" "[I" ∈ _ by decide +kernel)
  have f30 : Fl K RX3 30 3 6 := fl_of hC RX3 TX3 8 rfl (by decide) wX3 (show Cond.fieldLink RX3 30 "PicnicOfSomebody$Slope" "people" "I" ∈ _ by decide +kernel)
  have f18 : Fl K RX3 18 3 2 := fl_of hC RX3 TX3 8 rfl (by decide) wX3 (show Cond.fieldLink RX3 18 "PicnicOfSomebody$Slope" "figures" "[I" ∈ _ by decide +kernel)
  have f21 : Fl K RX3 21 3 3 := fl_of hC RX3 TX3 8 rfl (by decide) wX3 (show Cond.fieldLink RX3 21 "PicnicOfSomebody$Slope" "cells" "[I" ∈ _ by decide +kernel)
  have f24 : Fl K RX3 24 3 4 := fl_of hC RX3 TX3 8 rfl (by decide) wX3 (show Cond.fieldLink RX3 24 "PicnicOfSomebody$Slope" "beliefs" "[I" ∈ _ by decide +kernel)
  have hn8 := hA.n8
  have hs3 : 1 ≤ s ∧ s ≤ 3 := by rcases hs with rfl | rfl | rfl <;> omega
  refine ev_aload_n (pc := 0) hC dX3_join_0 rfl ?_
  refine ev_callV (pc := 1) (as := []) (rest := []) hC gX3_join_X3_isFull mtX3_isFull dX3_join_1 (ru_X3_isFull hs hA) (by decide) (sp_lt hs) (sp_o hs) (sp_cn hs) (by rfl) (Nat.le_of_ble_eq_true rfl) rfl (fun v1 X1 h1 => ?_)
  obtain ⟨rfl, rfl⟩ := h1
  show Ev K 4 [some (.ref s), some (vi ((kd : Nat) : Int)), some (vi ((fg : Nat) : Int)), some (vi ((ce : Nat) : Int)), some (vi ((bl : Nat) : Int))] [vi (b2i (decide (8 ≤ A 5 0)))] X
  have hr1 := b2i_r (decide (8 ≤ A 5 0))
  refine ev_if_ne (pc := 4) hC 58 dX3_join_4 (by decide) (by omega) (fun c4 => ?_) (fun c4 => ?_)
  · exact absurd (of_decide_eq_true (b2i_1 c4)) (by omega)
  · refine ev_aload_n (pc := 7) hC dX3_join_7 rfl ?_
    refine ev_getr (pc := 8) hC (5 + 6 * s + 1) f15 dX3_join_8 (sp_lt hs) (sp_o hs) (sp_c hs) (by rw [sp_nf hs]; decide) (sp_fr1 hs) ?_
    refine ev_aload_n (pc := 11) hC dX3_join_11 rfl ?_
    refine ev_geti (pc := 12) hC ((A 5 0 : Nat) : Int) f30 dX3_join_12 (sp_lt hs) (sp_o hs) (sp_c hs) (by rw [sp_nf hs]; decide) (sp_fn6 hs)  (hA.cn) ?_
    refine ev_iload_n (pc := 15) hC dX3_join_15 rfl ?_
    refine ev_iast (pc := 16) hC (A 5 0) (sp_alt1 hs) (sp_ao1 hs) (rfl) (by have := (sp_al1 hs); omega) dX3_join_16 ?_
    refine ev_aload_n (pc := 17) hC dX3_join_17 rfl ?_
    refine ev_getr (pc := 18) hC (5 + 6 * s + 2) f18 dX3_join_18 (sp_lt hs) (sp_o hs) (sp_c hs) (by rw [sp_nf hs]; decide) (sp_fr2 hs) ?_
    refine ev_aload_n (pc := 21) hC dX3_join_21 rfl ?_
    refine ev_geti (pc := 22) hC ((A 5 0 : Nat) : Int) f30 dX3_join_22 (sp_lt hs) (sp_o hs) (sp_c hs) (by rw [sp_nf hs]; decide) (sp_fn6 hs)  ((by rw [mset_row (by omega)]; exact hA.cn)) ?_
    refine ev_iload_n (pc := 25) hC dX3_join_25 rfl ?_
    refine ev_iast (pc := 26) hC (A 5 0) (sp_alt2 hs) (sp_ao2 hs) (rfl) (by have := (sp_al2 hs); omega) dX3_join_26 ?_
    refine ev_aload_n (pc := 27) hC dX3_join_27 rfl ?_
    refine ev_getr (pc := 28) hC (5 + 6 * s + 3) f21 dX3_join_28 (sp_lt hs) (sp_o hs) (sp_c hs) (by rw [sp_nf hs]; decide) (sp_fr3 hs) ?_
    refine ev_aload_n (pc := 31) hC dX3_join_31 rfl ?_
    refine ev_geti (pc := 32) hC ((A 5 0 : Nat) : Int) f30 dX3_join_32 (sp_lt hs) (sp_o hs) (sp_c hs) (by rw [sp_nf hs]; decide) (sp_fn6 hs)  ((by rw [mset_row (by omega), mset_row (by omega)]; exact hA.cn)) ?_
    refine ev_iload_n (pc := 35) hC dX3_join_35 rfl ?_
    refine ev_iast (pc := 36) hC (A 5 0) (sp_alt3 hs) (sp_ao3 hs) (rfl) (by have := (sp_al3 hs); omega) dX3_join_36 ?_
    refine ev_aload_n (pc := 37) hC dX3_join_37 rfl ?_
    refine ev_getr (pc := 38) hC (5 + 6 * s + 4) f24 dX3_join_38 (sp_lt hs) (sp_o hs) (sp_c hs) (by rw [sp_nf hs]; decide) (sp_fr4 hs) ?_
    refine ev_aload_n (pc := 41) hC dX3_join_41 rfl ?_
    refine ev_geti (pc := 42) hC ((A 5 0 : Nat) : Int) f30 dX3_join_42 (sp_lt hs) (sp_o hs) (sp_c hs) (by rw [sp_nf hs]; decide) (sp_fn6 hs)  ((by rw [mset_row (by omega), mset_row (by omega), mset_row (by omega)]; exact hA.cn)) ?_
    refine ev_iload (pc := 45) hC dX3_join_45 rfl ?_
    refine ev_iast (pc := 47) hC (A 5 0) (sp_alt4 hs) (sp_ao4 hs) (rfl) (by have := (sp_al4 hs); omega) dX3_join_47 ?_
    refine ev_aload_n (pc := 48) hC dX3_join_48 rfl ?_
    refine ev_dup (pc := 49) hC rfl dX3_join_49 ?_
    refine ev_geti (pc := 50) hC ((A 5 0 : Nat) : Int) f30 dX3_join_50 (sp_lt hs) (sp_o hs) (sp_c hs) (by rw [sp_nf hs]; decide) (sp_fn6 hs)  ((by rw [mset_row (by omega), mset_row (by omega), mset_row (by omega), mset_row (by omega)]; exact hA.cn)) ?_
    refine ev_iconst (pc := 53) hC dX3_join_53 ?_
    refine ev_iadd (pc := 54) hC (((A 5 0) + 1 : Nat) : Int) (by omega) dX3_join_54 ?_
    refine ev_puti (pc := 55) hC f30 fpX3_6 dX3_join_55 (sp_lt hs) (sp_o hs) (sp_c hs) (by rw [sp_nf hs]; decide) (sp_fn6 hs) (rfl) (rfl) ?_
    exact ev_return (pc := 58) hC hR dX3_join_58 (⟨rfl, join_rep hs hA hlt h1 h2 h3 h4, fun q a b => by rw [mset_row a, mset_row (by omega), mset_row (by omega), mset_row (by omega), mset_row (by omega)]⟩)
theorem mtX3_take : MT yX3_take wsX3_take cX3_take 2 none 1 := ⟨⟨_, rfl⟩, by decide, by decide, by decide +kernel⟩
set_option maxRecDepth 100000 in
set_option maxHeartbeats 4000000 in
theorem ru_X3_take {X : Mem} {s t : Nat} {B : Sl} (hs : Sp s) (ht : Sp t) (hst : ¬ s = t) (hB : Rp (vC X t) B) : Ru yX3_take wsX3_take 1 40 [.ref s, .ref t] X (fun v X' => v = none ∧ Rp (vC X' s) B ∧ frS s X X') := by
  refine ru_of (w2 := _) rfl (by decide) [some (.ref s), some (.ref t)] (fun _ => rfl) (fun _ => Nat.le_of_ble_eq_true rfl) ?_
  intro K hKn hC hR
  have wX3 : ∀ w ∈ u_ws RX3 TX3 8, w ∈ wsX3_take := by decide +kernel
  have f9 : Fl K RX3 9 3 0 := fl_of hC RX3 TX3 8 rfl (by decide) wX3 (show Cond.fieldLink RX3 9 "PicnicOfSomebody$Slope" "depths" "[I" ∈ _ by decide +kernel)
  have f15 : Fl K RX3 15 3 1 := fl_of hC RX3 TX3 8 rfl (by decide) wX3 (show Cond.fieldLink RX3 15 "PicnicOfSomebody$Slope" "kinds" "[I" ∈ _ by decide +kernel)
  have f18 : Fl K RX3 18 3 2 := fl_of hC RX3 TX3 8 rfl (by decide) wX3 (show Cond.fieldLink RX3 18 "PicnicOfSomebody$Slope" "figures" "[I" ∈ _ by decide +kernel)
  have f21 : Fl K RX3 21 3 3 := fl_of hC RX3 TX3 8 rfl (by decide) wX3 (show Cond.fieldLink RX3 21 "PicnicOfSomebody$Slope" "cells" "[I" ∈ _ by decide +kernel)
  have f24 : Fl K RX3 24 3 4 := fl_of hC RX3 TX3 8 rfl (by decide) wX3 (show Cond.fieldLink RX3 24 "PicnicOfSomebody$Slope" "beliefs" "[I" ∈ _ by decide +kernel)
  have f30 : Fl K RX3 30 3 6 := fl_of hC RX3 TX3 8 rfl (by decide) wX3 (show Cond.fieldLink RX3 30 "PicnicOfSomebody$Slope" "people" "I" ∈ _ by decide +kernel)
  have f34 : Fl K RX3 34 3 7 := fl_of hC RX3 TX3 8 rfl (by decide) wX3 (show Cond.fieldLink RX3 34 "PicnicOfSomebody$Slope" "year" "I" ∈ _ by decide +kernel)
  have hn8 := hB.n8
  have hs3 : 1 ≤ s ∧ s ≤ 3 := by rcases hs with rfl | rfl | rfl <;> omega
  have ht3 : 1 ≤ t ∧ t ≤ 3 := by rcases ht with rfl | rfl | rfl <;> omega
  refine ev_aload_n (pc := 0) hC dX3_take_0 rfl ?_
  refine ev_getr (pc := 1) hC (5 + 6 * t + 0) f9 dX3_take_1 (sp_lt ht) (sp_o ht) (sp_c ht) (by rw [sp_nf ht]; decide) (sp_fr0 ht) ?_
  refine ev_iconst (pc := 4) hC dX3_take_4 ?_
  refine ev_aload_n (pc := 5) hC dX3_take_5 rfl ?_
  refine ev_getr (pc := 6) hC (5 + 6 * s + 0) f9 dX3_take_6 (sp_lt hs) (sp_o hs) (sp_c hs) (by rw [sp_nf hs]; decide) (sp_fr0 hs) ?_
  refine ev_iconst (pc := 9) hC dX3_take_9 ?_
  refine ev_bipush (pc := 10) hC dX3_take_10 (by decide) ?_
  refine ev_copy (pc := 12) hC 25 (sp_alt0 ht) (sp_ao0 ht) (sp_alt0 hs) (sp_ao0 hs) (by have := (sp_al0 ht); omega) (by have := (sp_al0 hs); omega) (show Cond.methodLink RX3 37 arraycopyName ∈ _ by decide +kernel) (show Cond.native arraycopyName ∈ _ by decide +kernel) (show Cond.static arraycopyName ∈ _ by decide +kernel) (show Cond.initialized "java/lang/System" ∈ _ by decide +kernel) (by decide) (by decide) (Nat.le_of_ble_eq_true rfl) dX3_take_12 ?_
  refine ev_aload_n (pc := 15) hC dX3_take_15 rfl ?_
  refine ev_getr (pc := 16) hC (5 + 6 * t + 1) f15 dX3_take_16 (sp_lt ht) (sp_o ht) (sp_c ht) (by rw [sp_nf ht]; decide) (sp_fr1 ht) ?_
  refine ev_iconst (pc := 19) hC dX3_take_19 ?_
  refine ev_aload_n (pc := 20) hC dX3_take_20 rfl ?_
  refine ev_getr (pc := 21) hC (5 + 6 * s + 1) f15 dX3_take_21 (sp_lt hs) (sp_o hs) (sp_c hs) (by rw [sp_nf hs]; decide) (sp_fr1 hs) ?_
  refine ev_iconst (pc := 24) hC dX3_take_24 ?_
  refine ev_bipush (pc := 25) hC dX3_take_25 (by decide) ?_
  refine ev_copy (pc := 27) hC 8 (sp_alt1 ht) (sp_ao1 ht) (sp_alt1 hs) (sp_ao1 hs) (by have := (sp_al1 ht); omega) (by have := (sp_al1 hs); omega) (show Cond.methodLink RX3 37 arraycopyName ∈ _ by decide +kernel) (show Cond.native arraycopyName ∈ _ by decide +kernel) (show Cond.static arraycopyName ∈ _ by decide +kernel) (show Cond.initialized "java/lang/System" ∈ _ by decide +kernel) (by decide) (by decide) (Nat.le_of_ble_eq_true rfl) dX3_take_27 ?_
  refine ev_aload_n (pc := 30) hC dX3_take_30 rfl ?_
  refine ev_getr (pc := 31) hC (5 + 6 * t + 2) f18 dX3_take_31 (sp_lt ht) (sp_o ht) (sp_c ht) (by rw [sp_nf ht]; decide) (sp_fr2 ht) ?_
  refine ev_iconst (pc := 34) hC dX3_take_34 ?_
  refine ev_aload_n (pc := 35) hC dX3_take_35 rfl ?_
  refine ev_getr (pc := 36) hC (5 + 6 * s + 2) f18 dX3_take_36 (sp_lt hs) (sp_o hs) (sp_c hs) (by rw [sp_nf hs]; decide) (sp_fr2 hs) ?_
  refine ev_iconst (pc := 39) hC dX3_take_39 ?_
  refine ev_bipush (pc := 40) hC dX3_take_40 (by decide) ?_
  refine ev_copy (pc := 42) hC 8 (sp_alt2 ht) (sp_ao2 ht) (sp_alt2 hs) (sp_ao2 hs) (by have := (sp_al2 ht); omega) (by have := (sp_al2 hs); omega) (show Cond.methodLink RX3 37 arraycopyName ∈ _ by decide +kernel) (show Cond.native arraycopyName ∈ _ by decide +kernel) (show Cond.static arraycopyName ∈ _ by decide +kernel) (show Cond.initialized "java/lang/System" ∈ _ by decide +kernel) (by decide) (by decide) (Nat.le_of_ble_eq_true rfl) dX3_take_42 ?_
  refine ev_aload_n (pc := 45) hC dX3_take_45 rfl ?_
  refine ev_getr (pc := 46) hC (5 + 6 * t + 3) f21 dX3_take_46 (sp_lt ht) (sp_o ht) (sp_c ht) (by rw [sp_nf ht]; decide) (sp_fr3 ht) ?_
  refine ev_iconst (pc := 49) hC dX3_take_49 ?_
  refine ev_aload_n (pc := 50) hC dX3_take_50 rfl ?_
  refine ev_getr (pc := 51) hC (5 + 6 * s + 3) f21 dX3_take_51 (sp_lt hs) (sp_o hs) (sp_c hs) (by rw [sp_nf hs]; decide) (sp_fr3 hs) ?_
  refine ev_iconst (pc := 54) hC dX3_take_54 ?_
  refine ev_bipush (pc := 55) hC dX3_take_55 (by decide) ?_
  refine ev_copy (pc := 57) hC 8 (sp_alt3 ht) (sp_ao3 ht) (sp_alt3 hs) (sp_ao3 hs) (by have := (sp_al3 ht); omega) (by have := (sp_al3 hs); omega) (show Cond.methodLink RX3 37 arraycopyName ∈ _ by decide +kernel) (show Cond.native arraycopyName ∈ _ by decide +kernel) (show Cond.static arraycopyName ∈ _ by decide +kernel) (show Cond.initialized "java/lang/System" ∈ _ by decide +kernel) (by decide) (by decide) (Nat.le_of_ble_eq_true rfl) dX3_take_57 ?_
  refine ev_aload_n (pc := 60) hC dX3_take_60 rfl ?_
  refine ev_getr (pc := 61) hC (5 + 6 * t + 4) f24 dX3_take_61 (sp_lt ht) (sp_o ht) (sp_c ht) (by rw [sp_nf ht]; decide) (sp_fr4 ht) ?_
  refine ev_iconst (pc := 64) hC dX3_take_64 ?_
  refine ev_aload_n (pc := 65) hC dX3_take_65 rfl ?_
  refine ev_getr (pc := 66) hC (5 + 6 * s + 4) f24 dX3_take_66 (sp_lt hs) (sp_o hs) (sp_c hs) (by rw [sp_nf hs]; decide) (sp_fr4 hs) ?_
  refine ev_iconst (pc := 69) hC dX3_take_69 ?_
  refine ev_bipush (pc := 70) hC dX3_take_70 (by decide) ?_
  refine ev_copy (pc := 72) hC 8 (sp_alt4 ht) (sp_ao4 ht) (sp_alt4 hs) (sp_ao4 hs) (by have := (sp_al4 ht); omega) (by have := (sp_al4 hs); omega) (show Cond.methodLink RX3 37 arraycopyName ∈ _ by decide +kernel) (show Cond.native arraycopyName ∈ _ by decide +kernel) (show Cond.static arraycopyName ∈ _ by decide +kernel) (show Cond.initialized "java/lang/System" ∈ _ by decide +kernel) (by decide) (by decide) (Nat.le_of_ble_eq_true rfl) dX3_take_72 ?_
  refine ev_aload_n (pc := 75) hC dX3_take_75 rfl ?_
  refine ev_aload_n (pc := 76) hC dX3_take_76 rfl ?_
  refine ev_geti (pc := 77) hC ((B 5 0 : Nat) : Int) f30 dX3_take_77 (sp_lt ht) (sp_o ht) (sp_c ht) (by rw [sp_nf ht]; decide) (sp_fn6 ht)  ((by rw [mcpy_row (by omega), mcpy_row (by omega), mcpy_row (by omega), mcpy_row (by omega), mcpy_row (by omega)]; exact hB.cn)) ?_
  refine ev_puti (pc := 80) hC f30 fpX3_6 dX3_take_80 (sp_lt hs) (sp_o hs) (sp_c hs) (by rw [sp_nf hs]; decide) (sp_fn6 hs) (rfl) (rfl) ?_
  refine ev_aload_n (pc := 83) hC dX3_take_83 rfl ?_
  refine ev_aload_n (pc := 84) hC dX3_take_84 rfl ?_
  refine ev_geti (pc := 85) hC ((B 5 1 : Nat) : Int) f34 dX3_take_85 (sp_lt ht) (sp_o ht) (sp_c ht) (by rw [sp_nf ht]; decide) (sp_fn7 ht)  ((by rw [mset_row (by omega), mcpy_row (by omega), mcpy_row (by omega), mcpy_row (by omega), mcpy_row (by omega), mcpy_row (by omega)]; exact hB.cy)) ?_
  refine ev_puti (pc := 88) hC f34 fpX3_7 dX3_take_88 (sp_lt hs) (sp_o hs) (sp_c hs) (by rw [sp_nf hs]; decide) (sp_fn7 hs) (rfl) (rfl) ?_
  exact ev_return (pc := 91) hC hR dX3_take_91 (⟨rfl, take_rep hs3 ht3 hst hB, fun q a b => by rw [mset_row a, mset_row a, mcpy_row (by omega), mcpy_row (by omega), mcpy_row (by omega), mcpy_row (by omega), mcpy_row (by omega)]⟩)
theorem mtX3_dropAll : MT yX3_dropAll wsX3_dropAll cX3_dropAll 4 none 1 := ⟨⟨_, rfl⟩, by decide, by decide, by decide +kernel⟩
set_option maxRecDepth 100000 in
set_option maxHeartbeats 4000000 in
theorem ru_X3_dropAll {X : Mem} {s : Nat} {A : Sl} (hs : Sp s) (hA : Rp (vC X s) A) (S : Nat) (hS : S < 256) : Ru yX3_dropAll wsX3_dropAll 1 21 [.ref s, vi ((S : Nat) : Int)] X (fun v X' => v = none ∧ Rp (vC X' s) (dropA S A) ∧ frS s X X') := by
  refine ru_of (w2 := _) rfl (by decide) [some (.ref s), some (vi ((S : Nat) : Int)), none, none] (fun _ => rfl) (fun _ => Nat.le_of_ble_eq_true rfl) ?_
  intro K hKn hC hR
  have wX3 : ∀ w ∈ u_ws RX3 TX3 8, w ∈ wsX3_dropAll := by decide +kernel
  have f30 : Fl K RX3 30 3 6 := fl_of hC RX3 TX3 8 rfl (by decide) wX3 (show Cond.fieldLink RX3 30 "PicnicOfSomebody$Slope" "people" "I" ∈ _ by decide +kernel)
  have f15 : Fl K RX3 15 3 1 := fl_of hC RX3 TX3 8 rfl (by decide) wX3 (show Cond.fieldLink RX3 15 "PicnicOfSomebody$Slope" "kinds" "[I" ∈ _ by decide +kernel)
  have f18 : Fl K RX3 18 3 2 := fl_of hC RX3 TX3 8 rfl (by decide) wX3 (show Cond.fieldLink RX3 18 "PicnicOfSomebody$Slope" "figures" "[I" ∈ _ by decide +kernel)
  have f21 : Fl K RX3 21 3 3 := fl_of hC RX3 TX3 8 rfl (by decide) wX3 (show Cond.fieldLink RX3 21 "PicnicOfSomebody$Slope" "cells" "[I" ∈ _ by decide +kernel)
  have f24 : Fl K RX3 24 3 4 := fl_of hC RX3 TX3 8 rfl (by decide) wX3 (show Cond.fieldLink RX3 24 "PicnicOfSomebody$Slope" "beliefs" "[I" ∈ _ by decide +kernel)
  have hn8 := hA.n8
  have hs3 : 1 ≤ s ∧ s ≤ 3 := by rcases hs with rfl | rfl | rfl <;> omega
  refine ev_iconst (pc := 0) hC dX3_dropAll_0 ?_
  refine ev_istore_n (pc := 1) hC dX3_dropAll_1 (by rw [hKn]; decide) rfl ?_
  show Ev K 2 [some (.ref s), some (vi ((S : Nat) : Int)), some (vi 0), none] [] X
  refine ev_iconst (pc := 2) hC dX3_dropAll_2 ?_
  refine ev_istore_n (pc := 3) hC dX3_dropAll_3 (by rw [hKn]; decide) rfl ?_
  show Ev K 4 [some (.ref s), some (vi ((S : Nat) : Int)), some (vi 0), some (vi 0)] [] X
  have lp4 : ∀ (fz : Nat) (i : Nat) (kc : Nat) (Y : Mem), A 5 0 - i < fz → (i ≤ A 5 0) → (kc = kp S i) → (∀ q, (q < 5 + 6 * s + 1 ∨ 5 + 6 * s + 4 < q) → Y q = X q) → (∀ q, 1 ≤ q → q ≤ 4 → ∀ k, k < A 5 0 → Y (5 + 6 * s + q) k = zI (((drN S A i q k : Nat)) : Int)) → Ev K 4 [some (.ref s), some (vi ((S : Nat) : Int)), some (vi ((kc : Nat) : Int)), some (vi ((i : Nat) : Int))] [] Y := by
    intro fz
    induction fz with
    | zero => intro i kc Y hfz; exact absurd hfz (Nat.not_lt_zero _)
    | succ fz ih4 =>
      intro i kc Y hfz hi hk hF hV
      have hkl := kp_le S i
      have hYn : Y s 6 = zI ((A 5 0 : Nat) : Int) := by rw [hF s (by omega)]; exact hA.cn
      refine ev_iload_n (pc := 4) hC dX3_dropAll_4 rfl ?_
      refine ev_aload_n (pc := 5) hC dX3_dropAll_5 rfl ?_
      refine ev_geti (pc := 6) hC ((A 5 0 : Nat) : Int) f30 dX3_dropAll_6 (sp_lt hs) (sp_o hs) (sp_c hs) (by rw [sp_nf hs]; decide) (sp_fn6 hs)  (hYn) ?_
      refine ev_icmp_ge (pc := 9) hC 77 dX3_dropAll_9 (by decide) (by omega) (by omega) (fun c9 => ?_) (fun c9 => ?_)
      · refine ev_aload_n (pc := 77) hC dX3_dropAll_77 rfl ?_
        refine ev_iload_n (pc := 78) hC dX3_dropAll_78 rfl ?_
        refine ev_puti (pc := 79) hC f30 fpX3_6 dX3_dropAll_79 (sp_lt hs) (sp_o hs) (sp_c hs) (by rw [sp_nf hs]; decide) (sp_fn6 hs) (rfl) (rfl) ?_
        exact ev_return (pc := 82) hC hR dX3_dropAll_82 (⟨rfl, drop_rep hs3 hA (show i = A 5 0 by omega) hk hF hV, fun q a b => by rw [mset_row a]; exact hF q (by omega)⟩)
      · refine ev_iload_n (pc := 12) hC dX3_dropAll_12 rfl ?_
        refine ev_iload_n (pc := 13) hC dX3_dropAll_13 rfl ?_
        refine ev_callN (pc := 14) (as := [vi ((S : Nat) : Int), vi ((i : Nat) : Int)]) (rest := []) hC (by decide +kernel) gX3_dropAll_X5_isIn_n47 (show Cond.static yX5_isIn ∈ _ by decide +kernel) (show Cond.initialized RX5 ∈ _ by decide +kernel) mtX5_isIn dX3_dropAll_14 (ru_X5_isIn S i (by omega) (by omega)) (by decide) (by rfl) (Nat.le_of_ble_eq_true rfl) rfl (fun v14 X14 h14 => ?_)
        obtain ⟨rfl, rfl⟩ := h14
        show Ev K 17 [some (.ref s), some (vi ((S : Nat) : Int)), some (vi ((kc : Nat) : Int)), some (vi ((i : Nat) : Int))] [vi (b2i (Nat.testBit S i))] Y
        have hr14 := b2i_r (Nat.testBit S i)
        refine ev_if_ne (pc := 17) hC 71 dX3_dropAll_17 (by decide) (by omega) (fun c17 => ?_) (fun c17 => ?_)
        · have e := b2i_1 c17
          refine ev_iinc (pc := 71) hC ((i + 1 : Nat) : Int) dX3_dropAll_71 rfl (by omega) (by rw [hKn]; decide) rfl ?_
          show Ev K 74 [some (.ref s), some (vi ((S : Nat) : Int)), some (vi ((kc : Nat) : Int)), some (vi ((i + 1 : Nat) : Int))] [] Y
          refine ev_goto (pc := 74) hC 4 dX3_dropAll_74 (by decide) ?_
          exact ih4 (i + 1) kc Y (by omega) (by omega) (by first | (rw [kp_f e, hk]) | (rw [kp_t e, hk])) (fun q hq => by first | (rw [mset_row (by omega), mset_row (by omega), mset_row (by omega), mset_row (by omega)]; exact hF q hq) | exact hF q hq) (by first | exact drop_step e hk hV | exact drop_skip e hV)
        · have e := b2i_0 c17
          refine ev_aload_n (pc := 20) hC dX3_dropAll_20 rfl ?_
          refine ev_getr (pc := 21) hC (5 + 6 * s + 1) f15 dX3_dropAll_21 (sp_lt hs) (sp_o hs) (sp_c hs) (by rw [sp_nf hs]; decide) (sp_fr1 hs) ?_
          refine ev_iload_n (pc := 24) hC dX3_dropAll_24 rfl ?_
          refine ev_aload_n (pc := 25) hC dX3_dropAll_25 rfl ?_
          refine ev_getr (pc := 26) hC (5 + 6 * s + 1) f15 dX3_dropAll_26 (sp_lt hs) (sp_o hs) (sp_c hs) (by rw [sp_nf hs]; decide) (sp_fr1 hs) ?_
          refine ev_iload_n (pc := 29) hC dX3_dropAll_29 rfl ?_
          refine ev_iald (pc := 30) hC i ((A 1 i : Nat) : Int) (sp_alt1 hs) (sp_ao1 hs) (rfl) (by have := (sp_al1 hs); omega) (drop_rd hV hkl hk (by omega) (by omega) (by omega)) dX3_dropAll_30 ?_
          refine ev_iast (pc := 31) hC kc (sp_alt1 hs) (sp_ao1 hs) (rfl) (by have := (sp_al1 hs); omega) dX3_dropAll_31 ?_
          refine ev_aload_n (pc := 32) hC dX3_dropAll_32 rfl ?_
          refine ev_getr (pc := 33) hC (5 + 6 * s + 2) f18 dX3_dropAll_33 (sp_lt hs) (sp_o hs) (sp_c hs) (by rw [sp_nf hs]; decide) (sp_fr2 hs) ?_
          refine ev_iload_n (pc := 36) hC dX3_dropAll_36 rfl ?_
          refine ev_aload_n (pc := 37) hC dX3_dropAll_37 rfl ?_
          refine ev_getr (pc := 38) hC (5 + 6 * s + 2) f18 dX3_dropAll_38 (sp_lt hs) (sp_o hs) (sp_c hs) (by rw [sp_nf hs]; decide) (sp_fr2 hs) ?_
          refine ev_iload_n (pc := 41) hC dX3_dropAll_41 rfl ?_
          refine ev_iald (pc := 42) hC i ((A 2 i : Nat) : Int) (sp_alt2 hs) (sp_ao2 hs) (rfl) (by have := (sp_al2 hs); omega) ((by rw [mset_row (by omega)]; exact drop_rd hV hkl hk (by omega) (by omega) (by omega))) dX3_dropAll_42 ?_
          refine ev_iast (pc := 43) hC kc (sp_alt2 hs) (sp_ao2 hs) (rfl) (by have := (sp_al2 hs); omega) dX3_dropAll_43 ?_
          refine ev_aload_n (pc := 44) hC dX3_dropAll_44 rfl ?_
          refine ev_getr (pc := 45) hC (5 + 6 * s + 3) f21 dX3_dropAll_45 (sp_lt hs) (sp_o hs) (sp_c hs) (by rw [sp_nf hs]; decide) (sp_fr3 hs) ?_
          refine ev_iload_n (pc := 48) hC dX3_dropAll_48 rfl ?_
          refine ev_aload_n (pc := 49) hC dX3_dropAll_49 rfl ?_
          refine ev_getr (pc := 50) hC (5 + 6 * s + 3) f21 dX3_dropAll_50 (sp_lt hs) (sp_o hs) (sp_c hs) (by rw [sp_nf hs]; decide) (sp_fr3 hs) ?_
          refine ev_iload_n (pc := 53) hC dX3_dropAll_53 rfl ?_
          refine ev_iald (pc := 54) hC i ((A 3 i : Nat) : Int) (sp_alt3 hs) (sp_ao3 hs) (rfl) (by have := (sp_al3 hs); omega) ((by rw [mset_row (by omega), mset_row (by omega)]; exact drop_rd hV hkl hk (by omega) (by omega) (by omega))) dX3_dropAll_54 ?_
          refine ev_iast (pc := 55) hC kc (sp_alt3 hs) (sp_ao3 hs) (rfl) (by have := (sp_al3 hs); omega) dX3_dropAll_55 ?_
          refine ev_aload_n (pc := 56) hC dX3_dropAll_56 rfl ?_
          refine ev_getr (pc := 57) hC (5 + 6 * s + 4) f24 dX3_dropAll_57 (sp_lt hs) (sp_o hs) (sp_c hs) (by rw [sp_nf hs]; decide) (sp_fr4 hs) ?_
          refine ev_iload_n (pc := 60) hC dX3_dropAll_60 rfl ?_
          refine ev_aload_n (pc := 61) hC dX3_dropAll_61 rfl ?_
          refine ev_getr (pc := 62) hC (5 + 6 * s + 4) f24 dX3_dropAll_62 (sp_lt hs) (sp_o hs) (sp_c hs) (by rw [sp_nf hs]; decide) (sp_fr4 hs) ?_
          refine ev_iload_n (pc := 65) hC dX3_dropAll_65 rfl ?_
          refine ev_iald (pc := 66) hC i ((A 4 i : Nat) : Int) (sp_alt4 hs) (sp_ao4 hs) (rfl) (by have := (sp_al4 hs); omega) ((by rw [mset_row (by omega), mset_row (by omega), mset_row (by omega)]; exact drop_rd hV hkl hk (by omega) (by omega) (by omega))) dX3_dropAll_66 ?_
          refine ev_iast (pc := 67) hC kc (sp_alt4 hs) (sp_ao4 hs) (rfl) (by have := (sp_al4 hs); omega) dX3_dropAll_67 ?_
          refine ev_iinc (pc := 68) hC ((kc + 1 : Nat) : Int) dX3_dropAll_68 rfl (by omega) (by rw [hKn]; decide) rfl ?_
          show Ev K 71 [some (.ref s), some (vi ((S : Nat) : Int)), some (vi ((kc + 1 : Nat) : Int)), some (vi ((i : Nat) : Int))] [] (mset (mset (mset (mset Y (5 + 6 * s + 1) kc (zI ((A 1 i : Nat) : Int))) (5 + 6 * s + 2) kc (zI ((A 2 i : Nat) : Int))) (5 + 6 * s + 3) kc (zI ((A 3 i : Nat) : Int))) (5 + 6 * s + 4) kc (zI ((A 4 i : Nat) : Int)))
          refine ev_iinc (pc := 71) hC ((i + 1 : Nat) : Int) dX3_dropAll_71 rfl (by omega) (by rw [hKn]; decide) rfl ?_
          show Ev K 74 [some (.ref s), some (vi ((S : Nat) : Int)), some (vi ((kc + 1 : Nat) : Int)), some (vi ((i + 1 : Nat) : Int))] [] (mset (mset (mset (mset Y (5 + 6 * s + 1) kc (zI ((A 1 i : Nat) : Int))) (5 + 6 * s + 2) kc (zI ((A 2 i : Nat) : Int))) (5 + 6 * s + 3) kc (zI ((A 3 i : Nat) : Int))) (5 + 6 * s + 4) kc (zI ((A 4 i : Nat) : Int)))
          refine ev_goto (pc := 74) hC 4 dX3_dropAll_74 (by decide) ?_
          exact ih4 (i + 1) (kc + 1) (mset (mset (mset (mset Y (5 + 6 * s + 1) kc (zI ((A 1 i : Nat) : Int))) (5 + 6 * s + 2) kc (zI ((A 2 i : Nat) : Int))) (5 + 6 * s + 3) kc (zI ((A 3 i : Nat) : Int))) (5 + 6 * s + 4) kc (zI ((A 4 i : Nat) : Int))) (by omega) (by omega) (by first | (rw [kp_f e, hk]) | (rw [kp_t e, hk])) (fun q hq => by first | (rw [mset_row (by omega), mset_row (by omega), mset_row (by omega), mset_row (by omega)]; exact hF q hq) | exact hF q hq) (by first | exact drop_step e hk hV | exact drop_skip e hV)
  exact lp4 _ 0 0 X (Nat.lt_succ_self _) (by omega) rfl (fun q _ => rfl) (fun q a b k hk => hA.2.1 q a b k hk |> fun z => by unfold vC at z; rw [if_pos (by omega)] at z; exact z)
