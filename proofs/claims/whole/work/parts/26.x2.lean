theorem mtX2_isFull : MT yX2_isFull wsX2_isFull cX2_isFull 1 (some .boolean) 0 := ⟨⟨_, rfl⟩, by decide, by decide, by decide +kernel⟩
set_option maxRecDepth 100000 in
set_option maxHeartbeats 4000000 in
theorem ru_X2_isFull {X : Mem} {rs : Nat} (hr : X 7 1 = zI (rs : Nat)) (hrs : rs ≤ 16) : Ru yX2_isFull wsX2_isFull 0 0 [.ref 7] X (fun v X' => v = some (vi (b2i (decide (16 ≤ rs)))) ∧ X = X') := by
  refine ru_of (w2 := _) rfl (by decide) [some (.ref 7)] (fun _ => rfl) (fun _ => Nat.le_of_ble_eq_true rfl) ?_
  intro K hKn hC hR
  have wX2 : ∀ w ∈ u_ws RX2 TX2 2, w ∈ wsX2_isFull := by decide +kernel
  have f15 : Fl K RX2 15 2 1 := fl_of hC RX2 TX2 2 rfl (by decide) wX2 (show Cond.fieldLink RX2 15 "PicnicOfSomebody$Row" "size" "I" ∈ _ by decide +kernel)
  refine ev_aload_n (pc := 0) hC dX2_isFull_0 rfl ?_
  refine ev_geti (pc := 1) hC ((rs : Nat) : Int) f15 dX2_isFull_1 (by decide) (by decide) (by decide) (by decide) (by decide)  (hr) ?_
  refine ev_bipush (pc := 4) hC dX2_isFull_4 (by decide) ?_
  refine ev_icmp_lt (pc := 6) hC 13 dX2_isFull_6 (by decide) (by omega) (by omega) (fun c6 => ?_) (fun c6 => ?_)
  · refine ev_iconst (pc := 13) hC dX2_isFull_13 ?_
    exact ev_zreturn (pc := 14) hC hR dX2_isFull_14 (by decide) (⟨rv (by first | exact b2iT (decide_eq_true (by omega)) | exact b2iF (decide_eq_false (by omega))), rfl⟩)
  · refine ev_iconst (pc := 9) hC dX2_isFull_9 ?_
    refine ev_goto (pc := 10) hC 14 dX2_isFull_10 (by decide) ?_
    exact ev_zreturn (pc := 14) hC hR dX2_isFull_14 (by decide) (⟨rv (by first | exact b2iT (decide_eq_true (by omega)) | exact b2iF (decide_eq_false (by omega))), rfl⟩)
theorem mtX2_append : MT yX2_append wsX2_append cX2_append 2 (some .int) 1 := ⟨⟨_, rfl⟩, by decide, by decide, by decide +kernel⟩
set_option maxRecDepth 100000 in
set_option maxHeartbeats 4000000 in
theorem ru_X2_append {X : Mem} {rs : Nat} (w : Int) (hr : X 7 1 = zI (rs : Nat)) (hrs : rs < 16) : Ru yX2_append wsX2_append 1 20 [.ref 7, vi w] X (fun v X' => v = some (vi ((rs + 1 : Nat) : Int)) ∧ X' = mset (mset X 10 rs (zI w)) 7 1 (zI ((rs + 1 : Nat) : Int))) := by
  refine ru_of (w2 := _) rfl (by decide) [some (.ref 7), some (vi w)] (fun _ => rfl) (fun _ => Nat.le_of_ble_eq_true rfl) ?_
  intro K hKn hC hR
  have wX2 : ∀ w ∈ u_ws RX2 TX2 2, w ∈ wsX2_append := by decide +kernel
  have f9 : Fl K RX2 9 2 0 := fl_of hC RX2 TX2 2 rfl (by decide) wX2 (show Cond.fieldLink RX2 9 "PicnicOfSomebody$Row" "numbers" "[I" ∈ _ by decide +kernel)
  have f15 : Fl K RX2 15 2 1 := fl_of hC RX2 TX2 2 rfl (by decide) wX2 (show Cond.fieldLink RX2 15 "PicnicOfSomebody$Row" "size" "I" ∈ _ by decide +kernel)
  refine ev_aload_n (pc := 0) hC dX2_append_0 rfl ?_
  refine ev_callV (pc := 1) (as := []) (rest := []) hC gX2_append_X2_isFull mtX2_isFull dX2_append_1 (ru_X2_isFull hr (by omega)) (by decide) (by decide) (by decide) rfl (by rfl) (Nat.le_of_ble_eq_true rfl) rfl (fun v1 X1 h1 => ?_)
  obtain ⟨rfl, rfl⟩ := h1
  show Ev K 4 [some (.ref 7), some (vi w)] [vi (b2i (decide (16 ≤ rs)))] X
  have hrb1 := b2i_r (decide (16 ≤ rs))
  refine ev_if_ne (pc := 4) hC 27 dX2_append_4 (by decide) (by omega) (fun c4 => ?_) (fun c4 => ?_)
  · exact absurd (of_decide_eq_true (b2i_1 c4)) (by omega)
  · refine ev_aload_n (pc := 7) hC dX2_append_7 rfl ?_
    refine ev_getr (pc := 8) hC 10 f9 dX2_append_8 (by decide) (by decide) (by decide) (by decide) (by decide) ?_
    refine ev_aload_n (pc := 11) hC dX2_append_11 rfl ?_
    refine ev_geti (pc := 12) hC ((rs : Nat) : Int) f15 dX2_append_12 (by decide) (by decide) (by decide) (by decide) (by decide)  (hr) ?_
    refine ev_iload_n (pc := 15) hC dX2_append_15 rfl ?_
    refine ev_iast (pc := 16) hC rs (by decide) (by decide) (rfl) (by have := (show alen 10 = 16 from rfl); omega) dX2_append_16 ?_
    refine ev_aload_n (pc := 17) hC dX2_append_17 rfl ?_
    refine ev_dup (pc := 18) hC rfl dX2_append_18 ?_
    refine ev_geti (pc := 19) hC ((rs : Nat) : Int) f15 dX2_append_19 (by decide) (by decide) (by decide) (by decide) (by decide)  ((by rw [mset_row (by omega)]; exact hr)) ?_
    refine ev_iconst (pc := 22) hC dX2_append_22 ?_
    refine ev_iadd (pc := 23) hC ((rs + 1 : Nat) : Int) (by omega) dX2_append_23 ?_
    refine ev_puti (pc := 24) hC f15 fpX2_1 dX2_append_24 (by decide) (by decide) (by decide) (by decide) (by decide) (rfl) (rfl) ?_
    refine ev_aload_n (pc := 27) hC dX2_append_27 rfl ?_
    refine ev_geti (pc := 28) hC ((rs + 1 : Nat) : Int) f15 dX2_append_28 (by decide) (by decide) (by decide) (by decide) (by decide)  (mset_eq _ _ _ _) ?_
    exact ev_ireturn (pc := 31) hC hR dX2_append_31 (⟨rfl, rfl⟩)
theorem mtX2_empty : MT yX2_empty wsX2_empty cX2_empty 2 (some .int) 0 := ⟨⟨_, rfl⟩, by decide, by decide, by decide +kernel⟩
set_option maxRecDepth 100000 in
set_option maxHeartbeats 4000000 in
theorem ru_X2_empty {X : Mem} {rs : Nat} (hr : X 7 1 = zI (rs : Nat)) (hrs : rs ≤ 16) : Ru yX2_empty wsX2_empty 0 0 [.ref 7] X (fun v X' => v = some (vi (rs : Nat)) ∧ X' = mset X 7 1 (zI 0)) := by
  refine ru_of (w2 := _) rfl (by decide) [some (.ref 7), none] (fun _ => rfl) (fun _ => Nat.le_of_ble_eq_true rfl) ?_
  intro K hKn hC hR
  have wX2 : ∀ w ∈ u_ws RX2 TX2 2, w ∈ wsX2_empty := by decide +kernel
  have f15 : Fl K RX2 15 2 1 := fl_of hC RX2 TX2 2 rfl (by decide) wX2 (show Cond.fieldLink RX2 15 "PicnicOfSomebody$Row" "size" "I" ∈ _ by decide +kernel)
  refine ev_aload_n (pc := 0) hC dX2_empty_0 rfl ?_
  refine ev_geti (pc := 1) hC ((rs : Nat) : Int) f15 dX2_empty_1 (by decide) (by decide) (by decide) (by decide) (by decide)  (hr) ?_
  refine ev_istore_n (pc := 4) hC dX2_empty_4 (by rw [hKn]; decide) rfl ?_
  show Ev K 5 [some (.ref 7), some (vi ((rs : Nat) : Int))] [] X
  refine ev_aload_n (pc := 5) hC dX2_empty_5 rfl ?_
  refine ev_iconst (pc := 6) hC dX2_empty_6 ?_
  refine ev_puti (pc := 7) hC f15 fpX2_1 dX2_empty_7 (by decide) (by decide) (by decide) (by decide) (by decide) (rfl) (rfl) ?_
  refine ev_iload_n (pc := 10) hC dX2_empty_10 rfl ?_
  exact ev_ireturn (pc := 11) hC hR dX2_empty_11 (⟨rfl, rfl⟩)
theorem mtX4_isFull : MT yX4_isFull wsX4_isFull cX4_isFull 1 (some .boolean) 0 := ⟨⟨_, rfl⟩, by decide, by decide, by decide +kernel⟩
set_option maxRecDepth 100000 in
set_option maxHeartbeats 4000000 in
theorem ru_X4_isFull {X : Mem} {n : Nat} (hr : X 6 3 = zI (n : Nat)) (hrs : n ≤ 96) : Ru yX4_isFull wsX4_isFull 0 0 [.ref 6] X (fun v X' => v = some (vi (b2i (decide (96 ≤ n)))) ∧ X = X') := by
  refine ru_of (w2 := _) rfl (by decide) [some (.ref 6)] (fun _ => rfl) (fun _ => Nat.le_of_ble_eq_true rfl) ?_
  intro K hKn hC hR
  have wX4 : ∀ w ∈ u_ws RX4 TX4 4, w ∈ wsX4_isFull := by decide +kernel
  have f15 : Fl K RX4 15 4 3 := fl_of hC RX4 TX4 4 rfl (by decide) wX4 (show Cond.fieldLink RX4 15 "PicnicOfSomebody$Text" "size" "I" ∈ _ by decide +kernel)
  refine ev_aload_n (pc := 0) hC dX4_isFull_0 rfl ?_
  refine ev_geti (pc := 1) hC ((n : Nat) : Int) f15 dX4_isFull_1 (by decide) (by decide) (by decide) (by decide) (by decide)  (hr) ?_
  refine ev_bipush (pc := 4) hC dX4_isFull_4 (by decide) ?_
  refine ev_icmp_lt (pc := 6) hC 13 dX4_isFull_6 (by decide) (by omega) (by omega) (fun c6 => ?_) (fun c6 => ?_)
  · refine ev_iconst (pc := 13) hC dX4_isFull_13 ?_
    exact ev_zreturn (pc := 14) hC hR dX4_isFull_14 (by decide) (⟨rv (by first | exact b2iT (decide_eq_true (by omega)) | exact b2iF (decide_eq_false (by omega))), rfl⟩)
  · refine ev_iconst (pc := 9) hC dX4_isFull_9 ?_
    refine ev_goto (pc := 10) hC 14 dX4_isFull_10 (by decide) ?_
    exact ev_zreturn (pc := 14) hC hR dX4_isFull_14 (by decide) (⟨rv (by first | exact b2iT (decide_eq_true (by omega)) | exact b2iF (decide_eq_false (by omega))), rfl⟩)
theorem mtX4_append : MT yX4_append wsX4_append cX4_append 2 (some .int) 1 := ⟨⟨_, rfl⟩, by decide, by decide, by decide +kernel⟩
set_option maxRecDepth 100000 in
set_option maxHeartbeats 4000000 in
theorem ru_X4_append {X : Mem} {n : Nat} (w : Int) (hr : X 6 3 = zI (n : Nat)) (hrs : n < 96) : Ru yX4_append wsX4_append 1 20 [.ref 6, vi w] X (fun v X' => v = some (vi ((n + 1 : Nat) : Int)) ∧ X' = mset (mset X 9 n (zI w)) 6 3 (zI ((n + 1 : Nat) : Int))) := by
  refine ru_of (w2 := _) rfl (by decide) [some (.ref 6), some (vi w)] (fun _ => rfl) (fun _ => Nat.le_of_ble_eq_true rfl) ?_
  intro K hKn hC hR
  have wX4 : ∀ w ∈ u_ws RX4 TX4 4, w ∈ wsX4_append := by decide +kernel
  have f9 : Fl K RX4 9 4 0 := fl_of hC RX4 TX4 4 rfl (by decide) wX4 (show Cond.fieldLink RX4 9 "PicnicOfSomebody$Text" "letters" "[I" ∈ _ by decide +kernel)
  have f15 : Fl K RX4 15 4 3 := fl_of hC RX4 TX4 4 rfl (by decide) wX4 (show Cond.fieldLink RX4 15 "PicnicOfSomebody$Text" "size" "I" ∈ _ by decide +kernel)
  refine ev_aload_n (pc := 0) hC dX4_append_0 rfl ?_
  refine ev_callV (pc := 1) (as := []) (rest := []) hC gX4_append_X4_isFull mtX4_isFull dX4_append_1 (ru_X4_isFull hr (by omega)) (by decide) (by decide) (by decide) rfl (by rfl) (Nat.le_of_ble_eq_true rfl) rfl (fun v1 X1 h1 => ?_)
  obtain ⟨rfl, rfl⟩ := h1
  show Ev K 4 [some (.ref 6), some (vi w)] [vi (b2i (decide (96 ≤ n)))] X
  have hrb1 := b2i_r (decide (96 ≤ n))
  refine ev_if_ne (pc := 4) hC 27 dX4_append_4 (by decide) (by omega) (fun c4 => ?_) (fun c4 => ?_)
  · exact absurd (of_decide_eq_true (b2i_1 c4)) (by omega)
  · refine ev_aload_n (pc := 7) hC dX4_append_7 rfl ?_
    refine ev_getr (pc := 8) hC 9 f9 dX4_append_8 (by decide) (by decide) (by decide) (by decide) (by decide) ?_
    refine ev_aload_n (pc := 11) hC dX4_append_11 rfl ?_
    refine ev_geti (pc := 12) hC ((n : Nat) : Int) f15 dX4_append_12 (by decide) (by decide) (by decide) (by decide) (by decide)  (hr) ?_
    refine ev_iload_n (pc := 15) hC dX4_append_15 rfl ?_
    refine ev_iast (pc := 16) hC n (by decide) (by decide) (rfl) (by have := (show alen 9 = 96 from rfl); omega) dX4_append_16 ?_
    refine ev_aload_n (pc := 17) hC dX4_append_17 rfl ?_
    refine ev_dup (pc := 18) hC rfl dX4_append_18 ?_
    refine ev_geti (pc := 19) hC ((n : Nat) : Int) f15 dX4_append_19 (by decide) (by decide) (by decide) (by decide) (by decide)  ((by rw [mset_row (by omega)]; exact hr)) ?_
    refine ev_iconst (pc := 22) hC dX4_append_22 ?_
    refine ev_iadd (pc := 23) hC ((n + 1 : Nat) : Int) (by omega) dX4_append_23 ?_
    refine ev_puti (pc := 24) hC f15 fpX4_3 dX4_append_24 (by decide) (by decide) (by decide) (by decide) (by decide) (rfl) (rfl) ?_
    refine ev_aload_n (pc := 27) hC dX4_append_27 rfl ?_
    refine ev_geti (pc := 28) hC ((n + 1 : Nat) : Int) f15 dX4_append_28 (by decide) (by decide) (by decide) (by decide) (by decide)  (mset_eq _ _ _ _) ?_
    exact ev_ireturn (pc := 31) hC hR dX4_append_31 (⟨rfl, rfl⟩)
theorem mtX4_empty : MT yX4_empty wsX4_empty cX4_empty 1 none 0 := ⟨⟨_, rfl⟩, by decide, by decide, by decide +kernel⟩
set_option maxRecDepth 100000 in
set_option maxHeartbeats 4000000 in
theorem ru_X4_empty {X : Mem}  : Ru yX4_empty wsX4_empty 0 0 [.ref 6] X (fun v X' => v = none ∧ X' = mset X 6 3 (zI 0)) := by
  refine ru_of (w2 := _) rfl (by decide) [some (.ref 6)] (fun _ => rfl) (fun _ => Nat.le_of_ble_eq_true rfl) ?_
  intro K hKn hC hR
  have wX4 : ∀ w ∈ u_ws RX4 TX4 4, w ∈ wsX4_empty := by decide +kernel
  have f15 : Fl K RX4 15 4 3 := fl_of hC RX4 TX4 4 rfl (by decide) wX4 (show Cond.fieldLink RX4 15 "PicnicOfSomebody$Text" "size" "I" ∈ _ by decide +kernel)
  refine ev_aload_n (pc := 0) hC dX4_empty_0 rfl ?_
  refine ev_iconst (pc := 1) hC dX4_empty_1 ?_
  refine ev_puti (pc := 2) hC f15 fpX4_3 dX4_empty_2 (by decide) (by decide) (by decide) (by decide) (by decide) (rfl) (rfl) ?_
  exact ev_return (pc := 5) hC hR dX4_empty_5 (⟨rfl, rfl⟩)
