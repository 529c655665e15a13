theorem mtX5_sharedDivisor : MT yX5_sharedDivisor wsX5_sharedDivisor cX5_sharedDivisor 11 (some .long) 2 := ⟨⟨_, rfl⟩, by decide, by decide, by decide +kernel⟩
set_option maxRecDepth 100000 in
set_option maxHeartbeats 4000000 in
theorem ru_X5_sharedDivisor {X : Mem} (a b : Nat) (ha : a ≤ 9223372036854775807) (hb : b ≤ 9223372036854775807) : Ru yX5_sharedDivisor wsX5_sharedDivisor 0 0 [vl ((a : Nat) : Int), vl ((b : Nat) : Int)] X (fun v X' => v = some (vl ((Nat.gcd a b : Nat) : Int)) ∧ X = X') := by
  refine ru_of (w2 := _) rfl (by decide) [some (vl ((a : Nat) : Int)), none, some (vl ((b : Nat) : Int)), none, none, none, none, none, none, none, none] (fun _ => rfl) (fun _ => Nat.le_of_ble_eq_true rfl) ?_
  intro K hKn hC hR
  refine ev_lload_n (pc := 0) hC dX5_sharedDivisor_0 rfl ?_
  refine ev_lstore (pc := 1) hC dX5_sharedDivisor_1 (by rw [hKn]; decide) rfl ?_
  show Ev K 3 [some (vl ((a : Nat) : Int)), none, some (vl ((b : Nat) : Int)), none, some (vl ((a : Nat) : Int)), none, none, none, none, none, none] [] X
  refine ev_lload_n (pc := 3) hC dX5_sharedDivisor_3 rfl ?_
  refine ev_lstore (pc := 4) hC dX5_sharedDivisor_4 (by rw [hKn]; decide) rfl ?_
  show Ev K 6 [some (vl ((a : Nat) : Int)), none, some (vl ((b : Nat) : Int)), none, some (vl ((a : Nat) : Int)), none, some (vl ((b : Nat) : Int)), none, none, none, none] [] X
  refine ev_iconst (pc := 6) hC dX5_sharedDivisor_6 ?_
  refine ev_istore (pc := 7) hC dX5_sharedDivisor_7 (by rw [hKn]; decide) rfl ?_
  show Ev K 9 [some (vl ((a : Nat) : Int)), none, some (vl ((b : Nat) : Int)), none, some (vl ((a : Nat) : Int)), none, some (vl ((b : Nat) : Int)), none, some (vi 0), none, none] [] X
  have lp9 : ∀ (fz : Nat) (i : Nat) (x : Nat) (y : Nat), 200 - i < fz → (i ≤ 200) → (eucI i x y a b) → Ev K 9 [some (vl ((a : Nat) : Int)), none, some (vl ((b : Nat) : Int)), none, some (vl ((x : Nat) : Int)), none, some (vl ((y : Nat) : Int)), none, some (vi ((i : Nat) : Int)), none, none] [] X := by
    intro fz
    induction fz with
    | zero => intro i x y hfz; exact absurd hfz (Nat.not_lt_zero _)
    | succ fz ih9 =>
      intro i x y hfz hi hu
      have hx := hu.2.1
      have hy := hu.2.2.1
      refine ev_iload (pc := 9) hC dX5_sharedDivisor_9 rfl ?_
      refine ev_sipush (pc := 11) hC dX5_sharedDivisor_11 (by decide) ?_
      refine ev_icmp_ge (pc := 14) hC 45 dX5_sharedDivisor_14 (by decide) (by omega) (by omega) (fun c14 => ?_) (fun c14 => ?_)
      · refine ev_lload (pc := 45) hC dX5_sharedDivisor_45 rfl ?_
        exact ev_lreturn (pc := 47) hC hR dX5_sharedDivisor_47 (⟨rl (euc_gcd hu (euc_end hu ha hb (by omega))), rfl⟩)
      · refine ev_lload (pc := 17) hC dX5_sharedDivisor_17 rfl ?_
        refine ev_lconst (pc := 19) hC 0 (by decide) dX5_sharedDivisor_19 ?_
        refine ev_lcmp_eq (pc := 20) hC 45 dX5_sharedDivisor_20 dX5_sharedDivisor_21 (by decide) (by omega) (by omega) (fun c20 => ?_) (fun c20 => ?_)
        · refine ev_lload (pc := 45) hC dX5_sharedDivisor_45 rfl ?_
          exact ev_lreturn (pc := 47) hC hR dX5_sharedDivisor_47 (⟨rl (euc_gcd hu (by omega)), rfl⟩)
        · refine ev_lload (pc := 24) hC dX5_sharedDivisor_24 rfl ?_
          refine ev_lload (pc := 26) hC dX5_sharedDivisor_26 rfl ?_
          refine ev_lrem (pc := 28) hC ((x % y : Nat) : Int) (rfl) (by omega) (by omega) dX5_sharedDivisor_28 ?_
          refine ev_lstore (pc := 29) hC dX5_sharedDivisor_29 (by rw [hKn]; decide) rfl ?_
          show Ev K 31 [some (vl ((a : Nat) : Int)), none, some (vl ((b : Nat) : Int)), none, some (vl ((x : Nat) : Int)), none, some (vl ((y : Nat) : Int)), none, some (vi ((i : Nat) : Int)), some (vl ((x % y : Nat) : Int)), none] [] X
          refine ev_lload (pc := 31) hC dX5_sharedDivisor_31 rfl ?_
          refine ev_lstore (pc := 33) hC dX5_sharedDivisor_33 (by rw [hKn]; decide) rfl ?_
          show Ev K 35 [some (vl ((a : Nat) : Int)), none, some (vl ((b : Nat) : Int)), none, some (vl ((y : Nat) : Int)), none, some (vl ((y : Nat) : Int)), none, some (vi ((i : Nat) : Int)), some (vl ((x % y : Nat) : Int)), none] [] X
          refine ev_lload (pc := 35) hC dX5_sharedDivisor_35 rfl ?_
          refine ev_lstore (pc := 37) hC dX5_sharedDivisor_37 (by rw [hKn]; decide) rfl ?_
          show Ev K 39 [some (vl ((a : Nat) : Int)), none, some (vl ((b : Nat) : Int)), none, some (vl ((y : Nat) : Int)), none, some (vl ((x % y : Nat) : Int)), none, some (vi ((i : Nat) : Int)), some (vl ((x % y : Nat) : Int)), none] [] X
          refine ev_iinc (pc := 39) hC ((i + 1 : Nat) : Int) dX5_sharedDivisor_39 rfl (by omega) (by rw [hKn]; decide) rfl ?_
          show Ev K 42 [some (vl ((a : Nat) : Int)), none, some (vl ((b : Nat) : Int)), none, some (vl ((y : Nat) : Int)), none, some (vl ((x % y : Nat) : Int)), none, some (vi ((i + 1 : Nat) : Int)), some (vl ((x % y : Nat) : Int)), none] [] X
          refine ev_goto (pc := 42) hC 9 dX5_sharedDivisor_42 (by decide) ?_
          refine ev_drop 9 ?_
          show Ev K 9 [some (vl ((a : Nat) : Int)), none, some (vl ((b : Nat) : Int)), none, some (vl ((y : Nat) : Int)), none, some (vl ((x % y : Nat) : Int)), none, some (vi ((i + 1 : Nat) : Int)), none, none] [] X
          exact ih9 (i + 1) y (x % y) (by omega) (by omega) (euc_s hu (by omega))
  exact lp9 _ 0 a b (Nat.lt_succ_self _) (by omega) (euc_0 ha hb)
theorem mtX5_partOf : MT yX5_partOf wsX5_partOf cX5_partOf 7 (some .long) 3 := ⟨⟨_, rfl⟩, by decide, by decide, by decide +kernel⟩
set_option maxRecDepth 100000 in
set_option maxHeartbeats 4000000 in
theorem ru_X5_partOf {X : Mem} (u d : Nat) (w : Int) (hu : u ≤ 9223372036854775807) (hd : d ≤ 9223372036854775807) (hw : 0 ≤ w ∧ w ≤ 1) : Ru yX5_partOf wsX5_partOf 1 30 [vl ((u : Nat) : Int), vl ((d : Nat) : Int), vi w] X (fun v X' => v = some (vl (prt u d w)) ∧ X = X') := by
  refine ru_of (w2 := _) rfl (by decide) [some (vl ((u : Nat) : Int)), none, some (vl ((d : Nat) : Int)), none, some (vi w), none, none] (fun _ => rfl) (fun _ => Nat.le_of_ble_eq_true rfl) ?_
  intro K hKn hC hR
  refine ev_lload_n (pc := 0) hC dX5_partOf_0 rfl ?_
  refine ev_lconst (pc := 1) hC 0 (by decide) dX5_partOf_1 ?_
  refine ev_lcmp_ne (pc := 2) hC 10 dX5_partOf_2 dX5_partOf_3 (by decide) (by omega) (by omega) (fun c2 => ?_) (fun c2 => ?_)
  · refine ev_lload_n (pc := 10) hC dX5_partOf_10 rfl ?_
    refine ev_lload_n (pc := 11) hC dX5_partOf_11 rfl ?_
    refine ev_callS (pc := 12) (as := [vl ((u : Nat) : Int), vl ((d : Nat) : Int)]) (rest := []) hC gX5_partOf_X5_sharedDivisor mtX5_sharedDivisor dX5_partOf_12 (ru_X5_sharedDivisor u d (by omega) (by omega)) (by decide) (by rfl) (Nat.le_of_ble_eq_true rfl) rfl (fun v12 X12 h12 => ?_)
    obtain ⟨rfl, rfl⟩ := h12
    show Ev K 15 [some (vl ((u : Nat) : Int)), none, some (vl ((d : Nat) : Int)), none, some (vi w), none, none] [vl ((Nat.gcd u d : Nat) : Int)] X
    have hgp12 : 0 < Nat.gcd u d := Nat.gcd_pos_of_pos_left _ (by omega)
    have hgl12 : Nat.gcd u d ≤ u := Nat.gcd_le_left _ (by omega)
    refine ev_lstore (pc := 15) hC dX5_partOf_15 (by rw [hKn]; decide) rfl ?_
    show Ev K 17 [some (vl ((u : Nat) : Int)), none, some (vl ((d : Nat) : Int)), none, some (vi w), some (vl ((Nat.gcd u d : Nat) : Int)), none] [] X
    refine ev_lload (pc := 17) hC dX5_partOf_17 rfl ?_
    refine ev_lconst (pc := 19) hC 0 (by decide) dX5_partOf_19 ?_
    refine ev_lcmp_ne (pc := 20) hC 26 dX5_partOf_20 dX5_partOf_21 (by decide) (by omega) (by omega) (fun c20 => ?_) (fun c20 => ?_)
    · refine ev_iload (pc := 26) hC dX5_partOf_26 rfl ?_
      refine ev_if_ne (pc := 28) hC 38 dX5_partOf_28 (by decide) (by omega) (fun c28 => ?_) (fun c28 => ?_)
      · refine ev_lload_n (pc := 38) hC dX5_partOf_38 rfl ?_
        refine ev_lload (pc := 39) hC dX5_partOf_39 rfl ?_
        refine ev_ldiv (pc := 41) hC ((d / Nat.gcd u d : Nat) : Int) (rfl) (by omega) (by omega) dX5_partOf_41 ?_
        exact ev_lreturn (pc := 42) hC hR dX5_partOf_42 (⟨rl (prt_d c2 c28), rfl⟩)
      · refine ev_lload_n (pc := 31) hC dX5_partOf_31 rfl ?_
        refine ev_lload (pc := 32) hC dX5_partOf_32 rfl ?_
        refine ev_ldiv (pc := 34) hC ((u / Nat.gcd u d : Nat) : Int) (rfl) (by omega) (by omega) dX5_partOf_34 ?_
        refine ev_goto (pc := 35) hC 42 dX5_partOf_35 (by decide) ?_
        exact ev_lreturn (pc := 42) hC hR dX5_partOf_42 (⟨rl (prt_u c2 c28), rfl⟩)
    · exact absurd c20 (by omega)
  · refine ev_iload (pc := 6) hC dX5_partOf_6 rfl ?_
    refine ev_i2l (pc := 8) hC (by omega) dX5_partOf_8 ?_
    exact ev_lreturn (pc := 9) hC hR dX5_partOf_9 (⟨rl (prt_0 c2), rfl⟩)
theorem mtX5_letter : MT yX5_letter wsX5_letter cX5_letter 3 (some .int) 1 := ⟨⟨_, rfl⟩, by decide, by decide, by decide +kernel⟩
set_option maxRecDepth 100000 in
set_option maxHeartbeats 4000000 in
theorem ru_X5_letter {X : Mem} {V : St} (hV : cI X V) (x0 : Int) (hx0 : -2147483648 ≤ x0 ∧ x0 ≤ 2147483647) : Ru yX5_letter wsX5_letter 2 41 [.ref 0, vi x0] X (fun v X' => v = some (vi (sp0 x0 V).1) ∧ cI X' (sp0 x0 V).2 ∧ frC X X') := by
  refine ru_of (w2 := _) rfl (by decide) [some (.ref 0), some (vi x0), none] (fun _ => rfl) (fun _ => Nat.le_of_ble_eq_true rfl) ?_
  intro K hKn hC hR
  have wX5 : ∀ w ∈ u_ws RX5 TX5 9, w ∈ wsX5_letter := by decide +kernel
  have f43 : Fl K RX5 43 5 5 := fl_of hC RX5 TX5 9 rfl (by decide) wX5 (show Cond.fieldLink RX5 43 "PicnicOfSomebody" "text" "LPicnicOfSomebody$Text;" ∈ _ by decide +kernel)
  obtain ⟨A, B, hh, T, n, W, rs, C⟩ := V
  have hA : Rp (vC X 1) A := hV.1
  have hyA : A 5 1 ≤ 999 := hV.2.1
  have hB : hh = true → Rp (vC X 2) B ∧ B 5 1 ≤ 999 := hV.2.2.1
  have hi : X 0 8 = zI (b2i hh) := hV.2.2.2.1
  have hT : Txt X T n := hV.2.2.2.2.1
  have hW : RWp X W rs := hV.2.2.2.2.2.1
  have hCn : ∀ k, k < 7 → X 8 k = zI (C k : Nat) := hV.2.2.2.2.2.2
  have hn8 := hA.n8
  have hn96 := hT.2.1
  have hrs := hW.2.1
  refine ev_iload_n (pc := 0) hC dX5_letter_0 rfl ?_
  refine ev_iconst (pc := 1) hC dX5_letter_1 ?_
  refine ev_sipush (pc := 2) hC dX5_letter_2 (by decide) ?_
  refine ev_callS (pc := 5) (as := [vi x0, vi 0, vi 255]) (rest := []) hC gX5_letter_X5_range mtX5_range dX5_letter_5 (ru_X5_range x0 0 255 (by omega) (by omega) (by omega)) (by decide) (by rfl) (Nat.le_of_ble_eq_true rfl) rfl (fun v5 X5 h5 => ?_)
  obtain ⟨rfl, rfl⟩ := h5
  show Ev K 8 [some (.ref 0), some (vi x0), none] [vi (bnd x0 0 255)] X
  have hcd5 := bnd_cases x0 0 255
  refine ev_istore_n (pc := 8) hC dX5_letter_8 (by rw [hKn]; decide) rfl ?_
  show Ev K 9 [some (.ref 0), some (vi x0), some (vi (bnd x0 0 255))] [] X
  refine ev_iload_n (pc := 9) hC dX5_letter_9 rfl ?_
  refine ev_if_ne (pc := 10) hC 26 dX5_letter_10 (by decide) (by omega) (fun c10 => ?_) (fun c10 => ?_)
  · refine ev_iload_n (pc := 26) hC dX5_letter_26 rfl ?_
    refine ev_if_eq (pc := 27) hC 38 dX5_letter_27 (by decide) (by omega) (fun c27 => ?_) (fun c27 => ?_)
    · exact absurd c27 (by omega)
    · refine ev_aload_n (pc := 30) hC dX5_letter_30 rfl ?_
      refine ev_iload_n (pc := 31) hC dX5_letter_31 rfl ?_
      refine ev_callV (pc := 32) (as := [vi (bnd x0 0 255)]) (rest := []) hC gX5_letter_X5_refuse mtX5_refuse dX5_letter_32 (ru_X5_refuse (bnd x0 0 255) (by omega)) (by decide) (by decide) (by decide) rfl (by rfl) (Nat.le_of_ble_eq_true rfl) rfl (fun v32 X32 h32 => ?_)
      obtain ⟨rfl, rfl⟩ := h32
      show Ev K 35 [some (.ref 0), some (vi x0), some (vi (bnd x0 0 255))] [vi (bnd x0 0 255)] (mset X 8 (-(bnd x0 0 255)).toNat (X 8 (-(bnd x0 0 255)).toNat + 1))
      refine ev_goto (pc := 35) hC 46 dX5_letter_35 (by decide) ?_
      exact ev_ireturn (pc := 46) hC hR dX5_letter_46 (no_end (fulC_x c10) c10 hV)
  · refine ev_aload_n (pc := 13) hC dX5_letter_13 rfl ?_
    refine ev_getr (pc := 14) hC 6 f43 dX5_letter_14 (by decide) (by decide) (by decide) (by decide) (by decide) ?_
    refine ev_callV (pc := 17) (as := []) (rest := []) hC gX5_letter_X4_isFull mtX4_isFull dX5_letter_17 (ru_X4_isFull hT.1 hT.2.1) (by decide) (by decide) (by decide) rfl (by rfl) (Nat.le_of_ble_eq_true rfl) rfl (fun v17 X17 h17 => ?_)
    obtain ⟨rfl, rfl⟩ := h17
    show Ev K 20 [some (.ref 0), some (vi x0), some (vi (bnd x0 0 255))] [vi (b2i (decide (96 ≤ n)))] X
    have hrb17 := b2i_r (decide (96 ≤ n))
    refine ev_if_eq (pc := 20) hC 26 dX5_letter_20 (by decide) (by omega) (fun c20 => ?_) (fun c20 => ?_)
    · obtain ⟨p0, rfl⟩ : ∃ k : Nat, x0 = (k : Int) := ⟨x0.toNat, by omega⟩
      refine ev_iload_n (pc := 26) hC dX5_letter_26 rfl ?_
      refine ev_if_eq (pc := 27) hC 38 dX5_letter_27 (by decide) (by omega) (fun c27 => ?_) (fun c27 => ?_)
      · have hnf := of_decide_eq_false (b2i_0 c20)
        refine ev_aload_n (pc := 38) hC dX5_letter_38 rfl ?_
        refine ev_getr (pc := 39) hC 6 f43 dX5_letter_39 (by decide) (by decide) (by decide) (by decide) (by decide) ?_
        refine ev_iload_n (pc := 42) hC dX5_letter_42 rfl ?_
        refine ev_callV (pc := 43) (as := [vi ((p0 : Nat) : Int)]) (rest := []) hC gX5_letter_X4_append mtX4_append dX5_letter_43 (ru_X4_append ((p0 : Nat) : Int) hT.1 (by omega)) (by decide) (by decide) (by decide) rfl (by rfl) (Nat.le_of_ble_eq_true rfl) rfl (fun v43 X43 h43 => ?_)
        obtain ⟨rfl, rfl⟩ := h43
        show Ev K 46 [some (.ref 0), some (vi ((p0 : Nat) : Int)), some (vi (bnd ((p0 : Nat) : Int) 0 255))] [vi ((n + 1 : Nat) : Int)] (mset (mset X 9 n (zI ((p0 : Nat) : Int))) 6 3 (zI ((n + 1 : Nat) : Int)))
        exact ev_ireturn (pc := 46) hC hR dX5_letter_46 (ok_end (fulC_o (by omega) (decide_eq_false (by first | (show ¬ (999 : Int) < (A 5 1 : Int) + ((p0 : Nat) : Int); omega) | omega | exact of_decide_eq_false (b2i_0 c20)))) rfl (cI_putT hV (by show n < 96; omega) (by omega)) (frC_set (frC_set (frC_rf X) (by omega)) (by omega)))
      · exact absurd c27 (by omega)
    · refine ev_bipush (pc := 23) hC dX5_letter_23 (by decide) ?_
      refine ev_istore_n (pc := 25) hC dX5_letter_25 (by rw [hKn]; decide) rfl ?_
      show Ev K 26 [some (.ref 0), some (vi x0), some (vi (-6))] [] X
      refine ev_iload_n (pc := 26) hC dX5_letter_26 rfl ?_
      refine ev_if_eq (pc := 27) hC 38 dX5_letter_27 (by decide) (by omega) (fun c27 => absurd c27 (by decide)) (fun c27 => ?_)
      refine ev_aload_n (pc := 30) hC dX5_letter_30 rfl ?_
      refine ev_iload_n (pc := 31) hC dX5_letter_31 rfl ?_
      refine ev_callV (pc := 32) (as := [vi (-6)]) (rest := []) hC gX5_letter_X5_refuse mtX5_refuse dX5_letter_32 (ru_X5_refuse (-6) (by omega)) (by decide) (by decide) (by decide) rfl (by rfl) (Nat.le_of_ble_eq_true rfl) rfl (fun v32 X32 h32 => ?_)
      obtain ⟨rfl, rfl⟩ := h32
      show Ev K 35 [some (.ref 0), some (vi x0), some (vi (-6))] [vi (-6)] (mset X 8 (-(-6)).toNat (X 8 (-(-6)).toNat + 1))
      refine ev_goto (pc := 35) hC 46 dX5_letter_35 (by decide) ?_
      exact ev_ireturn (pc := 46) hC hR dX5_letter_46 (no_end (fulC_f (by omega) (decide_eq_true (by first | (show (999 : Int) < (A 5 1 : Int) + x0; omega) | omega | exact of_decide_eq_true (b2i_1 c20)))) (by decide) hV)
theorem mtX5_row : MT yX5_row wsX5_row cX5_row 3 (some .int) 1 := ⟨⟨_, rfl⟩, by decide, by decide, by decide +kernel⟩
set_option maxRecDepth 100000 in
set_option maxHeartbeats 4000000 in
theorem ru_X5_row {X : Mem} {V : St} (hV : cI X V) (x0 : Int) (hx0 : -2147483648 ≤ x0 ∧ x0 ≤ 2147483647) : Ru yX5_row wsX5_row 2 41 [.ref 0, vi x0] X (fun v X' => v = some (vi (sp30 x0 V).1) ∧ cI X' (sp30 x0 V).2 ∧ frC X X') := by
  refine ru_of (w2 := _) rfl (by decide) [some (.ref 0), some (vi x0), none] (fun _ => rfl) (fun _ => Nat.le_of_ble_eq_true rfl) ?_
  intro K hKn hC hR
  have wX5 : ∀ w ∈ u_ws RX5 TX5 9, w ∈ wsX5_row := by decide +kernel
  have f50 : Fl K RX5 50 5 6 := fl_of hC RX5 TX5 9 rfl (by decide) wX5 (show Cond.fieldLink RX5 50 "PicnicOfSomebody" "told" "LPicnicOfSomebody$Row;" ∈ _ by decide +kernel)
  obtain ⟨A, B, hh, T, n, W, rs, C⟩ := V
  have hA : Rp (vC X 1) A := hV.1
  have hyA : A 5 1 ≤ 999 := hV.2.1
  have hB : hh = true → Rp (vC X 2) B ∧ B 5 1 ≤ 999 := hV.2.2.1
  have hi : X 0 8 = zI (b2i hh) := hV.2.2.2.1
  have hT : Txt X T n := hV.2.2.2.2.1
  have hW : RWp X W rs := hV.2.2.2.2.2.1
  have hCn : ∀ k, k < 7 → X 8 k = zI (C k : Nat) := hV.2.2.2.2.2.2
  have hn8 := hA.n8
  have hn96 := hT.2.1
  have hrs := hW.2.1
  refine ev_iload_n (pc := 0) hC dX5_row_0 rfl ?_
  refine ev_iconst (pc := 1) hC dX5_row_1 ?_
  refine ev_bipush (pc := 2) hC dX5_row_2 (by decide) ?_
  refine ev_callS (pc := 4) (as := [vi x0, vi 0, vi 99]) (rest := []) hC gX5_row_X5_range mtX5_range dX5_row_4 (ru_X5_range x0 0 99 (by omega) (by omega) (by omega)) (by decide) (by rfl) (Nat.le_of_ble_eq_true rfl) rfl (fun v4 X4 h4 => ?_)
  obtain ⟨rfl, rfl⟩ := h4
  show Ev K 7 [some (.ref 0), some (vi x0), none] [vi (bnd x0 0 99)] X
  have hcd4 := bnd_cases x0 0 99
  refine ev_istore_n (pc := 7) hC dX5_row_7 (by rw [hKn]; decide) rfl ?_
  show Ev K 8 [some (.ref 0), some (vi x0), some (vi (bnd x0 0 99))] [] X
  refine ev_iload_n (pc := 8) hC dX5_row_8 rfl ?_
  refine ev_if_ne (pc := 9) hC 25 dX5_row_9 (by decide) (by omega) (fun c9 => ?_) (fun c9 => ?_)
  · refine ev_iload_n (pc := 25) hC dX5_row_25 rfl ?_
    refine ev_if_eq (pc := 26) hC 37 dX5_row_26 (by decide) (by omega) (fun c26 => ?_) (fun c26 => ?_)
    · exact absurd c26 (by omega)
    · refine ev_aload_n (pc := 29) hC dX5_row_29 rfl ?_
      refine ev_iload_n (pc := 30) hC dX5_row_30 rfl ?_
      refine ev_callV (pc := 31) (as := [vi (bnd x0 0 99)]) (rest := []) hC gX5_row_X5_refuse mtX5_refuse dX5_row_31 (ru_X5_refuse (bnd x0 0 99) (by omega)) (by decide) (by decide) (by decide) rfl (by rfl) (Nat.le_of_ble_eq_true rfl) rfl (fun v31 X31 h31 => ?_)
      obtain ⟨rfl, rfl⟩ := h31
      show Ev K 34 [some (.ref 0), some (vi x0), some (vi (bnd x0 0 99))] [vi (bnd x0 0 99)] (mset X 8 (-(bnd x0 0 99)).toNat (X 8 (-(bnd x0 0 99)).toNat + 1))
      refine ev_goto (pc := 34) hC 45 dX5_row_34 (by decide) ?_
      exact ev_ireturn (pc := 45) hC hR dX5_row_45 (no_end (fulC_x c9) c9 hV)
  · refine ev_aload_n (pc := 12) hC dX5_row_12 rfl ?_
    refine ev_getr (pc := 13) hC 7 f50 dX5_row_13 (by decide) (by decide) (by decide) (by decide) (by decide) ?_
    refine ev_callV (pc := 16) (as := []) (rest := []) hC gX5_row_X2_isFull mtX2_isFull dX5_row_16 (ru_X2_isFull hW.1 hW.2.1) (by decide) (by decide) (by decide) rfl (by rfl) (Nat.le_of_ble_eq_true rfl) rfl (fun v16 X16 h16 => ?_)
    obtain ⟨rfl, rfl⟩ := h16
    show Ev K 19 [some (.ref 0), some (vi x0), some (vi (bnd x0 0 99))] [vi (b2i (decide (16 ≤ rs)))] X
    have hrb16 := b2i_r (decide (16 ≤ rs))
    refine ev_if_eq (pc := 19) hC 25 dX5_row_19 (by decide) (by omega) (fun c19 => ?_) (fun c19 => ?_)
    · obtain ⟨p0, rfl⟩ : ∃ k : Nat, x0 = (k : Int) := ⟨x0.toNat, by omega⟩
      refine ev_iload_n (pc := 25) hC dX5_row_25 rfl ?_
      refine ev_if_eq (pc := 26) hC 37 dX5_row_26 (by decide) (by omega) (fun c26 => ?_) (fun c26 => ?_)
      · have hnf := of_decide_eq_false (b2i_0 c19)
        refine ev_aload_n (pc := 37) hC dX5_row_37 rfl ?_
        refine ev_getr (pc := 38) hC 7 f50 dX5_row_38 (by decide) (by decide) (by decide) (by decide) (by decide) ?_
        refine ev_iload_n (pc := 41) hC dX5_row_41 rfl ?_
        refine ev_callV (pc := 42) (as := [vi ((p0 : Nat) : Int)]) (rest := []) hC gX5_row_X2_append mtX2_append dX5_row_42 (ru_X2_append ((p0 : Nat) : Int) hW.1 (by omega)) (by decide) (by decide) (by decide) rfl (by rfl) (Nat.le_of_ble_eq_true rfl) rfl (fun v42 X42 h42 => ?_)
        obtain ⟨rfl, rfl⟩ := h42
        show Ev K 45 [some (.ref 0), some (vi ((p0 : Nat) : Int)), some (vi (bnd ((p0 : Nat) : Int) 0 99))] [vi ((rs + 1 : Nat) : Int)] (mset (mset X 10 rs (zI ((p0 : Nat) : Int))) 7 1 (zI ((rs + 1 : Nat) : Int)))
        exact ev_ireturn (pc := 45) hC hR dX5_row_45 (ok_end (fulC_o (by omega) (decide_eq_false (by first | (show ¬ (999 : Int) < (A 5 1 : Int) + ((p0 : Nat) : Int); omega) | omega | exact of_decide_eq_false (b2i_0 c19)))) rfl (cI_putW hV (by show rs < 16; omega) (by omega)) (frC_set (frC_set (frC_rf X) (by omega)) (by omega)))
      · exact absurd c26 (by omega)
    · refine ev_bipush (pc := 22) hC dX5_row_22 (by decide) ?_
      refine ev_istore_n (pc := 24) hC dX5_row_24 (by rw [hKn]; decide) rfl ?_
      show Ev K 25 [some (.ref 0), some (vi x0), some (vi (-6))] [] X
      refine ev_iload_n (pc := 25) hC dX5_row_25 rfl ?_
      refine ev_if_eq (pc := 26) hC 37 dX5_row_26 (by decide) (by omega) (fun c26 => absurd c26 (by decide)) (fun c26 => ?_)
      refine ev_aload_n (pc := 29) hC dX5_row_29 rfl ?_
      refine ev_iload_n (pc := 30) hC dX5_row_30 rfl ?_
      refine ev_callV (pc := 31) (as := [vi (-6)]) (rest := []) hC gX5_row_X5_refuse mtX5_refuse dX5_row_31 (ru_X5_refuse (-6) (by omega)) (by decide) (by decide) (by decide) rfl (by rfl) (Nat.le_of_ble_eq_true rfl) rfl (fun v31 X31 h31 => ?_)
      obtain ⟨rfl, rfl⟩ := h31
      show Ev K 34 [some (.ref 0), some (vi x0), some (vi (-6))] [vi (-6)] (mset X 8 (-(-6)).toNat (X 8 (-(-6)).toNat + 1))
      refine ev_goto (pc := 34) hC 45 dX5_row_34 (by decide) ?_
      exact ev_ireturn (pc := 45) hC hR dX5_row_45 (no_end (fulC_f (by omega) (decide_eq_true (by first | (show (999 : Int) < (A 5 1 : Int) + x0; omega) | omega | exact of_decide_eq_true (b2i_1 c19)))) (by decide) hV)
theorem mtX5_years : MT yX5_years wsX5_years cX5_years 3 (some .int) 1 := ⟨⟨_, rfl⟩, by decide, by decide, by decide +kernel⟩
set_option maxRecDepth 100000 in
set_option maxHeartbeats 4000000 in
theorem ru_X5_years {X : Mem} {V : St} (hV : cI X V) (x0 : Int) (hx0 : -2147483648 ≤ x0 ∧ x0 ≤ 2147483647) : Ru yX5_years wsX5_years 5 139 [.ref 0, vi x0] X (fun v X' => v = some (vi (sp9 x0 V).1) ∧ cI X' (sp9 x0 V).2 ∧ frC X X') := by
  refine ru_of (w2 := _) rfl (by decide) [some (.ref 0), some (vi x0), none] (fun _ => rfl) (fun _ => Nat.le_of_ble_eq_true rfl) ?_
  intro K hKn hC hR
  have wX5 : ∀ w ∈ u_ws RX5 TX5 9, w ∈ wsX5_years := by decide +kernel
  have f12 : Fl K RX5 12 5 0 := fl_of hC RX5 TX5 9 rfl (by decide) wX5 (show Cond.fieldLink RX5 12 "PicnicOfSomebody" "now" "LPicnicOfSomebody$Slope;" ∈ _ by decide +kernel)
  have wX3 : ∀ w ∈ u_ws RX3 TX3 8, w ∈ wsX5_years := by decide +kernel
  have f129 : Fl K RX5 129 3 7 := fl_of hC RX3 TX3 8 rfl (by decide) wX3 (show Cond.fieldLink RX5 129 "PicnicOfSomebody$Slope" "year" "I" ∈ _ by decide +kernel)
  obtain ⟨A, B, hh, T, n, W, rs, C⟩ := V
  have hA : Rp (vC X 1) A := hV.1
  have hyA : A 5 1 ≤ 999 := hV.2.1
  have hB : hh = true → Rp (vC X 2) B ∧ B 5 1 ≤ 999 := hV.2.2.1
  have hi : X 0 8 = zI (b2i hh) := hV.2.2.2.1
  have hT : Txt X T n := hV.2.2.2.2.1
  have hW : RWp X W rs := hV.2.2.2.2.2.1
  have hCn : ∀ k, k < 7 → X 8 k = zI (C k : Nat) := hV.2.2.2.2.2.2
  have hn8 := hA.n8
  have hn96 := hT.2.1
  have hrs := hW.2.1
  refine ev_iload_n (pc := 0) hC dX5_years_0 rfl ?_
  refine ev_iconst (pc := 1) hC dX5_years_1 ?_
  refine ev_bipush (pc := 2) hC dX5_years_2 (by decide) ?_
  refine ev_callS (pc := 4) (as := [vi x0, vi 1, vi 60]) (rest := []) hC gX5_years_X5_range mtX5_range dX5_years_4 (ru_X5_range x0 1 60 (by omega) (by omega) (by omega)) (by decide) (by rfl) (Nat.le_of_ble_eq_true rfl) rfl (fun v4 X4 h4 => ?_)
  obtain ⟨rfl, rfl⟩ := h4
  show Ev K 7 [some (.ref 0), some (vi x0), none] [vi (bnd x0 1 60)] X
  have hcd4 := bnd_cases x0 1 60
  refine ev_istore_n (pc := 7) hC dX5_years_7 (by rw [hKn]; decide) rfl ?_
  show Ev K 8 [some (.ref 0), some (vi x0), some (vi (bnd x0 1 60))] [] X
  refine ev_iload_n (pc := 8) hC dX5_years_8 rfl ?_
  refine ev_if_ne (pc := 9) hC 30 dX5_years_9 (by decide) (by omega) (fun c9 => ?_) (fun c9 => ?_)
  · refine ev_iload_n (pc := 30) hC dX5_years_30 rfl ?_
    refine ev_if_eq (pc := 31) hC 42 dX5_years_31 (by decide) (by omega) (fun c31 => ?_) (fun c31 => ?_)
    · exact absurd c31 (by omega)
    · refine ev_aload_n (pc := 34) hC dX5_years_34 rfl ?_
      refine ev_iload_n (pc := 35) hC dX5_years_35 rfl ?_
      refine ev_callV (pc := 36) (as := [vi (bnd x0 1 60)]) (rest := []) hC gX5_years_X5_refuse mtX5_refuse dX5_years_36 (ru_X5_refuse (bnd x0 1 60) (by omega)) (by decide) (by decide) (by decide) rfl (by rfl) (Nat.le_of_ble_eq_true rfl) rfl (fun v36 X36 h36 => ?_)
      obtain ⟨rfl, rfl⟩ := h36
      show Ev K 39 [some (.ref 0), some (vi x0), some (vi (bnd x0 1 60))] [vi (bnd x0 1 60)] (mset X 8 (-(bnd x0 1 60)).toNat (X 8 (-(bnd x0 1 60)).toNat + 1))
      refine ev_goto (pc := 39) hC 50 dX5_years_39 (by decide) ?_
      exact ev_ireturn (pc := 50) hC hR dX5_years_50 (no_end (fulC_x c9) c9 hV)
  · refine ev_aload_n (pc := 12) hC dX5_years_12 rfl ?_
    refine ev_getr (pc := 13) hC 1 f12 dX5_years_13 (by decide) (by decide) (by decide) (by decide) (by decide) ?_
    refine ev_geti (pc := 16) hC ((A 5 1 : Nat) : Int) f129 dX5_years_16 (by decide) (by decide) (by decide) (by decide) (by decide)  (hA.cy) ?_
    refine ev_iload_n (pc := 19) hC dX5_years_19 rfl ?_
    refine ev_iadd (pc := 20) hC (((A 5 1 : Nat) : Int) + x0) (rfl) dX5_years_20 ?_
    refine ev_sipush (pc := 21) hC dX5_years_21 (by decide) ?_
    refine ev_icmp_le (pc := 24) hC 30 dX5_years_24 (by decide) (by omega) (by omega) (fun c24 => ?_) (fun c24 => ?_)
    · obtain ⟨p0, rfl⟩ : ∃ k : Nat, x0 = (k : Int) := ⟨x0.toNat, by omega⟩
      refine ev_iload_n (pc := 30) hC dX5_years_30 rfl ?_
      refine ev_if_eq (pc := 31) hC 42 dX5_years_31 (by decide) (by omega) (fun c31 => ?_) (fun c31 => ?_)
      · refine ev_aload_n (pc := 42) hC dX5_years_42 rfl ?_
        refine ev_getr (pc := 43) hC 1 f12 dX5_years_43 (by decide) (by decide) (by decide) (by decide) (by decide) ?_
        refine ev_iload_n (pc := 46) hC dX5_years_46 rfl ?_
        refine ev_callV (pc := 47) (as := [vi ((p0 : Nat) : Int)]) (rest := []) hC gX5_years_X3_passYears mtX3_passYears dX5_years_47 (ru_X3_passYears (s := 1) spl1 hA p0 (by omega)) (by decide) (by decide) (by decide) rfl (by rfl) (Nat.le_of_ble_eq_true rfl) rfl (fun v47 X47 h47 => ?_)
        obtain ⟨rfl, hA47, hF47⟩ := h47
        show Ev K 50 [some (.ref 0), some (vi ((p0 : Nat) : Int)), some (vi (bnd ((p0 : Nat) : Int) 1 60))] [vi ((bcnt 0 (goN 0 p0 A) : Nat) : Int)] X47
        have hl47 := bcnt_le 0 (goN 0 p0 A)
        have hn47 := hA47.n8
        exact ev_ireturn (pc := 50) hC hR dX5_years_50 (ok_end (fulC_o (by omega) (decide_eq_false (by first | (show ¬ (999 : Int) < (A 5 1 : Int) + ((p0 : Nat) : Int); omega) | omega | exact of_decide_eq_false (b2i_0 c24)))) rfl (cI_putA hV hA47 (by show goN 0 p0 A 5 1 ≤ 999; rw [goN_y]; omega) hF47) (frC_1 hF47))
      · exact absurd c31 (by omega)
    · refine ev_bipush (pc := 27) hC dX5_years_27 (by decide) ?_
      refine ev_istore_n (pc := 29) hC dX5_years_29 (by rw [hKn]; decide) rfl ?_
      show Ev K 30 [some (.ref 0), some (vi x0), some (vi (-6))] [] X
      refine ev_iload_n (pc := 30) hC dX5_years_30 rfl ?_
      refine ev_if_eq (pc := 31) hC 42 dX5_years_31 (by decide) (by omega) (fun c31 => absurd c31 (by decide)) (fun c31 => ?_)
      refine ev_aload_n (pc := 34) hC dX5_years_34 rfl ?_
      refine ev_iload_n (pc := 35) hC dX5_years_35 rfl ?_
      refine ev_callV (pc := 36) (as := [vi (-6)]) (rest := []) hC gX5_years_X5_refuse mtX5_refuse dX5_years_36 (ru_X5_refuse (-6) (by omega)) (by decide) (by decide) (by decide) rfl (by rfl) (Nat.le_of_ble_eq_true rfl) rfl (fun v36 X36 h36 => ?_)
      obtain ⟨rfl, rfl⟩ := h36
      show Ev K 39 [some (.ref 0), some (vi x0), some (vi (-6))] [vi (-6)] (mset X 8 (-(-6)).toNat (X 8 (-(-6)).toNat + 1))
      refine ev_goto (pc := 39) hC 50 dX5_years_39 (by decide) ?_
      exact ev_ireturn (pc := 50) hC hR dX5_years_50 (no_end (fulC_f (by omega) (decide_eq_true (by first | (show (999 : Int) < (A 5 1 : Int) + x0; omega) | omega | exact of_decide_eq_true (b2i_1 c24)))) (by decide) hV)
theorem mtX5_wind : MT yX5_wind wsX5_wind cX5_wind 5 (some .long) 3 := ⟨⟨_, rfl⟩, by decide, by decide, by decide +kernel⟩
set_option maxRecDepth 100000 in
set_option maxHeartbeats 4000000 in
theorem ru_X5_wind {X : Mem} {V : St} (hV : cI X V) (x0 : Int) (hx0 : -2147483648 ≤ x0 ∧ x0 ≤ 2147483647) (x1 : Int) (hx1 : -2147483648 ≤ x1 ∧ x1 ≤ 2147483647) (x2 : Int) (hx2 : -2147483648 ≤ x2 ∧ x2 ≤ 2147483647) : Ru yX5_wind wsX5_wind 6 165 [.ref 0, vi x0, vi x1, vi x2] X (fun v X' => v = some (vl (sp25 x0 x1 x2 V).1) ∧ cI X' (sp25 x0 x1 x2 V).2 ∧ frC X X') := by
  refine ru_of (w2 := _) rfl (by decide) [some (.ref 0), some (vi x0), some (vi x1), some (vi x2), none] (fun _ => rfl) (fun _ => Nat.le_of_ble_eq_true rfl) ?_
  intro K hKn hC hR
  have wX5 : ∀ w ∈ u_ws RX5 TX5 9, w ∈ wsX5_wind := by decide +kernel
  have f27 : Fl K RX5 27 5 3 := fl_of hC RX5 TX5 9 rfl (by decide) wX5 (show Cond.fieldLink RX5 27 "PicnicOfSomebody" "mind" "LPicnicOfSomebody$Mind;" ∈ _ by decide +kernel)
  obtain ⟨A, B, hh, T, n, W, rs, C⟩ := V
  have hA : Rp (vC X 1) A := hV.1
  have hyA : A 5 1 ≤ 999 := hV.2.1
  have hB : hh = true → Rp (vC X 2) B ∧ B 5 1 ≤ 999 := hV.2.2.1
  have hi : X 0 8 = zI (b2i hh) := hV.2.2.2.1
  have hT : Txt X T n := hV.2.2.2.2.1
  have hW : RWp X W rs := hV.2.2.2.2.2.1
  have hCn : ∀ k, k < 7 → X 8 k = zI (C k : Nat) := hV.2.2.2.2.2.2
  have hn8 := hA.n8
  have hn96 := hT.2.1
  have hrs := hW.2.1
  refine ev_iconst (pc := 0) hC dX5_wind_0 ?_
  refine ev_istore (pc := 1) hC dX5_wind_1 (by rw [hKn]; decide) rfl ?_
  show Ev K 3 [some (.ref 0), some (vi x0), some (vi x1), some (vi x2), some (vi 0)] [] X
  refine ev_iload_n (pc := 3) hC dX5_wind_3 rfl ?_
  refine ev_if_lt (pc := 4) hC 12 dX5_wind_4 (by decide) (by omega) (fun c4 => ?_) (fun c4 => ?_)
  · refine ev_bipush (pc := 12) hC dX5_wind_12 (by decide) ?_
    refine ev_istore (pc := 14) hC dX5_wind_14 (by rw [hKn]; decide) rfl ?_
    show Ev K 16 [some (.ref 0), some (vi x0), some (vi x1), some (vi x2), some (vi (-4))] [] X
    refine ev_goto (pc := 16) hC 45 dX5_wind_16 (by decide) ?_
    refine ev_iload (pc := 45) hC dX5_wind_45 rfl ?_
    refine ev_if_eq (pc := 47) hC 62 dX5_wind_47 (by decide) (by omega) (fun c47 => absurd c47 (by decide)) (fun c47 => ?_)
    refine ev_ldc2 (pc := 50) hC 4000000000000000000 (show Cond.constantLong RX5 195 (4000000000000000000) ∈ _ by decide +kernel) (by decide) dX5_wind_50 ?_
    refine ev_aload_n (pc := 53) hC dX5_wind_53 rfl ?_
    refine ev_iload (pc := 54) hC dX5_wind_54 rfl ?_
    refine ev_callV (pc := 56) (as := [vi (-4)]) (rest := [vl 4000000000000000000]) hC gX5_wind_X5_refuse mtX5_refuse dX5_wind_56 (ru_X5_refuse (-4) (by omega)) (by decide) (by decide) (by decide) rfl (by rfl) (Nat.le_of_ble_eq_true rfl) rfl (fun v56 X56 h56 => ?_)
    obtain ⟨rfl, rfl⟩ := h56
    show Ev K 59 [some (.ref 0), some (vi x0), some (vi x1), some (vi x2), some (vi (-4))] [vi (-4), vl 4000000000000000000] (mset X 8 (-(-4)).toNat (X 8 (-(-4)).toNat + 1))
    refine ev_i2l (pc := 59) hC (by omega) dX5_wind_59 ?_
    refine ev_lsub (pc := 60) hC (4000000000000000000 - (-4)) (rfl) dX5_wind_60 ?_
    exact ev_lreturn (pc := 61) hC hR dX5_wind_61 (no_endB (wnC_b (by omega)) (by decide) hV)
  · refine ev_iload_n (pc := 7) hC dX5_wind_7 rfl ?_
    refine ev_iconst (pc := 8) hC dX5_wind_8 ?_
    refine ev_icmp_ge (pc := 9) hC 19 dX5_wind_9 (by decide) (by omega) (by omega) (fun c9 => ?_) (fun c9 => ?_)
    · refine ev_iload_n (pc := 19) hC dX5_wind_19 rfl ?_
      refine ev_bipush (pc := 20) hC dX5_wind_20 (by decide) ?_
      refine ev_icmp_gt (pc := 22) hC 31 dX5_wind_22 (by decide) (by omega) (by omega) (fun c22 => ?_) (fun c22 => ?_)
      · refine ev_bipush (pc := 31) hC dX5_wind_31 (by decide) ?_
        refine ev_istore (pc := 33) hC dX5_wind_33 (by rw [hKn]; decide) rfl ?_
        show Ev K 35 [some (.ref 0), some (vi x0), some (vi x1), some (vi x2), some (vi (-6))] [] X
        refine ev_goto (pc := 35) hC 45 dX5_wind_35 (by decide) ?_
        refine ev_iload (pc := 45) hC dX5_wind_45 rfl ?_
        refine ev_if_eq (pc := 47) hC 62 dX5_wind_47 (by decide) (by omega) (fun c47 => absurd c47 (by decide)) (fun c47 => ?_)
        refine ev_ldc2 (pc := 50) hC 4000000000000000000 (show Cond.constantLong RX5 195 (4000000000000000000) ∈ _ by decide +kernel) (by decide) dX5_wind_50 ?_
        refine ev_aload_n (pc := 53) hC dX5_wind_53 rfl ?_
        refine ev_iload (pc := 54) hC dX5_wind_54 rfl ?_
        refine ev_callV (pc := 56) (as := [vi (-6)]) (rest := [vl 4000000000000000000]) hC gX5_wind_X5_refuse mtX5_refuse dX5_wind_56 (ru_X5_refuse (-6) (by omega)) (by decide) (by decide) (by decide) rfl (by rfl) (Nat.le_of_ble_eq_true rfl) rfl (fun v56 X56 h56 => ?_)
        obtain ⟨rfl, rfl⟩ := h56
        show Ev K 59 [some (.ref 0), some (vi x0), some (vi x1), some (vi x2), some (vi (-6))] [vi (-6), vl 4000000000000000000] (mset X 8 (-(-6)).toNat (X 8 (-(-6)).toNat + 1))
        refine ev_i2l (pc := 59) hC (by omega) dX5_wind_59 ?_
        refine ev_lsub (pc := 60) hC (4000000000000000000 - (-6)) (rfl) dX5_wind_60 ?_
        exact ev_lreturn (pc := 61) hC hR dX5_wind_61 (no_endB (wnC_r (by omega) (by omega)) (by decide) hV)
      · refine ev_iload_n (pc := 25) hC dX5_wind_25 rfl ?_
        refine ev_bipush (pc := 26) hC dX5_wind_26 (by decide) ?_
        refine ev_icmp_le (pc := 28) hC 38 dX5_wind_28 (by decide) (by omega) (by omega) (fun c28 => ?_) (fun c28 => ?_)
        · refine ev_iload_n (pc := 38) hC dX5_wind_38 rfl ?_
          refine ev_iconst (pc := 39) hC dX5_wind_39 ?_
          refine ev_callS (pc := 40) (as := [vi x2, vi 2]) (rest := []) hC gX5_wind_X5_other mtX5_other dX5_wind_40 (ru_X5_other x2 2 (by omega) (by omega)) (by decide) (by rfl) (Nat.le_of_ble_eq_true rfl) rfl (fun v40 X40 h40 => ?_)
          obtain ⟨rfl, rfl⟩ := h40
          show Ev K 43 [some (.ref 0), some (vi x0), some (vi x1), some (vi x2), some (vi 0)] [vi (cdO x2 2)] X
          have hcd40 := cdO_cases x2 2
          refine ev_istore (pc := 43) hC dX5_wind_43 (by rw [hKn]; decide) rfl ?_
          show Ev K 45 [some (.ref 0), some (vi x0), some (vi x1), some (vi x2), some (vi (cdO x2 2))] [] X
          refine ev_iload (pc := 45) hC dX5_wind_45 rfl ?_
          refine ev_if_eq (pc := 47) hC 62 dX5_wind_47 (by decide) (by omega) (fun c47 => ?_) (fun c47 => ?_)
          · obtain ⟨p0, rfl⟩ : ∃ k : Nat, x0 = (k : Int) := ⟨x0.toNat, by omega⟩
            obtain ⟨p1, rfl⟩ : ∃ k : Nat, x1 = (k : Int) := ⟨x1.toNat, by omega⟩
            have hpw := pow20 (show p1 ≤ 20 by omega) (show p0 ≤ 7 by omega)
            have hwu := windU_le (A := A) (show p0 ≤ 7 by omega) (show p1 ≤ 20 by omega) (2 ^ p0)
            have hp7 : 2 ^ p0 ≤ 2 ^ 7 := Nat.pow_le_pow_right (by decide) (by omega)
            have hwm : 2 ^ p0 * 1280000000 ≤ 128 * 1280000000 := Nat.mul_le_mul_right _ hp7
            refine ev_aload_n (pc := 62) hC dX5_wind_62 rfl ?_
            refine ev_getr (pc := 63) hC 4 f27 dX5_wind_63 (by decide) (by decide) (by decide) (by decide) (by decide) ?_
            refine ev_iload_n (pc := 66) hC dX5_wind_66 rfl ?_
            refine ev_iload_n (pc := 67) hC dX5_wind_67 rfl ?_
            refine ev_callV (pc := 68) (as := [vi ((p0 : Nat) : Int), vi ((p1 : Nat) : Int)]) (rest := []) hC gX5_wind_X1_windsToAll mtX1_windsToAll dX5_wind_68 (ru_X1_windsToAll hA p0 p1 (by omega) (by omega)) (by decide) (by decide) (by decide) rfl (by rfl) (Nat.le_of_ble_eq_true rfl) rfl (fun v68 X68 h68 => ?_)
            obtain ⟨rfl, hF68⟩ := h68
            show Ev K 71 [some (.ref 0), some (vi ((p0 : Nat) : Int)), some (vi ((p1 : Nat) : Int)), some (vi x2), some (vi (cdO x2 2))] [vl ((windU p0 p1 A (2 ^ p0) : Nat) : Int)] X68
            have hN168 := hA.fr31 hF68
            have hFr68 := frS_tr (frS_rf 3 X) hF68
            refine ev_iload_n (pc := 71) hC dX5_wind_71 rfl ?_
            refine ev_iload_n (pc := 72) hC dX5_wind_72 rfl ?_
            refine ev_callS (pc := 73) (as := [vi ((p1 : Nat) : Int), vi ((p0 : Nat) : Int)]) (rest := [vl ((windU p0 p1 A (2 ^ p0) : Nat) : Int)]) hC gX5_wind_X1_power mtX1_power dX5_wind_73 (ru_X1_power p1 p0 (by omega) (by omega)) (by decide) (by rfl) (Nat.le_of_ble_eq_true rfl) rfl (fun v73 X73 h73 => ?_)
            obtain ⟨rfl, rfl⟩ := h73
            show Ev K 76 [some (.ref 0), some (vi ((p0 : Nat) : Int)), some (vi ((p1 : Nat) : Int)), some (vi x2), some (vi (cdO x2 2))] [vl ((p1 ^ p0 : Nat) : Int), vl ((windU p0 p1 A (2 ^ p0) : Nat) : Int)] X68
            refine ev_iload_n (pc := 76) hC dX5_wind_76 rfl ?_
            refine ev_callS (pc := 77) (as := [vl ((windU p0 p1 A (2 ^ p0) : Nat) : Int), vl ((p1 ^ p0 : Nat) : Int), vi x2]) (rest := []) hC gX5_wind_X5_partOf mtX5_partOf dX5_wind_77 (ru_X5_partOf (windU p0 p1 A (2 ^ p0)) (p1 ^ p0) x2 (by omega) (by omega) (by omega)) (by decide) (by rfl) (Nat.le_of_ble_eq_true rfl) rfl (fun v77 X77 h77 => ?_)
            obtain ⟨rfl, rfl⟩ := h77
            show Ev K 80 [some (.ref 0), some (vi ((p0 : Nat) : Int)), some (vi ((p1 : Nat) : Int)), some (vi x2), some (vi (cdO x2 2))] [vl (prt (windU p0 p1 A (2 ^ p0)) (p1 ^ p0) x2)] X68
            exact ev_lreturn (pc := 80) hC hR dX5_wind_80 (ok_endB ((wnC_o (by omega) (by omega)).trans c47) rfl (cI_fr3 hV hFr68) (frC_3 hFr68))
          · refine ev_ldc2 (pc := 50) hC 4000000000000000000 (show Cond.constantLong RX5 195 (4000000000000000000) ∈ _ by decide +kernel) (by decide) dX5_wind_50 ?_
            refine ev_aload_n (pc := 53) hC dX5_wind_53 rfl ?_
            refine ev_iload (pc := 54) hC dX5_wind_54 rfl ?_
            refine ev_callV (pc := 56) (as := [vi (cdO x2 2)]) (rest := [vl 4000000000000000000]) hC gX5_wind_X5_refuse mtX5_refuse dX5_wind_56 (ru_X5_refuse (cdO x2 2) (by omega)) (by decide) (by decide) (by decide) rfl (by rfl) (Nat.le_of_ble_eq_true rfl) rfl (fun v56 X56 h56 => ?_)
            obtain ⟨rfl, rfl⟩ := h56
            show Ev K 59 [some (.ref 0), some (vi x0), some (vi x1), some (vi x2), some (vi (cdO x2 2))] [vi (cdO x2 2), vl 4000000000000000000] (mset X 8 (-(cdO x2 2)).toNat (X 8 (-(cdO x2 2)).toNat + 1))
            refine ev_i2l (pc := 59) hC (by omega) dX5_wind_59 ?_
            refine ev_lsub (pc := 60) hC (4000000000000000000 - (cdO x2 2)) (rfl) dX5_wind_60 ?_
            exact ev_lreturn (pc := 61) hC hR dX5_wind_61 (no_endB (wnC_o (by omega) (by omega)) c47 hV)
        · refine ev_bipush (pc := 31) hC dX5_wind_31 (by decide) ?_
          refine ev_istore (pc := 33) hC dX5_wind_33 (by rw [hKn]; decide) rfl ?_
          show Ev K 35 [some (.ref 0), some (vi x0), some (vi x1), some (vi x2), some (vi (-6))] [] X
          refine ev_goto (pc := 35) hC 45 dX5_wind_35 (by decide) ?_
          refine ev_iload (pc := 45) hC dX5_wind_45 rfl ?_
          refine ev_if_eq (pc := 47) hC 62 dX5_wind_47 (by decide) (by omega) (fun c47 => absurd c47 (by decide)) (fun c47 => ?_)
          refine ev_ldc2 (pc := 50) hC 4000000000000000000 (show Cond.constantLong RX5 195 (4000000000000000000) ∈ _ by decide +kernel) (by decide) dX5_wind_50 ?_
          refine ev_aload_n (pc := 53) hC dX5_wind_53 rfl ?_
          refine ev_iload (pc := 54) hC dX5_wind_54 rfl ?_
          refine ev_callV (pc := 56) (as := [vi (-6)]) (rest := [vl 4000000000000000000]) hC gX5_wind_X5_refuse mtX5_refuse dX5_wind_56 (ru_X5_refuse (-6) (by omega)) (by decide) (by decide) (by decide) rfl (by rfl) (Nat.le_of_ble_eq_true rfl) rfl (fun v56 X56 h56 => ?_)
          obtain ⟨rfl, rfl⟩ := h56
          show Ev K 59 [some (.ref 0), some (vi x0), some (vi x1), some (vi x2), some (vi (-6))] [vi (-6), vl 4000000000000000000] (mset X 8 (-(-6)).toNat (X 8 (-(-6)).toNat + 1))
          refine ev_i2l (pc := 59) hC (by omega) dX5_wind_59 ?_
          refine ev_lsub (pc := 60) hC (4000000000000000000 - (-6)) (rfl) dX5_wind_60 ?_
          exact ev_lreturn (pc := 61) hC hR dX5_wind_61 (no_endB (wnC_r (by omega) (by omega)) (by decide) hV)
    · refine ev_bipush (pc := 12) hC dX5_wind_12 (by decide) ?_
      refine ev_istore (pc := 14) hC dX5_wind_14 (by rw [hKn]; decide) rfl ?_
      show Ev K 16 [some (.ref 0), some (vi x0), some (vi x1), some (vi x2), some (vi (-4))] [] X
      refine ev_goto (pc := 16) hC 45 dX5_wind_16 (by decide) ?_
      refine ev_iload (pc := 45) hC dX5_wind_45 rfl ?_
      refine ev_if_eq (pc := 47) hC 62 dX5_wind_47 (by decide) (by omega) (fun c47 => absurd c47 (by decide)) (fun c47 => ?_)
      refine ev_ldc2 (pc := 50) hC 4000000000000000000 (show Cond.constantLong RX5 195 (4000000000000000000) ∈ _ by decide +kernel) (by decide) dX5_wind_50 ?_
      refine ev_aload_n (pc := 53) hC dX5_wind_53 rfl ?_
      refine ev_iload (pc := 54) hC dX5_wind_54 rfl ?_
      refine ev_callV (pc := 56) (as := [vi (-4)]) (rest := [vl 4000000000000000000]) hC gX5_wind_X5_refuse mtX5_refuse dX5_wind_56 (ru_X5_refuse (-4) (by omega)) (by decide) (by decide) (by decide) rfl (by rfl) (Nat.le_of_ble_eq_true rfl) rfl (fun v56 X56 h56 => ?_)
      obtain ⟨rfl, rfl⟩ := h56
      show Ev K 59 [some (.ref 0), some (vi x0), some (vi x1), some (vi x2), some (vi (-4))] [vi (-4), vl 4000000000000000000] (mset X 8 (-(-4)).toNat (X 8 (-(-4)).toNat + 1))
      refine ev_i2l (pc := 59) hC (by omega) dX5_wind_59 ?_
      refine ev_lsub (pc := 60) hC (4000000000000000000 - (-4)) (rfl) dX5_wind_60 ?_
      exact ev_lreturn (pc := 61) hC hR dX5_wind_61 (no_endB (wnC_b (by omega)) (by decide) hV)
theorem mtX5_mean : MT yX5_mean wsX5_mean cX5_mean 3 (some .long) 1 := ⟨⟨_, rfl⟩, by decide, by decide, by decide +kernel⟩
set_option maxRecDepth 100000 in
set_option maxHeartbeats 4000000 in
theorem ru_X5_mean {X : Mem} {V : St} (hV : cI X V) (x0 : Int) (hx0 : -2147483648 ≤ x0 ∧ x0 ≤ 2147483647) : Ru yX5_mean wsX5_mean 2 56 [.ref 0, vi x0] X (fun v X' => v = some (vl (sp26 x0 V).1) ∧ cI X' (sp26 x0 V).2 ∧ frC X X') := by
  refine ru_of (w2 := _) rfl (by decide) [some (.ref 0), some (vi x0), none] (fun _ => rfl) (fun _ => Nat.le_of_ble_eq_true rfl) ?_
  intro K hKn hC hR
  have wX5 : ∀ w ∈ u_ws RX5 TX5 9, w ∈ wsX5_mean := by decide +kernel
  have f12 : Fl K RX5 12 5 0 := fl_of hC RX5 TX5 9 rfl (by decide) wX5 (show Cond.fieldLink RX5 12 "PicnicOfSomebody" "now" "LPicnicOfSomebody$Slope;" ∈ _ by decide +kernel)
  have wX3 : ∀ w ∈ u_ws RX3 TX3 8, w ∈ wsX5_mean := by decide +kernel
  have f211 : Fl K RX5 211 3 6 := fl_of hC RX3 TX3 8 rfl (by decide) wX3 (show Cond.fieldLink RX5 211 "PicnicOfSomebody$Slope" "people" "I" ∈ _ by decide +kernel)
  obtain ⟨A, B, hh, T, n, W, rs, C⟩ := V
  have hA : Rp (vC X 1) A := hV.1
  have hyA : A 5 1 ≤ 999 := hV.2.1
  have hB : hh = true → Rp (vC X 2) B ∧ B 5 1 ≤ 999 := hV.2.2.1
  have hi : X 0 8 = zI (b2i hh) := hV.2.2.2.1
  have hT : Txt X T n := hV.2.2.2.2.1
  have hW : RWp X W rs := hV.2.2.2.2.2.1
  have hCn : ∀ k, k < 7 → X 8 k = zI (C k : Nat) := hV.2.2.2.2.2.2
  have hn8 := hA.n8
  have hn96 := hT.2.1
  have hrs := hW.2.1
  refine ev_iload_n (pc := 0) hC dX5_mean_0 rfl ?_
  refine ev_iconst (pc := 1) hC dX5_mean_1 ?_
  refine ev_callS (pc := 2) (as := [vi x0, vi 2]) (rest := []) hC gX5_mean_X5_other mtX5_other dX5_mean_2 (ru_X5_other x0 2 (by omega) (by omega)) (by decide) (by rfl) (Nat.le_of_ble_eq_true rfl) rfl (fun v2 X2 h2 => ?_)
  obtain ⟨rfl, rfl⟩ := h2
  show Ev K 5 [some (.ref 0), some (vi x0), none] [vi (cdO x0 2)] X
  have hcd2 := cdO_cases x0 2
  refine ev_istore_n (pc := 5) hC dX5_mean_5 (by rw [hKn]; decide) rfl ?_
  show Ev K 6 [some (.ref 0), some (vi x0), some (vi (cdO x0 2))] [] X
  refine ev_iload_n (pc := 6) hC dX5_mean_6 rfl ?_
  refine ev_if_eq (pc := 7) hC 23 dX5_mean_7 (by decide) (by omega) (fun c7 => ?_) (fun c7 => ?_)
  · refine ev_aload_n (pc := 23) hC dX5_mean_23 rfl ?_
    refine ev_getr (pc := 24) hC 1 f12 dX5_mean_24 (by decide) (by decide) (by decide) (by decide) (by decide) ?_
    refine ev_callV (pc := 27) (as := []) (rest := []) hC gX5_mean_X3_allBelief mtX3_allBelief dX5_mean_27 (ru_X3_allBelief (s := 1) spl1 hA) (by decide) (by decide) (by decide) rfl (by rfl) (Nat.le_of_ble_eq_true rfl) rfl (fun v27 X27 h27 => ?_)
    obtain ⟨rfl, rfl⟩ := h27
    show Ev K 30 [some (.ref 0), some (vi x0), some (vi (cdO x0 2))] [vi ((sumB (A 5 0) (A 4) : Nat) : Int)] X
    have hl27 := allB_le hA.ok
    refine ev_i2l (pc := 30) hC (by omega) dX5_mean_30 ?_
    refine ev_aload_n (pc := 31) hC dX5_mean_31 rfl ?_
    refine ev_getr (pc := 32) hC 1 f12 dX5_mean_32 (by decide) (by decide) (by decide) (by decide) (by decide) ?_
    refine ev_geti (pc := 35) hC ((A 5 0 : Nat) : Int) f211 dX5_mean_35 (by decide) (by decide) (by decide) (by decide) (by decide)  (hA.cn) ?_
    refine ev_i2l (pc := 38) hC (by omega) dX5_mean_38 ?_
    refine ev_iload_n (pc := 39) hC dX5_mean_39 rfl ?_
    refine ev_callS (pc := 40) (as := [vl ((sumB (A 5 0) (A 4) : Nat) : Int), vl ((A 5 0 : Nat) : Int), vi x0]) (rest := []) hC gX5_mean_X5_partOf mtX5_partOf dX5_mean_40 (ru_X5_partOf (sumB (A 5 0) (A 4)) (A 5 0) x0 (by omega) (by omega) (by omega)) (by decide) (by rfl) (Nat.le_of_ble_eq_true rfl) rfl (fun v40 X40 h40 => ?_)
    obtain ⟨rfl, rfl⟩ := h40
    show Ev K 43 [some (.ref 0), some (vi x0), some (vi (cdO x0 2))] [vl (prt (sumB (A 5 0) (A 4)) (A 5 0) x0)] X
    exact ev_lreturn (pc := 43) hC hR dX5_mean_43 (ok_endB c7 rfl hV (frC_rf X))
  · refine ev_ldc2 (pc := 10) hC 4000000000000000000 (show Cond.constantLong RX5 195 (4000000000000000000) ∈ _ by decide +kernel) (by decide) dX5_mean_10 ?_
    refine ev_aload_n (pc := 13) hC dX5_mean_13 rfl ?_
    refine ev_iload_n (pc := 14) hC dX5_mean_14 rfl ?_
    refine ev_callV (pc := 15) (as := [vi (cdO x0 2)]) (rest := [vl 4000000000000000000]) hC gX5_mean_X5_refuse mtX5_refuse dX5_mean_15 (ru_X5_refuse (cdO x0 2) (by omega)) (by decide) (by decide) (by decide) rfl (by rfl) (Nat.le_of_ble_eq_true rfl) rfl (fun v15 X15 h15 => ?_)
    obtain ⟨rfl, rfl⟩ := h15
    show Ev K 18 [some (.ref 0), some (vi x0), some (vi (cdO x0 2))] [vi (cdO x0 2), vl 4000000000000000000] (mset X 8 (-(cdO x0 2)).toNat (X 8 (-(cdO x0 2)).toNat + 1))
    refine ev_i2l (pc := 18) hC (by omega) dX5_mean_18 ?_
    refine ev_lsub (pc := 19) hC (4000000000000000000 - (cdO x0 2)) (rfl) dX5_mean_19 ?_
    refine ev_goto (pc := 20) hC 43 dX5_mean_20 (by decide) ?_
    exact ev_lreturn (pc := 43) hC hR dX5_mean_43 (no_endB rfl c7 hV)
theorem mtX5_two : MT yX5_two wsX5_two cX5_two 5 (some .int) 3 := ⟨⟨_, rfl⟩, by decide, by decide, by decide +kernel⟩
set_option maxRecDepth 100000 in
set_option maxHeartbeats 4000000 in
theorem ru_X5_two {X : Mem} {V : St} (hV : cI X V) (x0 : Int) (hx0 : -2147483648 ≤ x0 ∧ x0 ≤ 2147483647) (x1 : Int) (hx1 : -2147483648 ≤ x1 ∧ x1 ≤ 2147483647) (x2 : Int) (hx2 : -2147483648 ≤ x2 ∧ x2 ≤ 2147483647) : Ru yX5_two wsX5_two 7 192 [.ref 0, vi x0, vi x1, vi x2] X (fun v X' => v = some (vi (sp27 x0 x1 x2 V).1) ∧ cI X' (sp27 x0 x1 x2 V).2 ∧ frC X X') := by
  refine ru_of (w2 := _) rfl (by decide) [some (.ref 0), some (vi x0), some (vi x1), some (vi x2), none] (fun _ => rfl) (fun _ => Nat.le_of_ble_eq_true rfl) ?_
  intro K hKn hC hR
  have wX5 : ∀ w ∈ u_ws RX5 TX5 9, w ∈ wsX5_two := by decide +kernel
  have f27 : Fl K RX5 27 5 3 := fl_of hC RX5 TX5 9 rfl (by decide) wX5 (show Cond.fieldLink RX5 27 "PicnicOfSomebody" "mind" "LPicnicOfSomebody$Mind;" ∈ _ by decide +kernel)
  obtain ⟨A, B, hh, T, n, W, rs, C⟩ := V
  have hA : Rp (vC X 1) A := hV.1
  have hyA : A 5 1 ≤ 999 := hV.2.1
  have hB : hh = true → Rp (vC X 2) B ∧ B 5 1 ≤ 999 := hV.2.2.1
  have hi : X 0 8 = zI (b2i hh) := hV.2.2.2.1
  have hT : Txt X T n := hV.2.2.2.2.1
  have hW : RWp X W rs := hV.2.2.2.2.2.1
  have hCn : ∀ k, k < 7 → X 8 k = zI (C k : Nat) := hV.2.2.2.2.2.2
  have hn8 := hA.n8
  have hn96 := hT.2.1
  have hrs := hW.2.1
  refine ev_aload_n (pc := 0) hC dX5_two_0 rfl ?_
  refine ev_iload_n (pc := 1) hC dX5_two_1 rfl ?_
  refine ev_callV (pc := 2) (as := [vi x0]) (rest := []) hC gX5_two_X5_noPerson mtX5_noPerson dX5_two_2 (ru_X5_noPerson hA x0 (by omega)) (by decide) (by decide) (by decide) rfl (by rfl) (Nat.le_of_ble_eq_true rfl) rfl (fun v2 X2 h2 => ?_)
  obtain ⟨rfl, rfl⟩ := h2
  show Ev K 5 [some (.ref 0), some (vi x0), some (vi x1), some (vi x2), none] [vi (cdP A x0)] X
  have hcd2 := cdP_cases A x0
  refine ev_aload_n (pc := 5) hC dX5_two_5 rfl ?_
  refine ev_iload_n (pc := 6) hC dX5_two_6 rfl ?_
  refine ev_callV (pc := 7) (as := [vi x1]) (rest := [vi (cdP A x0)]) hC gX5_two_X5_noPerson mtX5_noPerson dX5_two_7 (ru_X5_noPerson hA x1 (by omega)) (by decide) (by decide) (by decide) rfl (by rfl) (Nat.le_of_ble_eq_true rfl) rfl (fun v7 X7 h7 => ?_)
  obtain ⟨rfl, rfl⟩ := h7
  show Ev K 10 [some (.ref 0), some (vi x0), some (vi x1), some (vi x2), none] [vi (cdP A x1), vi (cdP A x0)] X
  have hcd7 := cdP_cases A x1
  refine ev_iload_n (pc := 10) hC dX5_two_10 rfl ?_
  refine ev_iload_n (pc := 11) hC dX5_two_11 rfl ?_
  refine ev_icmp_ne (pc := 12) hC 19 dX5_two_12 (by decide) (by omega) (by omega) (fun c12 => ?_) (fun c12 => ?_)
  · refine ev_iconst (pc := 19) hC dX5_two_19 ?_
    refine ev_callS (pc := 20) (as := [vi (cdP A x0), vi (cdP A x1), vi 0]) (rest := []) hC gX5_two_X5_firstOf mtX5_firstOf dX5_two_20 (ru_X5_firstOf (cdP A x0) (cdP A x1) 0 (by omega) (by omega) (by omega)) (by decide) (by rfl) (Nat.le_of_ble_eq_true rfl) rfl (fun v20 X20 h20 => ?_)
    obtain ⟨rfl, rfl⟩ := h20
    show Ev K 23 [some (.ref 0), some (vi x0), some (vi x1), some (vi x2), none] [vi (f3 (cdP A x0) (cdP A x1) 0)] X
    have hcd20 := f3_cases (cdP A x0) (cdP A x1) 0
    refine ev_istore (pc := 23) hC dX5_two_23 (by rw [hKn]; decide) rfl ?_
    show Ev K 25 [some (.ref 0), some (vi x0), some (vi x1), some (vi x2), some (vi (f3 (cdP A x0) (cdP A x1) 0))] [] X
    refine ev_iload (pc := 25) hC dX5_two_25 rfl ?_
    refine ev_if_ne (pc := 27) hC 39 dX5_two_27 (by decide) (by omega) (fun c27 => ?_) (fun c27 => ?_)
    · refine ev_iload (pc := 39) hC dX5_two_39 rfl ?_
      refine ev_if_eq (pc := 41) hC 53 dX5_two_41 (by decide) (by omega) (fun c41 => ?_) (fun c41 => ?_)
      · exact absurd c41 (by omega)
      · refine ev_aload_n (pc := 44) hC dX5_two_44 rfl ?_
        refine ev_iload (pc := 45) hC dX5_two_45 rfl ?_
        refine ev_callV (pc := 47) (as := [vi (f3 (cdP A x0) (cdP A x1) 0)]) (rest := []) hC gX5_two_X5_refuse mtX5_refuse dX5_two_47 (ru_X5_refuse (f3 (cdP A x0) (cdP A x1) 0) (by omega)) (by decide) (by decide) (by decide) rfl (by rfl) (Nat.le_of_ble_eq_true rfl) rfl (fun v47 X47 h47 => ?_)
        obtain ⟨rfl, rfl⟩ := h47
        show Ev K 50 [some (.ref 0), some (vi x0), some (vi x1), some (vi x2), some (vi (f3 (cdP A x0) (cdP A x1) 0))] [vi (f3 (cdP A x0) (cdP A x1) 0)] (mset X 8 (-(f3 (cdP A x0) (cdP A x1) 0)).toNat (X 8 (-(f3 (cdP A x0) (cdP A x1) 0)).toNat + 1))
        refine ev_goto (pc := 50) hC 63 dX5_two_50 (by decide) ?_
        exact ev_ireturn (pc := 63) hC hR dX5_two_63 (no_end (by rw [if_neg c12]; show f3 (f3 (cdP A x0) (cdP A x1) 0) (bnd x2 0 60) 0 = _; have := f3_cases (f3 (cdP A x0) (cdP A x1) 0) (bnd x2 0 60) 0; omega) c41 hV)
    · refine ev_iload_n (pc := 30) hC dX5_two_30 rfl ?_
      refine ev_iconst (pc := 31) hC dX5_two_31 ?_
      refine ev_bipush (pc := 32) hC dX5_two_32 (by decide) ?_
      refine ev_callS (pc := 34) (as := [vi x2, vi 0, vi 60]) (rest := []) hC gX5_two_X5_range mtX5_range dX5_two_34 (ru_X5_range x2 0 60 (by omega) (by omega) (by omega)) (by decide) (by rfl) (Nat.le_of_ble_eq_true rfl) rfl (fun v34 X34 h34 => ?_)
      obtain ⟨rfl, rfl⟩ := h34
      show Ev K 37 [some (.ref 0), some (vi x0), some (vi x1), some (vi x2), some (vi (f3 (cdP A x0) (cdP A x1) 0))] [vi (bnd x2 0 60)] X
      have hcd34 := bnd_cases x2 0 60
      refine ev_istore (pc := 37) hC dX5_two_37 (by rw [hKn]; decide) rfl ?_
      show Ev K 39 [some (.ref 0), some (vi x0), some (vi x1), some (vi x2), some (vi (bnd x2 0 60))] [] X
      refine ev_iload (pc := 39) hC dX5_two_39 rfl ?_
      refine ev_if_eq (pc := 41) hC 53 dX5_two_41 (by decide) (by omega) (fun c41 => ?_) (fun c41 => ?_)
      · obtain ⟨p0, rfl⟩ : ∃ k : Nat, x0 = (k : Int) := ⟨x0.toNat, by omega⟩
        obtain ⟨p1, rfl⟩ : ∃ k : Nat, x1 = (k : Int) := ⟨x1.toNat, by omega⟩
        obtain ⟨p2, rfl⟩ : ∃ k : Nat, x2 = (k : Int) := ⟨x2.toNat, by omega⟩
        refine ev_aload_n (pc := 53) hC dX5_two_53 rfl ?_
        refine ev_getr (pc := 54) hC 4 f27 dX5_two_54 (by decide) (by decide) (by decide) (by decide) (by decide) ?_
        refine ev_iload_n (pc := 57) hC dX5_two_57 rfl ?_
        refine ev_iload_n (pc := 58) hC dX5_two_58 rfl ?_
        refine ev_iload_n (pc := 59) hC dX5_two_59 rfl ?_
        refine ev_callV (pc := 60) (as := [vi ((p0 : Nat) : Int), vi ((p1 : Nat) : Int), vi ((p2 : Nat) : Int)]) (rest := []) hC gX5_two_X1_firstStillPair mtX1_firstStillPair dX5_two_60 (ru_X1_firstStillPair hA p0 p1 p2 (by omega) (by omega) (by omega)) (by decide) (by decide) (by decide) rfl (by rfl) (Nat.le_of_ble_eq_true rfl) rfl (fun v60 X60 h60 => ?_)
        obtain ⟨rfl, hF60⟩ := h60
        show Ev K 63 [some (.ref 0), some (vi ((p0 : Nat) : Int)), some (vi ((p1 : Nat) : Int)), some (vi ((p2 : Nat) : Int)), some (vi (bnd ((p2 : Nat) : Int) 0 60))] [vi (pairS A p0 p1 p2)] X60
        have hN160 := hA.fr31 hF60
        have hFr60 := frS_tr (frS_rf 3 X) hF60
        exact ev_ireturn (pc := 63) hC hR dX5_two_63 (ok_end (by rw [if_neg c12]; show f3 (f3 (cdP A ((p0 : Nat) : Int)) (cdP A ((p1 : Nat) : Int)) 0) (bnd ((p2 : Nat) : Int) 0 60) 0 = _; have := f3_cases (f3 (cdP A ((p0 : Nat) : Int)) (cdP A ((p1 : Nat) : Int)) 0) (bnd ((p2 : Nat) : Int) 0 60) 0; omega) rfl (cI_fr3 hV hFr60) (frC_3 hFr60))
      · refine ev_aload_n (pc := 44) hC dX5_two_44 rfl ?_
        refine ev_iload (pc := 45) hC dX5_two_45 rfl ?_
        refine ev_callV (pc := 47) (as := [vi (bnd x2 0 60)]) (rest := []) hC gX5_two_X5_refuse mtX5_refuse dX5_two_47 (ru_X5_refuse (bnd x2 0 60) (by omega)) (by decide) (by decide) (by decide) rfl (by rfl) (Nat.le_of_ble_eq_true rfl) rfl (fun v47 X47 h47 => ?_)
        obtain ⟨rfl, rfl⟩ := h47
        show Ev K 50 [some (.ref 0), some (vi x0), some (vi x1), some (vi x2), some (vi (bnd x2 0 60))] [vi (bnd x2 0 60)] (mset X 8 (-(bnd x2 0 60)).toNat (X 8 (-(bnd x2 0 60)).toNat + 1))
        refine ev_goto (pc := 50) hC 63 dX5_two_50 (by decide) ?_
        exact ev_ireturn (pc := 63) hC hR dX5_two_63 (no_end (by rw [if_neg c12]; show f3 (f3 (cdP A x0) (cdP A x1) 0) (bnd x2 0 60) 0 = _; have := f3_cases (f3 (cdP A x0) (cdP A x1) 0) (bnd x2 0 60) 0; omega) c41 hV)
  · refine ev_iconst (pc := 15) hC dX5_two_15 ?_
    refine ev_goto (pc := 16) hC 20 dX5_two_16 (by decide) ?_
    refine ev_callS (pc := 20) (as := [vi (cdP A x0), vi (cdP A x1), vi (-1)]) (rest := []) hC gX5_two_X5_firstOf mtX5_firstOf dX5_two_20 (ru_X5_firstOf (cdP A x0) (cdP A x1) (-1) (by omega) (by omega) (by omega)) (by decide) (by rfl) (Nat.le_of_ble_eq_true rfl) rfl (fun v20 X20 h20 => ?_)
    obtain ⟨rfl, rfl⟩ := h20
    show Ev K 23 [some (.ref 0), some (vi x0), some (vi x1), some (vi x2), none] [vi (f3 (cdP A x0) (cdP A x1) (-1))] X
    have hcd20 := f3_cases (cdP A x0) (cdP A x1) (-1)
    refine ev_istore (pc := 23) hC dX5_two_23 (by rw [hKn]; decide) rfl ?_
    show Ev K 25 [some (.ref 0), some (vi x0), some (vi x1), some (vi x2), some (vi (f3 (cdP A x0) (cdP A x1) (-1)))] [] X
    refine ev_iload (pc := 25) hC dX5_two_25 rfl ?_
    refine ev_if_ne (pc := 27) hC 39 dX5_two_27 (by decide) (by omega) (fun c27 => ?_) (fun c27 => ?_)
    · refine ev_iload (pc := 39) hC dX5_two_39 rfl ?_
      refine ev_if_eq (pc := 41) hC 53 dX5_two_41 (by decide) (by omega) (fun c41 => ?_) (fun c41 => ?_)
      · exact absurd c41 (by omega)
      · refine ev_aload_n (pc := 44) hC dX5_two_44 rfl ?_
        refine ev_iload (pc := 45) hC dX5_two_45 rfl ?_
        refine ev_callV (pc := 47) (as := [vi (f3 (cdP A x0) (cdP A x1) (-1))]) (rest := []) hC gX5_two_X5_refuse mtX5_refuse dX5_two_47 (ru_X5_refuse (f3 (cdP A x0) (cdP A x1) (-1)) (by omega)) (by decide) (by decide) (by decide) rfl (by rfl) (Nat.le_of_ble_eq_true rfl) rfl (fun v47 X47 h47 => ?_)
        obtain ⟨rfl, rfl⟩ := h47
        show Ev K 50 [some (.ref 0), some (vi x0), some (vi x1), some (vi x2), some (vi (f3 (cdP A x0) (cdP A x1) (-1)))] [vi (f3 (cdP A x0) (cdP A x1) (-1))] (mset X 8 (-(f3 (cdP A x0) (cdP A x1) (-1))).toNat (X 8 (-(f3 (cdP A x0) (cdP A x1) (-1))).toNat + 1))
        refine ev_goto (pc := 50) hC 63 dX5_two_50 (by decide) ?_
        exact ev_ireturn (pc := 63) hC hR dX5_two_63 (no_end (by rw [if_pos c12]; show f3 (f3 (cdP A x0) (cdP A x1) (-1)) (bnd x2 0 60) 0 = _; have := f3_cases (f3 (cdP A x0) (cdP A x1) (-1)) (bnd x2 0 60) 0; omega) c41 hV)
    · refine ev_iload_n (pc := 30) hC dX5_two_30 rfl ?_
      refine ev_iconst (pc := 31) hC dX5_two_31 ?_
      refine ev_bipush (pc := 32) hC dX5_two_32 (by decide) ?_
      refine ev_callS (pc := 34) (as := [vi x2, vi 0, vi 60]) (rest := []) hC gX5_two_X5_range mtX5_range dX5_two_34 (ru_X5_range x2 0 60 (by omega) (by omega) (by omega)) (by decide) (by rfl) (Nat.le_of_ble_eq_true rfl) rfl (fun v34 X34 h34 => ?_)
      obtain ⟨rfl, rfl⟩ := h34
      show Ev K 37 [some (.ref 0), some (vi x0), some (vi x1), some (vi x2), some (vi (f3 (cdP A x0) (cdP A x1) (-1)))] [vi (bnd x2 0 60)] X
      have hcd34 := bnd_cases x2 0 60
      refine ev_istore (pc := 37) hC dX5_two_37 (by rw [hKn]; decide) rfl ?_
      show Ev K 39 [some (.ref 0), some (vi x0), some (vi x1), some (vi x2), some (vi (bnd x2 0 60))] [] X
      refine ev_iload (pc := 39) hC dX5_two_39 rfl ?_
      refine ev_if_eq (pc := 41) hC 53 dX5_two_41 (by decide) (by omega) (fun c41 => ?_) (fun c41 => ?_)
      · obtain ⟨p0, rfl⟩ : ∃ k : Nat, x0 = (k : Int) := ⟨x0.toNat, by omega⟩
        obtain ⟨p1, rfl⟩ : ∃ k : Nat, x1 = (k : Int) := ⟨x1.toNat, by omega⟩
        obtain ⟨p2, rfl⟩ : ∃ k : Nat, x2 = (k : Int) := ⟨x2.toNat, by omega⟩
        refine ev_aload_n (pc := 53) hC dX5_two_53 rfl ?_
        refine ev_getr (pc := 54) hC 4 f27 dX5_two_54 (by decide) (by decide) (by decide) (by decide) (by decide) ?_
        refine ev_iload_n (pc := 57) hC dX5_two_57 rfl ?_
        refine ev_iload_n (pc := 58) hC dX5_two_58 rfl ?_
        refine ev_iload_n (pc := 59) hC dX5_two_59 rfl ?_
        refine ev_callV (pc := 60) (as := [vi ((p0 : Nat) : Int), vi ((p1 : Nat) : Int), vi ((p2 : Nat) : Int)]) (rest := []) hC gX5_two_X1_firstStillPair mtX1_firstStillPair dX5_two_60 (ru_X1_firstStillPair hA p0 p1 p2 (by omega) (by omega) (by omega)) (by decide) (by decide) (by decide) rfl (by rfl) (Nat.le_of_ble_eq_true rfl) rfl (fun v60 X60 h60 => ?_)
        obtain ⟨rfl, hF60⟩ := h60
        show Ev K 63 [some (.ref 0), some (vi ((p0 : Nat) : Int)), some (vi ((p1 : Nat) : Int)), some (vi ((p2 : Nat) : Int)), some (vi (bnd ((p2 : Nat) : Int) 0 60))] [vi (pairS A p0 p1 p2)] X60
        have hN160 := hA.fr31 hF60
        have hFr60 := frS_tr (frS_rf 3 X) hF60
        exact ev_ireturn (pc := 63) hC hR dX5_two_63 (ok_end (by rw [if_pos c12]; show f3 (f3 (cdP A ((p0 : Nat) : Int)) (cdP A ((p1 : Nat) : Int)) (-1)) (bnd ((p2 : Nat) : Int) 0 60) 0 = _; have := f3_cases (f3 (cdP A ((p0 : Nat) : Int)) (cdP A ((p1 : Nat) : Int)) (-1)) (bnd ((p2 : Nat) : Int) 0 60) 0; omega) rfl (cI_fr3 hV hFr60) (frC_3 hFr60))
      · refine ev_aload_n (pc := 44) hC dX5_two_44 rfl ?_
        refine ev_iload (pc := 45) hC dX5_two_45 rfl ?_
        refine ev_callV (pc := 47) (as := [vi (bnd x2 0 60)]) (rest := []) hC gX5_two_X5_refuse mtX5_refuse dX5_two_47 (ru_X5_refuse (bnd x2 0 60) (by omega)) (by decide) (by decide) (by decide) rfl (by rfl) (Nat.le_of_ble_eq_true rfl) rfl (fun v47 X47 h47 => ?_)
        obtain ⟨rfl, rfl⟩ := h47
        show Ev K 50 [some (.ref 0), some (vi x0), some (vi x1), some (vi x2), some (vi (bnd x2 0 60))] [vi (bnd x2 0 60)] (mset X 8 (-(bnd x2 0 60)).toNat (X 8 (-(bnd x2 0 60)).toNat + 1))
        refine ev_goto (pc := 50) hC 63 dX5_two_50 (by decide) ?_
        exact ev_ireturn (pc := 63) hC hR dX5_two_63 (no_end (by rw [if_pos c12]; show f3 (f3 (cdP A x0) (cdP A x1) (-1)) (bnd x2 0 60) 0 = _; have := f3_cases (f3 (cdP A x0) (cdP A x1) (-1)) (bnd x2 0 60) 0; omega) c41 hV)
theorem mtX5_judge : MT yX5_judge wsX5_judge cX5_judge 2 (some .int) 0 := ⟨⟨_, rfl⟩, by decide, by decide, by decide +kernel⟩
set_option maxRecDepth 100000 in
set_option maxHeartbeats 4000000 in
theorem ru_X5_judge {X : Mem} {V : St} (hV : cI X V) : Ru yX5_judge wsX5_judge 5 139 [.ref 0] X (fun v X' => v = some (vi (sp31  V).1) ∧ cI X' (sp31  V).2 ∧ frC X X') := by
  refine ru_of (w2 := _) rfl (by decide) [some (.ref 0), none] (fun _ => rfl) (fun _ => Nat.le_of_ble_eq_true rfl) ?_
  intro K hKn hC hR
  have wX5 : ∀ w ∈ u_ws RX5 TX5 9, w ∈ wsX5_judge := by decide +kernel
  have f27 : Fl K RX5 27 5 3 := fl_of hC RX5 TX5 9 rfl (by decide) wX5 (show Cond.fieldLink RX5 27 "PicnicOfSomebody" "mind" "LPicnicOfSomebody$Mind;" ∈ _ by decide +kernel)
  have f50 : Fl K RX5 50 5 6 := fl_of hC RX5 TX5 9 rfl (by decide) wX5 (show Cond.fieldLink RX5 50 "PicnicOfSomebody" "told" "LPicnicOfSomebody$Row;" ∈ _ by decide +kernel)
  obtain ⟨A, B, hh, T, n, W, rs, C⟩ := V
  have hA : Rp (vC X 1) A := hV.1
  have hyA : A 5 1 ≤ 999 := hV.2.1
  have hB : hh = true → Rp (vC X 2) B ∧ B 5 1 ≤ 999 := hV.2.2.1
  have hi : X 0 8 = zI (b2i hh) := hV.2.2.2.1
  have hT : Txt X T n := hV.2.2.2.2.1
  have hW : RWp X W rs := hV.2.2.2.2.2.1
  have hCn : ∀ k, k < 7 → X 8 k = zI (C k : Nat) := hV.2.2.2.2.2.2
  have hn8 := hA.n8
  have hn96 := hT.2.1
  have hrs := hW.2.1
  refine ev_aload_n (pc := 0) hC dX5_judge_0 rfl ?_
  refine ev_getr (pc := 1) hC 4 f27 dX5_judge_1 (by decide) (by decide) (by decide) (by decide) (by decide) ?_
  refine ev_aload_n (pc := 4) hC dX5_judge_4 rfl ?_
  refine ev_getr (pc := 5) hC 7 f50 dX5_judge_5 (by decide) (by decide) (by decide) (by decide) (by decide) ?_
  refine ev_callV (pc := 8) (as := [.ref 7]) (rest := []) hC gX5_judge_X1_firstWrongPlace mtX1_firstWrongPlace dX5_judge_8 (ru_X1_firstWrongPlace hA hW  ) (by decide) (by decide) (by decide) rfl (by rfl) (Nat.le_of_ble_eq_true rfl) rfl (fun v8 X8 h8 => ?_)
  obtain ⟨rfl, hF8⟩ := h8
  show Ev K 11 [some (.ref 0), none] [vi (firstB (jdP W A) rs)] X8
  have hN18 := hA.fr31 hF8
  have hFr8 := frS_tr (frS_rf 3 X) hF8
  have hWm8 := hW.fr3 hF8
  refine ev_istore_n (pc := 11) hC dX5_judge_11 (by rw [hKn]; decide) rfl ?_
  show Ev K 12 [some (.ref 0), some (vi (firstB (jdP W A) rs))] [] X8
  refine ev_aload_n (pc := 12) hC dX5_judge_12 rfl ?_
  refine ev_getr (pc := 13) hC 7 f50 dX5_judge_13 (by decide) (by decide) (by decide) (by decide) (by decide) ?_
  refine ev_callV (pc := 16) (as := []) (rest := []) hC gX5_judge_X2_empty mtX2_empty dX5_judge_16 (ru_X2_empty hWm8.1 hWm8.2.1) (by decide) (by decide) (by decide) rfl (by rfl) (Nat.le_of_ble_eq_true rfl) rfl (fun v16 X16 h16 => ?_)
  obtain ⟨rfl, rfl⟩ := h16
  show Ev K 19 [some (.ref 0), some (vi (firstB (jdP W A) rs))] [vi ((rs : Nat) : Int)] (mset X8 7 1 (zI 0))
  refine ev_pop (pc := 19) hC rfl dX5_judge_19 ?_
  refine ev_iload_n (pc := 20) hC dX5_judge_20 rfl ?_
  exact ev_ireturn (pc := 21) hC hR dX5_judge_21 (⟨rfl, cI_putW0 (cI_fr3 hV hFr8), frC_set (frC_3 hFr8) (by omega)⟩)
theorem mtX5_clear : MT yX5_clear wsX5_clear cX5_clear 1 (some .int) 0 := ⟨⟨_, rfl⟩, by decide, by decide, by decide +kernel⟩
set_option maxRecDepth 100000 in
set_option maxHeartbeats 4000000 in
theorem ru_X5_clear {X : Mem} {V : St} (hV : cI X V) : Ru yX5_clear wsX5_clear 1 21 [.ref 0] X (fun v X' => v = some (vi (sp32  V).1) ∧ cI X' (sp32  V).2 ∧ frC X X') := by
  refine ru_of (w2 := _) rfl (by decide) [some (.ref 0)] (fun _ => rfl) (fun _ => Nat.le_of_ble_eq_true rfl) ?_
  intro K hKn hC hR
  have wX5 : ∀ w ∈ u_ws RX5 TX5 9, w ∈ wsX5_clear := by decide +kernel
  have f50 : Fl K RX5 50 5 6 := fl_of hC RX5 TX5 9 rfl (by decide) wX5 (show Cond.fieldLink RX5 50 "PicnicOfSomebody" "told" "LPicnicOfSomebody$Row;" ∈ _ by decide +kernel)
  obtain ⟨A, B, hh, T, n, W, rs, C⟩ := V
  have hA : Rp (vC X 1) A := hV.1
  have hyA : A 5 1 ≤ 999 := hV.2.1
  have hB : hh = true → Rp (vC X 2) B ∧ B 5 1 ≤ 999 := hV.2.2.1
  have hi : X 0 8 = zI (b2i hh) := hV.2.2.2.1
  have hT : Txt X T n := hV.2.2.2.2.1
  have hW : RWp X W rs := hV.2.2.2.2.2.1
  have hCn : ∀ k, k < 7 → X 8 k = zI (C k : Nat) := hV.2.2.2.2.2.2
  have hn8 := hA.n8
  have hn96 := hT.2.1
  have hrs := hW.2.1
  refine ev_aload_n (pc := 0) hC dX5_clear_0 rfl ?_
  refine ev_getr (pc := 1) hC 7 f50 dX5_clear_1 (by decide) (by decide) (by decide) (by decide) (by decide) ?_
  refine ev_callV (pc := 4) (as := []) (rest := []) hC gX5_clear_X2_empty mtX2_empty dX5_clear_4 (ru_X2_empty hW.1 hW.2.1) (by decide) (by decide) (by decide) rfl (by rfl) (Nat.le_of_ble_eq_true rfl) rfl (fun v4 X4 h4 => ?_)
  obtain ⟨rfl, rfl⟩ := h4
  show Ev K 7 [some (.ref 0)] [vi ((rs : Nat) : Int)] (mset X 7 1 (zI 0))
  exact ev_ireturn (pc := 7) hC hR dX5_clear_7 (⟨rfl, cI_putW0 hV, frC_set (frC_rf X) (by omega)⟩)
theorem mtX5_slope : MT yX5_slope wsX5_slope cX5_slope 2 (some .int) 0 := ⟨⟨_, rfl⟩, by decide, by decide, by decide +kernel⟩
set_option maxRecDepth 100000 in
set_option maxHeartbeats 4000000 in
theorem ru_X5_slope {X : Mem} {V : St} (hV : cI X V) : Ru yX5_slope wsX5_slope 7 184 [.ref 0] X (fun v X' => v = some (vi (sp1  V).1) ∧ cI X' (sp1  V).2 ∧ frC X X') := by
  refine ru_of (w2 := _) rfl (by decide) [some (.ref 0), none] (fun _ => rfl) (fun _ => Nat.le_of_ble_eq_true rfl) ?_
  intro K hKn hC hR
  have wX5 : ∀ w ∈ u_ws RX5 TX5 9, w ∈ wsX5_slope := by decide +kernel
  have f43 : Fl K RX5 43 5 5 := fl_of hC RX5 TX5 9 rfl (by decide) wX5 (show Cond.fieldLink RX5 43 "PicnicOfSomebody" "text" "LPicnicOfSomebody$Text;" ∈ _ by decide +kernel)
  obtain ⟨A, B, hh, T, n, W, rs, C⟩ := V
  have hA : Rp (vC X 1) A := hV.1
  have hyA : A 5 1 ≤ 999 := hV.2.1
  have hB : hh = true → Rp (vC X 2) B ∧ B 5 1 ≤ 999 := hV.2.2.1
  have hi : X 0 8 = zI (b2i hh) := hV.2.2.2.1
  have hT : Txt X T n := hV.2.2.2.2.1
  have hW : RWp X W rs := hV.2.2.2.2.2.1
  have hCn : ∀ k, k < 7 → X 8 k = zI (C k : Nat) := hV.2.2.2.2.2.2
  have hn8 := hA.n8
  have hn96 := hT.2.1
  have hrs := hW.2.1
  refine ev_aload_n (pc := 0) hC dX5_slope_0 rfl ?_
  refine ev_getr (pc := 1) hC 6 f43 dX5_slope_1 (by decide) (by decide) (by decide) (by decide) (by decide) ?_
  refine ev_callV (pc := 4) (as := []) (rest := []) hC gX5_slope_X4_become mtX4_become dX5_slope_4 (ru_X4_become hT hA hyA) (by decide) (by decide) (by decide) rfl (by rfl) (Nat.le_of_ble_eq_true rfl) rfl (fun v4 X4 h4 => ?_)
  obtain ⟨rfl, hA4, hF4⟩ := h4
  show Ev K 7 [some (.ref 0), none] [vi ((slopeS T n A).1)] X4
  refine ev_istore_n (pc := 7) hC dX5_slope_7 (by rw [hKn]; decide) rfl ?_
  show Ev K 8 [some (.ref 0), some (vi ((slopeS T n A).1))] [] X4
  refine ev_aload_n (pc := 8) hC dX5_slope_8 rfl ?_
  refine ev_getr (pc := 9) hC 6 f43 dX5_slope_9 (by decide) (by decide) (by decide) (by decide) (by decide) ?_
  refine ev_callV (pc := 12) (as := []) (rest := []) hC gX5_slope_X4_empty mtX4_empty dX5_slope_12 (ru_X4_empty) (by decide) (by decide) (by decide) rfl (by rfl) (Nat.le_of_ble_eq_true rfl) rfl (fun v12 X12 h12 => ?_)
  obtain ⟨rfl, rfl⟩ := h12
  show Ev K 15 [some (.ref 0), some (vi ((slopeS T n A).1))] [] (mset X4 6 3 (zI 0))
  refine ev_iload_n (pc := 15) hC dX5_slope_15 rfl ?_
  exact ev_ireturn (pc := 16) hC hR dX5_slope_16 (⟨rfl, cI_putT0 hV hA4 (slopeS_year hyA) hF4, fun q hq => by rw [mset_row (by omega)]; exact hF4 q (by omega) (by omega) (by omega) (by omega)⟩)
theorem mtX5_image : MT yX5_image wsX5_image cX5_image 1 (some .int) 0 := ⟨⟨_, rfl⟩, by decide, by decide, by decide +kernel⟩
set_option maxRecDepth 100000 in
set_option maxHeartbeats 4000000 in
theorem ru_X5_image {X : Mem} {V : St} (hV : cI X V) : Ru yX5_image wsX5_image 2 61 [.ref 0] X (fun v X' => v = some (vi (sp34  V).1) ∧ cI X' (sp34  V).2 ∧ frC X X') := by
  refine ru_of (w2 := _) rfl (by decide) [some (.ref 0)] (fun _ => rfl) (fun _ => Nat.le_of_ble_eq_true rfl) ?_
  intro K hKn hC hR
  have wX5 : ∀ w ∈ u_ws RX5 TX5 9, w ∈ wsX5_image := by decide +kernel
  have f16 : Fl K RX5 16 5 1 := fl_of hC RX5 TX5 9 rfl (by decide) wX5 (show Cond.fieldLink RX5 16 "PicnicOfSomebody" "taken" "LPicnicOfSomebody$Slope;" ∈ _ by decide +kernel)
  have f12 : Fl K RX5 12 5 0 := fl_of hC RX5 TX5 9 rfl (by decide) wX5 (show Cond.fieldLink RX5 12 "PicnicOfSomebody" "now" "LPicnicOfSomebody$Slope;" ∈ _ by decide +kernel)
  have f58 : Fl K RX5 58 5 8 := fl_of hC RX5 TX5 9 rfl (by decide) wX5 (show Cond.fieldLink RX5 58 "PicnicOfSomebody" "isTaken" "Z" ∈ _ by decide +kernel)
  have wX3 : ∀ w ∈ u_ws RX3 TX3 8, w ∈ wsX5_image := by decide +kernel
  have f129 : Fl K RX5 129 3 7 := fl_of hC RX3 TX3 8 rfl (by decide) wX3 (show Cond.fieldLink RX5 129 "PicnicOfSomebody$Slope" "year" "I" ∈ _ by decide +kernel)
  obtain ⟨A, B, hh, T, n, W, rs, C⟩ := V
  have hA : Rp (vC X 1) A := hV.1
  have hyA : A 5 1 ≤ 999 := hV.2.1
  have hB : hh = true → Rp (vC X 2) B ∧ B 5 1 ≤ 999 := hV.2.2.1
  have hi : X 0 8 = zI (b2i hh) := hV.2.2.2.1
  have hT : Txt X T n := hV.2.2.2.2.1
  have hW : RWp X W rs := hV.2.2.2.2.2.1
  have hCn : ∀ k, k < 7 → X 8 k = zI (C k : Nat) := hV.2.2.2.2.2.2
  have hn8 := hA.n8
  have hn96 := hT.2.1
  have hrs := hW.2.1
  refine ev_aload_n (pc := 0) hC dX5_image_0 rfl ?_
  refine ev_getr (pc := 1) hC 2 f16 dX5_image_1 (by decide) (by decide) (by decide) (by decide) (by decide) ?_
  refine ev_aload_n (pc := 4) hC dX5_image_4 rfl ?_
  refine ev_getr (pc := 5) hC 1 f12 dX5_image_5 (by decide) (by decide) (by decide) (by decide) (by decide) ?_
  refine ev_callV (pc := 8) (as := [.ref 1]) (rest := []) hC gX5_image_X3_take mtX3_take dX5_image_8 (ru_X3_take (s := 2) (t := 1) spl2 spl1 (by decide) hA) (by decide) (by decide) (by decide) rfl (by rfl) (Nat.le_of_ble_eq_true rfl) rfl (fun v8 X8 h8 => ?_)
  obtain ⟨rfl, hA8, hF8⟩ := h8
  show Ev K 11 [some (.ref 0)] [] X8
  refine ev_aload_n (pc := 11) hC dX5_image_11 rfl ?_
  refine ev_iconst (pc := 12) hC dX5_image_12 ?_
  refine ev_puti (pc := 13) hC f58 fpX5_8 dX5_image_13 (by decide) (by decide) (by decide) (by decide) (by decide) (by decide) (by decide) ?_
  refine ev_aload_n (pc := 16) hC dX5_image_16 rfl ?_
  refine ev_getr (pc := 17) hC 1 f12 dX5_image_17 (by decide) (by decide) (by decide) (by decide) (by decide) ?_
  refine ev_geti (pc := 20) hC ((A 5 1 : Nat) : Int) f129 dX5_image_20 (by decide) (by decide) (by decide) (by decide) (by decide)  ((by rw [mset_row (by omega)]; exact (hA.keep (hF8 1 (by omega) (by omega)) (fun q hq => hF8 _ (by omega) (by omega))).cy)) ?_
  exact ev_ireturn (pc := 23) hC hR dX5_image_23 (⟨rfl, cI_take hV hA8 hF8, fun q hq => by rw [mset_row (by omega)]; exact hF8 q (by omega) (by omega)⟩)
theorem mtX5_on : MT yX5_on wsX5_on cX5_on 1 (some .int) 0 := ⟨⟨_, rfl⟩, by decide, by decide, by decide +kernel⟩
set_option maxRecDepth 100000 in
set_option maxHeartbeats 4000000 in
theorem ru_X5_on {X : Mem} {V : St} (hV : cI X V) : Ru yX5_on wsX5_on 2 61 [.ref 0] X (fun v X' => v = some (vi (sp35  V).1) ∧ cI X' (sp35  V).2 ∧ frC X X') := by
  refine ru_of (w2 := _) rfl (by decide) [some (.ref 0)] (fun _ => rfl) (fun _ => Nat.le_of_ble_eq_true rfl) ?_
  intro K hKn hC hR
  have wX5 : ∀ w ∈ u_ws RX5 TX5 9, w ∈ wsX5_on := by decide +kernel
  have f58 : Fl K RX5 58 5 8 := fl_of hC RX5 TX5 9 rfl (by decide) wX5 (show Cond.fieldLink RX5 58 "PicnicOfSomebody" "isTaken" "Z" ∈ _ by decide +kernel)
  have f12 : Fl K RX5 12 5 0 := fl_of hC RX5 TX5 9 rfl (by decide) wX5 (show Cond.fieldLink RX5 12 "PicnicOfSomebody" "now" "LPicnicOfSomebody$Slope;" ∈ _ by decide +kernel)
  have f16 : Fl K RX5 16 5 1 := fl_of hC RX5 TX5 9 rfl (by decide) wX5 (show Cond.fieldLink RX5 16 "PicnicOfSomebody" "taken" "LPicnicOfSomebody$Slope;" ∈ _ by decide +kernel)
  have wX3 : ∀ w ∈ u_ws RX3 TX3 8, w ∈ wsX5_on := by decide +kernel
  have f129 : Fl K RX5 129 3 7 := fl_of hC RX3 TX3 8 rfl (by decide) wX3 (show Cond.fieldLink RX5 129 "PicnicOfSomebody$Slope" "year" "I" ∈ _ by decide +kernel)
  obtain ⟨A, B, hh, T, n, W, rs, C⟩ := V
  have hA : Rp (vC X 1) A := hV.1
  have hyA : A 5 1 ≤ 999 := hV.2.1
  have hB : hh = true → Rp (vC X 2) B ∧ B 5 1 ≤ 999 := hV.2.2.1
  have hi : X 0 8 = zI (b2i hh) := hV.2.2.2.1
  have hT : Txt X T n := hV.2.2.2.2.1
  have hW : RWp X W rs := hV.2.2.2.2.2.1
  have hCn : ∀ k, k < 7 → X 8 k = zI (C k : Nat) := hV.2.2.2.2.2.2
  have hn8 := hA.n8
  have hn96 := hT.2.1
  have hrs := hW.2.1
  have hhr := b2i_r hh
  refine ev_aload_n (pc := 0) hC dX5_on_0 rfl ?_
  refine ev_geti (pc := 1) hC (b2i hh) f58 dX5_on_1 (by decide) (by decide) (by decide) (by decide) (by decide)  (hi) ?_
  refine ev_if_ne (pc := 4) hC 14 dX5_on_4 (by decide) (by omega) (fun c4 => ?_) (fun c4 => ?_)
  · have eh : hh = true := b2i_1 c4
    obtain ⟨hB2, hyB⟩ := hB eh
    refine ev_aload_n (pc := 14) hC dX5_on_14 rfl ?_
    refine ev_getr (pc := 15) hC 1 f12 dX5_on_15 (by decide) (by decide) (by decide) (by decide) (by decide) ?_
    refine ev_aload_n (pc := 18) hC dX5_on_18 rfl ?_
    refine ev_getr (pc := 19) hC 2 f16 dX5_on_19 (by decide) (by decide) (by decide) (by decide) (by decide) ?_
    refine ev_callV (pc := 22) (as := [.ref 2]) (rest := []) hC gX5_on_X3_take mtX3_take dX5_on_22 (ru_X3_take (s := 1) (t := 2) spl1 spl2 (by decide) hB2) (by decide) (by decide) (by decide) rfl (by rfl) (Nat.le_of_ble_eq_true rfl) rfl (fun v22 X22 h22 => ?_)
    obtain ⟨rfl, hA22, hF22⟩ := h22
    show Ev K 25 [some (.ref 0)] [] X22
    refine ev_aload_n (pc := 25) hC dX5_on_25 rfl ?_
    refine ev_getr (pc := 26) hC 1 f12 dX5_on_26 (by decide) (by decide) (by decide) (by decide) (by decide) ?_
    refine ev_geti (pc := 29) hC ((B 5 1 : Nat) : Int) f129 dX5_on_29 (by decide) (by decide) (by decide) (by decide) (by decide)  (hA22.cy) ?_
    exact ev_ireturn (pc := 32) hC hR dX5_on_32 (on_ok eh (cI_putA hV hA22 hyB hF22) (frC_1 hF22))
  · have eh : hh = false := b2i_0 c4
    refine ev_aload_n (pc := 7) hC dX5_on_7 rfl ?_
    refine ev_bipush (pc := 8) hC dX5_on_8 (by decide) ?_
    refine ev_callV (pc := 10) (as := [vi (-3)]) (rest := []) hC gX5_on_X5_refuse mtX5_refuse dX5_on_10 (ru_X5_refuse (-3) (by omega)) (by decide) (by decide) (by decide) rfl (by rfl) (Nat.le_of_ble_eq_true rfl) rfl (fun v10 X10 h10 => ?_)
    obtain ⟨rfl, rfl⟩ := h10
    show Ev K 13 [some (.ref 0)] [vi (-3)] (mset X 8 (-(-3)).toNat (X 8 (-(-3)).toNat + 1))
    exact ev_ireturn (pc := 13) hC hR dX5_on_13 (on_no eh hV)
theorem mtX5_count : MT yX5_count wsX5_count cX5_count 2 (some .int) 1 := ⟨⟨_, rfl⟩, by decide, by decide, by decide +kernel⟩
set_option maxRecDepth 100000 in
set_option maxHeartbeats 4000000 in
theorem ru_X5_count {X : Mem} {V : St} (hV : cI X V) (x0 : Int) (hx0 : -2147483648 ≤ x0 ∧ x0 ≤ 2147483647) : Ru yX5_count wsX5_count 2 43 [.ref 0, vi x0] X (fun v X' => v = some (vi (sp36 x0 V).1) ∧ cI X' (sp36 x0 V).2 ∧ frC X X') := by
  refine ru_of (w2 := _) rfl (by decide) [some (.ref 0), some (vi x0)] (fun _ => rfl) (fun _ => Nat.le_of_ble_eq_true rfl) ?_
  intro K hKn hC hR
  have wX5 : ∀ w ∈ u_ws RX5 TX5 9, w ∈ wsX5_count := by decide +kernel
  have f54 : Fl K RX5 54 5 7 := fl_of hC RX5 TX5 9 rfl (by decide) wX5 (show Cond.fieldLink RX5 54 "PicnicOfSomebody" "refusals" "[I" ∈ _ by decide +kernel)
  have f12 : Fl K RX5 12 5 0 := fl_of hC RX5 TX5 9 rfl (by decide) wX5 (show Cond.fieldLink RX5 12 "PicnicOfSomebody" "now" "LPicnicOfSomebody$Slope;" ∈ _ by decide +kernel)
  have wX3 : ∀ w ∈ u_ws RX3 TX3 8, w ∈ wsX5_count := by decide +kernel
  have f211 : Fl K RX5 211 3 6 := fl_of hC RX3 TX3 8 rfl (by decide) wX3 (show Cond.fieldLink RX5 211 "PicnicOfSomebody$Slope" "people" "I" ∈ _ by decide +kernel)
  have f129 : Fl K RX5 129 3 7 := fl_of hC RX3 TX3 8 rfl (by decide) wX3 (show Cond.fieldLink RX5 129 "PicnicOfSomebody$Slope" "year" "I" ∈ _ by decide +kernel)
  have f50 : Fl K RX5 50 5 6 := fl_of hC RX5 TX5 9 rfl (by decide) wX5 (show Cond.fieldLink RX5 50 "PicnicOfSomebody" "told" "LPicnicOfSomebody$Row;" ∈ _ by decide +kernel)
  have wX2 : ∀ w ∈ u_ws RX2 TX2 2, w ∈ wsX5_count := by decide +kernel
  have f244 : Fl K RX5 244 2 1 := fl_of hC RX2 TX2 2 rfl (by decide) wX2 (show Cond.fieldLink RX5 244 "PicnicOfSomebody$Row" "size" "I" ∈ _ by decide +kernel)
  have f43 : Fl K RX5 43 5 5 := fl_of hC RX5 TX5 9 rfl (by decide) wX5 (show Cond.fieldLink RX5 43 "PicnicOfSomebody" "text" "LPicnicOfSomebody$Text;" ∈ _ by decide +kernel)
  have wX4 : ∀ w ∈ u_ws RX4 TX4 4, w ∈ wsX5_count := by decide +kernel
  have f247 : Fl K RX5 247 4 3 := fl_of hC RX4 TX4 4 rfl (by decide) wX4 (show Cond.fieldLink RX5 247 "PicnicOfSomebody$Text" "size" "I" ∈ _ by decide +kernel)
  obtain ⟨A, B, hh, T, n, W, rs, C⟩ := V
  have hA : Rp (vC X 1) A := hV.1
  have hyA : A 5 1 ≤ 999 := hV.2.1
  have hB : hh = true → Rp (vC X 2) B ∧ B 5 1 ≤ 999 := hV.2.2.1
  have hi : X 0 8 = zI (b2i hh) := hV.2.2.2.1
  have hT : Txt X T n := hV.2.2.2.2.1
  have hW : RWp X W rs := hV.2.2.2.2.2.1
  have hCn : ∀ k, k < 7 → X 8 k = zI (C k : Nat) := hV.2.2.2.2.2.2
  have hn8 := hA.n8
  have hn96 := hT.2.1
  have hrs := hW.2.1
  refine ev_iload_n (pc := 0) hC dX5_count_0 rfl ?_
  refine ev_bipush (pc := 1) hC dX5_count_1 (by decide) ?_
  refine ev_icmp_lt (pc := 3) hC 22 dX5_count_3 (by decide) (by omega) (by omega) (fun c3 => ?_) (fun c3 => ?_)
  · refine ev_iload_n (pc := 22) hC dX5_count_22 rfl ?_
    rcases (show x0 = 0 ∨ x0 = 1 ∨ x0 = 2 ∨ x0 = 3 ∨ x0 = 4 ∨ x0 = 5 ∨ x0 = 6 ∨ x0 = 7 ∨ x0 < 0 ∨ 7 < x0 by omega) with c23 | c23 | c23 | c23 | c23 | c23 | c23 | c23 | c23
    · refine ev_tabin (pc := 23) hC 68 dX5_count_23 (by omega) (by omega) (by rw [c23]; rfl) (by decide) ?_
      refine ev_aload_n (pc := 68) hC dX5_count_68 rfl ?_
      refine ev_getr (pc := 69) hC 1 f12 dX5_count_69 (by decide) (by decide) (by decide) (by decide) (by decide) ?_
      refine ev_geti (pc := 72) hC ((A 5 0 : Nat) : Int) f211 dX5_count_72 (by decide) (by decide) (by decide) (by decide) (by decide)  (hA.cn) ?_
      exact ev_ireturn (pc := 75) hC hR dX5_count_75 (⟨rv (by unfold sp36 cnS; rw [if_neg (show ¬ (11 ≤ x0 ∧ x0 ≤ 16) by omega), if_pos (show x0 = 0 by omega)]), hV, frC_rf X⟩)
    · refine ev_tabin (pc := 23) hC 76 dX5_count_23 (by omega) (by omega) (by rw [c23]; rfl) (by decide) ?_
      refine ev_aload_n (pc := 76) hC dX5_count_76 rfl ?_
      refine ev_getr (pc := 77) hC 1 f12 dX5_count_77 (by decide) (by decide) (by decide) (by decide) (by decide) ?_
      refine ev_geti (pc := 80) hC ((A 5 1 : Nat) : Int) f129 dX5_count_80 (by decide) (by decide) (by decide) (by decide) (by decide)  (hA.cy) ?_
      exact ev_ireturn (pc := 83) hC hR dX5_count_83 (⟨rv (by unfold sp36 cnS; rw [if_neg (show ¬ (11 ≤ x0 ∧ x0 ≤ 16) by omega), if_neg (show ¬ x0 = 0 by omega), if_pos (show x0 = 1 by omega)]), hV, frC_rf X⟩)
    · refine ev_tabin (pc := 23) hC 84 dX5_count_23 (by omega) (by omega) (by rw [c23]; rfl) (by decide) ?_
      refine ev_aload_n (pc := 84) hC dX5_count_84 rfl ?_
      refine ev_getr (pc := 85) hC 1 f12 dX5_count_85 (by decide) (by decide) (by decide) (by decide) (by decide) ?_
      refine ev_callV (pc := 88) (as := []) (rest := []) hC gX5_count_X3_believerBits mtX3_believerBits dX5_count_88 (ru_X3_believerBits (s := 1) spl1 hA) (by decide) (by decide) (by decide) rfl (by rfl) (Nat.le_of_ble_eq_true rfl) rfl (fun v88 X88 h88 => ?_)
      obtain ⟨rfl, rfl⟩ := h88
      show Ev K 91 [some (.ref 0), some (vi x0)] [vi ((bset 0 A : Nat) : Int)] X
      have hl88 := bset_lt (G := 0) hA.n8
      exact ev_ireturn (pc := 91) hC hR dX5_count_91 (⟨rv (by unfold sp36 cnS; rw [if_neg (show ¬ (11 ≤ x0 ∧ x0 ≤ 16) by omega), if_neg (show ¬ x0 = 0 by omega), if_neg (show ¬ x0 = 1 by omega), if_pos (show x0 = 2 by omega)]), hV, frC_rf X⟩)
    · refine ev_tabin (pc := 23) hC 92 dX5_count_23 (by omega) (by omega) (by rw [c23]; rfl) (by decide) ?_
      refine ev_aload_n (pc := 92) hC dX5_count_92 rfl ?_
      refine ev_getr (pc := 93) hC 1 f12 dX5_count_93 (by decide) (by decide) (by decide) (by decide) (by decide) ?_
      refine ev_callV (pc := 96) (as := []) (rest := []) hC gX5_count_X3_allBelief mtX3_allBelief dX5_count_96 (ru_X3_allBelief (s := 1) spl1 hA) (by decide) (by decide) (by decide) rfl (by rfl) (Nat.le_of_ble_eq_true rfl) rfl (fun v96 X96 h96 => ?_)
      obtain ⟨rfl, rfl⟩ := h96
      show Ev K 99 [some (.ref 0), some (vi x0)] [vi ((sumB (A 5 0) (A 4) : Nat) : Int)] X
      have hl96 := allB_le hA.ok
      exact ev_ireturn (pc := 99) hC hR dX5_count_99 (⟨rv (by unfold sp36 cnS; rw [if_neg (show ¬ (11 ≤ x0 ∧ x0 ≤ 16) by omega), if_neg (show ¬ x0 = 0 by omega), if_neg (show ¬ x0 = 1 by omega), if_neg (show ¬ x0 = 2 by omega), if_pos (show x0 = 3 by omega)]), hV, frC_rf X⟩)
    · refine ev_tabin (pc := 23) hC 100 dX5_count_23 (by omega) (by omega) (by rw [c23]; rfl) (by decide) ?_
      refine ev_aload_n (pc := 100) hC dX5_count_100 rfl ?_
      refine ev_getr (pc := 101) hC 1 f12 dX5_count_101 (by decide) (by decide) (by decide) (by decide) (by decide) ?_
      refine ev_callV (pc := 104) (as := []) (rest := []) hC gX5_count_X3_allDepth mtX3_allDepth dX5_count_104 (ru_X3_allDepth (s := 1) spl1 hA) (by decide) (by decide) (by decide) rfl (by rfl) (Nat.le_of_ble_eq_true rfl) rfl (fun v104 X104 h104 => ?_)
      obtain ⟨rfl, rfl⟩ := h104
      show Ev K 107 [some (.ref 0), some (vi x0)] [vi ((sumB 25 (A 0) : Nat) : Int)] X
      exact ev_ireturn (pc := 107) hC hR dX5_count_107 (⟨rv (by unfold sp36 cnS; rw [if_neg (show ¬ (11 ≤ x0 ∧ x0 ≤ 16) by omega), if_neg (show ¬ x0 = 0 by omega), if_neg (show ¬ x0 = 1 by omega), if_neg (show ¬ x0 = 2 by omega), if_neg (show ¬ x0 = 3 by omega), if_pos (show x0 = 4 by omega)]), hV, frC_rf X⟩)
    · refine ev_tabin (pc := 23) hC 108 dX5_count_23 (by omega) (by omega) (by rw [c23]; rfl) (by decide) ?_
      refine ev_aload_n (pc := 108) hC dX5_count_108 rfl ?_
      refine ev_getr (pc := 109) hC 1 f12 dX5_count_109 (by decide) (by decide) (by decide) (by decide) (by decide) ?_
      refine ev_callV (pc := 112) (as := []) (rest := []) hC gX5_count_X3_hollow mtX3_hollow dX5_count_112 (ru_X3_hollow (s := 1) spl1 hA) (by decide) (by decide) (by decide) rfl (by rfl) (Nat.le_of_ble_eq_true rfl) rfl (fun v112 X112 h112 => ?_)
      obtain ⟨rfl, rfl⟩ := h112
      show Ev K 115 [some (.ref 0), some (vi x0)] [vi ((here A : Nat) : Int)] X
      have hh112 := here_lt A
      exact ev_ireturn (pc := 115) hC hR dX5_count_115 (⟨rv (by unfold sp36 cnS; rw [if_neg (show ¬ (11 ≤ x0 ∧ x0 ≤ 16) by omega), if_neg (show ¬ x0 = 0 by omega), if_neg (show ¬ x0 = 1 by omega), if_neg (show ¬ x0 = 2 by omega), if_neg (show ¬ x0 = 3 by omega), if_neg (show ¬ x0 = 4 by omega), if_pos (show x0 = 5 by omega)]), hV, frC_rf X⟩)
    · refine ev_tabin (pc := 23) hC 116 dX5_count_23 (by omega) (by omega) (by rw [c23]; rfl) (by decide) ?_
      refine ev_aload_n (pc := 116) hC dX5_count_116 rfl ?_
      refine ev_getr (pc := 117) hC 7 f50 dX5_count_117 (by decide) (by decide) (by decide) (by decide) (by decide) ?_
      refine ev_geti (pc := 120) hC ((rs : Nat) : Int) f244 dX5_count_120 (by decide) (by decide) (by decide) (by decide) (by decide)  (hW.1) ?_
      exact ev_ireturn (pc := 123) hC hR dX5_count_123 (⟨rv (by unfold sp36 cnS; rw [if_neg (show ¬ (11 ≤ x0 ∧ x0 ≤ 16) by omega), if_neg (show ¬ x0 = 0 by omega), if_neg (show ¬ x0 = 1 by omega), if_neg (show ¬ x0 = 2 by omega), if_neg (show ¬ x0 = 3 by omega), if_neg (show ¬ x0 = 4 by omega), if_neg (show ¬ x0 = 5 by omega), if_pos (show x0 = 6 by omega)]), hV, frC_rf X⟩)
    · refine ev_tabin (pc := 23) hC 124 dX5_count_23 (by omega) (by omega) (by rw [c23]; rfl) (by decide) ?_
      refine ev_aload_n (pc := 124) hC dX5_count_124 rfl ?_
      refine ev_getr (pc := 125) hC 6 f43 dX5_count_125 (by decide) (by decide) (by decide) (by decide) (by decide) ?_
      refine ev_geti (pc := 128) hC ((n : Nat) : Int) f247 dX5_count_128 (by decide) (by decide) (by decide) (by decide) (by decide)  (hT.1) ?_
      exact ev_ireturn (pc := 131) hC hR dX5_count_131 (⟨rv (by unfold sp36 cnS; rw [if_neg (show ¬ (11 ≤ x0 ∧ x0 ≤ 16) by omega), if_neg (show ¬ x0 = 0 by omega), if_neg (show ¬ x0 = 1 by omega), if_neg (show ¬ x0 = 2 by omega), if_neg (show ¬ x0 = 3 by omega), if_neg (show ¬ x0 = 4 by omega), if_neg (show ¬ x0 = 5 by omega), if_neg (show ¬ x0 = 6 by omega), if_pos (show x0 = 7 by omega)]), hV, frC_rf X⟩)
    · refine ev_tabout (pc := 23) hC 132 dX5_count_23 (by omega) (by omega) (by decide) ?_
      refine ev_bipush (pc := 132) hC dX5_count_132 (by decide) ?_
      exact ev_ireturn (pc := 134) hC hR dX5_count_134 (⟨rv (by unfold sp36 cnS; rw [if_neg (show ¬ (11 ≤ x0 ∧ x0 ≤ 16) by omega), if_neg (show ¬ x0 = 0 by omega), if_neg (show ¬ x0 = 1 by omega), if_neg (show ¬ x0 = 2 by omega), if_neg (show ¬ x0 = 3 by omega), if_neg (show ¬ x0 = 4 by omega), if_neg (show ¬ x0 = 5 by omega), if_neg (show ¬ x0 = 6 by omega), if_neg (show ¬ x0 = 7 by omega)]), hV, frC_rf X⟩)
  · refine ev_iload_n (pc := 6) hC dX5_count_6 rfl ?_
    refine ev_bipush (pc := 7) hC dX5_count_7 (by decide) ?_
    refine ev_icmp_gt (pc := 9) hC 22 dX5_count_9 (by decide) (by omega) (by omega) (fun c9 => ?_) (fun c9 => ?_)
    · refine ev_iload_n (pc := 22) hC dX5_count_22 rfl ?_
      rcases (show x0 = 0 ∨ x0 = 1 ∨ x0 = 2 ∨ x0 = 3 ∨ x0 = 4 ∨ x0 = 5 ∨ x0 = 6 ∨ x0 = 7 ∨ x0 < 0 ∨ 7 < x0 by omega) with c23 | c23 | c23 | c23 | c23 | c23 | c23 | c23 | c23
      · refine ev_tabin (pc := 23) hC 68 dX5_count_23 (by omega) (by omega) (by rw [c23]; rfl) (by decide) ?_
        refine ev_aload_n (pc := 68) hC dX5_count_68 rfl ?_
        refine ev_getr (pc := 69) hC 1 f12 dX5_count_69 (by decide) (by decide) (by decide) (by decide) (by decide) ?_
        refine ev_geti (pc := 72) hC ((A 5 0 : Nat) : Int) f211 dX5_count_72 (by decide) (by decide) (by decide) (by decide) (by decide)  (hA.cn) ?_
        exact ev_ireturn (pc := 75) hC hR dX5_count_75 (⟨rv (by unfold sp36 cnS; rw [if_neg (show ¬ (11 ≤ x0 ∧ x0 ≤ 16) by omega), if_pos (show x0 = 0 by omega)]), hV, frC_rf X⟩)
      · refine ev_tabin (pc := 23) hC 76 dX5_count_23 (by omega) (by omega) (by rw [c23]; rfl) (by decide) ?_
        refine ev_aload_n (pc := 76) hC dX5_count_76 rfl ?_
        refine ev_getr (pc := 77) hC 1 f12 dX5_count_77 (by decide) (by decide) (by decide) (by decide) (by decide) ?_
        refine ev_geti (pc := 80) hC ((A 5 1 : Nat) : Int) f129 dX5_count_80 (by decide) (by decide) (by decide) (by decide) (by decide)  (hA.cy) ?_
        exact ev_ireturn (pc := 83) hC hR dX5_count_83 (⟨rv (by unfold sp36 cnS; rw [if_neg (show ¬ (11 ≤ x0 ∧ x0 ≤ 16) by omega), if_neg (show ¬ x0 = 0 by omega), if_pos (show x0 = 1 by omega)]), hV, frC_rf X⟩)
      · refine ev_tabin (pc := 23) hC 84 dX5_count_23 (by omega) (by omega) (by rw [c23]; rfl) (by decide) ?_
        refine ev_aload_n (pc := 84) hC dX5_count_84 rfl ?_
        refine ev_getr (pc := 85) hC 1 f12 dX5_count_85 (by decide) (by decide) (by decide) (by decide) (by decide) ?_
        refine ev_callV (pc := 88) (as := []) (rest := []) hC gX5_count_X3_believerBits mtX3_believerBits dX5_count_88 (ru_X3_believerBits (s := 1) spl1 hA) (by decide) (by decide) (by decide) rfl (by rfl) (Nat.le_of_ble_eq_true rfl) rfl (fun v88 X88 h88 => ?_)
        obtain ⟨rfl, rfl⟩ := h88
        show Ev K 91 [some (.ref 0), some (vi x0)] [vi ((bset 0 A : Nat) : Int)] X
        have hl88 := bset_lt (G := 0) hA.n8
        exact ev_ireturn (pc := 91) hC hR dX5_count_91 (⟨rv (by unfold sp36 cnS; rw [if_neg (show ¬ (11 ≤ x0 ∧ x0 ≤ 16) by omega), if_neg (show ¬ x0 = 0 by omega), if_neg (show ¬ x0 = 1 by omega), if_pos (show x0 = 2 by omega)]), hV, frC_rf X⟩)
      · refine ev_tabin (pc := 23) hC 92 dX5_count_23 (by omega) (by omega) (by rw [c23]; rfl) (by decide) ?_
        refine ev_aload_n (pc := 92) hC dX5_count_92 rfl ?_
        refine ev_getr (pc := 93) hC 1 f12 dX5_count_93 (by decide) (by decide) (by decide) (by decide) (by decide) ?_
        refine ev_callV (pc := 96) (as := []) (rest := []) hC gX5_count_X3_allBelief mtX3_allBelief dX5_count_96 (ru_X3_allBelief (s := 1) spl1 hA) (by decide) (by decide) (by decide) rfl (by rfl) (Nat.le_of_ble_eq_true rfl) rfl (fun v96 X96 h96 => ?_)
        obtain ⟨rfl, rfl⟩ := h96
        show Ev K 99 [some (.ref 0), some (vi x0)] [vi ((sumB (A 5 0) (A 4) : Nat) : Int)] X
        have hl96 := allB_le hA.ok
        exact ev_ireturn (pc := 99) hC hR dX5_count_99 (⟨rv (by unfold sp36 cnS; rw [if_neg (show ¬ (11 ≤ x0 ∧ x0 ≤ 16) by omega), if_neg (show ¬ x0 = 0 by omega), if_neg (show ¬ x0 = 1 by omega), if_neg (show ¬ x0 = 2 by omega), if_pos (show x0 = 3 by omega)]), hV, frC_rf X⟩)
      · refine ev_tabin (pc := 23) hC 100 dX5_count_23 (by omega) (by omega) (by rw [c23]; rfl) (by decide) ?_
        refine ev_aload_n (pc := 100) hC dX5_count_100 rfl ?_
        refine ev_getr (pc := 101) hC 1 f12 dX5_count_101 (by decide) (by decide) (by decide) (by decide) (by decide) ?_
        refine ev_callV (pc := 104) (as := []) (rest := []) hC gX5_count_X3_allDepth mtX3_allDepth dX5_count_104 (ru_X3_allDepth (s := 1) spl1 hA) (by decide) (by decide) (by decide) rfl (by rfl) (Nat.le_of_ble_eq_true rfl) rfl (fun v104 X104 h104 => ?_)
        obtain ⟨rfl, rfl⟩ := h104
        show Ev K 107 [some (.ref 0), some (vi x0)] [vi ((sumB 25 (A 0) : Nat) : Int)] X
        exact ev_ireturn (pc := 107) hC hR dX5_count_107 (⟨rv (by unfold sp36 cnS; rw [if_neg (show ¬ (11 ≤ x0 ∧ x0 ≤ 16) by omega), if_neg (show ¬ x0 = 0 by omega), if_neg (show ¬ x0 = 1 by omega), if_neg (show ¬ x0 = 2 by omega), if_neg (show ¬ x0 = 3 by omega), if_pos (show x0 = 4 by omega)]), hV, frC_rf X⟩)
      · refine ev_tabin (pc := 23) hC 108 dX5_count_23 (by omega) (by omega) (by rw [c23]; rfl) (by decide) ?_
        refine ev_aload_n (pc := 108) hC dX5_count_108 rfl ?_
        refine ev_getr (pc := 109) hC 1 f12 dX5_count_109 (by decide) (by decide) (by decide) (by decide) (by decide) ?_
        refine ev_callV (pc := 112) (as := []) (rest := []) hC gX5_count_X3_hollow mtX3_hollow dX5_count_112 (ru_X3_hollow (s := 1) spl1 hA) (by decide) (by decide) (by decide) rfl (by rfl) (Nat.le_of_ble_eq_true rfl) rfl (fun v112 X112 h112 => ?_)
        obtain ⟨rfl, rfl⟩ := h112
        show Ev K 115 [some (.ref 0), some (vi x0)] [vi ((here A : Nat) : Int)] X
        have hh112 := here_lt A
        exact ev_ireturn (pc := 115) hC hR dX5_count_115 (⟨rv (by unfold sp36 cnS; rw [if_neg (show ¬ (11 ≤ x0 ∧ x0 ≤ 16) by omega), if_neg (show ¬ x0 = 0 by omega), if_neg (show ¬ x0 = 1 by omega), if_neg (show ¬ x0 = 2 by omega), if_neg (show ¬ x0 = 3 by omega), if_neg (show ¬ x0 = 4 by omega), if_pos (show x0 = 5 by omega)]), hV, frC_rf X⟩)
      · refine ev_tabin (pc := 23) hC 116 dX5_count_23 (by omega) (by omega) (by rw [c23]; rfl) (by decide) ?_
        refine ev_aload_n (pc := 116) hC dX5_count_116 rfl ?_
        refine ev_getr (pc := 117) hC 7 f50 dX5_count_117 (by decide) (by decide) (by decide) (by decide) (by decide) ?_
        refine ev_geti (pc := 120) hC ((rs : Nat) : Int) f244 dX5_count_120 (by decide) (by decide) (by decide) (by decide) (by decide)  (hW.1) ?_
        exact ev_ireturn (pc := 123) hC hR dX5_count_123 (⟨rv (by unfold sp36 cnS; rw [if_neg (show ¬ (11 ≤ x0 ∧ x0 ≤ 16) by omega), if_neg (show ¬ x0 = 0 by omega), if_neg (show ¬ x0 = 1 by omega), if_neg (show ¬ x0 = 2 by omega), if_neg (show ¬ x0 = 3 by omega), if_neg (show ¬ x0 = 4 by omega), if_neg (show ¬ x0 = 5 by omega), if_pos (show x0 = 6 by omega)]), hV, frC_rf X⟩)
      · refine ev_tabin (pc := 23) hC 124 dX5_count_23 (by omega) (by omega) (by rw [c23]; rfl) (by decide) ?_
        refine ev_aload_n (pc := 124) hC dX5_count_124 rfl ?_
        refine ev_getr (pc := 125) hC 6 f43 dX5_count_125 (by decide) (by decide) (by decide) (by decide) (by decide) ?_
        refine ev_geti (pc := 128) hC ((n : Nat) : Int) f247 dX5_count_128 (by decide) (by decide) (by decide) (by decide) (by decide)  (hT.1) ?_
        exact ev_ireturn (pc := 131) hC hR dX5_count_131 (⟨rv (by unfold sp36 cnS; rw [if_neg (show ¬ (11 ≤ x0 ∧ x0 ≤ 16) by omega), if_neg (show ¬ x0 = 0 by omega), if_neg (show ¬ x0 = 1 by omega), if_neg (show ¬ x0 = 2 by omega), if_neg (show ¬ x0 = 3 by omega), if_neg (show ¬ x0 = 4 by omega), if_neg (show ¬ x0 = 5 by omega), if_neg (show ¬ x0 = 6 by omega), if_pos (show x0 = 7 by omega)]), hV, frC_rf X⟩)
      · refine ev_tabout (pc := 23) hC 132 dX5_count_23 (by omega) (by omega) (by decide) ?_
        refine ev_bipush (pc := 132) hC dX5_count_132 (by decide) ?_
        exact ev_ireturn (pc := 134) hC hR dX5_count_134 (⟨rv (by unfold sp36 cnS; rw [if_neg (show ¬ (11 ≤ x0 ∧ x0 ≤ 16) by omega), if_neg (show ¬ x0 = 0 by omega), if_neg (show ¬ x0 = 1 by omega), if_neg (show ¬ x0 = 2 by omega), if_neg (show ¬ x0 = 3 by omega), if_neg (show ¬ x0 = 4 by omega), if_neg (show ¬ x0 = 5 by omega), if_neg (show ¬ x0 = 6 by omega), if_neg (show ¬ x0 = 7 by omega)]), hV, frC_rf X⟩)
    · refine ev_aload_n (pc := 12) hC dX5_count_12 rfl ?_
      refine ev_getr (pc := 13) hC 8 f54 dX5_count_13 (by decide) (by decide) (by decide) (by decide) (by decide) ?_
      refine ev_iload_n (pc := 16) hC dX5_count_16 rfl ?_
      refine ev_bipush (pc := 17) hC dX5_count_17 (by decide) ?_
      refine ev_isub (pc := 19) hC (x0 - 10) (rfl) dX5_count_19 ?_
      refine ev_iald (pc := 20) hC ((x0 - 10).toNat) ((C (x0 - 10).toNat : Nat) : Int) (by decide) (by decide) (by omega) (by have := (show alen 8 = 7 from rfl); omega) (hCn _ (by omega)) dX5_count_20 ?_
      exact ev_ireturn (pc := 21) hC hR dX5_count_21 (⟨rv (cnS_r (V := (A, B, hh, T, n, W, rs, C)) (x := x0) (by omega)), hV, frC_rf X⟩)
