theorem mtX6_readsOne : MT yX6_readsOne wsX6_readsOne cX6_readsOne 2 (some .boolean) 1 := ⟨⟨_, rfl⟩, by decide, by decide, by decide +kernel⟩
set_option maxRecDepth 100000 in
set_option maxHeartbeats 4000000 in
theorem ru_X6_readsOne {X : Mem} {T : Nat → Nat} {n : Nat} (a p : Nat) (hT : TxM X T n) (hat : X 29 14 = zI ((a + 1 : Nat) : Int)) (ha : a ≤ 200) (hl : 0 < lenT (T a)) (hp : p + 4 ≤ 192) (hTa : T a = 112) : Ru yX6_readsOne wsX6_readsOne 2 46 [.ref 29, vi ((p : Nat) : Int)] X (fun v X' => raP v X X' T n a p) := by
  refine ru_of (w2 := _) rfl (by decide) [some (.ref 29), some (vi ((p : Nat) : Int))] (fun _ => rfl) (fun _ => Nat.le_of_ble_eq_true rfl) ?_
  intro K hKn hC hR
  have wX6 : ∀ w ∈ u_ws RX6 TX6 25, w ∈ wsX6_readsOne := by decide +kernel
  have f37 : Fl K RX6 37 6 12 := fl_of hC RX6 TX6 25 rfl (by decide) wX6 (show Cond.fieldLink RX6 37 "PicnicOfSomebodyModel" "told" "[I" ∈ _ by decide +kernel)
  have f77 : Fl K RX6 77 6 14 := fl_of hC RX6 TX6 25 rfl (by decide) wX6 (show Cond.fieldLink RX6 77 "PicnicOfSomebodyModel" "at" "I" ∈ _ by decide +kernel)
  have hn96 := hT.2.1
  have hl7 : lenT (T a) = 7 := by rw [hTa]; rfl
  refine ev_aload_n (pc := 0) hC dX6_readsOne_0 rfl ?_
  refine ev_getr (pc := 1) hC 39 f37 dX6_readsOne_1 (by decide) (by decide) (by decide) (by decide) (by decide) ?_
  refine ev_iload_n (pc := 4) hC dX6_readsOne_4 rfl ?_
  refine ev_aload_n (pc := 5) hC dX6_readsOne_5 rfl ?_
  refine ev_callV (pc := 6) (as := []) (rest := [vi ((p : Nat) : Int), .ref 39]) hC gX6_readsOne_X6_next mtX6_next dX6_readsOne_6 (ru_X6_next hT hat (by omega)) (by decide) (by decide) (by decide) rfl (by rfl) (Nat.le_of_ble_eq_true rfl) rfl (fun v6 X6 h6 => ?_)
  obtain ⟨rfl, rfl⟩ := h6
  show Ev K 9 [some (.ref 29), some (vi ((p : Nat) : Int))] [vi (nx T n (a + 1)), vi ((p : Nat) : Int), .ref 39] X
  have hnx6 := nx_cases T n (a + 1)
  have hnr6 := nx_r hT (a + 1)
  refine ev_callS (pc := 9) (as := [vi (nx T n (a + 1))]) (rest := [vi ((p : Nat) : Int), .ref 39]) hC gX6_readsOne_X6_kindOf mtX6_kindOf dX6_readsOne_9 (ru_X6_kindOf (nx T n (a + 1)) _ (by omega) rfl (fun z => by rw [show (nx T n (a + 1)).toNat = 0 by omega]; rfl)) (by decide) (by rfl) (Nat.le_of_ble_eq_true rfl) rfl (fun v9 X9 h9 => ?_)
  obtain ⟨rfl, rfl⟩ := h9
  show Ev K 12 [some (.ref 29), some (vi ((p : Nat) : Int))] [vi (kindT (nx T n (a + 1)).toNat), vi ((p : Nat) : Int), .ref 39] X
  have hkc := kindT_cases (nx T n (a + 1)).toNat
  refine ev_iast (pc := 12) hC p (by decide) (by decide) (rfl) (by have := (show alen 39 = 192 from rfl); omega) dX6_readsOne_12 ?_
  have hT12 : TxM (mset X 39 p (zI (kindT (nx T n (a + 1)).toNat))) T n := hT.set_at (Or.inr (by omega))
  have hat12 : (mset X 39 p (zI (kindT (nx T n (a + 1)).toNat))) 29 14 = zI (((a + 1) : Nat) : Int) := by rw [mset_row (by omega)]; exact hat
  refine ev_aload_n (pc := 13) hC dX6_readsOne_13 rfl ?_
  refine ev_getr (pc := 14) hC 39 f37 dX6_readsOne_14 (by decide) (by decide) (by decide) (by decide) (by decide) ?_
  refine ev_iload_n (pc := 17) hC dX6_readsOne_17 rfl ?_
  refine ev_iald (pc := 18) hC p (kindT (nx T n (a + 1)).toNat) (by decide) (by decide) (rfl) (by have := (show alen 39 = 192 from rfl); omega) (mset_eq _ _ _ _) dX6_readsOne_18 ?_
  refine ev_if_ge (pc := 19) hC 24 dX6_readsOne_19 (by decide) (by omega) (fun c19 => ?_) (fun c19 => ?_)
  · refine ev_aload_n (pc := 24) hC dX6_readsOne_24 rfl ?_
    refine ev_dup (pc := 25) hC rfl dX6_readsOne_25 ?_
    refine ev_geti (pc := 26) hC (((a + 1) : Nat) : Int) f77 dX6_readsOne_26 (by decide) (by decide) (by decide) (by decide) (by decide)  (hat12) ?_
    refine ev_iconst (pc := 29) hC dX6_readsOne_29 ?_
    refine ev_iadd (pc := 30) hC (((a + 1) + 1 : Nat) : Int) (by omega) dX6_readsOne_30 ?_
    refine ev_puti (pc := 31) hC f77 fpX6_14 dX6_readsOne_31 (by decide) (by decide) (by decide) (by decide) (by decide) (rfl) (rfl) ?_
    have hT33 : TxM (mset (mset X 39 p (zI (kindT (nx T n (a + 1)).toNat))) 29 14 (zI (((a + 1) + 1 : Nat) : Int))) T n := hT12.set_at (Or.inl ⟨rfl, by omega⟩)
    have hat33 : (mset (mset X 39 p (zI (kindT (nx T n (a + 1)).toNat))) 29 14 (zI (((a + 1) + 1 : Nat) : Int))) 29 14 = zI (((a + 1) + 1 : Nat) : Int) := mset_eq _ _ _ _
    refine ev_aload_n (pc := 34) hC dX6_readsOne_34 rfl ?_
    refine ev_iload_n (pc := 35) hC dX6_readsOne_35 rfl ?_
    refine ev_iconst (pc := 36) hC dX6_readsOne_36 ?_
    refine ev_iadd (pc := 37) hC ((p + 1 : Nat) : Int) (by omega) dX6_readsOne_37 ?_
    refine ev_iconst (pc := 38) hC dX6_readsOne_38 ?_
    refine ev_callV (pc := 39) (as := [vi ((p + 1 : Nat) : Int), vi 1]) (rest := []) hC gX6_readsOne_X6_readsDigits mtX6_readsDigits dX6_readsOne_39 (ru_X6_readsDigits hT33 hat33 (by omega) (p + 1) 1 (by omega) (by omega)) (by decide) (by decide) (by decide) rfl (by rfl) (Nat.le_of_ble_eq_true rfl) rfl (fun v39 X39 h39 => ?_)
    rcases h39 with ⟨rfl, hd39, rfl⟩ | ⟨j39, hj39, hk39, hb39, rfl, rfl⟩
    · show Ev K 42 [some (.ref 29), some (vi ((p : Nat) : Int))] [vi 1] (mset (mset (mset (mset X 39 p (zI (kindT (nx T n (a + 1)).toNat))) 29 14 (zI (((a + 1) + 1 : Nat) : Int))) 29 14 (zI ((((a + 1) + 1) + 1 : Nat) : Int))) 39 (p + 1) (zI ((valT T ((a + 1) + 1) 1 : Nat) : Int)))
      have hT39 : TxM (mset (mset (mset (mset X 39 p (zI (kindT (nx T n (a + 1)).toNat))) 29 14 (zI (((a + 1) + 1 : Nat) : Int))) 29 14 (zI ((((a + 1) + 1) + 1 : Nat) : Int))) 39 (p + 1) (zI ((valT T ((a + 1) + 1) 1 : Nat) : Int))) T n := (hT33.set_at (Or.inl ⟨rfl, by omega⟩)).set_at (Or.inr (by omega))
      have hat39 : (mset (mset (mset (mset X 39 p (zI (kindT (nx T n (a + 1)).toNat))) 29 14 (zI (((a + 1) + 1 : Nat) : Int))) 29 14 (zI ((((a + 1) + 1) + 1 : Nat) : Int))) 39 (p + 1) (zI ((valT T ((a + 1) + 1) 1 : Nat) : Int))) 29 14 = zI (((((a + 1) + 1) + 1) : Nat) : Int) := by rw [mset_row (by omega), mset_eq]
      refine ev_if_eq (pc := 42) hC 71 dX6_readsOne_42 (by decide) (by omega) (fun c42 => absurd c42 (by decide)) (fun c42 => ?_)
      refine ev_aload_n (pc := 45) hC dX6_readsOne_45 rfl ?_
      refine ev_iload_n (pc := 46) hC dX6_readsOne_46 rfl ?_
      refine ev_iconst (pc := 47) hC dX6_readsOne_47 ?_
      refine ev_iadd (pc := 48) hC ((p + 2 : Nat) : Int) (by omega) dX6_readsOne_48 ?_
      refine ev_iconst (pc := 49) hC dX6_readsOne_49 ?_
      refine ev_callV (pc := 50) (as := [vi ((p + 2 : Nat) : Int), vi 2]) (rest := []) hC gX6_readsOne_X6_readsDigits mtX6_readsDigits dX6_readsOne_50 (ru_X6_readsDigits hT39 hat39 (by omega) (p + 2) 2 (by omega) (by omega)) (by decide) (by decide) (by decide) rfl (by rfl) (Nat.le_of_ble_eq_true rfl) rfl (fun v50 X50 h50 => ?_)
      rcases h50 with ⟨rfl, hd50, rfl⟩ | ⟨j50, hj50, hk50, hb50, rfl, rfl⟩
      · show Ev K 53 [some (.ref 29), some (vi ((p : Nat) : Int))] [vi 1] (mset (mset (mset (mset (mset (mset X 39 p (zI (kindT (nx T n (a + 1)).toNat))) 29 14 (zI (((a + 1) + 1 : Nat) : Int))) 29 14 (zI ((((a + 1) + 1) + 1 : Nat) : Int))) 39 (p + 1) (zI ((valT T ((a + 1) + 1) 1 : Nat) : Int))) 29 14 (zI (((((a + 1) + 1) + 1) + 2 : Nat) : Int))) 39 (p + 2) (zI ((valT T (((a + 1) + 1) + 1) 2 : Nat) : Int)))
        have hT50 : TxM (mset (mset (mset (mset (mset (mset X 39 p (zI (kindT (nx T n (a + 1)).toNat))) 29 14 (zI (((a + 1) + 1 : Nat) : Int))) 29 14 (zI ((((a + 1) + 1) + 1 : Nat) : Int))) 39 (p + 1) (zI ((valT T ((a + 1) + 1) 1 : Nat) : Int))) 29 14 (zI (((((a + 1) + 1) + 1) + 2 : Nat) : Int))) 39 (p + 2) (zI ((valT T (((a + 1) + 1) + 1) 2 : Nat) : Int))) T n := (hT39.set_at (Or.inl ⟨rfl, by omega⟩)).set_at (Or.inr (by omega))
        have hat50 : (mset (mset (mset (mset (mset (mset X 39 p (zI (kindT (nx T n (a + 1)).toNat))) 29 14 (zI (((a + 1) + 1 : Nat) : Int))) 29 14 (zI ((((a + 1) + 1) + 1 : Nat) : Int))) 39 (p + 1) (zI ((valT T ((a + 1) + 1) 1 : Nat) : Int))) 29 14 (zI (((((a + 1) + 1) + 1) + 2 : Nat) : Int))) 39 (p + 2) (zI ((valT T (((a + 1) + 1) + 1) 2 : Nat) : Int))) 29 14 = zI ((((((a + 1) + 1) + 1) + 2) : Nat) : Int) := by rw [mset_row (by omega), mset_eq]
        refine ev_if_eq (pc := 53) hC 71 dX6_readsOne_53 (by decide) (by omega) (fun c53 => absurd c53 (by decide)) (fun c53 => ?_)
        refine ev_aload_n (pc := 56) hC dX6_readsOne_56 rfl ?_
        refine ev_iload_n (pc := 57) hC dX6_readsOne_57 rfl ?_
        refine ev_iconst (pc := 58) hC dX6_readsOne_58 ?_
        refine ev_iadd (pc := 59) hC ((p + 3 : Nat) : Int) (by omega) dX6_readsOne_59 ?_
        refine ev_iconst (pc := 60) hC dX6_readsOne_60 ?_
        refine ev_callV (pc := 61) (as := [vi ((p + 3 : Nat) : Int), vi 1]) (rest := []) hC gX6_readsOne_X6_readsDigits mtX6_readsDigits dX6_readsOne_61 (ru_X6_readsDigits hT50 hat50 (by omega) (p + 3) 1 (by omega) (by omega)) (by decide) (by decide) (by decide) rfl (by rfl) (Nat.le_of_ble_eq_true rfl) rfl (fun v61 X61 h61 => ?_)
        rcases h61 with ⟨rfl, hd61, rfl⟩ | ⟨j61, hj61, hk61, hb61, rfl, rfl⟩
        · show Ev K 64 [some (.ref 29), some (vi ((p : Nat) : Int))] [vi 1] (mset (mset (mset (mset (mset (mset (mset (mset X 39 p (zI (kindT (nx T n (a + 1)).toNat))) 29 14 (zI (((a + 1) + 1 : Nat) : Int))) 29 14 (zI ((((a + 1) + 1) + 1 : Nat) : Int))) 39 (p + 1) (zI ((valT T ((a + 1) + 1) 1 : Nat) : Int))) 29 14 (zI (((((a + 1) + 1) + 1) + 2 : Nat) : Int))) 39 (p + 2) (zI ((valT T (((a + 1) + 1) + 1) 2 : Nat) : Int))) 29 14 (zI ((((((a + 1) + 1) + 1) + 2) + 1 : Nat) : Int))) 39 (p + 3) (zI ((valT T ((((a + 1) + 1) + 1) + 2) 1 : Nat) : Int)))
          have hT61 : TxM (mset (mset (mset (mset (mset (mset (mset (mset X 39 p (zI (kindT (nx T n (a + 1)).toNat))) 29 14 (zI (((a + 1) + 1 : Nat) : Int))) 29 14 (zI ((((a + 1) + 1) + 1 : Nat) : Int))) 39 (p + 1) (zI ((valT T ((a + 1) + 1) 1 : Nat) : Int))) 29 14 (zI (((((a + 1) + 1) + 1) + 2 : Nat) : Int))) 39 (p + 2) (zI ((valT T (((a + 1) + 1) + 1) 2 : Nat) : Int))) 29 14 (zI ((((((a + 1) + 1) + 1) + 2) + 1 : Nat) : Int))) 39 (p + 3) (zI ((valT T ((((a + 1) + 1) + 1) + 2) 1 : Nat) : Int))) T n := (hT50.set_at (Or.inl ⟨rfl, by omega⟩)).set_at (Or.inr (by omega))
          have hat61 : (mset (mset (mset (mset (mset (mset (mset (mset X 39 p (zI (kindT (nx T n (a + 1)).toNat))) 29 14 (zI (((a + 1) + 1 : Nat) : Int))) 29 14 (zI ((((a + 1) + 1) + 1 : Nat) : Int))) 39 (p + 1) (zI ((valT T ((a + 1) + 1) 1 : Nat) : Int))) 29 14 (zI (((((a + 1) + 1) + 1) + 2 : Nat) : Int))) 39 (p + 2) (zI ((valT T (((a + 1) + 1) + 1) 2 : Nat) : Int))) 29 14 (zI ((((((a + 1) + 1) + 1) + 2) + 1 : Nat) : Int))) 39 (p + 3) (zI ((valT T ((((a + 1) + 1) + 1) + 2) 1 : Nat) : Int))) 29 14 = zI (((((((a + 1) + 1) + 1) + 2) + 1) : Nat) : Int) := by rw [mset_row (by omega), mset_eq]
          refine ev_if_eq (pc := 64) hC 71 dX6_readsOne_64 (by decide) (by omega) (fun c64 => absurd c64 (by decide)) (fun c64 => ?_)
          refine ev_iconst (pc := 67) hC dX6_readsOne_67 ?_
          refine ev_goto (pc := 68) hC 72 dX6_readsOne_68 (by decide) ?_
          exact ev_zreturn (pc := 72) hC hR dX6_readsOne_72 (by decide) (ra3_t hTa rfl (by omega) hd39 hd50 hd61 (by rw [mset_row (by omega), mset_eq]) (by rw [mset_ne _ _ _ _ (by omega), mset_row (by omega), mset_ne _ _ _ _ (by omega), mset_row (by omega), mset_ne _ _ _ _ (by omega), mset_row (by omega), mset_row (by omega), mset_eq]) (by rw [mset_ne _ _ _ _ (by omega), mset_row (by omega), mset_ne _ _ _ _ (by omega), mset_row (by omega), mset_eq]) (by rw [mset_ne _ _ _ _ (by omega), mset_row (by omega), mset_eq]) (mset_eq _ _ _ _) (rdF_put (rdF_at (rdF_put (rdF_at (rdF_put (rdF_at (rdF_at (rdF_put (rdF_rf p X) (by omega)))) (by omega))) (by omega))) (by omega)))
        · show Ev K 64 [some (.ref 29), some (vi ((p : Nat) : Int))] [vi 0] (mset (mset (mset (mset (mset (mset (mset X 39 p (zI (kindT (nx T n (a + 1)).toNat))) 29 14 (zI (((a + 1) + 1 : Nat) : Int))) 29 14 (zI ((((a + 1) + 1) + 1 : Nat) : Int))) 39 (p + 1) (zI ((valT T ((a + 1) + 1) 1 : Nat) : Int))) 29 14 (zI (((((a + 1) + 1) + 1) + 2 : Nat) : Int))) 39 (p + 2) (zI ((valT T (((a + 1) + 1) + 1) 2 : Nat) : Int))) 29 14 (zI ((((((a + 1) + 1) + 1) + 2) + j61 : Nat) : Int)))
          refine ev_if_eq (pc := 64) hC 71 dX6_readsOne_64 (by decide) (by omega) (fun c64 => ?_) (fun c64 => absurd c64 (by decide))
          refine ev_iconst (pc := 71) hC dX6_readsOne_71 ?_
          exact ev_zreturn (pc := 72) hC hR dX6_readsOne_72 (by decide) (ra3_f (s := 5) hTa (by omega) (by omega) (okI_tr (okI_tr (ok_k1 hTa rfl (by omega)) (ok_digs (s := 2) (d := 1) hd39 (by omega) (by omega))) (ok_digs (s := 3) (d := 2) hd50 (by omega) (by omega))) hk61 hb61 (by rw [mset_eq, show a + (5 + j61) = a + 1 + 1 + 1 + 2 + j61 by omega]) (rdF_at (rdF_put (rdF_at (rdF_put (rdF_at (rdF_at (rdF_put (rdF_rf p X) (by omega)))) (by omega))) (by omega))))
      · show Ev K 53 [some (.ref 29), some (vi ((p : Nat) : Int))] [vi 0] (mset (mset (mset (mset (mset X 39 p (zI (kindT (nx T n (a + 1)).toNat))) 29 14 (zI (((a + 1) + 1 : Nat) : Int))) 29 14 (zI ((((a + 1) + 1) + 1 : Nat) : Int))) 39 (p + 1) (zI ((valT T ((a + 1) + 1) 1 : Nat) : Int))) 29 14 (zI (((((a + 1) + 1) + 1) + j50 : Nat) : Int)))
        refine ev_if_eq (pc := 53) hC 71 dX6_readsOne_53 (by decide) (by omega) (fun c53 => ?_) (fun c53 => absurd c53 (by decide))
        refine ev_iconst (pc := 71) hC dX6_readsOne_71 ?_
        exact ev_zreturn (pc := 72) hC hR dX6_readsOne_72 (by decide) (ra3_f (s := 3) hTa (by omega) (by omega) (okI_tr (ok_k1 hTa rfl (by omega)) (ok_digs (s := 2) (d := 1) hd39 (by omega) (by omega))) hk50 hb50 (by rw [mset_eq, show a + (3 + j50) = a + 1 + 1 + 1 + j50 by omega]) (rdF_at (rdF_put (rdF_at (rdF_at (rdF_put (rdF_rf p X) (by omega)))) (by omega))))
    · show Ev K 42 [some (.ref 29), some (vi ((p : Nat) : Int))] [vi 0] (mset (mset (mset X 39 p (zI (kindT (nx T n (a + 1)).toNat))) 29 14 (zI (((a + 1) + 1 : Nat) : Int))) 29 14 (zI ((((a + 1) + 1) + j39 : Nat) : Int)))
      refine ev_if_eq (pc := 42) hC 71 dX6_readsOne_42 (by decide) (by omega) (fun c42 => ?_) (fun c42 => absurd c42 (by decide))
      refine ev_iconst (pc := 71) hC dX6_readsOne_71 ?_
      exact ev_zreturn (pc := 72) hC hR dX6_readsOne_72 (by decide) (ra3_f (s := 2) hTa (by omega) (by omega) (ok_k1 hTa rfl (by omega)) hk39 hb39 (by rw [mset_eq, show a + (2 + j39) = a + 1 + 1 + j39 by omega]) (rdF_at (rdF_at (rdF_put (rdF_rf p X) (by omega)))))
  · refine ev_iconst (pc := 22) hC dX6_readsOne_22 ?_
    exact ev_zreturn (pc := 23) hC hR dX6_readsOne_23 (by decide) (ra3_k hTa rfl (by omega) (by rw [mset_row (by omega)]; exact hat) (rdF_put (rdF_rf p X) (by omega)))
theorem mtX6_readsAll : MT yX6_readsAll wsX6_readsAll cX6_readsAll 3 (some .boolean) 2 := ⟨⟨_, rfl⟩, by decide, by decide, by decide +kernel⟩
set_option maxRecDepth 100000 in
set_option maxHeartbeats 4000000 in
theorem ru_X6_readsAll {X : Mem} {T : Nat → Nat} {n : Nat} (a p : Nat) (hT : TxM X T n) (hat : X 29 14 = zI ((a + 1 : Nat) : Int)) (ha : a ≤ 200) (hl : 0 < lenT (T a)) (hp : p + 4 ≤ 192) : Ru yX6_readsAll wsX6_readsAll 3 67 [.ref 29, vi ((T a : Nat) : Int), vi ((p : Nat) : Int)] X (fun v X' => raP v X X' T n a p) := by
  refine ru_of (w2 := _) rfl (by decide) [some (.ref 29), some (vi ((T a : Nat) : Int)), some (vi ((p : Nat) : Int))] (fun _ => rfl) (fun _ => Nat.le_of_ble_eq_true rfl) ?_
  intro K hKn hC hR
  have hn96 := hT.2.1
  have hlc := lenT_cases (T a)
  refine ev_iload_n (pc := 0) hC dX6_readsAll_0 rfl ?_
  rcases (show ((T a : Nat) : Int) = 97 ∨ ((T a : Nat) : Int) = 98 ∨ ((T a : Nat) : Int) = 104 ∨ ((T a : Nat) : Int) = 112 ∨ (¬ ((T a : Nat) : Int) = 97 ∧ ¬ ((T a : Nat) : Int) = 98 ∧ ¬ ((T a : Nat) : Int) = 104 ∧ ¬ ((T a : Nat) : Int) = 112) by omega) with c1 | c1 | c1 | c1 | c1
  · refine ev_lookup (pc := 1) hC 102 dX6_readsAll_1 (by decide) (by omega) (by rw [c1]) (by decide) ?_
    refine ev_aload_n (pc := 102) hC dX6_readsAll_102 rfl ?_
    refine ev_iload_n (pc := 103) hC dX6_readsAll_103 rfl ?_
    refine ev_iconst (pc := 104) hC dX6_readsAll_104 ?_
    refine ev_callV (pc := 105) (as := [vi ((p : Nat) : Int), vi 1]) (rest := []) hC gX6_readsAll_X6_readsDigits mtX6_readsDigits dX6_readsAll_105 (ru_X6_readsDigits hT hat (by omega) p 1 (by omega) (by omega)) (by decide) (by decide) (by decide) rfl (by rfl) (Nat.le_of_ble_eq_true rfl) rfl (fun v105 X105 h105 => ?_)
    rcases h105 with ⟨rfl, hd105, rfl⟩ | ⟨j105, hj105, hk105, hb105, rfl, rfl⟩
    · show Ev K 108 [some (.ref 29), some (vi ((T a : Nat) : Int)), some (vi ((p : Nat) : Int))] [vi 1] (mset (mset X 29 14 (zI (((a + 1) + 1 : Nat) : Int))) 39 p (zI ((valT T (a + 1) 1 : Nat) : Int)))
      have hT105 : TxM (mset (mset X 29 14 (zI (((a + 1) + 1 : Nat) : Int))) 39 p (zI ((valT T (a + 1) 1 : Nat) : Int))) T n := (hT.set_at (Or.inl ⟨rfl, by omega⟩)).set_at (Or.inr (by omega))
      have hat105 : (mset (mset X 29 14 (zI (((a + 1) + 1 : Nat) : Int))) 39 p (zI ((valT T (a + 1) 1 : Nat) : Int))) 29 14 = zI ((((a + 1) + 1) : Nat) : Int) := by rw [mset_row (by omega), mset_eq]
      refine ev_if_eq (pc := 108) hC 126 dX6_readsAll_108 (by decide) (by omega) (fun c108 => absurd c108 (by decide)) (fun c108 => ?_)
      refine ev_aload_n (pc := 111) hC dX6_readsAll_111 rfl ?_
      refine ev_iload_n (pc := 112) hC dX6_readsAll_112 rfl ?_
      refine ev_iconst (pc := 113) hC dX6_readsAll_113 ?_
      refine ev_iadd (pc := 114) hC ((p + 1 : Nat) : Int) (by omega) dX6_readsAll_114 ?_
      refine ev_iconst (pc := 115) hC dX6_readsAll_115 ?_
      refine ev_callV (pc := 116) (as := [vi ((p + 1 : Nat) : Int), vi 2]) (rest := []) hC gX6_readsAll_X6_readsDigits mtX6_readsDigits dX6_readsAll_116 (ru_X6_readsDigits hT105 hat105 (by omega) (p + 1) 2 (by omega) (by omega)) (by decide) (by decide) (by decide) rfl (by rfl) (Nat.le_of_ble_eq_true rfl) rfl (fun v116 X116 h116 => ?_)
      rcases h116 with ⟨rfl, hd116, rfl⟩ | ⟨j116, hj116, hk116, hb116, rfl, rfl⟩
      · show Ev K 119 [some (.ref 29), some (vi ((T a : Nat) : Int)), some (vi ((p : Nat) : Int))] [vi 1] (mset (mset (mset (mset X 29 14 (zI (((a + 1) + 1 : Nat) : Int))) 39 p (zI ((valT T (a + 1) 1 : Nat) : Int))) 29 14 (zI ((((a + 1) + 1) + 2 : Nat) : Int))) 39 (p + 1) (zI ((valT T ((a + 1) + 1) 2 : Nat) : Int)))
        have hT116 : TxM (mset (mset (mset (mset X 29 14 (zI (((a + 1) + 1 : Nat) : Int))) 39 p (zI ((valT T (a + 1) 1 : Nat) : Int))) 29 14 (zI ((((a + 1) + 1) + 2 : Nat) : Int))) 39 (p + 1) (zI ((valT T ((a + 1) + 1) 2 : Nat) : Int))) T n := (hT105.set_at (Or.inl ⟨rfl, by omega⟩)).set_at (Or.inr (by omega))
        have hat116 : (mset (mset (mset (mset X 29 14 (zI (((a + 1) + 1 : Nat) : Int))) 39 p (zI ((valT T (a + 1) 1 : Nat) : Int))) 29 14 (zI ((((a + 1) + 1) + 2 : Nat) : Int))) 39 (p + 1) (zI ((valT T ((a + 1) + 1) 2 : Nat) : Int))) 29 14 = zI (((((a + 1) + 1) + 2) : Nat) : Int) := by rw [mset_row (by omega), mset_eq]
        refine ev_if_eq (pc := 119) hC 126 dX6_readsAll_119 (by decide) (by omega) (fun c119 => absurd c119 (by decide)) (fun c119 => ?_)
        refine ev_iconst (pc := 122) hC dX6_readsAll_122 ?_
        refine ev_goto (pc := 123) hC 127 dX6_readsAll_123 (by decide) ?_
        exact ev_zreturn (pc := 127) hC hR dX6_readsAll_127 (by decide) (ra2_tt (by unfold hd2; omega) hd105 hd116)
      · show Ev K 119 [some (.ref 29), some (vi ((T a : Nat) : Int)), some (vi ((p : Nat) : Int))] [vi 0] (mset (mset (mset X 29 14 (zI (((a + 1) + 1 : Nat) : Int))) 39 p (zI ((valT T (a + 1) 1 : Nat) : Int))) 29 14 (zI ((((a + 1) + 1) + j116 : Nat) : Int)))
        refine ev_if_eq (pc := 119) hC 126 dX6_readsAll_119 (by decide) (by omega) (fun c119 => ?_) (fun c119 => absurd c119 (by decide))
        refine ev_iconst (pc := 126) hC dX6_readsAll_126 ?_
        exact ev_zreturn (pc := 127) hC hR dX6_readsAll_127 (by decide) (ra2_tf (by unfold hd2; omega) hd105 hj116 hk116 hb116)
    · show Ev K 108 [some (.ref 29), some (vi ((T a : Nat) : Int)), some (vi ((p : Nat) : Int))] [vi 0] (mset X 29 14 (zI (((a + 1) + j105 : Nat) : Int)))
      refine ev_if_eq (pc := 108) hC 126 dX6_readsAll_108 (by decide) (by omega) (fun c108 => ?_) (fun c108 => absurd c108 (by decide))
      refine ev_iconst (pc := 126) hC dX6_readsAll_126 ?_
      exact ev_zreturn (pc := 127) hC hR dX6_readsAll_127 (by decide) (ra2_f (d1 := 1) (d2 := 2) (by unfold hd2; omega) hj105 hk105 hb105)
  · refine ev_lookup (pc := 1) hC 76 dX6_readsAll_1 (by decide) (by omega) (by rw [c1]) (by decide) ?_
    refine ev_aload_n (pc := 76) hC dX6_readsAll_76 rfl ?_
    refine ev_iload_n (pc := 77) hC dX6_readsAll_77 rfl ?_
    refine ev_iconst (pc := 78) hC dX6_readsAll_78 ?_
    refine ev_callV (pc := 79) (as := [vi ((p : Nat) : Int), vi 1]) (rest := []) hC gX6_readsAll_X6_readsDigits mtX6_readsDigits dX6_readsAll_79 (ru_X6_readsDigits hT hat (by omega) p 1 (by omega) (by omega)) (by decide) (by decide) (by decide) rfl (by rfl) (Nat.le_of_ble_eq_true rfl) rfl (fun v79 X79 h79 => ?_)
    rcases h79 with ⟨rfl, hd79, rfl⟩ | ⟨j79, hj79, hk79, hb79, rfl, rfl⟩
    · show Ev K 82 [some (.ref 29), some (vi ((T a : Nat) : Int)), some (vi ((p : Nat) : Int))] [vi 1] (mset (mset X 29 14 (zI (((a + 1) + 1 : Nat) : Int))) 39 p (zI ((valT T (a + 1) 1 : Nat) : Int)))
      have hT79 : TxM (mset (mset X 29 14 (zI (((a + 1) + 1 : Nat) : Int))) 39 p (zI ((valT T (a + 1) 1 : Nat) : Int))) T n := (hT.set_at (Or.inl ⟨rfl, by omega⟩)).set_at (Or.inr (by omega))
      have hat79 : (mset (mset X 29 14 (zI (((a + 1) + 1 : Nat) : Int))) 39 p (zI ((valT T (a + 1) 1 : Nat) : Int))) 29 14 = zI ((((a + 1) + 1) : Nat) : Int) := by rw [mset_row (by omega), mset_eq]
      refine ev_if_eq (pc := 82) hC 100 dX6_readsAll_82 (by decide) (by omega) (fun c82 => absurd c82 (by decide)) (fun c82 => ?_)
      refine ev_aload_n (pc := 85) hC dX6_readsAll_85 rfl ?_
      refine ev_iload_n (pc := 86) hC dX6_readsAll_86 rfl ?_
      refine ev_iconst (pc := 87) hC dX6_readsAll_87 ?_
      refine ev_iadd (pc := 88) hC ((p + 1 : Nat) : Int) (by omega) dX6_readsAll_88 ?_
      refine ev_iconst (pc := 89) hC dX6_readsAll_89 ?_
      refine ev_callV (pc := 90) (as := [vi ((p + 1 : Nat) : Int), vi 1]) (rest := []) hC gX6_readsAll_X6_readsDigits mtX6_readsDigits dX6_readsAll_90 (ru_X6_readsDigits hT79 hat79 (by omega) (p + 1) 1 (by omega) (by omega)) (by decide) (by decide) (by decide) rfl (by rfl) (Nat.le_of_ble_eq_true rfl) rfl (fun v90 X90 h90 => ?_)
      rcases h90 with ⟨rfl, hd90, rfl⟩ | ⟨j90, hj90, hk90, hb90, rfl, rfl⟩
      · show Ev K 93 [some (.ref 29), some (vi ((T a : Nat) : Int)), some (vi ((p : Nat) : Int))] [vi 1] (mset (mset (mset (mset X 29 14 (zI (((a + 1) + 1 : Nat) : Int))) 39 p (zI ((valT T (a + 1) 1 : Nat) : Int))) 29 14 (zI ((((a + 1) + 1) + 1 : Nat) : Int))) 39 (p + 1) (zI ((valT T ((a + 1) + 1) 1 : Nat) : Int)))
        have hT90 : TxM (mset (mset (mset (mset X 29 14 (zI (((a + 1) + 1 : Nat) : Int))) 39 p (zI ((valT T (a + 1) 1 : Nat) : Int))) 29 14 (zI ((((a + 1) + 1) + 1 : Nat) : Int))) 39 (p + 1) (zI ((valT T ((a + 1) + 1) 1 : Nat) : Int))) T n := (hT79.set_at (Or.inl ⟨rfl, by omega⟩)).set_at (Or.inr (by omega))
        have hat90 : (mset (mset (mset (mset X 29 14 (zI (((a + 1) + 1 : Nat) : Int))) 39 p (zI ((valT T (a + 1) 1 : Nat) : Int))) 29 14 (zI ((((a + 1) + 1) + 1 : Nat) : Int))) 39 (p + 1) (zI ((valT T ((a + 1) + 1) 1 : Nat) : Int))) 29 14 = zI (((((a + 1) + 1) + 1) : Nat) : Int) := by rw [mset_row (by omega), mset_eq]
        refine ev_if_eq (pc := 93) hC 100 dX6_readsAll_93 (by decide) (by omega) (fun c93 => absurd c93 (by decide)) (fun c93 => ?_)
        refine ev_iconst (pc := 96) hC dX6_readsAll_96 ?_
        refine ev_goto (pc := 97) hC 101 dX6_readsAll_97 (by decide) ?_
        exact ev_zreturn (pc := 101) hC hR dX6_readsAll_101 (by decide) (ra2_tt (by unfold hd2; omega) hd79 hd90)
      · show Ev K 93 [some (.ref 29), some (vi ((T a : Nat) : Int)), some (vi ((p : Nat) : Int))] [vi 0] (mset (mset (mset X 29 14 (zI (((a + 1) + 1 : Nat) : Int))) 39 p (zI ((valT T (a + 1) 1 : Nat) : Int))) 29 14 (zI ((((a + 1) + 1) + j90 : Nat) : Int)))
        refine ev_if_eq (pc := 93) hC 100 dX6_readsAll_93 (by decide) (by omega) (fun c93 => ?_) (fun c93 => absurd c93 (by decide))
        refine ev_iconst (pc := 100) hC dX6_readsAll_100 ?_
        exact ev_zreturn (pc := 101) hC hR dX6_readsAll_101 (by decide) (ra2_tf (by unfold hd2; omega) hd79 hj90 hk90 hb90)
    · show Ev K 82 [some (.ref 29), some (vi ((T a : Nat) : Int)), some (vi ((p : Nat) : Int))] [vi 0] (mset X 29 14 (zI (((a + 1) + j79 : Nat) : Int)))
      refine ev_if_eq (pc := 82) hC 100 dX6_readsAll_82 (by decide) (by omega) (fun c82 => ?_) (fun c82 => absurd c82 (by decide))
      refine ev_iconst (pc := 100) hC dX6_readsAll_100 ?_
      exact ev_zreturn (pc := 101) hC hR dX6_readsAll_101 (by decide) (ra2_f (d1 := 1) (d2 := 1) (by unfold hd2; omega) hj79 hk79 hb79)
  · refine ev_lookup (pc := 1) hC 50 dX6_readsAll_1 (by decide) (by omega) (by rw [c1]) (by decide) ?_
    refine ev_aload_n (pc := 50) hC dX6_readsAll_50 rfl ?_
    refine ev_iload_n (pc := 51) hC dX6_readsAll_51 rfl ?_
    refine ev_iconst (pc := 52) hC dX6_readsAll_52 ?_
    refine ev_callV (pc := 53) (as := [vi ((p : Nat) : Int), vi 2]) (rest := []) hC gX6_readsAll_X6_readsDigits mtX6_readsDigits dX6_readsAll_53 (ru_X6_readsDigits hT hat (by omega) p 2 (by omega) (by omega)) (by decide) (by decide) (by decide) rfl (by rfl) (Nat.le_of_ble_eq_true rfl) rfl (fun v53 X53 h53 => ?_)
    rcases h53 with ⟨rfl, hd53, rfl⟩ | ⟨j53, hj53, hk53, hb53, rfl, rfl⟩
    · show Ev K 56 [some (.ref 29), some (vi ((T a : Nat) : Int)), some (vi ((p : Nat) : Int))] [vi 1] (mset (mset X 29 14 (zI (((a + 1) + 2 : Nat) : Int))) 39 p (zI ((valT T (a + 1) 2 : Nat) : Int)))
      have hT53 : TxM (mset (mset X 29 14 (zI (((a + 1) + 2 : Nat) : Int))) 39 p (zI ((valT T (a + 1) 2 : Nat) : Int))) T n := (hT.set_at (Or.inl ⟨rfl, by omega⟩)).set_at (Or.inr (by omega))
      have hat53 : (mset (mset X 29 14 (zI (((a + 1) + 2 : Nat) : Int))) 39 p (zI ((valT T (a + 1) 2 : Nat) : Int))) 29 14 = zI ((((a + 1) + 2) : Nat) : Int) := by rw [mset_row (by omega), mset_eq]
      refine ev_if_eq (pc := 56) hC 74 dX6_readsAll_56 (by decide) (by omega) (fun c56 => absurd c56 (by decide)) (fun c56 => ?_)
      refine ev_aload_n (pc := 59) hC dX6_readsAll_59 rfl ?_
      refine ev_iload_n (pc := 60) hC dX6_readsAll_60 rfl ?_
      refine ev_iconst (pc := 61) hC dX6_readsAll_61 ?_
      refine ev_iadd (pc := 62) hC ((p + 1 : Nat) : Int) (by omega) dX6_readsAll_62 ?_
      refine ev_iconst (pc := 63) hC dX6_readsAll_63 ?_
      refine ev_callV (pc := 64) (as := [vi ((p + 1 : Nat) : Int), vi 2]) (rest := []) hC gX6_readsAll_X6_readsDigits mtX6_readsDigits dX6_readsAll_64 (ru_X6_readsDigits hT53 hat53 (by omega) (p + 1) 2 (by omega) (by omega)) (by decide) (by decide) (by decide) rfl (by rfl) (Nat.le_of_ble_eq_true rfl) rfl (fun v64 X64 h64 => ?_)
      rcases h64 with ⟨rfl, hd64, rfl⟩ | ⟨j64, hj64, hk64, hb64, rfl, rfl⟩
      · show Ev K 67 [some (.ref 29), some (vi ((T a : Nat) : Int)), some (vi ((p : Nat) : Int))] [vi 1] (mset (mset (mset (mset X 29 14 (zI (((a + 1) + 2 : Nat) : Int))) 39 p (zI ((valT T (a + 1) 2 : Nat) : Int))) 29 14 (zI ((((a + 1) + 2) + 2 : Nat) : Int))) 39 (p + 1) (zI ((valT T ((a + 1) + 2) 2 : Nat) : Int)))
        have hT64 : TxM (mset (mset (mset (mset X 29 14 (zI (((a + 1) + 2 : Nat) : Int))) 39 p (zI ((valT T (a + 1) 2 : Nat) : Int))) 29 14 (zI ((((a + 1) + 2) + 2 : Nat) : Int))) 39 (p + 1) (zI ((valT T ((a + 1) + 2) 2 : Nat) : Int))) T n := (hT53.set_at (Or.inl ⟨rfl, by omega⟩)).set_at (Or.inr (by omega))
        have hat64 : (mset (mset (mset (mset X 29 14 (zI (((a + 1) + 2 : Nat) : Int))) 39 p (zI ((valT T (a + 1) 2 : Nat) : Int))) 29 14 (zI ((((a + 1) + 2) + 2 : Nat) : Int))) 39 (p + 1) (zI ((valT T ((a + 1) + 2) 2 : Nat) : Int))) 29 14 = zI (((((a + 1) + 2) + 2) : Nat) : Int) := by rw [mset_row (by omega), mset_eq]
        refine ev_if_eq (pc := 67) hC 74 dX6_readsAll_67 (by decide) (by omega) (fun c67 => absurd c67 (by decide)) (fun c67 => ?_)
        refine ev_iconst (pc := 70) hC dX6_readsAll_70 ?_
        refine ev_goto (pc := 71) hC 75 dX6_readsAll_71 (by decide) ?_
        exact ev_zreturn (pc := 75) hC hR dX6_readsAll_75 (by decide) (ra2_tt (by unfold hd2; omega) hd53 hd64)
      · show Ev K 67 [some (.ref 29), some (vi ((T a : Nat) : Int)), some (vi ((p : Nat) : Int))] [vi 0] (mset (mset (mset X 29 14 (zI (((a + 1) + 2 : Nat) : Int))) 39 p (zI ((valT T (a + 1) 2 : Nat) : Int))) 29 14 (zI ((((a + 1) + 2) + j64 : Nat) : Int)))
        refine ev_if_eq (pc := 67) hC 74 dX6_readsAll_67 (by decide) (by omega) (fun c67 => ?_) (fun c67 => absurd c67 (by decide))
        refine ev_iconst (pc := 74) hC dX6_readsAll_74 ?_
        exact ev_zreturn (pc := 75) hC hR dX6_readsAll_75 (by decide) (ra2_tf (by unfold hd2; omega) hd53 hj64 hk64 hb64)
    · show Ev K 56 [some (.ref 29), some (vi ((T a : Nat) : Int)), some (vi ((p : Nat) : Int))] [vi 0] (mset X 29 14 (zI (((a + 1) + j53 : Nat) : Int)))
      refine ev_if_eq (pc := 56) hC 74 dX6_readsAll_56 (by decide) (by omega) (fun c56 => ?_) (fun c56 => absurd c56 (by decide))
      refine ev_iconst (pc := 74) hC dX6_readsAll_74 ?_
      exact ev_zreturn (pc := 75) hC hR dX6_readsAll_75 (by decide) (ra2_f (d1 := 2) (d2 := 2) (by unfold hd2; omega) hj53 hk53 hb53)
  · refine ev_lookup (pc := 1) hC 44 dX6_readsAll_1 (by decide) (by omega) (by rw [c1]) (by decide) ?_
    refine ev_aload_n (pc := 44) hC dX6_readsAll_44 rfl ?_
    refine ev_iload_n (pc := 45) hC dX6_readsAll_45 rfl ?_
    refine ev_callV (pc := 46) (as := [vi ((p : Nat) : Int)]) (rest := []) hC gX6_readsAll_X6_readsOne mtX6_readsOne dX6_readsAll_46 (ru_X6_readsOne a p hT hat ha hl hp (by omega)) (by decide) (by decide) (by decide) rfl (by rfl) (Nat.le_of_ble_eq_true rfl) rfl (fun v46 X46 h46 => ?_)
    rcases h46 with ⟨rfl, h46_⟩ | ⟨j46, h46a, h46b, h46c, h46d, rfl, h46_⟩
    · show Ev K 49 [some (.ref 29), some (vi ((T a : Nat) : Int)), some (vi ((p : Nat) : Int))] [vi 1] X46
      exact ev_zreturn (pc := 49) hC hR dX6_readsAll_49 (by decide) (Or.inl ⟨rfl, h46_⟩)
    · show Ev K 49 [some (.ref 29), some (vi ((T a : Nat) : Int)), some (vi ((p : Nat) : Int))] [vi 0] X46
      exact ev_zreturn (pc := 49) hC hR dX6_readsAll_49 (by decide) (Or.inr ⟨j46, h46a, h46b, h46c, h46d, rfl, h46_⟩)
  · refine ev_lookup (pc := 1) hC (off := 127) 128 dX6_readsAll_1 (by decide) (by omega) (by simp [Op.lookupswitch.offset, show ¬ (97 : Int) = ((T a : Nat) : Int) by omega, show ¬ (98 : Int) = ((T a : Nat) : Int) by omega, show ¬ (104 : Int) = ((T a : Nat) : Int) by omega, show ¬ (112 : Int) = ((T a : Nat) : Int) by omega]) (by decide) ?_
    refine ev_aload_n (pc := 128) hC dX6_readsAll_128 rfl ?_
    refine ev_iload_n (pc := 129) hC dX6_readsAll_129 rfl ?_
    refine ev_iconst (pc := 130) hC dX6_readsAll_130 ?_
    refine ev_callV (pc := 131) (as := [vi ((p : Nat) : Int), vi 2]) (rest := []) hC gX6_readsAll_X6_readsDigits mtX6_readsDigits dX6_readsAll_131 (ru_X6_readsDigits hT hat (by omega) p 2 (by omega) (by omega)) (by decide) (by decide) (by decide) rfl (by rfl) (Nat.le_of_ble_eq_true rfl) rfl (fun v131 X131 h131 => ?_)
    rcases h131 with ⟨rfl, hd131, rfl⟩ | ⟨j131, hj131, hk131, hb131, rfl, rfl⟩
    · show Ev K 134 [some (.ref 29), some (vi ((T a : Nat) : Int)), some (vi ((p : Nat) : Int))] [vi 1] (mset (mset X 29 14 (zI (((a + 1) + 2 : Nat) : Int))) 39 p (zI ((valT T (a + 1) 2 : Nat) : Int)))
      have hT131 : TxM (mset (mset X 29 14 (zI (((a + 1) + 2 : Nat) : Int))) 39 p (zI ((valT T (a + 1) 2 : Nat) : Int))) T n := (hT.set_at (Or.inl ⟨rfl, by omega⟩)).set_at (Or.inr (by omega))
      have hat131 : (mset (mset X 29 14 (zI (((a + 1) + 2 : Nat) : Int))) 39 p (zI ((valT T (a + 1) 2 : Nat) : Int))) 29 14 = zI ((((a + 1) + 2) : Nat) : Int) := by rw [mset_row (by omega), mset_eq]
      exact ev_zreturn (pc := 134) hC hR dX6_readsAll_134 (by decide) (ra1_t (by omega) hd131)
    · show Ev K 134 [some (.ref 29), some (vi ((T a : Nat) : Int)), some (vi ((p : Nat) : Int))] [vi 0] (mset X 29 14 (zI (((a + 1) + j131 : Nat) : Int)))
      exact ev_zreturn (pc := 134) hC hR dX6_readsAll_134 (by decide) (ra1_f (by omega) hj131 hk131 hb131)
