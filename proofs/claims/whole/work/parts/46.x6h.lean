theorem mtX6_draw : MT yX6_draw wsX6_draw cX6_draw 2 (some .int) 1 := ⟨⟨_, rfl⟩, by decide, by decide, by decide +kernel⟩
set_option maxRecDepth 100000 in
set_option maxHeartbeats 4000000 in
theorem ru_X6_draw {X : Mem} (z : Int) (m : Nat) (h : X 29 24 = zI z) (hm : 0 < m ∧ m ≤ 100) : Ru yX6_draw wsX6_draw 0 0 [.ref 29, vi ((m : Nat) : Int)] X (fun v X' => v = some (vi (drawI (stir z) m)) ∧ X' = mset X 29 24 (zI (stir z))) := by
  refine ru_of (w2 := _) rfl (by decide) [some (.ref 29), some (vi ((m : Nat) : Int))] (fun _ => rfl) (fun _ => Nat.le_of_ble_eq_true rfl) ?_
  intro K hKn hC hR
  have wX6 : ∀ w ∈ u_ws RX6 TX6 25, w ∈ wsX6_draw := by decide +kernel
  have f279 : Fl K RX6 279 6 24 := fl_of hC RX6 TX6 25 rfl (by decide) wX6 (show Cond.fieldLink RX6 279 "PicnicOfSomebodyModel" "lots" "I" ∈ _ by decide +kernel)
  refine ev_aload_n (pc := 0) hC dX6_draw_0 rfl ?_
  refine ev_aload_n (pc := 1) hC dX6_draw_1 rfl ?_
  refine ev_geti (pc := 2) hC z f279 dX6_draw_2 (by decide) (by decide) (by decide) (by decide) (by decide)  (h) ?_
  refine ev_ldcw (pc := 5) hC 1664525 (show Cond.constant RX6 282 (1664525) ∈ _ by decide +kernel) (by decide) dX6_draw_5 ?_
  refine ev_imul (pc := 8) hC (z * 1664525) (rfl) dX6_draw_8 ?_
  refine ev_ldcw (pc := 9) hC 1013904223 (show Cond.constant RX6 283 (1013904223) ∈ _ by decide +kernel) (by decide) dX6_draw_9 ?_
  refine ev_iadd (pc := 12) hC (stir z) (rfl) dX6_draw_12 ?_
  refine ev_puti (pc := 13) hC f279 fpX6_24 dX6_draw_13 (by decide) (by decide) (by decide) (by decide) (by decide) (rfl) (rfl) ?_
  refine ev_aload_n (pc := 16) hC dX6_draw_16 rfl ?_
  refine ev_geti (pc := 17) hC (stir z) f279 dX6_draw_17 (by decide) (by decide) (by decide) (by decide) (by decide)  (mset_eq _ _ _ _) ?_
  refine ev_ldcw (pc := 20) hC 2147483647 (show Cond.constant RX6 284 (2147483647) ∈ _ by decide +kernel) (by decide) dX6_draw_20 ?_
  have hml := mask_le (stir z)
  refine ev_iand (pc := 23) hC (((stir z % 2147483648).toNat : Nat) : Int) (zI_mask (stir z)) dX6_draw_23 ?_
  refine ev_sipush (pc := 24) hC dX6_draw_24 (by decide) ?_
  refine ev_idiv (pc := 27) hC ((((stir z % 2147483648).toNat) / 256 : Nat) : Int) (by omega) (by omega) (by omega) dX6_draw_27 ?_
  refine ev_iload_n (pc := 28) hC dX6_draw_28 rfl ?_
  refine ev_irem (pc := 29) hC (((stir z % 2147483648).toNat / 256 % m : Nat) : Int) ((Int.natCast_emod _ _).symm) (by omega) (by omega) dX6_draw_29 ?_
  exact ev_ireturn (pc := 30) hC hR dX6_draw_30 (⟨rfl, rfl⟩)
theorem mtX6_lots : MT yX6_lots wsX6_lots cX6_lots 9 (some .int) 3 := ⟨⟨_, rfl⟩, by decide, by decide, by decide +kernel⟩
set_option maxRecDepth 100000 in
set_option maxHeartbeats 4000000 in
theorem ru_X6_lots {X : Mem} {V : St} (hV : mI X V) (x0 : Int) (hx0 : -2147483648 ≤ x0 ∧ x0 ≤ 2147483647) (x1 : Int) (hx1 : -2147483648 ≤ x1 ∧ x1 ≤ 2147483647) (x2 : Int) (hx2 : -2147483648 ≤ x2 ∧ x2 ≤ 2147483647) : Ru yX6_lots wsX6_lots 9 199 [.ref 29, vi x0, vi x1, vi x2] X (fun v X' => v = some (vi (sp33 x0 x1 x2 V).1) ∧ mI X' (sp33 x0 x1 x2 V).2 ∧ frM X X') := by
  refine ru_of (w2 := _) rfl (by decide) [some (.ref 29), some (vi x0), some (vi x1), some (vi x2), none, none, none, none, none] (fun _ => rfl) (fun _ => Nat.le_of_ble_eq_true rfl) ?_
  intro K hKn hC hR
  have wX6 : ∀ w ∈ u_ws RX6 TX6 25, w ∈ wsX6_lots := by decide +kernel
  have f279 : Fl K RX6 279 6 24 := fl_of hC RX6 TX6 25 rfl (by decide) wX6 (show Cond.fieldLink RX6 279 "PicnicOfSomebodyModel" "lots" "I" ∈ _ by decide +kernel)
  have f52 : Fl K RX6 52 6 6 := fl_of hC RX6 TX6 25 rfl (by decide) wX6 (show Cond.fieldLink RX6 52 "PicnicOfSomebodyModel" "people" "I" ∈ _ by decide +kernel)
  have f22 : Fl K RX6 22 6 4 := fl_of hC RX6 TX6 25 rfl (by decide) wX6 (show Cond.fieldLink RX6 22 "PicnicOfSomebodyModel" "cell" "[I" ∈ _ by decide +kernel)
  have f25 : Fl K RX6 25 6 5 := fl_of hC RX6 TX6 25 rfl (by decide) wX6 (show Cond.fieldLink RX6 25 "PicnicOfSomebodyModel" "belief" "[I" ∈ _ by decide +kernel)
  obtain ⟨A, B, hh, T, n, W, rs, C⟩ := V
  have hA : Rp (vM X) A := hV.1
  have hyA : A 5 1 ≤ 999 := hV.2.1
  have hB : hh = true → Rp (vK X 0) B ∧ B 5 1 ≤ 999 := hV.2.2.1
  have hi : X 29 17 = zI (b2i hh) := hV.2.2.2.1
  have hg : X 29 8 = zI ((0 : Nat) : Int) := hV.2.2.2.2.1
  have hT : TxM X T n := hV.2.2.2.2.2.1
  have hW : RwM X W rs := hV.2.2.2.2.2.2.1
  have hCn : ∀ k, k < 7 → X 30 k = zI (C k : Nat) := hV.2.2.2.2.2.2.2
  have hn8 := hA.n8
  have hn96 := hT.2.1
  have hrs := hW.2.1
  have hG : 0 < 256 := by decide
  have hI : mI X (A, B, hh, T, n, W, rs, C) := hV
  have hq1 := bnd_cases x0 1 20
  have hq2 := cdO_cases x2 2
  have hq3 := f3_cases (bnd x0 1 20) (cdO x2 2) 0
  refine ev_iload_n (pc := 0) hC dX6_lots_0 rfl ?_
  refine ev_iconst (pc := 1) hC dX6_lots_1 ?_
  refine ev_bipush (pc := 2) hC dX6_lots_2 (by decide) ?_
  refine ev_callS (pc := 4) (as := [vi x0, vi 1, vi 20]) (rest := []) hC gX6_lots_X6_bound mtX6_bound dX6_lots_4 (ru_X6_bound x0 1 20 (by omega) (by omega) (by omega)) (by decide) (by rfl) (Nat.le_of_ble_eq_true rfl) rfl (fun v4 X4 h4 => ?_)
  obtain ⟨rfl, rfl⟩ := h4
  show Ev K 7 [some (.ref 29), some (vi x0), some (vi x1), some (vi x2), none, none, none, none, none] [vi (bnd x0 1 20)] X
  have hbd4 := bnd_cases x0 1 20
  refine ev_istore (pc := 7) hC dX6_lots_7 (by rw [hKn]; decide) rfl ?_
  show Ev K 9 [some (.ref 29), some (vi x0), some (vi x1), some (vi x2), some (vi (bnd x0 1 20)), none, none, none, none] [] X
  refine ev_iload (pc := 9) hC dX6_lots_9 rfl ?_
  refine ev_if_ne (pc := 11) hC 27 dX6_lots_11 (by decide) (by omega) (fun c11 => ?_) (fun c11 => ?_)
  · refine ev_iload (pc := 27) hC dX6_lots_27 rfl ?_
    refine ev_if_eq (pc := 29) hC 39 dX6_lots_29 (by decide) (by omega) (fun c29 => ?_) (fun c29 => ?_)
    · obtain ⟨p0, rfl⟩ : ∃ k : Nat, x0 = (k : Int) := ⟨x0.toNat, by omega⟩
      refine ev_aload_n (pc := 39) hC dX6_lots_39 rfl ?_
      refine ev_iload_n (pc := 40) hC dX6_lots_40 rfl ?_
      refine ev_puti (pc := 41) hC f279 fpX6_24 dX6_lots_41 (by decide) (by decide) (by decide) (by decide) (by decide) (rfl) (rfl) ?_
      have hz43 : (mset X 29 24 (zI x1)) 29 24 = zI x1 := mset_eq _ _ _ _
      have hA43 : Rp (vM (mset X 29 24 (zI x1))) A := hA.keepM (by rw [mset_ne _ _ _ _ (by omega)]) (by rw [mset_ne _ _ _ _ (by omega)]) (fun q hq => by rw [mset_row (by omega)])
      have hg43 : (mset X 29 24 (zI x1)) 29 8 = zI ((0 : Nat) : Int) := by rw [mset_ne _ _ _ _ (by omega)]; exact hg
      have hFr43 : frW 1 X (mset X 29 24 (zI x1)) := frW_29 (frW_rf 1 X) (Or.inr rfl)
      refine ev_iconst (pc := 44) hC dX6_lots_44 ?_
      refine ev_istore (pc := 45) hC dX6_lots_45 (by rw [hKn]; decide) rfl ?_
      show Ev K 47 [some (.ref 29), some (vi ((p0 : Nat) : Int)), some (vi x1), some (vi x2), some (vi (bnd ((p0 : Nat) : Int) 1 20)), some (vi 0), none, none, none] [] (mset X 29 24 (zI x1))
      refine ev_iconst (pc := 47) hC dX6_lots_47 ?_
      refine ev_istore (pc := 48) hC dX6_lots_48 (by rw [hKn]; decide) rfl ?_
      show Ev K 50 [some (.ref 29), some (vi ((p0 : Nat) : Int)), some (vi x1), some (vi x2), some (vi (bnd ((p0 : Nat) : Int) 1 20)), some (vi 0), some (vi 0), none, none] [] (mset X 29 24 (zI x1))
      refine ev_iconst (pc := 50) hC dX6_lots_50 ?_
      refine ev_istore (pc := 51) hC dX6_lots_51 (by rw [hKn]; decide) rfl ?_
      show Ev K 53 [some (.ref 29), some (vi ((p0 : Nat) : Int)), some (vi x1), some (vi x2), some (vi (bnd ((p0 : Nat) : Int) 1 20)), some (vi 0), some (vi 0), some (vi 0), none] [] (mset X 29 24 (zI x1))
      have lp53 : ∀ (fz : Nat) (k : Nat) (c : Nat) (s : Nat) (Y : Mem), p0 - k < fz → (k ≤ p0) → (c = sumB k (fun k => bcnt 0 (lotA A x1 k))) → (s = sumB k (fun k => sumB (lotA A x1 k 5 0) (lotA A x1 k 4))) → (Y 29 24 = zI (lotZ A x1 k)) → (Rp (vM Y) A) → (Y 29 8 = zI ((0 : Nat) : Int)) → (frW 1 X Y) → Ev K 53 [some (.ref 29), some (vi ((p0 : Nat) : Int)), some (vi x1), some (vi x2), some (vi (bnd ((p0 : Nat) : Int) 1 20)), some (vi ((c : Nat) : Int)), some (vi ((s : Nat) : Int)), some (vi ((k : Nat) : Int)), none] [] Y := by
        intro fz
        induction fz with
        | zero => intro k c s Y hfz; exact absurd hfz (Nat.not_lt_zero _)
        | succ fz ih53 =>
          intro k c s Y hfz hk hc hs hz hAY hgY hFY
          have hY8 := hAY.n8
          refine ev_iload (pc := 53) hC dX6_lots_53 rfl ?_
          refine ev_iload_n (pc := 55) hC dX6_lots_55 rfl ?_
          refine ev_icmp_ge (pc := 56) hC 144 dX6_lots_56 (by decide) (by omega) (by omega) (fun c56 => ?_) (fun c56 => ?_)
          · refine ev_iload_n (pc := 144) hC dX6_lots_144 rfl ?_
            refine ev_if_ne (pc := 145) hC 153 dX6_lots_145 (by decide) (by omega) (fun c145 => ?_) (fun c145 => ?_)
            · refine ev_iload (pc := 153) hC dX6_lots_153 rfl ?_
              exact ev_ireturn (pc := 155) hC hR dX6_lots_155 (ok_endM (show f3 (bnd ((p0 : Nat) : Int) 1 20) (cdO x2 2) 0 = 0 by omega) (lot_n (by omega) hs (show k = p0 by omega)) (mI_W hI hAY hgY hFY) (frM_W hFY))
            · refine ev_iload (pc := 148) hC dX6_lots_148 rfl ?_
              refine ev_goto (pc := 150) hC 155 dX6_lots_150 (by decide) ?_
              exact ev_ireturn (pc := 155) hC hR dX6_lots_155 (ok_endM (show f3 (bnd ((p0 : Nat) : Int) 1 20) (cdO x2 2) 0 = 0 by omega) (lot_y (by omega) hc (show k = p0 by omega)) (mI_W hI hAY hgY hFY) (frM_W hFY))
          · refine ev_aload_n (pc := 59) hC dX6_lots_59 rfl ?_
            refine ev_callV (pc := 60) (as := []) (rest := []) hC gX6_lots_X6_thinks mtX6_thinks dX6_lots_60 (ru_X6_thinks) (by decide) (by decide) (by decide) rfl (by rfl) (Nat.le_of_ble_eq_true rfl) rfl (fun v60 X60 h60 => ?_)
            obtain ⟨rfl, hS60⟩ := h60
            show Ev K 63 [some (.ref 29), some (vi ((p0 : Nat) : Int)), some (vi x1), some (vi x2), some (vi (bnd ((p0 : Nat) : Int) 1 20)), some (vi ((c : Nat) : Int)), some (vi ((s : Nat) : Int)), some (vi ((k : Nat) : Int)), none] [] X60
            have hF60 := ks_fr hS60
            have hA60 := ks_repM hS60 hAY
            have hk2_60 := ks_rep hS60 hAY
            have hg60 := frT_gone hF60 hgY
            have hFr60 := frW_tr hFY hF60 (by omega)
            have hn8_60 := hA60.n8
            have hz60 := (hF60.2.1 24 (by omega) (by omega) (by omega) (by omega)).trans hz
            refine ev_iconst (pc := 63) hC dX6_lots_63 ?_
            refine ev_istore (pc := 64) hC dX6_lots_64 (by rw [hKn]; decide) rfl ?_
            show Ev K 66 [some (.ref 29), some (vi ((p0 : Nat) : Int)), some (vi x1), some (vi x2), some (vi (bnd ((p0 : Nat) : Int) 1 20)), some (vi ((c : Nat) : Int)), some (vi ((s : Nat) : Int)), some (vi ((k : Nat) : Int)), some (vi 0)] [] X60
            have lp66 : ∀ (fz : Nat) (j : Nat) (Y : Mem), A 5 0 - j < fz → (j ≤ A 5 0) → (Y 29 24 = zI ((lotR A (lotZ A x1 k) j).2)) → (Rp (vM Y) (lotR A (lotZ A x1 k) j).1) → (Y 29 8 = zI ((0 : Nat) : Int)) → (frW 1 X Y) → (Rp (vK Y 2) A) → Ev K 66 [some (.ref 29), some (vi ((p0 : Nat) : Int)), some (vi x1), some (vi x2), some (vi (bnd ((p0 : Nat) : Int) 1 20)), some (vi ((c : Nat) : Int)), some (vi ((s : Nat) : Int)), some (vi ((k : Nat) : Int)), some (vi ((j : Nat) : Int))] [] Y := by
              intro fz
              induction fz with
              | zero => intro j Y hfz; exact absurd hfz (Nat.not_lt_zero _)
              | succ fz ih66 =>
                intro j Y hfz hj hz2 hAY hgY hFY hK2Y
                have hY8 := hAY.n8
                have hln := lotR_n A (lotZ A x1 k) j
                refine ev_iload (pc := 66) hC dX6_lots_66 rfl ?_
                refine ev_aload_n (pc := 68) hC dX6_lots_68 rfl ?_
                refine ev_geti (pc := 69) hC (((lotR A (lotZ A x1 k) j).1 5 0 : Nat) : Int) f52 dX6_lots_69 (by decide) (by decide) (by decide) (by decide) (by decide)  (hAY.mn) ?_
                refine ev_icmp_ge (pc := 72) hC 107 dX6_lots_72 (by decide) (by omega) (by omega) (fun c72 => ?_) (fun c72 => ?_)
                · have hjn : j = A 5 0 := by omega
                  have hLA : Rp (vM Y) (lotR A (lotZ A x1 k) (A 5 0)).1 := hjn ▸ hAY
                  have hLZ : Y 29 24 = zI (lotZ A x1 (k + 1)) := by rw [hz2, hjn]; rfl
                  have hl5 := lotR_n A (lotZ A x1 k) (A 5 0)
                  refine ev_aload_n (pc := 107) hC dX6_lots_107 rfl ?_
                  refine ev_bipush (pc := 108) hC dX6_lots_108 (by decide) ?_
                  refine ev_callV (pc := 110) (as := [vi 10]) (rest := []) hC gX6_lots_X6_goes mtX6_goes dX6_lots_110 (ru_X6_goes hLA hgY hG 10 (by omega)) (by decide) (by decide) (by decide) rfl (by rfl) (Nat.le_of_ble_eq_true rfl) rfl (fun v110 X110 h110 => ?_)
                  obtain ⟨rfl, hA110, hF110⟩ := h110
                  show Ev K 113 [some (.ref 29), some (vi ((p0 : Nat) : Int)), some (vi x1), some (vi x2), some (vi (bnd ((p0 : Nat) : Int) 1 20)), some (vi ((c : Nat) : Int)), some (vi ((s : Nat) : Int)), some (vi ((k : Nat) : Int)), some (vi ((j : Nat) : Int))] [] X110
                  have hgn110 := goN_n 0 ((lotR A (lotZ A x1 k) (A 5 0)).1) 10
                  have hg110 := frT_gone hF110 hgY
                  have hk2_110 := hK2Y.keepK hF110 (by omega)
                  have hFr110 := frW_tr hFY hF110 (by omega)
                  have hn8_110 := hA110.n8
                  have hz110 := (hF110.2.1 24 (by omega) (by omega) (by omega) (by omega)).trans hLZ
                  refine ev_iload (pc := 113) hC dX6_lots_113 rfl ?_
                  refine ev_aload_n (pc := 115) hC dX6_lots_115 rfl ?_
                  refine ev_callV (pc := 116) (as := []) (rest := [vi ((c : Nat) : Int)]) hC gX6_lots_X6_believers mtX6_believers dX6_lots_116 (ru_X6_believers hA110 hg110 hG  ) (by decide) (by decide) (by decide) rfl (by rfl) (Nat.le_of_ble_eq_true rfl) rfl (fun v116 X116 h116 => ?_)
                  obtain ⟨rfl, rfl⟩ := h116
                  show Ev K 119 [some (.ref 29), some (vi ((p0 : Nat) : Int)), some (vi x1), some (vi x2), some (vi (bnd ((p0 : Nat) : Int) 1 20)), some (vi ((c : Nat) : Int)), some (vi ((s : Nat) : Int)), some (vi ((k : Nat) : Int)), some (vi ((j : Nat) : Int))] [vi ((bset 0 (goN 0 10 ((lotR A (lotZ A x1 k) (A 5 0)).1)) : Nat) : Int), vi ((c : Nat) : Int)] X110
                  have hl116 := bset_lt (G := 0) hA110.n8
                  refine ev_callS (pc := 119) (as := [vi ((bset 0 (goN 0 10 ((lotR A (lotZ A x1 k) (A 5 0)).1)) : Nat) : Int)]) (rest := [vi ((c : Nat) : Int)]) hC gX6_lots_X6_bits mtX6_bits dX6_lots_119 (ru_X6_bits (bset 0 (goN 0 10 ((lotR A (lotZ A x1 k) (A 5 0)).1))) (by omega)) (by decide) (by rfl) (Nat.le_of_ble_eq_true rfl) rfl (fun v119 X119 h119 => ?_)
                  obtain ⟨rfl, rfl⟩ := h119
                  show Ev K 122 [some (.ref 29), some (vi ((p0 : Nat) : Int)), some (vi x1), some (vi x2), some (vi (bnd ((p0 : Nat) : Int) 1 20)), some (vi ((c : Nat) : Int)), some (vi ((s : Nat) : Int)), some (vi ((k : Nat) : Int)), some (vi ((j : Nat) : Int))] [vi ((pop (bset 0 (goN 0 10 ((lotR A (lotZ A x1 k) (A 5 0)).1))) : Nat) : Int), vi ((c : Nat) : Int)] X110
                  have hp119 := pop_le (bset 0 (goN 0 10 ((lotR A (lotZ A x1 k) (A 5 0)).1)))
                  refine ev_iadd (pc := 122) hC ((c + (pop (bset 0 (goN 0 10 ((lotR A (lotZ A x1 k) (A 5 0)).1)))) : Nat) : Int) (by omega) dX6_lots_122 ?_
                  refine ev_istore (pc := 123) hC dX6_lots_123 (by rw [hKn]; decide) rfl ?_
                  show Ev K 125 [some (.ref 29), some (vi ((p0 : Nat) : Int)), some (vi x1), some (vi x2), some (vi (bnd ((p0 : Nat) : Int) 1 20)), some (vi ((c + (pop (bset 0 (goN 0 10 ((lotR A (lotZ A x1 k) (A 5 0)).1)))) : Nat) : Int)), some (vi ((s : Nat) : Int)), some (vi ((k : Nat) : Int)), some (vi ((j : Nat) : Int))] [] X110
                  refine ev_iload (pc := 125) hC dX6_lots_125 rfl ?_
                  refine ev_aload_n (pc := 127) hC dX6_lots_127 rfl ?_
                  refine ev_callV (pc := 128) (as := []) (rest := [vi ((s : Nat) : Int)]) hC gX6_lots_X6_allBelief mtX6_allBelief dX6_lots_128 (ru_X6_allBelief hA110) (by decide) (by decide) (by decide) rfl (by rfl) (Nat.le_of_ble_eq_true rfl) rfl (fun v128 X128 h128 => ?_)
                  obtain ⟨rfl, rfl⟩ := h128
                  show Ev K 131 [some (.ref 29), some (vi ((p0 : Nat) : Int)), some (vi x1), some (vi x2), some (vi (bnd ((p0 : Nat) : Int) 1 20)), some (vi ((c + (pop (bset 0 (goN 0 10 ((lotR A (lotZ A x1 k) (A 5 0)).1)))) : Nat) : Int)), some (vi ((s : Nat) : Int)), some (vi ((k : Nat) : Int)), some (vi ((j : Nat) : Int))] [vi ((sumB ((goN 0 10 ((lotR A (lotZ A x1 k) (A 5 0)).1)) 5 0) ((goN 0 10 ((lotR A (lotZ A x1 k) (A 5 0)).1)) 4) : Nat) : Int), vi ((s : Nat) : Int)] X110
                  have hl128 := allB_le hA110.ok
                  refine ev_iadd (pc := 131) hC ((s + (sumB ((goN 0 10 ((lotR A (lotZ A x1 k) (A 5 0)).1)) 5 0) ((goN 0 10 ((lotR A (lotZ A x1 k) (A 5 0)).1)) 4)) : Nat) : Int) (by omega) dX6_lots_131 ?_
                  refine ev_istore (pc := 132) hC dX6_lots_132 (by rw [hKn]; decide) rfl ?_
                  show Ev K 134 [some (.ref 29), some (vi ((p0 : Nat) : Int)), some (vi x1), some (vi x2), some (vi (bnd ((p0 : Nat) : Int) 1 20)), some (vi ((c + (pop (bset 0 (goN 0 10 ((lotR A (lotZ A x1 k) (A 5 0)).1)))) : Nat) : Int)), some (vi ((s + (sumB ((goN 0 10 ((lotR A (lotZ A x1 k) (A 5 0)).1)) 5 0) ((goN 0 10 ((lotR A (lotZ A x1 k) (A 5 0)).1)) 4)) : Nat) : Int)), some (vi ((k : Nat) : Int)), some (vi ((j : Nat) : Int))] [] X110
                  refine ev_aload_n (pc := 134) hC dX6_lots_134 rfl ?_
                  refine ev_callV (pc := 135) (as := []) (rest := []) hC gX6_lots_X6_forgets mtX6_forgets dX6_lots_135 (ru_X6_forgets) (by decide) (by decide) (by decide) rfl (by rfl) (Nat.le_of_ble_eq_true rfl) rfl (fun v135 X135 h135 => ?_)
                  obtain ⟨rfl, hS135⟩ := h135
                  show Ev K 138 [some (.ref 29), some (vi ((p0 : Nat) : Int)), some (vi x1), some (vi x2), some (vi (bnd ((p0 : Nat) : Int) 1 20)), some (vi ((c + (pop (bset 0 (goN 0 10 ((lotR A (lotZ A x1 k) (A 5 0)).1)))) : Nat) : Int)), some (vi ((s + (sumB ((goN 0 10 ((lotR A (lotZ A x1 k) (A 5 0)).1)) 5 0) ((goN 0 10 ((lotR A (lotZ A x1 k) (A 5 0)).1)) 4)) : Nat) : Int)), some (vi ((k : Nat) : Int)), some (vi ((j : Nat) : Int))] [] X135
                  have hF135 := ps_fr hS135
                  have hA135 := ps_rep hS135 hk2_110
                  have hg135 := frT_gone hF135 hg110
                  have hk2_135 := hk2_110.keepK hF135 (by omega)
                  have hFr135 := frW_tr hFr110 hF135 (by omega)
                  have hn8_135 := hA135.n8
                  have hz135 := (hF135.2.1 24 (by omega) (by omega) (by omega) (by omega)).trans hz110
                  refine ev_iinc (pc := 138) hC ((k + 1 : Nat) : Int) dX6_lots_138 rfl (by omega) (by rw [hKn]; decide) rfl ?_
                  show Ev K 141 [some (.ref 29), some (vi ((p0 : Nat) : Int)), some (vi x1), some (vi x2), some (vi (bnd ((p0 : Nat) : Int) 1 20)), some (vi ((c + (pop (bset 0 (goN 0 10 ((lotR A (lotZ A x1 k) (A 5 0)).1)))) : Nat) : Int)), some (vi ((s + (sumB ((goN 0 10 ((lotR A (lotZ A x1 k) (A 5 0)).1)) 5 0) ((goN 0 10 ((lotR A (lotZ A x1 k) (A 5 0)).1)) 4)) : Nat) : Int)), some (vi ((k + 1 : Nat) : Int)), some (vi ((j : Nat) : Int))] [] X135
                  refine ev_goto (pc := 141) hC 53 dX6_lots_141 (by decide) ?_
                  refine ev_drop 8 ?_
                  show Ev K 53 [some (.ref 29), some (vi ((p0 : Nat) : Int)), some (vi x1), some (vi x2), some (vi (bnd ((p0 : Nat) : Int) 1 20)), some (vi ((c + (pop (bset 0 (goN 0 10 ((lotR A (lotZ A x1 k) (A 5 0)).1)))) : Nat) : Int)), some (vi ((s + (sumB ((goN 0 10 ((lotR A (lotZ A x1 k) (A 5 0)).1)) 5 0) ((goN 0 10 ((lotR A (lotZ A x1 k) (A 5 0)).1)) 4)) : Nat) : Int)), some (vi ((k + 1 : Nat) : Int)), none] [] X135
                  exact ih53 (k + 1) (c + (pop (bset 0 (goN 0 10 ((lotR A (lotZ A x1 k) (A 5 0)).1))))) (s + (sumB ((goN 0 10 ((lotR A (lotZ A x1 k) (A 5 0)).1)) 5 0) ((goN 0 10 ((lotR A (lotZ A x1 k) (A 5 0)).1)) 4))) X135 (by omega) (by omega) (by rw [sumB_s, ← hc, pop_bset (by rw [goN_n]; show (lotR A (lotZ A x1 k) (A 5 0)).1 5 0 ≤ 8; rw [lotR_n]; exact hn8)]; rfl) (by rw [sumB_s, ← hs]; rfl) hz135 hA135 hg135 hFr135
                · refine ev_aload_n (pc := 75) hC dX6_lots_75 rfl ?_
                  refine ev_getr (pc := 76) hC 34 f22 dX6_lots_76 (by decide) (by decide) (by decide) (by decide) (by decide) ?_
                  refine ev_iload (pc := 79) hC dX6_lots_79 rfl ?_
                  refine ev_aload_n (pc := 81) hC dX6_lots_81 rfl ?_
                  refine ev_bipush (pc := 82) hC dX6_lots_82 (by decide) ?_
                  refine ev_callV (pc := 84) (as := [vi 25]) (rest := [vi ((j : Nat) : Int), .ref 34]) hC gX6_lots_X6_draw mtX6_draw dX6_lots_84 (ru_X6_draw ((lotR A (lotZ A x1 k) j).2) 25 hz2 (by omega)) (by decide) (by decide) (by decide) rfl (by rfl) (Nat.le_of_ble_eq_true rfl) rfl (fun v84 X84 h84 => ?_)
                  obtain ⟨rfl, rfl⟩ := h84
                  show Ev K 87 [some (.ref 29), some (vi ((p0 : Nat) : Int)), some (vi x1), some (vi x2), some (vi (bnd ((p0 : Nat) : Int) 1 20)), some (vi ((c : Nat) : Int)), some (vi ((s : Nat) : Int)), some (vi ((k : Nat) : Int)), some (vi ((j : Nat) : Int))] [vi ((drawI (stir ((lotR A (lotZ A x1 k) j).2)) 25 : Nat) : Int), vi ((j : Nat) : Int), .ref 34] (mset Y 29 24 (zI (stir ((lotR A (lotZ A x1 k) j).2))))
                  have hz84 : (mset Y 29 24 (zI (stir ((lotR A (lotZ A x1 k) j).2)))) 29 24 = zI (stir ((lotR A (lotZ A x1 k) j).2)) := mset_eq _ _ _ _
                  have hdl84 := drawI_lt (stir ((lotR A (lotZ A x1 k) j).2)) (m := 25) (by omega)
                  have hA84 : Rp (vM (mset Y 29 24 (zI (stir ((lotR A (lotZ A x1 k) j).2))))) (lotR A (lotZ A x1 k) j).1 := hAY.keepM (by rw [mset_ne _ _ _ _ (by omega)]) (by rw [mset_ne _ _ _ _ (by omega)]) (fun q hq => by rw [mset_row (by omega)])
                  have hg84 : (mset Y 29 24 (zI (stir ((lotR A (lotZ A x1 k) j).2)))) 29 8 = zI ((0 : Nat) : Int) := by rw [mset_ne _ _ _ _ (by omega)]; exact hgY
                  have hFr84 : frW 1 X (mset Y 29 24 (zI (stir ((lotR A (lotZ A x1 k) j).2)))) := frW_29 hFY (Or.inr rfl)
                  have hk2_84 : Rp (vK (mset Y 29 24 (zI (stir ((lotR A (lotZ A x1 k) j).2)))) 2) A := Rp.keepKr hK2Y (mset_row (by omega))
                  refine ev_iast (pc := 87) hC j (by decide) (by decide) (rfl) (by have := (show alen 34 = 8 from rfl); omega) dX6_lots_87 ?_
                  have hA87 : Rp (vM (mset (mset Y 29 24 (zI (stir ((lotR A (lotZ A x1 k) j).2)))) 34 j (zI ((drawI (stir ((lotR A (lotZ A x1 k) j).2)) 25 : Nat) : Int)))) (setR (lotR A (lotZ A x1 k) j).1 3 j (drawI (stir ((lotR A (lotZ A x1 k) j).2)) 25)) := Rp.setM3 (v := drawI (stir ((lotR A (lotZ A x1 k) j).2)) 25) hA84 (by omega)
                  have hg87 : (mset (mset Y 29 24 (zI (stir ((lotR A (lotZ A x1 k) j).2)))) 34 j (zI ((drawI (stir ((lotR A (lotZ A x1 k) j).2)) 25 : Nat) : Int))) 29 8 = zI ((0 : Nat) : Int) := by rw [mset_row (by omega)]; exact hg84
                  have hFr87 : frW 1 X (mset (mset Y 29 24 (zI (stir ((lotR A (lotZ A x1 k) j).2)))) 34 j (zI ((drawI (stir ((lotR A (lotZ A x1 k) j).2)) 25 : Nat) : Int))) := frW_set (r := 3) hFr84 (by omega)
                  have hk2_87 : Rp (vK (mset (mset Y 29 24 (zI (stir ((lotR A (lotZ A x1 k) j).2)))) 34 j (zI ((drawI (stir ((lotR A (lotZ A x1 k) j).2)) 25 : Nat) : Int))) 2) A := Rp.keepKr hk2_84 (mset_row (by omega))
                  have hzz87 : (mset (mset Y 29 24 (zI (stir ((lotR A (lotZ A x1 k) j).2)))) 34 j (zI ((drawI (stir ((lotR A (lotZ A x1 k) j).2)) 25 : Nat) : Int))) 29 24 = zI (stir ((lotR A (lotZ A x1 k) j).2)) := by rw [mset_row (by omega)]; exact hz84
                  refine ev_aload_n (pc := 88) hC dX6_lots_88 rfl ?_
                  refine ev_getr (pc := 89) hC 35 f25 dX6_lots_89 (by decide) (by decide) (by decide) (by decide) (by decide) ?_
                  refine ev_iload (pc := 92) hC dX6_lots_92 rfl ?_
                  refine ev_aload_n (pc := 94) hC dX6_lots_94 rfl ?_
                  refine ev_bipush (pc := 95) hC dX6_lots_95 (by decide) ?_
                  refine ev_callV (pc := 97) (as := [vi 10]) (rest := [vi ((j : Nat) : Int), .ref 35]) hC gX6_lots_X6_draw mtX6_draw dX6_lots_97 (ru_X6_draw (stir ((lotR A (lotZ A x1 k) j).2)) 10 hzz87 (by omega)) (by decide) (by decide) (by decide) rfl (by rfl) (Nat.le_of_ble_eq_true rfl) rfl (fun v97 X97 h97 => ?_)
                  obtain ⟨rfl, rfl⟩ := h97
                  show Ev K 100 [some (.ref 29), some (vi ((p0 : Nat) : Int)), some (vi x1), some (vi x2), some (vi (bnd ((p0 : Nat) : Int) 1 20)), some (vi ((c : Nat) : Int)), some (vi ((s : Nat) : Int)), some (vi ((k : Nat) : Int)), some (vi ((j : Nat) : Int))] [vi ((drawI (stir (stir ((lotR A (lotZ A x1 k) j).2))) 10 : Nat) : Int), vi ((j : Nat) : Int), .ref 35] (mset (mset (mset Y 29 24 (zI (stir ((lotR A (lotZ A x1 k) j).2)))) 34 j (zI ((drawI (stir ((lotR A (lotZ A x1 k) j).2)) 25 : Nat) : Int))) 29 24 (zI (stir (stir ((lotR A (lotZ A x1 k) j).2)))))
                  have hz97 : (mset (mset (mset Y 29 24 (zI (stir ((lotR A (lotZ A x1 k) j).2)))) 34 j (zI ((drawI (stir ((lotR A (lotZ A x1 k) j).2)) 25 : Nat) : Int))) 29 24 (zI (stir (stir ((lotR A (lotZ A x1 k) j).2))))) 29 24 = zI (stir (stir ((lotR A (lotZ A x1 k) j).2))) := mset_eq _ _ _ _
                  have hdl97 := drawI_lt (stir (stir ((lotR A (lotZ A x1 k) j).2))) (m := 10) (by omega)
                  have hA97 : Rp (vM (mset (mset (mset Y 29 24 (zI (stir ((lotR A (lotZ A x1 k) j).2)))) 34 j (zI ((drawI (stir ((lotR A (lotZ A x1 k) j).2)) 25 : Nat) : Int))) 29 24 (zI (stir (stir ((lotR A (lotZ A x1 k) j).2)))))) (setR (lotR A (lotZ A x1 k) j).1 3 j (drawI (stir ((lotR A (lotZ A x1 k) j).2)) 25)) := hA87.keepM (by rw [mset_ne _ _ _ _ (by omega)]) (by rw [mset_ne _ _ _ _ (by omega)]) (fun q hq => by rw [mset_row (by omega)])
                  have hg97 : (mset (mset (mset Y 29 24 (zI (stir ((lotR A (lotZ A x1 k) j).2)))) 34 j (zI ((drawI (stir ((lotR A (lotZ A x1 k) j).2)) 25 : Nat) : Int))) 29 24 (zI (stir (stir ((lotR A (lotZ A x1 k) j).2))))) 29 8 = zI ((0 : Nat) : Int) := by rw [mset_ne _ _ _ _ (by omega)]; exact hg87
                  have hFr97 : frW 1 X (mset (mset (mset Y 29 24 (zI (stir ((lotR A (lotZ A x1 k) j).2)))) 34 j (zI ((drawI (stir ((lotR A (lotZ A x1 k) j).2)) 25 : Nat) : Int))) 29 24 (zI (stir (stir ((lotR A (lotZ A x1 k) j).2))))) := frW_29 hFr87 (Or.inr rfl)
                  have hk2_97 : Rp (vK (mset (mset (mset Y 29 24 (zI (stir ((lotR A (lotZ A x1 k) j).2)))) 34 j (zI ((drawI (stir ((lotR A (lotZ A x1 k) j).2)) 25 : Nat) : Int))) 29 24 (zI (stir (stir ((lotR A (lotZ A x1 k) j).2))))) 2) A := Rp.keepKr hk2_87 (mset_row (by omega))
                  refine ev_iast (pc := 100) hC j (by decide) (by decide) (rfl) (by have := (show alen 35 = 8 from rfl); omega) dX6_lots_100 ?_
                  have hA100 : Rp (vM (mset (mset (mset (mset Y 29 24 (zI (stir ((lotR A (lotZ A x1 k) j).2)))) 34 j (zI ((drawI (stir ((lotR A (lotZ A x1 k) j).2)) 25 : Nat) : Int))) 29 24 (zI (stir (stir ((lotR A (lotZ A x1 k) j).2))))) 35 j (zI ((drawI (stir (stir ((lotR A (lotZ A x1 k) j).2))) 10 : Nat) : Int)))) (setR (setR (lotR A (lotZ A x1 k) j).1 3 j (drawI (stir ((lotR A (lotZ A x1 k) j).2)) 25)) 4 j (drawI (stir (stir ((lotR A (lotZ A x1 k) j).2))) 10)) := Rp.setM4 (v := drawI (stir (stir ((lotR A (lotZ A x1 k) j).2))) 10) hA97 (by omega)
                  have hg100 : (mset (mset (mset (mset Y 29 24 (zI (stir ((lotR A (lotZ A x1 k) j).2)))) 34 j (zI ((drawI (stir ((lotR A (lotZ A x1 k) j).2)) 25 : Nat) : Int))) 29 24 (zI (stir (stir ((lotR A (lotZ A x1 k) j).2))))) 35 j (zI ((drawI (stir (stir ((lotR A (lotZ A x1 k) j).2))) 10 : Nat) : Int))) 29 8 = zI ((0 : Nat) : Int) := by rw [mset_row (by omega)]; exact hg97
                  have hFr100 : frW 1 X (mset (mset (mset (mset Y 29 24 (zI (stir ((lotR A (lotZ A x1 k) j).2)))) 34 j (zI ((drawI (stir ((lotR A (lotZ A x1 k) j).2)) 25 : Nat) : Int))) 29 24 (zI (stir (stir ((lotR A (lotZ A x1 k) j).2))))) 35 j (zI ((drawI (stir (stir ((lotR A (lotZ A x1 k) j).2))) 10 : Nat) : Int))) := frW_set (r := 4) hFr97 (by omega)
                  have hk2_100 : Rp (vK (mset (mset (mset (mset Y 29 24 (zI (stir ((lotR A (lotZ A x1 k) j).2)))) 34 j (zI ((drawI (stir ((lotR A (lotZ A x1 k) j).2)) 25 : Nat) : Int))) 29 24 (zI (stir (stir ((lotR A (lotZ A x1 k) j).2))))) 35 j (zI ((drawI (stir (stir ((lotR A (lotZ A x1 k) j).2))) 10 : Nat) : Int))) 2) A := Rp.keepKr hk2_97 (mset_row (by omega))
                  have hzz100 : (mset (mset (mset (mset Y 29 24 (zI (stir ((lotR A (lotZ A x1 k) j).2)))) 34 j (zI ((drawI (stir ((lotR A (lotZ A x1 k) j).2)) 25 : Nat) : Int))) 29 24 (zI (stir (stir ((lotR A (lotZ A x1 k) j).2))))) 35 j (zI ((drawI (stir (stir ((lotR A (lotZ A x1 k) j).2))) 10 : Nat) : Int))) 29 24 = zI (stir (stir ((lotR A (lotZ A x1 k) j).2))) := by rw [mset_row (by omega)]; exact hz97
                  refine ev_iinc (pc := 101) hC ((j + 1 : Nat) : Int) dX6_lots_101 rfl (by omega) (by rw [hKn]; decide) rfl ?_
                  show Ev K 104 [some (.ref 29), some (vi ((p0 : Nat) : Int)), some (vi x1), some (vi x2), some (vi (bnd ((p0 : Nat) : Int) 1 20)), some (vi ((c : Nat) : Int)), some (vi ((s : Nat) : Int)), some (vi ((k : Nat) : Int)), some (vi ((j + 1 : Nat) : Int))] [] (mset (mset (mset (mset Y 29 24 (zI (stir ((lotR A (lotZ A x1 k) j).2)))) 34 j (zI ((drawI (stir ((lotR A (lotZ A x1 k) j).2)) 25 : Nat) : Int))) 29 24 (zI (stir (stir ((lotR A (lotZ A x1 k) j).2))))) 35 j (zI ((drawI (stir (stir ((lotR A (lotZ A x1 k) j).2))) 10 : Nat) : Int)))
                  refine ev_goto (pc := 104) hC 66 dX6_lots_104 (by decide) ?_
                  exact ih66 (j + 1) (mset (mset (mset (mset Y 29 24 (zI (stir ((lotR A (lotZ A x1 k) j).2)))) 34 j (zI ((drawI (stir ((lotR A (lotZ A x1 k) j).2)) 25 : Nat) : Int))) 29 24 (zI (stir (stir ((lotR A (lotZ A x1 k) j).2))))) 35 j (zI ((drawI (stir (stir ((lotR A (lotZ A x1 k) j).2))) 10 : Nat) : Int))) (by omega) (by omega) hzz100 hA100 hg100 hFr100 hk2_100
            exact lp66 _ 0 X60 (Nat.lt_succ_self _) (by omega) hz60 hA60 hg60 hFr60 hk2_60
      exact lp53 _ 0 0 0 (mset X 29 24 (zI x1)) (Nat.lt_succ_self _) (by omega) rfl rfl hz43 hA43 hg43 hFr43
    · refine ev_aload_n (pc := 32) hC dX6_lots_32 rfl ?_
      refine ev_iload (pc := 33) hC dX6_lots_33 rfl ?_
      refine ev_callV (pc := 35) (as := [vi (bnd x0 1 20)]) (rest := []) hC gX6_lots_X6_no mtX6_no dX6_lots_35 (ru_X6_no2 (bnd x0 1 20) (by omega)) (by decide) (by decide) (by decide) rfl (by rfl) (Nat.le_of_ble_eq_true rfl) rfl (fun v35 X35 h35 => ?_)
      obtain ⟨rfl, rfl⟩ := h35
      show Ev K 38 [some (.ref 29), some (vi x0), some (vi x1), some (vi x2), some (vi (bnd x0 1 20)), none, none, none, none] [vi (bnd x0 1 20)] (mset X 30 (-(bnd x0 1 20)).toNat (X 30 (-(bnd x0 1 20)).toNat + 1))
      exact ev_ireturn (pc := 38) hC hR dX6_lots_38 (no_endM (show f3 (bnd x0 1 20) (cdO x2 2) 0 = (bnd x0 1 20) by omega) (by omega) hI)
  · refine ev_iload_n (pc := 14) hC dX6_lots_14 rfl ?_
    refine ev_iconst (pc := 15) hC dX6_lots_15 ?_
    refine ev_iconst (pc := 16) hC dX6_lots_16 ?_
    refine ev_callS (pc := 17) (as := [vi x2, vi 0, vi 1]) (rest := []) hC gX6_lots_X6_isIn mtX6_isIn dX6_lots_17 (ru_X6_isIn x2 0 1 (by omega) (by omega) (by omega)) (by decide) (by rfl) (Nat.le_of_ble_eq_true rfl) rfl (fun v17 X17 h17 => ?_)
    obtain ⟨rfl, rfl⟩ := h17
    show Ev K 20 [some (.ref 29), some (vi x0), some (vi x1), some (vi x2), some (vi (bnd x0 1 20)), none, none, none, none] [vi (b2i (decide (0 ≤ x2 ∧ x2 ≤ 1)))] X
    have hr17 := b2i_r (decide (0 ≤ x2 ∧ x2 ≤ 1))
    refine ev_if_ne (pc := 20) hC 27 dX6_lots_20 (by decide) (by omega) (fun c20 => ?_) (fun c20 => ?_)
    · have e20 := of_decide_eq_true (b2i_1 c20)
      refine ev_iload (pc := 27) hC dX6_lots_27 rfl ?_
      refine ev_if_eq (pc := 29) hC 39 dX6_lots_29 (by decide) (by omega) (fun c29 => ?_) (fun c29 => ?_)
      · obtain ⟨p0, rfl⟩ : ∃ k : Nat, x0 = (k : Int) := ⟨x0.toNat, by omega⟩
        refine ev_aload_n (pc := 39) hC dX6_lots_39 rfl ?_
        refine ev_iload_n (pc := 40) hC dX6_lots_40 rfl ?_
        refine ev_puti (pc := 41) hC f279 fpX6_24 dX6_lots_41 (by decide) (by decide) (by decide) (by decide) (by decide) (rfl) (rfl) ?_
        have hz43 : (mset X 29 24 (zI x1)) 29 24 = zI x1 := mset_eq _ _ _ _
        have hA43 : Rp (vM (mset X 29 24 (zI x1))) A := hA.keepM (by rw [mset_ne _ _ _ _ (by omega)]) (by rw [mset_ne _ _ _ _ (by omega)]) (fun q hq => by rw [mset_row (by omega)])
        have hg43 : (mset X 29 24 (zI x1)) 29 8 = zI ((0 : Nat) : Int) := by rw [mset_ne _ _ _ _ (by omega)]; exact hg
        have hFr43 : frW 1 X (mset X 29 24 (zI x1)) := frW_29 (frW_rf 1 X) (Or.inr rfl)
        refine ev_iconst (pc := 44) hC dX6_lots_44 ?_
        refine ev_istore (pc := 45) hC dX6_lots_45 (by rw [hKn]; decide) rfl ?_
        show Ev K 47 [some (.ref 29), some (vi ((p0 : Nat) : Int)), some (vi x1), some (vi x2), some (vi (bnd ((p0 : Nat) : Int) 1 20)), some (vi 0), none, none, none] [] (mset X 29 24 (zI x1))
        refine ev_iconst (pc := 47) hC dX6_lots_47 ?_
        refine ev_istore (pc := 48) hC dX6_lots_48 (by rw [hKn]; decide) rfl ?_
        show Ev K 50 [some (.ref 29), some (vi ((p0 : Nat) : Int)), some (vi x1), some (vi x2), some (vi (bnd ((p0 : Nat) : Int) 1 20)), some (vi 0), some (vi 0), none, none] [] (mset X 29 24 (zI x1))
        refine ev_iconst (pc := 50) hC dX6_lots_50 ?_
        refine ev_istore (pc := 51) hC dX6_lots_51 (by rw [hKn]; decide) rfl ?_
        show Ev K 53 [some (.ref 29), some (vi ((p0 : Nat) : Int)), some (vi x1), some (vi x2), some (vi (bnd ((p0 : Nat) : Int) 1 20)), some (vi 0), some (vi 0), some (vi 0), none] [] (mset X 29 24 (zI x1))
        have lp53 : ∀ (fz : Nat) (k : Nat) (c : Nat) (s : Nat) (Y : Mem), p0 - k < fz → (k ≤ p0) → (c = sumB k (fun k => bcnt 0 (lotA A x1 k))) → (s = sumB k (fun k => sumB (lotA A x1 k 5 0) (lotA A x1 k 4))) → (Y 29 24 = zI (lotZ A x1 k)) → (Rp (vM Y) A) → (Y 29 8 = zI ((0 : Nat) : Int)) → (frW 1 X Y) → Ev K 53 [some (.ref 29), some (vi ((p0 : Nat) : Int)), some (vi x1), some (vi x2), some (vi (bnd ((p0 : Nat) : Int) 1 20)), some (vi ((c : Nat) : Int)), some (vi ((s : Nat) : Int)), some (vi ((k : Nat) : Int)), none] [] Y := by
          intro fz
          induction fz with
          | zero => intro k c s Y hfz; exact absurd hfz (Nat.not_lt_zero _)
          | succ fz ih53 =>
            intro k c s Y hfz hk hc hs hz hAY hgY hFY
            have hY8 := hAY.n8
            refine ev_iload (pc := 53) hC dX6_lots_53 rfl ?_
            refine ev_iload_n (pc := 55) hC dX6_lots_55 rfl ?_
            refine ev_icmp_ge (pc := 56) hC 144 dX6_lots_56 (by decide) (by omega) (by omega) (fun c56 => ?_) (fun c56 => ?_)
            · refine ev_iload_n (pc := 144) hC dX6_lots_144 rfl ?_
              refine ev_if_ne (pc := 145) hC 153 dX6_lots_145 (by decide) (by omega) (fun c145 => ?_) (fun c145 => ?_)
              · refine ev_iload (pc := 153) hC dX6_lots_153 rfl ?_
                exact ev_ireturn (pc := 155) hC hR dX6_lots_155 (ok_endM (show f3 (bnd ((p0 : Nat) : Int) 1 20) (cdO x2 2) 0 = 0 by omega) (lot_n (by omega) hs (show k = p0 by omega)) (mI_W hI hAY hgY hFY) (frM_W hFY))
              · refine ev_iload (pc := 148) hC dX6_lots_148 rfl ?_
                refine ev_goto (pc := 150) hC 155 dX6_lots_150 (by decide) ?_
                exact ev_ireturn (pc := 155) hC hR dX6_lots_155 (ok_endM (show f3 (bnd ((p0 : Nat) : Int) 1 20) (cdO x2 2) 0 = 0 by omega) (lot_y (by omega) hc (show k = p0 by omega)) (mI_W hI hAY hgY hFY) (frM_W hFY))
            · refine ev_aload_n (pc := 59) hC dX6_lots_59 rfl ?_
              refine ev_callV (pc := 60) (as := []) (rest := []) hC gX6_lots_X6_thinks mtX6_thinks dX6_lots_60 (ru_X6_thinks) (by decide) (by decide) (by decide) rfl (by rfl) (Nat.le_of_ble_eq_true rfl) rfl (fun v60 X60 h60 => ?_)
              obtain ⟨rfl, hS60⟩ := h60
              show Ev K 63 [some (.ref 29), some (vi ((p0 : Nat) : Int)), some (vi x1), some (vi x2), some (vi (bnd ((p0 : Nat) : Int) 1 20)), some (vi ((c : Nat) : Int)), some (vi ((s : Nat) : Int)), some (vi ((k : Nat) : Int)), none] [] X60
              have hF60 := ks_fr hS60
              have hA60 := ks_repM hS60 hAY
              have hk2_60 := ks_rep hS60 hAY
              have hg60 := frT_gone hF60 hgY
              have hFr60 := frW_tr hFY hF60 (by omega)
              have hn8_60 := hA60.n8
              have hz60 := (hF60.2.1 24 (by omega) (by omega) (by omega) (by omega)).trans hz
              refine ev_iconst (pc := 63) hC dX6_lots_63 ?_
              refine ev_istore (pc := 64) hC dX6_lots_64 (by rw [hKn]; decide) rfl ?_
              show Ev K 66 [some (.ref 29), some (vi ((p0 : Nat) : Int)), some (vi x1), some (vi x2), some (vi (bnd ((p0 : Nat) : Int) 1 20)), some (vi ((c : Nat) : Int)), some (vi ((s : Nat) : Int)), some (vi ((k : Nat) : Int)), some (vi 0)] [] X60
              have lp66 : ∀ (fz : Nat) (j : Nat) (Y : Mem), A 5 0 - j < fz → (j ≤ A 5 0) → (Y 29 24 = zI ((lotR A (lotZ A x1 k) j).2)) → (Rp (vM Y) (lotR A (lotZ A x1 k) j).1) → (Y 29 8 = zI ((0 : Nat) : Int)) → (frW 1 X Y) → (Rp (vK Y 2) A) → Ev K 66 [some (.ref 29), some (vi ((p0 : Nat) : Int)), some (vi x1), some (vi x2), some (vi (bnd ((p0 : Nat) : Int) 1 20)), some (vi ((c : Nat) : Int)), some (vi ((s : Nat) : Int)), some (vi ((k : Nat) : Int)), some (vi ((j : Nat) : Int))] [] Y := by
                intro fz
                induction fz with
                | zero => intro j Y hfz; exact absurd hfz (Nat.not_lt_zero _)
                | succ fz ih66 =>
                  intro j Y hfz hj hz2 hAY hgY hFY hK2Y
                  have hY8 := hAY.n8
                  have hln := lotR_n A (lotZ A x1 k) j
                  refine ev_iload (pc := 66) hC dX6_lots_66 rfl ?_
                  refine ev_aload_n (pc := 68) hC dX6_lots_68 rfl ?_
                  refine ev_geti (pc := 69) hC (((lotR A (lotZ A x1 k) j).1 5 0 : Nat) : Int) f52 dX6_lots_69 (by decide) (by decide) (by decide) (by decide) (by decide)  (hAY.mn) ?_
                  refine ev_icmp_ge (pc := 72) hC 107 dX6_lots_72 (by decide) (by omega) (by omega) (fun c72 => ?_) (fun c72 => ?_)
                  · have hjn : j = A 5 0 := by omega
                    have hLA : Rp (vM Y) (lotR A (lotZ A x1 k) (A 5 0)).1 := hjn ▸ hAY
                    have hLZ : Y 29 24 = zI (lotZ A x1 (k + 1)) := by rw [hz2, hjn]; rfl
                    have hl5 := lotR_n A (lotZ A x1 k) (A 5 0)
                    refine ev_aload_n (pc := 107) hC dX6_lots_107 rfl ?_
                    refine ev_bipush (pc := 108) hC dX6_lots_108 (by decide) ?_
                    refine ev_callV (pc := 110) (as := [vi 10]) (rest := []) hC gX6_lots_X6_goes mtX6_goes dX6_lots_110 (ru_X6_goes hLA hgY hG 10 (by omega)) (by decide) (by decide) (by decide) rfl (by rfl) (Nat.le_of_ble_eq_true rfl) rfl (fun v110 X110 h110 => ?_)
                    obtain ⟨rfl, hA110, hF110⟩ := h110
                    show Ev K 113 [some (.ref 29), some (vi ((p0 : Nat) : Int)), some (vi x1), some (vi x2), some (vi (bnd ((p0 : Nat) : Int) 1 20)), some (vi ((c : Nat) : Int)), some (vi ((s : Nat) : Int)), some (vi ((k : Nat) : Int)), some (vi ((j : Nat) : Int))] [] X110
                    have hgn110 := goN_n 0 ((lotR A (lotZ A x1 k) (A 5 0)).1) 10
                    have hg110 := frT_gone hF110 hgY
                    have hk2_110 := hK2Y.keepK hF110 (by omega)
                    have hFr110 := frW_tr hFY hF110 (by omega)
                    have hn8_110 := hA110.n8
                    have hz110 := (hF110.2.1 24 (by omega) (by omega) (by omega) (by omega)).trans hLZ
                    refine ev_iload (pc := 113) hC dX6_lots_113 rfl ?_
                    refine ev_aload_n (pc := 115) hC dX6_lots_115 rfl ?_
                    refine ev_callV (pc := 116) (as := []) (rest := [vi ((c : Nat) : Int)]) hC gX6_lots_X6_believers mtX6_believers dX6_lots_116 (ru_X6_believers hA110 hg110 hG  ) (by decide) (by decide) (by decide) rfl (by rfl) (Nat.le_of_ble_eq_true rfl) rfl (fun v116 X116 h116 => ?_)
                    obtain ⟨rfl, rfl⟩ := h116
                    show Ev K 119 [some (.ref 29), some (vi ((p0 : Nat) : Int)), some (vi x1), some (vi x2), some (vi (bnd ((p0 : Nat) : Int) 1 20)), some (vi ((c : Nat) : Int)), some (vi ((s : Nat) : Int)), some (vi ((k : Nat) : Int)), some (vi ((j : Nat) : Int))] [vi ((bset 0 (goN 0 10 ((lotR A (lotZ A x1 k) (A 5 0)).1)) : Nat) : Int), vi ((c : Nat) : Int)] X110
                    have hl116 := bset_lt (G := 0) hA110.n8
                    refine ev_callS (pc := 119) (as := [vi ((bset 0 (goN 0 10 ((lotR A (lotZ A x1 k) (A 5 0)).1)) : Nat) : Int)]) (rest := [vi ((c : Nat) : Int)]) hC gX6_lots_X6_bits mtX6_bits dX6_lots_119 (ru_X6_bits (bset 0 (goN 0 10 ((lotR A (lotZ A x1 k) (A 5 0)).1))) (by omega)) (by decide) (by rfl) (Nat.le_of_ble_eq_true rfl) rfl (fun v119 X119 h119 => ?_)
                    obtain ⟨rfl, rfl⟩ := h119
                    show Ev K 122 [some (.ref 29), some (vi ((p0 : Nat) : Int)), some (vi x1), some (vi x2), some (vi (bnd ((p0 : Nat) : Int) 1 20)), some (vi ((c : Nat) : Int)), some (vi ((s : Nat) : Int)), some (vi ((k : Nat) : Int)), some (vi ((j : Nat) : Int))] [vi ((pop (bset 0 (goN 0 10 ((lotR A (lotZ A x1 k) (A 5 0)).1))) : Nat) : Int), vi ((c : Nat) : Int)] X110
                    have hp119 := pop_le (bset 0 (goN 0 10 ((lotR A (lotZ A x1 k) (A 5 0)).1)))
                    refine ev_iadd (pc := 122) hC ((c + (pop (bset 0 (goN 0 10 ((lotR A (lotZ A x1 k) (A 5 0)).1)))) : Nat) : Int) (by omega) dX6_lots_122 ?_
                    refine ev_istore (pc := 123) hC dX6_lots_123 (by rw [hKn]; decide) rfl ?_
                    show Ev K 125 [some (.ref 29), some (vi ((p0 : Nat) : Int)), some (vi x1), some (vi x2), some (vi (bnd ((p0 : Nat) : Int) 1 20)), some (vi ((c + (pop (bset 0 (goN 0 10 ((lotR A (lotZ A x1 k) (A 5 0)).1)))) : Nat) : Int)), some (vi ((s : Nat) : Int)), some (vi ((k : Nat) : Int)), some (vi ((j : Nat) : Int))] [] X110
                    refine ev_iload (pc := 125) hC dX6_lots_125 rfl ?_
                    refine ev_aload_n (pc := 127) hC dX6_lots_127 rfl ?_
                    refine ev_callV (pc := 128) (as := []) (rest := [vi ((s : Nat) : Int)]) hC gX6_lots_X6_allBelief mtX6_allBelief dX6_lots_128 (ru_X6_allBelief hA110) (by decide) (by decide) (by decide) rfl (by rfl) (Nat.le_of_ble_eq_true rfl) rfl (fun v128 X128 h128 => ?_)
                    obtain ⟨rfl, rfl⟩ := h128
                    show Ev K 131 [some (.ref 29), some (vi ((p0 : Nat) : Int)), some (vi x1), some (vi x2), some (vi (bnd ((p0 : Nat) : Int) 1 20)), some (vi ((c + (pop (bset 0 (goN 0 10 ((lotR A (lotZ A x1 k) (A 5 0)).1)))) : Nat) : Int)), some (vi ((s : Nat) : Int)), some (vi ((k : Nat) : Int)), some (vi ((j : Nat) : Int))] [vi ((sumB ((goN 0 10 ((lotR A (lotZ A x1 k) (A 5 0)).1)) 5 0) ((goN 0 10 ((lotR A (lotZ A x1 k) (A 5 0)).1)) 4) : Nat) : Int), vi ((s : Nat) : Int)] X110
                    have hl128 := allB_le hA110.ok
                    refine ev_iadd (pc := 131) hC ((s + (sumB ((goN 0 10 ((lotR A (lotZ A x1 k) (A 5 0)).1)) 5 0) ((goN 0 10 ((lotR A (lotZ A x1 k) (A 5 0)).1)) 4)) : Nat) : Int) (by omega) dX6_lots_131 ?_
                    refine ev_istore (pc := 132) hC dX6_lots_132 (by rw [hKn]; decide) rfl ?_
                    show Ev K 134 [some (.ref 29), some (vi ((p0 : Nat) : Int)), some (vi x1), some (vi x2), some (vi (bnd ((p0 : Nat) : Int) 1 20)), some (vi ((c + (pop (bset 0 (goN 0 10 ((lotR A (lotZ A x1 k) (A 5 0)).1)))) : Nat) : Int)), some (vi ((s + (sumB ((goN 0 10 ((lotR A (lotZ A x1 k) (A 5 0)).1)) 5 0) ((goN 0 10 ((lotR A (lotZ A x1 k) (A 5 0)).1)) 4)) : Nat) : Int)), some (vi ((k : Nat) : Int)), some (vi ((j : Nat) : Int))] [] X110
                    refine ev_aload_n (pc := 134) hC dX6_lots_134 rfl ?_
                    refine ev_callV (pc := 135) (as := []) (rest := []) hC gX6_lots_X6_forgets mtX6_forgets dX6_lots_135 (ru_X6_forgets) (by decide) (by decide) (by decide) rfl (by rfl) (Nat.le_of_ble_eq_true rfl) rfl (fun v135 X135 h135 => ?_)
                    obtain ⟨rfl, hS135⟩ := h135
                    show Ev K 138 [some (.ref 29), some (vi ((p0 : Nat) : Int)), some (vi x1), some (vi x2), some (vi (bnd ((p0 : Nat) : Int) 1 20)), some (vi ((c + (pop (bset 0 (goN 0 10 ((lotR A (lotZ A x1 k) (A 5 0)).1)))) : Nat) : Int)), some (vi ((s + (sumB ((goN 0 10 ((lotR A (lotZ A x1 k) (A 5 0)).1)) 5 0) ((goN 0 10 ((lotR A (lotZ A x1 k) (A 5 0)).1)) 4)) : Nat) : Int)), some (vi ((k : Nat) : Int)), some (vi ((j : Nat) : Int))] [] X135
                    have hF135 := ps_fr hS135
                    have hA135 := ps_rep hS135 hk2_110
                    have hg135 := frT_gone hF135 hg110
                    have hk2_135 := hk2_110.keepK hF135 (by omega)
                    have hFr135 := frW_tr hFr110 hF135 (by omega)
                    have hn8_135 := hA135.n8
                    have hz135 := (hF135.2.1 24 (by omega) (by omega) (by omega) (by omega)).trans hz110
                    refine ev_iinc (pc := 138) hC ((k + 1 : Nat) : Int) dX6_lots_138 rfl (by omega) (by rw [hKn]; decide) rfl ?_
                    show Ev K 141 [some (.ref 29), some (vi ((p0 : Nat) : Int)), some (vi x1), some (vi x2), some (vi (bnd ((p0 : Nat) : Int) 1 20)), some (vi ((c + (pop (bset 0 (goN 0 10 ((lotR A (lotZ A x1 k) (A 5 0)).1)))) : Nat) : Int)), some (vi ((s + (sumB ((goN 0 10 ((lotR A (lotZ A x1 k) (A 5 0)).1)) 5 0) ((goN 0 10 ((lotR A (lotZ A x1 k) (A 5 0)).1)) 4)) : Nat) : Int)), some (vi ((k + 1 : Nat) : Int)), some (vi ((j : Nat) : Int))] [] X135
                    refine ev_goto (pc := 141) hC 53 dX6_lots_141 (by decide) ?_
                    refine ev_drop 8 ?_
                    show Ev K 53 [some (.ref 29), some (vi ((p0 : Nat) : Int)), some (vi x1), some (vi x2), some (vi (bnd ((p0 : Nat) : Int) 1 20)), some (vi ((c + (pop (bset 0 (goN 0 10 ((lotR A (lotZ A x1 k) (A 5 0)).1)))) : Nat) : Int)), some (vi ((s + (sumB ((goN 0 10 ((lotR A (lotZ A x1 k) (A 5 0)).1)) 5 0) ((goN 0 10 ((lotR A (lotZ A x1 k) (A 5 0)).1)) 4)) : Nat) : Int)), some (vi ((k + 1 : Nat) : Int)), none] [] X135
                    exact ih53 (k + 1) (c + (pop (bset 0 (goN 0 10 ((lotR A (lotZ A x1 k) (A 5 0)).1))))) (s + (sumB ((goN 0 10 ((lotR A (lotZ A x1 k) (A 5 0)).1)) 5 0) ((goN 0 10 ((lotR A (lotZ A x1 k) (A 5 0)).1)) 4))) X135 (by omega) (by omega) (by rw [sumB_s, ← hc, pop_bset (by rw [goN_n]; show (lotR A (lotZ A x1 k) (A 5 0)).1 5 0 ≤ 8; rw [lotR_n]; exact hn8)]; rfl) (by rw [sumB_s, ← hs]; rfl) hz135 hA135 hg135 hFr135
                  · refine ev_aload_n (pc := 75) hC dX6_lots_75 rfl ?_
                    refine ev_getr (pc := 76) hC 34 f22 dX6_lots_76 (by decide) (by decide) (by decide) (by decide) (by decide) ?_
                    refine ev_iload (pc := 79) hC dX6_lots_79 rfl ?_
                    refine ev_aload_n (pc := 81) hC dX6_lots_81 rfl ?_
                    refine ev_bipush (pc := 82) hC dX6_lots_82 (by decide) ?_
                    refine ev_callV (pc := 84) (as := [vi 25]) (rest := [vi ((j : Nat) : Int), .ref 34]) hC gX6_lots_X6_draw mtX6_draw dX6_lots_84 (ru_X6_draw ((lotR A (lotZ A x1 k) j).2) 25 hz2 (by omega)) (by decide) (by decide) (by decide) rfl (by rfl) (Nat.le_of_ble_eq_true rfl) rfl (fun v84 X84 h84 => ?_)
                    obtain ⟨rfl, rfl⟩ := h84
                    show Ev K 87 [some (.ref 29), some (vi ((p0 : Nat) : Int)), some (vi x1), some (vi x2), some (vi (bnd ((p0 : Nat) : Int) 1 20)), some (vi ((c : Nat) : Int)), some (vi ((s : Nat) : Int)), some (vi ((k : Nat) : Int)), some (vi ((j : Nat) : Int))] [vi ((drawI (stir ((lotR A (lotZ A x1 k) j).2)) 25 : Nat) : Int), vi ((j : Nat) : Int), .ref 34] (mset Y 29 24 (zI (stir ((lotR A (lotZ A x1 k) j).2))))
                    have hz84 : (mset Y 29 24 (zI (stir ((lotR A (lotZ A x1 k) j).2)))) 29 24 = zI (stir ((lotR A (lotZ A x1 k) j).2)) := mset_eq _ _ _ _
                    have hdl84 := drawI_lt (stir ((lotR A (lotZ A x1 k) j).2)) (m := 25) (by omega)
                    have hA84 : Rp (vM (mset Y 29 24 (zI (stir ((lotR A (lotZ A x1 k) j).2))))) (lotR A (lotZ A x1 k) j).1 := hAY.keepM (by rw [mset_ne _ _ _ _ (by omega)]) (by rw [mset_ne _ _ _ _ (by omega)]) (fun q hq => by rw [mset_row (by omega)])
                    have hg84 : (mset Y 29 24 (zI (stir ((lotR A (lotZ A x1 k) j).2)))) 29 8 = zI ((0 : Nat) : Int) := by rw [mset_ne _ _ _ _ (by omega)]; exact hgY
                    have hFr84 : frW 1 X (mset Y 29 24 (zI (stir ((lotR A (lotZ A x1 k) j).2)))) := frW_29 hFY (Or.inr rfl)
                    have hk2_84 : Rp (vK (mset Y 29 24 (zI (stir ((lotR A (lotZ A x1 k) j).2)))) 2) A := Rp.keepKr hK2Y (mset_row (by omega))
                    refine ev_iast (pc := 87) hC j (by decide) (by decide) (rfl) (by have := (show alen 34 = 8 from rfl); omega) dX6_lots_87 ?_
                    have hA87 : Rp (vM (mset (mset Y 29 24 (zI (stir ((lotR A (lotZ A x1 k) j).2)))) 34 j (zI ((drawI (stir ((lotR A (lotZ A x1 k) j).2)) 25 : Nat) : Int)))) (setR (lotR A (lotZ A x1 k) j).1 3 j (drawI (stir ((lotR A (lotZ A x1 k) j).2)) 25)) := Rp.setM3 (v := drawI (stir ((lotR A (lotZ A x1 k) j).2)) 25) hA84 (by omega)
                    have hg87 : (mset (mset Y 29 24 (zI (stir ((lotR A (lotZ A x1 k) j).2)))) 34 j (zI ((drawI (stir ((lotR A (lotZ A x1 k) j).2)) 25 : Nat) : Int))) 29 8 = zI ((0 : Nat) : Int) := by rw [mset_row (by omega)]; exact hg84
                    have hFr87 : frW 1 X (mset (mset Y 29 24 (zI (stir ((lotR A (lotZ A x1 k) j).2)))) 34 j (zI ((drawI (stir ((lotR A (lotZ A x1 k) j).2)) 25 : Nat) : Int))) := frW_set (r := 3) hFr84 (by omega)
                    have hk2_87 : Rp (vK (mset (mset Y 29 24 (zI (stir ((lotR A (lotZ A x1 k) j).2)))) 34 j (zI ((drawI (stir ((lotR A (lotZ A x1 k) j).2)) 25 : Nat) : Int))) 2) A := Rp.keepKr hk2_84 (mset_row (by omega))
                    have hzz87 : (mset (mset Y 29 24 (zI (stir ((lotR A (lotZ A x1 k) j).2)))) 34 j (zI ((drawI (stir ((lotR A (lotZ A x1 k) j).2)) 25 : Nat) : Int))) 29 24 = zI (stir ((lotR A (lotZ A x1 k) j).2)) := by rw [mset_row (by omega)]; exact hz84
                    refine ev_aload_n (pc := 88) hC dX6_lots_88 rfl ?_
                    refine ev_getr (pc := 89) hC 35 f25 dX6_lots_89 (by decide) (by decide) (by decide) (by decide) (by decide) ?_
                    refine ev_iload (pc := 92) hC dX6_lots_92 rfl ?_
                    refine ev_aload_n (pc := 94) hC dX6_lots_94 rfl ?_
                    refine ev_bipush (pc := 95) hC dX6_lots_95 (by decide) ?_
                    refine ev_callV (pc := 97) (as := [vi 10]) (rest := [vi ((j : Nat) : Int), .ref 35]) hC gX6_lots_X6_draw mtX6_draw dX6_lots_97 (ru_X6_draw (stir ((lotR A (lotZ A x1 k) j).2)) 10 hzz87 (by omega)) (by decide) (by decide) (by decide) rfl (by rfl) (Nat.le_of_ble_eq_true rfl) rfl (fun v97 X97 h97 => ?_)
                    obtain ⟨rfl, rfl⟩ := h97
                    show Ev K 100 [some (.ref 29), some (vi ((p0 : Nat) : Int)), some (vi x1), some (vi x2), some (vi (bnd ((p0 : Nat) : Int) 1 20)), some (vi ((c : Nat) : Int)), some (vi ((s : Nat) : Int)), some (vi ((k : Nat) : Int)), some (vi ((j : Nat) : Int))] [vi ((drawI (stir (stir ((lotR A (lotZ A x1 k) j).2))) 10 : Nat) : Int), vi ((j : Nat) : Int), .ref 35] (mset (mset (mset Y 29 24 (zI (stir ((lotR A (lotZ A x1 k) j).2)))) 34 j (zI ((drawI (stir ((lotR A (lotZ A x1 k) j).2)) 25 : Nat) : Int))) 29 24 (zI (stir (stir ((lotR A (lotZ A x1 k) j).2)))))
                    have hz97 : (mset (mset (mset Y 29 24 (zI (stir ((lotR A (lotZ A x1 k) j).2)))) 34 j (zI ((drawI (stir ((lotR A (lotZ A x1 k) j).2)) 25 : Nat) : Int))) 29 24 (zI (stir (stir ((lotR A (lotZ A x1 k) j).2))))) 29 24 = zI (stir (stir ((lotR A (lotZ A x1 k) j).2))) := mset_eq _ _ _ _
                    have hdl97 := drawI_lt (stir (stir ((lotR A (lotZ A x1 k) j).2))) (m := 10) (by omega)
                    have hA97 : Rp (vM (mset (mset (mset Y 29 24 (zI (stir ((lotR A (lotZ A x1 k) j).2)))) 34 j (zI ((drawI (stir ((lotR A (lotZ A x1 k) j).2)) 25 : Nat) : Int))) 29 24 (zI (stir (stir ((lotR A (lotZ A x1 k) j).2)))))) (setR (lotR A (lotZ A x1 k) j).1 3 j (drawI (stir ((lotR A (lotZ A x1 k) j).2)) 25)) := hA87.keepM (by rw [mset_ne _ _ _ _ (by omega)]) (by rw [mset_ne _ _ _ _ (by omega)]) (fun q hq => by rw [mset_row (by omega)])
                    have hg97 : (mset (mset (mset Y 29 24 (zI (stir ((lotR A (lotZ A x1 k) j).2)))) 34 j (zI ((drawI (stir ((lotR A (lotZ A x1 k) j).2)) 25 : Nat) : Int))) 29 24 (zI (stir (stir ((lotR A (lotZ A x1 k) j).2))))) 29 8 = zI ((0 : Nat) : Int) := by rw [mset_ne _ _ _ _ (by omega)]; exact hg87
                    have hFr97 : frW 1 X (mset (mset (mset Y 29 24 (zI (stir ((lotR A (lotZ A x1 k) j).2)))) 34 j (zI ((drawI (stir ((lotR A (lotZ A x1 k) j).2)) 25 : Nat) : Int))) 29 24 (zI (stir (stir ((lotR A (lotZ A x1 k) j).2))))) := frW_29 hFr87 (Or.inr rfl)
                    have hk2_97 : Rp (vK (mset (mset (mset Y 29 24 (zI (stir ((lotR A (lotZ A x1 k) j).2)))) 34 j (zI ((drawI (stir ((lotR A (lotZ A x1 k) j).2)) 25 : Nat) : Int))) 29 24 (zI (stir (stir ((lotR A (lotZ A x1 k) j).2))))) 2) A := Rp.keepKr hk2_87 (mset_row (by omega))
                    refine ev_iast (pc := 100) hC j (by decide) (by decide) (rfl) (by have := (show alen 35 = 8 from rfl); omega) dX6_lots_100 ?_
                    have hA100 : Rp (vM (mset (mset (mset (mset Y 29 24 (zI (stir ((lotR A (lotZ A x1 k) j).2)))) 34 j (zI ((drawI (stir ((lotR A (lotZ A x1 k) j).2)) 25 : Nat) : Int))) 29 24 (zI (stir (stir ((lotR A (lotZ A x1 k) j).2))))) 35 j (zI ((drawI (stir (stir ((lotR A (lotZ A x1 k) j).2))) 10 : Nat) : Int)))) (setR (setR (lotR A (lotZ A x1 k) j).1 3 j (drawI (stir ((lotR A (lotZ A x1 k) j).2)) 25)) 4 j (drawI (stir (stir ((lotR A (lotZ A x1 k) j).2))) 10)) := Rp.setM4 (v := drawI (stir (stir ((lotR A (lotZ A x1 k) j).2))) 10) hA97 (by omega)
                    have hg100 : (mset (mset (mset (mset Y 29 24 (zI (stir ((lotR A (lotZ A x1 k) j).2)))) 34 j (zI ((drawI (stir ((lotR A (lotZ A x1 k) j).2)) 25 : Nat) : Int))) 29 24 (zI (stir (stir ((lotR A (lotZ A x1 k) j).2))))) 35 j (zI ((drawI (stir (stir ((lotR A (lotZ A x1 k) j).2))) 10 : Nat) : Int))) 29 8 = zI ((0 : Nat) : Int) := by rw [mset_row (by omega)]; exact hg97
                    have hFr100 : frW 1 X (mset (mset (mset (mset Y 29 24 (zI (stir ((lotR A (lotZ A x1 k) j).2)))) 34 j (zI ((drawI (stir ((lotR A (lotZ A x1 k) j).2)) 25 : Nat) : Int))) 29 24 (zI (stir (stir ((lotR A (lotZ A x1 k) j).2))))) 35 j (zI ((drawI (stir (stir ((lotR A (lotZ A x1 k) j).2))) 10 : Nat) : Int))) := frW_set (r := 4) hFr97 (by omega)
                    have hk2_100 : Rp (vK (mset (mset (mset (mset Y 29 24 (zI (stir ((lotR A (lotZ A x1 k) j).2)))) 34 j (zI ((drawI (stir ((lotR A (lotZ A x1 k) j).2)) 25 : Nat) : Int))) 29 24 (zI (stir (stir ((lotR A (lotZ A x1 k) j).2))))) 35 j (zI ((drawI (stir (stir ((lotR A (lotZ A x1 k) j).2))) 10 : Nat) : Int))) 2) A := Rp.keepKr hk2_97 (mset_row (by omega))
                    have hzz100 : (mset (mset (mset (mset Y 29 24 (zI (stir ((lotR A (lotZ A x1 k) j).2)))) 34 j (zI ((drawI (stir ((lotR A (lotZ A x1 k) j).2)) 25 : Nat) : Int))) 29 24 (zI (stir (stir ((lotR A (lotZ A x1 k) j).2))))) 35 j (zI ((drawI (stir (stir ((lotR A (lotZ A x1 k) j).2))) 10 : Nat) : Int))) 29 24 = zI (stir (stir ((lotR A (lotZ A x1 k) j).2))) := by rw [mset_row (by omega)]; exact hz97
                    refine ev_iinc (pc := 101) hC ((j + 1 : Nat) : Int) dX6_lots_101 rfl (by omega) (by rw [hKn]; decide) rfl ?_
                    show Ev K 104 [some (.ref 29), some (vi ((p0 : Nat) : Int)), some (vi x1), some (vi x2), some (vi (bnd ((p0 : Nat) : Int) 1 20)), some (vi ((c : Nat) : Int)), some (vi ((s : Nat) : Int)), some (vi ((k : Nat) : Int)), some (vi ((j + 1 : Nat) : Int))] [] (mset (mset (mset (mset Y 29 24 (zI (stir ((lotR A (lotZ A x1 k) j).2)))) 34 j (zI ((drawI (stir ((lotR A (lotZ A x1 k) j).2)) 25 : Nat) : Int))) 29 24 (zI (stir (stir ((lotR A (lotZ A x1 k) j).2))))) 35 j (zI ((drawI (stir (stir ((lotR A (lotZ A x1 k) j).2))) 10 : Nat) : Int)))
                    refine ev_goto (pc := 104) hC 66 dX6_lots_104 (by decide) ?_
                    exact ih66 (j + 1) (mset (mset (mset (mset Y 29 24 (zI (stir ((lotR A (lotZ A x1 k) j).2)))) 34 j (zI ((drawI (stir ((lotR A (lotZ A x1 k) j).2)) 25 : Nat) : Int))) 29 24 (zI (stir (stir ((lotR A (lotZ A x1 k) j).2))))) 35 j (zI ((drawI (stir (stir ((lotR A (lotZ A x1 k) j).2))) 10 : Nat) : Int))) (by omega) (by omega) hzz100 hA100 hg100 hFr100 hk2_100
              exact lp66 _ 0 X60 (Nat.lt_succ_self _) (by omega) hz60 hA60 hg60 hFr60 hk2_60
        exact lp53 _ 0 0 0 (mset X 29 24 (zI x1)) (Nat.lt_succ_self _) (by omega) rfl rfl hz43 hA43 hg43 hFr43
      · refine ev_aload_n (pc := 32) hC dX6_lots_32 rfl ?_
        refine ev_iload (pc := 33) hC dX6_lots_33 rfl ?_
        refine ev_callV (pc := 35) (as := [vi (bnd x0 1 20)]) (rest := []) hC gX6_lots_X6_no mtX6_no dX6_lots_35 (ru_X6_no2 (bnd x0 1 20) (by omega)) (by decide) (by decide) (by decide) rfl (by rfl) (Nat.le_of_ble_eq_true rfl) rfl (fun v35 X35 h35 => ?_)
        obtain ⟨rfl, rfl⟩ := h35
        show Ev K 38 [some (.ref 29), some (vi x0), some (vi x1), some (vi x2), some (vi (bnd x0 1 20)), none, none, none, none] [vi (bnd x0 1 20)] (mset X 30 (-(bnd x0 1 20)).toNat (X 30 (-(bnd x0 1 20)).toNat + 1))
        exact ev_ireturn (pc := 38) hC hR dX6_lots_38 (no_endM (show f3 (bnd x0 1 20) (cdO x2 2) 0 = (bnd x0 1 20) by omega) (by omega) hI)
    · have e20 := of_decide_eq_false (b2i_0 c20)
      refine ev_bipush (pc := 23) hC dX6_lots_23 (by decide) ?_
      refine ev_istore (pc := 25) hC dX6_lots_25 (by rw [hKn]; decide) rfl ?_
      show Ev K 27 [some (.ref 29), some (vi x0), some (vi x1), some (vi x2), some (vi (-2)), none, none, none, none] [] X
      refine ev_iload (pc := 27) hC dX6_lots_27 rfl ?_
      refine ev_if_eq (pc := 29) hC 39 dX6_lots_29 (by decide) (by omega) (fun c29 => absurd c29 (by decide)) (fun c29 => ?_)
      refine ev_aload_n (pc := 32) hC dX6_lots_32 rfl ?_
      refine ev_iload (pc := 33) hC dX6_lots_33 rfl ?_
      refine ev_callV (pc := 35) (as := [vi (-2)]) (rest := []) hC gX6_lots_X6_no mtX6_no dX6_lots_35 (ru_X6_no2 (-2) (by omega)) (by decide) (by decide) (by decide) rfl (by rfl) (Nat.le_of_ble_eq_true rfl) rfl (fun v35 X35 h35 => ?_)
      obtain ⟨rfl, rfl⟩ := h35
      show Ev K 38 [some (.ref 29), some (vi x0), some (vi x1), some (vi x2), some (vi (-2)), none, none, none, none] [vi (-2)] (mset X 30 (-(-2)).toNat (X 30 (-(-2)).toNat + 1))
      exact ev_ireturn (pc := 38) hC hR dX6_lots_38 (no_endM (show f3 (bnd x0 1 20) (cdO x2 2) 0 = (-2) by omega) (by omega) hI)
