theorem mtX6_isSo : MT yX6_isSo wsX6_isSo cX6_isSo 4 (some .boolean) 1 := ⟨⟨_, rfl⟩, by decide, by decide, by decide +kernel⟩
set_option maxRecDepth 100000 in
set_option maxHeartbeats 4000000 in
theorem ru_X6_isSo {X : Mem} {A : Sl} {G : Nat} {W : Nat → Nat} {rs : Nat} (hA : Rp (vM X) A) (hg : X 29 8 = zI (G : Nat)) (hG : G < 256) (hW : RwM X W rs) (p : Nat) (hp : p < A 5 0) (hG0 : G = 0) : Ru yX6_isSo wsX6_isSo 8 177 [.ref 29, vi ((p : Nat) : Int)] X (fun v X' => v = some (vi (b2i (allN rs (soB W p A)))) ∧ Rp (vM X') A ∧ frT 2 X X') := by
  refine ru_of (w2 := _) rfl (by decide) [some (.ref 29), some (vi ((p : Nat) : Int)), none, none] (fun _ => rfl) (fun _ => Nat.le_of_ble_eq_true rfl) ?_
  intro K hKn hC hR
  have wX6 : ∀ w ∈ u_ws RX6 TX6 25, w ∈ wsX6_isSo := by decide +kernel
  have f266 : Fl K RX6 266 6 23 := fl_of hC RX6 TX6 25 rfl (by decide) wX6 (show Cond.fieldLink RX6 266 "PicnicOfSomebodyModel" "rowMany" "I" ∈ _ by decide +kernel)
  have f25 : Fl K RX6 25 6 5 := fl_of hC RX6 TX6 25 rfl (by decide) wX6 (show Cond.fieldLink RX6 25 "PicnicOfSomebodyModel" "belief" "[I" ∈ _ by decide +kernel)
  have f49 : Fl K RX6 49 6 22 := fl_of hC RX6 TX6 25 rfl (by decide) wX6 (show Cond.fieldLink RX6 49 "PicnicOfSomebodyModel" "row" "[I" ∈ _ by decide +kernel)
  have hn8 := hA.n8
  have hrs := hW.2.1
  subst hG0
  refine ev_aload_n (pc := 0) hC dX6_isSo_0 rfl ?_
  refine ev_callV (pc := 1) (as := []) (rest := []) hC gX6_isSo_X6_thinks mtX6_thinks dX6_isSo_1 (ru_X6_thinks) (by decide) (by decide) (by decide) rfl (by rfl) (Nat.le_of_ble_eq_true rfl) rfl (fun v1 X1 h1 => ?_)
  obtain ⟨rfl, hS1⟩ := h1
  show Ev K 4 [some (.ref 29), some (vi ((p : Nat) : Int)), none, none] [] X1
  have hF1 := ks_fr hS1
  have hA1 := ks_repM hS1 hA
  have hk2_1 := ks_rep hS1 hA
  have hg1 := frT_gone hF1 hg
  have hFr1 := frT_tr (frT_rf 2 X) hF1 (by omega)
  have hn8_1 := hA1.n8
  refine ev_iconst (pc := 4) hC dX6_isSo_4 ?_
  refine ev_istore_n (pc := 5) hC dX6_isSo_5 (by rw [hKn]; decide) rfl ?_
  show Ev K 6 [some (.ref 29), some (vi ((p : Nat) : Int)), some (vi 1), none] [] X1
  refine ev_iconst (pc := 6) hC dX6_isSo_6 ?_
  refine ev_istore_n (pc := 7) hC dX6_isSo_7 (by rw [hKn]; decide) rfl ?_
  show Ev K 8 [some (.ref 29), some (vi ((p : Nat) : Int)), some (vi 1), some (vi 0)] [] X1
  have lp8 : ∀ (fz : Nat) (k : Nat) (z : Bool) (Y : Mem), rs - k < fz → (k ≤ rs) → (z = allN k (soB W p A)) → (Rp (vM Y) (goN 0 k A)) → (Y 29 8 = zI ((0 : Nat) : Int)) → (frT 2 X Y) → (Rp (vK Y 2) A) → Ev K 8 [some (.ref 29), some (vi ((p : Nat) : Int)), some (vi (b2i z)), some (vi ((k : Nat) : Int))] [] Y := by
    intro fz
    induction fz with
    | zero => intro k z Y hfz; exact absurd hfz (Nat.not_lt_zero _)
    | succ fz ih8 =>
      intro k z Y hfz hk hz hAY hgY hFY hK2Y
      have hY8 := hAY.n8
      have hzr := b2i_r z
      refine ev_iload_n (pc := 8) hC dX6_isSo_8 rfl ?_
      refine ev_aload_n (pc := 9) hC dX6_isSo_9 rfl ?_
      refine ev_geti (pc := 10) hC ((rs : Nat) : Int) f266 dX6_isSo_10 (by decide) (by decide) (by decide) (by decide) (by decide)  ((hW.frT hFY).1) ?_
      refine ev_icmp_ge (pc := 13) hC 52 dX6_isSo_13 (by decide) (by omega) (by omega) (fun c13 => ?_) (fun c13 => ?_)
      · have hzz : z = allN rs (soB W p A) := by rw [hz, show k = rs by omega]
        refine ev_aload_n (pc := 52) hC dX6_isSo_52 rfl ?_
        refine ev_callV (pc := 53) (as := []) (rest := []) hC gX6_isSo_X6_forgets mtX6_forgets dX6_isSo_53 (ru_X6_forgets) (by decide) (by decide) (by decide) rfl (by rfl) (Nat.le_of_ble_eq_true rfl) rfl (fun v53 X53 h53 => ?_)
        obtain ⟨rfl, hS53⟩ := h53
        show Ev K 56 [some (.ref 29), some (vi ((p : Nat) : Int)), some (vi (b2i z)), some (vi ((k : Nat) : Int))] [] X53
        have hF53 := ps_fr hS53
        have hA53 := ps_rep hS53 hK2Y
        have hg53 := frT_gone hF53 hgY
        have hk2_53 := hK2Y.keepK hF53 (by omega)
        have hFr53 := frT_tr hFY hF53 (by omega)
        have hn8_53 := hA53.n8
        refine ev_iload_n (pc := 56) hC dX6_isSo_56 rfl ?_
        exact ev_zreturn (pc := 57) hC hR dX6_isSo_57 (b2i_n _) (⟨by rw [hzz], hA53, hFr53⟩)
      · refine ev_iload_n (pc := 16) hC dX6_isSo_16 rfl ?_
        refine ev_if_eq (pc := 17) hC 52 dX6_isSo_17 (by decide) (by omega) (fun c17 => ?_) (fun c17 => ?_)
        · have e17 := b2i_0 c17
          have hzz : z = allN rs (soB W p A) := by rw [e17]; exact (allN_out (hz.symm.trans e17) hk).symm
          refine ev_aload_n (pc := 52) hC dX6_isSo_52 rfl ?_
          refine ev_callV (pc := 53) (as := []) (rest := []) hC gX6_isSo_X6_forgets mtX6_forgets dX6_isSo_53 (ru_X6_forgets) (by decide) (by decide) (by decide) rfl (by rfl) (Nat.le_of_ble_eq_true rfl) rfl (fun v53 X53 h53 => ?_)
          obtain ⟨rfl, hS53⟩ := h53
          show Ev K 56 [some (.ref 29), some (vi ((p : Nat) : Int)), some (vi (b2i z)), some (vi ((k : Nat) : Int))] [] X53
          have hF53 := ps_fr hS53
          have hA53 := ps_rep hS53 hK2Y
          have hg53 := frT_gone hF53 hgY
          have hk2_53 := hK2Y.keepK hF53 (by omega)
          have hFr53 := frT_tr hFY hF53 (by omega)
          have hn8_53 := hA53.n8
          refine ev_iload_n (pc := 56) hC dX6_isSo_56 rfl ?_
          exact ev_zreturn (pc := 57) hC hR dX6_isSo_57 (b2i_n _) (⟨by rw [hzz], hA53, hFr53⟩)
        · have e17 := b2i_1 c17
          refine ev_aload_n (pc := 20) hC dX6_isSo_20 rfl ?_
          refine ev_getr (pc := 21) hC 35 f25 dX6_isSo_21 (by decide) (by decide) (by decide) (by decide) (by decide) ?_
          refine ev_iload_n (pc := 24) hC dX6_isSo_24 rfl ?_
          have hb25 := hAY.b9 p (by omega)
          refine ev_iald (pc := 25) hC p (((goN 0 k A) 4 p : Nat) : Int) (by decide) (by decide) (rfl) (by have := (show alen 35 = 8 from rfl); omega) (hAY.m4 p (by omega)) dX6_isSo_25 ?_
          refine ev_aload_n (pc := 26) hC dX6_isSo_26 rfl ?_
          refine ev_getr (pc := 27) hC 43 f49 dX6_isSo_27 (by decide) (by decide) (by decide) (by decide) (by decide) ?_
          refine ev_iload_n (pc := 30) hC dX6_isSo_30 rfl ?_
          have hw31 := (hW.2.2 k (by omega)).2
          refine ev_iald (pc := 31) hC k ((W k : Nat) : Int) (by decide) (by decide) (rfl) (by have := (show alen 43 = 16 from rfl); omega) (((hW.frT hFY).2.2 k (by omega)).1) dX6_isSo_31 ?_
          refine ev_icmp_ne (pc := 32) hC 39 dX6_isSo_32 (by decide) (by omega) (by omega) (fun c32 => ?_) (fun c32 => ?_)
          · refine ev_iconst (pc := 39) hC dX6_isSo_39 ?_
            refine ev_istore_n (pc := 40) hC dX6_isSo_40 (by rw [hKn]; decide) rfl ?_
            show Ev K 41 [some (.ref 29), some (vi ((p : Nat) : Int)), some (vi 0), some (vi ((k : Nat) : Int))] [] Y
            refine ev_aload_n (pc := 41) hC dX6_isSo_41 rfl ?_
            refine ev_iconst (pc := 42) hC dX6_isSo_42 ?_
            refine ev_callV (pc := 43) (as := [vi 0]) (rest := []) hC gX6_isSo_X6_goesYear mtX6_goesYear dX6_isSo_43 (ru_X6_goesYear hAY hgY hG false) (by decide) (by decide) (by decide) rfl (by rfl) (Nat.le_of_ble_eq_true rfl) rfl (fun v43 X43 h43 => ?_)
            obtain ⟨rfl, hA43, hF43⟩ := h43
            show Ev K 46 [some (.ref 29), some (vi ((p : Nat) : Int)), some (vi 0), some (vi ((k : Nat) : Int))] [] X43
            have hg43 := frT_gone hF43 hgY
            have hk2_43 := hK2Y.keepK hF43 (by omega)
            have hFr43 := frT_tr hFY hF43 (by omega)
            have hn8_43 := hA43.n8
            refine ev_iinc (pc := 46) hC ((k + 1 : Nat) : Int) dX6_isSo_46 rfl (by omega) (by rw [hKn]; decide) rfl ?_
            show Ev K 49 [some (.ref 29), some (vi ((p : Nat) : Int)), some (vi 0), some (vi ((k + 1 : Nat) : Int))] [] X43
            refine ev_goto (pc := 49) hC 8 dX6_isSo_49 (by decide) ?_
            exact ih8 (k + 1) false X43 (by omega) (by omega) (row_f (decide_eq_false (by omega))) hA43 hg43 hFr43 hk2_43
          · refine ev_iconst (pc := 35) hC dX6_isSo_35 ?_
            refine ev_goto (pc := 36) hC 40 dX6_isSo_36 (by decide) ?_
            refine ev_istore_n (pc := 40) hC dX6_isSo_40 (by rw [hKn]; decide) rfl ?_
            show Ev K 41 [some (.ref 29), some (vi ((p : Nat) : Int)), some (vi 1), some (vi ((k : Nat) : Int))] [] Y
            refine ev_aload_n (pc := 41) hC dX6_isSo_41 rfl ?_
            refine ev_iconst (pc := 42) hC dX6_isSo_42 ?_
            refine ev_callV (pc := 43) (as := [vi 0]) (rest := []) hC gX6_isSo_X6_goesYear mtX6_goesYear dX6_isSo_43 (ru_X6_goesYear hAY hgY hG false) (by decide) (by decide) (by decide) rfl (by rfl) (Nat.le_of_ble_eq_true rfl) rfl (fun v43 X43 h43 => ?_)
            obtain ⟨rfl, hA43, hF43⟩ := h43
            show Ev K 46 [some (.ref 29), some (vi ((p : Nat) : Int)), some (vi 1), some (vi ((k : Nat) : Int))] [] X43
            have hg43 := frT_gone hF43 hgY
            have hk2_43 := hK2Y.keepK hF43 (by omega)
            have hFr43 := frT_tr hFY hF43 (by omega)
            have hn8_43 := hA43.n8
            refine ev_iinc (pc := 46) hC ((k + 1 : Nat) : Int) dX6_isSo_46 rfl (by omega) (by rw [hKn]; decide) rfl ?_
            show Ev K 49 [some (.ref 29), some (vi ((p : Nat) : Int)), some (vi 1), some (vi ((k + 1 : Nat) : Int))] [] X43
            refine ev_goto (pc := 49) hC 8 dX6_isSo_49 (by decide) ?_
            exact ih8 (k + 1) true X43 (by omega) (by omega) (row_t hz e17 (decide_eq_true (by omega))) hA43 hg43 hFr43 hk2_43
  exact lp8 _ 0 true X1 (Nat.lt_succ_self _) (by omega) rfl hA1 hg1 hFr1 hk2_1
theorem mtX6_areSoMany : MT yX6_areSoMany wsX6_areSoMany cX6_areSoMany 3 (some .boolean) 0 := ⟨⟨_, rfl⟩, by decide, by decide, by decide +kernel⟩
set_option maxRecDepth 100000 in
set_option maxHeartbeats 4000000 in
theorem ru_X6_areSoMany {X : Mem} {A : Sl} {G : Nat} {W : Nat → Nat} {rs : Nat} (hA : Rp (vM X) A) (hg : X 29 8 = zI (G : Nat)) (hG : G < 256) (hW : RwM X W rs) : Ru yX6_areSoMany wsX6_areSoMany 8 177 [.ref 29] X (fun v X' => v = some (vi (b2i (allN rs (fun k => decide (W k = bcnt G (goN G k A)))))) ∧ Rp (vM X') A ∧ frT 2 X X') := by
  refine ru_of (w2 := _) rfl (by decide) [some (.ref 29), none, none] (fun _ => rfl) (fun _ => Nat.le_of_ble_eq_true rfl) ?_
  intro K hKn hC hR
  have wX6 : ∀ w ∈ u_ws RX6 TX6 25, w ∈ wsX6_areSoMany := by decide +kernel
  have f266 : Fl K RX6 266 6 23 := fl_of hC RX6 TX6 25 rfl (by decide) wX6 (show Cond.fieldLink RX6 266 "PicnicOfSomebodyModel" "rowMany" "I" ∈ _ by decide +kernel)
  have f49 : Fl K RX6 49 6 22 := fl_of hC RX6 TX6 25 rfl (by decide) wX6 (show Cond.fieldLink RX6 49 "PicnicOfSomebodyModel" "row" "[I" ∈ _ by decide +kernel)
  have hn8 := hA.n8
  have hrs := hW.2.1
  refine ev_aload_n (pc := 0) hC dX6_areSoMany_0 rfl ?_
  refine ev_callV (pc := 1) (as := []) (rest := []) hC gX6_areSoMany_X6_thinks mtX6_thinks dX6_areSoMany_1 (ru_X6_thinks) (by decide) (by decide) (by decide) rfl (by rfl) (Nat.le_of_ble_eq_true rfl) rfl (fun v1 X1 h1 => ?_)
  obtain ⟨rfl, hS1⟩ := h1
  show Ev K 4 [some (.ref 29), none, none] [] X1
  have hF1 := ks_fr hS1
  have hA1 := ks_repM hS1 hA
  have hk2_1 := ks_rep hS1 hA
  have hg1 := frT_gone hF1 hg
  have hFr1 := frT_tr (frT_rf 2 X) hF1 (by omega)
  have hn8_1 := hA1.n8
  refine ev_iconst (pc := 4) hC dX6_areSoMany_4 ?_
  refine ev_istore_n (pc := 5) hC dX6_areSoMany_5 (by rw [hKn]; decide) rfl ?_
  show Ev K 6 [some (.ref 29), some (vi 1), none] [] X1
  refine ev_iconst (pc := 6) hC dX6_areSoMany_6 ?_
  refine ev_istore_n (pc := 7) hC dX6_areSoMany_7 (by rw [hKn]; decide) rfl ?_
  show Ev K 8 [some (.ref 29), some (vi 1), some (vi 0)] [] X1
  have lp8 : ∀ (fz : Nat) (k : Nat) (z : Bool) (Y : Mem), rs - k < fz → (k ≤ rs) → (z = allN k (fun k => decide (W k = bcnt G (goN G k A)))) → (Rp (vM Y) (goN G k A)) → (Y 29 8 = zI ((G : Nat) : Int)) → (frT 2 X Y) → (Rp (vK Y 2) A) → Ev K 8 [some (.ref 29), some (vi (b2i z)), some (vi ((k : Nat) : Int))] [] Y := by
    intro fz
    induction fz with
    | zero => intro k z Y hfz; exact absurd hfz (Nat.not_lt_zero _)
    | succ fz ih8 =>
      intro k z Y hfz hk hz hAY hgY hFY hK2Y
      have hY8 := hAY.n8
      have hzr := b2i_r z
      refine ev_iload_n (pc := 8) hC dX6_areSoMany_8 rfl ?_
      refine ev_aload_n (pc := 9) hC dX6_areSoMany_9 rfl ?_
      refine ev_geti (pc := 10) hC ((rs : Nat) : Int) f266 dX6_areSoMany_10 (by decide) (by decide) (by decide) (by decide) (by decide)  ((hW.frT hFY).1) ?_
      refine ev_icmp_ge (pc := 13) hC 53 dX6_areSoMany_13 (by decide) (by omega) (by omega) (fun c13 => ?_) (fun c13 => ?_)
      · have hzz : z = allN rs (fun k => decide (W k = bcnt G (goN G k A))) := by rw [hz, show k = rs by omega]
        refine ev_aload_n (pc := 53) hC dX6_areSoMany_53 rfl ?_
        refine ev_callV (pc := 54) (as := []) (rest := []) hC gX6_areSoMany_X6_forgets mtX6_forgets dX6_areSoMany_54 (ru_X6_forgets) (by decide) (by decide) (by decide) rfl (by rfl) (Nat.le_of_ble_eq_true rfl) rfl (fun v54 X54 h54 => ?_)
        obtain ⟨rfl, hS54⟩ := h54
        show Ev K 57 [some (.ref 29), some (vi (b2i z)), some (vi ((k : Nat) : Int))] [] X54
        have hF54 := ps_fr hS54
        have hA54 := ps_rep hS54 hK2Y
        have hg54 := frT_gone hF54 hgY
        have hk2_54 := hK2Y.keepK hF54 (by omega)
        have hFr54 := frT_tr hFY hF54 (by omega)
        have hn8_54 := hA54.n8
        refine ev_iload_n (pc := 57) hC dX6_areSoMany_57 rfl ?_
        exact ev_zreturn (pc := 58) hC hR dX6_areSoMany_58 (b2i_n _) (⟨by rw [hzz], hA54, hFr54⟩)
      · refine ev_iload_n (pc := 16) hC dX6_areSoMany_16 rfl ?_
        refine ev_if_eq (pc := 17) hC 53 dX6_areSoMany_17 (by decide) (by omega) (fun c17 => ?_) (fun c17 => ?_)
        · have e17 := b2i_0 c17
          have hzz : z = allN rs (fun k => decide (W k = bcnt G (goN G k A))) := by rw [e17]; exact (allN_out (hz.symm.trans e17) hk).symm
          refine ev_aload_n (pc := 53) hC dX6_areSoMany_53 rfl ?_
          refine ev_callV (pc := 54) (as := []) (rest := []) hC gX6_areSoMany_X6_forgets mtX6_forgets dX6_areSoMany_54 (ru_X6_forgets) (by decide) (by decide) (by decide) rfl (by rfl) (Nat.le_of_ble_eq_true rfl) rfl (fun v54 X54 h54 => ?_)
          obtain ⟨rfl, hS54⟩ := h54
          show Ev K 57 [some (.ref 29), some (vi (b2i z)), some (vi ((k : Nat) : Int))] [] X54
          have hF54 := ps_fr hS54
          have hA54 := ps_rep hS54 hK2Y
          have hg54 := frT_gone hF54 hgY
          have hk2_54 := hK2Y.keepK hF54 (by omega)
          have hFr54 := frT_tr hFY hF54 (by omega)
          have hn8_54 := hA54.n8
          refine ev_iload_n (pc := 57) hC dX6_areSoMany_57 rfl ?_
          exact ev_zreturn (pc := 58) hC hR dX6_areSoMany_58 (b2i_n _) (⟨by rw [hzz], hA54, hFr54⟩)
        · have e17 := b2i_1 c17
          refine ev_aload_n (pc := 20) hC dX6_areSoMany_20 rfl ?_
          refine ev_callV (pc := 21) (as := []) (rest := []) hC gX6_areSoMany_X6_believers mtX6_believers dX6_areSoMany_21 (ru_X6_believers hAY hgY hG  ) (by decide) (by decide) (by decide) rfl (by rfl) (Nat.le_of_ble_eq_true rfl) rfl (fun v21 X21 h21 => ?_)
          obtain ⟨rfl, rfl⟩ := h21
          show Ev K 24 [some (.ref 29), some (vi (b2i z)), some (vi ((k : Nat) : Int))] [vi ((bset G (goN G k A) : Nat) : Int)] Y
          have hl21 := bset_lt (G := G) hAY.n8
          refine ev_callS (pc := 24) (as := [vi ((bset G (goN G k A) : Nat) : Int)]) (rest := []) hC gX6_areSoMany_X6_bits mtX6_bits dX6_areSoMany_24 (ru_X6_bits (bset G (goN G k A)) (by omega)) (by decide) (by rfl) (Nat.le_of_ble_eq_true rfl) rfl (fun v24 X24 h24 => ?_)
          obtain ⟨rfl, rfl⟩ := h24
          show Ev K 27 [some (.ref 29), some (vi (b2i z)), some (vi ((k : Nat) : Int))] [vi ((pop (bset G (goN G k A)) : Nat) : Int)] Y
          have hp24 := pop_le (bset G (goN G k A))
          have hpb : pop (bset G (goN G k A)) = bcnt G (goN G k A) := pop_bset (by rw [goN_n]; exact hn8)
          refine ev_aload_n (pc := 27) hC dX6_areSoMany_27 rfl ?_
          refine ev_getr (pc := 28) hC 43 f49 dX6_areSoMany_28 (by decide) (by decide) (by decide) (by decide) (by decide) ?_
          refine ev_iload_n (pc := 31) hC dX6_areSoMany_31 rfl ?_
          have hw32 := (hW.2.2 k (by omega)).2
          refine ev_iald (pc := 32) hC k ((W k : Nat) : Int) (by decide) (by decide) (rfl) (by have := (show alen 43 = 16 from rfl); omega) (((hW.frT hFY).2.2 k (by omega)).1) dX6_areSoMany_32 ?_
          refine ev_icmp_ne (pc := 33) hC 40 dX6_areSoMany_33 (by decide) (by omega) (by omega) (fun c33 => ?_) (fun c33 => ?_)
          · refine ev_iconst (pc := 40) hC dX6_areSoMany_40 ?_
            refine ev_istore_n (pc := 41) hC dX6_areSoMany_41 (by rw [hKn]; decide) rfl ?_
            show Ev K 42 [some (.ref 29), some (vi 0), some (vi ((k : Nat) : Int))] [] Y
            refine ev_aload_n (pc := 42) hC dX6_areSoMany_42 rfl ?_
            refine ev_iconst (pc := 43) hC dX6_areSoMany_43 ?_
            refine ev_callV (pc := 44) (as := [vi 0]) (rest := []) hC gX6_areSoMany_X6_goesYear mtX6_goesYear dX6_areSoMany_44 (ru_X6_goesYear hAY hgY hG false) (by decide) (by decide) (by decide) rfl (by rfl) (Nat.le_of_ble_eq_true rfl) rfl (fun v44 X44 h44 => ?_)
            obtain ⟨rfl, hA44, hF44⟩ := h44
            show Ev K 47 [some (.ref 29), some (vi 0), some (vi ((k : Nat) : Int))] [] X44
            have hg44 := frT_gone hF44 hgY
            have hk2_44 := hK2Y.keepK hF44 (by omega)
            have hFr44 := frT_tr hFY hF44 (by omega)
            have hn8_44 := hA44.n8
            refine ev_iinc (pc := 47) hC ((k + 1 : Nat) : Int) dX6_areSoMany_47 rfl (by omega) (by rw [hKn]; decide) rfl ?_
            show Ev K 50 [some (.ref 29), some (vi 0), some (vi ((k + 1 : Nat) : Int))] [] X44
            refine ev_goto (pc := 50) hC 8 dX6_areSoMany_50 (by decide) ?_
            exact ih8 (k + 1) false X44 (by omega) (by omega) (row_f (decide_eq_false (by omega))) hA44 hg44 hFr44 hk2_44
          · refine ev_iconst (pc := 36) hC dX6_areSoMany_36 ?_
            refine ev_goto (pc := 37) hC 41 dX6_areSoMany_37 (by decide) ?_
            refine ev_istore_n (pc := 41) hC dX6_areSoMany_41 (by rw [hKn]; decide) rfl ?_
            show Ev K 42 [some (.ref 29), some (vi 1), some (vi ((k : Nat) : Int))] [] Y
            refine ev_aload_n (pc := 42) hC dX6_areSoMany_42 rfl ?_
            refine ev_iconst (pc := 43) hC dX6_areSoMany_43 ?_
            refine ev_callV (pc := 44) (as := [vi 0]) (rest := []) hC gX6_areSoMany_X6_goesYear mtX6_goesYear dX6_areSoMany_44 (ru_X6_goesYear hAY hgY hG false) (by decide) (by decide) (by decide) rfl (by rfl) (Nat.le_of_ble_eq_true rfl) rfl (fun v44 X44 h44 => ?_)
            obtain ⟨rfl, hA44, hF44⟩ := h44
            show Ev K 47 [some (.ref 29), some (vi 1), some (vi ((k : Nat) : Int))] [] X44
            have hg44 := frT_gone hF44 hgY
            have hk2_44 := hK2Y.keepK hF44 (by omega)
            have hFr44 := frT_tr hFY hF44 (by omega)
            have hn8_44 := hA44.n8
            refine ev_iinc (pc := 47) hC ((k + 1 : Nat) : Int) dX6_areSoMany_47 rfl (by omega) (by rw [hKn]; decide) rfl ?_
            show Ev K 50 [some (.ref 29), some (vi 1), some (vi ((k + 1 : Nat) : Int))] [] X44
            refine ev_goto (pc := 50) hC 8 dX6_areSoMany_50 (by decide) ?_
            exact ih8 (k + 1) true X44 (by omega) (by omega) (row_t hz e17 (decide_eq_true (by omega))) hA44 hg44 hFr44 hk2_44
  exact lp8 _ 0 true X1 (Nat.lt_succ_self _) (by omega) rfl hA1 hg1 hFr1 hk2_1
