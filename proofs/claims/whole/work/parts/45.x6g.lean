theorem mtX6_isSo : MT yX6_isSo wsX6_isSo cX6_isSo 4 (some .boolean) 1 := ⟨⟨_, rfl⟩, by decide, by decide, by decide +kernel⟩
set_option maxRecDepth 100000 in
set_option maxHeartbeats 4000000 in
theorem ru_X6_isSo {X : Mem} {A : Sl} {G : Nat} {W : Nat → Nat} {rs : Nat} (hA : Rp (vM X) A) (hg : X 29 8 = zI (G : Nat)) (hG : G < 256) (hW : RwM X W rs) (p : Nat) (hp : p < A 5 0) (hG0 : G = 0) : Ru yX6_isSo wsX6_isSo 8 177 [.ref 29, vi ((p : Nat) : Int)] X (fun v X' => v = some (vi (b2i (allN rs (soB W p A)))) ∧ Rp (vM X') A ∧ frT 2 X X') := by
  refine ru_of (w2 := _) rfl (by decide) [some (.ref 29), some (vi ((p : Nat) : Int)), none, none] (fun _ => rfl) (fun _ => Nat.le_of_ble_eq_true rfl) ?_
  intro K hKn hC hR
  have wX6 : ∀ w ∈ u_ws RX6 TX6 25, w ∈ wsX6_isSo := by decide +kernel
  have f266 : Fl K RX6 266 6 23 := fl_of hC RX6 TX6 25 rfl (by decide) wX6 (show Cond.fieldLink RX6 266 "PicnicOfSomebodyModel" "rowMany" "I" ∈ _ by decide +kernel)
  have f25 : Fl K RX6 25 6 5 := fl_of hC RX6 TX6 25 rfl (by decide) wX6 (show Cond.fieldLink RX6 25 "PicnicOfSomebodyModel" "belief" "[I" ∈ _ by decide +kernel)
  have f49 : Fl K RX6 49 6 22 := fl_of hC RX6 TX6 25 rfl (by decide) wX6 (show Cond.fieldLink RX6 49 "PicnicOfSomebodyModel" "row" "[I" ∈ _ by decide +kernel)
  have hn8 := hA.n8
  have hrs := hW.2.1
  subst hG0
  refine ev_aload_n (pc := 0) hC dX6_isSo_0 rfl ?_
  refine ev_callV (pc := 1) (as := []) (rest := []) hC gX6_isSo_X6_thinks mtX6_thinks dX6_isSo_1 (ru_X6_thinks) (by decide) (by decide) (by decide) rfl (by rfl) (Nat.le_of_ble_eq_true rfl) rfl (fun v1 X1 h1 => ?_)
  obtain ⟨rfl, hS1⟩ := h1
  show Ev K 4 [some (.ref 29), some (vi ((p : Nat) : Int)), none, none] [] X1
  have hF1 := ks_fr hS1
  have hA1 := ks_repM hS1 hA
  have hk2_1 := ks_rep hS1 hA
  have hg1 := frT_gone hF1 hg
  have hFr1 := frT_tr (frT_rf 2 X) hF1 (by omega)
  have hn8_1 := hA1.n8
  refine ev_iconst (pc := 4) hC dX6_isSo_4 ?_
  refine ev_istore_n (pc := 5) hC dX6_isSo_5 (by rw [hKn]; decide) rfl ?_
  show Ev K 6 [some (.ref 29), some (vi ((p : Nat) : Int)), some (vi 1), none] [] X1
  refine ev_iconst (pc := 6) hC dX6_isSo_6 ?_
  refine ev_istore_n (pc := 7) hC dX6_isSo_7 (by rw [hKn]; decide) rfl ?_
  show Ev K 8 [some (.ref 29), some (vi ((p : Nat) : Int)), some (vi 1), some (vi 0)] [] X1
  have lp8 : ∀ (fz : Nat) (k : Nat) (z : Bool) (Y : Mem), rs - k < fz → (k ≤ rs) → (z = allN k (soB W p A)) → (Rp (vM Y) (goN 0 k A)) → (Y 29 8 = zI ((0 : Nat) : Int)) → (frT 2 X Y) → (Rp (vK Y 2) A) → Ev K 8 [some (.ref 29), some (vi ((p : Nat) : Int)), some (vi (b2i z)), some (vi ((k : Nat) : Int))] [] Y := by
    intro fz
    induction fz with
    | zero => intro k z Y hfz; exact absurd hfz (Nat.not_lt_zero _)
    | succ fz ih8 =>
      intro k z Y hfz hk hz hAY hgY hFY hK2Y
      have hY8 := hAY.n8
      have hzr := b2i_r z
      have hgk : goN 0 k A 5 0 = A 5 0 := goN_n 0 A k
      refine ev_iload_n (pc := 8) hC dX6_isSo_8 rfl ?_
      refine ev_aload_n (pc := 9) hC dX6_isSo_9 rfl ?_
      refine ev_geti (pc := 10) hC ((rs : Nat) : Int) f266 dX6_isSo_10 (by decide) (by decide) (by decide) (by decide) (by decide)  ((hW.frT hFY).1) ?_
      refine ev_icmp_ge (pc := 13) hC 52 dX6_isSo_13 (by decide) (by omega) (by omega) (fun c13 => ?_) (fun c13 => ?_)
      · have hzz : z = allN rs (soB W p A) := by rw [hz, show k = rs by omega]
        refine ev_aload_n (pc := 52) hC dX6_isSo_52 rfl ?_
        refine ev_callV (pc := 53) (as := []) (rest := []) hC gX6_isSo_X6_forgets mtX6_forgets dX6_isSo_53 (ru_X6_forgets) (by decide) (by decide) (by decide) rfl (by rfl) (Nat.le_of_ble_eq_true rfl) rfl (fun v53 X53 h53 => ?_)
        obtain ⟨rfl, hS53⟩ := h53
        show Ev K 56 [some (.ref 29), some (vi ((p : Nat) : Int)), some (vi (b2i z)), some (vi ((k : Nat) : Int))] [] X53
        have hF53 := ps_fr hS53
        have hA53 := ps_rep hS53 hK2Y
        have hg53 := frT_gone hF53 hgY
        have hk2_53 := hK2Y.keepK hF53 (by omega)
        have hFr53 := frT_tr hFY hF53 (by omega)
        have hn8_53 := hA53.n8
        refine ev_iload_n (pc := 56) hC dX6_isSo_56 rfl ?_
        exact ev_zreturn (pc := 57) hC hR dX6_isSo_57 (b2i_n _) (⟨by rw [hzz], hA53, hFr53⟩)
      · refine ev_iload_n (pc := 16) hC dX6_isSo_16 rfl ?_
        refine ev_if_eq (pc := 17) hC 52 dX6_isSo_17 (by decide) (by omega) (fun c17 => ?_) (fun c17 => ?_)
        · have e17 := b2i_0 c17
          have hzz : z = allN rs (soB W p A) := by rw [e17]; exact (allN_out (hz.symm.trans e17) hk).symm
          refine ev_aload_n (pc := 52) hC dX6_isSo_52 rfl ?_
          refine ev_callV (pc := 53) (as := []) (rest := []) hC gX6_isSo_X6_forgets mtX6_forgets dX6_isSo_53 (ru_X6_forgets) (by decide) (by decide) (by decide) rfl (by rfl) (Nat.le_of_ble_eq_true rfl) rfl (fun v53 X53 h53 => ?_)
          obtain ⟨rfl, hS53⟩ := h53
          show Ev K 56 [some (.ref 29), some (vi ((p : Nat) : Int)), some (vi (b2i z)), some (vi ((k : Nat) : Int))] [] X53
          have hF53 := ps_fr hS53
          have hA53 := ps_rep hS53 hK2Y
          have hg53 := frT_gone hF53 hgY
          have hk2_53 := hK2Y.keepK hF53 (by omega)
          have hFr53 := frT_tr hFY hF53 (by omega)
          have hn8_53 := hA53.n8
          refine ev_iload_n (pc := 56) hC dX6_isSo_56 rfl ?_
          exact ev_zreturn (pc := 57) hC hR dX6_isSo_57 (b2i_n _) (⟨by rw [hzz], hA53, hFr53⟩)
        · have e17 := b2i_1 c17
          refine ev_aload_n (pc := 20) hC dX6_isSo_20 rfl ?_
          refine ev_getr (pc := 21) hC 35 f25 dX6_isSo_21 (by decide) (by decide) (by decide) (by decide) (by decide) ?_
          refine ev_iload_n (pc := 24) hC dX6_isSo_24 rfl ?_
          have hb25 := hAY.b9 p (by omega)
          refine ev_iald (pc := 25) hC p (((goN 0 k A) 4 p : Nat) : Int) (by decide) (by decide) (rfl) (by have := (show alen 35 = 8 from rfl); omega) (hAY.m4 p (by omega)) dX6_isSo_25 ?_
          refine ev_aload_n (pc := 26) hC dX6_isSo_26 rfl ?_
          refine ev_getr (pc := 27) hC 43 f49 dX6_isSo_27 (by decide) (by decide) (by decide) (by decide) (by decide) ?_
          refine ev_iload_n (pc := 30) hC dX6_isSo_30 rfl ?_
          have hw31 := (hW.2.2 k (by omega)).2
          refine ev_iald (pc := 31) hC k ((W k : Nat) : Int) (by decide) (by decide) (rfl) (by have := (show alen 43 = 16 from rfl); omega) (((hW.frT hFY).2.2 k (by omega)).1) dX6_isSo_31 ?_
          refine ev_icmp_ne (pc := 32) hC 39 dX6_isSo_32 (by decide) (by omega) (by omega) (fun c32 => ?_) (fun c32 => ?_)
          · refine ev_iconst (pc := 39) hC dX6_isSo_39 ?_
            refine ev_istore_n (pc := 40) hC dX6_isSo_40 (by rw [hKn]; decide) rfl ?_
            show Ev K 41 [some (.ref 29), some (vi ((p : Nat) : Int)), some (vi 0), some (vi ((k : Nat) : Int))] [] Y
            refine ev_aload_n (pc := 41) hC dX6_isSo_41 rfl ?_
            refine ev_iconst (pc := 42) hC dX6_isSo_42 ?_
            refine ev_callV (pc := 43) (as := [vi 0]) (rest := []) hC gX6_isSo_X6_goesYear mtX6_goesYear dX6_isSo_43 (ru_X6_goesYear hAY hgY hG false) (by decide) (by decide) (by decide) rfl (by rfl) (Nat.le_of_ble_eq_true rfl) rfl (fun v43 X43 h43 => ?_)
            obtain ⟨rfl, hA43, hF43⟩ := h43
            show Ev K 46 [some (.ref 29), some (vi ((p : Nat) : Int)), some (vi 0), some (vi ((k : Nat) : Int))] [] X43
            have hg43 := frT_gone hF43 hgY
            have hk2_43 := hK2Y.keepK hF43 (by omega)
            have hFr43 := frT_tr hFY hF43 (by omega)
            have hn8_43 := hA43.n8
            refine ev_iinc (pc := 46) hC ((k + 1 : Nat) : Int) dX6_isSo_46 rfl (by omega) (by rw [hKn]; decide) rfl ?_
            show Ev K 49 [some (.ref 29), some (vi ((p : Nat) : Int)), some (vi 0), some (vi ((k + 1 : Nat) : Int))] [] X43
            refine ev_goto (pc := 49) hC 8 dX6_isSo_49 (by decide) ?_
            exact ih8 (k + 1) false X43 (by omega) (by omega) (row_f (decide_eq_false (by omega))) hA43 hg43 hFr43 hk2_43
          · refine ev_iconst (pc := 35) hC dX6_isSo_35 ?_
            refine ev_goto (pc := 36) hC 40 dX6_isSo_36 (by decide) ?_
            refine ev_istore_n (pc := 40) hC dX6_isSo_40 (by rw [hKn]; decide) rfl ?_
            show Ev K 41 [some (.ref 29), some (vi ((p : Nat) : Int)), some (vi 1), some (vi ((k : Nat) : Int))] [] Y
            refine ev_aload_n (pc := 41) hC dX6_isSo_41 rfl ?_
            refine ev_iconst (pc := 42) hC dX6_isSo_42 ?_
            refine ev_callV (pc := 43) (as := [vi 0]) (rest := []) hC gX6_isSo_X6_goesYear mtX6_goesYear dX6_isSo_43 (ru_X6_goesYear hAY hgY hG false) (by decide) (by decide) (by decide) rfl (by rfl) (Nat.le_of_ble_eq_true rfl) rfl (fun v43 X43 h43 => ?_)
            obtain ⟨rfl, hA43, hF43⟩ := h43
            show Ev K 46 [some (.ref 29), some (vi ((p : Nat) : Int)), some (vi 1), some (vi ((k : Nat) : Int))] [] X43
            have hg43 := frT_gone hF43 hgY
            have hk2_43 := hK2Y.keepK hF43 (by omega)
            have hFr43 := frT_tr hFY hF43 (by omega)
            have hn8_43 := hA43.n8
            refine ev_iinc (pc := 46) hC ((k + 1 : Nat) : Int) dX6_isSo_46 rfl (by omega) (by rw [hKn]; decide) rfl ?_
            show Ev K 49 [some (.ref 29), some (vi ((p : Nat) : Int)), some (vi 1), some (vi ((k + 1 : Nat) : Int))] [] X43
            refine ev_goto (pc := 49) hC 8 dX6_isSo_49 (by decide) ?_
            exact ih8 (k + 1) true X43 (by omega) (by omega) (row_t hz e17 (decide_eq_true (by omega))) hA43 hg43 hFr43 hk2_43
  exact lp8 _ 0 true X1 (Nat.lt_succ_self _) (by omega) rfl hA1 hg1 hFr1 hk2_1
theorem mtX6_areSoMany : MT yX6_areSoMany wsX6_areSoMany cX6_areSoMany 3 (some .boolean) 0 := ⟨⟨_, rfl⟩, by decide, by decide, by decide +kernel⟩
set_option maxRecDepth 100000 in
set_option maxHeartbeats 4000000 in
theorem ru_X6_areSoMany {X : Mem} {A : Sl} {G : Nat} {W : Nat → Nat} {rs : Nat} (hA : Rp (vM X) A) (hg : X 29 8 = zI (G : Nat)) (hG : G < 256) (hW : RwM X W rs) : Ru yX6_areSoMany wsX6_areSoMany 8 177 [.ref 29] X (fun v X' => v = some (vi (b2i (allN rs (fun k => decide (W k = bcnt G (goN G k A)))))) ∧ Rp (vM X') A ∧ frT 2 X X') := by
  refine ru_of (w2 := _) rfl (by decide) [some (.ref 29), none, none] (fun _ => rfl) (fun _ => Nat.le_of_ble_eq_true rfl) ?_
  intro K hKn hC hR
  have wX6 : ∀ w ∈ u_ws RX6 TX6 25, w ∈ wsX6_areSoMany := by decide +kernel
  have f266 : Fl K RX6 266 6 23 := fl_of hC RX6 TX6 25 rfl (by decide) wX6 (show Cond.fieldLink RX6 266 "PicnicOfSomebodyModel" "rowMany" "I" ∈ _ by decide +kernel)
  have f49 : Fl K RX6 49 6 22 := fl_of hC RX6 TX6 25 rfl (by decide) wX6 (show Cond.fieldLink RX6 49 "PicnicOfSomebodyModel" "row" "[I" ∈ _ by decide +kernel)
  have hn8 := hA.n8
  have hrs := hW.2.1
  refine ev_aload_n (pc := 0) hC dX6_areSoMany_0 rfl ?_
  refine ev_callV (pc := 1) (as := []) (rest := []) hC gX6_areSoMany_X6_thinks mtX6_thinks dX6_areSoMany_1 (ru_X6_thinks) (by decide) (by decide) (by decide) rfl (by rfl) (Nat.le_of_ble_eq_true rfl) rfl (fun v1 X1 h1 => ?_)
  obtain ⟨rfl, hS1⟩ := h1
  show Ev K 4 [some (.ref 29), none, none] [] X1
  have hF1 := ks_fr hS1
  have hA1 := ks_repM hS1 hA
  have hk2_1 := ks_rep hS1 hA
  have hg1 := frT_gone hF1 hg
  have hFr1 := frT_tr (frT_rf 2 X) hF1 (by omega)
  have hn8_1 := hA1.n8
  refine ev_iconst (pc := 4) hC dX6_areSoMany_4 ?_
  refine ev_istore_n (pc := 5) hC dX6_areSoMany_5 (by rw [hKn]; decide) rfl ?_
  show Ev K 6 [some (.ref 29), some (vi 1), none] [] X1
  refine ev_iconst (pc := 6) hC dX6_areSoMany_6 ?_
  refine ev_istore_n (pc := 7) hC dX6_areSoMany_7 (by rw [hKn]; decide) rfl ?_
  show Ev K 8 [some (.ref 29), some (vi 1), some (vi 0)] [] X1
  have lp8 : ∀ (fz : Nat) (k : Nat) (z : Bool) (Y : Mem), rs - k < fz → (k ≤ rs) → (z = allN k (fun k => decide (W k = bcnt G (goN G k A)))) → (Rp (vM Y) (goN G k A)) → (Y 29 8 = zI ((G : Nat) : Int)) → (frT 2 X Y) → (Rp (vK Y 2) A) → Ev K 8 [some (.ref 29), some (vi (b2i z)), some (vi ((k : Nat) : Int))] [] Y := by
    intro fz
    induction fz with
    | zero => intro k z Y hfz; exact absurd hfz (Nat.not_lt_zero _)
    | succ fz ih8 =>
      intro k z Y hfz hk hz hAY hgY hFY hK2Y
      have hY8 := hAY.n8
      have hzr := b2i_r z
      have hgk : goN G k A 5 0 = A 5 0 := goN_n G A k
      refine ev_iload_n (pc := 8) hC dX6_areSoMany_8 rfl ?_
      refine ev_aload_n (pc := 9) hC dX6_areSoMany_9 rfl ?_
      refine ev_geti (pc := 10) hC ((rs : Nat) : Int) f266 dX6_areSoMany_10 (by decide) (by decide) (by decide) (by decide) (by decide)  ((hW.frT hFY).1) ?_
      refine ev_icmp_ge (pc := 13) hC 53 dX6_areSoMany_13 (by decide) (by omega) (by omega) (fun c13 => ?_) (fun c13 => ?_)
      · have hzz : z = allN rs (fun k => decide (W k = bcnt G (goN G k A))) := by rw [hz, show k = rs by omega]
        refine ev_aload_n (pc := 53) hC dX6_areSoMany_53 rfl ?_
        refine ev_callV (pc := 54) (as := []) (rest := []) hC gX6_areSoMany_X6_forgets mtX6_forgets dX6_areSoMany_54 (ru_X6_forgets) (by decide) (by decide) (by decide) rfl (by rfl) (Nat.le_of_ble_eq_true rfl) rfl (fun v54 X54 h54 => ?_)
        obtain ⟨rfl, hS54⟩ := h54
        show Ev K 57 [some (.ref 29), some (vi (b2i z)), some (vi ((k : Nat) : Int))] [] X54
        have hF54 := ps_fr hS54
        have hA54 := ps_rep hS54 hK2Y
        have hg54 := frT_gone hF54 hgY
        have hk2_54 := hK2Y.keepK hF54 (by omega)
        have hFr54 := frT_tr hFY hF54 (by omega)
        have hn8_54 := hA54.n8
        refine ev_iload_n (pc := 57) hC dX6_areSoMany_57 rfl ?_
        exact ev_zreturn (pc := 58) hC hR dX6_areSoMany_58 (b2i_n _) (⟨by rw [hzz], hA54, hFr54⟩)
      · refine ev_iload_n (pc := 16) hC dX6_areSoMany_16 rfl ?_
        refine ev_if_eq (pc := 17) hC 53 dX6_areSoMany_17 (by decide) (by omega) (fun c17 => ?_) (fun c17 => ?_)
        · have e17 := b2i_0 c17
          have hzz : z = allN rs (fun k => decide (W k = bcnt G (goN G k A))) := by rw [e17]; exact (allN_out (hz.symm.trans e17) hk).symm
          refine ev_aload_n (pc := 53) hC dX6_areSoMany_53 rfl ?_
          refine ev_callV (pc := 54) (as := []) (rest := []) hC gX6_areSoMany_X6_forgets mtX6_forgets dX6_areSoMany_54 (ru_X6_forgets) (by decide) (by decide) (by decide) rfl (by rfl) (Nat.le_of_ble_eq_true rfl) rfl (fun v54 X54 h54 => ?_)
          obtain ⟨rfl, hS54⟩ := h54
          show Ev K 57 [some (.ref 29), some (vi (b2i z)), some (vi ((k : Nat) : Int))] [] X54
          have hF54 := ps_fr hS54
          have hA54 := ps_rep hS54 hK2Y
          have hg54 := frT_gone hF54 hgY
          have hk2_54 := hK2Y.keepK hF54 (by omega)
          have hFr54 := frT_tr hFY hF54 (by omega)
          have hn8_54 := hA54.n8
          refine ev_iload_n (pc := 57) hC dX6_areSoMany_57 rfl ?_
          exact ev_zreturn (pc := 58) hC hR dX6_areSoMany_58 (b2i_n _) (⟨by rw [hzz], hA54, hFr54⟩)
        · have e17 := b2i_1 c17
          refine ev_aload_n (pc := 20) hC dX6_areSoMany_20 rfl ?_
          refine ev_callV (pc := 21) (as := []) (rest := []) hC gX6_areSoMany_X6_believers mtX6_believers dX6_areSoMany_21 (ru_X6_believers hAY hgY hG  ) (by decide) (by decide) (by decide) rfl (by rfl) (Nat.le_of_ble_eq_true rfl) rfl (fun v21 X21 h21 => ?_)
          obtain ⟨rfl, rfl⟩ := h21
          show Ev K 24 [some (.ref 29), some (vi (b2i z)), some (vi ((k : Nat) : Int))] [vi ((bset G (goN G k A) : Nat) : Int)] Y
          have hl21 := bset_lt (G := G) hAY.n8
          refine ev_callS (pc := 24) (as := [vi ((bset G (goN G k A) : Nat) : Int)]) (rest := []) hC gX6_areSoMany_X6_bits mtX6_bits dX6_areSoMany_24 (ru_X6_bits (bset G (goN G k A)) (by omega)) (by decide) (by rfl) (Nat.le_of_ble_eq_true rfl) rfl (fun v24 X24 h24 => ?_)
          obtain ⟨rfl, rfl⟩ := h24
          show Ev K 27 [some (.ref 29), some (vi (b2i z)), some (vi ((k : Nat) : Int))] [vi ((pop (bset G (goN G k A)) : Nat) : Int)] Y
          have hp24 := pop_le (bset G (goN G k A))
          have hpb : pop (bset G (goN G k A)) = bcnt G (goN G k A) := pop_bset (by rw [goN_n]; exact hn8)
          refine ev_aload_n (pc := 27) hC dX6_areSoMany_27 rfl ?_
          refine ev_getr (pc := 28) hC 43 f49 dX6_areSoMany_28 (by decide) (by decide) (by decide) (by decide) (by decide) ?_
          refine ev_iload_n (pc := 31) hC dX6_areSoMany_31 rfl ?_
          have hw32 := (hW.2.2 k (by omega)).2
          refine ev_iald (pc := 32) hC k ((W k : Nat) : Int) (by decide) (by decide) (rfl) (by have := (show alen 43 = 16 from rfl); omega) (((hW.frT hFY).2.2 k (by omega)).1) dX6_areSoMany_32 ?_
          refine ev_icmp_ne (pc := 33) hC 40 dX6_areSoMany_33 (by decide) (by omega) (by omega) (fun c33 => ?_) (fun c33 => ?_)
          · refine ev_iconst (pc := 40) hC dX6_areSoMany_40 ?_
            refine ev_istore_n (pc := 41) hC dX6_areSoMany_41 (by rw [hKn]; decide) rfl ?_
            show Ev K 42 [some (.ref 29), some (vi 0), some (vi ((k : Nat) : Int))] [] Y
            refine ev_aload_n (pc := 42) hC dX6_areSoMany_42 rfl ?_
            refine ev_iconst (pc := 43) hC dX6_areSoMany_43 ?_
            refine ev_callV (pc := 44) (as := [vi 0]) (rest := []) hC gX6_areSoMany_X6_goesYear mtX6_goesYear dX6_areSoMany_44 (ru_X6_goesYear hAY hgY hG false) (by decide) (by decide) (by decide) rfl (by rfl) (Nat.le_of_ble_eq_true rfl) rfl (fun v44 X44 h44 => ?_)
            obtain ⟨rfl, hA44, hF44⟩ := h44
            show Ev K 47 [some (.ref 29), some (vi 0), some (vi ((k : Nat) : Int))] [] X44
            have hg44 := frT_gone hF44 hgY
            have hk2_44 := hK2Y.keepK hF44 (by omega)
            have hFr44 := frT_tr hFY hF44 (by omega)
            have hn8_44 := hA44.n8
            refine ev_iinc (pc := 47) hC ((k + 1 : Nat) : Int) dX6_areSoMany_47 rfl (by omega) (by rw [hKn]; decide) rfl ?_
            show Ev K 50 [some (.ref 29), some (vi 0), some (vi ((k + 1 : Nat) : Int))] [] X44
            refine ev_goto (pc := 50) hC 8 dX6_areSoMany_50 (by decide) ?_
            exact ih8 (k + 1) false X44 (by omega) (by omega) (row_f (decide_eq_false (by omega))) hA44 hg44 hFr44 hk2_44
          · refine ev_iconst (pc := 36) hC dX6_areSoMany_36 ?_
            refine ev_goto (pc := 37) hC 41 dX6_areSoMany_37 (by decide) ?_
            refine ev_istore_n (pc := 41) hC dX6_areSoMany_41 (by rw [hKn]; decide) rfl ?_
            show Ev K 42 [some (.ref 29), some (vi 1), some (vi ((k : Nat) : Int))] [] Y
            refine ev_aload_n (pc := 42) hC dX6_areSoMany_42 rfl ?_
            refine ev_iconst (pc := 43) hC dX6_areSoMany_43 ?_
            refine ev_callV (pc := 44) (as := [vi 0]) (rest := []) hC gX6_areSoMany_X6_goesYear mtX6_goesYear dX6_areSoMany_44 (ru_X6_goesYear hAY hgY hG false) (by decide) (by decide) (by decide) rfl (by rfl) (Nat.le_of_ble_eq_true rfl) rfl (fun v44 X44 h44 => ?_)
            obtain ⟨rfl, hA44, hF44⟩ := h44
            show Ev K 47 [some (.ref 29), some (vi 1), some (vi ((k : Nat) : Int))] [] X44
            have hg44 := frT_gone hF44 hgY
            have hk2_44 := hK2Y.keepK hF44 (by omega)
            have hFr44 := frT_tr hFY hF44 (by omega)
            have hn8_44 := hA44.n8
            refine ev_iinc (pc := 47) hC ((k + 1 : Nat) : Int) dX6_areSoMany_47 rfl (by omega) (by rw [hKn]; decide) rfl ?_
            show Ev K 50 [some (.ref 29), some (vi 1), some (vi ((k + 1 : Nat) : Int))] [] X44
            refine ev_goto (pc := 50) hC 8 dX6_areSoMany_50 (by decide) ?_
            exact ih8 (k + 1) true X44 (by omega) (by omega) (row_t hz e17 (decide_eq_true (by omega))) hA44 hg44 hFr44 hk2_44
  exact lp8 _ 0 true X1 (Nat.lt_succ_self _) (by omega) rfl hA1 hg1 hFr1 hk2_1
theorem mtX6_bitsFor : MT yX6_bitsFor wsX6_bitsFor cX6_bitsFor 7 (some .int) 3 := ⟨⟨_, rfl⟩, by decide, by decide, by decide +kernel⟩
set_option maxRecDepth 100000 in
set_option maxHeartbeats 4000000 in
theorem ru_X6_bitsFor_1 {X : Mem} {A : Sl} {W : Nat → Nat} {rs : Nat} (hA : Rp (vM X) A) (hg : X 29 8 = zI ((0 : Nat) : Int)) (hW : RwM X W rs) (p : Nat) (hp : p < A 5 0) : Ru yX6_bitsFor wsX6_bitsFor 9 200 [.ref 29, .ref 32, vi ((p : Nat) : Int), vi 6] X (fun v X' => v = some (vi (bitsB 6 (kdP W rs 1 p A))) ∧ Rp (vM X') A ∧ frT 1 X X') := by
  refine ru_of (w2 := _) rfl (by decide) [some (.ref 29), some (.ref 32), some (vi ((p : Nat) : Int)), some (vi 6), none, none, none] (fun _ => rfl) (fun _ => Nat.le_of_ble_eq_true rfl) ?_
  intro K hKn hC hR
  have hn8 := hA.n8
  have hrs := hW.2.1
  have hG : 0 < 256 := by decide
  refine ev_aload_n (pc := 0) hC dX6_bitsFor_0 rfl ?_
  refine ev_iload_n (pc := 1) hC dX6_bitsFor_1 rfl ?_
  have hb2 := hA.k5 p (by omega)
  refine ev_iald (pc := 2) hC p ((A 1 p : Nat) : Int) (by decide) (by decide) (rfl) (by have := (show alen 32 = 8 from rfl); omega) (hA.m1 p (by omega)) dX6_bitsFor_2 ?_
  refine ev_istore (pc := 3) hC dX6_bitsFor_3 (by rw [hKn]; decide) rfl ?_
  show Ev K 5 [some (.ref 29), some (.ref 32), some (vi ((p : Nat) : Int)), some (vi 6), some (vi ((A 1 p : Nat) : Int)), none, none] [] X
  refine ev_iconst (pc := 5) hC dX6_bitsFor_5 ?_
  refine ev_istore (pc := 6) hC dX6_bitsFor_6 (by rw [hKn]; decide) rfl ?_
  show Ev K 8 [some (.ref 29), some (.ref 32), some (vi ((p : Nat) : Int)), some (vi 6), some (vi ((A 1 p : Nat) : Int)), some (vi 0), none] [] X
  refine ev_iconst (pc := 8) hC dX6_bitsFor_8 ?_
  refine ev_istore (pc := 9) hC dX6_bitsFor_9 (by rw [hKn]; decide) rfl ?_
  show Ev K 11 [some (.ref 29), some (.ref 32), some (vi ((p : Nat) : Int)), some (vi 6), some (vi ((A 1 p : Nat) : Int)), some (vi 0), some (vi 0)] [] X
  have lp11 : ∀ (fz : Nat) (v0 : Nat) (s : Nat) (B : Sl) (Y : Mem), 6 - v0 < fz → (v0 ≤ 6) → (s = bitsB v0 (kdP W rs 1 p A)) → (B 5 0 = A 5 0) → (∀ u, setR B 1 p u = setR A 1 p u) → (Rp (vM Y) B) → (Y 29 8 = zI ((0 : Nat) : Int)) → (frT 1 X Y) → Ev K 11 [some (.ref 29), some (.ref 32), some (vi ((p : Nat) : Int)), some (vi 6), some (vi ((A 1 p : Nat) : Int)), some (vi ((s : Nat) : Int)), some (vi ((v0 : Nat) : Int))] [] Y := by
    intro fz
    induction fz with
    | zero => intro v0 s B Y hfz; exact absurd hfz (Nat.not_lt_zero _)
    | succ fz ih11 =>
      intro v0 s B Y hfz hv hs hB5 hBs hAY hgY hFY
      have hY8 := hAY.n8
      refine ev_iload (pc := 11) hC dX6_bitsFor_11 rfl ?_
      refine ev_iload_n (pc := 13) hC dX6_bitsFor_13 rfl ?_
      refine ev_icmp_ge (pc := 14) hC 49 dX6_bitsFor_14 (by decide) (by omega) (by omega) (fun c14 => ?_) (fun c14 => ?_)
      · have hA9 := hAY
        refine ev_aload_n (pc := 49) hC dX6_bitsFor_49 rfl ?_
        refine ev_iload_n (pc := 50) hC dX6_bitsFor_50 rfl ?_
        refine ev_iload (pc := 51) hC dX6_bitsFor_51 rfl ?_
        refine ev_iast (pc := 53) hC p (by decide) (by decide) (rfl) (by have := (show alen 32 = 8 from rfl); omega) dX6_bitsFor_53 ?_
        have hA53 : Rp (vM (mset Y 32 p (zI ((A 1 p : Nat) : Int)))) (setR B 1 p (A 1 p)) := Rp.setM1 (v := A 1 p) hAY (by omega)
        have hg53 : (mset Y 32 p (zI ((A 1 p : Nat) : Int))) 29 8 = zI ((0 : Nat) : Int) := by rw [mset_row (by omega)]; exact hgY
        have hFr53 : frT 1 X (mset Y 32 p (zI ((A 1 p : Nat) : Int))) := frT_set (r := 1) hFY (by omega)
        refine ev_iload (pc := 54) hC dX6_bitsFor_54 rfl ?_
        exact ev_ireturn (pc := 56) hC hR dX6_bitsFor_56 (⟨rv (by rw [hs, show v0 = 6 by omega]), (by have z := hA53; rw [hBs, setR_id] at z; exact z), hFr53⟩)
      · refine ev_aload_n (pc := 17) hC dX6_bitsFor_17 rfl ?_
        refine ev_iload_n (pc := 18) hC dX6_bitsFor_18 rfl ?_
        refine ev_iload (pc := 19) hC dX6_bitsFor_19 rfl ?_
        refine ev_iast (pc := 21) hC p (by decide) (by decide) (rfl) (by have := (show alen 32 = 8 from rfl); omega) dX6_bitsFor_21 ?_
        have hA21 : Rp (vM (mset Y 32 p (zI ((v0 : Nat) : Int)))) (setR B 1 p v0) := Rp.setM1 (v := v0) hAY (by omega)
        have hg21 : (mset Y 32 p (zI ((v0 : Nat) : Int))) 29 8 = zI ((0 : Nat) : Int) := by rw [mset_row (by omega)]; exact hgY
        have hFr21 : frT 1 X (mset Y 32 p (zI ((v0 : Nat) : Int))) := frT_set (r := 1) hFY (by omega)
        have h5b : setR B 1 p v0 5 0 = A 5 0 := hB5
        refine ev_iload (pc := 22) hC dX6_bitsFor_22 rfl ?_
        refine ev_aload_n (pc := 24) hC dX6_bitsFor_24 rfl ?_
        refine ev_iload_n (pc := 25) hC dX6_bitsFor_25 rfl ?_
        refine ev_callV (pc := 26) (as := [vi ((p : Nat) : Int)]) (rest := [vi ((s : Nat) : Int)]) hC gX6_bitsFor_X6_isSo mtX6_isSo dX6_bitsFor_26 (ru_X6_isSo hA21 hg21 hG (hW.frT hFr21) p (by omega) rfl) (by decide) (by decide) (by decide) rfl (by rfl) (Nat.le_of_ble_eq_true rfl) rfl (fun v26 X26 h26 => ?_)
        obtain ⟨rfl, hA26, hF26⟩ := h26
        show Ev K 29 [some (.ref 29), some (.ref 32), some (vi ((p : Nat) : Int)), some (vi 6), some (vi ((A 1 p : Nat) : Int)), some (vi ((s : Nat) : Int)), some (vi ((v0 : Nat) : Int))] [vi (b2i (allN rs (soB W p (setR B 1 p v0)))), vi ((s : Nat) : Int)] X26
        have hr26 := b2i_r (allN rs (soB W p (setR B 1 p v0)))
        have hg26 := frT_gone hF26 hg21
        have hFr26 := frT_tr hFr21 hF26 (by omega)
        have hn8_26 := hA26.n8
        refine ev_if_eq (pc := 29) hC 39 dX6_bitsFor_29 (by decide) (by omega) (fun c29 => ?_) (fun c29 => ?_)
        · have e29 := b2i_0 c29
          refine ev_iconst (pc := 39) hC dX6_bitsFor_39 ?_
          refine ev_ior (pc := 40) hC ((s ||| 0 : Nat) : Int) (zI_or s 0) dX6_bitsFor_40 ?_
          refine ev_istore (pc := 41) hC dX6_bitsFor_41 (by rw [hKn]; decide) rfl ?_
          show Ev K 43 [some (.ref 29), some (.ref 32), some (vi ((p : Nat) : Int)), some (vi 6), some (vi ((A 1 p : Nat) : Int)), some (vi ((s ||| 0 : Nat) : Int)), some (vi ((v0 : Nat) : Int))] [] X26
          refine ev_iinc (pc := 43) hC ((v0 + 1 : Nat) : Int) dX6_bitsFor_43 rfl (by omega) (by rw [hKn]; decide) rfl ?_
          show Ev K 46 [some (.ref 29), some (.ref 32), some (vi ((p : Nat) : Int)), some (vi 6), some (vi ((A 1 p : Nat) : Int)), some (vi ((s ||| 0 : Nat) : Int)), some (vi ((v0 + 1 : Nat) : Int))] [] X26
          refine ev_goto (pc := 46) hC 11 dX6_bitsFor_46 (by decide) ?_
          exact ih11 (v0 + 1) (s ||| 0) (setR B 1 p v0) X26 (by omega) (by omega) (by rw [Nat.or_zero]; exact bitsB_f (by rw [kd_eq (hBs v0)] at e29; exact e29) hs) hB5 (fun u => (setR_setR B 1 p v0 u).trans (hBs u)) hA26 hg26 hFr26
        · have e29 := b2i_1 c29
          refine ev_iconst (pc := 32) hC dX6_bitsFor_32 ?_
          refine ev_iload (pc := 33) hC dX6_bitsFor_33 rfl ?_
          refine ev_ishl (pc := 35) hC ((2 ^ v0 : Nat) : Int) (zI_shl1 v0 (by omega)) dX6_bitsFor_35 ?_
          refine ev_goto (pc := 36) hC 40 dX6_bitsFor_36 (by decide) ?_
          refine ev_ior (pc := 40) hC ((s ||| (2 ^ v0) : Nat) : Int) (zI_or s (2 ^ v0)) dX6_bitsFor_40 ?_
          refine ev_istore (pc := 41) hC dX6_bitsFor_41 (by rw [hKn]; decide) rfl ?_
          show Ev K 43 [some (.ref 29), some (.ref 32), some (vi ((p : Nat) : Int)), some (vi 6), some (vi ((A 1 p : Nat) : Int)), some (vi ((s ||| (2 ^ v0) : Nat) : Int)), some (vi ((v0 : Nat) : Int))] [] X26
          refine ev_iinc (pc := 43) hC ((v0 + 1 : Nat) : Int) dX6_bitsFor_43 rfl (by omega) (by rw [hKn]; decide) rfl ?_
          show Ev K 46 [some (.ref 29), some (.ref 32), some (vi ((p : Nat) : Int)), some (vi 6), some (vi ((A 1 p : Nat) : Int)), some (vi ((s ||| (2 ^ v0) : Nat) : Int)), some (vi ((v0 + 1 : Nat) : Int))] [] X26
          refine ev_goto (pc := 46) hC 11 dX6_bitsFor_46 (by decide) ?_
          exact ih11 (v0 + 1) (s ||| (2 ^ v0)) (setR B 1 p v0) X26 (by omega) (by omega) (bitsB_t (by rw [kd_eq (hBs v0)] at e29; exact e29) hs) hB5 (fun u => (setR_setR B 1 p v0 u).trans (hBs u)) hA26 hg26 hFr26
  exact lp11 _ 0 0 A X (Nat.lt_succ_self _) (by omega) rfl rfl (fun _ => rfl) hA hg (frT_rf 1 X)
set_option maxRecDepth 100000 in
set_option maxHeartbeats 4000000 in
theorem ru_X6_bitsFor_2 {X : Mem} {A : Sl} {W : Nat → Nat} {rs : Nat} (hA : Rp (vM X) A) (hg : X 29 8 = zI ((0 : Nat) : Int)) (hW : RwM X W rs) (p : Nat) (hp : p < A 5 0) : Ru yX6_bitsFor wsX6_bitsFor 9 200 [.ref 29, .ref 33, vi ((p : Nat) : Int), vi 10] X (fun v X' => v = some (vi (bitsB 10 (kdP W rs 2 p A))) ∧ Rp (vM X') A ∧ frT 1 X X') := by
  refine ru_of (w2 := _) rfl (by decide) [some (.ref 29), some (.ref 33), some (vi ((p : Nat) : Int)), some (vi 10), none, none, none] (fun _ => rfl) (fun _ => Nat.le_of_ble_eq_true rfl) ?_
  intro K hKn hC hR
  have hn8 := hA.n8
  have hrs := hW.2.1
  have hG : 0 < 256 := by decide
  refine ev_aload_n (pc := 0) hC dX6_bitsFor_0 rfl ?_
  refine ev_iload_n (pc := 1) hC dX6_bitsFor_1 rfl ?_
  have hb2 := hA.f9 p (by omega)
  refine ev_iald (pc := 2) hC p ((A 2 p : Nat) : Int) (by decide) (by decide) (rfl) (by have := (show alen 33 = 8 from rfl); omega) (hA.m2 p (by omega)) dX6_bitsFor_2 ?_
  refine ev_istore (pc := 3) hC dX6_bitsFor_3 (by rw [hKn]; decide) rfl ?_
  show Ev K 5 [some (.ref 29), some (.ref 33), some (vi ((p : Nat) : Int)), some (vi 10), some (vi ((A 2 p : Nat) : Int)), none, none] [] X
  refine ev_iconst (pc := 5) hC dX6_bitsFor_5 ?_
  refine ev_istore (pc := 6) hC dX6_bitsFor_6 (by rw [hKn]; decide) rfl ?_
  show Ev K 8 [some (.ref 29), some (.ref 33), some (vi ((p : Nat) : Int)), some (vi 10), some (vi ((A 2 p : Nat) : Int)), some (vi 0), none] [] X
  refine ev_iconst (pc := 8) hC dX6_bitsFor_8 ?_
  refine ev_istore (pc := 9) hC dX6_bitsFor_9 (by rw [hKn]; decide) rfl ?_
  show Ev K 11 [some (.ref 29), some (.ref 33), some (vi ((p : Nat) : Int)), some (vi 10), some (vi ((A 2 p : Nat) : Int)), some (vi 0), some (vi 0)] [] X
  have lp11 : ∀ (fz : Nat) (v0 : Nat) (s : Nat) (B : Sl) (Y : Mem), 10 - v0 < fz → (v0 ≤ 10) → (s = bitsB v0 (kdP W rs 2 p A)) → (B 5 0 = A 5 0) → (∀ u, setR B 2 p u = setR A 2 p u) → (Rp (vM Y) B) → (Y 29 8 = zI ((0 : Nat) : Int)) → (frT 1 X Y) → Ev K 11 [some (.ref 29), some (.ref 33), some (vi ((p : Nat) : Int)), some (vi 10), some (vi ((A 2 p : Nat) : Int)), some (vi ((s : Nat) : Int)), some (vi ((v0 : Nat) : Int))] [] Y := by
    intro fz
    induction fz with
    | zero => intro v0 s B Y hfz; exact absurd hfz (Nat.not_lt_zero _)
    | succ fz ih11 =>
      intro v0 s B Y hfz hv hs hB5 hBs hAY hgY hFY
      have hY8 := hAY.n8
      refine ev_iload (pc := 11) hC dX6_bitsFor_11 rfl ?_
      refine ev_iload_n (pc := 13) hC dX6_bitsFor_13 rfl ?_
      refine ev_icmp_ge (pc := 14) hC 49 dX6_bitsFor_14 (by decide) (by omega) (by omega) (fun c14 => ?_) (fun c14 => ?_)
      · have hA9 := hAY
        refine ev_aload_n (pc := 49) hC dX6_bitsFor_49 rfl ?_
        refine ev_iload_n (pc := 50) hC dX6_bitsFor_50 rfl ?_
        refine ev_iload (pc := 51) hC dX6_bitsFor_51 rfl ?_
        refine ev_iast (pc := 53) hC p (by decide) (by decide) (rfl) (by have := (show alen 33 = 8 from rfl); omega) dX6_bitsFor_53 ?_
        have hA53 : Rp (vM (mset Y 33 p (zI ((A 2 p : Nat) : Int)))) (setR B 2 p (A 2 p)) := Rp.setM2 (v := A 2 p) hAY (by omega)
        have hg53 : (mset Y 33 p (zI ((A 2 p : Nat) : Int))) 29 8 = zI ((0 : Nat) : Int) := by rw [mset_row (by omega)]; exact hgY
        have hFr53 : frT 1 X (mset Y 33 p (zI ((A 2 p : Nat) : Int))) := frT_set (r := 2) hFY (by omega)
        refine ev_iload (pc := 54) hC dX6_bitsFor_54 rfl ?_
        exact ev_ireturn (pc := 56) hC hR dX6_bitsFor_56 (⟨rv (by rw [hs, show v0 = 10 by omega]), (by have z := hA53; rw [hBs, setR_id] at z; exact z), hFr53⟩)
      · refine ev_aload_n (pc := 17) hC dX6_bitsFor_17 rfl ?_
        refine ev_iload_n (pc := 18) hC dX6_bitsFor_18 rfl ?_
        refine ev_iload (pc := 19) hC dX6_bitsFor_19 rfl ?_
        refine ev_iast (pc := 21) hC p (by decide) (by decide) (rfl) (by have := (show alen 33 = 8 from rfl); omega) dX6_bitsFor_21 ?_
        have hA21 : Rp (vM (mset Y 33 p (zI ((v0 : Nat) : Int)))) (setR B 2 p v0) := Rp.setM2 (v := v0) hAY (by omega)
        have hg21 : (mset Y 33 p (zI ((v0 : Nat) : Int))) 29 8 = zI ((0 : Nat) : Int) := by rw [mset_row (by omega)]; exact hgY
        have hFr21 : frT 1 X (mset Y 33 p (zI ((v0 : Nat) : Int))) := frT_set (r := 2) hFY (by omega)
        have h5b : setR B 2 p v0 5 0 = A 5 0 := hB5
        refine ev_iload (pc := 22) hC dX6_bitsFor_22 rfl ?_
        refine ev_aload_n (pc := 24) hC dX6_bitsFor_24 rfl ?_
        refine ev_iload_n (pc := 25) hC dX6_bitsFor_25 rfl ?_
        refine ev_callV (pc := 26) (as := [vi ((p : Nat) : Int)]) (rest := [vi ((s : Nat) : Int)]) hC gX6_bitsFor_X6_isSo mtX6_isSo dX6_bitsFor_26 (ru_X6_isSo hA21 hg21 hG (hW.frT hFr21) p (by omega) rfl) (by decide) (by decide) (by decide) rfl (by rfl) (Nat.le_of_ble_eq_true rfl) rfl (fun v26 X26 h26 => ?_)
        obtain ⟨rfl, hA26, hF26⟩ := h26
        show Ev K 29 [some (.ref 29), some (.ref 33), some (vi ((p : Nat) : Int)), some (vi 10), some (vi ((A 2 p : Nat) : Int)), some (vi ((s : Nat) : Int)), some (vi ((v0 : Nat) : Int))] [vi (b2i (allN rs (soB W p (setR B 2 p v0)))), vi ((s : Nat) : Int)] X26
        have hr26 := b2i_r (allN rs (soB W p (setR B 2 p v0)))
        have hg26 := frT_gone hF26 hg21
        have hFr26 := frT_tr hFr21 hF26 (by omega)
        have hn8_26 := hA26.n8
        refine ev_if_eq (pc := 29) hC 39 dX6_bitsFor_29 (by decide) (by omega) (fun c29 => ?_) (fun c29 => ?_)
        · have e29 := b2i_0 c29
          refine ev_iconst (pc := 39) hC dX6_bitsFor_39 ?_
          refine ev_ior (pc := 40) hC ((s ||| 0 : Nat) : Int) (zI_or s 0) dX6_bitsFor_40 ?_
          refine ev_istore (pc := 41) hC dX6_bitsFor_41 (by rw [hKn]; decide) rfl ?_
          show Ev K 43 [some (.ref 29), some (.ref 33), some (vi ((p : Nat) : Int)), some (vi 10), some (vi ((A 2 p : Nat) : Int)), some (vi ((s ||| 0 : Nat) : Int)), some (vi ((v0 : Nat) : Int))] [] X26
          refine ev_iinc (pc := 43) hC ((v0 + 1 : Nat) : Int) dX6_bitsFor_43 rfl (by omega) (by rw [hKn]; decide) rfl ?_
          show Ev K 46 [some (.ref 29), some (.ref 33), some (vi ((p : Nat) : Int)), some (vi 10), some (vi ((A 2 p : Nat) : Int)), some (vi ((s ||| 0 : Nat) : Int)), some (vi ((v0 + 1 : Nat) : Int))] [] X26
          refine ev_goto (pc := 46) hC 11 dX6_bitsFor_46 (by decide) ?_
          exact ih11 (v0 + 1) (s ||| 0) (setR B 2 p v0) X26 (by omega) (by omega) (by rw [Nat.or_zero]; exact bitsB_f (by rw [kd_eq (hBs v0)] at e29; exact e29) hs) hB5 (fun u => (setR_setR B 2 p v0 u).trans (hBs u)) hA26 hg26 hFr26
        · have e29 := b2i_1 c29
          refine ev_iconst (pc := 32) hC dX6_bitsFor_32 ?_
          refine ev_iload (pc := 33) hC dX6_bitsFor_33 rfl ?_
          refine ev_ishl (pc := 35) hC ((2 ^ v0 : Nat) : Int) (zI_shl1 v0 (by omega)) dX6_bitsFor_35 ?_
          refine ev_goto (pc := 36) hC 40 dX6_bitsFor_36 (by decide) ?_
          refine ev_ior (pc := 40) hC ((s ||| (2 ^ v0) : Nat) : Int) (zI_or s (2 ^ v0)) dX6_bitsFor_40 ?_
          refine ev_istore (pc := 41) hC dX6_bitsFor_41 (by rw [hKn]; decide) rfl ?_
          show Ev K 43 [some (.ref 29), some (.ref 33), some (vi ((p : Nat) : Int)), some (vi 10), some (vi ((A 2 p : Nat) : Int)), some (vi ((s ||| (2 ^ v0) : Nat) : Int)), some (vi ((v0 : Nat) : Int))] [] X26
          refine ev_iinc (pc := 43) hC ((v0 + 1 : Nat) : Int) dX6_bitsFor_43 rfl (by omega) (by rw [hKn]; decide) rfl ?_
          show Ev K 46 [some (.ref 29), some (.ref 33), some (vi ((p : Nat) : Int)), some (vi 10), some (vi ((A 2 p : Nat) : Int)), some (vi ((s ||| (2 ^ v0) : Nat) : Int)), some (vi ((v0 + 1 : Nat) : Int))] [] X26
          refine ev_goto (pc := 46) hC 11 dX6_bitsFor_46 (by decide) ?_
          exact ih11 (v0 + 1) (s ||| (2 ^ v0)) (setR B 2 p v0) X26 (by omega) (by omega) (bitsB_t (by rw [kd_eq (hBs v0)] at e29; exact e29) hs) hB5 (fun u => (setR_setR B 2 p v0 u).trans (hBs u)) hA26 hg26 hFr26
  exact lp11 _ 0 0 A X (Nat.lt_succ_self _) (by omega) rfl rfl (fun _ => rfl) hA hg (frT_rf 1 X)
theorem mtX6_whatIs : MT yX6_whatIs wsX6_whatIs cX6_whatIs 4 (some .int) 2 := ⟨⟨_, rfl⟩, by decide, by decide, by decide +kernel⟩
set_option maxRecDepth 100000 in
set_option maxHeartbeats 4000000 in
theorem ru_X6_whatIs {X : Mem} {V : St} (hV : mI X V) (x0 : Int) (hx0 : -2147483648 ≤ x0 ∧ x0 ≤ 2147483647) (x1 : Int) (hx1 : -2147483648 ≤ x1 ∧ x1 ≤ 2147483647) : Ru yX6_whatIs wsX6_whatIs 10 226 [.ref 29, vi x0, vi x1] X (fun v X' => v = some (vi (sp28 x0 x1 V).1) ∧ mI X' (sp28 x0 x1 V).2 ∧ frM X X') := by
  refine ru_of (w2 := _) rfl (by decide) [some (.ref 29), some (vi x0), some (vi x1), none] (fun _ => rfl) (fun _ => Nat.le_of_ble_eq_true rfl) ?_
  intro K hKn hC hR
  have wX6 : ∀ w ∈ u_ws RX6 TX6 25, w ∈ wsX6_whatIs := by decide +kernel
  have f16 : Fl K RX6 16 6 2 := fl_of hC RX6 TX6 25 rfl (by decide) wX6 (show Cond.fieldLink RX6 16 "PicnicOfSomebodyModel" "kind" "[I" ∈ _ by decide +kernel)
  have f19 : Fl K RX6 19 6 3 := fl_of hC RX6 TX6 25 rfl (by decide) wX6 (show Cond.fieldLink RX6 19 "PicnicOfSomebodyModel" "figure" "[I" ∈ _ by decide +kernel)
  obtain ⟨A, B, hh, T, n, W, rs, C⟩ := V
  have hA : Rp (vM X) A := hV.1
  have hyA : A 5 1 ≤ 999 := hV.2.1
  have hB : hh = true → Rp (vK X 0) B ∧ B 5 1 ≤ 999 := hV.2.2.1
  have hi : X 29 17 = zI (b2i hh) := hV.2.2.2.1
  have hg : X 29 8 = zI ((0 : Nat) : Int) := hV.2.2.2.2.1
  have hT : TxM X T n := hV.2.2.2.2.2.1
  have hW : RwM X W rs := hV.2.2.2.2.2.2.1
  have hCn : ∀ k, k < 7 → X 30 k = zI (C k : Nat) := hV.2.2.2.2.2.2.2
  have hn8 := hA.n8
  have hn96 := hT.2.1
  have hrs := hW.2.1
  have hG : 0 < 256 := by decide
  have hI : mI X (A, B, hh, T, n, W, rs, C) := hV
  have hq1 := cdP_cases A x0
  have hq2 := cdO_cases x1 2
  have hq3 := f3_cases (cdP A x0) (cdO x1 2) 0
  refine ev_aload_n (pc := 0) hC dX6_whatIs_0 rfl ?_
  refine ev_iload_n (pc := 1) hC dX6_whatIs_1 rfl ?_
  refine ev_callV (pc := 2) (as := [vi x0]) (rest := []) hC gX6_whatIs_X6_isOne mtX6_isOne dX6_whatIs_2 (ru_X6_isOne hA x0 (by omega)) (by decide) (by decide) (by decide) rfl (by rfl) (Nat.le_of_ble_eq_true rfl) rfl (fun v2 X2 h2 => ?_)
  obtain ⟨rfl, rfl⟩ := h2
  show Ev K 5 [some (.ref 29), some (vi x0), some (vi x1), none] [vi (b2i (decide (0 ≤ x0 ∧ x0 < (A 5 0 : Int))))] X
  have hr2 := b2i_r (decide (0 ≤ x0 ∧ x0 < (A 5 0 : Int)))
  refine ev_if_ne (pc := 5) hC 12 dX6_whatIs_5 (by decide) (by omega) (fun c5 => ?_) (fun c5 => ?_)
  · have e5 := of_decide_eq_true (b2i_1 c5)
    refine ev_iload_n (pc := 12) hC dX6_whatIs_12 rfl ?_
    refine ev_iconst (pc := 13) hC dX6_whatIs_13 ?_
    refine ev_iconst (pc := 14) hC dX6_whatIs_14 ?_
    refine ev_callS (pc := 15) (as := [vi x1, vi 0, vi 1]) (rest := []) hC gX6_whatIs_X6_isIn mtX6_isIn dX6_whatIs_15 (ru_X6_isIn x1 0 1 (by omega) (by omega) (by omega)) (by decide) (by rfl) (Nat.le_of_ble_eq_true rfl) rfl (fun v15 X15 h15 => ?_)
    obtain ⟨rfl, rfl⟩ := h15
    show Ev K 18 [some (.ref 29), some (vi x0), some (vi x1), none] [vi (b2i (decide (0 ≤ x1 ∧ x1 ≤ 1)))] X
    have hr15 := b2i_r (decide (0 ≤ x1 ∧ x1 ≤ 1))
    refine ev_if_ne (pc := 18) hC 26 dX6_whatIs_18 (by decide) (by omega) (fun c18 => ?_) (fun c18 => ?_)
    · have e18 := of_decide_eq_true (b2i_1 c18)
      refine ev_iconst (pc := 26) hC dX6_whatIs_26 ?_
      refine ev_istore_n (pc := 27) hC dX6_whatIs_27 (by rw [hKn]; decide) rfl ?_
      show Ev K 28 [some (.ref 29), some (vi x0), some (vi x1), some (vi 0)] [] X
      refine ev_iload_n (pc := 28) hC dX6_whatIs_28 rfl ?_
      refine ev_if_eq (pc := 29) hC 38 dX6_whatIs_29 (by decide) (by omega) (fun c29 => ?_) (fun c29 => absurd c29 (by decide))
      obtain ⟨p0, rfl⟩ : ∃ k : Nat, x0 = (k : Int) := ⟨x0.toNat, by omega⟩
      refine ev_iload_n (pc := 38) hC dX6_whatIs_38 rfl ?_
      refine ev_if_ne (pc := 39) hC 56 dX6_whatIs_39 (by decide) (by omega) (fun c39 => ?_) (fun c39 => ?_)
      · refine ev_aload_n (pc := 56) hC dX6_whatIs_56 rfl ?_
        refine ev_aload_n (pc := 57) hC dX6_whatIs_57 rfl ?_
        refine ev_getr (pc := 58) hC 33 f19 dX6_whatIs_58 (by decide) (by decide) (by decide) (by decide) (by decide) ?_
        refine ev_iload_n (pc := 61) hC dX6_whatIs_61 rfl ?_
        refine ev_bipush (pc := 62) hC dX6_whatIs_62 (by decide) ?_
        refine ev_callV (pc := 64) (as := [.ref 33, vi ((p0 : Nat) : Int), vi 10]) (rest := []) hC gX6_whatIs_X6_bitsFor mtX6_bitsFor dX6_whatIs_64 (ru_X6_bitsFor_2 hA hg hW p0 (by omega)) (by decide) (by decide) (by decide) rfl (by rfl) (Nat.le_of_ble_eq_true rfl) rfl (fun v64 X64 h64 => ?_)
        obtain ⟨rfl, hA64, hF64⟩ := h64
        show Ev K 67 [some (.ref 29), some (vi ((p0 : Nat) : Int)), some (vi x1), some (vi 0)] [vi ((bitsB 10 (kdP W rs 2 p0 A) : Nat) : Int)] X64
        have hg64 := frT_gone hF64 hg
        have hFr64 := frT_tr (frT_rf 1 X) hF64 (by omega)
        have hn8_64 := hA64.n8
        exact ev_ireturn (pc := 67) hC hR dX6_whatIs_67 (ok_endM (show f3 (cdP A ((p0 : Nat) : Int)) (cdO x1 2) 0 = 0 by omega) (by rw [if_neg c39]; first | done | rfl) (mI_put hI hA64 hyA hFr64) (frM_T hFr64))
      · refine ev_aload_n (pc := 42) hC dX6_whatIs_42 rfl ?_
        refine ev_aload_n (pc := 43) hC dX6_whatIs_43 rfl ?_
        refine ev_getr (pc := 44) hC 32 f16 dX6_whatIs_44 (by decide) (by decide) (by decide) (by decide) (by decide) ?_
        refine ev_iload_n (pc := 47) hC dX6_whatIs_47 rfl ?_
        refine ev_bipush (pc := 48) hC dX6_whatIs_48 (by decide) ?_
        refine ev_callV (pc := 50) (as := [.ref 32, vi ((p0 : Nat) : Int), vi 6]) (rest := []) hC gX6_whatIs_X6_bitsFor mtX6_bitsFor dX6_whatIs_50 (ru_X6_bitsFor_1 hA hg hW p0 (by omega)) (by decide) (by decide) (by decide) rfl (by rfl) (Nat.le_of_ble_eq_true rfl) rfl (fun v50 X50 h50 => ?_)
        obtain ⟨rfl, hA50, hF50⟩ := h50
        show Ev K 53 [some (.ref 29), some (vi ((p0 : Nat) : Int)), some (vi x1), some (vi 0)] [vi ((bitsB 6 (kdP W rs 1 p0 A) : Nat) : Int)] X50
        have hg50 := frT_gone hF50 hg
        have hFr50 := frT_tr (frT_rf 1 X) hF50 (by omega)
        have hn8_50 := hA50.n8
        refine ev_goto (pc := 53) hC 67 dX6_whatIs_53 (by decide) ?_
        exact ev_ireturn (pc := 67) hC hR dX6_whatIs_67 (ok_endM (show f3 (cdP A ((p0 : Nat) : Int)) (cdO x1 2) 0 = 0 by omega) (by rw [if_pos c39]; first | done | rfl) (mI_put hI hA50 hyA hFr50) (frM_T hFr50))
    · have e18 := of_decide_eq_false (b2i_0 c18)
      refine ev_bipush (pc := 21) hC dX6_whatIs_21 (by decide) ?_
      refine ev_goto (pc := 23) hC 27 dX6_whatIs_23 (by decide) ?_
      refine ev_istore_n (pc := 27) hC dX6_whatIs_27 (by rw [hKn]; decide) rfl ?_
      show Ev K 28 [some (.ref 29), some (vi x0), some (vi x1), some (vi (-2))] [] X
      refine ev_iload_n (pc := 28) hC dX6_whatIs_28 rfl ?_
      refine ev_if_eq (pc := 29) hC 38 dX6_whatIs_29 (by decide) (by omega) (fun c29 => absurd c29 (by decide)) (fun c29 => ?_)
      refine ev_aload_n (pc := 32) hC dX6_whatIs_32 rfl ?_
      refine ev_iload_n (pc := 33) hC dX6_whatIs_33 rfl ?_
      refine ev_callV (pc := 34) (as := [vi (-2)]) (rest := []) hC gX6_whatIs_X6_no mtX6_no dX6_whatIs_34 (ru_X6_no2 (-2) (by omega)) (by decide) (by decide) (by decide) rfl (by rfl) (Nat.le_of_ble_eq_true rfl) rfl (fun v34 X34 h34 => ?_)
      obtain ⟨rfl, rfl⟩ := h34
      show Ev K 37 [some (.ref 29), some (vi x0), some (vi x1), some (vi (-2))] [vi (-2)] (mset X 30 (-(-2)).toNat (X 30 (-(-2)).toNat + 1))
      exact ev_ireturn (pc := 37) hC hR dX6_whatIs_37 (no_endM (show f3 (cdP A x0) (cdO x1 2) 0 = (-2) by omega) (by omega) hI)
  · have e5 := of_decide_eq_false (b2i_0 c5)
    refine ev_iconst (pc := 8) hC dX6_whatIs_8 ?_
    refine ev_goto (pc := 9) hC 27 dX6_whatIs_9 (by decide) ?_
    refine ev_istore_n (pc := 27) hC dX6_whatIs_27 (by rw [hKn]; decide) rfl ?_
    show Ev K 28 [some (.ref 29), some (vi x0), some (vi x1), some (vi (-1))] [] X
    refine ev_iload_n (pc := 28) hC dX6_whatIs_28 rfl ?_
    refine ev_if_eq (pc := 29) hC 38 dX6_whatIs_29 (by decide) (by omega) (fun c29 => absurd c29 (by decide)) (fun c29 => ?_)
    refine ev_aload_n (pc := 32) hC dX6_whatIs_32 rfl ?_
    refine ev_iload_n (pc := 33) hC dX6_whatIs_33 rfl ?_
    refine ev_callV (pc := 34) (as := [vi (-1)]) (rest := []) hC gX6_whatIs_X6_no mtX6_no dX6_whatIs_34 (ru_X6_no2 (-1) (by omega)) (by decide) (by decide) (by decide) rfl (by rfl) (Nat.le_of_ble_eq_true rfl) rfl (fun v34 X34 h34 => ?_)
    obtain ⟨rfl, rfl⟩ := h34
    show Ev K 37 [some (.ref 29), some (vi x0), some (vi x1), some (vi (-1))] [vi (-1)] (mset X 30 (-(-1)).toNat (X 30 (-(-1)).toNat + 1))
    exact ev_ireturn (pc := 37) hC hR dX6_whatIs_37 (no_endM (show f3 (cdP A x0) (cdO x1 2) 0 = (-1) by omega) (by omega) hI)
theorem mtX6_who : MT yX6_who wsX6_who cX6_who 3 (some .int) 0 := ⟨⟨_, rfl⟩, by decide, by decide, by decide +kernel⟩
set_option maxRecDepth 100000 in
set_option maxHeartbeats 4000000 in
theorem ru_X6_who {X : Mem} {V : St} (hV : mI X V) : Ru yX6_who wsX6_who 9 199 [.ref 29] X (fun v X' => v = some (vi (sp29  V).1) ∧ mI X' (sp29  V).2 ∧ frM X X') := by
  refine ru_of (w2 := _) rfl (by decide) [some (.ref 29), none, none] (fun _ => rfl) (fun _ => Nat.le_of_ble_eq_true rfl) ?_
  intro K hKn hC hR
  have wX6 : ∀ w ∈ u_ws RX6 TX6 25, w ∈ wsX6_who := by decide +kernel
  have f52 : Fl K RX6 52 6 6 := fl_of hC RX6 TX6 25 rfl (by decide) wX6 (show Cond.fieldLink RX6 52 "PicnicOfSomebodyModel" "people" "I" ∈ _ by decide +kernel)
  have f59 : Fl K RX6 59 6 8 := fl_of hC RX6 TX6 25 rfl (by decide) wX6 (show Cond.fieldLink RX6 59 "PicnicOfSomebodyModel" "gone" "I" ∈ _ by decide +kernel)
  obtain ⟨A, B, hh, T, n, W, rs, C⟩ := V
  have hA : Rp (vM X) A := hV.1
  have hyA : A 5 1 ≤ 999 := hV.2.1
  have hB : hh = true → Rp (vK X 0) B ∧ B 5 1 ≤ 999 := hV.2.2.1
  have hi : X 29 17 = zI (b2i hh) := hV.2.2.2.1
  have hg : X 29 8 = zI ((0 : Nat) : Int) := hV.2.2.2.2.1
  have hT : TxM X T n := hV.2.2.2.2.2.1
  have hW : RwM X W rs := hV.2.2.2.2.2.2.1
  have hCn : ∀ k, k < 7 → X 30 k = zI (C k : Nat) := hV.2.2.2.2.2.2.2
  have hn8 := hA.n8
  have hn96 := hT.2.1
  have hrs := hW.2.1
  have hG : 0 < 256 := by decide
  have hI : mI X (A, B, hh, T, n, W, rs, C) := hV
  refine ev_iconst (pc := 0) hC dX6_who_0 ?_
  refine ev_istore_n (pc := 1) hC dX6_who_1 (by rw [hKn]; decide) rfl ?_
  show Ev K 2 [some (.ref 29), some (vi 0), none] [] X
  refine ev_iconst (pc := 2) hC dX6_who_2 ?_
  refine ev_istore_n (pc := 3) hC dX6_who_3 (by rw [hKn]; decide) rfl ?_
  show Ev K 4 [some (.ref 29), some (vi 0), some (vi 0)] [] X
  have lp4 : ∀ (fz : Nat) (i : Nat) (s : Nat) (Y : Mem), A 5 0 - i < fz → (i ≤ A 5 0) → (s = bitsB i (whP W rs A)) → (Rp (vM Y) A) → (frW 1 X Y) → Ev K 4 [some (.ref 29), some (vi ((s : Nat) : Int)), some (vi ((i : Nat) : Int))] [] Y := by
    intro fz
    induction fz with
    | zero => intro i s Y hfz; exact absurd hfz (Nat.not_lt_zero _)
    | succ fz ih4 =>
      intro i s Y hfz hi2 hs hAY hFY
      refine ev_iload_n (pc := 4) hC dX6_who_4 rfl ?_
      refine ev_aload_n (pc := 5) hC dX6_who_5 rfl ?_
      refine ev_geti (pc := 6) hC ((A 5 0 : Nat) : Int) f52 dX6_who_6 (by decide) (by decide) (by decide) (by decide) (by decide)  (hAY.mn) ?_
      refine ev_icmp_ge (pc := 9) hC 42 dX6_who_9 (by decide) (by omega) (by omega) (fun c9 => ?_) (fun c9 => ?_)
      · refine ev_aload_n (pc := 42) hC dX6_who_42 rfl ?_
        refine ev_iconst (pc := 43) hC dX6_who_43 ?_
        refine ev_puti (pc := 44) hC f59 fpX6_8 dX6_who_44 (by decide) (by decide) (by decide) (by decide) (by decide) (rfl) (rfl) ?_
        have hA46 : Rp (vM (mset Y 29 8 (zI 0))) A := hAY.keepM (by rw [mset_ne _ _ _ _ (by omega)]) (by rw [mset_ne _ _ _ _ (by omega)]) (fun q hq => by rw [mset_row (by omega)])
        have hg46 : (mset Y 29 8 (zI 0)) 29 8 = zI ((0 : Nat) : Int) := mset_eq _ _ _ _
        have hFr46 : frW 1 X (mset Y 29 8 (zI 0)) := frW_29 hFY (Or.inl rfl)
        refine ev_iload_n (pc := 47) hC dX6_who_47 rfl ?_
        exact ev_ireturn (pc := 48) hC hR dX6_who_48 (⟨rv (by rw [hs, show i = A 5 0 by omega]; first | done | rfl), (mI_W hI hA46 hg46 hFr46), (frM_W hFr46)⟩)
      · refine ev_aload_n (pc := 12) hC dX6_who_12 rfl ?_
        refine ev_iconst (pc := 13) hC dX6_who_13 ?_
        refine ev_iload_n (pc := 14) hC dX6_who_14 rfl ?_
        refine ev_ishl (pc := 15) hC ((2 ^ i : Nat) : Int) (zI_shl1 i (by omega)) dX6_who_15 ?_
        refine ev_puti (pc := 16) hC f59 fpX6_8 dX6_who_16 (by decide) (by decide) (by decide) (by decide) (by decide) (rfl) (rfl) ?_
        have hA18 : Rp (vM (mset Y 29 8 (zI ((2 ^ i : Nat) : Int)))) A := hAY.keepM (by rw [mset_ne _ _ _ _ (by omega)]) (by rw [mset_ne _ _ _ _ (by omega)]) (fun q hq => by rw [mset_row (by omega)])
        have hg18 : (mset Y 29 8 (zI ((2 ^ i : Nat) : Int))) 29 8 = zI (((2 ^ i) : Nat) : Int) := mset_eq _ _ _ _
        have hFr18 : frW 1 X (mset Y 29 8 (zI ((2 ^ i : Nat) : Int))) := frW_29 hFY (Or.inl rfl)
        refine ev_iload_n (pc := 19) hC dX6_who_19 rfl ?_
        refine ev_aload_n (pc := 20) hC dX6_who_20 rfl ?_
        refine ev_callV (pc := 21) (as := []) (rest := [vi ((s : Nat) : Int)]) hC gX6_who_X6_areSoMany mtX6_areSoMany dX6_who_21 (ru_X6_areSoMany hA18 hg18 (pow_lt8 (show i < 8 by omega)) (hW.frW hFr18)) (by decide) (by decide) (by decide) rfl (by rfl) (Nat.le_of_ble_eq_true rfl) rfl (fun v21 X21 h21 => ?_)
        obtain ⟨rfl, hA21, hF21⟩ := h21
        show Ev K 24 [some (.ref 29), some (vi ((s : Nat) : Int)), some (vi ((i : Nat) : Int))] [vi (b2i (allN rs (fun k => decide (W k = bcnt (2 ^ i) (goN (2 ^ i) k A))))), vi ((s : Nat) : Int)] X21
        have hr21 := b2i_r (allN rs (fun k => decide (W k = bcnt (2 ^ i) (goN (2 ^ i) k A))))
        have hFr21 := frW_tr hFr18 hF21 (by omega)
        have hg21 := frT_gone hF21 hg18
        refine ev_if_eq (pc := 24) hC 33 dX6_who_24 (by decide) (by omega) (fun c24 => ?_) (fun c24 => ?_)
        · have e24 := b2i_0 c24
          refine ev_iconst (pc := 33) hC dX6_who_33 ?_
          refine ev_ior (pc := 34) hC ((s ||| 0 : Nat) : Int) (zI_or s 0) dX6_who_34 ?_
          refine ev_istore_n (pc := 35) hC dX6_who_35 (by rw [hKn]; decide) rfl ?_
          show Ev K 36 [some (.ref 29), some (vi ((s ||| 0 : Nat) : Int)), some (vi ((i : Nat) : Int))] [] X21
          refine ev_iinc (pc := 36) hC ((i + 1 : Nat) : Int) dX6_who_36 rfl (by omega) (by rw [hKn]; decide) rfl ?_
          show Ev K 39 [some (.ref 29), some (vi ((s ||| 0 : Nat) : Int)), some (vi ((i + 1 : Nat) : Int))] [] X21
          refine ev_goto (pc := 39) hC 4 dX6_who_39 (by decide) ?_
          exact ih4 (i + 1) (s ||| 0) X21 (by omega) (by omega) (by rw [Nat.or_zero]; exact bitsB_f (by rw [who_eq] at e24; exact e24) hs) hA21 hFr21
        · have e24 := b2i_1 c24
          refine ev_iconst (pc := 27) hC dX6_who_27 ?_
          refine ev_iload_n (pc := 28) hC dX6_who_28 rfl ?_
          refine ev_ishl (pc := 29) hC ((2 ^ i : Nat) : Int) (zI_shl1 i (by omega)) dX6_who_29 ?_
          refine ev_goto (pc := 30) hC 34 dX6_who_30 (by decide) ?_
          refine ev_ior (pc := 34) hC ((s ||| (2 ^ i) : Nat) : Int) (zI_or s (2 ^ i)) dX6_who_34 ?_
          refine ev_istore_n (pc := 35) hC dX6_who_35 (by rw [hKn]; decide) rfl ?_
          show Ev K 36 [some (.ref 29), some (vi ((s ||| (2 ^ i) : Nat) : Int)), some (vi ((i : Nat) : Int))] [] X21
          refine ev_iinc (pc := 36) hC ((i + 1 : Nat) : Int) dX6_who_36 rfl (by omega) (by rw [hKn]; decide) rfl ?_
          show Ev K 39 [some (.ref 29), some (vi ((s ||| (2 ^ i) : Nat) : Int)), some (vi ((i + 1 : Nat) : Int))] [] X21
          refine ev_goto (pc := 39) hC 4 dX6_who_39 (by decide) ?_
          exact ih4 (i + 1) (s ||| (2 ^ i)) X21 (by omega) (by omega) (bitsB_t (by rw [who_eq] at e24; exact e24) hs) hA21 hFr21
  exact lp4 _ 0 0 X (Nat.lt_succ_self _) (by omega) rfl hA (frW_rf 1 X)
theorem mtX6_judge : MT yX6_judge wsX6_judge cX6_judge 4 (some .int) 0 := ⟨⟨_, rfl⟩, by decide, by decide, by decide +kernel⟩
set_option maxRecDepth 100000 in
set_option maxHeartbeats 4000000 in
theorem ru_X6_judge {X : Mem} {V : St} (hV : mI X V) : Ru yX6_judge wsX6_judge 8 177 [.ref 29] X (fun v X' => v = some (vi (sp31  V).1) ∧ mI X' (sp31  V).2 ∧ frM X X') := by
  refine ru_of (w2 := _) rfl (by decide) [some (.ref 29), none, none, none] (fun _ => rfl) (fun _ => Nat.le_of_ble_eq_true rfl) ?_
  intro K hKn hC hR
  have wX6 : ∀ w ∈ u_ws RX6 TX6 25, w ∈ wsX6_judge := by decide +kernel
  have f266 : Fl K RX6 266 6 23 := fl_of hC RX6 TX6 25 rfl (by decide) wX6 (show Cond.fieldLink RX6 266 "PicnicOfSomebodyModel" "rowMany" "I" ∈ _ by decide +kernel)
  have f49 : Fl K RX6 49 6 22 := fl_of hC RX6 TX6 25 rfl (by decide) wX6 (show Cond.fieldLink RX6 49 "PicnicOfSomebodyModel" "row" "[I" ∈ _ by decide +kernel)
  obtain ⟨A, B, hh, T, n, W, rs, C⟩ := V
  have hA : Rp (vM X) A := hV.1
  have hyA : A 5 1 ≤ 999 := hV.2.1
  have hB : hh = true → Rp (vK X 0) B ∧ B 5 1 ≤ 999 := hV.2.2.1
  have hi : X 29 17 = zI (b2i hh) := hV.2.2.2.1
  have hg : X 29 8 = zI ((0 : Nat) : Int) := hV.2.2.2.2.1
  have hT : TxM X T n := hV.2.2.2.2.2.1
  have hW : RwM X W rs := hV.2.2.2.2.2.2.1
  have hCn : ∀ k, k < 7 → X 30 k = zI (C k : Nat) := hV.2.2.2.2.2.2.2
  have hn8 := hA.n8
  have hn96 := hT.2.1
  have hrs := hW.2.1
  have hG : 0 < 256 := by decide
  have hI : mI X (A, B, hh, T, n, W, rs, C) := hV
  refine ev_aload_n (pc := 0) hC dX6_judge_0 rfl ?_
  refine ev_geti (pc := 1) hC ((rs : Nat) : Int) f266 dX6_judge_1 (by decide) (by decide) (by decide) (by decide) (by decide)  (hW.1) ?_
  refine ev_istore_n (pc := 4) hC dX6_judge_4 (by rw [hKn]; decide) rfl ?_
  show Ev K 5 [some (.ref 29), some (vi ((rs : Nat) : Int)), none, none] [] X
  refine ev_aload_n (pc := 5) hC dX6_judge_5 rfl ?_
  refine ev_iconst (pc := 6) hC dX6_judge_6 ?_
  refine ev_puti (pc := 7) hC f266 fpX6_23 dX6_judge_7 (by decide) (by decide) (by decide) (by decide) (by decide) (rfl) (rfl) ?_
  have hA7 : Rp (vM (mset X 29 23 (zI 0))) A := hA.keepM (by rw [mset_ne _ _ _ _ (by omega)]) (by rw [mset_ne _ _ _ _ (by omega)]) (fun q hq => by rw [mset_row (by omega)])
  have hg7 : (mset X 29 23 (zI 0)) 29 8 = zI ((0 : Nat) : Int) := by rw [mset_ne _ _ _ _ (by omega)]; exact hg
  have hwk : ∀ k, k < rs → (mset X 29 23 (zI 0)) 43 k = zI (W k : Nat) ∧ W k ≤ 99 := fun k hk => by rw [mset_row (by omega)]; exact hW.2.2 k hk
  refine ev_aload_n (pc := 10) hC dX6_judge_10 rfl ?_
  refine ev_callV (pc := 11) (as := []) (rest := []) hC gX6_judge_X6_thinks mtX6_thinks dX6_judge_11 (ru_X6_thinks) (by decide) (by decide) (by decide) rfl (by rfl) (Nat.le_of_ble_eq_true rfl) rfl (fun v11 X11 h11 => ?_)
  obtain ⟨rfl, hS11⟩ := h11
  show Ev K 14 [some (.ref 29), some (vi ((rs : Nat) : Int)), none, none] [] X11
  have hF11 := ks_fr hS11
  have hA11 := ks_repM hS11 hA7
  have hk2_11 := ks_rep hS11 hA7
  have hg11 := frT_gone hF11 hg7
  have hFr11 := frT_tr (frT_rf 1 (mset X 29 23 (zI 0))) hF11 (by omega)
  have hn8_11 := hA11.n8
  refine ev_bipush (pc := 14) hC dX6_judge_14 (by decide) ?_
  refine ev_istore_n (pc := 16) hC dX6_judge_16 (by rw [hKn]; decide) rfl ?_
  show Ev K 17 [some (.ref 29), some (vi ((rs : Nat) : Int)), some (vi (-9)), none] [] X11
  refine ev_iconst (pc := 17) hC dX6_judge_17 ?_
  refine ev_istore_n (pc := 18) hC dX6_judge_18 (by rw [hKn]; decide) rfl ?_
  show Ev K 19 [some (.ref 29), some (vi ((rs : Nat) : Int)), some (vi (-9)), some (vi 0)] [] X11
  have lp19 : ∀ (fz : Nat) (k : Nat) (z : Int) (Y : Mem), rs - k < fz → (k ≤ rs) → ((z = -9 ∧ ∀ j, j < k → (jdP W A) j = false) ∨ (0 ≤ z ∧ z = firstB (jdP W A) rs)) → (-9 ≤ z ∧ z < 16) → (Rp (vM Y) (goN 0 k A)) → (Y 29 8 = zI ((0 : Nat) : Int)) → (frT 1 (mset X 29 23 (zI 0)) Y) → (Rp (vK Y 2) A) → Ev K 19 [some (.ref 29), some (vi ((rs : Nat) : Int)), some (vi z), some (vi ((k : Nat) : Int))] [] Y := by
    intro fz
    induction fz with
    | zero => intro k z Y hfz; exact absurd hfz (Nat.not_lt_zero _)
    | succ fz ih19 =>
      intro k z Y hfz hk hz hzr hAY hgY hFY hK2Y
      have hY8 := hAY.n8
      refine ev_iload_n (pc := 19) hC dX6_judge_19 rfl ?_
      refine ev_iload_n (pc := 20) hC dX6_judge_20 rfl ?_
      refine ev_icmp_ge (pc := 21) hC 59 dX6_judge_21 (by decide) (by omega) (by omega) (fun c21 => ?_) (fun c21 => ?_)
      · refine ev_aload_n (pc := 59) hC dX6_judge_59 rfl ?_
        refine ev_callV (pc := 60) (as := []) (rest := []) hC gX6_judge_X6_forgets mtX6_forgets dX6_judge_60 (ru_X6_forgets) (by decide) (by decide) (by decide) rfl (by rfl) (Nat.le_of_ble_eq_true rfl) rfl (fun v60 X60 h60 => ?_)
        obtain ⟨rfl, hS60⟩ := h60
        show Ev K 63 [some (.ref 29), some (vi ((rs : Nat) : Int)), some (vi z), some (vi ((k : Nat) : Int))] [] X60
        have hF60 := ps_fr hS60
        have hA60 := ps_rep hS60 hK2Y
        have hg60 := frT_gone hF60 hgY
        have hk2_60 := hK2Y.keepK hF60 (by omega)
        have hFr60 := frT_tr hFY hF60 (by omega)
        have hn8_60 := hA60.n8
        refine ev_iload_n (pc := 63) hC dX6_judge_63 rfl ?_
        exact ev_ireturn (pc := 64) hC hR dX6_judge_64 (⟨rv (by rcases hz with h | h; rw [h.1]; exact (firstB_none (P := (jdP W A)) (m := rs) (fun j hj => h.2 j (by omega))).symm; exact h.2), (mI_jd hI hA60 hFr60), (frM_jd hFr60)⟩)
      · refine ev_iload_n (pc := 24) hC dX6_judge_24 rfl ?_
        refine ev_if_ge (pc := 25) hC 59 dX6_judge_25 (by decide) (by omega) (fun c25 => ?_) (fun c25 => ?_)
        · refine ev_aload_n (pc := 59) hC dX6_judge_59 rfl ?_
          refine ev_callV (pc := 60) (as := []) (rest := []) hC gX6_judge_X6_forgets mtX6_forgets dX6_judge_60 (ru_X6_forgets) (by decide) (by decide) (by decide) rfl (by rfl) (Nat.le_of_ble_eq_true rfl) rfl (fun v60 X60 h60 => ?_)
          obtain ⟨rfl, hS60⟩ := h60
          show Ev K 63 [some (.ref 29), some (vi ((rs : Nat) : Int)), some (vi z), some (vi ((k : Nat) : Int))] [] X60
          have hF60 := ps_fr hS60
          have hA60 := ps_rep hS60 hK2Y
          have hg60 := frT_gone hF60 hgY
          have hk2_60 := hK2Y.keepK hF60 (by omega)
          have hFr60 := frT_tr hFY hF60 (by omega)
          have hn8_60 := hA60.n8
          refine ev_iload_n (pc := 63) hC dX6_judge_63 rfl ?_
          exact ev_ireturn (pc := 64) hC hR dX6_judge_64 (⟨rv (by rcases hz with h | h; exact absurd h.1 (by omega); exact h.2), (mI_jd hI hA60 hFr60), (frM_jd hFr60)⟩)
        · have hno : ∀ j, j < k → (jdP W A) j = false := by rcases hz with h | h; exact h.2; exact absurd h.1 (by omega)
          refine ev_aload_n (pc := 28) hC dX6_judge_28 rfl ?_
          refine ev_callV (pc := 29) (as := []) (rest := []) hC gX6_judge_X6_here mtX6_here dX6_judge_29 (ru_X6_here hAY) (by decide) (by decide) (by decide) rfl (by rfl) (Nat.le_of_ble_eq_true rfl) rfl (fun v29 X29 h29 => ?_)
          obtain ⟨rfl, rfl⟩ := h29
          show Ev K 32 [some (.ref 29), some (vi ((rs : Nat) : Int)), some (vi z), some (vi ((k : Nat) : Int))] [vi ((here (goN 0 k A) : Nat) : Int)] Y
          have hh29 := here_lt (goN 0 k A)
          refine ev_aload_n (pc := 32) hC dX6_judge_32 rfl ?_
          refine ev_getr (pc := 33) hC 43 f49 dX6_judge_33 (by decide) (by decide) (by decide) (by decide) (by decide) ?_
          refine ev_iload_n (pc := 36) hC dX6_judge_36 rfl ?_
          have hw37 := (hwk k (by omega)).2
          refine ev_iald (pc := 37) hC k ((W k : Nat) : Int) (by decide) (by decide) (rfl) (by have := (show alen 43 = 16 from rfl); omega) ((by rw [hFY.1 43 (by omega) (by omega) (by omega) (by omega)]; exact (hwk k (by omega)).1)) dX6_judge_37 ?_
          refine ev_icmp_ne (pc := 38) hC 46 dX6_judge_38 (by decide) (by omega) (by omega) (fun c38 => ?_) (fun c38 => ?_)
          · refine ev_iload_n (pc := 46) hC dX6_judge_46 rfl ?_
            refine ev_istore_n (pc := 47) hC dX6_judge_47 (by rw [hKn]; decide) rfl ?_
            show Ev K 48 [some (.ref 29), some (vi ((rs : Nat) : Int)), some (vi ((k : Nat) : Int)), some (vi ((k : Nat) : Int))] [] Y
            refine ev_aload_n (pc := 48) hC dX6_judge_48 rfl ?_
            refine ev_iconst (pc := 49) hC dX6_judge_49 ?_
            refine ev_callV (pc := 50) (as := [vi 0]) (rest := []) hC gX6_judge_X6_goesYear mtX6_goesYear dX6_judge_50 (ru_X6_goesYear hAY hgY hG false) (by decide) (by decide) (by decide) rfl (by rfl) (Nat.le_of_ble_eq_true rfl) rfl (fun v50 X50 h50 => ?_)
            obtain ⟨rfl, hA50, hF50⟩ := h50
            show Ev K 53 [some (.ref 29), some (vi ((rs : Nat) : Int)), some (vi ((k : Nat) : Int)), some (vi ((k : Nat) : Int))] [] X50
            have hg50 := frT_gone hF50 hgY
            have hk2_50 := hK2Y.keepK hF50 (by omega)
            have hFr50 := frT_tr hFY hF50 (by omega)
            have hn8_50 := hA50.n8
            refine ev_iinc (pc := 53) hC ((k + 1 : Nat) : Int) dX6_judge_53 rfl (by omega) (by rw [hKn]; decide) rfl ?_
            show Ev K 56 [some (.ref 29), some (vi ((rs : Nat) : Int)), some (vi ((k : Nat) : Int)), some (vi ((k + 1 : Nat) : Int))] [] X50
            refine ev_goto (pc := 56) hC 19 dX6_judge_56 (by decide) ?_
            exact ih19 (k + 1) ((k : Nat) : Int) X50 (by omega) (by omega) (Or.inr ⟨by omega, (firstB_hit (P := (jdP W A)) hno (decide_eq_true (by omega)) (by omega)).symm⟩) (by omega) hA50 hg50 hFr50 hk2_50
          · refine ev_bipush (pc := 41) hC dX6_judge_41 (by decide) ?_
            refine ev_goto (pc := 43) hC 47 dX6_judge_43 (by decide) ?_
            refine ev_istore_n (pc := 47) hC dX6_judge_47 (by rw [hKn]; decide) rfl ?_
            show Ev K 48 [some (.ref 29), some (vi ((rs : Nat) : Int)), some (vi (-9)), some (vi ((k : Nat) : Int))] [] Y
            refine ev_aload_n (pc := 48) hC dX6_judge_48 rfl ?_
            refine ev_iconst (pc := 49) hC dX6_judge_49 ?_
            refine ev_callV (pc := 50) (as := [vi 0]) (rest := []) hC gX6_judge_X6_goesYear mtX6_goesYear dX6_judge_50 (ru_X6_goesYear hAY hgY hG false) (by decide) (by decide) (by decide) rfl (by rfl) (Nat.le_of_ble_eq_true rfl) rfl (fun v50 X50 h50 => ?_)
            obtain ⟨rfl, hA50, hF50⟩ := h50
            show Ev K 53 [some (.ref 29), some (vi ((rs : Nat) : Int)), some (vi (-9)), some (vi ((k : Nat) : Int))] [] X50
            have hg50 := frT_gone hF50 hgY
            have hk2_50 := hK2Y.keepK hF50 (by omega)
            have hFr50 := frT_tr hFY hF50 (by omega)
            have hn8_50 := hA50.n8
            refine ev_iinc (pc := 53) hC ((k + 1 : Nat) : Int) dX6_judge_53 rfl (by omega) (by rw [hKn]; decide) rfl ?_
            show Ev K 56 [some (.ref 29), some (vi ((rs : Nat) : Int)), some (vi (-9)), some (vi ((k + 1 : Nat) : Int))] [] X50
            refine ev_goto (pc := 56) hC 19 dX6_judge_56 (by decide) ?_
            exact ih19 (k + 1) (-9) X50 (by omega) (by omega) (Or.inl ⟨rfl, nostep hno (decide_eq_false (fun z => z (by omega)))⟩) (by omega) hA50 hg50 hFr50 hk2_50
  exact lp19 _ 0 (-9) X11 (Nat.lt_succ_self _) (by omega) (Or.inl ⟨rfl, fun k hk => absurd hk (Nat.not_lt_zero k)⟩) (by omega) hA11 hg11 hFr11 hk2_11
