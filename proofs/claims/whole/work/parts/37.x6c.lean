theorem mtX6_notYears : MT yX6_notYears wsX6_notYears cX6_notYears 1 (some .int) 1 := ⟨⟨_, rfl⟩, by decide, by decide, by decide +kernel⟩
set_option maxRecDepth 100000 in
set_option maxHeartbeats 4000000 in
theorem ru_X6_notYears {X : Mem} (x : Int) (hx : -2147483648 ≤ x ∧ x ≤ 2147483647) : Ru yX6_notYears wsX6_notYears 1 22 [vi x] X (fun v X' => v = some (vi (bnd x 0 60)) ∧ X = X') := by
  refine ru_of (w2 := _) rfl (by decide) [some (vi x)] (fun _ => rfl) (fun _ => Nat.le_of_ble_eq_true rfl) ?_
  intro K hKn hC hR
  refine ev_iload_n (pc := 0) hC dX6_notYears_0 rfl ?_
  refine ev_iconst (pc := 1) hC dX6_notYears_1 ?_
  refine ev_bipush (pc := 2) hC dX6_notYears_2 (by decide) ?_
  refine ev_callS (pc := 4) (as := [vi x, vi 0, vi 60]) (rest := []) hC gX6_notYears_X6_bound mtX6_bound dX6_notYears_4 (ru_X6_bound x 0 60 (by omega) (by omega) (by omega)) (by decide) (by rfl) (Nat.le_of_ble_eq_true rfl) rfl (fun v4 X4 h4 => ?_)
  obtain ⟨rfl, rfl⟩ := h4
  show Ev K 7 [some (vi x)] [vi (bnd x 0 60)] X
  have hbd4 := bnd_cases x 0 60
  exact ev_ireturn (pc := 7) hC hR dX6_notYears_7 (⟨rfl, rfl⟩)
theorem mtX6_notShort : MT yX6_notShort wsX6_notShort cX6_notShort 1 (some .int) 1 := ⟨⟨_, rfl⟩, by decide, by decide, by decide +kernel⟩
set_option maxRecDepth 100000 in
set_option maxHeartbeats 4000000 in
theorem ru_X6_notShort {X : Mem} (x : Int) (hx : -2147483648 ≤ x ∧ x ≤ 2147483647) : Ru yX6_notShort wsX6_notShort 1 22 [vi x] X (fun v X' => v = some (vi (bnd x 0 20)) ∧ X = X') := by
  refine ru_of (w2 := _) rfl (by decide) [some (vi x)] (fun _ => rfl) (fun _ => Nat.le_of_ble_eq_true rfl) ?_
  intro K hKn hC hR
  refine ev_iload_n (pc := 0) hC dX6_notShort_0 rfl ?_
  refine ev_iconst (pc := 1) hC dX6_notShort_1 ?_
  refine ev_bipush (pc := 2) hC dX6_notShort_2 (by decide) ?_
  refine ev_callS (pc := 4) (as := [vi x, vi 0, vi 20]) (rest := []) hC gX6_notShort_X6_bound mtX6_bound dX6_notShort_4 (ru_X6_bound x 0 20 (by omega) (by omega) (by omega)) (by decide) (by rfl) (Nat.le_of_ble_eq_true rfl) rfl (fun v4 X4 h4 => ?_)
  obtain ⟨rfl, rfl⟩ := h4
  show Ev K 7 [some (vi x)] [vi (bnd x 0 20)] X
  have hbd4 := bnd_cases x 0 20
  exact ev_ireturn (pc := 7) hC hR dX6_notShort_7 (⟨rfl, rfl⟩)
theorem mtX6_adds : MT yX6_adds wsX6_adds cX6_adds 5 none 4 := ⟨⟨_, rfl⟩, by decide, by decide, by decide +kernel⟩
set_option maxRecDepth 100000 in
set_option maxHeartbeats 4000000 in
theorem ru_X6_adds {X : Mem} {A : Sl} (hA : Rp (vM X) A) (kd fg ce bl : Nat) (h1 : kd ≤ 5) (h2 : fg ≤ 9) (h3 : ce < 25) (h4 : bl ≤ 9) (hlt : A 5 0 < 8) : Ru yX6_adds wsX6_adds 0 0 [.ref 29, vi ((kd : Nat) : Int), vi ((fg : Nat) : Int), vi ((ce : Nat) : Int), vi ((bl : Nat) : Int)] X (fun v X' => v = none ∧ Rp (vM X') (addP A kd fg ce bl) ∧ frT 3 X X') := by
  refine ru_of (w2 := _) rfl (by decide) [some (.ref 29), some (vi ((kd : Nat) : Int)), some (vi ((fg : Nat) : Int)), some (vi ((ce : Nat) : Int)), some (vi ((bl : Nat) : Int))] (fun _ => rfl) (fun _ => Nat.le_of_ble_eq_true rfl) ?_
  intro K hKn hC hR
  have wX6 : ∀ w ∈ u_ws RX6 TX6 25, w ∈ wsX6_adds := by decide +kernel
  have f16 : Fl K RX6 16 6 2 := fl_of hC RX6 TX6 25 rfl (by decide) wX6 (show Cond.fieldLink RX6 16 "PicnicOfSomebodyModel" "kind" "[I" ∈ _ by decide +kernel)
  have f52 : Fl K RX6 52 6 6 := fl_of hC RX6 TX6 25 rfl (by decide) wX6 (show Cond.fieldLink RX6 52 "PicnicOfSomebodyModel" "people" "I" ∈ _ by decide +kernel)
  have f19 : Fl K RX6 19 6 3 := fl_of hC RX6 TX6 25 rfl (by decide) wX6 (show Cond.fieldLink RX6 19 "PicnicOfSomebodyModel" "figure" "[I" ∈ _ by decide +kernel)
  have f22 : Fl K RX6 22 6 4 := fl_of hC RX6 TX6 25 rfl (by decide) wX6 (show Cond.fieldLink RX6 22 "PicnicOfSomebodyModel" "cell" "[I" ∈ _ by decide +kernel)
  have f25 : Fl K RX6 25 6 5 := fl_of hC RX6 TX6 25 rfl (by decide) wX6 (show Cond.fieldLink RX6 25 "PicnicOfSomebodyModel" "belief" "[I" ∈ _ by decide +kernel)
  have hn8 := hA.n8
  refine ev_aload_n (pc := 0) hC dX6_adds_0 rfl ?_
  refine ev_getr (pc := 1) hC 32 f16 dX6_adds_1 (by decide) (by decide) (by decide) (by decide) (by decide) ?_
  refine ev_aload_n (pc := 4) hC dX6_adds_4 rfl ?_
  refine ev_geti (pc := 5) hC ((A 5 0 : Nat) : Int) f52 dX6_adds_5 (by decide) (by decide) (by decide) (by decide) (by decide)  ((by exact hA.mn)) ?_
  refine ev_iload_n (pc := 8) hC dX6_adds_8 rfl ?_
  refine ev_iast (pc := 9) hC (A 5 0) (by decide) (by decide) (rfl) (by have := (show alen 32 = 8 from rfl); omega) dX6_adds_9 ?_
  refine ev_aload_n (pc := 10) hC dX6_adds_10 rfl ?_
  refine ev_getr (pc := 11) hC 33 f19 dX6_adds_11 (by decide) (by decide) (by decide) (by decide) (by decide) ?_
  refine ev_aload_n (pc := 14) hC dX6_adds_14 rfl ?_
  refine ev_geti (pc := 15) hC ((A 5 0 : Nat) : Int) f52 dX6_adds_15 (by decide) (by decide) (by decide) (by decide) (by decide)  ((by rw [mset_row (by omega)]; exact hA.mn)) ?_
  refine ev_iload_n (pc := 18) hC dX6_adds_18 rfl ?_
  refine ev_iast (pc := 19) hC (A 5 0) (by decide) (by decide) (rfl) (by have := (show alen 33 = 8 from rfl); omega) dX6_adds_19 ?_
  refine ev_aload_n (pc := 20) hC dX6_adds_20 rfl ?_
  refine ev_getr (pc := 21) hC 34 f22 dX6_adds_21 (by decide) (by decide) (by decide) (by decide) (by decide) ?_
  refine ev_aload_n (pc := 24) hC dX6_adds_24 rfl ?_
  refine ev_geti (pc := 25) hC ((A 5 0 : Nat) : Int) f52 dX6_adds_25 (by decide) (by decide) (by decide) (by decide) (by decide)  ((by rw [mset_row (by omega), mset_row (by omega)]; exact hA.mn)) ?_
  refine ev_iload_n (pc := 28) hC dX6_adds_28 rfl ?_
  refine ev_iast (pc := 29) hC (A 5 0) (by decide) (by decide) (rfl) (by have := (show alen 34 = 8 from rfl); omega) dX6_adds_29 ?_
  refine ev_aload_n (pc := 30) hC dX6_adds_30 rfl ?_
  refine ev_getr (pc := 31) hC 35 f25 dX6_adds_31 (by decide) (by decide) (by decide) (by decide) (by decide) ?_
  refine ev_aload_n (pc := 34) hC dX6_adds_34 rfl ?_
  refine ev_geti (pc := 35) hC ((A 5 0 : Nat) : Int) f52 dX6_adds_35 (by decide) (by decide) (by decide) (by decide) (by decide)  ((by rw [mset_row (by omega), mset_row (by omega), mset_row (by omega)]; exact hA.mn)) ?_
  refine ev_iload (pc := 38) hC dX6_adds_38 rfl ?_
  refine ev_iast (pc := 40) hC (A 5 0) (by decide) (by decide) (rfl) (by have := (show alen 35 = 8 from rfl); omega) dX6_adds_40 ?_
  refine ev_aload_n (pc := 41) hC dX6_adds_41 rfl ?_
  refine ev_dup (pc := 42) hC rfl dX6_adds_42 ?_
  refine ev_geti (pc := 43) hC ((A 5 0 : Nat) : Int) f52 dX6_adds_43 (by decide) (by decide) (by decide) (by decide) (by decide)  ((by rw [mset_row (by omega), mset_row (by omega), mset_row (by omega), mset_row (by omega)]; exact hA.mn)) ?_
  refine ev_iconst (pc := 46) hC dX6_adds_46 ?_
  refine ev_iadd (pc := 47) hC (((A 5 0) + 1 : Nat) : Int) (by omega) dX6_adds_47 ?_
  refine ev_puti (pc := 48) hC f52 fpX6_6 dX6_adds_48 (by decide) (by decide) (by decide) (by decide) (by decide) (rfl) (rfl) ?_
  exact ev_return (pc := 51) hC hR dX6_adds_51 (⟨rfl, madd_rep hA hlt h1 h2 h3 h4, ⟨fun q a b c d => by rw [mset_row a, mset_row (by omega), mset_row (by omega), mset_row (by omega), mset_row (by omega)], fun k a b c d => by rw [mset_ne _ _ _ _ (by omega), mset_row (by omega), mset_row (by omega), mset_row (by omega), mset_row (by omega)], fun k hk => by rw [mset_row (by omega), mset_row (by omega), mset_row (by omega), mset_row (by omega), mset_row (by omega)]⟩⟩)
theorem mtX6_believersIf : MT yX6_believersIf wsX6_believersIf cX6_believersIf 4 (some .int) 2 := ⟨⟨_, rfl⟩, by decide, by decide, by decide +kernel⟩
set_option maxRecDepth 100000 in
set_option maxHeartbeats 4000000 in
theorem ru_X6_believersIf {X : Mem} {A : Sl} {G : Nat} (hA : Rp (vM X) A) (hg : X 29 8 = zI (G : Nat)) (hG : G < 256) (S n : Nat) (hS : S < 256) (hn : n ≤ 60) : Ru yX6_believersIf wsX6_believersIf 10 221 [.ref 29, vi ((S : Nat) : Int), vi ((n : Nat) : Int)] X (fun v X' => v = some (vi (bset G (goN G n (nines S A)))) ∧ Rp (vM X') A ∧ frT 1 X X') := by
  refine ru_of (w2 := _) rfl (by decide) [some (.ref 29), some (vi ((S : Nat) : Int)), some (vi ((n : Nat) : Int)), none] (fun _ => rfl) (fun _ => Nat.le_of_ble_eq_true rfl) ?_
  intro K hKn hC hR
  have wX6 : ∀ w ∈ u_ws RX6 TX6 25, w ∈ wsX6_believersIf := by decide +kernel
  have f52 : Fl K RX6 52 6 6 := fl_of hC RX6 TX6 25 rfl (by decide) wX6 (show Cond.fieldLink RX6 52 "PicnicOfSomebodyModel" "people" "I" ∈ _ by decide +kernel)
  have f25 : Fl K RX6 25 6 5 := fl_of hC RX6 TX6 25 rfl (by decide) wX6 (show Cond.fieldLink RX6 25 "PicnicOfSomebodyModel" "belief" "[I" ∈ _ by decide +kernel)
  have hn8 := hA.n8
  refine ev_aload_n (pc := 0) hC dX6_believersIf_0 rfl ?_
  refine ev_iconst (pc := 1) hC dX6_believersIf_1 ?_
  refine ev_iconst (pc := 2) hC dX6_believersIf_2 ?_
  refine ev_callV (pc := 3) (as := [vi 1, vi 1]) (rest := []) hC gX6_believersIf_X6_passesAll mtX6_passesAll dX6_believersIf_3 (ru_X6_passesAll_k 1 (by omega)) (by decide) (by decide) (by decide) rfl (by rfl) (Nat.le_of_ble_eq_true rfl) rfl (fun v3 X3 h3 => ?_)
  obtain ⟨rfl, hS3⟩ := h3
  show Ev K 6 [some (.ref 29), some (vi ((S : Nat) : Int)), some (vi ((n : Nat) : Int)), none] [] X3
  have hF3 := ks_fr hS3
  have hA3 := ks_repM hS3 hA
  have hk1_3 := ks_rep hS3 hA
  have hg3 := frT_gone hF3 hg
  have hFr3 := frT_tr (frT_rf 1 X) hF3 (by omega)
  have hn8_3 := hA3.n8
  refine ev_iconst (pc := 6) hC dX6_believersIf_6 ?_
  refine ev_istore_n (pc := 7) hC dX6_believersIf_7 (by rw [hKn]; decide) rfl ?_
  show Ev K 8 [some (.ref 29), some (vi ((S : Nat) : Int)), some (vi ((n : Nat) : Int)), some (vi 0)] [] X3
  have lp8 : ∀ (fz : Nat) (i : Nat) (Y : Mem), A 5 0 - i < fz → (i ≤ A 5 0) → (Rp (vM Y) (ninesN S i A)) → (Y 29 8 = zI ((G : Nat) : Int)) → (frT 1 X Y) → (Rp (vK Y 1) A) → Ev K 8 [some (.ref 29), some (vi ((S : Nat) : Int)), some (vi ((n : Nat) : Int)), some (vi ((i : Nat) : Int))] [] Y := by
    intro fz
    induction fz with
    | zero => intro i Y hfz; exact absurd hfz (Nat.not_lt_zero _)
    | succ fz ih8 =>
      intro i Y hfz hi hAY hgY hFY hK1Y
      have hY8 := hAY.n8
      have hin : ninesN S i A 5 0 = A 5 0 := rfl
      refine ev_iload_n (pc := 8) hC dX6_believersIf_8 rfl ?_
      refine ev_aload_n (pc := 9) hC dX6_believersIf_9 rfl ?_
      refine ev_geti (pc := 10) hC ((A 5 0 : Nat) : Int) f52 dX6_believersIf_10 (by decide) (by decide) (by decide) (by decide) (by decide)  (hAY.mn) ?_
      refine ev_icmp_ge (pc := 13) hC 47 dX6_believersIf_13 (by decide) (by omega) (by omega) (fun c13 => ?_) (fun c13 => ?_)
      · have h4 : Rp (vM Y) (nines S A) := nines_end (show i = A 5 0 by omega) hAY
        have h5n : nines S A 5 0 = A 5 0 := rfl
        refine ev_aload_n (pc := 47) hC dX6_believersIf_47 rfl ?_
        refine ev_iload_n (pc := 48) hC dX6_believersIf_48 rfl ?_
        refine ev_callV (pc := 49) (as := [vi ((n : Nat) : Int)]) (rest := []) hC gX6_believersIf_X6_believersIn mtX6_believersIn dX6_believersIf_49 (ru_X6_believersIn h4 hgY hG n (by omega)) (by decide) (by decide) (by decide) rfl (by rfl) (Nat.le_of_ble_eq_true rfl) rfl (fun v49 X49 h49 => ?_)
        obtain ⟨rfl, hA49, hF49⟩ := h49
        show Ev K 52 [some (.ref 29), some (vi ((S : Nat) : Int)), some (vi ((n : Nat) : Int)), some (vi ((i : Nat) : Int))] [vi ((bset G (goN G n (nines S A)) : Nat) : Int)] X49
        have hgn49 := goN_n G (nines S A) n
        have hbl49 : bset G (goN G n (nines S A)) < 256 := bset_lt (by rw [hgn49]; exact h4.n8)
        have hg49 := frT_gone hF49 hgY
        have hk1_49 := hK1Y.keepK hF49 (by omega)
        have hFr49 := frT_tr hFY hF49 (by omega)
        have hn8_49 := hA49.n8
        refine ev_istore_n (pc := 52) hC dX6_believersIf_52 (by rw [hKn]; decide) rfl ?_
        show Ev K 53 [some (.ref 29), some (vi ((S : Nat) : Int)), some (vi ((n : Nat) : Int)), some (vi ((bset G (goN G n (nines S A)) : Nat) : Int))] [] X49
        refine ev_aload_n (pc := 53) hC dX6_believersIf_53 rfl ?_
        refine ev_iconst (pc := 54) hC dX6_believersIf_54 ?_
        refine ev_iconst (pc := 55) hC dX6_believersIf_55 ?_
        refine ev_callV (pc := 56) (as := [vi 1, vi 0]) (rest := []) hC gX6_believersIf_X6_passesAll mtX6_passesAll dX6_believersIf_56 (ru_X6_passesAll_p 1 (by omega)) (by decide) (by decide) (by decide) rfl (by rfl) (Nat.le_of_ble_eq_true rfl) rfl (fun v56 X56 h56 => ?_)
        obtain ⟨rfl, hS56⟩ := h56
        show Ev K 59 [some (.ref 29), some (vi ((S : Nat) : Int)), some (vi ((n : Nat) : Int)), some (vi ((bset G (goN G n (nines S A)) : Nat) : Int))] [] X56
        have hF56 := ps_fr hS56
        have hA56 := ps_rep hS56 hk1_49
        have hg56 := frT_gone hF56 hg49
        have hk1_56 := hk1_49.keepK hF56 (by omega)
        have hFr56 := frT_tr hFr49 hF56 (by omega)
        have hn8_56 := hA56.n8
        refine ev_iload_n (pc := 59) hC dX6_believersIf_59 rfl ?_
        exact ev_ireturn (pc := 60) hC hR dX6_believersIf_60 (⟨rfl, hA56, hFr56⟩)
      · refine ev_aload_n (pc := 16) hC dX6_believersIf_16 rfl ?_
        refine ev_getr (pc := 17) hC 35 f25 dX6_believersIf_17 (by decide) (by decide) (by decide) (by decide) (by decide) ?_
        refine ev_iload_n (pc := 20) hC dX6_believersIf_20 rfl ?_
        refine ev_iload_n (pc := 21) hC dX6_believersIf_21 rfl ?_
        refine ev_iload_n (pc := 22) hC dX6_believersIf_22 rfl ?_
        refine ev_callS (pc := 23) (as := [vi ((S : Nat) : Int), vi ((i : Nat) : Int)]) (rest := [vi ((i : Nat) : Int), .ref 35]) hC gX6_believersIf_X6_has mtX6_has dX6_believersIf_23 (ru_X6_has S i (by omega) (by omega)) (by decide) (by rfl) (Nat.le_of_ble_eq_true rfl) rfl (fun v23 X23 h23 => ?_)
        obtain ⟨rfl, rfl⟩ := h23
        show Ev K 26 [some (.ref 29), some (vi ((S : Nat) : Int)), some (vi ((n : Nat) : Int)), some (vi ((i : Nat) : Int))] [vi (b2i (Nat.testBit S i)), vi ((i : Nat) : Int), .ref 35] Y
        have hr23 := b2i_r (Nat.testBit S i)
        refine ev_if_eq (pc := 26) hC 34 dX6_believersIf_26 (by decide) (by omega) (fun c26 => ?_) (fun c26 => ?_)
        · have e26 := b2i_0 c26
          refine ev_aload_n (pc := 34) hC dX6_believersIf_34 rfl ?_
          refine ev_getr (pc := 35) hC 35 f25 dX6_believersIf_35 (by decide) (by decide) (by decide) (by decide) (by decide) ?_
          refine ev_iload_n (pc := 38) hC dX6_believersIf_38 rfl ?_
          have hb39 := hAY.b9 i (by omega)
          refine ev_iald (pc := 39) hC i (((ninesN S i A) 4 i : Nat) : Int) (by decide) (by decide) (rfl) (by have := (show alen 35 = 8 from rfl); omega) (hAY.m4 i (by omega)) dX6_believersIf_39 ?_
          refine ev_iast (pc := 40) hC i (by decide) (by decide) (rfl) (by have := (show alen 35 = 8 from rfl); omega) dX6_believersIf_40 ?_
          have hA40 : Rp (vM (mset Y 35 i (zI (((ninesN S i A) 4 i : Nat) : Int)))) (setR (ninesN S i A) 4 i ((ninesN S i A) 4 i)) := Rp.setM4 (v := (ninesN S i A) 4 i) hAY (by omega)
          have hg40 : (mset Y 35 i (zI (((ninesN S i A) 4 i : Nat) : Int))) 29 8 = zI ((G : Nat) : Int) := by rw [mset_row (by omega)]; exact hgY
          have hFr40 : frT 1 X (mset Y 35 i (zI (((ninesN S i A) 4 i : Nat) : Int))) := frT_set (r := 4) hFY (by omega)
          have hk1_40 : Rp (vK (mset Y 35 i (zI (((ninesN S i A) 4 i : Nat) : Int))) 1) A := Rp.keepKr hK1Y (mset_row (by omega))
          refine ev_iinc (pc := 41) hC ((i + 1 : Nat) : Int) dX6_believersIf_41 rfl (by omega) (by rw [hKn]; decide) rfl ?_
          show Ev K 44 [some (.ref 29), some (vi ((S : Nat) : Int)), some (vi ((n : Nat) : Int)), some (vi ((i + 1 : Nat) : Int))] [] (mset Y 35 i (zI (((ninesN S i A) 4 i : Nat) : Int)))
          refine ev_goto (pc := 44) hC 8 dX6_believersIf_44 (by decide) ?_
          exact ih8 (i + 1) (mset Y 35 i (zI (((ninesN S i A) 4 i : Nat) : Int))) (by omega) (by omega) (nines_f (by have z := hA40; rw [setR_id] at z; exact z) e26) hg40 hFr40 hk1_40
        · have e26 := b2i_1 c26
          refine ev_bipush (pc := 29) hC dX6_believersIf_29 (by decide) ?_
          refine ev_goto (pc := 31) hC 40 dX6_believersIf_31 (by decide) ?_
          refine ev_iast (pc := 40) hC i (by decide) (by decide) (rfl) (by have := (show alen 35 = 8 from rfl); omega) dX6_believersIf_40 ?_
          have hA40 : Rp (vM (mset Y 35 i (zI 9))) (setR (ninesN S i A) 4 i 9) := Rp.setM4 (v := 9) hAY (by omega)
          have hg40 : (mset Y 35 i (zI 9)) 29 8 = zI ((G : Nat) : Int) := by rw [mset_row (by omega)]; exact hgY
          have hFr40 : frT 1 X (mset Y 35 i (zI 9)) := frT_set (r := 4) hFY (by omega)
          have hk1_40 : Rp (vK (mset Y 35 i (zI 9)) 1) A := Rp.keepKr hK1Y (mset_row (by omega))
          refine ev_iinc (pc := 41) hC ((i + 1 : Nat) : Int) dX6_believersIf_41 rfl (by omega) (by rw [hKn]; decide) rfl ?_
          show Ev K 44 [some (.ref 29), some (vi ((S : Nat) : Int)), some (vi ((n : Nat) : Int)), some (vi ((i + 1 : Nat) : Int))] [] (mset Y 35 i (zI 9))
          refine ev_goto (pc := 44) hC 8 dX6_believersIf_44 (by decide) ?_
          exact ih8 (i + 1) (mset Y 35 i (zI 9)) (by omega) (by omega) (nines_t hA40 e26) hg40 hFr40 hk1_40
  exact lp8 _ 0 X3 (Nat.lt_succ_self _) (by omega) (nines_0 S hA3) hg3 hFr3 hk1_3
theorem mtX6_beliefFrom : MT yX6_beliefFrom wsX6_beliefFrom cX6_beliefFrom 5 (some .int) 3 := ⟨⟨_, rfl⟩, by decide, by decide, by decide +kernel⟩
set_option maxRecDepth 100000 in
set_option maxHeartbeats 4000000 in
theorem ru_X6_beliefFrom {X : Mem} {A : Sl} {G : Nat} (hA : Rp (vM X) A) (hg : X 29 8 = zI (G : Nat)) (hG : G < 256) (p c n : Nat) (hp : p < A 5 0) (hc : c < 25) (hn : n ≤ 60) : Ru yX6_beliefFrom wsX6_beliefFrom 9 199 [.ref 29, vi ((p : Nat) : Int), vi ((c : Nat) : Int), vi ((n : Nat) : Int)] X (fun v X' => v = some (vi ((goN G n (setR A 3 p c) 4 p : Nat) : Int)) ∧ Rp (vM X') A ∧ frT 1 X X') := by
  refine ru_of (w2 := _) rfl (by decide) [some (.ref 29), some (vi ((p : Nat) : Int)), some (vi ((c : Nat) : Int)), some (vi ((n : Nat) : Int)), none] (fun _ => rfl) (fun _ => Nat.le_of_ble_eq_true rfl) ?_
  intro K hKn hC hR
  have wX6 : ∀ w ∈ u_ws RX6 TX6 25, w ∈ wsX6_beliefFrom := by decide +kernel
  have f22 : Fl K RX6 22 6 4 := fl_of hC RX6 TX6 25 rfl (by decide) wX6 (show Cond.fieldLink RX6 22 "PicnicOfSomebodyModel" "cell" "[I" ∈ _ by decide +kernel)
  have f25 : Fl K RX6 25 6 5 := fl_of hC RX6 TX6 25 rfl (by decide) wX6 (show Cond.fieldLink RX6 25 "PicnicOfSomebodyModel" "belief" "[I" ∈ _ by decide +kernel)
  have hn8 := hA.n8
  refine ev_aload_n (pc := 0) hC dX6_beliefFrom_0 rfl ?_
  refine ev_iconst (pc := 1) hC dX6_beliefFrom_1 ?_
  refine ev_iconst (pc := 2) hC dX6_beliefFrom_2 ?_
  refine ev_callV (pc := 3) (as := [vi 1, vi 1]) (rest := []) hC gX6_beliefFrom_X6_passesAll mtX6_passesAll dX6_beliefFrom_3 (ru_X6_passesAll_k 1 (by omega)) (by decide) (by decide) (by decide) rfl (by rfl) (Nat.le_of_ble_eq_true rfl) rfl (fun v3 X3 h3 => ?_)
  obtain ⟨rfl, hS3⟩ := h3
  show Ev K 6 [some (.ref 29), some (vi ((p : Nat) : Int)), some (vi ((c : Nat) : Int)), some (vi ((n : Nat) : Int)), none] [] X3
  have hF3 := ks_fr hS3
  have hA3 := ks_repM hS3 hA
  have hk1_3 := ks_rep hS3 hA
  have hg3 := frT_gone hF3 hg
  have hFr3 := frT_tr (frT_rf 1 X) hF3 (by omega)
  have hn8_3 := hA3.n8
  refine ev_aload_n (pc := 6) hC dX6_beliefFrom_6 rfl ?_
  refine ev_getr (pc := 7) hC 34 f22 dX6_beliefFrom_7 (by decide) (by decide) (by decide) (by decide) (by decide) ?_
  refine ev_iload_n (pc := 10) hC dX6_beliefFrom_10 rfl ?_
  refine ev_iload_n (pc := 11) hC dX6_beliefFrom_11 rfl ?_
  refine ev_iast (pc := 12) hC p (by decide) (by decide) (rfl) (by have := (show alen 34 = 8 from rfl); omega) dX6_beliefFrom_12 ?_
  have hA12 : Rp (vM (mset X3 34 p (zI ((c : Nat) : Int)))) (setR A 3 p c) := Rp.setM3 (v := c) hA3 (by omega)
  have hg12 : (mset X3 34 p (zI ((c : Nat) : Int))) 29 8 = zI ((G : Nat) : Int) := by rw [mset_row (by omega)]; exact hg3
  have hFr12 : frT 1 X (mset X3 34 p (zI ((c : Nat) : Int))) := frT_set (r := 3) hFr3 (by omega)
  have hk1_12 : Rp (vK (mset X3 34 p (zI ((c : Nat) : Int))) 1) A := Rp.keepKr hk1_3 (mset_row (by omega))
  refine ev_aload_n (pc := 13) hC dX6_beliefFrom_13 rfl ?_
  refine ev_iload_n (pc := 14) hC dX6_beliefFrom_14 rfl ?_
  refine ev_callV (pc := 15) (as := [vi ((n : Nat) : Int)]) (rest := []) hC gX6_beliefFrom_X6_goes mtX6_goes dX6_beliefFrom_15 (ru_X6_goes hA12 hg12 hG n (by omega)) (by decide) (by decide) (by decide) rfl (by rfl) (Nat.le_of_ble_eq_true rfl) rfl (fun v15 X15 h15 => ?_)
  obtain ⟨rfl, hA15, hF15⟩ := h15
  show Ev K 18 [some (.ref 29), some (vi ((p : Nat) : Int)), some (vi ((c : Nat) : Int)), some (vi ((n : Nat) : Int)), none] [] X15
  have hgn15 := goN_n G (setR A 3 p c) n
  have hg15 := frT_gone hF15 hg12
  have hk1_15 := hk1_12.keepK hF15 (by omega)
  have hFr15 := frT_tr hFr12 hF15 (by omega)
  have hn8_15 := hA15.n8
  have hp5 : p < goN G n (setR A 3 p c) 5 0 := by rw [goN_n]; exact hp
  refine ev_aload_n (pc := 18) hC dX6_beliefFrom_18 rfl ?_
  refine ev_getr (pc := 19) hC 35 f25 dX6_beliefFrom_19 (by decide) (by decide) (by decide) (by decide) (by decide) ?_
  refine ev_iload_n (pc := 22) hC dX6_beliefFrom_22 rfl ?_
  have hb23 := hA15.b9 p (by omega)
  refine ev_iald (pc := 23) hC p (((goN G n (setR A 3 p c)) 4 p : Nat) : Int) (by decide) (by decide) (rfl) (by have := (show alen 35 = 8 from rfl); omega) (hA15.m4 p (by omega)) dX6_beliefFrom_23 ?_
  refine ev_istore (pc := 24) hC dX6_beliefFrom_24 (by rw [hKn]; decide) rfl ?_
  show Ev K 26 [some (.ref 29), some (vi ((p : Nat) : Int)), some (vi ((c : Nat) : Int)), some (vi ((n : Nat) : Int)), some (vi (((goN G n (setR A 3 p c)) 4 p : Nat) : Int))] [] X15
  refine ev_aload_n (pc := 26) hC dX6_beliefFrom_26 rfl ?_
  refine ev_iconst (pc := 27) hC dX6_beliefFrom_27 ?_
  refine ev_iconst (pc := 28) hC dX6_beliefFrom_28 ?_
  refine ev_callV (pc := 29) (as := [vi 1, vi 0]) (rest := []) hC gX6_beliefFrom_X6_passesAll mtX6_passesAll dX6_beliefFrom_29 (ru_X6_passesAll_p 1 (by omega)) (by decide) (by decide) (by decide) rfl (by rfl) (Nat.le_of_ble_eq_true rfl) rfl (fun v29 X29 h29 => ?_)
  obtain ⟨rfl, hS29⟩ := h29
  show Ev K 32 [some (.ref 29), some (vi ((p : Nat) : Int)), some (vi ((c : Nat) : Int)), some (vi ((n : Nat) : Int)), some (vi (((goN G n (setR A 3 p c)) 4 p : Nat) : Int))] [] X29
  have hF29 := ps_fr hS29
  have hA29 := ps_rep hS29 hk1_15
  have hg29 := frT_gone hF29 hg15
  have hk1_29 := hk1_15.keepK hF29 (by omega)
  have hFr29 := frT_tr hFr15 hF29 (by omega)
  have hn8_29 := hA29.n8
  refine ev_iload (pc := 32) hC dX6_beliefFrom_32 rfl ?_
  exact ev_ireturn (pc := 34) hC hR dX6_beliefFrom_34 (⟨rfl, hA29, hFr29⟩)
theorem mtX6_allBelief : MT yX6_allBelief wsX6_allBelief cX6_allBelief 3 (some .int) 0 := ⟨⟨_, rfl⟩, by decide, by decide, by decide +kernel⟩
set_option maxRecDepth 100000 in
set_option maxHeartbeats 4000000 in
theorem ru_X6_allBelief {X : Mem} {A : Sl} (hA : Rp (vM X) A) : Ru yX6_allBelief wsX6_allBelief 0 0 [.ref 29] X (fun v X' => v = some (vi (sumB (A 5 0) (A 4))) ∧ X = X') := by
  refine ru_of (w2 := _) rfl (by decide) [some (.ref 29), none, none] (fun _ => rfl) (fun _ => Nat.le_of_ble_eq_true rfl) ?_
  intro K hKn hC hR
  have wX6 : ∀ w ∈ u_ws RX6 TX6 25, w ∈ wsX6_allBelief := by decide +kernel
  have f52 : Fl K RX6 52 6 6 := fl_of hC RX6 TX6 25 rfl (by decide) wX6 (show Cond.fieldLink RX6 52 "PicnicOfSomebodyModel" "people" "I" ∈ _ by decide +kernel)
  have f25 : Fl K RX6 25 6 5 := fl_of hC RX6 TX6 25 rfl (by decide) wX6 (show Cond.fieldLink RX6 25 "PicnicOfSomebodyModel" "belief" "[I" ∈ _ by decide +kernel)
  have hn8 := hA.n8
  refine ev_iconst (pc := 0) hC dX6_allBelief_0 ?_
  refine ev_istore_n (pc := 1) hC dX6_allBelief_1 (by rw [hKn]; decide) rfl ?_
  show Ev K 2 [some (.ref 29), some (vi 0), none] [] X
  refine ev_iconst (pc := 2) hC dX6_allBelief_2 ?_
  refine ev_istore_n (pc := 3) hC dX6_allBelief_3 (by rw [hKn]; decide) rfl ?_
  show Ev K 4 [some (.ref 29), some (vi 0), some (vi 0)] [] X
  have lp4 : ∀ (fz : Nat) (i : Nat) (b : Nat), A 5 0 - i < fz → (i ≤ A 5 0) → (b = sumB i (A 4)) → Ev K 4 [some (.ref 29), some (vi ((b : Nat) : Int)), some (vi ((i : Nat) : Int))] [] X := by
    intro fz
    induction fz with
    | zero => intro i b hfz; exact absurd hfz (Nat.not_lt_zero _)
    | succ fz ih4 =>
      intro i b hfz hi hb
      refine ev_iload_n (pc := 4) hC dX6_allBelief_4 rfl ?_
      refine ev_aload_n (pc := 5) hC dX6_allBelief_5 rfl ?_
      refine ev_geti (pc := 6) hC ((A 5 0 : Nat) : Int) f52 dX6_allBelief_6 (by decide) (by decide) (by decide) (by decide) (by decide)  (hA.mn) ?_
      refine ev_icmp_ge (pc := 9) hC 27 dX6_allBelief_9 (by decide) (by omega) (by omega) (fun c9 => ?_) (fun c9 => ?_)
      · refine ev_iload_n (pc := 27) hC dX6_allBelief_27 rfl ?_
        exact ev_ireturn (pc := 28) hC hR dX6_allBelief_28 (⟨rv (by rw [hb, show i = A 5 0 by omega]), rfl⟩)
      · refine ev_iload_n (pc := 12) hC dX6_allBelief_12 rfl ?_
        refine ev_aload_n (pc := 13) hC dX6_allBelief_13 rfl ?_
        refine ev_getr (pc := 14) hC 35 f25 dX6_allBelief_14 (by decide) (by decide) (by decide) (by decide) (by decide) ?_
        refine ev_iload_n (pc := 17) hC dX6_allBelief_17 rfl ?_
        have hb18 := hA.b9 i (by omega)
        refine ev_iald (pc := 18) hC i ((A 4 i : Nat) : Int) (by decide) (by decide) (rfl) (by have := (show alen 35 = 8 from rfl); omega) (hA.m4 i (by omega)) dX6_allBelief_18 ?_
        refine ev_iadd (pc := 19) hC ((b + (A 4 i) : Nat) : Int) (by omega) dX6_allBelief_19 ?_
        refine ev_istore_n (pc := 20) hC dX6_allBelief_20 (by rw [hKn]; decide) rfl ?_
        show Ev K 21 [some (.ref 29), some (vi ((b + (A 4 i) : Nat) : Int)), some (vi ((i : Nat) : Int))] [] X
        refine ev_iinc (pc := 21) hC ((i + 1 : Nat) : Int) dX6_allBelief_21 rfl (by omega) (by rw [hKn]; decide) rfl ?_
        show Ev K 24 [some (.ref 29), some (vi ((b + (A 4 i) : Nat) : Int)), some (vi ((i + 1 : Nat) : Int))] [] X
        refine ev_goto (pc := 24) hC 4 dX6_allBelief_24 (by decide) ?_
        exact ih4 (i + 1) (b + (A 4 i)) (by omega) (by omega) (by rw [sumB_s, ← hb])
  exact lp4 _ 0 0 (Nat.lt_succ_self _) (by omega) rfl
theorem mtX6_isSettled : MT yX6_isSettled wsX6_isSettled cX6_isSettled 4 (some .boolean) 0 := ⟨⟨_, rfl⟩, by decide, by decide, by decide +kernel⟩
set_option maxRecDepth 100000 in
set_option maxHeartbeats 4000000 in
theorem ru_X6_isSettled {X : Mem} {A : Sl} {G : Nat} (hA : Rp (vM X) A) (hg : X 29 8 = zI (G : Nat)) (hG : G < 256) : Ru yX6_isSettled wsX6_isSettled 7 153 [.ref 29] X (fun v X' => v = some (vi (b2i (!(orB (A 5 0) (chP G A))))) ∧ X = X') := by
  refine ru_of (w2 := _) rfl (by decide) [some (.ref 29), none, none, none] (fun _ => rfl) (fun _ => Nat.le_of_ble_eq_true rfl) ?_
  intro K hKn hC hR
  have wX6 : ∀ w ∈ u_ws RX6 TX6 25, w ∈ wsX6_isSettled := by decide +kernel
  have f52 : Fl K RX6 52 6 6 := fl_of hC RX6 TX6 25 rfl (by decide) wX6 (show Cond.fieldLink RX6 52 "PicnicOfSomebodyModel" "people" "I" ∈ _ by decide +kernel)
  have f25 : Fl K RX6 25 6 5 := fl_of hC RX6 TX6 25 rfl (by decide) wX6 (show Cond.fieldLink RX6 25 "PicnicOfSomebodyModel" "belief" "[I" ∈ _ by decide +kernel)
  have f22 : Fl K RX6 22 6 4 := fl_of hC RX6 TX6 25 rfl (by decide) wX6 (show Cond.fieldLink RX6 22 "PicnicOfSomebodyModel" "cell" "[I" ∈ _ by decide +kernel)
  have hn8 := hA.n8
  refine ev_aload_n (pc := 0) hC dX6_isSettled_0 rfl ?_
  refine ev_callV (pc := 1) (as := []) (rest := []) hC gX6_isSettled_X6_here mtX6_here dX6_isSettled_1 (ru_X6_here hA) (by decide) (by decide) (by decide) rfl (by rfl) (Nat.le_of_ble_eq_true rfl) rfl (fun v1 X1 h1 => ?_)
  obtain ⟨rfl, rfl⟩ := h1
  show Ev K 4 [some (.ref 29), none, none, none] [vi ((here A : Nat) : Int)] X
  have hh1 := here_lt A
  refine ev_istore_n (pc := 4) hC dX6_isSettled_4 (by rw [hKn]; decide) rfl ?_
  show Ev K 5 [some (.ref 29), some (vi ((here A : Nat) : Int)), none, none] [] X
  refine ev_iconst (pc := 5) hC dX6_isSettled_5 ?_
  refine ev_istore_n (pc := 6) hC dX6_isSettled_6 (by rw [hKn]; decide) rfl ?_
  show Ev K 7 [some (.ref 29), some (vi ((here A : Nat) : Int)), some (vi 0), none] [] X
  have lp7 : ∀ (fz : Nat) (i : Nat), A 5 0 - i < fz → (i ≤ A 5 0) → (orB i (chP G A) = false) → Ev K 7 [some (.ref 29), some (vi ((here A : Nat) : Int)), some (vi ((i : Nat) : Int)), none] [] X := by
    intro fz
    induction fz with
    | zero => intro i hfz; exact absurd hfz (Nat.not_lt_zero _)
    | succ fz ih7 =>
      intro i hfz hi ho
      refine ev_iload_n (pc := 7) hC dX6_isSettled_7 rfl ?_
      refine ev_aload_n (pc := 8) hC dX6_isSettled_8 rfl ?_
      refine ev_geti (pc := 9) hC ((A 5 0 : Nat) : Int) f52 dX6_isSettled_9 (by decide) (by decide) (by decide) (by decide) (by decide)  (hA.mn) ?_
      refine ev_icmp_ge (pc := 12) hC 55 dX6_isSettled_12 (by decide) (by omega) (by omega) (fun c12 => ?_) (fun c12 => ?_)
      · refine ev_iconst (pc := 55) hC dX6_isSettled_55 ?_
        exact ev_zreturn (pc := 56) hC hR dX6_isSettled_56 (by decide) (⟨rv (b2iT (by rw [show A 5 0 = i by omega, ho]; rfl)), rfl⟩)
      · refine ev_aload_n (pc := 15) hC dX6_isSettled_15 rfl ?_
        refine ev_iload_n (pc := 16) hC dX6_isSettled_16 rfl ?_
        refine ev_iload_n (pc := 17) hC dX6_isSettled_17 rfl ?_
        refine ev_callV (pc := 18) (as := [vi ((i : Nat) : Int), vi ((here A : Nat) : Int)]) (rest := []) hC gX6_isSettled_X6_nextBelief mtX6_nextBelief dX6_isSettled_18 (ru_X6_nextBelief hA hg hG i (here A) (by omega) (by omega)) (by decide) (by decide) (by decide) rfl (by rfl) (Nat.le_of_ble_eq_true rfl) rfl (fun v18 X18 h18 => ?_)
        obtain ⟨rfl, rfl⟩ := h18
        show Ev K 21 [some (.ref 29), some (vi ((here A : Nat) : Int)), some (vi ((i : Nat) : Int)), none] [vi ((nextB G A i (here A) : Nat) : Int)] X
        have hl18 := nextB_le G A i (here A)
        refine ev_istore_n (pc := 21) hC dX6_isSettled_21 (by rw [hKn]; decide) rfl ?_
        show Ev K 22 [some (.ref 29), some (vi ((here A : Nat) : Int)), some (vi ((i : Nat) : Int)), some (vi ((nextB G A i (here A) : Nat) : Int))] [] X
        refine ev_iload_n (pc := 22) hC dX6_isSettled_22 rfl ?_
        refine ev_aload_n (pc := 23) hC dX6_isSettled_23 rfl ?_
        refine ev_getr (pc := 24) hC 35 f25 dX6_isSettled_24 (by decide) (by decide) (by decide) (by decide) (by decide) ?_
        refine ev_iload_n (pc := 27) hC dX6_isSettled_27 rfl ?_
        have hb28 := hA.b9 i (by omega)
        refine ev_iald (pc := 28) hC i ((A 4 i : Nat) : Int) (by decide) (by decide) (rfl) (by have := (show alen 35 = 8 from rfl); omega) (hA.m4 i (by omega)) dX6_isSettled_28 ?_
        refine ev_icmp_ne (pc := 29) hC 47 dX6_isSettled_29 (by decide) (by omega) (by omega) (fun c29 => ?_) (fun c29 => ?_)
        · refine ev_iconst (pc := 47) hC dX6_isSettled_47 ?_
          exact ev_zreturn (pc := 48) hC hR dX6_isSettled_48 (by decide) (⟨rv (b2iF (set_n (k := i) (by omega) (by omega))), rfl⟩)
        · refine ev_iload_n (pc := 32) hC dX6_isSettled_32 rfl ?_
          refine ev_iconst (pc := 33) hC dX6_isSettled_33 ?_
          refine ev_icmp_lt (pc := 34) hC 49 dX6_isSettled_34 (by decide) (by omega) (by omega) (fun c34 => ?_) (fun c34 => ?_)
          · refine ev_iinc (pc := 49) hC ((i + 1 : Nat) : Int) dX6_isSettled_49 rfl (by omega) (by rw [hKn]; decide) rfl ?_
            show Ev K 52 [some (.ref 29), some (vi ((here A : Nat) : Int)), some (vi ((i + 1 : Nat) : Int)), some (vi ((nextB G A i (here A) : Nat) : Int))] [] X
            refine ev_goto (pc := 52) hC 7 dX6_isSettled_52 (by decide) ?_
            refine ev_drop 3 ?_
            show Ev K 7 [some (.ref 29), some (vi ((here A : Nat) : Int)), some (vi ((i + 1 : Nat) : Int)), none] [] X
            exact ih7 (i + 1) (by omega) (by omega) (set_s ho (by omega) (by omega))
          · refine ev_aload_n (pc := 37) hC dX6_isSettled_37 rfl ?_
            refine ev_getr (pc := 38) hC 34 f22 dX6_isSettled_38 (by decide) (by decide) (by decide) (by decide) (by decide) ?_
            refine ev_iload_n (pc := 41) hC dX6_isSettled_41 rfl ?_
            have hb42 := hA.c25 i (by omega)
            refine ev_iald (pc := 42) hC i ((A 3 i : Nat) : Int) (by decide) (by decide) (rfl) (by have := (show alen 34 = 8 from rfl); omega) (hA.m3 i (by omega)) dX6_isSettled_42 ?_
            refine ev_iload_n (pc := 43) hC dX6_isSettled_43 rfl ?_
            refine ev_icmp_eq (pc := 44) hC 49 dX6_isSettled_44 (by decide) (by omega) (by omega) (fun c44 => ?_) (fun c44 => ?_)
            · refine ev_iinc (pc := 49) hC ((i + 1 : Nat) : Int) dX6_isSettled_49 rfl (by omega) (by rw [hKn]; decide) rfl ?_
              show Ev K 52 [some (.ref 29), some (vi ((here A : Nat) : Int)), some (vi ((i + 1 : Nat) : Int)), some (vi ((nextB G A i (here A) : Nat) : Int))] [] X
              refine ev_goto (pc := 52) hC 7 dX6_isSettled_52 (by decide) ?_
              refine ev_drop 3 ?_
              show Ev K 7 [some (.ref 29), some (vi ((here A : Nat) : Int)), some (vi ((i + 1 : Nat) : Int)), none] [] X
              exact ih7 (i + 1) (by omega) (by omega) (set_s ho (by omega) (by omega))
            · refine ev_iconst (pc := 47) hC dX6_isSettled_47 ?_
              exact ev_zreturn (pc := 48) hC hR dX6_isSettled_48 (by decide) (⟨rv (b2iF (set_n (k := i) (by omega) (by omega))), rfl⟩)
  exact lp7 _ 0 (Nat.lt_succ_self _) (by omega) rfl
theorem mtX6_isFirst : MT yX6_isFirst wsX6_isFirst cX6_isFirst 3 (some .boolean) 2 := ⟨⟨_, rfl⟩, by decide, by decide, by decide +kernel⟩
set_option maxRecDepth 100000 in
set_option maxHeartbeats 4000000 in
theorem ru_X6_isFirst {X : Mem} {A : Sl} (hA : Rp (vM X) A) (hg : X 29 8 = zI ((0 : Nat) : Int)) (wt : Int) (ws : Nat) (hwt : 0 ≤ wt ∧ wt ≤ 3) (hws : ws < 25) : Ru yX6_isFirst wsX6_isFirst 8 176 [.ref 29, vi wt, vi ((ws : Nat) : Int)] X (fun v X' => v = some (vi (b2i (fsP wt ws A))) ∧ X = X') := by
  refine ru_of (w2 := _) rfl (by decide) [some (.ref 29), some (vi wt), some (vi ((ws : Nat) : Int))] (fun _ => rfl) (fun _ => Nat.le_of_ble_eq_true rfl) ?_
  intro K hKn hC hR
  have hn8 := hA.n8
  have hG : 0 < 256 := by decide
  refine ev_iload_n (pc := 0) hC dX6_isFirst_0 rfl ?_
  rcases (show wt = 0 ∨ wt = 1 ∨ wt = 2 ∨ wt < 0 ∨ 2 < wt by omega) with c1 | c1 | c1 | c1
  · refine ev_tabin (pc := 1) hC 28 dX6_isFirst_1 (by omega) (by omega) (by rw [c1]; rfl) (by decide) ?_
    refine ev_aload_n (pc := 28) hC dX6_isFirst_28 rfl ?_
    refine ev_callV (pc := 29) (as := []) (rest := []) hC gX6_isFirst_X6_believers mtX6_believers dX6_isFirst_29 (ru_X6_believers hA hg hG  ) (by decide) (by decide) (by decide) rfl (by rfl) (Nat.le_of_ble_eq_true rfl) rfl (fun v29 X29 h29 => ?_)
    obtain ⟨rfl, rfl⟩ := h29
    show Ev K 32 [some (.ref 29), some (vi wt), some (vi ((ws : Nat) : Int))] [vi ((bset 0 A : Nat) : Int)] X
    have hl29 := bset_lt (G := 0) hA.n8
    refine ev_aload_n (pc := 32) hC dX6_isFirst_32 rfl ?_
    refine ev_callV (pc := 33) (as := []) (rest := [vi ((bset 0 A : Nat) : Int)]) hC gX6_isFirst_X6_everybody mtX6_everybody dX6_isFirst_33 (ru_X6_everybody hA) (by decide) (by decide) (by decide) rfl (by rfl) (Nat.le_of_ble_eq_true rfl) rfl (fun v33 X33 h33 => ?_)
    obtain ⟨rfl, rfl⟩ := h33
    show Ev K 36 [some (.ref 29), some (vi wt), some (vi ((ws : Nat) : Int))] [vi ((evb A : Nat) : Int), vi ((bset 0 A : Nat) : Int)] X
    have hl33 := evb_lt (A := A) (by omega)
    refine ev_icmp_ne (pc := 36) hC 43 dX6_isFirst_36 (by decide) (by omega) (by omega) (fun c36 => ?_) (fun c36 => ?_)
    · refine ev_iconst (pc := 43) hC dX6_isFirst_43 ?_
      exact ev_zreturn (pc := 44) hC hR dX6_isFirst_44 (by decide) (⟨rv (fs_0 (by omega) (Or.inr ⟨rfl, by omega⟩)), rfl⟩)
    · refine ev_iconst (pc := 39) hC dX6_isFirst_39 ?_
      refine ev_goto (pc := 40) hC 44 dX6_isFirst_40 (by decide) ?_
      exact ev_zreturn (pc := 44) hC hR dX6_isFirst_44 (by decide) (⟨rv (fs_0 (by omega) (Or.inl ⟨rfl, by omega⟩)), rfl⟩)
  · refine ev_tabin (pc := 1) hC 45 dX6_isFirst_1 (by omega) (by omega) (by rw [c1]; rfl) (by decide) ?_
    refine ev_aload_n (pc := 45) hC dX6_isFirst_45 rfl ?_
    refine ev_callV (pc := 46) (as := []) (rest := []) hC gX6_isFirst_X6_believers mtX6_believers dX6_isFirst_46 (ru_X6_believers hA hg hG  ) (by decide) (by decide) (by decide) rfl (by rfl) (Nat.le_of_ble_eq_true rfl) rfl (fun v46 X46 h46 => ?_)
    obtain ⟨rfl, rfl⟩ := h46
    show Ev K 49 [some (.ref 29), some (vi wt), some (vi ((ws : Nat) : Int))] [vi ((bset 0 A : Nat) : Int)] X
    have hl46 := bset_lt (G := 0) hA.n8
    refine ev_if_ne (pc := 49) hC 56 dX6_isFirst_49 (by decide) (by omega) (fun c49 => ?_) (fun c49 => ?_)
    · refine ev_iconst (pc := 56) hC dX6_isFirst_56 ?_
      exact ev_zreturn (pc := 57) hC hR dX6_isFirst_57 (by decide) (⟨rv (fs_1 (by omega) (Or.inr ⟨rfl, by omega⟩)), rfl⟩)
    · refine ev_iconst (pc := 52) hC dX6_isFirst_52 ?_
      refine ev_goto (pc := 53) hC 57 dX6_isFirst_53 (by decide) ?_
      exact ev_zreturn (pc := 57) hC hR dX6_isFirst_57 (by decide) (⟨rv (fs_1 (by omega) (Or.inl ⟨rfl, by omega⟩)), rfl⟩)
  · refine ev_tabin (pc := 1) hC 58 dX6_isFirst_1 (by omega) (by omega) (by rw [c1]; rfl) (by decide) ?_
    refine ev_aload_n (pc := 58) hC dX6_isFirst_58 rfl ?_
    refine ev_callV (pc := 59) (as := []) (rest := []) hC gX6_isFirst_X6_isSettled mtX6_isSettled dX6_isFirst_59 (ru_X6_isSettled hA hg hG) (by decide) (by decide) (by decide) rfl (by rfl) (Nat.le_of_ble_eq_true rfl) rfl (fun v59 X59 h59 => ?_)
    obtain ⟨rfl, rfl⟩ := h59
    show Ev K 62 [some (.ref 29), some (vi wt), some (vi ((ws : Nat) : Int))] [vi (b2i (!(orB (A 5 0) (chP 0 A))))] X
    have hr59 := b2i_r (!(orB (A 5 0) (chP 0 A)))
    exact ev_zreturn (pc := 62) hC hR dX6_isFirst_62 (b2i_n _) (⟨rv (fs_2 (by omega)), rfl⟩)
  · refine ev_tabout (pc := 1) hC 63 dX6_isFirst_1 (by omega) (by omega) (by decide) ?_
    refine ev_aload_n (pc := 63) hC dX6_isFirst_63 rfl ?_
    refine ev_callV (pc := 64) (as := []) (rest := []) hC gX6_isFirst_X6_here mtX6_here dX6_isFirst_64 (ru_X6_here hA) (by decide) (by decide) (by decide) rfl (by rfl) (Nat.le_of_ble_eq_true rfl) rfl (fun v64 X64 h64 => ?_)
    obtain ⟨rfl, rfl⟩ := h64
    show Ev K 67 [some (.ref 29), some (vi wt), some (vi ((ws : Nat) : Int))] [vi ((here A : Nat) : Int)] X
    have hh64 := here_lt A
    refine ev_iload_n (pc := 67) hC dX6_isFirst_67 rfl ?_
    refine ev_icmp_eq (pc := 68) hC 75 dX6_isFirst_68 (by decide) (by omega) (by omega) (fun c68 => ?_) (fun c68 => ?_)
    · refine ev_iconst (pc := 75) hC dX6_isFirst_75 ?_
      exact ev_zreturn (pc := 76) hC hR dX6_isFirst_76 (by decide) (⟨rv (fs_3 (by omega) (Or.inr ⟨rfl, by omega⟩)), rfl⟩)
    · refine ev_iconst (pc := 71) hC dX6_isFirst_71 ?_
      refine ev_goto (pc := 72) hC 76 dX6_isFirst_72 (by decide) ?_
      exact ev_zreturn (pc := 76) hC hR dX6_isFirst_76 (by decide) (⟨rv (fs_3 (by omega) (Or.inl ⟨rfl, by omega⟩)), rfl⟩)
