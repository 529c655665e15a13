theorem mtX6_goesYear : MT yX6_goesYear wsX6_goesYear cX6_goesYear 5 none 1 := ⟨⟨_, rfl⟩, by decide, by decide, by decide +kernel⟩
set_option maxRecDepth 100000 in
set_option maxHeartbeats 4000000 in
theorem ru_X6_goesYear {X : Mem} {A : Sl} {G : Nat} (hA : Rp (vM X) A) (hg : X 29 8 = zI (G : Nat)) (hG : G < 256) (wd : Bool) : Ru yX6_goesYear wsX6_goesYear 7 153 [.ref 29, vi (b2i wd)] X (fun v X' => v = none ∧ Rp (vM X') (year G wd A) ∧ frT 3 X X') := by
  refine ru_of (w2 := _) rfl (by decide) [some (.ref 29), some (vi (b2i wd)), none, none, none] (fun _ => rfl) (fun _ => Nat.le_of_ble_eq_true rfl) ?_
  intro K hKn hC hR
  have wX6 : ∀ w ∈ u_ws RX6 TX6 25, w ∈ wsX6_goesYear := by decide +kernel
  have f52 : Fl K RX6 52 6 6 := fl_of hC RX6 TX6 25 rfl (by decide) wX6 (show Cond.fieldLink RX6 52 "PicnicOfSomebodyModel" "people" "I" ∈ _ by decide +kernel)
  have f43 : Fl K RX6 43 6 20 := fl_of hC RX6 TX6 25 rfl (by decide) wX6 (show Cond.fieldLink RX6 43 "PicnicOfSomebodyModel" "nexts" "[I" ∈ _ by decide +kernel)
  have f104 : Fl K RX6 104 6 7 := fl_of hC RX6 TX6 25 rfl (by decide) wX6 (show Cond.fieldLink RX6 104 "PicnicOfSomebodyModel" "year" "I" ∈ _ by decide +kernel)
  have f13 : Fl K RX6 13 6 1 := fl_of hC RX6 TX6 25 rfl (by decide) wX6 (show Cond.fieldLink RX6 13 "PicnicOfSomebodyModel" "deep" "[I" ∈ _ by decide +kernel)
  have f25 : Fl K RX6 25 6 5 := fl_of hC RX6 TX6 25 rfl (by decide) wX6 (show Cond.fieldLink RX6 25 "PicnicOfSomebodyModel" "belief" "[I" ∈ _ by decide +kernel)
  have f22 : Fl K RX6 22 6 4 := fl_of hC RX6 TX6 25 rfl (by decide) wX6 (show Cond.fieldLink RX6 22 "PicnicOfSomebodyModel" "cell" "[I" ∈ _ by decide +kernel)
  have hn8 := hA.n8
  have hwr := b2i_r wd
  refine ev_aload_n (pc := 0) hC dX6_goesYear_0 rfl ?_
  refine ev_callV (pc := 1) (as := []) (rest := []) hC gX6_goesYear_X6_here mtX6_here dX6_goesYear_1 (ru_X6_here hA) (by decide) (by decide) (by decide) rfl (by rfl) (Nat.le_of_ble_eq_true rfl) rfl (fun v1 X1 h1 => ?_)
  obtain ⟨rfl, rfl⟩ := h1
  show Ev K 4 [some (.ref 29), some (vi (b2i wd)), none, none, none] [vi ((here A : Nat) : Int)] X
  have hh1 := here_lt A
  refine ev_istore_n (pc := 4) hC dX6_goesYear_4 (by rw [hKn]; decide) rfl ?_
  show Ev K 5 [some (.ref 29), some (vi (b2i wd)), some (vi ((here A : Nat) : Int)), none, none] [] X
  have J18 : ∀ (m : Nat), m = (if wd = true then 0 else blvAt G A (here A)) → m ≤ 8 → Ev K 18 [some (.ref 29), some (vi (b2i wd)), some (vi ((here A : Nat) : Int)), none, none] [vi ((m : Nat) : Int)] X := by
    intro m hm hm8
    refine ev_istore_n (pc := 18) hC dX6_goesYear_18 (by rw [hKn]; decide) rfl ?_
    show Ev K 19 [some (.ref 29), some (vi (b2i wd)), some (vi ((here A : Nat) : Int)), some (vi ((m : Nat) : Int)), none] [] X
    refine ev_iconst (pc := 19) hC dX6_goesYear_19 ?_
    refine ev_istore (pc := 20) hC dX6_goesYear_20 (by rw [hKn]; decide) rfl ?_
    show Ev K 22 [some (.ref 29), some (vi (b2i wd)), some (vi ((here A : Nat) : Int)), some (vi ((m : Nat) : Int)), some (vi 0)] [] X
    have lp22 : ∀ (fz : Nat) (i : Nat) (Y : Mem), A 5 0 - i < fz → (i ≤ A 5 0) → (∀ q, ¬ q = 41 → Y q = X q) → (∀ k, k < i → Y 41 k = zI ((nextB G A k (here A) : Nat) : Int)) → Ev K 22 [some (.ref 29), some (vi (b2i wd)), some (vi ((here A : Nat) : Int)), some (vi ((m : Nat) : Int)), some (vi ((i : Nat) : Int))] [] Y := by
      intro fz
      induction fz with
      | zero => intro i Y hfz; exact absurd hfz (Nat.not_lt_zero _)
      | succ fz ih22 =>
        intro i Y hfz hi hF hN
        have hAY : Rp (vM Y) A := Rp.keepM hA (by rw [hF 29 (by omega)]) (by rw [hF 29 (by omega)]) (fun q hq => hF _ (by omega))
        have hgY : Y 29 8 = zI (G : Nat) := by rw [hF 29 (by omega)]; exact hg
        refine ev_iload (pc := 22) hC dX6_goesYear_22 rfl ?_
        refine ev_aload_n (pc := 24) hC dX6_goesYear_24 rfl ?_
        refine ev_geti (pc := 25) hC ((A 5 0 : Nat) : Int) f52 dX6_goesYear_25 (by decide) (by decide) (by decide) (by decide) (by decide)  (hAY.mn) ?_
        refine ev_icmp_ge (pc := 28) hC 51 dX6_goesYear_28 (by decide) (by omega) (by omega) (fun c28 => ?_) (fun c28 => ?_)
        · have hAY : Rp (vM Y) A := Rp.keepM hA (by rw [hF 29 (by omega)]) (by rw [hF 29 (by omega)]) (fun q hq => hF _ (by omega))
          refine ev_aload_n (pc := 51) hC dX6_goesYear_51 rfl ?_
          refine ev_dup (pc := 52) hC rfl dX6_goesYear_52 ?_
          refine ev_geti (pc := 53) hC ((A 5 1 : Nat) : Int) f104 dX6_goesYear_53 (by decide) (by decide) (by decide) (by decide) (by decide)  (hAY.my) ?_
          refine ev_iconst (pc := 56) hC dX6_goesYear_56 ?_
          refine ev_iadd (pc := 57) hC (((A 5 1) + 1 : Nat) : Int) (by omega) dX6_goesYear_57 ?_
          refine ev_puti (pc := 58) hC f104 fpX6_7 dX6_goesYear_58 (by decide) (by decide) (by decide) (by decide) (by decide) (rfl) (rfl) ?_
          refine ev_iconst (pc := 61) hC dX6_goesYear_61 ?_
          refine ev_istore (pc := 62) hC dX6_goesYear_62 (by rw [hKn]; decide) rfl ?_
          show Ev K 64 [some (.ref 29), some (vi (b2i wd)), some (vi ((here A : Nat) : Int)), some (vi ((m : Nat) : Int)), some (vi 0)] [] (mset Y 29 7 (zI (((A 5 1) + 1 : Nat) : Int)))
          have lp64 : ∀ (fz : Nat) (j : Nat) (Z : Mem), 25 - j < fz → (j ≤ 25) → (∀ q, ¬ q = 31 → Z q = (mset Y 29 7 (zI ((A 5 1 + 1 : Nat) : Int))) q) → (∀ k, k < 25 → Z 31 k = zI (((if k < j then dpn A (here A) m k else A 0 k : Nat)) : Int)) → Ev K 64 [some (.ref 29), some (vi (b2i wd)), some (vi ((here A : Nat) : Int)), some (vi ((m : Nat) : Int)), some (vi ((j : Nat) : Int))] [] Z := by
            intro fz
            induction fz with
            | zero => intro j Z hfz; exact absurd hfz (Nat.not_lt_zero _)
            | succ fz ih64 =>
              intro j Z hfz hj hZ hD
              have hlc := hA.d99
              refine ev_iload (pc := 64) hC dX6_goesYear_64 rfl ?_
              refine ev_bipush (pc := 66) hC dX6_goesYear_66 (by decide) ?_
              refine ev_icmp_ge (pc := 68) hC 117 dX6_goesYear_68 (by decide) (by omega) (by omega) (fun c68 => ?_) (fun c68 => ?_)
              · refine ev_iconst (pc := 117) hC dX6_goesYear_117 ?_
                refine ev_istore (pc := 118) hC dX6_goesYear_118 (by rw [hKn]; decide) rfl ?_
                show Ev K 120 [some (.ref 29), some (vi (b2i wd)), some (vi ((here A : Nat) : Int)), some (vi ((m : Nat) : Int)), some (vi 0)] [] Z
                have lp120 : ∀ (fz : Nat) (p : Nat) (U : Mem), A 5 0 - p < fz → (p ≤ A 5 0) → (∀ q, ¬ q = 34 → ¬ q = 35 → U q = Z q) → (∀ k, k < A 5 0 → U 35 k = zI (((if k < p then nextB G A k (here A) else A 4 k : Nat)) : Int)) → (∀ k, k < A 5 0 → U 34 k = zI (((if k < p then gcell G A k else A 3 k : Nat)) : Int)) → Ev K 120 [some (.ref 29), some (vi (b2i wd)), some (vi ((here A : Nat) : Int)), some (vi ((m : Nat) : Int)), some (vi ((p : Nat) : Int))] [] U := by
                  intro fz
                  induction fz with
                  | zero => intro p U hfz; exact absurd hfz (Nat.not_lt_zero _)
                  | succ fz ih120 =>
                    intro p U hfz hp hU hB hCc
                    have hUn : U 29 6 = zI ((A 5 0 : Nat) : Int) := by rw [hU _ (by omega) (by omega), hZ _ (by omega), mset_ne _ _ _ _ (by omega)]; exact hAY.mn
                    have hUN : ∀ k, k < A 5 0 → U 41 k = zI ((nextB G A k (here A) : Nat) : Int) := fun k hk => by rw [hU _ (by omega) (by omega), hZ _ (by omega), mset_row (by omega)]; exact hN k (by omega)
                    refine ev_iload (pc := 120) hC dX6_goesYear_120 rfl ?_
                    refine ev_aload_n (pc := 122) hC dX6_goesYear_122 rfl ?_
                    refine ev_geti (pc := 123) hC ((A 5 0 : Nat) : Int) f52 dX6_goesYear_123 (by decide) (by decide) (by decide) (by decide) (by decide)  (hUn) ?_
                    refine ev_icmp_ge (pc := 126) hC 176 dX6_goesYear_126 (by decide) (by omega) (by omega) (fun c126 => ?_) (fun c126 => ?_)
                    · exact ev_return (pc := 176) hC hR dX6_goesYear_176 (⟨rfl, gy_rep hAY hm (show 25 ≤ j by omega) hD hZ hU (show A 5 0 ≤ p by omega) hB hCc, gy_fr hF hZ hU⟩)
                    · refine ev_aload_n (pc := 129) hC dX6_goesYear_129 rfl ?_
                      refine ev_getr (pc := 130) hC 35 f25 dX6_goesYear_130 (by decide) (by decide) (by decide) (by decide) (by decide) ?_
                      refine ev_iload (pc := 133) hC dX6_goesYear_133 rfl ?_
                      refine ev_aload_n (pc := 135) hC dX6_goesYear_135 rfl ?_
                      refine ev_getr (pc := 136) hC 41 f43 dX6_goesYear_136 (by decide) (by decide) (by decide) (by decide) (by decide) ?_
                      refine ev_iload (pc := 139) hC dX6_goesYear_139 rfl ?_
                      refine ev_iald (pc := 141) hC p ((nextB G A p (here A) : Nat) : Int) (by decide) (by decide) (rfl) (by have := (show alen 41 = 8 from rfl); omega) (hUN p (by omega)) dX6_goesYear_141 ?_
                      refine ev_iast (pc := 142) hC p (by decide) (by decide) (rfl) (by have := (show alen 35 = 8 from rfl); omega) dX6_goesYear_142 ?_
                      refine ev_aload_n (pc := 143) hC dX6_goesYear_143 rfl ?_
                      refine ev_iload (pc := 144) hC dX6_goesYear_144 rfl ?_
                      refine ev_callV (pc := 146) (as := [vi ((p : Nat) : Int)]) (rest := []) hC gX6_goesYear_X6_believesNow mtX6_believesNow dX6_goesYear_146 (ru_X6_believesNow p (nextB G A p (here A)) (by omega) (mset_eq _ _ _ _) (nextB_le _ _ _ _)) (by decide) (by decide) (by decide) rfl (by rfl) (Nat.le_of_ble_eq_true rfl) rfl (fun v146 X146 h146 => ?_)
                      obtain ⟨rfl, rfl⟩ := h146
                      show Ev K 149 [some (.ref 29), some (vi (b2i wd)), some (vi ((here A : Nat) : Int)), some (vi ((m : Nat) : Int)), some (vi ((p : Nat) : Int))] [vi (b2i (decide (5 ≤ nextB G A p (here A))))] (mset U 35 p (zI ((nextB G A p (here A) : Nat) : Int)))
                      have hr146 := b2i_r (decide (5 ≤ nextB G A p (here A)))
                      refine ev_if_eq (pc := 149) hC 170 dX6_goesYear_149 (by decide) (by omega) (fun c149 => ?_) (fun c149 => ?_)
                      · have e5 : ¬ 5 ≤ nextB G A p (here A) := of_decide_eq_false (b2i_0 c149)
                        refine ev_iinc (pc := 170) hC ((p + 1 : Nat) : Int) dX6_goesYear_170 rfl (by omega) (by rw [hKn]; decide) rfl ?_
                        show Ev K 173 [some (.ref 29), some (vi (b2i wd)), some (vi ((here A : Nat) : Int)), some (vi ((m : Nat) : Int)), some (vi ((p + 1 : Nat) : Int))] [] (mset U 35 p (zI ((nextB G A p (here A) : Nat) : Int)))
                        refine ev_goto (pc := 173) hC 120 dX6_goesYear_173 (by decide) ?_
                        exact ih120 (p + 1) (mset U 35 p (zI ((nextB G A p (here A) : Nat) : Int))) (by omega) (by omega) (fun q h1 h2 => by first | (rw [mset_row h1, mset_row h2]; exact hU q h1 h2) | (rw [mset_row h2]; exact hU q h1 h2)) (arr_if_put hB rfl) (arr_row (arr_if_keep hCc (gcell_s (by omega))) (by omega))
                      · have e5 : 5 ≤ nextB G A p (here A) := of_decide_eq_true (b2i_1 c149)
                        refine ev_aload_n (pc := 152) hC dX6_goesYear_152 rfl ?_
                        refine ev_getr (pc := 153) hC 34 f22 dX6_goesYear_153 (by decide) (by decide) (by decide) (by decide) (by decide) ?_
                        refine ev_iload (pc := 156) hC dX6_goesYear_156 rfl ?_
                        refine ev_aload_n (pc := 158) hC dX6_goesYear_158 rfl ?_
                        refine ev_getr (pc := 159) hC 34 f22 dX6_goesYear_159 (by decide) (by decide) (by decide) (by decide) (by decide) ?_
                        refine ev_iload (pc := 162) hC dX6_goesYear_162 rfl ?_
                        have hb164 := hA.c25 p (by omega)
                        refine ev_iald (pc := 164) hC p ((A 3 p : Nat) : Int) (by decide) (by decide) (rfl) (by have := (show alen 34 = 8 from rfl); omega) ((by rw [mset_row (by omega)]; exact (hCc p (by omega)).trans (by rw [if_neg (by omega)]))) dX6_goesYear_164 ?_
                        refine ev_iload_n (pc := 165) hC dX6_goesYear_165 rfl ?_
                        refine ev_callS (pc := 166) (as := [vi ((A 3 p : Nat) : Int), vi ((here A : Nat) : Int)]) (rest := [vi ((p : Nat) : Int), .ref 34]) hC gX6_goesYear_X6_towards mtX6_towards dX6_goesYear_166 (ru_X6_towards (A 3 p) (here A) (by omega) (by omega)) (by decide) (by rfl) (Nat.le_of_ble_eq_true rfl) rfl (fun v166 X166 h166 => ?_)
                        obtain ⟨rfl, rfl⟩ := h166
                        show Ev K 169 [some (.ref 29), some (vi (b2i wd)), some (vi ((here A : Nat) : Int)), some (vi ((m : Nat) : Int)), some (vi ((p : Nat) : Int))] [vi ((toward (A 3 p) (here A) : Nat) : Int), vi ((p : Nat) : Int), .ref 34] (mset U 35 p (zI ((nextB G A p (here A) : Nat) : Int)))
                        have hl166 := toward_lt (a := A 3 p) (b := here A) (by omega) (by omega)
                        refine ev_iast (pc := 169) hC p (by decide) (by decide) (rfl) (by have := (show alen 34 = 8 from rfl); omega) dX6_goesYear_169 ?_
                        refine ev_iinc (pc := 170) hC ((p + 1 : Nat) : Int) dX6_goesYear_170 rfl (by omega) (by rw [hKn]; decide) rfl ?_
                        show Ev K 173 [some (.ref 29), some (vi (b2i wd)), some (vi ((here A : Nat) : Int)), some (vi ((m : Nat) : Int)), some (vi ((p + 1 : Nat) : Int))] [] (mset (mset U 35 p (zI ((nextB G A p (here A) : Nat) : Int))) 34 p (zI ((toward (A 3 p) (here A) : Nat) : Int)))
                        refine ev_goto (pc := 173) hC 120 dX6_goesYear_173 (by decide) ?_
                        exact ih120 (p + 1) (mset (mset U 35 p (zI ((nextB G A p (here A) : Nat) : Int))) 34 p (zI ((toward (A 3 p) (here A) : Nat) : Int))) (by omega) (by omega) (fun q h1 h2 => by first | (rw [mset_row h1, mset_row h2]; exact hU q h1 h2) | (rw [mset_row h2]; exact hU q h1 h2)) (arr_row (arr_if_put hB rfl) (by omega)) (arr_if_put (arr_row hCc (by omega)) (by rw [gcell_m e5]))
                exact lp120 _ 0 Z (Nat.lt_succ_self _) (by omega) (fun q _ _ => rfl) (fun k hk => by rw [if_neg (by omega), hZ _ (by omega), mset_row (by omega)]; exact hAY.m4 k hk) (fun k hk => by rw [if_neg (by omega), hZ _ (by omega), mset_row (by omega)]; exact hAY.m3 k hk)
              · refine ev_aload_n (pc := 71) hC dX6_goesYear_71 rfl ?_
                refine ev_getr (pc := 72) hC 31 f13 dX6_goesYear_72 (by decide) (by decide) (by decide) (by decide) (by decide) ?_
                refine ev_iload (pc := 75) hC dX6_goesYear_75 rfl ?_
                refine ev_iload (pc := 77) hC dX6_goesYear_77 rfl ?_
                refine ev_iload_n (pc := 79) hC dX6_goesYear_79 rfl ?_
                refine ev_icmp_ne (pc := 80) hC 95 dX6_goesYear_80 (by decide) (by omega) (by omega) (fun c80 => ?_) (fun c80 => ?_)
                · refine ev_aload_n (pc := 95) hC dX6_goesYear_95 rfl ?_
                  refine ev_getr (pc := 96) hC 31 f13 dX6_goesYear_96 (by decide) (by decide) (by decide) (by decide) (by decide) ?_
                  refine ev_iload (pc := 99) hC dX6_goesYear_99 rfl ?_
                  have hb101 := hA.d99 j (by omega)
                  refine ev_iald (pc := 101) hC j ((A 0 j : Nat) : Int) (by decide) (by decide) (rfl) (by have := (show alen 31 = 25 from rfl); omega) ((hD j (by omega)).trans (by rw [if_neg (by omega)])) dX6_goesYear_101 ?_
                  refine ev_iconst (pc := 102) hC dX6_goesYear_102 ?_
                  refine ev_isub (pc := 103) hC (((A 0 j : Nat) : Int) - 1) (rfl) dX6_goesYear_103 ?_
                  refine ev_iconst (pc := 104) hC dX6_goesYear_104 ?_
                  refine ev_bipush (pc := 105) hC dX6_goesYear_105 (by decide) ?_
                  refine ev_callS (pc := 107) (as := [vi (((A 0 j : Nat) : Int) - 1), vi 0, vi 99]) (rest := [vi ((j : Nat) : Int), .ref 31]) hC gX6_goesYear_X6_held mtX6_held dX6_goesYear_107 (ru_X6_held (((A 0 j : Nat) : Int) - 1) 0 99 (by omega) (by omega) (by omega)) (by decide) (by rfl) (Nat.le_of_ble_eq_true rfl) rfl (fun v107 X107 h107 => ?_)
                  obtain ⟨rfl, rfl⟩ := h107
                  show Ev K 110 [some (.ref 29), some (vi (b2i wd)), some (vi ((here A : Nat) : Int)), some (vi ((m : Nat) : Int)), some (vi ((j : Nat) : Int))] [vi (hld (((A 0 j : Nat) : Int) - 1) 0 99), vi ((j : Nat) : Int), .ref 31] Z
                  have hhd107 := hld_cases (((A 0 j : Nat) : Int) - 1) 0 99
                  refine ev_iast (pc := 110) hC j (by decide) (by decide) (rfl) (by have := (show alen 31 = 25 from rfl); omega) dX6_goesYear_110 ?_
                  refine ev_iinc (pc := 111) hC ((j + 1 : Nat) : Int) dX6_goesYear_111 rfl (by omega) (by rw [hKn]; decide) rfl ?_
                  show Ev K 114 [some (.ref 29), some (vi (b2i wd)), some (vi ((here A : Nat) : Int)), some (vi ((m : Nat) : Int)), some (vi ((j + 1 : Nat) : Int))] [] (mset Z 31 j (zI (hld (((A 0 j : Nat) : Int) - 1) 0 99)))
                  refine ev_goto (pc := 114) hC 64 dX6_goesYear_114 (by decide) ?_
                  exact ih64 (j + 1) (mset Z 31 j (zI (hld (((A 0 j : Nat) : Int) - 1) 0 99))) (by omega) (by omega) (fun q hq => by rw [mset_row hq]; exact hZ q hq) (arr_if_put hD (by unfold dpn; split <;> omega))
                · refine ev_aload_n (pc := 83) hC dX6_goesYear_83 rfl ?_
                  refine ev_getr (pc := 84) hC 31 f13 dX6_goesYear_84 (by decide) (by decide) (by decide) (by decide) (by decide) ?_
                  refine ev_iload (pc := 87) hC dX6_goesYear_87 rfl ?_
                  have hb89 := hA.d99 j (by omega)
                  refine ev_iald (pc := 89) hC j ((A 0 j : Nat) : Int) (by decide) (by decide) (rfl) (by have := (show alen 31 = 25 from rfl); omega) ((hD j (by omega)).trans (by rw [if_neg (by omega)])) dX6_goesYear_89 ?_
                  refine ev_iload_n (pc := 90) hC dX6_goesYear_90 rfl ?_
                  refine ev_iadd (pc := 91) hC (((A 0 j) + m : Nat) : Int) (by omega) dX6_goesYear_91 ?_
                  refine ev_goto (pc := 92) hC 104 dX6_goesYear_92 (by decide) ?_
                  refine ev_iconst (pc := 104) hC dX6_goesYear_104 ?_
                  refine ev_bipush (pc := 105) hC dX6_goesYear_105 (by decide) ?_
                  refine ev_callS (pc := 107) (as := [vi (((A 0 j) + m : Nat) : Int), vi 0, vi 99]) (rest := [vi ((j : Nat) : Int), .ref 31]) hC gX6_goesYear_X6_held mtX6_held dX6_goesYear_107 (ru_X6_held (((A 0 j) + m : Nat) : Int) 0 99 (by omega) (by omega) (by omega)) (by decide) (by rfl) (Nat.le_of_ble_eq_true rfl) rfl (fun v107 X107 h107 => ?_)
                  obtain ⟨rfl, rfl⟩ := h107
                  show Ev K 110 [some (.ref 29), some (vi (b2i wd)), some (vi ((here A : Nat) : Int)), some (vi ((m : Nat) : Int)), some (vi ((j : Nat) : Int))] [vi (hld (((A 0 j) + m : Nat) : Int) 0 99), vi ((j : Nat) : Int), .ref 31] Z
                  have hhd107 := hld_cases (((A 0 j) + m : Nat) : Int) 0 99
                  refine ev_iast (pc := 110) hC j (by decide) (by decide) (rfl) (by have := (show alen 31 = 25 from rfl); omega) dX6_goesYear_110 ?_
                  refine ev_iinc (pc := 111) hC ((j + 1 : Nat) : Int) dX6_goesYear_111 rfl (by omega) (by rw [hKn]; decide) rfl ?_
                  show Ev K 114 [some (.ref 29), some (vi (b2i wd)), some (vi ((here A : Nat) : Int)), some (vi ((m : Nat) : Int)), some (vi ((j + 1 : Nat) : Int))] [] (mset Z 31 j (zI (hld (((A 0 j) + m : Nat) : Int) 0 99)))
                  refine ev_goto (pc := 114) hC 64 dX6_goesYear_114 (by decide) ?_
                  exact ih64 (j + 1) (mset Z 31 j (zI (hld (((A 0 j) + m : Nat) : Int) 0 99))) (by omega) (by omega) (fun q hq => by rw [mset_row hq]; exact hZ q hq) (arr_if_put hD (by unfold dpn; split <;> omega))
          exact lp64 _ 0 (mset Y 29 7 (zI ((A 5 1 + 1 : Nat) : Int))) (Nat.lt_succ_self _) (by omega) (fun q _ => rfl) (fun k hk => by rw [if_neg (by omega), mset_row (by omega)]; exact hAY.m0 k hk)
        · refine ev_aload_n (pc := 31) hC dX6_goesYear_31 rfl ?_
          refine ev_getr (pc := 32) hC 41 f43 dX6_goesYear_32 (by decide) (by decide) (by decide) (by decide) (by decide) ?_
          refine ev_iload (pc := 35) hC dX6_goesYear_35 rfl ?_
          refine ev_aload_n (pc := 37) hC dX6_goesYear_37 rfl ?_
          refine ev_iload (pc := 38) hC dX6_goesYear_38 rfl ?_
          refine ev_iload_n (pc := 40) hC dX6_goesYear_40 rfl ?_
          refine ev_callV (pc := 41) (as := [vi ((i : Nat) : Int), vi ((here A : Nat) : Int)]) (rest := [vi ((i : Nat) : Int), .ref 41]) hC gX6_goesYear_X6_nextBelief mtX6_nextBelief dX6_goesYear_41 (ru_X6_nextBelief hAY hgY hG i (here A) (by omega) (by omega)) (by decide) (by decide) (by decide) rfl (by rfl) (Nat.le_of_ble_eq_true rfl) rfl (fun v41 X41 h41 => ?_)
          obtain ⟨rfl, rfl⟩ := h41
          show Ev K 44 [some (.ref 29), some (vi (b2i wd)), some (vi ((here A : Nat) : Int)), some (vi ((m : Nat) : Int)), some (vi ((i : Nat) : Int))] [vi ((nextB G A i (here A) : Nat) : Int), vi ((i : Nat) : Int), .ref 41] Y
          have hl41 := nextB_le G A i (here A)
          refine ev_iast (pc := 44) hC i (by decide) (by decide) (rfl) (by have := (show alen 41 = 8 from rfl); omega) dX6_goesYear_44 ?_
          refine ev_iinc (pc := 45) hC ((i + 1 : Nat) : Int) dX6_goesYear_45 rfl (by omega) (by rw [hKn]; decide) rfl ?_
          show Ev K 48 [some (.ref 29), some (vi (b2i wd)), some (vi ((here A : Nat) : Int)), some (vi ((m : Nat) : Int)), some (vi ((i + 1 : Nat) : Int))] [] (mset Y 41 i (zI ((nextB G A i (here A) : Nat) : Int)))
          refine ev_goto (pc := 48) hC 22 dX6_goesYear_48 (by decide) ?_
          exact ih22 (i + 1) (mset Y 41 i (zI ((nextB G A i (here A) : Nat) : Int))) (by omega) (by omega) (fun q hq => by rw [mset_row hq]; exact hF q hq) (arr_grow hN rfl)
    exact lp22 _ 0 X (Nat.lt_succ_self _) (by omega) (fun q _ => rfl) (fun k hk => absurd hk (Nat.not_lt_zero k))
  refine ev_iload_n (pc := 5) hC dX6_goesYear_5 rfl ?_
  refine ev_if_eq (pc := 6) hC 13 dX6_goesYear_6 (by decide) (by omega) (fun c6 => ?_) (fun c6 => ?_)
  · refine ev_aload_n (pc := 13) hC dX6_goesYear_13 rfl ?_
    refine ev_iload_n (pc := 14) hC dX6_goesYear_14 rfl ?_
    refine ev_callV (pc := 15) (as := [vi ((here A : Nat) : Int)]) (rest := []) hC gX6_goesYear_X6_believersAt mtX6_believersAt dX6_goesYear_15 (ru_X6_believersAt hA hg hG (here A) (by omega)) (by decide) (by decide) (by decide) rfl (by rfl) (Nat.le_of_ble_eq_true rfl) rfl (fun v15 X15 h15 => ?_)
    obtain ⟨rfl, rfl⟩ := h15
    show Ev K 18 [some (.ref 29), some (vi (b2i wd)), some (vi ((here A : Nat) : Int)), none, none] [vi ((blvAt G A (here A) : Nat) : Int)] X
    have hl15 : blvAt G A (here A) ≤ A 5 0 := cntB_le _ _
    exact J18 (blvAt G A (here A)) (by rw [if_neg (by rw [b2i_0 c6]; decide)]) (by omega)
  · refine ev_iconst (pc := 9) hC dX6_goesYear_9 ?_
    refine ev_goto (pc := 10) hC 18 dX6_goesYear_10 (by decide) ?_
    exact J18 0 (by rw [if_pos (b2i_1 c6)]) (by omega)
theorem mtX6_goes : MT yX6_goes wsX6_goes cX6_goes 3 none 1 := ⟨⟨_, rfl⟩, by decide, by decide, by decide +kernel⟩
set_option maxRecDepth 100000 in
set_option maxHeartbeats 4000000 in
theorem ru_X6_goes {X : Mem} {A : Sl} {G : Nat} (hA : Rp (vM X) A) (hg : X 29 8 = zI (G : Nat)) (hG : G < 256) (n : Nat) (hn : n ≤ 1000) : Ru yX6_goes wsX6_goes 8 177 [.ref 29, vi ((n : Nat) : Int)] X (fun v X' => v = none ∧ Rp (vM X') (goN G n A) ∧ frT 3 X X') := by
  refine ru_of (w2 := _) rfl (by decide) [some (.ref 29), some (vi ((n : Nat) : Int)), none] (fun _ => rfl) (fun _ => Nat.le_of_ble_eq_true rfl) ?_
  intro K hKn hC hR
  have hn8 := hA.n8
  refine ev_iconst (pc := 0) hC dX6_goes_0 ?_
  refine ev_istore_n (pc := 1) hC dX6_goes_1 (by rw [hKn]; decide) rfl ?_
  show Ev K 2 [some (.ref 29), some (vi ((n : Nat) : Int)), some (vi 0)] [] X
  have lp2 : ∀ (fz : Nat) (i : Nat) (Y : Mem), n - i < fz → (i ≤ n) → (Rp (vM Y) (goN G i A)) → (Y 29 8 = zI ((G : Nat) : Int)) → (frT 3 X Y) → Ev K 2 [some (.ref 29), some (vi ((n : Nat) : Int)), some (vi ((i : Nat) : Int))] [] Y := by
    intro fz
    induction fz with
    | zero => intro i Y hfz; exact absurd hfz (Nat.not_lt_zero _)
    | succ fz ih2 =>
      intro i Y hfz hi hAY hgY hFY
      have hY8 := hAY.n8
      refine ev_iload_n (pc := 2) hC dX6_goes_2 rfl ?_
      refine ev_iload_n (pc := 3) hC dX6_goes_3 rfl ?_
      refine ev_icmp_ge (pc := 4) hC 18 dX6_goes_4 (by decide) (by omega) (by omega) (fun c4 => ?_) (fun c4 => ?_)
      · exact ev_return (pc := 18) hC hR dX6_goes_18 (⟨rfl, by rw [show n = i by omega]; exact hAY, hFY⟩)
      · refine ev_aload_n (pc := 7) hC dX6_goes_7 rfl ?_
        refine ev_iconst (pc := 8) hC dX6_goes_8 ?_
        refine ev_callV (pc := 9) (as := [vi 0]) (rest := []) hC gX6_goes_X6_goesYear mtX6_goesYear dX6_goes_9 (ru_X6_goesYear hAY hgY hG false) (by decide) (by decide) (by decide) rfl (by rfl) (Nat.le_of_ble_eq_true rfl) rfl (fun v9 X9 h9 => ?_)
        obtain ⟨rfl, hA9, hF9⟩ := h9
        show Ev K 12 [some (.ref 29), some (vi ((n : Nat) : Int)), some (vi ((i : Nat) : Int))] [] X9
        have hg9 := frT_gone hF9 hgY
        have hFr9 := frT_tr hFY hF9 (by omega)
        have hn8_9 := hA9.n8
        refine ev_iinc (pc := 12) hC ((i + 1 : Nat) : Int) dX6_goes_12 rfl (by omega) (by rw [hKn]; decide) rfl ?_
        show Ev K 15 [some (.ref 29), some (vi ((n : Nat) : Int)), some (vi ((i + 1 : Nat) : Int))] [] X9
        refine ev_goto (pc := 15) hC 2 dX6_goes_15 (by decide) ?_
        exact ih2 (i + 1) X9 (by omega) (by omega) hA9 hg9 hFr9
  exact lp2 _ 0 X (Nat.lt_succ_self _) (by omega) hA hg (frT_rf 3 X)
theorem mtX6_passes : MT yX6_passes wsX6_passes cX6_passes 3 none 1 := ⟨⟨_, rfl⟩, by decide, by decide, by decide +kernel⟩
set_option maxRecDepth 100000 in
set_option maxHeartbeats 4000000 in
theorem ru_X6_passes_k {X : Mem} {X0 : Mem} (w r m n : Nat) (hw : w ≤ 2) (hr : rmn r m n) (h : KS X0 X w m) : Ru yX6_passes wsX6_passes 0 0 [.ref 29, .ref r] X (fun v X' => v = none ∧ KS X0 X' w (m + n)) := by
  refine ru_of (w2 := _) rfl (by decide) [some (.ref 29), some (.ref r), none] (fun _ => rfl) (fun _ => Nat.le_of_ble_eq_true rfl) ?_
  intro K hKn hC hR
  have wX6 : ∀ w ∈ u_ws RX6 TX6 25, w ∈ wsX6_passes := by decide +kernel
  have f135 : Fl K RX6 135 6 18 := fl_of hC RX6 TX6 25 rfl (by decide) wX6 (show Cond.fieldLink RX6 135 "PicnicOfSomebodyModel" "isKeeping" "Z" ∈ _ by decide +kernel)
  have f40 : Fl K RX6 40 6 16 := fl_of hC RX6 TX6 25 rfl (by decide) wX6 (show Cond.fieldLink RX6 40 "PicnicOfSomebodyModel" "kept" "[I" ∈ _ by decide +kernel)
  have f139 : Fl K RX6 139 6 19 := fl_of hC RX6 TX6 25 rfl (by decide) wX6 (show Cond.fieldLink RX6 139 "PicnicOfSomebodyModel" "cursor" "I" ∈ _ by decide +kernel)
  have hrr := rmn_r hr
  have hal := rmn_al hr
  have hlt_r : r < 44 := by omega
  have hao_r : isO r = false := pl_ao (by omega)
  have hal_r : alen r = n := hal
  refine ev_iconst (pc := 0) hC dX6_passes_0 ?_
  refine ev_istore_n (pc := 1) hC dX6_passes_1 (by rw [hKn]; decide) rfl ?_
  show Ev K 2 [some (.ref 29), some (.ref r), some (vi 0)] [] X
  have lp2 : ∀ (fz : Nat) (i : Nat) (Y : Mem), n - i < fz → (i ≤ n) → (KS X0 Y w (m + i)) → Ev K 2 [some (.ref 29), some (.ref r), some (vi ((i : Nat) : Int))] [] Y := by
    intro fz
    induction fz with
    | zero => intro i Y hfz; exact absurd hfz (Nat.not_lt_zero _)
    | succ fz ih2 =>
      intro i Y hfz hi hY
      refine ev_iload_n (pc := 2) hC dX6_passes_2 rfl ?_
      refine ev_aload_n (pc := 3) hC dX6_passes_3 rfl ?_
      refine ev_alen (pc := 4) hC ((n : Nat) : Int) (hlt_r) (hao_r) (by have := (hal_r); omega) dX6_passes_4 ?_
      refine ev_icmp_ge (pc := 5) hC 58 dX6_passes_5 (by decide) (by omega) (by omega) (fun c5 => ?_) (fun c5 => ?_)
      · exact ev_return (pc := 58) hC hR dX6_passes_58 (⟨rfl, by rw [show n = i by omega]; exact hY⟩)
      · refine ev_aload_n (pc := 8) hC dX6_passes_8 rfl ?_
        refine ev_geti (pc := 9) hC 1 f135 dX6_passes_9 (by decide) (by decide) (by decide) (by decide) (by decide)  (hY.2.2.1) ?_
        refine ev_if_eq (pc := 12) hC 30 dX6_passes_12 (by decide) (by omega) (fun c12 => absurd c12 (by decide)) (fun c12 => ?_)
        refine ev_aload_n (pc := 15) hC dX6_passes_15 rfl ?_
        refine ev_getr (pc := 16) hC 40 f40 dX6_passes_16 (by decide) (by decide) (by decide) (by decide) (by decide) ?_
        refine ev_aload_n (pc := 19) hC dX6_passes_19 rfl ?_
        refine ev_geti (pc := 20) hC ((60 * w + (m + i) : Nat) : Int) f139 dX6_passes_20 (by decide) (by decide) (by decide) (by decide) (by decide)  (hY.2.2.2.1) ?_
        refine ev_aload_n (pc := 23) hC dX6_passes_23 rfl ?_
        refine ev_iload_n (pc := 24) hC dX6_passes_24 rfl ?_
        refine ev_iald (pc := 25) hC i ((Y r i).toInt) (hlt_r) (hao_r) (rfl) (by have := (hal_r); omega) ((zI_self _).symm) dX6_passes_25 ?_
        refine ev_iast (pc := 26) hC (60 * w + (m + i)) (by decide) (by decide) (rfl) (by have := (show alen 40 = 180 from rfl); omega) dX6_passes_26 ?_
        refine ev_goto (pc := 27) hC 42 dX6_passes_27 (by decide) ?_
        refine ev_aload_n (pc := 42) hC dX6_passes_42 rfl ?_
        refine ev_dup (pc := 43) hC rfl dX6_passes_43 ?_
        refine ev_geti (pc := 44) hC ((60 * w + (m + i) : Nat) : Int) f139 dX6_passes_44 (by decide) (by decide) (by decide) (by decide) (by decide)  ((by rw [mset_row (by omega)]; exact hY.2.2.2.1)) ?_
        refine ev_iconst (pc := 47) hC dX6_passes_47 ?_
        refine ev_iadd (pc := 48) hC (((60 * w + (m + i)) + 1 : Nat) : Int) (by omega) dX6_passes_48 ?_
        refine ev_puti (pc := 49) hC f139 fpX6_19 dX6_passes_49 (by decide) (by decide) (by decide) (by decide) (by decide) (rfl) (rfl) ?_
        refine ev_iinc (pc := 52) hC ((i + 1 : Nat) : Int) dX6_passes_52 rfl (by omega) (by rw [hKn]; decide) rfl ?_
        show Ev K 55 [some (.ref 29), some (.ref r), some (vi ((i + 1 : Nat) : Int))] [] (mset (mset Y 40 (60 * w + (m + i)) (zI ((Y r i).toInt))) 29 19 (zI (((60 * w + (m + i)) + 1 : Nat) : Int)))
        refine ev_goto (pc := 55) hC 2 dX6_passes_55 (by decide) ?_
        exact ih2 (i + 1) (mset (mset Y 40 (60 * w + (m + i)) (zI ((Y r i).toInt))) 29 19 (zI (((60 * w + (m + i)) + 1 : Nat) : Int))) (by omega) (by omega) (by have := ks_put hY (v := zI (Y r i).toInt) (by rw [zI_self, hY.1 r (by omega) (by omega)]; exact (flat_at hr (by omega)).symm); exact this)
  exact lp2 _ 0 X (Nat.lt_succ_self _) (by omega) h
set_option maxRecDepth 100000 in
set_option maxHeartbeats 4000000 in
theorem ru_X6_passes_p {X : Mem} {X0 : Mem} (w r m n : Nat) (hw : w ≤ 2) (hr : rmn r m n) (h : PS X0 X w m m) : Ru yX6_passes wsX6_passes 0 0 [.ref 29, .ref r] X (fun v X' => v = none ∧ PS X0 X' w (m + n) (m + n)) := by
  refine ru_of (w2 := _) rfl (by decide) [some (.ref 29), some (.ref r), none] (fun _ => rfl) (fun _ => Nat.le_of_ble_eq_true rfl) ?_
  intro K hKn hC hR
  have wX6 : ∀ w ∈ u_ws RX6 TX6 25, w ∈ wsX6_passes := by decide +kernel
  have f135 : Fl K RX6 135 6 18 := fl_of hC RX6 TX6 25 rfl (by decide) wX6 (show Cond.fieldLink RX6 135 "PicnicOfSomebodyModel" "isKeeping" "Z" ∈ _ by decide +kernel)
  have f40 : Fl K RX6 40 6 16 := fl_of hC RX6 TX6 25 rfl (by decide) wX6 (show Cond.fieldLink RX6 40 "PicnicOfSomebodyModel" "kept" "[I" ∈ _ by decide +kernel)
  have f139 : Fl K RX6 139 6 19 := fl_of hC RX6 TX6 25 rfl (by decide) wX6 (show Cond.fieldLink RX6 139 "PicnicOfSomebodyModel" "cursor" "I" ∈ _ by decide +kernel)
  have hrr := rmn_r hr
  have hal := rmn_al hr
  have hlt_r : r < 44 := by omega
  have hao_r : isO r = false := pl_ao (by omega)
  have hal_r : alen r = n := hal
  refine ev_iconst (pc := 0) hC dX6_passes_0 ?_
  refine ev_istore_n (pc := 1) hC dX6_passes_1 (by rw [hKn]; decide) rfl ?_
  show Ev K 2 [some (.ref 29), some (.ref r), some (vi 0)] [] X
  have lp2 : ∀ (fz : Nat) (i : Nat) (Y : Mem), n - i < fz → (i ≤ n) → (PS X0 Y w (m + i) (m + i)) → Ev K 2 [some (.ref 29), some (.ref r), some (vi ((i : Nat) : Int))] [] Y := by
    intro fz
    induction fz with
    | zero => intro i Y hfz; exact absurd hfz (Nat.not_lt_zero _)
    | succ fz ih2 =>
      intro i Y hfz hi hY
      refine ev_iload_n (pc := 2) hC dX6_passes_2 rfl ?_
      refine ev_aload_n (pc := 3) hC dX6_passes_3 rfl ?_
      refine ev_alen (pc := 4) hC ((n : Nat) : Int) (hlt_r) (hao_r) (by have := (hal_r); omega) dX6_passes_4 ?_
      refine ev_icmp_ge (pc := 5) hC 58 dX6_passes_5 (by decide) (by omega) (by omega) (fun c5 => ?_) (fun c5 => ?_)
      · exact ev_return (pc := 58) hC hR dX6_passes_58 (⟨rfl, by rw [show n = i by omega]; exact hY⟩)
      · refine ev_aload_n (pc := 8) hC dX6_passes_8 rfl ?_
        refine ev_geti (pc := 9) hC 0 f135 dX6_passes_9 (by decide) (by decide) (by decide) (by decide) (by decide)  (hY.2.2.1) ?_
        refine ev_if_eq (pc := 12) hC 30 dX6_passes_12 (by decide) (by omega) (fun c12 => ?_) (fun c12 => absurd c12 (by decide))
        refine ev_aload_n (pc := 30) hC dX6_passes_30 rfl ?_
        refine ev_iload_n (pc := 31) hC dX6_passes_31 rfl ?_
        refine ev_aload_n (pc := 32) hC dX6_passes_32 rfl ?_
        refine ev_getr (pc := 33) hC 40 f40 dX6_passes_33 (by decide) (by decide) (by decide) (by decide) (by decide) ?_
        refine ev_aload_n (pc := 36) hC dX6_passes_36 rfl ?_
        refine ev_geti (pc := 37) hC ((60 * w + (m + i) : Nat) : Int) f139 dX6_passes_37 (by decide) (by decide) (by decide) (by decide) (by decide)  (hY.2.2.2.1) ?_
        refine ev_iald (pc := 40) hC (60 * w + (m + i)) ((Y 40 (60 * w + (m + i))).toInt) (by decide) (by decide) (rfl) (by have := (show alen 40 = 180 from rfl); omega) ((zI_self _).symm) dX6_passes_40 ?_
        refine ev_iast (pc := 41) hC i (hlt_r) (hao_r) (rfl) (by have := (hal_r); omega) dX6_passes_41 ?_
        refine ev_aload_n (pc := 42) hC dX6_passes_42 rfl ?_
        refine ev_dup (pc := 43) hC rfl dX6_passes_43 ?_
        refine ev_geti (pc := 44) hC ((60 * w + (m + i) : Nat) : Int) f139 dX6_passes_44 (by decide) (by decide) (by decide) (by decide) (by decide)  ((by rw [mset_row (by omega)]; exact hY.2.2.2.1)) ?_
        refine ev_iconst (pc := 47) hC dX6_passes_47 ?_
        refine ev_iadd (pc := 48) hC (((60 * w + (m + i)) + 1 : Nat) : Int) (by omega) dX6_passes_48 ?_
        refine ev_puti (pc := 49) hC f139 fpX6_19 dX6_passes_49 (by decide) (by decide) (by decide) (by decide) (by decide) (rfl) (rfl) ?_
        refine ev_iinc (pc := 52) hC ((i + 1 : Nat) : Int) dX6_passes_52 rfl (by omega) (by rw [hKn]; decide) rfl ?_
        show Ev K 55 [some (.ref 29), some (.ref r), some (vi ((i + 1 : Nat) : Int))] [] (mset (mset Y r i (zI ((Y 40 (60 * w + (m + i))).toInt))) 29 19 (zI (((60 * w + (m + i)) + 1 : Nat) : Int)))
        refine ev_goto (pc := 55) hC 2 dX6_passes_55 (by decide) ?_
        exact ih2 (i + 1) (mset (mset Y r i (zI ((Y 40 (60 * w + (m + i))).toInt))) 29 19 (zI (((60 * w + (m + i)) + 1 : Nat) : Int))) (by omega) (by omega) (ps_put hY hr (by omega) (by rw [zI_self, hY.1 40 (by omega) (by omega)]))
  exact lp2 _ 0 X (Nat.lt_succ_self _) (by omega) h
theorem mtX6_passOne : MT yX6_passOne wsX6_passOne cX6_passOne 3 (some .int) 1 := ⟨⟨_, rfl⟩, by decide, by decide, by decide +kernel⟩
set_option maxRecDepth 100000 in
set_option maxHeartbeats 4000000 in
theorem ru_X6_passOne_k {X : Mem} {X0 : Mem} (w m : Nat) (x : Int) (hw : w ≤ 2) (hm : m ≤ 58) (h : KS X0 X w m) (hx : zI x = flat X0 m) : Ru yX6_passOne wsX6_passOne 0 0 [.ref 29, vi x] X (fun v X' => v = some (vi x) ∧ KS X0 X' w (m + 1)) := by
  refine ru_of (w2 := _) rfl (by decide) [some (.ref 29), some (vi x), none] (fun _ => rfl) (fun _ => Nat.le_of_ble_eq_true rfl) ?_
  intro K hKn hC hR
  have wX6 : ∀ w ∈ u_ws RX6 TX6 25, w ∈ wsX6_passOne := by decide +kernel
  have f135 : Fl K RX6 135 6 18 := fl_of hC RX6 TX6 25 rfl (by decide) wX6 (show Cond.fieldLink RX6 135 "PicnicOfSomebodyModel" "isKeeping" "Z" ∈ _ by decide +kernel)
  have f40 : Fl K RX6 40 6 16 := fl_of hC RX6 TX6 25 rfl (by decide) wX6 (show Cond.fieldLink RX6 40 "PicnicOfSomebodyModel" "kept" "[I" ∈ _ by decide +kernel)
  have f139 : Fl K RX6 139 6 19 := fl_of hC RX6 TX6 25 rfl (by decide) wX6 (show Cond.fieldLink RX6 139 "PicnicOfSomebodyModel" "cursor" "I" ∈ _ by decide +kernel)
  refine ev_aload_n (pc := 0) hC dX6_passOne_0 rfl ?_
  refine ev_geti (pc := 1) hC 1 f135 dX6_passOne_1 (by decide) (by decide) (by decide) (by decide) (by decide)  (h.2.2.1) ?_
  refine ev_if_eq (pc := 4) hC 11 dX6_passOne_4 (by decide) (by omega) (fun c4 => absurd c4 (by decide)) (fun c4 => ?_)
  refine ev_iload_n (pc := 7) hC dX6_passOne_7 rfl ?_
  refine ev_goto (pc := 8) hC 20 dX6_passOne_8 (by decide) ?_
  refine ev_istore_n (pc := 20) hC dX6_passOne_20 (by rw [hKn]; decide) rfl ?_
  show Ev K 21 [some (.ref 29), some (vi x), some (vi x)] [] X
  refine ev_aload_n (pc := 21) hC dX6_passOne_21 rfl ?_
  refine ev_geti (pc := 22) hC 1 f135 dX6_passOne_22 (by decide) (by decide) (by decide) (by decide) (by decide)  (h.2.2.1) ?_
  refine ev_if_eq (pc := 25) hC 38 dX6_passOne_25 (by decide) (by omega) (fun c25 => absurd c25 (by decide)) (fun c25 => ?_)
  refine ev_aload_n (pc := 28) hC dX6_passOne_28 rfl ?_
  refine ev_getr (pc := 29) hC 40 f40 dX6_passOne_29 (by decide) (by decide) (by decide) (by decide) (by decide) ?_
  refine ev_aload_n (pc := 32) hC dX6_passOne_32 rfl ?_
  refine ev_geti (pc := 33) hC ((60 * w + m : Nat) : Int) f139 dX6_passOne_33 (by decide) (by decide) (by decide) (by decide) (by decide)  (h.2.2.2.1) ?_
  refine ev_iload_n (pc := 36) hC dX6_passOne_36 rfl ?_
  refine ev_iast (pc := 37) hC (60 * w + m) (by decide) (by decide) (rfl) (by have := (show alen 40 = 180 from rfl); omega) dX6_passOne_37 ?_
  refine ev_aload_n (pc := 38) hC dX6_passOne_38 rfl ?_
  refine ev_dup (pc := 39) hC rfl dX6_passOne_39 ?_
  refine ev_geti (pc := 40) hC ((60 * w + m : Nat) : Int) f139 dX6_passOne_40 (by decide) (by decide) (by decide) (by decide) (by decide)  ((by rw [mset_row (by omega)]; exact h.2.2.2.1)) ?_
  refine ev_iconst (pc := 43) hC dX6_passOne_43 ?_
  refine ev_iadd (pc := 44) hC (((60 * w + m) + 1 : Nat) : Int) (by omega) dX6_passOne_44 ?_
  refine ev_puti (pc := 45) hC f139 fpX6_19 dX6_passOne_45 (by decide) (by decide) (by decide) (by decide) (by decide) (rfl) (rfl) ?_
  refine ev_iload_n (pc := 48) hC dX6_passOne_48 rfl ?_
  exact ev_ireturn (pc := 49) hC hR dX6_passOne_49 (⟨rfl, ks_put h hx⟩)
set_option maxRecDepth 100000 in
set_option maxHeartbeats 4000000 in
theorem ru_X6_passOne_p {X : Mem} {X0 : Mem} (w m : Nat) (x : Int) (hw : w ≤ 2) (hm : m ≤ 58) (h : PS X0 X w m m) : Ru yX6_passOne wsX6_passOne 0 0 [.ref 29, vi x] X (fun v X' => v = some (vi (X0 40 (60 * w + m)).toInt) ∧ PS X0 X' w m (m + 1)) := by
  refine ru_of (w2 := _) rfl (by decide) [some (.ref 29), some (vi x), none] (fun _ => rfl) (fun _ => Nat.le_of_ble_eq_true rfl) ?_
  intro K hKn hC hR
  have wX6 : ∀ w ∈ u_ws RX6 TX6 25, w ∈ wsX6_passOne := by decide +kernel
  have f135 : Fl K RX6 135 6 18 := fl_of hC RX6 TX6 25 rfl (by decide) wX6 (show Cond.fieldLink RX6 135 "PicnicOfSomebodyModel" "isKeeping" "Z" ∈ _ by decide +kernel)
  have f40 : Fl K RX6 40 6 16 := fl_of hC RX6 TX6 25 rfl (by decide) wX6 (show Cond.fieldLink RX6 40 "PicnicOfSomebodyModel" "kept" "[I" ∈ _ by decide +kernel)
  have f139 : Fl K RX6 139 6 19 := fl_of hC RX6 TX6 25 rfl (by decide) wX6 (show Cond.fieldLink RX6 139 "PicnicOfSomebodyModel" "cursor" "I" ∈ _ by decide +kernel)
  refine ev_aload_n (pc := 0) hC dX6_passOne_0 rfl ?_
  refine ev_geti (pc := 1) hC 0 f135 dX6_passOne_1 (by decide) (by decide) (by decide) (by decide) (by decide)  (h.2.2.1) ?_
  refine ev_if_eq (pc := 4) hC 11 dX6_passOne_4 (by decide) (by omega) (fun c4 => ?_) (fun c4 => absurd c4 (by decide))
  refine ev_aload_n (pc := 11) hC dX6_passOne_11 rfl ?_
  refine ev_getr (pc := 12) hC 40 f40 dX6_passOne_12 (by decide) (by decide) (by decide) (by decide) (by decide) ?_
  refine ev_aload_n (pc := 15) hC dX6_passOne_15 rfl ?_
  refine ev_geti (pc := 16) hC ((60 * w + m : Nat) : Int) f139 dX6_passOne_16 (by decide) (by decide) (by decide) (by decide) (by decide)  (h.2.2.2.1) ?_
  refine ev_iald (pc := 19) hC (60 * w + m) ((X0 40 (60 * w + m)).toInt) (by decide) (by decide) (rfl) (by have := (show alen 40 = 180 from rfl); omega) ((by rw [h.1 40 (by omega) (by omega)]; exact (zI_self _).symm)) dX6_passOne_19 ?_
  refine ev_istore_n (pc := 20) hC dX6_passOne_20 (by rw [hKn]; decide) rfl ?_
  show Ev K 21 [some (.ref 29), some (vi x), some (vi ((X0 40 (60 * w + m)).toInt))] [] X
  refine ev_aload_n (pc := 21) hC dX6_passOne_21 rfl ?_
  refine ev_geti (pc := 22) hC 0 f135 dX6_passOne_22 (by decide) (by decide) (by decide) (by decide) (by decide)  (h.2.2.1) ?_
  refine ev_if_eq (pc := 25) hC 38 dX6_passOne_25 (by decide) (by omega) (fun c25 => ?_) (fun c25 => absurd c25 (by decide))
  refine ev_aload_n (pc := 38) hC dX6_passOne_38 rfl ?_
  refine ev_dup (pc := 39) hC rfl dX6_passOne_39 ?_
  refine ev_geti (pc := 40) hC ((60 * w + m : Nat) : Int) f139 dX6_passOne_40 (by decide) (by decide) (by decide) (by decide) (by decide)  (h.2.2.2.1) ?_
  refine ev_iconst (pc := 43) hC dX6_passOne_43 ?_
  refine ev_iadd (pc := 44) hC (((60 * w + m) + 1 : Nat) : Int) (by omega) dX6_passOne_44 ?_
  refine ev_puti (pc := 45) hC f139 fpX6_19 dX6_passOne_45 (by decide) (by decide) (by decide) (by decide) (by decide) (rfl) (rfl) ?_
  refine ev_iload_n (pc := 48) hC dX6_passOne_48 rfl ?_
  exact ev_ireturn (pc := 49) hC hR dX6_passOne_49 (⟨rfl, ps_cur h⟩)
theorem mtX6_passesAll : MT yX6_passesAll wsX6_passesAll cX6_passesAll 3 none 2 := ⟨⟨_, rfl⟩, by decide, by decide, by decide +kernel⟩
set_option maxRecDepth 100000 in
set_option maxHeartbeats 4000000 in
theorem ru_X6_passesAll_k {X : Mem} (w : Nat) (hw : w ≤ 2) : Ru yX6_passesAll wsX6_passesAll 1 22 [.ref 29, vi ((w : Nat) : Int), vi 1] X (fun v X' => v = none ∧ KS X X' w 59) := by
  refine ru_of (w2 := _) rfl (by decide) [some (.ref 29), some (vi ((w : Nat) : Int)), some (vi 1)] (fun _ => rfl) (fun _ => Nat.le_of_ble_eq_true rfl) ?_
  intro K hKn hC hR
  have wX6 : ∀ w ∈ u_ws RX6 TX6 25, w ∈ wsX6_passesAll := by decide +kernel
  have f139 : Fl K RX6 139 6 19 := fl_of hC RX6 TX6 25 rfl (by decide) wX6 (show Cond.fieldLink RX6 139 "PicnicOfSomebodyModel" "cursor" "I" ∈ _ by decide +kernel)
  have f135 : Fl K RX6 135 6 18 := fl_of hC RX6 TX6 25 rfl (by decide) wX6 (show Cond.fieldLink RX6 135 "PicnicOfSomebodyModel" "isKeeping" "Z" ∈ _ by decide +kernel)
  have f13 : Fl K RX6 13 6 1 := fl_of hC RX6 TX6 25 rfl (by decide) wX6 (show Cond.fieldLink RX6 13 "PicnicOfSomebodyModel" "deep" "[I" ∈ _ by decide +kernel)
  have f16 : Fl K RX6 16 6 2 := fl_of hC RX6 TX6 25 rfl (by decide) wX6 (show Cond.fieldLink RX6 16 "PicnicOfSomebodyModel" "kind" "[I" ∈ _ by decide +kernel)
  have f19 : Fl K RX6 19 6 3 := fl_of hC RX6 TX6 25 rfl (by decide) wX6 (show Cond.fieldLink RX6 19 "PicnicOfSomebodyModel" "figure" "[I" ∈ _ by decide +kernel)
  have f22 : Fl K RX6 22 6 4 := fl_of hC RX6 TX6 25 rfl (by decide) wX6 (show Cond.fieldLink RX6 22 "PicnicOfSomebodyModel" "cell" "[I" ∈ _ by decide +kernel)
  have f25 : Fl K RX6 25 6 5 := fl_of hC RX6 TX6 25 rfl (by decide) wX6 (show Cond.fieldLink RX6 25 "PicnicOfSomebodyModel" "belief" "[I" ∈ _ by decide +kernel)
  have f52 : Fl K RX6 52 6 6 := fl_of hC RX6 TX6 25 rfl (by decide) wX6 (show Cond.fieldLink RX6 52 "PicnicOfSomebodyModel" "people" "I" ∈ _ by decide +kernel)
  have f104 : Fl K RX6 104 6 7 := fl_of hC RX6 TX6 25 rfl (by decide) wX6 (show Cond.fieldLink RX6 104 "PicnicOfSomebodyModel" "year" "I" ∈ _ by decide +kernel)
  refine ev_aload_n (pc := 0) hC dX6_passesAll_0 rfl ?_
  refine ev_bipush (pc := 1) hC dX6_passesAll_1 (by decide) ?_
  refine ev_iload_n (pc := 3) hC dX6_passesAll_3 rfl ?_
  refine ev_imul (pc := 4) hC ((60 * w : Nat) : Int) (by omega) dX6_passesAll_4 ?_
  refine ev_puti (pc := 5) hC f139 fpX6_19 dX6_passesAll_5 (by decide) (by decide) (by decide) (by decide) (by decide) (rfl) (rfl) ?_
  refine ev_aload_n (pc := 8) hC dX6_passesAll_8 rfl ?_
  refine ev_iload_n (pc := 9) hC dX6_passesAll_9 rfl ?_
  refine ev_puti (pc := 10) hC f135 fpX6_18 dX6_passesAll_10 (by decide) (by decide) (by decide) (by decide) (by decide) (by decide) (by decide) ?_
  have h0 := ks_0 (X := X) (w := w)
  refine ev_aload_n (pc := 13) hC dX6_passesAll_13 rfl ?_
  refine ev_aload_n (pc := 14) hC dX6_passesAll_14 rfl ?_
  refine ev_getr (pc := 15) hC 31 f13 dX6_passesAll_15 (by decide) (by decide) (by decide) (by decide) (by decide) ?_
  refine ev_callV (pc := 18) (as := [.ref 31]) (rest := []) hC gX6_passesAll_X6_passes mtX6_passes dX6_passesAll_18 (ru_X6_passes_k w 31 0 25 hw (Or.inl ⟨rfl, rfl, rfl⟩) h0) (by decide) (by decide) (by decide) rfl (by rfl) (Nat.le_of_ble_eq_true rfl) rfl (fun v18 X18 h18 => ?_)
  obtain ⟨rfl, h18_⟩ := h18
  show Ev K 21 [some (.ref 29), some (vi ((w : Nat) : Int)), some (vi 1)] [] X18
  refine ev_aload_n (pc := 21) hC dX6_passesAll_21 rfl ?_
  refine ev_aload_n (pc := 22) hC dX6_passesAll_22 rfl ?_
  refine ev_getr (pc := 23) hC 32 f16 dX6_passesAll_23 (by decide) (by decide) (by decide) (by decide) (by decide) ?_
  refine ev_callV (pc := 26) (as := [.ref 32]) (rest := []) hC gX6_passesAll_X6_passes mtX6_passes dX6_passesAll_26 (ru_X6_passes_k w 32 25 8 hw (Or.inr (Or.inl ⟨rfl, rfl, rfl⟩)) h18_) (by decide) (by decide) (by decide) rfl (by rfl) (Nat.le_of_ble_eq_true rfl) rfl (fun v26 X26 h26 => ?_)
  obtain ⟨rfl, h26_⟩ := h26
  show Ev K 29 [some (.ref 29), some (vi ((w : Nat) : Int)), some (vi 1)] [] X26
  refine ev_aload_n (pc := 29) hC dX6_passesAll_29 rfl ?_
  refine ev_aload_n (pc := 30) hC dX6_passesAll_30 rfl ?_
  refine ev_getr (pc := 31) hC 33 f19 dX6_passesAll_31 (by decide) (by decide) (by decide) (by decide) (by decide) ?_
  refine ev_callV (pc := 34) (as := [.ref 33]) (rest := []) hC gX6_passesAll_X6_passes mtX6_passes dX6_passesAll_34 (ru_X6_passes_k w 33 33 8 hw (Or.inr (Or.inr (Or.inl ⟨rfl, rfl, rfl⟩))) h26_) (by decide) (by decide) (by decide) rfl (by rfl) (Nat.le_of_ble_eq_true rfl) rfl (fun v34 X34 h34 => ?_)
  obtain ⟨rfl, h34_⟩ := h34
  show Ev K 37 [some (.ref 29), some (vi ((w : Nat) : Int)), some (vi 1)] [] X34
  refine ev_aload_n (pc := 37) hC dX6_passesAll_37 rfl ?_
  refine ev_aload_n (pc := 38) hC dX6_passesAll_38 rfl ?_
  refine ev_getr (pc := 39) hC 34 f22 dX6_passesAll_39 (by decide) (by decide) (by decide) (by decide) (by decide) ?_
  refine ev_callV (pc := 42) (as := [.ref 34]) (rest := []) hC gX6_passesAll_X6_passes mtX6_passes dX6_passesAll_42 (ru_X6_passes_k w 34 41 8 hw (Or.inr (Or.inr (Or.inr (Or.inl ⟨rfl, rfl, rfl⟩)))) h34_) (by decide) (by decide) (by decide) rfl (by rfl) (Nat.le_of_ble_eq_true rfl) rfl (fun v42 X42 h42 => ?_)
  obtain ⟨rfl, h42_⟩ := h42
  show Ev K 45 [some (.ref 29), some (vi ((w : Nat) : Int)), some (vi 1)] [] X42
  refine ev_aload_n (pc := 45) hC dX6_passesAll_45 rfl ?_
  refine ev_aload_n (pc := 46) hC dX6_passesAll_46 rfl ?_
  refine ev_getr (pc := 47) hC 35 f25 dX6_passesAll_47 (by decide) (by decide) (by decide) (by decide) (by decide) ?_
  refine ev_callV (pc := 50) (as := [.ref 35]) (rest := []) hC gX6_passesAll_X6_passes mtX6_passes dX6_passesAll_50 (ru_X6_passes_k w 35 49 8 hw (Or.inr (Or.inr (Or.inr (Or.inr ⟨rfl, rfl, rfl⟩)))) h42_) (by decide) (by decide) (by decide) rfl (by rfl) (Nat.le_of_ble_eq_true rfl) rfl (fun v50 X50 h50 => ?_)
  obtain ⟨rfl, h50_⟩ := h50
  show Ev K 53 [some (.ref 29), some (vi ((w : Nat) : Int)), some (vi 1)] [] X50
  refine ev_aload_n (pc := 53) hC dX6_passesAll_53 rfl ?_
  refine ev_aload_n (pc := 54) hC dX6_passesAll_54 rfl ?_
  refine ev_aload_n (pc := 55) hC dX6_passesAll_55 rfl ?_
  refine ev_geti (pc := 56) hC ((X 29 6).toInt) f52 dX6_passesAll_56 (by decide) (by decide) (by decide) (by decide) (by decide)  ((by rw [h50_.2.1 6 (by omega) (by omega)]; exact (zI_self _).symm)) ?_
  refine ev_callV (pc := 59) (as := [vi ((X 29 6).toInt)]) (rest := [.ref 29]) hC gX6_passesAll_X6_passOne mtX6_passOne dX6_passesAll_59 (ru_X6_passOne_k w 57 (X 29 6).toInt hw (by omega) h50_ (zI_self _)) (by decide) (by decide) (by decide) rfl (by rfl) (Nat.le_of_ble_eq_true rfl) rfl (fun v59 X59 h59 => ?_)
  obtain ⟨rfl, h59_⟩ := h59
  show Ev K 62 [some (.ref 29), some (vi ((w : Nat) : Int)), some (vi 1)] [vi ((X 29 6).toInt), .ref 29] X59
  refine ev_puti (pc := 62) hC f52 fpX6_6 dX6_passesAll_62 (by decide) (by decide) (by decide) (by decide) (by decide) (rfl) (rfl) ?_
  have h62_ := ks_same h59_ (j := 6) (by omega) (zI_self (X 29 6))
  refine ev_aload_n (pc := 65) hC dX6_passesAll_65 rfl ?_
  refine ev_aload_n (pc := 66) hC dX6_passesAll_66 rfl ?_
  refine ev_aload_n (pc := 67) hC dX6_passesAll_67 rfl ?_
  refine ev_geti (pc := 68) hC ((X 29 7).toInt) f104 dX6_passesAll_68 (by decide) (by decide) (by decide) (by decide) (by decide)  ((by rw [h62_.2.1 7 (by omega) (by omega)]; exact (zI_self _).symm)) ?_
  refine ev_callV (pc := 71) (as := [vi ((X 29 7).toInt)]) (rest := [.ref 29]) hC gX6_passesAll_X6_passOne mtX6_passOne dX6_passesAll_71 (ru_X6_passOne_k w 58 (X 29 7).toInt hw (by omega) h62_ (zI_self _)) (by decide) (by decide) (by decide) rfl (by rfl) (Nat.le_of_ble_eq_true rfl) rfl (fun v71 X71 h71 => ?_)
  obtain ⟨rfl, h71_⟩ := h71
  show Ev K 74 [some (.ref 29), some (vi ((w : Nat) : Int)), some (vi 1)] [vi ((X 29 7).toInt), .ref 29] X71
  refine ev_puti (pc := 74) hC f104 fpX6_7 dX6_passesAll_74 (by decide) (by decide) (by decide) (by decide) (by decide) (rfl) (rfl) ?_
  exact ev_return (pc := 77) hC hR dX6_passesAll_77 (⟨rfl, ks_same h71_ (j := 7) (by omega) (zI_self (X 29 7))⟩)
set_option maxRecDepth 100000 in
set_option maxHeartbeats 4000000 in
theorem ru_X6_passesAll_p {X : Mem} (w : Nat) (hw : w ≤ 2) : Ru yX6_passesAll wsX6_passesAll 1 22 [.ref 29, vi ((w : Nat) : Int), vi 0] X (fun v X' => v = none ∧ PS X X' w 59 59) := by
  refine ru_of (w2 := _) rfl (by decide) [some (.ref 29), some (vi ((w : Nat) : Int)), some (vi 0)] (fun _ => rfl) (fun _ => Nat.le_of_ble_eq_true rfl) ?_
  intro K hKn hC hR
  have wX6 : ∀ w ∈ u_ws RX6 TX6 25, w ∈ wsX6_passesAll := by decide +kernel
  have f139 : Fl K RX6 139 6 19 := fl_of hC RX6 TX6 25 rfl (by decide) wX6 (show Cond.fieldLink RX6 139 "PicnicOfSomebodyModel" "cursor" "I" ∈ _ by decide +kernel)
  have f135 : Fl K RX6 135 6 18 := fl_of hC RX6 TX6 25 rfl (by decide) wX6 (show Cond.fieldLink RX6 135 "PicnicOfSomebodyModel" "isKeeping" "Z" ∈ _ by decide +kernel)
  have f13 : Fl K RX6 13 6 1 := fl_of hC RX6 TX6 25 rfl (by decide) wX6 (show Cond.fieldLink RX6 13 "PicnicOfSomebodyModel" "deep" "[I" ∈ _ by decide +kernel)
  have f16 : Fl K RX6 16 6 2 := fl_of hC RX6 TX6 25 rfl (by decide) wX6 (show Cond.fieldLink RX6 16 "PicnicOfSomebodyModel" "kind" "[I" ∈ _ by decide +kernel)
  have f19 : Fl K RX6 19 6 3 := fl_of hC RX6 TX6 25 rfl (by decide) wX6 (show Cond.fieldLink RX6 19 "PicnicOfSomebodyModel" "figure" "[I" ∈ _ by decide +kernel)
  have f22 : Fl K RX6 22 6 4 := fl_of hC RX6 TX6 25 rfl (by decide) wX6 (show Cond.fieldLink RX6 22 "PicnicOfSomebodyModel" "cell" "[I" ∈ _ by decide +kernel)
  have f25 : Fl K RX6 25 6 5 := fl_of hC RX6 TX6 25 rfl (by decide) wX6 (show Cond.fieldLink RX6 25 "PicnicOfSomebodyModel" "belief" "[I" ∈ _ by decide +kernel)
  have f52 : Fl K RX6 52 6 6 := fl_of hC RX6 TX6 25 rfl (by decide) wX6 (show Cond.fieldLink RX6 52 "PicnicOfSomebodyModel" "people" "I" ∈ _ by decide +kernel)
  have f104 : Fl K RX6 104 6 7 := fl_of hC RX6 TX6 25 rfl (by decide) wX6 (show Cond.fieldLink RX6 104 "PicnicOfSomebodyModel" "year" "I" ∈ _ by decide +kernel)
  refine ev_aload_n (pc := 0) hC dX6_passesAll_0 rfl ?_
  refine ev_bipush (pc := 1) hC dX6_passesAll_1 (by decide) ?_
  refine ev_iload_n (pc := 3) hC dX6_passesAll_3 rfl ?_
  refine ev_imul (pc := 4) hC ((60 * w : Nat) : Int) (by omega) dX6_passesAll_4 ?_
  refine ev_puti (pc := 5) hC f139 fpX6_19 dX6_passesAll_5 (by decide) (by decide) (by decide) (by decide) (by decide) (rfl) (rfl) ?_
  refine ev_aload_n (pc := 8) hC dX6_passesAll_8 rfl ?_
  refine ev_iload_n (pc := 9) hC dX6_passesAll_9 rfl ?_
  refine ev_puti (pc := 10) hC f135 fpX6_18 dX6_passesAll_10 (by decide) (by decide) (by decide) (by decide) (by decide) (by decide) (by decide) ?_
  have h0 := ps_0 (X := X) (w := w)
  refine ev_aload_n (pc := 13) hC dX6_passesAll_13 rfl ?_
  refine ev_aload_n (pc := 14) hC dX6_passesAll_14 rfl ?_
  refine ev_getr (pc := 15) hC 31 f13 dX6_passesAll_15 (by decide) (by decide) (by decide) (by decide) (by decide) ?_
  refine ev_callV (pc := 18) (as := [.ref 31]) (rest := []) hC gX6_passesAll_X6_passes mtX6_passes dX6_passesAll_18 (ru_X6_passes_p w 31 0 25 hw (Or.inl ⟨rfl, rfl, rfl⟩) h0) (by decide) (by decide) (by decide) rfl (by rfl) (Nat.le_of_ble_eq_true rfl) rfl (fun v18 X18 h18 => ?_)
  obtain ⟨rfl, h18_⟩ := h18
  show Ev K 21 [some (.ref 29), some (vi ((w : Nat) : Int)), some (vi 0)] [] X18
  refine ev_aload_n (pc := 21) hC dX6_passesAll_21 rfl ?_
  refine ev_aload_n (pc := 22) hC dX6_passesAll_22 rfl ?_
  refine ev_getr (pc := 23) hC 32 f16 dX6_passesAll_23 (by decide) (by decide) (by decide) (by decide) (by decide) ?_
  refine ev_callV (pc := 26) (as := [.ref 32]) (rest := []) hC gX6_passesAll_X6_passes mtX6_passes dX6_passesAll_26 (ru_X6_passes_p w 32 25 8 hw (Or.inr (Or.inl ⟨rfl, rfl, rfl⟩)) h18_) (by decide) (by decide) (by decide) rfl (by rfl) (Nat.le_of_ble_eq_true rfl) rfl (fun v26 X26 h26 => ?_)
  obtain ⟨rfl, h26_⟩ := h26
  show Ev K 29 [some (.ref 29), some (vi ((w : Nat) : Int)), some (vi 0)] [] X26
  refine ev_aload_n (pc := 29) hC dX6_passesAll_29 rfl ?_
  refine ev_aload_n (pc := 30) hC dX6_passesAll_30 rfl ?_
  refine ev_getr (pc := 31) hC 33 f19 dX6_passesAll_31 (by decide) (by decide) (by decide) (by decide) (by decide) ?_
  refine ev_callV (pc := 34) (as := [.ref 33]) (rest := []) hC gX6_passesAll_X6_passes mtX6_passes dX6_passesAll_34 (ru_X6_passes_p w 33 33 8 hw (Or.inr (Or.inr (Or.inl ⟨rfl, rfl, rfl⟩))) h26_) (by decide) (by decide) (by decide) rfl (by rfl) (Nat.le_of_ble_eq_true rfl) rfl (fun v34 X34 h34 => ?_)
  obtain ⟨rfl, h34_⟩ := h34
  show Ev K 37 [some (.ref 29), some (vi ((w : Nat) : Int)), some (vi 0)] [] X34
  refine ev_aload_n (pc := 37) hC dX6_passesAll_37 rfl ?_
  refine ev_aload_n (pc := 38) hC dX6_passesAll_38 rfl ?_
  refine ev_getr (pc := 39) hC 34 f22 dX6_passesAll_39 (by decide) (by decide) (by decide) (by decide) (by decide) ?_
  refine ev_callV (pc := 42) (as := [.ref 34]) (rest := []) hC gX6_passesAll_X6_passes mtX6_passes dX6_passesAll_42 (ru_X6_passes_p w 34 41 8 hw (Or.inr (Or.inr (Or.inr (Or.inl ⟨rfl, rfl, rfl⟩)))) h34_) (by decide) (by decide) (by decide) rfl (by rfl) (Nat.le_of_ble_eq_true rfl) rfl (fun v42 X42 h42 => ?_)
  obtain ⟨rfl, h42_⟩ := h42
  show Ev K 45 [some (.ref 29), some (vi ((w : Nat) : Int)), some (vi 0)] [] X42
  refine ev_aload_n (pc := 45) hC dX6_passesAll_45 rfl ?_
  refine ev_aload_n (pc := 46) hC dX6_passesAll_46 rfl ?_
  refine ev_getr (pc := 47) hC 35 f25 dX6_passesAll_47 (by decide) (by decide) (by decide) (by decide) (by decide) ?_
  refine ev_callV (pc := 50) (as := [.ref 35]) (rest := []) hC gX6_passesAll_X6_passes mtX6_passes dX6_passesAll_50 (ru_X6_passes_p w 35 49 8 hw (Or.inr (Or.inr (Or.inr (Or.inr ⟨rfl, rfl, rfl⟩)))) h42_) (by decide) (by decide) (by decide) rfl (by rfl) (Nat.le_of_ble_eq_true rfl) rfl (fun v50 X50 h50 => ?_)
  obtain ⟨rfl, h50_⟩ := h50
  show Ev K 53 [some (.ref 29), some (vi ((w : Nat) : Int)), some (vi 0)] [] X50
  refine ev_aload_n (pc := 53) hC dX6_passesAll_53 rfl ?_
  refine ev_aload_n (pc := 54) hC dX6_passesAll_54 rfl ?_
  refine ev_aload_n (pc := 55) hC dX6_passesAll_55 rfl ?_
  refine ev_geti (pc := 56) hC ((X50 29 6).toInt) f52 dX6_passesAll_56 (by decide) (by decide) (by decide) (by decide) (by decide)  ((zI_self _).symm) ?_
  refine ev_callV (pc := 59) (as := [vi ((X50 29 6).toInt)]) (rest := [.ref 29]) hC gX6_passesAll_X6_passOne mtX6_passOne dX6_passesAll_59 (ru_X6_passOne_p w 57 _ hw (by omega) h50_) (by decide) (by decide) (by decide) rfl (by rfl) (Nat.le_of_ble_eq_true rfl) rfl (fun v59 X59 h59 => ?_)
  obtain ⟨rfl, h59_⟩ := h59
  show Ev K 62 [some (.ref 29), some (vi ((w : Nat) : Int)), some (vi 0)] [vi ((X 40 (60 * w + 57)).toInt), .ref 29] X59
  refine ev_puti (pc := 62) hC f52 fpX6_6 dX6_passesAll_62 (by decide) (by decide) (by decide) (by decide) (by decide) (rfl) (rfl) ?_
  have h62_ := ps_obj h59_ (Or.inl ⟨rfl, rfl⟩) (zI_self (X 40 (60 * w + 57)))
  refine ev_aload_n (pc := 65) hC dX6_passesAll_65 rfl ?_
  refine ev_aload_n (pc := 66) hC dX6_passesAll_66 rfl ?_
  refine ev_aload_n (pc := 67) hC dX6_passesAll_67 rfl ?_
  refine ev_geti (pc := 68) hC ((mset X59 29 6 (zI (X 40 (60 * w + 57)).toInt) 29 7).toInt) f104 dX6_passesAll_68 (by decide) (by decide) (by decide) (by decide) (by decide)  ((zI_self _).symm) ?_
  refine ev_callV (pc := 71) (as := [vi ((mset X59 29 6 (zI (X 40 (60 * w + 57)).toInt) 29 7).toInt)]) (rest := [.ref 29]) hC gX6_passesAll_X6_passOne mtX6_passOne dX6_passesAll_71 (ru_X6_passOne_p w 58 _ hw (by omega) h62_) (by decide) (by decide) (by decide) rfl (by rfl) (Nat.le_of_ble_eq_true rfl) rfl (fun v71 X71 h71 => ?_)
  obtain ⟨rfl, h71_⟩ := h71
  show Ev K 74 [some (.ref 29), some (vi ((w : Nat) : Int)), some (vi 0)] [vi ((X 40 (60 * w + 58)).toInt), .ref 29] X71
  refine ev_puti (pc := 74) hC f104 fpX6_7 dX6_passesAll_74 (by decide) (by decide) (by decide) (by decide) (by decide) (rfl) (rfl) ?_
  exact ev_return (pc := 77) hC hR dX6_passesAll_77 (⟨rfl, ps_obj h71_ (Or.inr ⟨rfl, rfl⟩) (zI_self (X 40 (60 * w + 58)))⟩)
theorem mtX6_thinks : MT yX6_thinks wsX6_thinks cX6_thinks 1 none 0 := ⟨⟨_, rfl⟩, by decide, by decide, by decide +kernel⟩
set_option maxRecDepth 100000 in
set_option maxHeartbeats 4000000 in
theorem ru_X6_thinks {X : Mem}  : Ru yX6_thinks wsX6_thinks 2 44 [.ref 29] X (fun v X' => v = none ∧ KS X X' 2 59) := by
  refine ru_of (w2 := _) rfl (by decide) [some (.ref 29)] (fun _ => rfl) (fun _ => Nat.le_of_ble_eq_true rfl) ?_
  intro K hKn hC hR
  refine ev_aload_n (pc := 0) hC dX6_thinks_0 rfl ?_
  refine ev_iconst (pc := 1) hC dX6_thinks_1 ?_
  refine ev_iconst (pc := 2) hC dX6_thinks_2 ?_
  refine ev_callV (pc := 3) (as := [vi 2, vi 1]) (rest := []) hC gX6_thinks_X6_passesAll mtX6_passesAll dX6_thinks_3 (ru_X6_passesAll_k 2 (by omega)) (by decide) (by decide) (by decide) rfl (by rfl) (Nat.le_of_ble_eq_true rfl) rfl (fun v3 X3 h3 => ?_)
  obtain ⟨rfl, hS3⟩ := h3
  show Ev K 6 [some (.ref 29)] [] X3
  exact ev_return (pc := 6) hC hR dX6_thinks_6 (⟨rfl, hS3⟩)
theorem mtX6_forgets : MT yX6_forgets wsX6_forgets cX6_forgets 1 none 0 := ⟨⟨_, rfl⟩, by decide, by decide, by decide +kernel⟩
set_option maxRecDepth 100000 in
set_option maxHeartbeats 4000000 in
theorem ru_X6_forgets {X : Mem}  : Ru yX6_forgets wsX6_forgets 2 44 [.ref 29] X (fun v X' => v = none ∧ PS X X' 2 59 59) := by
  refine ru_of (w2 := _) rfl (by decide) [some (.ref 29)] (fun _ => rfl) (fun _ => Nat.le_of_ble_eq_true rfl) ?_
  intro K hKn hC hR
  refine ev_aload_n (pc := 0) hC dX6_forgets_0 rfl ?_
  refine ev_iconst (pc := 1) hC dX6_forgets_1 ?_
  refine ev_iconst (pc := 2) hC dX6_forgets_2 ?_
  refine ev_callV (pc := 3) (as := [vi 2, vi 0]) (rest := []) hC gX6_forgets_X6_passesAll mtX6_passesAll dX6_forgets_3 (ru_X6_passesAll_p 2 (by omega)) (by decide) (by decide) (by decide) rfl (by rfl) (Nat.le_of_ble_eq_true rfl) rfl (fun v3 X3 h3 => ?_)
  obtain ⟨rfl, hS3⟩ := h3
  show Ev K 6 [some (.ref 29)] [] X3
  exact ev_return (pc := 6) hC hR dX6_forgets_6 (⟨rfl, hS3⟩)
theorem mtX6_believersIn : MT yX6_believersIn wsX6_believersIn cX6_believersIn 3 (some .int) 1 := ⟨⟨_, rfl⟩, by decide, by decide, by decide +kernel⟩
set_option maxRecDepth 100000 in
set_option maxHeartbeats 4000000 in
theorem ru_X6_believersIn {X : Mem} {A : Sl} {G : Nat} (hA : Rp (vM X) A) (hg : X 29 8 = zI (G : Nat)) (hG : G < 256) (n : Nat) (hn : n ≤ 60) : Ru yX6_believersIn wsX6_believersIn 9 199 [.ref 29, vi ((n : Nat) : Int)] X (fun v X' => v = some (vi (bset G (goN G n A))) ∧ Rp (vM X') A ∧ frT 2 X X') := by
  refine ru_of (w2 := _) rfl (by decide) [some (.ref 29), some (vi ((n : Nat) : Int)), none] (fun _ => rfl) (fun _ => Nat.le_of_ble_eq_true rfl) ?_
  intro K hKn hC hR
  have hn8 := hA.n8
  refine ev_aload_n (pc := 0) hC dX6_believersIn_0 rfl ?_
  refine ev_callV (pc := 1) (as := []) (rest := []) hC gX6_believersIn_X6_thinks mtX6_thinks dX6_believersIn_1 (ru_X6_thinks) (by decide) (by decide) (by decide) rfl (by rfl) (Nat.le_of_ble_eq_true rfl) rfl (fun v1 X1 h1 => ?_)
  obtain ⟨rfl, hS1⟩ := h1
  show Ev K 4 [some (.ref 29), some (vi ((n : Nat) : Int)), none] [] X1
  have hF1 := ks_fr hS1
  have hA1 := ks_repM hS1 hA
  have hk2_1 := ks_rep hS1 hA
  have hg1 := frT_gone hF1 hg
  have hFr1 := frT_tr (frT_rf 2 X) hF1 (by omega)
  have hn8_1 := hA1.n8
  refine ev_aload_n (pc := 4) hC dX6_believersIn_4 rfl ?_
  refine ev_iload_n (pc := 5) hC dX6_believersIn_5 rfl ?_
  refine ev_callV (pc := 6) (as := [vi ((n : Nat) : Int)]) (rest := []) hC gX6_believersIn_X6_goes mtX6_goes dX6_believersIn_6 (ru_X6_goes hA1 hg1 hG n (by omega)) (by decide) (by decide) (by decide) rfl (by rfl) (Nat.le_of_ble_eq_true rfl) rfl (fun v6 X6 h6 => ?_)
  obtain ⟨rfl, hA6, hF6⟩ := h6
  show Ev K 9 [some (.ref 29), some (vi ((n : Nat) : Int)), none] [] X6
  have hgn6 := goN_n G A n
  have hg6 := frT_gone hF6 hg1
  have hk2_6 := hk2_1.keepK hF6 (by omega)
  have hFr6 := frT_tr hFr1 hF6 (by omega)
  have hn8_6 := hA6.n8
  refine ev_aload_n (pc := 9) hC dX6_believersIn_9 rfl ?_
  refine ev_callV (pc := 10) (as := []) (rest := []) hC gX6_believersIn_X6_believers mtX6_believers dX6_believersIn_10 (ru_X6_believers hA6 hg6 hG  ) (by decide) (by decide) (by decide) rfl (by rfl) (Nat.le_of_ble_eq_true rfl) rfl (fun v10 X10 h10 => ?_)
  obtain ⟨rfl, rfl⟩ := h10
  show Ev K 13 [some (.ref 29), some (vi ((n : Nat) : Int)), none] [vi ((bset G (goN G n A) : Nat) : Int)] X6
  have hl10 := bset_lt (G := G) hA6.n8
  refine ev_istore_n (pc := 13) hC dX6_believersIn_13 (by rw [hKn]; decide) rfl ?_
  show Ev K 14 [some (.ref 29), some (vi ((n : Nat) : Int)), some (vi ((bset G (goN G n A) : Nat) : Int))] [] X6
  refine ev_aload_n (pc := 14) hC dX6_believersIn_14 rfl ?_
  refine ev_callV (pc := 15) (as := []) (rest := []) hC gX6_believersIn_X6_forgets mtX6_forgets dX6_believersIn_15 (ru_X6_forgets) (by decide) (by decide) (by decide) rfl (by rfl) (Nat.le_of_ble_eq_true rfl) rfl (fun v15 X15 h15 => ?_)
  obtain ⟨rfl, hS15⟩ := h15
  show Ev K 18 [some (.ref 29), some (vi ((n : Nat) : Int)), some (vi ((bset G (goN G n A) : Nat) : Int))] [] X15
  have hF15 := ps_fr hS15
  have hA15 := ps_rep hS15 hk2_6
  have hg15 := frT_gone hF15 hg6
  have hk2_15 := hk2_6.keepK hF15 (by omega)
  have hFr15 := frT_tr hFr6 hF15 (by omega)
  have hn8_15 := hA15.n8
  refine ev_iload_n (pc := 18) hC dX6_believersIn_18 rfl ?_
  exact ev_ireturn (pc := 19) hC hR dX6_believersIn_19 (⟨rfl, hA15, hFr15⟩)
