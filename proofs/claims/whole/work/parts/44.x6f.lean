theorem mtX6_wind : MT yX6_wind wsX6_wind cX6_wind 13 (some .long) 3 := ⟨⟨_, rfl⟩, by decide, by decide, by decide +kernel⟩
set_option maxRecDepth 100000 in
set_option maxHeartbeats 4000000 in
theorem ru_X6_wind {X : Mem} {V : St} (hV : mI X V) (x0 : Int) (hx0 : -2147483648 ≤ x0 ∧ x0 ≤ 2147483647) (x1 : Int) (hx1 : -2147483648 ≤ x1 ∧ x1 ≤ 2147483647) (x2 : Int) (hx2 : -2147483648 ≤ x2 ∧ x2 ≤ 2147483647) : Ru yX6_wind wsX6_wind 8 177 [.ref 29, vi x0, vi x1, vi x2] X (fun v X' => v = some (vl (sp25 x0 x1 x2 V).1) ∧ mI X' (sp25 x0 x1 x2 V).2 ∧ frM X X') := by
  refine ru_of (w2 := _) rfl (by decide) [some (.ref 29), some (vi x0), some (vi x1), some (vi x2), none, none, none, none, none, none, none, none, none] (fun _ => rfl) (fun _ => Nat.le_of_ble_eq_true rfl) ?_
  intro K hKn hC hR
  obtain ⟨A, B, hh, T, n, W, rs, C⟩ := V
  have hA : Rp (vM X) A := hV.1
  have hyA : A 5 1 ≤ 999 := hV.2.1
  have hB : hh = true → Rp (vK X 0) B ∧ B 5 1 ≤ 999 := hV.2.2.1
  have hi : X 29 17 = zI (b2i hh) := hV.2.2.2.1
  have hg : X 29 8 = zI ((0 : Nat) : Int) := hV.2.2.2.2.1
  have hT : TxM X T n := hV.2.2.2.2.2.1
  have hW : RwM X W rs := hV.2.2.2.2.2.2.1
  have hCn : ∀ k, k < 7 → X 30 k = zI (C k : Nat) := hV.2.2.2.2.2.2.2
  have hn8 := hA.n8
  have hn96 := hT.2.1
  have hrs := hW.2.1
  have hG : 0 < 256 := by decide
  have hI : mI X (A, B, hh, T, n, W, rs, C) := hV
  have hq1 := wnC_cases x0 x1 x2
  have hq2 := cdO_cases x2 2
  refine ev_iload_n (pc := 0) hC dX6_wind_0 rfl ?_
  refine ev_if_lt (pc := 1) hC 9 dX6_wind_1 (by decide) (by omega) (fun c1 => ?_) (fun c1 => ?_)
  · refine ev_bipush (pc := 9) hC dX6_wind_9 (by decide) ?_
    refine ev_goto (pc := 11) hC 46 dX6_wind_11 (by decide) ?_
    refine ev_istore (pc := 46) hC dX6_wind_46 (by rw [hKn]; decide) rfl ?_
    show Ev K 48 [some (.ref 29), some (vi x0), some (vi x1), some (vi x2), some (vi (-4)), none, none, none, none, none, none, none, none] [] X
    refine ev_iload (pc := 48) hC dX6_wind_48 rfl ?_
    refine ev_if_eq (pc := 50) hC 60 dX6_wind_50 (by decide) (by omega) (fun c50 => absurd c50 (by decide)) (fun c50 => ?_)
    refine ev_aload_n (pc := 53) hC dX6_wind_53 rfl ?_
    refine ev_iload (pc := 54) hC dX6_wind_54 rfl ?_
    refine ev_callV (pc := 56) (as := [vi (-4)]) (rest := []) hC gX6_wind_X6_lowest mtX6_lowest dX6_wind_56 (ru_X6_lowest2 (-4) (by omega)) (by decide) (by decide) (by decide) rfl (by rfl) (Nat.le_of_ble_eq_true rfl) rfl (fun v56 X56 h56 => ?_)
    obtain ⟨rfl, rfl⟩ := h56
    show Ev K 59 [some (.ref 29), some (vi x0), some (vi x1), some (vi x2), some (vi (-4)), none, none, none, none, none, none, none, none] [vl (4000000000000000000 - (-4))] (mset X 30 (-(-4)).toNat (X 30 (-(-4)).toNat + 1))
    exact ev_lreturn (pc := 59) hC hR dX6_wind_59 (no_endMB (show wnC x0 x1 x2 = (-4) by omega) (by omega) hI)
  · refine ev_iload_n (pc := 4) hC dX6_wind_4 rfl ?_
    refine ev_iconst (pc := 5) hC dX6_wind_5 ?_
    refine ev_icmp_ge (pc := 6) hC 14 dX6_wind_6 (by decide) (by omega) (by omega) (fun c6 => ?_) (fun c6 => ?_)
    · refine ev_iload_n (pc := 14) hC dX6_wind_14 rfl ?_
      refine ev_bipush (pc := 15) hC dX6_wind_15 (by decide) ?_
      refine ev_icmp_gt (pc := 17) hC 26 dX6_wind_17 (by decide) (by omega) (by omega) (fun c17 => ?_) (fun c17 => ?_)
      · refine ev_bipush (pc := 26) hC dX6_wind_26 (by decide) ?_
        refine ev_goto (pc := 28) hC 46 dX6_wind_28 (by decide) ?_
        refine ev_istore (pc := 46) hC dX6_wind_46 (by rw [hKn]; decide) rfl ?_
        show Ev K 48 [some (.ref 29), some (vi x0), some (vi x1), some (vi x2), some (vi (-6)), none, none, none, none, none, none, none, none] [] X
        refine ev_iload (pc := 48) hC dX6_wind_48 rfl ?_
        refine ev_if_eq (pc := 50) hC 60 dX6_wind_50 (by decide) (by omega) (fun c50 => absurd c50 (by decide)) (fun c50 => ?_)
        refine ev_aload_n (pc := 53) hC dX6_wind_53 rfl ?_
        refine ev_iload (pc := 54) hC dX6_wind_54 rfl ?_
        refine ev_callV (pc := 56) (as := [vi (-6)]) (rest := []) hC gX6_wind_X6_lowest mtX6_lowest dX6_wind_56 (ru_X6_lowest2 (-6) (by omega)) (by decide) (by decide) (by decide) rfl (by rfl) (Nat.le_of_ble_eq_true rfl) rfl (fun v56 X56 h56 => ?_)
        obtain ⟨rfl, rfl⟩ := h56
        show Ev K 59 [some (.ref 29), some (vi x0), some (vi x1), some (vi x2), some (vi (-6)), none, none, none, none, none, none, none, none] [vl (4000000000000000000 - (-6))] (mset X 30 (-(-6)).toNat (X 30 (-(-6)).toNat + 1))
        exact ev_lreturn (pc := 59) hC hR dX6_wind_59 (no_endMB (show wnC x0 x1 x2 = (-6) by omega) (by omega) hI)
      · refine ev_iload_n (pc := 20) hC dX6_wind_20 rfl ?_
        refine ev_bipush (pc := 21) hC dX6_wind_21 (by decide) ?_
        refine ev_icmp_le (pc := 23) hC 31 dX6_wind_23 (by decide) (by omega) (by omega) (fun c23 => ?_) (fun c23 => ?_)
        · refine ev_iload_n (pc := 31) hC dX6_wind_31 rfl ?_
          refine ev_iconst (pc := 32) hC dX6_wind_32 ?_
          refine ev_iconst (pc := 33) hC dX6_wind_33 ?_
          refine ev_callS (pc := 34) (as := [vi x2, vi 0, vi 1]) (rest := []) hC gX6_wind_X6_isIn mtX6_isIn dX6_wind_34 (ru_X6_isIn x2 0 1 (by omega) (by omega) (by omega)) (by decide) (by rfl) (Nat.le_of_ble_eq_true rfl) rfl (fun v34 X34 h34 => ?_)
          obtain ⟨rfl, rfl⟩ := h34
          show Ev K 37 [some (.ref 29), some (vi x0), some (vi x1), some (vi x2), none, none, none, none, none, none, none, none, none] [vi (b2i (decide (0 ≤ x2 ∧ x2 ≤ 1)))] X
          have hr34 := b2i_r (decide (0 ≤ x2 ∧ x2 ≤ 1))
          refine ev_if_ne (pc := 37) hC 45 dX6_wind_37 (by decide) (by omega) (fun c37 => ?_) (fun c37 => ?_)
          · have e37 := of_decide_eq_true (b2i_1 c37)
            refine ev_iconst (pc := 45) hC dX6_wind_45 ?_
            refine ev_istore (pc := 46) hC dX6_wind_46 (by rw [hKn]; decide) rfl ?_
            show Ev K 48 [some (.ref 29), some (vi x0), some (vi x1), some (vi x2), some (vi 0), none, none, none, none, none, none, none, none] [] X
            refine ev_iload (pc := 48) hC dX6_wind_48 rfl ?_
            refine ev_if_eq (pc := 50) hC 60 dX6_wind_50 (by decide) (by omega) (fun c50 => ?_) (fun c50 => absurd c50 (by decide))
            obtain ⟨p0, rfl⟩ : ∃ k : Nat, x0 = (k : Int) := ⟨x0.toNat, by omega⟩
            obtain ⟨p1, rfl⟩ : ∃ k : Nat, x1 = (k : Int) := ⟨x1.toNat, by omega⟩
            have hpn := pow8 (n := p0) (by omega)
            refine ev_lconst (pc := 60) hC 0 (by decide) dX6_wind_60 ?_
            refine ev_lstore (pc := 61) hC dX6_wind_61 (by rw [hKn]; decide) rfl ?_
            show Ev K 63 [some (.ref 29), some (vi ((p0 : Nat) : Int)), some (vi ((p1 : Nat) : Int)), some (vi x2), some (vi 0), some (vl 0), none, none, none, none, none, none, none] [] X
            refine ev_lconst (pc := 63) hC 1 (by decide) dX6_wind_63 ?_
            refine ev_lstore (pc := 64) hC dX6_wind_64 (by rw [hKn]; decide) rfl ?_
            show Ev K 66 [some (.ref 29), some (vi ((p0 : Nat) : Int)), some (vi ((p1 : Nat) : Int)), some (vi x2), some (vi 0), some (vl 0), none, some (vl 1), none, none, none, none, none] [] X
            refine ev_iconst (pc := 66) hC dX6_wind_66 ?_
            refine ev_istore (pc := 67) hC dX6_wind_67 (by rw [hKn]; decide) rfl ?_
            show Ev K 69 [some (.ref 29), some (vi ((p0 : Nat) : Int)), some (vi ((p1 : Nat) : Int)), some (vi x2), some (vi 0), some (vl 0), none, some (vl 1), none, some (vi 0), none, none, none] [] X
            have lp69 : ∀ (fz : Nat) (i : Nat) (d : Nat), p0 - i < fz → (i ≤ p0) → (d = p1 ^ i) → Ev K 69 [some (.ref 29), some (vi ((p0 : Nat) : Int)), some (vi ((p1 : Nat) : Int)), some (vi x2), some (vi 0), some (vl 0), none, some (vl ((d : Nat) : Int)), none, some (vi ((i : Nat) : Int)), none, none, none] [] X := by
              intro fz
              induction fz with
              | zero => intro i d hfz; exact absurd hfz (Nat.not_lt_zero _)
              | succ fz ih69 =>
                intro i d hfz hi hd
                refine ev_iload (pc := 69) hC dX6_wind_69 rfl ?_
                refine ev_iload_n (pc := 71) hC dX6_wind_71 rfl ?_
                refine ev_icmp_ge (pc := 72) hC 88 dX6_wind_72 (by decide) (by omega) (by omega) (fun c72 => ?_) (fun c72 => ?_)
                · have hde : d = p1 ^ p0 := by rw [hd, show i = p0 by omega]
                  have hdl : d ≤ 1280000000 := by rw [hde]; exact pow20 (by omega) (by omega)
                  have hdp : 0 < d := by rw [hde]; exact Nat.pow_pos (by omega)
                  refine ev_iconst (pc := 88) hC dX6_wind_88 ?_
                  refine ev_istore (pc := 89) hC dX6_wind_89 (by rw [hKn]; decide) rfl ?_
                  show Ev K 91 [some (.ref 29), some (vi ((p0 : Nat) : Int)), some (vi ((p1 : Nat) : Int)), some (vi x2), some (vi 0), some (vl 0), none, some (vl ((d : Nat) : Int)), none, some (vi 0), none, none, none] [] X
                  have lp91 : ∀ (fz : Nat) (S : Nat) (u : Nat) (Y : Mem), 2 ^ p0 - S < fz → (S ≤ 2 ^ p0) → (u = windU p0 p1 A S) → (Rp (vM Y) A) → (Y 29 8 = zI ((0 : Nat) : Int)) → (frT 1 X Y) → Ev K 91 [some (.ref 29), some (vi ((p0 : Nat) : Int)), some (vi ((p1 : Nat) : Int)), some (vi x2), some (vi 0), some (vl ((u : Nat) : Int)), none, some (vl ((d : Nat) : Int)), none, some (vi ((S : Nat) : Int)), none, none, none] [] Y := by
                    intro fz
                    induction fz with
                    | zero => intro S u Y hfz; exact absurd hfz (Nat.not_lt_zero _)
                    | succ fz ih91 =>
                      intro S u Y hfz hS hu hAY hgY hFY
                      have hY8 := hAY.n8
                      refine ev_iload (pc := 91) hC dX6_wind_91 rfl ?_
                      refine ev_iconst (pc := 93) hC dX6_wind_93 ?_
                      refine ev_iload_n (pc := 94) hC dX6_wind_94 rfl ?_
                      refine ev_ishl (pc := 95) hC ((2 ^ p0 : Nat) : Int) (zI_shl1 p0 (by omega)) dX6_wind_95 ?_
                      refine ev_icmp_ge (pc := 96) hC 187 dX6_wind_96 (by decide) (by omega) (by omega) (fun c96 => ?_) (fun c96 => ?_)
                      · have huw := windU_le (A := A) (show p0 ≤ 7 by omega) (show p1 ≤ 20 by omega) S
                        have hsm : S * 1280000000 ≤ 256 * 1280000000 := Nat.mul_le_mul_right _ (by omega)
                        refine ev_lload (pc := 187) hC dX6_wind_187 rfl ?_
                        refine ev_lload (pc := 189) hC dX6_wind_189 rfl ?_
                        refine ev_iload_n (pc := 191) hC dX6_wind_191 rfl ?_
                        refine ev_callS (pc := 192) (as := [vl ((u : Nat) : Int), vl ((d : Nat) : Int), vi x2]) (rest := []) hC gX6_wind_X6_partOf mtX6_partOf dX6_wind_192 (ru_X6_partOf u d x2 (by omega) (by omega) (by omega)) (by decide) (by rfl) (Nat.le_of_ble_eq_true rfl) rfl (fun v192 X192 h192 => ?_)
                        obtain ⟨rfl, rfl⟩ := h192
                        show Ev K 195 [some (.ref 29), some (vi ((p0 : Nat) : Int)), some (vi ((p1 : Nat) : Int)), some (vi x2), some (vi 0), some (vl ((u : Nat) : Int)), none, some (vl ((d : Nat) : Int)), none, some (vi ((S : Nat) : Int)), none, none, none] [vl (prt u d x2)] Y
                        exact ev_lreturn (pc := 195) hC hR dX6_wind_195 (ok_endMB (show wnC ((p0 : Nat) : Int) ((p1 : Nat) : Int) x2 = 0 by omega) (by rw [hu, hde, show S = 2 ^ p0 by omega]; first | done | rfl) (mI_put hI hAY hyA hFY) (frM_T hFY))
                      · refine ev_aload_n (pc := 99) hC dX6_wind_99 rfl ?_
                        refine ev_callV (pc := 100) (as := []) (rest := []) hC gX6_wind_X6_thinks mtX6_thinks dX6_wind_100 (ru_X6_thinks) (by decide) (by decide) (by decide) rfl (by rfl) (Nat.le_of_ble_eq_true rfl) rfl (fun v100 X100 h100 => ?_)
                        obtain ⟨rfl, hS100⟩ := h100
                        show Ev K 103 [some (.ref 29), some (vi ((p0 : Nat) : Int)), some (vi ((p1 : Nat) : Int)), some (vi x2), some (vi 0), some (vl ((u : Nat) : Int)), none, some (vl ((d : Nat) : Int)), none, some (vi ((S : Nat) : Int)), none, none, none] [] X100
                        have hF100 := ks_fr hS100
                        have hA100 := ks_repM hS100 hAY
                        have hk2_100 := ks_rep hS100 hAY
                        have hg100 := frT_gone hF100 hgY
                        have hFr100 := frT_tr hFY hF100 (by omega)
                        have hn8_100 := hA100.n8
                        refine ev_lconst (pc := 103) hC 1 (by decide) dX6_wind_103 ?_
                        refine ev_lstore (pc := 104) hC dX6_wind_104 (by rw [hKn]; decide) rfl ?_
                        show Ev K 106 [some (.ref 29), some (vi ((p0 : Nat) : Int)), some (vi ((p1 : Nat) : Int)), some (vi x2), some (vi 0), some (vl ((u : Nat) : Int)), none, some (vl ((d : Nat) : Int)), none, some (vi ((S : Nat) : Int)), some (vl 1), none, none] [] X100
                        refine ev_iconst (pc := 106) hC dX6_wind_106 ?_
                        refine ev_istore (pc := 107) hC dX6_wind_107 (by rw [hKn]; decide) rfl ?_
                        show Ev K 109 [some (.ref 29), some (vi ((p0 : Nat) : Int)), some (vi ((p1 : Nat) : Int)), some (vi x2), some (vi 0), some (vl ((u : Nat) : Int)), none, some (vl ((d : Nat) : Int)), none, some (vi ((S : Nat) : Int)), some (vl 1), none, some (vi 0)] [] X100
                        have lp109 : ∀ (fz : Nat) (k : Nat) (z : Nat) (Y : Mem), p0 - k < fz → (k ≤ p0) → (z = (p1 - 1) ^ (k - wcn S k)) → (Rp (vM Y) (goW S k A)) → (Y 29 8 = zI ((0 : Nat) : Int)) → (frT 1 X Y) → (Rp (vK Y 2) A) → Ev K 109 [some (.ref 29), some (vi ((p0 : Nat) : Int)), some (vi ((p1 : Nat) : Int)), some (vi x2), some (vi 0), some (vl ((u : Nat) : Int)), none, some (vl ((d : Nat) : Int)), none, some (vi ((S : Nat) : Int)), some (vl ((z : Nat) : Int)), none, some (vi ((k : Nat) : Int))] [] Y := by
                          intro fz
                          induction fz with
                          | zero => intro k z Y hfz; exact absurd hfz (Nat.not_lt_zero _)
                          | succ fz ih109 =>
                            intro k z Y hfz hk hz hAY hgY hFY hK2Y
                            have hY8 := hAY.n8
                            refine ev_iload (pc := 109) hC dX6_wind_109 rfl ?_
                            refine ev_iload_n (pc := 111) hC dX6_wind_111 rfl ?_
                            refine ev_icmp_ge (pc := 112) hC 155 dX6_wind_112 (by decide) (by omega) (by omega) (fun c112 => ?_) (fun c112 => ?_)
                            · refine ev_lload (pc := 155) hC dX6_wind_155 rfl ?_
                              refine ev_aload_n (pc := 157) hC dX6_wind_157 rfl ?_
                              refine ev_callV (pc := 158) (as := []) (rest := [vl ((u : Nat) : Int)]) hC gX6_wind_X6_believers mtX6_believers dX6_wind_158 (ru_X6_believers hAY hgY hG  ) (by decide) (by decide) (by decide) rfl (by rfl) (Nat.le_of_ble_eq_true rfl) rfl (fun v158 X158 h158 => ?_)
                              obtain ⟨rfl, rfl⟩ := h158
                              show Ev K 161 [some (.ref 29), some (vi ((p0 : Nat) : Int)), some (vi ((p1 : Nat) : Int)), some (vi x2), some (vi 0), some (vl ((u : Nat) : Int)), none, some (vl ((d : Nat) : Int)), none, some (vi ((S : Nat) : Int)), some (vl ((z : Nat) : Int)), none, some (vi ((k : Nat) : Int))] [vi ((bset 0 (goW S k A) : Nat) : Int), vl ((u : Nat) : Int)] Y
                              have hl158 := bset_lt (G := 0) hAY.n8
                              refine ev_aload_n (pc := 161) hC dX6_wind_161 rfl ?_
                              refine ev_callV (pc := 162) (as := []) (rest := [vi ((bset 0 (goW S k A) : Nat) : Int), vl ((u : Nat) : Int)]) hC gX6_wind_X6_everybody mtX6_everybody dX6_wind_162 (ru_X6_everybody hAY) (by decide) (by decide) (by decide) rfl (by rfl) (Nat.le_of_ble_eq_true rfl) rfl (fun v162 X162 h162 => ?_)
                              obtain ⟨rfl, rfl⟩ := h162
                              show Ev K 165 [some (.ref 29), some (vi ((p0 : Nat) : Int)), some (vi ((p1 : Nat) : Int)), some (vi x2), some (vi 0), some (vl ((u : Nat) : Int)), none, some (vl ((d : Nat) : Int)), none, some (vi ((S : Nat) : Int)), some (vl ((z : Nat) : Int)), none, some (vi ((k : Nat) : Int))] [vi ((evb (goW S k A) : Nat) : Int), vi ((bset 0 (goW S k A) : Nat) : Int), vl ((u : Nat) : Int)] Y
                              have hl162 := evb_lt (A := (goW S k A)) (by omega)
                              refine ev_icmp_ne (pc := 165) hC 173 dX6_wind_165 (by decide) (by omega) (by omega) (fun c165 => ?_) (fun c165 => ?_)
                              · refine ev_lconst (pc := 173) hC 0 (by decide) dX6_wind_173 ?_
                                refine ev_ladd (pc := 174) hC ((u + 0 : Nat) : Int) (by omega) dX6_wind_174 ?_
                                refine ev_lstore (pc := 175) hC dX6_wind_175 (by rw [hKn]; decide) rfl ?_
                                show Ev K 177 [some (.ref 29), some (vi ((p0 : Nat) : Int)), some (vi ((p1 : Nat) : Int)), some (vi x2), some (vi 0), some (vl ((u + 0 : Nat) : Int)), none, some (vl ((d : Nat) : Int)), none, some (vi ((S : Nat) : Int)), some (vl ((z : Nat) : Int)), none, some (vi ((k : Nat) : Int))] [] Y
                                refine ev_aload_n (pc := 177) hC dX6_wind_177 rfl ?_
                                refine ev_callV (pc := 178) (as := []) (rest := []) hC gX6_wind_X6_forgets mtX6_forgets dX6_wind_178 (ru_X6_forgets) (by decide) (by decide) (by decide) rfl (by rfl) (Nat.le_of_ble_eq_true rfl) rfl (fun v178 X178 h178 => ?_)
                                obtain ⟨rfl, hS178⟩ := h178
                                show Ev K 181 [some (.ref 29), some (vi ((p0 : Nat) : Int)), some (vi ((p1 : Nat) : Int)), some (vi x2), some (vi 0), some (vl ((u + 0 : Nat) : Int)), none, some (vl ((d : Nat) : Int)), none, some (vi ((S : Nat) : Int)), some (vl ((z : Nat) : Int)), none, some (vi ((k : Nat) : Int))] [] X178
                                have hF178 := ps_fr hS178
                                have hA178 := ps_rep hS178 hK2Y
                                have hg178 := frT_gone hF178 hgY
                                have hk2_178 := hK2Y.keepK hF178 (by omega)
                                have hFr178 := frT_tr hFY hF178 (by omega)
                                have hn8_178 := hA178.n8
                                refine ev_iinc (pc := 181) hC ((S + 1 : Nat) : Int) dX6_wind_181 rfl (by omega) (by rw [hKn]; decide) rfl ?_
                                show Ev K 184 [some (.ref 29), some (vi ((p0 : Nat) : Int)), some (vi ((p1 : Nat) : Int)), some (vi x2), some (vi 0), some (vl ((u + 0 : Nat) : Int)), none, some (vl ((d : Nat) : Int)), none, some (vi ((S + 1 : Nat) : Int)), some (vl ((z : Nat) : Int)), none, some (vi ((k : Nat) : Int))] [] X178
                                refine ev_goto (pc := 184) hC 91 dX6_wind_184 (by decide) ?_
                                refine ev_drop 10 ?_
                                refine ev_drop 12 ?_
                                show Ev K 91 [some (.ref 29), some (vi ((p0 : Nat) : Int)), some (vi ((p1 : Nat) : Int)), some (vi x2), some (vi 0), some (vl ((u + 0 : Nat) : Int)), none, some (vl ((d : Nat) : Int)), none, some (vi ((S + 1 : Nat) : Int)), none, none, none] [] X178
                                exact ih91 (S + 1) (u + 0) X178 (by omega) (by omega) (wind_f2 (show k = p0 by omega) hu (by omega)) hA178 hg178 hFr178
                              · refine ev_lload (pc := 168) hC dX6_wind_168 rfl ?_
                                refine ev_goto (pc := 170) hC 174 dX6_wind_170 (by decide) ?_
                                refine ev_ladd (pc := 174) hC ((u + z : Nat) : Int) (by omega) dX6_wind_174 ?_
                                refine ev_lstore (pc := 175) hC dX6_wind_175 (by rw [hKn]; decide) rfl ?_
                                show Ev K 177 [some (.ref 29), some (vi ((p0 : Nat) : Int)), some (vi ((p1 : Nat) : Int)), some (vi x2), some (vi 0), some (vl ((u + z : Nat) : Int)), none, some (vl ((d : Nat) : Int)), none, some (vi ((S : Nat) : Int)), some (vl ((z : Nat) : Int)), none, some (vi ((k : Nat) : Int))] [] Y
                                refine ev_aload_n (pc := 177) hC dX6_wind_177 rfl ?_
                                refine ev_callV (pc := 178) (as := []) (rest := []) hC gX6_wind_X6_forgets mtX6_forgets dX6_wind_178 (ru_X6_forgets) (by decide) (by decide) (by decide) rfl (by rfl) (Nat.le_of_ble_eq_true rfl) rfl (fun v178 X178 h178 => ?_)
                                obtain ⟨rfl, hS178⟩ := h178
                                show Ev K 181 [some (.ref 29), some (vi ((p0 : Nat) : Int)), some (vi ((p1 : Nat) : Int)), some (vi x2), some (vi 0), some (vl ((u + z : Nat) : Int)), none, some (vl ((d : Nat) : Int)), none, some (vi ((S : Nat) : Int)), some (vl ((z : Nat) : Int)), none, some (vi ((k : Nat) : Int))] [] X178
                                have hF178 := ps_fr hS178
                                have hA178 := ps_rep hS178 hK2Y
                                have hg178 := frT_gone hF178 hgY
                                have hk2_178 := hK2Y.keepK hF178 (by omega)
                                have hFr178 := frT_tr hFY hF178 (by omega)
                                have hn8_178 := hA178.n8
                                refine ev_iinc (pc := 181) hC ((S + 1 : Nat) : Int) dX6_wind_181 rfl (by omega) (by rw [hKn]; decide) rfl ?_
                                show Ev K 184 [some (.ref 29), some (vi ((p0 : Nat) : Int)), some (vi ((p1 : Nat) : Int)), some (vi x2), some (vi 0), some (vl ((u + z : Nat) : Int)), none, some (vl ((d : Nat) : Int)), none, some (vi ((S + 1 : Nat) : Int)), some (vl ((z : Nat) : Int)), none, some (vi ((k : Nat) : Int))] [] X178
                                refine ev_goto (pc := 184) hC 91 dX6_wind_184 (by decide) ?_
                                refine ev_drop 10 ?_
                                refine ev_drop 12 ?_
                                show Ev K 91 [some (.ref 29), some (vi ((p0 : Nat) : Int)), some (vi ((p1 : Nat) : Int)), some (vi x2), some (vi 0), some (vl ((u + z : Nat) : Int)), none, some (vl ((d : Nat) : Int)), none, some (vi ((S + 1 : Nat) : Int)), none, none, none] [] X178
                                exact ih91 (S + 1) (u + z) X178 (by omega) (by omega) (wind_t2 (show k = p0 by omega) hu (by omega) hz (by omega) (by omega)) hA178 hg178 hFr178
                            · refine ev_lload (pc := 115) hC dX6_wind_115 rfl ?_
                              refine ev_iload (pc := 117) hC dX6_wind_117 rfl ?_
                              refine ev_iload (pc := 119) hC dX6_wind_119 rfl ?_
                              refine ev_callS (pc := 121) (as := [vi ((S : Nat) : Int), vi ((k : Nat) : Int)]) (rest := [vl ((z : Nat) : Int)]) hC gX6_wind_X6_has mtX6_has dX6_wind_121 (ru_X6_has S k (by omega) (by omega)) (by decide) (by rfl) (Nat.le_of_ble_eq_true rfl) rfl (fun v121 X121 h121 => ?_)
                              obtain ⟨rfl, rfl⟩ := h121
                              show Ev K 124 [some (.ref 29), some (vi ((p0 : Nat) : Int)), some (vi ((p1 : Nat) : Int)), some (vi x2), some (vi 0), some (vl ((u : Nat) : Int)), none, some (vl ((d : Nat) : Int)), none, some (vi ((S : Nat) : Int)), some (vl ((z : Nat) : Int)), none, some (vi ((k : Nat) : Int))] [vi (b2i (Nat.testBit S k)), vl ((z : Nat) : Int)] Y
                              have hr121 := b2i_r (Nat.testBit S k)
                              refine ev_if_eq (pc := 124) hC 131 dX6_wind_124 (by decide) (by omega) (fun c124 => ?_) (fun c124 => ?_)
                              · have e124 := b2i_0 c124
                                refine ev_iload_n (pc := 131) hC dX6_wind_131 rfl ?_
                                refine ev_iconst (pc := 132) hC dX6_wind_132 ?_
                                refine ev_isub (pc := 133) hC ((p1 - 1 : Nat) : Int) (by omega) dX6_wind_133 ?_
                                refine ev_i2l (pc := 134) hC (by omega) dX6_wind_134 ?_
                                refine ev_lmul (pc := 135) hC ((z * (p1 - 1) : Nat) : Int) (by push_cast; rfl) dX6_wind_135 ?_
                                refine ev_lstore (pc := 136) hC dX6_wind_136 (by rw [hKn]; decide) rfl ?_
                                show Ev K 138 [some (.ref 29), some (vi ((p0 : Nat) : Int)), some (vi ((p1 : Nat) : Int)), some (vi x2), some (vi 0), some (vl ((u : Nat) : Int)), none, some (vl ((d : Nat) : Int)), none, some (vi ((S : Nat) : Int)), some (vl ((z * (p1 - 1) : Nat) : Int)), none, some (vi ((k : Nat) : Int))] [] Y
                                refine ev_aload_n (pc := 138) hC dX6_wind_138 rfl ?_
                                refine ev_iload (pc := 139) hC dX6_wind_139 rfl ?_
                                refine ev_iload (pc := 141) hC dX6_wind_141 rfl ?_
                                refine ev_callS (pc := 143) (as := [vi ((S : Nat) : Int), vi ((k : Nat) : Int)]) (rest := [.ref 29]) hC gX6_wind_X6_has mtX6_has dX6_wind_143 (ru_X6_has S k (by omega) (by omega)) (by decide) (by rfl) (Nat.le_of_ble_eq_true rfl) rfl (fun v143 X143 h143 => ?_)
                                obtain ⟨rfl, rfl⟩ := h143
                                show Ev K 146 [some (.ref 29), some (vi ((p0 : Nat) : Int)), some (vi ((p1 : Nat) : Int)), some (vi x2), some (vi 0), some (vl ((u : Nat) : Int)), none, some (vl ((d : Nat) : Int)), none, some (vi ((S : Nat) : Int)), some (vl ((z * (p1 - 1) : Nat) : Int)), none, some (vi ((k : Nat) : Int))] [vi (b2i (Nat.testBit S k)), .ref 29] Y
                                have hr143 := b2i_r (Nat.testBit S k)
                                refine ev_callV (pc := 146) (as := [vi (b2i (Nat.testBit S k))]) (rest := []) hC gX6_wind_X6_goesYear mtX6_goesYear dX6_wind_146 (ru_X6_goesYear hAY hgY hG (Nat.testBit S k)) (by decide) (by decide) (by decide) rfl (by rfl) (Nat.le_of_ble_eq_true rfl) rfl (fun v146 X146 h146 => ?_)
                                obtain ⟨rfl, hA146, hF146⟩ := h146
                                show Ev K 149 [some (.ref 29), some (vi ((p0 : Nat) : Int)), some (vi ((p1 : Nat) : Int)), some (vi x2), some (vi 0), some (vl ((u : Nat) : Int)), none, some (vl ((d : Nat) : Int)), none, some (vi ((S : Nat) : Int)), some (vl ((z * (p1 - 1) : Nat) : Int)), none, some (vi ((k : Nat) : Int))] [] X146
                                have hg146 := frT_gone hF146 hgY
                                have hk2_146 := hK2Y.keepK hF146 (by omega)
                                have hFr146 := frT_tr hFY hF146 (by omega)
                                have hn8_146 := hA146.n8
                                refine ev_iinc (pc := 149) hC ((k + 1 : Nat) : Int) dX6_wind_149 rfl (by omega) (by rw [hKn]; decide) rfl ?_
                                show Ev K 152 [some (.ref 29), some (vi ((p0 : Nat) : Int)), some (vi ((p1 : Nat) : Int)), some (vi x2), some (vi 0), some (vl ((u : Nat) : Int)), none, some (vl ((d : Nat) : Int)), none, some (vi ((S : Nat) : Int)), some (vl ((z * (p1 - 1) : Nat) : Int)), none, some (vi ((k + 1 : Nat) : Int))] [] X146
                                refine ev_goto (pc := 152) hC 109 dX6_wind_152 (by decide) ?_
                                exact ih109 (k + 1) (z * (p1 - 1)) X146 (by omega) (by omega) (by rw [hz]; exact wp_f e124) hA146 hg146 hFr146 hk2_146
                              · have e124 := b2i_1 c124
                                refine ev_lconst (pc := 127) hC 1 (by decide) dX6_wind_127 ?_
                                refine ev_goto (pc := 128) hC 135 dX6_wind_128 (by decide) ?_
                                refine ev_lmul (pc := 135) hC ((z * 1 : Nat) : Int) (by omega) dX6_wind_135 ?_
                                refine ev_lstore (pc := 136) hC dX6_wind_136 (by rw [hKn]; decide) rfl ?_
                                show Ev K 138 [some (.ref 29), some (vi ((p0 : Nat) : Int)), some (vi ((p1 : Nat) : Int)), some (vi x2), some (vi 0), some (vl ((u : Nat) : Int)), none, some (vl ((d : Nat) : Int)), none, some (vi ((S : Nat) : Int)), some (vl ((z * 1 : Nat) : Int)), none, some (vi ((k : Nat) : Int))] [] Y
                                refine ev_aload_n (pc := 138) hC dX6_wind_138 rfl ?_
                                refine ev_iload (pc := 139) hC dX6_wind_139 rfl ?_
                                refine ev_iload (pc := 141) hC dX6_wind_141 rfl ?_
                                refine ev_callS (pc := 143) (as := [vi ((S : Nat) : Int), vi ((k : Nat) : Int)]) (rest := [.ref 29]) hC gX6_wind_X6_has mtX6_has dX6_wind_143 (ru_X6_has S k (by omega) (by omega)) (by decide) (by rfl) (Nat.le_of_ble_eq_true rfl) rfl (fun v143 X143 h143 => ?_)
                                obtain ⟨rfl, rfl⟩ := h143
                                show Ev K 146 [some (.ref 29), some (vi ((p0 : Nat) : Int)), some (vi ((p1 : Nat) : Int)), some (vi x2), some (vi 0), some (vl ((u : Nat) : Int)), none, some (vl ((d : Nat) : Int)), none, some (vi ((S : Nat) : Int)), some (vl ((z * 1 : Nat) : Int)), none, some (vi ((k : Nat) : Int))] [vi (b2i (Nat.testBit S k)), .ref 29] Y
                                have hr143 := b2i_r (Nat.testBit S k)
                                refine ev_callV (pc := 146) (as := [vi (b2i (Nat.testBit S k))]) (rest := []) hC gX6_wind_X6_goesYear mtX6_goesYear dX6_wind_146 (ru_X6_goesYear hAY hgY hG (Nat.testBit S k)) (by decide) (by decide) (by decide) rfl (by rfl) (Nat.le_of_ble_eq_true rfl) rfl (fun v146 X146 h146 => ?_)
                                obtain ⟨rfl, hA146, hF146⟩ := h146
                                show Ev K 149 [some (.ref 29), some (vi ((p0 : Nat) : Int)), some (vi ((p1 : Nat) : Int)), some (vi x2), some (vi 0), some (vl ((u : Nat) : Int)), none, some (vl ((d : Nat) : Int)), none, some (vi ((S : Nat) : Int)), some (vl ((z * 1 : Nat) : Int)), none, some (vi ((k : Nat) : Int))] [] X146
                                have hg146 := frT_gone hF146 hgY
                                have hk2_146 := hK2Y.keepK hF146 (by omega)
                                have hFr146 := frT_tr hFY hF146 (by omega)
                                have hn8_146 := hA146.n8
                                refine ev_iinc (pc := 149) hC ((k + 1 : Nat) : Int) dX6_wind_149 rfl (by omega) (by rw [hKn]; decide) rfl ?_
                                show Ev K 152 [some (.ref 29), some (vi ((p0 : Nat) : Int)), some (vi ((p1 : Nat) : Int)), some (vi x2), some (vi 0), some (vl ((u : Nat) : Int)), none, some (vl ((d : Nat) : Int)), none, some (vi ((S : Nat) : Int)), some (vl ((z * 1 : Nat) : Int)), none, some (vi ((k + 1 : Nat) : Int))] [] X146
                                refine ev_goto (pc := 152) hC 109 dX6_wind_152 (by decide) ?_
                                exact ih109 (k + 1) (z * 1) X146 (by omega) (by omega) (by rw [hz]; exact wp_t e124) hA146 hg146 hFr146 hk2_146
                        exact lp109 _ 0 1 X100 (Nat.lt_succ_self _) (by omega) rfl hA100 hg100 hFr100 hk2_100
                  exact lp91 _ 0 0 X (Nat.lt_succ_self _) (Nat.zero_le _) rfl hA hg (frT_rf 1 X)
                · refine ev_lload (pc := 75) hC dX6_wind_75 rfl ?_
                  refine ev_iload_n (pc := 77) hC dX6_wind_77 rfl ?_
                  refine ev_i2l (pc := 78) hC (by omega) dX6_wind_78 ?_
                  refine ev_lmul (pc := 79) hC ((d * p1 : Nat) : Int) (by push_cast; rfl) dX6_wind_79 ?_
                  refine ev_lstore (pc := 80) hC dX6_wind_80 (by rw [hKn]; decide) rfl ?_
                  show Ev K 82 [some (.ref 29), some (vi ((p0 : Nat) : Int)), some (vi ((p1 : Nat) : Int)), some (vi x2), some (vi 0), some (vl 0), none, some (vl ((d * p1 : Nat) : Int)), none, some (vi ((i : Nat) : Int)), none, none, none] [] X
                  refine ev_iinc (pc := 82) hC ((i + 1 : Nat) : Int) dX6_wind_82 rfl (by omega) (by rw [hKn]; decide) rfl ?_
                  show Ev K 85 [some (.ref 29), some (vi ((p0 : Nat) : Int)), some (vi ((p1 : Nat) : Int)), some (vi x2), some (vi 0), some (vl 0), none, some (vl ((d * p1 : Nat) : Int)), none, some (vi ((i + 1 : Nat) : Int)), none, none, none] [] X
                  refine ev_goto (pc := 85) hC 69 dX6_wind_85 (by decide) ?_
                  exact ih69 (i + 1) (d * p1) (by omega) (by omega) (by rw [Nat.pow_succ, ← hd])
            exact lp69 _ 0 1 (Nat.lt_succ_self _) (by omega) rfl
          · have e37 := of_decide_eq_false (b2i_0 c37)
            refine ev_bipush (pc := 40) hC dX6_wind_40 (by decide) ?_
            refine ev_goto (pc := 42) hC 46 dX6_wind_42 (by decide) ?_
            refine ev_istore (pc := 46) hC dX6_wind_46 (by rw [hKn]; decide) rfl ?_
            show Ev K 48 [some (.ref 29), some (vi x0), some (vi x1), some (vi x2), some (vi (-2)), none, none, none, none, none, none, none, none] [] X
            refine ev_iload (pc := 48) hC dX6_wind_48 rfl ?_
            refine ev_if_eq (pc := 50) hC 60 dX6_wind_50 (by decide) (by omega) (fun c50 => absurd c50 (by decide)) (fun c50 => ?_)
            refine ev_aload_n (pc := 53) hC dX6_wind_53 rfl ?_
            refine ev_iload (pc := 54) hC dX6_wind_54 rfl ?_
            refine ev_callV (pc := 56) (as := [vi (-2)]) (rest := []) hC gX6_wind_X6_lowest mtX6_lowest dX6_wind_56 (ru_X6_lowest2 (-2) (by omega)) (by decide) (by decide) (by decide) rfl (by rfl) (Nat.le_of_ble_eq_true rfl) rfl (fun v56 X56 h56 => ?_)
            obtain ⟨rfl, rfl⟩ := h56
            show Ev K 59 [some (.ref 29), some (vi x0), some (vi x1), some (vi x2), some (vi (-2)), none, none, none, none, none, none, none, none] [vl (4000000000000000000 - (-2))] (mset X 30 (-(-2)).toNat (X 30 (-(-2)).toNat + 1))
            exact ev_lreturn (pc := 59) hC hR dX6_wind_59 (no_endMB (show wnC x0 x1 x2 = (-2) by omega) (by omega) hI)
        · refine ev_bipush (pc := 26) hC dX6_wind_26 (by decide) ?_
          refine ev_goto (pc := 28) hC 46 dX6_wind_28 (by decide) ?_
          refine ev_istore (pc := 46) hC dX6_wind_46 (by rw [hKn]; decide) rfl ?_
          show Ev K 48 [some (.ref 29), some (vi x0), some (vi x1), some (vi x2), some (vi (-6)), none, none, none, none, none, none, none, none] [] X
          refine ev_iload (pc := 48) hC dX6_wind_48 rfl ?_
          refine ev_if_eq (pc := 50) hC 60 dX6_wind_50 (by decide) (by omega) (fun c50 => absurd c50 (by decide)) (fun c50 => ?_)
          refine ev_aload_n (pc := 53) hC dX6_wind_53 rfl ?_
          refine ev_iload (pc := 54) hC dX6_wind_54 rfl ?_
          refine ev_callV (pc := 56) (as := [vi (-6)]) (rest := []) hC gX6_wind_X6_lowest mtX6_lowest dX6_wind_56 (ru_X6_lowest2 (-6) (by omega)) (by decide) (by decide) (by decide) rfl (by rfl) (Nat.le_of_ble_eq_true rfl) rfl (fun v56 X56 h56 => ?_)
          obtain ⟨rfl, rfl⟩ := h56
          show Ev K 59 [some (.ref 29), some (vi x0), some (vi x1), some (vi x2), some (vi (-6)), none, none, none, none, none, none, none, none] [vl (4000000000000000000 - (-6))] (mset X 30 (-(-6)).toNat (X 30 (-(-6)).toNat + 1))
          exact ev_lreturn (pc := 59) hC hR dX6_wind_59 (no_endMB (show wnC x0 x1 x2 = (-6) by omega) (by omega) hI)
    · refine ev_bipush (pc := 9) hC dX6_wind_9 (by decide) ?_
      refine ev_goto (pc := 11) hC 46 dX6_wind_11 (by decide) ?_
      refine ev_istore (pc := 46) hC dX6_wind_46 (by rw [hKn]; decide) rfl ?_
      show Ev K 48 [some (.ref 29), some (vi x0), some (vi x1), some (vi x2), some (vi (-4)), none, none, none, none, none, none, none, none] [] X
      refine ev_iload (pc := 48) hC dX6_wind_48 rfl ?_
      refine ev_if_eq (pc := 50) hC 60 dX6_wind_50 (by decide) (by omega) (fun c50 => absurd c50 (by decide)) (fun c50 => ?_)
      refine ev_aload_n (pc := 53) hC dX6_wind_53 rfl ?_
      refine ev_iload (pc := 54) hC dX6_wind_54 rfl ?_
      refine ev_callV (pc := 56) (as := [vi (-4)]) (rest := []) hC gX6_wind_X6_lowest mtX6_lowest dX6_wind_56 (ru_X6_lowest2 (-4) (by omega)) (by decide) (by decide) (by decide) rfl (by rfl) (Nat.le_of_ble_eq_true rfl) rfl (fun v56 X56 h56 => ?_)
      obtain ⟨rfl, rfl⟩ := h56
      show Ev K 59 [some (.ref 29), some (vi x0), some (vi x1), some (vi x2), some (vi (-4)), none, none, none, none, none, none, none, none] [vl (4000000000000000000 - (-4))] (mset X 30 (-(-4)).toNat (X 30 (-(-4)).toNat + 1))
      exact ev_lreturn (pc := 59) hC hR dX6_wind_59 (no_endMB (show wnC x0 x1 x2 = (-4) by omega) (by omega) hI)
theorem mtX6_manyIf : MT yX6_manyIf wsX6_manyIf cX6_manyIf 7 (some .int) 5 := ⟨⟨_, rfl⟩, by decide, by decide, by decide +kernel⟩
set_option maxRecDepth 100000 in
set_option maxHeartbeats 4000000 in
theorem ru_X6_manyIf {X : Mem} {A : Sl} (hA : Rp (vM X) A) (hg : X 29 8 = zI ((0 : Nat) : Int)) (a o b q n : Nat) (ha : a < A 5 0) (ho : o ≤ 1) (hb : b < A 5 0) (hq : q ≤ 1) (hn : n ≤ 60) : Ru yX6_manyIf wsX6_manyIf 10 221 [.ref 29, vi ((a : Nat) : Int), vi ((o : Nat) : Int), vi ((b : Nat) : Int), vi ((q : Nat) : Int), vi ((n : Nat) : Int)] X (fun v X' => v = some (vi (pairF A a b n o q)) ∧ Rp (vM X') A ∧ frT 1 X X') := by
  refine ru_of (w2 := _) rfl (by decide) [some (.ref 29), some (vi ((a : Nat) : Int)), some (vi ((o : Nat) : Int)), some (vi ((b : Nat) : Int)), some (vi ((q : Nat) : Int)), some (vi ((n : Nat) : Int)), none] (fun _ => rfl) (fun _ => Nat.le_of_ble_eq_true rfl) ?_
  intro K hKn hC hR
  have wX6 : ∀ w ∈ u_ws RX6 TX6 25, w ∈ wsX6_manyIf := by decide +kernel
  have f25 : Fl K RX6 25 6 5 := fl_of hC RX6 TX6 25 rfl (by decide) wX6 (show Cond.fieldLink RX6 25 "PicnicOfSomebodyModel" "belief" "[I" ∈ _ by decide +kernel)
  have hn8 := hA.n8
  have hG : 0 < 256 := by decide
  refine ev_aload_n (pc := 0) hC dX6_manyIf_0 rfl ?_
  refine ev_iconst (pc := 1) hC dX6_manyIf_1 ?_
  refine ev_iconst (pc := 2) hC dX6_manyIf_2 ?_
  refine ev_callV (pc := 3) (as := [vi 1, vi 1]) (rest := []) hC gX6_manyIf_X6_passesAll mtX6_passesAll dX6_manyIf_3 (ru_X6_passesAll_k 1 (by omega)) (by decide) (by decide) (by decide) rfl (by rfl) (Nat.le_of_ble_eq_true rfl) rfl (fun v3 X3 h3 => ?_)
  obtain ⟨rfl, hS3⟩ := h3
  show Ev K 6 [some (.ref 29), some (vi ((a : Nat) : Int)), some (vi ((o : Nat) : Int)), some (vi ((b : Nat) : Int)), some (vi ((q : Nat) : Int)), some (vi ((n : Nat) : Int)), none] [] X3
  have hF3 := ks_fr hS3
  have hA3 := ks_repM hS3 hA
  have hk1_3 := ks_rep hS3 hA
  have hg3 := frT_gone hF3 hg
  have hFr3 := frT_tr (frT_rf 1 X) hF3 (by omega)
  have hn8_3 := hA3.n8
  refine ev_aload_n (pc := 6) hC dX6_manyIf_6 rfl ?_
  refine ev_getr (pc := 7) hC 35 f25 dX6_manyIf_7 (by decide) (by decide) (by decide) (by decide) (by decide) ?_
  refine ev_iload_n (pc := 10) hC dX6_manyIf_10 rfl ?_
  refine ev_bipush (pc := 11) hC dX6_manyIf_11 (by decide) ?_
  refine ev_iload_n (pc := 13) hC dX6_manyIf_13 rfl ?_
  refine ev_imul (pc := 14) hC ((9 * o : Nat) : Int) (by omega) dX6_manyIf_14 ?_
  refine ev_iast (pc := 15) hC a (by decide) (by decide) (rfl) (by have := (show alen 35 = 8 from rfl); omega) dX6_manyIf_15 ?_
  have hA15 : Rp (vM (mset X3 35 a (zI ((9 * o : Nat) : Int)))) (setR A 4 a (9 * o)) := Rp.setM4 (v := 9 * o) hA3 (by omega)
  have hg15 : (mset X3 35 a (zI ((9 * o : Nat) : Int))) 29 8 = zI ((0 : Nat) : Int) := by rw [mset_row (by omega)]; exact hg3
  have hFr15 : frT 1 X (mset X3 35 a (zI ((9 * o : Nat) : Int))) := frT_set (r := 4) hFr3 (by omega)
  have hk1_15 : Rp (vK (mset X3 35 a (zI ((9 * o : Nat) : Int))) 1) A := Rp.keepKr hk1_3 (mset_row (by omega))
  refine ev_aload_n (pc := 16) hC dX6_manyIf_16 rfl ?_
  refine ev_getr (pc := 17) hC 35 f25 dX6_manyIf_17 (by decide) (by decide) (by decide) (by decide) (by decide) ?_
  refine ev_iload_n (pc := 20) hC dX6_manyIf_20 rfl ?_
  refine ev_bipush (pc := 21) hC dX6_manyIf_21 (by decide) ?_
  refine ev_iload (pc := 23) hC dX6_manyIf_23 rfl ?_
  refine ev_imul (pc := 25) hC ((9 * q : Nat) : Int) (by omega) dX6_manyIf_25 ?_
  refine ev_iast (pc := 26) hC b (by decide) (by decide) (rfl) (by have := (show alen 35 = 8 from rfl); omega) dX6_manyIf_26 ?_
  have hA26 : Rp (vM (mset (mset X3 35 a (zI ((9 * o : Nat) : Int))) 35 b (zI ((9 * q : Nat) : Int)))) (setR (setR A 4 a (9 * o)) 4 b (9 * q)) := Rp.setM4 (v := 9 * q) hA15 (by omega)
  have hg26 : (mset (mset X3 35 a (zI ((9 * o : Nat) : Int))) 35 b (zI ((9 * q : Nat) : Int))) 29 8 = zI ((0 : Nat) : Int) := by rw [mset_row (by omega)]; exact hg15
  have hFr26 : frT 1 X (mset (mset X3 35 a (zI ((9 * o : Nat) : Int))) 35 b (zI ((9 * q : Nat) : Int))) := frT_set (r := 4) hFr15 (by omega)
  have hk1_26 : Rp (vK (mset (mset X3 35 a (zI ((9 * o : Nat) : Int))) 35 b (zI ((9 * q : Nat) : Int))) 1) A := Rp.keepKr hk1_15 (mset_row (by omega))
  refine ev_aload_n (pc := 27) hC dX6_manyIf_27 rfl ?_
  refine ev_iload (pc := 28) hC dX6_manyIf_28 rfl ?_
  refine ev_callV (pc := 30) (as := [vi ((n : Nat) : Int)]) (rest := []) hC gX6_manyIf_X6_believersIn mtX6_believersIn dX6_manyIf_30 (ru_X6_believersIn hA26 hg26 hG n (by omega)) (by decide) (by decide) (by decide) rfl (by rfl) (Nat.le_of_ble_eq_true rfl) rfl (fun v30 X30 h30 => ?_)
  obtain ⟨rfl, hA30, hF30⟩ := h30
  show Ev K 33 [some (.ref 29), some (vi ((a : Nat) : Int)), some (vi ((o : Nat) : Int)), some (vi ((b : Nat) : Int)), some (vi ((q : Nat) : Int)), some (vi ((n : Nat) : Int)), none] [vi ((bset 0 (goN 0 n (setR (setR A 4 a (9 * o)) 4 b (9 * q))) : Nat) : Int)] X30
  have hgn30 := goN_n 0 (setR (setR A 4 a (9 * o)) 4 b (9 * q)) n
  have hbl30 : bset 0 (goN 0 n (setR (setR A 4 a (9 * o)) 4 b (9 * q))) < 256 := bset_lt (by rw [hgn30]; exact hA26.n8)
  have hg30 := frT_gone hF30 hg26
  have hk1_30 := hk1_26.keepK hF30 (by omega)
  have hFr30 := frT_tr hFr26 hF30 (by omega)
  have hn8_30 := hA30.n8
  refine ev_callS (pc := 33) (as := [vi ((bset 0 (goN 0 n (setR (setR A 4 a (9 * o)) 4 b (9 * q))) : Nat) : Int)]) (rest := []) hC gX6_manyIf_X6_bits mtX6_bits dX6_manyIf_33 (ru_X6_bits (bset 0 (goN 0 n (setR (setR A 4 a (9 * o)) 4 b (9 * q)))) (by omega)) (by decide) (by rfl) (Nat.le_of_ble_eq_true rfl) rfl (fun v33 X33 h33 => ?_)
  obtain ⟨rfl, rfl⟩ := h33
  show Ev K 36 [some (.ref 29), some (vi ((a : Nat) : Int)), some (vi ((o : Nat) : Int)), some (vi ((b : Nat) : Int)), some (vi ((q : Nat) : Int)), some (vi ((n : Nat) : Int)), none] [vi ((pop (bset 0 (goN 0 n (setR (setR A 4 a (9 * o)) 4 b (9 * q)))) : Nat) : Int)] X30
  have hp33 := pop_le (bset 0 (goN 0 n (setR (setR A 4 a (9 * o)) 4 b (9 * q))))
  refine ev_istore (pc := 36) hC dX6_manyIf_36 (by rw [hKn]; decide) rfl ?_
  show Ev K 38 [some (.ref 29), some (vi ((a : Nat) : Int)), some (vi ((o : Nat) : Int)), some (vi ((b : Nat) : Int)), some (vi ((q : Nat) : Int)), some (vi ((n : Nat) : Int)), some (vi ((pop (bset 0 (goN 0 n (setR (setR A 4 a (9 * o)) 4 b (9 * q)))) : Nat) : Int))] [] X30
  refine ev_aload_n (pc := 38) hC dX6_manyIf_38 rfl ?_
  refine ev_iconst (pc := 39) hC dX6_manyIf_39 ?_
  refine ev_iconst (pc := 40) hC dX6_manyIf_40 ?_
  refine ev_callV (pc := 41) (as := [vi 1, vi 0]) (rest := []) hC gX6_manyIf_X6_passesAll mtX6_passesAll dX6_manyIf_41 (ru_X6_passesAll_p 1 (by omega)) (by decide) (by decide) (by decide) rfl (by rfl) (Nat.le_of_ble_eq_true rfl) rfl (fun v41 X41 h41 => ?_)
  obtain ⟨rfl, hS41⟩ := h41
  show Ev K 44 [some (.ref 29), some (vi ((a : Nat) : Int)), some (vi ((o : Nat) : Int)), some (vi ((b : Nat) : Int)), some (vi ((q : Nat) : Int)), some (vi ((n : Nat) : Int)), some (vi ((pop (bset 0 (goN 0 n (setR (setR A 4 a (9 * o)) 4 b (9 * q)))) : Nat) : Int))] [] X41
  have hF41 := ps_fr hS41
  have hA41 := ps_rep hS41 hk1_30
  have hg41 := frT_gone hF41 hg30
  have hk1_41 := hk1_30.keepK hF41 (by omega)
  have hFr41 := frT_tr hFr30 hF41 (by omega)
  have hn8_41 := hA41.n8
  refine ev_iload (pc := 44) hC dX6_manyIf_44 rfl ?_
  exact ev_ireturn (pc := 46) hC hR dX6_manyIf_46 (⟨rv (by rw [pop_bset (by rw [goN_n]; exact hn8)]; first | done | rfl), hA41, hFr41⟩)
theorem mtX6_two : MT yX6_two wsX6_two cX6_two 6 (some .int) 3 := ⟨⟨_, rfl⟩, by decide, by decide, by decide +kernel⟩
set_option maxRecDepth 100000 in
set_option maxHeartbeats 4000000 in
theorem ru_X6_two {X : Mem} {V : St} (hV : mI X V) (x0 : Int) (hx0 : -2147483648 ≤ x0 ∧ x0 ≤ 2147483647) (x1 : Int) (hx1 : -2147483648 ≤ x1 ∧ x1 ≤ 2147483647) (x2 : Int) (hx2 : -2147483648 ≤ x2 ∧ x2 ≤ 2147483647) : Ru yX6_two wsX6_two 11 247 [.ref 29, vi x0, vi x1, vi x2] X (fun v X' => v = some (vi (sp27 x0 x1 x2 V).1) ∧ mI X' (sp27 x0 x1 x2 V).2 ∧ frM X X') := by
  refine ru_of (w2 := _) rfl (by decide) [some (.ref 29), some (vi x0), some (vi x1), some (vi x2), none, none] (fun _ => rfl) (fun _ => Nat.le_of_ble_eq_true rfl) ?_
  intro K hKn hC hR
  have wX6 : ∀ w ∈ u_ws RX6 TX6 25, w ∈ wsX6_two := by decide +kernel
  have f46 : Fl K RX6 46 6 21 := fl_of hC RX6 TX6 25 rfl (by decide) wX6 (show Cond.fieldLink RX6 46 "PicnicOfSomebodyModel" "manyBy" "[I" ∈ _ by decide +kernel)
  obtain ⟨A, B, hh, T, n, W, rs, C⟩ := V
  have hA : Rp (vM X) A := hV.1
  have hyA : A 5 1 ≤ 999 := hV.2.1
  have hB : hh = true → Rp (vK X 0) B ∧ B 5 1 ≤ 999 := hV.2.2.1
  have hi : X 29 17 = zI (b2i hh) := hV.2.2.2.1
  have hg : X 29 8 = zI ((0 : Nat) : Int) := hV.2.2.2.2.1
  have hT : TxM X T n := hV.2.2.2.2.2.1
  have hW : RwM X W rs := hV.2.2.2.2.2.2.1
  have hCn : ∀ k, k < 7 → X 30 k = zI (C k : Nat) := hV.2.2.2.2.2.2.2
  have hn8 := hA.n8
  have hn96 := hT.2.1
  have hrs := hW.2.1
  have hG : 0 < 256 := by decide
  have hI : mI X (A, B, hh, T, n, W, rs, C) := hV
  have hq1 := cdP_cases A x0
  have hq2 := cdP_cases A x1
  have hq3 := bnd_cases x2 0 60
  have hq5 := ite_cases (x0 = x1)
  have hq4 := f3_cases (cdP A x0) (cdP A x1) (if x0 = x1 then -1 else 0)
  have hq6 := f3_cases (f3 (cdP A x0) (cdP A x1) (if x0 = x1 then -1 else 0)) (bnd x2 0 60) 0
  refine ev_aload_n (pc := 0) hC dX6_two_0 rfl ?_
  refine ev_iload_n (pc := 1) hC dX6_two_1 rfl ?_
  refine ev_callV (pc := 2) (as := [vi x0]) (rest := []) hC gX6_two_X6_isOne mtX6_isOne dX6_two_2 (ru_X6_isOne hA x0 (by omega)) (by decide) (by decide) (by decide) rfl (by rfl) (Nat.le_of_ble_eq_true rfl) rfl (fun v2 X2 h2 => ?_)
  obtain ⟨rfl, rfl⟩ := h2
  show Ev K 5 [some (.ref 29), some (vi x0), some (vi x1), some (vi x2), none, none] [vi (b2i (decide (0 ≤ x0 ∧ x0 < (A 5 0 : Int))))] X
  have hr2 := b2i_r (decide (0 ≤ x0 ∧ x0 < (A 5 0 : Int)))
  refine ev_if_eq (pc := 5) hC 21 dX6_two_5 (by decide) (by omega) (fun c5 => ?_) (fun c5 => ?_)
  · have e5 := of_decide_eq_false (b2i_0 c5)
    refine ev_iconst (pc := 21) hC dX6_two_21 ?_
    refine ev_goto (pc := 22) hC 29 dX6_two_22 (by decide) ?_
    refine ev_istore (pc := 29) hC dX6_two_29 (by rw [hKn]; decide) rfl ?_
    show Ev K 31 [some (.ref 29), some (vi x0), some (vi x1), some (vi x2), some (vi (-1)), none] [] X
    refine ev_iload (pc := 31) hC dX6_two_31 rfl ?_
    refine ev_if_eq (pc := 33) hC 43 dX6_two_33 (by decide) (by omega) (fun c33 => absurd c33 (by decide)) (fun c33 => ?_)
    refine ev_aload_n (pc := 36) hC dX6_two_36 rfl ?_
    refine ev_iload (pc := 37) hC dX6_two_37 rfl ?_
    refine ev_callV (pc := 39) (as := [vi (-1)]) (rest := []) hC gX6_two_X6_no mtX6_no dX6_two_39 (ru_X6_no2 (-1) (by omega)) (by decide) (by decide) (by decide) rfl (by rfl) (Nat.le_of_ble_eq_true rfl) rfl (fun v39 X39 h39 => ?_)
    obtain ⟨rfl, rfl⟩ := h39
    show Ev K 42 [some (.ref 29), some (vi x0), some (vi x1), some (vi x2), some (vi (-1)), none] [vi (-1)] (mset X 30 (-(-1)).toNat (X 30 (-(-1)).toNat + 1))
    exact ev_ireturn (pc := 42) hC hR dX6_two_42 (no_endM (show f3 (f3 (cdP A x0) (cdP A x1) (if x0 = x1 then -1 else 0)) (bnd x2 0 60) 0 = (-1) by omega) (by omega) hI)
  · have e5 := of_decide_eq_true (b2i_1 c5)
    refine ev_aload_n (pc := 8) hC dX6_two_8 rfl ?_
    refine ev_iload_n (pc := 9) hC dX6_two_9 rfl ?_
    refine ev_callV (pc := 10) (as := [vi x1]) (rest := []) hC gX6_two_X6_isOne mtX6_isOne dX6_two_10 (ru_X6_isOne hA x1 (by omega)) (by decide) (by decide) (by decide) rfl (by rfl) (Nat.le_of_ble_eq_true rfl) rfl (fun v10 X10 h10 => ?_)
    obtain ⟨rfl, rfl⟩ := h10
    show Ev K 13 [some (.ref 29), some (vi x0), some (vi x1), some (vi x2), none, none] [vi (b2i (decide (0 ≤ x1 ∧ x1 < (A 5 0 : Int))))] X
    have hr10 := b2i_r (decide (0 ≤ x1 ∧ x1 < (A 5 0 : Int)))
    refine ev_if_eq (pc := 13) hC 21 dX6_two_13 (by decide) (by omega) (fun c13 => ?_) (fun c13 => ?_)
    · have e13 := of_decide_eq_false (b2i_0 c13)
      refine ev_iconst (pc := 21) hC dX6_two_21 ?_
      refine ev_goto (pc := 22) hC 29 dX6_two_22 (by decide) ?_
      refine ev_istore (pc := 29) hC dX6_two_29 (by rw [hKn]; decide) rfl ?_
      show Ev K 31 [some (.ref 29), some (vi x0), some (vi x1), some (vi x2), some (vi (-1)), none] [] X
      refine ev_iload (pc := 31) hC dX6_two_31 rfl ?_
      refine ev_if_eq (pc := 33) hC 43 dX6_two_33 (by decide) (by omega) (fun c33 => absurd c33 (by decide)) (fun c33 => ?_)
      refine ev_aload_n (pc := 36) hC dX6_two_36 rfl ?_
      refine ev_iload (pc := 37) hC dX6_two_37 rfl ?_
      refine ev_callV (pc := 39) (as := [vi (-1)]) (rest := []) hC gX6_two_X6_no mtX6_no dX6_two_39 (ru_X6_no2 (-1) (by omega)) (by decide) (by decide) (by decide) rfl (by rfl) (Nat.le_of_ble_eq_true rfl) rfl (fun v39 X39 h39 => ?_)
      obtain ⟨rfl, rfl⟩ := h39
      show Ev K 42 [some (.ref 29), some (vi x0), some (vi x1), some (vi x2), some (vi (-1)), none] [vi (-1)] (mset X 30 (-(-1)).toNat (X 30 (-(-1)).toNat + 1))
      exact ev_ireturn (pc := 42) hC hR dX6_two_42 (no_endM (show f3 (f3 (cdP A x0) (cdP A x1) (if x0 = x1 then -1 else 0)) (bnd x2 0 60) 0 = (-1) by omega) (by omega) hI)
    · have e13 := of_decide_eq_true (b2i_1 c13)
      refine ev_iload_n (pc := 16) hC dX6_two_16 rfl ?_
      refine ev_iload_n (pc := 17) hC dX6_two_17 rfl ?_
      refine ev_icmp_ne (pc := 18) hC 25 dX6_two_18 (by decide) (by omega) (by omega) (fun c18 => ?_) (fun c18 => ?_)
      · refine ev_iload_n (pc := 25) hC dX6_two_25 rfl ?_
        refine ev_callS (pc := 26) (as := [vi x2]) (rest := []) hC gX6_two_X6_notYears mtX6_notYears dX6_two_26 (ru_X6_notYears x2 (by omega)) (by decide) (by rfl) (Nat.le_of_ble_eq_true rfl) rfl (fun v26 X26 h26 => ?_)
        obtain ⟨rfl, rfl⟩ := h26
        show Ev K 29 [some (.ref 29), some (vi x0), some (vi x1), some (vi x2), none, none] [vi (bnd x2 0 60)] X
        have hbd26 := bnd_cases x2 0 60
        refine ev_istore (pc := 29) hC dX6_two_29 (by rw [hKn]; decide) rfl ?_
        show Ev K 31 [some (.ref 29), some (vi x0), some (vi x1), some (vi x2), some (vi (bnd x2 0 60)), none] [] X
        refine ev_iload (pc := 31) hC dX6_two_31 rfl ?_
        refine ev_if_eq (pc := 33) hC 43 dX6_two_33 (by decide) (by omega) (fun c33 => ?_) (fun c33 => ?_)
        · obtain ⟨p0, rfl⟩ : ∃ k : Nat, x0 = (k : Int) := ⟨x0.toNat, by omega⟩
          obtain ⟨p1, rfl⟩ : ∃ k : Nat, x1 = (k : Int) := ⟨x1.toNat, by omega⟩
          obtain ⟨p2, rfl⟩ : ∃ k : Nat, x2 = (k : Int) := ⟨x2.toNat, by omega⟩
          refine ev_iconst (pc := 43) hC dX6_two_43 ?_
          refine ev_istore (pc := 44) hC dX6_two_44 (by rw [hKn]; decide) rfl ?_
          show Ev K 46 [some (.ref 29), some (vi ((p0 : Nat) : Int)), some (vi ((p1 : Nat) : Int)), some (vi ((p2 : Nat) : Int)), some (vi (bnd ((p2 : Nat) : Int) 0 60)), some (vi 0)] [] X
          have lp46 : ∀ (fz : Nat) (k : Nat) (Y : Mem), 4 - k < fz → (k ≤ 4) → (∀ j, j < k → Y 42 j = zI ((pairF A p0 p1 p2 (j / 2) (j % 2) : Nat) : Int)) → (Rp (vM Y) A) → (Y 29 8 = zI ((0 : Nat) : Int)) → (frW 1 X Y) → Ev K 46 [some (.ref 29), some (vi ((p0 : Nat) : Int)), some (vi ((p1 : Nat) : Int)), some (vi ((p2 : Nat) : Int)), some (vi (bnd ((p2 : Nat) : Int) 0 60)), some (vi ((k : Nat) : Int))] [] Y := by
            intro fz
            induction fz with
            | zero => intro k Y hfz; exact absurd hfz (Nat.not_lt_zero _)
            | succ fz ih46 =>
              intro k Y hfz hk hV hAY hgY hFY
              have hY8 := hAY.n8
              refine ev_iload (pc := 46) hC dX6_two_46 rfl ?_
              refine ev_iconst (pc := 48) hC dX6_two_48 ?_
              refine ev_icmp_ge (pc := 49) hC 80 dX6_two_49 (by decide) (by omega) (by omega) (fun c49 => ?_) (fun c49 => ?_)
              · refine ev_iconst (pc := 80) hC dX6_two_80 ?_
                refine ev_istore (pc := 81) hC dX6_two_81 (by rw [hKn]; decide) rfl ?_
                show Ev K 83 [some (.ref 29), some (vi ((p0 : Nat) : Int)), some (vi ((p1 : Nat) : Int)), some (vi ((p2 : Nat) : Int)), some (vi (bnd ((p2 : Nat) : Int) 0 60)), some (vi 0)] [] Y
                have lp83 : ∀ (fz : Nat) (m : Nat), 4 - m < fz → (m ≤ 4) → (∀ j, j < m → stillP A p0 p1 p2 (j / 2) (j % 2) = false) → Ev K 83 [some (.ref 29), some (vi ((p0 : Nat) : Int)), some (vi ((p1 : Nat) : Int)), some (vi ((p2 : Nat) : Int)), some (vi (bnd ((p2 : Nat) : Int) 0 60)), some (vi ((m : Nat) : Int))] [] Y := by
                  intro fz
                  induction fz with
                  | zero => intro m hfz; exact absurd hfz (Nat.not_lt_zero _)
                  | succ fz ih83 =>
                    intro m hfz hm hno
                    refine ev_iload (pc := 83) hC dX6_two_83 rfl ?_
                    refine ev_iconst (pc := 85) hC dX6_two_85 ?_
                    refine ev_icmp_ge (pc := 86) hC 146 dX6_two_86 (by decide) (by omega) (by omega) (fun c86 => ?_) (fun c86 => ?_)
                    · refine ev_bipush (pc := 146) hC dX6_two_146 (by decide) ?_
                      exact ev_ireturn (pc := 148) hC hR dX6_two_148 (ok_endM (show f3 (f3 (cdP A ((p0 : Nat) : Int)) (cdP A ((p1 : Nat) : Int)) (if ((p0 : Nat) : Int) = ((p1 : Nat) : Int) then -1 else 0)) (bnd ((p2 : Nat) : Int) 0 60) 0 = 0 by omega) (two_none (fun j hj => hno j (by omega))) (mI_W hI hAY hgY hFY) (frM_W hFY))
                    · have hx4 := tab_x m (by omega)
                      have hl0 := pairF_le (A := A) p0 p1 p2 (m / 2) (m % 2) hn8
                      have hl1 := pairF_le (A := A) p0 p1 p2 (1 - m / 2) (m % 2) hn8
                      have hl2 := pairF_le (A := A) p0 p1 p2 (m / 2) (1 - m % 2) hn8
                      refine ev_aload_n (pc := 89) hC dX6_two_89 rfl ?_
                      refine ev_getr (pc := 90) hC 42 f46 dX6_two_90 (by decide) (by decide) (by decide) (by decide) (by decide) ?_
                      refine ev_iload (pc := 93) hC dX6_two_93 rfl ?_
                      refine ev_iconst (pc := 95) hC dX6_two_95 ?_
                      refine ev_ixor (pc := 96) hC ((m ^^^ 2 : Nat) : Int) (zI_xor m 2) dX6_two_96 ?_
                      refine ev_iald (pc := 97) hC (m ^^^ 2) ((pairF A p0 p1 p2 (1 - m / 2) (m % 2) : Nat) : Int) (by decide) (by decide) (rfl) (by have := (show alen 42 = 4 from rfl); omega) ((by rw [hV _ (by omega), hx4.2.1, hx4.2.2.1])) dX6_two_97 ?_
                      refine ev_aload_n (pc := 98) hC dX6_two_98 rfl ?_
                      refine ev_getr (pc := 99) hC 42 f46 dX6_two_99 (by decide) (by decide) (by decide) (by decide) (by decide) ?_
                      refine ev_iload (pc := 102) hC dX6_two_102 rfl ?_
                      refine ev_iald (pc := 104) hC m ((pairF A p0 p1 p2 (m / 2) (m % 2) : Nat) : Int) (by decide) (by decide) (rfl) (by have := (show alen 42 = 4 from rfl); omega) (hV m (by omega)) dX6_two_104 ?_
                      refine ev_icmp_gt (pc := 105) hC 140 dX6_two_105 (by decide) (by omega) (by omega) (fun c105 => ?_) (fun c105 => ?_)
                      · have e : stillP A p0 p1 p2 (m / 2) (m % 2) = false := by unfold stillP; rw [decide_eq_false (p := pairF A p0 p1 p2 (1 - m / 2) (m % 2) ≤ _) (by omega), Bool.false_and]
                        refine ev_iinc (pc := 140) hC ((m + 1 : Nat) : Int) dX6_two_140 rfl (by omega) (by rw [hKn]; decide) rfl ?_
                        show Ev K 143 [some (.ref 29), some (vi ((p0 : Nat) : Int)), some (vi ((p1 : Nat) : Int)), some (vi ((p2 : Nat) : Int)), some (vi (bnd ((p2 : Nat) : Int) 0 60)), some (vi ((m + 1 : Nat) : Int))] [] Y
                        refine ev_goto (pc := 143) hC 83 dX6_two_143 (by decide) ?_
                        exact ih83 (m + 1) (by omega) (by omega) (nostep (P := fun j => stillP A p0 p1 p2 (j / 2) (j % 2)) hno e)
                      · refine ev_aload_n (pc := 108) hC dX6_two_108 rfl ?_
                        refine ev_getr (pc := 109) hC 42 f46 dX6_two_109 (by decide) (by decide) (by decide) (by decide) (by decide) ?_
                        refine ev_iload (pc := 112) hC dX6_two_112 rfl ?_
                        refine ev_iconst (pc := 114) hC dX6_two_114 ?_
                        refine ev_ixor (pc := 115) hC ((m ^^^ 1 : Nat) : Int) (zI_xor m 1) dX6_two_115 ?_
                        refine ev_iald (pc := 116) hC (m ^^^ 1) ((pairF A p0 p1 p2 (m / 2) (1 - m % 2) : Nat) : Int) (by decide) (by decide) (rfl) (by have := (show alen 42 = 4 from rfl); omega) ((by rw [hV _ (by omega), hx4.2.2.2.2.1, hx4.2.2.2.2.2])) dX6_two_116 ?_
                        refine ev_aload_n (pc := 117) hC dX6_two_117 rfl ?_
                        refine ev_getr (pc := 118) hC 42 f46 dX6_two_118 (by decide) (by decide) (by decide) (by decide) (by decide) ?_
                        refine ev_iload (pc := 121) hC dX6_two_121 rfl ?_
                        refine ev_iald (pc := 123) hC m ((pairF A p0 p1 p2 (m / 2) (m % 2) : Nat) : Int) (by decide) (by decide) (rfl) (by have := (show alen 42 = 4 from rfl); omega) (hV m (by omega)) dX6_two_123 ?_
                        refine ev_icmp_lt (pc := 124) hC 140 dX6_two_124 (by decide) (by omega) (by omega) (fun c124 => ?_) (fun c124 => ?_)
                        · have e : stillP A p0 p1 p2 (m / 2) (m % 2) = false := by unfold stillP; rw [decide_eq_false (p := _ ≤ pairF A p0 p1 p2 (m / 2) (1 - m % 2)) (by omega), Bool.and_false]
                          refine ev_iinc (pc := 140) hC ((m + 1 : Nat) : Int) dX6_two_140 rfl (by omega) (by rw [hKn]; decide) rfl ?_
                          show Ev K 143 [some (.ref 29), some (vi ((p0 : Nat) : Int)), some (vi ((p1 : Nat) : Int)), some (vi ((p2 : Nat) : Int)), some (vi (bnd ((p2 : Nat) : Int) 0 60)), some (vi ((m + 1 : Nat) : Int))] [] Y
                          refine ev_goto (pc := 143) hC 83 dX6_two_143 (by decide) ?_
                          exact ih83 (m + 1) (by omega) (by omega) (nostep (P := fun j => stillP A p0 p1 p2 (j / 2) (j % 2)) hno e)
                        · have e : stillP A p0 p1 p2 (m / 2) (m % 2) = true := by unfold stillP; rw [decide_eq_true (p := pairF A p0 p1 p2 (1 - m / 2) (m % 2) ≤ _) (by omega), decide_eq_true (p := _ ≤ pairF A p0 p1 p2 (m / 2) (1 - m % 2)) (by omega)]; rfl
                          refine ev_bipush (pc := 127) hC dX6_two_127 (by decide) ?_
                          refine ev_iload (pc := 129) hC dX6_two_129 rfl ?_
                          refine ev_iconst (pc := 131) hC dX6_two_131 ?_
                          refine ev_idiv (pc := 132) hC ((m / 2 : Nat) : Int) (by omega) (by omega) (by omega) dX6_two_132 ?_
                          refine ev_imul (pc := 133) hC ((10 * (m / 2) : Nat) : Int) (by omega) dX6_two_133 ?_
                          refine ev_iload (pc := 134) hC dX6_two_134 rfl ?_
                          refine ev_iconst (pc := 136) hC dX6_two_136 ?_
                          refine ev_irem (pc := 137) hC ((m % 2 : Nat) : Int) (by omega) (by omega) (by omega) dX6_two_137 ?_
                          refine ev_iadd (pc := 138) hC (((10 * (m / 2)) + (m % 2) : Nat) : Int) (by omega) dX6_two_138 ?_
                          exact ev_ireturn (pc := 139) hC hR dX6_two_139 (ok_endM (show f3 (f3 (cdP A ((p0 : Nat) : Int)) (cdP A ((p1 : Nat) : Int)) (if ((p0 : Nat) : Int) = ((p1 : Nat) : Int) then -1 else 0)) (bnd ((p2 : Nat) : Int) 0 60) 0 = 0 by omega) (two_hit hno e (by omega)) (mI_W hI hAY hgY hFY) (frM_W hFY))
                exact lp83 _ 0 (Nat.lt_succ_self _) (by omega) (fun j hj => absurd hj (Nat.not_lt_zero j))
              · refine ev_aload_n (pc := 52) hC dX6_two_52 rfl ?_
                refine ev_getr (pc := 53) hC 42 f46 dX6_two_53 (by decide) (by decide) (by decide) (by decide) (by decide) ?_
                refine ev_iload (pc := 56) hC dX6_two_56 rfl ?_
                refine ev_aload_n (pc := 58) hC dX6_two_58 rfl ?_
                refine ev_iload_n (pc := 59) hC dX6_two_59 rfl ?_
                refine ev_iload (pc := 60) hC dX6_two_60 rfl ?_
                refine ev_iconst (pc := 62) hC dX6_two_62 ?_
                refine ev_idiv (pc := 63) hC ((k / 2 : Nat) : Int) (by omega) (by omega) (by omega) dX6_two_63 ?_
                refine ev_iload_n (pc := 64) hC dX6_two_64 rfl ?_
                refine ev_iload (pc := 65) hC dX6_two_65 rfl ?_
                refine ev_iconst (pc := 67) hC dX6_two_67 ?_
                refine ev_irem (pc := 68) hC ((k % 2 : Nat) : Int) (by omega) (by omega) (by omega) dX6_two_68 ?_
                refine ev_iload_n (pc := 69) hC dX6_two_69 rfl ?_
                refine ev_callV (pc := 70) (as := [vi ((p0 : Nat) : Int), vi ((k / 2 : Nat) : Int), vi ((p1 : Nat) : Int), vi ((k % 2 : Nat) : Int), vi ((p2 : Nat) : Int)]) (rest := [vi ((k : Nat) : Int), .ref 42]) hC gX6_two_X6_manyIf mtX6_manyIf dX6_two_70 (ru_X6_manyIf hAY hgY p0 (k / 2) p1 (k % 2) p2 (by omega) (by omega) (by omega) (by omega) (by omega)) (by decide) (by decide) (by decide) rfl (by rfl) (Nat.le_of_ble_eq_true rfl) rfl (fun v70 X70 h70 => ?_)
                obtain ⟨rfl, hA70, hF70⟩ := h70
                show Ev K 73 [some (.ref 29), some (vi ((p0 : Nat) : Int)), some (vi ((p1 : Nat) : Int)), some (vi ((p2 : Nat) : Int)), some (vi (bnd ((p2 : Nat) : Int) 0 60)), some (vi ((k : Nat) : Int))] [vi ((pairF A p0 p1 p2 (k / 2) (k % 2) : Nat) : Int), vi ((k : Nat) : Int), .ref 42] X70
                have hg70 := frT_gone hF70 hgY
                have hFr70 := frW_tr hFY hF70 (by omega)
                refine ev_iast (pc := 73) hC k (by decide) (by decide) (rfl) (by have := (show alen 42 = 4 from rfl); omega) dX6_two_73 ?_
                have hA73 : Rp (vM (mset X70 42 k (zI ((pairF A p0 p1 p2 (k / 2) (k % 2) : Nat) : Int)))) A := hA70.keepM (by rw [mset_row (by omega)]) (by rw [mset_row (by omega)]) (fun q hq => by rw [mset_row (by omega)])
                have hg73 : (mset X70 42 k (zI ((pairF A p0 p1 p2 (k / 2) (k % 2) : Nat) : Int))) 29 8 = zI ((0 : Nat) : Int) := by rw [mset_row (by omega)]; exact hg70
                have hFr73 : frW 1 X (mset X70 42 k (zI ((pairF A p0 p1 p2 (k / 2) (k % 2) : Nat) : Int))) := frW_42 hFr70
                refine ev_iinc (pc := 74) hC ((k + 1 : Nat) : Int) dX6_two_74 rfl (by omega) (by rw [hKn]; decide) rfl ?_
                show Ev K 77 [some (.ref 29), some (vi ((p0 : Nat) : Int)), some (vi ((p1 : Nat) : Int)), some (vi ((p2 : Nat) : Int)), some (vi (bnd ((p2 : Nat) : Int) 0 60)), some (vi ((k + 1 : Nat) : Int))] [] (mset X70 42 k (zI ((pairF A p0 p1 p2 (k / 2) (k % 2) : Nat) : Int)))
                refine ev_goto (pc := 77) hC 46 dX6_two_77 (by decide) ?_
                exact ih46 (k + 1) (mset X70 42 k (zI ((pairF A p0 p1 p2 (k / 2) (k % 2) : Nat) : Int))) (by omega) (by omega) (arr_grow (G := fun j => ((pairF A p0 p1 p2 (j / 2) (j % 2) : Nat) : Int)) (fun j hj => by rw [hF70.1 42 (by omega) (by omega) (by omega) (by omega)]; exact hV j hj) rfl) hA73 hg73 hFr73
          exact lp46 _ 0 X (Nat.lt_succ_self _) (by omega) (fun j hj => absurd hj (Nat.not_lt_zero j)) hA hg (frW_rf 1 X)
        · refine ev_aload_n (pc := 36) hC dX6_two_36 rfl ?_
          refine ev_iload (pc := 37) hC dX6_two_37 rfl ?_
          refine ev_callV (pc := 39) (as := [vi (bnd x2 0 60)]) (rest := []) hC gX6_two_X6_no mtX6_no dX6_two_39 (ru_X6_no2 (bnd x2 0 60) (by omega)) (by decide) (by decide) (by decide) rfl (by rfl) (Nat.le_of_ble_eq_true rfl) rfl (fun v39 X39 h39 => ?_)
          obtain ⟨rfl, rfl⟩ := h39
          show Ev K 42 [some (.ref 29), some (vi x0), some (vi x1), some (vi x2), some (vi (bnd x2 0 60)), none] [vi (bnd x2 0 60)] (mset X 30 (-(bnd x2 0 60)).toNat (X 30 (-(bnd x2 0 60)).toNat + 1))
          exact ev_ireturn (pc := 42) hC hR dX6_two_42 (no_endM (show f3 (f3 (cdP A x0) (cdP A x1) (if x0 = x1 then -1 else 0)) (bnd x2 0 60) 0 = (bnd x2 0 60) by omega) (by omega) hI)
      · refine ev_iconst (pc := 21) hC dX6_two_21 ?_
        refine ev_goto (pc := 22) hC 29 dX6_two_22 (by decide) ?_
        refine ev_istore (pc := 29) hC dX6_two_29 (by rw [hKn]; decide) rfl ?_
        show Ev K 31 [some (.ref 29), some (vi x0), some (vi x1), some (vi x2), some (vi (-1)), none] [] X
        refine ev_iload (pc := 31) hC dX6_two_31 rfl ?_
        refine ev_if_eq (pc := 33) hC 43 dX6_two_33 (by decide) (by omega) (fun c33 => absurd c33 (by decide)) (fun c33 => ?_)
        refine ev_aload_n (pc := 36) hC dX6_two_36 rfl ?_
        refine ev_iload (pc := 37) hC dX6_two_37 rfl ?_
        refine ev_callV (pc := 39) (as := [vi (-1)]) (rest := []) hC gX6_two_X6_no mtX6_no dX6_two_39 (ru_X6_no2 (-1) (by omega)) (by decide) (by decide) (by decide) rfl (by rfl) (Nat.le_of_ble_eq_true rfl) rfl (fun v39 X39 h39 => ?_)
        obtain ⟨rfl, rfl⟩ := h39
        show Ev K 42 [some (.ref 29), some (vi x0), some (vi x1), some (vi x2), some (vi (-1)), none] [vi (-1)] (mset X 30 (-(-1)).toNat (X 30 (-(-1)).toNat + 1))
        exact ev_ireturn (pc := 42) hC hR dX6_two_42 (no_endM (show f3 (f3 (cdP A x0) (cdP A x1) (if x0 = x1 then -1 else 0)) (bnd x2 0 60) 0 = (-1) by omega) (by omega) hI)
