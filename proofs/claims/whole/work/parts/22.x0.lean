theorem mtX0_stepsFrom : MT yX0_stepsFrom wsX0_stepsFrom cX0_stepsFrom 4 (some .int) 1 := ⟨⟨_, rfl⟩, by decide, by decide, by decide +kernel⟩
set_option maxRecDepth 100000 in
set_option maxHeartbeats 4000000 in
theorem ru_X0_stepsFrom {X : Mem} {A : Sl} (hA : Rp (vC X 1) A) (c : Nat) (hc : c < 25) : Ru yX0_stepsFrom wsX0_stepsFrom 1 23 [.ref 5, vi ((c : Nat) : Int)] X (fun v X' => v = some (vi (stpF A c)) ∧ X = X') := by
  refine ru_of (w2 := _) rfl (by decide) [some (.ref 5), some (vi ((c : Nat) : Int)), none, none] (fun _ => rfl) (fun _ => Nat.le_of_ble_eq_true rfl) ?_
  intro K hKn hC hR
  have wX0 : ∀ w ∈ u_ws RX0 TX0 1, w ∈ wsX0_stepsFrom := by decide +kernel
  have f9 : Fl K RX0 9 0 0 := fl_of hC RX0 TX0 1 rfl (by decide) wX0 (show Cond.fieldLink RX0 9 "PicnicOfSomebody$Company" "now" "LPicnicOfSomebody$Slope;" ∈ _ by decide +kernel)
  have wX3 : ∀ w ∈ u_ws RX3 TX3 8, w ∈ wsX0_stepsFrom := by decide +kernel
  have f15 : Fl K RX0 15 3 6 := fl_of hC RX3 TX3 8 rfl (by decide) wX3 (show Cond.fieldLink RX0 15 "PicnicOfSomebody$Slope" "people" "I" ∈ _ by decide +kernel)
  have f21 : Fl K RX0 21 3 3 := fl_of hC RX3 TX3 8 rfl (by decide) wX3 (show Cond.fieldLink RX0 21 "PicnicOfSomebody$Slope" "cells" "[I" ∈ _ by decide +kernel)
  have hn8 := hA.n8
  refine ev_iconst (pc := 0) hC dX0_stepsFrom_0 ?_
  refine ev_istore_n (pc := 1) hC dX0_stepsFrom_1 (by rw [hKn]; decide) rfl ?_
  show Ev K 2 [some (.ref 5), some (vi ((c : Nat) : Int)), some (vi 0), none] [] X
  refine ev_iconst (pc := 2) hC dX0_stepsFrom_2 ?_
  refine ev_istore_n (pc := 3) hC dX0_stepsFrom_3 (by rw [hKn]; decide) rfl ?_
  show Ev K 4 [some (.ref 5), some (vi ((c : Nat) : Int)), some (vi 0), some (vi 0)] [] X
  have lp4 : ∀ (fz : Nat) (i : Nat) (b : Nat), A 5 0 - i < fz → (i ≤ A 5 0) → (b = sumB i (fun i => stp (A 3 i) c)) → Ev K 4 [some (.ref 5), some (vi ((c : Nat) : Int)), some (vi ((b : Nat) : Int)), some (vi ((i : Nat) : Int))] [] X := by
    intro fz
    induction fz with
    | zero => intro i b hfz; exact absurd hfz (Nat.not_lt_zero _)
    | succ fz ih4 =>
      intro i b hfz hi hb
      refine ev_iload_n (pc := 4) hC dX0_stepsFrom_4 rfl ?_
      refine ev_aload_n (pc := 5) hC dX0_stepsFrom_5 rfl ?_
      refine ev_getr (pc := 6) hC 1 f9 dX0_stepsFrom_6 (by decide) (by decide) (by decide) (by decide) (by decide) ?_
      refine ev_geti (pc := 9) hC ((A 5 0 : Nat) : Int) f15 dX0_stepsFrom_9 (by decide) (by decide) (by decide) (by decide) (by decide)  (hA.cn) ?_
      refine ev_icmp_ge (pc := 12) hC 37 dX0_stepsFrom_12 (by decide) (by omega) (by omega) (fun c12 => ?_) (fun c12 => ?_)
      · refine ev_iload_n (pc := 37) hC dX0_stepsFrom_37 rfl ?_
        exact ev_ireturn (pc := 38) hC hR dX0_stepsFrom_38 (⟨rv (by rw [hb, show i = A 5 0 by omega]; rfl), rfl⟩)
      · refine ev_iload_n (pc := 15) hC dX0_stepsFrom_15 rfl ?_
        refine ev_aload_n (pc := 16) hC dX0_stepsFrom_16 rfl ?_
        refine ev_getr (pc := 17) hC 1 f9 dX0_stepsFrom_17 (by decide) (by decide) (by decide) (by decide) (by decide) ?_
        refine ev_getr (pc := 20) hC 14 f21 dX0_stepsFrom_20 (by decide) (by decide) (by decide) (by decide) (by decide) ?_
        refine ev_iload_n (pc := 23) hC dX0_stepsFrom_23 rfl ?_
        have hb24 := hA.c25 i (by omega)
        refine ev_iald (pc := 24) hC i ((A 3 i : Nat) : Int) (by decide) (by decide) (rfl) (by have := (show alen 14 = 8 from rfl); omega) (hA.c3 i (by omega)) dX0_stepsFrom_24 ?_
        refine ev_iload_n (pc := 25) hC dX0_stepsFrom_25 rfl ?_
        refine ev_callN (pc := 26) (as := [vi ((A 3 i : Nat) : Int), vi ((c : Nat) : Int)]) (rest := [vi ((b : Nat) : Int)]) hC (by decide +kernel) gX0_stepsFrom_X5_apart_n25 (show Cond.static yX5_apart ∈ _ by decide +kernel) (show Cond.initialized RX5 ∈ _ by decide +kernel) mtX5_apart dX0_stepsFrom_26 (ru_X5_apart (A 3 i) c (by omega) (by omega)) (by decide) (by rfl) (Nat.le_of_ble_eq_true rfl) rfl (fun v26 X26 h26 => ?_)
        obtain ⟨rfl, rfl⟩ := h26
        show Ev K 29 [some (.ref 5), some (vi ((c : Nat) : Int)), some (vi ((b : Nat) : Int)), some (vi ((i : Nat) : Int))] [vi ((stp (A 3 i) c : Nat) : Int), vi ((b : Nat) : Int)] X
        have hst26 := stp_le (a := A 3 i) (b := c) (by omega) (by omega)
        refine ev_iadd (pc := 29) hC ((b + (stp (A 3 i) c) : Nat) : Int) (by omega) dX0_stepsFrom_29 ?_
        refine ev_istore_n (pc := 30) hC dX0_stepsFrom_30 (by rw [hKn]; decide) rfl ?_
        show Ev K 31 [some (.ref 5), some (vi ((c : Nat) : Int)), some (vi ((b + (stp (A 3 i) c) : Nat) : Int)), some (vi ((i : Nat) : Int))] [] X
        refine ev_iinc (pc := 31) hC ((i + 1 : Nat) : Int) dX0_stepsFrom_31 rfl (by omega) (by rw [hKn]; decide) rfl ?_
        show Ev K 34 [some (.ref 5), some (vi ((c : Nat) : Int)), some (vi ((b + (stp (A 3 i) c) : Nat) : Int)), some (vi ((i + 1 : Nat) : Int))] [] X
        refine ev_goto (pc := 34) hC 4 dX0_stepsFrom_34 (by decide) ?_
        exact ih4 (i + 1) (b + (stp (A 3 i) c)) (by omega) (by omega) (by rw [sumB_s, ← hb])
  exact lp4 _ 0 0 (Nat.lt_succ_self _) (by omega) rfl
theorem mtX0_nearestTo : MT yX0_nearestTo wsX0_nearestTo cX0_nearestTo 6 (some .int) 1 := ⟨⟨_, rfl⟩, by decide, by decide, by decide +kernel⟩
set_option maxRecDepth 100000 in
set_option maxHeartbeats 4000000 in
theorem ru_X0_nearestTo {X : Mem} {A : Sl} (hA : Rp (vC X 1) A) (w : Nat) (hw : w < 25) : Ru yX0_nearestTo wsX0_nearestTo 1 23 [.ref 5, vi ((w : Nat) : Int)] X (fun v X' => v = some (vi (mnr (nrF A w) 9 (A 5 0)).1) ∧ X = X') := by
  refine ru_of (w2 := _) rfl (by decide) [some (.ref 5), some (vi ((w : Nat) : Int)), none, none, none, none] (fun _ => rfl) (fun _ => Nat.le_of_ble_eq_true rfl) ?_
  intro K hKn hC hR
  have wX0 : ∀ w ∈ u_ws RX0 TX0 1, w ∈ wsX0_nearestTo := by decide +kernel
  have f9 : Fl K RX0 9 0 0 := fl_of hC RX0 TX0 1 rfl (by decide) wX0 (show Cond.fieldLink RX0 9 "PicnicOfSomebody$Company" "now" "LPicnicOfSomebody$Slope;" ∈ _ by decide +kernel)
  have wX3 : ∀ w ∈ u_ws RX3 TX3 8, w ∈ wsX0_nearestTo := by decide +kernel
  have f15 : Fl K RX0 15 3 6 := fl_of hC RX3 TX3 8 rfl (by decide) wX3 (show Cond.fieldLink RX0 15 "PicnicOfSomebody$Slope" "people" "I" ∈ _ by decide +kernel)
  have f21 : Fl K RX0 21 3 3 := fl_of hC RX3 TX3 8 rfl (by decide) wX3 (show Cond.fieldLink RX0 21 "PicnicOfSomebody$Slope" "cells" "[I" ∈ _ by decide +kernel)
  have hn8 := hA.n8
  refine ev_bipush (pc := 0) hC dX0_nearestTo_0 (by decide) ?_
  refine ev_istore_n (pc := 2) hC dX0_nearestTo_2 (by rw [hKn]; decide) rfl ?_
  show Ev K 3 [some (.ref 5), some (vi ((w : Nat) : Int)), some (vi (-9)), none, none, none] [] X
  refine ev_bipush (pc := 3) hC dX0_nearestTo_3 (by decide) ?_
  refine ev_istore_n (pc := 5) hC dX0_nearestTo_5 (by rw [hKn]; decide) rfl ?_
  show Ev K 6 [some (.ref 5), some (vi ((w : Nat) : Int)), some (vi (-9)), some (vi 9), none, none] [] X
  refine ev_iconst (pc := 6) hC dX0_nearestTo_6 ?_
  refine ev_istore (pc := 7) hC dX0_nearestTo_7 (by rw [hKn]; decide) rfl ?_
  show Ev K 9 [some (.ref 5), some (vi ((w : Nat) : Int)), some (vi (-9)), some (vi 9), some (vi 0), none] [] X
  have lp9 : ∀ (fz : Nat) (i : Nat) (b : Int) (m : Nat), A 5 0 - i < fz → (i ≤ A 5 0) → (b = (mnr (nrF A w) 9 i).1) → ((m : Int) = (mnr (nrF A w) 9 i).2) → (m ≤ 9) → Ev K 9 [some (.ref 5), some (vi ((w : Nat) : Int)), some (vi b), some (vi ((m : Nat) : Int)), some (vi ((i : Nat) : Int)), none] [] X := by
    intro fz
    induction fz with
    | zero => intro i b m hfz; exact absurd hfz (Nat.not_lt_zero _)
    | succ fz ih9 =>
      intro i b m hfz hi hb hm hml
      refine ev_iload (pc := 9) hC dX0_nearestTo_9 rfl ?_
      refine ev_aload_n (pc := 11) hC dX0_nearestTo_11 rfl ?_
      refine ev_getr (pc := 12) hC 1 f9 dX0_nearestTo_12 (by decide) (by decide) (by decide) (by decide) (by decide) ?_
      refine ev_geti (pc := 15) hC ((A 5 0 : Nat) : Int) f15 dX0_nearestTo_15 (by decide) (by decide) (by decide) (by decide) (by decide)  (hA.cn) ?_
      refine ev_icmp_ge (pc := 18) hC 55 dX0_nearestTo_18 (by decide) (by omega) (by omega) (fun c18 => ?_) (fun c18 => ?_)
      · refine ev_iload_n (pc := 55) hC dX0_nearestTo_55 rfl ?_
        exact ev_ireturn (pc := 56) hC hR dX0_nearestTo_56 (⟨rv (by rw [hb, show i = A 5 0 by omega]), rfl⟩)
      · refine ev_aload_n (pc := 21) hC dX0_nearestTo_21 rfl ?_
        refine ev_getr (pc := 22) hC 1 f9 dX0_nearestTo_22 (by decide) (by decide) (by decide) (by decide) (by decide) ?_
        refine ev_getr (pc := 25) hC 14 f21 dX0_nearestTo_25 (by decide) (by decide) (by decide) (by decide) (by decide) ?_
        refine ev_iload (pc := 28) hC dX0_nearestTo_28 rfl ?_
        have hb30 := hA.c25 i (by omega)
        refine ev_iald (pc := 30) hC i ((A 3 i : Nat) : Int) (by decide) (by decide) (rfl) (by have := (show alen 14 = 8 from rfl); omega) (hA.c3 i (by omega)) dX0_nearestTo_30 ?_
        refine ev_iload_n (pc := 31) hC dX0_nearestTo_31 rfl ?_
        refine ev_callN (pc := 32) (as := [vi ((A 3 i : Nat) : Int), vi ((w : Nat) : Int)]) (rest := []) hC (by decide +kernel) gX0_nearestTo_X5_apart_n25 (show Cond.static yX5_apart ∈ _ by decide +kernel) (show Cond.initialized RX5 ∈ _ by decide +kernel) mtX5_apart dX0_nearestTo_32 (ru_X5_apart (A 3 i) w (by omega) (by omega)) (by decide) (by rfl) (Nat.le_of_ble_eq_true rfl) rfl (fun v32 X32 h32 => ?_)
        obtain ⟨rfl, rfl⟩ := h32
        show Ev K 35 [some (.ref 5), some (vi ((w : Nat) : Int)), some (vi b), some (vi ((m : Nat) : Int)), some (vi ((i : Nat) : Int)), none] [vi ((stp (A 3 i) w : Nat) : Int)] X
        have hst32 := stp_le (a := A 3 i) (b := w) (by omega) (by omega)
        refine ev_istore (pc := 35) hC dX0_nearestTo_35 (by rw [hKn]; decide) rfl ?_
        show Ev K 37 [some (.ref 5), some (vi ((w : Nat) : Int)), some (vi b), some (vi ((m : Nat) : Int)), some (vi ((i : Nat) : Int)), some (vi ((stp (A 3 i) w : Nat) : Int))] [] X
        refine ev_iload (pc := 37) hC dX0_nearestTo_37 rfl ?_
        refine ev_iload_n (pc := 39) hC dX0_nearestTo_39 rfl ?_
        refine ev_icmp_ge (pc := 40) hC 49 dX0_nearestTo_40 (by decide) (by omega) (by omega) (fun c40 => ?_) (fun c40 => ?_)
        · refine ev_iinc (pc := 49) hC ((i + 1 : Nat) : Int) dX0_nearestTo_49 rfl (by omega) (by rw [hKn]; decide) rfl ?_
          show Ev K 52 [some (.ref 5), some (vi ((w : Nat) : Int)), some (vi b), some (vi ((m : Nat) : Int)), some (vi ((i + 1 : Nat) : Int)), some (vi ((stp (A 3 i) w : Nat) : Int))] [] X
          refine ev_goto (pc := 52) hC 9 dX0_nearestTo_52 (by decide) ?_
          refine ev_drop 5 ?_
          show Ev K 9 [some (.ref 5), some (vi ((w : Nat) : Int)), some (vi b), some (vi ((m : Nat) : Int)), some (vi ((i + 1 : Nat) : Int)), none] [] X
          exact ih9 (i + 1) b m (by omega) (by omega) (by first | (rw [mnr_t (by rw [← hm]; unfold nrF; omega)]) | (rw [mnr_f (by rw [← hm]; unfold nrF; omega)]; exact hb)) (by first | (rw [mnr_t (by rw [← hm]; unfold nrF; omega)]; rfl) | (rw [mnr_f (by rw [← hm]; unfold nrF; omega)]; exact hm)) (by omega)
        · refine ev_iload (pc := 43) hC dX0_nearestTo_43 rfl ?_
          refine ev_istore_n (pc := 45) hC dX0_nearestTo_45 (by rw [hKn]; decide) rfl ?_
          show Ev K 46 [some (.ref 5), some (vi ((w : Nat) : Int)), some (vi b), some (vi ((stp (A 3 i) w : Nat) : Int)), some (vi ((i : Nat) : Int)), some (vi ((stp (A 3 i) w : Nat) : Int))] [] X
          refine ev_iload (pc := 46) hC dX0_nearestTo_46 rfl ?_
          refine ev_istore_n (pc := 48) hC dX0_nearestTo_48 (by rw [hKn]; decide) rfl ?_
          show Ev K 49 [some (.ref 5), some (vi ((w : Nat) : Int)), some (vi ((i : Nat) : Int)), some (vi ((stp (A 3 i) w : Nat) : Int)), some (vi ((i : Nat) : Int)), some (vi ((stp (A 3 i) w : Nat) : Int))] [] X
          refine ev_iinc (pc := 49) hC ((i + 1 : Nat) : Int) dX0_nearestTo_49 rfl (by omega) (by rw [hKn]; decide) rfl ?_
          show Ev K 52 [some (.ref 5), some (vi ((w : Nat) : Int)), some (vi ((i : Nat) : Int)), some (vi ((stp (A 3 i) w : Nat) : Int)), some (vi ((i + 1 : Nat) : Int)), some (vi ((stp (A 3 i) w : Nat) : Int))] [] X
          refine ev_goto (pc := 52) hC 9 dX0_nearestTo_52 (by decide) ?_
          refine ev_drop 5 ?_
          show Ev K 9 [some (.ref 5), some (vi ((w : Nat) : Int)), some (vi ((i : Nat) : Int)), some (vi ((stp (A 3 i) w : Nat) : Int)), some (vi ((i + 1 : Nat) : Int)), none] [] X
          exact ih9 (i + 1) ((i : Nat) : Int) (stp (A 3 i) w) (by omega) (by omega) (by first | (rw [mnr_t (by rw [← hm]; unfold nrF; omega)]) | (rw [mnr_f (by rw [← hm]; unfold nrF; omega)]; exact hb)) (by first | (rw [mnr_t (by rw [← hm]; unfold nrF; omega)]; rfl) | (rw [mnr_f (by rw [← hm]; unfold nrF; omega)]; exact hm)) (by omega)
  exact lp9 _ 0 (-9) 9 (Nat.lt_succ_self _) (by omega) rfl rfl (by omega)
theorem mtX0_chainOf : MT yX0_chainOf wsX0_chainOf cX0_chainOf 5 (some .int) 1 := ⟨⟨_, rfl⟩, by decide, by decide, by decide +kernel⟩
set_option maxRecDepth 100000 in
set_option maxHeartbeats 4000000 in
theorem ru_X0_chainOf {X : Mem} {A : Sl} (hA : Rp (vC X 1) A) (p : Nat) (hp : p < A 5 0) : Ru yX0_chainOf wsX0_chainOf 2 46 [.ref 5, vi ((p : Nat) : Int)] X (fun v X' => v = some (vi (chn A p)) ∧ X = X') := by
  refine ru_of (w2 := _) rfl (by decide) [some (.ref 5), some (vi ((p : Nat) : Int)), none, none, none] (fun _ => rfl) (fun _ => Nat.le_of_ble_eq_true rfl) ?_
  intro K hKn hC hR
  have wX0 : ∀ w ∈ u_ws RX0 TX0 1, w ∈ wsX0_chainOf := by decide +kernel
  have f9 : Fl K RX0 9 0 0 := fl_of hC RX0 TX0 1 rfl (by decide) wX0 (show Cond.fieldLink RX0 9 "PicnicOfSomebody$Company" "now" "LPicnicOfSomebody$Slope;" ∈ _ by decide +kernel)
  have wX3 : ∀ w ∈ u_ws RX3 TX3 8, w ∈ wsX0_chainOf := by decide +kernel
  have f15 : Fl K RX0 15 3 6 := fl_of hC RX3 TX3 8 rfl (by decide) wX3 (show Cond.fieldLink RX0 15 "PicnicOfSomebody$Slope" "people" "I" ∈ _ by decide +kernel)
  have hn8 := hA.n8
  refine ev_iconst (pc := 0) hC dX0_chainOf_0 ?_
  refine ev_iload_n (pc := 1) hC dX0_chainOf_1 rfl ?_
  refine ev_ishl (pc := 2) hC ((2 ^ p : Nat) : Int) (zI_shl1 p (by omega)) dX0_chainOf_2 ?_
  refine ev_istore_n (pc := 3) hC dX0_chainOf_3 (by rw [hKn]; decide) rfl ?_
  show Ev K 4 [some (.ref 5), some (vi ((p : Nat) : Int)), some (vi ((2 ^ p : Nat) : Int)), none, none] [] X
  refine ev_iconst (pc := 4) hC dX0_chainOf_4 ?_
  refine ev_istore_n (pc := 5) hC dX0_chainOf_5 (by rw [hKn]; decide) rfl ?_
  show Ev K 6 [some (.ref 5), some (vi ((p : Nat) : Int)), some (vi ((2 ^ p : Nat) : Int)), some (vi 0), none] [] X
  have lp6 : ∀ (fz : Nat) (r : Nat) (b : Nat), A 5 0 - r < fz → (r ≤ A 5 0) → (b = outN A (2 ^ p) r) → (b < 256) → Ev K 6 [some (.ref 5), some (vi ((p : Nat) : Int)), some (vi ((b : Nat) : Int)), some (vi ((r : Nat) : Int)), none] [] X := by
    intro fz
    induction fz with
    | zero => intro r b hfz; exact absurd hfz (Nat.not_lt_zero _)
    | succ fz ih6 =>
      intro r b hfz hr hb hbl
      refine ev_iload_n (pc := 6) hC dX0_chainOf_6 rfl ?_
      refine ev_aload_n (pc := 7) hC dX0_chainOf_7 rfl ?_
      refine ev_getr (pc := 8) hC 1 f9 dX0_chainOf_8 (by decide) (by decide) (by decide) (by decide) (by decide) ?_
      refine ev_geti (pc := 11) hC ((A 5 0 : Nat) : Int) f15 dX0_chainOf_11 (by decide) (by decide) (by decide) (by decide) (by decide)  (hA.cn) ?_
      refine ev_icmp_ge (pc := 14) hC 65 dX0_chainOf_14 (by decide) (by omega) (by omega) (fun c14 => ?_) (fun c14 => ?_)
      · refine ev_iload_n (pc := 65) hC dX0_chainOf_65 rfl ?_
        exact ev_ireturn (pc := 66) hC hR dX0_chainOf_66 (⟨rv (by rw [hb, show r = A 5 0 by omega]; rfl), rfl⟩)
      · refine ev_iconst (pc := 17) hC dX0_chainOf_17 ?_
        refine ev_istore (pc := 18) hC dX0_chainOf_18 (by rw [hKn]; decide) rfl ?_
        show Ev K 20 [some (.ref 5), some (vi ((p : Nat) : Int)), some (vi ((b : Nat) : Int)), some (vi ((r : Nat) : Int)), some (vi 0)] [] X
        have lp20 : ∀ (fz : Nat) (i : Nat) (c : Nat), A 5 0 - i < fz → (i ≤ A 5 0) → (c = innN A b i) → (c < 256) → Ev K 20 [some (.ref 5), some (vi ((p : Nat) : Int)), some (vi ((c : Nat) : Int)), some (vi ((r : Nat) : Int)), some (vi ((i : Nat) : Int))] [] X := by
          intro fz
          induction fz with
          | zero => intro i c hfz; exact absurd hfz (Nat.not_lt_zero _)
          | succ fz ih20 =>
            intro i c hfz hi hb2 hcl
            refine ev_iload (pc := 20) hC dX0_chainOf_20 rfl ?_
            refine ev_aload_n (pc := 22) hC dX0_chainOf_22 rfl ?_
            refine ev_getr (pc := 23) hC 1 f9 dX0_chainOf_23 (by decide) (by decide) (by decide) (by decide) (by decide) ?_
            refine ev_geti (pc := 26) hC ((A 5 0 : Nat) : Int) f15 dX0_chainOf_26 (by decide) (by decide) (by decide) (by decide) (by decide)  (hA.cn) ?_
            refine ev_icmp_ge (pc := 29) hC 59 dX0_chainOf_29 (by decide) (by omega) (by omega) (fun c29 => ?_) (fun c29 => ?_)
            · refine ev_iinc (pc := 59) hC ((r + 1 : Nat) : Int) dX0_chainOf_59 rfl (by omega) (by rw [hKn]; decide) rfl ?_
              show Ev K 62 [some (.ref 5), some (vi ((p : Nat) : Int)), some (vi ((c : Nat) : Int)), some (vi ((r + 1 : Nat) : Int)), some (vi ((i : Nat) : Int))] [] X
              refine ev_goto (pc := 62) hC 6 dX0_chainOf_62 (by decide) ?_
              refine ev_drop 4 ?_
              show Ev K 6 [some (.ref 5), some (vi ((p : Nat) : Int)), some (vi ((c : Nat) : Int)), some (vi ((r + 1 : Nat) : Int)), none] [] X
              exact ih6 (r + 1) c (by omega) (by omega) (by rw [hb2, show i = A 5 0 by omega, hb]; rfl) (by omega)
            · refine ev_iload_n (pc := 32) hC dX0_chainOf_32 rfl ?_
              refine ev_iload (pc := 33) hC dX0_chainOf_33 rfl ?_
              refine ev_callN (pc := 35) (as := [vi ((c : Nat) : Int), vi ((i : Nat) : Int)]) (rest := []) hC (by decide +kernel) gX0_chainOf_X5_isIn_n29 (show Cond.static yX5_isIn ∈ _ by decide +kernel) (show Cond.initialized RX5 ∈ _ by decide +kernel) mtX5_isIn dX0_chainOf_35 (ru_X5_isIn c i (by omega) (by omega)) (by decide) (by rfl) (Nat.le_of_ble_eq_true rfl) rfl (fun v35 X35 h35 => ?_)
              obtain ⟨rfl, rfl⟩ := h35
              show Ev K 38 [some (.ref 5), some (vi ((p : Nat) : Int)), some (vi ((c : Nat) : Int)), some (vi ((r : Nat) : Int)), some (vi ((i : Nat) : Int))] [vi (b2i (Nat.testBit c i))] X
              have hr35 := b2i_r (Nat.testBit c i)
              refine ev_if_eq (pc := 38) hC 53 dX0_chainOf_38 (by decide) (by omega) (fun c38 => ?_) (fun c38 => ?_)
              · have e := b2i_0 c38
                refine ev_iinc (pc := 53) hC ((i + 1 : Nat) : Int) dX0_chainOf_53 rfl (by omega) (by rw [hKn]; decide) rfl ?_
                show Ev K 56 [some (.ref 5), some (vi ((p : Nat) : Int)), some (vi ((c : Nat) : Int)), some (vi ((r : Nat) : Int)), some (vi ((i + 1 : Nat) : Int))] [] X
                refine ev_goto (pc := 56) hC 20 dX0_chainOf_56 (by decide) ?_
                exact ih20 (i + 1) c (by omega) (by omega) (by first | (unfold innN; rw [if_pos (by rw [← hb2]; exact e), ← hb2]) | (unfold innN; rw [if_neg (by rw [← hb2, e]; decide), ← hb2])) (by first | exact or_lt256 hcl (by omega) | omega)
              · have e := b2i_1 c38
                refine ev_iload_n (pc := 41) hC dX0_chainOf_41 rfl ?_
                refine ev_aload_n (pc := 42) hC dX0_chainOf_42 rfl ?_
                refine ev_getr (pc := 43) hC 1 f9 dX0_chainOf_43 (by decide) (by decide) (by decide) (by decide) (by decide) ?_
                refine ev_iload (pc := 46) hC dX0_chainOf_46 rfl ?_
                refine ev_callV (pc := 48) (as := [vi ((i : Nat) : Int)]) (rest := [vi ((c : Nat) : Int)]) hC gX0_chainOf_X3_besideBits mtX3_besideBits dX0_chainOf_48 (ru_X3_besideBits (s := 1) spl1 hA i (by omega)) (by decide) (by decide) (by decide) rfl (by rfl) (Nat.le_of_ble_eq_true rfl) rfl (fun v48 X48 h48 => ?_)
                obtain ⟨rfl, rfl⟩ := h48
                show Ev K 51 [some (.ref 5), some (vi ((p : Nat) : Int)), some (vi ((c : Nat) : Int)), some (vi ((r : Nat) : Int)), some (vi ((i : Nat) : Int))] [vi ((bitsB (A 5 0) (bes 0 A i) : Nat) : Int), vi ((c : Nat) : Int)] X
                have hl48 := bitsB_lt8 (bes 0 A i) hA.n8
                refine ev_ior (pc := 51) hC ((c ||| (bitsB (A 5 0) (bes 0 A i)) : Nat) : Int) (zI_or c (bitsB (A 5 0) (bes 0 A i))) dX0_chainOf_51 ?_
                refine ev_istore_n (pc := 52) hC dX0_chainOf_52 (by rw [hKn]; decide) rfl ?_
                show Ev K 53 [some (.ref 5), some (vi ((p : Nat) : Int)), some (vi ((c ||| (bitsB (A 5 0) (bes 0 A i)) : Nat) : Int)), some (vi ((r : Nat) : Int)), some (vi ((i : Nat) : Int))] [] X
                refine ev_iinc (pc := 53) hC ((i + 1 : Nat) : Int) dX0_chainOf_53 rfl (by omega) (by rw [hKn]; decide) rfl ?_
                show Ev K 56 [some (.ref 5), some (vi ((p : Nat) : Int)), some (vi ((c ||| (bitsB (A 5 0) (bes 0 A i)) : Nat) : Int)), some (vi ((r : Nat) : Int)), some (vi ((i + 1 : Nat) : Int))] [] X
                refine ev_goto (pc := 56) hC 20 dX0_chainOf_56 (by decide) ?_
                exact ih20 (i + 1) (c ||| (bitsB (A 5 0) (bes 0 A i))) (by omega) (by omega) (by first | (unfold innN; rw [if_pos (by rw [← hb2]; exact e), ← hb2]) | (unfold innN; rw [if_neg (by rw [← hb2, e]; decide), ← hb2])) (by first | exact or_lt256 hcl (by omega) | omega)
        exact lp20 _ 0 b (Nat.lt_succ_self _) (by omega) rfl (by omega)
  exact lp6 _ 0 (2 ^ p) (Nat.lt_succ_self _) (by omega) rfl (pow_lt8 (by omega))
theorem mtX0_chains : MT yX0_chains wsX0_chains cX0_chains 4 (some .int) 0 := ⟨⟨_, rfl⟩, by decide, by decide, by decide +kernel⟩
set_option maxRecDepth 100000 in
set_option maxHeartbeats 4000000 in
theorem ru_X0_chains {X : Mem} {A : Sl} (hA : Rp (vC X 1) A) : Ru yX0_chains wsX0_chains 3 70 [.ref 5] X (fun v X' => v = some (vi (grpN A (A 5 0)).1) ∧ X = X') := by
  refine ru_of (w2 := _) rfl (by decide) [some (.ref 5), none, none, none] (fun _ => rfl) (fun _ => Nat.le_of_ble_eq_true rfl) ?_
  intro K hKn hC hR
  have wX0 : ∀ w ∈ u_ws RX0 TX0 1, w ∈ wsX0_chains := by decide +kernel
  have f9 : Fl K RX0 9 0 0 := fl_of hC RX0 TX0 1 rfl (by decide) wX0 (show Cond.fieldLink RX0 9 "PicnicOfSomebody$Company" "now" "LPicnicOfSomebody$Slope;" ∈ _ by decide +kernel)
  have wX3 : ∀ w ∈ u_ws RX3 TX3 8, w ∈ wsX0_chains := by decide +kernel
  have f15 : Fl K RX0 15 3 6 := fl_of hC RX3 TX3 8 rfl (by decide) wX3 (show Cond.fieldLink RX0 15 "PicnicOfSomebody$Slope" "people" "I" ∈ _ by decide +kernel)
  have hn8 := hA.n8
  refine ev_iconst (pc := 0) hC dX0_chains_0 ?_
  refine ev_istore_n (pc := 1) hC dX0_chains_1 (by rw [hKn]; decide) rfl ?_
  show Ev K 2 [some (.ref 5), some (vi 0), none, none] [] X
  refine ev_iconst (pc := 2) hC dX0_chains_2 ?_
  refine ev_istore_n (pc := 3) hC dX0_chains_3 (by rw [hKn]; decide) rfl ?_
  show Ev K 4 [some (.ref 5), some (vi 0), some (vi 0), none] [] X
  refine ev_iconst (pc := 4) hC dX0_chains_4 ?_
  refine ev_istore_n (pc := 5) hC dX0_chains_5 (by rw [hKn]; decide) rfl ?_
  show Ev K 6 [some (.ref 5), some (vi 0), some (vi 0), some (vi 0)] [] X
  have lp6 : ∀ (fz : Nat) (i : Nat) (f : Nat) (s : Nat), A 5 0 - i < fz → (i ≤ A 5 0) → (f = (grpN A i).1) → (s = (grpN A i).2) → (s < 256) → (f ≤ i) → Ev K 6 [some (.ref 5), some (vi ((f : Nat) : Int)), some (vi ((s : Nat) : Int)), some (vi ((i : Nat) : Int))] [] X := by
    intro fz
    induction fz with
    | zero => intro i f s hfz; exact absurd hfz (Nat.not_lt_zero _)
    | succ fz ih6 =>
      intro i f s hfz hi hf hs hsl hfl
      refine ev_iload_n (pc := 6) hC dX0_chains_6 rfl ?_
      refine ev_aload_n (pc := 7) hC dX0_chains_7 rfl ?_
      refine ev_getr (pc := 8) hC 1 f9 dX0_chains_8 (by decide) (by decide) (by decide) (by decide) (by decide) ?_
      refine ev_geti (pc := 11) hC ((A 5 0 : Nat) : Int) f15 dX0_chains_11 (by decide) (by decide) (by decide) (by decide) (by decide)  (hA.cn) ?_
      refine ev_icmp_ge (pc := 14) hC 42 dX0_chains_14 (by decide) (by omega) (by omega) (fun c14 => ?_) (fun c14 => ?_)
      · refine ev_iload_n (pc := 42) hC dX0_chains_42 rfl ?_
        exact ev_ireturn (pc := 43) hC hR dX0_chains_43 (⟨rv (by rw [hf, show i = A 5 0 by omega]), rfl⟩)
      · refine ev_iload_n (pc := 17) hC dX0_chains_17 rfl ?_
        refine ev_iload_n (pc := 18) hC dX0_chains_18 rfl ?_
        refine ev_callN (pc := 19) (as := [vi ((s : Nat) : Int), vi ((i : Nat) : Int)]) (rest := []) hC (by decide +kernel) gX0_chains_X5_isIn_n29 (show Cond.static yX5_isIn ∈ _ by decide +kernel) (show Cond.initialized RX5 ∈ _ by decide +kernel) mtX5_isIn dX0_chains_19 (ru_X5_isIn s i (by omega) (by omega)) (by decide) (by rfl) (Nat.le_of_ble_eq_true rfl) rfl (fun v19 X19 h19 => ?_)
        obtain ⟨rfl, rfl⟩ := h19
        show Ev K 22 [some (.ref 5), some (vi ((f : Nat) : Int)), some (vi ((s : Nat) : Int)), some (vi ((i : Nat) : Int))] [vi (b2i (Nat.testBit s i))] X
        have hr19 := b2i_r (Nat.testBit s i)
        refine ev_if_ne (pc := 22) hC 36 dX0_chains_22 (by decide) (by omega) (fun c22 => ?_) (fun c22 => ?_)
        · have e := b2i_1 c22
          refine ev_iinc (pc := 36) hC ((i + 1 : Nat) : Int) dX0_chains_36 rfl (by omega) (by rw [hKn]; decide) rfl ?_
          show Ev K 39 [some (.ref 5), some (vi ((f : Nat) : Int)), some (vi ((s : Nat) : Int)), some (vi ((i + 1 : Nat) : Int))] [] X
          refine ev_goto (pc := 39) hC 6 dX0_chains_39 (by decide) ?_
          exact ih6 (i + 1) f s (by omega) (by omega) (by first | (unfold grpN; rw [if_pos (by rw [← hs]; exact e)]; exact hf) | (unfold grpN; rw [if_neg (by rw [← hs, e]; decide), ← hf])) (by first | (unfold grpN; rw [if_pos (by rw [← hs]; exact e)]; exact hs) | (unfold grpN; rw [if_neg (by rw [← hs, e]; decide), ← hs])) (by first | exact or_lt256 hsl (by omega) | omega) (by omega)
        · have e := b2i_0 c22
          refine ev_iload_n (pc := 25) hC dX0_chains_25 rfl ?_
          refine ev_aload_n (pc := 26) hC dX0_chains_26 rfl ?_
          refine ev_iload_n (pc := 27) hC dX0_chains_27 rfl ?_
          refine ev_callV (pc := 28) (as := [vi ((i : Nat) : Int)]) (rest := [vi ((s : Nat) : Int)]) hC gX0_chains_X0_chainOf mtX0_chainOf dX0_chains_28 (ru_X0_chainOf hA i (by omega)) (by decide) (by decide) (by decide) rfl (by rfl) (Nat.le_of_ble_eq_true rfl) rfl (fun v28 X28 h28 => ?_)
          obtain ⟨rfl, rfl⟩ := h28
          show Ev K 31 [some (.ref 5), some (vi ((f : Nat) : Int)), some (vi ((s : Nat) : Int)), some (vi ((i : Nat) : Int))] [vi ((chn A i : Nat) : Int), vi ((s : Nat) : Int)] X
          have hl28 := chn_lt (p := i) hn8 (by omega)
          refine ev_ior (pc := 31) hC ((s ||| (chn A i) : Nat) : Int) (zI_or s (chn A i)) dX0_chains_31 ?_
          refine ev_istore_n (pc := 32) hC dX0_chains_32 (by rw [hKn]; decide) rfl ?_
          show Ev K 33 [some (.ref 5), some (vi ((f : Nat) : Int)), some (vi ((s ||| (chn A i) : Nat) : Int)), some (vi ((i : Nat) : Int))] [] X
          refine ev_iinc (pc := 33) hC ((f + 1 : Nat) : Int) dX0_chains_33 rfl (by omega) (by rw [hKn]; decide) rfl ?_
          show Ev K 36 [some (.ref 5), some (vi ((f + 1 : Nat) : Int)), some (vi ((s ||| (chn A i) : Nat) : Int)), some (vi ((i : Nat) : Int))] [] X
          refine ev_iinc (pc := 36) hC ((i + 1 : Nat) : Int) dX0_chains_36 rfl (by omega) (by rw [hKn]; decide) rfl ?_
          show Ev K 39 [some (.ref 5), some (vi ((f + 1 : Nat) : Int)), some (vi ((s ||| (chn A i) : Nat) : Int)), some (vi ((i + 1 : Nat) : Int))] [] X
          refine ev_goto (pc := 39) hC 6 dX0_chains_39 (by decide) ?_
          exact ih6 (i + 1) (f + 1) (s ||| (chn A i)) (by omega) (by omega) (by first | (unfold grpN; rw [if_pos (by rw [← hs]; exact e)]; exact hf) | (unfold grpN; rw [if_neg (by rw [← hs, e]; decide), ← hf])) (by first | (unfold grpN; rw [if_pos (by rw [← hs]; exact e)]; exact hs) | (unfold grpN; rw [if_neg (by rw [← hs, e]; decide), ← hs])) (by first | exact or_lt256 hsl (by omega) | omega) (by omega)
  exact lp6 _ 0 0 0 (Nat.lt_succ_self _) (by omega) rfl rfl (by omega) (by omega)
theorem mtX0_mostInAChain : MT yX0_mostInAChain wsX0_mostInAChain cX0_mostInAChain 3 (some .int) 0 := ⟨⟨_, rfl⟩, by decide, by decide, by decide +kernel⟩
set_option maxRecDepth 100000 in
set_option maxHeartbeats 4000000 in
theorem ru_X0_mostInAChain {X : Mem} {A : Sl} (hA : Rp (vC X 1) A) : Ru yX0_mostInAChain wsX0_mostInAChain 3 70 [.ref 5] X (fun v X' => v = some (vi (mxB (A 5 0) (fun _ => true) (fun i => pop (chn A i)))) ∧ X = X') := by
  refine ru_of (w2 := _) rfl (by decide) [some (.ref 5), none, none] (fun _ => rfl) (fun _ => Nat.le_of_ble_eq_true rfl) ?_
  intro K hKn hC hR
  have wX0 : ∀ w ∈ u_ws RX0 TX0 1, w ∈ wsX0_mostInAChain := by decide +kernel
  have f9 : Fl K RX0 9 0 0 := fl_of hC RX0 TX0 1 rfl (by decide) wX0 (show Cond.fieldLink RX0 9 "PicnicOfSomebody$Company" "now" "LPicnicOfSomebody$Slope;" ∈ _ by decide +kernel)
  have wX3 : ∀ w ∈ u_ws RX3 TX3 8, w ∈ wsX0_mostInAChain := by decide +kernel
  have f15 : Fl K RX0 15 3 6 := fl_of hC RX3 TX3 8 rfl (by decide) wX3 (show Cond.fieldLink RX0 15 "PicnicOfSomebody$Slope" "people" "I" ∈ _ by decide +kernel)
  have hn8 := hA.n8
  refine ev_iconst (pc := 0) hC dX0_mostInAChain_0 ?_
  refine ev_istore_n (pc := 1) hC dX0_mostInAChain_1 (by rw [hKn]; decide) rfl ?_
  show Ev K 2 [some (.ref 5), some (vi 0), none] [] X
  refine ev_iconst (pc := 2) hC dX0_mostInAChain_2 ?_
  refine ev_istore_n (pc := 3) hC dX0_mostInAChain_3 (by rw [hKn]; decide) rfl ?_
  show Ev K 4 [some (.ref 5), some (vi 0), some (vi 0)] [] X
  have lp4 : ∀ (fz : Nat) (i : Nat) (b : Nat), A 5 0 - i < fz → (i ≤ A 5 0) → (b = mxB i (fun _ => true) (fun i => pop (chn A i))) → (b ≤ 31) → Ev K 4 [some (.ref 5), some (vi ((b : Nat) : Int)), some (vi ((i : Nat) : Int))] [] X := by
    intro fz
    induction fz with
    | zero => intro i b hfz; exact absurd hfz (Nat.not_lt_zero _)
    | succ fz ih4 =>
      intro i b hfz hi hb hbl
      refine ev_iload_n (pc := 4) hC dX0_mostInAChain_4 rfl ?_
      refine ev_aload_n (pc := 5) hC dX0_mostInAChain_5 rfl ?_
      refine ev_getr (pc := 6) hC 1 f9 dX0_mostInAChain_6 (by decide) (by decide) (by decide) (by decide) (by decide) ?_
      refine ev_geti (pc := 9) hC ((A 5 0 : Nat) : Int) f15 dX0_mostInAChain_9 (by decide) (by decide) (by decide) (by decide) (by decide)  (hA.cn) ?_
      refine ev_icmp_ge (pc := 12) hC 34 dX0_mostInAChain_12 (by decide) (by omega) (by omega) (fun c12 => ?_) (fun c12 => ?_)
      · refine ev_iload_n (pc := 34) hC dX0_mostInAChain_34 rfl ?_
        exact ev_ireturn (pc := 35) hC hR dX0_mostInAChain_35 (⟨rv (by rw [hb, show i = A 5 0 by omega]), rfl⟩)
      · refine ev_iload_n (pc := 15) hC dX0_mostInAChain_15 rfl ?_
        refine ev_aload_n (pc := 16) hC dX0_mostInAChain_16 rfl ?_
        refine ev_iload_n (pc := 17) hC dX0_mostInAChain_17 rfl ?_
        refine ev_callV (pc := 18) (as := [vi ((i : Nat) : Int)]) (rest := [vi ((b : Nat) : Int)]) hC gX0_mostInAChain_X0_chainOf mtX0_chainOf dX0_mostInAChain_18 (ru_X0_chainOf hA i (by omega)) (by decide) (by decide) (by decide) rfl (by rfl) (Nat.le_of_ble_eq_true rfl) rfl (fun v18 X18 h18 => ?_)
        obtain ⟨rfl, rfl⟩ := h18
        show Ev K 21 [some (.ref 5), some (vi ((b : Nat) : Int)), some (vi ((i : Nat) : Int))] [vi ((chn A i : Nat) : Int), vi ((b : Nat) : Int)] X
        have hl18 := chn_lt (p := i) hn8 (by omega)
        refine ev_callS (pc := 21) (as := [vi ((chn A i : Nat) : Int)]) (rest := [vi ((b : Nat) : Int)]) hC gX0_mostInAChain_J6_bitCount_0f7a4 mtJ6_bitCount_0f7a4 dX0_mostInAChain_21 (ru_J6_bitCount_0f7a4 (chn A i) (by omega)) (by decide) (by rfl) (Nat.le_of_ble_eq_true rfl) rfl (fun v21 X21 h21 => ?_)
        obtain ⟨rfl, rfl⟩ := h21
        show Ev K 24 [some (.ref 5), some (vi ((b : Nat) : Int)), some (vi ((i : Nat) : Int))] [vi ((pop (chn A i) : Nat) : Int), vi ((b : Nat) : Int)] X
        have hp21 := pop_le (chn A i)
        refine ev_mmax (pc := 24) hC ((max b (pop (chn A i)) : Nat) : Int) (by omega) (by omega) (by omega) (show Cond.methodLink RX0 45 Lib.Math.max.name ∈ _ by decide +kernel) (show Cond.static Lib.Math.max.name ∈ _ by decide +kernel) (show Cond.initialized "java/lang/Math" ∈ _ by decide +kernel) (show Cond.code Lib.Math.max.name Lib.Math.max.code 2 (some .int) ∈ _ by decide +kernel) (by decide) (by decide) (Nat.le_of_ble_eq_true rfl) dX0_mostInAChain_24 ?_
        refine ev_istore_n (pc := 27) hC dX0_mostInAChain_27 (by rw [hKn]; decide) rfl ?_
        show Ev K 28 [some (.ref 5), some (vi ((max b (pop (chn A i)) : Nat) : Int)), some (vi ((i : Nat) : Int))] [] X
        refine ev_iinc (pc := 28) hC ((i + 1 : Nat) : Int) dX0_mostInAChain_28 rfl (by omega) (by rw [hKn]; decide) rfl ?_
        show Ev K 31 [some (.ref 5), some (vi ((max b (pop (chn A i)) : Nat) : Int)), some (vi ((i + 1 : Nat) : Int))] [] X
        refine ev_goto (pc := 31) hC 4 dX0_mostInAChain_31 (by decide) ?_
        exact ih4 (i + 1) (max b (pop (chn A i))) (by omega) (by omega) (by rw [mxB_t rfl, ← hb]) (by omega)
  exact lp4 _ 0 0 (Nat.lt_succ_self _) (by omega) rfl (by omega)
theorem mtX0_middleCell : MT yX0_middleCell wsX0_middleCell cX0_middleCell 5 (some .int) 0 := ⟨⟨_, rfl⟩, by decide, by decide, by decide +kernel⟩
set_option maxRecDepth 100000 in
set_option maxHeartbeats 4000000 in
theorem ru_X0_middleCell {X : Mem} {A : Sl} (hA : Rp (vC X 1) A) : Ru yX0_middleCell wsX0_middleCell 2 46 [.ref 5] X (fun v X' => v = some (vi (mdN (stpF A) 24)) ∧ X = X') := by
  refine ru_of (w2 := _) rfl (by decide) [some (.ref 5), none, none, none, none] (fun _ => rfl) (fun _ => Nat.le_of_ble_eq_true rfl) ?_
  intro K hKn hC hR
  have hn8 := hA.n8
  refine ev_iconst (pc := 0) hC dX0_middleCell_0 ?_
  refine ev_istore_n (pc := 1) hC dX0_middleCell_1 (by rw [hKn]; decide) rfl ?_
  show Ev K 2 [some (.ref 5), some (vi 0), none, none, none] [] X
  refine ev_aload_n (pc := 2) hC dX0_middleCell_2 rfl ?_
  refine ev_iconst (pc := 3) hC dX0_middleCell_3 ?_
  refine ev_callV (pc := 4) (as := [vi 0]) (rest := []) hC gX0_middleCell_X0_stepsFrom mtX0_stepsFrom dX0_middleCell_4 (ru_X0_stepsFrom hA 0 (by omega)) (by decide) (by decide) (by decide) rfl (by rfl) (Nat.le_of_ble_eq_true rfl) rfl (fun v4 X4 h4 => ?_)
  obtain ⟨rfl, rfl⟩ := h4
  show Ev K 7 [some (.ref 5), some (vi 0), none, none, none] [vi ((stpF A 0 : Nat) : Int)] X
  have hl4 := stpF_le (c := 0) hA.ok (by omega)
  refine ev_istore_n (pc := 7) hC dX0_middleCell_7 (by rw [hKn]; decide) rfl ?_
  show Ev K 8 [some (.ref 5), some (vi 0), some (vi ((stpF A 0 : Nat) : Int)), none, none] [] X
  refine ev_iconst (pc := 8) hC dX0_middleCell_8 ?_
  refine ev_istore_n (pc := 9) hC dX0_middleCell_9 (by rw [hKn]; decide) rfl ?_
  show Ev K 10 [some (.ref 5), some (vi 0), some (vi ((stpF A 0 : Nat) : Int)), some (vi 1), none] [] X
  have lp10 : ∀ (fz : Nat) (i : Nat) (b : Nat) (m : Nat), 25 - i < fz → (1 ≤ i ∧ i ≤ 25) → (b = mdN (stpF A) (i - 1)) → (m = stpF A b) → (b < 25) → (m ≤ 64) → Ev K 10 [some (.ref 5), some (vi ((b : Nat) : Int)), some (vi ((m : Nat) : Int)), some (vi ((i : Nat) : Int)), none] [] X := by
    intro fz
    induction fz with
    | zero => intro i b m hfz; exact absurd hfz (Nat.not_lt_zero _)
    | succ fz ih10 =>
      intro i b m hfz hi hb hm hbl hml
      refine ev_iload_n (pc := 10) hC dX0_middleCell_10 rfl ?_
      refine ev_bipush (pc := 11) hC dX0_middleCell_11 (by decide) ?_
      refine ev_icmp_ge (pc := 13) hC 40 dX0_middleCell_13 (by decide) (by omega) (by omega) (fun c13 => ?_) (fun c13 => ?_)
      · refine ev_iload_n (pc := 40) hC dX0_middleCell_40 rfl ?_
        exact ev_ireturn (pc := 41) hC hR dX0_middleCell_41 (⟨rv (by rw [hb, show i - 1 = 24 by omega]), rfl⟩)
      · refine ev_aload_n (pc := 16) hC dX0_middleCell_16 rfl ?_
        refine ev_iload_n (pc := 17) hC dX0_middleCell_17 rfl ?_
        refine ev_callV (pc := 18) (as := [vi ((i : Nat) : Int)]) (rest := []) hC gX0_middleCell_X0_stepsFrom mtX0_stepsFrom dX0_middleCell_18 (ru_X0_stepsFrom hA i (by omega)) (by decide) (by decide) (by decide) rfl (by rfl) (Nat.le_of_ble_eq_true rfl) rfl (fun v18 X18 h18 => ?_)
        obtain ⟨rfl, rfl⟩ := h18
        show Ev K 21 [some (.ref 5), some (vi ((b : Nat) : Int)), some (vi ((m : Nat) : Int)), some (vi ((i : Nat) : Int)), none] [vi ((stpF A i : Nat) : Int)] X
        have hl18 := stpF_le (c := i) hA.ok (by omega)
        refine ev_istore (pc := 21) hC dX0_middleCell_21 (by rw [hKn]; decide) rfl ?_
        show Ev K 23 [some (.ref 5), some (vi ((b : Nat) : Int)), some (vi ((m : Nat) : Int)), some (vi ((i : Nat) : Int)), some (vi ((stpF A i : Nat) : Int))] [] X
        refine ev_iload (pc := 23) hC dX0_middleCell_23 rfl ?_
        refine ev_iload_n (pc := 25) hC dX0_middleCell_25 rfl ?_
        refine ev_icmp_ge (pc := 26) hC 34 dX0_middleCell_26 (by decide) (by omega) (by omega) (fun c26 => ?_) (fun c26 => ?_)
        · refine ev_iinc (pc := 34) hC ((i + 1 : Nat) : Int) dX0_middleCell_34 rfl (by omega) (by rw [hKn]; decide) rfl ?_
          show Ev K 37 [some (.ref 5), some (vi ((b : Nat) : Int)), some (vi ((m : Nat) : Int)), some (vi ((i + 1 : Nat) : Int)), some (vi ((stpF A i : Nat) : Int))] [] X
          refine ev_goto (pc := 37) hC 10 dX0_middleCell_37 (by decide) ?_
          refine ev_drop 4 ?_
          show Ev K 10 [some (.ref 5), some (vi ((b : Nat) : Int)), some (vi ((m : Nat) : Int)), some (vi ((i + 1 : Nat) : Int)), none] [] X
          exact ih10 (i + 1) b m (by omega) (by omega) (by show _ = mdN (stpF A) i; rw [show i = (i - 1) + 1 by omega, mdN_s, ← hb]; first | (rw [if_pos (by rw [show i - 1 + 1 = i by omega]; omega)]; try omega) | rw [if_neg (by rw [show i - 1 + 1 = i by omega]; omega)]) (by omega) (by omega) (by omega)
        · refine ev_iload (pc := 29) hC dX0_middleCell_29 rfl ?_
          refine ev_istore_n (pc := 31) hC dX0_middleCell_31 (by rw [hKn]; decide) rfl ?_
          show Ev K 32 [some (.ref 5), some (vi ((b : Nat) : Int)), some (vi ((stpF A i : Nat) : Int)), some (vi ((i : Nat) : Int)), some (vi ((stpF A i : Nat) : Int))] [] X
          refine ev_iload_n (pc := 32) hC dX0_middleCell_32 rfl ?_
          refine ev_istore_n (pc := 33) hC dX0_middleCell_33 (by rw [hKn]; decide) rfl ?_
          show Ev K 34 [some (.ref 5), some (vi ((i : Nat) : Int)), some (vi ((stpF A i : Nat) : Int)), some (vi ((i : Nat) : Int)), some (vi ((stpF A i : Nat) : Int))] [] X
          refine ev_iinc (pc := 34) hC ((i + 1 : Nat) : Int) dX0_middleCell_34 rfl (by omega) (by rw [hKn]; decide) rfl ?_
          show Ev K 37 [some (.ref 5), some (vi ((i : Nat) : Int)), some (vi ((stpF A i : Nat) : Int)), some (vi ((i + 1 : Nat) : Int)), some (vi ((stpF A i : Nat) : Int))] [] X
          refine ev_goto (pc := 37) hC 10 dX0_middleCell_37 (by decide) ?_
          refine ev_drop 4 ?_
          show Ev K 10 [some (.ref 5), some (vi ((i : Nat) : Int)), some (vi ((stpF A i : Nat) : Int)), some (vi ((i + 1 : Nat) : Int)), none] [] X
          exact ih10 (i + 1) i (stpF A i) (by omega) (by omega) (by show _ = mdN (stpF A) i; rw [show i = (i - 1) + 1 by omega, mdN_s, ← hb]; first | (rw [if_pos (by rw [show i - 1 + 1 = i by omega]; omega)]; try omega) | rw [if_neg (by rw [show i - 1 + 1 = i by omega]; omega)]) (by omega) (by omega) (by omega)
  exact lp10 _ 1 0 (stpF A 0) (Nat.lt_succ_self _) (by omega) rfl rfl (by omega) (by omega)
