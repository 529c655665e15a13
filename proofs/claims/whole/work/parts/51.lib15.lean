/-! the reference reads a slope: rows for statement, comes, slope -/
theorem TxM.rd {X X' : Mem} {T : Nat → Nat} {n p : Nat} (h : TxM X T n) (hF : rdF p X X') : TxM X' T n :=
  ⟨(hF.2.1 13 (by omega)).trans h.1, h.2.1, fun k hk => by rw [hF.1 36 (by omega) (by omega)]; exact h.2.2 k hk⟩
theorem stF_rf {c : Nat} {X : Mem} : stF c X X := ⟨fun _ _ _ _ _ => rfl, fun _ _ => rfl, fun _ _ => rfl, fun _ _ => rfl, fun _ _ => rfl⟩
theorem stF_st {X : Mem} {c : Nat} {u v w : Int32} : stF c X (mset (mset (mset X 37 c u) 38 c v) 29 14 w) :=
  ⟨fun q a b d e => by rw [mset_row a, mset_row d, mset_row b], fun k hk => by rw [mset_ne _ _ _ _ (by omega), mset_row (by omega), mset_row (by omega)], fun j hj => by rw [mset_row (by omega), mset_row (by omega), mset_ne _ _ _ _ (by omega)], fun j hj => by rw [mset_row (by omega), mset_ne _ _ _ _ (by omega), mset_row (by omega)], fun j hj => by rw [mset_row (by omega), mset_row (by omega), mset_row (by omega)]⟩
theorem stF_rd {c : Nat} {X Y Z : Mem} (h : stF c X Y) (hF : rdF (4 * c) Y Z) : stF c X Z :=
  ⟨fun q a b d e => (hF.1 q a e).trans (h.1 q a b d e), fun k hk => (hF.2.1 k hk).trans (h.2.1 k hk), fun j hj => by rw [hF.1 37 (by omega) (by omega)]; exact h.2.2.1 j hj, fun j hj => by rw [hF.1 38 (by omega) (by omega)]; exact h.2.2.2.1 j hj, fun j hj => (hF.2.2 j hj).trans (h.2.2.2.2 j hj)⟩
theorem stF_at {c : Nat} {X Y : Mem} {v : Int32} (h : stF c X Y) : stF c X (mset Y 29 14 v) :=
  ⟨fun q a b d e => by rw [mset_row a]; exact h.1 q a b d e, fun k hk => by rw [mset_ne _ _ _ _ (by omega)]; exact h.2.1 k hk, fun j hj => by rw [mset_row (by omega)]; exact h.2.2.1 j hj, fun j hj => by rw [mset_row (by omega)]; exact h.2.2.2.1 j hj, fun j hj => by rw [mset_row (by omega)]; exact h.2.2.2.2 j hj⟩
theorem tldP_same {X Y : Mem} {T : Nat → Nat} {a p : Nat} (h : tldP X T a p) (he : ∀ j, p ≤ j → j < p + 4 → Y 39 j = X 39 j) : tldP Y T a p := by
  have e0 := he p (by omega) (by omega)
  have e1 := he (p + 1) (by omega) (by omega)
  have e2 := he (p + 2) (by omega) (by omega)
  have e3 := he (p + 3) (by omega) (by omega)
  unfold tldP at h ⊢
  rw [e0, e1, e2, e3]
  exact h
theorem sm_none {X : Mem} {T : Nat → Nat} {n a c : Nat} (h : ¬ a < n ∨ lenT (T a) = 0) (hat : X 29 14 = zI (a : Nat)) : smP (some (vi 0)) X X T n a c :=
  Or.inr ⟨a, rfl, hat, fun f => wf_n h, stF_rf⟩
theorem sm_bad {X Y : Mem} {T : Nat → Nat} {n a c j : Nat} {u v w : Int32} (ha : a < n) (h1 : 1 ≤ j) (h2 : j + 1 < lenT (T a)) (ho : okI T n a 1 j) (hb : okT T n a j = false) (hat : Y 29 14 = zI ((a + j : Nat) : Int)) (hF : rdF (4 * c) (mset (mset (mset X 37 c u) 38 c v) 29 14 w) Y) : smP (some (vi 0)) X Y T n a c :=
  Or.inr ⟨a + j, rfl, hat, fun f => wf_j ha h1 (by omega) ho hb, stF_rd stF_st hF⟩
theorem sm_semi {X Y : Mem} {T : Nat → Nat} {n a c : Nat} {u v w : Int32} (ha : a < n) (hl : 0 < lenT (T a)) (ho : okI T n a 1 (lenT (T a) - 1)) (hs : ¬ nx T n (a + (lenT (T a) - 1)) = 59) (hat : Y 29 14 = zI ((a + (lenT (T a) - 1) : Nat) : Int)) (hF : rdF (4 * c) (mset (mset (mset X 37 c u) 38 c v) 29 14 w) Y) : smP (some (vi 0)) X Y T n a c := by
  have hlc := lenT_cases (T a)
  have hnx := nx_cases T n (a + (lenT (T a) - 1))
  refine Or.inr ⟨a + (lenT (T a) - 1), rfl, hat, fun f => wf_j ha (by omega) (by omega) ho ?_, stF_rd stF_st hF⟩
  rw [ok_semi (by omega)]
  by_cases hin : a + (lenT (T a) - 1) < n
  · rw [decide_eq_false (p := T (a + (lenT (T a) - 1)) = 59) (by omega), Bool.and_false]
  · rw [decide_eq_false hin, Bool.false_and]
theorem sm_ok {X Y : Mem} {T : Nat → Nat} {n a c : Nat} {w : Int32} (ha : a < n) (hl : 0 < lenT (T a)) (ho : okI T n a 1 (lenT (T a) - 1)) (hs : nx T n (a + (lenT (T a) - 1)) = 59) (ht : tldP Y T a (4 * c)) (hF : rdF (4 * c) (mset (mset (mset X 37 c (zI ((T a : Nat) : Int))) 38 c (zI ((a : Nat) : Int))) 29 14 w) Y) :
    smP (some (vi 1)) X (mset Y 29 14 (zI ((a + (lenT (T a) - 1) + 1 : Nat) : Int))) T n a c := by
  have hlc := lenT_cases (T a)
  have hnx := nx_cases T n (a + (lenT (T a) - 1))
  refine Or.inl ⟨rfl, good_ok ha hl ho ?_, ?_, ?_, ?_, tldP_same ht (fun j _ _ => by rw [mset_row (by omega)]), stF_at (stF_rd stF_st hF)⟩
  · rw [ok_semi (by omega), decide_eq_true (p := a + (lenT (T a) - 1) < n) (by omega), decide_eq_true (p := T (a + (lenT (T a) - 1)) = 59) (by omega)]; rfl
  · rw [mset_eq, show a + (lenT (T a) - 1) + 1 = a + lenT (T a) by omega]
  · rw [mset_row (by omega), hF.1 37 (by omega) (by omega), mset_row (by omega), mset_row (by omega), mset_eq]
  · rw [mset_row (by omega), hF.1 38 (by omega) (by omega), mset_row (by omega), mset_eq]
theorem val1 (T : Nat → Nat) (a : Nat) : valT T a 1 = dg T a := by
  show 10 * 0 + (T (a + 0) - 48) = T a - 48
  rw [Nat.add_zero]; omega
theorem val2 (T : Nat → Nat) (a : Nat) : valT T a 2 = dd T a := by
  show 10 * valT T a 1 + (T (a + 1) - 48) = dd T a
  rw [val1]; rfl
theorem tld_p {X : Mem} {T : Nat → Nat} {a p : Nat} (h : tldP X T a p) (hT : T a = 112) : X 39 p = zI (kindT (T (a + 1))) ∧ X 39 (p + 1) = zI ((dg T (a + 2) : Nat) : Int) ∧ X 39 (p + 2) = zI ((dd T (a + 3) : Nat) : Int) ∧ X 39 (p + 3) = zI ((dg T (a + 5) : Nat) : Int) := by
  have := h.1 hT
  rw [val1, val2, val1] at this; exact this
theorem tld_h {X : Mem} {T : Nat → Nat} {a p : Nat} (h : tldP X T a p) (hT : T a = 104) : X 39 p = zI ((dd T (a + 1) : Nat) : Int) ∧ X 39 (p + 1) = zI ((dd T (a + 3) : Nat) : Int) := by
  have := h.2.1 hT
  rw [val2, val2] at this; exact this
theorem tld_b {X : Mem} {T : Nat → Nat} {a p : Nat} (h : tldP X T a p) (hT : T a = 98) : X 39 p = zI ((dg T (a + 1) : Nat) : Int) ∧ X 39 (p + 1) = zI ((dg T (a + 2) : Nat) : Int) := by
  have := h.2.2.1 hT
  rw [val1, val1] at this; exact this
theorem tld_a {X : Mem} {T : Nat → Nat} {a p : Nat} (h : tldP X T a p) (hT : T a = 97) : X 39 p = zI ((dg T (a + 1) : Nat) : Int) ∧ X 39 (p + 1) = zI ((dd T (a + 2) : Nat) : Int) := by
  have := h.2.2.2.1 hT
  rw [val1, val2] at this; exact this
theorem tld_y {X : Mem} {T : Nat → Nat} {a p : Nat} (h : tldP X T a p) (hT : T a = 121) : X 39 p = zI ((dd T (a + 1) : Nat) : Int) := by
  have := h.2.2.2.2 hT
  rw [val2] at this; exact this
/-- where STATEMENT c begins -/
def posT (T : Nat → Nat) : Nat → Nat
  | 0 => 0
  | c + 1 => posT T c + lenT (T (posT T c))
/-- c STATEMENTS are read and good so far; the reading stands at a -/
def slG (Y : Mem) (T : Nat → Nat) (n c a f : Nat) : Prop := a = posT T c ∧ 4 * c ≤ a ∧ a ≤ n ∧ (∀ i, i < c → goodT T n (posT T i) ∧ Y 37 i = zI ((T (posT T i) : Nat) : Int) ∧ Y 38 i = zI ((posT T i : Nat) : Int) ∧ tldP Y T (posT T i) (4 * i)) ∧ (c = 0 ∨ a < n → wfR T n f a = wfR T n 100 0 ∧ n < a + f) ∧ (¬ (c = 0 ∨ a < n) → wfR T n 100 0 = -1)
def slK (X Y : Mem) : Prop := (∀ q, ¬ q = 29 → ¬ q = 37 → ¬ q = 38 → ¬ q = 39 → Y q = X q) ∧ ∀ k, ¬ k = 14 → ¬ k = 15 → Y 29 k = X 29 k
theorem slK_0 {X : Mem} {u v : Int32} : slK X (mset (mset X 29 14 u) 29 15 v) := ⟨fun q a b c d => by rw [mset_row a, mset_row a], fun k a b => by rw [mset_ne _ _ _ _ (by omega), mset_ne _ _ _ _ (by omega)]⟩
theorem slK_st {X Y Z : Mem} {c : Nat} {v : Int32} (h : slK X Y) (hF : stF c Y Z) : slK X (mset Z 29 15 v) :=
  ⟨fun q a b d e => by rw [mset_row a, hF.1 q a b d e]; exact h.1 q a b d e, fun k a b => by rw [mset_ne _ _ _ _ (by omega), hF.2.1 k a]; exact h.2 k a b⟩
theorem slK_T {X Y : Mem} {T : Nat → Nat} {n : Nat} (h : TxM X T n) (hK : slK X Y) : TxM Y T n :=
  ⟨(hK.2 13 (by omega) (by omega)).trans h.1, h.2.1, fun k hk => by rw [hK.1 36 (by omega) (by omega) (by omega) (by omega)]; exact h.2.2 k hk⟩
theorem slG_0 {Y : Mem} {T : Nat → Nat} {n : Nat} (hn : n ≤ 96) : slG Y T n 0 0 100 :=
  ⟨rfl, by omega, by omega, fun i hi => absurd hi (Nat.not_lt_zero i), fun _ => ⟨rfl, by omega⟩, fun z => absurd (Or.inl rfl) z⟩
theorem slG_step {Y Z : Mem} {T : Nat → Nat} {n c a g : Nat} {v : Int32} (h : slG Y T n c a (g + 1)) (hcn : c = 0 ∨ a < n) (s1 : goodT T n a) (s3 : Z 37 c = zI ((T a : Nat) : Int)) (s4 : Z 38 c = zI ((a : Nat) : Int)) (s5 : tldP Z T a (4 * c)) (s6 : stF c Y Z) : slG (mset Z 29 15 v) T n (c + 1) (a + lenT (T a)) g := by
  obtain ⟨h1, h2, h3, h4, h5, -⟩ := h
  obtain ⟨h5, h6⟩ := h5 hcn
  have hlc := lenT_cases (T a)
  have hl := s1.2.1
  have hend := (s1.2.2 (lenT (T a) - 1) (by omega) (by omega)).1
  have hst := wfR_step (f := g) s1.1 hl (fun j hj => by
    have q := s1.2.2 (j + 1) (by omega) (by omega)
    rw [ok_t q.1 q.2]; rfl)
  refine ⟨by rw [h1]; rfl, by omega, by omega, fun i hi => ?_, fun hq => ?_, fun hq => ?_⟩
  · by_cases he : i = c
    · rw [he, ← h1]
      exact ⟨s1, by rw [mset_row (by omega)]; exact s3, by rw [mset_row (by omega)]; exact s4, tldP_same s5 (fun j _ _ => by rw [mset_row (by omega)])⟩
    · obtain ⟨a1, a2, a3, a4⟩ := h4 i (by omega)
      exact ⟨a1, by rw [mset_row (by omega), s6.2.2.1 i he]; exact a2, by rw [mset_row (by omega), s6.2.2.2.1 i he]; exact a3, tldP_same a4 (fun j b1 b2 => by rw [mset_row (by omega), s6.2.2.2.2 j (Or.inl (by omega))])⟩
  · rw [if_pos (by omega)] at hst
    exact ⟨hst.symm.trans h5, by omega⟩
  · rw [if_neg (by omega)] at hst
    exact h5.symm.trans hst
section SLE
variable {X Y Z : Mem} {A B : Sl} {hh : Bool} {T W C : Nat → Nat} {n rs : Nat}
theorem mI_sl0 (h : mI X (A, B, hh, T, n, W, rs, C)) (hK : slK X Y) : mI (mset Y 29 13 (zI 0)) (A, B, hh, T, 0, W, rs, C) := by
  have r2 : ∀ q, ¬ q = 29 → ¬ q = 37 → ¬ q = 38 → ¬ q = 39 → (mset Y 29 13 (zI 0)) q = X q := fun q a b c d => by rw [mset_row a]; exact hK.1 q a b c d
  have r3 : ∀ k, ¬ k = 13 → ¬ k = 14 → ¬ k = 15 → (mset Y 29 13 (zI 0)) 29 k = X 29 k := fun k a b c => by rw [mset_ne _ _ _ _ (by omega)]; exact hK.2 k b c
  exact ⟨h.1.keepM (r3 6 (by omega) (by omega) (by omega)) (r3 7 (by omega) (by omega) (by omega)) (fun q hq => r2 _ (by omega) (by omega) (by omega) (by omega)), h.2.1, fun z => ⟨(h.2.2.1 z).1.keepKr (r2 40 (by omega) (by omega) (by omega) (by omega)), (h.2.2.1 z).2⟩, by rw [r3 17 (by omega) (by omega) (by omega)]; exact h.2.2.2.1, by rw [r3 8 (by omega) (by omega) (by omega)]; exact h.2.2.2.2.1, ⟨mset_eq _ _ _ _, Nat.zero_le _, fun k hk => absurd hk (Nat.not_lt_zero _)⟩, ⟨by rw [r3 23 (by omega) (by omega) (by omega)]; exact h.2.2.2.2.2.2.1.1, h.2.2.2.2.2.2.1.2.1, fun j hj => by rw [r2 43 (by omega) (by omega) (by omega) (by omega)]; exact h.2.2.2.2.2.2.1.2.2 j hj⟩, fun j hj => by rw [r2 30 (by omega) (by omega) (by omega) (by omega)]; exact h.2.2.2.2.2.2.2 j hj⟩
theorem frM_sl {v : Int32} (hK : slK X Y) : frM X (mset Y 29 13 v) := fun q hq => by rw [mset_row (by omega)]; exact hK.1 q (by omega) (by omega) (by omega) (by omega)
theorem sl_end1 {a : Nat} (h : mI X (A, B, hh, T, n, W, rs, C)) (hK : slK X Y) (hw : wfR T n 100 0 = ((a : Nat) : Int)) :
    (some (vi ((-1000) - ((a : Nat) : Int))) : Option Value) = some (vi (sp1 (A, B, hh, T, n, W, rs, C)).1) ∧ mI (mset Y 29 13 (zI 0)) (sp1 (A, B, hh, T, n, W, rs, C)).2 ∧ frM X (mset Y 29 13 (zI 0)) := by
  have e : slopeS T n A = (-1000 - wfR T n 100 0, none) := by unfold slopeS; rw [if_pos (by omega)]
  have e2 : sp1 (A, B, hh, T, n, W, rs, C) = (-1000 - ((a : Nat) : Int), (A, B, hh, T, 0, W, rs, C)) := by
    show ((slopeS T n A).1, putT (putA (A, B, hh, T, n, W, rs, C) (orA A (slopeS T n A).2)) T 0) = _
    rw [e, hw]; rfl
  rw [e2]
  exact ⟨rfl, mI_sl0 h hK, frM_sl hK⟩
theorem sl_end2 {z : Int} {o : Option Sl} (h : mI X (A, B, hh, T, n, W, rs, C)) (hK : slK X Y) (hw : wfR T n 100 0 = -1) (hr : runS T n 100 0 0 A = (z, o)) (hF : frT 1 (mset Y 29 13 (zI 0)) Z) (hR : Rp (vM Z) (orA A o)) (hy : orA A o 5 1 ≤ 999) :
    (some (vi z) : Option Value) = some (vi (sp1 (A, B, hh, T, n, W, rs, C)).1) ∧ mI Z (sp1 (A, B, hh, T, n, W, rs, C)).2 ∧ frM X Z := by
  have e : slopeS T n A = (z, o) := by unfold slopeS; rw [if_neg (by omega), hr]
  have e2 : sp1 (A, B, hh, T, n, W, rs, C) = (z, putA (A, B, hh, T, 0, W, rs, C) (orA A o)) := by
    show ((slopeS T n A).1, putT (putA (A, B, hh, T, n, W, rs, C) (orA A (slopeS T n A).2)) T 0) = _
    rw [e]; rfl
  rw [e2]
  exact ⟨rfl, mI_put (mI_sl0 h hK) hR hy hF, frM_tr (frM_sl hK) (frM_T hF)⟩
end SLE
