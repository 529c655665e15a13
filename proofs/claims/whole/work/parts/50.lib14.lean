/-! the reference reads a STATEMENT -/
theorem okI_not {T : Nat → Nat} {n a j : Nat} (h : okI T n a 1 j) : ∀ i, i < j - 1 → (!(okT T n a (i + 1))) = false := fun i hi => by rw [h (i + 1) (by omega) (by omega)]; rfl
theorem wf_j {T : Nat → Nat} {n f a j : Nat} (ha : a < n) (h1 : 1 ≤ j) (hj : j < lenT (T a)) (ho : okI T n a 1 j) (hb : okT T n a j = false) : wfR T n (f + 1) a = ((a + j : Nat) : Int) := by
  rw [wfR_bad ha h1 hj (okI_not ho) hb]; omega
theorem wf_n {T : Nat → Nat} {n f a : Nat} (h : ¬ a < n ∨ lenT (T a) = 0) : wfR T n (f + 1) a = (a : Int) := by
  refine wfR_0 ?_
  by_cases ha : a < n
  · rw [stL_in ha]; exact h.resolve_left (fun z => z ha)
  · exact stL_out ha
theorem good_ok {T : Nat → Nat} {n a : Nat} (ha : a < n) (hl : 0 < lenT (T a)) (ho : okI T n a 1 (lenT (T a) - 1)) (hs : okT T n a (lenT (T a) - 1) = true) : goodT T n a := by
  refine ⟨ha, hl, fun i h1 h2 => ?_⟩
  have hk : okT T n a i = true := by
    by_cases h : i = lenT (T a) - 1
    · rw [h]; exact hs
    · exact ho i h1 (by omega)
  unfold okT at hk
  rw [Bool.and_eq_true] at hk
  exact ⟨of_decide_eq_true hk.1, hk.2⟩
/-- all but STATEMENT c's letter, place and numbers, and the place of reading, is kept -/
def stF (c : Nat) (X X' : Mem) : Prop := (∀ q, ¬ q = 29 → ¬ q = 37 → ¬ q = 38 → ¬ q = 39 → X' q = X q) ∧ (∀ k, ¬ k = 14 → X' 29 k = X 29 k) ∧ (∀ j, ¬ j = c → X' 37 j = X 37 j) ∧ (∀ j, ¬ j = c → X' 38 j = X 38 j) ∧ ∀ j, (j < 4 * c ∨ 4 * c + 4 ≤ j) → X' 39 j = X 39 j
def smP (v : Option Value) (X X' : Mem) (T : Nat → Nat) (n a c : Nat) : Prop :=
  (v = some (vi 1) ∧ goodT T n a ∧ X' 29 14 = zI ((a + lenT (T a) : Nat) : Int) ∧ X' 37 c = zI ((T a : Nat) : Int) ∧ X' 38 c = zI ((a : Nat) : Int) ∧ tldP X' T a (4 * c) ∧ stF c X X') ∨
  (∃ w : Nat, v = some (vi 0) ∧ X' 29 14 = zI (w : Int) ∧ (∀ f, wfR T n (f + 1) a = (w : Int)) ∧ stF c X X')
