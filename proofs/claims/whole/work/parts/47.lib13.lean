/-! the reference reads a text -/
theorem mset_mset {X : Mem} {q k : Nat} {u v : Int32} : mset (mset X q k u) q k v = mset X q k v := by
  funext a b
  by_cases h : a = q ∧ b = k
  · rw [h.1, h.2, mset_eq, mset_eq]
  · rw [mset_ne _ _ _ _ h, mset_ne _ _ _ _ h, mset_ne _ _ _ _ h]
theorem mset_self {X : Mem} {q k : Nat} {v : Int32} (h : X q k = v) : mset X q k v = X := by
  funext a b
  by_cases h2 : a = q ∧ b = k
  · rw [h2.1, h2.2, mset_eq, h]
  · rw [mset_ne _ _ _ _ h2]
theorem TxM.set_at {X : Mem} {T : Nat → Nat} {n q k : Nat} {v : Int32} (h : TxM X T n) (hq : (q = 29 ∧ ¬ k = 13) ∨ (37 ≤ q ∧ q ≤ 39)) : TxM (mset X q k v) T n :=
  ⟨by rw [mset_ne _ _ _ _ (by omega)]; exact h.1, h.2.1, fun j hj => by rw [mset_row (by omega)]; exact h.2.2 j hj⟩
def nx (T : Nat → Nat) (n a : Nat) : Int := if a < n then (T a : Int) else -1
theorem nx_cases (T : Nat → Nat) (n a : Nat) : (a < n ∧ nx T n a = (T a : Int)) ∨ (¬ a < n ∧ nx T n a = -1) := by
  unfold nx
  by_cases h : a < n
  · rw [if_pos h]; omega
  · rw [if_neg h]; omega
def digT (T : Nat → Nat) (n b : Nat) : Bool := decide (b < n) && decide (48 ≤ T b ∧ T b ≤ 57)
theorem dig_t {T : Nat → Nat} {n b : Nat} (h : 48 ≤ nx T n b ∧ nx T n b ≤ 57) : digT T n b = true := by
  have := nx_cases T n b
  unfold digT; rw [decide_eq_true (p := b < n) (by omega), decide_eq_true (p := 48 ≤ T b ∧ T b ≤ 57) (by omega)]; rfl
theorem dig_f {T : Nat → Nat} {n b : Nat} (h : ¬ (48 ≤ nx T n b ∧ nx T n b ≤ 57)) : digT T n b = false := by
  have := nx_cases T n b
  unfold digT
  by_cases hb : b < n
  · rw [decide_eq_false (p := 48 ≤ T b ∧ T b ≤ 57) (by omega), Bool.and_false]
  · rw [decide_eq_false hb, Bool.false_and]
def valT (T : Nat → Nat) (a : Nat) : Nat → Nat
  | 0 => 0
  | d + 1 => 10 * valT T a d + (T (a + d) - 48)
theorem valT_s (T : Nat → Nat) (a d : Nat) : valT T a (d + 1) = 10 * valT T a d + (T (a + d) - 48) := rfl
theorem nx_r {X : Mem} {T : Nat → Nat} {n : Nat} (h : TxM X T n) (a : Nat) : -1 ≤ nx T n a ∧ nx T n a ≤ 255 := by
  have h1 := nx_cases T n a
  rcases h1 with ⟨h2, h3⟩ | ⟨_, h3⟩
  · have := (h.2.2 a h2).2; omega
  · omega
