/-! the ROW, lots, wind, pairs -/
def RWp (X : Mem) (W : Nat → Nat) (rs : Nat) : Prop := X 7 1 = zI (rs : Nat) ∧ rs ≤ 16 ∧ ∀ k, k < rs → X 10 k = zI (W k : Nat) ∧ W k ≤ 99
theorem RWp.fr3 {X X' : Mem} {W : Nat → Nat} {rs : Nat} (h : RWp X W rs) (hF : frS 3 X X') : RWp X' W rs :=
  ⟨by rw [hF 7 (by omega) (by omega)]; exact h.1, h.2.1, fun k hk => by rw [hF 10 (by omega) (by omega)]; exact h.2.2 k hk⟩
def allN : Nat → (Nat → Bool) → Bool
  | 0, _ => true
  | n + 1, P => allN n P && P n
theorem allN_t {n : Nat} {P : Nat → Bool} (h : ∀ k, k < n → P k = true) : allN n P = true := by
  induction n with
  | zero => rfl
  | succ n ih => show (allN n P && P n) = true; rw [ih (fun k hk => h k (by omega)), h n (by omega)]; rfl
theorem allN_f {n k : Nat} {P : Nat → Bool} (hk : k < n) (h : P k = false) : allN n P = false := by
  induction n with
  | zero => omega
  | succ n ih =>
    show (allN n P && P n) = false
    by_cases he : k = n
    · subst he; rw [h, Bool.and_false]
    · rw [ih (by omega), Bool.false_and]
theorem yesstep {P : Nat → Bool} {i : Nat} (h : ∀ k, k < i → P k = true) (e : P i = true) : ∀ k, k < i + 1 → P k = true := fun k hk => by
  by_cases he : k = i
  · rw [he]; exact e
  · exact h k (by omega)
def soB (W : Nat → Nat) (p : Nat) (B : Sl) (k : Nat) : Bool := decide (W k = goN 0 k B 4 p)
def hmP (W : Nat → Nat) (B : Sl) (k : Nat) : Bool := decide (W k = bcnt 0 (goN 0 k B))
def kdP (W : Nat → Nat) (rs r p : Nat) (A : Sl) (v : Nat) : Bool := allN rs (soB W p (setR A r p v))
def whP (W : Nat → Nat) (rs : Nat) (A : Sl) (i : Nat) : Bool := allN rs (hmP W (dropA (2 ^ i) A))
def jdP (W : Nat → Nat) (A : Sl) (k : Nat) : Bool := decide (¬ W k = here (goN 0 k A))
def stir (z : Int) : Int := z * 1664525 + 1013904223
def drawI (z : Int) (m : Nat) : Nat := (z % 2147483648).toNat / 256 % m
theorem zI_mask (z : Int) : zI z &&& zI 2147483647 = zI (((z % 2147483648).toNat : Nat) : Int) := by
  have h1 : zI z = zI (((z % 4294967296).toNat : Nat) : Int) := by
    apply Int32.toBitVec.inj
    show BitVec.ofInt 32 z = BitVec.ofInt 32 _
    apply BitVec.eq_of_toNat_eq
    rw [BitVec.toNat_ofInt, BitVec.toNat_ofInt]
    omega
  rw [h1]
  have h2 := zI_and (z % 4294967296).toNat 2147483647
  have h3 : (z % 4294967296).toNat &&& 2147483647 = (z % 2147483648).toNat := by
    have := Nat.and_two_pow_sub_one_eq_mod (z % 4294967296).toNat 31
    rw [show (2 : Nat) ^ 31 - 1 = 2147483647 from rfl, show (2 : Nat) ^ 31 = 2147483648 from rfl] at this
    rw [this]; omega
  rw [h3] at h2
  exact h2
theorem mask_le (z : Int) : (z % 2147483648).toNat ≤ 2147483647 := by omega
theorem drawI_lt (z : Int) {m : Nat} (h : 0 < m) : drawI z m < m := Nat.mod_lt _ h
/-- a slope by lot: of each of the first i the CELL, then his BELIEF; and what z is then -/
def lotR (A : Sl) (z : Int) : Nat → Sl × Int
  | 0 => (A, z)
  | i + 1 => (setR (setR (lotR A z i).1 3 i (drawI (stir (lotR A z i).2) 25)) 4 i (drawI (stir (stir (lotR A z i).2)) 10), stir (stir (lotR A z i).2))
def lotZ (A : Sl) (z : Int) : Nat → Int
  | 0 => z
  | k + 1 => (lotR A (lotZ A z k) (A 5 0)).2
def lotA (A : Sl) (z : Int) (k : Nat) : Sl := goN 0 10 (lotR A (lotZ A z k) (A 5 0)).1
theorem lotR_n (A : Sl) (z : Int) : ∀ i, (lotR A z i).1 5 0 = A 5 0
  | 0 => rfl
  | i + 1 => lotR_n A z i
def lotT (A : Sl) (z wt : Int) (n : Nat) : Nat := sumB n (fun k => if wt = 0 then bcnt 0 (lotA A z k) else sumB (lotA A z k 5 0) (lotA A z k 4))
/-- k YEARS, windy by the bits S -/
def goW (S : Nat) : Nat → Sl → Sl
  | 0, A => A
  | k + 1, A => year 0 (Nat.testBit S k) (goW S k A)
theorem goW_n (S : Nat) (A : Sl) : ∀ n, goW S n A 5 0 = A 5 0
  | 0 => rfl
  | n + 1 => goW_n S A n
def windU (n t : Nat) (A : Sl) : Nat → Nat
  | 0 => 0
  | S + 1 => windU n t A S + (if allB (goW S n A) = true then (t - 1) ^ (n - pop S) else 0)
theorem tb_lt {S n k : Nat} (h : S < 2 ^ n) (hk : n ≤ k) : Nat.testBit S k = false := Nat.testBit_lt_two_pow (Nat.lt_of_lt_of_le h (Nat.pow_le_pow_right (by decide) hk))
theorem pop_cut {S n : Nat} (h : S < 2 ^ n) (hn : n ≤ 31) : pop S = cntB n (fun k => Nat.testBit S k) := by
  unfold pop
  have := cntB_cut (fun k => Nat.testBit S k) n (31 - n)
  rw [Nat.add_sub_cancel' hn] at this
  rw [← this]
  exact cntB_congr 31 (fun k _ => by
    by_cases hk : k < n
    · simp [hk]
    · simp [hk, tb_lt h (by omega : n ≤ k)])
theorem pop_le_lt {S n : Nat} (h : S < 2 ^ n) (hn : n ≤ 31) : pop S ≤ n := by rw [pop_cut h hn]; exact cntB_le _ _
def pairF (A : Sl) (a b n o q : Nat) : Nat := bcnt 0 (goN 0 n (setR (setR A 4 a (9 * o)) 4 b (9 * q)))
def stillP (A : Sl) (a b n o q : Nat) : Bool := decide (pairF A a b n (1 - o) q ≤ pairF A a b n o q) && decide (pairF A a b n o q ≤ pairF A a b n o (1 - q))
def pairS (A : Sl) (a b n : Nat) : Int := if stillP A a b n 0 0 = true then 0 else if stillP A a b n 0 1 = true then 1 else if stillP A a b n 1 0 = true then 10 else if stillP A a b n 1 1 = true then 11 else -9
theorem pair_hit {A : Sl} {a b n o q : Nat} (ho : o ≤ 1) (hq : q ≤ 1) (h1 : ∀ o', o' < o → ∀ q', q' ≤ 1 → stillP A a b n o' q' = false) (h2 : ∀ q', q' < q → stillP A a b n o q' = false) (e : stillP A a b n o q = true) : 10 * (o : Int) + (q : Int) = pairS A a b n := by
  unfold pairS
  rcases (show o = 0 ∨ o = 1 by omega) with rfl | rfl <;> rcases (show q = 0 ∨ q = 1 by omega) with rfl | rfl
  · rw [if_pos e]; rfl
  · rw [if_neg (by rw [h2 0 (by omega)]; decide), if_pos e]; rfl
  · rw [if_neg (by rw [h1 0 (by omega) 0 (by omega)]; decide), if_neg (by rw [h1 0 (by omega) 1 (by omega)]; decide), if_pos e]; rfl
  · rw [if_neg (by rw [h1 0 (by omega) 0 (by omega)]; decide), if_neg (by rw [h1 0 (by omega) 1 (by omega)]; decide), if_neg (by rw [h2 0 (by omega)]; decide), if_pos e]; rfl
theorem pair_none {A : Sl} {a b n : Nat} (h1 : ∀ o', o' < 2 → ∀ q', q' ≤ 1 → stillP A a b n o' q' = false) : (-9 : Int) = pairS A a b n := by
  unfold pairS
  rw [if_neg (by rw [h1 0 (by omega) 0 (by omega)]; decide), if_neg (by rw [h1 0 (by omega) 1 (by omega)]; decide), if_neg (by rw [h1 1 (by omega) 0 (by omega)]; decide), if_neg (by rw [h1 1 (by omega) 1 (by omega)]; decide)]
theorem pairF_le {A : Sl} (a b n o q : Nat) (h : A 5 0 ≤ 8) : pairF A a b n o q ≤ 8 := by
  have h1 := bcnt_le 0 (goN 0 n (setR (setR A 4 a (9 * o)) 4 b (9 * q)))
  rw [goN_n] at h1
  exact Nat.le_trans h1 h
