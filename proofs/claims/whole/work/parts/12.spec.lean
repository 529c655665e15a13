/-! places of the slopes, and what a slope is -/
def Sp (s : Nat) : Prop := s = 1 ∨ s = 2 ∨ s = 3
theorem sp_lt {s : Nat} (h : Sp s) : s < 44 := by rcases h with rfl | rfl | rfl <;> decide
theorem sp_o {s : Nat} (h : Sp s) : isO s = true := by rcases h with rfl | rfl | rfl <;> rfl
theorem sp_c {s : Nat} (h : Sp s) : clO s = 3 := by rcases h with rfl | rfl | rfl <;> rfl
theorem sp_cn {s : Nat} (h : Sp s) : (vwCl[clO s]?).map (fun z => z.1) = some RX3 := by rcases h with rfl | rfl | rfl <;> rfl
theorem sp_nf {s : Nat} (h : Sp s) : nfO s = 8 := by rcases h with rfl | rfl | rfl <;> rfl
theorem sp_fn6 {s : Nat} (h : Sp s) : frO s 6 = none := by rcases h with rfl | rfl | rfl <;> rfl
theorem sp_fn7 {s : Nat} (h : Sp s) : frO s 7 = none := by rcases h with rfl | rfl | rfl <;> rfl
theorem sp_fr0 {s : Nat} (h : Sp s) : frO s 0 = some (5 + 6 * s + 0) := by rcases h with rfl | rfl | rfl <;> rfl
theorem sp_alt0 {s : Nat} (h : Sp s) : 5 + 6 * s + 0 < 44 := by rcases h with rfl | rfl | rfl <;> decide
theorem sp_ao0 {s : Nat} (h : Sp s) : isO (5 + 6 * s + 0) = false := by rcases h with rfl | rfl | rfl <;> rfl
theorem sp_al0 {s : Nat} (h : Sp s) : alen (5 + 6 * s + 0) = 25 := by rcases h with rfl | rfl | rfl <;> rfl
theorem sp_fr1 {s : Nat} (h : Sp s) : frO s 1 = some (5 + 6 * s + 1) := by rcases h with rfl | rfl | rfl <;> rfl
theorem sp_alt1 {s : Nat} (h : Sp s) : 5 + 6 * s + 1 < 44 := by rcases h with rfl | rfl | rfl <;> decide
theorem sp_ao1 {s : Nat} (h : Sp s) : isO (5 + 6 * s + 1) = false := by rcases h with rfl | rfl | rfl <;> rfl
theorem sp_al1 {s : Nat} (h : Sp s) : alen (5 + 6 * s + 1) = 8 := by rcases h with rfl | rfl | rfl <;> rfl
theorem sp_fr2 {s : Nat} (h : Sp s) : frO s 2 = some (5 + 6 * s + 2) := by rcases h with rfl | rfl | rfl <;> rfl
theorem sp_alt2 {s : Nat} (h : Sp s) : 5 + 6 * s + 2 < 44 := by rcases h with rfl | rfl | rfl <;> decide
theorem sp_ao2 {s : Nat} (h : Sp s) : isO (5 + 6 * s + 2) = false := by rcases h with rfl | rfl | rfl <;> rfl
theorem sp_al2 {s : Nat} (h : Sp s) : alen (5 + 6 * s + 2) = 8 := by rcases h with rfl | rfl | rfl <;> rfl
theorem sp_fr3 {s : Nat} (h : Sp s) : frO s 3 = some (5 + 6 * s + 3) := by rcases h with rfl | rfl | rfl <;> rfl
theorem sp_alt3 {s : Nat} (h : Sp s) : 5 + 6 * s + 3 < 44 := by rcases h with rfl | rfl | rfl <;> decide
theorem sp_ao3 {s : Nat} (h : Sp s) : isO (5 + 6 * s + 3) = false := by rcases h with rfl | rfl | rfl <;> rfl
theorem sp_al3 {s : Nat} (h : Sp s) : alen (5 + 6 * s + 3) = 8 := by rcases h with rfl | rfl | rfl <;> rfl
theorem sp_fr4 {s : Nat} (h : Sp s) : frO s 4 = some (5 + 6 * s + 4) := by rcases h with rfl | rfl | rfl <;> rfl
theorem sp_alt4 {s : Nat} (h : Sp s) : 5 + 6 * s + 4 < 44 := by rcases h with rfl | rfl | rfl <;> decide
theorem sp_ao4 {s : Nat} (h : Sp s) : isO (5 + 6 * s + 4) = false := by rcases h with rfl | rfl | rfl <;> rfl
theorem sp_al4 {s : Nat} (h : Sp s) : alen (5 + 6 * s + 4) = 8 := by rcases h with rfl | rfl | rfl <;> rfl
theorem sp_fr5 {s : Nat} (h : Sp s) : frO s 5 = some (5 + 6 * s + 5) := by rcases h with rfl | rfl | rfl <;> rfl
theorem sp_alt5 {s : Nat} (h : Sp s) : 5 + 6 * s + 5 < 44 := by rcases h with rfl | rfl | rfl <;> decide
theorem sp_ao5 {s : Nat} (h : Sp s) : isO (5 + 6 * s + 5) = false := by rcases h with rfl | rfl | rfl <;> rfl
theorem sp_al5 {s : Nat} (h : Sp s) : alen (5 + 6 * s + 5) = 8 := by rcases h with rfl | rfl | rfl <;> rfl
theorem fpX3_6 : Fp 3 6 .int := ⟨RX3, TX3, 8, tyX3, rfl, tyX3_ok, nmX3, rfl, by decide +kernel⟩
theorem fpX3_7 : Fp 3 7 .int := ⟨RX3, TX3, 8, tyX3, rfl, tyX3_ok, nmX3, rfl, by decide +kernel⟩
theorem fpX4_3 : Fp 4 3 .int := ⟨RX4, TX4, 4, tyX4, rfl, tyX4_ok, nmX4, rfl, by decide +kernel⟩
theorem fpX2_1 : Fp 2 1 .int := ⟨RX2, TX2, 2, tyX2, rfl, tyX2_ok, nmX2, rfl, by decide +kernel⟩
theorem fpX5_8 : Fp 5 8 .boolean := ⟨RX5, TX5, 9, tyX5, rfl, tyX5_ok, nmX5, rfl, by decide +kernel⟩
theorem fpX6_6 : Fp 6 6 .int := ⟨RX6, TX6, 25, tyX6, rfl, tyX6_ok, nmX6, rfl, by decide +kernel⟩
theorem fpX6_7 : Fp 6 7 .int := ⟨RX6, TX6, 25, tyX6, rfl, tyX6_ok, nmX6, rfl, by decide +kernel⟩
theorem fpX6_8 : Fp 6 8 .int := ⟨RX6, TX6, 25, tyX6, rfl, tyX6_ok, nmX6, rfl, by decide +kernel⟩
theorem fpX6_13 : Fp 6 13 .int := ⟨RX6, TX6, 25, tyX6, rfl, tyX6_ok, nmX6, rfl, by decide +kernel⟩
theorem fpX6_14 : Fp 6 14 .int := ⟨RX6, TX6, 25, tyX6, rfl, tyX6_ok, nmX6, rfl, by decide +kernel⟩
theorem fpX6_15 : Fp 6 15 .int := ⟨RX6, TX6, 25, tyX6, rfl, tyX6_ok, nmX6, rfl, by decide +kernel⟩
theorem fpX6_17 : Fp 6 17 .boolean := ⟨RX6, TX6, 25, tyX6, rfl, tyX6_ok, nmX6, rfl, by decide +kernel⟩
theorem fpX6_18 : Fp 6 18 .boolean := ⟨RX6, TX6, 25, tyX6, rfl, tyX6_ok, nmX6, rfl, by decide +kernel⟩
theorem fpX6_19 : Fp 6 19 .int := ⟨RX6, TX6, 25, tyX6, rfl, tyX6_ok, nmX6, rfl, by decide +kernel⟩
theorem fpX6_23 : Fp 6 23 .int := ⟨RX6, TX6, 25, tyX6, rfl, tyX6_ok, nmX6, rfl, by decide +kernel⟩
theorem fpX6_24 : Fp 6 24 .int := ⟨RX6, TX6, 25, tyX6, rfl, tyX6_ok, nmX6, rfl, by decide +kernel⟩
/-- a slope: rows 0 depth (25), 1 kind, 2 figure, 3 cell, 4 belief (of each), 5 how many people, the year -/
abbrev Sl : Type := Nat → Nat → Nat
def OKs (A : Sl) : Prop := A 5 0 ≤ 8 ∧ (∀ k, k < 25 → A 0 k ≤ 99) ∧ ∀ k, k < A 5 0 → A 1 k ≤ 5 ∧ A 2 k ≤ 9 ∧ A 3 k < 25 ∧ A 4 k ≤ 9
/-- a picture f of a slope holds A -/
def Rp (f : Nat → Nat → Int32) (A : Sl) : Prop := (∀ k, k < 25 → f 0 k = zI (A 0 k)) ∧ (∀ q, 1 ≤ q → q ≤ 4 → ∀ k, k < A 5 0 → f q k = zI (A q k)) ∧ f 5 0 = zI (A 5 0) ∧ f 5 1 = zI (A 5 1) ∧ OKs A
def vC (X : Mem) (s : Nat) : Nat → Nat → Int32 := fun q k => if q < 5 then X (5 + 6 * s + q) k else X s (6 + k)
def vM (X : Mem) : Nat → Nat → Int32 := fun q k => if q < 5 then X (31 + q) k else X 29 (6 + k)
section RP
variable {f : Nat → Nat → Int32} {A : Sl}
theorem Rp.ok (h : Rp f A) : OKs A := h.2.2.2.2
theorem Rp.n8 (h : Rp f A) : A 5 0 ≤ 8 := h.ok.1
theorem Rp.d99 (h : Rp f A) (k : Nat) (hk : k < 25) : A 0 k ≤ 99 := h.ok.2.1 k hk
theorem Rp.k5 (h : Rp f A) (k : Nat) (hk : k < A 5 0) : A 1 k ≤ 5 := (h.ok.2.2 k hk).1
theorem Rp.f9 (h : Rp f A) (k : Nat) (hk : k < A 5 0) : A 2 k ≤ 9 := (h.ok.2.2 k hk).2.1
theorem Rp.c25 (h : Rp f A) (k : Nat) (hk : k < A 5 0) : A 3 k < 25 := (h.ok.2.2 k hk).2.2.1
theorem Rp.b9 (h : Rp f A) (k : Nat) (hk : k < A 5 0) : A 4 k ≤ 9 := (h.ok.2.2 k hk).2.2.2
end RP
section RPC
variable {X : Mem} {s : Nat} {A : Sl}
theorem Rp.c0 (h : Rp (vC X s) A) (k : Nat) (hk : k < 25) : X (5 + 6 * s + 0) k = zI (A 0 k) := h.1 k hk
theorem Rp.c1 (h : Rp (vC X s) A) (k : Nat) (hk : k < A 5 0) : X (5 + 6 * s + 1) k = zI (A 1 k) := h.2.1 1 (by omega) (by omega) k hk
theorem Rp.c2 (h : Rp (vC X s) A) (k : Nat) (hk : k < A 5 0) : X (5 + 6 * s + 2) k = zI (A 2 k) := h.2.1 2 (by omega) (by omega) k hk
theorem Rp.c3 (h : Rp (vC X s) A) (k : Nat) (hk : k < A 5 0) : X (5 + 6 * s + 3) k = zI (A 3 k) := h.2.1 3 (by omega) (by omega) k hk
theorem Rp.c4 (h : Rp (vC X s) A) (k : Nat) (hk : k < A 5 0) : X (5 + 6 * s + 4) k = zI (A 4 k) := h.2.1 4 (by omega) (by omega) k hk
theorem Rp.cn (h : Rp (vC X s) A) : X s 6 = zI (A 5 0) := h.2.2.1
theorem Rp.cy (h : Rp (vC X s) A) : X s 7 = zI (A 5 1) := h.2.2.2.1
theorem Rp.m0 (h : Rp (vM X) A) (k : Nat) (hk : k < 25) : X 31 k = zI (A 0 k) := h.1 k hk
theorem Rp.m1 (h : Rp (vM X) A) (k : Nat) (hk : k < A 5 0) : X 32 k = zI (A 1 k) := h.2.1 1 (by omega) (by omega) k hk
theorem Rp.m2 (h : Rp (vM X) A) (k : Nat) (hk : k < A 5 0) : X 33 k = zI (A 2 k) := h.2.1 2 (by omega) (by omega) k hk
theorem Rp.m3 (h : Rp (vM X) A) (k : Nat) (hk : k < A 5 0) : X 34 k = zI (A 3 k) := h.2.1 3 (by omega) (by omega) k hk
theorem Rp.m4 (h : Rp (vM X) A) (k : Nat) (hk : k < A 5 0) : X 35 k = zI (A 4 k) := h.2.1 4 (by omega) (by omega) k hk
theorem Rp.mn (h : Rp (vM X) A) : X 29 6 = zI (A 5 0) := h.2.2.1
theorem Rp.my (h : Rp (vM X) A) : X 29 7 = zI (A 5 1) := h.2.2.2.1
end RPC
/-- a picture that shows the same holds the same -/
theorem Rp.same {f g : Nat → Nat → Int32} {A : Sl} (h : Rp f A) (h0 : ∀ k, k < 25 → g 0 k = f 0 k) (h1 : ∀ q, 1 ≤ q → q ≤ 4 → ∀ k, k < 8 → g q k = f q k) (h2 : g 5 0 = f 5 0) (h3 : g 5 1 = f 5 1) : Rp g A :=
  ⟨fun k hk => by rw [h0 k hk]; exact h.1 k hk, fun q h5 h6 k hk => by rw [h1 q h5 h6 k (by have := h.n8; omega)]; exact h.2.1 q h5 h6 k hk, by rw [h2]; exact h.2.2.1, by rw [h3]; exact h.2.2.2.1, h.ok⟩
theorem Rp.keep {X X' : Mem} {s : Nat} {A : Sl} (h : Rp (vC X s) A) (hs : X' s = X s) (ha : ∀ q, q < 5 → X' (5 + 6 * s + q) = X (5 + 6 * s + q)) : Rp (vC X' s) A := by
  have he : ∀ q k, vC X' s q k = vC X s q k := by
    intro q k
    unfold vC
    by_cases hq : q < 5
    · simp only [hq, if_true, ha q hq]
    · simp only [hq, if_false, hs]
  exact h.same (fun k _ => he 0 k) (fun q _ _ k _ => he q k) (he 5 0) (he 5 1)
theorem Rp.keepM {X X' : Mem} {A : Sl} (h : Rp (vM X) A) (hs6 : X' 29 6 = X 29 6) (hs7 : X' 29 7 = X 29 7) (ha : ∀ q, q < 5 → X' (31 + q) = X (31 + q)) : Rp (vM X') A := by
  have he : ∀ q k, q < 5 → vM X' q k = vM X q k := by
    intro q k hq
    unfold vM
    simp only [hq, if_true, ha q hq]
  exact h.same (fun k _ => he 0 k (by omega)) (fun q h1 h2 k _ => he q k (by omega)) hs6 hs7
/-! what is asked of a slope -/
def hereN (A : Sl) : Nat → Nat
  | 0 => 0
  | k + 1 => if A 0 (hereN A k) < A 0 (k + 1) then k + 1 else hereN A k
def here (A : Sl) : Nat := hereN A 24
theorem hereN_le (A : Sl) : ∀ k, hereN A k ≤ k
  | 0 => Nat.le_refl 0
  | k + 1 => by
    unfold hereN
    have := hereN_le A k
    split <;> omega
theorem here_lt (A : Sl) : here A < 25 := Nat.lt_succ_of_le (hereN_le A 24)
theorem hereN_succ (A : Sl) (k : Nat) : hereN A (k + 1) = if A 0 (hereN A k) < A 0 (k + 1) then k + 1 else hereN A k := rfl
def far (a b : Nat) : Nat := (a - b) + (b - a)
def stp (a b : Nat) : Nat := far (a / 5) (b / 5) + far (a % 5) (b % 5)
theorem stp_comm (a b : Nat) : stp a b = stp b a := by unfold stp far; omega
theorem stp_self (a : Nat) : stp a a = 0 := by unfold stp far; omega
theorem stp_le {a b : Nat} (ha : a < 25) (hb : b < 25) : stp a b ≤ 8 := by unfold stp far; omega
def cntB : Nat → (Nat → Bool) → Nat
  | 0, _ => 0
  | n + 1, P => cntB n P + (if P n = true then 1 else 0)
def bitsB : Nat → (Nat → Bool) → Nat
  | 0, _ => 0
  | n + 1, P => bitsB n P + (if P n = true then 2 ^ n else 0)
def sumB : Nat → (Nat → Nat) → Nat
  | 0, _ => 0
  | n + 1, f => sumB n f + f n
def mxB : Nat → (Nat → Bool) → (Nat → Nat) → Nat
  | 0, _, _ => 0
  | n + 1, P, f => if P n = true then max (mxB n P f) (f n) else mxB n P f
theorem cntB_s (n : Nat) (P : Nat → Bool) : cntB (n + 1) P = cntB n P + (if P n = true then 1 else 0) := rfl
theorem bitsB_s (n : Nat) (P : Nat → Bool) : bitsB (n + 1) P = bitsB n P + (if P n = true then 2 ^ n else 0) := rfl
theorem sumB_s (n : Nat) (f : Nat → Nat) : sumB (n + 1) f = sumB n f + f n := rfl
theorem mxB_s (n : Nat) (P : Nat → Bool) (f : Nat → Nat) : mxB (n + 1) P f = if P n = true then max (mxB n P f) (f n) else mxB n P f := rfl
theorem cntB_le (n : Nat) (P : Nat → Bool) : cntB n P ≤ n := by
  induction n with
  | zero => exact Nat.le_refl 0
  | succ n ih => rw [cntB_s]; split <;> omega
theorem cntB_mono (n : Nat) {P Q : Nat → Bool} (h : ∀ k, k < n → P k = true → Q k = true) : cntB n P ≤ cntB n Q := by
  induction n with
  | zero => exact Nat.le_refl 0
  | succ n ih =>
    have := ih (fun k hk => h k (by omega))
    rw [cntB_s, cntB_s]
    by_cases hp : P n = true
    · rw [if_pos hp, if_pos (h n (by omega) hp)]; omega
    · rw [if_neg hp]; omega
theorem cntB_congr (n : Nat) {P Q : Nat → Bool} (h : ∀ k, k < n → P k = Q k) : cntB n P = cntB n Q := by
  induction n with
  | zero => rfl
  | succ n ih => rw [cntB_s, cntB_s, ih (fun k hk => h k (by omega)), h n (by omega)]
theorem bitsB_lt (n : Nat) (P : Nat → Bool) : bitsB n P < 2 ^ n := by
  induction n with
  | zero => exact Nat.one_pos
  | succ n ih => rw [bitsB_s, Nat.pow_succ]; split <;> omega
theorem bitsB_congr (n : Nat) {P Q : Nat → Bool} (h : ∀ k, k < n → P k = Q k) : bitsB n P = bitsB n Q := by
  induction n with
  | zero => rfl
  | succ n ih => rw [bitsB_s, bitsB_s, ih (fun k hk => h k (by omega)), h n (by omega)]
theorem bitsB_lt8 {n : Nat} (P : Nat → Bool) (h : n ≤ 8) : bitsB n P < 256 := Nat.lt_of_lt_of_le (bitsB_lt n P) (Nat.pow_le_pow_right (by decide) h)
theorem sumB_congr (n : Nat) {f g : Nat → Nat} (h : ∀ k, k < n → f k = g k) : sumB n f = sumB n g := by
  induction n with
  | zero => rfl
  | succ n ih => rw [sumB_s, sumB_s, ih (fun k hk => h k (by omega)), h n (by omega)]
theorem sumB_le (n : Nat) {f : Nat → Nat} {m : Nat} (h : ∀ k, k < n → f k ≤ m) : sumB n f ≤ n * m := by
  induction n with
  | zero => exact Nat.zero_le _
  | succ n ih =>
    have h1 := ih (fun k hk => h k (by omega))
    have h2 := h n (by omega)
    rw [sumB_s, Nat.succ_mul]; omega
theorem mxB_le (n : Nat) {P : Nat → Bool} {f : Nat → Nat} {m : Nat} (h : ∀ k, k < n → f k ≤ m) : mxB n P f ≤ m := by
  induction n with
  | zero => exact Nat.zero_le _
  | succ n ih =>
    have h1 := ih (fun k hk => h k (by omega))
    have h2 := h n (by omega)
    rw [mxB_s]; split <;> omega
theorem mxB_congr (n : Nat) {P Q : Nat → Bool} {f g : Nat → Nat} (h : ∀ k, k < n → P k = Q k) (h2 : ∀ k, k < n → f k = g k) : mxB n P f = mxB n Q g := by
  induction n with
  | zero => rfl
  | succ n ih => rw [mxB_s, mxB_s, ih (fun k hk => h k (by omega)) (fun k hk => h2 k (by omega)), h n (by omega), h2 n (by omega)]
/-- who is BESIDE p: q, unless he is gone (bits G) -/
def bes (G : Nat) (A : Sl) (p q : Nat) : Bool := decide (¬ p = q) && !(G.testBit q) && decide (stp (A 3 p) (A 3 q) ≤ 2)
def bel (A : Sl) (q : Nat) : Bool := decide (5 ≤ A 4 q)
def many (G : Nat) (A : Sl) (p : Nat) : Nat := cntB (A 5 0) (bes G A p)
def bbl (G : Nat) (A : Sl) (p : Nat) : Nat := cntB (A 5 0) (fun q => bes G A p q && bel A q)
def guest (G : Nat) (A : Sl) (p : Nat) : Int := (A 4 p : Int) + (if many G A p < 2 * bbl G A p then 1 else if 2 * bbl G A p < many G A p then -1 else 0)
def friend (G : Nat) (A : Sl) (p w : Nat) : Int := guest G A p + (if stp (A 3 p) w ≤ A 2 p then 1 else 0)
def child (G : Nat) (A : Sl) (p : Nat) : Nat := if many G A p = 0 then A 4 p else mxB (A 5 0) (bes G A p) (A 4)
/-- 0 at least, 9 at most -/
def clamp (z : Int) : Nat := (max 0 (min 9 z)).toNat
theorem clamp_le (z : Int) : clamp z ≤ 9 := by unfold clamp; omega
/-- the next BELIEF of one -/
def nextB (G : Nat) (A : Sl) (p w : Nat) : Nat :=
  if A 1 p = 1 then clamp (friend G A p w) else if A 1 p = 2 then clamp (child G A p) else if A 1 p = 3 then clamp (guest G A p - 1)
  else if A 1 p = 4 then clamp (max (friend G A p w) (A 4 p)) else if A 1 p = 5 then clamp (child G A p + 1) else clamp (guest G A p)
theorem nextB_le (G : Nat) (A : Sl) (p w : Nat) : nextB G A p w ≤ 9 := by unfold nextB; repeat' split
                                                                          all_goals exact clamp_le _
def blvAt (G : Nat) (A : Sl) (w : Nat) : Nat := cntB (A 5 0) (fun p => !(G.testBit p) && bel A p && decide (stp (A 3 p) w ≤ 2))
def toward (a b : Nat) : Nat := if a / 5 < b / 5 then a + 5 else if b / 5 < a / 5 then a - 5 else if a % 5 < b % 5 then a + 1 else if b % 5 < a % 5 then a - 1 else a
theorem toward_lt {a b : Nat} (ha : a < 25) (hb : b < 25) : toward a b < 25 := by unfold toward; repeat' split
                                                                                  all_goals omega
/-- a YEAR -/
def year (G : Nat) (wd : Bool) (A : Sl) : Sl := fun q k => match q with
  | 0 => if k = here A then min 99 (A 0 k + (if wd = true then 0 else blvAt G A (here A))) else A 0 k - 1
  | 3 => if 5 ≤ nextB G A k (here A) then toward (A 3 k) (here A) else A 3 k
  | 4 => nextB G A k (here A)
  | 5 => if k = 1 then A 5 1 + 1 else A 5 k
  | _ => A q k
def goN (G : Nat) : Nat → Sl → Sl
  | 0, A => A
  | n + 1, A => year G false (goN G n A)
def bset (G : Nat) (A : Sl) : Nat := bitsB (A 5 0) (fun p => !(G.testBit p) && bel A p)
def bcnt (G : Nat) (A : Sl) : Nat := cntB (A 5 0) (fun p => !(G.testBit p) && bel A p)
theorem year_ok {G : Nat} {wd : Bool} {A : Sl} (h : OKs A) : OKs (year G wd A) := by
  refine ⟨h.1, fun k hk => ?_, fun k hk => ?_⟩
  · show (if k = here A then min 99 (A 0 k + (if wd = true then 0 else blvAt G A (here A))) else A 0 k - 1) ≤ 99
    have := h.2.1 k hk
    split <;> omega
  · obtain ⟨h1, h2, h3, h4⟩ := h.2.2 k hk
    refine ⟨h1, h2, ?_, nextB_le _ _ _ _⟩
    show (if 5 ≤ nextB G A k (here A) then toward (A 3 k) (here A) else A 3 k) < 25
    split
    · exact toward_lt h3 (here_lt A)
    · exact h3
theorem goN_ok {G : Nat} {A : Sl} (h : OKs A) : ∀ n, OKs (goN G n A)
  | 0 => h
  | n + 1 => year_ok (goN_ok h n)
theorem goN_n (G : Nat) (A : Sl) : ∀ n, goN G n A 5 0 = A 5 0
  | 0 => rfl
  | n + 1 => goN_n G A n
theorem goN_y (G : Nat) (A : Sl) : ∀ n, goN G n A 5 1 = A 5 1 + n
  | 0 => rfl
  | n + 1 => by show goN G n A 5 1 + 1 = _; rw [goN_y G A n]; omega
