/-! chains, nearness, the middle -/
def stpF (A : Sl) (c : Nat) : Nat := sumB (A 5 0) (fun i => stp (A 3 i) c)
theorem stpF_le {A : Sl} {c : Nat} (h : OKs A) (hc : c < 25) : stpF A c ≤ 64 := by
  have h1 := sumB_le (A 5 0) (f := fun i => stp (A 3 i) c) (m := 8) (fun k hk => stp_le (h.2.2 k hk).2.2.1 hc)
  have h2 := h.1
  unfold stpF; omega
def nrF (A : Sl) (w i : Nat) : Int := (stp (A 3 i) w : Int)
def mdN (f : Nat → Nat) : Nat → Nat
  | 0 => 0
  | k + 1 => if f (k + 1) < f (mdN f k) then k + 1 else mdN f k
theorem mdN_s (f : Nat → Nat) (k : Nat) : mdN f (k + 1) = if f (k + 1) < f (mdN f k) then k + 1 else mdN f k := rfl
/-- one more round of those that are BESIDE somebody of S -/
def innN (A : Sl) (S : Nat) : Nat → Nat
  | 0 => S
  | i + 1 => if (innN A S i).testBit i = true then innN A S i ||| bitsB (A 5 0) (bes 0 A i) else innN A S i
def outN (A : Sl) (S : Nat) : Nat → Nat
  | 0 => S
  | r + 1 => innN A (outN A S r) (A 5 0)
/-- the chain of one -/
def chn (A : Sl) (p : Nat) : Nat := outN A (2 ^ p) (A 5 0)
theorem or_lt256 {a b : Nat} (ha : a < 256) (hb : b < 256) : a ||| b < 256 := Nat.or_lt_two_pow (n := 8) ha hb
theorem pow_lt8 {p : Nat} (h : p < 8) : 2 ^ p < 256 := Nat.pow_lt_pow_right (by decide) h
theorem innN_lt {A : Sl} {S : Nat} (hS : S < 256) (hn : A 5 0 ≤ 8) : ∀ i, innN A S i < 256
  | 0 => hS
  | i + 1 => by
    unfold innN
    have := innN_lt hS hn i
    split
    · exact or_lt256 this (bitsB_lt8 _ hn)
    · exact this
theorem outN_lt {A : Sl} {S : Nat} (hS : S < 256) (hn : A 5 0 ≤ 8) : ∀ r, outN A S r < 256
  | 0 => hS
  | r + 1 => innN_lt (outN_lt hS hn r) hn _
theorem chn_lt {A : Sl} {p : Nat} (hn : A 5 0 ≤ 8) (hp : p < 8) : chn A p < 256 := outN_lt (pow_lt8 hp) hn _
/-- of the first i: how many chains, and who is in them -/
def grpN (A : Sl) : Nat → Nat × Nat
  | 0 => (0, 0)
  | i + 1 => if (grpN A i).2.testBit i = true then grpN A i else ((grpN A i).1 + 1, (grpN A i).2 ||| chn A i)
