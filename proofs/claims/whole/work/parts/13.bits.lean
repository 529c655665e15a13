/-! bits -/
theorem zI_bv (a : Nat) : (zI (a : Int)).toBitVec = BitVec.ofNat 32 a := by
  show BitVec.ofInt 32 (a : Int) = _
  exact BitVec.ofInt_natCast 32 a
theorem zI_and (a b : Nat) : zI (a : Int) &&& zI (b : Int) = zI ((a &&& b : Nat) : Int) := by
  apply Int32.toBitVec.inj
  rw [Int32.toBitVec_and, zI_bv, zI_bv, zI_bv, BitVec.ofNat_and]
theorem zI_or (a b : Nat) : zI (a : Int) ||| zI (b : Int) = zI ((a ||| b : Nat) : Int) := by
  apply Int32.toBitVec.inj
  rw [Int32.toBitVec_or, zI_bv, zI_bv, zI_bv, BitVec.ofNat_or]
theorem zI_xor (a b : Nat) : zI (a : Int) ^^^ zI (b : Int) = zI ((a ^^^ b : Nat) : Int) := by
  apply Int32.toBitVec.inj
  rw [Int32.toBitVec_xor, zI_bv, zI_bv, zI_bv, BitVec.ofNat_xor]
theorem sh_amount : ∀ k, k < 32 → (((zI (k : Nat) &&& 31).toBitVec).smod 32).toNat = k := by decide +kernel
theorem sh_amountU : ∀ k, k < 32 → ((((zI (k : Nat)).toUInt32 &&& Int32.toUInt32 31).toBitVec) % 32).toNat = k := by decide +kernel
theorem zI_shr {a k : Nat} (ha : a < 2147483648) (hk : k < 32) : zI (a : Int) >>> (zI (k : Int) &&& 31) = zI ((a / 2 ^ k : Nat) : Int) := by
  apply Int32.toBitVec.inj
  show BitVec.sshiftRight' (zI (a : Int)).toBitVec (((zI (k : Int) &&& 31).toBitVec).smod 32) = (zI ((a / 2 ^ k : Nat) : Int)).toBitVec
  have hle : a / 2 ^ k ≤ a := Nat.div_le_self a _
  rw [zI_bv, zI_bv, BitVec.sshiftRight_eq', sh_amount k hk]
  apply BitVec.eq_of_toNat_eq
  rw [BitVec.toNat_sshiftRight_of_msb_false (by rw [BitVec.msb_eq_false_iff_two_mul_lt, BitVec.toNat_ofNat]; omega), BitVec.toNat_ofNat, BitVec.toNat_ofNat, Nat.shiftRight_eq_div_pow, Nat.mod_eq_of_lt (by omega), Nat.mod_eq_of_lt (by omega)]
theorem zI_ushr {a k : Nat} (ha : a < 2147483648) (hk : k < 32) : ((zI (a : Int)).toUInt32 >>> ((zI (k : Int)).toUInt32 &&& Int32.toUInt32 31)).toInt32 = zI ((a / 2 ^ k : Nat) : Int) := by
  apply Int32.toBitVec.inj
  show (zI (a : Int)).toBitVec >>> ((((zI (k : Int)).toUInt32 &&& Int32.toUInt32 31).toBitVec) % 32) = (zI ((a / 2 ^ k : Nat) : Int)).toBitVec
  have hle : a / 2 ^ k ≤ a := Nat.div_le_self a _
  apply BitVec.eq_of_toNat_eq
  rw [zI_bv, zI_bv, BitVec.ushiftRight_eq', BitVec.toNat_ushiftRight, sh_amountU k hk, BitVec.toNat_ofNat, BitVec.toNat_ofNat, Nat.shiftRight_eq_div_pow, Nat.mod_eq_of_lt (by omega), Nat.mod_eq_of_lt (by omega)]
theorem zI_shl1 : ∀ k, k < 12 → zI 1 <<< (zI (k : Nat) &&& 31) = zI ((2 ^ k : Nat) : Int) := by decide +kernel
theorem and1 (a : Nat) : a &&& 1 = a % 2 := Nat.and_one_is_mod a
theorem tb_div (S k : Nat) : S.testBit k = decide (S / 2 ^ k % 2 = 1) := Nat.testBit_eq_decide_div_mod_eq
theorem or_pow {b i : Nat} (h : b < 2 ^ i) : b ||| 2 ^ i = b + 2 ^ i := by
  have := Nat.two_pow_add_eq_or_of_lt h 1
  rw [Nat.mul_one] at this
  rw [Nat.or_comm, ← this, Nat.add_comm]
theorem tb_bitsB (n : Nat) (P : Nat → Bool) (k : Nat) : (bitsB n P).testBit k = (decide (k < n) && P k) := by
  induction n with
  | zero => simp [bitsB]
  | succ n ih =>
    rw [bitsB_s]
    by_cases hp : P n = true
    · rw [if_pos hp, ← or_pow (bitsB_lt n P), Nat.testBit_or, ih, Nat.testBit_two_pow]
      by_cases hk : n = k
      · subst hk; simp [hp]
      · have h2 : (k < n) = (k < n + 1) := propext ⟨fun h => by omega, fun h => by omega⟩
        simp [hk, h2]
    · rw [if_neg hp, Nat.add_zero, ih]
      by_cases hk : n = k
      · subst hk; simp [hp]
      · have h2 : (k < n) = (k < n + 1) := propext ⟨fun h => by omega, fun h => by omega⟩
        simp [h2]
/-- how many bits -/
def pop (S : Nat) : Nat := cntB 31 (fun k => S.testBit k)
theorem cntB_cut (P : Nat → Bool) (n : Nat) : ∀ m, cntB (n + m) (fun k => decide (k < n) && P k) = cntB n P := by
  intro m
  induction m with
  | zero => exact cntB_congr n (fun k hk => by simp [hk])
  | succ m ih =>
    rw [← Nat.add_assoc, cntB_s, ih]
    have h : ¬ (n + m < n) := by omega
    simp [h]
theorem pop_bitsB {n : Nat} (P : Nat → Bool) (h : n ≤ 31) : pop (bitsB n P) = cntB n P := by
  unfold pop
  rw [cntB_congr 31 (fun k _ => tb_bitsB n P k)]
  have := cntB_cut P n (31 - n)
  rwa [Nat.add_sub_cancel' h] at this
theorem pop_bset {G : Nat} {A : Sl} (h : A 5 0 ≤ 8) : pop (bset G A) = bcnt G A := pop_bitsB _ (by omega)
theorem pop_le (S : Nat) : pop S ≤ 31 := cntB_le 31 _
theorem bset_lt {G : Nat} {A : Sl} (h : A 5 0 ≤ 8) : bset G A < 256 := bitsB_lt8 _ h
theorem bcnt_le (G : Nat) (A : Sl) : bcnt G A ≤ A 5 0 := cntB_le _ _
theorem rv {a b : Int} (h : a = b) : (some (vi a) : Option Value) = some (vi b) := by rw [h]
theorem rl {a b : Int} (h : a = b) : (some (vl a) : Option Value) = some (vl b) := by rw [h]
/-- a truth as a whole number -/
def b2i (b : Bool) : Int := if b = true then 1 else 0
theorem b2i_t {b : Bool} (h : b = true) : b2i b = 1 := by rw [h]; rfl
theorem b2i_f {b : Bool} (h : ¬ b = true) : b2i b = 0 := by simp [b2i, h]
theorem b2i_r (b : Bool) : 0 ≤ b2i b ∧ b2i b ≤ 1 := by cases b <;> decide
theorem b2i_n (b : Bool) : narrow .boolean (vi (b2i b)) = vi (b2i b) := by cases b <;> decide
def cmpI (x y : Int) : Int := if x < y then -1 else if x = y then 0 else 1
theorem cmpI_r (x y : Int) : -1 ≤ cmpI x y ∧ cmpI x y ≤ 1 := by (unfold cmpI; repeat' split) <;> omega
