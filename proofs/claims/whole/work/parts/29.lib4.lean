/-! rows for the public calls -/
theorem w1_okr {code z : Int} {V : St} {r : Int × St} (h : code = 0) (hz : z = r.1) : z = (wC code V r).1 := by rw [wC_ok h]; exact hz
theorem w1_okrB {base code z : Int} {V : St} {r : Int × St} (h : code = 0) (hz : z = r.1) : z = (wB base code V r).1 := by rw [wB_ok h]; exact hz
theorem psn_w {code z : Int} {V V' : St} {w : Nat} (h : code = 0) (hz : z = (w : Int)) : z = (wC code V ((w : Int), V')).1 := by rw [wC_ok h]; exact hz
theorem fst_w {x z : Int} {V : St} (h : cdO x 4 = 0) (hz : z = fstS V.1 x) : z = (sp13 x V).1 := by unfold sp13; rw [wC_ok h]; exact hz
theorem first_no {X : Mem} {V : St} {x : Int} (hV : cI X V) (h : cdO x 4 = -2) : cI (mset X 8 (-(-2 : Int)).toNat (X 8 (-(-2 : Int)).toNat + 1)) (sp13 x V).2 := by
  have h2 := cI_no (X := X) (V := V) (code := cdO x 4) (r := (fstS V.1 x, V)) (by omega) hV
  rw [h] at h2
  unfold sp13
  rw [h]; exact h2
theorem and_lt256 {a b : Nat} (h : a < 256) : a &&& b < 256 := Nat.lt_of_le_of_lt Nat.and_le_left h
theorem bitsB_and (n : Nat) (P Q : Nat → Bool) : bitsB n P &&& bitsB n Q = bitsB n (fun q => P q && Q q) := by
  apply Nat.eq_of_testBit_eq
  intro k
  rw [Nat.testBit_and, tb_bitsB, tb_bitsB, tb_bitsB]
  cases decide (k < n) <;> simp
theorem bb_pop {A : Sl} {p : Nat} (h : A 5 0 ≤ 8) : pop (bitsB (A 5 0) (bes 0 A p) &&& bset 0 A) = bbl 0 A p := by
  unfold bset
  rw [bitsB_and, pop_bitsB _ (by omega)]
  unfold bbl
  exact cntB_congr _ (fun k _ => by simp)
theorem mdN_le (f : Nat → Nat) : ∀ k, mdN f k ≤ k
  | 0 => Nat.le_refl _
  | k + 1 => by
    have := mdN_le f k
    rw [mdN_s]; split <;> omega
