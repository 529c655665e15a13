/-! what the reference holds -/
theorem ru_X6_no2 {X : Mem} (z : Int) (hz : -6 ≤ z ∧ z ≤ -1) : Ru yX6_no wsX6_no 0 0 [.ref 29, vi z] X (fun v X' => v = some (vi z) ∧ X' = mset X 30 (-z).toNat (X 30 (-z).toNat + 1)) := by
  obtain ⟨k, rfl⟩ : ∃ k : Nat, z = -(k : Int) := ⟨(-z).toNat, by omega⟩
  have h := ru_X6_no (X := X) k _ (by omega) rfl
  rw [show (-(-(k : Int))).toNat = k by omega]
  exact h
theorem ru_X6_lower2 {X : Mem} (z : Int) (hz : -6 ≤ z ∧ z ≤ -1) : Ru yX6_lower wsX6_lower 0 0 [.ref 29, vi z] X (fun v X' => v = some (vi (1000000000 - z)) ∧ X' = mset X 30 (-z).toNat (X 30 (-z).toNat + 1)) := by
  obtain ⟨k, rfl⟩ : ∃ k : Nat, z = -(k : Int) := ⟨(-z).toNat, by omega⟩
  have h := ru_X6_lower (X := X) k _ (by omega) rfl
  rw [show (-(-(k : Int))).toNat = k by omega, show (1000000000 - -(k : Int)) = 1000000000 + (k : Int) by omega]
  exact h
theorem ru_X6_lowest2 {X : Mem} (z : Int) (hz : -6 ≤ z ∧ z ≤ -1) : Ru yX6_lowest wsX6_lowest 0 0 [.ref 29, vi z] X (fun v X' => v = some (vl (4000000000000000000 - z)) ∧ X' = mset X 30 (-z).toNat (X 30 (-z).toNat + 1)) := by
  obtain ⟨k, rfl⟩ : ∃ k : Nat, z = -(k : Int) := ⟨(-z).toNat, by omega⟩
  have h := ru_X6_lowest (X := X) k _ (by omega) rfl
  rw [show (-(-(k : Int))).toNat = k by omega, show (4000000000000000000 - -(k : Int)) = 4000000000000000000 + (k : Int) by omega]
  exact h
def TxM (X : Mem) (T : Nat → Nat) (n : Nat) : Prop := X 29 13 = zI (n : Nat) ∧ n ≤ 96 ∧ ∀ k, k < n → X 36 k = zI (T k : Nat) ∧ T k ≤ 255
def RwM (X : Mem) (W : Nat → Nat) (rs : Nat) : Prop := X 29 23 = zI (rs : Nat) ∧ rs ≤ 16 ∧ ∀ k, k < rs → X 43 k = zI (W k : Nat) ∧ W k ≤ 99
/-- the reference holds the state V -/
def mI (X : Mem) (V : St) : Prop := Rp (vM X) V.1 ∧ V.1 5 1 ≤ 999 ∧ (V.2.2.1 = true → Rp (vK X 0) V.2.1 ∧ V.2.1 5 1 ≤ 999) ∧ X 29 17 = zI (b2i V.2.2.1) ∧ X 29 8 = zI ((0 : Nat) : Int) ∧ TxM X V.2.2.2.1 V.2.2.2.2.1 ∧ RwM X V.2.2.2.2.2.1 V.2.2.2.2.2.2.1 ∧ ∀ k, k < 7 → X 30 k = zI (V.2.2.2.2.2.2.2 k : Nat)
/-- nothing of the class changes -/
def frM (X X' : Mem) : Prop := ∀ q, q < 29 → X' q = X q
theorem frM_rf (X : Mem) : frM X X := fun _ _ => rfl
theorem frM_T {w : Nat} {X X' : Mem} (h : frT w X X') : frM X X' := fun q hq => h.1 q (by omega) (by omega) (by omega) (by omega)
theorem frM_set {X Y : Mem} {q k : Nat} {v : Int32} (h : frM X Y) (hq : 29 ≤ q) : frM X (mset Y q k v) := fun r hr => by rw [mset_row (by omega)]; exact h r hr
theorem frM_tr {X Y Z : Mem} (h1 : frM X Y) (h2 : frM Y Z) : frM X Z := fun q hq => (h2 q hq).trans (h1 q hq)
theorem TxM.frT {X X' : Mem} {T : Nat → Nat} {n w : Nat} (h : TxM X T n) (hF : frT w X X') : TxM X' T n :=
  ⟨(hF.2.1 13 (by omega) (by omega) (by omega) (by omega)).trans h.1, h.2.1, fun k hk => by rw [hF.1 36 (by omega) (by omega) (by omega) (by omega)]; exact h.2.2 k hk⟩
theorem RwM.frT {X X' : Mem} {W : Nat → Nat} {n w : Nat} (h : RwM X W n) (hF : frT w X X') : RwM X' W n :=
  ⟨(hF.2.1 23 (by omega) (by omega) (by omega) (by omega)).trans h.1, h.2.1, fun k hk => by rw [hF.1 43 (by omega) (by omega) (by omega) (by omega)]; exact h.2.2 k hk⟩
theorem mI_put {X X' : Mem} {V : St} {A : Sl} (h : mI X V) (hA : Rp (vM X') A) (hy : A 5 1 ≤ 999) (hF : frT 1 X X') : mI X' (putA V A) :=
  ⟨hA, hy, fun z => ⟨(h.2.2.1 z).1.keepK hF (by omega), (h.2.2.1 z).2⟩, (hF.2.1 17 (by omega) (by omega) (by omega) (by omega)).trans h.2.2.2.1, frT_gone hF h.2.2.2.2.1, h.2.2.2.2.2.1.frT hF, h.2.2.2.2.2.2.1.frT hF, fun k hk => by rw [hF.1 30 (by omega) (by omega) (by omega) (by omega)]; exact h.2.2.2.2.2.2.2 k hk⟩
theorem mI_T {X X' : Mem} {V : St} (h : mI X V) (hA : Rp (vM X') V.1) (hF : frT 1 X X') : mI X' V := mI_put h hA h.2.1 hF
theorem mI_rf {X : Mem} {V : St} {k : Nat} (h : mI X V) : mI (mset X 30 k (X 30 k + 1)) (rfV k V) := by
  have r2 : ∀ q, ¬ q = 30 → (mset X 30 k (X 30 k + 1)) q = X q := fun q a => mset_row a
  refine ⟨h.1.keepM (by rw [r2 29 (by omega)]) (by rw [r2 29 (by omega)]) (fun q hq => r2 _ (by omega)), h.2.1, fun z => ⟨(h.2.2.1 z).1.keepKr (r2 40 (by omega)), (h.2.2.1 z).2⟩, by rw [r2 29 (by omega)]; exact h.2.2.2.1, by rw [r2 29 (by omega)]; exact h.2.2.2.2.1, ⟨by rw [r2 29 (by omega)]; exact h.2.2.2.2.2.1.1, h.2.2.2.2.2.1.2.1, fun j hj => by rw [r2 36 (by omega)]; exact h.2.2.2.2.2.1.2.2 j hj⟩, ⟨by rw [r2 29 (by omega)]; exact h.2.2.2.2.2.2.1.1, h.2.2.2.2.2.2.1.2.1, fun j hj => by rw [r2 43 (by omega)]; exact h.2.2.2.2.2.2.1.2.2 j hj⟩, fun j hj => ?_⟩
  show _ = zI (((if j = k then V.2.2.2.2.2.2.2 j + 1 else V.2.2.2.2.2.2.2 j : Nat)) : Int)
  by_cases hjk : j = k
  · subst hjk
    rw [mset_eq, if_pos rfl, h.2.2.2.2.2.2.2 j hj]
    have : zI ((V.2.2.2.2.2.2.2 j : Nat) : Int) + 1 = zI ((V.2.2.2.2.2.2.2 j : Int) + 1) := zI_add _ 1
    rw [this]; rfl
  · rw [mset_ne _ _ _ _ (fun z => hjk z.2), if_neg hjk]; exact h.2.2.2.2.2.2.2 j hj
theorem no_endM {X : Mem} {V : St} {code z : Int} {r : Int × St} (h : code = z) (hz : ¬ z = 0) (hV : mI X V) :
    (some (vi z) : Option Value) = some (vi (wC code V r).1) ∧ mI (mset X 30 (-z).toNat (X 30 (-z).toNat + 1)) (wC code V r).2 ∧ frM X (mset X 30 (-z).toNat (X 30 (-z).toNat + 1)) := by
  subst h
  rw [wC_no hz]
  exact ⟨rfl, mI_rf hV, frM_set (frM_rf X) (by omega)⟩
theorem no_endMB {X : Mem} {V : St} {base code z : Int} {r : Int × St} (h : code = z) (hz : ¬ z = 0) (hV : mI X V) :
    (some (vl (base - z)) : Option Value) = some (vl (wB base code V r).1) ∧ mI (mset X 30 (-z).toNat (X 30 (-z).toNat + 1)) (wB base code V r).2 ∧ frM X (mset X 30 (-z).toNat (X 30 (-z).toNat + 1)) := by
  subst h
  rw [wB_no hz]
  exact ⟨rfl, mI_rf hV, frM_set (frM_rf X) (by omega)⟩
theorem no_endMC {X : Mem} {V : St} {base code z : Int} {r : Int × St} (h : code = z) (hz : ¬ z = 0) (hV : mI X V) :
    (some (vi (base - z)) : Option Value) = some (vi (wB base code V r).1) ∧ mI (mset X 30 (-z).toNat (X 30 (-z).toNat + 1)) (wB base code V r).2 ∧ frM X (mset X 30 (-z).toNat (X 30 (-z).toNat + 1)) := by
  subst h
  rw [wB_no hz]
  exact ⟨rfl, mI_rf hV, frM_set (frM_rf X) (by omega)⟩
theorem ok_endM {X X' : Mem} {V : St} {code z : Int} {r : Int × St} (h : code = 0) (hz : z = r.1) (hV : mI X' r.2) (hF : frM X X') :
    (some (vi z) : Option Value) = some (vi (wC code V r).1) ∧ mI X' (wC code V r).2 ∧ frM X X' := by
  rw [wC_ok h]; exact ⟨rv hz, hV, hF⟩
theorem ok_endMB {X X' : Mem} {V : St} {base code z : Int} {r : Int × St} (h : code = 0) (hz : z = r.1) (hV : mI X' r.2) (hF : frM X X') :
    (some (vl z) : Option Value) = some (vl (wB base code V r).1) ∧ mI X' (wB base code V r).2 ∧ frM X X' := by
  rw [wB_ok h]; exact ⟨rl hz, hV, hF⟩
theorem ok_endMC {X X' : Mem} {V : St} {base code z : Int} {r : Int × St} (h : code = 0) (hz : z = r.1) (hV : mI X' r.2) (hF : frM X X') :
    (some (vi z) : Option Value) = some (vi (wB base code V r).1) ∧ mI X' (wB base code V r).2 ∧ frM X X' := by
  rw [wB_ok h]; exact ⟨rv hz, hV, hF⟩
theorem setR0_ok {A : Sl} {i v : Nat} (h : OKs A) (hv : v ≤ 99) : OKs (setR A 0 i v) :=
  ⟨h.1, fun k hk => by
    unfold setR
    have := h.2.1 k hk
    split <;> omega, h.2.2⟩
theorem Rp.setM0 {X : Mem} {i v : Nat} {A : Sl} (h : Rp (vM X) A) (hv : v ≤ 99) : Rp (vM (mset X 31 i (zI (v : Nat)))) (setR A 0 i v) := h.setMg (r := 0) (by decide) (setR0_ok h.ok hv)
theorem madd_rep {X : Mem} {A : Sl} {kd fg ce bl : Nat} (hA : Rp (vM X) A) (hlt : A 5 0 < 8) (h1 : kd ≤ 5) (h2 : fg ≤ 9) (h3 : ce < 25) (h4 : bl ≤ 9) :
    Rp (vM (mset (mset (mset (mset (mset X 32 (A 5 0) (zI (kd : Nat))) 33 (A 5 0) (zI (fg : Nat))) 34 (A 5 0) (zI (ce : Nat))) 35 (A 5 0) (zI (bl : Nat))) 29 6 (zI ((A 5 0 + 1 : Nat) : Int)))) (addP A kd fg ce bl) := by
  refine hA.add hlt h1 h2 h3 h4 (fun k hk => ?_) (fun q a b k hk => ?_) ?_ ?_ ?_ ?_ ?_ ?_
  · rw [vM_row (by omega), vM_row (by omega), mset_row (by omega), mset_row (by omega), mset_row (by omega), mset_row (by omega), mset_row (by omega)]
  · rw [vM_row (by omega), vM_row (by omega), mset_row (by omega)]
    rw [mset_ne _ _ _ _ (by omega), mset_ne _ _ _ _ (by omega), mset_ne _ _ _ _ (by omega), mset_ne _ _ _ _ (by omega)]
  · rw [vM_obj, mset_eq]
  · rw [vM_obj, vM_obj, mset_ne _ _ _ _ (by omega), mset_row (by omega), mset_row (by omega), mset_row (by omega), mset_row (by omega)]
  · rw [vM_row (by omega), mset_row (by omega), mset_row (by omega), mset_row (by omega), mset_row (by omega), mset_eq]
  · rw [vM_row (by omega), mset_row (by omega), mset_row (by omega), mset_row (by omega), mset_eq]
  · rw [vM_row (by omega), mset_row (by omega), mset_row (by omega), mset_eq]
  · rw [vM_row (by omega), mset_row (by omega), mset_eq]
theorem ninesN_same {A : Sl} {S i : Nat} : setR (ninesN S i A) 4 i (ninesN S i A 4 i) = ninesN S i A := setR_id _ _ _
theorem nines_pow (A : Sl) (p : Nat) : nines (2 ^ p) A = setR A 4 p 9 := by
  funext q k
  unfold nines setR
  by_cases h : q = 4 ∧ k = p
  · rw [if_pos h, if_pos ⟨h.1, by rw [h.2]; exact Nat.testBit_two_pow_self⟩]
  · rw [if_neg h, if_neg (fun z => h ⟨z.1, by
      have := z.2
      rw [Nat.testBit_two_pow] at this
      exact (of_decide_eq_true this).symm⟩)]
theorem bset_all {G : Nat} {A : Sl} (hG : G = 0) : (bset G A = evb A) ↔ allB A = true := by
  subst hG
  unfold bset evb allB bcnt
  rw [decide_eq_true_iff]
  generalize A 5 0 = n
  generalize (fun p => !(Nat.testBit 0 p) && bel A p) = P
  induction n with
  | zero => exact ⟨fun _ => rfl, fun _ => rfl⟩
  | succ n ih =>
    have h1 := bitsB_lt n P
    have h2 := cntB_le n P
    have h3 := Nat.two_pow_pos n
    rw [bitsB_s, cntB_s, Nat.pow_succ]
    by_cases hp : P n = true
    · rw [if_pos hp, if_pos hp]
      constructor
      · intro h; have := ih.mp (by omega); omega
      · intro h; have := ih.mpr (by omega); omega
    · rw [if_neg hp, if_neg hp]
      constructor
      · intro h; omega
      · intro h; omega
theorem bset_0 {A : Sl} : (bset 0 A = 0) ↔ bcnt 0 A = 0 := by
  unfold bset bcnt
  generalize A 5 0 = n
  generalize (fun p => !(Nat.testBit 0 p) && bel A p) = P
  induction n with
  | zero => exact ⟨fun _ => rfl, fun _ => rfl⟩
  | succ n ih =>
    have h3 := Nat.two_pow_pos n
    rw [bitsB_s, cntB_s]
    by_cases hp : P n = true
    · rw [if_pos hp, if_pos hp]
      constructor
      · intro h; omega
      · intro h; omega
    · rw [if_neg hp, if_neg hp]
      exact ih
