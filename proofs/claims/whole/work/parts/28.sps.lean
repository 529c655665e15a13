/-! the whole state, and what every call answers and makes of it -/
abbrev St : Type := Sl × Sl × Bool × (Nat → Nat) × Nat × (Nat → Nat) × Nat × (Nat → Nat)
def rfV (k : Nat) (V : St) : St := (V.1, V.2.1, V.2.2.1, V.2.2.2.1, V.2.2.2.2.1, V.2.2.2.2.2.1, V.2.2.2.2.2.2.1, fun j => if j = k then V.2.2.2.2.2.2.2 j + 1 else V.2.2.2.2.2.2.2 j)
def wC (code : Int) (V : St) (r : Int × St) : Int × St := if code = 0 then r else (code, rfV (-code).toNat V)
theorem wC_ok {code : Int} {V : St} {r : Int × St} (h : code = 0) : wC code V r = r := if_pos h
theorem wC_no {code : Int} {V : St} {r : Int × St} (h : ¬ code = 0) : wC code V r = (code, rfV (-code).toNat V) := if_neg h
/-- the same where a refusal is told as base less it -/
def wB (base code : Int) (V : St) (r : Int × St) : Int × St := if code = 0 then r else (base - code, rfV (-code).toNat V)
theorem wB_ok {base code : Int} {V : St} {r : Int × St} (h : code = 0) : wB base code V r = r := if_pos h
theorem wB_no {base code : Int} {V : St} {r : Int × St} (h : ¬ code = 0) : wB base code V r = (base - code, rfV (-code).toNat V) := if_neg h
def cdC (x : Int) : Int := if 0 ≤ x ∧ x < 25 then 0 else -1
def cdP (A : Sl) (x : Int) : Int := if 0 ≤ x ∧ x < (A 5 0 : Int) then 0 else -1
def cdO (x m : Int) : Int := if 0 ≤ x ∧ x < m then 0 else -2
def f3 (a b c : Int) : Int := if a = 0 then (if b = 0 then c else b) else a
theorem cdC_cases (x : Int) : (0 ≤ x ∧ x < 25 ∧ cdC x = 0) ∨ (¬ (0 ≤ x ∧ x < 25) ∧ cdC x = -1) := by
  unfold cdC; by_cases h : 0 ≤ x ∧ x < 25
  · rw [if_pos h]; omega
  · rw [if_neg h]; omega
theorem cdP_cases (A : Sl) (x : Int) : (0 ≤ x ∧ x < (A 5 0 : Int) ∧ cdP A x = 0) ∨ (¬ (0 ≤ x ∧ x < (A 5 0 : Int)) ∧ cdP A x = -1) := by
  unfold cdP; by_cases h : 0 ≤ x ∧ x < (A 5 0 : Int)
  · rw [if_pos h]; omega
  · rw [if_neg h]; omega
theorem cdO_cases (x m : Int) : (0 ≤ x ∧ x < m ∧ cdO x m = 0) ∨ (¬ (0 ≤ x ∧ x < m) ∧ cdO x m = -2) := by
  unfold cdO; by_cases h : 0 ≤ x ∧ x < m
  · rw [if_pos h]; omega
  · rw [if_neg h]; omega
theorem f3_cases (a b c : Int) : (¬ a = 0 ∧ f3 a b c = a) ∨ (a = 0 ∧ ¬ b = 0 ∧ f3 a b c = b) ∨ (a = 0 ∧ b = 0 ∧ f3 a b c = c) := by
  unfold f3; by_cases h : a = 0
  · rw [if_pos h]
    by_cases h2 : b = 0
    · rw [if_pos h2]; omega
    · rw [if_neg h2]; omega
  · rw [if_neg h]; omega
/-- a refusal of what is full -/
def fulC (x : Int) (full : Bool) : Int := if x = 0 then (if full = true then -6 else 0) else x
theorem fulC_x {x : Int} {f : Bool} (h : ¬ x = 0) : fulC x f = x := if_neg h
theorem fulC_f {x : Int} {f : Bool} (h : x = 0) (hf : f = true) : fulC x f = -6 := by unfold fulC; rw [if_pos h, if_pos hf]
theorem fulC_o {x : Int} {f : Bool} (h : x = 0) (hf : f = false) : fulC x f = 0 := by unfold fulC; rw [if_pos h, if_neg (by rw [hf]; decide)]
def putA (V : St) (A : Sl) : St := (A, V.2)
def putT (V : St) (T : Nat → Nat) (n : Nat) : St := (V.1, V.2.1, V.2.2.1, T, n, V.2.2.2.2.2)
def putW (V : St) (W : Nat → Nat) (rs : Nat) : St := (V.1, V.2.1, V.2.2.1, V.2.2.2.1, V.2.2.2.2.1, W, rs, V.2.2.2.2.2.2.2)
def upN (T : Nat → Nat) (n v : Nat) : Nat → Nat := fun k => if k = n then v else T k
def psn (A : Sl) (p : Nat) (w : Int) : Nat := if w = 0 then A 1 p else if w = 1 then A 2 p else if w = 2 then A 3 p else if w = 3 then A 4 p else if w = 4 then many 0 A p else if w = 5 then bbl 0 A p else nextB 0 A p (here A)
def fstS (A : Sl) (w : Int) : Int := if w = 0 then firstB (fun k => allB (goN 0 k A)) 61 else if w = 1 then firstB (fun k => decide (bcnt 0 (goN 0 k A) = 0)) 61 else if w = 2 then firstB (fun k => !(orB (goN 0 k A 5 0) (chP 0 (goN 0 k A)))) 61 else firstB (fun k => decide (¬ here (goN 0 k A) = here A)) 61
/-- a fraction in least terms, 0 as 0 by 1 -/
def prt (up down : Nat) (w : Int) : Int := if up = 0 then w else if w = 0 then ((up / Nat.gcd up down : Nat) : Int) else ((down / Nat.gcd up down : Nat) : Int)
def wnC (x y w : Int) : Int := if x < 0 ∨ y < 2 then -4 else if 7 < x ∨ 20 < y then -6 else cdO w 2
def cnS (V : St) (x : Int) : Int := if 11 ≤ x ∧ x ≤ 16 then (V.2.2.2.2.2.2.2 (x - 10).toNat : Int) else if x = 0 then (V.1 5 0 : Int) else if x = 1 then (V.1 5 1 : Int) else if x = 2 then (bset 0 V.1 : Int) else if x = 3 then (sumB (V.1 5 0) (V.1 4) : Int) else if x = 4 then (sumB 25 (V.1 0) : Int) else if x = 5 then (here V.1 : Int) else if x = 6 then (V.2.2.2.2.2.2.1 : Int) else if x = 7 then (V.2.2.2.2.1 : Int) else -9
def sp0 (x : Int) (V : St) : Int × St := wC (fulC (bnd x 0 255) (decide (96 ≤ V.2.2.2.2.1))) V (((V.2.2.2.2.1 + 1 : Nat) : Int), putT V (upN V.2.2.2.1 V.2.2.2.2.1 x.toNat) (V.2.2.2.2.1 + 1))
def sp1 (V : St) : Int × St := ((slopeS V.2.2.2.1 V.2.2.2.2.1 V.1).1, putT (putA V (orA V.1 (slopeS V.2.2.2.1 V.2.2.2.2.1 V.1).2)) V.2.2.2.1 0)
def sp2 (x : Int) (V : St) : Int × St := wC (cdC x) V ((V.1 0 x.toNat : Int), V)
def sp3 (x y : Int) (V : St) : Int × St := wC (f3 (cdP V.1 x) (cdO y 7) 0) V ((psn V.1 x.toNat y : Int), V)
def sp4 (V : St) : Int × St := ((here V.1 : Int), V)
def sp5 (x y : Int) (V : St) : Int × St := wC (f3 (cdC x) (bnd y 0 99) 0) V ((V.1 0 x.toNat : Int), putA V (setR V.1 0 x.toNat y.toNat))
def sp6 (x y : Int) (V : St) : Int × St := wC (f3 (cdP V.1 x) (bnd y 0 9) 0) V ((V.1 4 x.toNat : Int), putA V (setR V.1 4 x.toNat y.toNat))
def sp7 (x y : Int) (V : St) : Int × St := wC (f3 (cdP V.1 x) (cdC y) 0) V ((V.1 3 x.toNat : Int), putA V (setR V.1 3 x.toNat y.toNat))
def sp8 (x y z : Int) (V : St) : Int × St := wC (f3 (cdP V.1 x) (cdO y 6) (bnd z 0 9)) V (((10 * V.1 1 x.toNat + V.1 2 x.toNat : Nat) : Int), putA V (setR (setR V.1 1 x.toNat y.toNat) 2 x.toNat z.toNat))
def sp9 (x : Int) (V : St) : Int × St := wC (fulC (bnd x 1 60) (decide (999 < (V.1 5 1 : Int) + x))) V ((bcnt 0 (goN 0 x.toNat V.1) : Int), putA V (goN 0 x.toNat V.1))
def sp10 (x y z : Int) (V : St) : Int × St := wC (f3 (cdP V.1 x) (bnd y 0 60) (cdO z 2)) V (if z = 0 then (goN 0 y.toNat V.1 4 x.toNat : Int) else (goN 0 y.toNat V.1 3 x.toNat : Int), V)
def sp11 (x y : Int) (V : St) : Int × St := wC (f3 (bnd x 0 60) (cdO y 2) 0) V (if y = 0 then (here (goN 0 x.toNat V.1) : Int) else (bcnt 0 (goN 0 x.toNat V.1) : Int), V)
def sp12 (x y : Int) (V : St) : Int × St := wC (f3 (cdC x) (bnd y 0 60) 0) V ((goN 0 y.toNat V.1 0 x.toNat : Int), V)
def sp13 (x : Int) (V : St) : Int × St := wC (cdO x 4) V (fstS V.1 x, V)
def sp14 (x : Int) (V : St) : Int × St := wC (bnd x 0 20) V ((mkr (mkP x.toNat V.1) (2 ^ (V.1 5 0))).1, V)
def sp15 (x : Int) (V : St) : Int × St := wC (bnd x 0 20) V ((mkr (lvP x.toNat V.1) (2 ^ (V.1 5 0))).1, V)
def sp16 (x : Int) (V : St) : Int × St := wC (bnd x 0 60) V ((mxr (askF x.toNat V.1) (-9) (bcnt 0 (goN 0 x.toNat V.1)) (V.1 5 0)).1, V)
def sp17 (x y z : Int) (V : St) : Int × St := wC (f3 (cdP V.1 x) (bnd y 0 20) (cdO z 2)) V (if z = 0 then (mxr (sitF x.toNat y.toNat V.1) 0 (-1) 25).1 else sitF x.toNat y.toNat V.1 (mxr (sitF x.toNat y.toNat V.1) 0 (-1) 25).1.toNat, V)
def sp18 (x : Int) (V : St) : Int × St := wC (bnd x 0 60) V ((mnr (dbtF x.toNat V.1) 9 (V.1 5 0)).1, V)
def sp19 (x : Int) (V : St) : Int × St := wB 1000000000 (bnd x 0 60) V (strF x.toNat V.1, V)
def sp20 (V : St) : Int × St := ((mnr (nrF V.1 (here V.1)) 9 (V.1 5 0)).1, V)
def sp21 (x : Int) (V : St) : Int × St := wC (bnd x 0 60) V ((sumB x.toNat (fun k => figs (goN 0 k V.1)) : Int), V)
def sp22 (x : Int) (V : St) : Int × St := wC (cdP V.1 x) V ((chn V.1 x.toNat : Int), V)
def sp23 (x : Int) (V : St) : Int × St := wC (cdO x 2) V (if x = 0 then ((grpN V.1 (V.1 5 0)).1 : Int) else (mxB (V.1 5 0) (fun _ => true) (fun i => pop (chn V.1 i)) : Int), V)
def sp24 (x : Int) (V : St) : Int × St := wC (cdO x 2) V (if x = 0 then (mdN (stpF V.1) 24 : Int) else (stpF V.1 (mdN (stpF V.1) 24) : Int), V)
def sp25 (x y z : Int) (V : St) : Int × St := wB 4000000000000000000 (wnC x y z) V (prt (windU x.toNat y.toNat V.1 (2 ^ x.toNat)) (y.toNat ^ x.toNat) z, V)
def sp26 (x : Int) (V : St) : Int × St := wB 4000000000000000000 (cdO x 2) V (prt (sumB (V.1 5 0) (V.1 4)) (V.1 5 0) x, V)
def sp27 (x y z : Int) (V : St) : Int × St := wC (f3 (f3 (cdP V.1 x) (cdP V.1 y) (if x = y then -1 else 0)) (bnd z 0 60) 0) V (pairS V.1 x.toNat y.toNat z.toNat, V)
def sp28 (x y : Int) (V : St) : Int × St := wC (f3 (cdP V.1 x) (cdO y 2) 0) V (if y = 0 then (bitsB 6 (kdP V.2.2.2.2.2.1 V.2.2.2.2.2.2.1 1 x.toNat V.1) : Int) else (bitsB 10 (kdP V.2.2.2.2.2.1 V.2.2.2.2.2.2.1 2 x.toNat V.1) : Int), V)
def sp29 (V : St) : Int × St := ((bitsB (V.1 5 0) (whP V.2.2.2.2.2.1 V.2.2.2.2.2.2.1 V.1) : Int), V)
def sp30 (x : Int) (V : St) : Int × St := wC (fulC (bnd x 0 99) (decide (16 ≤ V.2.2.2.2.2.2.1))) V (((V.2.2.2.2.2.2.1 + 1 : Nat) : Int), putW V (upN V.2.2.2.2.2.1 V.2.2.2.2.2.2.1 x.toNat) (V.2.2.2.2.2.2.1 + 1))
def sp31 (V : St) : Int × St := (firstB (jdP V.2.2.2.2.2.1 V.1) V.2.2.2.2.2.2.1, putW V V.2.2.2.2.2.1 0)
def sp32 (V : St) : Int × St := ((V.2.2.2.2.2.2.1 : Int), putW V V.2.2.2.2.2.1 0)
def sp33 (x y z : Int) (V : St) : Int × St := wC (f3 (bnd x 1 20) (cdO z 2) 0) V ((lotT V.1 y z x.toNat : Int), V)
def sp34 (V : St) : Int × St := ((V.1 5 1 : Int), (V.1, V.1, true, V.2.2.2))
def sp35 (V : St) : Int × St := if V.2.2.1 = true then ((V.2.1 5 1 : Int), putA V V.2.1) else (-3, rfV 3 V)
def sp36 (x : Int) (V : St) : Int × St := (cnS V x, V)
/-- the class holds the state V -/
def cI (X : Mem) (V : St) : Prop := Rp (vC X 1) V.1 ∧ V.1 5 1 ≤ 999 ∧ (V.2.2.1 = true → Rp (vC X 2) V.2.1 ∧ V.2.1 5 1 ≤ 999) ∧ X 0 8 = zI (b2i V.2.2.1) ∧ Txt X V.2.2.2.1 V.2.2.2.2.1 ∧ RWp X V.2.2.2.2.2.1 V.2.2.2.2.2.2.1 ∧ ∀ k, k < 7 → X 8 k = zI (V.2.2.2.2.2.2.2 k : Nat)
/-- nothing of the reference changes -/
def frC (X X' : Mem) : Prop := ∀ q, 29 ≤ q → X' q = X q
theorem frC_rf (X : Mem) : frC X X := fun _ _ => rfl
theorem frC_3 {X X' : Mem} (h : frS 3 X X') : frC X X' := fun q hq => h q (by omega) (by omega)
theorem frC_set {X Y : Mem} {q k : Nat} {v : Int32} (h : frC X Y) (hq : q < 29) : frC X (mset Y q k v) := fun r hr => by rw [mset_row (by omega)]; exact h r hr
theorem cI_fr3 {X X' : Mem} {V : St} (h : cI X V) (hF : frS 3 X X') : cI X' V :=
  ⟨h.1.fr31 hF, h.2.1, fun z => ⟨(h.2.2.1 z).1.fr32 hF, (h.2.2.1 z).2⟩, by rw [hF 0 (by omega) (by omega)]; exact h.2.2.2.1, h.2.2.2.2.1.fr3 hF, h.2.2.2.2.2.1.fr3 hF, fun k hk => by rw [hF 8 (by omega) (by omega)]; exact h.2.2.2.2.2.2 k hk⟩
theorem cI_rf {X : Mem} {V : St} {k : Nat} (h : cI X V) : cI (mset X 8 k (X 8 k + 1)) (rfV k V) := by
  refine ⟨h.1.keep (mset_row (by omega)) (fun q hq => mset_row (by omega)), h.2.1, fun z => ⟨(h.2.2.1 z).1.keep (mset_row (by omega)) (fun q hq => mset_row (by omega)), (h.2.2.1 z).2⟩, by rw [mset_row (by omega)]; exact h.2.2.2.1, ⟨by rw [mset_row (by omega)]; exact h.2.2.2.2.1.1, h.2.2.2.2.1.2.1, fun j hj => by rw [mset_row (by omega)]; exact h.2.2.2.2.1.2.2 j hj⟩, ⟨by rw [mset_row (by omega)]; exact h.2.2.2.2.2.1.1, h.2.2.2.2.2.1.2.1, fun j hj => by rw [mset_row (by omega)]; exact h.2.2.2.2.2.1.2.2 j hj⟩, fun j hj => ?_⟩
  show _ = zI (((if j = k then V.2.2.2.2.2.2.2 j + 1 else V.2.2.2.2.2.2.2 j : Nat)) : Int)
  by_cases hjk : j = k
  · subst hjk
    rw [mset_eq, if_pos rfl, h.2.2.2.2.2.2 j hj]
    have : zI ((V.2.2.2.2.2.2.2 j : Nat) : Int) + 1 = zI ((V.2.2.2.2.2.2.2 j : Int) + 1) := zI_add _ 1
    rw [this]; rfl
  · rw [mset_ne _ _ _ _ (fun z => hjk z.2), if_neg hjk]; exact h.2.2.2.2.2.2 j hj
theorem cI_no {X : Mem} {V : St} {code : Int} {r : Int × St} (h : ¬ code = 0) (hV : cI X V) : cI (mset X 8 (-code).toNat (X 8 (-code).toNat + 1)) (wC code V r).2 := by
  rw [wC_no h]; exact cI_rf hV
theorem cI_ok {X : Mem} {V : St} {code : Int} {r : Int × St} (h : code = 0) (hV : cI X r.2) : cI X (wC code V r).2 := by
  rw [wC_ok h]; exact hV
theorem cI_noB {X : Mem} {V : St} {base code : Int} {r : Int × St} (h : ¬ code = 0) (hV : cI X V) : cI (mset X 8 (-code).toNat (X 8 (-code).toNat + 1)) (wB base code V r).2 := by
  rw [wB_no h]; exact cI_rf hV
theorem cI_okB {X : Mem} {V : St} {base code : Int} {r : Int × St} (h : code = 0) (hV : cI X r.2) : cI X (wB base code V r).2 := by
  rw [wB_ok h]; exact hV
theorem w1_ok {code : Int} {V : St} {r : Int × St} (h : code = 0) : r.1 = (wC code V r).1 := by rw [wC_ok h]
theorem w1_no {code : Int} {V : St} {r : Int × St} (h : ¬ code = 0) : code = (wC code V r).1 := by rw [wC_no h]
theorem w1_okB {base code : Int} {V : St} {r : Int × St} (h : code = 0) : r.1 = (wB base code V r).1 := by rw [wB_ok h]
theorem w1_noB {base code : Int} {V : St} {r : Int × St} (h : ¬ code = 0) : base - code = (wB base code V r).1 := by rw [wB_no h]
/-- slope 1 changes, the rest stays -/
theorem cI_putA {X X' : Mem} {V : St} {A : Sl} (h : cI X V) (hA : Rp (vC X' 1) A) (hy : A 5 1 ≤ 999) (hF : frS 1 X X') : cI X' (putA V A) :=
  ⟨hA, hy, fun z => ⟨(h.2.2.1 z).1.keep (hF 2 (by omega) (by omega)) (fun q hq => hF _ (by omega) (by omega)), (h.2.2.1 z).2⟩, by rw [hF 0 (by omega) (by omega)]; exact h.2.2.2.1, ⟨by rw [hF 6 (by omega) (by omega)]; exact h.2.2.2.2.1.1, h.2.2.2.2.1.2.1, fun k hk => by rw [hF 9 (by omega) (by omega)]; exact h.2.2.2.2.1.2.2 k hk⟩, ⟨by rw [hF 7 (by omega) (by omega)]; exact h.2.2.2.2.2.1.1, h.2.2.2.2.2.1.2.1, fun k hk => by rw [hF 10 (by omega) (by omega)]; exact h.2.2.2.2.2.1.2.2 k hk⟩, fun k hk => by rw [hF 8 (by omega) (by omega)]; exact h.2.2.2.2.2.2 k hk⟩
theorem frC_1 {X X' : Mem} (h : frS 1 X X') : frC X X' := fun q hq => h q (by omega) (by omega)
theorem frC_tr {X Y Z : Mem} (h1 : frC X Y) (h2 : frC Y Z) : frC X Z := fun q hq => (h2 q hq).trans (h1 q hq)
