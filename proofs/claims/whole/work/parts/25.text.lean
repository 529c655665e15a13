/-! the text of a slope -/
def Txt (X : Mem) (T : Nat → Nat) (n : Nat) : Prop := X 6 3 = zI (n : Nat) ∧ n ≤ 96 ∧ ∀ k, k < n → X 9 k = zI (T k : Nat) ∧ T k ≤ 255
theorem Txt.fr3 {X X' : Mem} {T : Nat → Nat} {n : Nat} (h : Txt X T n) (hF : frS 3 X X') : Txt X' T n :=
  ⟨by rw [hF 6 (by omega) (by omega)]; exact h.1, h.2.1, fun k hk => by rw [hF 9 (by omega) (by omega)]; exact h.2.2 k hk⟩
def lenT (c : Nat) : Nat := if c = 112 then 7 else if c = 104 then 6 else if c = 97 then 5 else if c = 98 then 4 else if c = 121 then 4 else 0
theorem lenT_cases (c : Nat) : (c = 112 ∧ lenT c = 7) ∨ (c = 104 ∧ lenT c = 6) ∨ (c = 97 ∧ lenT c = 5) ∨ (c = 98 ∧ lenT c = 4) ∨ (c = 121 ∧ lenT c = 4) ∨ (¬ c = 112 ∧ ¬ c = 104 ∧ ¬ c = 97 ∧ ¬ c = 98 ∧ ¬ c = 121 ∧ lenT c = 0) := by
  unfold lenT
  by_cases h1 : c = 112
  · rw [if_pos h1]; omega
  · rw [if_neg h1]
    by_cases h2 : c = 104
    · rw [if_pos h2]; omega
    · rw [if_neg h2]
      by_cases h3 : c = 97
      · rw [if_pos h3]; omega
      · rw [if_neg h3]
        by_cases h4 : c = 98
        · rw [if_pos h4]; omega
        · rw [if_neg h4]
          by_cases h5 : c = 121
          · rw [if_pos h5]; omega
          · rw [if_neg h5]; omega
def kindT (c : Nat) : Int := if c = 103 then 0 else if c = 102 then 1 else if c = 99 then 2 else if c = 115 then 3 else if c = 111 then 4 else if c = 100 then 5 else -1
theorem kindT_cases (c : Nat) : (c = 103 ∧ kindT c = 0) ∨ (c = 102 ∧ kindT c = 1) ∨ (c = 99 ∧ kindT c = 2) ∨ (c = 115 ∧ kindT c = 3) ∨ (c = 111 ∧ kindT c = 4) ∨ (c = 100 ∧ kindT c = 5) ∨ (¬ c = 103 ∧ ¬ c = 102 ∧ ¬ c = 99 ∧ ¬ c = 115 ∧ ¬ c = 111 ∧ ¬ c = 100 ∧ kindT c = -1) := by
  unfold kindT
  by_cases h1 : c = 103
  · rw [if_pos h1]; omega
  · rw [if_neg h1]
    by_cases h2 : c = 102
    · rw [if_pos h2]; omega
    · rw [if_neg h2]
      by_cases h3 : c = 99
      · rw [if_pos h3]; omega
      · rw [if_neg h3]
        by_cases h4 : c = 115
        · rw [if_pos h4]; omega
        · rw [if_neg h4]
          by_cases h5 : c = 111
          · rw [if_pos h5]; omega
          · rw [if_neg h5]
            by_cases h6 : c = 100
            · rw [if_pos h6]; omega
            · rw [if_neg h6]; omega
/-- may letter c stand at place i of a STATEMENT that h begins -/
def fitT (h i c : Nat) : Bool := if i + 1 = lenT h then decide (c = 59) else if h = 112 ∧ i = 1 then decide (0 ≤ kindT c) else decide (48 ≤ c ∧ c ≤ 57)
def okT (T : Nat → Nat) (n at_ i : Nat) : Bool := decide (at_ + i < n) && fitT (T at_) i (T (at_ + i))
/-- of a STATEMENT of l letters at a place: the first letter (less 1) that does not fit, or -9 -/
def badT (T : Nat → Nat) (n at_ l : Nat) : Int := firstB (fun j => !(okT T n at_ (j + 1))) (l - 1)
def stL (T : Nat → Nat) (n at_ : Nat) : Nat := if at_ < n then lenT (T at_) else 0
/-- the place of the first wrong letter from here on, or -1 -/
def wfR (T : Nat → Nat) (n : Nat) : Nat → Nat → Int
  | 0, _ => -1
  | f + 1, a => if stL T n a = 0 then (a : Int) else if badT T n a (stL T n a) = -9 then (if a + stL T n a < n then wfR T n f (a + stL T n a) else -1) else (a : Int) + badT T n a (stL T n a) + 1
def dg (T : Nat → Nat) (a : Nat) : Nat := T a - 48
def dd (T : Nat → Nat) (a : Nat) : Nat := 10 * dg T a + dg T (a + 1)
/-- what the STATEMENT at a place makes of a slope -/
def doS (T : Nat → Nat) (a : Nat) (A : Sl) : Option Sl :=
  if T a = 112 then (if A 5 0 < 8 ∧ dd T (a + 3) < 25 then some (addP A (kindT (T (a + 1))).toNat (dg T (a + 2)) (dd T (a + 3)) (dg T (a + 5))) else none)
  else if T a = 104 then (if dd T (a + 1) < 25 then some (setR A 0 (dd T (a + 1)) (dd T (a + 3))) else none)
  else if T a = 98 then (if dg T (a + 1) < A 5 0 then some (setR A 4 (dg T (a + 1)) (dg T (a + 2))) else none)
  else if T a = 97 then (if dg T (a + 1) < A 5 0 ∧ dd T (a + 2) < 25 then some (setR A 3 (dg T (a + 1)) (dd T (a + 2))) else none)
  else (if 1 ≤ dd T (a + 1) ∧ dd T (a + 1) ≤ 60 ∧ A 5 1 + dd T (a + 1) ≤ 999 then some (goN 0 (dd T (a + 1)) A) else none)
/-- the STATEMENTS from a place on: how many there are in all or the FAULT; and the slope -/
def runS (T : Nat → Nat) (n : Nat) : Nat → Nat → Nat → Sl → Int × Option Sl
  | 0, _, c, A => ((c : Int), some A)
  | f + 1, a, c, A => if a < n then (match doS T a A with
      | none => (-2000 - (a : Int), none)
      | some B => runS T n f (a + lenT (T a)) (c + 1) B) else ((c : Int), some A)
def slopeS (T : Nat → Nat) (n : Nat) (A : Sl) : Int × Option Sl := if 0 ≤ wfR T n 100 0 then (-1000 - wfR T n 100 0, none) else runS T n 100 0 0 A
def orA (A : Sl) : Option Sl → Sl
  | none => A
  | some B => B
/-- a STATEMENT of right form stands at a place -/
def goodT (T : Nat → Nat) (n a : Nat) : Prop := a < n ∧ 0 < lenT (T a) ∧ ∀ i, 1 ≤ i → i < lenT (T a) → a + i < n ∧ fitT (T a) i (T (a + i)) = true
theorem firstB_vals (P : Nat → Bool) : ∀ m, firstB P m = -9 ∨ 0 ≤ firstB P m := by
  intro m
  induction m with
  | zero => exact Or.inl rfl
  | succ m ih2 => unfold firstB; (repeat' split) <;> omega
theorem firstB_none_iff {P : Nat → Bool} {m : Nat} (h : firstB P m = -9) : ∀ k, k < m → P k = false := by
  intro k hk
  cases hp : P k with
  | false => rfl
  | true =>
    exfalso
    have : ∀ m, k < m → 0 ≤ firstB P m := by
      intro m
      induction m with
      | zero => intro h; omega
      | succ m ih =>
        intro hm
        unfold firstB
        by_cases he : firstB P m = -9
        · rw [if_pos he]
          by_cases hk2 : k = m
          · subst hk2; rw [if_pos hp]; omega
          · have := ih (by omega); omega
        · rw [if_neg he]
          have := firstB_r P m
          by_cases hk2 : k = m
          · subst hk2
            rcases (show firstB P k < 0 ∨ 0 ≤ firstB P k by omega) with h1 | h1
            · exfalso
              have key : ∀ m, firstB P m = -9 ∨ 0 ≤ firstB P m := by
                intro m
                induction m with
                | zero => exact Or.inl rfl
                | succ m ih2 => unfold firstB; (repeat' split) <;> omega
              have := key k; omega
            · exact h1
          · exact ih (by omega)
    have := this m hk
    omega
theorem wfR_good {T : Nat → Nat} {n f a : Nat} (h : wfR T n (f + 1) a = -1) : goodT T n a ∧ (a + lenT (T a) < n → wfR T n f (a + lenT (T a)) = -1) := by
  unfold wfR at h
  by_cases h0 : stL T n a = 0
  · rw [if_pos h0] at h; omega
  · rw [if_neg h0] at h
    have ha : a < n := by
      unfold stL at h0
      by_cases h1 : a < n
      · exact h1
      · rw [if_neg h1] at h0; exact absurd rfl h0
    have hl : stL T n a = lenT (T a) := by unfold stL; rw [if_pos ha]
    rw [hl] at h h0
    by_cases hb : badT T n a (lenT (T a)) = -9
    · rw [if_pos hb] at h
      have hn := firstB_none_iff hb
      refine ⟨⟨ha, by omega, fun i h1 h2 => ?_⟩, fun h3 => by rw [if_pos h3] at h; exact h⟩
      have := hn (i - 1) (by omega)
      rw [show i - 1 + 1 = i by omega] at this
      simp [okT] at this
      exact this
    · rw [if_neg hb] at h
      have h1 := firstB_vals (fun j => !(okT T n a (j + 1))) (lenT (T a) - 1)
      unfold badT at h hb
      omega
theorem fit_semi {h i c : Nat} (hi : i + 1 = lenT h) (hf : fitT h i c = true) : c = 59 := by
  unfold fitT at hf; rw [if_pos hi] at hf; exact of_decide_eq_true hf
theorem fit_digit {h i c : Nat} (hi : ¬ i + 1 = lenT h) (hk : ¬ (h = 112 ∧ i = 1)) (hf : fitT h i c = true) : 48 ≤ c ∧ c ≤ 57 := by
  unfold fitT at hf; rw [if_neg hi, if_neg hk] at hf; exact of_decide_eq_true hf
theorem fit_kind {h i c : Nat} (hk : h = 112 ∧ i = 1) (hf : fitT h i c = true) : 0 ≤ kindT c := by
  have h7 : lenT h = 7 := by rw [hk.1]; rfl
  unfold fitT at hf; rw [if_neg (by omega), if_pos hk] at hf; exact of_decide_eq_true hf
theorem doS_ok {T : Nat → Nat} {n a : Nat} {A B : Sl} (hg : goodT T n a) (hA : OKs A) (h : doS T a A = some B) : OKs B := by
  obtain ⟨h1, h2, h3⟩ := hg
  have hd : ∀ i, 1 ≤ i → i + 1 < lenT (T a) → ¬ (T a = 112 ∧ i = 1) → dg T (a + i) ≤ 9 := fun i a1 a2 a3 => by
    have := fit_digit (by omega) a3 (h3 i a1 (by omega)).2
    unfold dg; omega
  unfold doS at h
  have hc := lenT_cases (T a)
  split at h
  · split at h
    · cases h
      have hk := fit_kind ⟨by assumption, rfl⟩ (h3 1 (by omega) (by omega)).2
      have hk2 := kindT_cases (T (a + 1))
      exact addP_ok hA (by omega) (by omega) (hd 2 (by omega) (by omega) (by omega)) (by omega) (hd 5 (by omega) (by omega) (by omega))
    · cases h
  · split at h
    · split at h
      · cases h
        have e1 := hd 3 (by omega) (by omega) (by omega)
        have e2 : dg T (a + 3 + 1) ≤ 9 := hd 4 (by omega) (by omega) (by omega)
        refine ⟨hA.1, fun k hk => ?_, hA.2.2⟩
        show (if 0 = 0 ∧ k = dd T (a + 1) then dd T (a + 3) else A 0 k) ≤ 99
        have := hA.2.1 k hk
        split
        · unfold dd; omega
        · exact this
      · cases h
    · split at h
      · split at h
        · cases h
          exact setR_ok hA (by omega) ⟨fun z => absurd z (by decide), fun z => absurd z (by decide), fun z => absurd z (by decide), fun _ => hd 2 (by omega) (by omega) (by omega)⟩
        · cases h
      · split at h
        · split at h
          · cases h
            exact setR_ok hA (by omega) ⟨fun z => absurd z (by decide), fun z => absurd z (by decide), fun _ => by omega, fun z => absurd z (by decide)⟩
          · cases h
        · split at h
          · cases h; exact goN_ok hA _
          · cases h
theorem Rp.setD {X : Mem} {s i v : Nat} {A : Sl} (h : Rp (vC X s) A) (hs : Sp s) (hv : v ≤ 99) : Rp (vC (mset X (5 + 6 * s + 0) i (zI (v : Nat))) s) (setR A 0 i v) := by
  have hs3 : 1 ≤ s ∧ s ≤ 3 := by rcases hs with rfl | rfl | rfl <;> omega
  refine ⟨fun k hk => ?_, fun q a b k hk => ?_, ?_, ?_, h.n8, fun k hk => ?_, h.ok.2.2⟩
  · rw [vC_row (by omega)]
    unfold setR
    by_cases hk2 : k = i
    · rw [if_pos ⟨rfl, hk2⟩, hk2, mset_eq]
    · rw [if_neg (fun z => hk2 z.2), mset_ne _ _ _ _ (fun z => hk2 z.2)]; exact h.c0 k hk
  · rw [vC_row (by omega), mset_row (by omega), setR_o (by omega)]
    have := h.2.1 q a b k hk
    rwa [vC_row (by omega)] at this
  · rw [vC_obj, mset_row (by omega), setR_o (by omega)]; exact h.cn
  · rw [vC_obj, mset_row (by omega), setR_o (by omega)]; exact h.cy
  · unfold setR
    have := h.d99 k hk
    split <;> omega
theorem gd {T : Nat → Nat} {n a : Nat} (hg : goodT T n a) (i : Nat) (h1 : 1 ≤ i) (h2 : i + 1 < lenT (T a)) (hk : ¬ (T a = 112 ∧ i = 1)) : a + i < n ∧ 48 ≤ T (a + i) ∧ T (a + i) ≤ 57 :=
  ⟨(hg.2.2 i h1 (by omega)).1, fit_digit (by omega) hk (hg.2.2 i h1 (by omega)).2⟩
theorem isSome_ite {α : Type} {c : Prop} [Decidable c] {x : α} : (if c then some x else none).isSome = decide c := by by_cases h : c <;> simp [h]
theorem opt_imp {α : Type} {c : Prop} [Decidable c] {x : α} {P : α → Prop} (h : c → P x) : ∀ y, (if c then some x else none) = some y → P y := fun y hy => by
  by_cases hc : c
  · rw [if_pos hc] at hy; cases hy; exact h hc
  · rw [if_neg hc] at hy; cases hy
theorem isSome_ex {α : Type} {o : Option α} (h : o.isSome = true) : ∃ x, o = some x := Option.isSome_iff_exists.mp h
theorem isSome_no {α : Type} {o : Option α} (h : o.isSome = false) : o = none := by cases o with
  | none => rfl
  | some x => cases h
def doP (T : Nat → Nat) (a : Nat) (A B : Sl) : Prop := doS T a A = some B
theorem doS_p {T : Nat → Nat} {a : Nat} {A : Sl} (h : T a = 112) : doS T a A = if A 5 0 < 8 ∧ dd T (a + 3) < 25 then some (addP A (kindT (T (a + 1))).toNat (dg T (a + 2)) (dd T (a + 3)) (dg T (a + 5))) else none := by unfold doS; rw [if_pos h]
theorem doS_h {T : Nat → Nat} {a : Nat} {A : Sl} (h : T a = 104) : doS T a A = if dd T (a + 1) < 25 then some (setR A 0 (dd T (a + 1)) (dd T (a + 3))) else none := by unfold doS; rw [if_neg (by omega), if_pos h]
theorem doS_b {T : Nat → Nat} {a : Nat} {A : Sl} (h : T a = 98) : doS T a A = if dg T (a + 1) < A 5 0 then some (setR A 4 (dg T (a + 1)) (dg T (a + 2))) else none := by unfold doS; rw [if_neg (by omega), if_neg (by omega), if_pos h]
theorem doS_a {T : Nat → Nat} {a : Nat} {A : Sl} (h : T a = 97) : doS T a A = if dg T (a + 1) < A 5 0 ∧ dd T (a + 2) < 25 then some (setR A 3 (dg T (a + 1)) (dd T (a + 2))) else none := by unfold doS; rw [if_neg (by omega), if_neg (by omega), if_neg (by omega), if_pos h]
theorem doS_y {T : Nat → Nat} {a : Nat} {A : Sl} (h : T a = 121) : doS T a A = if 1 ≤ dd T (a + 1) ∧ dd T (a + 1) ≤ 60 ∧ A 5 1 + dd T (a + 1) ≤ 999 then some (goN 0 (dd T (a + 1)) A) else none := by unfold doS; rw [if_neg (by omega), if_neg (by omega), if_neg (by omega), if_neg (by omega)]
theorem addP_y (A : Sl) (kd fg ce bl : Nat) : addP A kd fg ce bl 5 1 = A 5 1 := by unfold addP; rw [if_neg (by omega), if_neg (by omega), if_neg (by omega), if_neg (by omega), if_neg (by omega)]
theorem doS_year {T : Nat → Nat} {a : Nat} {A B : Sl} (hA : A 5 1 ≤ 999) (h : doS T a A = some B) : B 5 1 ≤ 999 := by
  unfold doS at h
  repeat' split at h
  all_goals first
    | cases h; done
    | (cases h; rw [addP_y]; exact hA)
    | (cases h; rw [setR_o (by omega)]; exact hA)
    | (cases h; rw [goN_y]; omega)
theorem runS_ge {T : Nat → Nat} {n a c : Nat} {B : Sl} (h : ¬ a < n) : ∀ f, runS T n f a c B = ((c : Int), some B)
  | 0 => rfl
  | f + 1 => by unfold runS; rw [if_neg h]
theorem runS_none {T : Nat → Nat} {n a c f : Nat} {B : Sl} (h : a < n) (hd : doS T a B = none) : runS T n (f + 1) a c B = (-2000 - (a : Int), none) := by unfold runS; rw [if_pos h, hd]
theorem runS_some {T : Nat → Nat} {n a c f : Nat} {B C : Sl} (h : a < n) (hd : doS T a B = some C) : runS T n (f + 1) a c B = runS T n f (a + lenT (T a)) (c + 1) C := by
  show (if a < n then _ else _) = _
  rw [if_pos h, hd]
def fr13 (X X' : Mem) : Prop := ∀ q, ¬ q = 1 → ¬ q = 3 → (q < 11 ∨ 16 < q) → (q < 23 ∨ 28 < q) → X' q = X q
theorem fr13_of {X Y Z : Mem} (h1 : frS 3 X Y) (h2 : frS 1 Y Z) : fr13 X Z := fun q a b c d => (h2 q a (by omega)).trans (h1 q b (by omega))
theorem fr13_3 {X Y : Mem} (h1 : frS 3 X Y) : fr13 X Y := fun q a b c d => h1 q b (by omega)
theorem runS_y {T : Nat → Nat} {n : Nat} : ∀ (f a c : Nat) (A : Sl), A 5 1 ≤ 999 → ∀ B, (runS T n f a c A).2 = some B → B 5 1 ≤ 999
  | 0, a, c, A, hA, B, h => by cases h; exact hA
  | f + 1, a, c, A, hA, B, h => by
    unfold runS at h
    by_cases ha : a < n
    · rw [if_pos ha] at h
      cases hd : doS T a A with
      | none => rw [hd] at h; cases h
      | some C => rw [hd] at h; exact runS_y f _ _ C (doS_year hA hd) B h
    · rw [if_neg ha] at h; cases h; exact hA
theorem slopeS_y {T : Nat → Nat} {n : Nat} {A : Sl} (hA : A 5 1 ≤ 999) : orA A (slopeS T n A).2 5 1 ≤ 999 := by
  unfold slopeS
  split
  · exact hA
  · cases hr : (runS T n 100 0 0 A).2 with
    | none => exact hA
    | some B => exact runS_y _ _ _ _ hA B hr
theorem fuel_pos {n a f : Nat} (h : n < a + f) (ha : a < n) : ∃ g, f = g + 1 := ⟨f - 1, by omega⟩
theorem badT_hit {T : Nat → Nat} {n a i : Nat} (h1 : 1 ≤ i) (hi : i < lenT (T a)) (hn : ∀ j, j < i - 1 → (!(okT T n a (j + 1))) = false) (e : okT T n a i = false) : badT T n a (lenT (T a)) = ((i - 1 : Nat) : Int) :=
  firstB_hit hn (by show (!(okT T n a (i - 1 + 1))) = true; rw [show i - 1 + 1 = i by omega, e]; rfl) (by omega)
theorem stL_in {T : Nat → Nat} {n a : Nat} (h : a < n) : stL T n a = lenT (T a) := if_pos h
theorem stL_out {T : Nat → Nat} {n a : Nat} (h : ¬ a < n) : stL T n a = 0 := if_neg h
theorem wfR_0 {T : Nat → Nat} {n f a : Nat} (h : stL T n a = 0) : wfR T n (f + 1) a = (a : Int) := by unfold wfR; rw [if_pos h]
theorem wfR_bad {T : Nat → Nat} {n f a i : Nat} (ha : a < n) (h1 : 1 ≤ i) (hi : i < lenT (T a)) (hn : ∀ j, j < i - 1 → (!(okT T n a (j + 1))) = false) (e : okT T n a i = false) : wfR T n (f + 1) a = (a : Int) + (i : Int) := by
  unfold wfR
  have := badT_hit h1 hi hn e
  rw [stL_in ha, if_neg (by omega), if_neg (by omega), this]; omega
theorem wfR_step {T : Nat → Nat} {n f a : Nat} (ha : a < n) (h0 : 0 < lenT (T a)) (hn : ∀ j, j < lenT (T a) - 1 → (!(okT T n a (j + 1))) = false) : wfR T n (f + 1) a = if a + lenT (T a) < n then wfR T n f (a + lenT (T a)) else -1 := by
  show (if stL T n a = 0 then (a : Int) else if badT T n a (stL T n a) = -9 then (if a + stL T n a < n then wfR T n f (a + stL T n a) else -1) else (a : Int) + badT T n a (stL T n a) + 1) = _
  rw [stL_in ha, if_neg (by omega)]
  have : badT T n a (lenT (T a)) = -9 := firstB_none hn
  rw [if_pos this]
theorem dg_le {T : Nat → Nat} {a : Nat} (h : T a ≤ 57) : dg T a ≤ 9 := by unfold dg; omega
theorem dd_le {T : Nat → Nat} {a : Nat} (h : T a ≤ 57) (h1 : T (a + 1) ≤ 57) : dd T a ≤ 99 := by
  have e1 := dg_le h
  have e2 := dg_le h1
  unfold dd; omega
theorem ok_t {T : Nat → Nat} {n a i : Nat} (h : a + i < n) (e : fitT (T a) i (T (a + i)) = true) : okT T n a i = true := by unfold okT; rw [e, decide_eq_true h]; rfl
theorem ok_f1 {T : Nat → Nat} {n a i : Nat} (h : ¬ a + i < n) : okT T n a i = false := by unfold okT; rw [decide_eq_false h]; rfl
theorem ok_f2 {T : Nat → Nat} {n a i : Nat} (e : fitT (T a) i (T (a + i)) = false) : okT T n a i = false := by unfold okT; rw [e, Bool.and_false]
theorem okstep {T : Nat → Nat} {n a i : Nat} (h1 : 1 ≤ i) (h : ∀ j, j < i - 1 → (!(okT T n a (j + 1))) = false) (e : okT T n a i = true) : ∀ j, j < i + 1 - 1 → (!(okT T n a (j + 1))) = false := fun j hj => by
  by_cases he : j = i - 1
  · rw [he, show i - 1 + 1 = i by omega, e]; rfl
  · exact h j (by omega)
theorem wfR_r (T : Nat → Nat) (n : Nat) : ∀ f a, -1 ≤ wfR T n f a ∧ wfR T n f a ≤ (a : Int) + 10 * (f : Int)
  | 0, a => by unfold wfR; omega
  | f + 1, a => by
    have ih := wfR_r T n f (a + stL T n a)
    have hb := firstB_vals (fun j => !(okT T n a (j + 1))) (stL T n a - 1)
    have hb2 := firstB_r (fun j => !(okT T n a (j + 1))) (stL T n a - 1)
    have hl : stL T n a ≤ 7 := by
      unfold stL
      have := lenT_cases (T a)
      split <;> omega
    unfold wfR badT
    repeat' split
    all_goals omega
