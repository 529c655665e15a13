/-! chains: the least closed set -/
def subB (S T : Nat) : Prop := ∀ i, Nat.testBit S i = true → Nat.testBit T i = true
theorem subB_rf (S : Nat) : subB S S := fun _ h => h
theorem subB_tr {S T U : Nat} (h1 : subB S T) (h2 : subB T U) : subB S U := fun i h => h2 i (h1 i h)
theorem subB_eq {S T : Nat} (h1 : subB S T) (h2 : subB T S) : S = T := by
  apply Nat.eq_of_testBit_eq
  intro i
  cases h : Nat.testBit S i with
  | true => exact (h1 i h).symm
  | false =>
    cases h3 : Nat.testBit T i with
    | false => rfl
    | true => rw [h2 i h3] at h; exact absurd h (by decide)
theorem subB_or (S U : Nat) : subB S (S ||| U) := fun i h => by rw [Nat.testBit_or, h]; rfl
theorem cntB_lt {P Q : Nat → Bool} (h : ∀ k, P k = true → Q k = true) {j : Nat} (h1 : P j = false) (h2 : Q j = true) : ∀ n, j < n → cntB n P < cntB n Q
  | 0, hj => absurd hj (Nat.not_lt_zero _)
  | n + 1, hj => by
    rw [cntB_s, cntB_s]
    by_cases he : j = n
    · subst he
      rw [if_neg (by rw [h1]; decide), if_pos h2]
      have := cntB_mono j (P := P) (Q := Q) (fun k _ hk => h k hk)
      omega
    · have ih := cntB_lt h h1 h2 n (by omega)
      by_cases hp : P n = true
      · rw [if_pos hp, if_pos (h n hp)]; omega
      · rw [if_neg hp]; omega
theorem subB_pop {S T : Nat} (h : subB S T) (hne : ¬ S = T) (hT : T < 256) : pop S < pop T := by
  have hex : ∃ j, Nat.testBit T j = true ∧ Nat.testBit S j = false := by
    apply Classical.byContradiction
    intro hno
    apply hne
    refine subB_eq h (fun i hi => ?_)
    cases hs : Nat.testBit S i with
    | true => rfl
    | false => exact absurd ⟨i, hi, hs⟩ hno
  obtain ⟨j, h1, h2⟩ := hex
  have hj : j < 8 := by
    apply Classical.byContradiction
    intro hj
    have := tb_lt (S := T) (n := 8) (k := j) hT (by omega)
    rw [this] at h1; exact absurd h1 (by decide)
  exact cntB_lt h h2 h1 31 (by omega)
def itF (F : Nat → Nat) (S : Nat) : Nat → Nat
  | 0 => S
  | r + 1 => F (itF F S r)
theorem it_fix {F : Nat → Nat} {S n : Nat} (hs : ∀ U, subB U (F U)) (hl : ∀ U, U < 2 ^ n → F U < 2 ^ n) (hn : n ≤ 8) (hS : S < 2 ^ n) (hp : 1 ≤ pop S) : ∀ r, itF F S r < 2 ^ n ∧ (F (itF F S r) = itF F S r ∨ r + 1 ≤ pop (itF F S r))
  | 0 => ⟨hS, Or.inr hp⟩
  | r + 1 => by
    obtain ⟨h1, h2⟩ := it_fix hs hl hn hS hp r
    have h8 : 2 ^ n ≤ 256 := pow8 hn
    refine ⟨hl _ h1, ?_⟩
    show F (F (itF F S r)) = F (itF F S r) ∨ _
    by_cases he : F (itF F S r) = itF F S r
    · left; rw [he]; exact he
    · rcases h2 with h2 | h2
      · exact absurd h2 he
      · right
        have := subB_pop (hs (itF F S r)) (fun z => he z.symm) (Nat.lt_of_lt_of_le (hl _ h1) h8)
        show r + 1 + 1 ≤ pop (F (itF F S r))
        omega
theorem it_end {F : Nat → Nat} {S n r : Nat} (hs : ∀ U, subB U (F U)) (hl : ∀ U, U < 2 ^ n → F U < 2 ^ n) (hn : n ≤ 8) (hS : S < 2 ^ n) (hp : 1 ≤ pop S) (hr : n ≤ r) : F (itF F S r) = itF F S r := by
  obtain ⟨h1, h2⟩ := it_fix hs hl hn hS hp r
  rcases h2 with h2 | h2
  · exact h2
  · have := pop_le_lt h1 (by omega)
    omega
theorem it_sub {F : Nat → Nat} {S C : Nat} (hc : ∀ U, subB U C → subB (F U) C) (h : subB S C) : ∀ r, subB (itF F S r) C
  | 0 => h
  | r + 1 => hc _ (it_sub hc h r)
theorem it_ge {F : Nat → Nat} {S : Nat} (hs : ∀ U, subB U (F U)) : ∀ r, subB S (itF F S r)
  | 0 => subB_rf S
  | r + 1 => subB_tr (it_ge hs r) (hs _)
/-- nobody of the slope that is BESIDE one of C is out of C -/
def closB (A : Sl) (C : Nat) : Prop := ∀ i j, i < A 5 0 → j < A 5 0 → Nat.testBit C i = true → bes 0 A i j = true → Nat.testBit C j = true
theorem inn_s (A : Sl) (S i : Nat) : innN A S (i + 1) = if (innN A S i).testBit i = true then innN A S i ||| bitsB (A 5 0) (bes 0 A i) else innN A S i := rfl
theorem inn_ge (A : Sl) (S : Nat) : ∀ i, subB S (innN A S i)
  | 0 => subB_rf S
  | i + 1 => by
    rw [inn_s]
    split
    · exact subB_tr (inn_ge A S i) (subB_or _ _)
    · exact inn_ge A S i
theorem inn_mono (A : Sl) (S i : Nat) : ∀ k, subB (innN A S i) (innN A S (i + k))
  | 0 => subB_rf _
  | k + 1 => by
    refine subB_tr (inn_mono A S i k) ?_
    show subB _ (innN A S (i + k + 1))
    rw [inn_s]
    split
    · exact subB_or _ _
    · exact subB_rf _
theorem inn_lt2 {A : Sl} {S : Nat} (hS : S < 2 ^ (A 5 0)) : ∀ i, innN A S i < 2 ^ (A 5 0)
  | 0 => hS
  | i + 1 => by
    rw [inn_s]
    split
    · exact Nat.or_lt_two_pow (inn_lt2 hS i) (bitsB_lt _ _)
    · exact inn_lt2 hS i
theorem inn_sub {A : Sl} {C : Nat} (hC : closB A C) {U : Nat} (h : subB U C) : ∀ i, i ≤ A 5 0 → subB (innN A U i) C
  | 0, _ => h
  | i + 1, hi => by
    have ih := inn_sub hC h i (by omega)
    rw [inn_s]
    by_cases hb : (innN A U i).testBit i = true
    · rw [if_pos hb]
      intro j hj
      rw [Nat.testBit_or, tb_bitsB] at hj
      cases h1 : Nat.testBit (innN A U i) j with
      | true => exact ih j h1
      | false =>
        rw [h1, Bool.false_or, Bool.and_eq_true] at hj
        exact hC i j (by omega) (of_decide_eq_true hj.1) (ih i hb) hj.2
    · rw [if_neg hb]; exact ih
theorem inn_clos {A : Sl} {S : Nat} (h : innN A S (A 5 0) = S) : closB A S := by
  intro i j hi hj hs hb
  have h1 : innN A S i = S := subB_eq (by have := inn_mono A S i (A 5 0 - i); rw [show i + (A 5 0 - i) = A 5 0 by omega, h] at this; exact this) (inn_ge A S i)
  have h2 : subB (innN A S (i + 1)) S := by have := inn_mono A S (i + 1) (A 5 0 - (i + 1)); rw [show i + 1 + (A 5 0 - (i + 1)) = A 5 0 by omega, h] at this; exact this
  apply h2
  rw [inn_s, h1, if_pos hs, Nat.testBit_or, tb_bitsB, hb, decide_eq_true hj]
  simp
/-- the reference's own round: pair by pair -/
def brd (A : Sl) (S k : Nat) : Bool := Nat.testBit S (k / 8) && (decide (k % 8 < A 5 0) && bes 0 A (k / 8) (k % 8))
def in2 (A : Sl) (S : Nat) : Nat → Nat
  | 0 => S
  | k + 1 => if brd A (in2 A S k) k = true then in2 A S k ||| 2 ^ (k % 8) else in2 A S k
theorem in2_s (A : Sl) (S k : Nat) : in2 A S (k + 1) = if brd A (in2 A S k) k = true then in2 A S k ||| 2 ^ (k % 8) else in2 A S k := rfl
theorem in2_ge (A : Sl) (S : Nat) : ∀ i, subB S (in2 A S i)
  | 0 => subB_rf S
  | i + 1 => by
    rw [in2_s]
    split
    · exact subB_tr (in2_ge A S i) (subB_or _ _)
    · exact in2_ge A S i
theorem in2_mono (A : Sl) (S i : Nat) : ∀ k, subB (in2 A S i) (in2 A S (i + k))
  | 0 => subB_rf _
  | k + 1 => by
    refine subB_tr (in2_mono A S i k) ?_
    show subB _ (in2 A S (i + k + 1))
    rw [in2_s]
    split
    · exact subB_or _ _
    · exact subB_rf _
theorem brd_q {A : Sl} {S k : Nat} (h : brd A S k = true) : Nat.testBit S (k / 8) = true ∧ k % 8 < A 5 0 ∧ bes 0 A (k / 8) (k % 8) = true := by
  unfold brd at h
  rw [Bool.and_eq_true, Bool.and_eq_true] at h
  exact ⟨h.1, of_decide_eq_true h.2.1, h.2.2⟩
theorem in2_lt {A : Sl} {S : Nat} (hS : S < 2 ^ (A 5 0)) : ∀ i, in2 A S i < 2 ^ (A 5 0)
  | 0 => hS
  | i + 1 => by
    rw [in2_s]
    by_cases hb : brd A (in2 A S i) i = true
    · rw [if_pos hb]
      exact Nat.or_lt_two_pow (in2_lt hS i) (Nat.pow_lt_pow_right (by decide) (brd_q hb).2.1)
    · rw [if_neg hb]; exact in2_lt hS i
theorem tb_lt2 {S n i : Nat} (hS : S < 2 ^ n) (h : Nat.testBit S i = true) : i < n := by
  apply Classical.byContradiction
  intro hi
  rw [tb_lt hS (by omega)] at h
  exact absurd h (by decide)
theorem in2_sub {A : Sl} {C : Nat} (hC : closB A C) (hCl : C < 2 ^ (A 5 0)) {U : Nat} (h : subB U C) : ∀ i, subB (in2 A U i) C
  | 0 => h
  | i + 1 => by
    have ih := in2_sub hC hCl h i
    rw [in2_s]
    by_cases hb : brd A (in2 A U i) i = true
    · rw [if_pos hb]
      obtain ⟨h1, h2, h3⟩ := brd_q hb
      intro j hj
      rw [Nat.testBit_or, Nat.testBit_two_pow] at hj
      cases h4 : Nat.testBit (in2 A U i) j with
      | true => exact ih j h4
      | false =>
        rw [h4, Bool.false_or] at hj
        have := of_decide_eq_true hj
        rw [← this]
        exact hC (i / 8) (i % 8) (tb_lt2 hCl (ih _ h1)) h2 (ih _ h1) h3
    · rw [if_neg hb]; exact ih
theorem in2_clos {A : Sl} {S : Nat} (hn : A 5 0 ≤ 8) (h : in2 A S 64 = S) : closB A S := by
  intro i j hi hj hs hb
  have hk : 8 * i + j < 64 := by omega
  have hd : (8 * i + j) / 8 = i ∧ (8 * i + j) % 8 = j := by omega
  have h1 : in2 A S (8 * i + j) = S := subB_eq (by have := in2_mono A S (8 * i + j) (64 - (8 * i + j)); rw [show 8 * i + j + (64 - (8 * i + j)) = 64 by omega, h] at this; exact this) (in2_ge A S _)
  have h2 : subB (in2 A S (8 * i + j + 1)) S := by have := in2_mono A S (8 * i + j + 1) (64 - (8 * i + j + 1)); rw [show 8 * i + j + 1 + (64 - (8 * i + j + 1)) = 64 by omega, h] at this; exact this
  apply h2
  have hbr : brd A S (8 * i + j) = true := by unfold brd; rw [hd.1, hd.2, hs, hb, decide_eq_true hj]; rfl
  rw [in2_s, h1, if_pos hbr, Nat.testBit_or, hd.2, Nat.testBit_two_pow_self, Bool.or_true]
theorem pop_pow {p : Nat} (hp : p < 31) : 1 ≤ pop (2 ^ p) := by
  have h : cntB 31 (fun _ => false) < cntB 31 (fun k => Nat.testBit (2 ^ p) k) := cntB_lt (fun k h => absurd h (by decide)) (j := p) rfl Nat.testBit_two_pow_self 31 hp
  show 1 ≤ cntB 31 (fun k => Nat.testBit (2 ^ p) k)
  omega
theorem outN_it (A : Sl) (S : Nat) : ∀ r, outN A S r = itF (fun U => innN A U (A 5 0)) S r
  | 0 => rfl
  | r + 1 => by show innN A (outN A S r) (A 5 0) = innN A (itF _ S r) (A 5 0); rw [outN_it A S r]
theorem pow_n {p n : Nat} (h : p < n) : 2 ^ p < 2 ^ n := Nat.pow_lt_pow_right (by decide) h
theorem chn_clos {A : Sl} {p : Nat} (hn : A 5 0 ≤ 8) (hp : p < A 5 0) : closB A (chn A p) ∧ chn A p < 2 ^ (A 5 0) ∧ Nat.testBit (chn A p) p = true ∧ ∀ C, closB A C → Nat.testBit C p = true → subB (chn A p) C := by
  have e : chn A p = itF (fun U => innN A U (A 5 0)) (2 ^ p) (A 5 0) := outN_it A _ _
  have hs : ∀ U, subB U ((fun U => innN A U (A 5 0)) U) := fun U => inn_ge A U _
  have hl : ∀ U, U < 2 ^ (A 5 0) → (fun U => innN A U (A 5 0)) U < 2 ^ (A 5 0) := fun U hU => inn_lt2 hU _
  have h1 := it_end (F := fun U => innN A U (A 5 0)) hs hl hn (pow_n hp) (pop_pow (by omega)) (Nat.le_refl _)
  have h2 := (it_fix (F := fun U => innN A U (A 5 0)) hs hl hn (pow_n hp) (pop_pow (by omega)) (A 5 0)).1
  rw [e]
  refine ⟨inn_clos h1, h2, it_ge hs _ p Nat.testBit_two_pow_self, fun C hC hp2 => it_sub (fun U hU => inn_sub hC hU _ (Nat.le_refl _)) (fun i hi => ?_) _⟩
  rw [Nat.testBit_two_pow] at hi
  rw [← of_decide_eq_true hi]; exact hp2
/-- the reference's chain is the class's -/
theorem ch2_eq {A : Sl} {p : Nat} (hn : A 5 0 ≤ 8) (hp : p < A 5 0) : itF (fun U => in2 A U 64) (2 ^ p) 8 = chn A p := by
  obtain ⟨h1, h2, h3, h4⟩ := chn_clos hn hp
  have hs : ∀ U, subB U ((fun U => in2 A U 64) U) := fun U => in2_ge A U _
  have hl : ∀ U, U < 2 ^ (A 5 0) → (fun U => in2 A U 64) U < 2 ^ (A 5 0) := fun U hU => in2_lt hU _
  have h5 := it_end (F := fun U => in2 A U 64) hs hl hn (pow_n hp) (pop_pow (by omega)) hn
  refine subB_eq (it_sub (fun U hU => in2_sub h1 h2 hU _) (fun i hi => ?_) _) (h4 _ (in2_clos hn h5) (it_ge hs _ p Nat.testBit_two_pow_self))
  rw [Nat.testBit_two_pow] at hi
  rw [← of_decide_eq_true hi]; exact h3
theorem bes_sym (A : Sl) (i j : Nat) : bes 0 A i j = bes 0 A j i := by
  unfold bes
  rw [stp_comm, Nat.zero_testBit, Nat.zero_testBit]
  congr 2
  exact decide_eq_decide.mpr ⟨fun h z => h z.symm, fun h z => h z.symm⟩
theorem chn_sym {A : Sl} {i k : Nat} (hn : A 5 0 ≤ 8) (hi : i < A 5 0) (hk : k < A 5 0) (h : Nat.testBit (chn A k) i = true) : Nat.testBit (chn A i) k = true := by
  obtain ⟨h1, h2, h3, h4⟩ := chn_clos hn hi
  obtain ⟨g1, g2, g3, g4⟩ := chn_clos hn hk
  apply Classical.byContradiction
  intro hno
  have hD : closB A (bitsB (A 5 0) (fun j => !(Nat.testBit (chn A i) j))) := by
    intro a b ha hb hta hab
    rw [tb_bitsB, decide_eq_true ha, Bool.true_and] at hta
    rw [tb_bitsB, decide_eq_true hb, Bool.true_and]
    cases hc : Nat.testBit (chn A i) b with
    | false => rfl
    | true =>
      have := h1 b a hb ha hc (by rw [bes_sym]; exact hab)
      rw [this] at hta; exact absurd hta (by decide)
  have h5 := g4 _ hD (by rw [tb_bitsB, decide_eq_true hk, Bool.true_and]; cases hc : Nat.testBit (chn A i) k with
    | false => rfl
    | true => exact absurd hc hno) i h
  rw [tb_bitsB, h3] at h5
  simp at h5
theorem chn_in {A : Sl} {i k : Nat} (hn : A 5 0 ≤ 8) (hi : i < A 5 0) (hk : k < A 5 0) (h : Nat.testBit (chn A k) i = true) : subB (chn A i) (chn A k) :=
  (chn_clos hn hi).2.2.2 _ (chn_clos hn hk).1 h
theorem grp_seen {A : Sl} (hn : A 5 0 ≤ 8) : ∀ i, i ≤ A 5 0 → ∀ j, Nat.testBit (grpN A i).2 j = true ↔ ∃ k, k < i ∧ Nat.testBit (chn A k) j = true
  | 0, _ => fun j => ⟨fun h => by rw [show (grpN A 0).2 = 0 from rfl, Nat.zero_testBit] at h; exact absurd h (by decide), fun ⟨k, hk, _⟩ => absurd hk (Nat.not_lt_zero _)⟩
  | i + 1, hi => fun j => by
    have ih := grp_seen hn i (by omega)
    by_cases hb : (grpN A i).2.testBit i = true
    · have e : grpN A (i + 1) = grpN A i := by show (if _ then _ else _) = _; rw [if_pos hb]
      rw [e, ih j]
      constructor
      · rintro ⟨k, hk, h⟩; exact ⟨k, by omega, h⟩
      · rintro ⟨k, hk, h⟩
        by_cases hki : k = i
        · subst hki
          obtain ⟨k', hk', h'⟩ := (ih k).mp hb
          exact ⟨k', hk', chn_in hn (by omega) (by omega) h' j h⟩
        · exact ⟨k, by omega, h⟩
    · have e : grpN A (i + 1) = ((grpN A i).1 + 1, (grpN A i).2 ||| chn A i) := by show (if _ then _ else _) = _; rw [if_neg hb]
      rw [e]
      show Nat.testBit ((grpN A i).2 ||| chn A i) j = true ↔ _
      rw [Nat.testBit_or, Bool.or_eq_true, ih j]
      constructor
      · rintro (⟨k, hk, h⟩ | h)
        · exact ⟨k, by omega, h⟩
        · exact ⟨i, by omega, h⟩
      · rintro ⟨k, hk, h⟩
        by_cases hki : k = i
        · subst hki; exact Or.inr h
        · exact Or.inl ⟨k, by omega, h⟩
theorem grp_low {A : Sl} (hn : A 5 0 ≤ 8) {i : Nat} (hi : i < A 5 0) : (chn A i &&& (2 ^ i - 1) = 0) ↔ (grpN A i).2.testBit i = false := by
  have hs := grp_seen hn i (by omega) i
  constructor
  · intro h
    cases hb : (grpN A i).2.testBit i with
    | false => rfl
    | true =>
      obtain ⟨k, hk, h1⟩ := hs.mp hb
      have h2 := chn_sym hn hi (by omega) h1
      have h3 : Nat.testBit (chn A i &&& (2 ^ i - 1)) k = true := by rw [Nat.testBit_and, h2, Nat.testBit_two_pow_sub_one, decide_eq_true hk]; rfl
      rw [h, Nat.zero_testBit] at h3; exact absurd h3 (by decide)
  · intro h
    apply Nat.eq_of_testBit_eq
    intro k
    rw [Nat.zero_testBit, Nat.testBit_and, Nat.testBit_two_pow_sub_one]
    by_cases hk : k < i
    · cases hc : Nat.testBit (chn A i) k with
      | false => rfl
      | true =>
        have := hs.mpr ⟨k, hk, chn_sym hn (by omega) hi hc⟩
        rw [this] at h; exact absurd h (by decide)
    · rw [decide_eq_false hk, Bool.and_false]
theorem grp_1 {A : Sl} (hn : A 5 0 ≤ 8) {i : Nat} (hi : i < A 5 0) (h : chn A i &&& (2 ^ i - 1) = 0) : (grpN A (i + 1)).1 = (grpN A i).1 + 1 := by
  show (if _ then _ else _ : Nat × Nat).1 = _
  rw [if_neg (by rw [(grp_low hn hi).mp h]; decide)]
theorem grp_0 {A : Sl} (hn : A 5 0 ≤ 8) {i : Nat} (hi : i < A 5 0) (h : ¬ chn A i &&& (2 ^ i - 1) = 0) : (grpN A (i + 1)).1 = (grpN A i).1 := by
  show (if _ then _ else _ : Nat × Nat).1 = _
  rw [if_pos (by
    cases hb : (grpN A i).2.testBit i with
    | true => rfl
    | false => exact absurd ((grp_low hn hi).mpr hb) h)]
