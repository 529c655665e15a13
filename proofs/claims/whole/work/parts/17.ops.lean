/-! what is asked: slopes that are changed in thought, searches, and the slope without some of its people -/
theorem spl1 : Sp 1 := Or.inl rfl
theorem spl2 : Sp 2 := Or.inr (Or.inl rfl)
theorem spl3 : Sp 3 := Or.inr (Or.inr rfl)
def setR (A : Sl) (r i v : Nat) : Sl := fun q k => if q = r ∧ k = i then v else A q k
def nines (S : Nat) (A : Sl) : Sl := fun q k => if q = 4 ∧ S.testBit k = true then 9 else A q k
def addP (A : Sl) (kd fg ce bl : Nat) : Sl := fun q k => if q = 5 ∧ k = 0 then A 5 0 + 1 else if k = A 5 0 ∧ q = 1 then kd else if k = A 5 0 ∧ q = 2 then fg else if k = A 5 0 ∧ q = 3 then ce else if k = A 5 0 ∧ q = 4 then bl else A q k
def kp (S i : Nat) : Nat := cntB i (fun k => !(S.testBit k))
def drN (S : Nat) (A : Sl) : Nat → Sl
  | 0 => A
  | i + 1 => if S.testBit i = true then drN S A i else fun q k => if 1 ≤ q ∧ q ≤ 4 ∧ k = kp S i then A q i else drN S A i q k
def dropA (S : Nat) (A : Sl) : Sl := fun q k => if q = 5 ∧ k = 0 then kp S (A 5 0) else drN S A (A 5 0) q k
def allB (A : Sl) : Bool := decide (bcnt 0 A = A 5 0)
def figs (A : Sl) : Nat := sumB (A 5 0) (fun i => if bel A i = true then A 2 i else 0)
/-- the first of m for which P, or -9 -/
def firstB (P : Nat → Bool) : Nat → Int
  | 0 => -9
  | m + 1 => if firstB P m = -9 then (if P m = true then (m : Int) else -9) else firstB P m
theorem firstB_none {P : Nat → Bool} {m : Nat} (h : ∀ k, k < m → P k = false) : firstB P m = -9 := by
  induction m with
  | zero => rfl
  | succ m ih =>
    unfold firstB
    rw [if_pos (ih (fun k hk => h k (by omega))), if_neg (by rw [h m (by omega)]; decide)]
theorem firstB_hit {P : Nat → Bool} {n m : Nat} (h : ∀ k, k < n → P k = false) (hn : P n = true) (hm : n < m) : firstB P m = (n : Int) := by
  induction m with
  | zero => omega
  | succ m ih =>
    unfold firstB
    by_cases he : n = m
    · subst he
      rw [if_pos (firstB_none h), if_pos hn]
    · rw [ih (by omega), if_neg (by omega)]
theorem firstB_r (P : Nat → Bool) (m : Nat) : -9 ≤ firstB P m ∧ firstB P m < (m : Int) := by
  induction m with
  | zero => exact ⟨Int.le_refl _, by show (-9 : Int) < 0; decide⟩
  | succ m ih => unfold firstB; (repeat' split) <;> omega
/-- of the masks below k that P: the one of fewest bits, the least of several; and how many (9: none) -/
def mkr (P : Nat → Bool) : Nat → Int × Nat
  | 0 => (-9, 9)
  | k + 1 => if pop k < (mkr P k).2 ∧ P k = true then ((k : Int), pop k) else mkr P k
theorem mkr_t {P : Nat → Bool} {k : Nat} (h : pop k < (mkr P k).2) (hp : P k = true) : mkr P (k + 1) = ((k : Int), pop k) := by
  show (if _ then _ else _) = _
  rw [if_pos ⟨h, hp⟩]
theorem mkr_f {P : Nat → Bool} {k : Nat} (h : ¬ pop k < (mkr P k).2 ∨ P k = false) : mkr P (k + 1) = mkr P k := by
  show (if _ then _ else _) = _
  rw [if_neg (fun z => by rcases h with h | h; exact h z.1; rw [h] at z; exact absurd z.2 (by decide))]
theorem mkr_r (P : Nat → Bool) (k : Nat) : (mkr P k).2 ≤ 31 ∧ -9 ≤ (mkr P k).1 ∧ (mkr P k).1 < (k : Int) := by
  induction k with
  | zero => exact ⟨by show 9 ≤ 31; decide, Int.le_refl _, by show (-9 : Int) < 0; decide⟩
  | succ k ih =>
    by_cases h : pop k < (mkr P k).2 ∧ P k = true
    · rw [mkr_t h.1 h.2]; have := pop_le k; exact ⟨this, by omega, by show (k : Int) < _; omega⟩
    · rw [mkr_f (by by_cases h2 : pop k < (mkr P k).2; exact Or.inr (by cases h3 : P k; rfl; exact absurd ⟨h2, h3⟩ h); exact Or.inl h2)]
      omega
/-- who of the first k has most (more than m0); the one, and how many -/
def mxr (f : Nat → Int) (b0 m0 : Int) : Nat → Int × Int
  | 0 => (b0, m0)
  | k + 1 => if (mxr f b0 m0 k).2 < f k then ((k : Int), f k) else mxr f b0 m0 k
theorem mxr_s (f : Nat → Int) (b0 m0 : Int) (k : Nat) : mxr f b0 m0 (k + 1) = if (mxr f b0 m0 k).2 < f k then ((k : Int), f k) else mxr f b0 m0 k := rfl
theorem mxr_t {f : Nat → Int} {b0 m0 : Int} {k : Nat} (h : (mxr f b0 m0 k).2 < f k) : mxr f b0 m0 (k + 1) = ((k : Int), f k) := by rw [mxr_s, if_pos h]
theorem mxr_f {f : Nat → Int} {b0 m0 : Int} {k : Nat} (h : ¬ (mxr f b0 m0 k).2 < f k) : mxr f b0 m0 (k + 1) = mxr f b0 m0 k := by rw [mxr_s, if_neg h]
theorem mxr_r {f : Nat → Int} {b0 m0 lo hi : Int} (hf : ∀ k, lo ≤ f k ∧ f k ≤ hi) (h0 : lo ≤ m0 ∧ m0 ≤ hi) (hb : -9 ≤ b0 ∧ b0 ≤ 0) (k : Nat) : lo ≤ (mxr f b0 m0 k).2 ∧ (mxr f b0 m0 k).2 ≤ hi ∧ -9 ≤ (mxr f b0 m0 k).1 ∧ (mxr f b0 m0 k).1 ≤ (k : Int) := by
  induction k with
  | zero => exact ⟨h0.1, h0.2, hb.1, hb.2⟩
  | succ k ih =>
    rw [mxr_s]
    split
    · exact ⟨(hf k).1, (hf k).2, by show -9 ≤ (k : Int); omega, by show (k : Int) ≤ _; omega⟩
    · omega
/-- who of the first k has fewest (fewer than m0) -/
def mnr (f : Nat → Int) (m0 : Int) : Nat → Int × Int
  | 0 => (-9, m0)
  | k + 1 => if f k < (mnr f m0 k).2 then ((k : Int), f k) else mnr f m0 k
theorem mnr_s (f : Nat → Int) (m0 : Int) (k : Nat) : mnr f m0 (k + 1) = if f k < (mnr f m0 k).2 then ((k : Int), f k) else mnr f m0 k := rfl
theorem mnr_t {f : Nat → Int} {m0 : Int} {k : Nat} (h : f k < (mnr f m0 k).2) : mnr f m0 (k + 1) = ((k : Int), f k) := by rw [mnr_s, if_pos h]
theorem mnr_f {f : Nat → Int} {m0 : Int} {k : Nat} (h : ¬ f k < (mnr f m0 k).2) : mnr f m0 (k + 1) = mnr f m0 k := by rw [mnr_s, if_neg h]
/-! slopes that show the same -/
theorem Rp.congr {f : Nat → Nat → Int32} {A B : Sl} (h : Rp f A) (h0 : B 5 0 = A 5 0) (h1 : B 5 1 = A 5 1) (h2 : ∀ k, k < 25 → B 0 k = A 0 k) (h3 : ∀ q, 1 ≤ q → q ≤ 4 → ∀ k, k < A 5 0 → B q k = A q k) : Rp f B := by
  refine ⟨fun k hk => by rw [h2 k hk]; exact h.1 k hk, fun q a b k hk => ?_, by rw [h0]; exact h.2.2.1, by rw [h1]; exact h.2.2.2.1, ?_, fun k hk => by rw [h2 k hk]; exact h.d99 k hk, fun k hk => ?_⟩
  · rw [h0] at hk
    rw [h3 q a b k hk]; exact h.2.1 q a b k hk
  · rw [h0]; exact h.n8
  · rw [h0] at hk
    rw [h3 1 (by omega) (by omega) k hk, h3 2 (by omega) (by omega) k hk, h3 3 (by omega) (by omega) k hk, h3 4 (by omega) (by omega) k hk]
    exact h.ok.2.2 k hk
theorem setR_ok {A : Sl} {r i v : Nat} (h : OKs A) (hr : 1 ≤ r ∧ r ≤ 4) (hv : (r = 1 → v ≤ 5) ∧ (r = 2 → v ≤ 9) ∧ (r = 3 → v < 25) ∧ (r = 4 → v ≤ 9)) : OKs (setR A r i v) := by
  have e5 : ∀ k, setR A r i v 5 k = A 5 k := fun k => if_neg (by omega)
  have e0 : ∀ k, setR A r i v 0 k = A 0 k := fun k => if_neg (by omega)
  refine ⟨by rw [e5]; exact h.1, fun k hk => by rw [e0]; exact h.2.1 k hk, fun k hk => ?_⟩
  rw [e5] at hk
  obtain ⟨h1, h2, h3, h4⟩ := h.2.2 k hk
  obtain ⟨g1, g2, g3, g4⟩ := hv
  unfold setR
  refine ⟨?_, ?_, ?_, ?_⟩ <;> split <;> first | assumption | (apply g1; omega) | (apply g2; omega) | (apply g3; omega) | (apply g4; omega)
theorem Rp.setC {X : Mem} {s r i v : Nat} {A : Sl} (h : Rp (vC X s) A) (hs : Sp s) (hr : 1 ≤ r ∧ r ≤ 4) (hv : (r = 1 → v ≤ 5) ∧ (r = 2 → v ≤ 9) ∧ (r = 3 → v < 25) ∧ (r = 4 → v ≤ 9)) : Rp (vC (mset X (5 + 6 * s + r) i (zI (v : Nat))) s) (setR A r i v) := by
  have hs3 : 1 ≤ s ∧ s ≤ 3 := by rcases hs with rfl | rfl | rfl <;> omega
  have e5 : ∀ k, setR A r i v 5 k = A 5 k := fun k => if_neg (by omega)
  have e0 : ∀ k, setR A r i v 0 k = A 0 k := fun k => if_neg (by omega)
  refine ⟨fun k hk => ?_, fun q a b k hk => ?_, ?_, ?_, setR_ok h.ok hr hv⟩
  · show (if 0 < 5 then _ else _) = _
    rw [if_pos (by omega), mset_row (by omega), e0]; exact h.1 k hk
  · rw [e5] at hk
    show (if q < 5 then _ else _) = _
    rw [if_pos (by omega)]
    unfold setR
    by_cases hq : q = r ∧ k = i
    · rw [if_pos hq, hq.1, hq.2, mset_eq]
    · rw [if_neg hq, mset_ne _ _ _ _ (fun z => hq ⟨by omega, z.2⟩)]
      have := h.2.1 q a b k hk
      unfold vC at this
      rwa [if_pos (by omega)] at this
  · show (if 5 < 5 then _ else _) = _
    rw [if_neg (by omega), mset_row (by omega), e5]; exact h.2.2.1
  · show (if 5 < 5 then _ else _) = _
    rw [if_neg (by omega), mset_row (by omega), e5]; exact h.2.2.2.1
theorem frS_set {s r i : Nat} {v : Int32} {X Y : Mem} (h : frS s X Y) (hr : r ≤ 5) : frS s X (mset Y (5 + 6 * s + r) i v) := fun q h1 h2 => by rw [mset_row (by omega)]; exact h q h1 h2
theorem Rp.fr31 {X X' : Mem} {A : Sl} (h : Rp (vC X 1) A) (hF : frS 3 X X') : Rp (vC X' 1) A := h.keep (hF 1 (by omega) (by omega)) (fun q hq => hF _ (by omega) (by omega))
theorem Rp.fr32 {X X' : Mem} {A : Sl} (h : Rp (vC X 2) A) (hF : frS 3 X X') : Rp (vC X' 2) A := h.keep (hF 2 (by omega) (by omega)) (fun q hq => hF _ (by omega) (by omega))
/-! the slope without those of the bits S -/
theorem kp_s (S i : Nat) : kp S (i + 1) = kp S i + (if S.testBit i = true then 0 else 1) := by
  unfold kp
  rw [cntB_s]
  cases S.testBit i <;> rfl
theorem kp_t {S i : Nat} (h : S.testBit i = true) : kp S (i + 1) = kp S i := by rw [kp_s, if_pos h]; rfl
theorem kp_f {S i : Nat} (h : S.testBit i = false) : kp S (i + 1) = kp S i + 1 := by rw [kp_s, if_neg (by rw [h]; decide)]
theorem kp_le (S i : Nat) : kp S i ≤ i := cntB_le _ _
theorem kp_mono (S : Nat) {i j : Nat} (h : i ≤ j) : kp S i ≤ kp S j := by
  induction j with
  | zero => rw [show i = 0 by omega]; exact Nat.le_refl _
  | succ j ih =>
    by_cases he : i = j + 1
    · rw [he]; exact Nat.le_refl _
    · have := ih (by omega)
      rw [kp_s]; omega
theorem kp_lt {S i j : Nat} (h : i < j) (hi : S.testBit i = false) : kp S i < kp S j := by
  have := kp_mono S (show i + 1 ≤ j from h)
  rw [kp_f hi] at this
  omega
theorem drN_hi {S : Nat} {A : Sl} : ∀ (i : Nat) (q k : Nat), (kp S i ≤ k ∨ q = 0 ∨ 4 < q) → drN S A i q k = A q k
  | 0, _, _, _ => rfl
  | i + 1, q, k, h => by
    unfold drN
    by_cases hb : S.testBit i = true
    · rw [if_pos hb]
      exact drN_hi i q k (by rw [kp_t hb] at h; exact h)
    · have hb' : S.testBit i = false := by simpa using hb
      rw [if_neg hb]
      rw [kp_f hb'] at h
      show (if 1 ≤ q ∧ q ≤ 4 ∧ k = kp S i then A q i else drN S A i q k) = _
      rw [if_neg (by omega)]
      exact drN_hi i q k (by omega)
theorem drN_at {S : Nat} {A : Sl} : ∀ (n i q : Nat), i < n → S.testBit i = false → 1 ≤ q → q ≤ 4 → drN S A n q (kp S i) = A q i
  | 0, _, _, h, _, _, _ => absurd h (Nat.not_lt_zero _)
  | n + 1, i, q, h, hi, h1, h4 => by
    unfold drN
    by_cases hb : S.testBit n = true
    · rw [if_pos hb]
      refine drN_at n i q ?_ hi h1 h4
      by_cases he : i = n
      · subst he; rw [hb] at hi; cases hi
      · omega
    · rw [if_neg hb]
      show (if 1 ≤ q ∧ q ≤ 4 ∧ kp S i = kp S n then A q n else drN S A n q (kp S i)) = _
      by_cases he : i = n
      · subst he; rw [if_pos ⟨h1, h4, rfl⟩]
      · rw [if_neg (fun z => by have := kp_lt (show i < n by omega) hi; omega)]
        exact drN_at n i q (by omega) hi h1 h4
/-- B is A without those of the bits S -/
def Emb (S : Nat) (A B : Sl) : Prop := B 5 0 = kp S (A 5 0) ∧ (∀ k, B 0 k = A 0 k) ∧ ∀ i, i < A 5 0 → S.testBit i = false → ∀ q, 1 ≤ q → q ≤ 4 → B q (kp S i) = A q i
theorem emb_drop (S : Nat) (A : Sl) : Emb S A (dropA S A) := by
  refine ⟨by unfold dropA; rw [if_pos ⟨rfl, rfl⟩], fun k => ?_, fun i hi hb q h1 h4 => ?_⟩
  · unfold dropA
    rw [if_neg (by omega)]
    exact drN_hi _ _ _ (by omega)
  · unfold dropA
    rw [if_neg (by omega)]
    exact drN_at _ _ _ hi hb h1 h4
theorem cnt_emb {S : Nat} {P P' : Nat → Bool} : ∀ n, (∀ i, i < n → S.testBit i = false → P' (kp S i) = P i) → (∀ i, i < n → S.testBit i = true → P i = false) → cntB (kp S n) P' = cntB n P
  | 0, _, _ => rfl
  | n + 1, h, hg => by
    have ih := cnt_emb n (fun i hi => h i (by omega)) (fun i hi => hg i (by omega))
    by_cases hb : S.testBit n = true
    · rw [kp_t hb, cntB_s, if_neg (by rw [hg n (by omega) hb]; decide), ih]; rfl
    · have hb' : S.testBit n = false := by simpa using hb
      rw [kp_f hb', cntB_s, cntB_s, ih, h n (by omega) hb']
theorem mx_emb {S : Nat} {P P' : Nat → Bool} {f f' : Nat → Nat} : ∀ n, (∀ i, i < n → S.testBit i = false → P' (kp S i) = P i) → (∀ i, i < n → S.testBit i = true → P i = false) → (∀ i, i < n → S.testBit i = false → f' (kp S i) = f i) → mxB (kp S n) P' f' = mxB n P f
  | 0, _, _, _ => rfl
  | n + 1, h, hg, hf => by
    have ih := mx_emb n (fun i hi => h i (by omega)) (fun i hi => hg i (by omega)) (fun i hi => hf i (by omega))
    by_cases hb : S.testBit n = true
    · rw [kp_t hb, mxB_f (hg n (by omega) hb), ih]
    · have hb' : S.testBit n = false := by simpa using hb
      rw [kp_f hb', mxB_s, mxB_s, ih, h n (by omega) hb', hf n (by omega) hb']
theorem hereN_congr {A B : Sl} (h : ∀ k, B 0 k = A 0 k) : ∀ k, hereN B k = hereN A k
  | 0 => rfl
  | k + 1 => by
    rw [hereN_succ, hereN_succ, hereN_congr h k, h, h]
theorem kp_inj {S i j : Nat} (hi : S.testBit i = false) (hj : S.testBit j = false) (h : kp S i = kp S j) : i = j := by
  rcases Nat.lt_trichotomy i j with h1 | h1 | h1
  · have := kp_lt h1 hi; omega
  · exact h1
  · have := kp_lt h1 hj; omega
section EMB
variable {S : Nat} {A B : Sl}
theorem emb_bel (h : Emb S A B) {i : Nat} (hi : i < A 5 0) (hb : S.testBit i = false) : bel B (kp S i) = bel A i := by
  unfold bel; rw [h.2.2 i hi hb 4 (by omega) (by omega)]
theorem emb_bes (h : Emb S A B) {p i : Nat} (hp : p < A 5 0) (hpb : S.testBit p = false) (hi : i < A 5 0) (hb : S.testBit i = false) : bes 0 B (kp S p) (kp S i) = bes S A p i := by
  unfold bes
  rw [h.2.2 i hi hb 3 (by omega) (by omega), h.2.2 p hp hpb 3 (by omega) (by omega), hb]
  have : (kp S p = kp S i) = (p = i) := propext ⟨kp_inj hpb hb, fun z => by rw [z]⟩
  simp only [this, Nat.zero_testBit]
theorem emb_many (h : Emb S A B) {p : Nat} (hp : p < A 5 0) (hpb : S.testBit p = false) : many 0 B (kp S p) = many S A p := by
  unfold many; rw [h.1]
  exact cnt_emb _ (fun i hi hb => emb_bes h hp hpb hi hb) (fun i hi hb => by simp [bes, hb])
theorem emb_bbl (h : Emb S A B) {p : Nat} (hp : p < A 5 0) (hpb : S.testBit p = false) : bbl 0 B (kp S p) = bbl S A p := by
  unfold bbl; rw [h.1]
  exact cnt_emb _ (fun i hi hb => by rw [emb_bes h hp hpb hi hb, emb_bel h hi hb]) (fun i hi hb => by simp [bes, hb])
theorem emb_guest (h : Emb S A B) {p : Nat} (hp : p < A 5 0) (hpb : S.testBit p = false) : guest 0 B (kp S p) = guest S A p := by
  unfold guest; rw [emb_many h hp hpb, emb_bbl h hp hpb, h.2.2 p hp hpb 4 (by omega) (by omega)]
theorem emb_friend (h : Emb S A B) {p w : Nat} (hp : p < A 5 0) (hpb : S.testBit p = false) : friend 0 B (kp S p) w = friend S A p w := by
  unfold friend; rw [emb_guest h hp hpb, h.2.2 p hp hpb 3 (by omega) (by omega), h.2.2 p hp hpb 2 (by omega) (by omega)]
theorem emb_child (h : Emb S A B) {p : Nat} (hp : p < A 5 0) (hpb : S.testBit p = false) : child 0 B (kp S p) = child S A p := by
  unfold child
  rw [emb_many h hp hpb, h.2.2 p hp hpb 4 (by omega) (by omega), h.1]
  rw [mx_emb (f := A 4) (P := bes S A p) (A 5 0) (fun i hi hb => emb_bes h hp hpb hi hb) (fun i hi hb => by simp [bes, hb]) (fun i hi hb => h.2.2 i hi hb 4 (by omega) (by omega))]
theorem emb_next (h : Emb S A B) {p w : Nat} (hp : p < A 5 0) (hpb : S.testBit p = false) : nextB 0 B (kp S p) w = nextB S A p w := by
  unfold nextB
  rw [h.2.2 p hp hpb 1 (by omega) (by omega), h.2.2 p hp hpb 4 (by omega) (by omega), emb_guest h hp hpb, emb_friend h hp hpb, emb_child h hp hpb]
theorem emb_here (h : Emb S A B) : here B = here A := hereN_congr h.2.1 24
theorem emb_at (h : Emb S A B) (w : Nat) : blvAt 0 B w = blvAt S A w := by
  unfold blvAt; rw [h.1]
  exact cnt_emb _ (fun i hi hb => by rw [emb_bel h hi hb, h.2.2 i hi hb 3 (by omega) (by omega), hb]; simp) (fun i hi hb => by simp [hb])
theorem emb_year (h : Emb S A B) (wd : Bool) : Emb S (year S wd A) (year 0 wd B) := by
  refine ⟨h.1, fun k => ?_, fun i hi hb q h1 h4 => ?_⟩
  · show (if k = here B then min 99 (B 0 k + (if wd = true then 0 else blvAt 0 B (here B))) else B 0 k - 1) = (if k = here A then min 99 (A 0 k + (if wd = true then 0 else blvAt S A (here A))) else A 0 k - 1)
    rw [emb_here h, emb_at h, h.2.1]
  · have hi' : i < A 5 0 := hi
    rcases (show q = 1 ∨ q = 2 ∨ q = 3 ∨ q = 4 by omega) with rfl | rfl | rfl | rfl
    · exact h.2.2 i hi' hb 1 (by omega) (by omega)
    · exact h.2.2 i hi' hb 2 (by omega) (by omega)
    · show (if 5 ≤ nextB 0 B (kp S i) (here B) then toward (B 3 (kp S i)) (here B) else B 3 (kp S i)) = (if 5 ≤ nextB S A i (here A) then toward (A 3 i) (here A) else A 3 i)
      rw [emb_here h, emb_next h hi' hb, h.2.2 i hi' hb 3 (by omega) (by omega)]
    · show nextB 0 B (kp S i) (here B) = nextB S A i (here A)
      rw [emb_here h, emb_next h hi' hb]
theorem emb_go (h : Emb S A B) : ∀ n, Emb S (goN S n A) (goN 0 n B)
  | 0 => h
  | n + 1 => emb_year (emb_go h n) false
theorem emb_bcnt (h : Emb S A B) : bcnt 0 B = bcnt S A := by
  unfold bcnt; rw [h.1]
  exact cnt_emb _ (fun i hi hb => by rw [emb_bel h hi hb, hb]; simp) (fun i hi hb => by simp [hb])
end EMB
theorem bcnt_drop (S n : Nat) (A : Sl) : bcnt 0 (goN 0 n (dropA S A)) = bcnt S (goN S n A) := emb_bcnt (emb_go (emb_drop S A) n)
theorem dropA_ok {S : Nat} {A : Sl} (h : OKs A) : OKs (dropA S A) := by
  have e := emb_drop S A
  have hn : dropA S A 5 0 ≤ A 5 0 := by rw [e.1]; exact kp_le _ _
  refine ⟨Nat.le_trans hn h.1, fun k hk => by rw [e.2.1]; exact h.2.1 k hk, fun k hk => ?_⟩
  have key : ∀ n, n ≤ A 5 0 → ∀ k, k < kp S n → ∃ i, i < n ∧ S.testBit i = false ∧ kp S i = k := by
    intro n
    induction n with
    | zero => intro _ k hk; exact absurd hk (Nat.not_lt_zero _)
    | succ n ih =>
      intro hn k hk
      by_cases hb : S.testBit n = true
      · rw [kp_t hb] at hk
        obtain ⟨i, h1, h2, h3⟩ := ih (by omega) k hk
        exact ⟨i, by omega, h2, h3⟩
      · have hb' : S.testBit n = false := by simpa using hb
        rw [kp_f hb'] at hk
        by_cases he : k = kp S n
        · exact ⟨n, by omega, hb', he.symm⟩
        · obtain ⟨i, h1, h2, h3⟩ := ih (by omega) k (by omega)
          exact ⟨i, by omega, h2, h3⟩
  rw [e.1] at hk
  obtain ⟨i, hi, hb, rfl⟩ := key _ (Nat.le_refl _) k hk
  rw [e.2.2 i hi hb 1 (by omega) (by omega), e.2.2 i hi hb 2 (by omega) (by omega), e.2.2 i hi hb 3 (by omega) (by omega), e.2.2 i hi hb 4 (by omega) (by omega)]
  exact h.2.2 i hi
