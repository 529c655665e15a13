/-! rows for the walks of join, take, dropAll -/
theorem addP_ok {A : Sl} {kd fg ce bl : Nat} (h : OKs A) (hlt : A 5 0 < 8) (h1 : kd ≤ 5) (h2 : fg ≤ 9) (h3 : ce < 25) (h4 : bl ≤ 9) : OKs (addP A kd fg ce bl) := by
  have e5 : addP A kd fg ce bl 5 0 = A 5 0 + 1 := rfl
  have e0 : ∀ k, addP A kd fg ce bl 0 k = A 0 k := fun k => by unfold addP; rw [if_neg (by omega), if_neg (by omega), if_neg (by omega), if_neg (by omega), if_neg (by omega)]
  refine ⟨by rw [e5]; omega, fun k hk => by rw [e0]; exact h.2.1 k hk, fun k hk => ?_⟩
  rw [e5] at hk
  by_cases he : k = A 5 0
  · subst he
    refine ⟨?_, ?_, ?_, ?_⟩
    · show addP A kd fg ce bl 1 (A 5 0) ≤ 5; unfold addP; rw [if_neg (by omega), if_pos ⟨rfl, rfl⟩]; exact h1
    · show addP A kd fg ce bl 2 (A 5 0) ≤ 9; unfold addP; rw [if_neg (by omega), if_neg (by omega), if_pos ⟨rfl, rfl⟩]; exact h2
    · show addP A kd fg ce bl 3 (A 5 0) < 25; unfold addP; rw [if_neg (by omega), if_neg (by omega), if_neg (by omega), if_pos ⟨rfl, rfl⟩]; exact h3
    · show addP A kd fg ce bl 4 (A 5 0) ≤ 9; unfold addP; rw [if_neg (by omega), if_neg (by omega), if_neg (by omega), if_neg (by omega), if_pos ⟨rfl, rfl⟩]; exact h4
  · have e : ∀ q, 1 ≤ q → q ≤ 4 → addP A kd fg ce bl q k = A q k := fun q a b => by unfold addP; rw [if_neg (by omega), if_neg (by omega), if_neg (by omega), if_neg (by omega), if_neg (by omega)]
    rw [e 1 (by omega) (by omega), e 2 (by omega) (by omega), e 3 (by omega) (by omega), e 4 (by omega) (by omega)]
    exact h.2.2 k (by omega)
/-- a picture that is as f but with one more -/
theorem Rp.add {f g : Nat → Nat → Int32} {A : Sl} {kd fg ce bl : Nat} (h : Rp f A) (hlt : A 5 0 < 8) (h1 : kd ≤ 5) (h2 : fg ≤ 9) (h3 : ce < 25) (h4 : bl ≤ 9) (g0 : ∀ k, k < 25 → g 0 k = f 0 k) (gq : ∀ q, 1 ≤ q → q ≤ 4 → ∀ k, k < A 5 0 → g q k = f q k) (gn : g 5 0 = zI ((A 5 0 + 1 : Nat) : Int)) (gy : g 5 1 = f 5 1)
    (g1 : g 1 (A 5 0) = zI (kd : Nat)) (g2 : g 2 (A 5 0) = zI (fg : Nat)) (g3 : g 3 (A 5 0) = zI (ce : Nat)) (g4 : g 4 (A 5 0) = zI (bl : Nat)) : Rp g (addP A kd fg ce bl) := by
  have e0 : ∀ k, addP A kd fg ce bl 0 k = A 0 k := fun k => by unfold addP; rw [if_neg (by omega), if_neg (by omega), if_neg (by omega), if_neg (by omega), if_neg (by omega)]
  have e51 : addP A kd fg ce bl 5 1 = A 5 1 := by unfold addP; rw [if_neg (by omega), if_neg (by omega), if_neg (by omega), if_neg (by omega), if_neg (by omega)]
  refine ⟨fun k hk => by rw [g0 k hk, e0]; exact h.1 k hk, fun q a b k hk => ?_, gn, by rw [gy, e51]; exact h.2.2.2.1, addP_ok h.ok hlt h1 h2 h3 h4⟩
  have hk' : k < A 5 0 + 1 := hk
  by_cases he : k = A 5 0
  · subst he
    rcases (show q = 1 ∨ q = 2 ∨ q = 3 ∨ q = 4 by omega) with rfl | rfl | rfl | rfl
    · rw [g1]; unfold addP; rw [if_neg (by omega), if_pos ⟨rfl, rfl⟩]
    · rw [g2]; unfold addP; rw [if_neg (by omega), if_neg (by omega), if_pos ⟨rfl, rfl⟩]
    · rw [g3]; unfold addP; rw [if_neg (by omega), if_neg (by omega), if_neg (by omega), if_pos ⟨rfl, rfl⟩]
    · rw [g4]; unfold addP; rw [if_neg (by omega), if_neg (by omega), if_neg (by omega), if_neg (by omega), if_pos ⟨rfl, rfl⟩]
  · rw [gq q a b k (by omega)]
    have : addP A kd fg ce bl q k = A q k := by unfold addP; rw [if_neg (by omega), if_neg (by omega), if_neg (by omega), if_neg (by omega), if_neg (by omega)]
    rw [this]
    exact h.2.1 q a b k (by omega)
theorem vC_row {X : Mem} {s q : Nat} (h : q < 5) (k : Nat) : vC X s q k = X (5 + 6 * s + q) k := if_pos h
theorem vC_obj {X : Mem} {s : Nat} (k : Nat) : vC X s 5 k = X s (6 + k) := if_neg (by omega)
theorem vM_row {X : Mem} {q : Nat} (h : q < 5) (k : Nat) : vM X q k = X (31 + q) k := if_pos h
theorem vM_obj {X : Mem} (k : Nat) : vM X 5 k = X 29 (6 + k) := if_neg (by omega)
theorem join_rep {X : Mem} {s : Nat} {A : Sl} {kd fg ce bl : Nat} (hs : Sp s) (hA : Rp (vC X s) A) (hlt : A 5 0 < 8) (h1 : kd ≤ 5) (h2 : fg ≤ 9) (h3 : ce < 25) (h4 : bl ≤ 9) :
    Rp (vC (mset (mset (mset (mset (mset X (5 + 6 * s + 1) (A 5 0) (zI (kd : Nat))) (5 + 6 * s + 2) (A 5 0) (zI (fg : Nat))) (5 + 6 * s + 3) (A 5 0) (zI (ce : Nat))) (5 + 6 * s + 4) (A 5 0) (zI (bl : Nat))) s 6 (zI ((A 5 0 + 1 : Nat) : Int))) s) (addP A kd fg ce bl) := by
  have hs3 : 1 ≤ s ∧ s ≤ 3 := by rcases hs with rfl | rfl | rfl <;> omega
  refine hA.add hlt h1 h2 h3 h4 (fun k hk => ?_) (fun q a b k hk => ?_) ?_ ?_ ?_ ?_ ?_ ?_
  · rw [vC_row (by omega), vC_row (by omega), mset_row (by omega), mset_row (by omega), mset_row (by omega), mset_row (by omega), mset_row (by omega)]
  · rw [vC_row (by omega), vC_row (by omega), mset_row (by omega)]
    rw [mset_ne _ _ _ _ (by omega), mset_ne _ _ _ _ (by omega), mset_ne _ _ _ _ (by omega), mset_ne _ _ _ _ (by omega)]
  · rw [vC_obj, mset_eq]
  · rw [vC_obj, vC_obj, mset_ne _ _ _ _ (by omega), mset_row (by omega), mset_row (by omega), mset_row (by omega), mset_row (by omega)]
  · rw [vC_row (by omega), mset_row (by omega), mset_row (by omega), mset_row (by omega), mset_row (by omega), mset_eq]
  · rw [vC_row (by omega), mset_row (by omega), mset_row (by omega), mset_row (by omega), mset_eq]
  · rw [vC_row (by omega), mset_row (by omega), mset_row (by omega), mset_eq]
  · rw [vC_row (by omega), mset_row (by omega), mset_eq]
theorem take_rep {X : Mem} {s t : Nat} {B : Sl} (hs : 1 ≤ s ∧ s ≤ 3) (ht : 1 ≤ t ∧ t ≤ 3) (hst : ¬ s = t) (hB : Rp (vC X t) B) :
    Rp (vC (mset (mset (mcpy (mcpy (mcpy (mcpy (mcpy X (5 + 6 * t + 0) (5 + 6 * s + 0) 0 0 25) (5 + 6 * t + 1) (5 + 6 * s + 1) 0 0 8) (5 + 6 * t + 2) (5 + 6 * s + 2) 0 0 8) (5 + 6 * t + 3) (5 + 6 * s + 3) 0 0 8) (5 + 6 * t + 4) (5 + 6 * s + 4) 0 0 8) s 6 (zI ((B 5 0 : Nat) : Int))) s 7 (zI ((B 5 1 : Nat) : Int))) s) B := by
  have hn := hB.n8
  refine hB.same (fun k hk => ?_) (fun q a b k hk => ?_) ?_ ?_
  · rw [vC_row (by omega), vC_row (by omega), mset_row (by omega), mset_row (by omega), mcpy_row (by omega), mcpy_row (by omega), mcpy_row (by omega), mcpy_row (by omega), mcpy_at hk]
  · rw [vC_row (by omega), vC_row (by omega), mset_row (by omega), mset_row (by omega)]
    rcases (show q = 1 ∨ q = 2 ∨ q = 3 ∨ q = 4 by omega) with rfl | rfl | rfl | rfl
    · rw [mcpy_row (by omega), mcpy_row (by omega), mcpy_row (by omega), mcpy_at hk, mcpy_row (by omega)]
    · rw [mcpy_row (by omega), mcpy_row (by omega), mcpy_at hk, mcpy_row (by omega), mcpy_row (by omega)]
    · rw [mcpy_row (by omega), mcpy_at hk, mcpy_row (by omega), mcpy_row (by omega), mcpy_row (by omega)]
    · rw [mcpy_at hk, mcpy_row (by omega), mcpy_row (by omega), mcpy_row (by omega), mcpy_row (by omega)]
  · rw [vC_obj, mset_ne _ _ _ _ (by omega), mset_eq]; exact hB.2.2.1.symm
  · rw [vC_obj, mset_eq]; exact hB.2.2.2.1.symm
theorem drop_rd {S s i kc r : Nat} {A : Sl} {Y : Mem} (hV : ∀ q, 1 ≤ q → q ≤ 4 → ∀ k, k < A 5 0 → Y (5 + 6 * s + q) k = zI (((drN S A i q k : Nat)) : Int)) (hkl : kp S i ≤ i) (hk : kc = kp S i) (h1 : 1 ≤ r) (h4 : r ≤ 4) (hi : i < A 5 0) : Y (5 + 6 * s + r) i = zI ((A r i : Nat) : Int) := by
  rw [hV r h1 h4 i hi, drN_hi i r i (Or.inl hkl)]
theorem drop_skip {S s i : Nat} {A : Sl} {Y : Mem} (e : Nat.testBit S i = true) (hV : ∀ q, 1 ≤ q → q ≤ 4 → ∀ k, k < A 5 0 → Y (5 + 6 * s + q) k = zI (((drN S A i q k : Nat)) : Int)) : ∀ q, 1 ≤ q → q ≤ 4 → ∀ k, k < A 5 0 → Y (5 + 6 * s + q) k = zI (((drN S A (i + 1) q k : Nat)) : Int) := fun q a b k hk => by
  rw [hV q a b k hk]
  show _ = zI (((if Nat.testBit S i = true then drN S A i else _ : Sl) q k : Nat) : Int)
  rw [if_pos e]
theorem drop_step {S s i kc : Nat} {A : Sl} {Y : Mem} (e : Nat.testBit S i = false) (hk : kc = kp S i) (hV : ∀ q, 1 ≤ q → q ≤ 4 → ∀ k, k < A 5 0 → Y (5 + 6 * s + q) k = zI (((drN S A i q k : Nat)) : Int)) : ∀ q, 1 ≤ q → q ≤ 4 → ∀ k, k < A 5 0 →
    (mset (mset (mset (mset Y (5 + 6 * s + 1) kc (zI ((A 1 i : Nat) : Int))) (5 + 6 * s + 2) kc (zI ((A 2 i : Nat) : Int))) (5 + 6 * s + 3) kc (zI ((A 3 i : Nat) : Int))) (5 + 6 * s + 4) kc (zI ((A 4 i : Nat) : Int))) (5 + 6 * s + q) k = zI (((drN S A (i + 1) q k : Nat)) : Int) := fun q a b k hkk => by
  show _ = zI (((if Nat.testBit S i = true then drN S A i else (fun q k => if 1 ≤ q ∧ q ≤ 4 ∧ k = kp S i then A q i else drN S A i q k) : Sl) q k : Nat) : Int)
  rw [if_neg (by rw [e]; decide)]
  show _ = zI (((if 1 ≤ q ∧ q ≤ 4 ∧ k = kp S i then A q i else drN S A i q k : Nat)) : Int)
  by_cases he : k = kp S i
  · rw [if_pos ⟨a, b, he⟩, he, ← hk]
    rcases (show q = 1 ∨ q = 2 ∨ q = 3 ∨ q = 4 by omega) with rfl | rfl | rfl | rfl
    · rw [mset_row (by omega), mset_row (by omega), mset_row (by omega), mset_eq]
    · rw [mset_row (by omega), mset_row (by omega), mset_eq]
    · rw [mset_row (by omega), mset_eq]
    · rw [mset_eq]
  · rw [if_neg (fun z => he z.2.2), mset_ne _ _ _ _ (by omega), mset_ne _ _ _ _ (by omega), mset_ne _ _ _ _ (by omega), mset_ne _ _ _ _ (by omega)]
    exact hV q a b k hkk
theorem drop_rep {X Y : Mem} {S s i kc : Nat} {A : Sl} (hs : 1 ≤ s ∧ s ≤ 3) (hA : Rp (vC X s) A) (hi : i = A 5 0) (hk : kc = kp S i) (hF : ∀ q, (q < 5 + 6 * s + 1 ∨ 5 + 6 * s + 4 < q) → Y q = X q) (hV : ∀ q, 1 ≤ q → q ≤ 4 → ∀ k, k < A 5 0 → Y (5 + 6 * s + q) k = zI (((drN S A i q k : Nat)) : Int)) : Rp (vC (mset Y s 6 (zI ((kc : Nat) : Int))) s) (dropA S A) := by
  have e := emb_drop S A
  have hkl := kp_le S (A 5 0)
  subst hi
  refine ⟨fun k hk2 => ?_, fun q a b k hk2 => ?_, ?_, ?_, dropA_ok hA.ok⟩
  · rw [vC_row (by omega), mset_row (by omega), hF _ (by omega), e.2.1]; exact hA.c0 k hk2
  · rw [e.1] at hk2
    rw [vC_row (by omega), mset_row (by omega), hV q a b k (by omega)]
    unfold dropA
    rw [if_neg (by omega)]
  · rw [vC_obj, mset_eq, e.1, hk]
  · rw [vC_obj, mset_ne _ _ _ _ (by omega), hF _ (by omega)]
    have : dropA S A 5 1 = A 5 1 := by unfold dropA; rw [if_neg (by omega)]; exact drN_hi _ _ _ (by omega)
    rw [this]; exact hA.cy
/-! rows for the walks of thought -/
theorem b2i_ff {b : Bool} (h : b = false) : b2i b = 0 := by rw [h]; rfl
theorem nostep {P : Nat → Bool} {i : Nat} (h : ∀ k, k < i → P k = false) (e : P i = false) : ∀ k, k < i + 1 → P k = false := fun k hk => by
  by_cases he : k = i
  · rw [he]; exact e
  · exact h k (by omega)
theorem pow8 {n : Nat} (h : n ≤ 8) : 2 ^ n ≤ 256 := Nat.pow_le_pow_right (by decide) h
def mkP (n : Nat) (A : Sl) (S : Nat) : Bool := allB (goN 0 n (nines S A))
def lvP (n : Nat) (A : Sl) (S : Nat) : Bool := decide (bcnt 0 (goN 0 n (dropA S A)) = 0)
def askF (n : Nat) (A : Sl) (i : Nat) : Int := (bcnt 0 (goN 0 n (setR A 4 i 9)) : Int)
def sitF (p n : Nat) (A : Sl) (c : Nat) : Int := (goN 0 n (setR A 3 p c) 4 p : Int)
def dbtF (n : Nat) (A : Sl) (i : Nat) : Int := (bcnt 0 (goN 0 n (setR A 1 i 3)) : Int)
def strF (n : Nat) (A : Sl) : Int := if 8 ≤ A 5 0 then -9 else (bcnt 0 (goN 0 n (addP A 0 0 24 9)) : Int) - b2i (bel (goN 0 n (addP A 0 0 24 9)) (A 5 0)) - (bcnt 0 (goN 0 n A) : Int)
theorem bcnt_drop_le (S n : Nat) (A : Sl) (h : A 5 0 ≤ 8) : bcnt 0 (goN 0 n (dropA S A)) ≤ 8 := by
  have h1 := bcnt_le 0 (goN 0 n (dropA S A))
  rw [goN_n, (emb_drop S A).1] at h1
  have h2 := kp_le S (A 5 0)
  omega
theorem sitF_r {p n c : Nat} {A : Sl} (hok : OKs A) (hp : p < A 5 0) (hc : c < 25) : 0 ≤ sitF p n A c ∧ sitF p n A c ≤ 9 := by
  have h1 : OKs (setR A 3 p c) := setR_ok hok (by omega) (by omega)
  have h2 := goN_ok (G := 0) h1 n
  have h3 := (h2.2.2 p (by rw [goN_n]; exact hp)).2.2.2
  unfold sitF; omega
/-- the first i of those of the bits S believe all they can -/
def ninesN (S i : Nat) (A : Sl) : Sl := fun q k => if q = 4 ∧ k < i ∧ S.testBit k = true then 9 else A q k
theorem ninesN_o {S i : Nat} {A : Sl} {q k : Nat} (h : ¬ q = 4) : ninesN S i A q k = A q k := if_neg (fun z => h z.1)
theorem nines_o {S : Nat} {A : Sl} {q k : Nat} (h : ¬ q = 4) : nines S A q k = A q k := if_neg (fun z => h z.1)
theorem setR_o {A : Sl} {r i v q k : Nat} (h : ¬ q = r) : setR A r i v q k = A q k := if_neg (fun z => h z.1)
theorem nines_0 {f : Nat → Nat → Int32} {A : Sl} (S : Nat) (h : Rp f A) : Rp f (ninesN S 0 A) :=
  h.congr rfl rfl (fun k _ => ninesN_o (by omega)) (fun q _ _ k _ => if_neg (fun z => absurd z.2.1 (Nat.not_lt_zero _)))
theorem nines_t {f : Nat → Nat → Int32} {A : Sl} {S i : Nat} (h : Rp f (setR (ninesN S i A) 4 i 9)) (e : Nat.testBit S i = true) : Rp f (ninesN S (i + 1) A) := by
  refine h.congr rfl rfl (fun k _ => ?_) (fun q a b k hk => ?_)
  · rw [ninesN_o (by omega), setR_o (by omega), ninesN_o (by omega)]
  · by_cases hq : q = 4
    · subst hq
      unfold setR ninesN
      by_cases hki : k = i
      · subst hki; rw [if_pos ⟨rfl, by omega, e⟩, if_pos ⟨rfl, rfl⟩]
      · by_cases hb : k < i ∧ Nat.testBit S k = true
        · rw [if_pos ⟨rfl, Nat.lt_succ_of_lt hb.1, hb.2⟩, if_neg (fun z => hki z.2), if_pos ⟨rfl, hb.1, hb.2⟩]
        · rw [if_neg (fun z => hb ⟨by have := z.2.1; omega, z.2.2⟩), if_neg (fun z => hki z.2), if_neg (fun z => hb ⟨z.2.1, z.2.2⟩)]
    · rw [ninesN_o hq, setR_o hq, ninesN_o hq]
theorem nines_f {f : Nat → Nat → Int32} {A : Sl} {S i : Nat} (h : Rp f (ninesN S i A)) (e : Nat.testBit S i = false) : Rp f (ninesN S (i + 1) A) := by
  refine h.congr rfl rfl (fun k _ => ?_) (fun q a b k hk => ?_)
  · rw [ninesN_o (by omega), ninesN_o (by omega)]
  · by_cases hq : q = 4
    · subst hq
      unfold ninesN
      by_cases hki : k = i
      · subst hki; rw [if_neg (fun z => by rw [e] at z; exact absurd z.2.2 (by decide)), if_neg (fun z => by rw [e] at z; exact absurd z.2.2 (by decide))]
      · by_cases hb : k < i ∧ Nat.testBit S k = true
        · rw [if_pos ⟨rfl, Nat.lt_succ_of_lt hb.1, hb.2⟩, if_pos ⟨rfl, hb.1, hb.2⟩]
        · rw [if_neg (fun z => hb ⟨by have := z.2.1; omega, z.2.2⟩), if_neg (fun z => hb ⟨z.2.1, z.2.2⟩)]
    · rw [ninesN_o hq, ninesN_o hq]
theorem nines_end {f : Nat → Nat → Int32} {A : Sl} {S i : Nat} (hi : i = A 5 0) (h : Rp f (ninesN S i A)) : Rp f (nines S A) := by
  refine h.congr rfl rfl (fun k _ => ?_) (fun q a b k hk => ?_)
  · rw [ninesN_o (by omega), nines_o (by omega)]
  · have hk' : k < A 5 0 := hk
    by_cases hq : q = 4
    · subst hq
      unfold ninesN nines
      by_cases hb : Nat.testBit S k = true
      · rw [if_pos ⟨rfl, hb⟩, if_pos ⟨rfl, by omega, hb⟩]
      · rw [if_neg (fun z => hb z.2), if_neg (fun z => hb z.2.2)]
    · rw [ninesN_o hq, nines_o hq]
theorem Rp.setC1 {X : Mem} {s i v : Nat} {A : Sl} (h : Rp (vC X s) A) (hs : Sp s) (hv : v ≤ 5) : Rp (vC (mset X (5 + 6 * s + 1) i (zI (v : Nat))) s) (setR A 1 i v) := h.setC hs (by decide) ⟨fun _ => hv, fun z => absurd z (by decide), fun z => absurd z (by decide), fun z => absurd z (by decide)⟩
theorem Rp.setC2 {X : Mem} {s i v : Nat} {A : Sl} (h : Rp (vC X s) A) (hs : Sp s) (hv : v ≤ 9) : Rp (vC (mset X (5 + 6 * s + 2) i (zI (v : Nat))) s) (setR A 2 i v) := h.setC hs (by decide) ⟨fun z => absurd z (by decide), fun _ => hv, fun z => absurd z (by decide), fun z => absurd z (by decide)⟩
theorem Rp.setC3 {X : Mem} {s i v : Nat} {A : Sl} (h : Rp (vC X s) A) (hs : Sp s) (hv : v < 25) : Rp (vC (mset X (5 + 6 * s + 3) i (zI (v : Nat))) s) (setR A 3 i v) := h.setC hs (by decide) ⟨fun z => absurd z (by decide), fun z => absurd z (by decide), fun _ => hv, fun z => absurd z (by decide)⟩
theorem Rp.setC4 {X : Mem} {s i v : Nat} {A : Sl} (h : Rp (vC X s) A) (hs : Sp s) (hv : v ≤ 9) : Rp (vC (mset X (5 + 6 * s + 4) i (zI (v : Nat))) s) (setR A 4 i v) := h.setC hs (by decide) ⟨fun z => absurd z (by decide), fun z => absurd z (by decide), fun z => absurd z (by decide), fun _ => hv⟩
theorem best_r {p n : Nat} {A : Sl} (hok : OKs A) (hp : p < A 5 0) : 0 ≤ (mxr (sitF p n A) 0 (-1) 25).1 ∧ (mxr (sitF p n A) 0 (-1) 25).1 < 25 := by
  have key : ∀ k, k ≤ 25 → 0 ≤ (mxr (sitF p n A) 0 (-1) k).1 ∧ (mxr (sitF p n A) 0 (-1) k).1 < 25 := by
    intro k
    induction k with
    | zero => intro _; exact ⟨Int.le_refl _, by show (0 : Int) < 25; decide⟩
    | succ k ih =>
      intro hk
      have := ih (by omega)
      rw [mxr_s]
      split
      · show 0 ≤ (k : Int) ∧ (k : Int) < 25; omega
      · exact this
  exact key 25 (Nat.le_refl _)
