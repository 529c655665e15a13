/-! rows that the walks use -/
theorem b2i_0 {b : Bool} (h : b2i b = 0) : b = false := by cases b <;> first | rfl | (exact absurd h (by decide))
theorem b2i_1 {b : Bool} (h : ¬ b2i b = 0) : b = true := by cases b <;> first | rfl | (exact absurd rfl h)
theorem bitsB_t {b n : Nat} {P : Nat → Bool} (h : P n = true) (hb : b = bitsB n P) : b ||| 2 ^ n = bitsB (n + 1) P := by
  rw [bitsB_s, if_pos h, hb, or_pow (bitsB_lt n P)]
theorem bitsB_f {b n : Nat} {P : Nat → Bool} (h : P n = false) (hb : b = bitsB n P) : b = bitsB (n + 1) P := by
  rw [bitsB_s, if_neg (by rw [h]; decide), hb, Nat.add_zero]
theorem cntB_t {b n : Nat} {P : Nat → Bool} (h : P n = true) (hb : b = cntB n P) : b + 1 = cntB (n + 1) P := by
  rw [cntB_s, if_pos h, hb]
theorem cntB_f {b n : Nat} {P : Nat → Bool} (h : P n = false) (hb : b = cntB n P) : b = cntB (n + 1) P := by
  rw [cntB_s, if_neg (by rw [h]; decide), hb, Nat.add_zero]
theorem mxB_t {n : Nat} {P : Nat → Bool} {f : Nat → Nat} (h : P n = true) : mxB (n + 1) P f = max (mxB n P f) (f n) := by rw [mxB_s, if_pos h]
theorem mxB_f {n : Nat} {P : Nat → Bool} {f : Nat → Nat} (h : P n = false) : mxB (n + 1) P f = mxB n P f := by rw [mxB_s, if_neg (by rw [h]; decide)]
theorem bes0_t {A : Sl} {p q : Nat} (h : ¬ p = q) (hs : stp (A 3 p) (A 3 q) ≤ 2) : bes 0 A p q = true := by simp [bes, h, hs]
theorem bes0_f {A : Sl} {p q : Nat} (h : p = q ∨ 2 < stp (A 3 p) (A 3 q)) : bes 0 A p q = false := by
  rcases h with h | h
  · simp [bes, h]
  · have : ¬ stp (A 3 p) (A 3 q) ≤ 2 := by omega
    simp [bes, this]
theorem allB_le {A : Sl} (h : OKs A) : sumB (A 5 0) (A 4) ≤ 72 := by
  have h1 := sumB_le (A 5 0) (f := A 4) (m := 9) (fun k hk => (h.2.2 k hk).2.2.2)
  have h2 := h.1
  omega
def orB : Nat → (Nat → Bool) → Bool
  | 0, _ => false
  | n + 1, P => orB n P || P n
theorem b2i_or (a b : Bool) : zI (b2i a) ||| zI (b2i b) = zI (b2i (a || b)) := by cases a <;> cases b <;> decide
def bc1 (S : Nat) : Nat := S / 2
def bc2 (S : Nat) : Nat := bc1 S &&& 1431655765
def bc3 (S : Nat) : Nat := S - bc2 S
def bc4 (S : Nat) : Nat := bc3 S &&& 858993459
def bc5 (S : Nat) : Nat := bc3 S / 4
def bc6 (S : Nat) : Nat := bc5 S &&& 858993459
def bc7 (S : Nat) : Nat := bc4 S + bc6 S
def bc8 (S : Nat) : Nat := bc7 S / 16
def bc9 (S : Nat) : Nat := bc7 S + bc8 S
def bc10 (S : Nat) : Nat := bc9 S &&& 252645135
def bc11 (S : Nat) : Nat := bc10 S / 256
def bc12 (S : Nat) : Nat := bc10 S + bc11 S
def bc13 (S : Nat) : Nat := bc12 S / 65536
def bc14 (S : Nat) : Nat := bc12 S + bc13 S
def bc15 (S : Nat) : Nat := bc14 S &&& 63
set_option maxRecDepth 20000 in
theorem bc1_ok : ∀ S : Nat, S < 256 → ((zI (S : Int)).toUInt32 >>> ((zI 1).toUInt32 &&& Int32.toUInt32 31)).toInt32 = zI (bc1 S : Int) := by decide +kernel
set_option maxRecDepth 20000 in
theorem bc2_ok : ∀ S : Nat, S < 256 → zI (bc1 S : Int) &&& zI 1431655765 = zI (bc2 S : Int) := by decide +kernel
set_option maxRecDepth 20000 in
theorem bc3_ok : ∀ S : Nat, S < 256 → (S : Int) - (bc2 S : Int) = (bc3 S : Int) := by decide +kernel
set_option maxRecDepth 20000 in
theorem bc4_ok : ∀ S : Nat, S < 256 → zI (bc3 S : Int) &&& zI 858993459 = zI (bc4 S : Int) := by decide +kernel
set_option maxRecDepth 20000 in
theorem bc5_ok : ∀ S : Nat, S < 256 → ((zI (bc3 S : Int)).toUInt32 >>> ((zI 2).toUInt32 &&& Int32.toUInt32 31)).toInt32 = zI (bc5 S : Int) := by decide +kernel
set_option maxRecDepth 20000 in
theorem bc6_ok : ∀ S : Nat, S < 256 → zI (bc5 S : Int) &&& zI 858993459 = zI (bc6 S : Int) := by decide +kernel
set_option maxRecDepth 20000 in
theorem bc7_ok : ∀ S : Nat, S < 256 → (bc4 S : Int) + (bc6 S : Int) = (bc7 S : Int) := by decide +kernel
set_option maxRecDepth 20000 in
theorem bc8_ok : ∀ S : Nat, S < 256 → ((zI (bc7 S : Int)).toUInt32 >>> ((zI 4).toUInt32 &&& Int32.toUInt32 31)).toInt32 = zI (bc8 S : Int) := by decide +kernel
set_option maxRecDepth 20000 in
theorem bc9_ok : ∀ S : Nat, S < 256 → (bc7 S : Int) + (bc8 S : Int) = (bc9 S : Int) := by decide +kernel
set_option maxRecDepth 20000 in
theorem bc10_ok : ∀ S : Nat, S < 256 → zI (bc9 S : Int) &&& zI 252645135 = zI (bc10 S : Int) := by decide +kernel
set_option maxRecDepth 20000 in
theorem bc11_ok : ∀ S : Nat, S < 256 → ((zI (bc10 S : Int)).toUInt32 >>> ((zI 8).toUInt32 &&& Int32.toUInt32 31)).toInt32 = zI (bc11 S : Int) := by decide +kernel
set_option maxRecDepth 20000 in
theorem bc12_ok : ∀ S : Nat, S < 256 → (bc10 S : Int) + (bc11 S : Int) = (bc12 S : Int) := by decide +kernel
set_option maxRecDepth 20000 in
theorem bc13_ok : ∀ S : Nat, S < 256 → ((zI (bc12 S : Int)).toUInt32 >>> ((zI 16).toUInt32 &&& Int32.toUInt32 31)).toInt32 = zI (bc13 S : Int) := by decide +kernel
set_option maxRecDepth 20000 in
theorem bc14_ok : ∀ S : Nat, S < 256 → (bc12 S : Int) + (bc13 S : Int) = (bc14 S : Int) := by decide +kernel
set_option maxRecDepth 20000 in
theorem bc15_ok : ∀ S : Nat, S < 256 → zI (bc14 S : Int) &&& zI 63 = zI (bc15 S : Int) := by decide +kernel
set_option maxRecDepth 20000 in
theorem bc_pop : ∀ S : Nat, S < 256 → bc15 S = pop S := by decide +kernel
theorem cmpI_cases (x y : Int) : (x < y ∧ cmpI x y = -1) ∨ (x = y ∧ cmpI x y = 0) ∨ (y < x ∧ cmpI x y = 1) := by
  unfold cmpI
  by_cases h : x < y
  · rw [if_pos h]; exact Or.inl ⟨h, rfl⟩
  · rw [if_neg h]
    by_cases h2 : x = y
    · rw [if_pos h2]; exact Or.inr (Or.inl ⟨h2, rfl⟩)
    · rw [if_neg h2]; exact Or.inr (Or.inr ⟨by omega, rfl⟩)
theorem toward_cases (a b : Nat) : (a / 5 < b / 5 ∧ toward a b = a + 5) ∨ (b / 5 < a / 5 ∧ toward a b = a - 5) ∨ (a / 5 = b / 5 ∧ a % 5 < b % 5 ∧ toward a b = a + 1) ∨ (a / 5 = b / 5 ∧ b % 5 < a % 5 ∧ toward a b = a - 1) ∨ (a / 5 = b / 5 ∧ a % 5 = b % 5 ∧ toward a b = a) := by
  unfold toward
  by_cases h1 : a / 5 < b / 5
  · rw [if_pos h1]; omega
  · rw [if_neg h1]
    by_cases h2 : b / 5 < a / 5
    · rw [if_pos h2]; omega
    · rw [if_neg h2]
      by_cases h3 : a % 5 < b % 5
      · rw [if_pos h3]; omega
      · rw [if_neg h3]
        by_cases h4 : b % 5 < a % 5
        · rw [if_pos h4]; omega
        · rw [if_neg h4]; omega
theorem toward_self (a : Nat) : toward a a = a := by have := toward_cases a a; omega
/-- the next BELIEF by the KIND -/
def nok (k : Nat) (g f c : Int) (b : Nat) : Int := if k = 1 then f else if k = 2 then c else if k = 3 then g - 1 else if k = 4 then max f b else if k = 5 then c + 1 else g
theorem nok_r {k b : Nat} {g f c : Int} (hg : -100 ≤ g ∧ g ≤ 100) (hf : -100 ≤ f ∧ f ≤ 100) (hc : -100 ≤ c ∧ c ≤ 100) (hb : b ≤ 9) : -101 ≤ nok k g f c b ∧ nok k g f c b ≤ 101 := by
  unfold nok
  repeat' split
  all_goals omega
def lnI (A : Sl) (p i : Nat) : Int := 2 * (cntB i (fun q => bes 0 A p q && bel A q) : Int) - (cntB i (bes 0 A p) : Int)
def grI (A : Sl) (p i : Nat) : Int := if cntB i (bes 0 A p) = 0 then -1 else (mxB i (bes 0 A p) (A 4) : Int)
theorem ln_f {A : Sl} {p i : Nat} {ln : Int} (e : bes 0 A p i = false) (h : ln = lnI A p i) : ln = lnI A p (i + 1) := by
  rw [h]; unfold lnI; rw [cntB_s, cntB_s]; simp [e]
theorem ln_b {A : Sl} {p i : Nat} {ln : Int} (e : bes 0 A p i = true) (e2 : bel A i = true) (h : ln = lnI A p i) : ln + 1 = lnI A p (i + 1) := by
  rw [h]; unfold lnI; rw [cntB_s, cntB_s]; simp [e, e2]; omega
theorem ln_n {A : Sl} {p i : Nat} {ln : Int} (e : bes 0 A p i = true) (e2 : bel A i = false) (h : ln = lnI A p i) : ln + (-1) = lnI A p (i + 1) := by
  rw [h]; unfold lnI; rw [cntB_s, cntB_s]; simp [e, e2]; omega
theorem lnI_r {A : Sl} {p i : Nat} (hi : i ≤ 8) : -8 ≤ lnI A p i ∧ lnI A p i ≤ 16 := by
  have h1 := cntB_le i (fun q => bes 0 A p q && bel A q)
  have h2 := cntB_le i (bes 0 A p)
  unfold lnI; omega
theorem gr_f {A : Sl} {p i : Nat} {gr : Int} (e : bes 0 A p i = false) (h : gr = grI A p i) : gr = grI A p (i + 1) := by
  rw [h]; unfold grI; rw [cntB_s, mxB_f e]; simp [e]
theorem mxB_0 {n : Nat} {P : Nat → Bool} {f : Nat → Nat} (h : cntB n P = 0) : mxB n P f = 0 := by
  induction n with
  | zero => rfl
  | succ n ih =>
    rw [cntB_s] at h
    by_cases hp : P n = true
    · rw [if_pos hp] at h; omega
    · rw [mxB_s, if_neg hp]; exact ih (by omega)
theorem gr_t {A : Sl} {p i : Nat} {gr : Int} (e : bes 0 A p i = true) (h : gr = grI A p i) : max gr (A 4 i : Int) = grI A p (i + 1) := by
  rw [h]; unfold grI; rw [cntB_s, mxB_t e, if_pos e, if_neg (by omega : ¬ cntB i (bes 0 A p) + 1 = 0)]
  by_cases h0 : cntB i (bes 0 A p) = 0
  · rw [if_pos h0]
    have : mxB i (bes 0 A p) (A 4) = 0 := mxB_0 h0
    rw [this]; omega
  · rw [if_neg h0]; omega
theorem nb_ok {A : Sl} {p w : Nat} {ln gr g f c : Int} (hln : ln = lnI A p (A 5 0)) (hgr : gr = grI A p (A 5 0)) (hgb : -1 ≤ gr ∧ gr ≤ 9) (hg : g = (A 4 p : Int) + cmpI ln 0) (hf : f = g + (if stp (A 3 p) w ≤ A 2 p then 1 else 0)) (hc : c = if gr < 0 then (A 4 p : Int) else gr) : max 0 (min 9 (nok (A 1 p) g f c (A 4 p))) = ((nextB 0 A p w : Nat) : Int) := by
  have e1 : g = guest 0 A p := by
    rw [hg, hln]
    unfold guest many bbl
    have := cmpI_cases (lnI A p (A 5 0)) 0
    unfold lnI at this ⊢
    repeat' split
    all_goals omega
  have e2 : f = friend 0 A p w := by rw [hf, e1]; rfl
  have e3 : c = ((child 0 A p : Nat) : Int) := by
    rw [hc, hgr]
    unfold grI child many
    by_cases h0 : cntB (A 5 0) (bes 0 A p) = 0
    · rw [if_pos h0, if_pos h0, if_pos (by omega)]
    · rw [if_neg h0, if_neg h0, if_neg (by omega)]
  rw [e1, e2, e3]
  unfold nok nextB clamp
  repeat' split
  all_goals omega
/-- what DEPTH becomes -/
def dpn (A : Sl) (w m k : Nat) : Nat := if k = w then min 99 (A 0 k + m) else A 0 k - 1
theorem ite_step {α : Type} {k i : Nat} {a b : α} (h : ¬ k = i) : (if k < i + 1 then a else b) = if k < i then a else b := by
  by_cases h2 : k < i
  · rw [if_pos h2, if_pos (by omega)]
  · rw [if_neg h2, if_neg (by omega)]
theorem arr_put {Y : Mem} {Q i n : Nat} {v : Int} {F G : Nat → Int} (hD : ∀ k, k < n → Y Q k = zI (F k)) (hv : v = G i) (hG : ∀ k, k < n → ¬ k = i → G k = F k) : ∀ k, k < n → mset Y Q i (zI v) Q k = zI (G k) := by
  intro k hk
  by_cases h : k = i
  · subst h; rw [mset_eq, hv]
  · rw [mset_ne _ _ _ _ (fun z => h z.2), hD k hk, hG k hk h]
theorem arr_grow {Y : Mem} {Q i : Nat} {v : Int} {G : Nat → Int} (hD : ∀ k, k < i → Y Q k = zI (G k)) (hv : v = G i) : ∀ k, k < i + 1 → mset Y Q i (zI v) Q k = zI (G k) := by
  intro k hk
  by_cases h : k = i
  · subst h; rw [mset_eq, hv]
  · rw [mset_ne _ _ _ _ (fun z => h z.2), hD k (by omega)]
theorem arr_keep {Y : Mem} {Q i n : Nat} {F G : Nat → Int} (hD : ∀ k, k < n → Y Q k = zI (F k)) (hv : F i = G i) (hG : ∀ k, k < n → ¬ k = i → G k = F k) : ∀ k, k < n → Y Q k = zI (G k) := by
  intro k hk
  by_cases h : k = i
  · subst h; rw [hD k hk, hv]
  · rw [hD k hk, hG k hk h]
theorem orB_1 {cb x : Bool} {i : Nat} {P : Nat → Bool} (h : cb = orB i P) (hx : P i = x) : (cb || x) = orB (i + 1) P := by
  show _ = (orB i P || P i)
  rw [h, hx]
theorem orB_3 {i : Nat} {P : Nat → Bool} (hx : P i = true) : true = orB (i + 1) P := by
  show _ = (orB i P || P i)
  rw [hx, Bool.or_true]
/-- whether something of one changes in the next YEAR -/
def chP (G : Nat) (A : Sl) (k : Nat) : Bool := decide (¬ nextB G A k (here A) = A 4 k) || (decide (5 ≤ nextB G A k (here A)) && decide (¬ A 3 k = here A))
theorem ch_1 {A : Sl} {i : Nat} (h : nextB 0 A i (here A) = A 4 i) (h2 : ¬ 5 ≤ nextB 0 A i (here A) ∨ A 3 i = here A) : chP 0 A i = false := by
  unfold chP
  rcases h2 with h2 | h2
  · simp only [h, h2, not_true_eq_false, decide_false, Bool.false_or, Bool.false_and]
    rw [h] at h2
    simp [h2]
  · simp [h, h2]
theorem ch_2 {A : Sl} {i : Nat} (h : ¬ nextB 0 A i (here A) = A 4 i) : chP 0 A i = true := by simp [chP, h]
theorem ch_3 {A : Sl} {i : Nat} (h : 5 ≤ nextB 0 A i (here A)) (h2 : ¬ A 3 i = here A) : chP 0 A i = true := by simp [chP, h, h2]
def ycell (A : Sl) (k : Nat) : Nat := if 5 ≤ nextB 0 A k (here A) then toward (A 3 k) (here A) else A 3 k
theorem ycell_s {A : Sl} {i : Nat} (h : ¬ 5 ≤ nextB 0 A i (here A) ∨ A 3 i = here A) : ycell A i = A 3 i := by
  unfold ycell
  rcases h with h | h
  · rw [if_neg h]
  · rw [h, toward_self]; split <;> rfl
theorem ycell_m {A : Sl} {i : Nat} (h : 5 ≤ nextB 0 A i (here A)) : ycell A i = toward (A 3 i) (here A) := if_pos h
/-- nothing but slope s changes -/
def frS (s : Nat) (X X' : Mem) : Prop := ∀ q, ¬ q = s → (q < 5 + 6 * s ∨ 10 + 6 * s < q) → X' q = X q
theorem frS_rf (s : Nat) (X : Mem) : frS s X X := fun _ _ _ => rfl
theorem frS_tr {s : Nat} {X Y Z : Mem} (h1 : frS s X Y) (h2 : frS s Y Z) : frS s X Z := fun q a b => (h2 q a b).trans (h1 q a b)
theorem py_rep {s m i : Nat} {A : Sl} {wd : Bool} {X X48 Y Z : Mem} (hs3 : 1 ≤ s ∧ s ≤ 3) (hA : Rp (vC X s) A) (hm : m = if wd = true then 0 else blvAt 0 A (here A)) (hd : ∀ k, k < 25 → X48 (5 + 6 * s + 0) k = zI ((dpn A (here A) m k : Nat) : Int)) (hf : ∀ q, ¬ q = 5 + 6 * s + 0 → X48 q = Y q) (hF : ∀ q, ¬ q = 5 + 6 * s + 5 → Y q = X q)
    (hG : ∀ q, ¬ q = 5 + 6 * s + 3 → ¬ q = 5 + 6 * s + 4 → Z q = (mset X48 s 7 (zI ((A 5 1 + 1 : Nat) : Int))) q) (hi : A 5 0 ≤ i) (hB : ∀ k, k < A 5 0 → Z (5 + 6 * s + 4) k = zI (((if k < i then nextB 0 A k (here A) else A 4 k : Nat)) : Int)) (hC : ∀ k, k < A 5 0 → Z (5 + 6 * s + 3) k = zI (((if k < i then ycell A k else A 3 k : Nat)) : Int)) : Rp (vC Z s) (year 0 wd A) := by
  have hrow : ∀ q, q < 5 → vC Z s q = Z (5 + 6 * s + q) := fun q hq => by funext k; unfold vC; rw [if_pos hq]
  refine ⟨fun k hk => ?_, fun q h1 h2 k hk => ?_, ?_, ?_, year_ok hA.ok⟩
  · rw [hrow 0 (by omega), hG _ (by omega) (by omega), mset_row (by omega), hd k hk]
    subst hm
    rfl
  · rw [hrow q (by omega)]
    have hk' : k < A 5 0 := hk
    rcases (show q = 1 ∨ q = 2 ∨ q = 3 ∨ q = 4 by omega) with rfl | rfl | rfl | rfl
    · rw [hG _ (by omega) (by omega), mset_row (by omega), hf _ (by omega), hF _ (by omega)]
      exact hA.c1 k hk'
    · rw [hG _ (by omega) (by omega), mset_row (by omega), hf _ (by omega), hF _ (by omega)]
      exact hA.c2 k hk'
    · rw [hC k hk', if_pos (by omega)]; rfl
    · rw [hB k hk', if_pos (by omega)]; rfl
  · show Z s 6 = _
    rw [hG s (by omega) (by omega), mset_ne _ _ _ _ (by omega), hf s (by omega), hF s (by omega)]
    exact hA.cn
  · show Z s 7 = _
    rw [hG s (by omega) (by omega), mset_eq]; rfl
theorem py_fr {s : Nat} {v : Int32} {X X48 Y Z : Mem} (hF : ∀ q, ¬ q = 5 + 6 * s + 5 → Y q = X q) (hf : ∀ q, ¬ q = 5 + 6 * s + 0 → X48 q = Y q) (hG : ∀ q, ¬ q = 5 + 6 * s + 3 → ¬ q = 5 + 6 * s + 4 → Z q = (mset X48 s 7 v) q) : frS s X Z := fun q h1 h2 => by
  rw [hG q (by omega) (by omega), mset_row h1, hf q (by omega), hF q (by omega)]
theorem mset_swap {X : Mem} {q r k j : Nat} {u v : Int32} (h : ¬ q = r) : mset (mset X q k u) r j v = mset (mset X r j v) q k u := by
  funext a b
  by_cases h1 : a = q ∧ b = k
  · rw [mset_ne _ _ _ _ (fun z => h (h1.1.symm.trans z.1)), h1.1, h1.2, mset_eq, mset_eq]
  · by_cases h2 : a = r ∧ b = j
    · rw [h2.1, h2.2, mset_eq, mset_ne _ _ _ _ (fun z => h z.1.symm), mset_eq]
    · rw [mset_ne _ _ _ _ h2, mset_ne _ _ _ _ h1, mset_ne _ _ _ _ h1, mset_ne _ _ _ _ h2]
theorem b2iT {t : Bool} (h : t = true) : (1 : Int) = b2i t := by rw [h]; rfl
theorem b2iF {t : Bool} (h : t = false) : (0 : Int) = b2i t := by rw [h]; rfl
theorem ib_t {q n : Nat} {b : Bool} (h : q < n) : b = (decide (q < n) && b) := by simp [h]
theorem bitsB_f0 {b n : Nat} {P : Nat → Bool} (h : P n = false) (hb : b = bitsB n P) : b ||| 0 = bitsB (n + 1) P := by
  rw [Nat.or_zero]; exact bitsB_f h hb
theorem pop_step {S b i : Nat} (hb : b = cntB i (fun k => S.testBit k)) : b + (S / 2 ^ i &&& 1) = cntB (i + 1) (fun k => S.testBit k) := by
  rw [cntB_s, ← hb, and1, tb_div]
  simp only [decide_eq_true_eq]
  split <;> omega
theorem bes_t {G : Nat} {A : Sl} {p q : Nat} (h : ¬ p = q) (hg : Nat.testBit G q = false) (hs : stp (A 3 p) (A 3 q) ≤ 2) : bes G A p q = true := by simp [bes, h, hs, hg]
theorem bes_f {G : Nat} {A : Sl} {p q : Nat} (h : p = q ∨ Nat.testBit G q = true ∨ 2 < stp (A 3 p) (A 3 q)) : bes G A p q = false := by
  rcases h with h | h | h
  · simp [bes, h]
  · simp [bes, h]
  · have : ¬ stp (A 3 p) (A 3 q) ≤ 2 := by omega
    simp [bes, this]
theorem guest_r {G : Nat} {A : Sl} {p : Nat} (h : A 4 p ≤ 9) : -1 ≤ guest G A p ∧ guest G A p ≤ 10 := by
  unfold guest; repeat' split
  all_goals omega
theorem many_le (G : Nat) (A : Sl) (p : Nat) : many G A p ≤ A 5 0 := cntB_le _ _
theorem bbl_le (G : Nat) (A : Sl) (p : Nat) : bbl G A p ≤ A 5 0 := cntB_le _ _
theorem friend_r {G : Nat} {A : Sl} {p w : Nat} (h : A 4 p ≤ 9) : -1 ≤ friend G A p w ∧ friend G A p w ≤ 11 := by
  have := guest_r (G := G) h
  unfold friend; split <;> omega
theorem child_le {G : Nat} {A : Sl} {p : Nat} (hA : OKs A) (hp : p < A 5 0) : child G A p ≤ 9 := by
  unfold child
  split
  · exact (hA.2.2 p hp).2.2.2
  · exact mxB_le _ (fun k hk => (hA.2.2 k hk).2.2.2)
def hld (v a b : Int) : Int := if v < a then a else if b < v then b else v
theorem hld_cases (v a b : Int) : (v < a ∧ hld v a b = a) ∨ (¬ v < a ∧ b < v ∧ hld v a b = b) ∨ (¬ v < a ∧ ¬ b < v ∧ hld v a b = v) := by
  unfold hld
  by_cases h : v < a
  · rw [if_pos h]; omega
  · rw [if_neg h]
    by_cases h2 : b < v
    · rw [if_pos h2]; omega
    · rw [if_neg h2]; omega
theorem hld_clamp (v : Int) : hld v 0 9 = ((clamp v : Nat) : Int) := by
  have := hld_cases v 0 9
  unfold clamp; omega
theorem mcpy_row {X : Mem} {q r sp dp n a : Nat} (h : ¬ a = r) : mcpy X q r sp dp n a = X a := by simp only [mcpy, if_neg h]
theorem mcpy_at {X : Mem} {q r n k : Nat} (h : k < n) : mcpy X q r 0 0 n r k = X q k := by
  simp only [mcpy, if_true, va_cpy]
  rw [if_pos ⟨Nat.zero_le _, by omega⟩]
  simp
theorem zI_add1 (c : Int32) : zI (c.toInt + 1) = c + 1 := by rw [← zI_add, zI_self]; rfl
def bnd (x a b : Int) : Int := if x < a then -4 else if b < x then -6 else 0
theorem bnd_cases (x a b : Int) : (x < a ∧ bnd x a b = -4) ∨ (¬ x < a ∧ b < x ∧ bnd x a b = -6) ∨ (¬ x < a ∧ ¬ b < x ∧ bnd x a b = 0) := by
  unfold bnd
  by_cases h : x < a
  · rw [if_pos h]; omega
  · rw [if_neg h]
    by_cases h2 : b < x
    · rw [if_pos h2]; omega
    · rw [if_neg h2]; omega
theorem ib_2 {q n G p : Nat} {A : Sl} (h : (decide (q < n) && !(Nat.testBit G q)) = false) : (decide (q < n) && bes G A p q) = false := by
  unfold bes
  cases h1 : decide (q < n) with
  | false => simp
  | true =>
    rw [h1] at h
    simp at h
    simp [h]
theorem ib_3 {q n G : Nat} (h : (decide (q < n) && !(Nat.testBit G q)) = true) : q < n ∧ Nat.testBit G q = false := by
  simpa using h
theorem b2i_nf {b : Bool} (h : b2i (!b) = 0) : b = true := by cases b <;> first | rfl | (exact absurd h (by decide))
theorem b2i_nt {b : Bool} (h : ¬ b2i (!b) = 0) : b = false := by cases b <;> first | rfl | (exact absurd rfl h)
/-- all people, bits -/
def evb (A : Sl) : Nat := 2 ^ A 5 0 - 1
theorem evb_lt {A : Sl} (h : A 5 0 ≤ 8) : evb A < 256 := by
  have : 2 ^ A 5 0 ≤ 2 ^ 8 := Nat.pow_le_pow_right (by decide) h
  have := Nat.two_pow_pos (A 5 0)
  unfold evb; omega
theorem ev_drop {K : Kx} {pc : Nat} {L : List (Option Value)} {st : List Value} {X : Mem} (k : Nat) (kk : Ev K pc (L.set k none) st X) : Ev K pc L st X := by
  obtain ⟨⟨p, l, e, R, s, m, args, below⟩, ⟨meth, c, dC, dI, cI, ad⟩, ⟨A, H0, nL, cells, slots, Q⟩⟩ := K
  intro H locs ls hP hS hl
  refine kk H locs ls hP hS (lv_fewer hl (fun q hq => ?_))
  obtain ⟨j, v, h1, rfl⟩ := (lvs_mem _ 0 q).mp hq
  rw [List.getElem?_set] at h1
  by_cases hk : k = j
  · rw [if_pos hk] at h1
    split at h1 <;> cases h1
  · rw [if_neg hk] at h1
    exact (lvs_mem _ 0 _).mpr ⟨j, v, h1, rfl⟩
theorem arr_if_put {Y : Mem} {Q i n : Nat} {v : Int} {F G : Nat → Nat} (hD : ∀ k, k < n → Y Q k = zI (((if k < i then F k else G k : Nat)) : Int)) (hv : v = ((F i : Nat) : Int)) : ∀ k, k < n → mset Y Q i (zI v) Q k = zI (((if k < i + 1 then F k else G k : Nat)) : Int) := by
  intro k hk
  by_cases h : k = i
  · subst h; rw [mset_eq, hv, if_pos (by omega)]
  · rw [mset_ne _ _ _ _ (fun z => h z.2), hD k hk, ite_step h]
theorem arr_if_keep {Y : Mem} {Q i n : Nat} {F G : Nat → Nat} (hD : ∀ k, k < n → Y Q k = zI (((if k < i then F k else G k : Nat)) : Int)) (hv : F i = G i) : ∀ k, k < n → Y Q k = zI (((if k < i + 1 then F k else G k : Nat)) : Int) := by
  intro k hk
  by_cases h : k = i
  · subst h; rw [hD k hk, if_neg (Nat.lt_irrefl k), if_pos (Nat.lt_succ_self k), hv]
  · rw [hD k hk, ite_step h]
theorem arr_row {Y : Mem} {Q r j n : Nat} {v : Int32} {P : Nat → Int32} (h : ∀ k, k < n → Y Q k = P k) (hne : ¬ Q = r) : ∀ k, k < n → mset Y r j v Q k = P k := fun k hk => by rw [mset_row hne]; exact h k hk
