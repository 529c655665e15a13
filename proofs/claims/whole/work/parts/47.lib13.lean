/-! the reference reads a text -/
theorem mset_mset {X : Mem} {q k : Nat} {u v : Int32} : mset (mset X q k u) q k v = mset X q k v := by
  funext a b
  by_cases h : a = q ∧ b = k
  · rw [h.1, h.2, mset_eq, mset_eq]
  · rw [mset_ne _ _ _ _ h, mset_ne _ _ _ _ h, mset_ne _ _ _ _ h]
theorem mset_self {X : Mem} {q k : Nat} {v : Int32} (h : X q k = v) : mset X q k v = X := by
  funext a b
  by_cases h2 : a = q ∧ b = k
  · rw [h2.1, h2.2, mset_eq, h]
  · rw [mset_ne _ _ _ _ h2]
theorem TxM.set_at {X : Mem} {T : Nat → Nat} {n q k : Nat} {v : Int32} (h : TxM X T n) (hq : (q = 29 ∧ ¬ k = 13) ∨ (37 ≤ q ∧ q ≤ 39)) : TxM (mset X q k v) T n :=
  ⟨by rw [mset_ne _ _ _ _ (by omega)]; exact h.1, h.2.1, fun j hj => by rw [mset_row (by omega)]; exact h.2.2 j hj⟩
def nx (T : Nat → Nat) (n a : Nat) : Int := if a < n then (T a : Int) else -1
theorem nx_cases (T : Nat → Nat) (n a : Nat) : (a < n ∧ nx T n a = (T a : Int)) ∨ (¬ a < n ∧ nx T n a = -1) := by
  unfold nx
  by_cases h : a < n
  · rw [if_pos h]; omega
  · rw [if_neg h]; omega
def digT (T : Nat → Nat) (n b : Nat) : Bool := decide (b < n) && decide (48 ≤ T b ∧ T b ≤ 57)
theorem dig_t {T : Nat → Nat} {n b : Nat} (h : 48 ≤ nx T n b ∧ nx T n b ≤ 57) : digT T n b = true := by
  have := nx_cases T n b
  unfold digT; rw [decide_eq_true (p := b < n) (by omega), decide_eq_true (p := 48 ≤ T b ∧ T b ≤ 57) (by omega)]; rfl
theorem dig_f {T : Nat → Nat} {n b : Nat} (h : ¬ (48 ≤ nx T n b ∧ nx T n b ≤ 57)) : digT T n b = false := by
  have := nx_cases T n b
  unfold digT
  by_cases hb : b < n
  · rw [decide_eq_false (p := 48 ≤ T b ∧ T b ≤ 57) (by omega), Bool.and_false]
  · rw [decide_eq_false hb, Bool.false_and]
def valT (T : Nat → Nat) (a : Nat) : Nat → Nat
  | 0 => 0
  | d + 1 => 10 * valT T a d + (T (a + d) - 48)
theorem valT_s (T : Nat → Nat) (a d : Nat) : valT T a (d + 1) = 10 * valT T a d + (T (a + d) - 48) := rfl
theorem nx_r {X : Mem} {T : Nat → Nat} {n : Nat} (h : TxM X T n) (a : Nat) : -1 ≤ nx T n a ∧ nx T n a ≤ 255 := by
  have h1 := nx_cases T n a
  rcases h1 with ⟨h2, h3⟩ | ⟨_, h3⟩
  · have := (h.2.2 a h2).2; omega
  · omega
def okI (T : Nat → Nat) (n a lo hi : Nat) : Prop := ∀ i, lo ≤ i → i < hi → okT T n a i = true
theorem okI_0 {T : Nat → Nat} {n a lo : Nat} : okI T n a lo lo := fun i h1 h2 => by omega
theorem okI_tr {T : Nat → Nat} {n a lo mi hi : Nat} (h1 : okI T n a lo mi) (h2 : okI T n a mi hi) : okI T n a lo hi := fun i a1 a2 => by
  by_cases h : i < mi
  · exact h1 i a1 h
  · exact h2 i (by omega) a2
theorem ok_dig {T : Nat → Nat} {n a i : Nat} (h1 : i + 1 < lenT (T a)) (h2 : ¬ (T a = 112 ∧ i = 1)) : okT T n a i = digT T n (a + i) := by
  unfold okT digT fitT
  rw [if_neg (by omega), if_neg h2]
theorem ok_digs {T : Nat → Nat} {n a s d : Nat} (h : ∀ i, i < d → digT T n (a + s + i) = true) (h1 : s + d < lenT (T a)) (h2 : ¬ (T a = 112 ∧ s ≤ 1)) : okI T n a s (s + d) := fun i a1 a2 => by
  rw [ok_dig (by omega) (by omega)]
  have := h (i - s) (by omega)
  rw [show a + s + (i - s) = a + i by omega] at this
  exact this
theorem ok_digf {T : Nat → Nat} {n a s j : Nat} (h : digT T n (a + s + j) = false) (h1 : s + j + 1 < lenT (T a)) (h2 : ¬ (T a = 112 ∧ s ≤ 1)) : okT T n a (s + j) = false := by
  rw [ok_dig h1 (by omega), ← Nat.add_assoc]; exact h
theorem ok_kind {T : Nat → Nat} {n a : Nat} (h : T a = 112) : okT T n a 1 = (decide (a + 1 < n) && decide (0 ≤ kindT (T (a + 1)))) := by
  unfold okT fitT
  have h7 : lenT (T a) = 7 := by rw [h]; rfl
  rw [if_neg (by omega), if_pos ⟨h, rfl⟩]
theorem ok_semi {T : Nat → Nat} {n a i : Nat} (h : i + 1 = lenT (T a)) : okT T n a i = (decide (a + i < n) && decide (T (a + i) = 59)) := by
  unfold okT fitT
  rw [if_pos h]
/-- what is told of the STATEMENT at a, from p on -/
def tldP (X : Mem) (T : Nat → Nat) (a p : Nat) : Prop :=
  (T a = 112 → X 39 p = zI (kindT (T (a + 1))) ∧ X 39 (p + 1) = zI ((valT T (a + 2) 1 : Nat) : Int) ∧ X 39 (p + 2) = zI ((valT T (a + 3) 2 : Nat) : Int) ∧ X 39 (p + 3) = zI ((valT T (a + 5) 1 : Nat) : Int)) ∧
  (T a = 104 → X 39 p = zI ((valT T (a + 1) 2 : Nat) : Int) ∧ X 39 (p + 1) = zI ((valT T (a + 3) 2 : Nat) : Int)) ∧
  (T a = 98 → X 39 p = zI ((valT T (a + 1) 1 : Nat) : Int) ∧ X 39 (p + 1) = zI ((valT T (a + 2) 1 : Nat) : Int)) ∧
  (T a = 97 → X 39 p = zI ((valT T (a + 1) 1 : Nat) : Int) ∧ X 39 (p + 1) = zI ((valT T (a + 2) 2 : Nat) : Int)) ∧
  (T a = 121 → X 39 p = zI ((valT T (a + 1) 2 : Nat) : Int))
/-- only the place and what is told from p on changes -/
def rdF (p : Nat) (X X' : Mem) : Prop := (∀ q, ¬ q = 29 → ¬ q = 39 → X' q = X q) ∧ (∀ k, ¬ k = 14 → X' 29 k = X 29 k) ∧ ∀ j, (j < p ∨ p + 4 ≤ j) → X' 39 j = X 39 j
theorem rdF_rf (p : Nat) (X : Mem) : rdF p X X := ⟨fun _ _ _ => rfl, fun _ _ => rfl, fun _ _ => rfl⟩
theorem rdF_at {p : Nat} {X Y : Mem} {v : Int32} (h : rdF p X Y) : rdF p X (mset Y 29 14 v) :=
  ⟨fun q a b => by rw [mset_row a]; exact h.1 q a b, fun k a => by rw [mset_ne _ _ _ _ (by omega)]; exact h.2.1 k a, fun j hj => by rw [mset_row (by omega)]; exact h.2.2 j hj⟩
theorem rdF_put {p k : Nat} {X Y : Mem} {v : Int32} (h : rdF p X Y) (hk : p ≤ k ∧ k < p + 4) : rdF p X (mset Y 39 k v) :=
  ⟨fun q a b => by rw [mset_row b]; exact h.1 q a b, fun j a => by rw [mset_row (by omega)]; exact h.2.1 j a, fun j hj => by rw [mset_ne _ _ _ _ (by omega)]; exact h.2.2 j hj⟩
theorem rdF_tr {p : Nat} {X Y Z : Mem} (h1 : rdF p X Y) (h2 : rdF p Y Z) : rdF p X Z :=
  ⟨fun q a b => (h2.1 q a b).trans (h1.1 q a b), fun k a => (h2.2.1 k a).trans (h1.2.1 k a), fun j a => (h2.2.2 j a).trans (h1.2.2 j a)⟩
/-- how the reading of a STATEMENT's numbers ends -/
def raP (v : Option Value) (X X' : Mem) (T : Nat → Nat) (n a p : Nat) : Prop :=
  (v = some (vi 1) ∧ okI T n a 1 (lenT (T a) - 1) ∧ X' 29 14 = zI ((a + (lenT (T a) - 1) : Nat) : Int) ∧ tldP X' T a p ∧ rdF p X X') ∨
  (∃ j, 1 ≤ j ∧ j + 1 < lenT (T a) ∧ okI T n a 1 j ∧ okT T n a j = false ∧ v = some (vi 0) ∧ X' 29 14 = zI ((a + j : Nat) : Int) ∧ rdF p X X')
/-- heads of two numbers -/
def hd2 (c d1 d2 : Nat) : Prop := (c = 104 ∧ d1 = 2 ∧ d2 = 2) ∨ (c = 98 ∧ d1 = 1 ∧ d2 = 1) ∨ (c = 97 ∧ d1 = 1 ∧ d2 = 2)
theorem hd2_len {c d1 d2 : Nat} (h : hd2 c d1 d2) : lenT c = d1 + d2 + 2 ∧ ¬ c = 112 := by
  have := lenT_cases c
  unfold hd2 at h
  omega
theorem ra2_tt {X : Mem} {T : Nat → Nat} {n a p d1 d2 : Nat} (h : hd2 (T a) d1 d2) (h1 : ∀ i, i < d1 → digT T n (a + 1 + i) = true) (h2 : ∀ i, i < d2 → digT T n (a + 1 + d1 + i) = true) :
    raP (some (vi 1)) X (mset (mset (mset (mset X 29 14 (zI ((a + 1 + d1 : Nat) : Int))) 39 p (zI ((valT T (a + 1) d1 : Nat) : Int))) 29 14 (zI ((a + 1 + d1 + d2 : Nat) : Int))) 39 (p + 1) (zI ((valT T (a + 1 + d1) d2 : Nat) : Int))) T n a p := by
  obtain ⟨hl, hne⟩ := hd2_len h
  refine Or.inl ⟨rfl, ?_, ?_, ?_, rdF_put (rdF_at (rdF_put (rdF_at (rdF_rf p X)) (by omega))) (by omega)⟩
  · rw [hl]
    have e1 := ok_digs (s := 1) h1 (by omega) (by omega)
    have e2 := ok_digs (s := 1 + d1) (d := d2) (by rw [← Nat.add_assoc]; exact h2) (by omega) (by omega)
    have := okI_tr e1 e2
    rw [show d1 + d2 + 2 - 1 = 1 + d1 + d2 by omega]; exact this
  · rw [mset_row (by omega), mset_eq, hl, show a + (d1 + d2 + 2 - 1) = a + 1 + d1 + d2 by omega]
  · have v1 : (mset (mset (mset (mset X 29 14 (zI ((a + 1 + d1 : Nat) : Int))) 39 p (zI ((valT T (a + 1) d1 : Nat) : Int))) 29 14 (zI ((a + 1 + d1 + d2 : Nat) : Int))) 39 (p + 1) (zI ((valT T (a + 1 + d1) d2 : Nat) : Int))) 39 p = zI ((valT T (a + 1) d1 : Nat) : Int) := by
      rw [mset_ne _ _ _ _ (by omega), mset_row (by omega), mset_eq]
    have v2 : (mset (mset (mset (mset X 29 14 (zI ((a + 1 + d1 : Nat) : Int))) 39 p (zI ((valT T (a + 1) d1 : Nat) : Int))) 29 14 (zI ((a + 1 + d1 + d2 : Nat) : Int))) 39 (p + 1) (zI ((valT T (a + 1 + d1) d2 : Nat) : Int))) 39 (p + 1) = zI ((valT T (a + 1 + d1) d2 : Nat) : Int) := mset_eq _ _ _ _
    rcases h with ⟨hc, rfl, rfl⟩ | ⟨hc, rfl, rfl⟩ | ⟨hc, rfl, rfl⟩
    · exact ⟨fun z => by omega, fun _ => ⟨v1, v2⟩, fun z => by omega, fun z => by omega, fun z => by omega⟩
    · exact ⟨fun z => by omega, fun z => by omega, fun _ => ⟨v1, v2⟩, fun z => by omega, fun z => by omega⟩
    · exact ⟨fun z => by omega, fun z => by omega, fun z => by omega, fun _ => ⟨v1, v2⟩, fun z => by omega⟩
theorem ra2_tf {X : Mem} {T : Nat → Nat} {n a p d1 d2 j : Nat} (h : hd2 (T a) d1 d2) (h1 : ∀ i, i < d1 → digT T n (a + 1 + i) = true) (hj : j < d2) (h2 : ∀ i, i < j → digT T n (a + 1 + d1 + i) = true) (hb : digT T n (a + 1 + d1 + j) = false) :
    raP (some (vi 0)) X (mset (mset (mset X 29 14 (zI ((a + 1 + d1 : Nat) : Int))) 39 p (zI ((valT T (a + 1) d1 : Nat) : Int))) 29 14 (zI ((a + 1 + d1 + j : Nat) : Int))) T n a p := by
  obtain ⟨hl, hne⟩ := hd2_len h
  refine Or.inr ⟨1 + d1 + j, by omega, by omega, ?_, ok_digf (s := 1 + d1) (by rw [← Nat.add_assoc]; exact hb) (by omega) (by omega), rfl, ?_, rdF_at (rdF_put (rdF_at (rdF_rf p X)) (by omega))⟩
  · have e1 := ok_digs (s := 1) h1 (by omega) (by omega)
    have e2 := ok_digs (s := 1 + d1) (d := j) (by rw [← Nat.add_assoc]; exact h2) (by omega) (by omega)
    exact okI_tr e1 e2
  · rw [mset_eq, show a + (1 + d1 + j) = a + 1 + d1 + j by omega]
theorem ra2_f {X : Mem} {T : Nat → Nat} {n a p d1 d2 j : Nat} (h : hd2 (T a) d1 d2) (hj : j < d1) (h1 : ∀ i, i < j → digT T n (a + 1 + i) = true) (hb : digT T n (a + 1 + j) = false) :
    raP (some (vi 0)) X (mset X 29 14 (zI ((a + 1 + j : Nat) : Int))) T n a p := by
  obtain ⟨hl, hne⟩ := hd2_len h
  refine Or.inr ⟨1 + j, by omega, by omega, ok_digs (s := 1) h1 (by omega) (by omega), ok_digf (s := 1) hb (by omega) (by omega), rfl, ?_, rdF_at (rdF_rf p X)⟩
  rw [mset_eq, show a + (1 + j) = a + 1 + j by omega]
theorem ra1_t {X : Mem} {T : Nat → Nat} {n a p : Nat} (h : T a = 121) (h1 : ∀ i, i < 2 → digT T n (a + 1 + i) = true) :
    raP (some (vi 1)) X (mset (mset X 29 14 (zI ((a + 1 + 2 : Nat) : Int))) 39 p (zI ((valT T (a + 1) 2 : Nat) : Int))) T n a p := by
  have hl : lenT (T a) = 4 := by rw [h]; rfl
  refine Or.inl ⟨rfl, ?_, ?_, ⟨fun z => by omega, fun z => by omega, fun z => by omega, fun z => by omega, fun _ => mset_eq _ _ _ _⟩, rdF_put (rdF_at (rdF_rf p X)) (by omega)⟩
  · rw [hl]; exact ok_digs (s := 1) (d := 2) h1 (by omega) (by omega)
  · rw [mset_row (by omega), mset_eq, hl]
theorem ra1_f {X : Mem} {T : Nat → Nat} {n a p j : Nat} (h : T a = 121) (hj : j < 2) (h1 : ∀ i, i < j → digT T n (a + 1 + i) = true) (hb : digT T n (a + 1 + j) = false) :
    raP (some (vi 0)) X (mset X 29 14 (zI ((a + 1 + j : Nat) : Int))) T n a p := by
  have hl : lenT (T a) = 4 := by rw [h]; rfl
  refine Or.inr ⟨1 + j, by omega, by omega, ok_digs (s := 1) h1 (by omega) (by omega), ok_digf (s := 1) hb (by omega) (by omega), rfl, ?_, rdF_at (rdF_rf p X)⟩
  rw [mset_eq, show a + (1 + j) = a + 1 + j by omega]
theorem ra3_t {X X' : Mem} {T : Nat → Nat} {n a p : Nat} {z : Int} (h : T a = 112) (hz : z = kindT (nx T n (a + 1)).toNat) (hz0 : 0 ≤ z) (h1 : ∀ i, i < 1 → digT T n (a + 1 + 1 + i) = true) (h2 : ∀ i, i < 2 → digT T n (a + 1 + 1 + 1 + i) = true) (h3 : ∀ i, i < 1 → digT T n (a + 1 + 1 + 1 + 2 + i) = true)
    (hM : X' 29 14 = zI ((a + 1 + 1 + 1 + 2 + 1 : Nat) : Int)) (t0 : X' 39 p = zI z) (t1 : X' 39 (p + 1) = zI ((valT T (a + 1 + 1) 1 : Nat) : Int)) (t2 : X' 39 (p + 2) = zI ((valT T (a + 1 + 1 + 1) 2 : Nat) : Int)) (t3 : X' 39 (p + 3) = zI ((valT T (a + 1 + 1 + 1 + 2) 1 : Nat) : Int)) (hF : rdF p X X') :
    raP (some (vi 1)) X X' T n a p := by
  have hl : lenT (T a) = 7 := by rw [h]; rfl
  have hnx := nx_cases T n (a + 1)
  have hin : a + 1 < n := by
    apply Classical.byContradiction
    intro hno
    have e : nx T n (a + 1) = -1 := by omega
    rw [e] at hz
    have : z = -1 := hz
    omega
  have hzz : z = kindT (T (a + 1)) := by
    have e : nx T n (a + 1) = ((T (a + 1) : Nat) : Int) := by omega
    rw [e] at hz; exact hz
  have k1 : okT T n a 1 = true := by rw [ok_kind h, decide_eq_true hin, decide_eq_true (p := 0 ≤ kindT (T (a + 1))) (by omega)]; rfl
  refine Or.inl ⟨rfl, ?_, by rw [hM, hl], ⟨fun _ => ⟨by rw [t0, hzz], t1, t2, t3⟩, fun z => by omega, fun z => by omega, fun z => by omega, fun z => by omega⟩, hF⟩
  rw [hl]
  have e0 : okI T n a 1 2 := fun i a1 a2 => by rw [show i = 1 by omega]; exact k1
  have e1 : okI T n a 2 3 := ok_digs (s := 2) (d := 1) h1 (by omega) (by omega)
  have e2 : okI T n a 3 5 := ok_digs (s := 3) (d := 2) h2 (by omega) (by omega)
  have e3 : okI T n a 5 6 := ok_digs (s := 5) (d := 1) h3 (by omega) (by omega)
  exact okI_tr (okI_tr (okI_tr e0 e1) e2) e3
/-- a letter that does not fit at s + j of a person's STATEMENT -/
theorem ra3_f {X X' : Mem} {T : Nat → Nat} {n a p s j : Nat} (h : T a = 112) (hs : 2 ≤ s) (hj : s + j < 6) (ho : okI T n a 1 s) (h1 : ∀ i, i < j → digT T n (a + s + i) = true) (hb : digT T n (a + s + j) = false)
    (hM : X' 29 14 = zI ((a + (s + j) : Nat) : Int)) (hF : rdF p X X') : raP (some (vi 0)) X X' T n a p := by
  have hl : lenT (T a) = 7 := by rw [h]; rfl
  exact Or.inr ⟨s + j, by omega, by omega, okI_tr ho (ok_digs (s := s) h1 (by omega) (by omega)), ok_digf (s := s) hb (by omega) (by omega), rfl, hM, hF⟩
theorem ra3_k {X X' : Mem} {T : Nat → Nat} {n a p : Nat} {z : Int} (h : T a = 112) (hz : z = kindT (nx T n (a + 1)).toNat) (hz0 : z < 0)
    (hM : X' 29 14 = zI ((a + 1 : Nat) : Int)) (hF : rdF p X X') : raP (some (vi 0)) X X' T n a p := by
  have hl : lenT (T a) = 7 := by rw [h]; rfl
  have hnx := nx_cases T n (a + 1)
  refine Or.inr ⟨1, by omega, by omega, okI_0, ?_, rfl, hM, hF⟩
  rw [ok_kind h]
  by_cases hin : a + 1 < n
  · have e : nx T n (a + 1) = ((T (a + 1) : Nat) : Int) := by omega
    rw [e] at hz
    have hz2 : z = kindT (T (a + 1)) := hz
    rw [decide_eq_false (p := 0 ≤ kindT (T (a + 1))) (by omega), Bool.and_false]
  · rw [decide_eq_false hin, Bool.false_and]
theorem ok_k1 {T : Nat → Nat} {n a : Nat} {z : Int} (h : T a = 112) (hz : z = kindT (nx T n (a + 1)).toNat) (hz0 : 0 ≤ z) : okI T n a 1 2 := by
  have hnx := nx_cases T n (a + 1)
  have hin : a + 1 < n := by
    apply Classical.byContradiction
    intro hno
    have e : nx T n (a + 1) = -1 := by omega
    rw [e] at hz
    have : z = -1 := hz
    omega
  have e : nx T n (a + 1) = ((T (a + 1) : Nat) : Int) := by omega
  rw [e] at hz
  have hz2 : z = kindT (T (a + 1)) := hz
  intro i a1 a2
  rw [show i = 1 by omega, ok_kind h, decide_eq_true hin, decide_eq_true (p := 0 ≤ kindT (T (a + 1))) (by omega)]; rfl
