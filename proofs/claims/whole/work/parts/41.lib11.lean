/-! the reference's searches, winds, pairs, rows and lots -/
theorem bset_0g {G : Nat} {A : Sl} : (bset G A = 0) ↔ bcnt G A = 0 := by
  unfold bset bcnt
  generalize A 5 0 = n
  generalize (fun p => !(Nat.testBit G p) && bel A p) = P
  induction n with
  | zero => exact ⟨fun _ => rfl, fun _ => rfl⟩
  | succ n ih =>
    have h3 := Nat.two_pow_pos n
    rw [bitsB_s, cntB_s]
    by_cases hp : P n = true
    · rw [if_pos hp, if_pos hp]
      constructor
      · intro h; omega
      · intro h; omega
    · rw [if_neg hp, if_neg hp]
      exact ih
theorem lv_iff {A : Sl} {S n : Nat} : (bset S (goN S n A) = 0) ↔ lvP n A S = true := by
  rw [bset_0g, ← bcnt_drop]
  unfold lvP
  rw [decide_eq_true_iff]
theorem lv_all {A : Sl} {n : Nat} : lvP n A (evb A) = true := by
  rw [← lv_iff]
  unfold bset
  have : ∀ m, m ≤ A 5 0 → bitsB m (fun p => !(Nat.testBit (evb A) p) && bel (goN (evb A) n A) p) = 0 := by
    intro m
    induction m with
    | zero => intro _; rfl
    | succ m ih =>
      intro hm
      rw [bitsB_s, ih (by omega), if_neg (by unfold evb; rw [Nat.testBit_two_pow_sub_one, decide_eq_true (show m < A 5 0 by omega)]; simp)]
  exact this _ (by rw [goN_n]; exact Nat.le_refl _)
/-- b is the best of the masks from j on that P: of fewest bits, the least of several -/
def lvI (P : Nat → Bool) (N j b : Nat) : Prop := b < N ∧ P b = true ∧ ∀ m, j ≤ m → m < N → P m = true → pop b < pop m ∨ (pop b = pop m ∧ b ≤ m)
theorem lvI_0 {P : Nat → Bool} {N b : Nat} (hb : b < N) (hN : b + 1 = N) (hP : P b = true) : lvI P N (b + 1) b := ⟨hb, hP, fun m h1 h2 _ => by omega⟩
theorem lvI_t {P : Nat → Bool} {N S b : Nat} (h : lvI P N (S + 1) b) (hS : S < N) (hle : pop S ≤ pop b) (hp : P S = true) (hbS : True) : lvI P N S S := by
  refine ⟨hS, hp, fun m h1 h2 h3 => ?_⟩
  by_cases he : m = S
  · right; rw [he]; exact ⟨rfl, Nat.le_refl _⟩
  · have := h.2.2 m (by omega) h2 h3
    omega
theorem lvI_f {P : Nat → Bool} {N S b : Nat} (h : lvI P N (S + 1) b) (hp : P S = false ∨ pop b < pop S) : lvI P N S b := by
  refine ⟨h.1, h.2.1, fun m h1 h2 h3 => ?_⟩
  by_cases he : m = S
  · subst he
    rcases hp with hp | hp
    · rw [hp] at h3; exact absurd h3 (by decide)
    · exact Or.inl hp
  · exact h.2.2 m (by omega) h2 h3
theorem mkr_spec {P : Nat → Bool} : ∀ k, k ≤ 256 → ((∀ m, m < k → P m = false) ∧ mkr P k = (-9, 9)) ∨ ∃ b, b < k ∧ P b = true ∧ mkr P k = ((b : Int), pop b) ∧ ∀ m, m < k → P m = true → pop b < pop m ∨ (pop b = pop m ∧ b ≤ m)
  | 0, _ => Or.inl ⟨fun m hm => absurd hm (Nat.not_lt_zero _), rfl⟩
  | k + 1, hk => by
    have ih := mkr_spec (P := P) k (by omega)
    have h8 := pop_le8 (S := k) (by omega)
    cases hp : P k with
    | false =>
      rw [mkr_f (Or.inr hp)]
      rcases ih with ⟨h1, h2⟩ | ⟨b, h1, h2, h3, h4⟩
      · left; refine ⟨fun m hm => ?_, h2⟩
        by_cases he : m = k
        · rw [he]; exact hp
        · exact h1 m (by omega)
      · right; refine ⟨b, by omega, h2, h3, fun m hm hm2 => ?_⟩
        by_cases he : m = k
        · rw [he, hp] at hm2; exact absurd hm2 (by decide)
        · exact h4 m (by omega) hm2
    | true =>
      right
      rcases ih with ⟨h1, h2⟩ | ⟨b, h1, h2, h3, h4⟩
      · refine ⟨k, by omega, hp, mkr_t (by rw [h2]; show pop k < 9; omega) hp, fun m hm hm2 => ?_⟩
        by_cases he : m = k
        · right; rw [he]; exact ⟨rfl, Nat.le_refl _⟩
        · rw [h1 m (by omega)] at hm2; exact absurd hm2 (by decide)
      · by_cases hc : pop k < pop b
        · refine ⟨k, by omega, hp, mkr_t (by rw [h3]; exact hc) hp, fun m hm hm2 => ?_⟩
          by_cases he : m = k
          · right; rw [he]; exact ⟨rfl, Nat.le_refl _⟩
          · have := h4 m (by omega) hm2; omega
        · refine ⟨b, by omega, h2, by rw [mkr_f (Or.inl (by rw [h3]; exact hc))]; exact h3, fun m hm hm2 => ?_⟩
          by_cases he : m = k
          · subst he; omega
          · exact h4 m (by omega) hm2
theorem lv_end {P : Nat → Bool} {N b : Nat} (hN : N ≤ 256) (h : lvI P N 0 b) : (b : Int) = (mkr P N).1 := by
  obtain ⟨h1, h2, h3⟩ := h
  rcases mkr_spec (P := P) N hN with ⟨g1, _⟩ | ⟨c, g1, g2, g3, g4⟩
  · rw [g1 b h1] at h2; exact absurd h2 (by decide)
  · rw [g3]
    have a1 := h3 c (Nat.zero_le _) g1 g2
    have a2 := g4 b h1 h2
    have : b = c := by omega
    rw [this]
/-! parts -/
theorem prt_eq {u d : Nat} {w : Int} (hd : 0 < d) (hw : w = 0 ∨ w = 1) (z : Nat) (hz : (w = 0 ∧ z = u) ∨ (¬ w = 0 ∧ z = d)) : ((z / Nat.gcd u d : Nat) : Int) = prt u d w := by
  unfold prt
  by_cases hu : u = 0
  · subst hu
    rw [if_pos rfl, Nat.gcd_zero_left]
    rcases hz with ⟨h, rfl⟩ | ⟨h, rfl⟩
    · rw [Nat.zero_div, h]; rfl
    · rw [Nat.div_self hd]; omega
  · rw [if_neg hu]
    rcases hz with ⟨h, rfl⟩ | ⟨h, rfl⟩
    · rw [if_pos h]
    · rw [if_neg h]
/-! winds -/
def wcn (S k : Nat) : Nat := cntB k (fun j => Nat.testBit S j)
theorem wcn_le (S k : Nat) : wcn S k ≤ k := cntB_le _ _
theorem wcn_t {S k : Nat} (h : Nat.testBit S k = true) : wcn S (k + 1) = wcn S k + 1 := by unfold wcn; rw [cntB_s, if_pos h]
theorem wcn_f {S k : Nat} (h : Nat.testBit S k = false) : wcn S (k + 1) = wcn S k := by unfold wcn; rw [cntB_s, if_neg (by rw [h]; decide), Nat.add_zero]
theorem wp_t {S k t : Nat} (h : Nat.testBit S k = true) : (t - 1) ^ (k - wcn S k) * 1 = (t - 1) ^ (k + 1 - wcn S (k + 1)) := by
  rw [wcn_t h, Nat.mul_one]; congr 1; have := wcn_le S k; omega
theorem wp_f {S k t : Nat} (h : Nat.testBit S k = false) : (t - 1) ^ (k - wcn S k) * (t - 1) = (t - 1) ^ (k + 1 - wcn S (k + 1)) := by
  rw [wcn_f h, ← Nat.pow_succ]; congr 1; have := wcn_le S k; omega
theorem wp_e {S n : Nat} (h : S < 2 ^ n) (hn : n ≤ 7) : wcn S n = pop S := (pop_cut h (by omega)).symm
theorem wind_t {n t S : Nat} {A : Sl} {z : Nat} (h : bset 0 (goW S n A) = evb (goW S n A)) (hz : z = (t - 1) ^ (n - wcn S n)) (hS : S < 2 ^ n) (hn : n ≤ 7) : windU n t A S + z = windU n t A (S + 1) := by
  show _ = windU n t A S + (if allB (goW S n A) = true then (t - 1) ^ (n - pop S) else 0)
  rw [if_pos (all_t h), hz, wp_e hS hn]
theorem wind_f {n t S : Nat} {A : Sl} (h : ¬ bset 0 (goW S n A) = evb (goW S n A)) : windU n t A S + 0 = windU n t A (S + 1) := by
  show _ = windU n t A S + (if allB (goW S n A) = true then (t - 1) ^ (n - pop S) else 0)
  rw [if_neg (by rw [all_f h]; decide)]
theorem evb_goW (S n : Nat) (A : Sl) : evb (goW S n A) = evb A := by unfold evb; rw [goW_n]
/-! the wider frame: also who is gone, the table of pairs, the lots -/
def frW (w : Nat) (X X' : Mem) : Prop := (∀ q, ¬ q = 29 → (q < 31 ∨ 35 < q) → ¬ q = 40 → ¬ q = 41 → ¬ q = 42 → X' q = X q) ∧ (∀ k, ¬ k = 6 → ¬ k = 7 → ¬ k = 8 → ¬ k = 18 → ¬ k = 19 → ¬ k = 24 → X' 29 k = X 29 k) ∧ ∀ k, k < 60 * w → X' 40 k = X 40 k
theorem frW_rf (w : Nat) (X : Mem) : frW w X X := ⟨fun _ _ _ _ _ _ => rfl, fun _ _ _ _ _ _ _ => rfl, fun _ _ => rfl⟩
theorem frW_tr {w v : Nat} {X Y Z : Mem} (h1 : frW w X Y) (h2 : frT v Y Z) (h : w ≤ v) : frW w X Z :=
  ⟨fun q a b c d e => (h2.1 q a b c d).trans (h1.1 q a b c d e), fun k a b c d e f => (h2.2.1 k a b d e).trans (h1.2.1 k a b c d e f), fun k hk => (h2.2.2 k (by omega)).trans (h1.2.2 k hk)⟩
theorem frW_set {w r i : Nat} {v : Int32} {X Y : Mem} (h : frW w X Y) (hr : r < 5) : frW w X (mset Y (31 + r) i v) :=
  ⟨fun q a b c d e => by rw [mset_row (by omega)]; exact h.1 q a b c d e, fun k a b c d e f => by rw [mset_row (by omega)]; exact h.2.1 k a b c d e f, fun k hk => by rw [mset_row (by omega)]; exact h.2.2 k hk⟩
theorem frW_42 {w i : Nat} {v : Int32} {X Y : Mem} (h : frW w X Y) : frW w X (mset Y 42 i v) :=
  ⟨fun q a b c d e => by rw [mset_row (by omega)]; exact h.1 q a b c d e, fun k a b c d e f => by rw [mset_row (by omega)]; exact h.2.1 k a b c d e f, fun k hk => by rw [mset_row (by omega)]; exact h.2.2 k hk⟩
theorem frW_29 {w i : Nat} {v : Int32} {X Y : Mem} (h : frW w X Y) (hi : i = 8 ∨ i = 24) : frW w X (mset Y 29 i v) :=
  ⟨fun q a b c d e => by rw [mset_row (by omega)]; exact h.1 q a b c d e, fun k a b c d e f => by rw [mset_ne _ _ _ _ (by omega)]; exact h.2.1 k a b c d e f, fun k hk => by rw [mset_row (by omega)]; exact h.2.2 k hk⟩
theorem frW_trW {w : Nat} {X Y Z : Mem} (h1 : frW w X Y) (h2 : frW w Y Z) : frW w X Z :=
  ⟨fun q a b c d e => (h2.1 q a b c d e).trans (h1.1 q a b c d e), fun k a b c d e f => (h2.2.1 k a b c d e f).trans (h1.2.1 k a b c d e f), fun k hk => (h2.2.2 k hk).trans (h1.2.2 k hk)⟩
theorem RwM.frW {X X' : Mem} {W : Nat → Nat} {n w : Nat} (h : RwM X W n) (hF : frW w X X') : RwM X' W n :=
  ⟨(hF.2.1 23 (by omega) (by omega) (by omega) (by omega) (by omega) (by omega)).trans h.1, h.2.1, fun k hk => by rw [hF.1 43 (by omega) (by omega) (by omega) (by omega) (by omega)]; exact h.2.2 k hk⟩
theorem mI_W {X X' : Mem} {V : St} (h : mI X V) (hA : Rp (vM X') V.1) (hg : X' 29 8 = zI ((0 : Nat) : Int)) (hF : frW 1 X X') : mI X' V := by
  have r3 : ∀ k, ¬ k = 6 → ¬ k = 7 → ¬ k = 8 → ¬ k = 18 → ¬ k = 19 → ¬ k = 24 → X' 29 k = X 29 k := hF.2.1
  have r2 : ∀ q, ¬ q = 29 → (q < 31 ∨ 35 < q) → ¬ q = 40 → ¬ q = 41 → ¬ q = 42 → X' q = X q := hF.1
  have hk : ∀ {B : Sl}, Rp (vK X 0) B → Rp (vK X' 0) B := fun {B} hB => by
    refine hB.same (fun k hk => ?_) (fun q a b k hk => ?_) ?_ ?_
    · exact hF.2.2 _ (by rw [if_pos rfl]; omega)
    · exact hF.2.2 _ (by rw [if_neg (by omega), if_pos (by omega)]; omega)
    · exact hF.2.2 _ (by decide)
    · exact hF.2.2 _ (by decide)
  exact ⟨hA, h.2.1, fun z => ⟨hk (h.2.2.1 z).1, (h.2.2.1 z).2⟩, (r3 17 (by omega) (by omega) (by omega) (by omega) (by omega) (by omega)).trans h.2.2.2.1, hg,
    ⟨(r3 13 (by omega) (by omega) (by omega) (by omega) (by omega) (by omega)).trans h.2.2.2.2.2.1.1, h.2.2.2.2.2.1.2.1, fun k hk => by rw [r2 36 (by omega) (by omega) (by omega) (by omega) (by omega)]; exact h.2.2.2.2.2.1.2.2 k hk⟩,
    h.2.2.2.2.2.2.1.frW hF, fun k hk => by rw [r2 30 (by omega) (by omega) (by omega) (by omega) (by omega)]; exact h.2.2.2.2.2.2.2 k hk⟩
theorem frM_W {w : Nat} {X X' : Mem} (h : frW w X X') : frM X X' := fun q hq => h.1 q (by omega) (by omega) (by omega) (by omega) (by omega)
theorem mI_jd {X X' : Mem} {V : St} (h : mI X V) (hA : Rp (vM X') V.1) (hF : frT 1 (mset X 29 23 (zI 0)) X') : mI X' (putW V V.2.2.2.2.2.1 0) := mI_T (V := putW V V.2.2.2.2.2.1 0) (mI_putW0 h) hA hF
theorem frM_jd {X X' : Mem} (hF : frT 1 (mset X 29 23 (zI 0)) X') : frM X X' := frM_tr (frM_set (frM_rf X) (by omega)) (frM_T hF)
/-! rows -/
theorem allN_s (n : Nat) (P : Nat → Bool) : allN (n + 1) P = (allN n P && P n) := rfl
theorem allN_stop {k n : Nat} {P : Nat → Bool} (h : allN k P = false) : ∀ d, k + d = n → allN n P = false
  | 0, hd => by rw [← hd]; exact h
  | d + 1, hd => by
    have := allN_stop h d rfl
    rw [← hd, ← Nat.add_assoc, allN_s, this]; rfl
theorem allN_out {k n : Nat} {P : Nat → Bool} (h : allN k P = false) (hk : k ≤ n) : allN n P = false := allN_stop h (n - k) (by omega)
theorem row_t {k : Nat} {P : Nat → Bool} {z : Bool} (hz : z = allN k P) (hzt : z = true) (h : P k = true) : true = allN (k + 1) P := by rw [allN_s, ← hz, hzt, h]; rfl
theorem row_f {k : Nat} {P : Nat → Bool} (h : P k = false) : false = allN (k + 1) P := by rw [allN_s, h, Bool.and_false]
theorem setR_setR (A : Sl) (r p u v : Nat) : setR (setR A r p u) r p v = setR A r p v := by
  funext q k; unfold setR
  by_cases h : q = r ∧ k = p
  · rw [if_pos h, if_pos h]
  · rw [if_neg h, if_neg h, if_neg h]
theorem who_eq {W : Nat → Nat} {rs i : Nat} {A : Sl} : allN rs (fun k => decide (W k = bcnt (2 ^ i) (goN (2 ^ i) k A))) = whP W rs A i := by
  unfold whP
  congr 1
  funext k
  unfold hmP
  rw [bcnt_drop]
theorem tab_x : ∀ k, k < 4 → (k ^^^ 2) < 4 ∧ (k ^^^ 2) / 2 = 1 - k / 2 ∧ (k ^^^ 2) % 2 = k % 2 ∧ (k ^^^ 1) < 4 ∧ (k ^^^ 1) / 2 = k / 2 ∧ (k ^^^ 1) % 2 = 1 - k % 2 := by decide
