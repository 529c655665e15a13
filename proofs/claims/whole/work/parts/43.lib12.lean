theorem wnC_cases (x y w : Int) : ((x < 0 ∨ y < 2) ∧ wnC x y w = -4) ∨ (¬ (x < 0 ∨ y < 2) ∧ (7 < x ∨ 20 < y) ∧ wnC x y w = -6) ∨ (¬ (x < 0 ∨ y < 2) ∧ ¬ (7 < x ∨ 20 < y) ∧ wnC x y w = cdO w 2) := by
  by_cases h : x < 0 ∨ y < 2
  · exact Or.inl ⟨h, wnC_b h⟩
  · by_cases h2 : 7 < x ∨ 20 < y
    · exact Or.inr (Or.inl ⟨h, h2, wnC_r h h2⟩)
    · exact Or.inr (Or.inr ⟨h, h2, wnC_o h h2⟩)
theorem ite_cases (P : Prop) [Decidable P] : (P ∧ (if P then (-1 : Int) else 0) = -1) ∨ (¬ P ∧ (if P then (-1 : Int) else 0) = 0) := by
  by_cases h : P
  · exact Or.inl ⟨h, if_pos h⟩
  · exact Or.inr ⟨h, if_neg h⟩
theorem two_hit {A : Sl} {a b n m : Nat} (h : ∀ j, j < m → stillP A a b n (j / 2) (j % 2) = false) (e : stillP A a b n (m / 2) (m % 2) = true) (hm : m < 4) : ((10 * (m / 2) + m % 2 : Nat) : Int) = pairS A a b n := by
  rw [← pair_hit (o := m / 2) (q := m % 2) (by omega) (by omega) (fun o' h1 q' h2 => ?_) (fun q' h2 => ?_) e]
  · omega
  · have := h (2 * o' + q') (by omega)
    rw [show (2 * o' + q') / 2 = o' by omega, show (2 * o' + q') % 2 = q' by omega] at this
    exact this
  · have := h (2 * (m / 2) + q') (by omega)
    rw [show (2 * (m / 2) + q') / 2 = m / 2 by omega, show (2 * (m / 2) + q') % 2 = q' by omega] at this
    exact this
theorem two_none {A : Sl} {a b n : Nat} (h : ∀ j, j < 4 → stillP A a b n (j / 2) (j % 2) = false) : (-9 : Int) = pairS A a b n :=
  pair_none (fun o' h1 q' h2 => by
    have := h (2 * o' + q') (by omega)
    rw [show (2 * o' + q') / 2 = o' by omega, show (2 * o' + q') % 2 = q' by omega] at this
    exact this)
theorem wind_t2 {n t S k : Nat} {A : Sl} {z u : Nat} (hk : k = n) (hu : u = windU n t A S) (h : bset 0 (goW S k A) = evb (goW S k A)) (hz : z = (t - 1) ^ (k - wcn S k)) (hS : S < 2 ^ n) (hn : n ≤ 7) : u + z = windU n t A (S + 1) := by
  subst hk; rw [hu]; exact wind_t h hz hS hn
theorem wind_f2 {n t S k : Nat} {A : Sl} {u : Nat} (hk : k = n) (hu : u = windU n t A S) (h : ¬ bset 0 (goW S k A) = evb (goW S k A)) : u + 0 = windU n t A (S + 1) := by
  subst hk; rw [hu]; exact wind_f h
theorem kd_eq {W : Nat → Nat} {rs r p v : Nat} {A B : Sl} (h : setR B r p v = setR A r p v) : allN rs (soB W p (setR B r p v)) = kdP W rs r p A v := by
  unfold kdP; rw [h]
theorem lot_y {A : Sl} {z wt : Int} {n k c : Nat} (h : wt = 0) (hc : c = sumB k (fun k => bcnt 0 (lotA A z k))) (hk : k = n) : (c : Int) = ((lotT A z wt n : Nat) : Int) := by
  subst hk; subst h
  rw [hc]; rfl
theorem lot_n {A : Sl} {z wt : Int} {n k c : Nat} (h : ¬ wt = 0) (hc : c = sumB k (fun k => sumB (lotA A z k 5 0) (lotA A z k 4))) (hk : k = n) : (c : Int) = ((lotT A z wt n : Nat) : Int) := by
  subst hk
  have : lotT A z wt k = sumB k (fun k => sumB (lotA A z k 5 0) (lotA A z k 4)) := sumB_congr k (fun j _ => if_neg h)
  rw [hc, this]
