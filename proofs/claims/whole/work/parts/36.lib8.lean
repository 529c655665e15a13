/-! what is asked first -/
theorem orB_s (n : Nat) (P : Nat → Bool) : orB (n + 1) P = (orB n P || P n) := rfl
theorem set_s {G i : Nat} {A : Sl} (ho : orB i (chP G A) = false) (h1 : nextB G A i (here A) = A 4 i) (h2 : ¬ 5 ≤ nextB G A i (here A) ∨ A 3 i = here A) : orB (i + 1) (chP G A) = false := by
  rw [orB_s, ho, Bool.false_or]
  unfold chP
  rcases h2 with h2 | h2
  · rw [decide_eq_false (p := ¬ nextB G A i (here A) = A 4 i) (fun z => z h1), decide_eq_false (p := 5 ≤ nextB G A i (here A)) h2]; rfl
  · rw [decide_eq_false (p := ¬ nextB G A i (here A) = A 4 i) (fun z => z h1), decide_eq_false (p := ¬ A 3 i = here A) (fun z => z h2), Bool.and_false]; rfl
theorem orB_ex {n k : Nat} {P : Nat → Bool} (hk : k < n) (h : P k = true) : orB n P = true := by
  induction n with
  | zero => omega
  | succ n ih =>
    rw [orB_s]
    by_cases he : k = n
    · subst he; rw [h, Bool.or_true]
    · rw [ih (by omega), Bool.true_or]
theorem set_n {G k : Nat} {A : Sl} (hk : k < A 5 0) (h : ¬ nextB G A k (here A) = A 4 k ∨ (5 ≤ nextB G A k (here A) ∧ ¬ A 3 k = here A)) : (!(orB (A 5 0) (chP G A))) = false := by
  rw [orB_ex hk (P := chP G A) (by
    unfold chP
    rcases h with h | ⟨h, h2⟩
    · rw [decide_eq_true (p := ¬ nextB G A k (here A) = A 4 k) h]; rfl
    · rw [decide_eq_true (p := 5 ≤ nextB G A k (here A)) h, decide_eq_true (p := ¬ A 3 k = here A) h2]; simp)]
  rfl
/-- is it so in a year, what first asks for -/
def fsP (wt : Int) (ws : Nat) (A : Sl) : Bool := if wt = 0 then allB A else if wt = 1 then decide (bcnt 0 A = 0) else if wt = 2 then !(orB (A 5 0) (chP 0 A)) else decide (¬ here A = ws)
theorem fs_0 {wt z : Int} {ws : Nat} {A : Sl} (h : wt = 0) (hz : (z = 1 ∧ bset 0 A = evb A) ∨ (z = 0 ∧ ¬ bset 0 A = evb A)) : z = b2i (fsP wt ws A) := by
  unfold fsP; rw [if_pos h]
  rcases hz with ⟨rfl, h2⟩ | ⟨rfl, h2⟩
  · exact b2iT ((bset_all rfl).mp h2)
  · refine b2iF ?_
    cases ha : allB A with
    | false => rfl
    | true => exact absurd ((bset_all rfl).mpr ha) h2
theorem fs_1 {wt z : Int} {ws : Nat} {A : Sl} (h : wt = 1) (hz : (z = 1 ∧ bset 0 A = 0) ∨ (z = 0 ∧ ¬ bset 0 A = 0)) : z = b2i (fsP wt ws A) := by
  unfold fsP; rw [if_neg (by omega), if_pos h]
  rcases hz with ⟨rfl, h2⟩ | ⟨rfl, h2⟩
  · exact b2iT (decide_eq_true (bset_0.mp h2))
  · exact b2iF (decide_eq_false (fun z => h2 (bset_0.mpr z)))
theorem fs_2 {wt : Int} {ws : Nat} {A : Sl} (h : wt = 2) : b2i (!(orB (A 5 0) (chP 0 A))) = b2i (fsP wt ws A) := by
  unfold fsP; rw [if_neg (by omega), if_neg (by omega), if_pos h]
theorem fs_3 {wt z : Int} {ws : Nat} {A : Sl} (h : wt = 3) (hz : (z = 1 ∧ ¬ here A = ws) ∨ (z = 0 ∧ here A = ws)) : z = b2i (fsP wt ws A) := by
  unfold fsP; rw [if_neg (by omega), if_neg (by omega), if_neg (by omega)]
  rcases hz with ⟨rfl, h2⟩ | ⟨rfl, h2⟩
  · exact b2iT (decide_eq_true h2)
  · exact b2iF (decide_eq_false (fun z => z h2))
theorem fst_eq {A : Sl} {wt : Int} (h : 0 ≤ wt ∧ wt ≤ 3) : fstS A wt = firstB (fun k => fsP wt (here A) (goN 0 k A)) 61 := by
  unfold fstS
  rcases (show wt = 0 ∨ wt = 1 ∨ wt = 2 ∨ wt = 3 by omega) with rfl | rfl | rfl | rfl
  · rw [if_pos rfl]; rfl
  · rw [if_neg (by decide), if_pos rfl]; rfl
  · rw [if_neg (by decide), if_neg (by decide), if_pos rfl]; rfl
  · rw [if_neg (by decide), if_neg (by decide), if_neg (by decide)]; rfl
