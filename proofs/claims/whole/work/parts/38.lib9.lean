/-! rows for the reference's public calls -/
theorem fulD_cases (x : Int) (P : Prop) [Decidable P] : (¬ x = 0 ∧ fulC x (decide P) = x) ∨ (x = 0 ∧ P ∧ fulC x (decide P) = -6) ∨ (x = 0 ∧ ¬ P ∧ fulC x (decide P) = 0) := by
  by_cases h : x = 0
  · by_cases hp : P
    · exact Or.inr (Or.inl ⟨h, hp, fulC_f h (decide_eq_true hp)⟩)
    · exact Or.inr (Or.inr ⟨h, hp, fulC_o h (decide_eq_false hp)⟩)
  · exact Or.inl ⟨h, fulC_x h⟩
theorem mI_putT {X : Mem} {V : St} {x : Int} (h : mI X V) (hn : V.2.2.2.2.1 < 96) (hx : 0 ≤ x ∧ x ≤ 255) :
    mI (mset (mset X 36 V.2.2.2.2.1 (zI x)) 29 13 (zI ((V.2.2.2.2.1 + 1 : Nat) : Int))) (putT V (upN V.2.2.2.1 V.2.2.2.2.1 x.toNat) (V.2.2.2.2.1 + 1)) := by
  have r2 : ∀ q, ¬ q = 29 → ¬ q = 36 → (mset (mset X 36 V.2.2.2.2.1 (zI x)) 29 13 (zI ((V.2.2.2.2.1 + 1 : Nat) : Int))) q = X q := fun q a b => by rw [mset_row a, mset_row b]
  have r3 : ∀ k, ¬ k = 13 → (mset (mset X 36 V.2.2.2.2.1 (zI x)) 29 13 (zI ((V.2.2.2.2.1 + 1 : Nat) : Int))) 29 k = X 29 k := fun k a => by rw [mset_ne _ _ _ _ (by omega), mset_row (by omega)]
  refine ⟨h.1.keepM (r3 6 (by omega)) (r3 7 (by omega)) (fun q hq => r2 _ (by omega) (by omega)), h.2.1, fun z => ⟨(h.2.2.1 z).1.keepKr (r2 40 (by omega) (by omega)), (h.2.2.1 z).2⟩, by rw [r3 17 (by omega)]; exact h.2.2.2.1, by rw [r3 8 (by omega)]; exact h.2.2.2.2.1, ⟨mset_eq _ _ _ _, hn, fun k hk => ?_⟩, ⟨by rw [r3 23 (by omega)]; exact h.2.2.2.2.2.2.1.1, h.2.2.2.2.2.2.1.2.1, fun j hj => by rw [r2 43 (by omega) (by omega)]; exact h.2.2.2.2.2.2.1.2.2 j hj⟩, fun j hj => by rw [r2 30 (by omega) (by omega)]; exact h.2.2.2.2.2.2.2 j hj⟩
  show _ = zI (((if k = V.2.2.2.2.1 then x.toNat else V.2.2.2.1 k : Nat)) : Int) ∧ (if k = V.2.2.2.2.1 then x.toNat else V.2.2.2.1 k : Nat) ≤ 255
  have hk' : k < V.2.2.2.2.1 + 1 := hk
  by_cases he : k = V.2.2.2.2.1
  · rw [if_pos he, mset_row (by omega), he, mset_eq]; exact ⟨zI_toNat hx.1, by omega⟩
  · rw [if_neg he, mset_row (by omega), mset_ne _ _ _ _ (by omega)]; exact h.2.2.2.2.2.1.2.2 k (by omega)
theorem mI_putW {X : Mem} {V : St} {x : Int} (h : mI X V) (hn : V.2.2.2.2.2.2.1 < 16) (hx : 0 ≤ x ∧ x ≤ 99) :
    mI (mset (mset X 43 V.2.2.2.2.2.2.1 (zI x)) 29 23 (zI ((V.2.2.2.2.2.2.1 + 1 : Nat) : Int))) (putW V (upN V.2.2.2.2.2.1 V.2.2.2.2.2.2.1 x.toNat) (V.2.2.2.2.2.2.1 + 1)) := by
  have r2 : ∀ q, ¬ q = 29 → ¬ q = 43 → (mset (mset X 43 V.2.2.2.2.2.2.1 (zI x)) 29 23 (zI ((V.2.2.2.2.2.2.1 + 1 : Nat) : Int))) q = X q := fun q a b => by rw [mset_row a, mset_row b]
  have r3 : ∀ k, ¬ k = 23 → (mset (mset X 43 V.2.2.2.2.2.2.1 (zI x)) 29 23 (zI ((V.2.2.2.2.2.2.1 + 1 : Nat) : Int))) 29 k = X 29 k := fun k a => by rw [mset_ne _ _ _ _ (by omega), mset_row (by omega)]
  refine ⟨h.1.keepM (r3 6 (by omega)) (r3 7 (by omega)) (fun q hq => r2 _ (by omega) (by omega)), h.2.1, fun z => ⟨(h.2.2.1 z).1.keepKr (r2 40 (by omega) (by omega)), (h.2.2.1 z).2⟩, by rw [r3 17 (by omega)]; exact h.2.2.2.1, by rw [r3 8 (by omega)]; exact h.2.2.2.2.1, ⟨by rw [r3 13 (by omega)]; exact h.2.2.2.2.2.1.1, h.2.2.2.2.2.1.2.1, fun j hj => by rw [r2 36 (by omega) (by omega)]; exact h.2.2.2.2.2.1.2.2 j hj⟩, ⟨mset_eq _ _ _ _, hn, fun k hk => ?_⟩, fun j hj => by rw [r2 30 (by omega) (by omega)]; exact h.2.2.2.2.2.2.2 j hj⟩
  show _ = zI (((if k = V.2.2.2.2.2.2.1 then x.toNat else V.2.2.2.2.2.1 k : Nat)) : Int) ∧ (if k = V.2.2.2.2.2.2.1 then x.toNat else V.2.2.2.2.2.1 k : Nat) ≤ 99
  have hk' : k < V.2.2.2.2.2.2.1 + 1 := hk
  by_cases he : k = V.2.2.2.2.2.2.1
  · rw [if_pos he, mset_row (by omega), he, mset_eq]; exact ⟨zI_toNat hx.1, by omega⟩
  · rw [if_neg he, mset_row (by omega), mset_ne _ _ _ _ (by omega)]; exact h.2.2.2.2.2.2.1.2.2 k (by omega)
theorem mI_putW0 {X : Mem} {V : St} (h : mI X V) : mI (mset X 29 23 (zI 0)) (putW V V.2.2.2.2.2.1 0) := by
  have r2 : ∀ q, ¬ q = 29 → (mset X 29 23 (zI 0)) q = X q := fun q a => by rw [mset_row a]
  have r3 : ∀ k, ¬ k = 23 → (mset X 29 23 (zI 0)) 29 k = X 29 k := fun k a => by rw [mset_ne _ _ _ _ (by omega)]
  exact ⟨h.1.keepM (r3 6 (by omega)) (r3 7 (by omega)) (fun q hq => r2 _ (by omega)), h.2.1, fun z => ⟨(h.2.2.1 z).1.keepKr (r2 40 (by omega)), (h.2.2.1 z).2⟩, by rw [r3 17 (by omega)]; exact h.2.2.2.1, by rw [r3 8 (by omega)]; exact h.2.2.2.2.1, ⟨by rw [r3 13 (by omega)]; exact h.2.2.2.2.2.1.1, h.2.2.2.2.2.1.2.1, fun j hj => by rw [r2 36 (by omega)]; exact h.2.2.2.2.2.1.2.2 j hj⟩, ⟨mset_eq _ _ _ _, Nat.zero_le _, fun k hk => absurd hk (Nat.not_lt_zero _)⟩, fun j hj => by rw [r2 30 (by omega)]; exact h.2.2.2.2.2.2.2 j hj⟩
theorem mI_image {X Y : Mem} {V : St} (h : mI X V) (hS : KS (mset X 29 17 (zI 1)) Y 0 59) : mI Y (V.1, V.1, true, V.2.2.2) ∧ frM X Y := by
  have hA1 : Rp (vM (mset X 29 17 (zI 1))) V.1 := h.1.keepM (by rw [mset_ne _ _ _ _ (by omega)]) (by rw [mset_ne _ _ _ _ (by omega)]) (fun q hq => by rw [mset_row (by omega)])
  have r2 : ∀ q, ¬ q = 29 → ¬ q = 40 → Y q = X q := fun q a b => by rw [hS.1 q a b, mset_row a]
  have r3 : ∀ k, ¬ k = 17 → ¬ k = 18 → ¬ k = 19 → Y 29 k = X 29 k := fun k a b c => by rw [hS.2.1 k b c, mset_ne _ _ _ _ (by omega)]
  exact ⟨⟨ks_repM hS hA1, h.2.1, fun _ => ⟨ks_rep hS hA1, h.2.1⟩, by rw [hS.2.1 17 (by omega) (by omega), mset_eq]; rfl, by rw [r3 8 (by omega) (by omega) (by omega)]; exact h.2.2.2.2.1, ⟨by rw [r3 13 (by omega) (by omega) (by omega)]; exact h.2.2.2.2.2.1.1, h.2.2.2.2.2.1.2.1, fun j hj => by rw [r2 36 (by omega) (by omega)]; exact h.2.2.2.2.2.1.2.2 j hj⟩, ⟨by rw [r3 23 (by omega) (by omega) (by omega)]; exact h.2.2.2.2.2.2.1.1, h.2.2.2.2.2.2.1.2.1, fun j hj => by rw [r2 43 (by omega) (by omega)]; exact h.2.2.2.2.2.2.1.2.2 j hj⟩, fun j hj => by rw [r2 30 (by omega) (by omega)]; exact h.2.2.2.2.2.2.2 j hj⟩, fun q hq => r2 q (by omega) (by omega)⟩
theorem mon_no {X : Mem} {V : St} (e : V.2.2.1 = false) (hV : mI X V) :
    (some (vi (-3)) : Option Value) = some (vi (sp35 V).1) ∧ mI (mset X 30 (-(-3 : Int)).toNat (X 30 (-(-3 : Int)).toNat + 1)) (sp35 V).2 ∧ frM X (mset X 30 (-(-3 : Int)).toNat (X 30 (-(-3 : Int)).toNat + 1)) := by
  have h : sp35 V = (-3, rfV 3 V) := by unfold sp35; rw [if_neg (by rw [e]; decide)]
  rw [h]
  exact ⟨rfl, mI_rf hV, frM_set (frM_rf X) (by omega)⟩
theorem mon_ok {X X' : Mem} {V : St} (e : V.2.2.1 = true) (hV : mI X' (putA V V.2.1)) (hF : frM X X') :
    (some (vi ((V.2.1 5 1 : Nat) : Int)) : Option Value) = some (vi (sp35 V).1) ∧ mI X' (sp35 V).2 ∧ frM X X' := by
  have h : sp35 V = ((V.2.1 5 1 : Int), putA V V.2.1) := by unfold sp35; rw [if_pos e]
  rw [h]
  exact ⟨rfl, hV, hF⟩
theorem mxr_0 (f : Nat → Int) (b m : Int) : mxr f b m 0 = (b, m) := rfl
theorem sit_t {f : Nat → Int} {b w : Int} {i : Nat} (hf : 0 ≤ f i) (hs : (i = 0 ∧ b = 0 ∧ w = -9) ∨ (1 ≤ i ∧ b = (mxr f 0 (-1) i).1 ∧ w = (mxr f 0 (-1) i).2)) (h : w < f i) : (1 ≤ i + 1 ∧ (i : Int) = (mxr f 0 (-1) (i + 1)).1 ∧ f i = (mxr f 0 (-1) (i + 1)).2) := by
  rcases hs with ⟨rfl, _, _⟩ | ⟨_, _, hw⟩
  · rw [mxr_t (by rw [mxr_0]; show (-1 : Int) < f 0; omega)]; exact ⟨by omega, rfl, rfl⟩
  · rw [mxr_t (by rw [← hw]; exact h)]; exact ⟨by omega, rfl, rfl⟩
theorem sit_f {f : Nat → Int} {b w : Int} {i : Nat} (hf : 0 ≤ f i) (hs : (i = 0 ∧ b = 0 ∧ w = -9) ∨ (1 ≤ i ∧ b = (mxr f 0 (-1) i).1 ∧ w = (mxr f 0 (-1) i).2)) (h : ¬ w < f i) : (1 ≤ i + 1 ∧ b = (mxr f 0 (-1) (i + 1)).1 ∧ w = (mxr f 0 (-1) (i + 1)).2) := by
  rcases hs with ⟨rfl, _, _⟩ | ⟨_, hb, hw⟩
  · omega
  · rw [mxr_f (by rw [← hw]; exact h)]; exact ⟨by omega, hb, hw⟩
theorem mxr_val {f : Nat → Int} (hf : ∀ k, k < 25 → 0 ≤ f k) : ∀ i, i < 25 → 0 ≤ (mxr f 0 (-1) (i + 1)).1 ∧ (mxr f 0 (-1) (i + 1)).2 = f (mxr f 0 (-1) (i + 1)).1.toNat
  | 0, _ => by
    rw [mxr_t (by rw [mxr_0]; have := hf 0 (by omega); show (-1 : Int) < f 0; omega)]
    exact ⟨Int.le_refl _, rfl⟩
  | i + 1, h => by
    have ih := mxr_val hf i (by omega)
    by_cases hc : (mxr f 0 (-1) (i + 1)).2 < f (i + 1)
    · rw [mxr_t hc]; exact ⟨Int.natCast_nonneg _, rfl⟩
    · rw [mxr_f hc]; exact ih
theorem bitsB_cut (n : Nat) (P : Nat → Bool) : bitsB (n + 1) P &&& (2 ^ n - 1) = bitsB n P := by
  rw [Nat.and_two_pow_sub_one_eq_mod, bitsB_s]
  have h := bitsB_lt n P
  by_cases hp : P n = true
  · rw [if_pos hp, Nat.add_mod_right, Nat.mod_eq_of_lt h]
  · rw [if_neg hp, Nat.add_zero, Nat.mod_eq_of_lt h]
theorem str_eq {A : Sl} {n : Nat} (h8 : ¬ 8 ≤ A 5 0) : ((pop (bset 0 (goN 0 n (addP A 0 0 24 9)) &&& evb A) : Nat) : Int) - ((pop (bset 0 (goN 0 n A)) : Nat) : Int) = strF n A := by
  have hB : goN 0 n (addP A 0 0 24 9) 5 0 = A 5 0 + 1 := by rw [goN_n]; rfl
  rw [pop_bset (by rw [goN_n]; omega)]
  unfold strF
  rw [if_neg h8]
  unfold bset evb bcnt
  rw [hB, bitsB_cut, pop_bitsB _ (by omega), cntB_s]
  have e : (!(Nat.testBit 0 (A 5 0)) && bel (goN 0 n (addP A 0 0 24 9)) (A 5 0)) = bel (goN 0 n (addP A 0 0 24 9)) (A 5 0) := by rw [Nat.zero_testBit]; rfl
  rw [e]
  cases hb : bel (goN 0 n (addP A 0 0 24 9)) (A 5 0) with
  | true => rw [if_pos rfl]; show _ = _ - (1 : Int) - _; omega
  | false => rw [if_neg (by decide)]; show _ = _ - (0 : Int) - _; omega
theorem nr_t {f : Nat → Int} {b : Int} {i : Nat} (hf : f i < 9) (hn : (b = -9 ∧ mnr f 9 i = (-9, 9)) ∨ (0 ≤ b ∧ b.toNat < i ∧ mnr f 9 i = (b, f b.toNat))) (h : b < 0 ∨ f i < f b.toNat) : ((i : Int) = -9 ∧ mnr f 9 (i + 1) = (-9, 9)) ∨ (0 ≤ (i : Int) ∧ (i : Int).toNat < i + 1 ∧ mnr f 9 (i + 1) = ((i : Int), f (i : Int).toNat)) := by
  refine Or.inr ⟨Int.natCast_nonneg _, by omega, ?_⟩
  rcases hn with ⟨_, hm⟩ | ⟨h0, _, hm⟩
  · rw [mnr_t (by rw [hm]; exact hf)]; rfl
  · rw [mnr_t (by rw [hm]; show f i < f b.toNat; omega)]; rfl
theorem nr_f {f : Nat → Int} {b : Int} {i : Nat} (hn : (b = -9 ∧ mnr f 9 i = (-9, 9)) ∨ (0 ≤ b ∧ b.toNat < i ∧ mnr f 9 i = (b, f b.toNat))) (h : ¬ b < 0) (h2 : ¬ f i < f b.toNat) : (b = -9 ∧ mnr f 9 (i + 1) = (-9, 9)) ∨ (0 ≤ b ∧ b.toNat < i + 1 ∧ mnr f 9 (i + 1) = (b, f b.toNat)) := by
  rcases hn with ⟨h0, _⟩ | ⟨h0, h1, hm⟩
  · omega
  · exact Or.inr ⟨h0, by omega, by rw [mnr_f (by rw [hm]; exact h2)]; exact hm⟩
theorem nr_e {f : Nat → Int} {b : Int} {i : Nat} (hn : (b = -9 ∧ mnr f 9 i = (-9, 9)) ∨ (0 ≤ b ∧ b.toNat < i ∧ mnr f 9 i = (b, f b.toNat))) : b = (mnr f 9 i).1 := by
  rcases hn with ⟨h0, h⟩ | ⟨_, _, h⟩
  · rw [h]; exact h0
  · rw [h]
theorem pop_le8 {S : Nat} (h : S < 256) : pop S ≤ 8 := pop_le_lt (n := 8) h (by decide)
/-- what the reference holds as the fewest -/
def mkI (P : Nat → Bool) (S : Nat) (b : Int) : Prop := (b = -9 ∧ mkr P S = (-9, 9)) ∨ (0 ≤ b ∧ mkr P S = (b, pop b.toNat))
theorem mk_t {P : Nat → Bool} {S : Nat} {b : Int} (h : mkI P S b) (hS : S < 256) (hb : b < 0 ∨ pop S < pop b.toNat) (hp : P S = true) : mkI P (S + 1) (S : Int) := by
  refine Or.inr ⟨Int.natCast_nonneg _, ?_⟩
  rcases h with ⟨h0, hm⟩ | ⟨h0, hm⟩
  · rw [mkr_t (by rw [hm]; have := pop_le8 hS; show pop S < 9; omega) hp]; rfl
  · rw [mkr_t (by rw [hm]; show pop S < pop b.toNat; omega) hp]; rfl
theorem mk_f {P : Nat → Bool} {S : Nat} {b : Int} (h : mkI P S b) (hp : P S = false) : mkI P (S + 1) b := by
  unfold mkI; rw [mkr_f (Or.inr hp)]; exact h
theorem mk_g {P : Nat → Bool} {S : Nat} {b : Int} (h : mkI P S b) (h0 : ¬ b < 0) (hg : ¬ pop S < pop b.toNat) : mkI P (S + 1) b := by
  rcases h with ⟨h1, _⟩ | ⟨h1, hm⟩
  · omega
  · refine Or.inr ⟨h1, ?_⟩
    rw [mkr_f (Or.inl (by rw [hm]; exact hg))]; exact hm
theorem mk_e {P : Nat → Bool} {S : Nat} {b : Int} (h : mkI P S b) : b = (mkr P S).1 := by
  rcases h with ⟨h0, h⟩ | ⟨_, h⟩
  · rw [h]; exact h0
  · rw [h]
theorem all_t {A : Sl} (h : bset 0 A = evb A) : allB A = true := (bset_all rfl).mp h
theorem all_f {A : Sl} (h : ¬ bset 0 A = evb A) : allB A = false := by
  cases ha : allB A with
  | false => rfl
  | true => exact absurd ((bset_all rfl).mpr ha) h
