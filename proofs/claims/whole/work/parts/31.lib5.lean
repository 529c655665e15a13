/-! long comparisons, Euclid, the last rows for the public calls -/
section EV5
variable {K : Kx} {own : String} {cc : ByteArray} {ws : List Cond} {fr lo pc : Nat} {L : List (Option Value)} {st : List Value} {X : Mem}
theorem ev_lcmp_eq (hC : Cx K own cc ws fr lo) {x y : Int} {off : Int} (tgt : Nat) (hd0 : decode cc pc = .ok (.lcmp, 1)) (hd : decode cc (pc + 1) = .ok (.ifCond .eq off, 3)) (ht : ((pc + 1 : Nat) : Int) + off = (tgt : Int)) (hrx : -9223372036854775808 ≤ x ∧ x ≤ 9223372036854775807) (hry : -9223372036854775808 ≤ y ∧ y ≤ 9223372036854775807)
    (kt : x = y → Ev K (tgt) L (st) X) (kf : ¬ x = y → Ev K (pc + 1 + 3) L (st) X) : Ev K (pc) L (vl y :: vl x :: st) X := by
  obtain ⟨⟨p, l, e, R, s, m, args, below⟩, ⟨meth, c, dC, dI, cI, ad⟩, ⟨A, H0, nL, cells, slots, Q⟩⟩ := K
  obtain ⟨⟨hx, hb, hml, hown, hts⟩, ⟨hfr, hlo, hcs, hss⟩, hK, hNW, had, hAa, hAn⟩ := hC
  intro H locs ls hP hS hl
  refine W.lcmp hx hb hd0 ?_
  exact lv_if_eq hx hb hd ht (fun q => kt ((zL_inj hrx hry).mp ((lg_cmp_eq _ _).mp q)) H locs ls hP hS hl) (fun q => kf (fun z => q ((lg_cmp_eq _ _).mpr ((zL_inj hrx hry).mpr z))) H locs ls hP hS hl)
theorem ev_lcmp_ne (hC : Cx K own cc ws fr lo) {x y : Int} {off : Int} (tgt : Nat) (hd0 : decode cc pc = .ok (.lcmp, 1)) (hd : decode cc (pc + 1) = .ok (.ifCond .ne off, 3)) (ht : ((pc + 1 : Nat) : Int) + off = (tgt : Int)) (hrx : -9223372036854775808 ≤ x ∧ x ≤ 9223372036854775807) (hry : -9223372036854775808 ≤ y ∧ y ≤ 9223372036854775807)
    (kt : ¬ x = y → Ev K (tgt) L (st) X) (kf : x = y → Ev K (pc + 1 + 3) L (st) X) : Ev K (pc) L (vl y :: vl x :: st) X := by
  obtain ⟨⟨p, l, e, R, s, m, args, below⟩, ⟨meth, c, dC, dI, cI, ad⟩, ⟨A, H0, nL, cells, slots, Q⟩⟩ := K
  obtain ⟨⟨hx, hb, hml, hown, hts⟩, ⟨hfr, hlo, hcs, hss⟩, hK, hNW, had, hAa, hAn⟩ := hC
  intro H locs ls hP hS hl
  refine W.lcmp hx hb hd0 ?_
  exact lv_if_ne hx hb hd ht (fun q => kt (fun z => q ((lg_cmp_eq _ _).mpr ((zL_inj hrx hry).mpr z))) H locs ls hP hS hl) (fun q => kf ((zL_inj hrx hry).mp ((lg_cmp_eq _ _).mp q)) H locs ls hP hS hl)
end EV5
/-- Euclid's two numbers in round i, from a and b -/
def eucI (i x y a b : Nat) : Prop := Nat.gcd x y = Nat.gcd a b ∧ x ≤ 9223372036854775807 ∧ y ≤ 9223372036854775807 ∧ ((i = 0 ∧ x = a ∧ y = b) ∨ (1 ≤ i ∧ y < x ∧ x * y * 2 ^ (i - 1) ≤ a * b))
theorem euc_0 {a b : Nat} (ha : a ≤ 9223372036854775807) (hb : b ≤ 9223372036854775807) : eucI 0 a b a b := ⟨rfl, ha, hb, Or.inl ⟨rfl, rfl, rfl⟩⟩
theorem euc_s {i x y a b : Nat} (h : eucI i x y a b) (hy : ¬ y = 0) : eucI (i + 1) y (x % y) a b := by
  obtain ⟨h1, h2, h3, h4⟩ := h
  have hl := Nat.mod_lt x (show 0 < y by omega)
  refine ⟨by rw [← h1, Nat.gcd_comm y, ← Nat.gcd_rec, Nat.gcd_comm], h3, by omega, Or.inr ⟨by omega, hl, ?_⟩⟩
  rcases h4 with ⟨rfl, rfl, rfl⟩ | ⟨hi, hlt, hm⟩
  · rw [Nat.zero_add, Nat.sub_self, Nat.pow_zero, Nat.mul_one, Nat.mul_comm]
    exact Nat.mul_le_mul_right _ (Nat.mod_le _ _)
  · rw [show i + 1 - 1 = (i - 1) + 1 by omega, Nat.pow_succ, ← Nat.mul_assoc]
    refine Nat.le_trans ?_ hm
    have hd := Nat.div_add_mod x y
    have hq : 1 ≤ x / y := (Nat.one_le_div_iff (by omega)).mpr (by omega)
    have h5 : y * 1 ≤ y * (x / y) := Nat.mul_le_mul_left _ hq
    have h6 : (x % y) * 2 ≤ x := by omega
    have h7 : y * ((x % y) * 2) ≤ y * x := Nat.mul_le_mul_left _ h6
    calc y * (x % y) * 2 ^ (i - 1) * 2 = y * ((x % y) * 2) * 2 ^ (i - 1) := by rw [Nat.mul_assoc, Nat.mul_comm (2 ^ (i - 1)) 2, ← Nat.mul_assoc, Nat.mul_assoc y]
      _ ≤ y * x * 2 ^ (i - 1) := Nat.mul_le_mul_right _ h7
      _ = x * y * 2 ^ (i - 1) := by rw [Nat.mul_comm y]
theorem euc_end {i x y a b : Nat} (h : eucI i x y a b) (ha : a ≤ 9223372036854775807) (hb : b ≤ 9223372036854775807) (hi : 200 ≤ i) : y = 0 := by
  obtain ⟨_, _, _, h4⟩ := h
  rcases h4 with ⟨h0, _⟩ | ⟨_, hlt, hm⟩
  · omega
  · by_cases hy : y = 0
    · exact hy
    · exfalso
      have h1 : 1 ≤ x * y := Nat.mul_pos (by omega) (by omega)
      have h2 : 2 ^ 199 ≤ 2 ^ (i - 1) := Nat.pow_le_pow_right (by decide) (by omega)
      have h3 : 1 * 2 ^ 199 ≤ x * y * 2 ^ (i - 1) := Nat.mul_le_mul h1 h2
      have h5 : a * b ≤ 9223372036854775807 * 9223372036854775807 := Nat.mul_le_mul ha hb
      have h6 : (9223372036854775807 * 9223372036854775807 : Nat) < 1 * 2 ^ 199 := by decide
      omega
theorem euc_gcd {i x y a b : Nat} (h : eucI i x y a b) (hy : y = 0) : (x : Int) = ((Nat.gcd a b : Nat) : Int) := by
  rw [← h.1, hy, Nat.gcd_zero_right]
theorem prt_0 {up down : Nat} {w : Int} (h : (up : Int) = 0) : w = prt up down w := by unfold prt; rw [if_pos (by omega)]
theorem prt_u {up down : Nat} {w : Int} (h : ¬ (up : Int) = 0) (hw : w = 0) : ((up / Nat.gcd up down : Nat) : Int) = prt up down w := by unfold prt; rw [if_neg (by omega), if_pos hw]
theorem prt_d {up down : Nat} {w : Int} (h : ¬ (up : Int) = 0) (hw : ¬ w = 0) : ((down / Nat.gcd up down : Nat) : Int) = prt up down w := by unfold prt; rw [if_neg (by omega), if_neg hw]
/-- how a call that refuses ends -/
theorem no_end {X : Mem} {V : St} {code z : Int} {r : Int × St} (h : code = z) (hz : ¬ z = 0) (hV : cI X V) :
    (some (vi z) : Option Value) = some (vi (wC code V r).1) ∧ cI (mset X 8 (-z).toNat (X 8 (-z).toNat + 1)) (wC code V r).2 ∧ frC X (mset X 8 (-z).toNat (X 8 (-z).toNat + 1)) := by
  subst h
  exact ⟨rv (w1_no hz), cI_no hz hV, frC_set (frC_rf X) (by omega)⟩
theorem no_endB {X : Mem} {V : St} {base code z : Int} {r : Int × St} (h : code = z) (hz : ¬ z = 0) (hV : cI X V) :
    (some (vl (base - z)) : Option Value) = some (vl (wB base code V r).1) ∧ cI (mset X 8 (-z).toNat (X 8 (-z).toNat + 1)) (wB base code V r).2 ∧ frC X (mset X 8 (-z).toNat (X 8 (-z).toNat + 1)) := by
  subst h
  exact ⟨rl (w1_noB hz), cI_noB hz hV, frC_set (frC_rf X) (by omega)⟩
theorem ok_end {X X' : Mem} {V : St} {code z : Int} {r : Int × St} (h : code = 0) (hz : z = r.1) (hV : cI X' r.2) (hF : frC X X') :
    (some (vi z) : Option Value) = some (vi (wC code V r).1) ∧ cI X' (wC code V r).2 ∧ frC X X' := by
  rw [wC_ok h]; exact ⟨rv hz, hV, hF⟩
theorem ok_endB {X X' : Mem} {V : St} {base code z : Int} {r : Int × St} (h : code = 0) (hz : z = r.1) (hV : cI X' r.2) (hF : frC X X') :
    (some (vl z) : Option Value) = some (vl (wB base code V r).1) ∧ cI X' (wB base code V r).2 ∧ frC X X' := by
  rw [wB_ok h]; exact ⟨rl hz, hV, hF⟩
theorem zI_toNat {x : Int} (h : 0 ≤ x) : zI x = zI ((x.toNat : Nat) : Int) := by rw [Int.toNat_of_nonneg h]
theorem cI_putT {X : Mem} {V : St} {x : Int} (h : cI X V) (hn : V.2.2.2.2.1 < 96) (hx : 0 ≤ x ∧ x ≤ 255) :
    cI (mset (mset X 9 V.2.2.2.2.1 (zI x)) 6 3 (zI ((V.2.2.2.2.1 + 1 : Nat) : Int))) (putT V (upN V.2.2.2.1 V.2.2.2.2.1 x.toNat) (V.2.2.2.2.1 + 1)) := by
  have r2 : ∀ q, ¬ q = 6 → ¬ q = 9 → (mset (mset X 9 V.2.2.2.2.1 (zI x)) 6 3 (zI ((V.2.2.2.2.1 + 1 : Nat) : Int))) q = X q := fun q a b => by rw [mset_row a, mset_row b]
  refine ⟨h.1.keep (r2 _ (by omega) (by omega)) (fun q hq => r2 _ (by omega) (by omega)), h.2.1, fun z => ⟨(h.2.2.1 z).1.keep (r2 _ (by omega) (by omega)) (fun q hq => r2 _ (by omega) (by omega)), (h.2.2.1 z).2⟩, by rw [r2 0 (by omega) (by omega)]; exact h.2.2.2.1, ⟨mset_eq _ _ _ _, hn, fun k hk => ?_⟩, ⟨by rw [r2 7 (by omega) (by omega)]; exact h.2.2.2.2.2.1.1, h.2.2.2.2.2.1.2.1, fun j hj => by rw [r2 10 (by omega) (by omega)]; exact h.2.2.2.2.2.1.2.2 j hj⟩, fun j hj => by rw [r2 8 (by omega) (by omega)]; exact h.2.2.2.2.2.2 j hj⟩
  show _ = zI (((if k = V.2.2.2.2.1 then x.toNat else V.2.2.2.1 k : Nat)) : Int) ∧ (if k = V.2.2.2.2.1 then x.toNat else V.2.2.2.1 k : Nat) ≤ 255
  have hk' : k < V.2.2.2.2.1 + 1 := hk
  by_cases he : k = V.2.2.2.2.1
  · rw [if_pos he, mset_row (by omega), he, mset_eq]; exact ⟨zI_toNat hx.1, by omega⟩
  · rw [if_neg he, mset_row (by omega), mset_ne _ _ _ _ (by omega)]; exact h.2.2.2.2.1.2.2 k (by omega)
theorem cI_putW {X : Mem} {V : St} {x : Int} (h : cI X V) (hn : V.2.2.2.2.2.2.1 < 16) (hx : 0 ≤ x ∧ x ≤ 99) :
    cI (mset (mset X 10 V.2.2.2.2.2.2.1 (zI x)) 7 1 (zI ((V.2.2.2.2.2.2.1 + 1 : Nat) : Int))) (putW V (upN V.2.2.2.2.2.1 V.2.2.2.2.2.2.1 x.toNat) (V.2.2.2.2.2.2.1 + 1)) := by
  have r2 : ∀ q, ¬ q = 7 → ¬ q = 10 → (mset (mset X 10 V.2.2.2.2.2.2.1 (zI x)) 7 1 (zI ((V.2.2.2.2.2.2.1 + 1 : Nat) : Int))) q = X q := fun q a b => by rw [mset_row a, mset_row b]
  refine ⟨h.1.keep (r2 _ (by omega) (by omega)) (fun q hq => r2 _ (by omega) (by omega)), h.2.1, fun z => ⟨(h.2.2.1 z).1.keep (r2 _ (by omega) (by omega)) (fun q hq => r2 _ (by omega) (by omega)), (h.2.2.1 z).2⟩, by rw [r2 0 (by omega) (by omega)]; exact h.2.2.2.1, ⟨by rw [r2 6 (by omega) (by omega)]; exact h.2.2.2.2.1.1, h.2.2.2.2.1.2.1, fun j hj => by rw [r2 9 (by omega) (by omega)]; exact h.2.2.2.2.1.2.2 j hj⟩, ⟨mset_eq _ _ _ _, hn, fun k hk => ?_⟩, fun j hj => by rw [r2 8 (by omega) (by omega)]; exact h.2.2.2.2.2.2 j hj⟩
  show _ = zI (((if k = V.2.2.2.2.2.2.1 then x.toNat else V.2.2.2.2.2.1 k : Nat)) : Int) ∧ (if k = V.2.2.2.2.2.2.1 then x.toNat else V.2.2.2.2.2.1 k : Nat) ≤ 99
  have hk' : k < V.2.2.2.2.2.2.1 + 1 := hk
  by_cases he : k = V.2.2.2.2.2.2.1
  · rw [if_pos he, mset_row (by omega), he, mset_eq]; exact ⟨zI_toNat hx.1, by omega⟩
  · rw [if_neg he, mset_row (by omega), mset_ne _ _ _ _ (by omega)]; exact h.2.2.2.2.2.1.2.2 k (by omega)
theorem cI_putW0 {X : Mem} {V : St} (h : cI X V) : cI (mset X 7 1 (zI 0)) (putW V V.2.2.2.2.2.1 0) := by
  have r2 : ∀ q, ¬ q = 7 → (mset X 7 1 (zI 0)) q = X q := fun q a => by rw [mset_row a]
  exact ⟨h.1.keep (r2 _ (by omega)) (fun q hq => r2 _ (by omega)), h.2.1, fun z => ⟨(h.2.2.1 z).1.keep (r2 _ (by omega)) (fun q hq => r2 _ (by omega)), (h.2.2.1 z).2⟩, by rw [r2 0 (by omega)]; exact h.2.2.2.1, ⟨by rw [r2 6 (by omega)]; exact h.2.2.2.2.1.1, h.2.2.2.2.1.2.1, fun j hj => by rw [r2 9 (by omega)]; exact h.2.2.2.2.1.2.2 j hj⟩, ⟨mset_eq _ _ _ _, Nat.zero_le _, fun k hk => absurd hk (Nat.not_lt_zero _)⟩, fun j hj => by rw [r2 8 (by omega)]; exact h.2.2.2.2.2.2 j hj⟩
theorem cI_putT0 {X X' : Mem} {V : St} {A : Sl} (h : cI X V) (hA : Rp (vC X' 1) A) (hy : A 5 1 ≤ 999) (hF : fr13 X X') : cI (mset X' 6 3 (zI 0)) (putT (putA V A) V.2.2.2.1 0) := by
  have r2 : ∀ q, ¬ q = 6 → (mset X' 6 3 (zI 0)) q = X' q := fun q a => by rw [mset_row a]
  have r3 : ∀ q, ¬ q = 6 → ¬ q = 1 → ¬ q = 3 → (q < 11 ∨ 16 < q) → (q < 23 ∨ 28 < q) → (mset X' 6 3 (zI 0)) q = X q := fun q a b c d e => (r2 q a).trans (hF q b c d e)
  refine ⟨hA.keep (r2 _ (by omega)) (fun q hq => r2 _ (by omega)), hy, fun z => ⟨(h.2.2.1 z).1.keep (r3 _ (by omega) (by omega) (by omega) (by omega) (by omega)) (fun q hq => r3 _ (by omega) (by omega) (by omega) (by omega) (by omega)), (h.2.2.1 z).2⟩, by rw [r3 0 (by omega) (by omega) (by omega) (by omega) (by omega)]; exact h.2.2.2.1, ⟨mset_eq _ _ _ _, Nat.zero_le _, fun k hk => absurd hk (Nat.not_lt_zero _)⟩, ⟨by rw [r3 7 (by omega) (by omega) (by omega) (by omega) (by omega)]; exact h.2.2.2.2.2.1.1, h.2.2.2.2.2.1.2.1, fun j hj => by rw [r3 10 (by omega) (by omega) (by omega) (by omega) (by omega)]; exact h.2.2.2.2.2.1.2.2 j hj⟩, fun j hj => by rw [r3 8 (by omega) (by omega) (by omega) (by omega) (by omega)]; exact h.2.2.2.2.2.2 j hj⟩
theorem slopeS_year {T : Nat → Nat} {n : Nat} {A : Sl} (h : A 5 1 ≤ 999) : orA A (slopeS T n A).2 5 1 ≤ 999 := by
  unfold slopeS
  by_cases hw : 0 ≤ wfR T n 100 0
  · rw [if_pos hw]; exact h
  · rw [if_neg hw]
    cases hr : (runS T n 100 0 0 A).2 with
    | none => exact h
    | some B => exact runS_y _ _ _ _ h _ hr
theorem cI_take {X X' : Mem} {V : St} (h : cI X V) (hA : Rp (vC X' 2) V.1) (hF : frS 2 X X') : cI (mset X' 0 8 (zI 1)) (V.1, V.1, true, V.2.2.2) := by
  have r2 : ∀ q, ¬ q = 0 → (mset X' 0 8 (zI 1)) q = X' q := fun q a => by rw [mset_row a]
  have r3 : ∀ q, ¬ q = 0 → ¬ q = 2 → (q < 17 ∨ 22 < q) → (mset X' 0 8 (zI 1)) q = X q := fun q a b c => (r2 q a).trans (hF q b (by omega))
  exact ⟨h.1.keep (r3 _ (by omega) (by omega) (by omega)) (fun q hq => r3 _ (by omega) (by omega) (by omega)), h.2.1, fun _ => ⟨hA.keep (r2 _ (by omega)) (fun q hq => r2 _ (by omega)), h.2.1⟩, mset_eq _ _ _ _, ⟨by rw [r3 6 (by omega) (by omega) (by omega)]; exact h.2.2.2.2.1.1, h.2.2.2.2.1.2.1, fun j hj => by rw [r3 9 (by omega) (by omega) (by omega)]; exact h.2.2.2.2.1.2.2 j hj⟩, ⟨by rw [r3 7 (by omega) (by omega) (by omega)]; exact h.2.2.2.2.2.1.1, h.2.2.2.2.2.1.2.1, fun j hj => by rw [r3 10 (by omega) (by omega) (by omega)]; exact h.2.2.2.2.2.1.2.2 j hj⟩, fun j hj => by rw [r3 8 (by omega) (by omega) (by omega)]; exact h.2.2.2.2.2.2 j hj⟩
theorem wnC_b {x y w : Int} (h : x < 0 ∨ y < 2) : wnC x y w = -4 := if_pos h
theorem wnC_r {x y w : Int} (h : ¬ (x < 0 ∨ y < 2)) (h2 : 7 < x ∨ 20 < y) : wnC x y w = -6 := by unfold wnC; rw [if_neg h, if_pos h2]
theorem wnC_o {x y w : Int} (h : ¬ (x < 0 ∨ y < 2)) (h2 : ¬ (7 < x ∨ 20 < y)) : wnC x y w = cdO w 2 := by unfold wnC; rw [if_neg h, if_neg h2]
theorem pow20 {t n : Nat} (ht : t ≤ 20) (hn : n ≤ 7) : t ^ n ≤ 1280000000 := Nat.le_trans (Nat.pow_le_pow_left ht _) (Nat.le_trans (Nat.pow_le_pow_right (by decide) hn) (by decide))
theorem windU_le {n t : Nat} {A : Sl} (hn : n ≤ 7) (ht : t ≤ 20) : ∀ S, windU n t A S ≤ S * 1280000000
  | 0 => Nat.zero_le _
  | S + 1 => by
    have ih := windU_le (A := A) hn ht S
    have h1 : (t - 1) ^ (n - pop S) ≤ 1280000000 := pow20 (by omega) (by omega)
    unfold windU
    rw [Nat.succ_mul]
    by_cases e : allB (goW S n A) = true
    · rw [if_pos e]; exact Nat.add_le_add ih h1
    · rw [if_neg e]; exact Nat.le_trans ih (Nat.le_add_right _ _)
theorem cnS_r {V : St} {x : Int} (h : 11 ≤ x ∧ x ≤ 16) : ((V.2.2.2.2.2.2.2 (x - 10).toNat : Nat) : Int) = cnS V x := by unfold cnS; rw [if_pos h]
theorem on_no {X : Mem} {V : St} (e : V.2.2.1 = false) (hV : cI X V) :
    (some (vi (-3)) : Option Value) = some (vi (sp35 V).1) ∧ cI (mset X 8 (-(-3 : Int)).toNat (X 8 (-(-3 : Int)).toNat + 1)) (sp35 V).2 ∧ frC X (mset X 8 (-(-3 : Int)).toNat (X 8 (-(-3 : Int)).toNat + 1)) := by
  have h : sp35 V = (-3, rfV 3 V) := by unfold sp35; rw [if_neg (by rw [e]; decide)]
  rw [h]
  exact ⟨rfl, cI_rf hV, frC_set (frC_rf X) (by omega)⟩
theorem on_ok {X X' : Mem} {V : St} (e : V.2.2.1 = true) (hV : cI X' (putA V V.2.1)) (hF : frC X X') :
    (some (vi ((V.2.1 5 1 : Nat) : Int)) : Option Value) = some (vi (sp35 V).1) ∧ cI X' (sp35 V).2 ∧ frC X X' := by
  have h : sp35 V = ((V.2.1 5 1 : Int), putA V V.2.1) := by unfold sp35; rw [if_pos e]
  rw [h]
  exact ⟨rfl, hV, hF⟩
