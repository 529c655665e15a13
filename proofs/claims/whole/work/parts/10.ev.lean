/-! whole numbers as ints and longs -/
def zI (z : Int) : Int32 := Int32.ofInt z
def zL (z : Int) : Int64 := Int64.ofInt z
abbrev vi (z : Int) : Value := .int (zI z)
abbrev vl (z : Int) : Value := .long (zL z)
theorem zI_toInt {z : Int} (h : -2147483648 ≤ z ∧ z ≤ 2147483647) : (zI z).toInt = z := Int32.toInt_ofInt_of_le (by omega) (by omega)
theorem zL_toInt {z : Int} (h : -9223372036854775808 ≤ z ∧ z ≤ 9223372036854775807) : (zL z).toInt = z := Int64.toInt_ofInt_of_le (by omega) (by omega)
theorem zI_self (x : Int32) : zI x.toInt = x := Int32.ofInt_toInt x
theorem zI_inj {a b : Int} (ha : -2147483648 ≤ a ∧ a ≤ 2147483647) (hb : -2147483648 ≤ b ∧ b ≤ 2147483647) : zI a = zI b ↔ a = b := ⟨fun h => by rw [← zI_toInt ha, ← zI_toInt hb, h], fun h => by rw [h]⟩
theorem zL_inj {a b : Int} (ha : -9223372036854775808 ≤ a ∧ a ≤ 9223372036854775807) (hb : -9223372036854775808 ≤ b ∧ b ≤ 9223372036854775807) : zL a = zL b ↔ a = b := ⟨fun h => by rw [← zL_toInt ha, ← zL_toInt hb, h], fun h => by rw [h]⟩
theorem zI_lt {a b : Int} (ha : -2147483648 ≤ a ∧ a ≤ 2147483647) (hb : -2147483648 ≤ b ∧ b ≤ 2147483647) : zI a < zI b ↔ a < b := by rw [Int32.lt_iff_toInt_lt, zI_toInt ha, zI_toInt hb]
theorem zI_le {a b : Int} (ha : -2147483648 ≤ a ∧ a ≤ 2147483647) (hb : -2147483648 ≤ b ∧ b ≤ 2147483647) : zI a ≤ zI b ↔ a ≤ b := by rw [Int32.le_iff_toInt_le, zI_toInt ha, zI_toInt hb]
theorem zI_add (a b : Int) : zI a + zI b = zI (a + b) := (Int32.ofInt_add a b).symm
theorem zI_sub (a b : Int) : zI a - zI b = zI (a - b) := (Int32.ofInt_sub a b).symm
theorem zI_mul (a b : Int) : zI a * zI b = zI (a * b) := (Int32.ofInt_mul a b).symm
theorem zI_neg (a : Int) : - zI a = zI (- a) := Int32.neg_ofInt
theorem zL_add (a b : Int) : zL a + zL b = zL (a + b) := (Int64.ofInt_add a b).symm
theorem zL_sub (a b : Int) : zL a - zL b = zL (a - b) := (Int64.ofInt_sub a b).symm
theorem zL_mul (a b : Int) : zL a * zL b = zL (a * b) := (Int64.ofInt_mul a b).symm
theorem zI_cl {z : Int} (h : 0 ≤ z ∧ z ≤ 2147483647) : (zI z).toNatClampNeg = z.toNat := Int32.toNatClampNeg_ofInt_of_le (by omega) (by omega)
theorem zI_clN {n : Nat} (h : n ≤ 2147483647) : (zI n).toNatClampNeg = n := by rw [zI_cl (by omega)]; omega
theorem zI_in {a : Int} {n : Nat} (h : 0 ≤ a ∧ a < n) (hn : n ≤ 2147483647) : vp_in (zI a) n := by rw [vp_in_iff, zI_toInt (by omega)]; exact h
theorem zI_div {a b : Int} (ha : 0 ≤ a ∧ a ≤ 2147483647) (hb : 0 < b ∧ b ≤ 2147483647) : zI a / zI b = zI (a / b) := by
  apply Int32.toInt.inj
  have h1 : 0 ≤ a / b := Int.ediv_nonneg ha.1 (by omega)
  have h2 : a / b ≤ a := Int.ediv_le_self b ha.1
  rw [Int32.toInt_div_of_ne_left _ _ (by intro q; have := congrArg Int32.toInt q; rw [zI_toInt (by omega)] at this; simp at this; omega), zI_toInt (by omega), zI_toInt (by omega), zI_toInt (by omega), Int.tdiv_eq_ediv_of_nonneg ha.1]
theorem zI_rem {a b : Int} (ha : 0 ≤ a ∧ a ≤ 2147483647) (hb : 0 < b ∧ b ≤ 2147483647) : zI a - zI a / zI b * zI b = zI (a % b) := by
  rw [zI_div ha hb, zI_mul, zI_sub, Int.emod_def, Int.mul_comm]
theorem zL_div {a b : Int} (ha : 0 ≤ a ∧ a ≤ 9223372036854775807) (hb : 0 < b ∧ b ≤ 9223372036854775807) : zL a / zL b = zL (a / b) := by
  apply Int64.toInt.inj
  have h1 : 0 ≤ a / b := Int.ediv_nonneg ha.1 (by omega)
  have h2 : a / b ≤ a := Int.ediv_le_self b ha.1
  rw [Int64.toInt_div_of_ne_left _ _ (by intro q; have := congrArg Int64.toInt q; rw [zL_toInt (by omega)] at this; simp at this; omega), zL_toInt (by omega), zL_toInt (by omega), zL_toInt (by omega), Int.tdiv_eq_ediv_of_nonneg ha.1]
theorem zL_rem {a b : Int} (ha : 0 ≤ a ∧ a ≤ 9223372036854775807) (hb : 0 < b ∧ b ≤ 9223372036854775807) : zL a - zL a / zL b * zL b = zL (a % b) := by
  rw [zL_div ha hb, zL_mul, zL_sub, Int.emod_def, Int.mul_comm]
theorem zI_ne0 {b : Int} (hb : 0 < b ∧ b ≤ 2147483647) : ¬ zI b = 0 := fun q => by
  have h : zI b = zI 0 := q
  rw [zI_inj (by omega) (by omega)] at h
  omega
theorem zL_ne0 {b : Int} (hb : 0 < b ∧ b ≤ 9223372036854775807) : ¬ zL b = 0 := fun q => by
  have h : zL b = zL 0 := q
  rw [zL_inj (by omega) (by omega)] at h
  omega
theorem zI_toL {z : Int} (h : -2147483648 ≤ z ∧ z ≤ 2147483647) : (zI z).toInt64 = zL z := Int32.toInt64_ofInt (by show _ ≤ z; exact h.1) (by show z ≤ _; exact h.2)
theorem InRn {n : Nat} (h : n ≤ 2147483647) : -2147483648 ≤ (n : Int) ∧ (n : Int) ≤ 2147483647 := by omega
/-! ===== a row an instruction ===== -/
section EV
variable {K : Kx} {own : String} {cc : ByteArray} {ws : List Cond} {fr lo pc : Nat} {L : List (Option Value)} {st : List Value} {X : Mem}

theorem ev_iload_n (hC : Cx K own cc ws fr lo) {k : Fin 4} {x : Int32} (hd : decode cc pc = .ok (.iload_n k, 1)) (h : L[(k : Nat)]? = some (some (.int x)))
    (kk : Ev K (pc + 1) L ((.int x) :: st) X) : Ev K (pc) L (st) X := by
  obtain ⟨⟨p, l, e, R, s, m, args, below⟩, ⟨meth, c, dC, dI, cI, ad⟩, ⟨A, H0, nL, cells, slots, Q⟩⟩ := K
  obtain ⟨⟨hx, hb, hml, hown, hts⟩, ⟨hfr, hlo, hcs, hss⟩, hK, hNW, had, hAa, hAn⟩ := hC
  intro H locs ls hP hS hl
  exact lv_iload_n hx hb hd rfl (lvs_at hl h) (kk H locs ls hP hS hl)
theorem ev_iload (hC : Cx K own cc ws fr lo) {i : Nat} {x : Int32} (hd : decode cc pc = .ok (.iload i, 2)) (h : L[i]? = some (some (.int x)))
    (kk : Ev K (pc + 2) L ((.int x) :: st) X) : Ev K (pc) L (st) X := by
  obtain ⟨⟨p, l, e, R, s, m, args, below⟩, ⟨meth, c, dC, dI, cI, ad⟩, ⟨A, H0, nL, cells, slots, Q⟩⟩ := K
  obtain ⟨⟨hx, hb, hml, hown, hts⟩, ⟨hfr, hlo, hcs, hss⟩, hK, hNW, had, hAa, hAn⟩ := hC
  intro H locs ls hP hS hl
  exact lv_iload hx hb hd (lvs_at hl h) (kk H locs ls hP hS hl)
theorem ev_aload_n (hC : Cx K own cc ws fr lo) {k : Fin 4} {x : Nat} (hd : decode cc pc = .ok (.aload_n k, 1)) (h : L[(k : Nat)]? = some (some (.ref x)))
    (kk : Ev K (pc + 1) L ((.ref x) :: st) X) : Ev K (pc) L (st) X := by
  obtain ⟨⟨p, l, e, R, s, m, args, below⟩, ⟨meth, c, dC, dI, cI, ad⟩, ⟨A, H0, nL, cells, slots, Q⟩⟩ := K
  obtain ⟨⟨hx, hb, hml, hown, hts⟩, ⟨hfr, hlo, hcs, hss⟩, hK, hNW, had, hAa, hAn⟩ := hC
  intro H locs ls hP hS hl
  exact lv_aload_n hx hb hd rfl (lvs_at hl h) (kk H locs ls hP hS hl)
theorem ev_aload (hC : Cx K own cc ws fr lo) {i : Nat} {x : Nat} (hd : decode cc pc = .ok (.aload i, 2)) (h : L[i]? = some (some (.ref x)))
    (kk : Ev K (pc + 2) L ((.ref x) :: st) X) : Ev K (pc) L (st) X := by
  obtain ⟨⟨p, l, e, R, s, m, args, below⟩, ⟨meth, c, dC, dI, cI, ad⟩, ⟨A, H0, nL, cells, slots, Q⟩⟩ := K
  obtain ⟨⟨hx, hb, hml, hown, hts⟩, ⟨hfr, hlo, hcs, hss⟩, hK, hNW, had, hAa, hAn⟩ := hC
  intro H locs ls hP hS hl
  exact lv_aload hx hb hd (lvs_at hl h) (kk H locs ls hP hS hl)
theorem ev_lload_n (hC : Cx K own cc ws fr lo) {k : Fin 4} {x : Int64} (hd : decode cc pc = .ok (.lload_n k, 1)) (h : L[(k : Nat)]? = some (some (.long x)))
    (kk : Ev K (pc + 1) L ((.long x) :: st) X) : Ev K (pc) L (st) X := by
  obtain ⟨⟨p, l, e, R, s, m, args, below⟩, ⟨meth, c, dC, dI, cI, ad⟩, ⟨A, H0, nL, cells, slots, Q⟩⟩ := K
  obtain ⟨⟨hx, hb, hml, hown, hts⟩, ⟨hfr, hlo, hcs, hss⟩, hK, hNW, had, hAa, hAn⟩ := hC
  intro H locs ls hP hS hl
  exact lv_lload_n hx hb hd rfl (lvs_at hl h) (kk H locs ls hP hS hl)
theorem ev_lload (hC : Cx K own cc ws fr lo) {i : Nat} {x : Int64} (hd : decode cc pc = .ok (.lload i, 2)) (h : L[i]? = some (some (.long x)))
    (kk : Ev K (pc + 2) L ((.long x) :: st) X) : Ev K (pc) L (st) X := by
  obtain ⟨⟨p, l, e, R, s, m, args, below⟩, ⟨meth, c, dC, dI, cI, ad⟩, ⟨A, H0, nL, cells, slots, Q⟩⟩ := K
  obtain ⟨⟨hx, hb, hml, hown, hts⟩, ⟨hfr, hlo, hcs, hss⟩, hK, hNW, had, hAa, hAn⟩ := hC
  intro H locs ls hP hS hl
  exact lv_lload hx hb hd (lvs_at hl h) (kk H locs ls hP hS hl)
theorem ev_iconst (hC : Cx K own cc ws fr lo) {n : Int} (hd : decode cc pc = .ok (.iconst n, 1))
    (kk : Ev K (pc + 1) L (vi n :: st) X) : Ev K (pc) L (st) X := by
  obtain ⟨⟨p, l, e, R, s, m, args, below⟩, ⟨meth, c, dC, dI, cI, ad⟩, ⟨A, H0, nL, cells, slots, Q⟩⟩ := K
  obtain ⟨⟨hx, hb, hml, hown, hts⟩, ⟨hfr, hlo, hcs, hss⟩, hK, hNW, had, hAa, hAn⟩ := hC
  intro H locs ls hP hS hl
  exact lv_iconst hx hb hd rfl (kk H locs ls hP hS hl)
theorem ev_bipush (hC : Cx K own cc ws fr lo) {n : Int} (hd : decode cc pc = .ok (.bipush n, 2)) (h : (Int8.ofInt n).toInt32 = zI n)
    (kk : Ev K (pc + 2) L (vi n :: st) X) : Ev K (pc) L (st) X := by
  obtain ⟨⟨p, l, e, R, s, m, args, below⟩, ⟨meth, c, dC, dI, cI, ad⟩, ⟨A, H0, nL, cells, slots, Q⟩⟩ := K
  obtain ⟨⟨hx, hb, hml, hown, hts⟩, ⟨hfr, hlo, hcs, hss⟩, hK, hNW, had, hAa, hAn⟩ := hC
  intro H locs ls hP hS hl
  exact lv_bipush hx hb hd h (kk H locs ls hP hS hl)
theorem ev_sipush (hC : Cx K own cc ws fr lo) {n : Int} (hd : decode cc pc = .ok (.sipush n, 3)) (h : (Int16.ofInt n).toInt32 = zI n)
    (kk : Ev K (pc + 3) L (vi n :: st) X) : Ev K (pc) L (st) X := by
  obtain ⟨⟨p, l, e, R, s, m, args, below⟩, ⟨meth, c, dC, dI, cI, ad⟩, ⟨A, H0, nL, cells, slots, Q⟩⟩ := K
  obtain ⟨⟨hx, hb, hml, hown, hts⟩, ⟨hfr, hlo, hcs, hss⟩, hK, hNW, had, hAa, hAn⟩ := hC
  intro H locs ls hP hS hl
  exact lv_sipush hx hb hd h (kk H locs ls hP hS hl)
theorem ev_ldc (hC : Cx K own cc ws fr lo) {i : Nat} {v : Int32} (z : Int) (hm : Cond.constant own i v ∈ ws) (hz : v = zI z) (hd : decode cc pc = .ok (.ldc i, 2))
    (kk : Ev K (pc + 2) L (vi z :: st) X) : Ev K (pc) L (st) X := by
  obtain ⟨⟨p, l, e, R, s, m, args, below⟩, ⟨meth, c, dC, dI, cI, ad⟩, ⟨A, H0, nL, cells, slots, Q⟩⟩ := K
  obtain ⟨⟨hx, hb, hml, hown, hts⟩, ⟨hfr, hlo, hcs, hss⟩, hK, hNW, had, hAa, hAn⟩ := hC
  intro H locs ls hP hS hl
  subst hz
  exact lv_ldc hx hb hown (hts _ hm) hd (kk H locs ls hP hS hl)
theorem ev_ldcw (hC : Cx K own cc ws fr lo) {i : Nat} {v : Int32} (z : Int) (hm : Cond.constant own i v ∈ ws) (hz : v = zI z) (hd : decode cc pc = .ok (.ldc_w i, 3))
    (kk : Ev K (pc + 3) L (vi z :: st) X) : Ev K (pc) L (st) X := by
  obtain ⟨⟨p, l, e, R, s, m, args, below⟩, ⟨meth, c, dC, dI, cI, ad⟩, ⟨A, H0, nL, cells, slots, Q⟩⟩ := K
  obtain ⟨⟨hx, hb, hml, hown, hts⟩, ⟨hfr, hlo, hcs, hss⟩, hK, hNW, had, hAa, hAn⟩ := hC
  intro H locs ls hP hS hl
  subst hz
  exact lv_ldcw hx hb hown (hts _ hm) hd (kk H locs ls hP hS hl)
theorem ev_ldc2 (hC : Cx K own cc ws fr lo) {i : Nat} {v : Int64} (z : Int) (hm : Cond.constantLong own i v ∈ ws) (hz : v = zL z) (hd : decode cc pc = .ok (.ldc2_w i, 3))
    (kk : Ev K (pc + 3) L (vl z :: st) X) : Ev K (pc) L (st) X := by
  obtain ⟨⟨p, l, e, R, s, m, args, below⟩, ⟨meth, c, dC, dI, cI, ad⟩, ⟨A, H0, nL, cells, slots, Q⟩⟩ := K
  obtain ⟨⟨hx, hb, hml, hown, hts⟩, ⟨hfr, hlo, hcs, hss⟩, hK, hNW, had, hAa, hAn⟩ := hC
  intro H locs ls hP hS hl
  subst hz
  exact lv_ldc2 hx hb hown (hts _ hm) hd (kk H locs ls hP hS hl)
theorem ev_lconst (hC : Cx K own cc ws fr lo) {n : Fin 2} (z : Int) (hz : Int64.ofNat (n : Nat) = zL z) (hd : decode cc pc = .ok (.lconst n, 1))
    (kk : Ev K (pc + 1) L (vl z :: st) X) : Ev K (pc) L (st) X := by
  obtain ⟨⟨p, l, e, R, s, m, args, below⟩, ⟨meth, c, dC, dI, cI, ad⟩, ⟨A, H0, nL, cells, slots, Q⟩⟩ := K
  obtain ⟨⟨hx, hb, hml, hown, hts⟩, ⟨hfr, hlo, hcs, hss⟩, hK, hNW, had, hAa, hAn⟩ := hC
  intro H locs ls hP hS hl
  exact lv_lconst hx hb hd hz (kk H locs ls hP hS hl)
theorem ev_istore (hC : Cx K own cc ws fr lo) {i : Nat} {x : Int32} (hd : decode cc pc = .ok (.istore i, 2)) (hn : i < K.2.2.2.2.1) (ho : okst L i = true)
    (kk : Ev K (pc + 2) (L.set i (some (.int x))) (st) X) : Ev K (pc) L ((.int x) :: st) X := by
  obtain ⟨⟨p, l, e, R, s, m, args, below⟩, ⟨meth, c, dC, dI, cI, ad⟩, ⟨A, H0, nL, cells, slots, Q⟩⟩ := K
  obtain ⟨⟨hx, hb, hml, hown, hts⟩, ⟨hfr, hlo, hcs, hss⟩, hK, hNW, had, hAa, hAn⟩ := hC
  intro H locs ls hP hS hl
  exact lv_istore hx hb hd hl hn rfl (fun ls2 hl2 => kk H locs ls2 hP hS (lv_fewer hl2 (lvs_set1 ho)))
theorem ev_istore_n (hC : Cx K own cc ws fr lo) {k : Fin 4} {x : Int32} (hd : decode cc pc = .ok (.istore_n k, 1)) (hn : (k : Nat) < K.2.2.2.2.1) (ho : okst L (k : Nat) = true)
    (kk : Ev K (pc + 1) (L.set (k : Nat) (some (.int x))) (st) X) : Ev K (pc) L ((.int x) :: st) X := by
  obtain ⟨⟨p, l, e, R, s, m, args, below⟩, ⟨meth, c, dC, dI, cI, ad⟩, ⟨A, H0, nL, cells, slots, Q⟩⟩ := K
  obtain ⟨⟨hx, hb, hml, hown, hts⟩, ⟨hfr, hlo, hcs, hss⟩, hK, hNW, had, hAa, hAn⟩ := hC
  intro H locs ls hP hS hl
  exact lv_istore_n hx hb hd rfl hl hn rfl (fun ls2 hl2 => kk H locs ls2 hP hS (lv_fewer hl2 (lvs_set1 ho)))
theorem ev_astore (hC : Cx K own cc ws fr lo) {i : Nat} {x : Nat} (hd : decode cc pc = .ok (.astore i, 2)) (hn : i < K.2.2.2.2.1) (ho : okst L i = true)
    (kk : Ev K (pc + 2) (L.set i (some (.ref x))) (st) X) : Ev K (pc) L ((.ref x) :: st) X := by
  obtain ⟨⟨p, l, e, R, s, m, args, below⟩, ⟨meth, c, dC, dI, cI, ad⟩, ⟨A, H0, nL, cells, slots, Q⟩⟩ := K
  obtain ⟨⟨hx, hb, hml, hown, hts⟩, ⟨hfr, hlo, hcs, hss⟩, hK, hNW, had, hAa, hAn⟩ := hC
  intro H locs ls hP hS hl
  exact lv_astore hx hb hd hl hn rfl (fun ls2 hl2 => kk H locs ls2 hP hS (lv_fewer hl2 (lvs_set1 ho)))
theorem ev_astore_n (hC : Cx K own cc ws fr lo) {k : Fin 4} {x : Nat} (hd : decode cc pc = .ok (.astore_n k, 1)) (hn : (k : Nat) < K.2.2.2.2.1) (ho : okst L (k : Nat) = true)
    (kk : Ev K (pc + 1) (L.set (k : Nat) (some (.ref x))) (st) X) : Ev K (pc) L ((.ref x) :: st) X := by
  obtain ⟨⟨p, l, e, R, s, m, args, below⟩, ⟨meth, c, dC, dI, cI, ad⟩, ⟨A, H0, nL, cells, slots, Q⟩⟩ := K
  obtain ⟨⟨hx, hb, hml, hown, hts⟩, ⟨hfr, hlo, hcs, hss⟩, hK, hNW, had, hAa, hAn⟩ := hC
  intro H locs ls hP hS hl
  exact lv_astore_n hx hb hd rfl hl hn rfl (fun ls2 hl2 => kk H locs ls2 hP hS (lv_fewer hl2 (lvs_set1 ho)))
theorem ev_lstore (hC : Cx K own cc ws fr lo) {i : Nat} {x : Int64} (hd : decode cc pc = .ok (.lstore i, 2)) (hn : i + 1 < K.2.2.2.2.1) (ho : okst L i = true)
    (kk : Ev K (pc + 2) ((L.set i (some (.long x))).set (i + 1) none) (st) X) : Ev K (pc) L ((.long x) :: st) X := by
  obtain ⟨⟨p, l, e, R, s, m, args, below⟩, ⟨meth, c, dC, dI, cI, ad⟩, ⟨A, H0, nL, cells, slots, Q⟩⟩ := K
  obtain ⟨⟨hx, hb, hml, hown, hts⟩, ⟨hfr, hlo, hcs, hss⟩, hK, hNW, had, hAa, hAn⟩ := hC
  intro H locs ls hP hS hl
  exact lv_lstore hx hb hd hl hn rfl (fun ls2 hl2 => kk H locs ls2 hP hS (lv_fewer hl2 (lvs_set2 ho)))
theorem ev_lstore_n (hC : Cx K own cc ws fr lo) {k : Fin 4} {x : Int64} (hd : decode cc pc = .ok (.lstore_n k, 1)) (hn : (k : Nat) + 1 < K.2.2.2.2.1) (ho : okst L (k : Nat) = true)
    (kk : Ev K (pc + 1) ((L.set (k : Nat) (some (.long x))).set ((k : Nat) + 1) none) (st) X) : Ev K (pc) L ((.long x) :: st) X := by
  obtain ⟨⟨p, l, e, R, s, m, args, below⟩, ⟨meth, c, dC, dI, cI, ad⟩, ⟨A, H0, nL, cells, slots, Q⟩⟩ := K
  obtain ⟨⟨hx, hb, hml, hown, hts⟩, ⟨hfr, hlo, hcs, hss⟩, hK, hNW, had, hAa, hAn⟩ := hC
  intro H locs ls hP hS hl
  exact lv_lstore_n hx hb hd rfl hl hn rfl (fun ls2 hl2 => kk H locs ls2 hP hS (lv_fewer hl2 (lvs_set2 ho)))
theorem ev_iinc (hC : Cx K own cc ws fr lo) {i : Nat} {n x : Int} (y : Int) (hd : decode cc pc = .ok (.iinc i n, 3)) (h : L[i]? = some (some (vi x))) (hy : x + n = y) (hn : i < K.2.2.2.2.1) (ho : okst L i = true)
    (kk : Ev K (pc + 3) (L.set i (some (vi y))) (st) X) : Ev K (pc) L (st) X := by
  obtain ⟨⟨p, l, e, R, s, m, args, below⟩, ⟨meth, c, dC, dI, cI, ad⟩, ⟨A, H0, nL, cells, slots, Q⟩⟩ := K
  obtain ⟨⟨hx, hb, hml, hown, hts⟩, ⟨hfr, hlo, hcs, hss⟩, hK, hNW, had, hAa, hAn⟩ := hC
  intro H locs ls hP hS hl
  obtain ⟨k, hk⟩ := List.mem_iff_getElem?.mp ((lvs_mem (ad := ad) L 0 (i, vi x)).mpr ⟨i, vi x, h, by rw [Nat.zero_add]; rfl⟩)
  subst hy
  exact lv_iinc hx hb hd hl hk (zI_add x n) hn rfl (fun ls2 hl2 => kk H locs ls2 hP hS (lv_fewer hl2 (lvs_set1 (v := vi (x + n)) ho)))
theorem ev_iadd (hC : Cx K own cc ws fr lo) {x y : Int} (z : Int) (hz : x + y = z) (hd : decode cc pc = .ok (.iadd, 1))
    (kk : Ev K (pc + 1) L (vi z :: st) X) : Ev K (pc) L (vi y :: vi x :: st) X := by
  obtain ⟨⟨p, l, e, R, s, m, args, below⟩, ⟨meth, c, dC, dI, cI, ad⟩, ⟨A, H0, nL, cells, slots, Q⟩⟩ := K
  obtain ⟨⟨hx, hb, hml, hown, hts⟩, ⟨hfr, hlo, hcs, hss⟩, hK, hNW, had, hAa, hAn⟩ := hC
  intro H locs ls hP hS hl
  subst hz
  exact lv_iadd hx hb hd (by rw [zI_add]; exact kk H locs ls hP hS hl)
theorem ev_isub (hC : Cx K own cc ws fr lo) {x y : Int} (z : Int) (hz : x - y = z) (hd : decode cc pc = .ok (.isub, 1))
    (kk : Ev K (pc + 1) L (vi z :: st) X) : Ev K (pc) L (vi y :: vi x :: st) X := by
  obtain ⟨⟨p, l, e, R, s, m, args, below⟩, ⟨meth, c, dC, dI, cI, ad⟩, ⟨A, H0, nL, cells, slots, Q⟩⟩ := K
  obtain ⟨⟨hx, hb, hml, hown, hts⟩, ⟨hfr, hlo, hcs, hss⟩, hK, hNW, had, hAa, hAn⟩ := hC
  intro H locs ls hP hS hl
  subst hz
  exact lv_isub hx hb hd (by rw [zI_sub]; exact kk H locs ls hP hS hl)
theorem ev_imul (hC : Cx K own cc ws fr lo) {x y : Int} (z : Int) (hz : x * y = z) (hd : decode cc pc = .ok (.imul, 1))
    (kk : Ev K (pc + 1) L (vi z :: st) X) : Ev K (pc) L (vi y :: vi x :: st) X := by
  obtain ⟨⟨p, l, e, R, s, m, args, below⟩, ⟨meth, c, dC, dI, cI, ad⟩, ⟨A, H0, nL, cells, slots, Q⟩⟩ := K
  obtain ⟨⟨hx, hb, hml, hown, hts⟩, ⟨hfr, hlo, hcs, hss⟩, hK, hNW, had, hAa, hAn⟩ := hC
  intro H locs ls hP hS hl
  subst hz
  exact lv_imul hx hb hd (by rw [zI_mul]; exact kk H locs ls hP hS hl)
theorem ev_ladd (hC : Cx K own cc ws fr lo) {x y : Int} (z : Int) (hz : x + y = z) (hd : decode cc pc = .ok (.ladd, 1))
    (kk : Ev K (pc + 1) L (vl z :: st) X) : Ev K (pc) L (vl y :: vl x :: st) X := by
  obtain ⟨⟨p, l, e, R, s, m, args, below⟩, ⟨meth, c, dC, dI, cI, ad⟩, ⟨A, H0, nL, cells, slots, Q⟩⟩ := K
  obtain ⟨⟨hx, hb, hml, hown, hts⟩, ⟨hfr, hlo, hcs, hss⟩, hK, hNW, had, hAa, hAn⟩ := hC
  intro H locs ls hP hS hl
  subst hz
  exact lv_ladd hx hb hd (by rw [zL_add]; exact kk H locs ls hP hS hl)
theorem ev_lsub (hC : Cx K own cc ws fr lo) {x y : Int} (z : Int) (hz : x - y = z) (hd : decode cc pc = .ok (.lsub, 1))
    (kk : Ev K (pc + 1) L (vl z :: st) X) : Ev K (pc) L (vl y :: vl x :: st) X := by
  obtain ⟨⟨p, l, e, R, s, m, args, below⟩, ⟨meth, c, dC, dI, cI, ad⟩, ⟨A, H0, nL, cells, slots, Q⟩⟩ := K
  obtain ⟨⟨hx, hb, hml, hown, hts⟩, ⟨hfr, hlo, hcs, hss⟩, hK, hNW, had, hAa, hAn⟩ := hC
  intro H locs ls hP hS hl
  subst hz
  exact lv_lsub hx hb hd (by rw [zL_sub]; exact kk H locs ls hP hS hl)
theorem ev_lmul (hC : Cx K own cc ws fr lo) {x y : Int} (z : Int) (hz : x * y = z) (hd : decode cc pc = .ok (.lmul, 1))
    (kk : Ev K (pc + 1) L (vl z :: st) X) : Ev K (pc) L (vl y :: vl x :: st) X := by
  obtain ⟨⟨p, l, e, R, s, m, args, below⟩, ⟨meth, c, dC, dI, cI, ad⟩, ⟨A, H0, nL, cells, slots, Q⟩⟩ := K
  obtain ⟨⟨hx, hb, hml, hown, hts⟩, ⟨hfr, hlo, hcs, hss⟩, hK, hNW, had, hAa, hAn⟩ := hC
  intro H locs ls hP hS hl
  subst hz
  exact lv_lmul hx hb hd (by rw [zL_mul]; exact kk H locs ls hP hS hl)
theorem ev_idiv (hC : Cx K own cc ws fr lo) {x y : Int} (z : Int) (hz : x / y = z) (hx0 : 0 ≤ x ∧ x ≤ 2147483647) (hy0 : 0 < y ∧ y ≤ 2147483647) (hd : decode cc pc = .ok (.idiv, 1))
    (kk : Ev K (pc + 1) L (vi z :: st) X) : Ev K (pc) L (vi y :: vi x :: st) X := by
  obtain ⟨⟨p, l, e, R, s, m, args, below⟩, ⟨meth, c, dC, dI, cI, ad⟩, ⟨A, H0, nL, cells, slots, Q⟩⟩ := K
  obtain ⟨⟨hx, hb, hml, hown, hts⟩, ⟨hfr, hlo, hcs, hss⟩, hK, hNW, had, hAa, hAn⟩ := hC
  intro H locs ls hP hS hl
  subst hz
  exact lv_idiv hx hb hd (zI_ne0 hy0) (by rw [zI_div hx0 hy0]; exact kk H locs ls hP hS hl)
theorem ev_irem (hC : Cx K own cc ws fr lo) {x y : Int} (z : Int) (hz : x % y = z) (hx0 : 0 ≤ x ∧ x ≤ 2147483647) (hy0 : 0 < y ∧ y ≤ 2147483647) (hd : decode cc pc = .ok (.irem, 1))
    (kk : Ev K (pc + 1) L (vi z :: st) X) : Ev K (pc) L (vi y :: vi x :: st) X := by
  obtain ⟨⟨p, l, e, R, s, m, args, below⟩, ⟨meth, c, dC, dI, cI, ad⟩, ⟨A, H0, nL, cells, slots, Q⟩⟩ := K
  obtain ⟨⟨hx, hb, hml, hown, hts⟩, ⟨hfr, hlo, hcs, hss⟩, hK, hNW, had, hAa, hAn⟩ := hC
  intro H locs ls hP hS hl
  subst hz
  exact lv_irem hx hb hd (zI_ne0 hy0) (by rw [zI_rem hx0 hy0]; exact kk H locs ls hP hS hl)
theorem ev_ldiv (hC : Cx K own cc ws fr lo) {x y : Int} (z : Int) (hz : x / y = z) (hx0 : 0 ≤ x ∧ x ≤ 9223372036854775807) (hy0 : 0 < y ∧ y ≤ 9223372036854775807) (hd : decode cc pc = .ok (.ldiv, 1))
    (kk : Ev K (pc + 1) L (vl z :: st) X) : Ev K (pc) L (vl y :: vl x :: st) X := by
  obtain ⟨⟨p, l, e, R, s, m, args, below⟩, ⟨meth, c, dC, dI, cI, ad⟩, ⟨A, H0, nL, cells, slots, Q⟩⟩ := K
  obtain ⟨⟨hx, hb, hml, hown, hts⟩, ⟨hfr, hlo, hcs, hss⟩, hK, hNW, had, hAa, hAn⟩ := hC
  intro H locs ls hP hS hl
  subst hz
  exact lv_ldiv hx hb hd (zL_ne0 hy0) (by rw [zL_div hx0 hy0]; exact kk H locs ls hP hS hl)
theorem ev_lrem (hC : Cx K own cc ws fr lo) {x y : Int} (z : Int) (hz : x % y = z) (hx0 : 0 ≤ x ∧ x ≤ 9223372036854775807) (hy0 : 0 < y ∧ y ≤ 9223372036854775807) (hd : decode cc pc = .ok (.lrem, 1))
    (kk : Ev K (pc + 1) L (vl z :: st) X) : Ev K (pc) L (vl y :: vl x :: st) X := by
  obtain ⟨⟨p, l, e, R, s, m, args, below⟩, ⟨meth, c, dC, dI, cI, ad⟩, ⟨A, H0, nL, cells, slots, Q⟩⟩ := K
  obtain ⟨⟨hx, hb, hml, hown, hts⟩, ⟨hfr, hlo, hcs, hss⟩, hK, hNW, had, hAa, hAn⟩ := hC
  intro H locs ls hP hS hl
  subst hz
  exact lv_lrem hx hb hd (zL_ne0 hy0) (by rw [zL_rem hx0 hy0]; exact kk H locs ls hP hS hl)
theorem ev_iand (hC : Cx K own cc ws fr lo) {x y : Int} (z : Int) (hz : zI x &&& zI y = zI z) (hd : decode cc pc = .ok (.iand, 1))
    (kk : Ev K (pc + 1) L (vi z :: st) X) : Ev K (pc) L (vi y :: vi x :: st) X := by
  obtain ⟨⟨p, l, e, R, s, m, args, below⟩, ⟨meth, c, dC, dI, cI, ad⟩, ⟨A, H0, nL, cells, slots, Q⟩⟩ := K
  obtain ⟨⟨hx, hb, hml, hown, hts⟩, ⟨hfr, hlo, hcs, hss⟩, hK, hNW, had, hAa, hAn⟩ := hC
  intro H locs ls hP hS hl
  exact lv_iand hx hb hd (by rw [hz]; exact kk H locs ls hP hS hl)
theorem ev_ior (hC : Cx K own cc ws fr lo) {x y : Int} (z : Int) (hz : zI x ||| zI y = zI z) (hd : decode cc pc = .ok (.ior, 1))
    (kk : Ev K (pc + 1) L (vi z :: st) X) : Ev K (pc) L (vi y :: vi x :: st) X := by
  obtain ⟨⟨p, l, e, R, s, m, args, below⟩, ⟨meth, c, dC, dI, cI, ad⟩, ⟨A, H0, nL, cells, slots, Q⟩⟩ := K
  obtain ⟨⟨hx, hb, hml, hown, hts⟩, ⟨hfr, hlo, hcs, hss⟩, hK, hNW, had, hAa, hAn⟩ := hC
  intro H locs ls hP hS hl
  exact lv_ior hx hb hd (by rw [hz]; exact kk H locs ls hP hS hl)
theorem ev_ixor (hC : Cx K own cc ws fr lo) {x y : Int} (z : Int) (hz : zI x ^^^ zI y = zI z) (hd : decode cc pc = .ok (.ixor, 1))
    (kk : Ev K (pc + 1) L (vi z :: st) X) : Ev K (pc) L (vi y :: vi x :: st) X := by
  obtain ⟨⟨p, l, e, R, s, m, args, below⟩, ⟨meth, c, dC, dI, cI, ad⟩, ⟨A, H0, nL, cells, slots, Q⟩⟩ := K
  obtain ⟨⟨hx, hb, hml, hown, hts⟩, ⟨hfr, hlo, hcs, hss⟩, hK, hNW, had, hAa, hAn⟩ := hC
  intro H locs ls hP hS hl
  exact lv_ixor hx hb hd (by rw [hz]; exact kk H locs ls hP hS hl)
theorem ev_ishl (hC : Cx K own cc ws fr lo) {x y : Int} (z : Int) (hz : zI x <<< (zI y &&& 31) = zI z) (hd : decode cc pc = .ok (.ishl, 1))
    (kk : Ev K (pc + 1) L (vi z :: st) X) : Ev K (pc) L (vi y :: vi x :: st) X := by
  obtain ⟨⟨p, l, e, R, s, m, args, below⟩, ⟨meth, c, dC, dI, cI, ad⟩, ⟨A, H0, nL, cells, slots, Q⟩⟩ := K
  obtain ⟨⟨hx, hb, hml, hown, hts⟩, ⟨hfr, hlo, hcs, hss⟩, hK, hNW, had, hAa, hAn⟩ := hC
  intro H locs ls hP hS hl
  exact lv_ishl hx hb hd (by rw [hz]; exact kk H locs ls hP hS hl)
theorem ev_ishr (hC : Cx K own cc ws fr lo) {x y : Int} (z : Int) (hz : zI x >>> (zI y &&& 31) = zI z) (hd : decode cc pc = .ok (.ishr, 1))
    (kk : Ev K (pc + 1) L (vi z :: st) X) : Ev K (pc) L (vi y :: vi x :: st) X := by
  obtain ⟨⟨p, l, e, R, s, m, args, below⟩, ⟨meth, c, dC, dI, cI, ad⟩, ⟨A, H0, nL, cells, slots, Q⟩⟩ := K
  obtain ⟨⟨hx, hb, hml, hown, hts⟩, ⟨hfr, hlo, hcs, hss⟩, hK, hNW, had, hAa, hAn⟩ := hC
  intro H locs ls hP hS hl
  exact lv_ishr hx hb hd (by rw [hz]; exact kk H locs ls hP hS hl)
theorem ev_iushr (hC : Cx K own cc ws fr lo) {x y : Int} (z : Int) (hz : ((zI x).toUInt32 >>> ((zI y).toUInt32 &&& Int32.toUInt32 31)).toInt32 = zI z) (hd : decode cc pc = .ok (.iushr, 1))
    (kk : Ev K (pc + 1) L (vi z :: st) X) : Ev K (pc) L (vi y :: vi x :: st) X := by
  obtain ⟨⟨p, l, e, R, s, m, args, below⟩, ⟨meth, c, dC, dI, cI, ad⟩, ⟨A, H0, nL, cells, slots, Q⟩⟩ := K
  obtain ⟨⟨hx, hb, hml, hown, hts⟩, ⟨hfr, hlo, hcs, hss⟩, hK, hNW, had, hAa, hAn⟩ := hC
  intro H locs ls hP hS hl
  exact lv_iushr hx hb hd hz (kk H locs ls hP hS hl)
theorem ev_ineg (hC : Cx K own cc ws fr lo) {x : Int} (z : Int) (hz : - x = z) (hd : decode cc pc = .ok (.ineg, 1))
    (kk : Ev K (pc + 1) L (vi z :: st) X) : Ev K (pc) L (vi x :: st) X := by
  obtain ⟨⟨p, l, e, R, s, m, args, below⟩, ⟨meth, c, dC, dI, cI, ad⟩, ⟨A, H0, nL, cells, slots, Q⟩⟩ := K
  obtain ⟨⟨hx, hb, hml, hown, hts⟩, ⟨hfr, hlo, hcs, hss⟩, hK, hNW, had, hAa, hAn⟩ := hC
  intro H locs ls hP hS hl
  subst hz
  exact lv_ineg hx hb hd (by rw [zI_neg]; exact kk H locs ls hP hS hl)
theorem ev_i2l (hC : Cx K own cc ws fr lo) {x : Int} (hr : -2147483648 ≤ x ∧ x ≤ 2147483647) (hd : decode cc pc = .ok (.i2l, 1))
    (kk : Ev K (pc + 1) L (vl x :: st) X) : Ev K (pc) L (vi x :: st) X := by
  obtain ⟨⟨p, l, e, R, s, m, args, below⟩, ⟨meth, c, dC, dI, cI, ad⟩, ⟨A, H0, nL, cells, slots, Q⟩⟩ := K
  obtain ⟨⟨hx, hb, hml, hown, hts⟩, ⟨hfr, hlo, hcs, hss⟩, hK, hNW, had, hAa, hAn⟩ := hC
  intro H locs ls hP hS hl
  exact lv_i2l hx hb hd (zI_toL hr) (kk H locs ls hP hS hl)
theorem ev_dup (hC : Cx K own cc ws fr lo) {v : Value} (hv : v.category = 1) (hd : decode cc pc = .ok (.dup, 1))
    (kk : Ev K (pc + 1) L (v :: v :: st) X) : Ev K (pc) L (v :: st) X := by
  obtain ⟨⟨p, l, e, R, s, m, args, below⟩, ⟨meth, c, dC, dI, cI, ad⟩, ⟨A, H0, nL, cells, slots, Q⟩⟩ := K
  obtain ⟨⟨hx, hb, hml, hown, hts⟩, ⟨hfr, hlo, hcs, hss⟩, hK, hNW, had, hAa, hAn⟩ := hC
  intro H locs ls hP hS hl
  exact lv_dup hx hb hd ((tr_cat ad v).trans hv) (kk H locs ls hP hS hl)
theorem ev_dup2 (hC : Cx K own cc ws fr lo) {v w : Value} (hv : v.category = 1) (hw : w.category = 1) (hd : decode cc pc = .ok (.dup2, 1))
    (kk : Ev K (pc + 1) L (v :: w :: v :: w :: st) X) : Ev K (pc) L (v :: w :: st) X := by
  obtain ⟨⟨p, l, e, R, s, m, args, below⟩, ⟨meth, c, dC, dI, cI, ad⟩, ⟨A, H0, nL, cells, slots, Q⟩⟩ := K
  obtain ⟨⟨hx, hb, hml, hown, hts⟩, ⟨hfr, hlo, hcs, hss⟩, hK, hNW, had, hAa, hAn⟩ := hC
  intro H locs ls hP hS hl
  exact lv_dup2_11 hx hb hd ((tr_cat ad v).trans hv) ((tr_cat ad w).trans hw) (kk H locs ls hP hS hl)
theorem ev_pop (hC : Cx K own cc ws fr lo) {v : Value} (hv : v.category = 1) (hd : decode cc pc = .ok (.pop, 1))
    (kk : Ev K (pc + 1) L (st) X) : Ev K (pc) L (v :: st) X := by
  obtain ⟨⟨p, l, e, R, s, m, args, below⟩, ⟨meth, c, dC, dI, cI, ad⟩, ⟨A, H0, nL, cells, slots, Q⟩⟩ := K
  obtain ⟨⟨hx, hb, hml, hown, hts⟩, ⟨hfr, hlo, hcs, hss⟩, hK, hNW, had, hAa, hAn⟩ := hC
  intro H locs ls hP hS hl
  exact lv_pop hx hb hd ((tr_cat ad v).trans hv) (kk H locs ls hP hS hl)
theorem ev_icmp_eq (hC : Cx K own cc ws fr lo) {x y : Int} {off : Int} (tgt : Nat) (hd : decode cc pc = .ok (.if_icmp .eq off, 3)) (ht : (pc : Int) + off = (tgt : Int)) (hrx : (-2147483648 ≤ x ∧ x ≤ 2147483647)) (hry : (-2147483648 ≤ y ∧ y ≤ 2147483647))
    (kt : x = y → Ev K (tgt) L (st) X) (kf : ¬ x = y → Ev K (pc + 3) L (st) X) : Ev K (pc) L (vi y :: vi x :: st) X := by
  obtain ⟨⟨p, l, e, R, s, m, args, below⟩, ⟨meth, c, dC, dI, cI, ad⟩, ⟨A, H0, nL, cells, slots, Q⟩⟩ := K
  obtain ⟨⟨hx, hb, hml, hown, hts⟩, ⟨hfr, hlo, hcs, hss⟩, hK, hNW, had, hAa, hAn⟩ := hC
  intro H locs ls hP hS hl
  exact lv_icmp_eq hx hb hd ht (fun q => kt ((zI_inj hrx hry).mp q) H locs ls hP hS hl) (fun q => kf (fun z => q ((zI_inj hrx hry).mpr z)) H locs ls hP hS hl)
theorem ev_if_eq (hC : Cx K own cc ws fr lo) {x : Int} {off : Int} (tgt : Nat) (hd : decode cc pc = .ok (.ifCond .eq off, 3)) (ht : (pc : Int) + off = (tgt : Int)) (hrx : (-2147483648 ≤ x ∧ x ≤ 2147483647))
    (kt : x = 0 → Ev K (tgt) L (st) X) (kf : ¬ x = 0 → Ev K (pc + 3) L (st) X) : Ev K (pc) L (vi x :: st) X := by
  obtain ⟨⟨p, l, e, R, s, m, args, below⟩, ⟨meth, c, dC, dI, cI, ad⟩, ⟨A, H0, nL, cells, slots, Q⟩⟩ := K
  obtain ⟨⟨hx, hb, hml, hown, hts⟩, ⟨hfr, hlo, hcs, hss⟩, hK, hNW, had, hAa, hAn⟩ := hC
  intro H locs ls hP hS hl
  have hry : -2147483648 ≤ (0 : Int) ∧ (0 : Int) ≤ 2147483647 := by omega
  exact lv_if_eq hx hb hd ht (fun q => kt ((zI_inj hrx hry).mp q) H locs ls hP hS hl) (fun q => kf (fun z => q ((zI_inj hrx hry).mpr z)) H locs ls hP hS hl)
theorem ev_icmp_ne (hC : Cx K own cc ws fr lo) {x y : Int} {off : Int} (tgt : Nat) (hd : decode cc pc = .ok (.if_icmp .ne off, 3)) (ht : (pc : Int) + off = (tgt : Int)) (hrx : (-2147483648 ≤ x ∧ x ≤ 2147483647)) (hry : (-2147483648 ≤ y ∧ y ≤ 2147483647))
    (kt : ¬ x = y → Ev K (tgt) L (st) X) (kf : x = y → Ev K (pc + 3) L (st) X) : Ev K (pc) L (vi y :: vi x :: st) X := by
  obtain ⟨⟨p, l, e, R, s, m, args, below⟩, ⟨meth, c, dC, dI, cI, ad⟩, ⟨A, H0, nL, cells, slots, Q⟩⟩ := K
  obtain ⟨⟨hx, hb, hml, hown, hts⟩, ⟨hfr, hlo, hcs, hss⟩, hK, hNW, had, hAa, hAn⟩ := hC
  intro H locs ls hP hS hl
  exact lv_icmp_ne hx hb hd ht (fun q => kt (fun z => q ((zI_inj hrx hry).mpr z)) H locs ls hP hS hl) (fun q => kf ((zI_inj hrx hry).mp q) H locs ls hP hS hl)
theorem ev_if_ne (hC : Cx K own cc ws fr lo) {x : Int} {off : Int} (tgt : Nat) (hd : decode cc pc = .ok (.ifCond .ne off, 3)) (ht : (pc : Int) + off = (tgt : Int)) (hrx : (-2147483648 ≤ x ∧ x ≤ 2147483647))
    (kt : ¬ x = 0 → Ev K (tgt) L (st) X) (kf : x = 0 → Ev K (pc + 3) L (st) X) : Ev K (pc) L (vi x :: st) X := by
  obtain ⟨⟨p, l, e, R, s, m, args, below⟩, ⟨meth, c, dC, dI, cI, ad⟩, ⟨A, H0, nL, cells, slots, Q⟩⟩ := K
  obtain ⟨⟨hx, hb, hml, hown, hts⟩, ⟨hfr, hlo, hcs, hss⟩, hK, hNW, had, hAa, hAn⟩ := hC
  intro H locs ls hP hS hl
  have hry : -2147483648 ≤ (0 : Int) ∧ (0 : Int) ≤ 2147483647 := by omega
  exact lv_if_ne hx hb hd ht (fun q => kt (fun z => q ((zI_inj hrx hry).mpr z)) H locs ls hP hS hl) (fun q => kf ((zI_inj hrx hry).mp q) H locs ls hP hS hl)
theorem ev_icmp_lt (hC : Cx K own cc ws fr lo) {x y : Int} {off : Int} (tgt : Nat) (hd : decode cc pc = .ok (.if_icmp .lt off, 3)) (ht : (pc : Int) + off = (tgt : Int)) (hrx : (-2147483648 ≤ x ∧ x ≤ 2147483647)) (hry : (-2147483648 ≤ y ∧ y ≤ 2147483647))
    (kt : x < y → Ev K (tgt) L (st) X) (kf : ¬ x < y → Ev K (pc + 3) L (st) X) : Ev K (pc) L (vi y :: vi x :: st) X := by
  obtain ⟨⟨p, l, e, R, s, m, args, below⟩, ⟨meth, c, dC, dI, cI, ad⟩, ⟨A, H0, nL, cells, slots, Q⟩⟩ := K
  obtain ⟨⟨hx, hb, hml, hown, hts⟩, ⟨hfr, hlo, hcs, hss⟩, hK, hNW, had, hAa, hAn⟩ := hC
  intro H locs ls hP hS hl
  exact lv_icmp_lt hx hb hd ht (fun q => kt ((zI_lt hrx hry).mp q) H locs ls hP hS hl) (fun q => kf (fun z => q ((zI_lt hrx hry).mpr z)) H locs ls hP hS hl)
theorem ev_if_lt (hC : Cx K own cc ws fr lo) {x : Int} {off : Int} (tgt : Nat) (hd : decode cc pc = .ok (.ifCond .lt off, 3)) (ht : (pc : Int) + off = (tgt : Int)) (hrx : (-2147483648 ≤ x ∧ x ≤ 2147483647))
    (kt : x < 0 → Ev K (tgt) L (st) X) (kf : ¬ x < 0 → Ev K (pc + 3) L (st) X) : Ev K (pc) L (vi x :: st) X := by
  obtain ⟨⟨p, l, e, R, s, m, args, below⟩, ⟨meth, c, dC, dI, cI, ad⟩, ⟨A, H0, nL, cells, slots, Q⟩⟩ := K
  obtain ⟨⟨hx, hb, hml, hown, hts⟩, ⟨hfr, hlo, hcs, hss⟩, hK, hNW, had, hAa, hAn⟩ := hC
  intro H locs ls hP hS hl
  have hry : -2147483648 ≤ (0 : Int) ∧ (0 : Int) ≤ 2147483647 := by omega
  exact lv_if_lt hx hb hd ht (fun q => kt ((zI_lt hrx hry).mp q) H locs ls hP hS hl) (fun q => kf (fun z => q ((zI_lt hrx hry).mpr z)) H locs ls hP hS hl)
theorem ev_icmp_ge (hC : Cx K own cc ws fr lo) {x y : Int} {off : Int} (tgt : Nat) (hd : decode cc pc = .ok (.if_icmp .ge off, 3)) (ht : (pc : Int) + off = (tgt : Int)) (hrx : (-2147483648 ≤ x ∧ x ≤ 2147483647)) (hry : (-2147483648 ≤ y ∧ y ≤ 2147483647))
    (kt : y ≤ x → Ev K (tgt) L (st) X) (kf : ¬ y ≤ x → Ev K (pc + 3) L (st) X) : Ev K (pc) L (vi y :: vi x :: st) X := by
  obtain ⟨⟨p, l, e, R, s, m, args, below⟩, ⟨meth, c, dC, dI, cI, ad⟩, ⟨A, H0, nL, cells, slots, Q⟩⟩ := K
  obtain ⟨⟨hx, hb, hml, hown, hts⟩, ⟨hfr, hlo, hcs, hss⟩, hK, hNW, had, hAa, hAn⟩ := hC
  intro H locs ls hP hS hl
  exact lv_icmp_ge hx hb hd ht (fun q => kt ((zI_le hry hrx).mp q) H locs ls hP hS hl) (fun q => kf (fun z => q ((zI_le hry hrx).mpr z)) H locs ls hP hS hl)
theorem ev_if_ge (hC : Cx K own cc ws fr lo) {x : Int} {off : Int} (tgt : Nat) (hd : decode cc pc = .ok (.ifCond .ge off, 3)) (ht : (pc : Int) + off = (tgt : Int)) (hrx : (-2147483648 ≤ x ∧ x ≤ 2147483647))
    (kt : 0 ≤ x → Ev K (tgt) L (st) X) (kf : ¬ 0 ≤ x → Ev K (pc + 3) L (st) X) : Ev K (pc) L (vi x :: st) X := by
  obtain ⟨⟨p, l, e, R, s, m, args, below⟩, ⟨meth, c, dC, dI, cI, ad⟩, ⟨A, H0, nL, cells, slots, Q⟩⟩ := K
  obtain ⟨⟨hx, hb, hml, hown, hts⟩, ⟨hfr, hlo, hcs, hss⟩, hK, hNW, had, hAa, hAn⟩ := hC
  intro H locs ls hP hS hl
  have hry : -2147483648 ≤ (0 : Int) ∧ (0 : Int) ≤ 2147483647 := by omega
  exact lv_if_ge hx hb hd ht (fun q => kt ((zI_le hry hrx).mp q) H locs ls hP hS hl) (fun q => kf (fun z => q ((zI_le hry hrx).mpr z)) H locs ls hP hS hl)
theorem ev_icmp_gt (hC : Cx K own cc ws fr lo) {x y : Int} {off : Int} (tgt : Nat) (hd : decode cc pc = .ok (.if_icmp .gt off, 3)) (ht : (pc : Int) + off = (tgt : Int)) (hrx : (-2147483648 ≤ x ∧ x ≤ 2147483647)) (hry : (-2147483648 ≤ y ∧ y ≤ 2147483647))
    (kt : y < x → Ev K (tgt) L (st) X) (kf : ¬ y < x → Ev K (pc + 3) L (st) X) : Ev K (pc) L (vi y :: vi x :: st) X := by
  obtain ⟨⟨p, l, e, R, s, m, args, below⟩, ⟨meth, c, dC, dI, cI, ad⟩, ⟨A, H0, nL, cells, slots, Q⟩⟩ := K
  obtain ⟨⟨hx, hb, hml, hown, hts⟩, ⟨hfr, hlo, hcs, hss⟩, hK, hNW, had, hAa, hAn⟩ := hC
  intro H locs ls hP hS hl
  exact lv_icmp_gt hx hb hd ht (fun q => kt ((zI_lt hry hrx).mp q) H locs ls hP hS hl) (fun q => kf (fun z => q ((zI_lt hry hrx).mpr z)) H locs ls hP hS hl)
theorem ev_if_gt (hC : Cx K own cc ws fr lo) {x : Int} {off : Int} (tgt : Nat) (hd : decode cc pc = .ok (.ifCond .gt off, 3)) (ht : (pc : Int) + off = (tgt : Int)) (hrx : (-2147483648 ≤ x ∧ x ≤ 2147483647))
    (kt : 0 < x → Ev K (tgt) L (st) X) (kf : ¬ 0 < x → Ev K (pc + 3) L (st) X) : Ev K (pc) L (vi x :: st) X := by
  obtain ⟨⟨p, l, e, R, s, m, args, below⟩, ⟨meth, c, dC, dI, cI, ad⟩, ⟨A, H0, nL, cells, slots, Q⟩⟩ := K
  obtain ⟨⟨hx, hb, hml, hown, hts⟩, ⟨hfr, hlo, hcs, hss⟩, hK, hNW, had, hAa, hAn⟩ := hC
  intro H locs ls hP hS hl
  have hry : -2147483648 ≤ (0 : Int) ∧ (0 : Int) ≤ 2147483647 := by omega
  exact lv_if_gt hx hb hd ht (fun q => kt ((zI_lt hry hrx).mp q) H locs ls hP hS hl) (fun q => kf (fun z => q ((zI_lt hry hrx).mpr z)) H locs ls hP hS hl)
theorem ev_icmp_le (hC : Cx K own cc ws fr lo) {x y : Int} {off : Int} (tgt : Nat) (hd : decode cc pc = .ok (.if_icmp .le off, 3)) (ht : (pc : Int) + off = (tgt : Int)) (hrx : (-2147483648 ≤ x ∧ x ≤ 2147483647)) (hry : (-2147483648 ≤ y ∧ y ≤ 2147483647))
    (kt : x ≤ y → Ev K (tgt) L (st) X) (kf : ¬ x ≤ y → Ev K (pc + 3) L (st) X) : Ev K (pc) L (vi y :: vi x :: st) X := by
  obtain ⟨⟨p, l, e, R, s, m, args, below⟩, ⟨meth, c, dC, dI, cI, ad⟩, ⟨A, H0, nL, cells, slots, Q⟩⟩ := K
  obtain ⟨⟨hx, hb, hml, hown, hts⟩, ⟨hfr, hlo, hcs, hss⟩, hK, hNW, had, hAa, hAn⟩ := hC
  intro H locs ls hP hS hl
  exact lv_icmp_le hx hb hd ht (fun q => kt ((zI_le hrx hry).mp q) H locs ls hP hS hl) (fun q => kf (fun z => q ((zI_le hrx hry).mpr z)) H locs ls hP hS hl)
theorem ev_if_le (hC : Cx K own cc ws fr lo) {x : Int} {off : Int} (tgt : Nat) (hd : decode cc pc = .ok (.ifCond .le off, 3)) (ht : (pc : Int) + off = (tgt : Int)) (hrx : (-2147483648 ≤ x ∧ x ≤ 2147483647))
    (kt : x ≤ 0 → Ev K (tgt) L (st) X) (kf : ¬ x ≤ 0 → Ev K (pc + 3) L (st) X) : Ev K (pc) L (vi x :: st) X := by
  obtain ⟨⟨p, l, e, R, s, m, args, below⟩, ⟨meth, c, dC, dI, cI, ad⟩, ⟨A, H0, nL, cells, slots, Q⟩⟩ := K
  obtain ⟨⟨hx, hb, hml, hown, hts⟩, ⟨hfr, hlo, hcs, hss⟩, hK, hNW, had, hAa, hAn⟩ := hC
  intro H locs ls hP hS hl
  have hry : -2147483648 ≤ (0 : Int) ∧ (0 : Int) ≤ 2147483647 := by omega
  exact lv_if_le hx hb hd ht (fun q => kt ((zI_le hrx hry).mp q) H locs ls hP hS hl) (fun q => kf (fun z => q ((zI_le hrx hry).mpr z)) H locs ls hP hS hl)
theorem ev_goto (hC : Cx K own cc ws fr lo) {off : Int} (tgt : Nat) (hd : decode cc pc = .ok (.goto off, 3)) (ht : (pc : Int) + off = (tgt : Int))
    (kk : Ev K (tgt) L (st) X) : Ev K (pc) L (st) X := by
  obtain ⟨⟨p, l, e, R, s, m, args, below⟩, ⟨meth, c, dC, dI, cI, ad⟩, ⟨A, H0, nL, cells, slots, Q⟩⟩ := K
  obtain ⟨⟨hx, hb, hml, hown, hts⟩, ⟨hfr, hlo, hcs, hss⟩, hK, hNW, had, hAa, hAn⟩ := hC
  intro H locs ls hP hS hl
  exact lv_goto hx hb hd ht (kk H locs ls hP hS hl)
theorem ev_tabin (hC : Cx K own cc ws fr lo) {dflt low hi : Int} {offs : Array Int} {len : Nat} {x : Int} {off : Int} (tgt : Nat) (hd : decode cc pc = .ok (.tableswitch dflt low hi offs, len)) (hr : -2147483648 ≤ x ∧ x ≤ 2147483647) (h1 : low ≤ x ∧ x ≤ hi) (ho : offs[(x - low).toNat]? = some off) (ht : (pc : Int) + off = (tgt : Int))
    (kk : Ev K (tgt) L (st) X) : Ev K (pc) L (vi x :: st) X := by
  obtain ⟨⟨p, l, e, R, s, m, args, below⟩, ⟨meth, c, dC, dI, cI, ad⟩, ⟨A, H0, nL, cells, slots, Q⟩⟩ := K
  obtain ⟨⟨hx, hb, hml, hown, hts⟩, ⟨hfr, hlo, hcs, hss⟩, hK, hNW, had, hAa, hAn⟩ := hC
  intro H locs ls hP hS hl
  exact lv_tableIn hx hb hd (by rw [zI_toInt hr]; omega) (by rw [zI_toInt hr]; omega) (by rw [zI_toInt hr]; exact ho) ht (kk H locs ls hP hS hl)
theorem ev_tabout (hC : Cx K own cc ws fr lo) {dflt low hi : Int} {offs : Array Int} {len : Nat} {x : Int} (tgt : Nat) (hd : decode cc pc = .ok (.tableswitch dflt low hi offs, len)) (hr : -2147483648 ≤ x ∧ x ≤ 2147483647) (h1 : x < low ∨ hi < x) (ht : (pc : Int) + dflt = (tgt : Int))
    (kk : Ev K (tgt) L (st) X) : Ev K (pc) L (vi x :: st) X := by
  obtain ⟨⟨p, l, e, R, s, m, args, below⟩, ⟨meth, c, dC, dI, cI, ad⟩, ⟨A, H0, nL, cells, slots, Q⟩⟩ := K
  obtain ⟨⟨hx, hb, hml, hown, hts⟩, ⟨hfr, hlo, hcs, hss⟩, hK, hNW, had, hAa, hAn⟩ := hC
  intro H locs ls hP hS hl
  exact lv_tableOut hx hb hd (by rw [zI_toInt hr]; exact h1) ht (kk H locs ls hP hS hl)
theorem ev_lookup (hC : Cx K own cc ws fr lo) {dflt : Int} {ps : Array (Int × Int)} {len : Nat} {x : Int} {off : Int} (tgt : Nat) (hd : decode cc pc = .ok (.lookupswitch dflt ps, len)) (hp : (ps.toList.zip (ps.toList.drop 1)).all (fun (a, next) => a.1 < next.1) = true) (hr : -2147483648 ≤ x ∧ x ≤ 2147483647) (ho : Op.lookupswitch.offset ps.toList dflt x = off) (ht : (pc : Int) + off = (tgt : Int))
    (kk : Ev K (tgt) L (st) X) : Ev K (pc) L (vi x :: st) X := by
  obtain ⟨⟨p, l, e, R, s, m, args, below⟩, ⟨meth, c, dC, dI, cI, ad⟩, ⟨A, H0, nL, cells, slots, Q⟩⟩ := K
  obtain ⟨⟨hx, hb, hml, hown, hts⟩, ⟨hfr, hlo, hcs, hss⟩, hK, hNW, had, hAa, hAn⟩ := hC
  intro H locs ls hP hS hl
  exact lv_lookup hx hb hd hp (by rw [zI_toInt hr]; exact ho) ht (kk H locs ls hP hS hl)
/-- a field of class ci, slot k, linked at idx -/
def Fl (K : Kx) (own : String) (idx ci k : Nat) : Prop := match K with
  | ((_, _, _, _, s, _, args, _), _, _) => ∃ (C : String) (T : u_T) (N : Nat), vwCl[ci]? = some (C, T, N) ∧ k < N ∧ (∀ w ∈ u_ws C T N, w.before args s = true) ∧ (Cond.fieldLink own idx (T k).1 (T k).2.1 (T k).2.2.1).before args s = true
/-- and it may be written: what whole numbers it takes -/
def Fp (ci k : Nat) (ty : FieldType) : Prop := ∃ (C : String) (T : u_T) (N : Nat) (ty0 : Nat → FieldType), vwCl[ci]? = some (C, T, N) ∧ (∀ j, j < N → parseFieldDescriptor (T j).2.2.1 = some (ty0 j)) ∧ (∀ a, a < N → ∀ b, b < N → a ≠ b → (T a).2.1 ≠ (T b).2.1) ∧ (T k).2.2.2 = false ∧ parseFieldDescriptor (T k).2.2.1 = some ty
theorem fl_of (hC : Cx K own cc ws fr lo) {idx ci k : Nat} (C : String) (T : u_T) (N : Nat) (h1 : vwCl[ci]? = some (C, T, N)) (h2 : k < N) (h3 : ∀ w ∈ u_ws C T N, w ∈ ws) (h4 : Cond.fieldLink own idx (T k).1 (T k).2.1 (T k).2.2.1 ∈ ws) : Fl K own idx ci k := by
  obtain ⟨⟨p, l, e, R, s, m, args, below⟩, ⟨meth, c, dC, dI, cI, ad⟩, ⟨A, H0, nL, cells, slots, Q⟩⟩ := K
  obtain ⟨⟨hx, hb, hml, hown, hts⟩, -⟩ := hC
  exact ⟨C, T, N, h1, h2, fun w h => hts w (h3 w h), hts _ h4⟩
theorem ev_getr (hC : Cx K own cc ws fr lo) {idx ci k q : Nat} (r : Nat) (hf : Fl K own idx ci k) (hd : decode cc pc = .ok (.getfield idx, 3)) (hq : q < 44) (ho : isO q = true) (hc : clO q = ci) (hn : k < nfO q) (hr : frO q k = some r)
    (kk : Ev K (pc + 3) L (.ref r :: st) X) : Ev K (pc) L (.ref q :: st) X := by
  obtain ⟨⟨p, l, e, R, s, m, args, below⟩, ⟨meth, c, dC, dI, cI, ad⟩, ⟨A, H0, nL, cells, slots, Q⟩⟩ := K
  obtain ⟨⟨hx, hb, hml, hown, hts⟩, ⟨hfr, hlo, hcs, hss⟩, hK, hNW, had, hAa, hAn⟩ := hC
  intro H locs ls hP hS hl
  subst hc
  obtain ⟨C, T, N, h1, h2, h3, h4⟩ := hf
  exact va_get (D := (dC, dI)) (ci := clO q) (v := .ref (ad r)) (C := C) (T := T) (N := N) (Ts := u_ws C T N) hx hb h3 (fun _ h => h) hown hK hP q (wld_at_o hq ho) h1 k h2 h4 (fun _ h => h) (by rw [fsO_get hn]; simp only [fvO, hr]) hd (kk H locs ls hP hS hl)
theorem ev_geti (hC : Cx K own cc ws fr lo) {idx ci k q : Nat} (z : Int) (hf : Fl K own idx ci k) (hd : decode cc pc = .ok (.getfield idx, 3)) (hq : q < 44) (ho : isO q = true) (hc : clO q = ci) (hn : k < nfO q) (hr : frO q k = none) (hz : X q k = zI z)
    (kk : Ev K (pc + 3) L (vi z :: st) X) : Ev K (pc) L (.ref q :: st) X := by
  obtain ⟨⟨p, l, e, R, s, m, args, below⟩, ⟨meth, c, dC, dI, cI, ad⟩, ⟨A, H0, nL, cells, slots, Q⟩⟩ := K
  obtain ⟨⟨hx, hb, hml, hown, hts⟩, ⟨hfr, hlo, hcs, hss⟩, hK, hNW, had, hAa, hAn⟩ := hC
  intro H locs ls hP hS hl
  subst hc
  obtain ⟨C, T, N, h1, h2, h3, h4⟩ := hf
  exact va_get (D := (dC, dI)) (ci := clO q) (v := vi z) (C := C) (T := T) (N := N) (Ts := u_ws C T N) hx hb h3 (fun _ h => h) hown hK hP q (wld_at_o hq ho) h1 k h2 h4 (fun _ h => h) (by rw [fsO_get hn]; simp only [fvO, hr, hz]) hd (kk H locs ls hP hS hl)
theorem wld_D {cI : ClassId} {ad : Nat → Nat} {A : Nat → Prop} (X : Mem) (had : adOK ad) (hA : ∀ q, q < 44 → A (ad q)) : va_D A (wld cI ad X) := by
  refine ⟨fun i j a b h1 h2 h3 => ?_, fun k q h => ?_⟩
  · obtain ⟨hi, rfl⟩ := wld_mem h1
    obtain ⟨hj, rfl⟩ := wld_mem h2
    exact had i j hi hj h3
  · obtain ⟨hi, rfl⟩ := wld_mem h
    exact hA k hi
theorem ev_puti (hC : Cx K own cc ws fr lo) {idx ci k q : Nat} {ty : FieldType} {x : Int32} (hf : Fl K own idx ci k) (hg : Fp ci k ty) (hd : decode cc pc = .ok (.putfield idx, 3)) (hq : q < 44) (ho : isO q = true) (hc : clO q = ci) (hn : k < nfO q) (hr : frO q k = none) (hna : narrow ty (.int x) = .int x) (hfi : fits ty (.int x) = true)
    (kk : Ev K (pc + 3) L (st) (mset X q k x)) : Ev K (pc) L (.int x :: .ref q :: st) X := by
  obtain ⟨⟨p, l, e, R, s, m, args, below⟩, ⟨meth, c, dC, dI, cI, ad⟩, ⟨A, H0, nL, cells, slots, Q⟩⟩ := K
  obtain ⟨⟨hx, hb, hml, hown, hts⟩, ⟨hfr, hlo, hcs, hss⟩, hK, hNW, had, hAa, hAn⟩ := hC
  intro H locs ls hP hS hl
  subst hc
  obtain ⟨C, T, N, h1, h2, h3, h4⟩ := hf
  obtain ⟨C', T', N', ty0, g1, g2, g3, g4, g5⟩ := hg
  rw [h1] at g1
  cases g1
  exact va_put (D := (dC, dI)) (ci := clO q) (v := .int x) (ty := ty) (C := C) (T := T) (N := N) (Ts := u_ws C T N) hx hb h3 (fun _ h => h) ty0 g2 g3 hown hK hP (wld_D X had hAa) hS q (wld_at_o hq ho) h1 k h2 h4 (fun _ h => h) g4 g5 hna hfi (by rw [fsO_len]; exact hn) hd (fun H1 locs1 hP1 _ hS1 => kk H1 locs1 ls (by rw [wld_putf ho hr] at hP1; exact hP1) hS1 hl)
theorem ev_iald (hC : Cx K own cc ws fr lo) {q : Nat} {t : Int} (a : Nat) (z : Int) (hq : q < 44) (ho : isO q = false) (ha : t = (a : Int)) (hlt : a < alen q) (hz : X q a = zI z) (hd : decode cc pc = .ok (.iaload, 1))
    (kk : Ev K (pc + 1) L (vi z :: st) X) : Ev K (pc) L (vi t :: .ref q :: st) X := by
  obtain ⟨⟨p, l, e, R, s, m, args, below⟩, ⟨meth, c, dC, dI, cI, ad⟩, ⟨A, H0, nL, cells, slots, Q⟩⟩ := K
  obtain ⟨⟨hx, hb, hml, hown, hts⟩, ⟨hfr, hlo, hcs, hss⟩, hK, hNW, had, hAa, hAn⟩ := hC
  intro H locs ls hP hS hl
  subst ha
  have hal : alen q ≤ 192 := by unfold alen; split <;> omega
  have hcl : (zI (a : Int)).toNatClampNeg = a := zI_clN (by omega)
  exact va_iald (D := (dC, dI)) hx hb hK hP q 0 (wld_at_a hq ho) rfl (zI_in (by omega) (by omega)) hd (by rw [hcl, hz]; exact kk H locs ls hP hS hl)
theorem ev_iast (hC : Cx K own cc ws fr lo) {q : Nat} {t : Int} {x : Int32} (a : Nat) (hq : q < 44) (ho : isO q = false) (ha : t = (a : Int)) (hlt : a < alen q) (hd : decode cc pc = .ok (.iastore, 1))
    (kk : Ev K (pc + 1) L (st) (mset X q a x)) : Ev K (pc) L (.int x :: vi t :: .ref q :: st) X := by
  obtain ⟨⟨p, l, e, R, s, m, args, below⟩, ⟨meth, c, dC, dI, cI, ad⟩, ⟨A, H0, nL, cells, slots, Q⟩⟩ := K
  obtain ⟨⟨hx, hb, hml, hown, hts⟩, ⟨hfr, hlo, hcs, hss⟩, hK, hNW, had, hAa, hAn⟩ := hC
  intro H locs ls hP hS hl
  subst ha
  have hal : alen q ≤ 192 := by unfold alen; split <;> omega
  have hcl : (zI (a : Int)).toNatClampNeg = a := zI_clN (by omega)
  exact va_iast (D := (dC, dI)) hx hb hK hP (wld_D X had hAa) hS q 0 (wld_at_a hq ho) rfl (zI_in (by omega) (by omega)) hd (fun H1 locs1 hP1 _ hS1 => kk H1 locs1 ls (by rw [hcl, wld_puta ho] at hP1; exact hP1) hS1 hl)
theorem ev_alen (hC : Cx K own cc ws fr lo) {q : Nat} (z : Int) (hq : q < 44) (ho : isO q = false) (hz : (alen q : Int) = z) (hd : decode cc pc = .ok (.arraylength, 1))
    (kk : Ev K (pc + 1) L (vi z :: st) X) : Ev K (pc) L (.ref q :: st) X := by
  obtain ⟨⟨p, l, e, R, s, m, args, below⟩, ⟨meth, c, dC, dI, cI, ad⟩, ⟨A, H0, nL, cells, slots, Q⟩⟩ := K
  obtain ⟨⟨hx, hb, hml, hown, hts⟩, ⟨hfr, hlo, hcs, hss⟩, hK, hNW, had, hAa, hAn⟩ := hC
  intro H locs ls hP hS hl
  subst hz
  exact va_alen (D := (dC, dI)) hx hb hK hP q 0 (wld_at_a hq ho) rfl (Int32.ofInt_eq_ofNat.symm) hd (kk H locs ls hP hS hl)
theorem ev_copy (hC : Cx K own cc ws fr lo) {q r : Nat} {i : Nat} (n : Nat) (hq : q < 44) (hqo : isO q = false) (hr : r < 44) (hro : isO r = false) (h1 : n ≤ alen q) (h2 : n ≤ alen r) (w1 : Cond.methodLink own i arraycopyName ∈ ws) (w2 : Cond.native arraycopyName ∈ ws) (w3 : Cond.static arraycopyName ∈ ws) (w4 : Cond.initialized "java/lang/System" ∈ ws) (hfr1 : 1 ≤ fr) (hlo1 : 40 ≤ lo) (hst : (st.map fun v => v.category).sum ≤ 8) (hd : decode cc pc = .ok (.invokestatic i, 3))
    (kk : Ev K (pc + 3) L (st) (mcpy X q r 0 0 n)) : Ev K (pc) L (vi n :: vi 0 :: .ref r :: vi 0 :: .ref q :: st) X := by
  obtain ⟨⟨p, l, e, R, s, m, args, below⟩, ⟨meth, c, dC, dI, cI, ad⟩, ⟨A, H0, nL, cells, slots, Q⟩⟩ := K
  obtain ⟨⟨hx, hb, hml, hown, hts⟩, ⟨hfr, hlo, hcs, hss⟩, hK, hNW, had, hAa, hAn⟩ := hC
  intro H locs ls hP hS hl
  have hal : alen q ≤ 192 := by unfold alen; split <;> omega
  have hcl : (zI (n : Int)).toNatClampNeg = n := zI_clN (by omega)
  have hc0 : (zI (0 : Int)).toNatClampNeg = 0 := by decide
  have hnn : ¬ zI (n : Int) < 0 := by
    have h : (0 : Int32) = zI 0 := rfl
    rw [h, zI_lt (by omega) (by omega)]
    omega
  have hnw : nativeFrameWords "java/lang/System" "arraycopy" 5 + 11 ≤ 32 := by decide +kernel
  exact va_copyi (D := (dC, dI)) (sp := zI 0) (dp := zI 0) (n := zI (n : Int)) hx hb (hml.trans hl.1.symm) hown (hts _ w1) (hts _ w2) (hts _ w3) (hts _ w4) hK hP (wld_D X had hAa) hS q r 0 0 (wld_at_a hq hqo) (wld_at_a hr hro) rfl rfl rfl (by decide) (by decide) hnn (by rw [hcl, hc0]; omega) (by rw [hcl, hc0]; omega) (fun j _ => rfl) (by omega) (by rw [tr_cats]; omega) hd (fun H1 locs1 hP1 _ hS1 => kk H1 locs1 ls (by rw [hcl, hc0, wld_putc hro] at hP1; exact hP1) hS1 hl)
theorem ev_mmax (hC : Cx K own cc ws fr lo) {x y : Int} {i : Nat} (z : Int) (hrx : -2147483648 ≤ x ∧ x ≤ 2147483647) (hry : -2147483648 ≤ y ∧ y ≤ 2147483647) (hz : max x y = z) (w1 : Cond.methodLink own i Lib.Math.max.name ∈ ws) (w2 : Cond.static Lib.Math.max.name ∈ ws) (w3 : Cond.initialized "java/lang/Math" ∈ ws) (w4 : Cond.code Lib.Math.max.name Lib.Math.max.code 2 (some .int) ∈ ws) (hfr1 : 1 ≤ fr) (hlo1 : 40 ≤ lo) (hst : (st.map fun v => v.category).sum ≤ 8) (hd : decode cc pc = .ok (.invokestatic i, 3))
    (kk : Ev K (pc + 3) L (vi z :: st) X) : Ev K (pc) L (vi y :: vi x :: st) X := by
  obtain ⟨⟨p, l, e, R, s, m, args, below⟩, ⟨meth, c, dC, dI, cI, ad⟩, ⟨A, H0, nL, cells, slots, Q⟩⟩ := K
  obtain ⟨⟨hx, hb, hml, hown, hts⟩, ⟨hfr, hlo, hcs, hss⟩, hK, hNW, had, hAa, hAn⟩ := hC
  intro H locs ls hP hS hl
  subst hz
  refine va_mmax hx hb (hml.trans hl.1.symm) hown (hts _ w1) (hts _ w2) (hts _ w3) (hts _ w4) (by omega) (by rw [tr_cats]; omega) hcs hss hd ?_
  have h2 := kk H locs ls hP hS hl
  by_cases hxy : x < y
  · have h3 : zI x < zI y := (zI_lt hrx hry).mpr hxy
    have h4 : max x y = y := by omega
    rw [h4] at h2
    rw [if_pos h3]
    exact h2
  · have h3 : ¬ zI x < zI y := fun z => hxy ((zI_lt hrx hry).mp z)
    have h4 : max x y = x := by omega
    rw [h4] at h2
    rw [if_neg h3]
    exact h2
theorem ev_mmin (hC : Cx K own cc ws fr lo) {x y : Int} {i : Nat} (z : Int) (hrx : -2147483648 ≤ x ∧ x ≤ 2147483647) (hry : -2147483648 ≤ y ∧ y ≤ 2147483647) (hz : min x y = z) (w1 : Cond.methodLink own i Lib.Math.min.name ∈ ws) (w2 : Cond.static Lib.Math.min.name ∈ ws) (w3 : Cond.initialized "java/lang/Math" ∈ ws) (w4 : Cond.code Lib.Math.min.name Lib.Math.min.code 2 (some .int) ∈ ws) (hfr1 : 1 ≤ fr) (hlo1 : 40 ≤ lo) (hst : (st.map fun v => v.category).sum ≤ 8) (hd : decode cc pc = .ok (.invokestatic i, 3))
    (kk : Ev K (pc + 3) L (vi z :: st) X) : Ev K (pc) L (vi y :: vi x :: st) X := by
  obtain ⟨⟨p, l, e, R, s, m, args, below⟩, ⟨meth, c, dC, dI, cI, ad⟩, ⟨A, H0, nL, cells, slots, Q⟩⟩ := K
  obtain ⟨⟨hx, hb, hml, hown, hts⟩, ⟨hfr, hlo, hcs, hss⟩, hK, hNW, had, hAa, hAn⟩ := hC
  intro H locs ls hP hS hl
  subst hz
  refine va_mmin hx hb (hml.trans hl.1.symm) hown (hts _ w1) (hts _ w2) (hts _ w3) (hts _ w4) (by omega) (by rw [tr_cats]; omega) hcs hss hd ?_
  have h2 := kk H locs ls hP hS hl
  by_cases hxy : y < x
  · have h3 : zI y < zI x := (zI_lt hry hrx).mpr hxy
    have h4 : min x y = y := by omega
    rw [h4] at h2
    rw [if_pos h3]
    exact h2
  · have h3 : ¬ zI y < zI x := fun z => hxy ((zI_lt hry hrx).mp z)
    have h4 : min x y = x := by omega
    rw [h4] at h2
    rw [if_neg h3]
    exact h2
end EV
