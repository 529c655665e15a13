/-! constructors and the law: rows of their own -/
section NWA
variable {p : Program} {l : Launch} {e : Env} {R : Room} {s : State} {m : MethodId} {args : Array Value} {below : List Frame} {meth : Method} {c : Code} {H : Heap} {locs : List Loc} {cells slots : Nat} {Q : State → Prop}
variable {cc : ByteArray} {pc : Nat} {ls : Array Slot} {rest : List Value} {D : va_G} {cl : List vw_C} {A : Nat → Prop} {ws : va_W} {H0 : Heap} {cI : ClassId}
/-- a new int array: its class is the one that is known -/
theorem va_newI (hexec : p.tables.exec = Jvm.exec) (hb : c.code = cc) (harr : (Cond.arrayClass .int).before args s = true) (hK : va_K D cl [(cI, .int)] s) (hP : va_P D cl ws H) (hD : va_D A ws) (hS : va_S A H0 H locs) (hA : ∀ q, H0.size ≤ q → A q)
    {n : Int32} {N : Nat} (hn : ¬ n < 0) (hN : n.toNatClampNeg = N) (hbytes : N * componentBytes .int ≤ 536870912) (hcells : cells + 1 ≤ R.cells) (hslots : slots + N ≤ R.slots) (hdg : decode cc pc = .ok (.newarray .int, 2))
    (kk : ∀ (q : Nat) (H1 : Heap), va_P D cl (ws ++ [(q, .inl (cI, N, .inl (fun _ => 0)))]) H1 → va_D A (ws ++ [(q, .inl (cI, N, .inl (fun _ => 0)))]) → va_S A H0 H1 locs →
      W p l e R s m args below meth c H1 locs (cells + 1) (slots + N) Q (F0 m (pc + 2) ls (.ref q :: rest))) : W p l e R s m args below meth c H locs cells slots Q (F0 m pc ls (.int n :: rest)) := by
  refine va_newa (atype := .int) (ty := .int) (N' := N) (a0 := (N, .inl (fun _ => 0))) hexec hb harr rfl hK hP hD hS hA (fun cA => rfl) hn hN hbytes hcells hslots hdg (fun q cA H1 hK1 hP1 hD1 hS1 => ?_)
  have h1 : s.vm.findClass ("[" ++ FieldType.int.toString) = some cI := (hK1.2 0 (cI, .int) rfl).2
  have h2 : s.vm.findClass ("[" ++ FieldType.int.toString) = some cA := (hK1.2 1 (cA, .int) rfl).2
  have h3 : cA = cI := Option.some.inj (h2.symm.trans h1)
  subst h3
  exact kk q H1 hP1 hD1 hS1
end NWA
theorem arr_known {args : Array Value} {s : State} (harr : (Cond.arrayClass .int).before args s = true) : ∃ cI : ClassId, ArrOfT s cI .int ∧ va_RA s cI .int := by
  obtain ⟨cA, kA, comp, h1, h2, h3⟩ := Cond.arrayClass_spec harr
  exact ⟨cA, fun n z => ⟨fun k h => (by cases h), kA, h2, comp, h3⟩, h1⟩
theorem i32r (x : Int32) : -2147483648 ≤ x.toInt ∧ x.toInt ≤ 2147483647 := by
  have h1 := Int32.le_toInt x
  have h2 := Int32.toInt_lt x
  omega
/-- the script stands at place 44, outside the world -/
def Sx (K : Kx) (Ln : Nat) (xs : Nat → Int32) : Prop := match K with
  | ((_, _, _, _, s, _, _, _), (_, _, _, _, _, ad), (A, H0, _, _, _, _)) => va_X (ad 44) Ln xs s H0 ∧ ad 44 < H0.size ∧ ¬ A (ad 44)
section EVL
variable {K : Kx} {own : String} {cc : ByteArray} {ws : List Cond} {fr lo pc : Nat} {L : List (Option Value)} {st : List Value} {X : Mem} {Ln : Nat} {xs : Nat → Int32}
theorem ev_sld (hC : Cx K own cc ws fr lo) (hX : Sx K Ln xs) {t : Int} (a : Nat) (ha : t = (a : Int)) (hlt : a < Ln) (hL : Ln ≤ 2048) (hd : decode cc pc = .ok (.iaload, 1))
    (kk : Ev K (pc + 1) L (vi (xs a).toInt :: st) X) : Ev K (pc) L (vi t :: .ref 44 :: st) X := by
  obtain ⟨⟨p, l, e, R, s, m, args, below⟩, ⟨meth, c, dC, dI, cI, ad⟩, ⟨A, H0, nL, cells, slots, Q⟩⟩ := K
  obtain ⟨⟨hx, hb, hml, hown, hts⟩, ⟨hfr, hlo, hcs, hss⟩, hK, hNW, had, hAa, hAn⟩ := hC
  obtain ⟨h1, h2, h3⟩ := hX
  intro H locs ls hP hS hl
  subst ha
  have hcl : (zI (a : Int)).toNatClampNeg = a := zI_clN (by omega)
  exact va_sld hx hb h1 h2 h3 hS (zI_in (by omega) (by omega)) hd (by
    have k := kk H locs ls hP hS hl
    rw [hcl, ← zI_self (xs a)]
    exact k)
theorem ev_slen (hC : Cx K own cc ws fr lo) (hX : Sx K Ln xs) (hd : decode cc pc = .ok (.arraylength, 1))
    (kk : Ev K (pc + 1) L (vi (Ln : Nat) :: st) X) : Ev K (pc) L (.ref 44 :: st) X := by
  obtain ⟨⟨p, l, e, R, s, m, args, below⟩, ⟨meth, c, dC, dI, cI, ad⟩, ⟨A, H0, nL, cells, slots, Q⟩⟩ := K
  obtain ⟨⟨hx, hb, hml, hown, hts⟩, ⟨hfr, hlo, hcs, hss⟩, hK, hNW, had, hAa, hAn⟩ := hC
  obtain ⟨h1, h2, h3⟩ := hX
  intro H locs ls hP hS hl
  exact va_slen hx hb h1 h2 h3 hS hd (by
    have k := kk H locs ls hP hS hl
    rw [← Int32.ofInt_eq_ofNat]
    exact k)
theorem ev_isame (hC : Cx K own cc ws fr lo) {x : Int} {off : Int} (tgt : Nat) (hd : decode cc pc = .ok (.if_icmp .eq off, 3)) (ht : (pc : Int) + off = (tgt : Int))
    (kt : Ev K (tgt) L (st) X) : Ev K (pc) L (vi x :: vi x :: st) X := by
  obtain ⟨⟨p, l, e, R, s, m, args, below⟩, ⟨meth, c, dC, dI, cI, ad⟩, ⟨A, H0, nL, cells, slots, Q⟩⟩ := K
  obtain ⟨⟨hx, hb, hml, hown, hts⟩, ⟨hfr, hlo, hcs, hss⟩, hK, hNW, had, hAa, hAn⟩ := hC
  intro H locs ls hP hS hl
  exact lv_icmp_eq hx hb hd ht (fun _ => kt H locs ls hP hS hl) (fun q => absurd rfl q)
theorem ev_lsame (hC : Cx K own cc ws fr lo) {x : Int} {off : Int} (tgt : Nat) (hd0 : decode cc pc = .ok (.lcmp, 1)) (hd : decode cc (pc + 1) = .ok (.ifCond .eq off, 3)) (ht : ((pc + 1 : Nat) : Int) + off = (tgt : Int))
    (kt : Ev K (tgt) L (st) X) : Ev K (pc) L (vl x :: vl x :: st) X := by
  obtain ⟨⟨p, l, e, R, s, m, args, below⟩, ⟨meth, c, dC, dI, cI, ad⟩, ⟨A, H0, nL, cells, slots, Q⟩⟩ := K
  obtain ⟨⟨hx, hb, hml, hown, hts⟩, ⟨hfr, hlo, hcs, hss⟩, hK, hNW, had, hAa, hAn⟩ := hC
  intro H locs ls hP hS hl
  refine W.lcmp hx hb hd0 ?_
  exact lv_if_eq hx hb hd ht (fun _ => kt H locs ls hP hS hl) (fun q => absurd ((lg_cmp_eq _ _).mpr rfl) q)
end EVL
theorem mI_frC {X X' : Mem} {V : St} (h : mI X V) (hF : frC X X') : mI X' V :=
  ⟨h.1.keepM (by rw [hF 29 (by omega)]) (by rw [hF 29 (by omega)]) (fun q hq => hF _ (by omega)), h.2.1, fun z => ⟨(h.2.2.1 z).1.keepKr (hF 40 (by omega)), (h.2.2.1 z).2⟩, by rw [hF 29 (by omega)]; exact h.2.2.2.1, by rw [hF 29 (by omega)]; exact h.2.2.2.2.1, ⟨by rw [hF 29 (by omega)]; exact h.2.2.2.2.2.1.1, h.2.2.2.2.2.1.2.1, fun j hj => by rw [hF 36 (by omega)]; exact h.2.2.2.2.2.1.2.2 j hj⟩, ⟨by rw [hF 29 (by omega)]; exact h.2.2.2.2.2.2.1.1, h.2.2.2.2.2.2.1.2.1, fun j hj => by rw [hF 43 (by omega)]; exact h.2.2.2.2.2.2.1.2.2 j hj⟩, fun j hj => by rw [hF 30 (by omega)]; exact h.2.2.2.2.2.2.2 j hj⟩
theorem cI_frM {X X' : Mem} {V : St} (h : cI X V) (hF : frM X X') : cI X' V :=
  ⟨h.1.keep (hF 1 (by omega)) (fun q hq => hF _ (by omega)), h.2.1, fun z => ⟨(h.2.2.1 z).1.keep (hF 2 (by omega)) (fun q hq => hF _ (by omega)), (h.2.2.1 z).2⟩, by rw [hF 0 (by omega)]; exact h.2.2.2.1, ⟨by rw [hF 6 (by omega)]; exact h.2.2.2.2.1.1, h.2.2.2.2.1.2.1, fun k hk => by rw [hF 9 (by omega)]; exact h.2.2.2.2.1.2.2 k hk⟩, ⟨by rw [hF 7 (by omega)]; exact h.2.2.2.2.2.1.1, h.2.2.2.2.2.1.2.1, fun k hk => by rw [hF 10 (by omega)]; exact h.2.2.2.2.2.1.2.2 k hk⟩, fun k hk => by rw [hF 8 (by omega)]; exact h.2.2.2.2.2.2 k hk⟩
/-! the start -/
def X00 : Mem := fun _ _ => 0
def A00 : Sl := fun _ _ => 0
def V00 : St := (A00, A00, false, fun _ => 0, 0, fun _ => 0, 0, fun _ => 0)
theorem z00 : (0 : Int32) = zI ((0 : Nat) : Int) := by decide
theorem A00_ok : OKs A00 := ⟨Nat.zero_le _, fun _ _ => Nat.zero_le _, fun k hk => absurd hk (Nat.not_lt_zero k)⟩
theorem cI_00 : cI X00 V00 := by
  refine ⟨⟨fun k hk => z00, fun q a b k hk => absurd hk (Nat.not_lt_zero k), z00, z00, A00_ok⟩, Nat.zero_le _, fun z => (by cases z), z00, ⟨z00, Nat.zero_le _, fun k hk => absurd hk (Nat.not_lt_zero k)⟩, ⟨z00, Nat.zero_le _, fun k hk => absurd hk (Nat.not_lt_zero k)⟩, fun k hk => z00⟩
theorem mI_00 : mI X00 V00 := by
  refine ⟨⟨fun k hk => z00, fun q a b k hk => absurd hk (Nat.not_lt_zero k), z00, z00, A00_ok⟩, Nat.zero_le _, fun z => (by cases z), z00, z00, ⟨z00, Nat.zero_le _, fun k hk => absurd hk (Nat.not_lt_zero k)⟩, ⟨z00, Nat.zero_le _, fun k hk => absurd hk (Nat.not_lt_zero k)⟩, fun k hk => z00⟩
