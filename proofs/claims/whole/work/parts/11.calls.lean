/-! calls, returns, and a contract out of a walk -/
/-- what is printed of a method: its code's word stands first, so many parameters -/
def MT (y : MethodName) (ws : List Cond) (b : ByteArray) (ml : Nat) (rt : Option FieldType) (n : Nat) : Prop := (∃ w2, ws = Cond.code y b ml rt :: w2) ∧ y.cls ≠ "java/lang/invoke/MethodHandle" ∧ y.cls ≠ "java/lang/invoke/VarHandle" ∧ (parseMethodDescriptor y.desc).map (fun d => d.parameters.length) = some n
theorem NW.moved {s U : State} (hW : s.WarmedH U.vm) (h : NW s) : NW U := fun z hz => va_Nw.warmM hW (h z hz)
theorem NW.same {u U : State} (hv : u.vm = U.vm) (h : NW u) : NW U := fun z hz => va_Nw.same rfl hv (h z hz)
theorem WH.blind {dC : Nat → ClassId} {dI : Nat → Nat → Nat} {cI : ClassId} {ad : Nat → Nat} {X : Mem} {sz : Nat} {as : List Value} : FrameBlind (va_Pc as (fun U => U.heap.size = sz ∧ WH dC dI cI ad X U)) :=
  fun a U g mk q => ⟨q.1, q.2.1, q.2.2.1, va_K.moved (u := U) (U := U.calling g mk a) (Vm.Alike.refl U.vm) q.2.2.2.1, NW.same (u := U) (U := U.calling g mk a) rfl q.2.2.2.2⟩
section CL
variable {p : Program} {l : Launch} {e : Env} {R : Room} {s : State} {m : MethodId} {args : Array Value} {below : List Frame} {meth : Method} {c : Code} {H : Heap} {locs : List Loc} {cells slots : Nat} {Q : State → Prop}
theorem va_callG {pc : Nat} {ls : Array Slot} {rest st0 : List Value} {a : Array Value} {A : Nat → Prop} {H0 : Heap} {dC : Nat → ClassId} {dI : Nat → Nat → Nat} {cI : ClassId} {ad : Nat → Nat} {post : Option Value → Mem → Prop}
    (hr : va_Run p l e R s m args below meth c H locs cells slots 0 0 (F0 m pc ls st0) rest (QR dC dI cI ad H.size post a) (frA ad H.size)) (hS : va_S A H0 H locs) (hf : ∀ q, frA ad H.size q → A q)
    (kk : ∀ (v : Option Value) (X' : Mem) (H1 : Heap) (locs1 : List Loc), post v X' → va_P (dC, dI) vwCl (wld cI ad X') H1 → va_S A H0 H1 locs1 → W p l e R s m args below meth c H1 locs1 cells slots Q (F0 m (pc + 3) ls ((v.map (tr ad)).toList ++ rest))) : W p l e R s m args below meth c H locs cells slots Q (F0 m pc ls st0) := by
  intro T hT X
  obtain ⟨v, st₀, t, T', L, h0, X', hL, e1, e2, ⟨⟨v2, Y, hv, hp, hb⟩, hz, hk⟩, st⟩ := hr T hT X
  cases hv
  rw [h0] at hz hk
  obtain ⟨t2, a1, b1⟩ := kk v2 Y T'.heap (locs ++ L) hp (by rw [e1]; exact hb)
    ⟨Nat.le_trans hS.1 (by rw [e1]; exact hz), fun q h1 h2 => by rw [e1, hk q (Nat.lt_of_lt_of_le h1 hS.1) (fun z => h2 (hf q z))]; exact hS.2.1 q h1 h2, fun q hq => by
      rcases List.mem_append.mp hq with h | h
      · exact hS.2.2 q h
      · exact hf _ (hL q h)⟩ T' rfl X'
  exact ⟨t2, st t2 a1, b1⟩
end CL
theorem tr_stack (ad : Nat → Nat) (as rest : List Value) (v : Value) : (as.reverse ++ v :: rest).map (tr ad) = (as.map (tr ad)).reverse ++ tr ad v :: rest.map (tr ad) := by simp
theorem tr_stack0 (ad : Nat → Nat) (as rest : List Value) : (as.reverse ++ rest).map (tr ad) = (as.map (tr ad)).reverse ++ rest.map (tr ad) := by simp
theorem tr_back (ad : Nat → Nat) (v : Option Value) (rest : List Value) : (v.toList ++ rest).map (tr ad) = (v.map (tr ad)).toList ++ rest.map (tr ad) := by cases v <;> simp
section EC
variable {K : Kx} {own : String} {cc : ByteArray} {ws : List Cond} {fr lo pc : Nat} {L : List (Option Value)} {st : List Value} {X : Mem}
variable {idx : Nat} {y : MethodName} {ws2 : List Cond} {b : ByteArray} {ml : Nat} {rt : Option FieldType} {n fr2 lo2 : Nat} {as rest : List Value} {post : Option Value → Mem → Prop}
theorem ev_callV {q : Nat} (hC : Cx K own cc ws fr lo) (hg : GoodIn ws (wsV own idx y.cls y ws2)) (hm : MT y ws2 b ml rt n) (hd : decode cc pc = .ok (.invokevirtual idx, 3)) (hru : Ru y ws2 fr2 lo2 (.ref q :: as) X post) (hrm : fr2 + 1 ≤ fr ∧ 8 + (ml + 11) + lo2 ≤ lo) (hq : q < 44) (ho : isO q = true) (hcq : (vwCl[clO q]?).map (fun z => z.1) = some y.cls) (hn : as.length = n) (hst : (rest.map fun v => v.category).sum ≤ 8) (hs : st = as.reverse ++ .ref q :: rest)
    (kk : ∀ v X', post v X' → Ev K (pc + 3) L (v.toList ++ rest) X') : Ev K pc L st X := by
  obtain ⟨⟨p, l, e, R, s, m, args, below⟩, ⟨meth, c, dC, dI, cI, ad⟩, ⟨A, H0, nL, cells, slots, Q⟩⟩ := K
  obtain ⟨⟨hx, hb, hml, hown, hts⟩, ⟨hfr, hlo, hcs, hss⟩, hK, hNW, had, hAa, hAn⟩ := hC
  intro H locs ls hP hS hl
  subst hs
  obtain ⟨⟨w2, hw⟩, hy1, hy2, hy3⟩ := hm
  have hfree : ∀ a, frA ad H.size a → A a := by
    rintro a (⟨k, hk, rfl⟩ | h)
    · exact hAa k hk
    · exact hAn a (Nat.le_trans hS.1 h)
  obtain ⟨zc, hz1, hz2⟩ := Option.map_eq_some_iff.mp hcq
  have hM := hru l dC dI cI ad H.size had
  have hrecv := va_recv hK hP hz1 (wld_at_o hq ho)
  rw [hz2] at hrecv
  have hrun := va_runV (cells := cells) (slots := slots) (locs := locs) (p := p) (e := e) (below := below) (meth := meth) (C := y.cls) (As := as.map (tr ad)) (rest := rest.map (tr ad)) (b := ad q) (nL := nL) (H := H) (g := F0 m pc ls ((as.reverse ++ .ref q :: rest).map (tr ad))) ⟨hx, hb, hml, hown, hts⟩ hM (cwV n hts hg hw rfl rfl ⟨rfl, hy1, hy2, hy3⟩ (by rw [hfr, hlo]; exact hrm)) ⟨WH.blind, hrecv, fun U hU hW => ⟨rfl, by rw [hU], by rw [hU]; exact hP, va_K.moved hW.alike hK, hNW.moved hW⟩⟩ rfl (by rw [List.length_map]; exact hn) hl.1 (tr_stack ad as rest (.ref q)) (lv_room (by rw [tr_cats]; exact hst)) hd ⟨hcs, hss⟩
  exact va_callG hrun hS hfree (fun v X' H1 locs1 hp hW hS1 => by
    have h := kk v X' hp H1 locs1 ls hW hS1 hl
    rw [tr_back] at h
    exact h)
theorem ev_callS (hC : Cx K own cc ws fr lo) (hg : GoodIn ws (va_wsS own idx y ws2)) (hm : MT y ws2 b ml rt n) (hd : decode cc pc = .ok (.invokestatic idx, 3)) (hru : Ru y ws2 fr2 lo2 as X post) (hrm : fr2 + 1 ≤ fr ∧ 8 + (ml + 11) + lo2 ≤ lo) (hn : as.length = n) (hst : (rest.map fun v => v.category).sum ≤ 8) (hs : st = as.reverse ++ rest)
    (kk : ∀ v X', post v X' → Ev K (pc + 3) L (v.toList ++ rest) X') : Ev K pc L st X := by
  obtain ⟨⟨p, l, e, R, s, m, args, below⟩, ⟨meth, c, dC, dI, cI, ad⟩, ⟨A, H0, nL, cells, slots, Q⟩⟩ := K
  obtain ⟨⟨hx, hb, hml, hown, hts⟩, ⟨hfr, hlo, hcs, hss⟩, hK, hNW, had, hAa, hAn⟩ := hC
  intro H locs ls hP hS hl
  subst hs
  obtain ⟨⟨w2, hw⟩, hy1, hy2, hy3⟩ := hm
  have hfree : ∀ a, frA ad H.size a → A a := by
    rintro a (⟨k, hk, rfl⟩ | h)
    · exact hAa k hk
    · exact hAn a (Nat.le_trans hS.1 h)
  have hM := hru l dC dI cI ad H.size had
  have hrun := va_runS (cells := cells) (slots := slots) (locs := locs) (p := p) (e := e) (below := below) (meth := meth) (As := as.map (tr ad)) (rest := rest.map (tr ad)) (nL := nL) (H := H) (g := F0 m pc ls ((as.reverse ++ rest).map (tr ad))) ⟨hx, hb, hml, hown, hts⟩ hM (va_cwS n hts hg hw rfl rfl ⟨hy1, hy2, hy3⟩ (by rw [hfr, hlo]; exact hrm)) ⟨WH.blind, fun U hU hW => ⟨rfl, by rw [hU], by rw [hU]; exact hP, va_K.moved hW.alike hK, hNW.moved hW⟩⟩ rfl (by rw [List.length_map]; exact hn) hl.1 (tr_stack0 ad as rest) (lv_room (by rw [tr_cats]; exact hst)) hd ⟨hcs, hss⟩
  exact va_callG hrun hS hfree (fun v X' H1 locs1 hp hW hS1 => by
    have h := kk v X' hp H1 locs1 ls hW hS1 hl
    rw [tr_back] at h
    exact h)
theorem ev_callN (hC : Cx K own cc ws fr lo) (hz : (own, idx, y) ∈ nst) (hg : GoodIn ws ws2) (w1 : Cond.static y ∈ ws) (w2 : Cond.initialized y.cls ∈ ws) (hm : MT y ws2 b ml rt n) (hd : decode cc pc = .ok (.invokestatic idx, 3)) (hru : Ru y ws2 fr2 lo2 as X post) (hrm : fr2 + 1 ≤ fr ∧ 8 + (ml + 11) + lo2 ≤ lo) (hn : as.length = n) (hst : (rest.map fun v => v.category).sum ≤ 8) (hs : st = as.reverse ++ rest)
    (kk : ∀ v X', post v X' → Ev K (pc + 3) L (v.toList ++ rest) X') : Ev K pc L st X := by
  obtain ⟨⟨p, l, e, R, s, m, args, below⟩, ⟨meth, c, dC, dI, cI, ad⟩, ⟨A, H0, nL, cells, slots, Q⟩⟩ := K
  obtain ⟨⟨hx, hb, hml, hown, hts⟩, ⟨hfr, hlo, hcs, hss⟩, hK, hNW, had, hAa, hAn⟩ := hC
  intro H locs ls hP hS hl
  subst hs
  obtain ⟨⟨w3, hw⟩, hy1, hy2, hy3⟩ := hm
  have hfree : ∀ a, frA ad H.size a → A a := by
    rintro a (⟨k, hk, rfl⟩ | h)
    · exact hAa k hk
    · exact hAn a (Nat.le_trans hS.1 h)
  have hM := hru l dC dI cI ad H.size had
  have hrun := va_runSN (cells := cells) (slots := slots) (locs := locs) (p := p) (e := e) (below := below) (meth := meth) (As := as.map (tr ad)) (rest := rest.map (tr ad)) (nL := nL) (H := H) (g := F0 m pc ls ((as.reverse ++ rest).map (tr ad))) ⟨hx, hb, hml, hown, hts⟩ hM ⟨va_cnB n hts hg hw rfl rfl (hNW _ hz) (hts _ w2) ⟨hy1, hy2, hy3⟩ (by rw [hfr, hlo]; exact hrm), hts _ w1, trivial⟩ ⟨WH.blind, fun U hU hW => ⟨rfl, by rw [hU], by rw [hU]; exact hP, va_K.moved hW.alike hK, hNW.moved hW⟩⟩ rfl (by rw [List.length_map]; exact hn) hl.1 (tr_stack0 ad as rest) (lv_room (by rw [tr_cats]; exact hst)) hd ⟨hcs, hss⟩
  exact va_callG hrun hS hfree (fun v X' H1 locs1 hp hW hS1 => by
    have h := kk v X' hp H1 locs1 ls hW hS1 hl
    rw [tr_back] at h
    exact h)
theorem ev_ireturn {x : Int32} (hC : Cx K own cc ws fr lo) (hR : Rx K (some .int) post) (hd : decode cc pc = .ok (.ireturn, 1)) (hp : post (some (.int x)) X) : Ev K pc L [.int x] X := by
  obtain ⟨⟨p, l, e, R, s, m, args, below⟩, ⟨meth, c, dC, dI, cI, ad⟩, ⟨A, H0, nL, cells, slots, Q⟩⟩ := K
  obtain ⟨⟨hx, hb, -⟩, -⟩ := hC
  obtain ⟨hr, hlk, rfl, rfl, rfl⟩ := hR
  intro H locs ls hP hS hl
  exact W.iret (v := x) hx hb hr (fun t ht hW => ⟨⟨some (.int x), X, rfl, hp, by rw [ht]; exact hP⟩, hS.F ht⟩) hS.2.2 hd hlk
theorem ev_zreturn {x : Int32} (hC : Cx K own cc ws fr lo) (hR : Rx K (some .boolean) post) (hd : decode cc pc = .ok (.ireturn, 1)) (hn : narrow .boolean (.int x) = .int x) (hp : post (some (.int x)) X) : Ev K pc L [.int x] X := by
  obtain ⟨⟨p, l, e, R, s, m, args, below⟩, ⟨meth, c, dC, dI, cI, ad⟩, ⟨A, H0, nL, cells, slots, Q⟩⟩ := K
  obtain ⟨⟨hx, hb, -⟩, -⟩ := hC
  obtain ⟨hr, hlk, rfl, rfl, rfl⟩ := hR
  intro H locs ls hP hS hl
  exact W.zret (v := x) hx hb hr hn (fun t ht hW => ⟨⟨some (.int x), X, rfl, hp, by rw [ht]; exact hP⟩, hS.F ht⟩) hS.2.2 hd hlk
theorem ev_lreturn {x : Int64} (hC : Cx K own cc ws fr lo) (hR : Rx K (some .long) post) (hd : decode cc pc = .ok (.lreturn, 1)) (hp : post (some (.long x)) X) : Ev K pc L [.long x] X := by
  obtain ⟨⟨p, l, e, R, s, m, args, below⟩, ⟨meth, c, dC, dI, cI, ad⟩, ⟨A, H0, nL, cells, slots, Q⟩⟩ := K
  obtain ⟨⟨hx, hb, -⟩, -⟩ := hC
  obtain ⟨hr, hlk, rfl, rfl, rfl⟩ := hR
  intro H locs ls hP hS hl
  exact W.lret (v := x) hx hb hr (fun t ht hW => ⟨⟨some (.long x), X, rfl, hp, by rw [ht]; exact hP⟩, hS.F ht⟩) hS.2.2 hd hlk
theorem ev_return (hC : Cx K own cc ws fr lo) (hR : Rx K none post) (hd : decode cc pc = .ok (.return_, 1)) (hp : post none X) : Ev K pc L [] X := by
  obtain ⟨⟨p, l, e, R, s, m, args, below⟩, ⟨meth, c, dC, dI, cI, ad⟩, ⟨A, H0, nL, cells, slots, Q⟩⟩ := K
  obtain ⟨⟨hx, hb, -⟩, -⟩ := hC
  obtain ⟨hr, hlk, rfl, rfl, rfl⟩ := hR
  intro H locs ls hP hS hl
  exact W.vret hx hb hr (fun t ht hW => ⟨⟨none, X, rfl, hp, by rw [ht]; exact hP⟩, hS.F ht⟩) hS.2.2 hd hlk
theorem ev_areturn {q : Nat} {nm : String} (hC : Cx K own cc ws fr lo) (hR : Rx K (some (.object nm)) post) (hd : decode cc pc = .ok (.areturn, 1)) (hp : post (some (.ref q)) X) : Ev K pc L [.ref q] X := by
  obtain ⟨⟨p, l, e, R, s, m, args, below⟩, ⟨meth, c, dC, dI, cI, ad⟩, ⟨A, H0, nL, cells, slots, Q⟩⟩ := K
  obtain ⟨⟨hx, hb, -⟩, -⟩ := hC
  obtain ⟨hr, hlk, rfl, rfl, rfl⟩ := hR
  intro H locs ls hP hS hl
  exact W.aret (v := .ref (ad q)) hx hb hr (Or.inl ⟨nm, rfl⟩) (Or.inr ⟨ad q, rfl⟩) (fun t ht hW => ⟨⟨some (.ref q), X, rfl, hp, by rw [ht]; exact hP⟩, hS.F ht⟩) hS.2.2 hd hlk
/-- a contract out of a walk from the entry -/
theorem ru_of {y : MethodName} {ws w2 : List Cond} {b : ByteArray} {ml fr lo : Nat} {rt : Option FieldType} {as : List Value} {X : Mem} {post : Option Value → Mem → Prop} (hw : ws = Cond.code y b ml rt :: w2) (hy : plainName y.cls = true) (L0 : List (Option Value)) (hL : ∀ ad, lvs ad 0 L0 = lv_args 0 (as.map (tr ad))) (hsz : ∀ ad, (lg_sl (as.map (tr ad))).length ≤ ml)
    (body : ∀ K : Kx, K.2.2.2.2.1 = ml → Cx K y.cls b ws fr lo → Rx K rt post → Ev K 0 L0 [] X) : Ru y ws fr lo as X post := by
  intro l dC dI cI ad sz had
  refine Met.ofW (cc := b) (maxL := ml) (ret := rt) hy hw ?_
  intro p e s m args below meth c s₁ B hml hv
  obtain ⟨rfl, hsz2, hP, hK, hNW⟩ := hv
  subst hsz2
  have hts := atoms_spec (ws := ws) B.pre
  have hl := lv_entry (as.map (tr ad)) (n := ml) (hsz ad)
  rw [lg_entry_eq]
  rw [← hL ad] at hl
  exact body ((p, l, e, _, s, m, _, below), (meth, c, dC, dI, cI, ad), (frA ad s.heap.size, s.heap, ml, 0, 0, _)) rfl ⟨⟨B.exec, B.bytes, hml, findClass_of_methodNamed B.named, hts⟩, ⟨rfl, rfl, Nat.le_refl _, Nat.le_refl _⟩, hK, hNW, had, fun q hq => Or.inl ⟨q, hq, rfl⟩, fun q h => Or.inr h⟩ ⟨B.returns, B.notSynchronized, rfl, rfl, rfl⟩ s.heap [] _ hP va_S.rf hl
end EC
