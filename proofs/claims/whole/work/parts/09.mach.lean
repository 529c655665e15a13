abbrev vwCl : List vw_C := [(RX0, TX0, 1), (RX1, TX1, 2), (RX2, TX2, 2), (RX3, TX3, 8), (RX4, TX4, 4), (RX5, TX5, 9), (RX6, TX6, 25)]
/-! A small machine over a memory of whole numbers: 44 places (objects and int arrays), a place's slots; references are places. Ev: from this frame the method comes to its end. -/
abbrev Mem : Type := Nat → Nat → Int32
/-- the number of slots of the array at a place -/
def alen : Nat → Nat
  | 8 => 7 | 9 => 96 | 10 => 16 | 11 => 25 | 17 => 25 | 23 => 25 | 30 => 7 | 31 => 25 | 36 => 96 | 37 => 48 | 38 => 48 | 39 => 192 | 40 => 180 | 42 => 4 | 43 => 16
  | _ => 8
/-- places that are objects -/
def isO (q : Nat) : Bool := decide (q < 8) || decide (q = 29)
/-- an object's class, as vwCl counts them -/
def clO : Nat → Nat
  | 0 => 5 | 1 => 3 | 2 => 3 | 3 => 3 | 4 => 1 | 5 => 0 | 6 => 4 | 7 => 2 | _ => 6
/-- how many fields -/
def nfO : Nat → Nat
  | 0 => 9 | 1 => 8 | 2 => 8 | 3 => 8 | 4 => 2 | 5 => 1 | 6 => 4 | 7 => 2 | _ => 25
/-- a field that is a reference: to which place -/
def frO : Nat → Nat → Option Nat
  | 0, k => if k < 8 then some (k + 1) else none
  | 1, k => if k < 6 then some (11 + k) else none
  | 2, k => if k < 6 then some (17 + k) else none
  | 3, k => if k < 6 then some (23 + k) else none
  | 4, k => if k = 0 then some 1 else some 3
  | 5, _ => some 1
  | 6, k => if k = 0 then some 9 else if k = 1 then some 1 else if k = 2 then some 3 else none
  | 7, k => if k = 0 then some 10 else none
  | _, k => if k < 6 then some (30 + k) else if k = 9 then some 36 else if k = 10 then some 37 else if k = 11 then some 38 else if k = 12 then some 39 else if k = 16 then some 40 else if k = 20 then some 41 else if k = 21 then some 42 else if k = 22 then some 43 else none
def fvO (ad : Nat → Nat) (X : Mem) (q k : Nat) : Value := match frO q k with
  | some r => .ref (ad r)
  | none => .int (X q k)
def fsO (ad : Nat → Nat) (X : Mem) (q : Nat) : List Value := (List.range (nfO q)).map (fvO ad X q)
def ent (cI : ClassId) (ad : Nat → Nat) (X : Mem) (q : Nat) : va_E := if isO q = true then .inr (clO q, fsO ad X q) else .inl (cI, alen q, .inl (X q))
def wld (cI : ClassId) (ad : Nat → Nat) (X : Mem) : va_W := (List.range 44).map (fun q => (ad q, ent cI ad X q))
def mset (X : Mem) (q k : Nat) (v : Int32) : Mem := fun a b => if a = q ∧ b = k then v else X a b
def mcpy (X : Mem) (q r : Nat) (sp dp n : Nat) : Mem := fun a => if a = r then va_cpy (X q) (X r) sp dp n else X a
theorem mset_eq (X : Mem) (q k : Nat) (v : Int32) : mset X q k v q k = v := by simp [mset]
theorem mset_ne (X : Mem) (q k : Nat) (v : Int32) {a b : Nat} (h : ¬ (a = q ∧ b = k)) : mset X q k v a b = X a b := by simp only [mset, if_neg h]
theorem wld_get {cI : ClassId} {ad : Nat → Nat} {X : Mem} {q : Nat} (h : q < 44) : (wld cI ad X)[q]? = some (ad q, ent cI ad X q) := by
  unfold wld
  rw [List.getElem?_map, List.getElem?_range h]; rfl
theorem wld_len (cI : ClassId) (ad : Nat → Nat) (X : Mem) : (wld cI ad X).length = 44 := by simp [wld]
theorem wld_out {cI : ClassId} {ad : Nat → Nat} {X : Mem} {q : Nat} (h : ¬ q < 44) : (wld cI ad X)[q]? = none := List.getElem?_eq_none (by rw [wld_len]; omega)
theorem wld_mem {cI : ClassId} {ad : Nat → Nat} {X : Mem} {k : Nat} {z : Nat × va_E} (h : (wld cI ad X)[k]? = some z) : k < 44 ∧ z = (ad k, ent cI ad X k) := by
  by_cases hk : k < 44
  · rw [wld_get hk] at h
    exact ⟨hk, (Option.some.inj h).symm⟩
  · rw [wld_out hk] at h; cases h
theorem wld_set {cI : ClassId} {ad : Nat → Nat} {X X' : Mem} {q : Nat} {e : va_E} (h1 : ent cI ad X' q = e) (h2 : ∀ a, a ≠ q → ent cI ad X' a = ent cI ad X a) : (wld cI ad X).set q (ad q, e) = wld cI ad X' := by
  apply List.ext_getElem?
  intro k
  rw [List.getElem?_set]
  by_cases hk : q = k
  · subst hk
    rw [if_pos rfl]
    by_cases hq : q < 44
    · rw [if_pos (by rw [wld_len]; exact hq), wld_get hq, h1]
    · rw [if_neg (by rw [wld_len]; exact hq), wld_out hq]
  · rw [if_neg hk]
    by_cases hq : k < 44
    · rw [wld_get hq, wld_get hq, h2 k (fun z => hk z.symm)]
    · rw [wld_out hq, wld_out hq]
theorem ent_ne {cI : ClassId} {ad : Nat → Nat} {X X' : Mem} {a : Nat} (h : X' a = X a) : ent cI ad X' a = ent cI ad X a := by
  have : fsO ad X' a = fsO ad X a := by
    unfold fsO
    apply List.map_congr_left
    intro k _
    unfold fvO
    rw [h]
  unfold ent
  rw [h, this]
theorem mset_row {X : Mem} {q k : Nat} {v : Int32} {a : Nat} (h : a ≠ q) : mset X q k v a = X a := by
  funext b
  exact mset_ne X q k v (fun z => h z.1)
theorem fsO_get {ad : Nat → Nat} {X : Mem} {q k : Nat} (h : k < nfO q) : (fsO ad X q)[k]? = some (fvO ad X q k) := by
  unfold fsO
  rw [List.getElem?_map, List.getElem?_range h]; rfl
theorem fsO_len (ad : Nat → Nat) (X : Mem) (q : Nat) : (fsO ad X q).length = nfO q := by simp [fsO]
theorem fsO_set {ad : Nat → Nat} {X : Mem} {q k : Nat} {v : Int32} (hr : frO q k = none) : (fsO ad X q).set k (.int v) = fsO ad (mset X q k v) q := by
  apply List.ext_getElem?
  intro j
  rw [List.getElem?_set]
  by_cases hj : j < nfO q
  · by_cases hk : k = j
    · subst hk
      rw [if_pos rfl, if_pos (by rw [fsO_len]; exact hj), fsO_get hj]
      simp only [fvO, hr, mset_eq]
    · rw [if_neg hk, fsO_get hj, fsO_get hj]
      unfold fvO
      rw [mset_ne X q k v (fun z => hk z.2.symm)]
  · rw [List.getElem?_eq_none (l := fsO ad (mset X q k v) q) (by rw [fsO_len]; omega)]
    by_cases hk : k = j
    · rw [if_pos hk, if_neg (by rw [fsO_len]; omega)]
    · rw [if_neg hk, List.getElem?_eq_none (by rw [fsO_len]; omega)]
theorem wld_putf {cI : ClassId} {ad : Nat → Nat} {X : Mem} {q k : Nat} {v : Int32} (ho : isO q = true) (hr : frO q k = none) : (wld cI ad X).set q (ad q, .inr (clO q, (fsO ad X q).set k (.int v))) = wld cI ad (mset X q k v) := by
  refine wld_set ?_ (fun a h => ent_ne (mset_row h))
  unfold ent
  rw [if_pos ho, fsO_set hr]
theorem wld_puta {cI : ClassId} {ad : Nat → Nat} {X : Mem} {q k : Nat} {v : Int32} (ho : isO q = false) : (wld cI ad X).set q (ad q, .inl (cI, alen q, .inl (upd (X q) k v))) = wld cI ad (mset X q k v) := by
  refine wld_set ?_ (fun a h => ent_ne (mset_row h))
  have : mset X q k v q = upd (X q) k v := by
    funext b
    by_cases hb : b = k
    · subst hb; simp [mset, upd]
    · rw [mset_ne X q k v (fun z => hb z.2)]; simp [upd, hb]
  unfold ent
  rw [if_neg (by rw [ho]; decide), this]
theorem wld_putc {cI : ClassId} {ad : Nat → Nat} {X : Mem} {q r sp dp n : Nat} (ho : isO r = false) : (wld cI ad X).set r (ad r, .inl (cI, alen r, .inl (va_cpy (X q) (X r) sp dp n))) = wld cI ad (mcpy X q r sp dp n) := by
  refine wld_set ?_ (fun a h => ent_ne (by simp [mcpy, h]))
  unfold ent
  rw [if_neg (by rw [ho]; decide)]
  simp [mcpy]
theorem wld_at_o {cI : ClassId} {ad : Nat → Nat} {X : Mem} {q : Nat} (h : q < 44) (ho : isO q = true) : (wld cI ad X)[q]? = some (ad q, .inr (clO q, fsO ad X q)) := by
  rw [wld_get h]; unfold ent; rw [if_pos ho]
theorem wld_at_a {cI : ClassId} {ad : Nat → Nat} {X : Mem} {q : Nat} (h : q < 44) (ho : isO q = false) : (wld cI ad X)[q]? = some (ad q, .inl (cI, alen q, .inl (X q))) := by
  rw [wld_get h]; unfold ent; rw [if_neg (by rw [ho]; decide)]
/-- references are places -/
def tr (ad : Nat → Nat) : Value → Value
  | .ref q => .ref (ad q)
  | v => v
theorem tr_cat (ad : Nat → Nat) (v : Value) : (tr ad v).category = v.category := by cases v <;> rfl
theorem tr_cats (ad : Nat → Nat) (st : List Value) : ((st.map (tr ad)).map fun v => v.category) = st.map fun v => v.category := by
  rw [List.map_map]
  exact List.map_congr_left (fun v _ => tr_cat ad v)
/-- the locals: what is known of each, from place i on -/
def lvs (ad : Nat → Nat) : Nat → List (Option Value) → List (Nat × Value)
  | _, [] => []
  | i, some v :: L => (i, tr ad v) :: lvs ad (i + 1) L
  | i, none :: L => lvs ad (i + 1) L
theorem lvs_mem {ad : Nat → Nat} : ∀ (L : List (Option Value)) (i : Nat) (z : Nat × Value), z ∈ lvs ad i L ↔ ∃ (k : Nat) (v : Value), L[k]? = some (some v) ∧ z = (i + k, tr ad v) := by
  intro L
  induction L with
  | nil => intro i z; simp [lvs]
  | cons o L ih =>
    intro i z
    cases o with
    | none =>
      rw [lvs, ih (i + 1) z]
      constructor
      · rintro ⟨k, v, h1, h2⟩
        exact ⟨k + 1, v, by simpa using h1, by rw [h2]; congr 1; omega⟩
      · rintro ⟨k, v, h1, h2⟩
        cases k with
        | zero => simp at h1
        | succ k => exact ⟨k, v, by simpa using h1, by rw [h2]; congr 1; omega⟩
    | some w =>
      rw [lvs, List.mem_cons, ih (i + 1) z]
      constructor
      · rintro (h | ⟨k, v, h1, h2⟩)
        · exact ⟨0, w, by simp, by rw [h]; rfl⟩
        · exact ⟨k + 1, v, by simpa using h1, by rw [h2]; congr 1; omega⟩
      · rintro ⟨k, v, h1, h2⟩
        cases k with
        | zero =>
          left
          simp at h1
          rw [h2, h1]; rfl
        | succ k => exact Or.inr ⟨k, v, by simpa using h1, by rw [h2]; congr 1; omega⟩
theorem lvs_at {ad : Nat → Nat} {L : List (Option Value)} {ls : Array Slot} {nL k : Nat} {v : Value} (h : lv_has ls nL (lvs ad 0 L)) (hk : L[k]? = some (some v)) : ls[k]? = some (.val (tr ad v)) := by
  have := h.2.2 (0 + k, tr ad v) ((lvs_mem L 0 _).mpr ⟨k, v, hk, rfl⟩)
  simpa using this
theorem lv_fewer {ls : Array Slot} {nL : Nat} {l l' : List (Nat × Value)} (h : lv_has ls nL l) (hs : ∀ q ∈ l', q ∈ l) : lv_has ls nL l' := ⟨h.1, h.2.1, fun q hq => h.2.2 q (hs q hq)⟩
/-- no long stands just ahead of place i -/
def okst (L : List (Option Value)) : Nat → Bool
  | 0 => true
  | j + 1 => match L[j]? with
    | some (some v) => v.category == 1
    | _ => true
theorem lvs_set1 {ad : Nat → Nat} {L : List (Option Value)} {i : Nat} {v : Value} (hok : okst L i = true) : ∀ q ∈ lvs ad 0 (L.set i (some v)), q ∈ ((i, tr ad v) :: (lvs ad 0 L).filter (fun q => !(q.1 == i) && !(q.1 + 1 == i && q.2.category == 2))) := by
  intro q hq
  obtain ⟨k, w, h1, rfl⟩ := (lvs_mem _ 0 q).mp hq
  rw [List.getElem?_set] at h1
  by_cases hk : i = k
  · subst hk
    rw [if_pos rfl] at h1
    split at h1
    · cases h1
      rw [Nat.zero_add]
      exact List.mem_cons_self
    · cases h1
  · rw [if_neg hk] at h1
    refine List.mem_cons_of_mem _ (List.mem_filter.mpr ⟨(lvs_mem _ 0 _).mpr ⟨k, w, h1, rfl⟩, ?_⟩)
    simp only [Nat.zero_add, tr_cat]
    have hk' : (k == i) = false := by simp; omega
    rw [hk']
    by_cases hk2 : k + 1 = i
    · subst hk2
      have : w.category = 1 := by
        have h2 := hok
        simp only [okst, h1] at h2
        simpa using h2
      simp [this]
    · have : (k + 1 == i) = false := by simp; omega
      simp [this]
theorem lvs_set2 {ad : Nat → Nat} {L : List (Option Value)} {i : Nat} {v : Value} (hok : okst L i = true) : ∀ q ∈ lvs ad 0 ((L.set i (some v)).set (i + 1) none), q ∈ ((i, tr ad v) :: (lvs ad 0 L).filter (fun q => !(q.1 == i) && (!(q.1 == i + 1) && !(q.1 + 1 == i && q.2.category == 2)))) := by
  intro q hq
  obtain ⟨k, w, h1, rfl⟩ := (lvs_mem _ 0 q).mp hq
  rw [List.getElem?_set] at h1
  by_cases hk1 : i + 1 = k
  · subst hk1
    rw [if_pos rfl] at h1
    split at h1 <;> cases h1
  rw [if_neg hk1, List.getElem?_set] at h1
  by_cases hk : i = k
  · subst hk
    rw [if_pos rfl] at h1
    split at h1
    · cases h1
      rw [Nat.zero_add]
      exact List.mem_cons_self
    · cases h1
  · rw [if_neg hk] at h1
    refine List.mem_cons_of_mem _ (List.mem_filter.mpr ⟨(lvs_mem _ 0 _).mpr ⟨k, w, h1, rfl⟩, ?_⟩)
    simp only [Nat.zero_add, tr_cat]
    have hk' : (k == i) = false := by simp; omega
    have hk'' : (k == i + 1) = false := by simp; omega
    rw [hk', hk'']
    by_cases hk2 : k + 1 = i
    · subst hk2
      have : w.category = 1 := by
        have h2 := hok
        simp only [okst, h1] at h2
        simpa using h2
      simp [this]
    · have : (k + 1 == i) = false := by simp; omega
      simp [this]
/-- addresses that a method may write: the world's, and new ones -/
def frA (ad : Nat → Nat) (sz : Nat) : Nat → Prop := fun a => (∃ q, q < 44 ∧ a = ad q) ∨ sz ≤ a
/-- the calls of a nest mate's private methods: who calls, by which entry, what -/
def nst : List (String × Nat × MethodName) := [(RX3, 51, yX5_apart), (RX1, 57, yX5_isIn), (RX3, 47, yX5_isIn), (RX0, 25, yX5_apart), (RX0, 29, yX5_isIn)]
def NW (U : State) : Prop := ∀ z ∈ nst, va_Nw (.methodLinkNest z.1 z.2.1 z.2.2 RX5) U
/-- the world of a memory stands in a state -/
def WH (dC : Nat → ClassId) (dI : Nat → Nat → Nat) (cI : ClassId) (ad : Nat → Nat) (X : Mem) (U : State) : Prop := va_P (dC, dI) vwCl (wld cI ad X) U.heap ∧ va_K (dC, dI) vwCl [(cI, .int)] U ∧ NW U
def adOK (ad : Nat → Nat) : Prop := ∀ i j, i < 44 → j < 44 → ad i = ad j → i = j
/-- a method's end: what it answers and the memory behind it -/
def QR (dC : Nat → ClassId) (dI : Nat → Nat → Nat) (cI : ClassId) (ad : Nat → Nat) (sz : Nat) (post : Option Value → Mem → Prop) : Array Value → State → Outcome → State → Prop := fun _ st oc t =>
  (∃ (v : Option Value) (X' : Mem), oc = .returned (v.map (tr ad)) ∧ post v X' ∧ va_P (dC, dI) vwCl (wld cI ad X') t.heap) ∧ va_F (frA ad sz) st t
/-- a method's contract: from the memory X, with these arguments, it returns, and 'post' holds of the answer and the memory -/
def Ru (y : MethodName) (ws : List Cond) (fr lo : Nat) (as : List Value) (X : Mem) (post : Option Value → Mem → Prop) : Prop :=
  ∀ (l : Launch) (dC : Nat → ClassId) (dI : Nat → Nat → Nat) (cI : ClassId) (ad : Nat → Nat) (sz : Nat), adOK ad →
    Met l y ws ({ frames := fr, cells := 0, slots := 0, locals := lo }) (va_Pc (as.map (tr ad)) (fun U => U.heap.size = sz ∧ WH dC dI cI ad X U)) (QR dC dI cI ad sz post) 0 0 (frA ad sz)
/-- the context of a walk -/
abbrev Kx : Type := (Program × Launch × Env × Room × State × MethodId × Array Value × List Frame) × (Method × Code × (Nat → ClassId) × (Nat → Nat → Nat) × ClassId × (Nat → Nat)) × ((Nat → Prop) × Heap × Nat × Nat × Nat × (State → Prop))
def Ev (K : Kx) (pc : Nat) (L : List (Option Value)) (st : List Value) (X : Mem) : Prop := match K with
  | ((p, l, e, R, s, m, args, below), (meth, c, dC, dI, cI, ad), (A, H0, nL, cells, slots, Q)) =>
    ∀ (H : Heap) (locs : List Loc) (ls : Array Slot), va_P (dC, dI) vwCl (wld cI ad X) H → va_S A H0 H locs → lv_has ls nL (lvs ad 0 L) → W p l e R s m args below meth c H locs cells slots Q (F0 m pc ls (st.map (tr ad)))
def Cx (K : Kx) (own : String) (bytes : ByteArray) (ws : List Cond) (fr lo : Nat) : Prop := match K with
  | ((p, _, _, R, s, m, args, _), (_, c, dC, dI, cI, ad), (A, H0, nL, cells, slots, _)) =>
    (p.tables.exec = Jvm.exec ∧ c.code = bytes ∧ c.maxLocals = nL ∧ s.vm.findClass own = some m.cls ∧ (∀ w ∈ ws, w.before args s = true)) ∧ (R.frames = fr ∧ R.locals = lo ∧ cells ≤ R.cells ∧ slots ≤ R.slots) ∧
    va_K (dC, dI) vwCl [(cI, .int)] s ∧ NW s ∧ adOK ad ∧ (∀ q, q < 44 → A (ad q)) ∧ ∀ q, H0.size ≤ q → A q
def Rx (K : Kx) (ret : Option FieldType) (post : Option Value → Mem → Prop) : Prop := match K with
  | ((_, _, _, _, s, _, args, below), (meth, _, dC, dI, cI, ad), (A, H0, _, cells, slots, Q)) =>
    meth.sig.returnType = ret ∧ meth.locks = false ∧ H0 = s.heap ∧ A = frA ad s.heap.size ∧ Q = MQ below (QR dC dI cI ad s.heap.size post) args s cells slots A
