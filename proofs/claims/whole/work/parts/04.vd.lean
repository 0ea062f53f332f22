/-! the instructions of each method: pc, instruction, length, next pc -/
def DcAt (c : ByteArray) (pc : Nat) (i : Instr) (n nx : Nat) : Prop := decode c pc = .ok (i, n) ∧ pc + n = nx
abbrev DL : Type := List (Nat × Instr × Nat × Nat)
def decOK (c : ByteArray) (L : DL) : Bool := L.all (fun q => decide (decode c q.1 = .ok (q.2.1, q.2.2.1)) && decide (q.1 + q.2.2.1 = q.2.2.2))
theorem dec_of {c : ByteArray} {L : DL} (h : decOK c L = true) (k : Nat) {pc : Nat} {i : Instr} {n nx : Nat} (hk : L[k]? = some (pc, i, n, nx)) : DcAt c pc i n nx := by
  have h1 := List.all_eq_true.mp h _ (List.mem_of_getElem? hk)
  simp only [Bool.and_eq_true, decide_eq_true_eq] at h1
  exact h1
/-! THE VD LAYER. A world is a list of cells: an int array (length, contents) or an object (class number, fields); a reference is the PLACE of a cell in that list (from SB on: the arrays that nobody writes). 'ad' gives the address of a place. Vd: from this pc, these locals, this stack, this world, the method comes to its end with Z (world, answer). Sp: a method's contract in these words. -/
abbrev XE : Type := (Nat × (Nat → Int32)) ⊕ (Nat × List Value)
abbrev XW : Type := List XE
def SB : Nat := 1000000
def xv (ad : Nat → Nat) (v : Value) : Value := match v with
  | .ref k => .ref (ad k)
  | v => v
def xe (cI : ClassId) (ad : Nat → Nat) (e : XE) : va_E := match e with
  | .inl a => .inl (cI, a.1, .inl a.2)
  | .inr o => .inr (o.1, o.2.map (xv ad))
def xw (cI : ClassId) (ad : Nat → Nat) (w : XW) : va_W := w.mapIdx (fun k e => (ad k, xe cI ad e))
theorem xw_len {cI : ClassId} {ad : Nat → Nat} {w : XW} : (xw cI ad w).length = w.length := by simp [xw]
theorem xw_at {cI : ClassId} {ad : Nat → Nat} {w : XW} {k : Nat} {e : XE} (h : w[k]? = some e) : (xw cI ad w)[k]? = some (ad k, xe cI ad e) := by
  simp [xw, List.getElem?_mapIdx, h]
theorem xw_set {cI : ClassId} {ad : Nat → Nat} {w : XW} {k : Nat} {e : XE} : xw cI ad (w.set k e) = (xw cI ad w).set k (ad k, xe cI ad e) := by
  apply List.ext_getElem?
  intro j
  simp only [xw, List.getElem?_mapIdx, List.getElem?_set, List.length_mapIdx]
  by_cases h : k = j
  · subst h
    by_cases h2 : k < w.length <;> simp [h2]
  · simp [h]
def rk (n : Nat) (v : Value) : Bool := match v with
  | .ref k => decide (k < n) || decide (SB ≤ k)
  | _ => true
def xok (n : Nat) (w : XW) : Bool := w.all (fun e => match e with
  | .inl _ => true
  | .inr o => o.2.all (rk n))
def ag (n : Nat) (ad ad' : Nat → Nat) : Prop := ∀ k : Nat, (k < n ∨ SB ≤ k) → ad' k = ad k
theorem ag.rf {n : Nat} {ad : Nat → Nat} : ag n ad ad := fun _ _ => rfl
theorem ag.tr {n n' : Nat} {a b c : Nat → Nat} (h : ag n a b) (h2 : ag n' b c) (hn : n ≤ n') : ag n a c := fun k hk => (h2 k (hk.imp (fun q => Nat.lt_of_lt_of_le q hn) id)).trans (h k hk)
theorem xv_cat {ad : Nat → Nat} {v : Value} : (xv ad v).category = v.category := by cases v <;> rfl
theorem xv_ag {n : Nat} {ad ad' : Nat → Nat} (h : ag n ad ad') {v : Value} (hv : rk n v = true) : xv ad' v = xv ad v := by
  cases v with
  | ref k =>
    have : k < n ∨ SB ≤ k := by simpa [rk] using hv
    show Value.ref (ad' k) = Value.ref (ad k)
    rw [h k this]
  | _ => rfl
theorem xvs_ag {n : Nat} {ad ad' : Nat → Nat} (h : ag n ad ad') {vs : List Value} (hv : vs.all (rk n) = true) : vs.map (xv ad') = vs.map (xv ad) :=
  List.map_congr_left fun v hm => xv_ag h (List.all_eq_true.mp hv v hm)
theorem xe_ag {n : Nat} {cI : ClassId} {ad ad' : Nat → Nat} (h : ag n ad ad') {w : XW} (hv : xok n w = true) {e : XE} (he : e ∈ w) : xe cI ad' e = xe cI ad e := by
  have h1 := List.all_eq_true.mp hv e he
  cases e with
  | inl a => rfl
  | inr o =>
    show Sum.inr (o.1, o.2.map (xv ad')) = Sum.inr (o.1, o.2.map (xv ad))
    rw [xvs_ag h h1]
theorem xw_ag {n : Nat} {cI : ClassId} {ad ad' : Nat → Nat} (h : ag n ad ad') {w : XW} (hn : w.length ≤ n) (hv : xok n w = true) : xw cI ad' w = xw cI ad w := by
  apply List.ext_getElem?
  intro j
  simp only [xw, List.getElem?_mapIdx]
  cases hj : w[j]? with
  | none => rfl
  | some e =>
    have hl := (List.getElem?_eq_some_iff.mp hj).1
    simp only [Option.map_some]
    rw [h j (Or.inl (Nat.lt_of_lt_of_le hl hn)), xe_ag h hv (List.mem_of_getElem? hj)]
theorem xw_push {cI : ClassId} {ad : Nat → Nat} {w : XW} {e : XE} : xw cI ad (w ++ [e]) = xw cI ad w ++ [(ad w.length, xe cI ad e)] := by
  simp [xw, List.mapIdx_append]
/-! what is the same at every state: statics, two links of private constructors -/
def XNest (U : State) : Prop := va_Nw (.methodLinkNest RX8 23 yX3_init RX8) U ∧ va_Nw (.methodLinkNest RX8 39 yX1_init RX8) U
def ST : List (String × String) := [("ChantNeumes$Reader", "SCALE"), ("ChantNeumes$Shaper", "WAYS"), ("ChantNeumes$Score", "TENORS"), ("ChantNeumes$Tones", "CELLS")]
def tScale : List Int32 := [0, 2, 4, 5, 7, 9, 11]
def tWays : List Int32 := [1, 2, 3, 11, 22, 12, 21, 33, 121, 212, 112, 221, 122, 1122, 2211]
def tTenors : List Int32 := [4, 2, 5, 3, 4, 2, 4, 3]
def tCells : List Int32 := [-2, -1, 0, 0, 0, 2, 1, 0, -1, -1, 0, 2, -1, -2, 1, 0, 0, -1, -1, -3,
  -2, 0, 0, 0, 0, 1, 0, 0, 1, 0, 0, 1, -1, 0, 1, 0, 0, -2, -2, -2,
  -4, -1, 0, 0, 0, 2, 1, 0, -1, -1, 0, 1, 0, 0, 1, 0, 0, -2, -2, -1,
  -1, -2, 2, -1, 0, 1, 0, 0, 1, 0, 0, 0, 0, 0, 2, -1, 0, 1, -1, -2,
  -4, -2, 0, 0, 0, 1, 0, 0, 1, 0, 0, 0, 0, 0, 2, 1, 1, -1, -1, -2,
  -2, -1, 0, 0, 0, 2, 1, 0, -1, -1, 0, 2, -2, -1, 1, 0, 0, -1, -1, -2,
  -1, -2, 0, 0, 0, 2, 2, 1, -1, -1, 0, 0, 0, 0, 2, 1, 0, -1, -1, -2,
  -3, -2, 0, 0, 0, 1, 0, 0, 1, 0, 0, 2, 0, -1, 1, 0, 0, 1, 1, -3]
def tF (l : List Int32) : Nat → Int32 := fun i => l.getD i 0
def RO0 : List (Nat × (Nat → Int32)) := [(7, tF tScale), (15, tF tWays), (8, tF tTenors), (160, tF tCells)]
def XS (ex : List (Nat × (Nat → Int32))) (ro : Nat → Nat) (A : Nat → Prop) (U : State) (H : Heap) : Prop :=
  (∀ (j : Nat) (q : String × String), ST[j]? = some q → va_Z q.1 q.2 "[I" (.ref (ro j)) A U H) ∧ (∀ (j : Nat) (q : Nat × (Nat → Int32)), (RO0 ++ ex)[j]? = some q → va_T .int (ro j) q.1 (fun i => .int (q.2 i)) A U H) ∧ XNest U
theorem XS.to {ex : List (Nat × (Nat → Int32))} {ro : Nat → Nat} {A B : Nat → Prop} {s U : State} {H : Heap} {locs : List Loc} (h : XS ex ro A s s.heap) (hS : va_S A s.heap H locs) (hU : U.heap = H) (hW : s.WarmedH U.vm) (hB : ∀ q, B q → A q) : XS [] ro B U U.heap := by
  obtain ⟨h1, h2, h3, h4⟩ := h
  refine ⟨fun j q hj => ?_, fun j q hj => ?_, va_Nw.warmM hW h3, va_Nw.warmM hW h4⟩
  · rw [hU]
    exact ((h1 j q hj).kept hS.2.1).moved hW.alike |>.narrow hB
  · rw [hU]
    have hj' : (RO0 ++ ex)[j]? = some q := by
      rw [List.append_nil] at hj
      rw [List.getElem?_append_left (List.getElem?_eq_some_iff.mp hj).1]
      exact hj
    exact ((h2 j q hj').kept hS.2.1).moved hW.alike |>.narrow hB
/-! contracts -/
def xws (M : MI) : List Cond := .code M.1 M.2.1 M.2.2.1 M.2.2.2 :: goodTB
abbrev rm (fr lo ca sl : Nat) : Room := { frames := fr, cells := ca, slots := sl, locals := lo }
def XPre (cI : ClassId) (D : va_G) (ad : Nat → Nat) (sz : Nat) (w : XW) (U : State) : Prop := U.heap.size = sz ∧ va_P D vwCl (xw cI ad w) U.heap ∧ va_K D vwCl [(cI, .int)] U ∧ va_D (fun _ => True) (xw cI ad w) ∧ XS [] (fun j => ad (SB + j)) (va_A (xw cI ad w) sz) U U.heap ∧ w.length ≤ SB
def XPost (cI : ClassId) (D : va_G) (ad : Nat → Nat) (A : Nat → Prop) (n : Nat) (Z : XW → Option Value → Prop) (st : State) (oc : Outcome) (t : State) : Prop := ∃ (w' : XW) (r : Option Value) (ad' : Nat → Nat), Z w' r ∧ oc = .returned (r.map (xv ad')) ∧ ag n ad ad' ∧ n ≤ w'.length ∧ w'.length ≤ SB ∧ va_P D vwCl (xw cI ad' w') t.heap ∧ va_D A (xw cI ad' w') ∧ va_F A st t
def Sp (R : Room) (M : MI) (av : List Value) (w : XW) (Z : XW → Option Value → Prop) : Prop :=
  ∀ (l : Launch) (D : va_G) (cI : ClassId) (ad : Nat → Nat) (sz : Nat), Met l M.1 (xws M) R (va_Pc (av.map (xv ad)) (XPre cI D ad sz w)) (fun _ st oc t => XPost cI D ad (va_A (xw cI ad w) sz) w.length Z st oc t) R.cells R.slots (va_A (xw cI ad w) sz)
/-- the answer and the world behind it, told exactly -/
def Sd (R : Room) (M : MI) (av : List Value) (w w' : XW) (r : Option Value) : Prop := Sp R M av w (fun x y => x = w' ∧ y = r)
theorem Met.wk {l : Launch} {y : MethodName} {ws : List Cond} {R : Room} {Pc : Array Value → State → Prop} {Q1 Q2 : Array Value → State → Outcome → State → Prop} {mc ms : Nat} {free : Addr → Prop} (h : Met l y ws R Pc Q1 mc ms free) (hq : ∀ a s o t, Q1 a s o t → Q2 a s o t) : Met l y ws R Pc Q2 mc ms free := by
  intro p e h1 h2 h3 s m args below h4 h5 h6 h7
  obtain ⟨n, o, g1, g2, g3, g4, g5⟩ := h p e h1 h2 h3 s m args below h4 h5 h6 h7
  exact ⟨n, o, g1, g2, g3, hq _ _ _ _ g4, g5⟩
theorem Sp.wk {R : Room} {M : MI} {av : List Value} {w : XW} {Z Z2 : XW → Option Value → Prop} (h : Sp R M av w Z) (hz : ∀ x y, Z x y → Z2 x y) : Sp R M av w Z2 := by
  intro l D cI ad sz
  refine (h l D cI ad sz).wk (fun a s o t q => ?_)
  obtain ⟨w', r, ad', q1, q2⟩ := q
  exact ⟨w', r, ad', hz _ _ q1, q2⟩
/-! inside a method -/
def XC (ex : List (Nat × (Nat → Int32))) (M : MI) (p : Program) (s : State) (m : MethodId) (args : Array Value) (meth : Method) (c : Code) (D : va_G) (cI : ClassId) (ad0 : Nat → Nat) (A : Nat → Prop) : Prop :=
  p.tables.exec = Jvm.exec ∧ c.code = M.2.1 ∧ c.maxLocals = M.2.2.1 ∧ meth.sig.returnType = M.2.2.2 ∧ meth.locks = false ∧ s.vm.findClass M.1.cls = some m.cls ∧ (∀ w ∈ goodTB, w.before args s = true) ∧ meth.name = M.1.name ∧ va_K D vwCl [(cI, .int)] s ∧ (∀ q, s.heap.size ≤ q → A q) ∧ XS ex (fun j => ad0 (SB + j)) A s s.heap
def XRep (cI : ClassId) (D : va_G) (ad0 ad : Nat → Nat) (A : Nat → Prop) (n0 : Nat) (s : State) (w : XW) (H : Heap) (locs : List Loc) : Prop :=
  ag n0 ad0 ad ∧ n0 ≤ w.length ∧ w.length ≤ SB ∧ va_P D vwCl (xw cI ad w) H ∧ va_D A (xw cI ad w) ∧ va_S A s.heap H locs
def XL (lsA : Array Slot) (nL : Nat) (ad : Nat → Nat) (ls : List (Option Value)) : Prop := lsA.size = nL ∧ lv_wf lsA ∧ ∀ (k : Nat) (v : Value), ls[k]? = some (some v) → lsA[k]? = some (.val (xv ad v)) ∧ v.category = 1
def XEnd (R : Room) (M : MI) (n0 : Nat) (Z : XW → Option Value → Prop) (p : Program) (l : Launch) (e : Env) (s : State) (m : MethodId) (args : Array Value) (below : List Frame) (meth : Method) (c : Code) (D : va_G) (cI : ClassId) (ad0 : Nat → Nat) (A : Nat → Prop) (Qs : State → Prop) : Prop :=
  ∀ (w : XW) (ad : Nat → Nat) (H : Heap) (locs : List Loc) (lsA : Array Slot) (pc : Nat), XRep cI D ad0 ad A n0 s w H locs →
    (∀ x : Int32, decode M.2.1 pc = .ok (.ireturn, 1) → (M.2.2.2 = some .int ∨ (M.2.2.2 = some .boolean ∧ (x = 0 ∨ x = 1))) → Z w (some (.int x)) → W p l e R s m args below meth c H locs R.cells R.slots Qs (F0 m pc lsA [.int x])) ∧
    (∀ k : Nat, decode M.2.1 pc = .ok (.areturn, 1) → (∃ C, M.2.2.2 = some (.object C)) → Z w (some (.ref k)) → W p l e R s m args below meth c H locs R.cells R.slots Qs (F0 m pc lsA [.ref (ad k)])) ∧
    (decode M.2.1 pc = .ok (.return_, 1) → M.2.2.2 = none → Z w none → W p l e R s m args below meth c H locs R.cells R.slots Qs (F0 m pc lsA []))
def Vd (R : Room) (ex : List (Nat × (Nat → Int32))) (M : MI) (n0 : Nat) (Z : XW → Option Value → Prop) (ca sl pc : Nat) (ls : List (Option Value)) (st : List Value) (w : XW) : Prop :=
  ∀ (p : Program) (l : Launch) (e : Env) (s : State) (m : MethodId) (args : Array Value) (below : List Frame) (meth : Method) (c : Code) (D : va_G) (cI : ClassId) (ad0 : Nat → Nat) (A : Nat → Prop) (Qs : State → Prop),
    XC ex M p s m args meth c D cI ad0 A → XEnd R M n0 Z p l e s m args below meth c D cI ad0 A Qs →
    ∀ (ad : Nat → Nat) (H : Heap) (locs : List Loc) (lsA : Array Slot), XRep cI D ad0 ad A n0 s w H locs → XL lsA M.2.2.1 ad ls →
      W p l e R s m args below meth c H locs ca sl Qs (F0 m pc lsA (st.map (xv ad)))
def en (n : Nat) (av : List Value) : List (Option Value) := av.map some ++ List.replicate (n - av.length) none
theorem lv_args_cat {vs : List Value} (h : ∀ v ∈ vs, v.category = 1) : ∀ (i k : Nat) (v : Value), vs[k]? = some v → (i + k, v) ∈ lv_args i vs := by
  induction vs with
  | nil => intro i k v hk; simp at hk
  | cons a t ih =>
    intro i k v hk
    have ha : a.category = 1 := h a List.mem_cons_self
    cases k with
    | zero =>
      simp only [List.getElem?_cons_zero, Option.some.injEq] at hk
      subst hk
      exact List.mem_cons_self
    | succ k =>
      simp only [List.getElem?_cons_succ] at hk
      have := ih (fun v hv => h v (List.mem_cons_of_mem _ hv)) (i + 1) k v hk
      refine List.mem_cons_of_mem _ ?_
      have hif : (if a.category = 2 then i + 2 else i + 1) = i + 1 := by simp [ha]
      rw [hif, show i + (k + 1) = i + 1 + k by omega]
      exact this
theorem lg_sl_len {vs : List Value} (h : ∀ v ∈ vs, v.category = 1) : (lg_sl vs).length = vs.length := by
  induction vs with
  | nil => rfl
  | cons a t ih =>
    have ha : a.category = 1 := h a List.mem_cons_self
    have := ih (fun v hv => h v (List.mem_cons_of_mem _ hv))
    cases a <;> simp_all [lg_sl, Value.category, List.flatMap_cons]
set_option maxHeartbeats 4000000 in
/-- a contract out of a walk from pc 0 -/
theorem sp_of {R : Room} {M : MI} {av : List Value} {w : XW} {Z : XW → Option Value → Prop} {ls : List (Option Value)} (hy : plainName M.1.cls = true) (hl : av.length ≤ M.2.2.1) (hc : av.all (fun v => decide (v.category = 1)) = true) (hls : ls = en M.2.2.1 av) (k : Vd R [] M w.length Z 0 0 0 ls [] w) : Sp R M av w Z := by
  intro l D cI ad sz
  refine Met.ofW (cc := M.2.1) (maxL := M.2.2.1) (ret := M.2.2.2) hy rfl ?_
  intro p e s m args below meth c s₁ B hml hv
  obtain ⟨rfl, hsz, hP, hK, hD0, hX, hlen⟩ := hv
  have hts := atoms_spec (ws := xws M) B.pre
  have hown : s.vm.findClass M.1.cls = some m.cls := findClass_of_methodNamed B.named
  have hin : meth.name = M.1.name := (name_of_methodNamed B.named B.method).1
  subst hsz
  have hD := hD0.self (sz := s.heap.size)
  have hA : ∀ q : Nat, s.heap.size ≤ q → va_A (xw cI ad w) s.heap.size q := fun q h => Or.inr h
  have hcat : ∀ v ∈ av, v.category = 1 := fun v hv => by simpa using List.all_eq_true.mp hc v hv
  have hcat' : ∀ v ∈ av.map (xv ad), v.category = 1 := by
    intro v hv
    obtain ⟨u, hu, rfl⟩ := List.mem_map.mp hv
    rw [xv_cat]; exact hcat u hu
  have hL := lv_entry (av.map (xv ad)) (n := M.2.2.1) (by rw [lg_sl_len hcat', List.length_map]; exact hl)
  rw [lg_entry_eq]
  refine k p l e s m _ below meth c D cI ad (va_A (xw cI ad w) s.heap.size) _ ⟨B.exec, B.bytes, hml, B.returns, B.notSynchronized, hown, fun w hw => hts w (List.mem_cons_of_mem _ hw), hin, hK, hA, hX⟩ ?_ ad s.heap [] _ ⟨ag.rf, Nat.le_refl _, hlen, hP, hD, va_S.rf⟩ ⟨hL.1, hL.2.1, ?_⟩
  · intro w' ad' H locs lsA pc hR
    obtain ⟨r1, r2, r3, r4, r5, r6⟩ := hR
    have fin : ∀ (r : Option Value), Z w' r → ∀ t : State, t.heap = H → s.WarmedH t.vm → XPost cI D ad (va_A (xw cI ad w) s.heap.size) w.length Z s (.returned (r.map (xv ad'))) t := fun r hz t ht hW => ⟨w', r, ad', hz, rfl, r1, r2, r3, by rw [ht]; exact r4, r5, r6.F ht⟩
    refine ⟨fun x hd hret hz => ?_, fun q hd hret hz => ?_, fun hd hret hz => ?_⟩
    · rcases hret with hret | ⟨hret, hx⟩
      · exact W.zret (ty := .int) B.exec B.bytes (B.returns.trans hret) rfl (fun t ht hW => fin (some (.int x)) hz t ht hW) r6.2.2 hd
      · exact W.zret (ty := .boolean) B.exec B.bytes (B.returns.trans hret) (by rcases hx with rfl | rfl <;> decide) (fun t ht hW => fin (some (.int x)) hz t ht hW) r6.2.2 hd
    · obtain ⟨C, hC⟩ := hret
      exact W.aret B.exec B.bytes (B.returns.trans hC) (Or.inl ⟨C, rfl⟩) (Or.inr ⟨_, rfl⟩) (fun t ht hW => fin (some (.ref q)) hz t ht hW) r6.2.2 hd
    · exact W.vret B.exec B.bytes (B.returns.trans hret) (fun t ht hW => fin none hz t ht hW) r6.2.2 hd
  · intro j v hj
    rw [hls] at hj
    have hjl : j < av.length ∧ av[j]? = some v := by
      unfold en at hj
      by_cases h : j < av.length
      · rw [List.getElem?_append_left (by simpa using h), List.getElem?_map] at hj
        refine ⟨h, ?_⟩
        cases hv : av[j]? with
        | none => rw [hv] at hj; simp at hj
        | some u => rw [hv] at hj; simp at hj; rw [hj]
      · rw [List.getElem?_append_right (by simpa using h)] at hj
        have := List.mem_of_getElem? hj
        simp at this
    refine ⟨hL.2.2 (j, xv ad v) ?_, hcat v (List.mem_of_getElem? hjl.2)⟩
    have := lv_args_cat hcat' 0 j (xv ad v) (by rw [List.getElem?_map, hjl.2]; rfl)
    simpa using this
