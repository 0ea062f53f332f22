/-! THE CLAIM OUT OF ONE WALK OF THE LAW'S BODY. Your part is whole_start (and what it stands on); all else here is the same for every law, but numbers. -/
def R_law : String := "ChantNeumesLaw"
def lw_P (b : Addr) (xs : List Int32) (args : Array Value) (s : State) : Prop := args = #[.ref b] ∧ s.IntsAt b xs ∧ xs.length ≤ 3072 ∧ (Jvm.Cond.and given_1 narrow_1).before args s = true
def lw_Q (_ : Array Value) (s : State) (o : Outcome) (t : State) : Prop := o = .returned (some (.int 1)) ∧ Framed s o t [] 600000 7302250
def lw_Z (below : List Frame) (a : Array Value) (s : State) : State → Prop := fun t => ∃ o, t.status = .running ∧ Ended t below o ∧ lw_Q a s o t
/-- the law's own end, with 1 on the stack, nothing written that was there before, its room as the claim has it -/
theorem lw_ret {p : Program} {l : Launch} {e : Env} {s : State} {m : MethodId} {below : List Frame} {meth : Method} {c : Code} {b : Nat} (hx : p.tables.exec = Jvm.exec) (hb : c.code = code) (hr : meth.sig.returnType = ret) (hlocks : meth.locks = false) {pc : Nat} {H : Heap} {ls : Array Slot} (hdg : decode code pc = .ok (.ireturn, 1)) : W p l e room_1 s m #[Value.ref b] below meth c H [] 600000 7302250 (lw_Z below #[Value.ref b] s) (F0 m pc ls [.int 1]) := by
  intro T hT X
  obtain ⟨fs, hret, hrun, hended, hW, hframe⟩ := X.leave (v := some (.int 1)) (hlocks := hlocks) (fun h => by rw [hr] at h; cases h)
  have hmeth' : T.vm.method? m = some meth := X.method'
  refine ⟨T.setFrames fs, ?_, .returned (some (.int 1)), hrun, hended, rfl, ⟨_, rfl⟩, hW, hframe⟩
  jvm_step X.here [X.here.top, hx, hb, hdg, hmeth', hr, ret, narrow_b1]
  (try refine ⟨rfl, ?_⟩); (try refine ⟨rfl, ?_⟩)
  first | (intro acts; rw [hret _ acts rfl rfl rfl]) | rw [hret _ _ rfl rfl rfl]
  exact Steps.refl _
/-- what holds at the law's entry: the machine, the code, the tables' words (any of lw_tbl by 'hts w (by decide +kernel)'), the script of L ints xs at the cell b, what the Statement gives of the start (any of its parts by flat_of_before) -/
def lw_At (p : Program) (s : State) (m : MethodId) (meth : Method) (c : Code) (b L : Nat) (xs : Nat → Int32) : Prop :=
  p.tables.exec = Jvm.exec ∧ c.code = code ∧ meth.sig.returnType = ret ∧ c.maxLocals = 4 ∧ s.vm.findClass R_law = some m.cls ∧ (∀ w ∈ lw_tbl, w.before #[Value.ref b] s = true) ∧ va_X b L xs s s.heap ∧ b < s.heap.size ∧ meth.locks = false ∧ (Jvm.Cond.and given_1 narrow_1).before #[Value.ref b] s = true
/-! a static row out of the Statement's words -/
theorem st_of {args : Array Value} {s : State} {C n : String} {N : Nat} {f : Nat → Int32} (hN : N < 2 ^ 31) (hl : (Cond.laysStatic C n "[I").before args s = true) (hini : (Cond.initialized C).before args s = true) (harr : (Cond.arrayOf (.static C n "[I") .int).before args s = true) (hlen : (Cond.eq (.length (.static C n "[I")) (.int (Int32.ofNat N))).before args s = true) (hel : ∀ j : Nat, j < N → (Cond.eq (.elem (.static C n "[I") (.int (Int32.ofNat j))) (.int (f j))).before args s = true) : ∃ t : Nat, va_Z C n "[I" (.ref t) (fun q : Nat => s.heap.size ≤ q) s s.heap ∧ va_T .int t N (fun i => .int (f i)) (fun q : Nat => s.heap.size ≤ q) s s.heap := by
  have hA : ∀ a : Nat, a < s.heap.size → ¬ (fun q : Nat => s.heap.size ≤ q) a := fun a h => Nat.not_le.mpr h
  obtain ⟨t, ht, hT⟩ := va_Tof (f := fun i => .int (f i)) hN harr (va_eqt hlen) (fun j hj => va_eqt (hel j hj)) hA
  exact ⟨t, va_Zof hl hini ht hA, hT⟩
abbrev GN : Cond := Jvm.Cond.and given_1 narrow_1
abbrev eW (C n : String) (f : Nat → Int32) (j : Nat) : Cond := Cond.eq (.elem (.static C n "[I") (.int (Int32.ofNat j))) (.int (f j))
set_option maxRecDepth 100000 in
theorem w_scale : ∀ j : Nat, j < 7 → (flatC GN)[7 + j]? = some (eW "ChantNeumes$Reader" "SCALE" (tF tScale) j) := by decide +kernel
set_option maxRecDepth 100000 in
theorem w_ways : ∀ j : Nat, j < 15 → (flatC GN)[17 + j]? = some (eW "ChantNeumes$Shaper" "WAYS" (tF tWays) j) := by decide +kernel
set_option maxRecDepth 100000 in
theorem w_tenors : ∀ j : Nat, j < 8 → (flatC GN)[35 + j]? = some (eW "ChantNeumes$Score" "TENORS" (tF tTenors) j) := by decide +kernel
set_option maxRecDepth 100000 in
theorem w_cells : ∀ j : Nat, j < 160 → (flatC GN)[46 + j]? = some (eW "ChantNeumes$Tones" "CELLS" (tF tCells) j) := by decide +kernel
theorem w_tab {i : Nat} {w : Cond} (h : tables_1[i]? = some w) : w ∈ lw_tbl := List.mem_append_right _ (List.mem_of_getElem? h)
set_option maxRecDepth 100000 in
set_option maxHeartbeats 4000000 in
theorem whole_start {p : Program} {e : Env} {s : State} {m : MethodId} {below : List Frame} {meth : Method} {c : Code} (l : Launch) {b L : Nat} {xs : Nat → Int32} (hL : L ≤ 3072) (C0 : lw_At p s m meth c b L xs) : W p l e room_1 s m #[Value.ref b] below meth c s.heap [] 0 0 (lw_Z below #[Value.ref b] s) (entryFrame m ([Value.ref b] : List Value).toArray 4) := by
  obtain ⟨hx, hb, hr, hml, hown, hts, hX, hbl, hlocks, hgv⟩ := id C0
  have hA : ∀ q : Nat, s.heap.size ≤ q → (fun q : Nat => s.heap.size ≤ q) q := fun _ h => h
  have hgood : ∀ w ∈ goodTB, w.before #[Value.ref b] s = true := fun w hw => hts w (List.mem_filter.mp hw).1
  -- the classes
  obtain ⟨c0, i0, k0⟩ := u_known (C := RX0) (T := TX0) (N := 8) (n := 8) hgood inX0 (hgood _ (inT1 154 rfl rfl))
  obtain ⟨c1, i1, k1⟩ := u_known (C := RX1) (T := TX1) (N := 4) (n := 4) hgood inX1 (hgood _ (inT1 146 rfl rfl))
  obtain ⟨c2, i2, k2⟩ := u_known (C := RX2) (T := TX2) (N := 12) (n := 12) hgood inX2 (hgood _ (inT1 101 rfl rfl))
  obtain ⟨c3, i3, k3⟩ := u_known (C := RX3) (T := TX3) (N := 9) (n := 9) hgood inX3 (hgood _ (inT1 44 rfl rfl))
  obtain ⟨c4, i4, k4⟩ := u_known (C := RX5) (T := TX5) (N := 4) (n := 4) hgood inX5 (hgood _ (inT1 21 rfl rfl))
  obtain ⟨c5, i5, k5⟩ := u_known (C := RX8) (T := TX8) (N := 6) (n := 6) hgood inX8 (hgood _ (inT1 13 rfl rfl))
  obtain ⟨c6, i6, k6⟩ := u_known (C := RX9) (T := TX9) (N := 56) (n := 56) hgood inX9 (hgood _ (inT3 129 rfl rfl))
  obtain ⟨dC, dI, hKc⟩ : ∃ (dC : Nat → ClassId) (dI : Nat → Nat → Nat), ∀ (k : Nat) (q : vw_C), vwCl[k]? = some q → u_Kn s q.1 q.2.1 q.2.2 (dC k) (dI k) := by
    refine ⟨fun k => if k = 0 then c0 else if k = 1 then c1 else if k = 2 then c2 else if k = 3 then c3 else if k = 4 then c4 else if k = 5 then c5 else c6, fun k => if k = 0 then i0 else if k = 1 then i1 else if k = 2 then i2 else if k = 3 then i3 else if k = 4 then i4 else if k = 5 then i5 else i6, ?_⟩
    intro k q hq
    match k, hq with
    | 0, hq => cases hq; exact k0
    | 1, hq => cases hq; exact k1
    | 2, hq => cases hq; exact k2
    | 3, hq => cases hq; exact k3
    | 4, hq => cases hq; exact k4
    | 5, hq => cases hq; exact k5
    | 6, hq => cases hq; exact k6
    | k + 7, hq => simp [vwCl] at hq
  obtain ⟨cI, kI, comp, hfind, hkI, hkind⟩ := Cond.arrayClass_spec (hgood _ ac_int)
  have hK : va_K (dC, dI) vwCl [(cI, .int)] s := by
    refine ⟨hKc, fun k q hk => ?_⟩
    match k, hk with
    | 0, hk => cases hk; exact ⟨fun n z => ⟨fun k h => (by cases h), kI, hkI, comp, hkind⟩, hfind⟩
    | k + 1, hk => simp at hk
  -- the static rows
  have fl : ∀ {i : Nat} {w : Cond}, (flatC GN)[i]? = some w → w.before #[Value.ref b] s = true := fun h => flat_of_before _ hgv _ (List.mem_of_getElem? h)
  obtain ⟨t0, z0, y0⟩ := st_of (C := "ChantNeumes$Reader") (n := "SCALE") (N := 7) (f := tF tScale) (by decide) (hts _ (w_tab (i := 327) (by decide +kernel))) (hts _ (w_tab (i := 5) (by decide +kernel))) (fl (i := 5) (by decide +kernel)) (fl (i := 6) (by decide +kernel)) (fun j hj => fl (w_scale j hj))
  obtain ⟨t1, z1, y1⟩ := st_of (C := "ChantNeumes$Shaper") (n := "WAYS") (N := 15) (f := tF tWays) (by decide) (hts _ (w_tab (i := 382) (by decide +kernel))) (hts _ (w_tab (i := 9) (by decide +kernel))) (fl (i := 15) (by decide +kernel)) (fl (i := 16) (by decide +kernel)) (fun j hj => fl (w_ways j hj))
  obtain ⟨t2, z2, y2⟩ := st_of (C := "ChantNeumes$Score") (n := "TENORS") (N := 8) (f := tF tTenors) (by decide) (hts _ (w_tab (i := 459) (by decide +kernel))) (hts _ (w_tab (i := 4) (by decide +kernel))) (fl (i := 33) (by decide +kernel)) (fl (i := 34) (by decide +kernel)) (fun j hj => fl (w_tenors j hj))
  obtain ⟨t3, z3, y3⟩ := st_of (C := "ChantNeumes$Tones") (n := "CELLS") (N := 160) (f := tF tCells) (by decide) (hts _ (w_tab (i := 532) (by decide +kernel))) (hts _ (w_tab (i := 10) (by decide +kernel))) (fl (i := 44) (by decide +kernel)) (fl (i := 45) (by decide +kernel)) (fun j hj => fl (w_cells j hj))
  have y4 : va_T .int b L (fun i => .int (xs i)) (fun q : Nat => s.heap.size ≤ q) s s.heap := by
    obtain ⟨scr, g1, g2, g3, g4, g5⟩ := hX
    exact ⟨scr, g1, g2, g3, by omega, by rw [g4] <;> rfl, g5, Nat.not_le.mpr hbl⟩
  have hN : XNest s := ⟨va_Nw.of rfl (hts _ (w_tab (i := 45) (by decide +kernel))), va_Nw.of rfl (hts _ (w_tab (i := 147) (by decide +kernel)))⟩
  have hXS : XS [(L, xs)] (fun j => (fun k : Nat => if k = SB then t0 else if k = SB + 1 then t1 else if k = SB + 2 then t2 else if k = SB + 3 then t3 else b) (SB + j)) (fun q : Nat => s.heap.size ≤ q) s s.heap := by
    refine ⟨fun j q hj => ?_, fun j q hj => ?_, hN⟩
    · match j, hj with
      | 0, hj => cases hj; exact z0
      | 1, hj => cases hj; exact z1
      | 2, hj => cases hj; exact z2
      | 3, hj => cases hj; exact z3
      | j + 4, hj => simp [ST] at hj
    · match j, hj with
      | 0, hj => cases hj; exact y0
      | 1, hj => cases hj; exact y1
      | 2, hj => cases hj; exact y2
      | 3, hj => cases hj; exact y3
      | 4, hj => cases hj; exact y4
      | j + 5, hj => simp [RO0] at hj
  have hl := lv_entry ([.ref b]) (n := 4) (Nat.le_of_ble_eq_true rfl)
  rw [lg_entry_eq]
  generalize (lg_sl ([.ref b]) ++ List.replicate (4 - (lg_sl ([.ref b])).length) Slot.unset).toArray = ls at hl ⊢
  have hl : lv_has ls 4 [(0, .ref b)] := hl
  have hv := law_body (nm := meth.name) (L := L) (xs := xs) hL (Z := fun _ r => r = some (J 1)) (fun _ => rfl) GI_0
  refine hv p l e s m #[Value.ref b] below meth c (dC, dI) cI _ (fun q : Nat => s.heap.size ≤ q) (lw_Z below #[Value.ref b] s) ⟨hx, hb, hml, hr, hlocks, hown, hgood, rfl, hK, hA, hXS⟩ ?_ (fun k : Nat => if k = SB then t0 else if k = SB + 1 then t1 else if k = SB + 2 then t2 else if k = SB + 3 then t3 else b) s.heap [] ls ⟨ag.rf, Nat.le_refl _, Nat.zero_le _, fun k q h => by simp [xw] at h, ⟨fun i j p q h => by simp [xw] at h, fun k q h => by simp [xw] at h⟩, va_S.rf⟩ ⟨hl.1, hl.2.1, fun k v hk => ?_⟩
  · intro w ad H locs lsA pc hR
    refine ⟨fun x hd _ hz => ?_, fun k hd hret _ => ?_, fun hd hret _ => ?_⟩
    · cases hz
      exact va_forget (fun q hq => hR.2.2.2.2.2.2.2 q hq) (lw_ret hx hb hr hlocks hd)
    · obtain ⟨C, hC⟩ := hret
      cases hC
    · cases hret
  · match k, hk with
    | 0, hk => cases hk; exact ⟨hl.2.2 (0, .ref b) List.mem_cons_self, rfl⟩
    | 1, hk => cases hk
    | 2, hk => cases hk
    | 3, hk => cases hk
    | k + 4, hk => simp at hk
set_option maxHeartbeats 4000000 in
theorem lw_walk (l : Launch) (b : Addr) (xs : List Int32) : MetFree l x (headSpec (Jvm.Cond.code x code maxLocals ret :: tables_1) room_1) (lw_P b xs) (fun _ _ _ _ _ => True) lw_Q := by
  refine MetFree.of_bodyS (code := code) (maxLocals := maxLocals) (ret := ret) (by decide) ?_ ?_
  · intro args s m h hn
    obtain ⟨meth, c, h1, h2, h3, h4, h5, h6, -, -⟩ := Cond.code_spec hn (atoms_spec (ws := Jvm.Cond.code x code maxLocals ret :: tables_1) h _ List.mem_cons_self)
    exact ⟨meth, c, h1, h2, h3, h4, h5, h6⟩
  · intro p e s m args below meth c s₁ B hml0 hP _
    obtain ⟨rfl, hx, hbd, hgv⟩ := hP
    obtain ⟨scr, harrAt, hlist, hof, hsmall⟩ := hx
    obtain ⟨hcb, hkn, -, -⟩ := State.arrayAt?_spec harrAt
    have hown : s.vm.findClass R_law = some m.cls := findClass_of_methodNamed B.named
    have hts0 : ∀ c ∈ (Jvm.Cond.code x code maxLocals ret :: tables_1), c.before #[Value.ref b] s = true := atoms_spec (ws := Jvm.Cond.code x code maxLocals ret :: tables_1) B.pre
    have hts : ∀ w ∈ lw_tbl, w.before #[Value.ref b] s = true := k2_hts_sels lw_privs (fun w hw => hts0 w (List.mem_cons_of_mem _ hw)) lw_privs_ok
    have hml : c.maxLocals = 4 := B.maxLocals_eq (hts0 _ List.mem_cons_self)
    have X₀ : Stand p l e room_1 s m #[Value.ref b] below meth c s₁ [] 0 0 := Stand.of_body B
    have hh0 : s₁.heap = s.heap := by rw [B.state]; rfl
    have hsz : scr.slots.size = xs.length := by rw [← Array.length_toList, hlist, List.length_map]
    have hval : ∀ j : Nat, j < xs.length → scr.slots[j]? = some (.int (xs.getD j 0)) := fun j hj => by
      rw [← Array.getElem?_toList, hlist]
      simp [hj]
    have hbl : b < s.heap.size := (Array.getElem?_eq_some_iff.mp hcb).1
    have hX : va_X b xs.length (fun j => xs.getD j 0) s s.heap := ⟨scr, hcb, hof, hkn, hsz, hval⟩
    have K : W p l e room_1 s m #[Value.ref b] below meth c s₁.heap [] 0 0 (lw_Z below #[Value.ref b] s) (entryFrame m ([Value.ref b] : List Value).toArray 4) := by
      rw [hh0]
      exact whole_start l hbd ⟨B.exec, B.bytes, B.returns, hml, hown, hts, hX, hbl, B.notSynchronized, hgv⟩
    obtain ⟨t, a1, o, b1, b2, b3⟩ := K s₁ rfl X₀
    exact ⟨t, o, a1, b1, b2, b3⟩
theorem lw_pre_spec {args : Array Value} {s : State} (h : (Jvm.Cond.and given_1 narrow_1).before args s = true) (hr : rest_1_c.before args s = true) : ∃ (b : Addr) (xs : List Int32), lw_P b xs args s := by
  have hs := flat_of_before _ h
  have hq := flat_of_before _ hr
  have hc : (Cond.count 1).before args s = true := hs _ (by decide +kernel)
  have harr : (Cond.arrayOf (.arg 0) .int).before args s = true := hs _ (by decide +kernel)
  have hle : (Cond.le (.length (.arg 0)) (.int 3072)).before args s = true := hs _ (by decide +kernel)
  have hlen : (Cond.isInt (.length (.arg 0))).before args s = true := hq _ (by decide +kernel)
  have hall : (Cond.all (.arg 0) (.isInt (.elem (.arg 0) (.index 0)))).before args s = true := hq _ (by decide +kernel)
  obtain ⟨b, xs, hb, hx⟩ := State.ints_of_pre rfl harr hlen hall
  have hsm : xs.length < 2 ^ 31 := hx.choose_spec.2.2.2
  have hev : (Term.length (.arg 0)).eval args s none [] s = some (.int xs.length.toInt32) := hx.length_eval hb
  have hv := Cond.le_ints hev (show (Term.int 3072).eval args s none [] s = some (.int 3072) from rfl)
  have hd : xs.length.toInt32 ≤ 3072 := by
    simpa [Cond.before, Cond.holds, hv] using hle
  have hN : xs.length ≤ 3072 := (Int32.ofNat_le_ofNat hsm (by decide)).mp (show Int32.ofNat xs.length ≤ Int32.ofNat 3072 from hd)
  exact ⟨b, xs, Cond.one_arg hc (show args[0]? = some (.ref b) from hb), hx, hN, h⟩
theorem lw_comes (l : Launch) : Comes l x (Jvm.Cond.code x code maxLocals ret :: tables_1) room_1 (fun tb e args s => Calls_1 tb e args s ∧ rest_1 tb e args s ∧ Pre_1 tb e args s)
    (fun _ _ args s o t => lw_Q args s o t) := by
  intro p e ha hc hk s m args below hf hfit hheap happ hpre
  obtain ⟨b, xs, hP⟩ := lw_pre_spec hpre.2.2 hpre.2.1
  obtain ⟨k, o, h1, h2, h3, hQ⟩ := lw_walk l b xs p e ha hc hk s m args below hf ((Spec.applies_iff_loose hf).mp happ).1 hP trivial
  exact ⟨k, o, h1, h2, h3, hQ⟩
theorem lw_frame {s t : State} {o : Outcome} {args : Array Value} (h : Framed s o t [] 600000 7302250) :
    Framed s o t (fieldLocs frame_1_writes args s ++ arrayLocs frame_1_arrays args s ++ staticLocs frame_1_statics s) 600000 7302250 := h
theorem lw_limb (L : Cond) (hL : ∀ (args : Array Value) (s t : State), L.after args s (.returned (some (.int 1))) t = true) :
    ArmFor flags0 classFile x code maxLocals ret World_1 tables_1 room_1 Calls_1 rest_1 Pre_1
      (fun tb e a s o t => postC L tb e a s o t ∧ Framed s o t (fieldLocs frame_1_writes a s ++ arrayLocs frame_1_arrays a s ++ staticLocs frame_1_statics s) 600000 7302250) := by
  intro l _ _ _ p e ha hc hk s m args below hf hfit hheap happ hpre
  obtain ⟨k, o, h1, h2, h3, rfl, hF⟩ := lw_comes l p e ha hc hk s m args below hf hfit hheap happ hpre
  exact ⟨k, _, h1, h2, h3, hL args s _, lw_frame hF⟩
theorem i_vc : Claimed_1_1 ∧ Claimed_1_2 := ⟨lw_limb limb_1_1 (fun args s t => by simp [limb_1_1, Cond.after, Cond.holds, Cond.value]), lw_limb limb_1_2 (fun args s t => Cond.after_iff.mpr (by
  first | (rw [show limb_1_2 = Cond.eq .result (.int 1) from rfl, Cond.eq_ints (x := 1) (y := 1) rfl rfl]; simp; done) | (simp [limb_1_2, Cond.value, Term.eval]; done)))⟩
