/-! rules that make objects and arrays; a nest mate's constructor -/
section VdMake
variable {R R' : Room} {ex : List (Nat × (Nat → Int32))} {M M' : MI} {n0 : Nat} {Z Z' : XW → Option Value → Prop} {ca sl pc pc' idx np b : Nat} {ls : List (Option Value)} {As rest st : List Value} {w : XW}
theorem ag_new {ad : Nat → Nat} {n q : Nat} (hn : n ≤ SB) (hl : n + 1 ≤ SB) : ag n ad (fun k => if k = n then q else ad k) := by
  intro k hk
  show (if k = n then q else ad k) = ad k
  rw [if_neg]
  rcases hk with h | h
  · omega
  · omega
set_option maxHeartbeats 4000000 in
theorem v_new {ci N : Nat} {ty : Nat → FieldType} {fs : List Value} (g : XN M.1.cls idx ci N ty) (hd : DcAt M.2.1 pc (.new idx) 3 pc') (hfs : ∀ j, j < N → defaultValue (ty j) = vp_V fs j) (hfx : ∀ ad : Nat → Nat, fs.map (xv ad) = fs) (hok : xok w.length w = true) (hsb : w.length + 1 ≤ SB) (hroom : ca + 1 ≤ R.cells ∧ sl + N ≤ R.slots) (hlok : lok w ls st = true)
    (k : Vd R ex M n0 Z (ca + 1) (sl + N) pc' ls (.ref w.length :: st) (w ++ [.inr (ci, fs)])) : Vd R ex M n0 Z ca sl pc ls st w := by
  intro p l e s m args below meth c D cI ad0 A Qs C E ad H locs lsA hR hL
  obtain ⟨hd, rfl⟩ := hd
  obtain ⟨Cn, T, g1, g2, g3, g4, g5, g6⟩ := g
  obtain ⟨hx, hb, hml, hr, hlocks, hown, hts, hnm, hK, hA, hX⟩ := id C
  obtain ⟨r1, r2, r3, hP, hD, hS⟩ := id hR
  refine va_new (C := Cn) (T := T) (N := N) (fs := fs) hx hb hts g2 ty g3 hown (hts _ g4) (hts _ g5) (hts _ g6) hK hP hD hS hA g1 hfs hroom.1 hroom.2 hd (fun q H1 hP1 hD1 hS1 => ?_)
  have hg : ag w.length ad (fun k => if k = w.length then q else ad k) := ag_new r3 hsb
  have e1 : xw cI (fun k => if k = w.length then q else ad k) (w ++ [.inr (ci, fs)]) = xw cI ad w ++ [(q, .inr (ci, fs))] := by
    rw [xw_push, xw_ag hg (Nat.le_refl _) hok]
    show xw cI ad w ++ [((if w.length = w.length then q else ad w.length), _)] = _
    rw [if_pos rfl]
    show xw cI ad w ++ [(q, Sum.inr (ci, fs.map (xv _)))] = _
    rw [hfx]
  have := k p l e s m args below meth c D cI ad0 A Qs C E (fun k => if k = w.length then q else ad k) H1 locs lsA ⟨r1.tr hg r2, by rw [List.length_append]; omega, by rw [List.length_append]; exact hsb, by rw [e1]; exact hP1, by rw [e1]; exact hD1, hS1⟩ (hL.ag hg hlok)
  have e2 : (Value.ref w.length :: st).map (xv (fun k => if k = w.length then q else ad k)) = .ref q :: st.map (xv ad) := by
    rw [List.map_cons, xvs_ag hg (lok_rest hlok)]
    show Value.ref (if w.length = w.length then q else ad w.length) :: _ = _
    rw [if_pos rfl]
  rw [e2] at this
  exact this
set_option maxHeartbeats 4000000 in
theorem v_newa {n : Int32} {N : Nat} (hd : DcAt M.2.1 pc (.newarray .int) 2 pc') (hn : ¬ n < 0) (hN : n.toNatClampNeg = N) (hbytes : N ≤ 100000) (hok : xok w.length w = true) (hsb : w.length + 1 ≤ SB) (hroom : ca + 1 ≤ R.cells ∧ sl + N ≤ R.slots) (hlok : lok w ls st = true)
    (k : Vd R ex M n0 Z (ca + 1) (sl + N) pc' ls (.ref w.length :: st) (w ++ [.inl (N, fun _ => 0)])) : Vd R ex M n0 Z ca sl pc ls (.int n :: st) w := by
  intro p l e s m args below meth c D cI ad0 A Qs C E ad H locs lsA hR hL
  obtain ⟨hd, rfl⟩ := hd
  obtain ⟨hx, hb, hml, hr, hlocks, hown, hts, hnm, hK, hA, hX⟩ := id C
  obtain ⟨r1, r2, r3, hP, hD, hS⟩ := id hR
  refine va_newa (atype := .int) (ty := .int) (N' := N) (a0 := (N, .inl (fun _ => 0))) hx hb (hts _ ac_int) rfl hK hP hD hS hA (fun cA => rfl) hn hN (by show N * 4 ≤ 536870912; omega) hroom.1 hroom.2 hd (fun q cA H1 hK1 hP1 hD1 hS1 => ?_)
  have hc : cA = cI := by
    have a := (hK1.2 0 (cI, .int) rfl).2
    have b := (hK1.2 1 (cA, .int) rfl).2
    exact Option.some.inj (b.symm.trans a)
  subst hc
  have hg : ag w.length ad (fun k => if k = w.length then q else ad k) := ag_new r3 hsb
  have e1 : xw cA (fun k => if k = w.length then q else ad k) (w ++ [.inl (N, fun _ => 0)]) = xw cA ad w ++ [(q, .inl (cA, N, .inl (fun _ => 0)))] := by
    rw [xw_push, xw_ag hg (Nat.le_refl _) hok]
    show xw cA ad w ++ [((if w.length = w.length then q else ad w.length), _)] = _
    rw [if_pos rfl]
    rfl
  have := k p l e s m args below meth c D cA ad0 A Qs C E (fun k => if k = w.length then q else ad k) H1 locs lsA ⟨r1.tr hg r2, by rw [List.length_append]; omega, by rw [List.length_append]; exact hsb, by rw [e1]; exact hP1, by rw [e1]; exact hD1, hS1⟩ (hL.ag hg hlok)
  have e2 : (Value.ref w.length :: st).map (xv (fun k => if k = w.length then q else ad k)) = .ref q :: st.map (xv ad) := by
    rw [List.map_cons, xvs_ag hg (lok_rest hlok)]
    show Value.ref (if w.length = w.length then q else ad w.length) :: _ = _
    rw [if_pos rfl]
  rw [e2] at this
  exact this
set_option maxHeartbeats 4000000 in
theorem v_callIN (hown2 : M.1.cls = RX8) (hn8 : ∀ U : State, XNest U → va_Nw (.methodLinkNest RX8 idx M'.1 RX8) U) (g : XJ M') (gx : M'.1.cls ≠ "java/lang/invoke/MethodHandle" ∧ M'.1.cls ≠ "java/lang/invoke/VarHandle" ∧ (parseMethodDescriptor M'.1.desc).map (fun d => d.parameters.length) = some np) (g8 : M'.1.name = "<init>") (hd : DcAt M.2.1 pc (.invokespecial idx) 3 pc') (hret : M'.2.2.2 = none) (h : Sp R' M' (.ref b :: As) w Z') (hst : st = As.reverse ++ .ref b :: rest) (hnp : As.length = np) (hro : R'.frames + 1 ≤ R.frames ∧ 8 + (M'.2.2.1 + 11) + R'.locals ≤ R.locals ∧ ca + R'.cells ≤ R.cells ∧ sl + R'.slots ≤ R.slots) (hrs : (rest.map fun v => v.category).sum ≤ 8) (hlok : lok w ls rest = true)
    (k : ∀ (w' : XW) (r : Option Value), Z' w' r → w.length ≤ w'.length → Vd R ex M n0 Z (ca + R'.cells) (sl + R'.slots) pc' ls (r.toList ++ rest) w') : Vd R ex M n0 Z ca sl pc ls st w := by
  intro p l e s m args below meth c D cI ad0 A Qs C E ad H locs lsA hR hL
  obtain ⟨hd, rfl⟩ := hd
  obtain ⟨g4, g6, g7⟩ := g
  obtain ⟨hx, hb, hml, hr, hlocks, hown, hts, hnm, hK, hA, hX⟩ := id C
  obtain ⟨r1, r2, r3, hP, hD, hS⟩ := id hR
  subst hst
  have hG := good_in g6
  have hB := bmem hD hS hA
  have cb := va_cnB (R := R) (own := M.1.cls) (host := RX8) (index := idx) (y := M'.1) (bytes := M'.2.1) (maxL := M'.2.2.1) (ret := M'.2.2.2) (rm := R') (args := args) np hts hG rfl rfl rfl (by rw [hown2]; exact hn8 s hX.2.2) (hts _ g4) gx ⟨hro.1, hro.2.1⟩
  rw [hret] at cb
  refine vr_call (va_runIN (As := As.map (xv ad)) (rest := rest.map (xv ad)) (b := ad b) ⟨hx, hb, hml, hown, hts⟩ (h l D cI ad H.size) ⟨cb, g8, hts _ g7⟩ ⟨xpre_blind, ?_⟩ rfl (by rw [List.length_map]; exact hnp) hL.1 (by simp [xv]) (lv_room (by rw [cat_sum]; exact hrs)) hd ⟨hro.2.2.1, hro.2.2.2⟩) hS hB hB ?_
  · intro U hU hW
    exact ⟨by simp [xv], by rw [hU], by rw [hU]; exact hP, va_K.moved hW.alike hK, hD.weaken (fun _ _ _ _ => trivial), (by
      have := hX.to hS hU hW hB
      have e1 : (fun j => ad (SB + j)) = (fun j => ad0 (SB + j)) := funext fun j => r1 _ (Or.inr (Nat.le_add_right _ _))
      rw [e1]; exact this), r3⟩
  · intro w' r ad' H1 locs1 z1 z2 z3 z4 z5 z6 z7
    have := k w' r z1 z3 p l e s m args below meth c D cI ad0 A Qs C E ad' H1 locs1 lsA ⟨r1.tr z2 r2, Nat.le_trans r2 z3, z4, z5, z6, z7⟩ (hL.ag z2 hlok)
    rw [List.map_append, xvs_ag z2 (lok_rest hlok)] at this
    have e2 : r.toList.map (xv ad') = (r.map (xv ad')).toList := by cases r <;> rfl
    rw [e2] at this
    exact this
end VdMake
