/-! rules of the Vd layer: an instruction, a rule (printed by wip/tools/gen_rules.py) -/
section VdRules
variable {R : Room} {ex : List (Nat × (Nat → Int32))} {M : MI} {n0 : Nat} {Z : XW → Option Value → Prop} {ca sl pc pc' : Nat} {ls : List (Option Value)} {st : List Value} {w : XW}

theorem v_iconst {n : Int} {v : Int32} (hd : DcAt M.2.1 pc (.iconst n) 1 pc') (hv : Int32.ofInt n = v) (k : Vd R ex M n0 Z ca sl pc' ls (.int v :: st) w) : Vd R ex M n0 Z ca sl pc ls (st) w := by
  intro p l e s m args below meth c D cI ad0 A Qs C E ad H locs lsA hR hL
  obtain ⟨hd, rfl⟩ := hd
  exact lv_iconst C.1 C.2.1 hd hv (k p l e s m args below meth c D cI ad0 A Qs C E ad H locs lsA hR hL)

theorem v_bipush {n : Int} {v : Int32} (hd : DcAt M.2.1 pc (.bipush n) 2 pc') (hv : (Int8.ofInt n).toInt32 = v) (k : Vd R ex M n0 Z ca sl pc' ls (.int v :: st) w) : Vd R ex M n0 Z ca sl pc ls (st) w := by
  intro p l e s m args below meth c D cI ad0 A Qs C E ad H locs lsA hR hL
  obtain ⟨hd, rfl⟩ := hd
  exact lv_bipush C.1 C.2.1 hd hv (k p l e s m args below meth c D cI ad0 A Qs C E ad H locs lsA hR hL)

theorem v_sipush {n : Int} {v : Int32} (hd : DcAt M.2.1 pc (.sipush n) 3 pc') (hv : (Int16.ofInt n).toInt32 = v) (k : Vd R ex M n0 Z ca sl pc' ls (.int v :: st) w) : Vd R ex M n0 Z ca sl pc ls (st) w := by
  intro p l e s m args below meth c D cI ad0 A Qs C E ad H locs lsA hR hL
  obtain ⟨hd, rfl⟩ := hd
  exact lv_sipush C.1 C.2.1 hd hv (k p l e s m args below meth c D cI ad0 A Qs C E ad H locs lsA hR hL)

theorem v_iload_n {i : Fin 4} {x : Int32} (hd : DcAt M.2.1 pc (.iload_n i) 1 pc') (hl : ls[(i : Nat)]? = some (some (.int x))) (k : Vd R ex M n0 Z ca sl pc' ls (.int x :: st) w) : Vd R ex M n0 Z ca sl pc ls (st) w := by
  intro p l e s m args below meth c D cI ad0 A Qs C E ad H locs lsA hR hL
  obtain ⟨hd, rfl⟩ := hd
  exact lv_iload_n C.1 C.2.1 hd rfl (hL.2.2 _ _ hl).1 (k p l e s m args below meth c D cI ad0 A Qs C E ad H locs lsA hR hL)

theorem v_iload {i : Nat} {x : Int32} (hd : DcAt M.2.1 pc (.iload i) 2 pc') (hl : ls[i]? = some (some (.int x))) (k : Vd R ex M n0 Z ca sl pc' ls (.int x :: st) w) : Vd R ex M n0 Z ca sl pc ls (st) w := by
  intro p l e s m args below meth c D cI ad0 A Qs C E ad H locs lsA hR hL
  obtain ⟨hd, rfl⟩ := hd
  exact lv_iload C.1 C.2.1 hd (hL.2.2 _ _ hl).1 (k p l e s m args below meth c D cI ad0 A Qs C E ad H locs lsA hR hL)

theorem v_aload_n {i : Fin 4} {x : Nat} (hd : DcAt M.2.1 pc (.aload_n i) 1 pc') (hl : ls[(i : Nat)]? = some (some (.ref x))) (k : Vd R ex M n0 Z ca sl pc' ls (.ref x :: st) w) : Vd R ex M n0 Z ca sl pc ls (st) w := by
  intro p l e s m args below meth c D cI ad0 A Qs C E ad H locs lsA hR hL
  obtain ⟨hd, rfl⟩ := hd
  exact lv_aload_n C.1 C.2.1 hd rfl (hL.2.2 _ _ hl).1 (k p l e s m args below meth c D cI ad0 A Qs C E ad H locs lsA hR hL)

theorem v_aload {i : Nat} {x : Nat} (hd : DcAt M.2.1 pc (.aload i) 2 pc') (hl : ls[i]? = some (some (.ref x))) (k : Vd R ex M n0 Z ca sl pc' ls (.ref x :: st) w) : Vd R ex M n0 Z ca sl pc ls (st) w := by
  intro p l e s m args below meth c D cI ad0 A Qs C E ad H locs lsA hR hL
  obtain ⟨hd, rfl⟩ := hd
  exact lv_aload C.1 C.2.1 hd (hL.2.2 _ _ hl).1 (k p l e s m args below meth c D cI ad0 A Qs C E ad H locs lsA hR hL)

theorem v_iadd {x y : Int32} (hd : DcAt M.2.1 pc (.iadd) 1 pc') (k : Vd R ex M n0 Z ca sl pc' ls (.int (x + y) :: st) w) : Vd R ex M n0 Z ca sl pc ls (.int y :: .int x :: st) w := by
  intro p l e s m args below meth c D cI ad0 A Qs C E ad H locs lsA hR hL
  obtain ⟨hd, rfl⟩ := hd
  exact lv_iadd C.1 C.2.1 hd (k p l e s m args below meth c D cI ad0 A Qs C E ad H locs lsA hR hL)

theorem v_isub {x y : Int32} (hd : DcAt M.2.1 pc (.isub) 1 pc') (k : Vd R ex M n0 Z ca sl pc' ls (.int (x - y) :: st) w) : Vd R ex M n0 Z ca sl pc ls (.int y :: .int x :: st) w := by
  intro p l e s m args below meth c D cI ad0 A Qs C E ad H locs lsA hR hL
  obtain ⟨hd, rfl⟩ := hd
  exact lv_isub C.1 C.2.1 hd (k p l e s m args below meth c D cI ad0 A Qs C E ad H locs lsA hR hL)

theorem v_imul {x y : Int32} (hd : DcAt M.2.1 pc (.imul) 1 pc') (k : Vd R ex M n0 Z ca sl pc' ls (.int (x * y) :: st) w) : Vd R ex M n0 Z ca sl pc ls (.int y :: .int x :: st) w := by
  intro p l e s m args below meth c D cI ad0 A Qs C E ad H locs lsA hR hL
  obtain ⟨hd, rfl⟩ := hd
  exact lv_imul C.1 C.2.1 hd (k p l e s m args below meth c D cI ad0 A Qs C E ad H locs lsA hR hL)

theorem v_iand {x y : Int32} (hd : DcAt M.2.1 pc (.iand) 1 pc') (k : Vd R ex M n0 Z ca sl pc' ls (.int (x &&& y) :: st) w) : Vd R ex M n0 Z ca sl pc ls (.int y :: .int x :: st) w := by
  intro p l e s m args below meth c D cI ad0 A Qs C E ad H locs lsA hR hL
  obtain ⟨hd, rfl⟩ := hd
  exact lv_iand C.1 C.2.1 hd (k p l e s m args below meth c D cI ad0 A Qs C E ad H locs lsA hR hL)

theorem v_ior {x y : Int32} (hd : DcAt M.2.1 pc (.ior) 1 pc') (k : Vd R ex M n0 Z ca sl pc' ls (.int (x ||| y) :: st) w) : Vd R ex M n0 Z ca sl pc ls (.int y :: .int x :: st) w := by
  intro p l e s m args below meth c D cI ad0 A Qs C E ad H locs lsA hR hL
  obtain ⟨hd, rfl⟩ := hd
  exact lv_ior C.1 C.2.1 hd (k p l e s m args below meth c D cI ad0 A Qs C E ad H locs lsA hR hL)

theorem v_ixor {x y : Int32} (hd : DcAt M.2.1 pc (.ixor) 1 pc') (k : Vd R ex M n0 Z ca sl pc' ls (.int (x ^^^ y) :: st) w) : Vd R ex M n0 Z ca sl pc ls (.int y :: .int x :: st) w := by
  intro p l e s m args below meth c D cI ad0 A Qs C E ad H locs lsA hR hL
  obtain ⟨hd, rfl⟩ := hd
  exact lv_ixor C.1 C.2.1 hd (k p l e s m args below meth c D cI ad0 A Qs C E ad H locs lsA hR hL)

theorem v_ishl {x y : Int32} (hd : DcAt M.2.1 pc (.ishl) 1 pc') (k : Vd R ex M n0 Z ca sl pc' ls (.int (x <<< (y &&& 31)) :: st) w) : Vd R ex M n0 Z ca sl pc ls (.int y :: .int x :: st) w := by
  intro p l e s m args below meth c D cI ad0 A Qs C E ad H locs lsA hR hL
  obtain ⟨hd, rfl⟩ := hd
  exact lv_ishl C.1 C.2.1 hd (k p l e s m args below meth c D cI ad0 A Qs C E ad H locs lsA hR hL)

theorem v_ishr {x y : Int32} (hd : DcAt M.2.1 pc (.ishr) 1 pc') (k : Vd R ex M n0 Z ca sl pc' ls (.int (x >>> (y &&& 31)) :: st) w) : Vd R ex M n0 Z ca sl pc ls (.int y :: .int x :: st) w := by
  intro p l e s m args below meth c D cI ad0 A Qs C E ad H locs lsA hR hL
  obtain ⟨hd, rfl⟩ := hd
  exact lv_ishr C.1 C.2.1 hd (k p l e s m args below meth c D cI ad0 A Qs C E ad H locs lsA hR hL)

theorem v_iushr {x y v : Int32} (hd : DcAt M.2.1 pc (.iushr) 1 pc') (hv : (x.toUInt32 >>> (y.toUInt32 &&& Int32.toUInt32 31)).toInt32 = v) (k : Vd R ex M n0 Z ca sl pc' ls (.int v :: st) w) : Vd R ex M n0 Z ca sl pc ls (.int y :: .int x :: st) w := by
  intro p l e s m args below meth c D cI ad0 A Qs C E ad H locs lsA hR hL
  obtain ⟨hd, rfl⟩ := hd
  exact lv_iushr C.1 C.2.1 hd hv (k p l e s m args below meth c D cI ad0 A Qs C E ad H locs lsA hR hL)

theorem v_idiv {x y : Int32} (hd : DcAt M.2.1 pc (.idiv) 1 pc') (hne : ¬ y = 0) (k : Vd R ex M n0 Z ca sl pc' ls (.int (x / y) :: st) w) : Vd R ex M n0 Z ca sl pc ls (.int y :: .int x :: st) w := by
  intro p l e s m args below meth c D cI ad0 A Qs C E ad H locs lsA hR hL
  obtain ⟨hd, rfl⟩ := hd
  exact lv_idiv C.1 C.2.1 hd hne (k p l e s m args below meth c D cI ad0 A Qs C E ad H locs lsA hR hL)

theorem v_irem {x y : Int32} (hd : DcAt M.2.1 pc (.irem) 1 pc') (hne : ¬ y = 0) (k : Vd R ex M n0 Z ca sl pc' ls (.int (x - x / y * y) :: st) w) : Vd R ex M n0 Z ca sl pc ls (.int y :: .int x :: st) w := by
  intro p l e s m args below meth c D cI ad0 A Qs C E ad H locs lsA hR hL
  obtain ⟨hd, rfl⟩ := hd
  exact lv_irem C.1 C.2.1 hd hne (k p l e s m args below meth c D cI ad0 A Qs C E ad H locs lsA hR hL)

theorem v_ineg {x : Int32} (hd : DcAt M.2.1 pc (.ineg) 1 pc') (k : Vd R ex M n0 Z ca sl pc' ls (.int (-x) :: st) w) : Vd R ex M n0 Z ca sl pc ls (.int x :: st) w := by
  intro p l e s m args below meth c D cI ad0 A Qs C E ad H locs lsA hR hL
  obtain ⟨hd, rfl⟩ := hd
  exact lv_ineg C.1 C.2.1 hd (k p l e s m args below meth c D cI ad0 A Qs C E ad H locs lsA hR hL)

theorem v_dup {v : Value} (hd : DcAt M.2.1 pc (.dup) 1 pc') (hc : v.category = 1) (k : Vd R ex M n0 Z ca sl pc' ls (v :: v :: st) w) : Vd R ex M n0 Z ca sl pc ls (v :: st) w := by
  intro p l e s m args below meth c D cI ad0 A Qs C E ad H locs lsA hR hL
  obtain ⟨hd, rfl⟩ := hd
  exact lv_dup C.1 C.2.1 hd (xv_cat.trans hc) (k p l e s m args below meth c D cI ad0 A Qs C E ad H locs lsA hR hL)

theorem v_pop {v : Value} (hd : DcAt M.2.1 pc (.pop) 1 pc') (hc : v.category = 1) (k : Vd R ex M n0 Z ca sl pc' ls (st) w) : Vd R ex M n0 Z ca sl pc ls (v :: st) w := by
  intro p l e s m args below meth c D cI ad0 A Qs C E ad H locs lsA hR hL
  obtain ⟨hd, rfl⟩ := hd
  exact lv_pop C.1 C.2.1 hd (xv_cat.trans hc) (k p l e s m args below meth c D cI ad0 A Qs C E ad H locs lsA hR hL)

theorem v_dup2 {v u : Value} (hd : DcAt M.2.1 pc (.dup2) 1 pc') (hc : v.category = 1) (hu : u.category = 1) (k : Vd R ex M n0 Z ca sl pc' ls (v :: u :: v :: u :: st) w) : Vd R ex M n0 Z ca sl pc ls (v :: u :: st) w := by
  intro p l e s m args below meth c D cI ad0 A Qs C E ad H locs lsA hR hL
  obtain ⟨hd, rfl⟩ := hd
  exact lv_dup2_11 C.1 C.2.1 hd (xv_cat.trans hc) (xv_cat.trans hu) (k p l e s m args below meth c D cI ad0 A Qs C E ad H locs lsA hR hL)

theorem v_goto {off : Int} {tgt : Nat} (hd : DcAt M.2.1 pc (.goto off) 3 pc') (ht : (pc : Int) + off = (tgt : Int)) (k : Vd R ex M n0 Z ca sl tgt ls (st) w) : Vd R ex M n0 Z ca sl pc ls (st) w := by
  intro p l e s m args below meth c D cI ad0 A Qs C E ad H locs lsA hR hL
  exact lv_goto C.1 C.2.1 hd.1 ht (k p l e s m args below meth c D cI ad0 A Qs C E ad H locs lsA hR hL)

theorem v_if_eq {x : Int32} {off : Int} {tgt : Nat} (hd : DcAt M.2.1 pc (.ifCond .eq off) 3 pc') (ht : (pc : Int) + off = (tgt : Int)) (kt : x = 0 → Vd R ex M n0 Z ca sl tgt ls (st) w) (kf : ¬ x = 0 → Vd R ex M n0 Z ca sl pc' ls (st) w) : Vd R ex M n0 Z ca sl pc ls (.int x :: st) w := by
  intro p l e s m args below meth c D cI ad0 A Qs C E ad H locs lsA hR hL
  obtain ⟨hd, rfl⟩ := hd
  exact lv_if_eq C.1 C.2.1 hd ht (fun q => kt q p l e s m args below meth c D cI ad0 A Qs C E ad H locs lsA hR hL) (fun q => kf q p l e s m args below meth c D cI ad0 A Qs C E ad H locs lsA hR hL)

theorem v_if_ne {x : Int32} {off : Int} {tgt : Nat} (hd : DcAt M.2.1 pc (.ifCond .ne off) 3 pc') (ht : (pc : Int) + off = (tgt : Int)) (kt : ¬ x = 0 → Vd R ex M n0 Z ca sl tgt ls (st) w) (kf : x = 0 → Vd R ex M n0 Z ca sl pc' ls (st) w) : Vd R ex M n0 Z ca sl pc ls (.int x :: st) w := by
  intro p l e s m args below meth c D cI ad0 A Qs C E ad H locs lsA hR hL
  obtain ⟨hd, rfl⟩ := hd
  exact lv_if_ne C.1 C.2.1 hd ht (fun q => kt q p l e s m args below meth c D cI ad0 A Qs C E ad H locs lsA hR hL) (fun q => kf q p l e s m args below meth c D cI ad0 A Qs C E ad H locs lsA hR hL)

theorem v_if_lt {x : Int32} {off : Int} {tgt : Nat} (hd : DcAt M.2.1 pc (.ifCond .lt off) 3 pc') (ht : (pc : Int) + off = (tgt : Int)) (kt : x < 0 → Vd R ex M n0 Z ca sl tgt ls (st) w) (kf : ¬ x < 0 → Vd R ex M n0 Z ca sl pc' ls (st) w) : Vd R ex M n0 Z ca sl pc ls (.int x :: st) w := by
  intro p l e s m args below meth c D cI ad0 A Qs C E ad H locs lsA hR hL
  obtain ⟨hd, rfl⟩ := hd
  exact lv_if_lt C.1 C.2.1 hd ht (fun q => kt q p l e s m args below meth c D cI ad0 A Qs C E ad H locs lsA hR hL) (fun q => kf q p l e s m args below meth c D cI ad0 A Qs C E ad H locs lsA hR hL)

theorem v_if_ge {x : Int32} {off : Int} {tgt : Nat} (hd : DcAt M.2.1 pc (.ifCond .ge off) 3 pc') (ht : (pc : Int) + off = (tgt : Int)) (kt : 0 ≤ x → Vd R ex M n0 Z ca sl tgt ls (st) w) (kf : ¬ 0 ≤ x → Vd R ex M n0 Z ca sl pc' ls (st) w) : Vd R ex M n0 Z ca sl pc ls (.int x :: st) w := by
  intro p l e s m args below meth c D cI ad0 A Qs C E ad H locs lsA hR hL
  obtain ⟨hd, rfl⟩ := hd
  exact lv_if_ge C.1 C.2.1 hd ht (fun q => kt q p l e s m args below meth c D cI ad0 A Qs C E ad H locs lsA hR hL) (fun q => kf q p l e s m args below meth c D cI ad0 A Qs C E ad H locs lsA hR hL)

theorem v_if_gt {x : Int32} {off : Int} {tgt : Nat} (hd : DcAt M.2.1 pc (.ifCond .gt off) 3 pc') (ht : (pc : Int) + off = (tgt : Int)) (kt : 0 < x → Vd R ex M n0 Z ca sl tgt ls (st) w) (kf : ¬ 0 < x → Vd R ex M n0 Z ca sl pc' ls (st) w) : Vd R ex M n0 Z ca sl pc ls (.int x :: st) w := by
  intro p l e s m args below meth c D cI ad0 A Qs C E ad H locs lsA hR hL
  obtain ⟨hd, rfl⟩ := hd
  exact lv_if_gt C.1 C.2.1 hd ht (fun q => kt q p l e s m args below meth c D cI ad0 A Qs C E ad H locs lsA hR hL) (fun q => kf q p l e s m args below meth c D cI ad0 A Qs C E ad H locs lsA hR hL)

theorem v_if_le {x : Int32} {off : Int} {tgt : Nat} (hd : DcAt M.2.1 pc (.ifCond .le off) 3 pc') (ht : (pc : Int) + off = (tgt : Int)) (kt : x ≤ 0 → Vd R ex M n0 Z ca sl tgt ls (st) w) (kf : ¬ x ≤ 0 → Vd R ex M n0 Z ca sl pc' ls (st) w) : Vd R ex M n0 Z ca sl pc ls (.int x :: st) w := by
  intro p l e s m args below meth c D cI ad0 A Qs C E ad H locs lsA hR hL
  obtain ⟨hd, rfl⟩ := hd
  exact lv_if_le C.1 C.2.1 hd ht (fun q => kt q p l e s m args below meth c D cI ad0 A Qs C E ad H locs lsA hR hL) (fun q => kf q p l e s m args below meth c D cI ad0 A Qs C E ad H locs lsA hR hL)

theorem v_icmp_eq {x y : Int32} {off : Int} {tgt : Nat} (hd : DcAt M.2.1 pc (.if_icmp .eq off) 3 pc') (ht : (pc : Int) + off = (tgt : Int)) (kt : x = y → Vd R ex M n0 Z ca sl tgt ls (st) w) (kf : ¬ x = y → Vd R ex M n0 Z ca sl pc' ls (st) w) : Vd R ex M n0 Z ca sl pc ls (.int y :: .int x :: st) w := by
  intro p l e s m args below meth c D cI ad0 A Qs C E ad H locs lsA hR hL
  obtain ⟨hd, rfl⟩ := hd
  exact lv_icmp_eq C.1 C.2.1 hd ht (fun q => kt q p l e s m args below meth c D cI ad0 A Qs C E ad H locs lsA hR hL) (fun q => kf q p l e s m args below meth c D cI ad0 A Qs C E ad H locs lsA hR hL)

theorem v_icmp_ne {x y : Int32} {off : Int} {tgt : Nat} (hd : DcAt M.2.1 pc (.if_icmp .ne off) 3 pc') (ht : (pc : Int) + off = (tgt : Int)) (kt : ¬ x = y → Vd R ex M n0 Z ca sl tgt ls (st) w) (kf : x = y → Vd R ex M n0 Z ca sl pc' ls (st) w) : Vd R ex M n0 Z ca sl pc ls (.int y :: .int x :: st) w := by
  intro p l e s m args below meth c D cI ad0 A Qs C E ad H locs lsA hR hL
  obtain ⟨hd, rfl⟩ := hd
  exact lv_icmp_ne C.1 C.2.1 hd ht (fun q => kt q p l e s m args below meth c D cI ad0 A Qs C E ad H locs lsA hR hL) (fun q => kf q p l e s m args below meth c D cI ad0 A Qs C E ad H locs lsA hR hL)

theorem v_icmp_lt {x y : Int32} {off : Int} {tgt : Nat} (hd : DcAt M.2.1 pc (.if_icmp .lt off) 3 pc') (ht : (pc : Int) + off = (tgt : Int)) (kt : x < y → Vd R ex M n0 Z ca sl tgt ls (st) w) (kf : ¬ x < y → Vd R ex M n0 Z ca sl pc' ls (st) w) : Vd R ex M n0 Z ca sl pc ls (.int y :: .int x :: st) w := by
  intro p l e s m args below meth c D cI ad0 A Qs C E ad H locs lsA hR hL
  obtain ⟨hd, rfl⟩ := hd
  exact lv_icmp_lt C.1 C.2.1 hd ht (fun q => kt q p l e s m args below meth c D cI ad0 A Qs C E ad H locs lsA hR hL) (fun q => kf q p l e s m args below meth c D cI ad0 A Qs C E ad H locs lsA hR hL)

theorem v_icmp_ge {x y : Int32} {off : Int} {tgt : Nat} (hd : DcAt M.2.1 pc (.if_icmp .ge off) 3 pc') (ht : (pc : Int) + off = (tgt : Int)) (kt : y ≤ x → Vd R ex M n0 Z ca sl tgt ls (st) w) (kf : ¬ y ≤ x → Vd R ex M n0 Z ca sl pc' ls (st) w) : Vd R ex M n0 Z ca sl pc ls (.int y :: .int x :: st) w := by
  intro p l e s m args below meth c D cI ad0 A Qs C E ad H locs lsA hR hL
  obtain ⟨hd, rfl⟩ := hd
  exact lv_icmp_ge C.1 C.2.1 hd ht (fun q => kt q p l e s m args below meth c D cI ad0 A Qs C E ad H locs lsA hR hL) (fun q => kf q p l e s m args below meth c D cI ad0 A Qs C E ad H locs lsA hR hL)

theorem v_icmp_gt {x y : Int32} {off : Int} {tgt : Nat} (hd : DcAt M.2.1 pc (.if_icmp .gt off) 3 pc') (ht : (pc : Int) + off = (tgt : Int)) (kt : y < x → Vd R ex M n0 Z ca sl tgt ls (st) w) (kf : ¬ y < x → Vd R ex M n0 Z ca sl pc' ls (st) w) : Vd R ex M n0 Z ca sl pc ls (.int y :: .int x :: st) w := by
  intro p l e s m args below meth c D cI ad0 A Qs C E ad H locs lsA hR hL
  obtain ⟨hd, rfl⟩ := hd
  exact lv_icmp_gt C.1 C.2.1 hd ht (fun q => kt q p l e s m args below meth c D cI ad0 A Qs C E ad H locs lsA hR hL) (fun q => kf q p l e s m args below meth c D cI ad0 A Qs C E ad H locs lsA hR hL)

theorem v_icmp_le {x y : Int32} {off : Int} {tgt : Nat} (hd : DcAt M.2.1 pc (.if_icmp .le off) 3 pc') (ht : (pc : Int) + off = (tgt : Int)) (kt : x ≤ y → Vd R ex M n0 Z ca sl tgt ls (st) w) (kf : ¬ x ≤ y → Vd R ex M n0 Z ca sl pc' ls (st) w) : Vd R ex M n0 Z ca sl pc ls (.int y :: .int x :: st) w := by
  intro p l e s m args below meth c D cI ad0 A Qs C E ad H locs lsA hR hL
  obtain ⟨hd, rfl⟩ := hd
  exact lv_icmp_le C.1 C.2.1 hd ht (fun q => kt q p l e s m args below meth c D cI ad0 A Qs C E ad H locs lsA hR hL) (fun q => kf q p l e s m args below meth c D cI ad0 A Qs C E ad H locs lsA hR hL)

/-- the locals that are known, as the kit's list -/
def xl (ad : Nat → Nat) : Nat → List (Option Value) → List (Nat × Value)
  | _, [] => []
  | i, none :: r => xl ad (i + 1) r
  | i, some v :: r => (i, xv ad v) :: xl ad (i + 1) r
theorem xl_in {ad : Nat → Nat} : ∀ (ls : List (Option Value)) (i : Nat) (q : Nat × Value), q ∈ xl ad i ls → ∃ (k : Nat) (v : Value), ls[k]? = some (some v) ∧ q = (i + k, xv ad v)
  | [], i, q, h => by simp [xl] at h
  | none :: r, i, q, h => by
    obtain ⟨k, v, h1, h2⟩ := xl_in r (i + 1) q h
    exact ⟨k + 1, v, by simpa using h1, by rw [h2, show i + 1 + k = i + (k + 1) by omega]⟩
  | some v :: r, i, q, h => by
    rcases List.mem_cons.mp h with h | h
    · exact ⟨0, v, rfl, h⟩
    · obtain ⟨k, u, h1, h2⟩ := xl_in r (i + 1) q h
      exact ⟨k + 1, u, by simpa using h1, by rw [h2, show i + 1 + k = i + (k + 1) by omega]⟩
theorem xl_mem {ad : Nat → Nat} : ∀ (ls : List (Option Value)) (i k : Nat) (v : Value), ls[k]? = some (some v) → (i + k, xv ad v) ∈ xl ad i ls
  | [], i, k, v, h => by simp at h
  | a :: r, i, 0, v, h => by
    simp only [List.getElem?_cons_zero, Option.some.injEq] at h
    subst h
    exact List.mem_cons_self
  | a :: r, i, k + 1, v, h => by
    have h' : r[k]? = some (some v) := by simpa using h
    have := xl_mem (ad := ad) r (i + 1) k v h'
    rw [show i + 1 + k = i + (k + 1) by omega] at this
    cases a with
    | none => exact this
    | some u => exact List.mem_cons_of_mem _ this
theorem XL.has {lsA : Array Slot} {nL : Nat} {ad : Nat → Nat} {ls : List (Option Value)} (h : XL lsA nL ad ls) : lv_has lsA nL (xl ad 0 ls) := by
  refine ⟨h.1, h.2.1, fun q hq => ?_⟩
  obtain ⟨k, v, h1, h2⟩ := xl_in ls 0 q hq
  rw [h2]
  simpa using (h.2.2 k v h1).1
theorem XL.put {lsA lsB : Array Slot} {nL i : Nat} {ad : Nat → Nat} {ls : List (Option Value)} {v : Value} (h : XL lsA nL ad ls) (hc : v.category = 1) (hn : lv_has lsB nL ((i, xv ad v) :: (xl ad 0 ls).filter (fun q => !(q.1 == i) && !(q.1 + 1 == i && q.2.category == 2)))) : XL lsB nL ad (ls.set i (some v)) := by
  refine ⟨hn.1, hn.2.1, fun k u hk => ?_⟩
  rw [List.getElem?_set] at hk
  by_cases hik : i = k
  · subst hik
    by_cases hl : i < ls.length
    · simp only [hl, ite_true, Option.some.injEq] at hk
      subst hk
      exact ⟨hn.2.2 (i, xv ad v) List.mem_cons_self, hc⟩
    · simp [hl] at hk
  · simp only [hik, ite_false] at hk
    obtain ⟨-, hcu⟩ := h.2.2 k u hk
    refine ⟨hn.2.2 (k, xv ad u) (List.mem_cons_of_mem _ (List.mem_filter.mpr ⟨?_, ?_⟩)), hcu⟩
    · have := xl_mem (ad := ad) ls 0 k u hk
      simpa using this
    · have e1 : (k == i) = false := by simpa using Ne.symm hik
      have e2 : ((xv ad u).category == 2) = false := by rw [xv_cat, hcu]; rfl
      simp only [e1, e2, Bool.and_false, Bool.not_false, Bool.and_self]

theorem v_istore_n {i : Fin 4} {x : Int32} (hd : DcAt M.2.1 pc (.istore_n i) 1 pc') (hn : (i : Nat) < M.2.2.1) (k : Vd R ex M n0 Z ca sl pc' (ls.set (i : Nat) (some (.int x))) (st) w) : Vd R ex M n0 Z ca sl pc ls (.int x :: st) w := by
  intro p l e s m args below meth c D cI ad0 A Qs C E ad H locs lsA hR hL
  obtain ⟨hd, rfl⟩ := hd
  exact lv_istore_n C.1 C.2.1 hd rfl hL.has hn rfl (fun lsB hB => k p l e s m args below meth c D cI ad0 A Qs C E ad H locs lsB hR (hL.put rfl hB))

theorem v_istore {i : Nat} {x : Int32} (hd : DcAt M.2.1 pc (.istore i) 2 pc') (hn : i < M.2.2.1) (k : Vd R ex M n0 Z ca sl pc' (ls.set i (some (.int x))) (st) w) : Vd R ex M n0 Z ca sl pc ls (.int x :: st) w := by
  intro p l e s m args below meth c D cI ad0 A Qs C E ad H locs lsA hR hL
  obtain ⟨hd, rfl⟩ := hd
  exact lv_istore C.1 C.2.1 hd hL.has hn rfl (fun lsB hB => k p l e s m args below meth c D cI ad0 A Qs C E ad H locs lsB hR (hL.put rfl hB))

theorem v_astore_n {i : Fin 4} {x : Nat} (hd : DcAt M.2.1 pc (.astore_n i) 1 pc') (hn : (i : Nat) < M.2.2.1) (k : Vd R ex M n0 Z ca sl pc' (ls.set (i : Nat) (some (.ref x))) (st) w) : Vd R ex M n0 Z ca sl pc ls (.ref x :: st) w := by
  intro p l e s m args below meth c D cI ad0 A Qs C E ad H locs lsA hR hL
  obtain ⟨hd, rfl⟩ := hd
  exact lv_astore_n C.1 C.2.1 hd rfl hL.has hn rfl (fun lsB hB => k p l e s m args below meth c D cI ad0 A Qs C E ad H locs lsB hR (hL.put rfl hB))

theorem v_astore {i : Nat} {x : Nat} (hd : DcAt M.2.1 pc (.astore i) 2 pc') (hn : i < M.2.2.1) (k : Vd R ex M n0 Z ca sl pc' (ls.set i (some (.ref x))) (st) w) : Vd R ex M n0 Z ca sl pc ls (.ref x :: st) w := by
  intro p l e s m args below meth c D cI ad0 A Qs C E ad H locs lsA hR hL
  obtain ⟨hd, rfl⟩ := hd
  exact lv_astore C.1 C.2.1 hd hL.has hn rfl (fun lsB hB => k p l e s m args below meth c D cI ad0 A Qs C E ad H locs lsB hR (hL.put rfl hB))

theorem v_iinc {i : Nat} {n : Int} {x v : Int32} (hd : DcAt M.2.1 pc (.iinc i n) 3 pc') (hl : ls[i]? = some (some (.int x))) (hv : x + Int32.ofInt n = v) (hn : i < M.2.2.1) (k : Vd R ex M n0 Z ca sl pc' (ls.set i (some (.int v))) (st) w) : Vd R ex M n0 Z ca sl pc ls (st) w := by
  intro p l e s m args below meth c D cI ad0 A Qs C E ad H locs lsA hR hL
  obtain ⟨hd, rfl⟩ := hd
  have hm := xl_mem (ad := ad) ls 0 i (.int x) hl
  rw [Nat.zero_add] at hm
  obtain ⟨j, hj⟩ := List.getElem?_of_mem hm
  exact lv_iinc C.1 C.2.1 hd hL.has (k := j) hj hv hn rfl (fun lsB hB => k p l e s m args below meth c D cI ad0 A Qs C E ad H locs lsB hR (hL.put rfl hB))

theorem v_tableIn {dflt lo hi : Int} {offs : Array Int} {len : Nat} {x : Int32} {off : Int} {tgt : Nat} (hd : DcAt M.2.1 pc (.tableswitch dflt lo hi offs) len pc') (h1 : ¬ x.toInt < lo) (h2 : ¬ hi < x.toInt) (ho : offs[(x.toInt - lo).toNat]? = some off) (ht : (pc : Int) + off = (tgt : Int)) (k : Vd R ex M n0 Z ca sl tgt ls (st) w) : Vd R ex M n0 Z ca sl pc ls (.int x :: st) w := by
  intro p l e s m args below meth c D cI ad0 A Qs C E ad H locs lsA hR hL
  exact lv_tableIn C.1 C.2.1 hd.1 h1 h2 ho ht (k p l e s m args below meth c D cI ad0 A Qs C E ad H locs lsA hR hL)
theorem v_tableOut {dflt lo hi : Int} {offs : Array Int} {len : Nat} {x : Int32} {tgt : Nat} (hd : DcAt M.2.1 pc (.tableswitch dflt lo hi offs) len pc') (h : x.toInt < lo ∨ hi < x.toInt) (ht : (pc : Int) + dflt = (tgt : Int)) (k : Vd R ex M n0 Z ca sl tgt ls (st) w) : Vd R ex M n0 Z ca sl pc ls (.int x :: st) w := by
  intro p l e s m args below meth c D cI ad0 A Qs C E ad H locs lsA hR hL
  exact lv_tableOut C.1 C.2.1 hd.1 h ht (k p l e s m args below meth c D cI ad0 A Qs C E ad H locs lsA hR hL)
theorem v_lookup {dflt : Int} {ps : Array (Int × Int)} {len : Nat} {x : Int32} {off : Int} {tgt : Nat} (hd : DcAt M.2.1 pc (.lookupswitch dflt ps) len pc') (hp : (ps.toList.zip (ps.toList.drop 1)).all (fun (a, next) => a.1 < next.1) = true) (ho : Op.lookupswitch.offset ps.toList dflt x.toInt = off) (ht : (pc : Int) + off = (tgt : Int)) (k : Vd R ex M n0 Z ca sl tgt ls (st) w) : Vd R ex M n0 Z ca sl pc ls (.int x :: st) w := by
  intro p l e s m args below meth c D cI ad0 A Qs C E ad H locs lsA hR hL
  exact lv_lookup C.1 C.2.1 hd.1 hp ho ht (k p l e s m args below meth c D cI ad0 A Qs C E ad H locs lsA hR hL)

theorem v_ireturn {x : Int32} (hd : DcAt M.2.1 pc .ireturn 1 pc') (ht : M.2.2.2 = some .int ∨ (M.2.2.2 = some .boolean ∧ (x = 0 ∨ x = 1))) (hc : ca ≤ R.cells) (hs : sl ≤ R.slots) (hz : Z w (some (.int x))) : Vd R ex M n0 Z ca sl pc ls (.int x :: []) w := by
  intro p l e s m args below meth c D cI ad0 A Qs C E ad H locs lsA hR hL
  exact W.widen hc hs ((E w ad H locs lsA pc hR).1 x hd.1 ht hz)
theorem v_areturn {k : Nat} (hd : DcAt M.2.1 pc .areturn 1 pc') (ht : ∃ C, M.2.2.2 = some (.object C)) (hc : ca ≤ R.cells) (hs : sl ≤ R.slots) (hz : Z w (some (.ref k))) : Vd R ex M n0 Z ca sl pc ls (.ref k :: []) w := by
  intro p l e s m args below meth c D cI ad0 A Qs C E ad H locs lsA hR hL
  exact W.widen hc hs ((E w ad H locs lsA pc hR).2.1 k hd.1 ht hz)
theorem v_return (hd : DcAt M.2.1 pc .return_ 1 pc') (ht : M.2.2.2 = none) (hc : ca ≤ R.cells) (hs : sl ≤ R.slots) (hz : Z w none) : Vd R ex M n0 Z ca sl pc ls ([]) w := by
  intro p l e s m args below meth c D cI ad0 A Qs C E ad H locs lsA hR hL
  exact W.widen hc hs ((E w ad H locs lsA pc hR).2.2 hd.1 ht hz)

theorem XRep.sub {cI : ClassId} {D : va_G} {ad0 ad : Nat → Nat} {A : Nat → Prop} {n0 : Nat} {s : State} {w : XW} {H H1 : Heap} {locs locs1 : List Loc} {b : Nat} {e : XE} (h : XRep cI D ad0 ad A n0 s w H locs) (hP : va_P D vwCl (xw cI ad (w.set b e)) H1) (hD : va_D A (xw cI ad (w.set b e))) (hS : va_S A s.heap H1 locs1) : XRep cI D ad0 ad A n0 s (w.set b e) H1 locs1 :=
  ⟨h.1, by rw [List.length_set]; exact h.2.1, by rw [List.length_set]; exact h.2.2.1, hP, hD, hS⟩
theorem v_get {idx ci fk b : Nat} {ty : FieldType} {fin : Bool} {fs : List Value} {v : Value} (g : XG M.1.cls idx ci fk ty fin) (hd : DcAt M.2.1 pc (.getfield idx) 3 pc') (hw : w[b]? = some (.inr (ci, fs))) (hv : fs[fk]? = some v) (k : Vd R ex M n0 Z ca sl pc' ls (v :: st) w) : Vd R ex M n0 Z ca sl pc ls (.ref b :: st) w := by
  intro p l e s m args below meth c D cI ad0 A Qs C E ad H locs lsA hR hL
  obtain ⟨hd, rfl⟩ := hd
  obtain ⟨Cn, T, N, ty0, g1, g2, g3, g4, g5, g6, g7, g8⟩ := g
  obtain ⟨hx, hb, hml, hr, hlocks, hown, hts, hnm, hK, hA, hX⟩ := id C
  exact va_get (D := D) (ci := ci) (v := xv ad v) (C := Cn) (T := T) (N := N) hx hb hts g2 hown hK hR.2.2.2.1 b (xw_at hw) g1 fk g5 (hts _ g6) (fun _ h9 => h9) (by rw [List.getElem?_map, hv]; rfl) hd (k p l e s m args below meth c D cI ad0 A Qs C E ad H locs lsA hR hL)
theorem v_puti {idx ci fk b : Nat} {ty : FieldType} {fs : List Value} {x : Int32} (g : XG M.1.cls idx ci fk ty false) (hd : DcAt M.2.1 pc (.putfield idx) 3 pc') (hw : w[b]? = some (.inr (ci, fs))) (hl : fk < fs.length) (hn : narrow ty (.int x) = .int x) (hf : fits ty (.int x) = true) (k : Vd R ex M n0 Z ca sl pc' ls (st) (w.set b (.inr (ci, fs.set fk (.int x))))) : Vd R ex M n0 Z ca sl pc ls (.int x :: .ref b :: st) w := by
  intro p l e s m args below meth c D cI ad0 A Qs C E ad H locs lsA hR hL
  obtain ⟨hd, rfl⟩ := hd
  obtain ⟨Cn, T, N, ty0, g1, g2, g3, g4, g5, g6, g7, g8⟩ := g
  obtain ⟨hx, hb, hml, hr, hlocks, hown, hts, hnm, hK, hA, hX⟩ := id C
  refine va_put (D := D) (ci := ci) (v := .int x) (C := Cn) (T := T) (N := N) hx hb hts g2 ty0 g3 g4 hown hK hR.2.2.2.1 hR.2.2.2.2.1 hR.2.2.2.2.2 b (xw_at hw) g1 fk g5 (hts _ g6) (fun _ h9 => h9) g8 g7 hn hf (by rw [List.length_map]; exact hl) hd (fun H1 locs1 hP hD hS => ?_)
  have e1 : xw cI ad (w.set b (.inr (ci, fs.set fk (.int x)))) = (xw cI ad w).set b (ad b, .inr (ci, (fs.map (xv ad)).set fk (.int x))) := by rw [xw_set]; simp [xe, List.map_set, xv]
  exact k p l e s m args below meth c D cI ad0 A Qs C E ad H1 locs1 lsA (hR.sub (by rw [e1]; exact hP) (by rw [e1]; exact hD) hS) hL
theorem v_putF {idx ci fk b : Nat} {ty : FieldType} {fs : List Value} {v : Value} (g : XG M.1.cls idx ci fk ty true) (hown2 : ∀ q, vwCl[ci]? = some q → (q.2.1 fk).1 = M.1.cls) (hin : M.1.name = "<init>") (hd : DcAt M.2.1 pc (.putfield idx) 3 pc') (hw : w[b]? = some (.inr (ci, fs))) (hl : fk < fs.length) (hn : ∀ ad, narrow ty (xv ad v) = xv ad v) (hf : ∀ ad, fits ty (xv ad v) = true) (k : Vd R ex M n0 Z ca sl pc' ls (st) (w.set b (.inr (ci, fs.set fk v)))) : Vd R ex M n0 Z ca sl pc ls (v :: .ref b :: st) w := by
  intro p l e s m args below meth c D cI ad0 A Qs C E ad H locs lsA hR hL
  obtain ⟨hd, rfl⟩ := hd
  obtain ⟨Cn, T, N, ty0, g1, g2, g3, g4, g5, g6, g7, g8⟩ := g
  obtain ⟨hx, hb, hml, hr, hlocks, hown, hts, hnm, hK, hA, hX⟩ := id C
  refine va_putF (D := D) (ci := ci) (v := xv ad v) (C := Cn) (T := T) (N := N) hx hb hts g2 ty0 g3 g4 hown hK hR.2.2.2.1 hR.2.2.2.2.1 hR.2.2.2.2.2 b (xw_at hw) g1 fk g5 (hts _ g6) (fun _ h9 => h9) g8 (hnm.trans hin) (hown2 _ g1) g7 (hn ad) (hf ad) (by rw [List.length_map]; exact hl) hd (fun H1 locs1 hP hD hS => ?_)
  have e1 : xw cI ad (w.set b (.inr (ci, fs.set fk v))) = (xw cI ad w).set b (ad b, .inr (ci, (fs.map (xv ad)).set fk (xv ad v))) := by rw [xw_set]; simp [xe, List.map_set]
  exact k p l e s m args below meth c D cI ad0 A Qs C E ad H1 locs1 lsA (hR.sub (by rw [e1]; exact hP) (by rw [e1]; exact hD) hS) hL
theorem v_iaload {b N : Nat} {f : Nat → Int32} {i x : Int32} (hd : DcAt M.2.1 pc .iaload 1 pc') (hw : w[b]? = some (.inl (N, f))) (hi : vp_in i N) (hx : f i.toNatClampNeg = x) (k : Vd R ex M n0 Z ca sl pc' ls (.int x :: st) w) : Vd R ex M n0 Z ca sl pc ls (.int i :: .ref b :: st) w := by
  intro p l e s m args below meth c D cI ad0 A Qs C E ad H locs lsA hR hL
  obtain ⟨hd, rfl⟩ := hd
  subst hx
  obtain ⟨hx, hb, hml, hr, hlocks, hown, hts, hnm, hK, hA, hX⟩ := id C
  exact va_iald hx hb hK hR.2.2.2.1 b 0 (xw_at hw) rfl hi hd (k p l e s m args below meth c D cI ad0 A Qs C E ad H locs lsA hR hL)
theorem v_iastore {b N : Nat} {f : Nat → Int32} {i x : Int32} (hd : DcAt M.2.1 pc .iastore 1 pc') (hw : w[b]? = some (.inl (N, f))) (hi : vp_in i N) (k : Vd R ex M n0 Z ca sl pc' ls (st) (w.set b (.inl (N, upd f i.toNatClampNeg x)))) : Vd R ex M n0 Z ca sl pc ls (.int x :: .int i :: .ref b :: st) w := by
  intro p l e s m args below meth c D cI ad0 A Qs C E ad H locs lsA hR hL
  obtain ⟨hd, rfl⟩ := hd
  obtain ⟨hx, hb, hml, hr, hlocks, hown, hts, hnm, hK, hA, hX⟩ := id C
  refine va_iast hx hb hK hR.2.2.2.1 hR.2.2.2.2.1 hR.2.2.2.2.2 b 0 (xw_at hw) rfl hi hd (fun H1 locs1 hP hD hS => ?_)
  exact k p l e s m args below meth c D cI ad0 A Qs C E ad H1 locs1 lsA (hR.sub (by rw [xw_set]; exact hP) (by rw [xw_set]; exact hD) hS) hL
theorem v_alen {b N : Nat} {f : Nat → Int32} {v : Int32} (hd : DcAt M.2.1 pc .arraylength 1 pc') (hw : w[b]? = some (.inl (N, f))) (hv : Int32.ofNat N = v) (k : Vd R ex M n0 Z ca sl pc' ls (.int v :: st) w) : Vd R ex M n0 Z ca sl pc ls (.ref b :: st) w := by
  intro p l e s m args below meth c D cI ad0 A Qs C E ad H locs lsA hR hL
  obtain ⟨hd, rfl⟩ := hd
  obtain ⟨hx, hb, hml, hr, hlocks, hown, hts, hnm, hK, hA, hX⟩ := id C
  exact va_alen hx hb hK hR.2.2.2.1 b 0 (xw_at hw) rfl hv hd (k p l e s m args below meth c D cI ad0 A Qs C E ad H locs lsA hR hL)
theorem v_gets {idx j : Nat} {q : String × String} (hd : DcAt M.2.1 pc (.getstatic idx) 3 pc') (hl : Cond.fieldLink M.1.cls idx q.1 q.2 "[I" ∈ goodTB) (hj : ST[j]? = some q) (k : Vd R ex M n0 Z ca sl pc' ls (.ref (SB + j) :: st) w) : Vd R ex M n0 Z ca sl pc ls (st) w := by
  intro p l e s m args below meth c D cI ad0 A Qs C E ad H locs lsA hR hL
  obtain ⟨hd, rfl⟩ := hd
  obtain ⟨hx, hb, hml, hr, hlocks, hown, hts, hnm, hK, hA, hX⟩ := id C
  have e1 : ad (SB + j) = ad0 (SB + j) := hR.1 _ (Or.inr (Nat.le_add_right _ _))
  refine va_gets hx hb (hX.1 j q hj) hR.2.2.2.2.2 hown (hts _ hl) (fun _ h9 => h9) hd ?_
  have := k p l e s m args below meth c D cI ad0 A Qs C E ad H locs lsA hR hL
  simp only [List.map_cons, xv, e1] at this
  exact this
theorem v_sald {j N : Nat} {f : Nat → Int32} {i x : Int32} (hd : DcAt M.2.1 pc .iaload 1 pc') (hj : (RO0 ++ ex)[j]? = some (N, f)) (hi : vp_in i N) (hx : f i.toNatClampNeg = x) (k : Vd R ex M n0 Z ca sl pc' ls (.int x :: st) w) : Vd R ex M n0 Z ca sl pc ls (.int i :: .ref (SB + j) :: st) w := by
  intro p l e s m args below meth c D cI ad0 A Qs C E ad H locs lsA hR hL
  obtain ⟨hd, rfl⟩ := hd
  subst hx
  obtain ⟨hx, hb, hml, hr, hlocks, hown, hts, hnm, hK, hA, hX⟩ := id C
  have e1 : ad (SB + j) = ad0 (SB + j) := hR.1 _ (Or.inr (Nat.le_add_right _ _))
  have hT := hX.2.1 j (N, f) hj
  simp only [List.map_cons, xv, e1]
  exact va_ti (f := fun i => .int (f i)) hx hb hT hR.2.2.2.2.2 hi rfl hd (k p l e s m args below meth c D cI ad0 A Qs C E ad H locs lsA hR hL)
theorem v_slen {j N : Nat} {f : Nat → Int32} {v : Int32} (hd : DcAt M.2.1 pc .arraylength 1 pc') (hj : (RO0 ++ ex)[j]? = some (N, f)) (hv : Int32.ofNat N = v) (k : Vd R ex M n0 Z ca sl pc' ls (.int v :: st) w) : Vd R ex M n0 Z ca sl pc ls (.ref (SB + j) :: st) w := by
  intro p l e s m args below meth c D cI ad0 A Qs C E ad H locs lsA hR hL
  obtain ⟨hd, rfl⟩ := hd
  obtain ⟨hx, hb, hml, hr, hlocks, hown, hts, hnm, hK, hA, hX⟩ := id C
  have e1 : ad (SB + j) = ad0 (SB + j) := hR.1 _ (Or.inr (Nat.le_add_right _ _))
  have hT := hX.2.1 j (N, f) hj
  simp only [List.map_cons, xv, e1]
  exact va_tlen hx hb hT hR.2.2.2.2.2 hv hd (k p l e s m args below meth c D cI ad0 A Qs C E ad H locs lsA hR hL)

end VdRules
section VdCalls
theorem good_in {M : MI} (h : Cond.code M.1 M.2.1 M.2.2.1 M.2.2.2 ∈ goodTB) : GoodIn goodTB (xws M) := by
  intro w hw
  have hm : w ∈ goodTB := by
    rcases List.mem_cons.mp hw with rfl | h'
    · exact h
    · exact h'
  exact ⟨hm, good_of_word (List.mem_filter.mp hm).2⟩
theorem xpre_blind {cI : ClassId} {D : va_G} {ad : Nat → Nat} {sz : Nat} {w : XW} {av : List Value} : FrameBlind (va_Pc av (XPre cI D ad sz w)) := by
  intro a U g mk q
  obtain ⟨q0, q1, qP, qK, qD, ⟨qz, qt, qn⟩, qL⟩ := q
  exact ⟨q0, q1, qP, va_K.moved (u := U) (U := U.calling g mk a) (Vm.Alike.refl U.vm) qK, qD, ⟨fun j q h => va_Z.moved (u := U) (U := U.calling g mk a) (Vm.Alike.refl U.vm) (qz j q h), fun j q h => va_T.moved (u := U) (U := U.calling g mk a) (Vm.Alike.refl U.vm) (qt j q h), va_Nw.same rfl (u := U) (U := U.calling g mk a) rfl qn.1, va_Nw.same rfl (u := U) (U := U.calling g mk a) rfl qn.2⟩, qL⟩
set_option maxHeartbeats 4000000 in
theorem vr_call {p : Program} {l : Launch} {e : Env} {R : Room} {s : State} {m : MethodId} {args : Array Value} {below : List Frame} {meth : Method} {c : Code} {H : Heap} {locs : List Loc} {cells slots mc ms : Nat} {Q : State → Prop} {pc : Nat} {lsA : Array Slot} {st0 rest : List Value} {A0 A1 : Nat → Prop} {H0 : Heap} {free : Addr → Prop} {cI : ClassId} {D : va_G} {ad : Nat → Nat} {n : Nat} {Z : XW → Option Value → Prop}
    (hr : va_Run p l e R s m args below meth c H locs cells slots mc ms (F0 m pc lsA st0) rest (fun st oc t => XPost cI D ad A1 n Z st oc t) free) (hS : va_S A0 H0 H locs) (hA : ∀ q, A1 q → A0 q) (hf : ∀ q, free q → A0 q)
    (kk : ∀ (w' : XW) (r : Option Value) (ad' : Nat → Nat) (H1 : Heap) (locs1 : List Loc), Z w' r → ag n ad ad' → n ≤ w'.length → w'.length ≤ SB → va_P D vwCl (xw cI ad' w') H1 → va_D A0 (xw cI ad' w') → va_S A0 H0 H1 locs1 → W p l e R s m args below meth c H1 locs1 (cells + mc) (slots + ms) Q (F0 m (pc + 3) lsA ((r.map (xv ad')).toList ++ rest))) : W p l e R s m args below meth c H locs cells slots Q (F0 m pc lsA st0) := by
  intro T hT X
  obtain ⟨v, st₀, t, T', L, h0, X', hL, e1, e2, ⟨w', r, ad', z1, z2, z3, z4, z5, z6, z7, hz, hk⟩, st⟩ := hr T hT X
  cases z2
  rw [h0] at hz hk
  obtain ⟨t2, a1, b1⟩ := kk w' r ad' T'.heap (locs ++ L) z1 z3 z4 z5 (by rw [e1]; exact z6) (z7.weaken (fun _ _ _ h => hA _ h))
    ⟨Nat.le_trans hS.1 (by rw [e1]; exact hz), fun q h1 h2 => by rw [e1, hk q (Nat.lt_of_lt_of_le h1 hS.1) (fun z => h2 (hA q z))]; exact hS.2.1 q h1 h2, fun q hq => by
      rcases List.mem_append.mp hq with h | h
      · exact hS.2.2 q h
      · exact hf _ (hL q h)⟩ T' rfl X'
  exact ⟨t2, st t2 a1, b1⟩
variable {R R' : Room} {ex : List (Nat × (Nat → Int32))} {M M' : MI} {n0 : Nat} {Z Z' : XW → Option Value → Prop} {ca sl pc pc' idx np b : Nat} {ls : List (Option Value)} {As rest st : List Value} {w : XW}
/-- places that the locals and the stack name are in the world -/
def rkw (w : XW) (v : Value) : Bool := match v with
  | .ref k => decide (SB ≤ k) || (w[k]?).isSome
  | _ => true
def lok (w : XW) (ls : List (Option Value)) (rest : List Value) : Bool := ls.all (fun o => match o with
  | none => true
  | some v => rkw w v) && rest.all (rkw w)
theorem rkw_rk {w : XW} {v : Value} (h : rkw w v = true) : rk w.length v = true := by
  cases v with
  | ref k =>
    simp only [rkw, Bool.or_eq_true, decide_eq_true_eq] at h
    simp only [rk, Bool.or_eq_true, decide_eq_true_eq]
    rcases h with h | h
    · exact Or.inr h
    · refine Or.inl ?_
      cases hk : w[k]? with
      | none => rw [hk] at h; cases h
      | some e => exact (List.getElem?_eq_some_iff.mp hk).1
  | _ => rfl
theorem lok_rest {w : XW} {ls : List (Option Value)} {rest : List Value} (hl : lok w ls rest = true) : rest.all (rk w.length) = true := by
  simp only [lok, Bool.and_eq_true] at hl
  exact List.all_eq_true.mpr fun v hv => rkw_rk (List.all_eq_true.mp hl.2 v hv)
theorem XL.ag {lsA : Array Slot} {nL : Nat} {ad ad' : Nat → Nat} {ls : List (Option Value)} {rest : List Value} (h : XL lsA nL ad ls) (hg : ag w.length ad ad') (hl : lok w ls rest = true) : XL lsA nL ad' ls := by
  refine ⟨h.1, h.2.1, fun k v hk => ?_⟩
  simp only [lok, Bool.and_eq_true] at hl
  have h1 := List.all_eq_true.mp hl.1 _ (List.mem_of_getElem? hk)
  rw [xv_ag hg (rkw_rk h1)]
  exact h.2.2 k v hk
theorem cat_sum {ad : Nat → Nat} (l : List Value) : ((l.map (xv ad)).map fun v => v.category).sum = (l.map fun v => v.category).sum := by
  rw [List.map_map]
  exact congrArg List.sum (List.map_congr_left fun v _ => xv_cat)
theorem bmem {cI : ClassId} {ad : Nat → Nat} {A : Nat → Prop} {w : XW} {H0 H : Heap} {locs : List Loc} (hD : va_D A (xw cI ad w)) (hS : va_S A H0 H locs) (hA : ∀ q, H0.size ≤ q → A q) : ∀ q, va_A (xw cI ad w) H.size q → A q := by
  intro q h
  rcases h with ⟨k, e, h⟩ | h
  · exact hD.2 k (q, e) h
  · exact hA q (Nat.le_trans hS.1 h)
set_option maxHeartbeats 4000000 in
theorem v_callV {ci : Nat} {fs : List Value} (g : XV M.1.cls idx M' np) (hd : DcAt M.2.1 pc (.invokevirtual idx) 3 pc') (h : Sp R' M' (.ref b :: As) w Z') (hst : st = As.reverse ++ .ref b :: rest) (hnp : As.length = np) (hw : w[b]? = some (.inr (ci, fs))) (hcl : (vwCl[ci]?).map (fun q => q.1) = some M'.1.cls) (hro : R'.frames + 1 ≤ R.frames ∧ 8 + (M'.2.2.1 + 11) + R'.locals ≤ R.locals ∧ ca + R'.cells ≤ R.cells ∧ sl + R'.slots ≤ R.slots) (hrs : (rest.map fun v => v.category).sum ≤ 8) (hlok : lok w ls rest = true)
    (k : ∀ (w' : XW) (r : Option Value), Z' w' r → w.length ≤ w'.length → Vd R ex M n0 Z (ca + R'.cells) (sl + R'.slots) pc' ls (r.toList ++ rest) w') : Vd R ex M n0 Z ca sl pc ls st w := by
  intro p l e s m args below meth c D cI ad0 A Qs C E ad H locs lsA hR hL
  obtain ⟨hd, rfl⟩ := hd
  obtain ⟨g1, g2, g3, g4, g5, g6, g7, g8⟩ := g
  obtain ⟨hx, hb, hml, hr, hlocks, hown, hts, hnm, hK, hA, hX⟩ := id C
  obtain ⟨r1, r2, r3, hP, hD, hS⟩ := id hR
  subst hst
  obtain ⟨q, hq, hq2⟩ := Option.map_eq_some_iff.mp hcl
  have hG := good_in g6
  have hB := bmem hD hS hA
  have cb := callB_of (R := R) (own := M.1.cls) (index := idx) (y := M'.1) (bytes := M'.2.1) (maxL := M'.2.2.1) (ret := M'.2.2.2) (rm := R') np hts hG rfl rfl rfl (hts _ g5) (hts _ g4) ⟨g1, g2, g3⟩ ⟨hro.1, hro.2.1⟩
  refine vr_call (va_runV (As := As.map (xv ad)) (rest := rest.map (xv ad)) (C := M'.1.cls) (b := ad b) ⟨hx, hb, hml, hown, hts⟩ (h l D cI ad H.size) ⟨cb, hts _ g7, hts _ g8⟩ ⟨xpre_blind, ?_, ?_⟩ rfl (by rw [List.length_map]; exact hnp) hL.1 (by simp [xv]) (lv_room (by rw [cat_sum]; exact hrs)) hd ⟨hro.2.2.1, hro.2.2.2⟩) hS hB hB ?_
  · have := va_recv hK hP hq (xw_at hw)
    rw [hq2] at this
    exact this
  · intro U hU hW
    exact ⟨by simp [xv], by rw [hU], by rw [hU]; exact hP, va_K.moved hW.alike hK, hD.weaken (fun _ _ _ _ => trivial), (by
      have := hX.to hS hU hW hB
      have e1 : (fun j => ad (SB + j)) = (fun j => ad0 (SB + j)) := funext fun j => r1 _ (Or.inr (Nat.le_add_right _ _))
      rw [e1]; exact this), r3⟩
  · intro w' r ad' H1 locs1 z1 z2 z3 z4 z5 z6 z7
    have := k w' r z1 z3 p l e s m args below meth c D cI ad0 A Qs C E ad' H1 locs1 lsA ⟨r1.tr z2 r2, Nat.le_trans r2 z3, z4, z5, z6, z7⟩ (hL.ag z2 hlok)
    rw [List.map_append, xvs_ag z2 (lok_rest hlok)] at this
    have e2 : r.toList.map (xv ad') = (r.map (xv ad')).toList := by cases r <;> rfl
    rw [e2] at this
    exact this
set_option maxHeartbeats 4000000 in
theorem v_callS (g : XT M.1.cls idx M' np) (hd : DcAt M.2.1 pc (.invokestatic idx) 3 pc') (h : Sp R' M' As w Z') (hst : st = As.reverse ++ rest) (hnp : As.length = np) (hro : R'.frames + 1 ≤ R.frames ∧ 8 + (M'.2.2.1 + 11) + R'.locals ≤ R.locals ∧ ca + R'.cells ≤ R.cells ∧ sl + R'.slots ≤ R.slots) (hrs : (rest.map fun v => v.category).sum ≤ 8) (hlok : lok w ls rest = true)
    (k : ∀ (w' : XW) (r : Option Value), Z' w' r → w.length ≤ w'.length → Vd R ex M n0 Z (ca + R'.cells) (sl + R'.slots) pc' ls (r.toList ++ rest) w') : Vd R ex M n0 Z ca sl pc ls st w := by
  intro p l e s m args below meth c D cI ad0 A Qs C E ad H locs lsA hR hL
  obtain ⟨hd, rfl⟩ := hd
  obtain ⟨g1, g2, g3, g4, g5, g6, g7⟩ := g
  obtain ⟨hx, hb, hml, hr, hlocks, hown, hts, hnm, hK, hA, hX⟩ := id C
  obtain ⟨r1, r2, r3, hP, hD, hS⟩ := id hR
  subst hst
  have hG := good_in g6
  have hB := bmem hD hS hA
  have cb := callB_of (R := R) (own := M.1.cls) (index := idx) (y := M'.1) (bytes := M'.2.1) (maxL := M'.2.2.1) (ret := M'.2.2.2) (rm := R') np hts hG rfl rfl rfl (hts _ g5) (hts _ g4) ⟨g1, g2, g3⟩ ⟨hro.1, hro.2.1⟩
  refine vr_call (va_runS (As := As.map (xv ad)) (rest := rest.map (xv ad)) ⟨hx, hb, hml, hown, hts⟩ (h l D cI ad H.size) ⟨cb, hts _ g7⟩ ⟨xpre_blind, ?_⟩ rfl (by rw [List.length_map]; exact hnp) hL.1 (by simp [xv]) (lv_room (by rw [cat_sum]; exact hrs)) hd ⟨hro.2.2.1, hro.2.2.2⟩) hS hB hB ?_
  · intro U hU hW
    exact ⟨rfl, by rw [hU], by rw [hU]; exact hP, va_K.moved hW.alike hK, hD.weaken (fun _ _ _ _ => trivial), (by
      have := hX.to hS hU hW hB
      have e1 : (fun j => ad (SB + j)) = (fun j => ad0 (SB + j)) := funext fun j => r1 _ (Or.inr (Nat.le_add_right _ _))
      rw [e1]; exact this), r3⟩
  · intro w' r ad' H1 locs1 z1 z2 z3 z4 z5 z6 z7
    have := k w' r z1 z3 p l e s m args below meth c D cI ad0 A Qs C E ad' H1 locs1 lsA ⟨r1.tr z2 r2, Nat.le_trans r2 z3, z4, z5, z6, z7⟩ (hL.ag z2 hlok)
    rw [List.map_append, xvs_ag z2 (lok_rest hlok)] at this
    have e2 : r.toList.map (xv ad') = (r.map (xv ad')).toList := by cases r <;> rfl
    rw [e2] at this
    exact this
set_option maxHeartbeats 4000000 in
theorem v_callI (g : XI M.1.cls idx M' np) (hd : DcAt M.2.1 pc (.invokespecial idx) 3 pc') (hret : M'.2.2.2 = none) (h : Sp R' M' (.ref b :: As) w Z') (hst : st = As.reverse ++ .ref b :: rest) (hnp : As.length = np) (hro : R'.frames + 1 ≤ R.frames ∧ 8 + (M'.2.2.1 + 11) + R'.locals ≤ R.locals ∧ ca + R'.cells ≤ R.cells ∧ sl + R'.slots ≤ R.slots) (hrs : (rest.map fun v => v.category).sum ≤ 8) (hlok : lok w ls rest = true)
    (k : ∀ (w' : XW) (r : Option Value), Z' w' r → w.length ≤ w'.length → Vd R ex M n0 Z (ca + R'.cells) (sl + R'.slots) pc' ls (r.toList ++ rest) w') : Vd R ex M n0 Z ca sl pc ls st w := by
  intro p l e s m args below meth c D cI ad0 A Qs C E ad H locs lsA hR hL
  obtain ⟨hd, rfl⟩ := hd
  obtain ⟨g1, g2, g3, g4, g5, g6, g7, g8⟩ := g
  obtain ⟨hx, hb, hml, hr, hlocks, hown, hts, hnm, hK, hA, hX⟩ := id C
  obtain ⟨r1, r2, r3, hP, hD, hS⟩ := id hR
  subst hst
  have hG := good_in g6
  have hB := bmem hD hS hA
  have cb := callB_of (R := R) (own := M.1.cls) (index := idx) (y := M'.1) (bytes := M'.2.1) (maxL := M'.2.2.1) (ret := M'.2.2.2) (rm := R') np hts hG rfl rfl rfl (hts _ g5) (hts _ g4) ⟨g1, g2, g3⟩ ⟨hro.1, hro.2.1⟩
  rw [hret] at cb
  refine vr_call (va_runI (As := As.map (xv ad)) (rest := rest.map (xv ad)) (b := ad b) ⟨hx, hb, hml, hown, hts⟩ (h l D cI ad H.size) ⟨cb, g8, hts _ g7⟩ ⟨xpre_blind, ?_⟩ rfl (by rw [List.length_map]; exact hnp) hL.1 (by simp [xv]) (lv_room (by rw [cat_sum]; exact hrs)) hd ⟨hro.2.2.1, hro.2.2.2⟩) hS hB hB ?_
  · intro U hU hW
    exact ⟨by simp [xv], by rw [hU], by rw [hU]; exact hP, va_K.moved hW.alike hK, hD.weaken (fun _ _ _ _ => trivial), (by
      have := hX.to hS hU hW hB
      have e1 : (fun j => ad (SB + j)) = (fun j => ad0 (SB + j)) := funext fun j => r1 _ (Or.inr (Nat.le_add_right _ _))
      rw [e1]; exact this), r3⟩
  · intro w' r ad' H1 locs1 z1 z2 z3 z4 z5 z6 z7
    have := k w' r z1 z3 p l e s m args below meth c D cI ad0 A Qs C E ad' H1 locs1 lsA ⟨r1.tr z2 r2, Nat.le_trans r2 z3, z4, z5, z6, z7⟩ (hL.ag z2 hlok)
    rw [List.map_append, xvs_ag z2 (lok_rest hlok)] at this
    have e2 : r.toList.map (xv ad') = (r.map (xv ad')).toList := by cases r <;> rfl
    rw [e2] at this
    exact this
theorem v_objInit (hd : DcAt M.2.1 pc (.invokespecial idx) 3 pc') (hl : Cond.methodLink M.1.cls idx objectInit ∈ goodTB) (hro : 1 ≤ R.frames ∧ 20 ≤ R.locals) (hrs : (rest.map fun v => v.category).sum ≤ 8) (k : Vd R ex M n0 Z ca sl pc' ls rest w) : Vd R ex M n0 Z ca sl pc ls (.ref b :: rest) w := by
  intro p l e s m args below meth c D cI ad0 A Qs C E ad H locs lsA hR hL
  obtain ⟨hd, rfl⟩ := hd
  obtain ⟨hx, hb, hml, hr, hlocks, hown, hts, hnm, hK, hA, hX⟩ := id C
  refine W.objInit hx hb hown (hts _ hl) (hts _ oi_inst) (hts _ oi_code) rfl (by rw [hml]; exact hL.1) rfl hd hro.1 ?_ (k p l e s m args below meth c D cI ad0 A Qs C E ad H locs lsA hR hL)
  have := lv_room (m := m) (pc := pc) (ls := lsA) (rest := []) (st := rest.map (xv ad)) (by rw [cat_sum]; exact hrs)
  have h2 := hro.2
  exact Nat.le_trans (Nat.add_le_add_right this 12) h2
end VdCalls
