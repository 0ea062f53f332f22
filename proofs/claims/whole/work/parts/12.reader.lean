/-! Reader: its methods path by path (printed by wip/tools/gen_c2.py) -/
theorem bxr7 {a : Int} (ha : -2147483648 ≤ a ∧ a < 2147483648) : bxr a 7 < 0 ↔ a < 0 := by
  have h1 : ((iI a ^^^ iI 7).toBitVec).msb = (iI a).toBitVec.msb := by
    rw [Int32.toBitVec_xor, BitVec.msb_xor, show (iI 7).toBitVec.msb = false by decide, Bool.xor_false]
  rw [BitVec.msb_eq_toInt, BitVec.msb_eq_toInt, decide_eq_decide] at h1
  have h2 : (iI a).toBitVec.toInt = a := iI_toInt ha
  rw [h2] at h1
  exact h1
theorem td7 (a : Int) : (0 ≤ a → a.tdiv 7 = a / 7 ∧ a.tmod 7 = a % 7) ∧ (a < 0 → a.tdiv 7 = -((-a) / 7) ∧ a.tmod 7 = -((-a) % 7)) := by
  refine ⟨fun h => ⟨Int.tdiv_eq_ediv_of_nonneg h, Int.tmod_eq_emod_of_nonneg h⟩, fun h => ?_⟩
  have h1 := Int.neg_tdiv (-a) 7
  have h2 := Int.neg_tmod (-a) 7
  rw [Int.neg_neg] at h1 h2
  rw [h1, h2, Int.tdiv_eq_ediv_of_nonneg (by omega), Int.tmod_eq_emod_of_nonneg (by omega)]
  exact ⟨rfl, rfl⟩
set_option maxHeartbeats 4000000 in
/-- the same for a method of the JDK that the machine has no entry for -/
theorem sp_ofJ {R : Room} {M : MI} {av : List Value} {w : XW} {Z : XW → Option Value → Prop} {ls : List (Option Value)} (hy : plainFor M.1 = true) (hl : av.length ≤ M.2.2.1) (hc : av.all (fun v => decide (v.category = 1)) = true) (hls : ls = en M.2.2.1 av) (k : Vd R [] M w.length Z 0 0 0 ls [] w) : Sp R M av w Z := by
  intro l D cI ad sz
  refine va_MetF (cc := M.2.1) (maxL := M.2.2.1) (ret := M.2.2.2) hy rfl ?_
  intro p e s m args below meth c s₁ B hml hv
  obtain ⟨rfl, hsz, hP, hK, hD0, hX, hlen⟩ := hv
  have hts := atoms_spec (ws := xws M) B.pre
  have hown : s.vm.findClass M.1.cls = some m.cls := findClass_of_methodNamed B.named
  have hin : meth.name = M.1.name := (name_of_methodNamed B.named B.method).1
  subst hsz
  have hD := hD0.self (sz := s.heap.size)
  have hA : ∀ q : Nat, s.heap.size ≤ q → va_A (xw cI ad w) s.heap.size q := fun q h => Or.inr h
  have hcat : ∀ v ∈ av, v.category = 1 := fun v hv => by simpa using List.all_eq_true.mp hc v hv
  have hcat' : ∀ v ∈ av.map (xv ad), v.category = 1 := by
    intro v hv
    obtain ⟨u, hu, rfl⟩ := List.mem_map.mp hv
    rw [xv_cat]; exact hcat u hu
  have hL := lv_entry (av.map (xv ad)) (n := M.2.2.1) (by rw [lg_sl_len hcat', List.length_map]; exact hl)
  rw [lg_entry_eq]
  refine k p l e s m _ below meth c D cI ad (va_A (xw cI ad w) s.heap.size) _ ⟨B.exec, B.bytes, hml, B.returns, B.notSynchronized, hown, fun w hw => hts w (List.mem_cons_of_mem _ hw), hin, hK, hA, hX⟩ ?_ ad s.heap [] _ ⟨ag.rf, Nat.le_refl _, hlen, hP, hD, va_S.rf⟩ ⟨hL.1, hL.2.1, ?_⟩
  · intro w' ad' H locs lsA pc hR
    obtain ⟨r1, r2, r3, r4, r5, r6⟩ := hR
    have fin : ∀ (r : Option Value), Z w' r → ∀ t : State, t.heap = H → s.WarmedH t.vm → XPost cI D ad (va_A (xw cI ad w) s.heap.size) w.length Z s (.returned (r.map (xv ad'))) t := fun r hz t ht hW => ⟨w', r, ad', hz, rfl, r1, r2, r3, by rw [ht]; exact r4, r5, r6.F ht⟩
    refine ⟨fun x hd hret hz => ?_, fun q hd hret hz => ?_, fun hd hret hz => ?_⟩
    · rcases hret with hret | ⟨hret, hx⟩
      · exact W.zret (ty := .int) B.exec B.bytes (B.returns.trans hret) rfl (fun t ht hW => fin (some (.int x)) hz t ht hW) r6.2.2 hd
      · exact W.zret (ty := .boolean) B.exec B.bytes (B.returns.trans hret) (by rcases hx with rfl | rfl <;> decide) (fun t ht hW => fin (some (.int x)) hz t ht hW) r6.2.2 hd
    · obtain ⟨C, hC⟩ := hret
      exact W.aret B.exec B.bytes (B.returns.trans hC) (Or.inl ⟨C, rfl⟩) (Or.inr ⟨_, rfl⟩) (fun t ht hW => fin (some (.ref q)) hz t ht hW) r6.2.2 hd
    · exact W.vret B.exec B.bytes (B.returns.trans hret) (fun t ht hW => fin none hz t ht hW) r6.2.2 hd
  · intro j v hj
    rw [hls] at hj
    have hjl : j < av.length ∧ av[j]? = some v := by
      unfold en at hj
      by_cases h : j < av.length
      · rw [List.getElem?_append_left (by simpa using h), List.getElem?_map] at hj
        refine ⟨h, ?_⟩
        cases hv : av[j]? with
        | none => rw [hv] at hj; simp at hj
        | some u => rw [hv] at hj; simp at hj; rw [hj]
      · rw [List.getElem?_append_right (by simpa using h)] at hj
        have := List.mem_of_getElem? hj
        simp at this
    refine ⟨hL.2.2 (j, xv ad v) ?_, hcat v (List.mem_of_getElem? hjl.2)⟩
    have := lv_args_cat hcat' 0 j (xv ad v) (by rw [List.getElem?_map, hjl.2]; rfl)
    simpa using this
def scI : Int → Int := tI [0, 2, 4, 5, 7, 9, 11]
theorem sc_tab {a : Int} (h : 0 ≤ a ∧ a < 7) : tF tScale a.toNat = iI (scI a) := by
  have key : ∀ n : Nat, n < 7 → tF tScale n = iI (([0, 2, 4, 5, 7, 9, 11] : List Int).getD n 0) := by decide
  exact key a.toNat (by omega)
set_option maxRecDepth 100000 in
set_option maxHeartbeats 4000000 in
theorem k_floorMod {w : XW} {a : Int} (ha : -2147483648 < a ∧ a < 2147483648) : Sd (rm 0 0 0 0) mJ9_floorMod_7cf53 [J a, J 7] (w) (w) (some (J (a % 7))) := by
  unfold Sd
  have hm : (a < 0 ∧ a.tmod 7 ≠ 0 → a.tmod 7 + 7 = a % 7) ∧ (¬ (a < 0 ∧ a.tmod 7 ≠ 0) → a.tmod 7 = a % 7) := by have := td7 a; omega
  refine sp_ofJ (ls := [some (J a), some (J 7), none]) (by decide +kernel) (nle rfl) rfl rfl ?_
  refine v_iload_n (dec_of DJ9_floorMod_7cf53 0 rfl) rfl ?_
  refine v_iload_n (dec_of DJ9_floorMod_7cf53 1 rfl) rfl ?_
  refine vi_rem (by first | omega | exact bxr_r _ _ | exact bnd_r _ _) (by first | omega | exact bxr_r _ _ | exact bnd_r _ _) (dec_of DJ9_floorMod_7cf53 2 rfl) ?_
  refine v_istore_n (dec_of DJ9_floorMod_7cf53 3 rfl) (by decide) ?_
  dsimp only [List.set]
  refine v_iload_n (dec_of DJ9_floorMod_7cf53 4 rfl) rfl ?_
  refine v_iload_n (dec_of DJ9_floorMod_7cf53 5 rfl) rfl ?_
  refine vi_xor (dec_of DJ9_floorMod_7cf53 6 rfl) ?_
  refine vi_if_ge (tgt := 18) (dec_of DJ9_floorMod_7cf53 7 rfl) (by decide) (by first | omega | exact bxr_r _ _ | exact bnd_r _ _) (fun c7 => ?_) (fun c7 => ?_)
  · refine v_iload_n (dec_of DJ9_floorMod_7cf53 14 rfl) rfl ?_
    exact vi_ret (dec_of DJ9_floorMod_7cf53 15 rfl) rfl ⟨by decide, by decide⟩ (⟨rfl, by rw [hm.2 (by have := bxr7 (a := a) (by omega); omega)]⟩)
  · refine v_iload_n (dec_of DJ9_floorMod_7cf53 8 rfl) rfl ?_
    refine vi_if_eq (tgt := 18) (dec_of DJ9_floorMod_7cf53 9 rfl) (by decide) (by first | omega | exact bxr_r _ _ | exact bnd_r _ _) (fun c11 => ?_) (fun c11 => ?_)
    · refine v_iload_n (dec_of DJ9_floorMod_7cf53 14 rfl) rfl ?_
      exact vi_ret (dec_of DJ9_floorMod_7cf53 15 rfl) rfl ⟨by decide, by decide⟩ (⟨rfl, by rw [hm.2 (by have := bxr7 (a := a) (by omega); omega)]⟩)
    · refine v_iload_n (dec_of DJ9_floorMod_7cf53 10 rfl) rfl ?_
      refine v_iload_n (dec_of DJ9_floorMod_7cf53 11 rfl) rfl ?_
      refine vi_add (dec_of DJ9_floorMod_7cf53 12 rfl) ?_
      exact vi_ret (dec_of DJ9_floorMod_7cf53 13 rfl) rfl ⟨by decide, by decide⟩ (⟨rfl, by rw [hm.1 (by have := bxr7 (a := a) (by omega); omega)]⟩)
set_option maxRecDepth 100000 in
set_option maxHeartbeats 4000000 in
theorem k_floorDiv {w : XW} {a : Int} (ha : -2147483648 < a ∧ a < 2147483648) : Sd (rm 0 0 0 0) mJ9_floorDiv_7cf53 [J a, J 7] (w) (w) (some (J (a / 7))) := by
  unfold Sd
  have hm : (a < 0 ∧ a.tdiv 7 * 7 ≠ a → a.tdiv 7 - 1 = a / 7) ∧ (¬ (a < 0 ∧ a.tdiv 7 * 7 ≠ a) → a.tdiv 7 = a / 7) := by have := td7 a; omega
  refine sp_ofJ (ls := [some (J a), some (J 7), none]) (by decide +kernel) (nle rfl) rfl rfl ?_
  refine v_iload_n (dec_of DJ9_floorDiv_7cf53 0 rfl) rfl ?_
  refine v_iload_n (dec_of DJ9_floorDiv_7cf53 1 rfl) rfl ?_
  refine vi_div (by first | omega | exact bxr_r _ _ | exact bnd_r _ _) (by first | omega | exact bxr_r _ _ | exact bnd_r _ _) (dec_of DJ9_floorDiv_7cf53 2 rfl) ?_
  refine v_istore_n (dec_of DJ9_floorDiv_7cf53 3 rfl) (by decide) ?_
  dsimp only [List.set]
  refine v_iload_n (dec_of DJ9_floorDiv_7cf53 4 rfl) rfl ?_
  refine v_iload_n (dec_of DJ9_floorDiv_7cf53 5 rfl) rfl ?_
  refine vi_xor (dec_of DJ9_floorDiv_7cf53 6 rfl) ?_
  refine vi_if_ge (tgt := 21) (dec_of DJ9_floorDiv_7cf53 7 rfl) (by decide) (by first | omega | exact bxr_r _ _ | exact bnd_r _ _) (fun c7 => ?_) (fun c7 => ?_)
  · refine v_iload_n (dec_of DJ9_floorDiv_7cf53 17 rfl) rfl ?_
    exact vi_ret (dec_of DJ9_floorDiv_7cf53 18 rfl) rfl ⟨by decide, by decide⟩ (⟨rfl, by rw [hm.2 (by have := bxr7 (a := a) (by omega); omega)]⟩)
  · refine v_iload_n (dec_of DJ9_floorDiv_7cf53 8 rfl) rfl ?_
    refine v_iload_n (dec_of DJ9_floorDiv_7cf53 9 rfl) rfl ?_
    refine vi_mul (dec_of DJ9_floorDiv_7cf53 10 rfl) ?_
    refine v_iload_n (dec_of DJ9_floorDiv_7cf53 11 rfl) rfl ?_
    refine vi_icmp_eq (tgt := 21) (dec_of DJ9_floorDiv_7cf53 12 rfl) (by decide) (by first | omega | exact bxr_r _ _ | exact bnd_r _ _) (by first | omega | exact bxr_r _ _ | exact bnd_r _ _) (fun c14 => ?_) (fun c14 => ?_)
    · refine v_iload_n (dec_of DJ9_floorDiv_7cf53 17 rfl) rfl ?_
      exact vi_ret (dec_of DJ9_floorDiv_7cf53 18 rfl) rfl ⟨by decide, by decide⟩ (⟨rfl, by rw [hm.2 (by have := bxr7 (a := a) (by omega); omega)]⟩)
    · refine v_iload_n (dec_of DJ9_floorDiv_7cf53 13 rfl) rfl ?_
      refine vi_const (dec_of DJ9_floorDiv_7cf53 14 rfl) ?_
      refine vi_sub (dec_of DJ9_floorDiv_7cf53 15 rfl) ?_
      exact vi_ret (dec_of DJ9_floorDiv_7cf53 16 rfl) rfl ⟨by decide, by decide⟩ (⟨rfl, by rw [hm.1 (by have := bxr7 (a := a) (by omega); omega)]⟩)
set_option maxRecDepth 100000 in
set_option maxHeartbeats 4000000 in
theorem k_semitonesOf {w : XW} {a : Int} (ha : -1000000 < a ∧ a < 1000000) : Sd (rm 1 22 0 0) mX2_semitonesOf [J a] (w) (w) (some (J (12 * (a / 7) + scI (a % 7)))) := by
  unfold Sd
  refine sp_of (ls := [some (J a), none, none, none]) (by decide) (nle rfl) rfl rfl ?_
  refine v_iload_n (dec_of DX2_semitonesOf 0 rfl) rfl ?_
  refine vi_bi (dec_of DX2_semitonesOf 1 rfl) (by decide) ?_
  refine v_S2r (k_floorMod (by omega)) lX2_178 (dec_of DX2_semitonesOf 2 rfl) (by decide) (nle rfl) rfl ?_
  refine v_istore_n (dec_of DX2_semitonesOf 3 rfl) (by decide) ?_
  dsimp only [List.set]
  refine v_iload_n (dec_of DX2_semitonesOf 4 rfl) rfl ?_
  refine vi_bi (dec_of DX2_semitonesOf 5 rfl) (by decide) ?_
  refine v_S2r (k_floorDiv (by omega)) lX2_183 (dec_of DX2_semitonesOf 6 rfl) (by decide) (nle rfl) rfl ?_
  refine v_istore_n (dec_of DX2_semitonesOf 7 rfl) (by decide) ?_
  dsimp only [List.set]
  refine v_iload_n (dec_of DX2_semitonesOf 8 rfl) rfl ?_
  refine vi_if_lt (tgt := 34) (dec_of DX2_semitonesOf 9 rfl) (by decide) (by first | omega | exact bnd_r _ _ | exact hF _ _ | exact hI _ | exact hG _ _ | exact hK _ | (simp [uN] <;> omega)) (fun c15 => absurd c15 (by omega)) (fun c15 => ?_)
  refine v_iload_n (dec_of DX2_semitonesOf 10 rfl) rfl ?_
  refine v_gets (j := 0) (q := ("ChantNeumes$Reader", "SCALE")) (dec_of DX2_semitonesOf 11 rfl) sX2_186 rfl ?_
  refine vi_slen (dec_of DX2_semitonesOf 12 rfl) rfl ?_
  refine vi_icmp_ge (tgt := 34) (dec_of DX2_semitonesOf 13 rfl) (by decide) (by first | omega | exact bnd_r _ _ | exact hF _ _ | exact hI _ | exact hG _ _ | exact hK _ | (simp [uN] <;> omega)) (by first | omega | exact bnd_r _ _ | exact hF _ _ | exact hI _ | exact hG _ _ | exact hK _ | (simp [uN] <;> omega)) (fun c23 => absurd c23 (by omega)) (fun c23 => ?_)
  refine v_gets (j := 0) (q := ("ChantNeumes$Reader", "SCALE")) (dec_of DX2_semitonesOf 14 rfl) sX2_186 rfl ?_
  refine v_iload_n (dec_of DX2_semitonesOf 15 rfl) rfl ?_
  refine vi_sald (dec_of DX2_semitonesOf 16 rfl) rfl (by first | omega | exact bnd_r _ _ | exact hF _ _ | exact hI _ | exact hG _ _ | exact hK _ | (simp [uN] <;> omega)) (by decide) (sc_tab (by omega)) ?_
  refine v_goto (tgt := 35) (dec_of DX2_semitonesOf 17 rfl) (by decide) ?_
  refine v_istore_n (dec_of DX2_semitonesOf 19 rfl) (by decide) ?_
  dsimp only [List.set]
  refine vi_bi (dec_of DX2_semitonesOf 20 rfl) (by decide) ?_
  refine v_iload_n (dec_of DX2_semitonesOf 21 rfl) rfl ?_
  refine vi_mul (dec_of DX2_semitonesOf 22 rfl) ?_
  refine v_iload_n (dec_of DX2_semitonesOf 23 rfl) rfl ?_
  refine vi_add (dec_of DX2_semitonesOf 24 rfl) ?_
  exact vi_ret (dec_of DX2_semitonesOf 25 rfl) rfl ⟨by decide, by decide⟩ (⟨rfl, rfl⟩)
def bgF (N : Nat → Int) (F : Nat → Int → Int) (wd : Int) : Nat → Int → Int := uN F 3 (uI (uI (uI (adf (F 3) 9 (N 3) wd) (N 3 * 9 + 5) (-100)) (N 3 * 9 + 6) (N 2)) (N 3 * 9 + 7) (N 8))
theorem bgF_r {N : Nat → Int} {F : Nat → Int → Int} (hF : FR F) {wd : Int} (hw : -2000 ≤ wd ∧ wd ≤ 2000) (hN : (0 ≤ N 0 ∧ N 0 ≤ 1500) ∧ (0 ≤ N 1 ∧ N 1 ≤ 1500) ∧ (0 ≤ N 2 ∧ N 2 ≤ 1500) ∧ (0 ≤ N 3 ∧ N 3 ≤ 60) ∧ (0 ≤ N 4 ∧ N 4 ≤ 150) ∧ (0 ≤ N 5 ∧ N 5 ≤ 150) ∧ (0 ≤ N 6 ∧ N 6 ≤ 30) ∧ (0 ≤ N 7 ∧ N 7 ≤ 20) ∧ (0 ≤ N 8 ∧ N 8 ≤ 260) ∧ (0 ≤ N 9 ∧ N 9 ≤ 6) ∧ (0 ≤ N 10 ∧ N 10 ≤ 40) ∧ (0 ≤ N 11 ∧ N 11 ≤ 40) ∧ (0 ≤ N 12 ∧ N 12 ≤ 41)) : FR (bgF N F wd) :=
  hF.up (uI_r (uI_r (uI_r (adf_r (hF 3) (by omega)) (by omega)) (by omega)) (by omega))
def ltF (N : Nat → Int) (F : Nat → Int → Int) (b : Int) : Nat → Int → Int := uN (uN F 2 (uI (F 2) (N 2) b)) 3 (if b = 39 then uI (uI (F 3) ((N 3 - 1) * 9 + 1) (F 3 ((N 3 - 1) * 9 + 1) + 1)) ((N 3 - 1) * 9 + 2) 1 else uI (F 3) ((N 3 - 1) * 9 + 1) (F 3 ((N 3 - 1) * 9 + 1) + 1))
set_option maxRecDepth 100000 in
set_option maxHeartbeats 4000000 in
theorem k_begin_full {T : XW} {I N : Nat → Int} {F : Nat → Int → Int} (hF : FR F) (hI : IR I) (hN : NR N) {p : Int} (h3 : 60 ≤ N 3) : Sd (rm 1 24 0 0) mX2_beginSyllable [.ref 20, J p] (cls I N F ++ T) (cls (uN (uN I 3 2) 4 p) N F ++ T) (some (J 0)) := by
  unfold Sd
  unfold NR at hN
  refine sp_of (ls := [some (.ref 20), some (J p), none]) (by decide) (nle rfl) rfl rfl ?_
  refine v_aload_n (dec_of DX2_beginSyllable 0 rfl) rfl ?_
  refine v_get fX2_9 (dec_of DX2_beginSyllable 1 rfl) rfl rfl ?_
  refine v_get fX2_106 (dec_of DX2_beginSyllable 2 rfl) rfl rfl ?_
  refine v_V0r (c3_full (by first | omega | exact bnd_r _ _ | exact hF _ _ | exact hI _ | exact hG _ _ | exact hK _ | (simp [uN] <;> omega))) lX2_115 (dec_of DX2_beginSyllable 3 rfl) rfl rfl (by decide) (nle rfl) rfl ?_
  refine vi_if_eq (tgt := 21) (dec_of DX2_beginSyllable 4 rfl) (by decide) (by first | omega | exact bnd_r _ _ | exact hF _ _ | exact hI _ | exact hG _ _ | exact hK _ | (simp [uN] <;> omega)) (fun c10 => absurd c10 (by omega)) (fun c10 => ?_)
  refine v_aload_n (dec_of DX2_beginSyllable 5 rfl) rfl ?_
  refine vi_const (dec_of DX2_beginSyllable 6 rfl) ?_
  refine v_iload_n (dec_of DX2_beginSyllable 7 rfl) rfl ?_
  refine v_V2v (k_refuse) lX2_58 (dec_of DX2_beginSyllable 8 rfl) rfl rfl (by decide) (nle rfl) rfl ?_
  refine vi_const (dec_of DX2_beginSyllable 9 rfl) ?_
  exact vi_retz (dec_of DX2_beginSyllable 10 rfl) rfl (by first | omega | exact bnd_r _ _ | exact hF _ _ | exact hI _ | exact hG _ _ | exact hK _ | (simp [uN] <;> omega)) ⟨by decide, by decide⟩ (⟨rfl, rfl⟩)
set_option maxRecDepth 100000 in
set_option maxHeartbeats 4000000 in
theorem k_begin_new {T : XW} {I N : Nat → Int} {F : Nat → Int → Int} (hF : FR F) (hI : IR I) (hN : NR N) {p : Int} (h3 : N 3 < 60) (h10 : I 10 = 0) : Sd (rm 1 24 0 0) mX2_beginSyllable [.ref 20, J p] (cls I N F ++ T) (cls (uN (uN (uN I 10 1) 1 (I 1 + 1)) 9 1) (uN N 3 (N 3 + 1)) (bgF N F (I 1 + 1 - 1)) ++ T) (some (J 1)) := by
  unfold Sd
  unfold NR at hN
  refine sp_of (ls := [some (.ref 20), some (J p), none]) (by decide) (nle rfl) rfl rfl ?_
  refine v_aload_n (dec_of DX2_beginSyllable 0 rfl) rfl ?_
  refine v_get fX2_9 (dec_of DX2_beginSyllable 1 rfl) rfl rfl ?_
  refine v_get fX2_106 (dec_of DX2_beginSyllable 2 rfl) rfl rfl ?_
  refine v_V0r (c3_full (by first | omega | exact bnd_r _ _ | exact hF _ _ | exact hI _ | exact hG _ _ | exact hK _ | (simp [uN] <;> omega))) lX2_115 (dec_of DX2_beginSyllable 3 rfl) rfl rfl (by decide) (nle rfl) rfl ?_
  refine vi_if_eq (tgt := 21) (dec_of DX2_beginSyllable 4 rfl) (by decide) (by first | omega | exact bnd_r _ _ | exact hF _ _ | exact hI _ | exact hG _ _ | exact hK _ | (simp [uN] <;> omega)) (fun c10 => ?_) (fun c10 => absurd c10 (by omega))
  refine v_aload_n (dec_of DX2_beginSyllable 11 rfl) rfl ?_
  refine v_get fX2_76 (dec_of DX2_beginSyllable 12 rfl) rfl rfl ?_
  refine vi_if_ne (tgt := 46) (dec_of DX2_beginSyllable 13 rfl) (by decide) (by first | omega | exact bnd_r _ _ | exact hF _ _ | exact hI _ | exact hG _ _ | exact hK _ | (simp [uN] <;> omega)) (fun c25 => absurd c25 (by omega)) (fun c25 => ?_)
  refine v_aload_n (dec_of DX2_beginSyllable 14 rfl) rfl ?_
  refine vi_const (dec_of DX2_beginSyllable 15 rfl) ?_
  refine cp_10 fX2_76 (dec_of DX2_beginSyllable 16 rfl) (by omega) ?_
  refine v_aload_n (dec_of DX2_beginSyllable 17 rfl) rfl ?_
  refine v_get fX2_9 (dec_of DX2_beginSyllable 18 rfl) rfl rfl ?_
  refine v_dup (dec_of DX2_beginSyllable 19 rfl) rfl ?_
  refine v_get fX2_119 (dec_of DX2_beginSyllable 20 rfl) rfl rfl ?_
  refine vi_const (dec_of DX2_beginSyllable 21 rfl) ?_
  refine vi_add (dec_of DX2_beginSyllable 22 rfl) ?_
  refine cp_1 fX2_119 (dec_of DX2_beginSyllable 23 rfl) ?_
  refine v_aload_n (dec_of DX2_beginSyllable 24 rfl) rfl ?_
  refine vi_const (dec_of DX2_beginSyllable 25 rfl) ?_
  refine cp_9 fX2_73 (dec_of DX2_beginSyllable 26 rfl) (by omega) ?_
  refine v_aload_n (dec_of DX2_beginSyllable 27 rfl) rfl ?_
  refine v_get fX2_9 (dec_of DX2_beginSyllable 28 rfl) rfl rfl ?_
  refine v_get fX2_106 (dec_of DX2_beginSyllable 29 rfl) rfl rfl ?_
  refine v_aload_n (dec_of DX2_beginSyllable 30 rfl) rfl ?_
  refine v_get fX2_9 (dec_of DX2_beginSyllable 31 rfl) rfl rfl ?_
  refine v_get fX2_119 (dec_of DX2_beginSyllable 32 rfl) rfl rfl ?_
  refine vi_const (dec_of DX2_beginSyllable 33 rfl) ?_
  refine vi_sub (dec_of DX2_beginSyllable 34 rfl) ?_
  refine v_V1r (c3_add (by first | omega | exact bnd_r _ _ | exact hF _ _ | exact hI _ | exact hG _ _ | exact hK _ | (simp [uN] <;> omega))) lX2_92 (dec_of DX2_beginSyllable 35 rfl) rfl rfl (by decide) (nle rfl) rfl ?_
  refine v_istore_n (dec_of DX2_beginSyllable 36 rfl) (by decide) ?_
  dsimp only [List.set]
  refine v_aload_n (dec_of DX2_beginSyllable 37 rfl) rfl ?_
  refine v_get fX2_9 (dec_of DX2_beginSyllable 38 rfl) rfl rfl ?_
  refine v_get fX2_106 (dec_of DX2_beginSyllable 39 rfl) rfl rfl ?_
  refine v_iload_n (dec_of DX2_beginSyllable 40 rfl) rfl ?_
  refine vi_const (dec_of DX2_beginSyllable 41 rfl) ?_
  refine vi_bi (dec_of DX2_beginSyllable 42 rfl) (by decide) ?_
  refine v_V3v (c3_set (by first | omega | exact bnd_r _ _ | exact hF _ _ | exact hI _ | exact hG _ _ | exact hK _ | (simp [uN] <;> omega)) (by first | omega | exact bnd_r _ _ | exact hF _ _ | exact hI _ | exact hG _ _ | exact hK _ | (simp [uN] <;> omega)) (by first | omega | exact bnd_r _ _ | exact hF _ _ | exact hI _ | exact hG _ _ | exact hK _ | (simp [uN] <;> omega))) lX2_109 (dec_of DX2_beginSyllable 43 rfl) rfl rfl (by decide) (nle rfl) rfl ?_
  refine v_aload_n (dec_of DX2_beginSyllable 44 rfl) rfl ?_
  refine v_get fX2_9 (dec_of DX2_beginSyllable 45 rfl) rfl rfl ?_
  refine v_get fX2_106 (dec_of DX2_beginSyllable 46 rfl) rfl rfl ?_
  refine v_iload_n (dec_of DX2_beginSyllable 47 rfl) rfl ?_
  refine vi_bi (dec_of DX2_beginSyllable 48 rfl) (by decide) ?_
  refine v_aload_n (dec_of DX2_beginSyllable 49 rfl) rfl ?_
  refine v_get fX2_9 (dec_of DX2_beginSyllable 50 rfl) rfl rfl ?_
  refine v_get fX2_112 (dec_of DX2_beginSyllable 51 rfl) rfl rfl ?_
  refine v_V0r (c2_size) lX2_33 (dec_of DX2_beginSyllable 52 rfl) rfl rfl (by decide) (nle rfl) rfl ?_
  refine v_V3v (c3_set (by first | omega | exact bnd_r _ _ | exact hF _ _ | exact hI _ | exact hG _ _ | exact hK _ | (simp [uN] <;> omega)) (by first | omega | exact bnd_r _ _ | exact hF _ _ | exact hI _ | exact hG _ _ | exact hK _ | (simp [uN] <;> omega)) (by first | omega | exact bnd_r _ _ | exact hF _ _ | exact hI _ | exact hG _ _ | exact hK _ | (simp [uN] <;> omega))) lX2_109 (dec_of DX2_beginSyllable 53 rfl) rfl rfl (by decide) (nle rfl) rfl ?_
  refine v_aload_n (dec_of DX2_beginSyllable 54 rfl) rfl ?_
  refine v_get fX2_9 (dec_of DX2_beginSyllable 55 rfl) rfl rfl ?_
  refine v_get fX2_106 (dec_of DX2_beginSyllable 56 rfl) rfl rfl ?_
  refine v_iload_n (dec_of DX2_beginSyllable 57 rfl) rfl ?_
  refine vi_bi (dec_of DX2_beginSyllable 58 rfl) (by decide) ?_
  refine v_aload_n (dec_of DX2_beginSyllable 59 rfl) rfl ?_
  refine v_get fX2_9 (dec_of DX2_beginSyllable 60 rfl) rfl rfl ?_
  refine v_get fX2_122 (dec_of DX2_beginSyllable 61 rfl) rfl rfl ?_
  refine v_V0r (c8_size) lX2_33 (dec_of DX2_beginSyllable 62 rfl) rfl rfl (by decide) (nle rfl) rfl ?_
  refine v_V3v (c3_set (by first | omega | exact bnd_r _ _ | exact hF _ _ | exact hI _ | exact hG _ _ | exact hK _ | (simp [uN] <;> omega)) (by first | omega | exact bnd_r _ _ | exact hF _ _ | exact hI _ | exact hG _ _ | exact hK _ | (simp [uN] <;> omega)) (by first | omega | exact bnd_r _ _ | exact hF _ _ | exact hI _ | exact hG _ _ | exact hK _ | (simp [uN] <;> omega))) lX2_109 (dec_of DX2_beginSyllable 63 rfl) rfl rfl (by decide) (nle rfl) rfl ?_
  refine vi_const (dec_of DX2_beginSyllable 64 rfl) ?_
  exact vi_retz (dec_of DX2_beginSyllable 65 rfl) rfl (by first | omega | exact bnd_r _ _ | exact hF _ _ | exact hI _ | exact hG _ _ | exact hK _ | (simp [uN] <;> omega)) ⟨by decide, by decide⟩ (⟨rfl, rfl⟩)
set_option maxRecDepth 100000 in
set_option maxHeartbeats 4000000 in
theorem k_begin_old {T : XW} {I N : Nat → Int} {F : Nat → Int → Int} (hF : FR F) (hI : IR I) (hN : NR N) {p : Int} (h3 : N 3 < 60) (h10 : ¬ I 10 = 0) : Sd (rm 1 24 0 0) mX2_beginSyllable [.ref 20, J p] (cls I N F ++ T) (cls (uN I 9 1) (uN N 3 (N 3 + 1)) (bgF N F (I 1 - 1)) ++ T) (some (J 1)) := by
  unfold Sd
  unfold NR at hN
  refine sp_of (ls := [some (.ref 20), some (J p), none]) (by decide) (nle rfl) rfl rfl ?_
  refine v_aload_n (dec_of DX2_beginSyllable 0 rfl) rfl ?_
  refine v_get fX2_9 (dec_of DX2_beginSyllable 1 rfl) rfl rfl ?_
  refine v_get fX2_106 (dec_of DX2_beginSyllable 2 rfl) rfl rfl ?_
  refine v_V0r (c3_full (by first | omega | exact bnd_r _ _ | exact hF _ _ | exact hI _ | exact hG _ _ | exact hK _ | (simp [uN] <;> omega))) lX2_115 (dec_of DX2_beginSyllable 3 rfl) rfl rfl (by decide) (nle rfl) rfl ?_
  refine vi_if_eq (tgt := 21) (dec_of DX2_beginSyllable 4 rfl) (by decide) (by first | omega | exact bnd_r _ _ | exact hF _ _ | exact hI _ | exact hG _ _ | exact hK _ | (simp [uN] <;> omega)) (fun c10 => ?_) (fun c10 => absurd c10 (by omega))
  refine v_aload_n (dec_of DX2_beginSyllable 11 rfl) rfl ?_
  refine v_get fX2_76 (dec_of DX2_beginSyllable 12 rfl) rfl rfl ?_
  refine vi_if_ne (tgt := 46) (dec_of DX2_beginSyllable 13 rfl) (by decide) (by first | omega | exact bnd_r _ _ | exact hF _ _ | exact hI _ | exact hG _ _ | exact hK _ | (simp [uN] <;> omega)) (fun c25 => ?_) (fun c25 => absurd c25 (by omega))
  refine v_aload_n (dec_of DX2_beginSyllable 24 rfl) rfl ?_
  refine vi_const (dec_of DX2_beginSyllable 25 rfl) ?_
  refine cp_9 fX2_73 (dec_of DX2_beginSyllable 26 rfl) (by omega) ?_
  refine v_aload_n (dec_of DX2_beginSyllable 27 rfl) rfl ?_
  refine v_get fX2_9 (dec_of DX2_beginSyllable 28 rfl) rfl rfl ?_
  refine v_get fX2_106 (dec_of DX2_beginSyllable 29 rfl) rfl rfl ?_
  refine v_aload_n (dec_of DX2_beginSyllable 30 rfl) rfl ?_
  refine v_get fX2_9 (dec_of DX2_beginSyllable 31 rfl) rfl rfl ?_
  refine v_get fX2_119 (dec_of DX2_beginSyllable 32 rfl) rfl rfl ?_
  refine vi_const (dec_of DX2_beginSyllable 33 rfl) ?_
  refine vi_sub (dec_of DX2_beginSyllable 34 rfl) ?_
  refine v_V1r (c3_add (by first | omega | exact bnd_r _ _ | exact hF _ _ | exact hI _ | exact hG _ _ | exact hK _ | (simp [uN] <;> omega))) lX2_92 (dec_of DX2_beginSyllable 35 rfl) rfl rfl (by decide) (nle rfl) rfl ?_
  refine v_istore_n (dec_of DX2_beginSyllable 36 rfl) (by decide) ?_
  dsimp only [List.set]
  refine v_aload_n (dec_of DX2_beginSyllable 37 rfl) rfl ?_
  refine v_get fX2_9 (dec_of DX2_beginSyllable 38 rfl) rfl rfl ?_
  refine v_get fX2_106 (dec_of DX2_beginSyllable 39 rfl) rfl rfl ?_
  refine v_iload_n (dec_of DX2_beginSyllable 40 rfl) rfl ?_
  refine vi_const (dec_of DX2_beginSyllable 41 rfl) ?_
  refine vi_bi (dec_of DX2_beginSyllable 42 rfl) (by decide) ?_
  refine v_V3v (c3_set (by first | omega | exact bnd_r _ _ | exact hF _ _ | exact hI _ | exact hG _ _ | exact hK _ | (simp [uN] <;> omega)) (by first | omega | exact bnd_r _ _ | exact hF _ _ | exact hI _ | exact hG _ _ | exact hK _ | (simp [uN] <;> omega)) (by first | omega | exact bnd_r _ _ | exact hF _ _ | exact hI _ | exact hG _ _ | exact hK _ | (simp [uN] <;> omega))) lX2_109 (dec_of DX2_beginSyllable 43 rfl) rfl rfl (by decide) (nle rfl) rfl ?_
  refine v_aload_n (dec_of DX2_beginSyllable 44 rfl) rfl ?_
  refine v_get fX2_9 (dec_of DX2_beginSyllable 45 rfl) rfl rfl ?_
  refine v_get fX2_106 (dec_of DX2_beginSyllable 46 rfl) rfl rfl ?_
  refine v_iload_n (dec_of DX2_beginSyllable 47 rfl) rfl ?_
  refine vi_bi (dec_of DX2_beginSyllable 48 rfl) (by decide) ?_
  refine v_aload_n (dec_of DX2_beginSyllable 49 rfl) rfl ?_
  refine v_get fX2_9 (dec_of DX2_beginSyllable 50 rfl) rfl rfl ?_
  refine v_get fX2_112 (dec_of DX2_beginSyllable 51 rfl) rfl rfl ?_
  refine v_V0r (c2_size) lX2_33 (dec_of DX2_beginSyllable 52 rfl) rfl rfl (by decide) (nle rfl) rfl ?_
  refine v_V3v (c3_set (by first | omega | exact bnd_r _ _ | exact hF _ _ | exact hI _ | exact hG _ _ | exact hK _ | (simp [uN] <;> omega)) (by first | omega | exact bnd_r _ _ | exact hF _ _ | exact hI _ | exact hG _ _ | exact hK _ | (simp [uN] <;> omega)) (by first | omega | exact bnd_r _ _ | exact hF _ _ | exact hI _ | exact hG _ _ | exact hK _ | (simp [uN] <;> omega))) lX2_109 (dec_of DX2_beginSyllable 53 rfl) rfl rfl (by decide) (nle rfl) rfl ?_
  refine v_aload_n (dec_of DX2_beginSyllable 54 rfl) rfl ?_
  refine v_get fX2_9 (dec_of DX2_beginSyllable 55 rfl) rfl rfl ?_
  refine v_get fX2_106 (dec_of DX2_beginSyllable 56 rfl) rfl rfl ?_
  refine v_iload_n (dec_of DX2_beginSyllable 57 rfl) rfl ?_
  refine vi_bi (dec_of DX2_beginSyllable 58 rfl) (by decide) ?_
  refine v_aload_n (dec_of DX2_beginSyllable 59 rfl) rfl ?_
  refine v_get fX2_9 (dec_of DX2_beginSyllable 60 rfl) rfl rfl ?_
  refine v_get fX2_122 (dec_of DX2_beginSyllable 61 rfl) rfl rfl ?_
  refine v_V0r (c8_size) lX2_33 (dec_of DX2_beginSyllable 62 rfl) rfl rfl (by decide) (nle rfl) rfl ?_
  refine v_V3v (c3_set (by first | omega | exact bnd_r _ _ | exact hF _ _ | exact hI _ | exact hG _ _ | exact hK _ | (simp [uN] <;> omega)) (by first | omega | exact bnd_r _ _ | exact hF _ _ | exact hI _ | exact hG _ _ | exact hK _ | (simp [uN] <;> omega)) (by first | omega | exact bnd_r _ _ | exact hF _ _ | exact hI _ | exact hG _ _ | exact hK _ | (simp [uN] <;> omega))) lX2_109 (dec_of DX2_beginSyllable 63 rfl) rfl rfl (by decide) (nle rfl) rfl ?_
  refine vi_const (dec_of DX2_beginSyllable 64 rfl) ?_
  exact vi_retz (dec_of DX2_beginSyllable 65 rfl) rfl (by first | omega | exact bnd_r _ _ | exact hF _ _ | exact hI _ | exact hG _ _ | exact hK _ | (simp [uN] <;> omega)) ⟨by decide, by decide⟩ (⟨rfl, rfl⟩)
set_option maxRecDepth 100000 in
set_option maxHeartbeats 4000000 in
theorem k_out_blank {T : XW} {I N : Nat → Int} {F : Nat → Int → Int} (hF : FR F) (hI : IR I) (hN : NR N) {p b : Int} (hb : 0 ≤ b ∧ b < 256) (h : (b = 32 ∨ b = 10)) : Sd (rm 2 46 0 0) mX2_takeOutside [.ref 20, J p, J b] (cls I N F ++ T) (cls (uN (uN (uN I 9 0) 10 0) 7 0) N F ++ T) (none) := by
  unfold Sd
  unfold NR at hN
  refine sp_of (ls := [some (.ref 20), some (J p), some (J b), none, none]) (by decide) (nle rfl) rfl rfl ?_
  refine v_iload_n (dec_of DX2_takeOutside 0 rfl) rfl ?_
  refine v_S1r (k_isBlank (by omega)) lX2_96 (dec_of DX2_takeOutside 1 rfl) (by decide) (nle rfl) rfl ?_
  refine vi_if_eq (tgt := 23) (dec_of DX2_takeOutside 2 rfl) (by decide) (by first | omega | exact bnd_r _ _ | exact hF _ _ | exact hI _ | exact hG _ _ | exact hK _ | (simp [uN] <;> omega)) (fun c4 => absurd c4 (by omega)) (fun c4 => ?_)
  refine v_aload_n (dec_of DX2_takeOutside 3 rfl) rfl ?_
  refine vi_const (dec_of DX2_takeOutside 4 rfl) ?_
  refine cp_9 fX2_73 (dec_of DX2_takeOutside 5 rfl) (by omega) ?_
  refine v_aload_n (dec_of DX2_takeOutside 6 rfl) rfl ?_
  refine vi_const (dec_of DX2_takeOutside 7 rfl) ?_
  refine cp_10 fX2_76 (dec_of DX2_takeOutside 8 rfl) (by omega) ?_
  refine v_aload_n (dec_of DX2_takeOutside 9 rfl) rfl ?_
  refine vi_const (dec_of DX2_takeOutside 10 rfl) ?_
  refine cp_7 fX2_85 (dec_of DX2_takeOutside 11 rfl) ?_
  exact vi_vret (dec_of DX2_takeOutside 12 rfl) rfl ⟨by decide, by decide⟩ (⟨rfl, rfl⟩)
set_option maxRecDepth 100000 in
set_option maxHeartbeats 4000000 in
theorem k_out_strange {T : XW} {I N : Nat → Int} {F : Nat → Int → Int} (hF : FR F) (hI : IR I) (hN : NR N) {p b : Int} (hb : 0 ≤ b ∧ b < 256) (h : ¬ (b = 32 ∨ b = 10) ∧ b ≠ 40 ∧ ¬ ((97 ≤ b ∧ b ≤ 122) ∨ (65 ≤ b ∧ b ≤ 90) ∨ b = 39)) : Sd (rm 2 46 0 0) mX2_takeOutside [.ref 20, J p, J b] (cls I N F ++ T) (cls (uN (uN I 3 1) 4 p) N F ++ T) (none) := by
  unfold Sd
  unfold NR at hN
  refine sp_of (ls := [some (.ref 20), some (J p), some (J b), none, none]) (by decide) (nle rfl) rfl rfl ?_
  refine v_iload_n (dec_of DX2_takeOutside 0 rfl) rfl ?_
  refine v_S1r (k_isBlank (by omega)) lX2_96 (dec_of DX2_takeOutside 1 rfl) (by decide) (nle rfl) rfl ?_
  refine vi_if_eq (tgt := 23) (dec_of DX2_takeOutside 2 rfl) (by decide) (by first | omega | exact bnd_r _ _ | exact hF _ _ | exact hI _ | exact hG _ _ | exact hK _ | (simp [uN] <;> omega)) (fun c4 => ?_) (fun c4 => absurd c4 (by omega))
  refine v_iload_n (dec_of DX2_takeOutside 13 rfl) rfl ?_
  refine vi_bi (dec_of DX2_takeOutside 14 rfl) (by decide) ?_
  refine vi_icmp_eq (tgt := 43) (dec_of DX2_takeOutside 15 rfl) (by decide) (by first | omega | exact bnd_r _ _ | exact hF _ _ | exact hI _ | exact hG _ _ | exact hK _ | (simp [uN] <;> omega)) (by first | omega | exact bnd_r _ _ | exact hF _ _ | exact hI _ | exact hG _ _ | exact hK _ | (simp [uN] <;> omega)) (fun c26 => absurd c26 (by omega)) (fun c26 => ?_)
  refine v_iload_n (dec_of DX2_takeOutside 16 rfl) rfl ?_
  refine v_S1r (k_isLetter (by omega)) lX2_100 (dec_of DX2_takeOutside 17 rfl) (by decide) (nle rfl) rfl ?_
  refine vi_if_ne (tgt := 43) (dec_of DX2_takeOutside 18 rfl) (by decide) (by first | omega | exact bnd_r _ _ | exact hF _ _ | exact hI _ | exact hG _ _ | exact hK _ | (simp [uN] <;> omega)) (fun c33 => absurd c33 (by omega)) (fun c33 => ?_)
  refine v_aload_n (dec_of DX2_takeOutside 19 rfl) rfl ?_
  refine vi_const (dec_of DX2_takeOutside 20 rfl) ?_
  refine v_iload_n (dec_of DX2_takeOutside 21 rfl) rfl ?_
  refine v_V2v (k_refuse) lX2_58 (dec_of DX2_takeOutside 22 rfl) rfl rfl (by decide) (nle rfl) rfl ?_
  exact vi_vret (dec_of DX2_takeOutside 23 rfl) rfl ⟨by decide, by decide⟩ (⟨rfl, rfl⟩)
set_option maxRecDepth 100000 in
set_option maxHeartbeats 4000000 in
theorem k_out_full {T : XW} {I N : Nat → Int} {F : Nat → Int → Int} (hF : FR F) (hI : IR I) (hN : NR N) {p b : Int} (hb : 0 ≤ b ∧ b < 256) (h : b = 40 ∨ ((97 ≤ b ∧ b ≤ 122) ∨ (65 ≤ b ∧ b ≤ 90) ∨ b = 39)) (h9 : I 9 = 0) (h3 : 60 ≤ N 3) : Sd (rm 2 46 0 0) mX2_takeOutside [.ref 20, J p, J b] (cls I N F ++ T) (cls (uN (uN I 3 2) 4 p) N F ++ T) (none) := by
  unfold Sd
  unfold NR at hN
  refine sp_of (ls := [some (.ref 20), some (J p), some (J b), none, none]) (by decide) (nle rfl) rfl rfl ?_
  refine v_iload_n (dec_of DX2_takeOutside 0 rfl) rfl ?_
  refine v_S1r (k_isBlank (by omega)) lX2_96 (dec_of DX2_takeOutside 1 rfl) (by decide) (nle rfl) rfl ?_
  refine vi_if_eq (tgt := 23) (dec_of DX2_takeOutside 2 rfl) (by decide) (by first | omega | exact bnd_r _ _ | exact hF _ _ | exact hI _ | exact hG _ _ | exact hK _ | (simp [uN] <;> omega)) (fun c4 => ?_) (fun c4 => absurd c4 (by omega))
  refine v_iload_n (dec_of DX2_takeOutside 13 rfl) rfl ?_
  refine vi_bi (dec_of DX2_takeOutside 14 rfl) (by decide) ?_
  refine vi_icmp_eq (tgt := 43) (dec_of DX2_takeOutside 15 rfl) (by decide) (by first | omega | exact bnd_r _ _ | exact hF _ _ | exact hI _ | exact hG _ _ | exact hK _ | (simp [uN] <;> omega)) (by first | omega | exact bnd_r _ _ | exact hF _ _ | exact hI _ | exact hG _ _ | exact hK _ | (simp [uN] <;> omega)) (fun c26 => ?_) (fun c26 => ?_)
  · refine v_aload_n (dec_of DX2_takeOutside 24 rfl) rfl ?_
    refine v_get fX2_73 (dec_of DX2_takeOutside 25 rfl) rfl rfl ?_
    refine vi_if_ne (tgt := 59) (dec_of DX2_takeOutside 26 rfl) (by decide) (by first | omega | exact bnd_r _ _ | exact hF _ _ | exact hI _ | exact hG _ _ | exact hK _ | (simp [uN] <;> omega)) (fun c47 => absurd c47 (by omega)) (fun c47 => ?_)
    refine v_aload_n (dec_of DX2_takeOutside 27 rfl) rfl ?_
    refine v_iload_n (dec_of DX2_takeOutside 28 rfl) rfl ?_
    refine v_V1r (k_begin_full hF hI (by unfold NR; exact hN) (by omega)) lX2_103 (dec_of DX2_takeOutside 29 rfl) rfl rfl (by decide) (nle rfl) rfl ?_
    refine vi_if_ne (tgt := 59) (dec_of DX2_takeOutside 30 rfl) (by decide) (by first | omega | exact bnd_r _ _ | exact hF _ _ | exact hI _ | exact hG _ _ | exact hK _ | (simp [uN] <;> omega)) (fun c55 => absurd c55 (by omega)) (fun c55 => ?_)
    exact vi_vret (dec_of DX2_takeOutside 31 rfl) rfl ⟨by decide, by decide⟩ (⟨rfl, rfl⟩)
  · refine v_iload_n (dec_of DX2_takeOutside 16 rfl) rfl ?_
    refine v_S1r (k_isLetter (by omega)) lX2_100 (dec_of DX2_takeOutside 17 rfl) (by decide) (nle rfl) rfl ?_
    refine vi_if_ne (tgt := 43) (dec_of DX2_takeOutside 18 rfl) (by decide) (by first | omega | exact bnd_r _ _ | exact hF _ _ | exact hI _ | exact hG _ _ | exact hK _ | (simp [uN] <;> omega)) (fun c33 => ?_) (fun c33 => absurd c33 (by omega))
    refine v_aload_n (dec_of DX2_takeOutside 24 rfl) rfl ?_
    refine v_get fX2_73 (dec_of DX2_takeOutside 25 rfl) rfl rfl ?_
    refine vi_if_ne (tgt := 59) (dec_of DX2_takeOutside 26 rfl) (by decide) (by first | omega | exact bnd_r _ _ | exact hF _ _ | exact hI _ | exact hG _ _ | exact hK _ | (simp [uN] <;> omega)) (fun c47 => absurd c47 (by omega)) (fun c47 => ?_)
    refine v_aload_n (dec_of DX2_takeOutside 27 rfl) rfl ?_
    refine v_iload_n (dec_of DX2_takeOutside 28 rfl) rfl ?_
    refine v_V1r (k_begin_full hF hI (by unfold NR; exact hN) (by omega)) lX2_103 (dec_of DX2_takeOutside 29 rfl) rfl rfl (by decide) (nle rfl) rfl ?_
    refine vi_if_ne (tgt := 59) (dec_of DX2_takeOutside 30 rfl) (by decide) (by first | omega | exact bnd_r _ _ | exact hF _ _ | exact hI _ | exact hG _ _ | exact hK _ | (simp [uN] <;> omega)) (fun c55 => absurd c55 (by omega)) (fun c55 => ?_)
    exact vi_vret (dec_of DX2_takeOutside 31 rfl) rfl ⟨by decide, by decide⟩ (⟨rfl, rfl⟩)
set_option maxRecDepth 100000 in
set_option maxHeartbeats 4000000 in
theorem k_ot_par {T : XW} {I N : Nat → Int} {F : Nat → Int → Int} (hF : FR F) (hI : IR I) (hN : NR N) {n0 : Nat} {Z : XW → Option Value → Prop} {p b : Int} (hb : 0 ≤ b ∧ b < 256) (h : b = 40) (h3 : 0 < N 3) (hz : Z (cls (uN I 8 1) N (uN F 3 (uI (F 3) ((N 3 - 1) * 9 + 3) 1)) ++ T) none) : Vd (rm 2 46 0 0) [] mX2_takeOutside n0 Z 0 0 59 [some (.ref 20), some (J p), some (J b), none, none] [] (cls I N F ++ T) := by
  unfold NR at hN
  refine v_aload_n (dec_of DX2_takeOutside 32 rfl) rfl ?_
  refine v_get fX2_9 (dec_of DX2_takeOutside 33 rfl) rfl rfl ?_
  refine v_get fX2_106 (dec_of DX2_takeOutside 34 rfl) rfl rfl ?_
  refine v_V0r (c3_size) lX2_33 (dec_of DX2_takeOutside 35 rfl) rfl rfl (by decide) (nle rfl) rfl ?_
  refine vi_const (dec_of DX2_takeOutside 36 rfl) ?_
  refine vi_sub (dec_of DX2_takeOutside 37 rfl) ?_
  refine v_istore_n (dec_of DX2_takeOutside 38 rfl) (by decide) ?_
  dsimp only [List.set]
  refine v_iload_n (dec_of DX2_takeOutside 39 rfl) rfl ?_
  refine vi_bi (dec_of DX2_takeOutside 40 rfl) (by decide) ?_
  refine vi_icmp_ne (tgt := 97) (dec_of DX2_takeOutside 41 rfl) (by decide) (by first | omega | exact bnd_r _ _ | exact hF _ _ | exact hI _ | exact hG _ _ | exact hK _ | (simp [uN] <;> omega)) (by first | omega | exact bnd_r _ _ | exact hF _ _ | exact hI _ | exact hG _ _ | exact hK _ | (simp [uN] <;> omega)) (fun c75 => absurd c75 (by omega)) (fun c75 => ?_)
  refine v_aload_n (dec_of DX2_takeOutside 42 rfl) rfl ?_
  refine vi_const (dec_of DX2_takeOutside 43 rfl) ?_
  refine cp_8 fX2_47 (dec_of DX2_takeOutside 44 rfl) (by omega) ?_
  refine v_aload_n (dec_of DX2_takeOutside 45 rfl) rfl ?_
  refine v_get fX2_9 (dec_of DX2_takeOutside 46 rfl) rfl rfl ?_
  refine v_get fX2_106 (dec_of DX2_takeOutside 47 rfl) rfl rfl ?_
  refine v_iload_n (dec_of DX2_takeOutside 48 rfl) rfl ?_
  refine vi_const (dec_of DX2_takeOutside 49 rfl) ?_
  refine vi_const (dec_of DX2_takeOutside 50 rfl) ?_
  refine v_V3v (c3_set (by first | omega | exact bnd_r _ _ | exact hF _ _ | exact hI _ | exact hG _ _ | exact hK _ | (simp [uN] <;> omega)) (by first | omega | exact bnd_r _ _ | exact hF _ _ | exact hI _ | exact hG _ _ | exact hK _ | (simp [uN] <;> omega)) (by first | omega | exact bnd_r _ _ | exact hF _ _ | exact hI _ | exact hG _ _ | exact hK _ | (simp [uN] <;> omega))) lX2_109 (dec_of DX2_takeOutside 51 rfl) rfl rfl (by decide) (nle rfl) rfl ?_
  exact vi_vret (dec_of DX2_takeOutside 52 rfl) rfl ⟨by decide, by decide⟩ (hz)
set_option maxRecDepth 100000 in
set_option maxHeartbeats 4000000 in
theorem k_ot_let {T : XW} {I N : Nat → Int} {F : Nat → Int → Int} (hF : FR F) (hI : IR I) (hN : NR N) {n0 : Nat} {Z : XW → Option Value → Prop} {p b : Int} (hb : 0 ≤ b ∧ b < 256) (h : ((97 ≤ b ∧ b ≤ 122) ∨ (65 ≤ b ∧ b ≤ 90) ∨ b = 39)) (h3 : 0 < N 3) (h2 : N 2 < 1500) (hz : Z (cls I (uN N 2 (N 2 + 1)) (ltF N F b) ++ T) none) : Vd (rm 2 46 0 0) [] mX2_takeOutside n0 Z 0 0 59 [some (.ref 20), some (J p), some (J b), none, none] [] (cls I N F ++ T) := by
  unfold NR at hN
  refine v_aload_n (dec_of DX2_takeOutside 32 rfl) rfl ?_
  refine v_get fX2_9 (dec_of DX2_takeOutside 33 rfl) rfl rfl ?_
  refine v_get fX2_106 (dec_of DX2_takeOutside 34 rfl) rfl rfl ?_
  refine v_V0r (c3_size) lX2_33 (dec_of DX2_takeOutside 35 rfl) rfl rfl (by decide) (nle rfl) rfl ?_
  refine vi_const (dec_of DX2_takeOutside 36 rfl) ?_
  refine vi_sub (dec_of DX2_takeOutside 37 rfl) ?_
  refine v_istore_n (dec_of DX2_takeOutside 38 rfl) (by decide) ?_
  dsimp only [List.set]
  refine v_iload_n (dec_of DX2_takeOutside 39 rfl) rfl ?_
  refine vi_bi (dec_of DX2_takeOutside 40 rfl) (by decide) ?_
  refine vi_icmp_ne (tgt := 97) (dec_of DX2_takeOutside 41 rfl) (by decide) (by first | omega | exact bnd_r _ _ | exact hF _ _ | exact hI _ | exact hG _ _ | exact hK _ | (simp [uN] <;> omega)) (by first | omega | exact bnd_r _ _ | exact hF _ _ | exact hI _ | exact hG _ _ | exact hK _ | (simp [uN] <;> omega)) (fun c75 => ?_) (fun c75 => absurd c75 (by omega))
  refine v_aload_n (dec_of DX2_takeOutside 53 rfl) rfl ?_
  refine v_get fX2_9 (dec_of DX2_takeOutside 54 rfl) rfl rfl ?_
  refine v_get fX2_112 (dec_of DX2_takeOutside 55 rfl) rfl rfl ?_
  refine v_iload_n (dec_of DX2_takeOutside 56 rfl) rfl ?_
  refine v_V1r (c2_add (by first | omega | exact bnd_r _ _ | exact hF _ _ | exact hI _ | exact hG _ _ | exact hK _ | (simp [uN] <;> omega))) lX2_92 (dec_of DX2_takeOutside 57 rfl) rfl rfl (by decide) (nle rfl) rfl ?_
  refine v_pop (dec_of DX2_takeOutside 58 rfl) rfl ?_
  refine v_aload_n (dec_of DX2_takeOutside 59 rfl) rfl ?_
  refine v_get fX2_9 (dec_of DX2_takeOutside 60 rfl) rfl rfl ?_
  refine v_get fX2_106 (dec_of DX2_takeOutside 61 rfl) rfl rfl ?_
  refine v_iload_n (dec_of DX2_takeOutside 62 rfl) rfl ?_
  refine vi_const (dec_of DX2_takeOutside 63 rfl) ?_
  refine v_V2r (c3_get (by first | omega | exact bnd_r _ _ | exact hF _ _ | exact hI _ | exact hG _ _ | exact hK _ | (simp [uN] <;> omega)) (by first | omega | exact bnd_r _ _ | exact hF _ _ | exact hI _ | exact hG _ _ | exact hK _ | (simp [uN] <;> omega)) (by first | omega | exact bnd_r _ _ | exact hF _ _ | exact hI _ | exact hG _ _ | exact hK _ | (simp [uN] <;> omega))) lX2_43 (dec_of DX2_takeOutside 64 rfl) rfl rfl (by decide) (nle rfl) rfl ?_
  refine v_istore (dec_of DX2_takeOutside 65 rfl) (by decide) ?_
  dsimp only [List.set]
  refine v_aload_n (dec_of DX2_takeOutside 66 rfl) rfl ?_
  refine v_get fX2_9 (dec_of DX2_takeOutside 67 rfl) rfl rfl ?_
  refine v_get fX2_106 (dec_of DX2_takeOutside 68 rfl) rfl rfl ?_
  refine v_iload_n (dec_of DX2_takeOutside 69 rfl) rfl ?_
  refine vi_const (dec_of DX2_takeOutside 70 rfl) ?_
  refine v_iload (dec_of DX2_takeOutside 71 rfl) rfl ?_
  refine vi_const (dec_of DX2_takeOutside 72 rfl) ?_
  refine vi_add (dec_of DX2_takeOutside 73 rfl) ?_
  refine v_V3v (c3_set (by first | omega | exact bnd_r _ _ | exact hF _ _ | exact hI _ | exact hG _ _ | exact hK _ | (simp [uN] <;> omega)) (by first | omega | exact bnd_r _ _ | exact hF _ _ | exact hI _ | exact hG _ _ | exact hK _ | (simp [uN] <;> omega)) (by first | omega | exact bnd_r _ _ | exact hF _ _ | exact hI _ | exact hG _ _ | exact hK _ | (simp [uN] <;> omega))) lX2_109 (dec_of DX2_takeOutside 74 rfl) rfl rfl (by decide) (nle rfl) rfl ?_
  refine v_iload_n (dec_of DX2_takeOutside 75 rfl) rfl ?_
  refine vi_bi (dec_of DX2_takeOutside 76 rfl) (by decide) ?_
  refine vi_icmp_ne (tgt := 158) (dec_of DX2_takeOutside 77 rfl) (by decide) (by first | omega | exact bnd_r _ _ | exact hF _ _ | exact hI _ | exact hG _ _ | exact hK _ | (simp [uN] <;> omega)) (by first | omega | exact bnd_r _ _ | exact hF _ _ | exact hI _ | exact hG _ _ | exact hK _ | (simp [uN] <;> omega)) (fun c142 => ?_) (fun c142 => ?_)
  · exact vi_vret (dec_of DX2_takeOutside 85 rfl) rfl ⟨by decide, by decide⟩ (by first | (rw [ltF, if_pos (by omega)] at hz; exact hz) | (rw [ltF, if_neg (by omega)] at hz; exact hz))
  · refine v_aload_n (dec_of DX2_takeOutside 78 rfl) rfl ?_
    refine v_get fX2_9 (dec_of DX2_takeOutside 79 rfl) rfl rfl ?_
    refine v_get fX2_106 (dec_of DX2_takeOutside 80 rfl) rfl rfl ?_
    refine v_iload_n (dec_of DX2_takeOutside 81 rfl) rfl ?_
    refine vi_const (dec_of DX2_takeOutside 82 rfl) ?_
    refine vi_const (dec_of DX2_takeOutside 83 rfl) ?_
    refine v_V3v (c3_set (by first | omega | exact bnd_r _ _ | exact hF _ _ | exact hI _ | exact hG _ _ | exact hK _ | (simp [uN] <;> omega)) (by first | omega | exact bnd_r _ _ | exact hF _ _ | exact hI _ | exact hG _ _ | exact hK _ | (simp [uN] <;> omega)) (by first | omega | exact bnd_r _ _ | exact hF _ _ | exact hI _ | exact hG _ _ | exact hK _ | (simp [uN] <;> omega))) lX2_109 (dec_of DX2_takeOutside 84 rfl) rfl rfl (by decide) (nle rfl) rfl ?_
    exact vi_vret (dec_of DX2_takeOutside 85 rfl) rfl ⟨by decide, by decide⟩ (by first | (rw [ltF, if_pos (by omega)] at hz; exact hz) | (rw [ltF, if_neg (by omega)] at hz; exact hz))
set_option maxRecDepth 100000 in
set_option maxHeartbeats 4000000 in
theorem k_out_par_in {T : XW} {I N : Nat → Int} {F : Nat → Int → Int} (hF : FR F) (hI : IR I) (hN : NR N) {p b : Int} (hb : 0 ≤ b ∧ b < 256) (h : b = 40) (h9 : ¬ I 9 = 0) (h3 : 0 < N 3) : Sd (rm 2 46 0 0) mX2_takeOutside [.ref 20, J p, J b] (cls I N F ++ T) (cls (uN (I) 8 1) (N) (uN (F) 3 (uI ((F) 3) (((N) 3 - 1) * 9 + 3) 1)) ++ T) (none) := by
  unfold Sd
  unfold NR at hN
  refine sp_of (ls := [some (.ref 20), some (J p), some (J b), none, none]) (by decide) (nle rfl) rfl rfl ?_
  refine v_iload_n (dec_of DX2_takeOutside 0 rfl) rfl ?_
  refine v_S1r (k_isBlank (by omega)) lX2_96 (dec_of DX2_takeOutside 1 rfl) (by decide) (nle rfl) rfl ?_
  refine vi_if_eq (tgt := 23) (dec_of DX2_takeOutside 2 rfl) (by decide) (by first | omega | exact bnd_r _ _ | exact hF _ _ | exact hI _ | exact hG _ _ | exact hK _ | (simp [uN] <;> omega)) (fun c4 => ?_) (fun c4 => absurd c4 (by omega))
  refine v_iload_n (dec_of DX2_takeOutside 13 rfl) rfl ?_
  refine vi_bi (dec_of DX2_takeOutside 14 rfl) (by decide) ?_
  refine vi_icmp_eq (tgt := 43) (dec_of DX2_takeOutside 15 rfl) (by decide) (by first | omega | exact bnd_r _ _ | exact hF _ _ | exact hI _ | exact hG _ _ | exact hK _ | (simp [uN] <;> omega)) (by first | omega | exact bnd_r _ _ | exact hF _ _ | exact hI _ | exact hG _ _ | exact hK _ | (simp [uN] <;> omega)) (fun c26 => ?_) (fun c26 => ?_)
  · refine v_aload_n (dec_of DX2_takeOutside 24 rfl) rfl ?_
    refine v_get fX2_73 (dec_of DX2_takeOutside 25 rfl) rfl rfl ?_
    refine vi_if_ne (tgt := 59) (dec_of DX2_takeOutside 26 rfl) (by decide) (by first | omega | exact bnd_r _ _ | exact hF _ _ | exact hI _ | exact hG _ _ | exact hK _ | (simp [uN] <;> omega)) (fun c47 => ?_) (fun c47 => absurd c47 (by omega))
    exact k_ot_par hF hI (by unfold NR; exact hN) hb h h3 ⟨rfl, rfl⟩
  · refine v_iload_n (dec_of DX2_takeOutside 16 rfl) rfl ?_
    refine v_S1r (k_isLetter (by omega)) lX2_100 (dec_of DX2_takeOutside 17 rfl) (by decide) (nle rfl) rfl ?_
    refine vi_if_ne (tgt := 43) (dec_of DX2_takeOutside 18 rfl) (by decide) (by first | omega | exact bnd_r _ _ | exact hF _ _ | exact hI _ | exact hG _ _ | exact hK _ | (simp [uN] <;> omega)) (fun c33 => ?_) (fun c33 => absurd c33 (by omega))
    refine v_aload_n (dec_of DX2_takeOutside 24 rfl) rfl ?_
    refine v_get fX2_73 (dec_of DX2_takeOutside 25 rfl) rfl rfl ?_
    refine vi_if_ne (tgt := 59) (dec_of DX2_takeOutside 26 rfl) (by decide) (by first | omega | exact bnd_r _ _ | exact hF _ _ | exact hI _ | exact hG _ _ | exact hK _ | (simp [uN] <;> omega)) (fun c47 => ?_) (fun c47 => absurd c47 (by omega))
    exact k_ot_par hF hI (by unfold NR; exact hN) hb h h3 ⟨rfl, rfl⟩
set_option maxRecDepth 100000 in
set_option maxHeartbeats 4000000 in
theorem k_out_par_new {T : XW} {I N : Nat → Int} {F : Nat → Int → Int} (hF : FR F) (hI : IR I) (hN : NR N) {p b : Int} (hb : 0 ≤ b ∧ b < 256) (h : b = 40) (h9 : I 9 = 0) (h10 : I 10 = 0) (h3 : N 3 < 60) (hw : -1000 ≤ I 1 ∧ I 1 ≤ 1000) : Sd (rm 2 46 0 0) mX2_takeOutside [.ref 20, J p, J b] (cls I N F ++ T) (cls (uN (uN (uN (uN I 10 1) 1 (I 1 + 1)) 9 1) 8 1) (uN N 3 (N 3 + 1)) (uN (bgF N F (I 1 + 1 - 1)) 3 (uI ((bgF N F (I 1 + 1 - 1)) 3) (((uN N 3 (N 3 + 1)) 3 - 1) * 9 + 3) 1)) ++ T) (none) := by
  unfold Sd
  unfold NR at hN
  refine sp_of (ls := [some (.ref 20), some (J p), some (J b), none, none]) (by decide) (nle rfl) rfl rfl ?_
  refine v_iload_n (dec_of DX2_takeOutside 0 rfl) rfl ?_
  refine v_S1r (k_isBlank (by omega)) lX2_96 (dec_of DX2_takeOutside 1 rfl) (by decide) (nle rfl) rfl ?_
  refine vi_if_eq (tgt := 23) (dec_of DX2_takeOutside 2 rfl) (by decide) (by first | omega | exact bnd_r _ _ | exact hF _ _ | exact hI _ | exact hG _ _ | exact hK _ | (simp [uN] <;> omega)) (fun c4 => ?_) (fun c4 => absurd c4 (by omega))
  refine v_iload_n (dec_of DX2_takeOutside 13 rfl) rfl ?_
  refine vi_bi (dec_of DX2_takeOutside 14 rfl) (by decide) ?_
  refine vi_icmp_eq (tgt := 43) (dec_of DX2_takeOutside 15 rfl) (by decide) (by first | omega | exact bnd_r _ _ | exact hF _ _ | exact hI _ | exact hG _ _ | exact hK _ | (simp [uN] <;> omega)) (by first | omega | exact bnd_r _ _ | exact hF _ _ | exact hI _ | exact hG _ _ | exact hK _ | (simp [uN] <;> omega)) (fun c26 => ?_) (fun c26 => ?_)
  · refine v_aload_n (dec_of DX2_takeOutside 24 rfl) rfl ?_
    refine v_get fX2_73 (dec_of DX2_takeOutside 25 rfl) rfl rfl ?_
    refine vi_if_ne (tgt := 59) (dec_of DX2_takeOutside 26 rfl) (by decide) (by first | omega | exact bnd_r _ _ | exact hF _ _ | exact hI _ | exact hG _ _ | exact hK _ | (simp [uN] <;> omega)) (fun c47 => absurd c47 (by omega)) (fun c47 => ?_)
    refine v_aload_n (dec_of DX2_takeOutside 27 rfl) rfl ?_
    refine v_iload_n (dec_of DX2_takeOutside 28 rfl) rfl ?_
    refine v_V1r (k_begin_new hF hI (by unfold NR; exact hN) (by omega) h10) lX2_103 (dec_of DX2_takeOutside 29 rfl) rfl rfl (by decide) (nle rfl) rfl ?_
    refine vi_if_ne (tgt := 59) (dec_of DX2_takeOutside 30 rfl) (by decide) (by first | omega | exact bnd_r _ _ | exact hF _ _ | exact hI _ | exact hG _ _ | exact hK _ | (simp [uN] <;> omega)) (fun c55 => ?_) (fun c55 => absurd c55 (by omega))
    exact k_ot_par (bgF_r hF (by omega) hN) (((hI.up (by omega)).up (by omega)).up (by omega)) (by unfold NR; simp [uN]; omega) hb h (by simp [uN]; omega) ⟨rfl, rfl⟩
  · refine v_iload_n (dec_of DX2_takeOutside 16 rfl) rfl ?_
    refine v_S1r (k_isLetter (by omega)) lX2_100 (dec_of DX2_takeOutside 17 rfl) (by decide) (nle rfl) rfl ?_
    refine vi_if_ne (tgt := 43) (dec_of DX2_takeOutside 18 rfl) (by decide) (by first | omega | exact bnd_r _ _ | exact hF _ _ | exact hI _ | exact hG _ _ | exact hK _ | (simp [uN] <;> omega)) (fun c33 => ?_) (fun c33 => absurd c33 (by omega))
    refine v_aload_n (dec_of DX2_takeOutside 24 rfl) rfl ?_
    refine v_get fX2_73 (dec_of DX2_takeOutside 25 rfl) rfl rfl ?_
    refine vi_if_ne (tgt := 59) (dec_of DX2_takeOutside 26 rfl) (by decide) (by first | omega | exact bnd_r _ _ | exact hF _ _ | exact hI _ | exact hG _ _ | exact hK _ | (simp [uN] <;> omega)) (fun c47 => absurd c47 (by omega)) (fun c47 => ?_)
    refine v_aload_n (dec_of DX2_takeOutside 27 rfl) rfl ?_
    refine v_iload_n (dec_of DX2_takeOutside 28 rfl) rfl ?_
    refine v_V1r (k_begin_new hF hI (by unfold NR; exact hN) (by omega) h10) lX2_103 (dec_of DX2_takeOutside 29 rfl) rfl rfl (by decide) (nle rfl) rfl ?_
    refine vi_if_ne (tgt := 59) (dec_of DX2_takeOutside 30 rfl) (by decide) (by first | omega | exact bnd_r _ _ | exact hF _ _ | exact hI _ | exact hG _ _ | exact hK _ | (simp [uN] <;> omega)) (fun c55 => ?_) (fun c55 => absurd c55 (by omega))
    exact k_ot_par (bgF_r hF (by omega) hN) (((hI.up (by omega)).up (by omega)).up (by omega)) (by unfold NR; simp [uN]; omega) hb h (by simp [uN]; omega) ⟨rfl, rfl⟩
set_option maxRecDepth 100000 in
set_option maxHeartbeats 4000000 in
theorem k_out_par_old {T : XW} {I N : Nat → Int} {F : Nat → Int → Int} (hF : FR F) (hI : IR I) (hN : NR N) {p b : Int} (hb : 0 ≤ b ∧ b < 256) (h : b = 40) (h9 : I 9 = 0) (h10 : ¬ I 10 = 0) (h3 : N 3 < 60) (hw : -1000 ≤ I 1 ∧ I 1 ≤ 1000) : Sd (rm 2 46 0 0) mX2_takeOutside [.ref 20, J p, J b] (cls I N F ++ T) (cls (uN (uN I 9 1) 8 1) (uN N 3 (N 3 + 1)) (uN (bgF N F (I 1 - 1)) 3 (uI ((bgF N F (I 1 - 1)) 3) (((uN N 3 (N 3 + 1)) 3 - 1) * 9 + 3) 1)) ++ T) (none) := by
  unfold Sd
  unfold NR at hN
  refine sp_of (ls := [some (.ref 20), some (J p), some (J b), none, none]) (by decide) (nle rfl) rfl rfl ?_
  refine v_iload_n (dec_of DX2_takeOutside 0 rfl) rfl ?_
  refine v_S1r (k_isBlank (by omega)) lX2_96 (dec_of DX2_takeOutside 1 rfl) (by decide) (nle rfl) rfl ?_
  refine vi_if_eq (tgt := 23) (dec_of DX2_takeOutside 2 rfl) (by decide) (by first | omega | exact bnd_r _ _ | exact hF _ _ | exact hI _ | exact hG _ _ | exact hK _ | (simp [uN] <;> omega)) (fun c4 => ?_) (fun c4 => absurd c4 (by omega))
  refine v_iload_n (dec_of DX2_takeOutside 13 rfl) rfl ?_
  refine vi_bi (dec_of DX2_takeOutside 14 rfl) (by decide) ?_
  refine vi_icmp_eq (tgt := 43) (dec_of DX2_takeOutside 15 rfl) (by decide) (by first | omega | exact bnd_r _ _ | exact hF _ _ | exact hI _ | exact hG _ _ | exact hK _ | (simp [uN] <;> omega)) (by first | omega | exact bnd_r _ _ | exact hF _ _ | exact hI _ | exact hG _ _ | exact hK _ | (simp [uN] <;> omega)) (fun c26 => ?_) (fun c26 => ?_)
  · refine v_aload_n (dec_of DX2_takeOutside 24 rfl) rfl ?_
    refine v_get fX2_73 (dec_of DX2_takeOutside 25 rfl) rfl rfl ?_
    refine vi_if_ne (tgt := 59) (dec_of DX2_takeOutside 26 rfl) (by decide) (by first | omega | exact bnd_r _ _ | exact hF _ _ | exact hI _ | exact hG _ _ | exact hK _ | (simp [uN] <;> omega)) (fun c47 => absurd c47 (by omega)) (fun c47 => ?_)
    refine v_aload_n (dec_of DX2_takeOutside 27 rfl) rfl ?_
    refine v_iload_n (dec_of DX2_takeOutside 28 rfl) rfl ?_
    refine v_V1r (k_begin_old hF hI (by unfold NR; exact hN) (by omega) h10) lX2_103 (dec_of DX2_takeOutside 29 rfl) rfl rfl (by decide) (nle rfl) rfl ?_
    refine vi_if_ne (tgt := 59) (dec_of DX2_takeOutside 30 rfl) (by decide) (by first | omega | exact bnd_r _ _ | exact hF _ _ | exact hI _ | exact hG _ _ | exact hK _ | (simp [uN] <;> omega)) (fun c55 => ?_) (fun c55 => absurd c55 (by omega))
    exact k_ot_par (bgF_r hF (by omega) hN) (hI.up (by omega)) (by unfold NR; simp [uN]; omega) hb h (by simp [uN]; omega) ⟨rfl, rfl⟩
  · refine v_iload_n (dec_of DX2_takeOutside 16 rfl) rfl ?_
    refine v_S1r (k_isLetter (by omega)) lX2_100 (dec_of DX2_takeOutside 17 rfl) (by decide) (nle rfl) rfl ?_
    refine vi_if_ne (tgt := 43) (dec_of DX2_takeOutside 18 rfl) (by decide) (by first | omega | exact bnd_r _ _ | exact hF _ _ | exact hI _ | exact hG _ _ | exact hK _ | (simp [uN] <;> omega)) (fun c33 => ?_) (fun c33 => absurd c33 (by omega))
    refine v_aload_n (dec_of DX2_takeOutside 24 rfl) rfl ?_
    refine v_get fX2_73 (dec_of DX2_takeOutside 25 rfl) rfl rfl ?_
    refine vi_if_ne (tgt := 59) (dec_of DX2_takeOutside 26 rfl) (by decide) (by first | omega | exact bnd_r _ _ | exact hF _ _ | exact hI _ | exact hG _ _ | exact hK _ | (simp [uN] <;> omega)) (fun c47 => absurd c47 (by omega)) (fun c47 => ?_)
    refine v_aload_n (dec_of DX2_takeOutside 27 rfl) rfl ?_
    refine v_iload_n (dec_of DX2_takeOutside 28 rfl) rfl ?_
    refine v_V1r (k_begin_old hF hI (by unfold NR; exact hN) (by omega) h10) lX2_103 (dec_of DX2_takeOutside 29 rfl) rfl rfl (by decide) (nle rfl) rfl ?_
    refine vi_if_ne (tgt := 59) (dec_of DX2_takeOutside 30 rfl) (by decide) (by first | omega | exact bnd_r _ _ | exact hF _ _ | exact hI _ | exact hG _ _ | exact hK _ | (simp [uN] <;> omega)) (fun c55 => ?_) (fun c55 => absurd c55 (by omega))
    exact k_ot_par (bgF_r hF (by omega) hN) (hI.up (by omega)) (by unfold NR; simp [uN]; omega) hb h (by simp [uN]; omega) ⟨rfl, rfl⟩
set_option maxRecDepth 100000 in
set_option maxHeartbeats 4000000 in
theorem k_out_let_in {T : XW} {I N : Nat → Int} {F : Nat → Int → Int} (hF : FR F) (hI : IR I) (hN : NR N) {p b : Int} (hb : 0 ≤ b ∧ b < 256) (h : ((97 ≤ b ∧ b ≤ 122) ∨ (65 ≤ b ∧ b ≤ 90) ∨ b = 39)) (h2 : N 2 < 1500) (h9 : ¬ I 9 = 0) (h3 : 0 < N 3) : Sd (rm 2 46 0 0) mX2_takeOutside [.ref 20, J p, J b] (cls I N F ++ T) (cls (I) (uN (N) 2 ((N) 2 + 1)) (ltF (N) (F) b) ++ T) (none) := by
  unfold Sd
  unfold NR at hN
  refine sp_of (ls := [some (.ref 20), some (J p), some (J b), none, none]) (by decide) (nle rfl) rfl rfl ?_
  refine v_iload_n (dec_of DX2_takeOutside 0 rfl) rfl ?_
  refine v_S1r (k_isBlank (by omega)) lX2_96 (dec_of DX2_takeOutside 1 rfl) (by decide) (nle rfl) rfl ?_
  refine vi_if_eq (tgt := 23) (dec_of DX2_takeOutside 2 rfl) (by decide) (by first | omega | exact bnd_r _ _ | exact hF _ _ | exact hI _ | exact hG _ _ | exact hK _ | (simp [uN] <;> omega)) (fun c4 => ?_) (fun c4 => absurd c4 (by omega))
  refine v_iload_n (dec_of DX2_takeOutside 13 rfl) rfl ?_
  refine vi_bi (dec_of DX2_takeOutside 14 rfl) (by decide) ?_
  refine vi_icmp_eq (tgt := 43) (dec_of DX2_takeOutside 15 rfl) (by decide) (by first | omega | exact bnd_r _ _ | exact hF _ _ | exact hI _ | exact hG _ _ | exact hK _ | (simp [uN] <;> omega)) (by first | omega | exact bnd_r _ _ | exact hF _ _ | exact hI _ | exact hG _ _ | exact hK _ | (simp [uN] <;> omega)) (fun c26 => ?_) (fun c26 => ?_)
  · refine v_aload_n (dec_of DX2_takeOutside 24 rfl) rfl ?_
    refine v_get fX2_73 (dec_of DX2_takeOutside 25 rfl) rfl rfl ?_
    refine vi_if_ne (tgt := 59) (dec_of DX2_takeOutside 26 rfl) (by decide) (by first | omega | exact bnd_r _ _ | exact hF _ _ | exact hI _ | exact hG _ _ | exact hK _ | (simp [uN] <;> omega)) (fun c47 => ?_) (fun c47 => absurd c47 (by omega))
    exact k_ot_let hF hI (by unfold NR; exact hN) hb h h3 h2 ⟨rfl, rfl⟩
  · refine v_iload_n (dec_of DX2_takeOutside 16 rfl) rfl ?_
    refine v_S1r (k_isLetter (by omega)) lX2_100 (dec_of DX2_takeOutside 17 rfl) (by decide) (nle rfl) rfl ?_
    refine vi_if_ne (tgt := 43) (dec_of DX2_takeOutside 18 rfl) (by decide) (by first | omega | exact bnd_r _ _ | exact hF _ _ | exact hI _ | exact hG _ _ | exact hK _ | (simp [uN] <;> omega)) (fun c33 => ?_) (fun c33 => absurd c33 (by omega))
    refine v_aload_n (dec_of DX2_takeOutside 24 rfl) rfl ?_
    refine v_get fX2_73 (dec_of DX2_takeOutside 25 rfl) rfl rfl ?_
    refine vi_if_ne (tgt := 59) (dec_of DX2_takeOutside 26 rfl) (by decide) (by first | omega | exact bnd_r _ _ | exact hF _ _ | exact hI _ | exact hG _ _ | exact hK _ | (simp [uN] <;> omega)) (fun c47 => ?_) (fun c47 => absurd c47 (by omega))
    exact k_ot_let hF hI (by unfold NR; exact hN) hb h h3 h2 ⟨rfl, rfl⟩
set_option maxRecDepth 100000 in
set_option maxHeartbeats 4000000 in
theorem k_out_let_new {T : XW} {I N : Nat → Int} {F : Nat → Int → Int} (hF : FR F) (hI : IR I) (hN : NR N) {p b : Int} (hb : 0 ≤ b ∧ b < 256) (h : ((97 ≤ b ∧ b ≤ 122) ∨ (65 ≤ b ∧ b ≤ 90) ∨ b = 39)) (h2 : N 2 < 1500) (h9 : I 9 = 0) (h10 : I 10 = 0) (h3 : N 3 < 60) (hw : -1000 ≤ I 1 ∧ I 1 ≤ 1000) : Sd (rm 2 46 0 0) mX2_takeOutside [.ref 20, J p, J b] (cls I N F ++ T) (cls (uN (uN (uN I 10 1) 1 (I 1 + 1)) 9 1) (uN (uN N 3 (N 3 + 1)) 2 ((uN N 3 (N 3 + 1)) 2 + 1)) (ltF (uN N 3 (N 3 + 1)) (bgF N F (I 1 + 1 - 1)) b) ++ T) (none) := by
  unfold Sd
  unfold NR at hN
  refine sp_of (ls := [some (.ref 20), some (J p), some (J b), none, none]) (by decide) (nle rfl) rfl rfl ?_
  refine v_iload_n (dec_of DX2_takeOutside 0 rfl) rfl ?_
  refine v_S1r (k_isBlank (by omega)) lX2_96 (dec_of DX2_takeOutside 1 rfl) (by decide) (nle rfl) rfl ?_
  refine vi_if_eq (tgt := 23) (dec_of DX2_takeOutside 2 rfl) (by decide) (by first | omega | exact bnd_r _ _ | exact hF _ _ | exact hI _ | exact hG _ _ | exact hK _ | (simp [uN] <;> omega)) (fun c4 => ?_) (fun c4 => absurd c4 (by omega))
  refine v_iload_n (dec_of DX2_takeOutside 13 rfl) rfl ?_
  refine vi_bi (dec_of DX2_takeOutside 14 rfl) (by decide) ?_
  refine vi_icmp_eq (tgt := 43) (dec_of DX2_takeOutside 15 rfl) (by decide) (by first | omega | exact bnd_r _ _ | exact hF _ _ | exact hI _ | exact hG _ _ | exact hK _ | (simp [uN] <;> omega)) (by first | omega | exact bnd_r _ _ | exact hF _ _ | exact hI _ | exact hG _ _ | exact hK _ | (simp [uN] <;> omega)) (fun c26 => ?_) (fun c26 => ?_)
  · refine v_aload_n (dec_of DX2_takeOutside 24 rfl) rfl ?_
    refine v_get fX2_73 (dec_of DX2_takeOutside 25 rfl) rfl rfl ?_
    refine vi_if_ne (tgt := 59) (dec_of DX2_takeOutside 26 rfl) (by decide) (by first | omega | exact bnd_r _ _ | exact hF _ _ | exact hI _ | exact hG _ _ | exact hK _ | (simp [uN] <;> omega)) (fun c47 => absurd c47 (by omega)) (fun c47 => ?_)
    refine v_aload_n (dec_of DX2_takeOutside 27 rfl) rfl ?_
    refine v_iload_n (dec_of DX2_takeOutside 28 rfl) rfl ?_
    refine v_V1r (k_begin_new hF hI (by unfold NR; exact hN) (by omega) h10) lX2_103 (dec_of DX2_takeOutside 29 rfl) rfl rfl (by decide) (nle rfl) rfl ?_
    refine vi_if_ne (tgt := 59) (dec_of DX2_takeOutside 30 rfl) (by decide) (by first | omega | exact bnd_r _ _ | exact hF _ _ | exact hI _ | exact hG _ _ | exact hK _ | (simp [uN] <;> omega)) (fun c55 => ?_) (fun c55 => absurd c55 (by omega))
    exact k_ot_let (bgF_r hF (by omega) hN) (((hI.up (by omega)).up (by omega)).up (by omega)) (by unfold NR; simp [uN]; omega) hb h (by simp [uN]; omega) (by simp [uN]; omega) ⟨rfl, rfl⟩
  · refine v_iload_n (dec_of DX2_takeOutside 16 rfl) rfl ?_
    refine v_S1r (k_isLetter (by omega)) lX2_100 (dec_of DX2_takeOutside 17 rfl) (by decide) (nle rfl) rfl ?_
    refine vi_if_ne (tgt := 43) (dec_of DX2_takeOutside 18 rfl) (by decide) (by first | omega | exact bnd_r _ _ | exact hF _ _ | exact hI _ | exact hG _ _ | exact hK _ | (simp [uN] <;> omega)) (fun c33 => ?_) (fun c33 => absurd c33 (by omega))
    refine v_aload_n (dec_of DX2_takeOutside 24 rfl) rfl ?_
    refine v_get fX2_73 (dec_of DX2_takeOutside 25 rfl) rfl rfl ?_
    refine vi_if_ne (tgt := 59) (dec_of DX2_takeOutside 26 rfl) (by decide) (by first | omega | exact bnd_r _ _ | exact hF _ _ | exact hI _ | exact hG _ _ | exact hK _ | (simp [uN] <;> omega)) (fun c47 => absurd c47 (by omega)) (fun c47 => ?_)
    refine v_aload_n (dec_of DX2_takeOutside 27 rfl) rfl ?_
    refine v_iload_n (dec_of DX2_takeOutside 28 rfl) rfl ?_
    refine v_V1r (k_begin_new hF hI (by unfold NR; exact hN) (by omega) h10) lX2_103 (dec_of DX2_takeOutside 29 rfl) rfl rfl (by decide) (nle rfl) rfl ?_
    refine vi_if_ne (tgt := 59) (dec_of DX2_takeOutside 30 rfl) (by decide) (by first | omega | exact bnd_r _ _ | exact hF _ _ | exact hI _ | exact hG _ _ | exact hK _ | (simp [uN] <;> omega)) (fun c55 => ?_) (fun c55 => absurd c55 (by omega))
    exact k_ot_let (bgF_r hF (by omega) hN) (((hI.up (by omega)).up (by omega)).up (by omega)) (by unfold NR; simp [uN]; omega) hb h (by simp [uN]; omega) (by simp [uN]; omega) ⟨rfl, rfl⟩
set_option maxRecDepth 100000 in
set_option maxHeartbeats 4000000 in
theorem k_out_let_old {T : XW} {I N : Nat → Int} {F : Nat → Int → Int} (hF : FR F) (hI : IR I) (hN : NR N) {p b : Int} (hb : 0 ≤ b ∧ b < 256) (h : ((97 ≤ b ∧ b ≤ 122) ∨ (65 ≤ b ∧ b ≤ 90) ∨ b = 39)) (h2 : N 2 < 1500) (h9 : I 9 = 0) (h10 : ¬ I 10 = 0) (h3 : N 3 < 60) (hw : -1000 ≤ I 1 ∧ I 1 ≤ 1000) : Sd (rm 2 46 0 0) mX2_takeOutside [.ref 20, J p, J b] (cls I N F ++ T) (cls (uN I 9 1) (uN (uN N 3 (N 3 + 1)) 2 ((uN N 3 (N 3 + 1)) 2 + 1)) (ltF (uN N 3 (N 3 + 1)) (bgF N F (I 1 - 1)) b) ++ T) (none) := by
  unfold Sd
  unfold NR at hN
  refine sp_of (ls := [some (.ref 20), some (J p), some (J b), none, none]) (by decide) (nle rfl) rfl rfl ?_
  refine v_iload_n (dec_of DX2_takeOutside 0 rfl) rfl ?_
  refine v_S1r (k_isBlank (by omega)) lX2_96 (dec_of DX2_takeOutside 1 rfl) (by decide) (nle rfl) rfl ?_
  refine vi_if_eq (tgt := 23) (dec_of DX2_takeOutside 2 rfl) (by decide) (by first | omega | exact bnd_r _ _ | exact hF _ _ | exact hI _ | exact hG _ _ | exact hK _ | (simp [uN] <;> omega)) (fun c4 => ?_) (fun c4 => absurd c4 (by omega))
  refine v_iload_n (dec_of DX2_takeOutside 13 rfl) rfl ?_
  refine vi_bi (dec_of DX2_takeOutside 14 rfl) (by decide) ?_
  refine vi_icmp_eq (tgt := 43) (dec_of DX2_takeOutside 15 rfl) (by decide) (by first | omega | exact bnd_r _ _ | exact hF _ _ | exact hI _ | exact hG _ _ | exact hK _ | (simp [uN] <;> omega)) (by first | omega | exact bnd_r _ _ | exact hF _ _ | exact hI _ | exact hG _ _ | exact hK _ | (simp [uN] <;> omega)) (fun c26 => ?_) (fun c26 => ?_)
  · refine v_aload_n (dec_of DX2_takeOutside 24 rfl) rfl ?_
    refine v_get fX2_73 (dec_of DX2_takeOutside 25 rfl) rfl rfl ?_
    refine vi_if_ne (tgt := 59) (dec_of DX2_takeOutside 26 rfl) (by decide) (by first | omega | exact bnd_r _ _ | exact hF _ _ | exact hI _ | exact hG _ _ | exact hK _ | (simp [uN] <;> omega)) (fun c47 => absurd c47 (by omega)) (fun c47 => ?_)
    refine v_aload_n (dec_of DX2_takeOutside 27 rfl) rfl ?_
    refine v_iload_n (dec_of DX2_takeOutside 28 rfl) rfl ?_
    refine v_V1r (k_begin_old hF hI (by unfold NR; exact hN) (by omega) h10) lX2_103 (dec_of DX2_takeOutside 29 rfl) rfl rfl (by decide) (nle rfl) rfl ?_
    refine vi_if_ne (tgt := 59) (dec_of DX2_takeOutside 30 rfl) (by decide) (by first | omega | exact bnd_r _ _ | exact hF _ _ | exact hI _ | exact hG _ _ | exact hK _ | (simp [uN] <;> omega)) (fun c55 => ?_) (fun c55 => absurd c55 (by omega))
    exact k_ot_let (bgF_r hF (by omega) hN) (hI.up (by omega)) (by unfold NR; simp [uN]; omega) hb h (by simp [uN]; omega) (by simp [uN]; omega) ⟨rfl, rfl⟩
  · refine v_iload_n (dec_of DX2_takeOutside 16 rfl) rfl ?_
    refine v_S1r (k_isLetter (by omega)) lX2_100 (dec_of DX2_takeOutside 17 rfl) (by decide) (nle rfl) rfl ?_
    refine vi_if_ne (tgt := 43) (dec_of DX2_takeOutside 18 rfl) (by decide) (by first | omega | exact bnd_r _ _ | exact hF _ _ | exact hI _ | exact hG _ _ | exact hK _ | (simp [uN] <;> omega)) (fun c33 => ?_) (fun c33 => absurd c33 (by omega))
    refine v_aload_n (dec_of DX2_takeOutside 24 rfl) rfl ?_
    refine v_get fX2_73 (dec_of DX2_takeOutside 25 rfl) rfl rfl ?_
    refine vi_if_ne (tgt := 59) (dec_of DX2_takeOutside 26 rfl) (by decide) (by first | omega | exact bnd_r _ _ | exact hF _ _ | exact hI _ | exact hG _ _ | exact hK _ | (simp [uN] <;> omega)) (fun c47 => absurd c47 (by omega)) (fun c47 => ?_)
    refine v_aload_n (dec_of DX2_takeOutside 27 rfl) rfl ?_
    refine v_iload_n (dec_of DX2_takeOutside 28 rfl) rfl ?_
    refine v_V1r (k_begin_old hF hI (by unfold NR; exact hN) (by omega) h10) lX2_103 (dec_of DX2_takeOutside 29 rfl) rfl rfl (by decide) (nle rfl) rfl ?_
    refine vi_if_ne (tgt := 59) (dec_of DX2_takeOutside 30 rfl) (by decide) (by first | omega | exact bnd_r _ _ | exact hF _ _ | exact hI _ | exact hG _ _ | exact hK _ | (simp [uN] <;> omega)) (fun c55 => ?_) (fun c55 => absurd c55 (by omega))
    exact k_ot_let (bgF_r hF (by omega) hN) (hI.up (by omega)) (by unfold NR; simp [uN]; omega) hb h (by simp [uN]; omega) (by simp [uN]; omega) ⟨rfl, rfl⟩
