/-! the constructors of the class (printed by wip/tools/gen_c17.py) -/
theorem Vd_n {R : Room} {ex : List (Nat × (Nat → Int32))} {M : MI} {n0 : Nat} {Z : XW → Option Value → Prop} {ca sl pc : Nat} {ls : List (Option Value)} {st st' : List Value} {w w' : XW} (hs : st = st') (h : w = w') (k : Vd R ex M n0 Z ca sl pc ls st' w') : Vd R ex M n0 Z ca sl pc ls st w := hs ▸ h ▸ k
theorem at_l {pre : XW} {x : XE} : (pre ++ [x])[pre.length]? = some x := by simp
theorem at_l2 {pre : XW} {x y : XE} : (pre ++ [x, y])[pre.length]? = some x := by simp
theorem set_l {pre : XW} {x y : XE} : (pre ++ [x]).set pre.length y = pre ++ [y] := by simp
theorem set_l2 {pre : XW} {x y z : XE} : (pre ++ [x, y]).set pre.length z = pre ++ [z, y] := by simp
theorem rk_mono {n m : Nat} (h : n ≤ m) {v : Value} (hv : rk n v = true) : rk m v = true := by
  cases v with
  | ref k =>
    have q : k < n ∨ SB ≤ k := by simpa [rk] using hv
    show (decide (k < m) || decide (SB ≤ k)) = true
    rw [Bool.or_eq_true, decide_eq_true_eq, decide_eq_true_eq]
    rcases q with q | q
    · exact Or.inl (Nat.lt_of_lt_of_le q h)
    · exact Or.inr q
  | _ => rfl
theorem xok_push {n m : Nat} {w : XW} {o : Nat × List Value} (h : xok n w = true) (hm : n ≤ m) (ho : o.2.all (rk m) = true) : xok m (w ++ [.inr o]) = true := by
  unfold xok at *
  rw [List.all_append, Bool.and_eq_true]
  refine ⟨List.all_eq_true.mpr fun e he => ?_, by simp only [List.all_cons, List.all_nil, Bool.and_true]; exact ho⟩
  have := List.all_eq_true.mp h e he
  cases e with
  | inl a => rfl
  | inr q => exact List.all_eq_true.mpr fun v hv => rk_mono hm (List.all_eq_true.mp this v hv)
theorem lok_l {pre : XW} {x : XE} {r c : Int} {rest : List Value} (h : rest.all (fun v => decide (v = .ref pre.length) || (match v with | .ref _ => false | _ => true)) = true) : lok (pre ++ [x]) [some (.ref pre.length), some (J r), some (J c)] rest = true := by
  have a : rkw (pre ++ [x]) (.ref pre.length) = true := by
    show (decide (SB ≤ pre.length) || ((pre ++ [x])[pre.length]?).isSome) = true
    rw [at_l]
    simp
  unfold lok
  rw [Bool.and_eq_true]
  refine ⟨by simp only [List.all_cons, List.all_nil, a, Bool.and_true, Bool.true_and]; rfl, List.all_eq_true.mpr fun v hv => ?_⟩
  have := List.all_eq_true.mp h v hv
  rw [Bool.or_eq_true] at this
  rcases this with q | q
  · rw [of_decide_eq_true q]; exact a
  · cases v with
    | ref k => cases q
    | _ => rfl
theorem dfX5 : ∀ j, j < 4 → defaultValue (tyX5 j) = vp_V [J 0, J 0, .null, J 0] j := fun j h => by
  match j, h with
  | 0, _ => rfl
  | 1, _ => rfl
  | 2, _ => rfl
  | 3, _ => rfl
  | k + 4, h => omega
theorem dfX3 : ∀ j, j < 9 → defaultValue (tyX3 j) = vp_V [.null, .null, .null, .null, .null, .null, .null, J 0, J 0] j := fun j h => by
  match j, h with
  | 0, _ => rfl
  | 1, _ => rfl
  | 2, _ => rfl
  | 3, _ => rfl
  | 4, _ => rfl
  | 5, _ => rfl
  | 6, _ => rfl
  | 7, _ => rfl
  | 8, _ => rfl
  | k + 9, h => omega
theorem dfX2 : ∀ j, j < 12 → defaultValue (tyX2 j) = vp_V [.null, .null, J 0, J 0, J 0, J 0, J 0, J 0, J 0, J 0, J 0, J 0] j := fun j h => by
  match j, h with
  | 0, _ => rfl
  | 1, _ => rfl
  | 2, _ => rfl
  | 3, _ => rfl
  | 4, _ => rfl
  | 5, _ => rfl
  | 6, _ => rfl
  | 7, _ => rfl
  | 8, _ => rfl
  | 9, _ => rfl
  | 10, _ => rfl
  | 11, _ => rfl
  | k + 12, h => omega
theorem dfX1 : ∀ j, j < 4 → defaultValue (tyX1 j) = vp_V [.null, .null, .null, J 0] j := fun j h => by
  match j, h with
  | 0, _ => rfl
  | 1, _ => rfl
  | 2, _ => rfl
  | 3, _ => rfl
  | k + 4, h => omega
theorem dfX0 : ∀ j, j < 8 → defaultValue (tyX0 j) = vp_V [.null, J 0, J 0, J 0, J 0, J 0, J 0, J 0] j := fun j h => by
  match j, h with
  | 0, _ => rfl
  | 1, _ => rfl
  | 2, _ => rfl
  | 3, _ => rfl
  | 4, _ => rfl
  | 5, _ => rfl
  | 6, _ => rfl
  | 7, _ => rfl
  | k + 8, h => omega
theorem dfX8 : ∀ j, j < 6 → defaultValue (tyX8 j) = vp_V [.null, .null, .null, .null, .null, J 0] j := fun j h => by
  match j, h with
  | 0, _ => rfl
  | 1, _ => rfl
  | 2, _ => rfl
  | 3, _ => rfl
  | 4, _ => rfl
  | 5, _ => rfl
  | k + 6, h => omega
set_option maxHeartbeats 4000000 in
theorem c_tbl {pre : XW} {r c : Int} {sz : Nat} (hr : 0 ≤ r ∧ r ≤ 2000) (hc : 1 ≤ c ∧ c ≤ 10) (hs : r * c = (sz : Int)) (hz : sz ≤ 20000) (hok : xok pre.length pre = true) (hsb : pre.length + 2 ≤ SB) : Sd (rm 1 21 1 sz) mX5_init [.ref pre.length, J r, J c] (pre ++ [.inr (4, [J 0, J 0, .null, J 0])]) (pre ++ [.inr (4, [J r, J c, .ref (pre.length + 1), J 0]), .inl (sz, fun _ => 0)]) none := by
  unfold Sd
  refine sp_of (ls := [some (.ref pre.length), some (J r), some (J c)]) (by decide) (nle rfl) rfl rfl ?_
  refine v_aload_n (dec_of DX5_init 0 rfl) rfl ?_
  refine v_objInit (dec_of DX5_init 1 rfl) oX5_3 ⟨Nat.le_refl 1, by show 20 ≤ 21; decide⟩ (nle rfl) ?_
  refine v_aload_n (dec_of DX5_init 2 rfl) rfl ?_
  refine v_iload_n (dec_of DX5_init 3 rfl) rfl ?_
  refine vi_const (dec_of DX5_init 4 rfl) ?_
  refine v_S2r (k_max (by omega) (by decide)) lX5_9 (dec_of DX5_init 5 rfl) ⟨Nat.le_refl 1, by show 8 + (2 + 11) + 0 ≤ 21; decide, Nat.zero_le _, Nat.zero_le _⟩ (nle rfl) (lok_l (by simp)) ?_
  rw [if_neg (show ¬ r < 0 by omega)]
  refine v_putF fX5_15 (fun q h => by cases h; rfl) rfl (dec_of DX5_init 6 rfl) at_l (by decide) (fun _ => rfl) (fun _ => rfl) ?_
  refine Vd_w (w' := pre ++ [.inr (4, [J r, J 0, .null, J 0])]) set_l ?_
  refine v_aload_n (dec_of DX5_init 7 rfl) rfl ?_
  refine v_iload_n (dec_of DX5_init 8 rfl) rfl ?_
  refine vi_const (dec_of DX5_init 9 rfl) ?_
  refine v_S2r (k_max (by omega) (by decide)) lX5_9 (dec_of DX5_init 10 rfl) ⟨Nat.le_refl 1, by show 8 + (2 + 11) + 0 ≤ 21; decide, Nat.zero_le _, Nat.zero_le _⟩ (nle rfl) (lok_l (by simp)) ?_
  rw [if_neg (show ¬ c < 1 by omega)]
  refine v_putF fX5_21 (fun q h => by cases h; rfl) rfl (dec_of DX5_init 11 rfl) at_l (by show 1 < 4; decide) (fun _ => rfl) (fun _ => rfl) ?_
  refine Vd_w (w' := pre ++ [.inr (4, [J r, J c, .null, J 0])]) set_l ?_
  refine v_aload_n (dec_of DX5_init 12 rfl) rfl ?_
  refine v_aload_n (dec_of DX5_init 13 rfl) rfl ?_
  refine v_get fX5_15 (dec_of DX5_init 14 rfl) at_l rfl ?_
  refine v_aload_n (dec_of DX5_init 15 rfl) rfl ?_
  refine v_get fX5_21 (dec_of DX5_init 16 rfl) at_l rfl ?_
  refine vi_mul (dec_of DX5_init 17 rfl) ?_
  rw [hs]
  have e0 : ¬ iI (sz : Int) < 0 := by rw [iI_0, iI_lt (by omega) (by decide)]; omega
  refine v_newa (N := sz) (dec_of DX5_init 18 rfl) e0 (by rw [iI_clamp (by omega)]; omega) (by omega) (xok_push hok (by simp) (by simp [rk])) (by rw [List.length_append]; exact hsb) ⟨by show 0 + 1 ≤ 1; decide, by show 0 + sz ≤ sz; omega⟩ (lok_l (by simp)) ?_
  refine Vd_n (st' := [.ref (pre.length + 1), .ref pre.length]) (w' := pre ++ [.inr (4, [J r, J c, .null, J 0]), .inl (sz, fun _ => 0)]) (by simp) (by simp) ?_
  refine v_putF fX5_24 (fun q h => by cases h; rfl) rfl (dec_of DX5_init 19 rfl) at_l2 (by show 2 < 4; decide) (fun _ => rfl) (fun _ => rfl) ?_
  refine Vd_w (w' := pre ++ [.inr (4, [J r, J c, .ref (pre.length + 1), J 0]), .inl (sz, fun _ => 0)]) set_l2 ?_
  refine v_aload_n (dec_of DX5_init 20 rfl) rfl ?_
  refine vi_const (dec_of DX5_init 21 rfl) ?_
  refine vi_put fX5_28 (dec_of DX5_init 22 rfl) at_l2 (by show 3 < 4; decide) ?_
  refine Vd_w (w' := pre ++ [.inr (4, [J r, J c, .ref (pre.length + 1), J 0]), .inl (sz, fun _ => 0)]) set_l2 ?_
  exact vi_vret (dec_of DX5_init 23 rfl) rfl ⟨by show 0 + 1 ≤ 1; decide, by show 0 + sz ≤ sz; omega⟩ ⟨rfl, rfl⟩
set_option maxRecDepth 100000 in
set_option maxHeartbeats 4000000 in
theorem c_score : Sd (rm 2 43 14 4488) mX3_init [.ref 5] [.inr (5, [.ref 1, .ref 3, .null, .null, .null, J 0]), .inr (4, [J 1500, J 1, .ref 2, J 0]), .inl (1500, fun _ => 0), .inr (4, [J 1500, J 1, .ref 4, J 0]), .inl (1500, fun _ => 0), .inr (3, [.null, .null, .null, .null, .null, .null, .null, J 0, J 0])] [.inr (5, [.ref 1, .ref 3, .null, .null, .null, J 0]), .inr (4, [J 1500, J 1, .ref 2, J 0]), .inl (1500, fun _ => 0), .inr (4, [J 1500, J 1, .ref 4, J 0]), .inl (1500, fun _ => 0), .inr (3, [.ref 6, .ref 8, .ref 10, .ref 12, .ref 14, .ref 16, .ref 18, J 0, J 0]), .inr (4, [J 1500, J 1, .ref 7, J 0]), .inl (1500, fun _ => 0), .inr (4, [J 60, J 9, .ref 9, J 0]), .inl (540, fun _ => 0), .inr (4, [J 150, J 8, .ref 11, J 0]), .inl (1200, fun _ => 0), .inr (4, [J 150, J 4, .ref 13, J 0]), .inl (600, fun _ => 0), .inr (4, [J 30, J 2, .ref 15, J 0]), .inl (60, fun _ => 0), .inr (4, [J 20, J 2, .ref 17, J 0]), .inl (40, fun _ => 0), .inr (4, [J 260, J 2, .ref 19, J 0]), .inl (520, fun _ => 0)] none := by
  unfold Sd
  refine sp_of (ls := [some (.ref 5)]) (by decide) (nle rfl) rfl rfl ?_
  refine v_aload_n (dec_of DX3_init 0 rfl) rfl ?_
  refine v_objInit (dec_of DX3_init 1 rfl) oX3_5 ⟨by decide, by decide⟩ (nle rfl) ?_
  refine v_aload_n (dec_of DX3_init 2 rfl) rfl ?_
  refine v_new (fs := [J 0, J 0, .null, J 0]) nX3_11 (dec_of DX3_init 3 rfl) dfX5 (fun _ => rfl) rfl (by decide) ⟨by decide, by decide⟩ rfl ?_
  refine Vd_n (st' := [.ref 6, .ref 5]) (w' := [.inr (5, [.ref 1, .ref 3, .null, .null, .null, J 0]), .inr (4, [J 1500, J 1, .ref 2, J 0]), .inl (1500, fun _ => 0), .inr (4, [J 1500, J 1, .ref 4, J 0]), .inl (1500, fun _ => 0), .inr (3, [.null, .null, .null, .null, .null, .null, .null, J 0, J 0]), .inr (4, [J 0, J 0, .null, J 0])]) rfl rfl ?_
  refine v_dup (dec_of DX3_init 4 rfl) rfl ?_
  refine vi_si (dec_of DX3_init 5 rfl) (by decide) ?_
  refine vi_const (dec_of DX3_init 6 rfl) ?_
  refine v_callI (As := [J 1500, J 1]) lX3_13 (dec_of DX3_init 7 rfl) rfl (c_tbl (pre := [.inr (5, [.ref 1, .ref 3, .null, .null, .null, J 0]), .inr (4, [J 1500, J 1, .ref 2, J 0]), .inl (1500, fun _ => 0), .inr (4, [J 1500, J 1, .ref 4, J 0]), .inl (1500, fun _ => 0), .inr (3, [.null, .null, .null, .null, .null, .null, .null, J 0, J 0])]) (r := 1500) (c := 1) (sz := 1500) (by decide) (by decide) (by decide) (by decide) rfl (by decide)) rfl rfl ⟨by decide, by decide, by decide, by decide⟩ (nle rfl) rfl ?_
  intro w' r' q _
  obtain ⟨rfl, rfl⟩ := q
  refine Vd_n (st' := [.ref 6, .ref 5]) (w' := [.inr (5, [.ref 1, .ref 3, .null, .null, .null, J 0]), .inr (4, [J 1500, J 1, .ref 2, J 0]), .inl (1500, fun _ => 0), .inr (4, [J 1500, J 1, .ref 4, J 0]), .inl (1500, fun _ => 0), .inr (3, [.null, .null, .null, .null, .null, .null, .null, J 0, J 0]), .inr (4, [J 1500, J 1, .ref 7, J 0]), .inl (1500, fun _ => 0)]) rfl rfl ?_
  refine v_putF fX3_16 (fun q h => by cases h; rfl) rfl (dec_of DX3_init 8 rfl) rfl (by decide) (fun _ => rfl) (fun _ => rfl) ?_
  refine Vd_n (st' := []) (w' := [.inr (5, [.ref 1, .ref 3, .null, .null, .null, J 0]), .inr (4, [J 1500, J 1, .ref 2, J 0]), .inl (1500, fun _ => 0), .inr (4, [J 1500, J 1, .ref 4, J 0]), .inl (1500, fun _ => 0), .inr (3, [.ref 6, .null, .null, .null, .null, .null, .null, J 0, J 0]), .inr (4, [J 1500, J 1, .ref 7, J 0]), .inl (1500, fun _ => 0)]) rfl rfl ?_
  refine v_aload_n (dec_of DX3_init 9 rfl) rfl ?_
  refine v_new (fs := [J 0, J 0, .null, J 0]) nX3_11 (dec_of DX3_init 10 rfl) dfX5 (fun _ => rfl) rfl (by decide) ⟨by decide, by decide⟩ rfl ?_
  refine Vd_n (st' := [.ref 8, .ref 5]) (w' := [.inr (5, [.ref 1, .ref 3, .null, .null, .null, J 0]), .inr (4, [J 1500, J 1, .ref 2, J 0]), .inl (1500, fun _ => 0), .inr (4, [J 1500, J 1, .ref 4, J 0]), .inl (1500, fun _ => 0), .inr (3, [.ref 6, .null, .null, .null, .null, .null, .null, J 0, J 0]), .inr (4, [J 1500, J 1, .ref 7, J 0]), .inl (1500, fun _ => 0), .inr (4, [J 0, J 0, .null, J 0])]) rfl rfl ?_
  refine v_dup (dec_of DX3_init 11 rfl) rfl ?_
  refine vi_bi (dec_of DX3_init 12 rfl) (by decide) ?_
  refine vi_bi (dec_of DX3_init 13 rfl) (by decide) ?_
  refine v_callI (As := [J 60, J 9]) lX3_13 (dec_of DX3_init 14 rfl) rfl (c_tbl (pre := [.inr (5, [.ref 1, .ref 3, .null, .null, .null, J 0]), .inr (4, [J 1500, J 1, .ref 2, J 0]), .inl (1500, fun _ => 0), .inr (4, [J 1500, J 1, .ref 4, J 0]), .inl (1500, fun _ => 0), .inr (3, [.ref 6, .null, .null, .null, .null, .null, .null, J 0, J 0]), .inr (4, [J 1500, J 1, .ref 7, J 0]), .inl (1500, fun _ => 0)]) (r := 60) (c := 9) (sz := 540) (by decide) (by decide) (by decide) (by decide) rfl (by decide)) rfl rfl ⟨by decide, by decide, by decide, by decide⟩ (nle rfl) rfl ?_
  intro w' r' q _
  obtain ⟨rfl, rfl⟩ := q
  refine Vd_n (st' := [.ref 8, .ref 5]) (w' := [.inr (5, [.ref 1, .ref 3, .null, .null, .null, J 0]), .inr (4, [J 1500, J 1, .ref 2, J 0]), .inl (1500, fun _ => 0), .inr (4, [J 1500, J 1, .ref 4, J 0]), .inl (1500, fun _ => 0), .inr (3, [.ref 6, .null, .null, .null, .null, .null, .null, J 0, J 0]), .inr (4, [J 1500, J 1, .ref 7, J 0]), .inl (1500, fun _ => 0), .inr (4, [J 60, J 9, .ref 9, J 0]), .inl (540, fun _ => 0)]) rfl rfl ?_
  refine v_putF fX3_20 (fun q h => by cases h; rfl) rfl (dec_of DX3_init 15 rfl) rfl (by decide) (fun _ => rfl) (fun _ => rfl) ?_
  refine Vd_n (st' := []) (w' := [.inr (5, [.ref 1, .ref 3, .null, .null, .null, J 0]), .inr (4, [J 1500, J 1, .ref 2, J 0]), .inl (1500, fun _ => 0), .inr (4, [J 1500, J 1, .ref 4, J 0]), .inl (1500, fun _ => 0), .inr (3, [.ref 6, .ref 8, .null, .null, .null, .null, .null, J 0, J 0]), .inr (4, [J 1500, J 1, .ref 7, J 0]), .inl (1500, fun _ => 0), .inr (4, [J 60, J 9, .ref 9, J 0]), .inl (540, fun _ => 0)]) rfl rfl ?_
  refine v_aload_n (dec_of DX3_init 16 rfl) rfl ?_
  refine v_new (fs := [J 0, J 0, .null, J 0]) nX3_11 (dec_of DX3_init 17 rfl) dfX5 (fun _ => rfl) rfl (by decide) ⟨by decide, by decide⟩ rfl ?_
  refine Vd_n (st' := [.ref 10, .ref 5]) (w' := [.inr (5, [.ref 1, .ref 3, .null, .null, .null, J 0]), .inr (4, [J 1500, J 1, .ref 2, J 0]), .inl (1500, fun _ => 0), .inr (4, [J 1500, J 1, .ref 4, J 0]), .inl (1500, fun _ => 0), .inr (3, [.ref 6, .ref 8, .null, .null, .null, .null, .null, J 0, J 0]), .inr (4, [J 1500, J 1, .ref 7, J 0]), .inl (1500, fun _ => 0), .inr (4, [J 60, J 9, .ref 9, J 0]), .inl (540, fun _ => 0), .inr (4, [J 0, J 0, .null, J 0])]) rfl rfl ?_
  refine v_dup (dec_of DX3_init 18 rfl) rfl ?_
  refine vi_si (dec_of DX3_init 19 rfl) (by decide) ?_
  refine vi_bi (dec_of DX3_init 20 rfl) (by decide) ?_
  refine v_callI (As := [J 150, J 8]) lX3_13 (dec_of DX3_init 21 rfl) rfl (c_tbl (pre := [.inr (5, [.ref 1, .ref 3, .null, .null, .null, J 0]), .inr (4, [J 1500, J 1, .ref 2, J 0]), .inl (1500, fun _ => 0), .inr (4, [J 1500, J 1, .ref 4, J 0]), .inl (1500, fun _ => 0), .inr (3, [.ref 6, .ref 8, .null, .null, .null, .null, .null, J 0, J 0]), .inr (4, [J 1500, J 1, .ref 7, J 0]), .inl (1500, fun _ => 0), .inr (4, [J 60, J 9, .ref 9, J 0]), .inl (540, fun _ => 0)]) (r := 150) (c := 8) (sz := 1200) (by decide) (by decide) (by decide) (by decide) rfl (by decide)) rfl rfl ⟨by decide, by decide, by decide, by decide⟩ (nle rfl) rfl ?_
  intro w' r' q _
  obtain ⟨rfl, rfl⟩ := q
  refine Vd_n (st' := [.ref 10, .ref 5]) (w' := [.inr (5, [.ref 1, .ref 3, .null, .null, .null, J 0]), .inr (4, [J 1500, J 1, .ref 2, J 0]), .inl (1500, fun _ => 0), .inr (4, [J 1500, J 1, .ref 4, J 0]), .inl (1500, fun _ => 0), .inr (3, [.ref 6, .ref 8, .null, .null, .null, .null, .null, J 0, J 0]), .inr (4, [J 1500, J 1, .ref 7, J 0]), .inl (1500, fun _ => 0), .inr (4, [J 60, J 9, .ref 9, J 0]), .inl (540, fun _ => 0), .inr (4, [J 150, J 8, .ref 11, J 0]), .inl (1200, fun _ => 0)]) rfl rfl ?_
  refine v_putF fX3_23 (fun q h => by cases h; rfl) rfl (dec_of DX3_init 22 rfl) rfl (by decide) (fun _ => rfl) (fun _ => rfl) ?_
  refine Vd_n (st' := []) (w' := [.inr (5, [.ref 1, .ref 3, .null, .null, .null, J 0]), .inr (4, [J 1500, J 1, .ref 2, J 0]), .inl (1500, fun _ => 0), .inr (4, [J 1500, J 1, .ref 4, J 0]), .inl (1500, fun _ => 0), .inr (3, [.ref 6, .ref 8, .ref 10, .null, .null, .null, .null, J 0, J 0]), .inr (4, [J 1500, J 1, .ref 7, J 0]), .inl (1500, fun _ => 0), .inr (4, [J 60, J 9, .ref 9, J 0]), .inl (540, fun _ => 0), .inr (4, [J 150, J 8, .ref 11, J 0]), .inl (1200, fun _ => 0)]) rfl rfl ?_
  refine v_aload_n (dec_of DX3_init 23 rfl) rfl ?_
  refine v_new (fs := [J 0, J 0, .null, J 0]) nX3_11 (dec_of DX3_init 24 rfl) dfX5 (fun _ => rfl) rfl (by decide) ⟨by decide, by decide⟩ rfl ?_
  refine Vd_n (st' := [.ref 12, .ref 5]) (w' := [.inr (5, [.ref 1, .ref 3, .null, .null, .null, J 0]), .inr (4, [J 1500, J 1, .ref 2, J 0]), .inl (1500, fun _ => 0), .inr (4, [J 1500, J 1, .ref 4, J 0]), .inl (1500, fun _ => 0), .inr (3, [.ref 6, .ref 8, .ref 10, .null, .null, .null, .null, J 0, J 0]), .inr (4, [J 1500, J 1, .ref 7, J 0]), .inl (1500, fun _ => 0), .inr (4, [J 60, J 9, .ref 9, J 0]), .inl (540, fun _ => 0), .inr (4, [J 150, J 8, .ref 11, J 0]), .inl (1200, fun _ => 0), .inr (4, [J 0, J 0, .null, J 0])]) rfl rfl ?_
  refine v_dup (dec_of DX3_init 25 rfl) rfl ?_
  refine vi_si (dec_of DX3_init 26 rfl) (by decide) ?_
  refine vi_const (dec_of DX3_init 27 rfl) ?_
  refine v_callI (As := [J 150, J 4]) lX3_13 (dec_of DX3_init 28 rfl) rfl (c_tbl (pre := [.inr (5, [.ref 1, .ref 3, .null, .null, .null, J 0]), .inr (4, [J 1500, J 1, .ref 2, J 0]), .inl (1500, fun _ => 0), .inr (4, [J 1500, J 1, .ref 4, J 0]), .inl (1500, fun _ => 0), .inr (3, [.ref 6, .ref 8, .ref 10, .null, .null, .null, .null, J 0, J 0]), .inr (4, [J 1500, J 1, .ref 7, J 0]), .inl (1500, fun _ => 0), .inr (4, [J 60, J 9, .ref 9, J 0]), .inl (540, fun _ => 0), .inr (4, [J 150, J 8, .ref 11, J 0]), .inl (1200, fun _ => 0)]) (r := 150) (c := 4) (sz := 600) (by decide) (by decide) (by decide) (by decide) rfl (by decide)) rfl rfl ⟨by decide, by decide, by decide, by decide⟩ (nle rfl) rfl ?_
  intro w' r' q _
  obtain ⟨rfl, rfl⟩ := q
  refine Vd_n (st' := [.ref 12, .ref 5]) (w' := [.inr (5, [.ref 1, .ref 3, .null, .null, .null, J 0]), .inr (4, [J 1500, J 1, .ref 2, J 0]), .inl (1500, fun _ => 0), .inr (4, [J 1500, J 1, .ref 4, J 0]), .inl (1500, fun _ => 0), .inr (3, [.ref 6, .ref 8, .ref 10, .null, .null, .null, .null, J 0, J 0]), .inr (4, [J 1500, J 1, .ref 7, J 0]), .inl (1500, fun _ => 0), .inr (4, [J 60, J 9, .ref 9, J 0]), .inl (540, fun _ => 0), .inr (4, [J 150, J 8, .ref 11, J 0]), .inl (1200, fun _ => 0), .inr (4, [J 150, J 4, .ref 13, J 0]), .inl (600, fun _ => 0)]) rfl rfl ?_
  refine v_putF fX3_26 (fun q h => by cases h; rfl) rfl (dec_of DX3_init 29 rfl) rfl (by decide) (fun _ => rfl) (fun _ => rfl) ?_
  refine Vd_n (st' := []) (w' := [.inr (5, [.ref 1, .ref 3, .null, .null, .null, J 0]), .inr (4, [J 1500, J 1, .ref 2, J 0]), .inl (1500, fun _ => 0), .inr (4, [J 1500, J 1, .ref 4, J 0]), .inl (1500, fun _ => 0), .inr (3, [.ref 6, .ref 8, .ref 10, .ref 12, .null, .null, .null, J 0, J 0]), .inr (4, [J 1500, J 1, .ref 7, J 0]), .inl (1500, fun _ => 0), .inr (4, [J 60, J 9, .ref 9, J 0]), .inl (540, fun _ => 0), .inr (4, [J 150, J 8, .ref 11, J 0]), .inl (1200, fun _ => 0), .inr (4, [J 150, J 4, .ref 13, J 0]), .inl (600, fun _ => 0)]) rfl rfl ?_
  refine v_aload_n (dec_of DX3_init 30 rfl) rfl ?_
  refine v_new (fs := [J 0, J 0, .null, J 0]) nX3_11 (dec_of DX3_init 31 rfl) dfX5 (fun _ => rfl) rfl (by decide) ⟨by decide, by decide⟩ rfl ?_
  refine Vd_n (st' := [.ref 14, .ref 5]) (w' := [.inr (5, [.ref 1, .ref 3, .null, .null, .null, J 0]), .inr (4, [J 1500, J 1, .ref 2, J 0]), .inl (1500, fun _ => 0), .inr (4, [J 1500, J 1, .ref 4, J 0]), .inl (1500, fun _ => 0), .inr (3, [.ref 6, .ref 8, .ref 10, .ref 12, .null, .null, .null, J 0, J 0]), .inr (4, [J 1500, J 1, .ref 7, J 0]), .inl (1500, fun _ => 0), .inr (4, [J 60, J 9, .ref 9, J 0]), .inl (540, fun _ => 0), .inr (4, [J 150, J 8, .ref 11, J 0]), .inl (1200, fun _ => 0), .inr (4, [J 150, J 4, .ref 13, J 0]), .inl (600, fun _ => 0), .inr (4, [J 0, J 0, .null, J 0])]) rfl rfl ?_
  refine v_dup (dec_of DX3_init 32 rfl) rfl ?_
  refine vi_bi (dec_of DX3_init 33 rfl) (by decide) ?_
  refine vi_const (dec_of DX3_init 34 rfl) ?_
  refine v_callI (As := [J 30, J 2]) lX3_13 (dec_of DX3_init 35 rfl) rfl (c_tbl (pre := [.inr (5, [.ref 1, .ref 3, .null, .null, .null, J 0]), .inr (4, [J 1500, J 1, .ref 2, J 0]), .inl (1500, fun _ => 0), .inr (4, [J 1500, J 1, .ref 4, J 0]), .inl (1500, fun _ => 0), .inr (3, [.ref 6, .ref 8, .ref 10, .ref 12, .null, .null, .null, J 0, J 0]), .inr (4, [J 1500, J 1, .ref 7, J 0]), .inl (1500, fun _ => 0), .inr (4, [J 60, J 9, .ref 9, J 0]), .inl (540, fun _ => 0), .inr (4, [J 150, J 8, .ref 11, J 0]), .inl (1200, fun _ => 0), .inr (4, [J 150, J 4, .ref 13, J 0]), .inl (600, fun _ => 0)]) (r := 30) (c := 2) (sz := 60) (by decide) (by decide) (by decide) (by decide) rfl (by decide)) rfl rfl ⟨by decide, by decide, by decide, by decide⟩ (nle rfl) rfl ?_
  intro w' r' q _
  obtain ⟨rfl, rfl⟩ := q
  refine Vd_n (st' := [.ref 14, .ref 5]) (w' := [.inr (5, [.ref 1, .ref 3, .null, .null, .null, J 0]), .inr (4, [J 1500, J 1, .ref 2, J 0]), .inl (1500, fun _ => 0), .inr (4, [J 1500, J 1, .ref 4, J 0]), .inl (1500, fun _ => 0), .inr (3, [.ref 6, .ref 8, .ref 10, .ref 12, .null, .null, .null, J 0, J 0]), .inr (4, [J 1500, J 1, .ref 7, J 0]), .inl (1500, fun _ => 0), .inr (4, [J 60, J 9, .ref 9, J 0]), .inl (540, fun _ => 0), .inr (4, [J 150, J 8, .ref 11, J 0]), .inl (1200, fun _ => 0), .inr (4, [J 150, J 4, .ref 13, J 0]), .inl (600, fun _ => 0), .inr (4, [J 30, J 2, .ref 15, J 0]), .inl (60, fun _ => 0)]) rfl rfl ?_
  refine v_putF fX3_29 (fun q h => by cases h; rfl) rfl (dec_of DX3_init 36 rfl) rfl (by decide) (fun _ => rfl) (fun _ => rfl) ?_
  refine Vd_n (st' := []) (w' := [.inr (5, [.ref 1, .ref 3, .null, .null, .null, J 0]), .inr (4, [J 1500, J 1, .ref 2, J 0]), .inl (1500, fun _ => 0), .inr (4, [J 1500, J 1, .ref 4, J 0]), .inl (1500, fun _ => 0), .inr (3, [.ref 6, .ref 8, .ref 10, .ref 12, .ref 14, .null, .null, J 0, J 0]), .inr (4, [J 1500, J 1, .ref 7, J 0]), .inl (1500, fun _ => 0), .inr (4, [J 60, J 9, .ref 9, J 0]), .inl (540, fun _ => 0), .inr (4, [J 150, J 8, .ref 11, J 0]), .inl (1200, fun _ => 0), .inr (4, [J 150, J 4, .ref 13, J 0]), .inl (600, fun _ => 0), .inr (4, [J 30, J 2, .ref 15, J 0]), .inl (60, fun _ => 0)]) rfl rfl ?_
  refine v_aload_n (dec_of DX3_init 37 rfl) rfl ?_
  refine v_new (fs := [J 0, J 0, .null, J 0]) nX3_11 (dec_of DX3_init 38 rfl) dfX5 (fun _ => rfl) rfl (by decide) ⟨by decide, by decide⟩ rfl ?_
  refine Vd_n (st' := [.ref 16, .ref 5]) (w' := [.inr (5, [.ref 1, .ref 3, .null, .null, .null, J 0]), .inr (4, [J 1500, J 1, .ref 2, J 0]), .inl (1500, fun _ => 0), .inr (4, [J 1500, J 1, .ref 4, J 0]), .inl (1500, fun _ => 0), .inr (3, [.ref 6, .ref 8, .ref 10, .ref 12, .ref 14, .null, .null, J 0, J 0]), .inr (4, [J 1500, J 1, .ref 7, J 0]), .inl (1500, fun _ => 0), .inr (4, [J 60, J 9, .ref 9, J 0]), .inl (540, fun _ => 0), .inr (4, [J 150, J 8, .ref 11, J 0]), .inl (1200, fun _ => 0), .inr (4, [J 150, J 4, .ref 13, J 0]), .inl (600, fun _ => 0), .inr (4, [J 30, J 2, .ref 15, J 0]), .inl (60, fun _ => 0), .inr (4, [J 0, J 0, .null, J 0])]) rfl rfl ?_
  refine v_dup (dec_of DX3_init 39 rfl) rfl ?_
  refine vi_bi (dec_of DX3_init 40 rfl) (by decide) ?_
  refine vi_const (dec_of DX3_init 41 rfl) ?_
  refine v_callI (As := [J 20, J 2]) lX3_13 (dec_of DX3_init 42 rfl) rfl (c_tbl (pre := [.inr (5, [.ref 1, .ref 3, .null, .null, .null, J 0]), .inr (4, [J 1500, J 1, .ref 2, J 0]), .inl (1500, fun _ => 0), .inr (4, [J 1500, J 1, .ref 4, J 0]), .inl (1500, fun _ => 0), .inr (3, [.ref 6, .ref 8, .ref 10, .ref 12, .ref 14, .null, .null, J 0, J 0]), .inr (4, [J 1500, J 1, .ref 7, J 0]), .inl (1500, fun _ => 0), .inr (4, [J 60, J 9, .ref 9, J 0]), .inl (540, fun _ => 0), .inr (4, [J 150, J 8, .ref 11, J 0]), .inl (1200, fun _ => 0), .inr (4, [J 150, J 4, .ref 13, J 0]), .inl (600, fun _ => 0), .inr (4, [J 30, J 2, .ref 15, J 0]), .inl (60, fun _ => 0)]) (r := 20) (c := 2) (sz := 40) (by decide) (by decide) (by decide) (by decide) rfl (by decide)) rfl rfl ⟨by decide, by decide, by decide, by decide⟩ (nle rfl) rfl ?_
  intro w' r' q _
  obtain ⟨rfl, rfl⟩ := q
  refine Vd_n (st' := [.ref 16, .ref 5]) (w' := [.inr (5, [.ref 1, .ref 3, .null, .null, .null, J 0]), .inr (4, [J 1500, J 1, .ref 2, J 0]), .inl (1500, fun _ => 0), .inr (4, [J 1500, J 1, .ref 4, J 0]), .inl (1500, fun _ => 0), .inr (3, [.ref 6, .ref 8, .ref 10, .ref 12, .ref 14, .null, .null, J 0, J 0]), .inr (4, [J 1500, J 1, .ref 7, J 0]), .inl (1500, fun _ => 0), .inr (4, [J 60, J 9, .ref 9, J 0]), .inl (540, fun _ => 0), .inr (4, [J 150, J 8, .ref 11, J 0]), .inl (1200, fun _ => 0), .inr (4, [J 150, J 4, .ref 13, J 0]), .inl (600, fun _ => 0), .inr (4, [J 30, J 2, .ref 15, J 0]), .inl (60, fun _ => 0), .inr (4, [J 20, J 2, .ref 17, J 0]), .inl (40, fun _ => 0)]) rfl rfl ?_
  refine v_putF fX3_32 (fun q h => by cases h; rfl) rfl (dec_of DX3_init 43 rfl) rfl (by decide) (fun _ => rfl) (fun _ => rfl) ?_
  refine Vd_n (st' := []) (w' := [.inr (5, [.ref 1, .ref 3, .null, .null, .null, J 0]), .inr (4, [J 1500, J 1, .ref 2, J 0]), .inl (1500, fun _ => 0), .inr (4, [J 1500, J 1, .ref 4, J 0]), .inl (1500, fun _ => 0), .inr (3, [.ref 6, .ref 8, .ref 10, .ref 12, .ref 14, .ref 16, .null, J 0, J 0]), .inr (4, [J 1500, J 1, .ref 7, J 0]), .inl (1500, fun _ => 0), .inr (4, [J 60, J 9, .ref 9, J 0]), .inl (540, fun _ => 0), .inr (4, [J 150, J 8, .ref 11, J 0]), .inl (1200, fun _ => 0), .inr (4, [J 150, J 4, .ref 13, J 0]), .inl (600, fun _ => 0), .inr (4, [J 30, J 2, .ref 15, J 0]), .inl (60, fun _ => 0), .inr (4, [J 20, J 2, .ref 17, J 0]), .inl (40, fun _ => 0)]) rfl rfl ?_
  refine v_aload_n (dec_of DX3_init 44 rfl) rfl ?_
  refine v_new (fs := [J 0, J 0, .null, J 0]) nX3_11 (dec_of DX3_init 45 rfl) dfX5 (fun _ => rfl) rfl (by decide) ⟨by decide, by decide⟩ rfl ?_
  refine Vd_n (st' := [.ref 18, .ref 5]) (w' := [.inr (5, [.ref 1, .ref 3, .null, .null, .null, J 0]), .inr (4, [J 1500, J 1, .ref 2, J 0]), .inl (1500, fun _ => 0), .inr (4, [J 1500, J 1, .ref 4, J 0]), .inl (1500, fun _ => 0), .inr (3, [.ref 6, .ref 8, .ref 10, .ref 12, .ref 14, .ref 16, .null, J 0, J 0]), .inr (4, [J 1500, J 1, .ref 7, J 0]), .inl (1500, fun _ => 0), .inr (4, [J 60, J 9, .ref 9, J 0]), .inl (540, fun _ => 0), .inr (4, [J 150, J 8, .ref 11, J 0]), .inl (1200, fun _ => 0), .inr (4, [J 150, J 4, .ref 13, J 0]), .inl (600, fun _ => 0), .inr (4, [J 30, J 2, .ref 15, J 0]), .inl (60, fun _ => 0), .inr (4, [J 20, J 2, .ref 17, J 0]), .inl (40, fun _ => 0), .inr (4, [J 0, J 0, .null, J 0])]) rfl rfl ?_
  refine v_dup (dec_of DX3_init 46 rfl) rfl ?_
  refine vi_si (dec_of DX3_init 47 rfl) (by decide) ?_
  refine vi_const (dec_of DX3_init 48 rfl) ?_
  refine v_callI (As := [J 260, J 2]) lX3_13 (dec_of DX3_init 49 rfl) rfl (c_tbl (pre := [.inr (5, [.ref 1, .ref 3, .null, .null, .null, J 0]), .inr (4, [J 1500, J 1, .ref 2, J 0]), .inl (1500, fun _ => 0), .inr (4, [J 1500, J 1, .ref 4, J 0]), .inl (1500, fun _ => 0), .inr (3, [.ref 6, .ref 8, .ref 10, .ref 12, .ref 14, .ref 16, .null, J 0, J 0]), .inr (4, [J 1500, J 1, .ref 7, J 0]), .inl (1500, fun _ => 0), .inr (4, [J 60, J 9, .ref 9, J 0]), .inl (540, fun _ => 0), .inr (4, [J 150, J 8, .ref 11, J 0]), .inl (1200, fun _ => 0), .inr (4, [J 150, J 4, .ref 13, J 0]), .inl (600, fun _ => 0), .inr (4, [J 30, J 2, .ref 15, J 0]), .inl (60, fun _ => 0), .inr (4, [J 20, J 2, .ref 17, J 0]), .inl (40, fun _ => 0)]) (r := 260) (c := 2) (sz := 520) (by decide) (by decide) (by decide) (by decide) rfl (by decide)) rfl rfl ⟨by decide, by decide, by decide, by decide⟩ (nle rfl) rfl ?_
  intro w' r' q _
  obtain ⟨rfl, rfl⟩ := q
  refine Vd_n (st' := [.ref 18, .ref 5]) (w' := [.inr (5, [.ref 1, .ref 3, .null, .null, .null, J 0]), .inr (4, [J 1500, J 1, .ref 2, J 0]), .inl (1500, fun _ => 0), .inr (4, [J 1500, J 1, .ref 4, J 0]), .inl (1500, fun _ => 0), .inr (3, [.ref 6, .ref 8, .ref 10, .ref 12, .ref 14, .ref 16, .null, J 0, J 0]), .inr (4, [J 1500, J 1, .ref 7, J 0]), .inl (1500, fun _ => 0), .inr (4, [J 60, J 9, .ref 9, J 0]), .inl (540, fun _ => 0), .inr (4, [J 150, J 8, .ref 11, J 0]), .inl (1200, fun _ => 0), .inr (4, [J 150, J 4, .ref 13, J 0]), .inl (600, fun _ => 0), .inr (4, [J 30, J 2, .ref 15, J 0]), .inl (60, fun _ => 0), .inr (4, [J 20, J 2, .ref 17, J 0]), .inl (40, fun _ => 0), .inr (4, [J 260, J 2, .ref 19, J 0]), .inl (520, fun _ => 0)]) rfl rfl ?_
  refine v_putF fX3_35 (fun q h => by cases h; rfl) rfl (dec_of DX3_init 50 rfl) rfl (by decide) (fun _ => rfl) (fun _ => rfl) ?_
  refine Vd_n (st' := []) (w' := [.inr (5, [.ref 1, .ref 3, .null, .null, .null, J 0]), .inr (4, [J 1500, J 1, .ref 2, J 0]), .inl (1500, fun _ => 0), .inr (4, [J 1500, J 1, .ref 4, J 0]), .inl (1500, fun _ => 0), .inr (3, [.ref 6, .ref 8, .ref 10, .ref 12, .ref 14, .ref 16, .ref 18, J 0, J 0]), .inr (4, [J 1500, J 1, .ref 7, J 0]), .inl (1500, fun _ => 0), .inr (4, [J 60, J 9, .ref 9, J 0]), .inl (540, fun _ => 0), .inr (4, [J 150, J 8, .ref 11, J 0]), .inl (1200, fun _ => 0), .inr (4, [J 150, J 4, .ref 13, J 0]), .inl (600, fun _ => 0), .inr (4, [J 30, J 2, .ref 15, J 0]), .inl (60, fun _ => 0), .inr (4, [J 20, J 2, .ref 17, J 0]), .inl (40, fun _ => 0), .inr (4, [J 260, J 2, .ref 19, J 0]), .inl (520, fun _ => 0)]) rfl rfl ?_
  refine v_aload_n (dec_of DX3_init 51 rfl) rfl ?_
  refine vi_const (dec_of DX3_init 52 rfl) ?_
  refine vi_put fX3_38 (dec_of DX3_init 53 rfl) rfl (by decide) ?_
  refine Vd_n (st' := []) (w' := [.inr (5, [.ref 1, .ref 3, .null, .null, .null, J 0]), .inr (4, [J 1500, J 1, .ref 2, J 0]), .inl (1500, fun _ => 0), .inr (4, [J 1500, J 1, .ref 4, J 0]), .inl (1500, fun _ => 0), .inr (3, [.ref 6, .ref 8, .ref 10, .ref 12, .ref 14, .ref 16, .ref 18, J 0, J 0]), .inr (4, [J 1500, J 1, .ref 7, J 0]), .inl (1500, fun _ => 0), .inr (4, [J 60, J 9, .ref 9, J 0]), .inl (540, fun _ => 0), .inr (4, [J 150, J 8, .ref 11, J 0]), .inl (1200, fun _ => 0), .inr (4, [J 150, J 4, .ref 13, J 0]), .inl (600, fun _ => 0), .inr (4, [J 30, J 2, .ref 15, J 0]), .inl (60, fun _ => 0), .inr (4, [J 20, J 2, .ref 17, J 0]), .inl (40, fun _ => 0), .inr (4, [J 260, J 2, .ref 19, J 0]), .inl (520, fun _ => 0)]) rfl rfl ?_
  refine v_aload_n (dec_of DX3_init 54 rfl) rfl ?_
  refine vi_const (dec_of DX3_init 55 rfl) ?_
  refine vi_put fX3_42 (dec_of DX3_init 56 rfl) rfl (by decide) ?_
  refine Vd_n (st' := []) (w' := [.inr (5, [.ref 1, .ref 3, .null, .null, .null, J 0]), .inr (4, [J 1500, J 1, .ref 2, J 0]), .inl (1500, fun _ => 0), .inr (4, [J 1500, J 1, .ref 4, J 0]), .inl (1500, fun _ => 0), .inr (3, [.ref 6, .ref 8, .ref 10, .ref 12, .ref 14, .ref 16, .ref 18, J 0, J 0]), .inr (4, [J 1500, J 1, .ref 7, J 0]), .inl (1500, fun _ => 0), .inr (4, [J 60, J 9, .ref 9, J 0]), .inl (540, fun _ => 0), .inr (4, [J 150, J 8, .ref 11, J 0]), .inl (1200, fun _ => 0), .inr (4, [J 150, J 4, .ref 13, J 0]), .inl (600, fun _ => 0), .inr (4, [J 30, J 2, .ref 15, J 0]), .inl (60, fun _ => 0), .inr (4, [J 20, J 2, .ref 17, J 0]), .inl (40, fun _ => 0), .inr (4, [J 260, J 2, .ref 19, J 0]), .inl (520, fun _ => 0)]) rfl rfl ?_
  exact vi_vret (dec_of DX3_init 57 rfl) rfl ⟨by decide, by decide⟩ ⟨rfl, rfl⟩
set_option maxRecDepth 100000 in
set_option maxHeartbeats 4000000 in
theorem c_reader : Sd (rm 2 43 2 10) mX2_init [.ref 20, .ref 5] [.inr (5, [.ref 1, .ref 3, .ref 5, .null, .null, J 0]), .inr (4, [J 1500, J 1, .ref 2, J 0]), .inl (1500, fun _ => 0), .inr (4, [J 1500, J 1, .ref 4, J 0]), .inl (1500, fun _ => 0), .inr (3, [.ref 6, .ref 8, .ref 10, .ref 12, .ref 14, .ref 16, .ref 18, J 0, J 0]), .inr (4, [J 1500, J 1, .ref 7, J 0]), .inl (1500, fun _ => 0), .inr (4, [J 60, J 9, .ref 9, J 0]), .inl (540, fun _ => 0), .inr (4, [J 150, J 8, .ref 11, J 0]), .inl (1200, fun _ => 0), .inr (4, [J 150, J 4, .ref 13, J 0]), .inl (600, fun _ => 0), .inr (4, [J 30, J 2, .ref 15, J 0]), .inl (60, fun _ => 0), .inr (4, [J 20, J 2, .ref 17, J 0]), .inl (40, fun _ => 0), .inr (4, [J 260, J 2, .ref 19, J 0]), .inl (520, fun _ => 0), .inr (2, [.null, .null, J 0, J 0, J 0, J 0, J 0, J 0, J 0, J 0, J 0, J 0])] [.inr (5, [.ref 1, .ref 3, .ref 5, .null, .null, J 0]), .inr (4, [J 1500, J 1, .ref 2, J 0]), .inl (1500, fun _ => 0), .inr (4, [J 1500, J 1, .ref 4, J 0]), .inl (1500, fun _ => 0), .inr (3, [.ref 6, .ref 8, .ref 10, .ref 12, .ref 14, .ref 16, .ref 18, J 0, J 0]), .inr (4, [J 1500, J 1, .ref 7, J 0]), .inl (1500, fun _ => 0), .inr (4, [J 60, J 9, .ref 9, J 0]), .inl (540, fun _ => 0), .inr (4, [J 150, J 8, .ref 11, J 0]), .inl (1200, fun _ => 0), .inr (4, [J 150, J 4, .ref 13, J 0]), .inl (600, fun _ => 0), .inr (4, [J 30, J 2, .ref 15, J 0]), .inl (60, fun _ => 0), .inr (4, [J 20, J 2, .ref 17, J 0]), .inl (40, fun _ => 0), .inr (4, [J 260, J 2, .ref 19, J 0]), .inl (520, fun _ => 0), .inr (2, [.ref 5, .ref 21, J 0, J 0, J 0, J 0, J 0, J 0, J 0, J 0, J 0, J 0]), .inr (4, [J 6, J 1, .ref 22, J 0]), .inl (6, fun _ => 0)] none := by
  unfold Sd
  refine sp_of (ls := [some (.ref 20), some (.ref 5)]) (by decide) (nle rfl) rfl rfl ?_
  refine v_aload_n (dec_of DX2_init 0 rfl) rfl ?_
  refine v_objInit (dec_of DX2_init 1 rfl) oX2_3 ⟨by decide, by decide⟩ (nle rfl) ?_
  refine v_aload_n (dec_of DX2_init 2 rfl) rfl ?_
  refine v_aload_n (dec_of DX2_init 3 rfl) rfl ?_
  refine v_putF fX2_9 (fun q h => by cases h; rfl) rfl (dec_of DX2_init 4 rfl) rfl (by decide) (fun _ => rfl) (fun _ => rfl) ?_
  refine Vd_n (st' := []) (w' := [.inr (5, [.ref 1, .ref 3, .ref 5, .null, .null, J 0]), .inr (4, [J 1500, J 1, .ref 2, J 0]), .inl (1500, fun _ => 0), .inr (4, [J 1500, J 1, .ref 4, J 0]), .inl (1500, fun _ => 0), .inr (3, [.ref 6, .ref 8, .ref 10, .ref 12, .ref 14, .ref 16, .ref 18, J 0, J 0]), .inr (4, [J 1500, J 1, .ref 7, J 0]), .inl (1500, fun _ => 0), .inr (4, [J 60, J 9, .ref 9, J 0]), .inl (540, fun _ => 0), .inr (4, [J 150, J 8, .ref 11, J 0]), .inl (1200, fun _ => 0), .inr (4, [J 150, J 4, .ref 13, J 0]), .inl (600, fun _ => 0), .inr (4, [J 30, J 2, .ref 15, J 0]), .inl (60, fun _ => 0), .inr (4, [J 20, J 2, .ref 17, J 0]), .inl (40, fun _ => 0), .inr (4, [J 260, J 2, .ref 19, J 0]), .inl (520, fun _ => 0), .inr (2, [.ref 5, .null, J 0, J 0, J 0, J 0, J 0, J 0, J 0, J 0, J 0, J 0])]) rfl rfl ?_
  refine v_aload_n (dec_of DX2_init 5 rfl) rfl ?_
  refine v_new (fs := [J 0, J 0, .null, J 0]) nX2_15 (dec_of DX2_init 6 rfl) dfX5 (fun _ => rfl) rfl (by decide) ⟨by decide, by decide⟩ rfl ?_
  refine Vd_n (st' := [.ref 21, .ref 20]) (w' := [.inr (5, [.ref 1, .ref 3, .ref 5, .null, .null, J 0]), .inr (4, [J 1500, J 1, .ref 2, J 0]), .inl (1500, fun _ => 0), .inr (4, [J 1500, J 1, .ref 4, J 0]), .inl (1500, fun _ => 0), .inr (3, [.ref 6, .ref 8, .ref 10, .ref 12, .ref 14, .ref 16, .ref 18, J 0, J 0]), .inr (4, [J 1500, J 1, .ref 7, J 0]), .inl (1500, fun _ => 0), .inr (4, [J 60, J 9, .ref 9, J 0]), .inl (540, fun _ => 0), .inr (4, [J 150, J 8, .ref 11, J 0]), .inl (1200, fun _ => 0), .inr (4, [J 150, J 4, .ref 13, J 0]), .inl (600, fun _ => 0), .inr (4, [J 30, J 2, .ref 15, J 0]), .inl (60, fun _ => 0), .inr (4, [J 20, J 2, .ref 17, J 0]), .inl (40, fun _ => 0), .inr (4, [J 260, J 2, .ref 19, J 0]), .inl (520, fun _ => 0), .inr (2, [.ref 5, .null, J 0, J 0, J 0, J 0, J 0, J 0, J 0, J 0, J 0, J 0]), .inr (4, [J 0, J 0, .null, J 0])]) rfl rfl ?_
  refine v_dup (dec_of DX2_init 7 rfl) rfl ?_
  refine vi_bi (dec_of DX2_init 8 rfl) (by decide) ?_
  refine vi_const (dec_of DX2_init 9 rfl) ?_
  refine v_callI (As := [J 6, J 1]) lX2_19 (dec_of DX2_init 10 rfl) rfl (c_tbl (pre := [.inr (5, [.ref 1, .ref 3, .ref 5, .null, .null, J 0]), .inr (4, [J 1500, J 1, .ref 2, J 0]), .inl (1500, fun _ => 0), .inr (4, [J 1500, J 1, .ref 4, J 0]), .inl (1500, fun _ => 0), .inr (3, [.ref 6, .ref 8, .ref 10, .ref 12, .ref 14, .ref 16, .ref 18, J 0, J 0]), .inr (4, [J 1500, J 1, .ref 7, J 0]), .inl (1500, fun _ => 0), .inr (4, [J 60, J 9, .ref 9, J 0]), .inl (540, fun _ => 0), .inr (4, [J 150, J 8, .ref 11, J 0]), .inl (1200, fun _ => 0), .inr (4, [J 150, J 4, .ref 13, J 0]), .inl (600, fun _ => 0), .inr (4, [J 30, J 2, .ref 15, J 0]), .inl (60, fun _ => 0), .inr (4, [J 20, J 2, .ref 17, J 0]), .inl (40, fun _ => 0), .inr (4, [J 260, J 2, .ref 19, J 0]), .inl (520, fun _ => 0), .inr (2, [.ref 5, .null, J 0, J 0, J 0, J 0, J 0, J 0, J 0, J 0, J 0, J 0])]) (r := 6) (c := 1) (sz := 6) (by decide) (by decide) (by decide) (by decide) rfl (by decide)) rfl rfl ⟨by decide, by decide, by decide, by decide⟩ (nle rfl) rfl ?_
  intro w' r' q _
  obtain ⟨rfl, rfl⟩ := q
  refine Vd_n (st' := [.ref 21, .ref 20]) (w' := [.inr (5, [.ref 1, .ref 3, .ref 5, .null, .null, J 0]), .inr (4, [J 1500, J 1, .ref 2, J 0]), .inl (1500, fun _ => 0), .inr (4, [J 1500, J 1, .ref 4, J 0]), .inl (1500, fun _ => 0), .inr (3, [.ref 6, .ref 8, .ref 10, .ref 12, .ref 14, .ref 16, .ref 18, J 0, J 0]), .inr (4, [J 1500, J 1, .ref 7, J 0]), .inl (1500, fun _ => 0), .inr (4, [J 60, J 9, .ref 9, J 0]), .inl (540, fun _ => 0), .inr (4, [J 150, J 8, .ref 11, J 0]), .inl (1200, fun _ => 0), .inr (4, [J 150, J 4, .ref 13, J 0]), .inl (600, fun _ => 0), .inr (4, [J 30, J 2, .ref 15, J 0]), .inl (60, fun _ => 0), .inr (4, [J 20, J 2, .ref 17, J 0]), .inl (40, fun _ => 0), .inr (4, [J 260, J 2, .ref 19, J 0]), .inl (520, fun _ => 0), .inr (2, [.ref 5, .null, J 0, J 0, J 0, J 0, J 0, J 0, J 0, J 0, J 0, J 0]), .inr (4, [J 6, J 1, .ref 22, J 0]), .inl (6, fun _ => 0)]) rfl rfl ?_
  refine v_putF fX2_22 (fun q h => by cases h; rfl) rfl (dec_of DX2_init 11 rfl) rfl (by decide) (fun _ => rfl) (fun _ => rfl) ?_
  refine Vd_n (st' := []) (w' := [.inr (5, [.ref 1, .ref 3, .ref 5, .null, .null, J 0]), .inr (4, [J 1500, J 1, .ref 2, J 0]), .inl (1500, fun _ => 0), .inr (4, [J 1500, J 1, .ref 4, J 0]), .inl (1500, fun _ => 0), .inr (3, [.ref 6, .ref 8, .ref 10, .ref 12, .ref 14, .ref 16, .ref 18, J 0, J 0]), .inr (4, [J 1500, J 1, .ref 7, J 0]), .inl (1500, fun _ => 0), .inr (4, [J 60, J 9, .ref 9, J 0]), .inl (540, fun _ => 0), .inr (4, [J 150, J 8, .ref 11, J 0]), .inl (1200, fun _ => 0), .inr (4, [J 150, J 4, .ref 13, J 0]), .inl (600, fun _ => 0), .inr (4, [J 30, J 2, .ref 15, J 0]), .inl (60, fun _ => 0), .inr (4, [J 20, J 2, .ref 17, J 0]), .inl (40, fun _ => 0), .inr (4, [J 260, J 2, .ref 19, J 0]), .inl (520, fun _ => 0), .inr (2, [.ref 5, .ref 21, J 0, J 0, J 0, J 0, J 0, J 0, J 0, J 0, J 0, J 0]), .inr (4, [J 6, J 1, .ref 22, J 0]), .inl (6, fun _ => 0)]) rfl rfl ?_
  exact vi_vret (dec_of DX2_init 12 rfl) rfl ⟨by decide, by decide⟩ ⟨rfl, rfl⟩
set_option maxRecDepth 100000 in
set_option maxHeartbeats 4000000 in
theorem c_fit : Sd (rm 2 43 2 86) mX0_init [.ref 28, J 40] [.inr (5, [.ref 1, .ref 3, .ref 5, .ref 20, .null, J 0]), .inr (4, [J 1500, J 1, .ref 2, J 0]), .inl (1500, fun _ => 0), .inr (4, [J 1500, J 1, .ref 4, J 0]), .inl (1500, fun _ => 0), .inr (3, [.ref 6, .ref 8, .ref 10, .ref 12, .ref 14, .ref 16, .ref 18, J 0, J 0]), .inr (4, [J 1500, J 1, .ref 7, J 0]), .inl (1500, fun _ => 0), .inr (4, [J 60, J 9, .ref 9, J 0]), .inl (540, fun _ => 0), .inr (4, [J 150, J 8, .ref 11, J 0]), .inl (1200, fun _ => 0), .inr (4, [J 150, J 4, .ref 13, J 0]), .inl (600, fun _ => 0), .inr (4, [J 30, J 2, .ref 15, J 0]), .inl (60, fun _ => 0), .inr (4, [J 20, J 2, .ref 17, J 0]), .inl (40, fun _ => 0), .inr (4, [J 260, J 2, .ref 19, J 0]), .inl (520, fun _ => 0), .inr (2, [.ref 5, .ref 21, J 0, J 0, J 0, J 0, J 0, J 0, J 0, J 0, J 0, J 0]), .inr (4, [J 6, J 1, .ref 22, J 0]), .inl (6, fun _ => 0), .inr (1, [.ref 24, .ref 26, .null, J 0]), .inr (4, [J 40, J 1, .ref 25, J 0]), .inl (40, fun _ => 0), .inr (4, [J 40, J 1, .ref 27, J 0]), .inl (40, fun _ => 0), .inr (0, [.null, J 0, J 0, J 0, J 0, J 0, J 0, J 0])] [.inr (5, [.ref 1, .ref 3, .ref 5, .ref 20, .null, J 0]), .inr (4, [J 1500, J 1, .ref 2, J 0]), .inl (1500, fun _ => 0), .inr (4, [J 1500, J 1, .ref 4, J 0]), .inl (1500, fun _ => 0), .inr (3, [.ref 6, .ref 8, .ref 10, .ref 12, .ref 14, .ref 16, .ref 18, J 0, J 0]), .inr (4, [J 1500, J 1, .ref 7, J 0]), .inl (1500, fun _ => 0), .inr (4, [J 60, J 9, .ref 9, J 0]), .inl (540, fun _ => 0), .inr (4, [J 150, J 8, .ref 11, J 0]), .inl (1200, fun _ => 0), .inr (4, [J 150, J 4, .ref 13, J 0]), .inl (600, fun _ => 0), .inr (4, [J 30, J 2, .ref 15, J 0]), .inl (60, fun _ => 0), .inr (4, [J 20, J 2, .ref 17, J 0]), .inl (40, fun _ => 0), .inr (4, [J 260, J 2, .ref 19, J 0]), .inl (520, fun _ => 0), .inr (2, [.ref 5, .ref 21, J 0, J 0, J 0, J 0, J 0, J 0, J 0, J 0, J 0, J 0]), .inr (4, [J 6, J 1, .ref 22, J 0]), .inl (6, fun _ => 0), .inr (1, [.ref 24, .ref 26, .null, J 0]), .inr (4, [J 40, J 1, .ref 25, J 0]), .inl (40, fun _ => 0), .inr (4, [J 40, J 1, .ref 27, J 0]), .inl (40, fun _ => 0), .inr (0, [.ref 29, J 0, J 0, J 0, J 0, J 0, J 0, J 0]), .inr (4, [J 41, J 2, .ref 30, J 0]), .inl (82, fun _ => 0)] none := by
  unfold Sd
  refine sp_of (ls := [some (.ref 28), some (J 40)]) (by decide) (nle rfl) rfl rfl ?_
  refine v_aload_n (dec_of DX0_init 0 rfl) rfl ?_
  refine v_objInit (dec_of DX0_init 1 rfl) oX0_3 ⟨by decide, by decide⟩ (nle rfl) ?_
  refine v_aload_n (dec_of DX0_init 2 rfl) rfl ?_
  refine v_new (fs := [J 0, J 0, .null, J 0]) nX0_9 (dec_of DX0_init 3 rfl) dfX5 (fun _ => rfl) rfl (by decide) ⟨by decide, by decide⟩ rfl ?_
  refine Vd_n (st' := [.ref 29, .ref 28]) (w' := [.inr (5, [.ref 1, .ref 3, .ref 5, .ref 20, .null, J 0]), .inr (4, [J 1500, J 1, .ref 2, J 0]), .inl (1500, fun _ => 0), .inr (4, [J 1500, J 1, .ref 4, J 0]), .inl (1500, fun _ => 0), .inr (3, [.ref 6, .ref 8, .ref 10, .ref 12, .ref 14, .ref 16, .ref 18, J 0, J 0]), .inr (4, [J 1500, J 1, .ref 7, J 0]), .inl (1500, fun _ => 0), .inr (4, [J 60, J 9, .ref 9, J 0]), .inl (540, fun _ => 0), .inr (4, [J 150, J 8, .ref 11, J 0]), .inl (1200, fun _ => 0), .inr (4, [J 150, J 4, .ref 13, J 0]), .inl (600, fun _ => 0), .inr (4, [J 30, J 2, .ref 15, J 0]), .inl (60, fun _ => 0), .inr (4, [J 20, J 2, .ref 17, J 0]), .inl (40, fun _ => 0), .inr (4, [J 260, J 2, .ref 19, J 0]), .inl (520, fun _ => 0), .inr (2, [.ref 5, .ref 21, J 0, J 0, J 0, J 0, J 0, J 0, J 0, J 0, J 0, J 0]), .inr (4, [J 6, J 1, .ref 22, J 0]), .inl (6, fun _ => 0), .inr (1, [.ref 24, .ref 26, .null, J 0]), .inr (4, [J 40, J 1, .ref 25, J 0]), .inl (40, fun _ => 0), .inr (4, [J 40, J 1, .ref 27, J 0]), .inl (40, fun _ => 0), .inr (0, [.null, J 0, J 0, J 0, J 0, J 0, J 0, J 0]), .inr (4, [J 0, J 0, .null, J 0])]) rfl rfl ?_
  refine v_dup (dec_of DX0_init 4 rfl) rfl ?_
  refine v_iload_n (dec_of DX0_init 5 rfl) rfl ?_
  refine vi_const (dec_of DX0_init 6 rfl) ?_
  refine vi_add (dec_of DX0_init 7 rfl) ?_
  refine Vd_n (st' := [J 41, .ref 29, .ref 29, .ref 28]) (w' := [.inr (5, [.ref 1, .ref 3, .ref 5, .ref 20, .null, J 0]), .inr (4, [J 1500, J 1, .ref 2, J 0]), .inl (1500, fun _ => 0), .inr (4, [J 1500, J 1, .ref 4, J 0]), .inl (1500, fun _ => 0), .inr (3, [.ref 6, .ref 8, .ref 10, .ref 12, .ref 14, .ref 16, .ref 18, J 0, J 0]), .inr (4, [J 1500, J 1, .ref 7, J 0]), .inl (1500, fun _ => 0), .inr (4, [J 60, J 9, .ref 9, J 0]), .inl (540, fun _ => 0), .inr (4, [J 150, J 8, .ref 11, J 0]), .inl (1200, fun _ => 0), .inr (4, [J 150, J 4, .ref 13, J 0]), .inl (600, fun _ => 0), .inr (4, [J 30, J 2, .ref 15, J 0]), .inl (60, fun _ => 0), .inr (4, [J 20, J 2, .ref 17, J 0]), .inl (40, fun _ => 0), .inr (4, [J 260, J 2, .ref 19, J 0]), .inl (520, fun _ => 0), .inr (2, [.ref 5, .ref 21, J 0, J 0, J 0, J 0, J 0, J 0, J 0, J 0, J 0, J 0]), .inr (4, [J 6, J 1, .ref 22, J 0]), .inl (6, fun _ => 0), .inr (1, [.ref 24, .ref 26, .null, J 0]), .inr (4, [J 40, J 1, .ref 25, J 0]), .inl (40, fun _ => 0), .inr (4, [J 40, J 1, .ref 27, J 0]), .inl (40, fun _ => 0), .inr (0, [.null, J 0, J 0, J 0, J 0, J 0, J 0, J 0]), .inr (4, [J 0, J 0, .null, J 0])]) rfl rfl ?_
  refine vi_const (dec_of DX0_init 8 rfl) ?_
  refine v_callI (As := [J 41, J 2]) lX0_11 (dec_of DX0_init 9 rfl) rfl (c_tbl (pre := [.inr (5, [.ref 1, .ref 3, .ref 5, .ref 20, .null, J 0]), .inr (4, [J 1500, J 1, .ref 2, J 0]), .inl (1500, fun _ => 0), .inr (4, [J 1500, J 1, .ref 4, J 0]), .inl (1500, fun _ => 0), .inr (3, [.ref 6, .ref 8, .ref 10, .ref 12, .ref 14, .ref 16, .ref 18, J 0, J 0]), .inr (4, [J 1500, J 1, .ref 7, J 0]), .inl (1500, fun _ => 0), .inr (4, [J 60, J 9, .ref 9, J 0]), .inl (540, fun _ => 0), .inr (4, [J 150, J 8, .ref 11, J 0]), .inl (1200, fun _ => 0), .inr (4, [J 150, J 4, .ref 13, J 0]), .inl (600, fun _ => 0), .inr (4, [J 30, J 2, .ref 15, J 0]), .inl (60, fun _ => 0), .inr (4, [J 20, J 2, .ref 17, J 0]), .inl (40, fun _ => 0), .inr (4, [J 260, J 2, .ref 19, J 0]), .inl (520, fun _ => 0), .inr (2, [.ref 5, .ref 21, J 0, J 0, J 0, J 0, J 0, J 0, J 0, J 0, J 0, J 0]), .inr (4, [J 6, J 1, .ref 22, J 0]), .inl (6, fun _ => 0), .inr (1, [.ref 24, .ref 26, .null, J 0]), .inr (4, [J 40, J 1, .ref 25, J 0]), .inl (40, fun _ => 0), .inr (4, [J 40, J 1, .ref 27, J 0]), .inl (40, fun _ => 0), .inr (0, [.null, J 0, J 0, J 0, J 0, J 0, J 0, J 0])]) (r := 41) (c := 2) (sz := 82) (by decide) (by decide) (by decide) (by decide) rfl (by decide)) rfl rfl ⟨by decide, by decide, by decide, by decide⟩ (nle rfl) rfl ?_
  intro w' r' q _
  obtain ⟨rfl, rfl⟩ := q
  refine Vd_n (st' := [.ref 29, .ref 28]) (w' := [.inr (5, [.ref 1, .ref 3, .ref 5, .ref 20, .null, J 0]), .inr (4, [J 1500, J 1, .ref 2, J 0]), .inl (1500, fun _ => 0), .inr (4, [J 1500, J 1, .ref 4, J 0]), .inl (1500, fun _ => 0), .inr (3, [.ref 6, .ref 8, .ref 10, .ref 12, .ref 14, .ref 16, .ref 18, J 0, J 0]), .inr (4, [J 1500, J 1, .ref 7, J 0]), .inl (1500, fun _ => 0), .inr (4, [J 60, J 9, .ref 9, J 0]), .inl (540, fun _ => 0), .inr (4, [J 150, J 8, .ref 11, J 0]), .inl (1200, fun _ => 0), .inr (4, [J 150, J 4, .ref 13, J 0]), .inl (600, fun _ => 0), .inr (4, [J 30, J 2, .ref 15, J 0]), .inl (60, fun _ => 0), .inr (4, [J 20, J 2, .ref 17, J 0]), .inl (40, fun _ => 0), .inr (4, [J 260, J 2, .ref 19, J 0]), .inl (520, fun _ => 0), .inr (2, [.ref 5, .ref 21, J 0, J 0, J 0, J 0, J 0, J 0, J 0, J 0, J 0, J 0]), .inr (4, [J 6, J 1, .ref 22, J 0]), .inl (6, fun _ => 0), .inr (1, [.ref 24, .ref 26, .null, J 0]), .inr (4, [J 40, J 1, .ref 25, J 0]), .inl (40, fun _ => 0), .inr (4, [J 40, J 1, .ref 27, J 0]), .inl (40, fun _ => 0), .inr (0, [.null, J 0, J 0, J 0, J 0, J 0, J 0, J 0]), .inr (4, [J 41, J 2, .ref 30, J 0]), .inl (82, fun _ => 0)]) rfl rfl ?_
  refine v_putF fX0_14 (fun q h => by cases h; rfl) rfl (dec_of DX0_init 10 rfl) rfl (by decide) (fun _ => rfl) (fun _ => rfl) ?_
  refine Vd_n (st' := []) (w' := [.inr (5, [.ref 1, .ref 3, .ref 5, .ref 20, .null, J 0]), .inr (4, [J 1500, J 1, .ref 2, J 0]), .inl (1500, fun _ => 0), .inr (4, [J 1500, J 1, .ref 4, J 0]), .inl (1500, fun _ => 0), .inr (3, [.ref 6, .ref 8, .ref 10, .ref 12, .ref 14, .ref 16, .ref 18, J 0, J 0]), .inr (4, [J 1500, J 1, .ref 7, J 0]), .inl (1500, fun _ => 0), .inr (4, [J 60, J 9, .ref 9, J 0]), .inl (540, fun _ => 0), .inr (4, [J 150, J 8, .ref 11, J 0]), .inl (1200, fun _ => 0), .inr (4, [J 150, J 4, .ref 13, J 0]), .inl (600, fun _ => 0), .inr (4, [J 30, J 2, .ref 15, J 0]), .inl (60, fun _ => 0), .inr (4, [J 20, J 2, .ref 17, J 0]), .inl (40, fun _ => 0), .inr (4, [J 260, J 2, .ref 19, J 0]), .inl (520, fun _ => 0), .inr (2, [.ref 5, .ref 21, J 0, J 0, J 0, J 0, J 0, J 0, J 0, J 0, J 0, J 0]), .inr (4, [J 6, J 1, .ref 22, J 0]), .inl (6, fun _ => 0), .inr (1, [.ref 24, .ref 26, .null, J 0]), .inr (4, [J 40, J 1, .ref 25, J 0]), .inl (40, fun _ => 0), .inr (4, [J 40, J 1, .ref 27, J 0]), .inl (40, fun _ => 0), .inr (0, [.ref 29, J 0, J 0, J 0, J 0, J 0, J 0, J 0]), .inr (4, [J 41, J 2, .ref 30, J 0]), .inl (82, fun _ => 0)]) rfl rfl ?_
  exact vi_vret (dec_of DX0_init 11 rfl) rfl ⟨by decide, by decide⟩ ⟨rfl, rfl⟩
set_option maxRecDepth 100000 in
set_option maxHeartbeats 4000000 in
theorem c_psalm : Sd (rm 3 64 7 182) mX1_init [.ref 23] [.inr (5, [.ref 1, .ref 3, .ref 5, .ref 20, .null, J 0]), .inr (4, [J 1500, J 1, .ref 2, J 0]), .inl (1500, fun _ => 0), .inr (4, [J 1500, J 1, .ref 4, J 0]), .inl (1500, fun _ => 0), .inr (3, [.ref 6, .ref 8, .ref 10, .ref 12, .ref 14, .ref 16, .ref 18, J 0, J 0]), .inr (4, [J 1500, J 1, .ref 7, J 0]), .inl (1500, fun _ => 0), .inr (4, [J 60, J 9, .ref 9, J 0]), .inl (540, fun _ => 0), .inr (4, [J 150, J 8, .ref 11, J 0]), .inl (1200, fun _ => 0), .inr (4, [J 150, J 4, .ref 13, J 0]), .inl (600, fun _ => 0), .inr (4, [J 30, J 2, .ref 15, J 0]), .inl (60, fun _ => 0), .inr (4, [J 20, J 2, .ref 17, J 0]), .inl (40, fun _ => 0), .inr (4, [J 260, J 2, .ref 19, J 0]), .inl (520, fun _ => 0), .inr (2, [.ref 5, .ref 21, J 0, J 0, J 0, J 0, J 0, J 0, J 0, J 0, J 0, J 0]), .inr (4, [J 6, J 1, .ref 22, J 0]), .inl (6, fun _ => 0), .inr (1, [.null, .null, .null, J 0])] [.inr (5, [.ref 1, .ref 3, .ref 5, .ref 20, .null, J 0]), .inr (4, [J 1500, J 1, .ref 2, J 0]), .inl (1500, fun _ => 0), .inr (4, [J 1500, J 1, .ref 4, J 0]), .inl (1500, fun _ => 0), .inr (3, [.ref 6, .ref 8, .ref 10, .ref 12, .ref 14, .ref 16, .ref 18, J 0, J 0]), .inr (4, [J 1500, J 1, .ref 7, J 0]), .inl (1500, fun _ => 0), .inr (4, [J 60, J 9, .ref 9, J 0]), .inl (540, fun _ => 0), .inr (4, [J 150, J 8, .ref 11, J 0]), .inl (1200, fun _ => 0), .inr (4, [J 150, J 4, .ref 13, J 0]), .inl (600, fun _ => 0), .inr (4, [J 30, J 2, .ref 15, J 0]), .inl (60, fun _ => 0), .inr (4, [J 20, J 2, .ref 17, J 0]), .inl (40, fun _ => 0), .inr (4, [J 260, J 2, .ref 19, J 0]), .inl (520, fun _ => 0), .inr (2, [.ref 5, .ref 21, J 0, J 0, J 0, J 0, J 0, J 0, J 0, J 0, J 0, J 0]), .inr (4, [J 6, J 1, .ref 22, J 0]), .inl (6, fun _ => 0), .inr (1, [.ref 24, .ref 26, .ref 28, J 1]), .inr (4, [J 40, J 1, .ref 25, J 0]), .inl (40, fun _ => 0), .inr (4, [J 40, J 1, .ref 27, J 0]), .inl (40, fun _ => 0), .inr (0, [.ref 29, J 0, J 0, J 0, J 0, J 0, J 0, J 0]), .inr (4, [J 41, J 2, .ref 30, J 0]), .inl (82, fun _ => 0)] none := by
  unfold Sd
  refine sp_of (ls := [some (.ref 23)]) (by decide) (nle rfl) rfl rfl ?_
  refine v_aload_n (dec_of DX1_init 0 rfl) rfl ?_
  refine v_objInit (dec_of DX1_init 1 rfl) oX1_3 ⟨by decide, by decide⟩ (nle rfl) ?_
  refine v_aload_n (dec_of DX1_init 2 rfl) rfl ?_
  refine v_new (fs := [J 0, J 0, .null, J 0]) nX1_9 (dec_of DX1_init 3 rfl) dfX5 (fun _ => rfl) rfl (by decide) ⟨by decide, by decide⟩ rfl ?_
  refine Vd_n (st' := [.ref 24, .ref 23]) (w' := [.inr (5, [.ref 1, .ref 3, .ref 5, .ref 20, .null, J 0]), .inr (4, [J 1500, J 1, .ref 2, J 0]), .inl (1500, fun _ => 0), .inr (4, [J 1500, J 1, .ref 4, J 0]), .inl (1500, fun _ => 0), .inr (3, [.ref 6, .ref 8, .ref 10, .ref 12, .ref 14, .ref 16, .ref 18, J 0, J 0]), .inr (4, [J 1500, J 1, .ref 7, J 0]), .inl (1500, fun _ => 0), .inr (4, [J 60, J 9, .ref 9, J 0]), .inl (540, fun _ => 0), .inr (4, [J 150, J 8, .ref 11, J 0]), .inl (1200, fun _ => 0), .inr (4, [J 150, J 4, .ref 13, J 0]), .inl (600, fun _ => 0), .inr (4, [J 30, J 2, .ref 15, J 0]), .inl (60, fun _ => 0), .inr (4, [J 20, J 2, .ref 17, J 0]), .inl (40, fun _ => 0), .inr (4, [J 260, J 2, .ref 19, J 0]), .inl (520, fun _ => 0), .inr (2, [.ref 5, .ref 21, J 0, J 0, J 0, J 0, J 0, J 0, J 0, J 0, J 0, J 0]), .inr (4, [J 6, J 1, .ref 22, J 0]), .inl (6, fun _ => 0), .inr (1, [.null, .null, .null, J 0]), .inr (4, [J 0, J 0, .null, J 0])]) rfl rfl ?_
  refine v_dup (dec_of DX1_init 4 rfl) rfl ?_
  refine vi_bi (dec_of DX1_init 5 rfl) (by decide) ?_
  refine vi_const (dec_of DX1_init 6 rfl) ?_
  refine v_callI (As := [J 40, J 1]) lX1_13 (dec_of DX1_init 7 rfl) rfl (c_tbl (pre := [.inr (5, [.ref 1, .ref 3, .ref 5, .ref 20, .null, J 0]), .inr (4, [J 1500, J 1, .ref 2, J 0]), .inl (1500, fun _ => 0), .inr (4, [J 1500, J 1, .ref 4, J 0]), .inl (1500, fun _ => 0), .inr (3, [.ref 6, .ref 8, .ref 10, .ref 12, .ref 14, .ref 16, .ref 18, J 0, J 0]), .inr (4, [J 1500, J 1, .ref 7, J 0]), .inl (1500, fun _ => 0), .inr (4, [J 60, J 9, .ref 9, J 0]), .inl (540, fun _ => 0), .inr (4, [J 150, J 8, .ref 11, J 0]), .inl (1200, fun _ => 0), .inr (4, [J 150, J 4, .ref 13, J 0]), .inl (600, fun _ => 0), .inr (4, [J 30, J 2, .ref 15, J 0]), .inl (60, fun _ => 0), .inr (4, [J 20, J 2, .ref 17, J 0]), .inl (40, fun _ => 0), .inr (4, [J 260, J 2, .ref 19, J 0]), .inl (520, fun _ => 0), .inr (2, [.ref 5, .ref 21, J 0, J 0, J 0, J 0, J 0, J 0, J 0, J 0, J 0, J 0]), .inr (4, [J 6, J 1, .ref 22, J 0]), .inl (6, fun _ => 0), .inr (1, [.null, .null, .null, J 0])]) (r := 40) (c := 1) (sz := 40) (by decide) (by decide) (by decide) (by decide) rfl (by decide)) rfl rfl ⟨by decide, by decide, by decide, by decide⟩ (nle rfl) rfl ?_
  intro w' r' q _
  obtain ⟨rfl, rfl⟩ := q
  refine Vd_n (st' := [.ref 24, .ref 23]) (w' := [.inr (5, [.ref 1, .ref 3, .ref 5, .ref 20, .null, J 0]), .inr (4, [J 1500, J 1, .ref 2, J 0]), .inl (1500, fun _ => 0), .inr (4, [J 1500, J 1, .ref 4, J 0]), .inl (1500, fun _ => 0), .inr (3, [.ref 6, .ref 8, .ref 10, .ref 12, .ref 14, .ref 16, .ref 18, J 0, J 0]), .inr (4, [J 1500, J 1, .ref 7, J 0]), .inl (1500, fun _ => 0), .inr (4, [J 60, J 9, .ref 9, J 0]), .inl (540, fun _ => 0), .inr (4, [J 150, J 8, .ref 11, J 0]), .inl (1200, fun _ => 0), .inr (4, [J 150, J 4, .ref 13, J 0]), .inl (600, fun _ => 0), .inr (4, [J 30, J 2, .ref 15, J 0]), .inl (60, fun _ => 0), .inr (4, [J 20, J 2, .ref 17, J 0]), .inl (40, fun _ => 0), .inr (4, [J 260, J 2, .ref 19, J 0]), .inl (520, fun _ => 0), .inr (2, [.ref 5, .ref 21, J 0, J 0, J 0, J 0, J 0, J 0, J 0, J 0, J 0, J 0]), .inr (4, [J 6, J 1, .ref 22, J 0]), .inl (6, fun _ => 0), .inr (1, [.null, .null, .null, J 0]), .inr (4, [J 40, J 1, .ref 25, J 0]), .inl (40, fun _ => 0)]) rfl rfl ?_
  refine v_putF fX1_16 (fun q h => by cases h; rfl) rfl (dec_of DX1_init 8 rfl) rfl (by decide) (fun _ => rfl) (fun _ => rfl) ?_
  refine Vd_n (st' := []) (w' := [.inr (5, [.ref 1, .ref 3, .ref 5, .ref 20, .null, J 0]), .inr (4, [J 1500, J 1, .ref 2, J 0]), .inl (1500, fun _ => 0), .inr (4, [J 1500, J 1, .ref 4, J 0]), .inl (1500, fun _ => 0), .inr (3, [.ref 6, .ref 8, .ref 10, .ref 12, .ref 14, .ref 16, .ref 18, J 0, J 0]), .inr (4, [J 1500, J 1, .ref 7, J 0]), .inl (1500, fun _ => 0), .inr (4, [J 60, J 9, .ref 9, J 0]), .inl (540, fun _ => 0), .inr (4, [J 150, J 8, .ref 11, J 0]), .inl (1200, fun _ => 0), .inr (4, [J 150, J 4, .ref 13, J 0]), .inl (600, fun _ => 0), .inr (4, [J 30, J 2, .ref 15, J 0]), .inl (60, fun _ => 0), .inr (4, [J 20, J 2, .ref 17, J 0]), .inl (40, fun _ => 0), .inr (4, [J 260, J 2, .ref 19, J 0]), .inl (520, fun _ => 0), .inr (2, [.ref 5, .ref 21, J 0, J 0, J 0, J 0, J 0, J 0, J 0, J 0, J 0, J 0]), .inr (4, [J 6, J 1, .ref 22, J 0]), .inl (6, fun _ => 0), .inr (1, [.ref 24, .null, .null, J 0]), .inr (4, [J 40, J 1, .ref 25, J 0]), .inl (40, fun _ => 0)]) rfl rfl ?_
  refine v_aload_n (dec_of DX1_init 9 rfl) rfl ?_
  refine v_new (fs := [J 0, J 0, .null, J 0]) nX1_9 (dec_of DX1_init 10 rfl) dfX5 (fun _ => rfl) rfl (by decide) ⟨by decide, by decide⟩ rfl ?_
  refine Vd_n (st' := [.ref 26, .ref 23]) (w' := [.inr (5, [.ref 1, .ref 3, .ref 5, .ref 20, .null, J 0]), .inr (4, [J 1500, J 1, .ref 2, J 0]), .inl (1500, fun _ => 0), .inr (4, [J 1500, J 1, .ref 4, J 0]), .inl (1500, fun _ => 0), .inr (3, [.ref 6, .ref 8, .ref 10, .ref 12, .ref 14, .ref 16, .ref 18, J 0, J 0]), .inr (4, [J 1500, J 1, .ref 7, J 0]), .inl (1500, fun _ => 0), .inr (4, [J 60, J 9, .ref 9, J 0]), .inl (540, fun _ => 0), .inr (4, [J 150, J 8, .ref 11, J 0]), .inl (1200, fun _ => 0), .inr (4, [J 150, J 4, .ref 13, J 0]), .inl (600, fun _ => 0), .inr (4, [J 30, J 2, .ref 15, J 0]), .inl (60, fun _ => 0), .inr (4, [J 20, J 2, .ref 17, J 0]), .inl (40, fun _ => 0), .inr (4, [J 260, J 2, .ref 19, J 0]), .inl (520, fun _ => 0), .inr (2, [.ref 5, .ref 21, J 0, J 0, J 0, J 0, J 0, J 0, J 0, J 0, J 0, J 0]), .inr (4, [J 6, J 1, .ref 22, J 0]), .inl (6, fun _ => 0), .inr (1, [.ref 24, .null, .null, J 0]), .inr (4, [J 40, J 1, .ref 25, J 0]), .inl (40, fun _ => 0), .inr (4, [J 0, J 0, .null, J 0])]) rfl rfl ?_
  refine v_dup (dec_of DX1_init 11 rfl) rfl ?_
  refine vi_bi (dec_of DX1_init 12 rfl) (by decide) ?_
  refine vi_const (dec_of DX1_init 13 rfl) ?_
  refine v_callI (As := [J 40, J 1]) lX1_13 (dec_of DX1_init 14 rfl) rfl (c_tbl (pre := [.inr (5, [.ref 1, .ref 3, .ref 5, .ref 20, .null, J 0]), .inr (4, [J 1500, J 1, .ref 2, J 0]), .inl (1500, fun _ => 0), .inr (4, [J 1500, J 1, .ref 4, J 0]), .inl (1500, fun _ => 0), .inr (3, [.ref 6, .ref 8, .ref 10, .ref 12, .ref 14, .ref 16, .ref 18, J 0, J 0]), .inr (4, [J 1500, J 1, .ref 7, J 0]), .inl (1500, fun _ => 0), .inr (4, [J 60, J 9, .ref 9, J 0]), .inl (540, fun _ => 0), .inr (4, [J 150, J 8, .ref 11, J 0]), .inl (1200, fun _ => 0), .inr (4, [J 150, J 4, .ref 13, J 0]), .inl (600, fun _ => 0), .inr (4, [J 30, J 2, .ref 15, J 0]), .inl (60, fun _ => 0), .inr (4, [J 20, J 2, .ref 17, J 0]), .inl (40, fun _ => 0), .inr (4, [J 260, J 2, .ref 19, J 0]), .inl (520, fun _ => 0), .inr (2, [.ref 5, .ref 21, J 0, J 0, J 0, J 0, J 0, J 0, J 0, J 0, J 0, J 0]), .inr (4, [J 6, J 1, .ref 22, J 0]), .inl (6, fun _ => 0), .inr (1, [.ref 24, .null, .null, J 0]), .inr (4, [J 40, J 1, .ref 25, J 0]), .inl (40, fun _ => 0)]) (r := 40) (c := 1) (sz := 40) (by decide) (by decide) (by decide) (by decide) rfl (by decide)) rfl rfl ⟨by decide, by decide, by decide, by decide⟩ (nle rfl) rfl ?_
  intro w' r' q _
  obtain ⟨rfl, rfl⟩ := q
  refine Vd_n (st' := [.ref 26, .ref 23]) (w' := [.inr (5, [.ref 1, .ref 3, .ref 5, .ref 20, .null, J 0]), .inr (4, [J 1500, J 1, .ref 2, J 0]), .inl (1500, fun _ => 0), .inr (4, [J 1500, J 1, .ref 4, J 0]), .inl (1500, fun _ => 0), .inr (3, [.ref 6, .ref 8, .ref 10, .ref 12, .ref 14, .ref 16, .ref 18, J 0, J 0]), .inr (4, [J 1500, J 1, .ref 7, J 0]), .inl (1500, fun _ => 0), .inr (4, [J 60, J 9, .ref 9, J 0]), .inl (540, fun _ => 0), .inr (4, [J 150, J 8, .ref 11, J 0]), .inl (1200, fun _ => 0), .inr (4, [J 150, J 4, .ref 13, J 0]), .inl (600, fun _ => 0), .inr (4, [J 30, J 2, .ref 15, J 0]), .inl (60, fun _ => 0), .inr (4, [J 20, J 2, .ref 17, J 0]), .inl (40, fun _ => 0), .inr (4, [J 260, J 2, .ref 19, J 0]), .inl (520, fun _ => 0), .inr (2, [.ref 5, .ref 21, J 0, J 0, J 0, J 0, J 0, J 0, J 0, J 0, J 0, J 0]), .inr (4, [J 6, J 1, .ref 22, J 0]), .inl (6, fun _ => 0), .inr (1, [.ref 24, .null, .null, J 0]), .inr (4, [J 40, J 1, .ref 25, J 0]), .inl (40, fun _ => 0), .inr (4, [J 40, J 1, .ref 27, J 0]), .inl (40, fun _ => 0)]) rfl rfl ?_
  refine v_putF fX1_20 (fun q h => by cases h; rfl) rfl (dec_of DX1_init 15 rfl) rfl (by decide) (fun _ => rfl) (fun _ => rfl) ?_
  refine Vd_n (st' := []) (w' := [.inr (5, [.ref 1, .ref 3, .ref 5, .ref 20, .null, J 0]), .inr (4, [J 1500, J 1, .ref 2, J 0]), .inl (1500, fun _ => 0), .inr (4, [J 1500, J 1, .ref 4, J 0]), .inl (1500, fun _ => 0), .inr (3, [.ref 6, .ref 8, .ref 10, .ref 12, .ref 14, .ref 16, .ref 18, J 0, J 0]), .inr (4, [J 1500, J 1, .ref 7, J 0]), .inl (1500, fun _ => 0), .inr (4, [J 60, J 9, .ref 9, J 0]), .inl (540, fun _ => 0), .inr (4, [J 150, J 8, .ref 11, J 0]), .inl (1200, fun _ => 0), .inr (4, [J 150, J 4, .ref 13, J 0]), .inl (600, fun _ => 0), .inr (4, [J 30, J 2, .ref 15, J 0]), .inl (60, fun _ => 0), .inr (4, [J 20, J 2, .ref 17, J 0]), .inl (40, fun _ => 0), .inr (4, [J 260, J 2, .ref 19, J 0]), .inl (520, fun _ => 0), .inr (2, [.ref 5, .ref 21, J 0, J 0, J 0, J 0, J 0, J 0, J 0, J 0, J 0, J 0]), .inr (4, [J 6, J 1, .ref 22, J 0]), .inl (6, fun _ => 0), .inr (1, [.ref 24, .ref 26, .null, J 0]), .inr (4, [J 40, J 1, .ref 25, J 0]), .inl (40, fun _ => 0), .inr (4, [J 40, J 1, .ref 27, J 0]), .inl (40, fun _ => 0)]) rfl rfl ?_
  refine v_aload_n (dec_of DX1_init 16 rfl) rfl ?_
  refine v_new (fs := [.null, J 0, J 0, J 0, J 0, J 0, J 0, J 0]) nX1_23 (dec_of DX1_init 17 rfl) dfX0 (fun _ => rfl) rfl (by decide) ⟨by decide, by decide⟩ rfl ?_
  refine Vd_n (st' := [.ref 28, .ref 23]) (w' := [.inr (5, [.ref 1, .ref 3, .ref 5, .ref 20, .null, J 0]), .inr (4, [J 1500, J 1, .ref 2, J 0]), .inl (1500, fun _ => 0), .inr (4, [J 1500, J 1, .ref 4, J 0]), .inl (1500, fun _ => 0), .inr (3, [.ref 6, .ref 8, .ref 10, .ref 12, .ref 14, .ref 16, .ref 18, J 0, J 0]), .inr (4, [J 1500, J 1, .ref 7, J 0]), .inl (1500, fun _ => 0), .inr (4, [J 60, J 9, .ref 9, J 0]), .inl (540, fun _ => 0), .inr (4, [J 150, J 8, .ref 11, J 0]), .inl (1200, fun _ => 0), .inr (4, [J 150, J 4, .ref 13, J 0]), .inl (600, fun _ => 0), .inr (4, [J 30, J 2, .ref 15, J 0]), .inl (60, fun _ => 0), .inr (4, [J 20, J 2, .ref 17, J 0]), .inl (40, fun _ => 0), .inr (4, [J 260, J 2, .ref 19, J 0]), .inl (520, fun _ => 0), .inr (2, [.ref 5, .ref 21, J 0, J 0, J 0, J 0, J 0, J 0, J 0, J 0, J 0, J 0]), .inr (4, [J 6, J 1, .ref 22, J 0]), .inl (6, fun _ => 0), .inr (1, [.ref 24, .ref 26, .null, J 0]), .inr (4, [J 40, J 1, .ref 25, J 0]), .inl (40, fun _ => 0), .inr (4, [J 40, J 1, .ref 27, J 0]), .inl (40, fun _ => 0), .inr (0, [.null, J 0, J 0, J 0, J 0, J 0, J 0, J 0])]) rfl rfl ?_
  refine v_dup (dec_of DX1_init 18 rfl) rfl ?_
  refine vi_bi (dec_of DX1_init 19 rfl) (by decide) ?_
  refine v_callI (As := [J 40]) lX1_25 (dec_of DX1_init 20 rfl) rfl c_fit rfl rfl ⟨by decide, by decide, by decide, by decide⟩ (nle rfl) rfl ?_
  intro w' r' q _
  obtain ⟨rfl, rfl⟩ := q
  refine Vd_n (st' := [.ref 28, .ref 23]) (w' := [.inr (5, [.ref 1, .ref 3, .ref 5, .ref 20, .null, J 0]), .inr (4, [J 1500, J 1, .ref 2, J 0]), .inl (1500, fun _ => 0), .inr (4, [J 1500, J 1, .ref 4, J 0]), .inl (1500, fun _ => 0), .inr (3, [.ref 6, .ref 8, .ref 10, .ref 12, .ref 14, .ref 16, .ref 18, J 0, J 0]), .inr (4, [J 1500, J 1, .ref 7, J 0]), .inl (1500, fun _ => 0), .inr (4, [J 60, J 9, .ref 9, J 0]), .inl (540, fun _ => 0), .inr (4, [J 150, J 8, .ref 11, J 0]), .inl (1200, fun _ => 0), .inr (4, [J 150, J 4, .ref 13, J 0]), .inl (600, fun _ => 0), .inr (4, [J 30, J 2, .ref 15, J 0]), .inl (60, fun _ => 0), .inr (4, [J 20, J 2, .ref 17, J 0]), .inl (40, fun _ => 0), .inr (4, [J 260, J 2, .ref 19, J 0]), .inl (520, fun _ => 0), .inr (2, [.ref 5, .ref 21, J 0, J 0, J 0, J 0, J 0, J 0, J 0, J 0, J 0, J 0]), .inr (4, [J 6, J 1, .ref 22, J 0]), .inl (6, fun _ => 0), .inr (1, [.ref 24, .ref 26, .null, J 0]), .inr (4, [J 40, J 1, .ref 25, J 0]), .inl (40, fun _ => 0), .inr (4, [J 40, J 1, .ref 27, J 0]), .inl (40, fun _ => 0), .inr (0, [.ref 29, J 0, J 0, J 0, J 0, J 0, J 0, J 0]), .inr (4, [J 41, J 2, .ref 30, J 0]), .inl (82, fun _ => 0)]) rfl rfl ?_
  refine v_putF fX1_28 (fun q h => by cases h; rfl) rfl (dec_of DX1_init 21 rfl) rfl (by decide) (fun _ => rfl) (fun _ => rfl) ?_
  refine Vd_n (st' := []) (w' := [.inr (5, [.ref 1, .ref 3, .ref 5, .ref 20, .null, J 0]), .inr (4, [J 1500, J 1, .ref 2, J 0]), .inl (1500, fun _ => 0), .inr (4, [J 1500, J 1, .ref 4, J 0]), .inl (1500, fun _ => 0), .inr (3, [.ref 6, .ref 8, .ref 10, .ref 12, .ref 14, .ref 16, .ref 18, J 0, J 0]), .inr (4, [J 1500, J 1, .ref 7, J 0]), .inl (1500, fun _ => 0), .inr (4, [J 60, J 9, .ref 9, J 0]), .inl (540, fun _ => 0), .inr (4, [J 150, J 8, .ref 11, J 0]), .inl (1200, fun _ => 0), .inr (4, [J 150, J 4, .ref 13, J 0]), .inl (600, fun _ => 0), .inr (4, [J 30, J 2, .ref 15, J 0]), .inl (60, fun _ => 0), .inr (4, [J 20, J 2, .ref 17, J 0]), .inl (40, fun _ => 0), .inr (4, [J 260, J 2, .ref 19, J 0]), .inl (520, fun _ => 0), .inr (2, [.ref 5, .ref 21, J 0, J 0, J 0, J 0, J 0, J 0, J 0, J 0, J 0, J 0]), .inr (4, [J 6, J 1, .ref 22, J 0]), .inl (6, fun _ => 0), .inr (1, [.ref 24, .ref 26, .ref 28, J 0]), .inr (4, [J 40, J 1, .ref 25, J 0]), .inl (40, fun _ => 0), .inr (4, [J 40, J 1, .ref 27, J 0]), .inl (40, fun _ => 0), .inr (0, [.ref 29, J 0, J 0, J 0, J 0, J 0, J 0, J 0]), .inr (4, [J 41, J 2, .ref 30, J 0]), .inl (82, fun _ => 0)]) rfl rfl ?_
  refine v_aload_n (dec_of DX1_init 22 rfl) rfl ?_
  refine vi_const (dec_of DX1_init 23 rfl) ?_
  refine vi_put fX1_32 (dec_of DX1_init 24 rfl) rfl (by decide) ?_
  refine Vd_n (st' := []) (w' := [.inr (5, [.ref 1, .ref 3, .ref 5, .ref 20, .null, J 0]), .inr (4, [J 1500, J 1, .ref 2, J 0]), .inl (1500, fun _ => 0), .inr (4, [J 1500, J 1, .ref 4, J 0]), .inl (1500, fun _ => 0), .inr (3, [.ref 6, .ref 8, .ref 10, .ref 12, .ref 14, .ref 16, .ref 18, J 0, J 0]), .inr (4, [J 1500, J 1, .ref 7, J 0]), .inl (1500, fun _ => 0), .inr (4, [J 60, J 9, .ref 9, J 0]), .inl (540, fun _ => 0), .inr (4, [J 150, J 8, .ref 11, J 0]), .inl (1200, fun _ => 0), .inr (4, [J 150, J 4, .ref 13, J 0]), .inl (600, fun _ => 0), .inr (4, [J 30, J 2, .ref 15, J 0]), .inl (60, fun _ => 0), .inr (4, [J 20, J 2, .ref 17, J 0]), .inl (40, fun _ => 0), .inr (4, [J 260, J 2, .ref 19, J 0]), .inl (520, fun _ => 0), .inr (2, [.ref 5, .ref 21, J 0, J 0, J 0, J 0, J 0, J 0, J 0, J 0, J 0, J 0]), .inr (4, [J 6, J 1, .ref 22, J 0]), .inl (6, fun _ => 0), .inr (1, [.ref 24, .ref 26, .ref 28, J 1]), .inr (4, [J 40, J 1, .ref 25, J 0]), .inl (40, fun _ => 0), .inr (4, [J 40, J 1, .ref 27, J 0]), .inl (40, fun _ => 0), .inr (0, [.ref 29, J 0, J 0, J 0, J 0, J 0, J 0, J 0]), .inr (4, [J 41, J 2, .ref 30, J 0]), .inl (82, fun _ => 0)]) rfl rfl ?_
  exact vi_vret (dec_of DX1_init 25 rfl) rfl ⟨by decide, by decide⟩ ⟨rfl, rfl⟩
def I00 : Nat → Int := fun k => if k = 0 then -100 else if k = 13 then 1 else 0
def N00 : Nat → Int := fun _ => 0
def F00 : Nat → Int → Int := fun _ _ => 0
set_option maxRecDepth 100000 in
set_option maxHeartbeats 4000000 in
theorem c_cn : Sd (rm 4 84 30 7713) mX8_init [.ref 0] [.inr (5, [.null, .null, .null, .null, .null, J 0])] (cls I00 N00 F00) none := by
  unfold Sd
  refine sp_of (ls := [some (.ref 0)]) (by decide) (nle rfl) rfl rfl ?_
  refine v_aload_n (dec_of DX8_init 0 rfl) rfl ?_
  refine v_objInit (dec_of DX8_init 1 rfl) oX8_1 ⟨by decide, by decide⟩ (nle rfl) ?_
  refine v_aload_n (dec_of DX8_init 2 rfl) rfl ?_
  refine v_new (fs := [J 0, J 0, .null, J 0]) nX8_7 (dec_of DX8_init 3 rfl) dfX5 (fun _ => rfl) rfl (by decide) ⟨by decide, by decide⟩ rfl ?_
  refine Vd_n (st' := [.ref 1, .ref 0]) (w' := [.inr (5, [.null, .null, .null, .null, .null, J 0]), .inr (4, [J 0, J 0, .null, J 0])]) rfl rfl ?_
  refine v_dup (dec_of DX8_init 4 rfl) rfl ?_
  refine vi_si (dec_of DX8_init 5 rfl) (by decide) ?_
  refine vi_const (dec_of DX8_init 6 rfl) ?_
  refine v_callI (As := [J 1500, J 1]) lX8_11 (dec_of DX8_init 7 rfl) rfl (c_tbl (pre := [.inr (5, [.null, .null, .null, .null, .null, J 0])]) (r := 1500) (c := 1) (sz := 1500) (by decide) (by decide) (by decide) (by decide) rfl (by decide)) rfl rfl ⟨by decide, by decide, by decide, by decide⟩ (nle rfl) rfl ?_
  intro w' r' q _
  obtain ⟨rfl, rfl⟩ := q
  refine Vd_n (st' := [.ref 1, .ref 0]) (w' := [.inr (5, [.null, .null, .null, .null, .null, J 0]), .inr (4, [J 1500, J 1, .ref 2, J 0]), .inl (1500, fun _ => 0)]) rfl rfl ?_
  refine v_putF fX8_14 (fun q h => by cases h; rfl) rfl (dec_of DX8_init 8 rfl) rfl (by decide) (fun _ => rfl) (fun _ => rfl) ?_
  refine Vd_n (st' := []) (w' := [.inr (5, [.ref 1, .null, .null, .null, .null, J 0]), .inr (4, [J 1500, J 1, .ref 2, J 0]), .inl (1500, fun _ => 0)]) rfl rfl ?_
  refine v_aload_n (dec_of DX8_init 9 rfl) rfl ?_
  refine v_new (fs := [J 0, J 0, .null, J 0]) nX8_7 (dec_of DX8_init 10 rfl) dfX5 (fun _ => rfl) rfl (by decide) ⟨by decide, by decide⟩ rfl ?_
  refine Vd_n (st' := [.ref 3, .ref 0]) (w' := [.inr (5, [.ref 1, .null, .null, .null, .null, J 0]), .inr (4, [J 1500, J 1, .ref 2, J 0]), .inl (1500, fun _ => 0), .inr (4, [J 0, J 0, .null, J 0])]) rfl rfl ?_
  refine v_dup (dec_of DX8_init 11 rfl) rfl ?_
  refine vi_si (dec_of DX8_init 12 rfl) (by decide) ?_
  refine vi_const (dec_of DX8_init 13 rfl) ?_
  refine v_callI (As := [J 1500, J 1]) lX8_11 (dec_of DX8_init 14 rfl) rfl (c_tbl (pre := [.inr (5, [.ref 1, .null, .null, .null, .null, J 0]), .inr (4, [J 1500, J 1, .ref 2, J 0]), .inl (1500, fun _ => 0)]) (r := 1500) (c := 1) (sz := 1500) (by decide) (by decide) (by decide) (by decide) rfl (by decide)) rfl rfl ⟨by decide, by decide, by decide, by decide⟩ (nle rfl) rfl ?_
  intro w' r' q _
  obtain ⟨rfl, rfl⟩ := q
  refine Vd_n (st' := [.ref 3, .ref 0]) (w' := [.inr (5, [.ref 1, .null, .null, .null, .null, J 0]), .inr (4, [J 1500, J 1, .ref 2, J 0]), .inl (1500, fun _ => 0), .inr (4, [J 1500, J 1, .ref 4, J 0]), .inl (1500, fun _ => 0)]) rfl rfl ?_
  refine v_putF fX8_18 (fun q h => by cases h; rfl) rfl (dec_of DX8_init 15 rfl) rfl (by decide) (fun _ => rfl) (fun _ => rfl) ?_
  refine Vd_n (st' := []) (w' := [.inr (5, [.ref 1, .ref 3, .null, .null, .null, J 0]), .inr (4, [J 1500, J 1, .ref 2, J 0]), .inl (1500, fun _ => 0), .inr (4, [J 1500, J 1, .ref 4, J 0]), .inl (1500, fun _ => 0)]) rfl rfl ?_
  refine v_aload_n (dec_of DX8_init 16 rfl) rfl ?_
  refine v_new (fs := [.null, .null, .null, .null, .null, .null, .null, J 0, J 0]) nX8_21 (dec_of DX8_init 17 rfl) dfX3 (fun _ => rfl) rfl (by decide) ⟨by decide, by decide⟩ rfl ?_
  refine Vd_n (st' := [.ref 5, .ref 0]) (w' := [.inr (5, [.ref 1, .ref 3, .null, .null, .null, J 0]), .inr (4, [J 1500, J 1, .ref 2, J 0]), .inl (1500, fun _ => 0), .inr (4, [J 1500, J 1, .ref 4, J 0]), .inl (1500, fun _ => 0), .inr (3, [.null, .null, .null, .null, .null, .null, .null, J 0, J 0])]) rfl rfl ?_
  refine v_dup (dec_of DX8_init 18 rfl) rfl ?_
  refine v_callIN (As := []) (np := 0) rfl (fun U h => h.1) nestX8_23 ⟨by decide, by decide, by decide⟩ rfl (dec_of DX8_init 19 rfl) rfl c_score rfl rfl ⟨by decide, by decide, by decide, by decide⟩ (nle rfl) rfl ?_
  intro w' r' q _
  obtain ⟨rfl, rfl⟩ := q
  refine Vd_n (st' := [.ref 5, .ref 0]) (w' := [.inr (5, [.ref 1, .ref 3, .null, .null, .null, J 0]), .inr (4, [J 1500, J 1, .ref 2, J 0]), .inl (1500, fun _ => 0), .inr (4, [J 1500, J 1, .ref 4, J 0]), .inl (1500, fun _ => 0), .inr (3, [.ref 6, .ref 8, .ref 10, .ref 12, .ref 14, .ref 16, .ref 18, J 0, J 0]), .inr (4, [J 1500, J 1, .ref 7, J 0]), .inl (1500, fun _ => 0), .inr (4, [J 60, J 9, .ref 9, J 0]), .inl (540, fun _ => 0), .inr (4, [J 150, J 8, .ref 11, J 0]), .inl (1200, fun _ => 0), .inr (4, [J 150, J 4, .ref 13, J 0]), .inl (600, fun _ => 0), .inr (4, [J 30, J 2, .ref 15, J 0]), .inl (60, fun _ => 0), .inr (4, [J 20, J 2, .ref 17, J 0]), .inl (40, fun _ => 0), .inr (4, [J 260, J 2, .ref 19, J 0]), .inl (520, fun _ => 0)]) rfl rfl ?_
  refine v_putF fX8_24 (fun q h => by cases h; rfl) rfl (dec_of DX8_init 20 rfl) rfl (by decide) (fun _ => rfl) (fun _ => rfl) ?_
  refine Vd_n (st' := []) (w' := [.inr (5, [.ref 1, .ref 3, .ref 5, .null, .null, J 0]), .inr (4, [J 1500, J 1, .ref 2, J 0]), .inl (1500, fun _ => 0), .inr (4, [J 1500, J 1, .ref 4, J 0]), .inl (1500, fun _ => 0), .inr (3, [.ref 6, .ref 8, .ref 10, .ref 12, .ref 14, .ref 16, .ref 18, J 0, J 0]), .inr (4, [J 1500, J 1, .ref 7, J 0]), .inl (1500, fun _ => 0), .inr (4, [J 60, J 9, .ref 9, J 0]), .inl (540, fun _ => 0), .inr (4, [J 150, J 8, .ref 11, J 0]), .inl (1200, fun _ => 0), .inr (4, [J 150, J 4, .ref 13, J 0]), .inl (600, fun _ => 0), .inr (4, [J 30, J 2, .ref 15, J 0]), .inl (60, fun _ => 0), .inr (4, [J 20, J 2, .ref 17, J 0]), .inl (40, fun _ => 0), .inr (4, [J 260, J 2, .ref 19, J 0]), .inl (520, fun _ => 0)]) rfl rfl ?_
  refine v_aload_n (dec_of DX8_init 21 rfl) rfl ?_
  refine v_new (fs := [.null, .null, J 0, J 0, J 0, J 0, J 0, J 0, J 0, J 0, J 0, J 0]) nX8_28 (dec_of DX8_init 22 rfl) dfX2 (fun _ => rfl) rfl (by decide) ⟨by decide, by decide⟩ rfl ?_
  refine Vd_n (st' := [.ref 20, .ref 0]) (w' := [.inr (5, [.ref 1, .ref 3, .ref 5, .null, .null, J 0]), .inr (4, [J 1500, J 1, .ref 2, J 0]), .inl (1500, fun _ => 0), .inr (4, [J 1500, J 1, .ref 4, J 0]), .inl (1500, fun _ => 0), .inr (3, [.ref 6, .ref 8, .ref 10, .ref 12, .ref 14, .ref 16, .ref 18, J 0, J 0]), .inr (4, [J 1500, J 1, .ref 7, J 0]), .inl (1500, fun _ => 0), .inr (4, [J 60, J 9, .ref 9, J 0]), .inl (540, fun _ => 0), .inr (4, [J 150, J 8, .ref 11, J 0]), .inl (1200, fun _ => 0), .inr (4, [J 150, J 4, .ref 13, J 0]), .inl (600, fun _ => 0), .inr (4, [J 30, J 2, .ref 15, J 0]), .inl (60, fun _ => 0), .inr (4, [J 20, J 2, .ref 17, J 0]), .inl (40, fun _ => 0), .inr (4, [J 260, J 2, .ref 19, J 0]), .inl (520, fun _ => 0), .inr (2, [.null, .null, J 0, J 0, J 0, J 0, J 0, J 0, J 0, J 0, J 0, J 0])]) rfl rfl ?_
  refine v_dup (dec_of DX8_init 23 rfl) rfl ?_
  refine v_aload_n (dec_of DX8_init 24 rfl) rfl ?_
  refine v_get fX8_24 (dec_of DX8_init 25 rfl) rfl rfl ?_
  refine v_callI (As := [.ref 5]) lX8_30 (dec_of DX8_init 26 rfl) rfl c_reader rfl rfl ⟨by decide, by decide, by decide, by decide⟩ (nle rfl) rfl ?_
  intro w' r' q _
  obtain ⟨rfl, rfl⟩ := q
  refine Vd_n (st' := [.ref 20, .ref 0]) (w' := [.inr (5, [.ref 1, .ref 3, .ref 5, .null, .null, J 0]), .inr (4, [J 1500, J 1, .ref 2, J 0]), .inl (1500, fun _ => 0), .inr (4, [J 1500, J 1, .ref 4, J 0]), .inl (1500, fun _ => 0), .inr (3, [.ref 6, .ref 8, .ref 10, .ref 12, .ref 14, .ref 16, .ref 18, J 0, J 0]), .inr (4, [J 1500, J 1, .ref 7, J 0]), .inl (1500, fun _ => 0), .inr (4, [J 60, J 9, .ref 9, J 0]), .inl (540, fun _ => 0), .inr (4, [J 150, J 8, .ref 11, J 0]), .inl (1200, fun _ => 0), .inr (4, [J 150, J 4, .ref 13, J 0]), .inl (600, fun _ => 0), .inr (4, [J 30, J 2, .ref 15, J 0]), .inl (60, fun _ => 0), .inr (4, [J 20, J 2, .ref 17, J 0]), .inl (40, fun _ => 0), .inr (4, [J 260, J 2, .ref 19, J 0]), .inl (520, fun _ => 0), .inr (2, [.ref 5, .ref 21, J 0, J 0, J 0, J 0, J 0, J 0, J 0, J 0, J 0, J 0]), .inr (4, [J 6, J 1, .ref 22, J 0]), .inl (6, fun _ => 0)]) rfl rfl ?_
  refine v_putF fX8_33 (fun q h => by cases h; rfl) rfl (dec_of DX8_init 27 rfl) rfl (by decide) (fun _ => rfl) (fun _ => rfl) ?_
  refine Vd_n (st' := []) (w' := [.inr (5, [.ref 1, .ref 3, .ref 5, .ref 20, .null, J 0]), .inr (4, [J 1500, J 1, .ref 2, J 0]), .inl (1500, fun _ => 0), .inr (4, [J 1500, J 1, .ref 4, J 0]), .inl (1500, fun _ => 0), .inr (3, [.ref 6, .ref 8, .ref 10, .ref 12, .ref 14, .ref 16, .ref 18, J 0, J 0]), .inr (4, [J 1500, J 1, .ref 7, J 0]), .inl (1500, fun _ => 0), .inr (4, [J 60, J 9, .ref 9, J 0]), .inl (540, fun _ => 0), .inr (4, [J 150, J 8, .ref 11, J 0]), .inl (1200, fun _ => 0), .inr (4, [J 150, J 4, .ref 13, J 0]), .inl (600, fun _ => 0), .inr (4, [J 30, J 2, .ref 15, J 0]), .inl (60, fun _ => 0), .inr (4, [J 20, J 2, .ref 17, J 0]), .inl (40, fun _ => 0), .inr (4, [J 260, J 2, .ref 19, J 0]), .inl (520, fun _ => 0), .inr (2, [.ref 5, .ref 21, J 0, J 0, J 0, J 0, J 0, J 0, J 0, J 0, J 0, J 0]), .inr (4, [J 6, J 1, .ref 22, J 0]), .inl (6, fun _ => 0)]) rfl rfl ?_
  refine v_aload_n (dec_of DX8_init 28 rfl) rfl ?_
  refine v_new (fs := [.null, .null, .null, J 0]) nX8_37 (dec_of DX8_init 29 rfl) dfX1 (fun _ => rfl) rfl (by decide) ⟨by decide, by decide⟩ rfl ?_
  refine Vd_n (st' := [.ref 23, .ref 0]) (w' := [.inr (5, [.ref 1, .ref 3, .ref 5, .ref 20, .null, J 0]), .inr (4, [J 1500, J 1, .ref 2, J 0]), .inl (1500, fun _ => 0), .inr (4, [J 1500, J 1, .ref 4, J 0]), .inl (1500, fun _ => 0), .inr (3, [.ref 6, .ref 8, .ref 10, .ref 12, .ref 14, .ref 16, .ref 18, J 0, J 0]), .inr (4, [J 1500, J 1, .ref 7, J 0]), .inl (1500, fun _ => 0), .inr (4, [J 60, J 9, .ref 9, J 0]), .inl (540, fun _ => 0), .inr (4, [J 150, J 8, .ref 11, J 0]), .inl (1200, fun _ => 0), .inr (4, [J 150, J 4, .ref 13, J 0]), .inl (600, fun _ => 0), .inr (4, [J 30, J 2, .ref 15, J 0]), .inl (60, fun _ => 0), .inr (4, [J 20, J 2, .ref 17, J 0]), .inl (40, fun _ => 0), .inr (4, [J 260, J 2, .ref 19, J 0]), .inl (520, fun _ => 0), .inr (2, [.ref 5, .ref 21, J 0, J 0, J 0, J 0, J 0, J 0, J 0, J 0, J 0, J 0]), .inr (4, [J 6, J 1, .ref 22, J 0]), .inl (6, fun _ => 0), .inr (1, [.null, .null, .null, J 0])]) rfl rfl ?_
  refine v_dup (dec_of DX8_init 30 rfl) rfl ?_
  refine v_callIN (As := []) (np := 0) rfl (fun U h => h.2) nestX8_39 ⟨by decide, by decide, by decide⟩ rfl (dec_of DX8_init 31 rfl) rfl c_psalm rfl rfl ⟨by decide, by decide, by decide, by decide⟩ (nle rfl) rfl ?_
  intro w' r' q _
  obtain ⟨rfl, rfl⟩ := q
  refine Vd_n (st' := [.ref 23, .ref 0]) (w' := [.inr (5, [.ref 1, .ref 3, .ref 5, .ref 20, .null, J 0]), .inr (4, [J 1500, J 1, .ref 2, J 0]), .inl (1500, fun _ => 0), .inr (4, [J 1500, J 1, .ref 4, J 0]), .inl (1500, fun _ => 0), .inr (3, [.ref 6, .ref 8, .ref 10, .ref 12, .ref 14, .ref 16, .ref 18, J 0, J 0]), .inr (4, [J 1500, J 1, .ref 7, J 0]), .inl (1500, fun _ => 0), .inr (4, [J 60, J 9, .ref 9, J 0]), .inl (540, fun _ => 0), .inr (4, [J 150, J 8, .ref 11, J 0]), .inl (1200, fun _ => 0), .inr (4, [J 150, J 4, .ref 13, J 0]), .inl (600, fun _ => 0), .inr (4, [J 30, J 2, .ref 15, J 0]), .inl (60, fun _ => 0), .inr (4, [J 20, J 2, .ref 17, J 0]), .inl (40, fun _ => 0), .inr (4, [J 260, J 2, .ref 19, J 0]), .inl (520, fun _ => 0), .inr (2, [.ref 5, .ref 21, J 0, J 0, J 0, J 0, J 0, J 0, J 0, J 0, J 0, J 0]), .inr (4, [J 6, J 1, .ref 22, J 0]), .inl (6, fun _ => 0), .inr (1, [.ref 24, .ref 26, .ref 28, J 1]), .inr (4, [J 40, J 1, .ref 25, J 0]), .inl (40, fun _ => 0), .inr (4, [J 40, J 1, .ref 27, J 0]), .inl (40, fun _ => 0), .inr (0, [.ref 29, J 0, J 0, J 0, J 0, J 0, J 0, J 0]), .inr (4, [J 41, J 2, .ref 30, J 0]), .inl (82, fun _ => 0)]) rfl rfl ?_
  refine v_putF fX8_40 (fun q h => by cases h; rfl) rfl (dec_of DX8_init 32 rfl) rfl (by decide) (fun _ => rfl) (fun _ => rfl) ?_
  refine Vd_n (st' := []) (w' := [.inr (5, [.ref 1, .ref 3, .ref 5, .ref 20, .ref 23, J 0]), .inr (4, [J 1500, J 1, .ref 2, J 0]), .inl (1500, fun _ => 0), .inr (4, [J 1500, J 1, .ref 4, J 0]), .inl (1500, fun _ => 0), .inr (3, [.ref 6, .ref 8, .ref 10, .ref 12, .ref 14, .ref 16, .ref 18, J 0, J 0]), .inr (4, [J 1500, J 1, .ref 7, J 0]), .inl (1500, fun _ => 0), .inr (4, [J 60, J 9, .ref 9, J 0]), .inl (540, fun _ => 0), .inr (4, [J 150, J 8, .ref 11, J 0]), .inl (1200, fun _ => 0), .inr (4, [J 150, J 4, .ref 13, J 0]), .inl (600, fun _ => 0), .inr (4, [J 30, J 2, .ref 15, J 0]), .inl (60, fun _ => 0), .inr (4, [J 20, J 2, .ref 17, J 0]), .inl (40, fun _ => 0), .inr (4, [J 260, J 2, .ref 19, J 0]), .inl (520, fun _ => 0), .inr (2, [.ref 5, .ref 21, J 0, J 0, J 0, J 0, J 0, J 0, J 0, J 0, J 0, J 0]), .inr (4, [J 6, J 1, .ref 22, J 0]), .inl (6, fun _ => 0), .inr (1, [.ref 24, .ref 26, .ref 28, J 1]), .inr (4, [J 40, J 1, .ref 25, J 0]), .inl (40, fun _ => 0), .inr (4, [J 40, J 1, .ref 27, J 0]), .inl (40, fun _ => 0), .inr (0, [.ref 29, J 0, J 0, J 0, J 0, J 0, J 0, J 0]), .inr (4, [J 41, J 2, .ref 30, J 0]), .inl (82, fun _ => 0)]) rfl rfl ?_
  refine v_aload_n (dec_of DX8_init 33 rfl) rfl ?_
  refine vi_bi (dec_of DX8_init 34 rfl) (by decide) ?_
  refine vi_put fX8_44 (dec_of DX8_init 35 rfl) rfl (by decide) ?_
  refine Vd_n (st' := []) (w' := [.inr (5, [.ref 1, .ref 3, .ref 5, .ref 20, .ref 23, J (-100)]), .inr (4, [J 1500, J 1, .ref 2, J 0]), .inl (1500, fun _ => 0), .inr (4, [J 1500, J 1, .ref 4, J 0]), .inl (1500, fun _ => 0), .inr (3, [.ref 6, .ref 8, .ref 10, .ref 12, .ref 14, .ref 16, .ref 18, J 0, J 0]), .inr (4, [J 1500, J 1, .ref 7, J 0]), .inl (1500, fun _ => 0), .inr (4, [J 60, J 9, .ref 9, J 0]), .inl (540, fun _ => 0), .inr (4, [J 150, J 8, .ref 11, J 0]), .inl (1200, fun _ => 0), .inr (4, [J 150, J 4, .ref 13, J 0]), .inl (600, fun _ => 0), .inr (4, [J 30, J 2, .ref 15, J 0]), .inl (60, fun _ => 0), .inr (4, [J 20, J 2, .ref 17, J 0]), .inl (40, fun _ => 0), .inr (4, [J 260, J 2, .ref 19, J 0]), .inl (520, fun _ => 0), .inr (2, [.ref 5, .ref 21, J 0, J 0, J 0, J 0, J 0, J 0, J 0, J 0, J 0, J 0]), .inr (4, [J 6, J 1, .ref 22, J 0]), .inl (6, fun _ => 0), .inr (1, [.ref 24, .ref 26, .ref 28, J 1]), .inr (4, [J 40, J 1, .ref 25, J 0]), .inl (40, fun _ => 0), .inr (4, [J 40, J 1, .ref 27, J 0]), .inl (40, fun _ => 0), .inr (0, [.ref 29, J 0, J 0, J 0, J 0, J 0, J 0, J 0]), .inr (4, [J 41, J 2, .ref 30, J 0]), .inl (82, fun _ => 0)]) rfl rfl ?_
  exact vi_vret (dec_of DX8_init 36 rfl) rfl ⟨by decide, by decide⟩ ⟨rfl, rfl⟩
