/-! Tones, Fitting, Psalm (printed by wip/tools/gen_c5.py) -/
def tabC : List Int := [-2, -1, 0, 0, 0, 2, 1, 0, -1, -1, 0, 2, -1, -2, 1, 0, 0, -1, -1, -3, -2, 0, 0, 0, 0, 1, 0, 0, 1, 0, 0, 1, -1, 0, 1, 0, 0, -2, -2, -2, -4, -1, 0, 0, 0, 2, 1, 0, -1, -1, 0, 1, 0, 0, 1, 0, 0, -2, -2, -1, -1, -2, 2, -1, 0, 1, 0, 0, 1, 0, 0, 0, 0, 0, 2, -1, 0, 1, -1, -2, -4, -2, 0, 0, 0, 1, 0, 0, 1, 0, 0, 0, 0, 0, 2, 1, 1, -1, -1, -2, -2, -1, 0, 0, 0, 2, 1, 0, -1, -1, 0, 2, -2, -1, 1, 0, 0, -1, -1, -2, -1, -2, 0, 0, 0, 2, 2, 1, -1, -1, 0, 0, 0, 0, 2, 1, 0, -1, -1, -2, -3, -2, 0, 0, 0, 1, 0, 0, 1, 0, 0, 2, 0, -1, 1, 0, 0, 1, 1, -3]
def cel : Int → Int := tI tabC
theorem cel_tab {a : Int} (h : 0 ≤ a ∧ a < 160) : tF tCells a.toNat = iI (cel a) := by
  have key : ∀ n : Nat, n < 160 → tF tCells n = iI (tabC.getD n 0) := by decide +kernel
  exact key a.toNat (by omega)
theorem cel_r (a : Int) : -4 ≤ cel a ∧ cel a ≤ 2 := by
  have key : ∀ n : Nat, n < 160 → -4 ≤ tabC.getD n 0 ∧ tabC.getD n 0 ≤ 2 := by decide +kernel
  by_cases h : a.toNat < 160
  · exact key _ h
  · have hl : tabC.length = 160 := by decide +kernel
    have e : tabC[a.toNat]? = none := List.getElem?_eq_none (by omega)
    have e2 : cel a = 0 := by
      show tabC.getD a.toNat 0 = 0
      rw [List.getD_eq_getElem?_getD, e, Option.getD_none]
    rw [e2]
    decide
theorem uN_uu {α : Type} {f : Nat → α} {k : Nat} {a b : α} : uN (uN f k a) k b = uN f k b := by
  funext j
  unfold uN
  by_cases h : j = k <;> simp [h]
/-- a cell of a tone's close -/
def cc (t h i : Int) : Int := cel ((t - 1) * 20 + (2 + h * 9 + i))
theorem cc_r (t h i : Int) : -4 ≤ cc t h i ∧ cc t h i ≤ 2 := cel_r _
/-- the last place below n with 1 -/
def accB (f : Int → Int) : Nat → Int
  | 0 => -100
  | n + 1 => if f n = 1 then n else accB f n
theorem accB_r (f : Int → Int) (n : Nat) : accB f n = -100 ∨ (0 ≤ accB f n ∧ accB f n < n) := by
  induction n with
  | zero => exact Or.inl rfl
  | succ n ih =>
    unfold accB
    by_cases h : f n = 1
    · rw [if_pos h]; omega
    · rw [if_neg h]; omega
def lastP (f : Int → Int) (n : Int) : Int := if accB f n.toNat = -100 then (if n - 2 < 0 then 0 else n - 2) else accB f n.toNat
def firstP (f : Int → Int) (l : Int) : Int := if accB f l.toNat = -100 then (if 2 ≤ l then l - 2 else -100) else accB f l.toNat
set_option maxRecDepth 100000 in
set_option maxHeartbeats 4000000 in
theorem k_max {w : XW} {a b : Int} (ha : -2147483648 ≤ a ∧ a < 2147483648) (hb : -2147483648 ≤ b ∧ b < 2147483648) : Sd (rm 0 0 0 0) mJ9_max_7cf53 [J a, J b] (w) (w) (some (J (if a < b then b else a))) := by
  unfold Sd
  refine sp_ofJ (ls := [some (J a), some (J b)]) (by decide +kernel) (nle rfl) rfl rfl ?_
  refine v_iload_n (dec_of DJ9_max_7cf53 0 rfl) rfl ?_
  refine v_iload_n (dec_of DJ9_max_7cf53 1 rfl) rfl ?_
  refine vi_icmp_lt (tgt := 9) (dec_of DJ9_max_7cf53 2 rfl) (by decide) (by first | omega | exact bnd_r _ _ | exact hF _ _ | exact hI _ | exact hG _ _ | exact hK _ | (simp [uN] <;> omega)) (by first | omega | exact bnd_r _ _ | exact hF _ _ | exact hI _ | exact hG _ _ | exact hK _ | (simp [uN] <;> omega)) (fun c2 => ?_) (fun c2 => ?_)
  · rw [if_pos (by omega)]
    refine v_iload_n (dec_of DJ9_max_7cf53 5 rfl) rfl ?_
    exact vi_ret (dec_of DJ9_max_7cf53 6 rfl) rfl ⟨by decide, by decide⟩ (⟨rfl, rfl⟩)
  · rw [if_neg (by omega)]
    refine v_iload_n (dec_of DJ9_max_7cf53 3 rfl) rfl ?_
    refine v_goto (tgt := 10) (dec_of DJ9_max_7cf53 4 rfl) (by decide) ?_
    exact vi_ret (dec_of DJ9_max_7cf53 6 rfl) rfl ⟨by decide, by decide⟩ (⟨rfl, rfl⟩)
set_option maxRecDepth 100000 in
set_option maxHeartbeats 4000000 in
theorem k_min {w : XW} {a b : Int} (ha : -2147483648 ≤ a ∧ a < 2147483648) (hb : -2147483648 ≤ b ∧ b < 2147483648) : Sd (rm 0 0 0 0) mJ9_min_7cf53 [J a, J b] (w) (w) (some (J (if b < a then b else a))) := by
  unfold Sd
  refine sp_ofJ (ls := [some (J a), some (J b)]) (by decide +kernel) (nle rfl) rfl rfl ?_
  refine v_iload_n (dec_of DJ9_min_7cf53 0 rfl) rfl ?_
  refine v_iload_n (dec_of DJ9_min_7cf53 1 rfl) rfl ?_
  refine vi_icmp_gt (tgt := 9) (dec_of DJ9_min_7cf53 2 rfl) (by decide) (by first | omega | exact bnd_r _ _ | exact hF _ _ | exact hI _ | exact hG _ _ | exact hK _ | (simp [uN] <;> omega)) (by first | omega | exact bnd_r _ _ | exact hF _ _ | exact hI _ | exact hG _ _ | exact hK _ | (simp [uN] <;> omega)) (fun c2 => ?_) (fun c2 => ?_)
  · rw [if_pos (by omega)]
    refine v_iload_n (dec_of DJ9_min_7cf53 5 rfl) rfl ?_
    exact vi_ret (dec_of DJ9_min_7cf53 6 rfl) rfl ⟨by decide, by decide⟩ (⟨rfl, rfl⟩)
  · rw [if_neg (by omega)]
    refine v_iload_n (dec_of DJ9_min_7cf53 3 rfl) rfl ?_
    refine v_goto (tgt := 10) (dec_of DJ9_min_7cf53 4 rfl) (by decide) ?_
    exact vi_ret (dec_of DJ9_min_7cf53 6 rfl) rfl ⟨by decide, by decide⟩ (⟨rfl, rfl⟩)
set_option maxRecDepth 100000 in
set_option maxHeartbeats 4000000 in
theorem k_cell {w : XW} {t i : Int} (ht : 0 ≤ t ∧ t ≤ 100) (hi : 0 ≤ (t - 1) * 20 + i ∧ (t - 1) * 20 + i < 160) : Sd (rm 0 0 0 0) mX6_cell [J t, J i] (w) (w) (some (J (cel ((t - 1) * 20 + i)))) := by
  unfold Sd
  refine sp_of (ls := [some (J t), some (J i), none]) (by decide) (nle rfl) rfl rfl ?_
  refine v_iload_n (dec_of DX6_cell 0 rfl) rfl ?_
  refine vi_const (dec_of DX6_cell 1 rfl) ?_
  refine vi_sub (dec_of DX6_cell 2 rfl) ?_
  refine vi_bi (dec_of DX6_cell 3 rfl) (by decide) ?_
  refine vi_mul (dec_of DX6_cell 4 rfl) ?_
  refine v_iload_n (dec_of DX6_cell 5 rfl) rfl ?_
  refine vi_add (dec_of DX6_cell 6 rfl) ?_
  refine v_istore_n (dec_of DX6_cell 7 rfl) (by decide) ?_
  dsimp only [List.set]
  refine v_iload_n (dec_of DX6_cell 8 rfl) rfl ?_
  refine vi_if_lt (tgt := 29) (dec_of DX6_cell 9 rfl) (by decide) (by first | omega | exact bnd_r _ _ | exact hF _ _ | exact hI _ | exact hG _ _ | exact hK _ | (simp [uN] <;> omega)) (fun c10 => absurd c10 (by omega)) (fun c10 => ?_)
  refine v_iload_n (dec_of DX6_cell 10 rfl) rfl ?_
  refine v_gets (j := 3) (q := ("ChantNeumes$Tones", "CELLS")) (dec_of DX6_cell 11 rfl) sX6_9 rfl ?_
  refine vi_slen (dec_of DX6_cell 12 rfl) rfl ?_
  refine vi_icmp_ge (tgt := 29) (dec_of DX6_cell 13 rfl) (by decide) (by first | omega | exact bnd_r _ _ | exact hF _ _ | exact hI _ | exact hG _ _ | exact hK _ | (simp [uN] <;> omega)) (by first | omega | exact bnd_r _ _ | exact hF _ _ | exact hI _ | exact hG _ _ | exact hK _ | (simp [uN] <;> omega)) (fun c18 => absurd c18 (by omega)) (fun c18 => ?_)
  refine v_gets (j := 3) (q := ("ChantNeumes$Tones", "CELLS")) (dec_of DX6_cell 14 rfl) sX6_9 rfl ?_
  refine v_iload_n (dec_of DX6_cell 15 rfl) rfl ?_
  refine vi_sald (dec_of DX6_cell 16 rfl) rfl (by first | omega | exact bnd_r _ _ | exact hF _ _ | exact hI _ | exact hG _ _ | exact hK _ | (simp [uN] <;> omega)) (by decide) (cel_tab (by omega)) ?_
  refine v_goto (tgt := 30) (dec_of DX6_cell 17 rfl) (by decide) ?_
  exact vi_ret (dec_of DX6_cell 19 rfl) rfl ⟨by decide, by decide⟩ (⟨rfl, rfl⟩)
set_option maxRecDepth 100000 in
set_option maxHeartbeats 4000000 in
theorem k_closeStart {w : XW} {h : Int} : Sd (rm 0 0 0 0) mX6_closeStart [J h] (w) (w) (some (J (2 + h * 9))) := by
  unfold Sd
  refine sp_of (ls := [some (J h)]) (by decide) (nle rfl) rfl rfl ?_
  refine vi_const (dec_of DX6_closeStart 0 rfl) ?_
  refine v_iload_n (dec_of DX6_closeStart 1 rfl) rfl ?_
  refine vi_bi (dec_of DX6_closeStart 2 rfl) (by decide) ?_
  refine vi_mul (dec_of DX6_closeStart 3 rfl) ?_
  refine vi_add (dec_of DX6_closeStart 4 rfl) ?_
  exact vi_ret (dec_of DX6_closeStart 5 rfl) rfl ⟨by decide, by decide⟩ (⟨rfl, rfl⟩)
set_option maxRecDepth 100000 in
set_option maxHeartbeats 4000000 in
theorem k_cc {T : XW} {I N : Nat → Int} {F : Nat → Int → Int} (hF : FR F) (hI : IR I) (hN : NR N) {i : Int} (hT : 1 ≤ I 17 ∧ I 17 ≤ 8) (hH : 0 ≤ I 18 ∧ I 18 ≤ 1) (hi : 0 ≤ i ∧ i ≤ 8) : Sd (rm 1 22 0 0) mX0_closeCell [.ref 28, J i] (cls I N F ++ T) (cls I N F ++ T) (some (J (cc (I 17) (I 18) i))) := by
  unfold Sd
  unfold NR at hN
  refine sp_of (ls := [some (.ref 28), some (J i)]) (by decide) (nle rfl) rfl rfl ?_
  refine v_aload_n (dec_of DX0_closeCell 0 rfl) rfl ?_
  refine v_get fX0_20 (dec_of DX0_closeCell 1 rfl) rfl rfl ?_
  refine v_aload_n (dec_of DX0_closeCell 2 rfl) rfl ?_
  refine v_get fX0_24 (dec_of DX0_closeCell 3 rfl) rfl rfl ?_
  refine v_S1r (k_closeStart) lX0_93 (dec_of DX0_closeCell 4 rfl) (by decide) (nle rfl) rfl ?_
  refine v_iload_n (dec_of DX0_closeCell 5 rfl) rfl ?_
  refine vi_add (dec_of DX0_closeCell 6 rfl) ?_
  refine v_S2r (k_cell (by omega) (by omega)) lX0_90 (dec_of DX0_closeCell 7 rfl) (by decide) (nle rfl) rfl ?_
  exact vi_ret (dec_of DX0_closeCell 8 rfl) rfl ⟨by decide, by decide⟩ (⟨rfl, rfl⟩)
set_option maxRecDepth 100000 in
set_option maxHeartbeats 4000000 in
theorem k_firstPlaced {T : XW} {I N : Nat → Int} {F : Nat → Int → Int} (hF : FR F) (hI : IR I) (hN : NR N)  : Sd (rm 0 0 0 0) mX0_firstPlaced [.ref 28] (cls I N F ++ T) (cls I N F ++ T) (some (J (if I 15 = -100 then I 16 else I 15))) := by
  unfold Sd
  unfold NR at hN
  refine sp_of (ls := [some (.ref 28)]) (by decide) (nle rfl) rfl rfl ?_
  refine v_aload_n (dec_of DX0_firstPlaced 0 rfl) rfl ?_
  refine v_get fX0_35 (dec_of DX0_firstPlaced 1 rfl) rfl rfl ?_
  refine vi_bi (dec_of DX0_firstPlaced 2 rfl) (by decide) ?_
  refine vi_icmp_ne (tgt := 16) (dec_of DX0_firstPlaced 3 rfl) (by decide) (by first | omega | exact bnd_r _ _ | exact hF _ _ | exact hI _ | exact hG _ _ | exact hK _ | (simp [uN] <;> omega)) (by first | omega | exact bnd_r _ _ | exact hF _ _ | exact hI _ | exact hG _ _ | exact hK _ | (simp [uN] <;> omega)) (fun c6 => ?_) (fun c6 => ?_)
  · rw [if_neg c6]
    refine v_aload_n (dec_of DX0_firstPlaced 7 rfl) rfl ?_
    refine v_get fX0_35 (dec_of DX0_firstPlaced 8 rfl) rfl rfl ?_
    exact vi_ret (dec_of DX0_firstPlaced 9 rfl) rfl ⟨by decide, by decide⟩ (⟨rfl, rfl⟩)
  · rw [if_pos c6]
    refine v_aload_n (dec_of DX0_firstPlaced 4 rfl) rfl ?_
    refine v_get fX0_38 (dec_of DX0_firstPlaced 5 rfl) rfl rfl ?_
    refine v_goto (tgt := 20) (dec_of DX0_firstPlaced 6 rfl) (by decide) ?_
    exact vi_ret (dec_of DX0_firstPlaced 9 rfl) rfl ⟨by decide, by decide⟩ (⟨rfl, rfl⟩)
set_option maxRecDepth 100000 in
set_option maxHeartbeats 4000000 in
theorem k_addStep {T : XW} {I N : Nat → Int} {F : Nat → Int → Int} (hF : FR F) (hI : IR I) (hN : NR N) {s v : Int} (h12 : N 12 < 41) : Sd (rm 1 24 0 0) mX0_addStep [.ref 28, J s, J v] (cls I N F ++ T) (cls I (uN N 12 (N 12 + 1)) (uN F 12 (uI (adf (F 12) 2 (N 12) s) (N 12 * 2 + 1) v)) ++ T) (none) := by
  unfold Sd
  unfold NR at hN
  refine sp_of (ls := [some (.ref 28), some (J s), some (J v)]) (by decide) (nle rfl) rfl rfl ?_
  refine v_aload_n (dec_of DX0_addStep 0 rfl) rfl ?_
  refine v_get fX0_14 (dec_of DX0_addStep 1 rfl) rfl rfl ?_
  refine v_aload_n (dec_of DX0_addStep 2 rfl) rfl ?_
  refine v_get fX0_14 (dec_of DX0_addStep 3 rfl) rfl rfl ?_
  refine v_iload_n (dec_of DX0_addStep 4 rfl) rfl ?_
  refine v_V1r (c12_add (by first | omega | exact bnd_r _ _ | exact hF _ _ | exact hI _ | exact hG _ _ | exact hK _ | (simp [uN] <;> omega))) lX0_96 (dec_of DX0_addStep 5 rfl) rfl rfl (by decide) (nle rfl) rfl ?_
  refine vi_const (dec_of DX0_addStep 6 rfl) ?_
  refine v_iload_n (dec_of DX0_addStep 7 rfl) rfl ?_
  refine v_V3v (c12_set (by first | omega | exact bnd_r _ _ | exact hF _ _ | exact hI _ | exact hG _ _ | exact hK _ | (simp [uN] <;> omega)) (by first | omega | exact bnd_r _ _ | exact hF _ _ | exact hI _ | exact hG _ _ | exact hK _ | (simp [uN] <;> omega)) (by first | omega | exact bnd_r _ _ | exact hF _ _ | exact hI _ | exact hG _ _ | exact hK _ | (simp [uN] <;> omega))) lX0_99 (dec_of DX0_addStep 8 rfl) rfl rfl (by decide) (nle rfl) rfl ?_
  exact vi_vret (dec_of DX0_addStep 9 rfl) rfl ⟨by decide, by decide⟩ (⟨rfl, rfl⟩)
set_option maxRecDepth 100000 in
set_option maxHeartbeats 4000000 in
theorem k_acc_loop10 {T : XW} {I N : Nat → Int} {F : Nat → Int → Int} (hF : FR F) (hI : IR I) (hN : NR N) {n0 : Nat} {Z : XW → Option Value → Prop} {b : Int} : ∀ n : Nat, (n : Int) ≤ N 10 → Z (cls I N F ++ T) (some (J (accB (F 10) n))) → Vd (rm 1 23 0 0) [] mX0_accentBefore n0 Z 0 0 4 [some (.ref 24), some (J b), some (J ((n : Int) - 1))] [] (cls I N F ++ T) := by
  unfold NR at hN
  intro n
  induction n with
  | zero =>
    intro hn hz
    refine v_iload_n (dec_of DX0_accentBefore 4 rfl) rfl ?_
    refine vi_if_lt (tgt := 26) (dec_of DX0_accentBefore 5 rfl) (by decide) (by first | omega | exact bnd_r _ _ | exact hF _ _ | exact hI _ | exact hG _ _ | exact hK _ | (simp [uN] <;> omega)) (fun c5 => ?_) (fun c5 => absurd c5 (by omega))
    refine vi_bi (dec_of DX0_accentBefore 16 rfl) (by decide) ?_
    exact vi_ret (dec_of DX0_accentBefore 17 rfl) rfl ⟨by decide, by decide⟩ (hz)
  | succ n ih =>
    intro hn hz
    rw [show ((n + 1 : Nat) : Int) - 1 = (n : Int) by omega]
    by_cases h1 : F 10 n = 1
    · rw [accB, if_pos h1] at hz
      refine v_iload_n (dec_of DX0_accentBefore 4 rfl) rfl ?_
      refine vi_if_lt (tgt := 26) (dec_of DX0_accentBefore 5 rfl) (by decide) (by first | omega | exact bnd_r _ _ | exact hF _ _ | exact hI _ | exact hG _ _ | exact hK _ | (simp [uN] <;> omega)) (fun c5 => absurd c5 (by omega)) (fun c5 => ?_)
      refine v_aload_n (dec_of DX0_accentBefore 6 rfl) rfl ?_
      refine v_iload_n (dec_of DX0_accentBefore 7 rfl) rfl ?_
      refine vi_const (dec_of DX0_accentBefore 8 rfl) ?_
      refine v_V2r (c10_get (by first | omega | exact bnd_r _ _ | exact hF _ _ | exact hI _ | exact hG _ _ | exact hK _ | (simp [uN] <;> omega)) (by first | omega | exact bnd_r _ _ | exact hF _ _ | exact hI _ | exact hG _ _ | exact hK _ | (simp [uN] <;> omega))) lX0_72 (dec_of DX0_accentBefore 9 rfl) rfl rfl (by decide) (nle rfl) rfl ?_
      refine vi_const (dec_of DX0_accentBefore 10 rfl) ?_
      refine vi_icmp_ne (tgt := 20) (dec_of DX0_accentBefore 11 rfl) (by decide) (by first | omega | exact bnd_r _ _ | exact hF _ _ | exact hI _ | exact hG _ _ | exact hK _ | (simp [uN] <;> omega)) (by first | omega | exact bnd_r _ _ | exact hF _ _ | exact hI _ | exact hG _ _ | exact hK _ | (simp [uN] <;> omega)) (fun c15 => absurd c15 (by omega)) (fun c15 => ?_)
      refine v_iload_n (dec_of DX0_accentBefore 12 rfl) rfl ?_
      exact vi_ret (dec_of DX0_accentBefore 13 rfl) rfl ⟨by decide, by decide⟩ (hz)
    · rw [accB, if_neg h1] at hz
      refine v_iload_n (dec_of DX0_accentBefore 4 rfl) rfl ?_
      refine vi_if_lt (tgt := 26) (dec_of DX0_accentBefore 5 rfl) (by decide) (by first | omega | exact bnd_r _ _ | exact hF _ _ | exact hI _ | exact hG _ _ | exact hK _ | (simp [uN] <;> omega)) (fun c5 => absurd c5 (by omega)) (fun c5 => ?_)
      refine v_aload_n (dec_of DX0_accentBefore 6 rfl) rfl ?_
      refine v_iload_n (dec_of DX0_accentBefore 7 rfl) rfl ?_
      refine vi_const (dec_of DX0_accentBefore 8 rfl) ?_
      refine v_V2r (c10_get (by first | omega | exact bnd_r _ _ | exact hF _ _ | exact hI _ | exact hG _ _ | exact hK _ | (simp [uN] <;> omega)) (by first | omega | exact bnd_r _ _ | exact hF _ _ | exact hI _ | exact hG _ _ | exact hK _ | (simp [uN] <;> omega))) lX0_72 (dec_of DX0_accentBefore 9 rfl) rfl rfl (by decide) (nle rfl) rfl ?_
      refine vi_const (dec_of DX0_accentBefore 10 rfl) ?_
      refine vi_icmp_ne (tgt := 20) (dec_of DX0_accentBefore 11 rfl) (by decide) (by first | omega | exact bnd_r _ _ | exact hF _ _ | exact hI _ | exact hG _ _ | exact hK _ | (simp [uN] <;> omega)) (by first | omega | exact bnd_r _ _ | exact hF _ _ | exact hI _ | exact hG _ _ | exact hK _ | (simp [uN] <;> omega)) (fun c15 => ?_) (fun c15 => absurd c15 (by omega))
      refine vi_inc (dec_of DX0_accentBefore 14 rfl) rfl (by decide) ?_
      dsimp only [List.set]
      refine v_goto (tgt := 4) (dec_of DX0_accentBefore 15 rfl) (by decide) ?_
      rw [show (n : Int) + -1 = (n : Int) - 1 by omega]
      exact ih (by omega) hz
set_option maxRecDepth 100000 in
set_option maxHeartbeats 4000000 in
theorem k_acc10 {T : XW} {I N : Nat → Int} {F : Nat → Int → Int} (hF : FR F) (hI : IR I) (hN : NR N) {b : Int} (hb : 0 ≤ b ∧ b ≤ N 10) : Sd (rm 1 23 0 0) mX0_accentBefore [.ref 24, J b] (cls I N F ++ T) (cls I N F ++ T) (some (J (accB (F 10) b.toNat))) := by
  unfold Sd
  unfold NR at hN
  refine sp_of (ls := [some (.ref 24), some (J b), none]) (by decide) (nle rfl) rfl rfl ?_
  refine v_iload_n (dec_of DX0_accentBefore 0 rfl) rfl ?_
  refine vi_const (dec_of DX0_accentBefore 1 rfl) ?_
  refine vi_sub (dec_of DX0_accentBefore 2 rfl) ?_
  refine v_istore_n (dec_of DX0_accentBefore 3 rfl) (by decide) ?_
  dsimp only [List.set]
  have e : b = (b.toNat : Int) := by omega
  rw [show b - 1 = (b.toNat : Int) - 1 by omega]
  exact k_acc_loop10 hF hI (by unfold NR; exact hN) b.toNat (by omega) ⟨rfl, rfl⟩
set_option maxRecDepth 100000 in
set_option maxHeartbeats 4000000 in
theorem k_place_t10 {T : XW} {I N : Nat → Int} {F : Nat → Int → Int} (hF : FR F) (hI : IR I) (hN : NR N) {n0 : Nat} {Z : XW → Option Value → Prop} {n : Int} (hT : 1 ≤ I 17 ∧ I 17 ≤ 8) (hH : 0 ≤ I 18 ∧ I 18 ≤ 1) (hl : 0 ≤ I 16 ∧ I 16 ≤ N 10) (hz : Z (cls (if cc (I 17) (I 18) 3 = 2 then uN I 15 (firstP (F 10) (I 16)) else I) N F ++ T) none) : Vd (rm 2 45 0 0) [] mX0_placeAccents n0 Z 0 0 34 [some (.ref 28), some (.ref 24), some (J n)] [] (cls I N F ++ T) := by
  unfold NR at hN
  by_cases h2 : cc (I 17) (I 18) 3 = 2
  · rw [if_pos h2] at hz
    by_cases h3 : accB (F 10) (I 16).toNat = -100
    · by_cases h4 : 2 ≤ I 16
      · rw [firstP, if_pos h3, if_pos h4] at hz
        refine v_aload_n (dec_of DX0_placeAccents 19 rfl) rfl ?_
        refine vi_const (dec_of DX0_placeAccents 20 rfl) ?_
        refine v_V1r (k_cc hF hI (by unfold NR; exact hN) hT hH (by omega)) lX0_68 (dec_of DX0_placeAccents 21 rfl) rfl rfl (by decide) (nle rfl) rfl ?_
        refine vi_const (dec_of DX0_placeAccents 22 rfl) ?_
        refine vi_icmp_ne (tgt := 82) (dec_of DX0_placeAccents 23 rfl) (by decide) (by first | omega | exact hI _ | (have := cc_r (I 17) (I 18) 3; omega) | (have := accB_r (F 10) (I 16).toNat; simp [uN]; omega)) (by first | omega | exact hI _ | (have := cc_r (I 17) (I 18) 3; omega) | (have := accB_r (F 10) (I 16).toNat; simp [uN]; omega)) (fun c40 => absurd c40 (by omega)) (fun c40 => ?_)
        refine v_aload_n (dec_of DX0_placeAccents 24 rfl) rfl ?_
        refine v_aload_n (dec_of DX0_placeAccents 25 rfl) rfl ?_
        refine v_aload_n (dec_of DX0_placeAccents 26 rfl) rfl ?_
        refine v_get fX0_38 (dec_of DX0_placeAccents 27 rfl) rfl rfl ?_
        refine v_S2r (k_acc10 hF hI (by unfold NR; exact hN) (by first | omega | (simp [uN]; omega))) lX0_56 (dec_of DX0_placeAccents 28 rfl) (by decide) (nle rfl) rfl ?_
        refine cp_15 fX0_35 (dec_of DX0_placeAccents 29 rfl) ?_
        refine v_aload_n (dec_of DX0_placeAccents 30 rfl) rfl ?_
        refine v_get fX0_35 (dec_of DX0_placeAccents 31 rfl) rfl rfl ?_
        refine vi_bi (dec_of DX0_placeAccents 32 rfl) (by decide) ?_
        refine vi_icmp_ne (tgt := 82) (dec_of DX0_placeAccents 33 rfl) (by decide) (by first | omega | exact hI _ | (have := cc_r (I 17) (I 18) 3; omega) | (have := accB_r (F 10) (I 16).toNat; simp [uN]; omega)) (by first | omega | exact hI _ | (have := cc_r (I 17) (I 18) 3; omega) | (have := accB_r (F 10) (I 16).toNat; simp [uN]; omega)) (fun c61 => absurd c61 (by simp only [uN_s]; omega)) (fun c61 => ?_)
        refine v_aload_n (dec_of DX0_placeAccents 34 rfl) rfl ?_
        refine v_get fX0_38 (dec_of DX0_placeAccents 35 rfl) rfl rfl ?_
        refine vi_const (dec_of DX0_placeAccents 36 rfl) ?_
        refine vi_icmp_lt (tgt := 82) (dec_of DX0_placeAccents 37 rfl) (by decide) (by first | omega | exact hI _ | (have := cc_r (I 17) (I 18) 3; omega) | (have := accB_r (F 10) (I 16).toNat; simp [uN]; omega)) (by first | omega | exact hI _ | (have := cc_r (I 17) (I 18) 3; omega) | (have := accB_r (F 10) (I 16).toNat; simp [uN]; omega)) (fun c69 => absurd c69 (by simp only [uN_n (show (16:Nat) ≠ 15 by decide)]; omega)) (fun c69 => ?_)
        refine v_aload_n (dec_of DX0_placeAccents 38 rfl) rfl ?_
        refine v_aload_n (dec_of DX0_placeAccents 39 rfl) rfl ?_
        refine v_get fX0_38 (dec_of DX0_placeAccents 40 rfl) rfl rfl ?_
        refine vi_const (dec_of DX0_placeAccents 41 rfl) ?_
        refine vi_sub (dec_of DX0_placeAccents 42 rfl) ?_
        refine cp_15 fX0_35 (dec_of DX0_placeAccents 43 rfl) ?_
        exact vi_vret (dec_of DX0_placeAccents 44 rfl) rfl ⟨by decide, by decide⟩ (hz)
      · rw [firstP, if_pos h3, if_neg h4, ← h3] at hz
        refine v_aload_n (dec_of DX0_placeAccents 19 rfl) rfl ?_
        refine vi_const (dec_of DX0_placeAccents 20 rfl) ?_
        refine v_V1r (k_cc hF hI (by unfold NR; exact hN) hT hH (by omega)) lX0_68 (dec_of DX0_placeAccents 21 rfl) rfl rfl (by decide) (nle rfl) rfl ?_
        refine vi_const (dec_of DX0_placeAccents 22 rfl) ?_
        refine vi_icmp_ne (tgt := 82) (dec_of DX0_placeAccents 23 rfl) (by decide) (by first | omega | exact hI _ | (have := cc_r (I 17) (I 18) 3; omega) | (have := accB_r (F 10) (I 16).toNat; simp [uN]; omega)) (by first | omega | exact hI _ | (have := cc_r (I 17) (I 18) 3; omega) | (have := accB_r (F 10) (I 16).toNat; simp [uN]; omega)) (fun c40 => absurd c40 (by omega)) (fun c40 => ?_)
        refine v_aload_n (dec_of DX0_placeAccents 24 rfl) rfl ?_
        refine v_aload_n (dec_of DX0_placeAccents 25 rfl) rfl ?_
        refine v_aload_n (dec_of DX0_placeAccents 26 rfl) rfl ?_
        refine v_get fX0_38 (dec_of DX0_placeAccents 27 rfl) rfl rfl ?_
        refine v_S2r (k_acc10 hF hI (by unfold NR; exact hN) (by first | omega | (simp [uN]; omega))) lX0_56 (dec_of DX0_placeAccents 28 rfl) (by decide) (nle rfl) rfl ?_
        refine cp_15 fX0_35 (dec_of DX0_placeAccents 29 rfl) ?_
        refine v_aload_n (dec_of DX0_placeAccents 30 rfl) rfl ?_
        refine v_get fX0_35 (dec_of DX0_placeAccents 31 rfl) rfl rfl ?_
        refine vi_bi (dec_of DX0_placeAccents 32 rfl) (by decide) ?_
        refine vi_icmp_ne (tgt := 82) (dec_of DX0_placeAccents 33 rfl) (by decide) (by first | omega | exact hI _ | (have := cc_r (I 17) (I 18) 3; omega) | (have := accB_r (F 10) (I 16).toNat; simp [uN]; omega)) (by first | omega | exact hI _ | (have := cc_r (I 17) (I 18) 3; omega) | (have := accB_r (F 10) (I 16).toNat; simp [uN]; omega)) (fun c61 => absurd c61 (by simp only [uN_s]; omega)) (fun c61 => ?_)
        refine v_aload_n (dec_of DX0_placeAccents 34 rfl) rfl ?_
        refine v_get fX0_38 (dec_of DX0_placeAccents 35 rfl) rfl rfl ?_
        refine vi_const (dec_of DX0_placeAccents 36 rfl) ?_
        refine vi_icmp_lt (tgt := 82) (dec_of DX0_placeAccents 37 rfl) (by decide) (by first | omega | exact hI _ | (have := cc_r (I 17) (I 18) 3; omega) | (have := accB_r (F 10) (I 16).toNat; simp [uN]; omega)) (by first | omega | exact hI _ | (have := cc_r (I 17) (I 18) 3; omega) | (have := accB_r (F 10) (I 16).toNat; simp [uN]; omega)) (fun c69 => ?_) (fun c69 => absurd c69 (by simp only [uN_n (show (16:Nat) ≠ 15 by decide)]; omega))
        exact vi_vret (dec_of DX0_placeAccents 44 rfl) rfl ⟨by decide, by decide⟩ (hz)
    · rw [firstP, if_neg h3] at hz
      refine v_aload_n (dec_of DX0_placeAccents 19 rfl) rfl ?_
      refine vi_const (dec_of DX0_placeAccents 20 rfl) ?_
      refine v_V1r (k_cc hF hI (by unfold NR; exact hN) hT hH (by omega)) lX0_68 (dec_of DX0_placeAccents 21 rfl) rfl rfl (by decide) (nle rfl) rfl ?_
      refine vi_const (dec_of DX0_placeAccents 22 rfl) ?_
      refine vi_icmp_ne (tgt := 82) (dec_of DX0_placeAccents 23 rfl) (by decide) (by first | omega | exact hI _ | (have := cc_r (I 17) (I 18) 3; omega) | (have := accB_r (F 10) (I 16).toNat; simp [uN]; omega)) (by first | omega | exact hI _ | (have := cc_r (I 17) (I 18) 3; omega) | (have := accB_r (F 10) (I 16).toNat; simp [uN]; omega)) (fun c40 => absurd c40 (by omega)) (fun c40 => ?_)
      refine v_aload_n (dec_of DX0_placeAccents 24 rfl) rfl ?_
      refine v_aload_n (dec_of DX0_placeAccents 25 rfl) rfl ?_
      refine v_aload_n (dec_of DX0_placeAccents 26 rfl) rfl ?_
      refine v_get fX0_38 (dec_of DX0_placeAccents 27 rfl) rfl rfl ?_
      refine v_S2r (k_acc10 hF hI (by unfold NR; exact hN) (by first | omega | (simp [uN]; omega))) lX0_56 (dec_of DX0_placeAccents 28 rfl) (by decide) (nle rfl) rfl ?_
      refine cp_15 fX0_35 (dec_of DX0_placeAccents 29 rfl) ?_
      refine v_aload_n (dec_of DX0_placeAccents 30 rfl) rfl ?_
      refine v_get fX0_35 (dec_of DX0_placeAccents 31 rfl) rfl rfl ?_
      refine vi_bi (dec_of DX0_placeAccents 32 rfl) (by decide) ?_
      refine vi_icmp_ne (tgt := 82) (dec_of DX0_placeAccents 33 rfl) (by decide) (by first | omega | exact hI _ | (have := cc_r (I 17) (I 18) 3; omega) | (have := accB_r (F 10) (I 16).toNat; simp [uN]; omega)) (by first | omega | exact hI _ | (have := cc_r (I 17) (I 18) 3; omega) | (have := accB_r (F 10) (I 16).toNat; simp [uN]; omega)) (fun c61 => ?_) (fun c61 => absurd c61 (by simp only [uN_s]; omega))
      exact vi_vret (dec_of DX0_placeAccents 44 rfl) rfl ⟨by decide, by decide⟩ (hz)
  · rw [if_neg h2] at hz
    refine v_aload_n (dec_of DX0_placeAccents 19 rfl) rfl ?_
    refine vi_const (dec_of DX0_placeAccents 20 rfl) ?_
    refine v_V1r (k_cc hF hI (by unfold NR; exact hN) hT hH (by omega)) lX0_68 (dec_of DX0_placeAccents 21 rfl) rfl rfl (by decide) (nle rfl) rfl ?_
    refine vi_const (dec_of DX0_placeAccents 22 rfl) ?_
    refine vi_icmp_ne (tgt := 82) (dec_of DX0_placeAccents 23 rfl) (by decide) (by first | omega | exact hI _ | (have := cc_r (I 17) (I 18) 3; omega) | (have := accB_r (F 10) (I 16).toNat; simp [uN]; omega)) (by first | omega | exact hI _ | (have := cc_r (I 17) (I 18) 3; omega) | (have := accB_r (F 10) (I 16).toNat; simp [uN]; omega)) (fun c40 => ?_) (fun c40 => absurd c40 (by omega))
    exact vi_vret (dec_of DX0_placeAccents 44 rfl) rfl ⟨by decide, by decide⟩ (hz)
set_option maxRecDepth 100000 in
set_option maxHeartbeats 4000000 in
theorem k_place10 {T : XW} {I N : Nat → Int} {F : Nat → Int → Int} (hF : FR F) (hI : IR I) (hN : NR N) (hT : 1 ≤ I 17 ∧ I 17 ≤ 8) (hH : 0 ≤ I 18 ∧ I 18 ≤ 1) (hn : 0 < N 10) : Sd (rm 2 45 0 0) mX0_placeAccents [.ref 28, .ref 24] (cls I N F ++ T) (cls (if cc (I 17) (I 18) 3 = 2 then uN (uN I 16 (lastP (F 10) (N 10))) 15 (firstP (F 10) (lastP (F 10) (N 10))) else uN I 16 (lastP (F 10) (N 10))) N F ++ T) (none) := by
  unfold Sd
  unfold NR at hN
  have hz := accB_r (F 10) (N 10).toNat
  refine sp_of (ls := [some (.ref 28), some (.ref 24), none]) (by decide) (nle rfl) rfl rfl ?_
  by_cases h1 : accB (F 10) (N 10).toNat = -100
  · have eL : lastP (F 10) (N 10) = (if N 10 - 2 < 0 then 0 else N 10 - 2) := by rw [lastP, if_pos h1]
    rw [eL]
    refine v_aload_n (dec_of DX0_placeAccents 0 rfl) rfl ?_
    refine v_V0r (c10_size) lX0_41 (dec_of DX0_placeAccents 1 rfl) rfl rfl (by decide) (nle rfl) rfl ?_
    refine v_istore_n (dec_of DX0_placeAccents 2 rfl) (by decide) ?_
    dsimp only [List.set]
    refine v_aload_n (dec_of DX0_placeAccents 3 rfl) rfl ?_
    refine v_aload_n (dec_of DX0_placeAccents 4 rfl) rfl ?_
    refine v_iload_n (dec_of DX0_placeAccents 5 rfl) rfl ?_
    refine v_S2r (k_acc10 hF hI (by unfold NR; exact hN) (by omega)) lX0_56 (dec_of DX0_placeAccents 6 rfl) (by decide) (nle rfl) rfl ?_
    refine cp_16 fX0_38 (dec_of DX0_placeAccents 7 rfl) ?_
    refine v_aload_n (dec_of DX0_placeAccents 8 rfl) rfl ?_
    refine v_get fX0_38 (dec_of DX0_placeAccents 9 rfl) rfl rfl ?_
    refine vi_bi (dec_of DX0_placeAccents 10 rfl) (by decide) ?_
    refine vi_icmp_ne (tgt := 34) (dec_of DX0_placeAccents 11 rfl) (by decide) (by first | omega | exact hI _ | (simp only [uN_s]; omega)) (by first | omega | exact hI _ | (simp only [uN_s]; omega)) (fun c20 => absurd c20 (by simp only [uN_s]; omega)) (fun c20 => ?_)
    refine v_aload_n (dec_of DX0_placeAccents 12 rfl) rfl ?_
    refine v_iload_n (dec_of DX0_placeAccents 13 rfl) rfl ?_
    refine vi_const (dec_of DX0_placeAccents 14 rfl) ?_
    refine vi_sub (dec_of DX0_placeAccents 15 rfl) ?_
    refine vi_const (dec_of DX0_placeAccents 16 rfl) ?_
    refine v_S2r (k_max (by omega) (by omega)) lX0_60 (dec_of DX0_placeAccents 17 rfl) (by decide) (nle rfl) rfl ?_
    refine cp_16 fX0_38 (dec_of DX0_placeAccents 18 rfl) ?_
    rw [uN_uu]
    exact k_place_t10 hF (hI.up (by omega)) (by unfold NR; exact hN) hT hH (by simp only [uN_s]; omega) ⟨rfl, rfl⟩
  · have eL : lastP (F 10) (N 10) = accB (F 10) (N 10).toNat := by rw [lastP, if_neg h1]
    rw [eL]
    refine v_aload_n (dec_of DX0_placeAccents 0 rfl) rfl ?_
    refine v_V0r (c10_size) lX0_41 (dec_of DX0_placeAccents 1 rfl) rfl rfl (by decide) (nle rfl) rfl ?_
    refine v_istore_n (dec_of DX0_placeAccents 2 rfl) (by decide) ?_
    dsimp only [List.set]
    refine v_aload_n (dec_of DX0_placeAccents 3 rfl) rfl ?_
    refine v_aload_n (dec_of DX0_placeAccents 4 rfl) rfl ?_
    refine v_iload_n (dec_of DX0_placeAccents 5 rfl) rfl ?_
    refine v_S2r (k_acc10 hF hI (by unfold NR; exact hN) (by omega)) lX0_56 (dec_of DX0_placeAccents 6 rfl) (by decide) (nle rfl) rfl ?_
    refine cp_16 fX0_38 (dec_of DX0_placeAccents 7 rfl) ?_
    refine v_aload_n (dec_of DX0_placeAccents 8 rfl) rfl ?_
    refine v_get fX0_38 (dec_of DX0_placeAccents 9 rfl) rfl rfl ?_
    refine vi_bi (dec_of DX0_placeAccents 10 rfl) (by decide) ?_
    refine vi_icmp_ne (tgt := 34) (dec_of DX0_placeAccents 11 rfl) (by decide) (by first | omega | exact hI _ | (simp only [uN_s]; omega)) (by first | omega | exact hI _ | (simp only [uN_s]; omega)) (fun c20 => ?_) (fun c20 => absurd c20 (by simp only [uN_s]; omega))
    exact k_place_t10 hF (hI.up (by omega)) (by unfold NR; exact hN) hT hH (by simp only [uN_s]; omega) ⟨rfl, rfl⟩
set_option maxRecDepth 100000 in
set_option maxHeartbeats 4000000 in
theorem k_acc_loop11 {T : XW} {I N : Nat → Int} {F : Nat → Int → Int} (hF : FR F) (hI : IR I) (hN : NR N) {n0 : Nat} {Z : XW → Option Value → Prop} {b : Int} : ∀ n : Nat, (n : Int) ≤ N 11 → Z (cls I N F ++ T) (some (J (accB (F 11) n))) → Vd (rm 1 23 0 0) [] mX0_accentBefore n0 Z 0 0 4 [some (.ref 26), some (J b), some (J ((n : Int) - 1))] [] (cls I N F ++ T) := by
  unfold NR at hN
  intro n
  induction n with
  | zero =>
    intro hn hz
    refine v_iload_n (dec_of DX0_accentBefore 4 rfl) rfl ?_
    refine vi_if_lt (tgt := 26) (dec_of DX0_accentBefore 5 rfl) (by decide) (by first | omega | exact bnd_r _ _ | exact hF _ _ | exact hI _ | exact hG _ _ | exact hK _ | (simp [uN] <;> omega)) (fun c5 => ?_) (fun c5 => absurd c5 (by omega))
    refine vi_bi (dec_of DX0_accentBefore 16 rfl) (by decide) ?_
    exact vi_ret (dec_of DX0_accentBefore 17 rfl) rfl ⟨by decide, by decide⟩ (hz)
  | succ n ih =>
    intro hn hz
    rw [show ((n + 1 : Nat) : Int) - 1 = (n : Int) by omega]
    by_cases h1 : F 11 n = 1
    · rw [accB, if_pos h1] at hz
      refine v_iload_n (dec_of DX0_accentBefore 4 rfl) rfl ?_
      refine vi_if_lt (tgt := 26) (dec_of DX0_accentBefore 5 rfl) (by decide) (by first | omega | exact bnd_r _ _ | exact hF _ _ | exact hI _ | exact hG _ _ | exact hK _ | (simp [uN] <;> omega)) (fun c5 => absurd c5 (by omega)) (fun c5 => ?_)
      refine v_aload_n (dec_of DX0_accentBefore 6 rfl) rfl ?_
      refine v_iload_n (dec_of DX0_accentBefore 7 rfl) rfl ?_
      refine vi_const (dec_of DX0_accentBefore 8 rfl) ?_
      refine v_V2r (c11_get (by first | omega | exact bnd_r _ _ | exact hF _ _ | exact hI _ | exact hG _ _ | exact hK _ | (simp [uN] <;> omega)) (by first | omega | exact bnd_r _ _ | exact hF _ _ | exact hI _ | exact hG _ _ | exact hK _ | (simp [uN] <;> omega))) lX0_72 (dec_of DX0_accentBefore 9 rfl) rfl rfl (by decide) (nle rfl) rfl ?_
      refine vi_const (dec_of DX0_accentBefore 10 rfl) ?_
      refine vi_icmp_ne (tgt := 20) (dec_of DX0_accentBefore 11 rfl) (by decide) (by first | omega | exact bnd_r _ _ | exact hF _ _ | exact hI _ | exact hG _ _ | exact hK _ | (simp [uN] <;> omega)) (by first | omega | exact bnd_r _ _ | exact hF _ _ | exact hI _ | exact hG _ _ | exact hK _ | (simp [uN] <;> omega)) (fun c15 => absurd c15 (by omega)) (fun c15 => ?_)
      refine v_iload_n (dec_of DX0_accentBefore 12 rfl) rfl ?_
      exact vi_ret (dec_of DX0_accentBefore 13 rfl) rfl ⟨by decide, by decide⟩ (hz)
    · rw [accB, if_neg h1] at hz
      refine v_iload_n (dec_of DX0_accentBefore 4 rfl) rfl ?_
      refine vi_if_lt (tgt := 26) (dec_of DX0_accentBefore 5 rfl) (by decide) (by first | omega | exact bnd_r _ _ | exact hF _ _ | exact hI _ | exact hG _ _ | exact hK _ | (simp [uN] <;> omega)) (fun c5 => absurd c5 (by omega)) (fun c5 => ?_)
      refine v_aload_n (dec_of DX0_accentBefore 6 rfl) rfl ?_
      refine v_iload_n (dec_of DX0_accentBefore 7 rfl) rfl ?_
      refine vi_const (dec_of DX0_accentBefore 8 rfl) ?_
      refine v_V2r (c11_get (by first | omega | exact bnd_r _ _ | exact hF _ _ | exact hI _ | exact hG _ _ | exact hK _ | (simp [uN] <;> omega)) (by first | omega | exact bnd_r _ _ | exact hF _ _ | exact hI _ | exact hG _ _ | exact hK _ | (simp [uN] <;> omega))) lX0_72 (dec_of DX0_accentBefore 9 rfl) rfl rfl (by decide) (nle rfl) rfl ?_
      refine vi_const (dec_of DX0_accentBefore 10 rfl) ?_
      refine vi_icmp_ne (tgt := 20) (dec_of DX0_accentBefore 11 rfl) (by decide) (by first | omega | exact bnd_r _ _ | exact hF _ _ | exact hI _ | exact hG _ _ | exact hK _ | (simp [uN] <;> omega)) (by first | omega | exact bnd_r _ _ | exact hF _ _ | exact hI _ | exact hG _ _ | exact hK _ | (simp [uN] <;> omega)) (fun c15 => ?_) (fun c15 => absurd c15 (by omega))
      refine vi_inc (dec_of DX0_accentBefore 14 rfl) rfl (by decide) ?_
      dsimp only [List.set]
      refine v_goto (tgt := 4) (dec_of DX0_accentBefore 15 rfl) (by decide) ?_
      rw [show (n : Int) + -1 = (n : Int) - 1 by omega]
      exact ih (by omega) hz
set_option maxRecDepth 100000 in
set_option maxHeartbeats 4000000 in
theorem k_acc11 {T : XW} {I N : Nat → Int} {F : Nat → Int → Int} (hF : FR F) (hI : IR I) (hN : NR N) {b : Int} (hb : 0 ≤ b ∧ b ≤ N 11) : Sd (rm 1 23 0 0) mX0_accentBefore [.ref 26, J b] (cls I N F ++ T) (cls I N F ++ T) (some (J (accB (F 11) b.toNat))) := by
  unfold Sd
  unfold NR at hN
  refine sp_of (ls := [some (.ref 26), some (J b), none]) (by decide) (nle rfl) rfl rfl ?_
  refine v_iload_n (dec_of DX0_accentBefore 0 rfl) rfl ?_
  refine vi_const (dec_of DX0_accentBefore 1 rfl) ?_
  refine vi_sub (dec_of DX0_accentBefore 2 rfl) ?_
  refine v_istore_n (dec_of DX0_accentBefore 3 rfl) (by decide) ?_
  dsimp only [List.set]
  have e : b = (b.toNat : Int) := by omega
  rw [show b - 1 = (b.toNat : Int) - 1 by omega]
  exact k_acc_loop11 hF hI (by unfold NR; exact hN) b.toNat (by omega) ⟨rfl, rfl⟩
set_option maxRecDepth 100000 in
set_option maxHeartbeats 4000000 in
theorem k_place_t11 {T : XW} {I N : Nat → Int} {F : Nat → Int → Int} (hF : FR F) (hI : IR I) (hN : NR N) {n0 : Nat} {Z : XW → Option Value → Prop} {n : Int} (hT : 1 ≤ I 17 ∧ I 17 ≤ 8) (hH : 0 ≤ I 18 ∧ I 18 ≤ 1) (hl : 0 ≤ I 16 ∧ I 16 ≤ N 11) (hz : Z (cls (if cc (I 17) (I 18) 3 = 2 then uN I 15 (firstP (F 11) (I 16)) else I) N F ++ T) none) : Vd (rm 2 45 0 0) [] mX0_placeAccents n0 Z 0 0 34 [some (.ref 28), some (.ref 26), some (J n)] [] (cls I N F ++ T) := by
  unfold NR at hN
  by_cases h2 : cc (I 17) (I 18) 3 = 2
  · rw [if_pos h2] at hz
    by_cases h3 : accB (F 11) (I 16).toNat = -100
    · by_cases h4 : 2 ≤ I 16
      · rw [firstP, if_pos h3, if_pos h4] at hz
        refine v_aload_n (dec_of DX0_placeAccents 19 rfl) rfl ?_
        refine vi_const (dec_of DX0_placeAccents 20 rfl) ?_
        refine v_V1r (k_cc hF hI (by unfold NR; exact hN) hT hH (by omega)) lX0_68 (dec_of DX0_placeAccents 21 rfl) rfl rfl (by decide) (nle rfl) rfl ?_
        refine vi_const (dec_of DX0_placeAccents 22 rfl) ?_
        refine vi_icmp_ne (tgt := 82) (dec_of DX0_placeAccents 23 rfl) (by decide) (by first | omega | exact hI _ | (have := cc_r (I 17) (I 18) 3; omega) | (have := accB_r (F 11) (I 16).toNat; simp [uN]; omega)) (by first | omega | exact hI _ | (have := cc_r (I 17) (I 18) 3; omega) | (have := accB_r (F 11) (I 16).toNat; simp [uN]; omega)) (fun c40 => absurd c40 (by omega)) (fun c40 => ?_)
        refine v_aload_n (dec_of DX0_placeAccents 24 rfl) rfl ?_
        refine v_aload_n (dec_of DX0_placeAccents 25 rfl) rfl ?_
        refine v_aload_n (dec_of DX0_placeAccents 26 rfl) rfl ?_
        refine v_get fX0_38 (dec_of DX0_placeAccents 27 rfl) rfl rfl ?_
        refine v_S2r (k_acc11 hF hI (by unfold NR; exact hN) (by first | omega | (simp [uN]; omega))) lX0_56 (dec_of DX0_placeAccents 28 rfl) (by decide) (nle rfl) rfl ?_
        refine cp_15 fX0_35 (dec_of DX0_placeAccents 29 rfl) ?_
        refine v_aload_n (dec_of DX0_placeAccents 30 rfl) rfl ?_
        refine v_get fX0_35 (dec_of DX0_placeAccents 31 rfl) rfl rfl ?_
        refine vi_bi (dec_of DX0_placeAccents 32 rfl) (by decide) ?_
        refine vi_icmp_ne (tgt := 82) (dec_of DX0_placeAccents 33 rfl) (by decide) (by first | omega | exact hI _ | (have := cc_r (I 17) (I 18) 3; omega) | (have := accB_r (F 11) (I 16).toNat; simp [uN]; omega)) (by first | omega | exact hI _ | (have := cc_r (I 17) (I 18) 3; omega) | (have := accB_r (F 11) (I 16).toNat; simp [uN]; omega)) (fun c61 => absurd c61 (by simp only [uN_s]; omega)) (fun c61 => ?_)
        refine v_aload_n (dec_of DX0_placeAccents 34 rfl) rfl ?_
        refine v_get fX0_38 (dec_of DX0_placeAccents 35 rfl) rfl rfl ?_
        refine vi_const (dec_of DX0_placeAccents 36 rfl) ?_
        refine vi_icmp_lt (tgt := 82) (dec_of DX0_placeAccents 37 rfl) (by decide) (by first | omega | exact hI _ | (have := cc_r (I 17) (I 18) 3; omega) | (have := accB_r (F 11) (I 16).toNat; simp [uN]; omega)) (by first | omega | exact hI _ | (have := cc_r (I 17) (I 18) 3; omega) | (have := accB_r (F 11) (I 16).toNat; simp [uN]; omega)) (fun c69 => absurd c69 (by simp only [uN_n (show (16:Nat) ≠ 15 by decide)]; omega)) (fun c69 => ?_)
        refine v_aload_n (dec_of DX0_placeAccents 38 rfl) rfl ?_
        refine v_aload_n (dec_of DX0_placeAccents 39 rfl) rfl ?_
        refine v_get fX0_38 (dec_of DX0_placeAccents 40 rfl) rfl rfl ?_
        refine vi_const (dec_of DX0_placeAccents 41 rfl) ?_
        refine vi_sub (dec_of DX0_placeAccents 42 rfl) ?_
        refine cp_15 fX0_35 (dec_of DX0_placeAccents 43 rfl) ?_
        exact vi_vret (dec_of DX0_placeAccents 44 rfl) rfl ⟨by decide, by decide⟩ (hz)
      · rw [firstP, if_pos h3, if_neg h4, ← h3] at hz
        refine v_aload_n (dec_of DX0_placeAccents 19 rfl) rfl ?_
        refine vi_const (dec_of DX0_placeAccents 20 rfl) ?_
        refine v_V1r (k_cc hF hI (by unfold NR; exact hN) hT hH (by omega)) lX0_68 (dec_of DX0_placeAccents 21 rfl) rfl rfl (by decide) (nle rfl) rfl ?_
        refine vi_const (dec_of DX0_placeAccents 22 rfl) ?_
        refine vi_icmp_ne (tgt := 82) (dec_of DX0_placeAccents 23 rfl) (by decide) (by first | omega | exact hI _ | (have := cc_r (I 17) (I 18) 3; omega) | (have := accB_r (F 11) (I 16).toNat; simp [uN]; omega)) (by first | omega | exact hI _ | (have := cc_r (I 17) (I 18) 3; omega) | (have := accB_r (F 11) (I 16).toNat; simp [uN]; omega)) (fun c40 => absurd c40 (by omega)) (fun c40 => ?_)
        refine v_aload_n (dec_of DX0_placeAccents 24 rfl) rfl ?_
        refine v_aload_n (dec_of DX0_placeAccents 25 rfl) rfl ?_
        refine v_aload_n (dec_of DX0_placeAccents 26 rfl) rfl ?_
        refine v_get fX0_38 (dec_of DX0_placeAccents 27 rfl) rfl rfl ?_
        refine v_S2r (k_acc11 hF hI (by unfold NR; exact hN) (by first | omega | (simp [uN]; omega))) lX0_56 (dec_of DX0_placeAccents 28 rfl) (by decide) (nle rfl) rfl ?_
        refine cp_15 fX0_35 (dec_of DX0_placeAccents 29 rfl) ?_
        refine v_aload_n (dec_of DX0_placeAccents 30 rfl) rfl ?_
        refine v_get fX0_35 (dec_of DX0_placeAccents 31 rfl) rfl rfl ?_
        refine vi_bi (dec_of DX0_placeAccents 32 rfl) (by decide) ?_
        refine vi_icmp_ne (tgt := 82) (dec_of DX0_placeAccents 33 rfl) (by decide) (by first | omega | exact hI _ | (have := cc_r (I 17) (I 18) 3; omega) | (have := accB_r (F 11) (I 16).toNat; simp [uN]; omega)) (by first | omega | exact hI _ | (have := cc_r (I 17) (I 18) 3; omega) | (have := accB_r (F 11) (I 16).toNat; simp [uN]; omega)) (fun c61 => absurd c61 (by simp only [uN_s]; omega)) (fun c61 => ?_)
        refine v_aload_n (dec_of DX0_placeAccents 34 rfl) rfl ?_
        refine v_get fX0_38 (dec_of DX0_placeAccents 35 rfl) rfl rfl ?_
        refine vi_const (dec_of DX0_placeAccents 36 rfl) ?_
        refine vi_icmp_lt (tgt := 82) (dec_of DX0_placeAccents 37 rfl) (by decide) (by first | omega | exact hI _ | (have := cc_r (I 17) (I 18) 3; omega) | (have := accB_r (F 11) (I 16).toNat; simp [uN]; omega)) (by first | omega | exact hI _ | (have := cc_r (I 17) (I 18) 3; omega) | (have := accB_r (F 11) (I 16).toNat; simp [uN]; omega)) (fun c69 => ?_) (fun c69 => absurd c69 (by simp only [uN_n (show (16:Nat) ≠ 15 by decide)]; omega))
        exact vi_vret (dec_of DX0_placeAccents 44 rfl) rfl ⟨by decide, by decide⟩ (hz)
    · rw [firstP, if_neg h3] at hz
      refine v_aload_n (dec_of DX0_placeAccents 19 rfl) rfl ?_
      refine vi_const (dec_of DX0_placeAccents 20 rfl) ?_
      refine v_V1r (k_cc hF hI (by unfold NR; exact hN) hT hH (by omega)) lX0_68 (dec_of DX0_placeAccents 21 rfl) rfl rfl (by decide) (nle rfl) rfl ?_
      refine vi_const (dec_of DX0_placeAccents 22 rfl) ?_
      refine vi_icmp_ne (tgt := 82) (dec_of DX0_placeAccents 23 rfl) (by decide) (by first | omega | exact hI _ | (have := cc_r (I 17) (I 18) 3; omega) | (have := accB_r (F 11) (I 16).toNat; simp [uN]; omega)) (by first | omega | exact hI _ | (have := cc_r (I 17) (I 18) 3; omega) | (have := accB_r (F 11) (I 16).toNat; simp [uN]; omega)) (fun c40 => absurd c40 (by omega)) (fun c40 => ?_)
      refine v_aload_n (dec_of DX0_placeAccents 24 rfl) rfl ?_
      refine v_aload_n (dec_of DX0_placeAccents 25 rfl) rfl ?_
      refine v_aload_n (dec_of DX0_placeAccents 26 rfl) rfl ?_
      refine v_get fX0_38 (dec_of DX0_placeAccents 27 rfl) rfl rfl ?_
      refine v_S2r (k_acc11 hF hI (by unfold NR; exact hN) (by first | omega | (simp [uN]; omega))) lX0_56 (dec_of DX0_placeAccents 28 rfl) (by decide) (nle rfl) rfl ?_
      refine cp_15 fX0_35 (dec_of DX0_placeAccents 29 rfl) ?_
      refine v_aload_n (dec_of DX0_placeAccents 30 rfl) rfl ?_
      refine v_get fX0_35 (dec_of DX0_placeAccents 31 rfl) rfl rfl ?_
      refine vi_bi (dec_of DX0_placeAccents 32 rfl) (by decide) ?_
      refine vi_icmp_ne (tgt := 82) (dec_of DX0_placeAccents 33 rfl) (by decide) (by first | omega | exact hI _ | (have := cc_r (I 17) (I 18) 3; omega) | (have := accB_r (F 11) (I 16).toNat; simp [uN]; omega)) (by first | omega | exact hI _ | (have := cc_r (I 17) (I 18) 3; omega) | (have := accB_r (F 11) (I 16).toNat; simp [uN]; omega)) (fun c61 => ?_) (fun c61 => absurd c61 (by simp only [uN_s]; omega))
      exact vi_vret (dec_of DX0_placeAccents 44 rfl) rfl ⟨by decide, by decide⟩ (hz)
  · rw [if_neg h2] at hz
    refine v_aload_n (dec_of DX0_placeAccents 19 rfl) rfl ?_
    refine vi_const (dec_of DX0_placeAccents 20 rfl) ?_
    refine v_V1r (k_cc hF hI (by unfold NR; exact hN) hT hH (by omega)) lX0_68 (dec_of DX0_placeAccents 21 rfl) rfl rfl (by decide) (nle rfl) rfl ?_
    refine vi_const (dec_of DX0_placeAccents 22 rfl) ?_
    refine vi_icmp_ne (tgt := 82) (dec_of DX0_placeAccents 23 rfl) (by decide) (by first | omega | exact hI _ | (have := cc_r (I 17) (I 18) 3; omega) | (have := accB_r (F 11) (I 16).toNat; simp [uN]; omega)) (by first | omega | exact hI _ | (have := cc_r (I 17) (I 18) 3; omega) | (have := accB_r (F 11) (I 16).toNat; simp [uN]; omega)) (fun c40 => ?_) (fun c40 => absurd c40 (by omega))
    exact vi_vret (dec_of DX0_placeAccents 44 rfl) rfl ⟨by decide, by decide⟩ (hz)
set_option maxRecDepth 100000 in
set_option maxHeartbeats 4000000 in
theorem k_place11 {T : XW} {I N : Nat → Int} {F : Nat → Int → Int} (hF : FR F) (hI : IR I) (hN : NR N) (hT : 1 ≤ I 17 ∧ I 17 ≤ 8) (hH : 0 ≤ I 18 ∧ I 18 ≤ 1) (hn : 0 < N 11) : Sd (rm 2 45 0 0) mX0_placeAccents [.ref 28, .ref 26] (cls I N F ++ T) (cls (if cc (I 17) (I 18) 3 = 2 then uN (uN I 16 (lastP (F 11) (N 11))) 15 (firstP (F 11) (lastP (F 11) (N 11))) else uN I 16 (lastP (F 11) (N 11))) N F ++ T) (none) := by
  unfold Sd
  unfold NR at hN
  have hz := accB_r (F 11) (N 11).toNat
  refine sp_of (ls := [some (.ref 28), some (.ref 26), none]) (by decide) (nle rfl) rfl rfl ?_
  by_cases h1 : accB (F 11) (N 11).toNat = -100
  · have eL : lastP (F 11) (N 11) = (if N 11 - 2 < 0 then 0 else N 11 - 2) := by rw [lastP, if_pos h1]
    rw [eL]
    refine v_aload_n (dec_of DX0_placeAccents 0 rfl) rfl ?_
    refine v_V0r (c11_size) lX0_41 (dec_of DX0_placeAccents 1 rfl) rfl rfl (by decide) (nle rfl) rfl ?_
    refine v_istore_n (dec_of DX0_placeAccents 2 rfl) (by decide) ?_
    dsimp only [List.set]
    refine v_aload_n (dec_of DX0_placeAccents 3 rfl) rfl ?_
    refine v_aload_n (dec_of DX0_placeAccents 4 rfl) rfl ?_
    refine v_iload_n (dec_of DX0_placeAccents 5 rfl) rfl ?_
    refine v_S2r (k_acc11 hF hI (by unfold NR; exact hN) (by omega)) lX0_56 (dec_of DX0_placeAccents 6 rfl) (by decide) (nle rfl) rfl ?_
    refine cp_16 fX0_38 (dec_of DX0_placeAccents 7 rfl) ?_
    refine v_aload_n (dec_of DX0_placeAccents 8 rfl) rfl ?_
    refine v_get fX0_38 (dec_of DX0_placeAccents 9 rfl) rfl rfl ?_
    refine vi_bi (dec_of DX0_placeAccents 10 rfl) (by decide) ?_
    refine vi_icmp_ne (tgt := 34) (dec_of DX0_placeAccents 11 rfl) (by decide) (by first | omega | exact hI _ | (simp only [uN_s]; omega)) (by first | omega | exact hI _ | (simp only [uN_s]; omega)) (fun c20 => absurd c20 (by simp only [uN_s]; omega)) (fun c20 => ?_)
    refine v_aload_n (dec_of DX0_placeAccents 12 rfl) rfl ?_
    refine v_iload_n (dec_of DX0_placeAccents 13 rfl) rfl ?_
    refine vi_const (dec_of DX0_placeAccents 14 rfl) ?_
    refine vi_sub (dec_of DX0_placeAccents 15 rfl) ?_
    refine vi_const (dec_of DX0_placeAccents 16 rfl) ?_
    refine v_S2r (k_max (by omega) (by omega)) lX0_60 (dec_of DX0_placeAccents 17 rfl) (by decide) (nle rfl) rfl ?_
    refine cp_16 fX0_38 (dec_of DX0_placeAccents 18 rfl) ?_
    rw [uN_uu]
    exact k_place_t11 hF (hI.up (by omega)) (by unfold NR; exact hN) hT hH (by simp only [uN_s]; omega) ⟨rfl, rfl⟩
  · have eL : lastP (F 11) (N 11) = accB (F 11) (N 11).toNat := by rw [lastP, if_neg h1]
    rw [eL]
    refine v_aload_n (dec_of DX0_placeAccents 0 rfl) rfl ?_
    refine v_V0r (c11_size) lX0_41 (dec_of DX0_placeAccents 1 rfl) rfl rfl (by decide) (nle rfl) rfl ?_
    refine v_istore_n (dec_of DX0_placeAccents 2 rfl) (by decide) ?_
    dsimp only [List.set]
    refine v_aload_n (dec_of DX0_placeAccents 3 rfl) rfl ?_
    refine v_aload_n (dec_of DX0_placeAccents 4 rfl) rfl ?_
    refine v_iload_n (dec_of DX0_placeAccents 5 rfl) rfl ?_
    refine v_S2r (k_acc11 hF hI (by unfold NR; exact hN) (by omega)) lX0_56 (dec_of DX0_placeAccents 6 rfl) (by decide) (nle rfl) rfl ?_
    refine cp_16 fX0_38 (dec_of DX0_placeAccents 7 rfl) ?_
    refine v_aload_n (dec_of DX0_placeAccents 8 rfl) rfl ?_
    refine v_get fX0_38 (dec_of DX0_placeAccents 9 rfl) rfl rfl ?_
    refine vi_bi (dec_of DX0_placeAccents 10 rfl) (by decide) ?_
    refine vi_icmp_ne (tgt := 34) (dec_of DX0_placeAccents 11 rfl) (by decide) (by first | omega | exact hI _ | (simp only [uN_s]; omega)) (by first | omega | exact hI _ | (simp only [uN_s]; omega)) (fun c20 => ?_) (fun c20 => absurd c20 (by simp only [uN_s]; omega))
    exact k_place_t11 hF (hI.up (by omega)) (by unfold NR; exact hN) hT hH (by simp only [uN_s]; omega) ⟨rfl, rfl⟩
