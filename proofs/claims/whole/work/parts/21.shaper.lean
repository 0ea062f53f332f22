/-! Shaper (printed by wip/tools/gen_c11.py) -/
/-- a local may be forgotten -/
theorem Vd_fg {R : Room} {ex : List (Nat × (Nat → Int32))} {M : MI} {n0 : Nat} {Z : XW → Option Value → Prop} {ca sl pc : Nat} {ls : List (Option Value)} {st : List Value} {w : XW} (i : Nat) (k : Vd R ex M n0 Z ca sl pc (ls.set i none) st w) : Vd R ex M n0 Z ca sl pc ls st w := by
  intro p l e s m args below meth c D cI ad0 A Qs C E ad H locs lsA hR hL
  refine k p l e s m args below meth c D cI ad0 A Qs C E ad H locs lsA hR ⟨hL.1, hL.2.1, fun j v hj => hL.2.2 j v ?_⟩
  rw [List.getElem?_set] at hj
  by_cases h : i = j
  · subst h
    rw [if_pos rfl] at hj
    split at hj <;> cases hj
  · rw [if_neg h] at hj
    exact hj
theorem Jc {a b : Int} (h : a = b) : some (J a) = some (J b) := by rw [h]
def wayI : Int → Int := tI [1, 2, 3, 11, 22, 12, 21, 33, 121, 212, 112, 221, 122, 1122, 2211]
theorem way_tab {a : Int} (h : 0 ≤ a ∧ a < 15) : tF tWays a.toNat = iI (wayI a) := by
  have key : ∀ n : Nat, n < 15 → tF tWays n = iI (([1, 2, 3, 11, 22, 12, 21, 33, 121, 212, 112, 221, 122, 1122, 2211] : List Int).getD n 0) := by decide
  exact key a.toNat (by omega)
theorem wayI_r {a : Int} (h : 0 ≤ a ∧ a < 15) : 0 ≤ wayI a ∧ wayI a ≤ 3000 := by
  have key : ∀ n : Nat, n < 15 → 0 ≤ ([1, 2, 3, 11, 22, 12, 21, 33, 121, 212, 112, 221, 122, 1122, 2211] : List Int).getD n 0 ∧ ([1, 2, 3, 11, 22, 12, 21, 33, 121, 212, 112, 221, 122, 1122, 2211] : List Int).getD n 0 ≤ 3000 := by decide
  exact key a.toNat (by omega)
/-- the first place from i on whose row is w -/
def kdS (w : Int) : Nat → Int → Int
  | 0, _ => -100
  | m + 1, i => if wayI i = w then i + 3 else kdS w m (i + 1)
def kindW (w : Int) : Int := kdS w 15 0
theorem kdS_r {w : Int} : ∀ (m : Nat) (i : Int), 0 ≤ i → i + m = 15 → kdS w m i = -100 ∨ (3 ≤ kdS w m i ∧ kdS w m i ≤ 17) := by
  intro m
  induction m with
  | zero => intro i _ _; exact Or.inl rfl
  | succ m ih =>
    intro i h0 h1
    unfold kdS
    split
    · omega
    · exact ih (i + 1) (by omega) (by omega)
theorem kindW_r (w : Int) : kindW w = -100 ∨ (3 ≤ kindW w ∧ kindW w ≤ 17) := kdS_r 15 0 (by omega) (by omega)
def wyF (F : Nat → Int → Int) (n : Int) : Int := if F 4 (n * 8 + 0) = F 4 ((n - 1) * 8 + 0) then 3 else if F 4 ((n - 1) * 8 + 0) < F 4 (n * 8 + 0) then 1 else 2
theorem wyF_r (F : Nat → Int → Int) (n : Int) : 1 ≤ wyF F n ∧ wyF F n ≤ 3 := by unfold wyF; omega
abbrev sameG (N : Nat → Int) (F : Nat → Int → Int) (a b : Int) : Prop := (0 ≤ a ∧ a < N 4) ∧ (0 ≤ b ∧ b < N 4) ∧ F 4 (a * 8 + 3) = F 4 (b * 8 + 3)
def lnF (N : Nat → Int) (F : Nat → Int → Int) (n : Int) : Int := 2 + (if bnd (F 4 (n * 8 + 1)) 1 = 0 then 0 else 2) + (if bnd (F 4 (n * 8 + 1)) 2 = 0 then 0 else 1) + (if sameG N F n (n + 1) ∧ ¬ bnd (F 4 ((n + 1) * 8 + 1)) 8 = 0 then 1 else 0) - (if bnd (F 4 (n * 8 + 1)) 16 = 0 then 0 else 1)
/-- the longest row that is there: kind and number of notes -/
def nmL (N : Nat → Int) (F : Nat → Int → Int) (n : Int) : Nat → Int → Int → Int → Int → Int × Int
  | 0, _, kd, tk, _ => (kd, tk)
  | m + 1, k, kd, tk, wy => if sameG N F n (n + k) then (if kindW (10 * wy + wyF F (n + k)) = -100 then nmL N F n m (k + 1) kd tk (10 * wy + wyF F (n + k)) else nmL N F n m (k + 1) (kindW (10 * wy + wyF F (n + k))) (k + 1) (10 * wy + wyF F (n + k))) else (kd, tk)
def nmK (N : Nat → Int) (F : Nat → Int → Int) (n : Int) : Int × Int := nmL N F n 4 1 (if bnd (F 4 (n * 8 + 1)) 4 = 0 then 1 else 2) 1 0
theorem nmL_r {N : Nat → Int} {F : Nat → Int → Int} {n : Int} : ∀ (m : Nat) (k kd tk wy : Int), k + m = 5 → 1 ≤ k → 1 ≤ tk → tk ≤ 5 → n + tk ≤ N 4 → 1 ≤ (nmL N F n m k kd tk wy).2 ∧ (nmL N F n m k kd tk wy).2 ≤ 5 ∧ n + (nmL N F n m k kd tk wy).2 ≤ N 4 := by
  intro m
  induction m with
  | zero => intro k kd tk wy _ _ h1 h2 h3; exact ⟨h1, h2, h3⟩
  | succ m ih =>
    intro k kd tk wy hk hk1 h1 h2 h3
    unfold nmL
    split
    · rename_i hs
      split
      · exact ih _ _ _ _ (by omega) (by omega) h1 h2 h3
      · exact ih _ _ _ _ (by omega) (by omega) (by omega) (by omega) (by omega)
    · exact ⟨h1, h2, h3⟩
theorem nmK_r {N : Nat → Int} {F : Nat → Int → Int} {n : Int} (h : n < N 4) : 1 ≤ (nmK N F n).2 ∧ (nmK N F n).2 ≤ 5 ∧ n + (nmK N F n).2 ≤ N 4 := nmL_r 4 1 _ 1 0 (by omega) (by omega) (by omega) (by omega) (by omega)
def bw : Nat → Int
  | 0 => 3333
  | 1 => 333
  | 2 => 33
  | 3 => 3
  | _ => 0
theorem bw_s : ∀ m : Nat, m ≤ 3 → 10 * bw (m + 1) + 3 ≤ bw m := by
  have key : ∀ m : Nat, m < 4 → 10 * bw (m + 1) + 3 ≤ bw m := by decide
  exact fun m h => key m (by omega)
theorem bw_r : ∀ m : Nat, m ≤ 4 → bw m ≤ 3333 := by
  have key : ∀ m : Nat, m < 5 → bw m ≤ 3333 := by decide
  exact fun m h => key m (by omega)
theorem hb0 {p : Prop} [Decidable p] (h : (if p then (0 : Int) else 1) = 0) : p := by split at h; assumption; exact absurd h (by decide)
theorem hb1 {p : Prop} [Decidable p] (h : ¬ (if p then (0 : Int) else 1) = 0) : ¬ p := by intro q; rw [if_pos q] at h; exact h rfl
theorem nmL_k {N : Nat → Int} {F : Nat → Int → Int} {n : Int} : ∀ (m : Nat) (k kd tk wy : Int), (1 ≤ kd ∧ kd ≤ 17) → 1 ≤ (nmL N F n m k kd tk wy).1 ∧ (nmL N F n m k kd tk wy).1 ≤ 17 := by
  intro m
  induction m with
  | zero => intro k kd tk wy h; exact h
  | succ m ih =>
    intro k kd tk wy h
    have hk := kindW_r (10 * wy + wyF F (n + k))
    unfold nmL
    split
    · split
      · exact ih _ _ _ _ h
      · exact ih _ _ _ _ (by omega)
    · exact h
theorem nmK_k {N : Nat → Int} {F : Nat → Int → Int} {n : Int} : 1 ≤ (nmK N F n).1 ∧ (nmK N F n).1 ≤ 17 := nmL_k 4 1 _ 1 0 (by split <;> omega)
set_option maxRecDepth 100000 in
set_option maxHeartbeats 4000000 in
theorem k_wayTo {T : XW} {I N : Nat → Int} {F : Nat → Int → Int} (hF : FR F) (hI : IR I) (hN : NR N) {n : Int} (hn : 1 ≤ n ∧ n < N 4) : Sd (rm 1 23 0 0) mX4_wayTo [.ref 5, J n] (cls I N F ++ T) (cls I N F ++ T) (some (J (wyF F n))) := by
  unfold Sd
  unfold NR at hN
  refine sp_of (ls := [some (.ref 5), some (J n), none, none]) (by decide) (nle rfl) rfl rfl ?_
  refine v_aload_n (dec_of DX4_wayTo 0 rfl) rfl ?_
  refine v_get fX4_9 (dec_of DX4_wayTo 1 rfl) rfl rfl ?_
  refine v_iload_n (dec_of DX4_wayTo 2 rfl) rfl ?_
  refine vi_const (dec_of DX4_wayTo 3 rfl) ?_
  refine vi_sub (dec_of DX4_wayTo 4 rfl) ?_
  refine vi_const (dec_of DX4_wayTo 5 rfl) ?_
  refine v_V2r (c4_get (by first | omega | exact bnd_r _ _ | exact hF _ _ | exact hI _ | exact hG _ _ | exact hK _ | (simp [uN] <;> omega)) (by first | omega | exact bnd_r _ _ | exact hF _ _ | exact hI _ | exact hG _ _ | exact hK _ | (simp [uN] <;> omega)) (by first | omega | exact bnd_r _ _ | exact hF _ _ | exact hI _ | exact hG _ _ | exact hK _ | (simp [uN] <;> omega))) lX4_54 (dec_of DX4_wayTo 6 rfl) rfl rfl (by decide) (nle rfl) rfl ?_
  refine v_istore_n (dec_of DX4_wayTo 7 rfl) (by decide) ?_
  dsimp only [List.set]
  refine v_aload_n (dec_of DX4_wayTo 8 rfl) rfl ?_
  refine v_get fX4_9 (dec_of DX4_wayTo 9 rfl) rfl rfl ?_
  refine v_iload_n (dec_of DX4_wayTo 10 rfl) rfl ?_
  refine vi_const (dec_of DX4_wayTo 11 rfl) ?_
  refine v_V2r (c4_get (by first | omega | exact bnd_r _ _ | exact hF _ _ | exact hI _ | exact hG _ _ | exact hK _ | (simp [uN] <;> omega)) (by first | omega | exact bnd_r _ _ | exact hF _ _ | exact hI _ | exact hG _ _ | exact hK _ | (simp [uN] <;> omega)) (by first | omega | exact bnd_r _ _ | exact hF _ _ | exact hI _ | exact hG _ _ | exact hK _ | (simp [uN] <;> omega))) lX4_54 (dec_of DX4_wayTo 12 rfl) rfl rfl (by decide) (nle rfl) rfl ?_
  refine v_istore_n (dec_of DX4_wayTo 13 rfl) (by decide) ?_
  dsimp only [List.set]
  refine v_iload_n (dec_of DX4_wayTo 14 rfl) rfl ?_
  refine v_iload_n (dec_of DX4_wayTo 15 rfl) rfl ?_
  refine vi_icmp_ne (tgt := 29) (dec_of DX4_wayTo 16 rfl) (by decide) (by first | omega | exact bnd_r _ _ | exact hF _ _ | exact hI _ | exact hG _ _ | exact hK _ | (simp [uN] <;> omega)) (by first | omega | exact bnd_r _ _ | exact hF _ _ | exact hI _ | exact hG _ _ | exact hK _ | (simp [uN] <;> omega)) (fun c24 => ?_) (fun c24 => ?_)
  · refine v_iload_n (dec_of DX4_wayTo 19 rfl) rfl ?_
    refine v_iload_n (dec_of DX4_wayTo 20 rfl) rfl ?_
    refine vi_icmp_le (tgt := 38) (dec_of DX4_wayTo 21 rfl) (by decide) (by first | omega | exact bnd_r _ _ | exact hF _ _ | exact hI _ | exact hG _ _ | exact hK _ | (simp [uN] <;> omega)) (by first | omega | exact bnd_r _ _ | exact hF _ _ | exact hI _ | exact hG _ _ | exact hK _ | (simp [uN] <;> omega)) (fun c31 => ?_) (fun c31 => ?_)
    · rw [wyF, if_neg c24, if_neg (by omega)]
      refine vi_const (dec_of DX4_wayTo 24 rfl) ?_
      exact vi_ret (dec_of DX4_wayTo 25 rfl) rfl ⟨by decide, by decide⟩ (⟨rfl, rfl⟩)
    · rw [wyF, if_neg c24, if_pos (by omega)]
      refine vi_const (dec_of DX4_wayTo 22 rfl) ?_
      refine v_goto (tgt := 39) (dec_of DX4_wayTo 23 rfl) (by decide) ?_
      exact vi_ret (dec_of DX4_wayTo 25 rfl) rfl ⟨by decide, by decide⟩ (⟨rfl, rfl⟩)
  · rw [wyF, if_pos c24]
    refine vi_const (dec_of DX4_wayTo 17 rfl) ?_
    exact vi_ret (dec_of DX4_wayTo 18 rfl) rfl ⟨by decide, by decide⟩ (⟨rfl, rfl⟩)
set_option maxRecDepth 100000 in
set_option maxHeartbeats 4000000 in
theorem k_kind_loop {n0 : Nat} {Z : XW → Option Value → Prop} {x : XW} {w : Int} (hw : -2147483648 ≤ w ∧ w < 2147483648) : ∀ (m : Nat) (i : Int), 0 ≤ i → i + m = 15 → Z x (some (J (kdS w m i))) → Vd (rm 0 0 0 0) [] mX4_kindOf n0 Z 0 0 2 [some (J w), some (J i)] [] x := by
  intro m
  induction m with
  | zero =>
    intro i h0 h1 hz
    refine v_iload_n (dec_of DX4_kindOf 2 rfl) rfl ?_
    refine v_gets (j := 1) (q := ("ChantNeumes$Shaper", "WAYS")) (dec_of DX4_kindOf 3 rfl) sX4_58 rfl ?_
    refine vi_slen (dec_of DX4_kindOf 4 rfl) rfl ?_
    refine vi_icmp_ge (tgt := 29) (dec_of DX4_kindOf 5 rfl) (by decide) (by first | omega | exact bnd_r _ _ | exact hF _ _ | exact hI _ | exact hG _ _ | exact hK _ | (simp [uN] <;> omega)) (by first | omega | exact bnd_r _ _ | exact hF _ _ | exact hI _ | exact hG _ _ | exact hK _ | (simp [uN] <;> omega)) (fun c7 => ?_) (fun c7 => absurd c7 (by omega))
    refine vi_bi (dec_of DX4_kindOf 17 rfl) (by decide) ?_
    exact vi_ret (dec_of DX4_kindOf 18 rfl) rfl ⟨by decide, by decide⟩ (hz)
  | succ m ih =>
    intro i h0 h1 hz
    have hr := wayI_r (a := i) (by omega)
    by_cases h : wayI i = w
    · rw [kdS, if_pos h] at hz
      refine v_iload_n (dec_of DX4_kindOf 2 rfl) rfl ?_
      refine v_gets (j := 1) (q := ("ChantNeumes$Shaper", "WAYS")) (dec_of DX4_kindOf 3 rfl) sX4_58 rfl ?_
      refine vi_slen (dec_of DX4_kindOf 4 rfl) rfl ?_
      refine vi_icmp_ge (tgt := 29) (dec_of DX4_kindOf 5 rfl) (by decide) (by first | omega | exact bnd_r _ _ | exact hF _ _ | exact hI _ | exact hG _ _ | exact hK _ | (simp [uN] <;> omega)) (by first | omega | exact bnd_r _ _ | exact hF _ _ | exact hI _ | exact hG _ _ | exact hK _ | (simp [uN] <;> omega)) (fun c7 => absurd c7 (by omega)) (fun c7 => ?_)
      refine v_gets (j := 1) (q := ("ChantNeumes$Shaper", "WAYS")) (dec_of DX4_kindOf 6 rfl) sX4_58 rfl ?_
      refine v_iload_n (dec_of DX4_kindOf 7 rfl) rfl ?_
      refine vi_sald (dec_of DX4_kindOf 8 rfl) rfl (by first | omega | exact bnd_r _ _ | exact hF _ _ | exact hI _ | exact hG _ _ | exact hK _ | (simp [uN] <;> omega)) (by decide) (way_tab (by omega)) ?_
      refine v_iload_n (dec_of DX4_kindOf 9 rfl) rfl ?_
      refine vi_icmp_ne (tgt := 23) (dec_of DX4_kindOf 10 rfl) (by decide) (by first | omega | exact bnd_r _ _ | exact hF _ _ | exact hI _ | exact hG _ _ | exact hK _ | (simp [uN] <;> omega)) (by first | omega | exact bnd_r _ _ | exact hF _ _ | exact hI _ | exact hG _ _ | exact hK _ | (simp [uN] <;> omega)) (fun c16 => absurd c16 (by omega)) (fun c16 => ?_)
      refine v_iload_n (dec_of DX4_kindOf 11 rfl) rfl ?_
      refine vi_const (dec_of DX4_kindOf 12 rfl) ?_
      refine vi_add (dec_of DX4_kindOf 13 rfl) ?_
      exact vi_ret (dec_of DX4_kindOf 14 rfl) rfl ⟨by decide, by decide⟩ (hz)
    · rw [kdS, if_neg h] at hz
      refine v_iload_n (dec_of DX4_kindOf 2 rfl) rfl ?_
      refine v_gets (j := 1) (q := ("ChantNeumes$Shaper", "WAYS")) (dec_of DX4_kindOf 3 rfl) sX4_58 rfl ?_
      refine vi_slen (dec_of DX4_kindOf 4 rfl) rfl ?_
      refine vi_icmp_ge (tgt := 29) (dec_of DX4_kindOf 5 rfl) (by decide) (by first | omega | exact bnd_r _ _ | exact hF _ _ | exact hI _ | exact hG _ _ | exact hK _ | (simp [uN] <;> omega)) (by first | omega | exact bnd_r _ _ | exact hF _ _ | exact hI _ | exact hG _ _ | exact hK _ | (simp [uN] <;> omega)) (fun c7 => absurd c7 (by omega)) (fun c7 => ?_)
      refine v_gets (j := 1) (q := ("ChantNeumes$Shaper", "WAYS")) (dec_of DX4_kindOf 6 rfl) sX4_58 rfl ?_
      refine v_iload_n (dec_of DX4_kindOf 7 rfl) rfl ?_
      refine vi_sald (dec_of DX4_kindOf 8 rfl) rfl (by first | omega | exact bnd_r _ _ | exact hF _ _ | exact hI _ | exact hG _ _ | exact hK _ | (simp [uN] <;> omega)) (by decide) (way_tab (by omega)) ?_
      refine v_iload_n (dec_of DX4_kindOf 9 rfl) rfl ?_
      refine vi_icmp_ne (tgt := 23) (dec_of DX4_kindOf 10 rfl) (by decide) (by first | omega | exact bnd_r _ _ | exact hF _ _ | exact hI _ | exact hG _ _ | exact hK _ | (simp [uN] <;> omega)) (by first | omega | exact bnd_r _ _ | exact hF _ _ | exact hI _ | exact hG _ _ | exact hK _ | (simp [uN] <;> omega)) (fun c16 => ?_) (fun c16 => absurd c16 (by omega))
      refine vi_inc (dec_of DX4_kindOf 15 rfl) rfl (by decide) ?_
      dsimp only [List.set]
      refine v_goto (tgt := 2) (dec_of DX4_kindOf 16 rfl) (by decide) ?_
      exact ih (i + 1) (by omega) (by omega) hz
set_option maxRecDepth 100000 in
set_option maxHeartbeats 4000000 in
theorem k_kindOf {w : XW} {a : Int} (ha : -2147483648 ≤ a ∧ a < 2147483648) : Sd (rm 0 0 0 0) mX4_kindOf [J a] (w) (w) (some (J (kindW a))) := by
  unfold Sd
  refine sp_of (ls := [some (J a), none]) (by decide) (nle rfl) rfl rfl ?_
  refine vi_const (dec_of DX4_kindOf 0 rfl) ?_
  refine v_istore_n (dec_of DX4_kindOf 1 rfl) (by decide) ?_
  dsimp only [List.set]
  exact k_kind_loop ha 15 0 (by omega) (by omega) ⟨rfl, rfl⟩
set_option maxRecDepth 100000 in
set_option maxHeartbeats 4000000 in
theorem k_lengthOf {T : XW} {I N : Nat → Int} {F : Nat → Int → Int} (hF : FR F) (hI : IR I) (hN : NR N) {n : Int} (hn : 0 ≤ n ∧ n < N 4) : Sd (rm 2 45 0 0) mX4_lengthOf [.ref 5, J n] (cls I N F ++ T) (cls I N F ++ T) (some (J (lnF N F n))) := by
  unfold Sd
  unfold NR at hN
  refine sp_of (ls := [some (.ref 5), some (J n), none]) (by decide) (nle rfl) rfl rfl ?_
  refine vi_const (dec_of DX4_lengthOf 0 rfl) ?_
  refine v_istore_n (dec_of DX4_lengthOf 1 rfl) (by decide) ?_
  dsimp only [List.set]
  refine v_aload_n (dec_of DX4_lengthOf 2 rfl) rfl ?_
  refine v_iload_n (dec_of DX4_lengthOf 3 rfl) rfl ?_
  refine vi_const (dec_of DX4_lengthOf 4 rfl) ?_
  refine v_V2r (k_hasMark hF hI (by unfold NR; exact hN) (by omega)) lX4_37 (dec_of DX4_lengthOf 5 rfl) rfl rfl (by decide) (nle rfl) rfl ?_
  refine vi_if_eq (tgt := 14) (dec_of DX4_lengthOf 6 rfl) (by decide) (by first | omega | exact bnd_r _ _ | exact hF _ _ | exact hI _ | exact hG _ _ | exact hK _ | (simp [uN] <;> omega)) (fun c8 => ?_) (fun c8 => ?_)
  · refine v_aload_n (dec_of DX4_lengthOf 8 rfl) rfl ?_
    refine v_iload_n (dec_of DX4_lengthOf 9 rfl) rfl ?_
    refine vi_const (dec_of DX4_lengthOf 10 rfl) ?_
    refine v_V2r (k_hasMark hF hI (by unfold NR; exact hN) (by omega)) lX4_37 (dec_of DX4_lengthOf 11 rfl) rfl rfl (by decide) (nle rfl) rfl ?_
    refine vi_if_eq (tgt := 26) (dec_of DX4_lengthOf 12 rfl) (by decide) (by first | omega | exact bnd_r _ _ | exact hF _ _ | exact hI _ | exact hG _ _ | exact hK _ | (simp [uN] <;> omega)) (fun c20 => ?_) (fun c20 => ?_)
    · refine v_aload_n (dec_of DX4_lengthOf 14 rfl) rfl ?_
      refine v_iload_n (dec_of DX4_lengthOf 15 rfl) rfl ?_
      refine v_iload_n (dec_of DX4_lengthOf 16 rfl) rfl ?_
      refine vi_const (dec_of DX4_lengthOf 17 rfl) ?_
      refine vi_add (dec_of DX4_lengthOf 18 rfl) ?_
      refine v_V2r (k_sameGroup hF hI (by unfold NR; exact hN) (by omega) (by omega)) lX4_41 (dec_of DX4_lengthOf 19 rfl) rfl rfl (by decide) (nle rfl) rfl ?_
      refine vi_if_eq (tgt := 52) (dec_of DX4_lengthOf 20 rfl) (by decide) (by first | omega | exact bnd_r _ _ | exact hF _ _ | exact hI _ | exact hG _ _ | exact hK _ | (simp [uN] <;> omega)) (fun c34 => ?_) (fun c34 => ?_)
      · refine v_aload_n (dec_of DX4_lengthOf 29 rfl) rfl ?_
        refine v_iload_n (dec_of DX4_lengthOf 30 rfl) rfl ?_
        refine vi_bi (dec_of DX4_lengthOf 31 rfl) (by decide) ?_
        refine v_V2r (k_hasMark hF hI (by unfold NR; exact hN) (by omega)) lX4_37 (dec_of DX4_lengthOf 32 rfl) rfl rfl (by decide) (nle rfl) rfl ?_
        refine vi_if_eq (tgt := 65) (dec_of DX4_lengthOf 33 rfl) (by decide) (by first | omega | exact bnd_r _ _ | exact hF _ _ | exact hI _ | exact hG _ _ | exact hK _ | (simp [uN] <;> omega)) (fun c59 => ?_) (fun c59 => ?_)
        · refine v_iload_n (dec_of DX4_lengthOf 35 rfl) rfl ?_
          exact vi_ret (dec_of DX4_lengthOf 36 rfl) rfl ⟨by decide, by decide⟩ (⟨rfl, Jc (by unfold lnF; omega)⟩)
        · refine vi_inc (dec_of DX4_lengthOf 34 rfl) rfl (by decide) ?_
          dsimp only [List.set]
          refine v_iload_n (dec_of DX4_lengthOf 35 rfl) rfl ?_
          exact vi_ret (dec_of DX4_lengthOf 36 rfl) rfl ⟨by decide, by decide⟩ (⟨rfl, Jc (by unfold lnF; omega)⟩)
      · refine v_aload_n (dec_of DX4_lengthOf 21 rfl) rfl ?_
        refine v_iload_n (dec_of DX4_lengthOf 22 rfl) rfl ?_
        refine vi_const (dec_of DX4_lengthOf 23 rfl) ?_
        refine vi_add (dec_of DX4_lengthOf 24 rfl) ?_
        refine vi_bi (dec_of DX4_lengthOf 25 rfl) (by decide) ?_
        refine v_V2r (k_hasMark hF hI (by unfold NR; exact hN) (by omega)) lX4_37 (dec_of DX4_lengthOf 26 rfl) rfl rfl (by decide) (nle rfl) rfl ?_
        refine vi_if_eq (tgt := 52) (dec_of DX4_lengthOf 27 rfl) (by decide) (by first | omega | exact bnd_r _ _ | exact hF _ _ | exact hI _ | exact hG _ _ | exact hK _ | (simp [uN] <;> omega)) (fun c46 => ?_) (fun c46 => ?_)
        · refine v_aload_n (dec_of DX4_lengthOf 29 rfl) rfl ?_
          refine v_iload_n (dec_of DX4_lengthOf 30 rfl) rfl ?_
          refine vi_bi (dec_of DX4_lengthOf 31 rfl) (by decide) ?_
          refine v_V2r (k_hasMark hF hI (by unfold NR; exact hN) (by omega)) lX4_37 (dec_of DX4_lengthOf 32 rfl) rfl rfl (by decide) (nle rfl) rfl ?_
          refine vi_if_eq (tgt := 65) (dec_of DX4_lengthOf 33 rfl) (by decide) (by first | omega | exact bnd_r _ _ | exact hF _ _ | exact hI _ | exact hG _ _ | exact hK _ | (simp [uN] <;> omega)) (fun c59 => ?_) (fun c59 => ?_)
          · refine v_iload_n (dec_of DX4_lengthOf 35 rfl) rfl ?_
            exact vi_ret (dec_of DX4_lengthOf 36 rfl) rfl ⟨by decide, by decide⟩ (⟨rfl, Jc (by unfold lnF; omega)⟩)
          · refine vi_inc (dec_of DX4_lengthOf 34 rfl) rfl (by decide) ?_
            dsimp only [List.set]
            refine v_iload_n (dec_of DX4_lengthOf 35 rfl) rfl ?_
            exact vi_ret (dec_of DX4_lengthOf 36 rfl) rfl ⟨by decide, by decide⟩ (⟨rfl, Jc (by unfold lnF; omega)⟩)
        · refine vi_inc (dec_of DX4_lengthOf 28 rfl) rfl (by decide) ?_
          dsimp only [List.set]
          refine v_aload_n (dec_of DX4_lengthOf 29 rfl) rfl ?_
          refine v_iload_n (dec_of DX4_lengthOf 30 rfl) rfl ?_
          refine vi_bi (dec_of DX4_lengthOf 31 rfl) (by decide) ?_
          refine v_V2r (k_hasMark hF hI (by unfold NR; exact hN) (by omega)) lX4_37 (dec_of DX4_lengthOf 32 rfl) rfl rfl (by decide) (nle rfl) rfl ?_
          refine vi_if_eq (tgt := 65) (dec_of DX4_lengthOf 33 rfl) (by decide) (by first | omega | exact bnd_r _ _ | exact hF _ _ | exact hI _ | exact hG _ _ | exact hK _ | (simp [uN] <;> omega)) (fun c59 => ?_) (fun c59 => ?_)
          · refine v_iload_n (dec_of DX4_lengthOf 35 rfl) rfl ?_
            exact vi_ret (dec_of DX4_lengthOf 36 rfl) rfl ⟨by decide, by decide⟩ (⟨rfl, Jc (by unfold lnF; omega)⟩)
          · refine vi_inc (dec_of DX4_lengthOf 34 rfl) rfl (by decide) ?_
            dsimp only [List.set]
            refine v_iload_n (dec_of DX4_lengthOf 35 rfl) rfl ?_
            exact vi_ret (dec_of DX4_lengthOf 36 rfl) rfl ⟨by decide, by decide⟩ (⟨rfl, Jc (by unfold lnF; omega)⟩)
    · refine vi_inc (dec_of DX4_lengthOf 13 rfl) rfl (by decide) ?_
      dsimp only [List.set]
      refine v_aload_n (dec_of DX4_lengthOf 14 rfl) rfl ?_
      refine v_iload_n (dec_of DX4_lengthOf 15 rfl) rfl ?_
      refine v_iload_n (dec_of DX4_lengthOf 16 rfl) rfl ?_
      refine vi_const (dec_of DX4_lengthOf 17 rfl) ?_
      refine vi_add (dec_of DX4_lengthOf 18 rfl) ?_
      refine v_V2r (k_sameGroup hF hI (by unfold NR; exact hN) (by omega) (by omega)) lX4_41 (dec_of DX4_lengthOf 19 rfl) rfl rfl (by decide) (nle rfl) rfl ?_
      refine vi_if_eq (tgt := 52) (dec_of DX4_lengthOf 20 rfl) (by decide) (by first | omega | exact bnd_r _ _ | exact hF _ _ | exact hI _ | exact hG _ _ | exact hK _ | (simp [uN] <;> omega)) (fun c34 => ?_) (fun c34 => ?_)
      · refine v_aload_n (dec_of DX4_lengthOf 29 rfl) rfl ?_
        refine v_iload_n (dec_of DX4_lengthOf 30 rfl) rfl ?_
        refine vi_bi (dec_of DX4_lengthOf 31 rfl) (by decide) ?_
        refine v_V2r (k_hasMark hF hI (by unfold NR; exact hN) (by omega)) lX4_37 (dec_of DX4_lengthOf 32 rfl) rfl rfl (by decide) (nle rfl) rfl ?_
        refine vi_if_eq (tgt := 65) (dec_of DX4_lengthOf 33 rfl) (by decide) (by first | omega | exact bnd_r _ _ | exact hF _ _ | exact hI _ | exact hG _ _ | exact hK _ | (simp [uN] <;> omega)) (fun c59 => ?_) (fun c59 => ?_)
        · refine v_iload_n (dec_of DX4_lengthOf 35 rfl) rfl ?_
          exact vi_ret (dec_of DX4_lengthOf 36 rfl) rfl ⟨by decide, by decide⟩ (⟨rfl, Jc (by unfold lnF; omega)⟩)
        · refine vi_inc (dec_of DX4_lengthOf 34 rfl) rfl (by decide) ?_
          dsimp only [List.set]
          refine v_iload_n (dec_of DX4_lengthOf 35 rfl) rfl ?_
          exact vi_ret (dec_of DX4_lengthOf 36 rfl) rfl ⟨by decide, by decide⟩ (⟨rfl, Jc (by unfold lnF; omega)⟩)
      · refine v_aload_n (dec_of DX4_lengthOf 21 rfl) rfl ?_
        refine v_iload_n (dec_of DX4_lengthOf 22 rfl) rfl ?_
        refine vi_const (dec_of DX4_lengthOf 23 rfl) ?_
        refine vi_add (dec_of DX4_lengthOf 24 rfl) ?_
        refine vi_bi (dec_of DX4_lengthOf 25 rfl) (by decide) ?_
        refine v_V2r (k_hasMark hF hI (by unfold NR; exact hN) (by omega)) lX4_37 (dec_of DX4_lengthOf 26 rfl) rfl rfl (by decide) (nle rfl) rfl ?_
        refine vi_if_eq (tgt := 52) (dec_of DX4_lengthOf 27 rfl) (by decide) (by first | omega | exact bnd_r _ _ | exact hF _ _ | exact hI _ | exact hG _ _ | exact hK _ | (simp [uN] <;> omega)) (fun c46 => ?_) (fun c46 => ?_)
        · refine v_aload_n (dec_of DX4_lengthOf 29 rfl) rfl ?_
          refine v_iload_n (dec_of DX4_lengthOf 30 rfl) rfl ?_
          refine vi_bi (dec_of DX4_lengthOf 31 rfl) (by decide) ?_
          refine v_V2r (k_hasMark hF hI (by unfold NR; exact hN) (by omega)) lX4_37 (dec_of DX4_lengthOf 32 rfl) rfl rfl (by decide) (nle rfl) rfl ?_
          refine vi_if_eq (tgt := 65) (dec_of DX4_lengthOf 33 rfl) (by decide) (by first | omega | exact bnd_r _ _ | exact hF _ _ | exact hI _ | exact hG _ _ | exact hK _ | (simp [uN] <;> omega)) (fun c59 => ?_) (fun c59 => ?_)
          · refine v_iload_n (dec_of DX4_lengthOf 35 rfl) rfl ?_
            exact vi_ret (dec_of DX4_lengthOf 36 rfl) rfl ⟨by decide, by decide⟩ (⟨rfl, Jc (by unfold lnF; omega)⟩)
          · refine vi_inc (dec_of DX4_lengthOf 34 rfl) rfl (by decide) ?_
            dsimp only [List.set]
            refine v_iload_n (dec_of DX4_lengthOf 35 rfl) rfl ?_
            exact vi_ret (dec_of DX4_lengthOf 36 rfl) rfl ⟨by decide, by decide⟩ (⟨rfl, Jc (by unfold lnF; omega)⟩)
        · refine vi_inc (dec_of DX4_lengthOf 28 rfl) rfl (by decide) ?_
          dsimp only [List.set]
          refine v_aload_n (dec_of DX4_lengthOf 29 rfl) rfl ?_
          refine v_iload_n (dec_of DX4_lengthOf 30 rfl) rfl ?_
          refine vi_bi (dec_of DX4_lengthOf 31 rfl) (by decide) ?_
          refine v_V2r (k_hasMark hF hI (by unfold NR; exact hN) (by omega)) lX4_37 (dec_of DX4_lengthOf 32 rfl) rfl rfl (by decide) (nle rfl) rfl ?_
          refine vi_if_eq (tgt := 65) (dec_of DX4_lengthOf 33 rfl) (by decide) (by first | omega | exact bnd_r _ _ | exact hF _ _ | exact hI _ | exact hG _ _ | exact hK _ | (simp [uN] <;> omega)) (fun c59 => ?_) (fun c59 => ?_)
          · refine v_iload_n (dec_of DX4_lengthOf 35 rfl) rfl ?_
            exact vi_ret (dec_of DX4_lengthOf 36 rfl) rfl ⟨by decide, by decide⟩ (⟨rfl, Jc (by unfold lnF; omega)⟩)
          · refine vi_inc (dec_of DX4_lengthOf 34 rfl) rfl (by decide) ?_
            dsimp only [List.set]
            refine v_iload_n (dec_of DX4_lengthOf 35 rfl) rfl ?_
            exact vi_ret (dec_of DX4_lengthOf 36 rfl) rfl ⟨by decide, by decide⟩ (⟨rfl, Jc (by unfold lnF; omega)⟩)
  · refine vi_inc (dec_of DX4_lengthOf 7 rfl) rfl (by decide) ?_
    dsimp only [List.set]
    refine v_aload_n (dec_of DX4_lengthOf 8 rfl) rfl ?_
    refine v_iload_n (dec_of DX4_lengthOf 9 rfl) rfl ?_
    refine vi_const (dec_of DX4_lengthOf 10 rfl) ?_
    refine v_V2r (k_hasMark hF hI (by unfold NR; exact hN) (by omega)) lX4_37 (dec_of DX4_lengthOf 11 rfl) rfl rfl (by decide) (nle rfl) rfl ?_
    refine vi_if_eq (tgt := 26) (dec_of DX4_lengthOf 12 rfl) (by decide) (by first | omega | exact bnd_r _ _ | exact hF _ _ | exact hI _ | exact hG _ _ | exact hK _ | (simp [uN] <;> omega)) (fun c20 => ?_) (fun c20 => ?_)
    · refine v_aload_n (dec_of DX4_lengthOf 14 rfl) rfl ?_
      refine v_iload_n (dec_of DX4_lengthOf 15 rfl) rfl ?_
      refine v_iload_n (dec_of DX4_lengthOf 16 rfl) rfl ?_
      refine vi_const (dec_of DX4_lengthOf 17 rfl) ?_
      refine vi_add (dec_of DX4_lengthOf 18 rfl) ?_
      refine v_V2r (k_sameGroup hF hI (by unfold NR; exact hN) (by omega) (by omega)) lX4_41 (dec_of DX4_lengthOf 19 rfl) rfl rfl (by decide) (nle rfl) rfl ?_
      refine vi_if_eq (tgt := 52) (dec_of DX4_lengthOf 20 rfl) (by decide) (by first | omega | exact bnd_r _ _ | exact hF _ _ | exact hI _ | exact hG _ _ | exact hK _ | (simp [uN] <;> omega)) (fun c34 => ?_) (fun c34 => ?_)
      · refine v_aload_n (dec_of DX4_lengthOf 29 rfl) rfl ?_
        refine v_iload_n (dec_of DX4_lengthOf 30 rfl) rfl ?_
        refine vi_bi (dec_of DX4_lengthOf 31 rfl) (by decide) ?_
        refine v_V2r (k_hasMark hF hI (by unfold NR; exact hN) (by omega)) lX4_37 (dec_of DX4_lengthOf 32 rfl) rfl rfl (by decide) (nle rfl) rfl ?_
        refine vi_if_eq (tgt := 65) (dec_of DX4_lengthOf 33 rfl) (by decide) (by first | omega | exact bnd_r _ _ | exact hF _ _ | exact hI _ | exact hG _ _ | exact hK _ | (simp [uN] <;> omega)) (fun c59 => ?_) (fun c59 => ?_)
        · refine v_iload_n (dec_of DX4_lengthOf 35 rfl) rfl ?_
          exact vi_ret (dec_of DX4_lengthOf 36 rfl) rfl ⟨by decide, by decide⟩ (⟨rfl, Jc (by unfold lnF; omega)⟩)
        · refine vi_inc (dec_of DX4_lengthOf 34 rfl) rfl (by decide) ?_
          dsimp only [List.set]
          refine v_iload_n (dec_of DX4_lengthOf 35 rfl) rfl ?_
          exact vi_ret (dec_of DX4_lengthOf 36 rfl) rfl ⟨by decide, by decide⟩ (⟨rfl, Jc (by unfold lnF; omega)⟩)
      · refine v_aload_n (dec_of DX4_lengthOf 21 rfl) rfl ?_
        refine v_iload_n (dec_of DX4_lengthOf 22 rfl) rfl ?_
        refine vi_const (dec_of DX4_lengthOf 23 rfl) ?_
        refine vi_add (dec_of DX4_lengthOf 24 rfl) ?_
        refine vi_bi (dec_of DX4_lengthOf 25 rfl) (by decide) ?_
        refine v_V2r (k_hasMark hF hI (by unfold NR; exact hN) (by omega)) lX4_37 (dec_of DX4_lengthOf 26 rfl) rfl rfl (by decide) (nle rfl) rfl ?_
        refine vi_if_eq (tgt := 52) (dec_of DX4_lengthOf 27 rfl) (by decide) (by first | omega | exact bnd_r _ _ | exact hF _ _ | exact hI _ | exact hG _ _ | exact hK _ | (simp [uN] <;> omega)) (fun c46 => ?_) (fun c46 => ?_)
        · refine v_aload_n (dec_of DX4_lengthOf 29 rfl) rfl ?_
          refine v_iload_n (dec_of DX4_lengthOf 30 rfl) rfl ?_
          refine vi_bi (dec_of DX4_lengthOf 31 rfl) (by decide) ?_
          refine v_V2r (k_hasMark hF hI (by unfold NR; exact hN) (by omega)) lX4_37 (dec_of DX4_lengthOf 32 rfl) rfl rfl (by decide) (nle rfl) rfl ?_
          refine vi_if_eq (tgt := 65) (dec_of DX4_lengthOf 33 rfl) (by decide) (by first | omega | exact bnd_r _ _ | exact hF _ _ | exact hI _ | exact hG _ _ | exact hK _ | (simp [uN] <;> omega)) (fun c59 => ?_) (fun c59 => ?_)
          · refine v_iload_n (dec_of DX4_lengthOf 35 rfl) rfl ?_
            exact vi_ret (dec_of DX4_lengthOf 36 rfl) rfl ⟨by decide, by decide⟩ (⟨rfl, Jc (by unfold lnF; omega)⟩)
          · refine vi_inc (dec_of DX4_lengthOf 34 rfl) rfl (by decide) ?_
            dsimp only [List.set]
            refine v_iload_n (dec_of DX4_lengthOf 35 rfl) rfl ?_
            exact vi_ret (dec_of DX4_lengthOf 36 rfl) rfl ⟨by decide, by decide⟩ (⟨rfl, Jc (by unfold lnF; omega)⟩)
        · refine vi_inc (dec_of DX4_lengthOf 28 rfl) rfl (by decide) ?_
          dsimp only [List.set]
          refine v_aload_n (dec_of DX4_lengthOf 29 rfl) rfl ?_
          refine v_iload_n (dec_of DX4_lengthOf 30 rfl) rfl ?_
          refine vi_bi (dec_of DX4_lengthOf 31 rfl) (by decide) ?_
          refine v_V2r (k_hasMark hF hI (by unfold NR; exact hN) (by omega)) lX4_37 (dec_of DX4_lengthOf 32 rfl) rfl rfl (by decide) (nle rfl) rfl ?_
          refine vi_if_eq (tgt := 65) (dec_of DX4_lengthOf 33 rfl) (by decide) (by first | omega | exact bnd_r _ _ | exact hF _ _ | exact hI _ | exact hG _ _ | exact hK _ | (simp [uN] <;> omega)) (fun c59 => ?_) (fun c59 => ?_)
          · refine v_iload_n (dec_of DX4_lengthOf 35 rfl) rfl ?_
            exact vi_ret (dec_of DX4_lengthOf 36 rfl) rfl ⟨by decide, by decide⟩ (⟨rfl, Jc (by unfold lnF; omega)⟩)
          · refine vi_inc (dec_of DX4_lengthOf 34 rfl) rfl (by decide) ?_
            dsimp only [List.set]
            refine v_iload_n (dec_of DX4_lengthOf 35 rfl) rfl ?_
            exact vi_ret (dec_of DX4_lengthOf 36 rfl) rfl ⟨by decide, by decide⟩ (⟨rfl, Jc (by unfold lnF; omega)⟩)
    · refine vi_inc (dec_of DX4_lengthOf 13 rfl) rfl (by decide) ?_
      dsimp only [List.set]
      refine v_aload_n (dec_of DX4_lengthOf 14 rfl) rfl ?_
      refine v_iload_n (dec_of DX4_lengthOf 15 rfl) rfl ?_
      refine v_iload_n (dec_of DX4_lengthOf 16 rfl) rfl ?_
      refine vi_const (dec_of DX4_lengthOf 17 rfl) ?_
      refine vi_add (dec_of DX4_lengthOf 18 rfl) ?_
      refine v_V2r (k_sameGroup hF hI (by unfold NR; exact hN) (by omega) (by omega)) lX4_41 (dec_of DX4_lengthOf 19 rfl) rfl rfl (by decide) (nle rfl) rfl ?_
      refine vi_if_eq (tgt := 52) (dec_of DX4_lengthOf 20 rfl) (by decide) (by first | omega | exact bnd_r _ _ | exact hF _ _ | exact hI _ | exact hG _ _ | exact hK _ | (simp [uN] <;> omega)) (fun c34 => ?_) (fun c34 => ?_)
      · refine v_aload_n (dec_of DX4_lengthOf 29 rfl) rfl ?_
        refine v_iload_n (dec_of DX4_lengthOf 30 rfl) rfl ?_
        refine vi_bi (dec_of DX4_lengthOf 31 rfl) (by decide) ?_
        refine v_V2r (k_hasMark hF hI (by unfold NR; exact hN) (by omega)) lX4_37 (dec_of DX4_lengthOf 32 rfl) rfl rfl (by decide) (nle rfl) rfl ?_
        refine vi_if_eq (tgt := 65) (dec_of DX4_lengthOf 33 rfl) (by decide) (by first | omega | exact bnd_r _ _ | exact hF _ _ | exact hI _ | exact hG _ _ | exact hK _ | (simp [uN] <;> omega)) (fun c59 => ?_) (fun c59 => ?_)
        · refine v_iload_n (dec_of DX4_lengthOf 35 rfl) rfl ?_
          exact vi_ret (dec_of DX4_lengthOf 36 rfl) rfl ⟨by decide, by decide⟩ (⟨rfl, Jc (by unfold lnF; omega)⟩)
        · refine vi_inc (dec_of DX4_lengthOf 34 rfl) rfl (by decide) ?_
          dsimp only [List.set]
          refine v_iload_n (dec_of DX4_lengthOf 35 rfl) rfl ?_
          exact vi_ret (dec_of DX4_lengthOf 36 rfl) rfl ⟨by decide, by decide⟩ (⟨rfl, Jc (by unfold lnF; omega)⟩)
      · refine v_aload_n (dec_of DX4_lengthOf 21 rfl) rfl ?_
        refine v_iload_n (dec_of DX4_lengthOf 22 rfl) rfl ?_
        refine vi_const (dec_of DX4_lengthOf 23 rfl) ?_
        refine vi_add (dec_of DX4_lengthOf 24 rfl) ?_
        refine vi_bi (dec_of DX4_lengthOf 25 rfl) (by decide) ?_
        refine v_V2r (k_hasMark hF hI (by unfold NR; exact hN) (by omega)) lX4_37 (dec_of DX4_lengthOf 26 rfl) rfl rfl (by decide) (nle rfl) rfl ?_
        refine vi_if_eq (tgt := 52) (dec_of DX4_lengthOf 27 rfl) (by decide) (by first | omega | exact bnd_r _ _ | exact hF _ _ | exact hI _ | exact hG _ _ | exact hK _ | (simp [uN] <;> omega)) (fun c46 => ?_) (fun c46 => ?_)
        · refine v_aload_n (dec_of DX4_lengthOf 29 rfl) rfl ?_
          refine v_iload_n (dec_of DX4_lengthOf 30 rfl) rfl ?_
          refine vi_bi (dec_of DX4_lengthOf 31 rfl) (by decide) ?_
          refine v_V2r (k_hasMark hF hI (by unfold NR; exact hN) (by omega)) lX4_37 (dec_of DX4_lengthOf 32 rfl) rfl rfl (by decide) (nle rfl) rfl ?_
          refine vi_if_eq (tgt := 65) (dec_of DX4_lengthOf 33 rfl) (by decide) (by first | omega | exact bnd_r _ _ | exact hF _ _ | exact hI _ | exact hG _ _ | exact hK _ | (simp [uN] <;> omega)) (fun c59 => ?_) (fun c59 => ?_)
          · refine v_iload_n (dec_of DX4_lengthOf 35 rfl) rfl ?_
            exact vi_ret (dec_of DX4_lengthOf 36 rfl) rfl ⟨by decide, by decide⟩ (⟨rfl, Jc (by unfold lnF; omega)⟩)
          · refine vi_inc (dec_of DX4_lengthOf 34 rfl) rfl (by decide) ?_
            dsimp only [List.set]
            refine v_iload_n (dec_of DX4_lengthOf 35 rfl) rfl ?_
            exact vi_ret (dec_of DX4_lengthOf 36 rfl) rfl ⟨by decide, by decide⟩ (⟨rfl, Jc (by unfold lnF; omega)⟩)
        · refine vi_inc (dec_of DX4_lengthOf 28 rfl) rfl (by decide) ?_
          dsimp only [List.set]
          refine v_aload_n (dec_of DX4_lengthOf 29 rfl) rfl ?_
          refine v_iload_n (dec_of DX4_lengthOf 30 rfl) rfl ?_
          refine vi_bi (dec_of DX4_lengthOf 31 rfl) (by decide) ?_
          refine v_V2r (k_hasMark hF hI (by unfold NR; exact hN) (by omega)) lX4_37 (dec_of DX4_lengthOf 32 rfl) rfl rfl (by decide) (nle rfl) rfl ?_
          refine vi_if_eq (tgt := 65) (dec_of DX4_lengthOf 33 rfl) (by decide) (by first | omega | exact bnd_r _ _ | exact hF _ _ | exact hI _ | exact hG _ _ | exact hK _ | (simp [uN] <;> omega)) (fun c59 => ?_) (fun c59 => ?_)
          · refine v_iload_n (dec_of DX4_lengthOf 35 rfl) rfl ?_
            exact vi_ret (dec_of DX4_lengthOf 36 rfl) rfl ⟨by decide, by decide⟩ (⟨rfl, Jc (by unfold lnF; omega)⟩)
          · refine vi_inc (dec_of DX4_lengthOf 34 rfl) rfl (by decide) ?_
            dsimp only [List.set]
            refine v_iload_n (dec_of DX4_lengthOf 35 rfl) rfl ?_
            exact vi_ret (dec_of DX4_lengthOf 36 rfl) rfl ⟨by decide, by decide⟩ (⟨rfl, Jc (by unfold lnF; omega)⟩)
set_option maxRecDepth 100000 in
set_option maxHeartbeats 4000000 in
theorem k_bn_loop {T : XW} {I N : Nat → Int} {F : Nat → Int → Int} (hF : FR F) (hI : IR I) (hN : NR N) {n0 : Nat} {Z : XW → Option Value → Prop} {n : Int} (hn : 0 ≤ n ∧ n < N 4) (hk : ∀ (k wy kd tk : Int), (kd, tk) = nmK N F n → Vd (rm 2 46 0 0) [] mX4_beginNeume n0 Z 0 0 85 [some (.ref 5), some (J n), some (J kd), some (J tk), some (J wy), some (J k), none] [] (cls I N F ++ T)) : ∀ (m : Nat) (k kd tk wy : Int), k + m = 5 → 1 ≤ k → 0 ≤ wy → wy ≤ bw m → nmL N F n m k kd tk wy = nmK N F n → Vd (rm 2 46 0 0) [] mX4_beginNeume n0 Z 0 0 23 [some (.ref 5), some (J n), some (J kd), some (J tk), some (J wy), some (J k), none] [] (cls I N F ++ T) := by
  unfold NR at hN
  intro m
  induction m with
  | zero =>
    intro k kd tk wy h1 h2 h3 h4 h5
    refine v_iload (dec_of DX4_beginNeume 15 rfl) rfl ?_
    refine vi_const (dec_of DX4_beginNeume 16 rfl) ?_
    refine vi_icmp_gt (tgt := 85) (dec_of DX4_beginNeume 17 rfl) (by decide) (by first | omega | exact bnd_r _ _ | exact hF _ _ | exact hI _ | exact hG _ _ | exact hK _ | (simp [uN] <;> omega)) (by first | omega | exact bnd_r _ _ | exact hF _ _ | exact hI _ | exact hG _ _ | exact hK _ | (simp [uN] <;> omega)) (fun c26 => ?_) (fun c26 => absurd c26 (by omega))
    exact hk k wy kd tk h5
  | succ m ih =>
    intro k kd tk wy h1 h2 h3 h4 h5
    have hw := wyF_r F (n + k)
    have hkr := kindW_r (10 * wy + wyF F (n + k))
    have hwb := bw_r (m + 1) (by omega)
    have hws := bw_s m (by omega)
    rw [nmL] at h5
    by_cases hs : sameG N F n (n + k)
    · rw [if_pos hs] at h5
      by_cases hq : kindW (10 * wy + wyF F (n + k)) = -100
      · rw [if_pos hq] at h5
        refine v_iload (dec_of DX4_beginNeume 15 rfl) rfl ?_
        refine vi_const (dec_of DX4_beginNeume 16 rfl) ?_
        refine vi_icmp_gt (tgt := 85) (dec_of DX4_beginNeume 17 rfl) (by decide) (by first | omega | exact bnd_r _ _ | exact hF _ _ | exact hI _ | exact hG _ _ | exact hK _ | (simp [uN] <;> omega)) (by first | omega | exact bnd_r _ _ | exact hF _ _ | exact hI _ | exact hG _ _ | exact hK _ | (simp [uN] <;> omega)) (fun c26 => absurd c26 (by omega)) (fun c26 => ?_)
        refine v_aload_n (dec_of DX4_beginNeume 18 rfl) rfl ?_
        refine v_iload_n (dec_of DX4_beginNeume 19 rfl) rfl ?_
        refine v_iload_n (dec_of DX4_beginNeume 20 rfl) rfl ?_
        refine v_iload (dec_of DX4_beginNeume 21 rfl) rfl ?_
        refine vi_add (dec_of DX4_beginNeume 22 rfl) ?_
        refine v_V2r (k_sameGroup hF hI (by unfold NR; exact hN) (by omega) (by omega)) lX4_41 (dec_of DX4_beginNeume 23 rfl) rfl rfl (by decide) (nle rfl) rfl ?_
        refine vi_if_eq (tgt := 85) (dec_of DX4_beginNeume 24 rfl) (by decide) (by first | omega | exact bnd_r _ _ | exact hF _ _ | exact hI _ | exact hG _ _ | exact hK _ | (simp [uN] <;> omega)) (fun c38 => absurd c38 (by omega)) (fun c38 => ?_)
        refine vi_bi (dec_of DX4_beginNeume 25 rfl) (by decide) ?_
        refine v_iload (dec_of DX4_beginNeume 26 rfl) rfl ?_
        refine vi_mul (dec_of DX4_beginNeume 27 rfl) ?_
        refine v_aload_n (dec_of DX4_beginNeume 28 rfl) rfl ?_
        refine v_iload_n (dec_of DX4_beginNeume 29 rfl) rfl ?_
        refine v_iload (dec_of DX4_beginNeume 30 rfl) rfl ?_
        refine vi_add (dec_of DX4_beginNeume 31 rfl) ?_
        refine v_S2r (k_wayTo hF hI (by unfold NR; exact hN) (by omega)) lX4_44 (dec_of DX4_beginNeume 32 rfl) (by decide) (nle rfl) rfl ?_
        refine vi_add (dec_of DX4_beginNeume 33 rfl) ?_
        refine v_istore (dec_of DX4_beginNeume 34 rfl) (by decide) ?_
        dsimp only [List.set]
        refine v_iload (dec_of DX4_beginNeume 35 rfl) rfl ?_
        refine v_S1r (k_kindOf (by omega)) lX4_47 (dec_of DX4_beginNeume 36 rfl) (by decide) (nle rfl) rfl ?_
        refine v_istore (dec_of DX4_beginNeume 37 rfl) (by decide) ?_
        dsimp only [List.set]
        refine v_iload (dec_of DX4_beginNeume 38 rfl) rfl ?_
        refine vi_bi (dec_of DX4_beginNeume 39 rfl) (by decide) ?_
        refine vi_icmp_eq (tgt := 79) (dec_of DX4_beginNeume 40 rfl) (by decide) (by first | omega | exact bnd_r _ _ | exact hF _ _ | exact hI _ | exact hG _ _ | exact hK _ | (simp [uN] <;> omega)) (by first | omega | exact bnd_r _ _ | exact hF _ _ | exact hI _ | exact hG _ _ | exact hK _ | (simp [uN] <;> omega)) (fun c68 => ?_) (fun c68 => absurd c68 (by omega))
        refine vi_inc (dec_of DX4_beginNeume 47 rfl) rfl (by decide) ?_
        dsimp only [List.set]
        refine v_goto (tgt := 23) (dec_of DX4_beginNeume 48 rfl) (by decide) ?_
        refine Vd_fg 6 ?_
        dsimp only [List.set]
        exact ih (k + 1) _ _ _ (by omega) (by omega) (by omega) (by omega) h5
      · rw [if_neg hq] at h5
        refine v_iload (dec_of DX4_beginNeume 15 rfl) rfl ?_
        refine vi_const (dec_of DX4_beginNeume 16 rfl) ?_
        refine vi_icmp_gt (tgt := 85) (dec_of DX4_beginNeume 17 rfl) (by decide) (by first | omega | exact bnd_r _ _ | exact hF _ _ | exact hI _ | exact hG _ _ | exact hK _ | (simp [uN] <;> omega)) (by first | omega | exact bnd_r _ _ | exact hF _ _ | exact hI _ | exact hG _ _ | exact hK _ | (simp [uN] <;> omega)) (fun c26 => absurd c26 (by omega)) (fun c26 => ?_)
        refine v_aload_n (dec_of DX4_beginNeume 18 rfl) rfl ?_
        refine v_iload_n (dec_of DX4_beginNeume 19 rfl) rfl ?_
        refine v_iload_n (dec_of DX4_beginNeume 20 rfl) rfl ?_
        refine v_iload (dec_of DX4_beginNeume 21 rfl) rfl ?_
        refine vi_add (dec_of DX4_beginNeume 22 rfl) ?_
        refine v_V2r (k_sameGroup hF hI (by unfold NR; exact hN) (by omega) (by omega)) lX4_41 (dec_of DX4_beginNeume 23 rfl) rfl rfl (by decide) (nle rfl) rfl ?_
        refine vi_if_eq (tgt := 85) (dec_of DX4_beginNeume 24 rfl) (by decide) (by first | omega | exact bnd_r _ _ | exact hF _ _ | exact hI _ | exact hG _ _ | exact hK _ | (simp [uN] <;> omega)) (fun c38 => absurd c38 (by omega)) (fun c38 => ?_)
        refine vi_bi (dec_of DX4_beginNeume 25 rfl) (by decide) ?_
        refine v_iload (dec_of DX4_beginNeume 26 rfl) rfl ?_
        refine vi_mul (dec_of DX4_beginNeume 27 rfl) ?_
        refine v_aload_n (dec_of DX4_beginNeume 28 rfl) rfl ?_
        refine v_iload_n (dec_of DX4_beginNeume 29 rfl) rfl ?_
        refine v_iload (dec_of DX4_beginNeume 30 rfl) rfl ?_
        refine vi_add (dec_of DX4_beginNeume 31 rfl) ?_
        refine v_S2r (k_wayTo hF hI (by unfold NR; exact hN) (by omega)) lX4_44 (dec_of DX4_beginNeume 32 rfl) (by decide) (nle rfl) rfl ?_
        refine vi_add (dec_of DX4_beginNeume 33 rfl) ?_
        refine v_istore (dec_of DX4_beginNeume 34 rfl) (by decide) ?_
        dsimp only [List.set]
        refine v_iload (dec_of DX4_beginNeume 35 rfl) rfl ?_
        refine v_S1r (k_kindOf (by omega)) lX4_47 (dec_of DX4_beginNeume 36 rfl) (by decide) (nle rfl) rfl ?_
        refine v_istore (dec_of DX4_beginNeume 37 rfl) (by decide) ?_
        dsimp only [List.set]
        refine v_iload (dec_of DX4_beginNeume 38 rfl) rfl ?_
        refine vi_bi (dec_of DX4_beginNeume 39 rfl) (by decide) ?_
        refine vi_icmp_eq (tgt := 79) (dec_of DX4_beginNeume 40 rfl) (by decide) (by first | omega | exact bnd_r _ _ | exact hF _ _ | exact hI _ | exact hG _ _ | exact hK _ | (simp [uN] <;> omega)) (by first | omega | exact bnd_r _ _ | exact hF _ _ | exact hI _ | exact hG _ _ | exact hK _ | (simp [uN] <;> omega)) (fun c68 => absurd c68 (by omega)) (fun c68 => ?_)
        refine v_iload (dec_of DX4_beginNeume 41 rfl) rfl ?_
        refine v_istore_n (dec_of DX4_beginNeume 42 rfl) (by decide) ?_
        dsimp only [List.set]
        refine v_iload (dec_of DX4_beginNeume 43 rfl) rfl ?_
        refine vi_const (dec_of DX4_beginNeume 44 rfl) ?_
        refine vi_add (dec_of DX4_beginNeume 45 rfl) ?_
        refine v_istore_n (dec_of DX4_beginNeume 46 rfl) (by decide) ?_
        dsimp only [List.set]
        refine vi_inc (dec_of DX4_beginNeume 47 rfl) rfl (by decide) ?_
        dsimp only [List.set]
        refine v_goto (tgt := 23) (dec_of DX4_beginNeume 48 rfl) (by decide) ?_
        refine Vd_fg 6 ?_
        dsimp only [List.set]
        exact ih (k + 1) _ _ _ (by omega) (by omega) (by omega) (by omega) h5
    · rw [if_neg hs] at h5
      refine v_iload (dec_of DX4_beginNeume 15 rfl) rfl ?_
      refine vi_const (dec_of DX4_beginNeume 16 rfl) ?_
      refine vi_icmp_gt (tgt := 85) (dec_of DX4_beginNeume 17 rfl) (by decide) (by first | omega | exact bnd_r _ _ | exact hF _ _ | exact hI _ | exact hG _ _ | exact hK _ | (simp [uN] <;> omega)) (by first | omega | exact bnd_r _ _ | exact hF _ _ | exact hI _ | exact hG _ _ | exact hK _ | (simp [uN] <;> omega)) (fun c26 => absurd c26 (by omega)) (fun c26 => ?_)
      refine v_aload_n (dec_of DX4_beginNeume 18 rfl) rfl ?_
      refine v_iload_n (dec_of DX4_beginNeume 19 rfl) rfl ?_
      refine v_iload_n (dec_of DX4_beginNeume 20 rfl) rfl ?_
      refine v_iload (dec_of DX4_beginNeume 21 rfl) rfl ?_
      refine vi_add (dec_of DX4_beginNeume 22 rfl) ?_
      refine v_V2r (k_sameGroup hF hI (by unfold NR; exact hN) (by omega) (by omega)) lX4_41 (dec_of DX4_beginNeume 23 rfl) rfl rfl (by decide) (nle rfl) rfl ?_
      refine vi_if_eq (tgt := 85) (dec_of DX4_beginNeume 24 rfl) (by decide) (by first | omega | exact bnd_r _ _ | exact hF _ _ | exact hI _ | exact hG _ _ | exact hK _ | (simp [uN] <;> omega)) (fun c38 => ?_) (fun c38 => absurd c38 (by omega))
      exact hk k wy kd tk h5
/-- a neume comes behind -/
def nuF (N : Nat → Int) (F : Nat → Int → Int) (n : Int) : Nat → Int → Int := uN F 5 (uI (uI (uI (adf (F 5) 4 (N 5) (nmK N F n).1) (N 5 * 4 + 1) n) (N 5 * 4 + 2) (nmK N F n).2) (N 5 * 4 + 3) (if bnd (F 4 ((n + (nmK N F n).2 - 1) * 8 + 1)) 16 = 0 then 0 else 1))
set_option maxRecDepth 100000 in
set_option maxHeartbeats 4000000 in
theorem k_bn {T : XW} {I N : Nat → Int} {F : Nat → Int → Int} (hF : FR F) (hI : IR I) (hN : NR N) {n : Int} (hn : 0 ≤ n ∧ n < N 4) (h5 : N 5 < 150) : Sd (rm 2 46 0 0) mX4_beginNeume [.ref 5, J n] (cls I N F ++ T) (cls I (uN N 5 (N 5 + 1)) (nuF N F n) ++ T) (some (J (nmK N F n).2)) := by
  unfold Sd
  unfold NR at hN
  have hr := nmK_r (F := F) hn.2
  refine sp_of (ls := [some (.ref 5), some (J n), none, none, none, none, none]) (by decide) (nle rfl) rfl rfl ?_
  have tail : ∀ (k wy kd tk : Int), (kd, tk) = nmK N F n → Vd (rm 2 46 0 0) [] mX4_beginNeume (cls I N F ++ T).length (fun x y => x = cls I (uN N 5 (N 5 + 1)) (nuF N F n) ++ T ∧ y = some (J (nmK N F n).2)) 0 0 85 [some (.ref 5), some (J n), some (J kd), some (J tk), some (J wy), some (J k), none] [] (cls I N F ++ T) := by
    intro k wy kd tk hp
    obtain rfl : kd = (nmK N F n).1 := by rw [← hp]
    obtain rfl : tk = (nmK N F n).2 := by rw [← hp]
    have hkd := nmK_k (N := N) (F := F) (n := n)
    have hF3 : FR (uN (uN (uN F 5 (adf (F 5) 4 (N 5) (nmK N F n).1)) 5 (uI (adf (F 5) 4 (N 5) (nmK N F n).1) (N 5 * 4 + 1) n)) 5 (uI (uI (adf (F 5) 4 (N 5) (nmK N F n).1) (N 5 * 4 + 1) n) (N 5 * 4 + 2) (nmK N F n).2)) := ((hF.up (adf_r (hF 5) (by omega))).up (uI_r (adf_r (hF 5) (by omega)) (by omega))).up (uI_r (uI_r (adf_r (hF 5) (by omega)) (by omega)) (by omega))
    refine v_aload_n (dec_of DX4_beginNeume 49 rfl) rfl ?_
    refine v_get fX4_27 (dec_of DX4_beginNeume 50 rfl) rfl rfl ?_
    refine v_iload_n (dec_of DX4_beginNeume 51 rfl) rfl ?_
    refine v_V1r (c5_add (by first | omega | exact bnd_r _ _ | exact hF _ _ | exact hI _ | exact hG _ _ | exact hK _ | (simp [uN] <;> omega) | (simp (disch := decide) only [uN_s, uN_n]; omega))) lX4_51 (dec_of DX4_beginNeume 52 rfl) rfl rfl (by decide) (nle rfl) rfl ?_
    refine v_istore (dec_of DX4_beginNeume 53 rfl) (by decide) ?_
    dsimp only [List.set]
    refine v_aload_n (dec_of DX4_beginNeume 54 rfl) rfl ?_
    refine v_get fX4_27 (dec_of DX4_beginNeume 55 rfl) rfl rfl ?_
    refine v_iload (dec_of DX4_beginNeume 56 rfl) rfl ?_
    refine vi_const (dec_of DX4_beginNeume 57 rfl) ?_
    refine v_iload_n (dec_of DX4_beginNeume 58 rfl) rfl ?_
    refine v_V3v (c5_set (by first | omega | exact bnd_r _ _ | exact hF _ _ | exact hI _ | exact hG _ _ | exact hK _ | (simp [uN] <;> omega) | (simp (disch := decide) only [uN_s, uN_n]; omega)) (by first | omega | exact bnd_r _ _ | exact hF _ _ | exact hI _ | exact hG _ _ | exact hK _ | (simp [uN] <;> omega) | (simp (disch := decide) only [uN_s, uN_n]; omega)) (by first | omega | exact bnd_r _ _ | exact hF _ _ | exact hI _ | exact hG _ _ | exact hK _ | (simp [uN] <;> omega) | (simp (disch := decide) only [uN_s, uN_n]; omega))) lX4_30 (dec_of DX4_beginNeume 59 rfl) rfl rfl (by decide) (nle rfl) rfl ?_
    refine v_aload_n (dec_of DX4_beginNeume 60 rfl) rfl ?_
    refine v_get fX4_27 (dec_of DX4_beginNeume 61 rfl) rfl rfl ?_
    refine v_iload (dec_of DX4_beginNeume 62 rfl) rfl ?_
    refine vi_const (dec_of DX4_beginNeume 63 rfl) ?_
    refine v_iload_n (dec_of DX4_beginNeume 64 rfl) rfl ?_
    refine v_V3v (c5_set (by first | omega | exact bnd_r _ _ | exact hF _ _ | exact hI _ | exact hG _ _ | exact hK _ | (simp [uN] <;> omega) | (simp (disch := decide) only [uN_s, uN_n]; omega)) (by first | omega | exact bnd_r _ _ | exact hF _ _ | exact hI _ | exact hG _ _ | exact hK _ | (simp [uN] <;> omega) | (simp (disch := decide) only [uN_s, uN_n]; omega)) (by first | omega | exact bnd_r _ _ | exact hF _ _ | exact hI _ | exact hG _ _ | exact hK _ | (simp [uN] <;> omega) | (simp (disch := decide) only [uN_s, uN_n]; omega))) lX4_30 (dec_of DX4_beginNeume 65 rfl) rfl rfl (by decide) (nle rfl) rfl ?_
    refine v_aload_n (dec_of DX4_beginNeume 66 rfl) rfl ?_
    refine v_iload_n (dec_of DX4_beginNeume 67 rfl) rfl ?_
    refine v_iload_n (dec_of DX4_beginNeume 68 rfl) rfl ?_
    refine vi_add (dec_of DX4_beginNeume 69 rfl) ?_
    refine vi_const (dec_of DX4_beginNeume 70 rfl) ?_
    refine vi_sub (dec_of DX4_beginNeume 71 rfl) ?_
    refine vi_bi (dec_of DX4_beginNeume 72 rfl) (by decide) ?_
    refine v_V2r (k_hasMark hF3 hI (by unfold NR; simp (disch := decide) only [uN_s, uN_n]; omega) (by simp (disch := decide) only [uN_n]; omega)) lX4_37 (dec_of DX4_beginNeume 73 rfl) rfl rfl (by decide) (nle rfl) rfl ?_
    refine v_istore (dec_of DX4_beginNeume 74 rfl) (by decide) ?_
    dsimp only [List.set]
    refine v_aload_n (dec_of DX4_beginNeume 75 rfl) rfl ?_
    refine v_get fX4_27 (dec_of DX4_beginNeume 76 rfl) rfl rfl ?_
    refine v_iload (dec_of DX4_beginNeume 77 rfl) rfl ?_
    refine vi_const (dec_of DX4_beginNeume 78 rfl) ?_
    refine v_iload (dec_of DX4_beginNeume 79 rfl) rfl ?_
    refine vi_if_eq (tgt := 146) (dec_of DX4_beginNeume 80 rfl) (by decide) (by first | omega | exact bnd_r _ _ | exact hF _ _ | exact hI _ | exact hG _ _ | exact hK _ | (simp [uN] <;> omega) | (simp (disch := decide) only [uN_s, uN_n]; omega)) (fun c139 => ?_) (fun c139 => ?_)
    · refine vi_const (dec_of DX4_beginNeume 83 rfl) ?_
      refine v_V3v (c5_set (by first | omega | exact bnd_r _ _ | exact hF _ _ | exact hI _ | exact hG _ _ | exact hK _ | (simp [uN] <;> omega) | (simp (disch := decide) only [uN_s, uN_n]; omega)) (by first | omega | exact bnd_r _ _ | exact hF _ _ | exact hI _ | exact hG _ _ | exact hK _ | (simp [uN] <;> omega) | (simp (disch := decide) only [uN_s, uN_n]; omega)) (by first | omega | exact bnd_r _ _ | exact hF _ _ | exact hI _ | exact hG _ _ | exact hK _ | (simp [uN] <;> omega) | (simp (disch := decide) only [uN_s, uN_n]; omega))) lX4_30 (dec_of DX4_beginNeume 84 rfl) rfl rfl (by decide) (nle rfl) rfl ?_
      refine v_iload_n (dec_of DX4_beginNeume 85 rfl) rfl ?_
      exact vi_ret (dec_of DX4_beginNeume 86 rfl) rfl ⟨by decide, by decide⟩ (⟨by rw [nuF]; first | (rw [if_pos (show bnd (F 4 ((n + (nmK N F n).2 - 1) * 8 + 1)) 16 = 0 from hb0 c139)]; rfl) | (rw [if_neg (show ¬ bnd (F 4 ((n + (nmK N F n).2 - 1) * 8 + 1)) 16 = 0 from hb1 c139)]; rfl), rfl⟩)
    · refine vi_const (dec_of DX4_beginNeume 81 rfl) ?_
      refine v_goto (tgt := 147) (dec_of DX4_beginNeume 82 rfl) (by decide) ?_
      refine v_V3v (c5_set (by first | omega | exact bnd_r _ _ | exact hF _ _ | exact hI _ | exact hG _ _ | exact hK _ | (simp [uN] <;> omega) | (simp (disch := decide) only [uN_s, uN_n]; omega)) (by first | omega | exact bnd_r _ _ | exact hF _ _ | exact hI _ | exact hG _ _ | exact hK _ | (simp [uN] <;> omega) | (simp (disch := decide) only [uN_s, uN_n]; omega)) (by first | omega | exact bnd_r _ _ | exact hF _ _ | exact hI _ | exact hG _ _ | exact hK _ | (simp [uN] <;> omega) | (simp (disch := decide) only [uN_s, uN_n]; omega))) lX4_30 (dec_of DX4_beginNeume 84 rfl) rfl rfl (by decide) (nle rfl) rfl ?_
      refine v_iload_n (dec_of DX4_beginNeume 85 rfl) rfl ?_
      exact vi_ret (dec_of DX4_beginNeume 86 rfl) rfl ⟨by decide, by decide⟩ (⟨by rw [nuF]; first | (rw [if_pos (show bnd (F 4 ((n + (nmK N F n).2 - 1) * 8 + 1)) 16 = 0 from hb0 c139)]; rfl) | (rw [if_neg (show ¬ bnd (F 4 ((n + (nmK N F n).2 - 1) * 8 + 1)) 16 = 0 from hb1 c139)]; rfl), rfl⟩)
  by_cases hv : bnd (F 4 (n * 8 + 1)) 4 = 0
  · have e0 : nmK N F n = nmL N F n 4 1 1 1 0 := by rw [nmK, if_pos hv]
    refine v_aload_n (dec_of DX4_beginNeume 0 rfl) rfl ?_
    refine v_iload_n (dec_of DX4_beginNeume 1 rfl) rfl ?_
    refine vi_const (dec_of DX4_beginNeume 2 rfl) ?_
    refine v_V2r (k_hasMark hF hI (by unfold NR; exact hN) hn) lX4_37 (dec_of DX4_beginNeume 3 rfl) rfl rfl (by decide) (nle rfl) rfl ?_
    refine vi_if_eq (tgt := 13) (dec_of DX4_beginNeume 4 rfl) (by decide) (by first | omega | exact bnd_r _ _ | exact hF _ _ | exact hI _ | exact hG _ _ | exact hK _ | (simp [uN] <;> omega)) (fun c6 => ?_) (fun c6 => absurd c6 (by omega))
    refine vi_const (dec_of DX4_beginNeume 7 rfl) ?_
    refine v_istore_n (dec_of DX4_beginNeume 8 rfl) (by decide) ?_
    dsimp only [List.set]
    refine vi_const (dec_of DX4_beginNeume 9 rfl) ?_
    refine v_istore_n (dec_of DX4_beginNeume 10 rfl) (by decide) ?_
    dsimp only [List.set]
    refine vi_const (dec_of DX4_beginNeume 11 rfl) ?_
    refine v_istore (dec_of DX4_beginNeume 12 rfl) (by decide) ?_
    dsimp only [List.set]
    refine vi_const (dec_of DX4_beginNeume 13 rfl) ?_
    refine v_istore (dec_of DX4_beginNeume 14 rfl) (by decide) ?_
    dsimp only [List.set]
    exact k_bn_loop hF hI (by unfold NR; exact hN) hn tail 4 1 _ 1 0 (by omega) (by omega) (by omega) (by decide) e0.symm
  · have e0 : nmK N F n = nmL N F n 4 1 2 1 0 := by rw [nmK, if_neg hv]
    refine v_aload_n (dec_of DX4_beginNeume 0 rfl) rfl ?_
    refine v_iload_n (dec_of DX4_beginNeume 1 rfl) rfl ?_
    refine vi_const (dec_of DX4_beginNeume 2 rfl) ?_
    refine v_V2r (k_hasMark hF hI (by unfold NR; exact hN) hn) lX4_37 (dec_of DX4_beginNeume 3 rfl) rfl rfl (by decide) (nle rfl) rfl ?_
    refine vi_if_eq (tgt := 13) (dec_of DX4_beginNeume 4 rfl) (by decide) (by first | omega | exact bnd_r _ _ | exact hF _ _ | exact hI _ | exact hG _ _ | exact hK _ | (simp [uN] <;> omega)) (fun c6 => absurd c6 (by omega)) (fun c6 => ?_)
    refine vi_const (dec_of DX4_beginNeume 5 rfl) ?_
    refine v_goto (tgt := 14) (dec_of DX4_beginNeume 6 rfl) (by decide) ?_
    refine v_istore_n (dec_of DX4_beginNeume 8 rfl) (by decide) ?_
    dsimp only [List.set]
    refine vi_const (dec_of DX4_beginNeume 9 rfl) ?_
    refine v_istore_n (dec_of DX4_beginNeume 10 rfl) (by decide) ?_
    dsimp only [List.set]
    refine vi_const (dec_of DX4_beginNeume 11 rfl) ?_
    refine v_istore (dec_of DX4_beginNeume 12 rfl) (by decide) ?_
    dsimp only [List.set]
    refine vi_const (dec_of DX4_beginNeume 13 rfl) ?_
    refine v_istore (dec_of DX4_beginNeume 14 rfl) (by decide) ?_
    dsimp only [List.set]
    exact k_bn_loop hF hI (by unfold NR; exact hN) hn tail 4 1 _ 1 0 (by omega) (by omega) (by omega) (by decide) e0.symm
