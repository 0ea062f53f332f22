/-! mode and count of the class (printed by wip/tools/gen_c10.py) -/
def lowF (f : Int → Int) (a : Int) : Nat → Int
  | 0 => a
  | n + 1 => if f n < lowF f a n then f n else lowF f a n
def hghF (f : Int → Int) (a : Int) : Nat → Int
  | 0 => a
  | n + 1 => if hghF f a n < f n then f n else hghF f a n
theorem lowF_r {f : Int → Int} {a x y : Int} (ha : x ≤ a ∧ a ≤ y) : ∀ n : Nat, (∀ k : Int, 0 ≤ k → k < n → x ≤ f k ∧ f k ≤ y) → x ≤ lowF f a n ∧ lowF f a n ≤ y := by
  intro n
  induction n with
  | zero => intro _; exact ha
  | succ n ih =>
    intro h
    have h1 := ih (fun k h0 h1 => h k h0 (by omega))
    have h2 := h n (by omega) (by omega)
    unfold lowF
    omega
theorem hghF_r {f : Int → Int} {a x y : Int} (ha : x ≤ a ∧ a ≤ y) : ∀ n : Nat, (∀ k : Int, 0 ≤ k → k < n → x ≤ f k ∧ f k ≤ y) → x ≤ hghF f a n ∧ hghF f a n ≤ y := by
  intro n
  induction n with
  | zero => intro _; exact ha
  | succ n ih =>
    intro h
    have h1 := ih (fun k h0 h1 => h k h0 (by omega))
    have h2 := h n (by omega) (by omega)
    unfold hghF
    omega
def stepF (F : Nat → Int → Int) : Int → Int := fun k => F 4 (k * 8 + 5)
def finS (N : Nat → Int) (F : Nat → Int → Int) : Int := F 4 ((N 4 - 1) * 8 + 5)
def lowS (N : Nat → Int) (F : Nat → Int → Int) : Int := lowF (stepF F) (finS N F) (N 4).toNat
def hghS (N : Nat → Int) (F : Nat → Int → Int) : Int := hghF (stepF F) (finS N F) (N 4).toNat
/-- the steps of all notes are small -/
def SR (N : Nat → Int) (F : Nat → Int → Int) : Prop := ∀ k : Int, 0 ≤ k → k < N 4 → -1000 ≤ F 4 (k * 8 + 5) ∧ F 4 (k * 8 + 5) ≤ 1000
def modN (N : Nat → Int) (F : Nat → Int → Int) : Int := if finS N F % 7 < 1 ∨ 4 < finS N F % 7 then 0 else (if 3 ≤ finS N F - lowS N F ∧ hghS N F - finS N F ≤ 5 then 2 * (finS N F % 7) - 1 + 1 else 2 * (finS N F % 7) - 1)
def tenI : Int → Int := tI [4, 2, 5, 3, 4, 2, 4, 3]
theorem ten_tab {a : Int} (h : 0 ≤ a ∧ a < 8) : tF tTenors a.toNat = iI (tenI a) := by
  have key : ∀ n : Nat, n < 8 → tF tTenors n = iI (([4, 2, 5, 3, 4, 2, 4, 3] : List Int).getD n 0) := by decide
  exact key a.toNat (by omega)
def cnt0 (f : Int → Int) : Nat → Int
  | 0 => 0
  | n + 1 => if f n = 0 then cnt0 f n + 1 else cnt0 f n
theorem cnt0_r (f : Int → Int) (n : Nat) : 0 ≤ cnt0 f n ∧ cnt0 f n ≤ n := by
  induction n with
  | zero => exact ⟨Int.le_refl 0, Int.le_refl 0⟩
  | succ n ih => unfold cnt0; split <;> omega
set_option maxRecDepth 100000 in
set_option maxHeartbeats 4000000 in
theorem k_lowest_loop {T : XW} {I N : Nat → Int} {F : Nat → Int → Int} (hF : FR F) (hI : IR I) (hN : NR N) (hS : SR N F) {n0 : Nat} {Z : XW → Option Value → Prop} {a : Int} (ha : -1000 ≤ a ∧ a ≤ 1000) (hz : Z (cls I N F ++ T) (some (J (lowF (stepF F) a (N 4).toNat)))) : ∀ (m n : Nat), ((n : Int) + m = N 4) → Vd (rm 2 43 0 0) [] mX3_lowestStep n0 Z 0 0 7 [some (.ref 5), some (J (lowF (stepF F) a n)), some (J n)] [] (cls I N F ++ T) := by
  unfold NR at hN
  intro m
  induction m with
  | zero =>
    intro n hn
    have e : n = (N 4).toNat := by omega
    have hr := lowF_r (f := stepF F) ha n (fun k h0 h1 => hS k h0 (by omega))
    refine v_iload_n (dec_of DX3_lowestStep 5 rfl) rfl ?_
    refine v_aload_n (dec_of DX3_lowestStep 6 rfl) rfl ?_
    refine v_get fX3_23 (dec_of DX3_lowestStep 7 rfl) rfl rfl ?_
    refine v_V0r (c4_size) lX3_49 (dec_of DX3_lowestStep 8 rfl) rfl rfl (by decide) (nle rfl) rfl ?_
    refine vi_icmp_ge (tgt := 38) (dec_of DX3_lowestStep 9 rfl) (by decide) (by first | omega | exact bnd_r _ _ | exact hF _ _ | exact hI _ | exact hG _ _ | exact hK _ | (simp [uN] <;> omega)) (by first | omega | exact bnd_r _ _ | exact hF _ _ | exact hI _ | exact hG _ _ | exact hK _ | (simp [uN] <;> omega)) (fun c15 => ?_) (fun c15 => absurd c15 (by omega))
    refine v_iload_n (dec_of DX3_lowestStep 20 rfl) rfl ?_
    exact vi_ret (dec_of DX3_lowestStep 21 rfl) rfl ⟨by decide, by decide⟩ (by rw [e]; exact hz)
  | succ m ih =>
    intro n hn
    have hr := lowF_r (f := stepF F) ha n (fun k h0 h1 => hS k h0 (by omega))
    have hs := hS n (by omega) (by omega)
    refine v_iload_n (dec_of DX3_lowestStep 5 rfl) rfl ?_
    refine v_aload_n (dec_of DX3_lowestStep 6 rfl) rfl ?_
    refine v_get fX3_23 (dec_of DX3_lowestStep 7 rfl) rfl rfl ?_
    refine v_V0r (c4_size) lX3_49 (dec_of DX3_lowestStep 8 rfl) rfl rfl (by decide) (nle rfl) rfl ?_
    refine vi_icmp_ge (tgt := 38) (dec_of DX3_lowestStep 9 rfl) (by decide) (by first | omega | exact bnd_r _ _ | exact hF _ _ | exact hI _ | exact hG _ _ | exact hK _ | (simp [uN] <;> omega)) (by first | omega | exact bnd_r _ _ | exact hF _ _ | exact hI _ | exact hG _ _ | exact hK _ | (simp [uN] <;> omega)) (fun c15 => absurd c15 (by omega)) (fun c15 => ?_)
    refine v_iload_n (dec_of DX3_lowestStep 10 rfl) rfl ?_
    refine v_aload_n (dec_of DX3_lowestStep 11 rfl) rfl ?_
    refine v_get fX3_23 (dec_of DX3_lowestStep 12 rfl) rfl rfl ?_
    refine v_iload_n (dec_of DX3_lowestStep 13 rfl) rfl ?_
    refine vi_const (dec_of DX3_lowestStep 14 rfl) ?_
    refine v_V2r (c4_get (by first | omega | exact bnd_r _ _ | exact hF _ _ | exact hI _ | exact hG _ _ | exact hK _ | (simp [uN] <;> omega)) (by first | omega | exact bnd_r _ _ | exact hF _ _ | exact hI _ | exact hG _ _ | exact hK _ | (simp [uN] <;> omega)) (by first | omega | exact bnd_r _ _ | exact hF _ _ | exact hI _ | exact hG _ _ | exact hK _ | (simp [uN] <;> omega))) lX3_53 (dec_of DX3_lowestStep 15 rfl) rfl rfl (by decide) (nle rfl) rfl ?_
    refine v_S2r (k_min (by omega) (by omega)) lX3_64 (dec_of DX3_lowestStep 16 rfl) (by decide) (nle rfl) rfl ?_
    refine v_istore_n (dec_of DX3_lowestStep 17 rfl) (by decide) ?_
    dsimp only [List.set]
    refine vi_inc (dec_of DX3_lowestStep 18 rfl) rfl (by decide) ?_
    dsimp only [List.set]
    refine v_goto (tgt := 7) (dec_of DX3_lowestStep 19 rfl) (by decide) ?_
    exact ih (n + 1) (by omega)
set_option maxRecDepth 100000 in
set_option maxHeartbeats 4000000 in
theorem k_lowest {T : XW} {I N : Nat → Int} {F : Nat → Int → Int} (hF : FR F) (hI : IR I) (hN : NR N) (hS : SR N F) (h4 : 0 < N 4) : Sd (rm 2 43 0 0) mX3_lowestStep [.ref 5] (cls I N F ++ T) (cls I N F ++ T) (some (J (lowS N F))) := by
  unfold Sd
  unfold NR at hN
  refine sp_of (ls := [some (.ref 5), none, none]) (by decide) (nle rfl) rfl rfl ?_
  refine v_aload_n (dec_of DX3_lowestStep 0 rfl) rfl ?_
  refine v_V0r (k_finalStep hF hI (by unfold NR; exact hN) h4) lX3_61 (dec_of DX3_lowestStep 1 rfl) rfl rfl (by decide) (nle rfl) rfl ?_
  refine v_istore_n (dec_of DX3_lowestStep 2 rfl) (by decide) ?_
  dsimp only [List.set]
  refine vi_const (dec_of DX3_lowestStep 3 rfl) ?_
  refine v_istore_n (dec_of DX3_lowestStep 4 rfl) (by decide) ?_
  dsimp only [List.set]
  exact k_lowest_loop hF hI (by unfold NR; exact hN) hS (a := finS N F) (hS (N 4 - 1) (by omega) (by omega)) ⟨rfl, rfl⟩ (N 4).toNat 0 (by omega)
set_option maxRecDepth 100000 in
set_option maxHeartbeats 4000000 in
theorem k_highest_loop {T : XW} {I N : Nat → Int} {F : Nat → Int → Int} (hF : FR F) (hI : IR I) (hN : NR N) (hS : SR N F) {n0 : Nat} {Z : XW → Option Value → Prop} {a : Int} (ha : -1000 ≤ a ∧ a ≤ 1000) (hz : Z (cls I N F ++ T) (some (J (hghF (stepF F) a (N 4).toNat)))) : ∀ (m n : Nat), ((n : Int) + m = N 4) → Vd (rm 2 43 0 0) [] mX3_highestStep n0 Z 0 0 7 [some (.ref 5), some (J (hghF (stepF F) a n)), some (J n)] [] (cls I N F ++ T) := by
  unfold NR at hN
  intro m
  induction m with
  | zero =>
    intro n hn
    have e : n = (N 4).toNat := by omega
    have hr := hghF_r (f := stepF F) ha n (fun k h0 h1 => hS k h0 (by omega))
    refine v_iload_n (dec_of DX3_highestStep 5 rfl) rfl ?_
    refine v_aload_n (dec_of DX3_highestStep 6 rfl) rfl ?_
    refine v_get fX3_23 (dec_of DX3_highestStep 7 rfl) rfl rfl ?_
    refine v_V0r (c4_size) lX3_49 (dec_of DX3_highestStep 8 rfl) rfl rfl (by decide) (nle rfl) rfl ?_
    refine vi_icmp_ge (tgt := 38) (dec_of DX3_highestStep 9 rfl) (by decide) (by first | omega | exact bnd_r _ _ | exact hF _ _ | exact hI _ | exact hG _ _ | exact hK _ | (simp [uN] <;> omega)) (by first | omega | exact bnd_r _ _ | exact hF _ _ | exact hI _ | exact hG _ _ | exact hK _ | (simp [uN] <;> omega)) (fun c15 => ?_) (fun c15 => absurd c15 (by omega))
    refine v_iload_n (dec_of DX3_highestStep 20 rfl) rfl ?_
    exact vi_ret (dec_of DX3_highestStep 21 rfl) rfl ⟨by decide, by decide⟩ (by rw [e]; exact hz)
  | succ m ih =>
    intro n hn
    have hr := hghF_r (f := stepF F) ha n (fun k h0 h1 => hS k h0 (by omega))
    have hs := hS n (by omega) (by omega)
    refine v_iload_n (dec_of DX3_highestStep 5 rfl) rfl ?_
    refine v_aload_n (dec_of DX3_highestStep 6 rfl) rfl ?_
    refine v_get fX3_23 (dec_of DX3_highestStep 7 rfl) rfl rfl ?_
    refine v_V0r (c4_size) lX3_49 (dec_of DX3_highestStep 8 rfl) rfl rfl (by decide) (nle rfl) rfl ?_
    refine vi_icmp_ge (tgt := 38) (dec_of DX3_highestStep 9 rfl) (by decide) (by first | omega | exact bnd_r _ _ | exact hF _ _ | exact hI _ | exact hG _ _ | exact hK _ | (simp [uN] <;> omega)) (by first | omega | exact bnd_r _ _ | exact hF _ _ | exact hI _ | exact hG _ _ | exact hK _ | (simp [uN] <;> omega)) (fun c15 => absurd c15 (by omega)) (fun c15 => ?_)
    refine v_iload_n (dec_of DX3_highestStep 10 rfl) rfl ?_
    refine v_aload_n (dec_of DX3_highestStep 11 rfl) rfl ?_
    refine v_get fX3_23 (dec_of DX3_highestStep 12 rfl) rfl rfl ?_
    refine v_iload_n (dec_of DX3_highestStep 13 rfl) rfl ?_
    refine vi_const (dec_of DX3_highestStep 14 rfl) ?_
    refine v_V2r (c4_get (by first | omega | exact bnd_r _ _ | exact hF _ _ | exact hI _ | exact hG _ _ | exact hK _ | (simp [uN] <;> omega)) (by first | omega | exact bnd_r _ _ | exact hF _ _ | exact hI _ | exact hG _ _ | exact hK _ | (simp [uN] <;> omega)) (by first | omega | exact bnd_r _ _ | exact hF _ _ | exact hI _ | exact hG _ _ | exact hK _ | (simp [uN] <;> omega))) lX3_53 (dec_of DX3_highestStep 15 rfl) rfl rfl (by decide) (nle rfl) rfl ?_
    refine v_S2r (k_max (by omega) (by omega)) lX3_69 (dec_of DX3_highestStep 16 rfl) (by decide) (nle rfl) rfl ?_
    refine v_istore_n (dec_of DX3_highestStep 17 rfl) (by decide) ?_
    dsimp only [List.set]
    refine vi_inc (dec_of DX3_highestStep 18 rfl) rfl (by decide) ?_
    dsimp only [List.set]
    refine v_goto (tgt := 7) (dec_of DX3_highestStep 19 rfl) (by decide) ?_
    exact ih (n + 1) (by omega)
set_option maxRecDepth 100000 in
set_option maxHeartbeats 4000000 in
theorem k_highest {T : XW} {I N : Nat → Int} {F : Nat → Int → Int} (hF : FR F) (hI : IR I) (hN : NR N) (hS : SR N F) (h4 : 0 < N 4) : Sd (rm 2 43 0 0) mX3_highestStep [.ref 5] (cls I N F ++ T) (cls I N F ++ T) (some (J (hghS N F))) := by
  unfold Sd
  unfold NR at hN
  refine sp_of (ls := [some (.ref 5), none, none]) (by decide) (nle rfl) rfl rfl ?_
  refine v_aload_n (dec_of DX3_highestStep 0 rfl) rfl ?_
  refine v_V0r (k_finalStep hF hI (by unfold NR; exact hN) h4) lX3_61 (dec_of DX3_highestStep 1 rfl) rfl rfl (by decide) (nle rfl) rfl ?_
  refine v_istore_n (dec_of DX3_highestStep 2 rfl) (by decide) ?_
  dsimp only [List.set]
  refine vi_const (dec_of DX3_highestStep 3 rfl) ?_
  refine v_istore_n (dec_of DX3_highestStep 4 rfl) (by decide) ?_
  dsimp only [List.set]
  exact k_highest_loop hF hI (by unfold NR; exact hN) hS (a := finS N F) (hS (N 4 - 1) (by omega) (by omega)) ⟨rfl, rfl⟩ (N 4).toNat 0 (by omega)
set_option maxRecDepth 100000 in
set_option maxHeartbeats 4000000 in
theorem k_modeN {T : XW} {I N : Nat → Int} {F : Nat → Int → Int} (hF : FR F) (hI : IR I) (hN : NR N) (hS : SR N F) (h4 : 0 < N 4) : Sd (rm 3 65 0 0) mX3_modeNumber [.ref 5] (cls I N F ++ T) (cls I N F ++ T) (some (J (modN N F))) := by
  unfold Sd
  unfold NR at hN
  have hf := hS (N 4 - 1) (by omega) (by omega)
  have hl := lowF_r (f := stepF F) (a := finS N F) hf (N 4).toNat (fun k h0 h1 => hS k h0 (by omega))
  have hg := hghF_r (f := stepF F) (a := finS N F) hf (N 4).toNat (fun k h0 h1 => hS k h0 (by omega))
  change -1000 ≤ finS N F ∧ finS N F ≤ 1000 at hf
  change -1000 ≤ lowS N F ∧ lowS N F ≤ 1000 at hl
  change -1000 ≤ hghS N F ∧ hghS N F ≤ 1000 at hg
  refine sp_of (ls := [some (.ref 5), none, none, none]) (by decide) (nle rfl) rfl rfl ?_
  refine v_aload_n (dec_of DX3_modeNumber 0 rfl) rfl ?_
  refine v_V0r (k_finalStep hF hI (by unfold NR; exact hN) h4) lX3_61 (dec_of DX3_modeNumber 1 rfl) rfl rfl (by decide) (nle rfl) rfl ?_
  change Vd _ _ _ _ _ _ _ _ _ (J (finS N F) :: _) _
  refine vi_bi (dec_of DX3_modeNumber 2 rfl) (by decide) ?_
  refine v_S2r (k_floorMod (by omega)) lX3_72 (dec_of DX3_modeNumber 3 rfl) (by decide) (nle rfl) rfl ?_
  refine v_istore_n (dec_of DX3_modeNumber 4 rfl) (by decide) ?_
  dsimp only [List.set]
  refine v_iload_n (dec_of DX3_modeNumber 5 rfl) rfl ?_
  refine vi_const (dec_of DX3_modeNumber 6 rfl) ?_
  refine vi_icmp_lt (tgt := 20) (dec_of DX3_modeNumber 7 rfl) (by decide) (by first | omega | exact bnd_r _ _ | exact hF _ _ | exact hI _ | exact hG _ _ | exact hK _ | (simp [uN] <;> omega)) (by first | omega | exact bnd_r _ _ | exact hF _ _ | exact hI _ | exact hG _ _ | exact hK _ | (simp [uN] <;> omega)) (fun c12 => ?_) (fun c12 => ?_)
  · rw [modN, if_pos (by omega)]
    refine vi_const (dec_of DX3_modeNumber 11 rfl) ?_
    exact vi_ret (dec_of DX3_modeNumber 12 rfl) rfl ⟨by decide, by decide⟩ (⟨rfl, rfl⟩)
  · refine v_iload_n (dec_of DX3_modeNumber 8 rfl) rfl ?_
    refine vi_const (dec_of DX3_modeNumber 9 rfl) ?_
    refine vi_icmp_le (tgt := 22) (dec_of DX3_modeNumber 10 rfl) (by decide) (by first | omega | exact bnd_r _ _ | exact hF _ _ | exact hI _ | exact hG _ _ | exact hK _ | (simp [uN] <;> omega)) (by first | omega | exact bnd_r _ _ | exact hF _ _ | exact hI _ | exact hG _ _ | exact hK _ | (simp [uN] <;> omega)) (fun c17 => ?_) (fun c17 => ?_)
    · refine vi_const (dec_of DX3_modeNumber 13 rfl) ?_
      refine v_iload_n (dec_of DX3_modeNumber 14 rfl) rfl ?_
      refine vi_mul (dec_of DX3_modeNumber 15 rfl) ?_
      refine vi_const (dec_of DX3_modeNumber 16 rfl) ?_
      refine vi_sub (dec_of DX3_modeNumber 17 rfl) ?_
      refine v_istore_n (dec_of DX3_modeNumber 18 rfl) (by decide) ?_
      dsimp only [List.set]
      refine v_aload_n (dec_of DX3_modeNumber 19 rfl) rfl ?_
      refine v_V0r (k_finalStep hF hI (by unfold NR; exact hN) h4) lX3_61 (dec_of DX3_modeNumber 20 rfl) rfl rfl (by decide) (nle rfl) rfl ?_
      change Vd _ _ _ _ _ _ _ _ _ (J (finS N F) :: _) _
      refine v_aload_n (dec_of DX3_modeNumber 21 rfl) rfl ?_
      refine v_V0r (k_lowest hF hI (by unfold NR; exact hN) hS h4) lX3_75 (dec_of DX3_modeNumber 22 rfl) rfl rfl (by decide) (nle rfl) rfl ?_
      refine vi_sub (dec_of DX3_modeNumber 23 rfl) ?_
      refine vi_const (dec_of DX3_modeNumber 24 rfl) ?_
      refine vi_icmp_lt (tgt := 58) (dec_of DX3_modeNumber 25 rfl) (by decide) (by first | omega | exact bnd_r _ _ | exact hF _ _ | exact hI _ | exact hG _ _ | exact hK _ | (simp [uN] <;> omega)) (by first | omega | exact bnd_r _ _ | exact hF _ _ | exact hI _ | exact hG _ _ | exact hK _ | (simp [uN] <;> omega)) (fun c38 => ?_) (fun c38 => ?_)
      · rw [modN, if_neg (by omega), if_neg (by omega)]
        refine vi_const (dec_of DX3_modeNumber 35 rfl) ?_
        refine v_istore_n (dec_of DX3_modeNumber 36 rfl) (by decide) ?_
        dsimp only [List.set]
        refine v_iload_n (dec_of DX3_modeNumber 37 rfl) rfl ?_
        refine vi_if_eq (tgt := 70) (dec_of DX3_modeNumber 38 rfl) (by decide) (by first | omega | exact bnd_r _ _ | exact hF _ _ | exact hI _ | exact hG _ _ | exact hK _ | (simp [uN] <;> omega)) (fun c61 => ?_) (fun c61 => ?_)
        · refine v_iload_n (dec_of DX3_modeNumber 43 rfl) rfl ?_
          exact vi_ret (dec_of DX3_modeNumber 44 rfl) rfl ⟨by decide, by decide⟩ (by first | exact ⟨rfl, rfl⟩ | exact absurd c61 (by decide))
        · refine v_iload_n (dec_of DX3_modeNumber 39 rfl) rfl ?_
          refine vi_const (dec_of DX3_modeNumber 40 rfl) ?_
          refine vi_add (dec_of DX3_modeNumber 41 rfl) ?_
          refine v_goto (tgt := 71) (dec_of DX3_modeNumber 42 rfl) (by decide) ?_
          exact vi_ret (dec_of DX3_modeNumber 44 rfl) rfl ⟨by decide, by decide⟩ (by first | exact ⟨rfl, rfl⟩ | exact absurd c61 (by decide))
      · refine v_aload_n (dec_of DX3_modeNumber 26 rfl) rfl ?_
        refine v_V0r (k_highest hF hI (by unfold NR; exact hN) hS h4) lX3_78 (dec_of DX3_modeNumber 27 rfl) rfl rfl (by decide) (nle rfl) rfl ?_
        refine v_aload_n (dec_of DX3_modeNumber 28 rfl) rfl ?_
        refine v_V0r (k_finalStep hF hI (by unfold NR; exact hN) h4) lX3_61 (dec_of DX3_modeNumber 29 rfl) rfl rfl (by decide) (nle rfl) rfl ?_
        change Vd _ _ _ _ _ _ _ _ _ (J (finS N F) :: _) _
        refine vi_sub (dec_of DX3_modeNumber 30 rfl) ?_
        refine vi_const (dec_of DX3_modeNumber 31 rfl) ?_
        refine vi_icmp_gt (tgt := 58) (dec_of DX3_modeNumber 32 rfl) (by decide) (by first | omega | exact bnd_r _ _ | exact hF _ _ | exact hI _ | exact hG _ _ | exact hK _ | (simp [uN] <;> omega)) (by first | omega | exact bnd_r _ _ | exact hF _ _ | exact hI _ | exact hG _ _ | exact hK _ | (simp [uN] <;> omega)) (fun c51 => ?_) (fun c51 => ?_)
        · rw [modN, if_neg (by omega), if_neg (by omega)]
          refine vi_const (dec_of DX3_modeNumber 35 rfl) ?_
          refine v_istore_n (dec_of DX3_modeNumber 36 rfl) (by decide) ?_
          dsimp only [List.set]
          refine v_iload_n (dec_of DX3_modeNumber 37 rfl) rfl ?_
          refine vi_if_eq (tgt := 70) (dec_of DX3_modeNumber 38 rfl) (by decide) (by first | omega | exact bnd_r _ _ | exact hF _ _ | exact hI _ | exact hG _ _ | exact hK _ | (simp [uN] <;> omega)) (fun c61 => ?_) (fun c61 => ?_)
          · refine v_iload_n (dec_of DX3_modeNumber 43 rfl) rfl ?_
            exact vi_ret (dec_of DX3_modeNumber 44 rfl) rfl ⟨by decide, by decide⟩ (by first | exact ⟨rfl, rfl⟩ | exact absurd c61 (by decide))
          · refine v_iload_n (dec_of DX3_modeNumber 39 rfl) rfl ?_
            refine vi_const (dec_of DX3_modeNumber 40 rfl) ?_
            refine vi_add (dec_of DX3_modeNumber 41 rfl) ?_
            refine v_goto (tgt := 71) (dec_of DX3_modeNumber 42 rfl) (by decide) ?_
            exact vi_ret (dec_of DX3_modeNumber 44 rfl) rfl ⟨by decide, by decide⟩ (by first | exact ⟨rfl, rfl⟩ | exact absurd c61 (by decide))
        · rw [modN, if_neg (by omega), if_pos (by omega)]
          refine vi_const (dec_of DX3_modeNumber 33 rfl) ?_
          refine v_goto (tgt := 59) (dec_of DX3_modeNumber 34 rfl) (by decide) ?_
          refine v_istore_n (dec_of DX3_modeNumber 36 rfl) (by decide) ?_
          dsimp only [List.set]
          refine v_iload_n (dec_of DX3_modeNumber 37 rfl) rfl ?_
          refine vi_if_eq (tgt := 70) (dec_of DX3_modeNumber 38 rfl) (by decide) (by first | omega | exact bnd_r _ _ | exact hF _ _ | exact hI _ | exact hG _ _ | exact hK _ | (simp [uN] <;> omega)) (fun c61 => ?_) (fun c61 => ?_)
          · refine v_iload_n (dec_of DX3_modeNumber 43 rfl) rfl ?_
            exact vi_ret (dec_of DX3_modeNumber 44 rfl) rfl ⟨by decide, by decide⟩ (by first | exact ⟨rfl, rfl⟩ | exact absurd c61 (by decide))
          · refine v_iload_n (dec_of DX3_modeNumber 39 rfl) rfl ?_
            refine vi_const (dec_of DX3_modeNumber 40 rfl) ?_
            refine vi_add (dec_of DX3_modeNumber 41 rfl) ?_
            refine v_goto (tgt := 71) (dec_of DX3_modeNumber 42 rfl) (by decide) ?_
            exact vi_ret (dec_of DX3_modeNumber 44 rfl) rfl ⟨by decide, by decide⟩ (by first | exact ⟨rfl, rfl⟩ | exact absurd c61 (by decide))
    · rw [modN, if_pos (by omega)]
      refine vi_const (dec_of DX3_modeNumber 11 rfl) ?_
      exact vi_ret (dec_of DX3_modeNumber 12 rfl) rfl ⟨by decide, by decide⟩ (⟨rfl, rfl⟩)
set_option maxRecDepth 100000 in
set_option maxHeartbeats 4000000 in
theorem k_tenor {T : XW} {I N : Nat → Int} {F : Nat → Int → Int} (hF : FR F) (hI : IR I) (hN : NR N) (hS : SR N F) (h4 : 0 < N 4) : Sd (rm 4 88 0 0) mX3_tenorStep [.ref 5] (cls I N F ++ T) (cls I N F ++ T) (some (J (if modN N F < 1 then -100 else finS N F + tenI (modN N F - 1)))) := by
  unfold Sd
  unfold NR at hN
  have hmr : 0 ≤ modN N F ∧ modN N F ≤ 8 := by unfold modN; omega
  refine sp_of (ls := [some (.ref 5), none]) (by decide) (nle rfl) rfl rfl ?_
  refine v_aload_n (dec_of DX3_tenorStep 0 rfl) rfl ?_
  refine v_V0r (k_modeN hF hI (by unfold NR; exact hN) hS h4) lX3_81 (dec_of DX3_tenorStep 1 rfl) rfl rfl (by decide) (nle rfl) rfl ?_
  refine v_istore_n (dec_of DX3_tenorStep 2 rfl) (by decide) ?_
  dsimp only [List.set]
  refine v_iload_n (dec_of DX3_tenorStep 3 rfl) rfl ?_
  refine vi_const (dec_of DX3_tenorStep 4 rfl) ?_
  refine vi_icmp_lt (tgt := 18) (dec_of DX3_tenorStep 5 rfl) (by decide) (by first | omega | exact bnd_r _ _ | exact hF _ _ | exact hI _ | exact hG _ _ | exact hK _ | (simp [uN] <;> omega)) (by first | omega | exact bnd_r _ _ | exact hF _ _ | exact hI _ | exact hG _ _ | exact hK _ | (simp [uN] <;> omega)) (fun c7 => ?_) (fun c7 => ?_)
  · rw [if_pos (by omega)]
    refine vi_bi (dec_of DX3_tenorStep 10 rfl) (by decide) ?_
    exact vi_ret (dec_of DX3_tenorStep 11 rfl) rfl ⟨by decide, by decide⟩ (⟨rfl, rfl⟩)
  · refine v_iload_n (dec_of DX3_tenorStep 6 rfl) rfl ?_
    refine v_gets (j := 2) (q := ("ChantNeumes$Score", "TENORS")) (dec_of DX3_tenorStep 7 rfl) sX3_84 rfl ?_
    refine vi_slen (dec_of DX3_tenorStep 8 rfl) rfl ?_
    refine vi_icmp_le (tgt := 21) (dec_of DX3_tenorStep 9 rfl) (by decide) (by first | omega | exact bnd_r _ _ | exact hF _ _ | exact hI _ | exact hG _ _ | exact hK _ | (simp [uN] <;> omega)) (by first | omega | exact bnd_r _ _ | exact hF _ _ | exact hI _ | exact hG _ _ | exact hK _ | (simp [uN] <;> omega)) (fun c15 => ?_) (fun c15 => absurd c15 (by omega))
    rw [if_neg (by omega)]
    refine v_aload_n (dec_of DX3_tenorStep 12 rfl) rfl ?_
    refine v_V0r (k_finalStep hF hI (by unfold NR; exact hN) h4) lX3_61 (dec_of DX3_tenorStep 13 rfl) rfl rfl (by decide) (nle rfl) rfl ?_
    change Vd _ _ _ _ _ _ _ _ _ (J (finS N F) :: _) _
    refine v_gets (j := 2) (q := ("ChantNeumes$Score", "TENORS")) (dec_of DX3_tenorStep 14 rfl) sX3_84 rfl ?_
    refine v_iload_n (dec_of DX3_tenorStep 15 rfl) rfl ?_
    refine vi_const (dec_of DX3_tenorStep 16 rfl) ?_
    refine vi_sub (dec_of DX3_tenorStep 17 rfl) ?_
    refine vi_sald (dec_of DX3_tenorStep 18 rfl) rfl (by first | omega | exact bnd_r _ _ | exact hF _ _ | exact hI _ | exact hG _ _ | exact hK _ | (simp [uN] <;> omega)) (by decide) (ten_tab (by omega)) ?_
    refine vi_add (dec_of DX3_tenorStep 19 rfl) ?_
    exact vi_ret (dec_of DX3_tenorStep 20 rfl) rfl ⟨by decide, by decide⟩ (⟨rfl, rfl⟩)
set_option maxRecDepth 100000 in
set_option maxHeartbeats 4000000 in
theorem x_mode0 {T : XW} {I N : Nat → Int} {F : Nat → Int → Int} (hF : FR F) (hI : IR I) (hN : NR N) (hS : SR N F) (h4 : 0 < N 4) : Sd (rm 5 109 0 0) mX8_mode [.ref 0, J 0] (cls I N F ++ T) (cls I N F ++ T) (some (J (modN N F))) := by
  unfold Sd
  unfold NR at hN
  refine sp_of (ls := [some (.ref 0), some (J 0)]) (by decide) (nle rfl) rfl rfl ?_
  refine v_iload_n (dec_of DX8_mode 0 rfl) rfl ?_
  refine vi_if_lt (tgt := 9) (dec_of DX8_mode 1 rfl) (by decide) (by first | omega | decide) (fun c1 => absurd c1 (by omega)) (fun c1 => ?_)
  refine v_iload_n (dec_of DX8_mode 2 rfl) rfl ?_
  refine vi_const (dec_of DX8_mode 3 rfl) ?_
  refine vi_icmp_le (tgt := 12) (dec_of DX8_mode 4 rfl) (by decide) (by first | omega | decide) (by first | omega | decide) (fun c6 => ?_) (fun c6 => absurd c6 (by omega))
  refine v_aload_n (dec_of DX8_mode 7 rfl) rfl ?_
  refine v_get fX8_24 (dec_of DX8_mode 8 rfl) rfl rfl ?_
  refine v_get fX8_70 (dec_of DX8_mode 9 rfl) rfl rfl ?_
  refine v_V0r (c4_size) lX8_48 (dec_of DX8_mode 10 rfl) rfl rfl (by decide) (nle rfl) rfl ?_
  refine vi_if_ne (tgt := 28) (dec_of DX8_mode 11 rfl) (by decide) (by first | omega | decide) (fun c22 => ?_) (fun c22 => absurd c22 (by omega))
  refine v_iload_n (dec_of DX8_mode 14 rfl) rfl ?_
  refine vi_tabIn (tgt := 60) (dec_of DX8_mode 15 rfl) (by decide) (by decide) (by decide) rfl (by decide) ?_
  refine v_aload_n (dec_of DX8_mode 16 rfl) rfl ?_
  refine v_get fX8_24 (dec_of DX8_mode 17 rfl) rfl rfl ?_
  refine v_V0r (k_modeN hF hI (by unfold NR; exact hN) hS h4) lX8_96 (dec_of DX8_mode 18 rfl) rfl rfl (by decide) (nle rfl) rfl ?_
  exact vi_ret (dec_of DX8_mode 19 rfl) rfl ⟨by decide, by decide⟩ (⟨rfl, rfl⟩)
set_option maxRecDepth 100000 in
set_option maxHeartbeats 4000000 in
theorem x_mode1 {T : XW} {I N : Nat → Int} {F : Nat → Int → Int} (hF : FR F) (hI : IR I) (hN : NR N) (hS : SR N F) (h4 : 0 < N 4) : Sd (rm 5 109 0 0) mX8_mode [.ref 0, J 1] (cls I N F ++ T) (cls I N F ++ T) (some (J (finS N F))) := by
  unfold Sd
  unfold NR at hN
  refine sp_of (ls := [some (.ref 0), some (J 1)]) (by decide) (nle rfl) rfl rfl ?_
  refine v_iload_n (dec_of DX8_mode 0 rfl) rfl ?_
  refine vi_if_lt (tgt := 9) (dec_of DX8_mode 1 rfl) (by decide) (by first | omega | decide) (fun c1 => absurd c1 (by omega)) (fun c1 => ?_)
  refine v_iload_n (dec_of DX8_mode 2 rfl) rfl ?_
  refine vi_const (dec_of DX8_mode 3 rfl) ?_
  refine vi_icmp_le (tgt := 12) (dec_of DX8_mode 4 rfl) (by decide) (by first | omega | decide) (by first | omega | decide) (fun c6 => ?_) (fun c6 => absurd c6 (by omega))
  refine v_aload_n (dec_of DX8_mode 7 rfl) rfl ?_
  refine v_get fX8_24 (dec_of DX8_mode 8 rfl) rfl rfl ?_
  refine v_get fX8_70 (dec_of DX8_mode 9 rfl) rfl rfl ?_
  refine v_V0r (c4_size) lX8_48 (dec_of DX8_mode 10 rfl) rfl rfl (by decide) (nle rfl) rfl ?_
  refine vi_if_ne (tgt := 28) (dec_of DX8_mode 11 rfl) (by decide) (by first | omega | decide) (fun c22 => ?_) (fun c22 => absurd c22 (by omega))
  refine v_iload_n (dec_of DX8_mode 14 rfl) rfl ?_
  refine vi_tabIn (tgt := 68) (dec_of DX8_mode 15 rfl) (by decide) (by decide) (by decide) rfl (by decide) ?_
  refine v_aload_n (dec_of DX8_mode 20 rfl) rfl ?_
  refine v_get fX8_24 (dec_of DX8_mode 21 rfl) rfl rfl ?_
  refine v_V0r (k_finalStep hF hI (by unfold NR; exact hN) h4) lX8_99 (dec_of DX8_mode 22 rfl) rfl rfl (by decide) (nle rfl) rfl ?_
  exact vi_ret (dec_of DX8_mode 23 rfl) rfl ⟨by decide, by decide⟩ (⟨rfl, rfl⟩)
set_option maxRecDepth 100000 in
set_option maxHeartbeats 4000000 in
theorem x_mode2 {T : XW} {I N : Nat → Int} {F : Nat → Int → Int} (hF : FR F) (hI : IR I) (hN : NR N) (hS : SR N F) (h4 : 0 < N 4) : Sd (rm 5 109 0 0) mX8_mode [.ref 0, J 2] (cls I N F ++ T) (cls I N F ++ T) (some (J (if modN N F < 1 then -100 else finS N F + tenI (modN N F - 1)))) := by
  unfold Sd
  unfold NR at hN
  refine sp_of (ls := [some (.ref 0), some (J 2)]) (by decide) (nle rfl) rfl rfl ?_
  refine v_iload_n (dec_of DX8_mode 0 rfl) rfl ?_
  refine vi_if_lt (tgt := 9) (dec_of DX8_mode 1 rfl) (by decide) (by first | omega | decide) (fun c1 => absurd c1 (by omega)) (fun c1 => ?_)
  refine v_iload_n (dec_of DX8_mode 2 rfl) rfl ?_
  refine vi_const (dec_of DX8_mode 3 rfl) ?_
  refine vi_icmp_le (tgt := 12) (dec_of DX8_mode 4 rfl) (by decide) (by first | omega | decide) (by first | omega | decide) (fun c6 => ?_) (fun c6 => absurd c6 (by omega))
  refine v_aload_n (dec_of DX8_mode 7 rfl) rfl ?_
  refine v_get fX8_24 (dec_of DX8_mode 8 rfl) rfl rfl ?_
  refine v_get fX8_70 (dec_of DX8_mode 9 rfl) rfl rfl ?_
  refine v_V0r (c4_size) lX8_48 (dec_of DX8_mode 10 rfl) rfl rfl (by decide) (nle rfl) rfl ?_
  refine vi_if_ne (tgt := 28) (dec_of DX8_mode 11 rfl) (by decide) (by first | omega | decide) (fun c22 => ?_) (fun c22 => absurd c22 (by omega))
  refine v_iload_n (dec_of DX8_mode 14 rfl) rfl ?_
  refine vi_tabIn (tgt := 76) (dec_of DX8_mode 15 rfl) (by decide) (by decide) (by decide) rfl (by decide) ?_
  refine v_aload_n (dec_of DX8_mode 24 rfl) rfl ?_
  refine v_get fX8_24 (dec_of DX8_mode 25 rfl) rfl rfl ?_
  refine v_V0r (k_tenor hF hI (by unfold NR; exact hN) hS h4) lX8_102 (dec_of DX8_mode 26 rfl) rfl rfl (by decide) (nle rfl) rfl ?_
  exact vi_ret (dec_of DX8_mode 27 rfl) rfl ⟨by decide, by decide⟩ (⟨rfl, rfl⟩)
set_option maxRecDepth 100000 in
set_option maxHeartbeats 4000000 in
theorem x_mode3 {T : XW} {I N : Nat → Int} {F : Nat → Int → Int} (hF : FR F) (hI : IR I) (hN : NR N) (hS : SR N F) (h4 : 0 < N 4) : Sd (rm 5 109 0 0) mX8_mode [.ref 0, J 3] (cls I N F ++ T) (cls I N F ++ T) (some (J (lowS N F))) := by
  unfold Sd
  unfold NR at hN
  refine sp_of (ls := [some (.ref 0), some (J 3)]) (by decide) (nle rfl) rfl rfl ?_
  refine v_iload_n (dec_of DX8_mode 0 rfl) rfl ?_
  refine vi_if_lt (tgt := 9) (dec_of DX8_mode 1 rfl) (by decide) (by first | omega | decide) (fun c1 => absurd c1 (by omega)) (fun c1 => ?_)
  refine v_iload_n (dec_of DX8_mode 2 rfl) rfl ?_
  refine vi_const (dec_of DX8_mode 3 rfl) ?_
  refine vi_icmp_le (tgt := 12) (dec_of DX8_mode 4 rfl) (by decide) (by first | omega | decide) (by first | omega | decide) (fun c6 => ?_) (fun c6 => absurd c6 (by omega))
  refine v_aload_n (dec_of DX8_mode 7 rfl) rfl ?_
  refine v_get fX8_24 (dec_of DX8_mode 8 rfl) rfl rfl ?_
  refine v_get fX8_70 (dec_of DX8_mode 9 rfl) rfl rfl ?_
  refine v_V0r (c4_size) lX8_48 (dec_of DX8_mode 10 rfl) rfl rfl (by decide) (nle rfl) rfl ?_
  refine vi_if_ne (tgt := 28) (dec_of DX8_mode 11 rfl) (by decide) (by first | omega | decide) (fun c22 => ?_) (fun c22 => absurd c22 (by omega))
  refine v_iload_n (dec_of DX8_mode 14 rfl) rfl ?_
  refine vi_tabIn (tgt := 84) (dec_of DX8_mode 15 rfl) (by decide) (by decide) (by decide) rfl (by decide) ?_
  refine v_aload_n (dec_of DX8_mode 28 rfl) rfl ?_
  refine v_get fX8_24 (dec_of DX8_mode 29 rfl) rfl rfl ?_
  refine v_V0r (k_lowest hF hI (by unfold NR; exact hN) hS h4) lX8_105 (dec_of DX8_mode 30 rfl) rfl rfl (by decide) (nle rfl) rfl ?_
  exact vi_ret (dec_of DX8_mode 31 rfl) rfl ⟨by decide, by decide⟩ (⟨rfl, rfl⟩)
set_option maxRecDepth 100000 in
set_option maxHeartbeats 4000000 in
theorem x_mode4 {T : XW} {I N : Nat → Int} {F : Nat → Int → Int} (hF : FR F) (hI : IR I) (hN : NR N) (hS : SR N F) (h4 : 0 < N 4) : Sd (rm 5 109 0 0) mX8_mode [.ref 0, J 4] (cls I N F ++ T) (cls I N F ++ T) (some (J (hghS N F))) := by
  unfold Sd
  unfold NR at hN
  refine sp_of (ls := [some (.ref 0), some (J 4)]) (by decide) (nle rfl) rfl rfl ?_
  refine v_iload_n (dec_of DX8_mode 0 rfl) rfl ?_
  refine vi_if_lt (tgt := 9) (dec_of DX8_mode 1 rfl) (by decide) (by first | omega | decide) (fun c1 => absurd c1 (by omega)) (fun c1 => ?_)
  refine v_iload_n (dec_of DX8_mode 2 rfl) rfl ?_
  refine vi_const (dec_of DX8_mode 3 rfl) ?_
  refine vi_icmp_le (tgt := 12) (dec_of DX8_mode 4 rfl) (by decide) (by first | omega | decide) (by first | omega | decide) (fun c6 => ?_) (fun c6 => absurd c6 (by omega))
  refine v_aload_n (dec_of DX8_mode 7 rfl) rfl ?_
  refine v_get fX8_24 (dec_of DX8_mode 8 rfl) rfl rfl ?_
  refine v_get fX8_70 (dec_of DX8_mode 9 rfl) rfl rfl ?_
  refine v_V0r (c4_size) lX8_48 (dec_of DX8_mode 10 rfl) rfl rfl (by decide) (nle rfl) rfl ?_
  refine vi_if_ne (tgt := 28) (dec_of DX8_mode 11 rfl) (by decide) (by first | omega | decide) (fun c22 => ?_) (fun c22 => absurd c22 (by omega))
  refine v_iload_n (dec_of DX8_mode 14 rfl) rfl ?_
  refine vi_tabOut (tgt := 92) (dec_of DX8_mode 15 rfl) (by decide) (Or.inr (by decide)) (by decide) ?_
  refine v_aload_n (dec_of DX8_mode 32 rfl) rfl ?_
  refine v_get fX8_24 (dec_of DX8_mode 33 rfl) rfl rfl ?_
  refine v_V0r (k_highest hF hI (by unfold NR; exact hN) hS h4) lX8_108 (dec_of DX8_mode 34 rfl) rfl rfl (by decide) (nle rfl) rfl ?_
  exact vi_ret (dec_of DX8_mode 35 rfl) rfl ⟨by decide, by decide⟩ (⟨rfl, rfl⟩)
set_option maxRecDepth 100000 in
set_option maxHeartbeats 4000000 in
theorem x_mode_state {T : XW} {I N : Nat → Int} {F : Nat → Int → Int} (hF : FR F) (hI : IR I) (hN : NR N) {a : Int} (h : 0 ≤ a ∧ a ≤ 4) (h4 : N 4 = 0) : Sd (rm 5 109 0 0) mX8_mode [.ref 0, J a] (cls I N F ++ T) (cls I N F ++ T) (some (J (-103))) := by
  unfold Sd
  unfold NR at hN
  refine sp_of (ls := [some (.ref 0), some (J a)]) (by decide) (nle rfl) rfl rfl ?_
  refine v_iload_n (dec_of DX8_mode 0 rfl) rfl ?_
  refine vi_if_lt (tgt := 9) (dec_of DX8_mode 1 rfl) (by decide) (by first | omega | exact bnd_r _ _ | exact hF _ _ | exact hI _ | exact hG _ _ | exact hK _ | (simp [uN] <;> omega)) (fun c1 => absurd c1 (by omega)) (fun c1 => ?_)
  refine v_iload_n (dec_of DX8_mode 2 rfl) rfl ?_
  refine vi_const (dec_of DX8_mode 3 rfl) ?_
  refine vi_icmp_le (tgt := 12) (dec_of DX8_mode 4 rfl) (by decide) (by first | omega | exact bnd_r _ _ | exact hF _ _ | exact hI _ | exact hG _ _ | exact hK _ | (simp [uN] <;> omega)) (by first | omega | exact bnd_r _ _ | exact hF _ _ | exact hI _ | exact hG _ _ | exact hK _ | (simp [uN] <;> omega)) (fun c6 => ?_) (fun c6 => absurd c6 (by omega))
  refine v_aload_n (dec_of DX8_mode 7 rfl) rfl ?_
  refine v_get fX8_24 (dec_of DX8_mode 8 rfl) rfl rfl ?_
  refine v_get fX8_70 (dec_of DX8_mode 9 rfl) rfl rfl ?_
  refine v_V0r (c4_size) lX8_48 (dec_of DX8_mode 10 rfl) rfl rfl (by decide) (nle rfl) rfl ?_
  refine vi_if_ne (tgt := 28) (dec_of DX8_mode 11 rfl) (by decide) (by first | omega | exact bnd_r _ _ | exact hF _ _ | exact hI _ | exact hG _ _ | exact hK _ | (simp [uN] <;> omega)) (fun c22 => absurd c22 (by omega)) (fun c22 => ?_)
  refine vi_bi (dec_of DX8_mode 12 rfl) (by decide) ?_
  exact vi_ret (dec_of DX8_mode 13 rfl) rfl ⟨by decide, by decide⟩ (⟨rfl, rfl⟩)
set_option maxRecDepth 100000 in
set_option maxHeartbeats 4000000 in
theorem x_mode_out {T : XW} {I N : Nat → Int} {F : Nat → Int → Int} (hF : FR F) (hI : IR I) (hN : NR N) {a : Int} (ha : -2147483648 ≤ a ∧ a < 2147483648) (h : ¬ (0 ≤ a ∧ a ≤ 4)) : Sd (rm 5 109 0 0) mX8_mode [.ref 0, J a] (cls I N F ++ T) (cls I N F ++ T) (some (J (-102))) := by
  unfold Sd
  unfold NR at hN
  refine sp_of (ls := [some (.ref 0), some (J a)]) (by decide) (nle rfl) rfl rfl ?_
  refine v_iload_n (dec_of DX8_mode 0 rfl) rfl ?_
  refine vi_if_lt (tgt := 9) (dec_of DX8_mode 1 rfl) (by decide) (by first | omega | exact bnd_r _ _ | exact hF _ _ | exact hI _ | exact hG _ _ | exact hK _ | (simp [uN] <;> omega)) (fun c1 => ?_) (fun c1 => ?_)
  · refine vi_bi (dec_of DX8_mode 5 rfl) (by decide) ?_
    exact vi_ret (dec_of DX8_mode 6 rfl) rfl ⟨by decide, by decide⟩ (⟨rfl, rfl⟩)
  · refine v_iload_n (dec_of DX8_mode 2 rfl) rfl ?_
    refine vi_const (dec_of DX8_mode 3 rfl) ?_
    refine vi_icmp_le (tgt := 12) (dec_of DX8_mode 4 rfl) (by decide) (by first | omega | exact bnd_r _ _ | exact hF _ _ | exact hI _ | exact hG _ _ | exact hK _ | (simp [uN] <;> omega)) (by first | omega | exact bnd_r _ _ | exact hF _ _ | exact hI _ | exact hG _ _ | exact hK _ | (simp [uN] <;> omega)) (fun c6 => ?_) (fun c6 => ?_)
    · exact absurd (show 0 ≤ a ∧ a ≤ 4 by omega) h
    · refine vi_bi (dec_of DX8_mode 5 rfl) (by decide) ?_
      exact vi_ret (dec_of DX8_mode 6 rfl) rfl ⟨by decide, by decide⟩ (⟨rfl, rfl⟩)
def swn (F : Nat → Int → Int) : Int → Int := fun s => F 3 (s * 9 + 4)
set_option maxRecDepth 100000 in
set_option maxHeartbeats 4000000 in
theorem k_swn_loop {T : XW} {I N : Nat → Int} {F : Nat → Int → Int} (hF : FR F) (hI : IR I) (hN : NR N) {n0 : Nat} {Z : XW → Option Value → Prop} (hz : Z (cls I N F ++ T) (some (J (cnt0 (swn F) (N 3).toNat)))) : ∀ (m n : Nat), ((n : Int) + m = N 3) → Vd (rm 1 23 0 0) [] mX3_syllablesWithoutNotes n0 Z 0 0 4 [some (.ref 5), some (J (cnt0 (swn F) n)), some (J n)] [] (cls I N F ++ T) := by
  unfold NR at hN
  intro m
  induction m with
  | zero =>
    intro n hn
    have e : n = (N 3).toNat := by omega
    refine v_iload_n (dec_of DX3_syllablesWithoutNotes 4 rfl) rfl ?_
    refine v_aload_n (dec_of DX3_syllablesWithoutNotes 5 rfl) rfl ?_
    refine v_get fX3_20 (dec_of DX3_syllablesWithoutNotes 6 rfl) rfl rfl ?_
    refine v_V0r (c3_size) lX3_49 (dec_of DX3_syllablesWithoutNotes 7 rfl) rfl rfl (by decide) (nle rfl) rfl ?_
    refine vi_icmp_ge (tgt := 36) (dec_of DX3_syllablesWithoutNotes 8 rfl) (by decide) (by first | omega | exact bnd_r _ _ | exact hF _ _ | exact hI _ | exact hG _ _ | exact hK _ | (simp [uN] <;> omega)) (by first | omega | exact bnd_r _ _ | exact hF _ _ | exact hI _ | exact hG _ _ | exact hK _ | (simp [uN] <;> omega)) (fun c12 => ?_) (fun c12 => absurd c12 (by omega))
    refine v_iload_n (dec_of DX3_syllablesWithoutNotes 18 rfl) rfl ?_
    exact vi_ret (dec_of DX3_syllablesWithoutNotes 19 rfl) rfl ⟨by decide, by decide⟩ (by rw [e]; exact hz)
  | succ m ih =>
    intro n hn
    by_cases h1 : F 3 ((n : Int) * 9 + 4) = 0
    · have e1 : cnt0 (swn F) (n + 1) = cnt0 (swn F) n + 1 := by rw [cnt0, if_pos (show swn F n = 0 from h1)]
      refine v_iload_n (dec_of DX3_syllablesWithoutNotes 4 rfl) rfl ?_
      refine v_aload_n (dec_of DX3_syllablesWithoutNotes 5 rfl) rfl ?_
      refine v_get fX3_20 (dec_of DX3_syllablesWithoutNotes 6 rfl) rfl rfl ?_
      refine v_V0r (c3_size) lX3_49 (dec_of DX3_syllablesWithoutNotes 7 rfl) rfl rfl (by decide) (nle rfl) rfl ?_
      refine vi_icmp_ge (tgt := 36) (dec_of DX3_syllablesWithoutNotes 8 rfl) (by decide) (by first | omega | exact bnd_r _ _ | exact hF _ _ | exact hI _ | exact hG _ _ | exact hK _ | (simp [uN] <;> omega)) (by first | omega | exact bnd_r _ _ | exact hF _ _ | exact hI _ | exact hG _ _ | exact hK _ | (simp [uN] <;> omega)) (fun c12 => absurd c12 (by omega)) (fun c12 => ?_)
      refine v_aload_n (dec_of DX3_syllablesWithoutNotes 9 rfl) rfl ?_
      refine v_get fX3_20 (dec_of DX3_syllablesWithoutNotes 10 rfl) rfl rfl ?_
      refine v_iload_n (dec_of DX3_syllablesWithoutNotes 11 rfl) rfl ?_
      refine vi_const (dec_of DX3_syllablesWithoutNotes 12 rfl) ?_
      refine v_V2r (c3_get (by first | omega | exact bnd_r _ _ | exact hF _ _ | exact hI _ | exact hG _ _ | exact hK _ | (simp [uN] <;> omega)) (by first | omega | exact bnd_r _ _ | exact hF _ _ | exact hI _ | exact hG _ _ | exact hK _ | (simp [uN] <;> omega)) (by first | omega | exact bnd_r _ _ | exact hF _ _ | exact hI _ | exact hG _ _ | exact hK _ | (simp [uN] <;> omega))) lX3_53 (dec_of DX3_syllablesWithoutNotes 13 rfl) rfl rfl (by decide) (nle rfl) rfl ?_
      refine vi_if_ne (tgt := 30) (dec_of DX3_syllablesWithoutNotes 14 rfl) (by decide) (by first | omega | exact bnd_r _ _ | exact hF _ _ | exact hI _ | exact hG _ _ | exact hK _ | (simp [uN] <;> omega)) (fun c24 => absurd c24 (by omega)) (fun c24 => ?_)
      refine vi_inc (dec_of DX3_syllablesWithoutNotes 15 rfl) rfl (by decide) ?_
      dsimp only [List.set]
      refine vi_inc (dec_of DX3_syllablesWithoutNotes 16 rfl) rfl (by decide) ?_
      dsimp only [List.set]
      refine v_goto (tgt := 4) (dec_of DX3_syllablesWithoutNotes 17 rfl) (by decide) ?_
      have h9 := ih (n + 1) (by omega)
      rw [e1] at h9
      exact h9
    · have e1 : cnt0 (swn F) (n + 1) = cnt0 (swn F) n := by rw [cnt0, if_neg (show ¬ swn F n = 0 from h1)]
      refine v_iload_n (dec_of DX3_syllablesWithoutNotes 4 rfl) rfl ?_
      refine v_aload_n (dec_of DX3_syllablesWithoutNotes 5 rfl) rfl ?_
      refine v_get fX3_20 (dec_of DX3_syllablesWithoutNotes 6 rfl) rfl rfl ?_
      refine v_V0r (c3_size) lX3_49 (dec_of DX3_syllablesWithoutNotes 7 rfl) rfl rfl (by decide) (nle rfl) rfl ?_
      refine vi_icmp_ge (tgt := 36) (dec_of DX3_syllablesWithoutNotes 8 rfl) (by decide) (by first | omega | exact bnd_r _ _ | exact hF _ _ | exact hI _ | exact hG _ _ | exact hK _ | (simp [uN] <;> omega)) (by first | omega | exact bnd_r _ _ | exact hF _ _ | exact hI _ | exact hG _ _ | exact hK _ | (simp [uN] <;> omega)) (fun c12 => absurd c12 (by omega)) (fun c12 => ?_)
      refine v_aload_n (dec_of DX3_syllablesWithoutNotes 9 rfl) rfl ?_
      refine v_get fX3_20 (dec_of DX3_syllablesWithoutNotes 10 rfl) rfl rfl ?_
      refine v_iload_n (dec_of DX3_syllablesWithoutNotes 11 rfl) rfl ?_
      refine vi_const (dec_of DX3_syllablesWithoutNotes 12 rfl) ?_
      refine v_V2r (c3_get (by first | omega | exact bnd_r _ _ | exact hF _ _ | exact hI _ | exact hG _ _ | exact hK _ | (simp [uN] <;> omega)) (by first | omega | exact bnd_r _ _ | exact hF _ _ | exact hI _ | exact hG _ _ | exact hK _ | (simp [uN] <;> omega)) (by first | omega | exact bnd_r _ _ | exact hF _ _ | exact hI _ | exact hG _ _ | exact hK _ | (simp [uN] <;> omega))) lX3_53 (dec_of DX3_syllablesWithoutNotes 13 rfl) rfl rfl (by decide) (nle rfl) rfl ?_
      refine vi_if_ne (tgt := 30) (dec_of DX3_syllablesWithoutNotes 14 rfl) (by decide) (by first | omega | exact bnd_r _ _ | exact hF _ _ | exact hI _ | exact hG _ _ | exact hK _ | (simp [uN] <;> omega)) (fun c24 => ?_) (fun c24 => absurd c24 (by omega))
      refine vi_inc (dec_of DX3_syllablesWithoutNotes 16 rfl) rfl (by decide) ?_
      dsimp only [List.set]
      refine v_goto (tgt := 4) (dec_of DX3_syllablesWithoutNotes 17 rfl) (by decide) ?_
      have h9 := ih (n + 1) (by omega)
      rw [e1] at h9
      exact h9
set_option maxRecDepth 100000 in
set_option maxHeartbeats 4000000 in
theorem k_swn {T : XW} {I N : Nat → Int} {F : Nat → Int → Int} (hF : FR F) (hI : IR I) (hN : NR N)  : Sd (rm 1 23 0 0) mX3_syllablesWithoutNotes [.ref 5] (cls I N F ++ T) (cls I N F ++ T) (some (J (cnt0 (swn F) (N 3).toNat))) := by
  unfold Sd
  unfold NR at hN
  refine sp_of (ls := [some (.ref 5), none, none]) (by decide) (nle rfl) rfl rfl ?_
  refine vi_const (dec_of DX3_syllablesWithoutNotes 0 rfl) ?_
  refine v_istore_n (dec_of DX3_syllablesWithoutNotes 1 rfl) (by decide) ?_
  dsimp only [List.set]
  refine vi_const (dec_of DX3_syllablesWithoutNotes 2 rfl) ?_
  refine v_istore_n (dec_of DX3_syllablesWithoutNotes 3 rfl) (by decide) ?_
  dsimp only [List.set]
  exact k_swn_loop hF hI (by unfold NR; exact hN) ⟨rfl, rfl⟩ (N 3).toNat 0 (by omega)
set_option maxRecDepth 100000 in
set_option maxHeartbeats 4000000 in
theorem x_count0 {T : XW} {I N : Nat → Int} {F : Nat → Int → Int} (hF : FR F) (hI : IR I) (hN : NR N)  : Sd (rm 2 45 0 0) mX8_count [.ref 0, J 0] (cls I N F ++ T) (cls I N F ++ T) (some (J (N 3))) := by
  unfold Sd
  unfold NR at hN
  refine sp_of (ls := [some (.ref 0), some (J 0)]) (by decide) (nle rfl) rfl rfl ?_
  refine v_iload_n (dec_of DX8_count 0 rfl) rfl ?_
  refine vi_tabIn (tgt := 52) (dec_of DX8_count 1 rfl) (by decide) (by decide) (by decide) rfl (by decide) ?_
  refine v_aload_n (dec_of DX8_count 2 rfl) rfl ?_
  refine v_get fX8_24 (dec_of DX8_count 3 rfl) rfl rfl ?_
  refine v_get fX8_73 (dec_of DX8_count 4 rfl) rfl rfl ?_
  refine v_V0r (c3_size) lX8_48 (dec_of DX8_count 5 rfl) rfl rfl (by decide) (nle rfl) rfl ?_
  exact vi_ret (dec_of DX8_count 6 rfl) rfl ⟨by decide, by decide⟩ (⟨rfl, rfl⟩)
set_option maxRecDepth 100000 in
set_option maxHeartbeats 4000000 in
theorem x_count1 {T : XW} {I N : Nat → Int} {F : Nat → Int → Int} (hF : FR F) (hI : IR I) (hN : NR N)  : Sd (rm 2 45 0 0) mX8_count [.ref 0, J 1] (cls I N F ++ T) (cls I N F ++ T) (some (J (N 4))) := by
  unfold Sd
  unfold NR at hN
  refine sp_of (ls := [some (.ref 0), some (J 1)]) (by decide) (nle rfl) rfl rfl ?_
  refine v_iload_n (dec_of DX8_count 0 rfl) rfl ?_
  refine vi_tabIn (tgt := 63) (dec_of DX8_count 1 rfl) (by decide) (by decide) (by decide) rfl (by decide) ?_
  refine v_aload_n (dec_of DX8_count 7 rfl) rfl ?_
  refine v_get fX8_24 (dec_of DX8_count 8 rfl) rfl rfl ?_
  refine v_get fX8_70 (dec_of DX8_count 9 rfl) rfl rfl ?_
  refine v_V0r (c4_size) lX8_48 (dec_of DX8_count 10 rfl) rfl rfl (by decide) (nle rfl) rfl ?_
  exact vi_ret (dec_of DX8_count 11 rfl) rfl ⟨by decide, by decide⟩ (⟨rfl, rfl⟩)
set_option maxRecDepth 100000 in
set_option maxHeartbeats 4000000 in
theorem x_count2 {T : XW} {I N : Nat → Int} {F : Nat → Int → Int} (hF : FR F) (hI : IR I) (hN : NR N)  : Sd (rm 2 45 0 0) mX8_count [.ref 0, J 2] (cls I N F ++ T) (cls I N F ++ T) (some (J (I 2))) := by
  unfold Sd
  unfold NR at hN
  refine sp_of (ls := [some (.ref 0), some (J 2)]) (by decide) (nle rfl) rfl rfl ?_
  refine v_iload_n (dec_of DX8_count 0 rfl) rfl ?_
  refine vi_tabIn (tgt := 74) (dec_of DX8_count 1 rfl) (by decide) (by decide) (by decide) rfl (by decide) ?_
  refine v_aload_n (dec_of DX8_count 12 rfl) rfl ?_
  refine v_get fX8_24 (dec_of DX8_count 13 rfl) rfl rfl ?_
  refine v_get fX8_153 (dec_of DX8_count 14 rfl) rfl rfl ?_
  exact vi_ret (dec_of DX8_count 15 rfl) rfl ⟨by decide, by decide⟩ (⟨rfl, rfl⟩)
set_option maxRecDepth 100000 in
set_option maxHeartbeats 4000000 in
theorem x_count3 {T : XW} {I N : Nat → Int} {F : Nat → Int → Int} (hF : FR F) (hI : IR I) (hN : NR N)  : Sd (rm 2 45 0 0) mX8_count [.ref 0, J 3] (cls I N F ++ T) (cls I N F ++ T) (some (J (N 5))) := by
  unfold Sd
  unfold NR at hN
  refine sp_of (ls := [some (.ref 0), some (J 3)]) (by decide) (nle rfl) rfl rfl ?_
  refine v_iload_n (dec_of DX8_count 0 rfl) rfl ?_
  refine vi_tabIn (tgt := 82) (dec_of DX8_count 1 rfl) (by decide) (by decide) (by decide) rfl (by decide) ?_
  refine v_aload_n (dec_of DX8_count 16 rfl) rfl ?_
  refine v_get fX8_24 (dec_of DX8_count 17 rfl) rfl rfl ?_
  refine v_get fX8_80 (dec_of DX8_count 18 rfl) rfl rfl ?_
  refine v_V0r (c5_size) lX8_48 (dec_of DX8_count 19 rfl) rfl rfl (by decide) (nle rfl) rfl ?_
  exact vi_ret (dec_of DX8_count 20 rfl) rfl ⟨by decide, by decide⟩ (⟨rfl, rfl⟩)
set_option maxRecDepth 100000 in
set_option maxHeartbeats 4000000 in
theorem x_count4 {T : XW} {I N : Nat → Int} {F : Nat → Int → Int} (hF : FR F) (hI : IR I) (hN : NR N)  : Sd (rm 2 45 0 0) mX8_count [.ref 0, J 4] (cls I N F ++ T) (cls I N F ++ T) (some (J (N 6))) := by
  unfold Sd
  unfold NR at hN
  refine sp_of (ls := [some (.ref 0), some (J 4)]) (by decide) (nle rfl) rfl rfl ?_
  refine v_iload_n (dec_of DX8_count 0 rfl) rfl ?_
  refine vi_tabIn (tgt := 93) (dec_of DX8_count 1 rfl) (by decide) (by decide) (by decide) rfl (by decide) ?_
  refine v_aload_n (dec_of DX8_count 21 rfl) rfl ?_
  refine v_get fX8_24 (dec_of DX8_count 22 rfl) rfl rfl ?_
  refine v_get fX8_83 (dec_of DX8_count 23 rfl) rfl rfl ?_
  refine v_V0r (c6_size) lX8_48 (dec_of DX8_count 24 rfl) rfl rfl (by decide) (nle rfl) rfl ?_
  exact vi_ret (dec_of DX8_count 25 rfl) rfl ⟨by decide, by decide⟩ (⟨rfl, rfl⟩)
set_option maxRecDepth 100000 in
set_option maxHeartbeats 4000000 in
theorem x_count5 {T : XW} {I N : Nat → Int} {F : Nat → Int → Int} (hF : FR F) (hI : IR I) (hN : NR N)  : Sd (rm 2 45 0 0) mX8_count [.ref 0, J 5] (cls I N F ++ T) (cls I N F ++ T) (some (J (N 7))) := by
  unfold Sd
  unfold NR at hN
  refine sp_of (ls := [some (.ref 0), some (J 5)]) (by decide) (nle rfl) rfl rfl ?_
  refine v_iload_n (dec_of DX8_count 0 rfl) rfl ?_
  refine vi_tabIn (tgt := 104) (dec_of DX8_count 1 rfl) (by decide) (by decide) (by decide) rfl (by decide) ?_
  refine v_aload_n (dec_of DX8_count 26 rfl) rfl ?_
  refine v_get fX8_24 (dec_of DX8_count 27 rfl) rfl rfl ?_
  refine v_get fX8_86 (dec_of DX8_count 28 rfl) rfl rfl ?_
  refine v_V0r (c7_size) lX8_48 (dec_of DX8_count 29 rfl) rfl rfl (by decide) (nle rfl) rfl ?_
  exact vi_ret (dec_of DX8_count 30 rfl) rfl ⟨by decide, by decide⟩ (⟨rfl, rfl⟩)
set_option maxRecDepth 100000 in
set_option maxHeartbeats 4000000 in
theorem x_count6 {T : XW} {I N : Nat → Int} {F : Nat → Int → Int} (hF : FR F) (hI : IR I) (hN : NR N)  : Sd (rm 2 45 0 0) mX8_count [.ref 0, J 6] (cls I N F ++ T) (cls I N F ++ T) (some (J (I 1))) := by
  unfold Sd
  unfold NR at hN
  refine sp_of (ls := [some (.ref 0), some (J 6)]) (by decide) (nle rfl) rfl rfl ?_
  refine v_iload_n (dec_of DX8_count 0 rfl) rfl ?_
  refine vi_tabIn (tgt := 115) (dec_of DX8_count 1 rfl) (by decide) (by decide) (by decide) rfl (by decide) ?_
  refine v_aload_n (dec_of DX8_count 31 rfl) rfl ?_
  refine v_get fX8_24 (dec_of DX8_count 32 rfl) rfl rfl ?_
  refine v_get fX8_156 (dec_of DX8_count 33 rfl) rfl rfl ?_
  exact vi_ret (dec_of DX8_count 34 rfl) rfl ⟨by decide, by decide⟩ (⟨rfl, rfl⟩)
set_option maxRecDepth 100000 in
set_option maxHeartbeats 4000000 in
theorem x_count7 {T : XW} {I N : Nat → Int} {F : Nat → Int → Int} (hF : FR F) (hI : IR I) (hN : NR N)  : Sd (rm 2 45 0 0) mX8_count [.ref 0, J 7] (cls I N F ++ T) (cls I N F ++ T) (some (J (N 0))) := by
  unfold Sd
  unfold NR at hN
  refine sp_of (ls := [some (.ref 0), some (J 7)]) (by decide) (nle rfl) rfl rfl ?_
  refine v_iload_n (dec_of DX8_count 0 rfl) rfl ?_
  refine vi_tabIn (tgt := 123) (dec_of DX8_count 1 rfl) (by decide) (by decide) (by decide) rfl (by decide) ?_
  refine v_aload_n (dec_of DX8_count 35 rfl) rfl ?_
  refine v_get fX8_14 (dec_of DX8_count 36 rfl) rfl rfl ?_
  refine v_V0r (c0_size) lX8_48 (dec_of DX8_count 37 rfl) rfl rfl (by decide) (nle rfl) rfl ?_
  exact vi_ret (dec_of DX8_count 38 rfl) rfl ⟨by decide, by decide⟩ (⟨rfl, rfl⟩)
set_option maxRecDepth 100000 in
set_option maxHeartbeats 4000000 in
theorem x_count8 {T : XW} {I N : Nat → Int} {F : Nat → Int → Int} (hF : FR F) (hI : IR I) (hN : NR N)  : Sd (rm 2 45 0 0) mX8_count [.ref 0, J 8] (cls I N F ++ T) (cls I N F ++ T) (some (J (cnt0 (swn F) (N 3).toNat))) := by
  unfold Sd
  unfold NR at hN
  refine sp_of (ls := [some (.ref 0), some (J 8)]) (by decide) (nle rfl) rfl rfl ?_
  refine v_iload_n (dec_of DX8_count 0 rfl) rfl ?_
  refine vi_tabIn (tgt := 131) (dec_of DX8_count 1 rfl) (by decide) (by decide) (by decide) rfl (by decide) ?_
  refine v_aload_n (dec_of DX8_count 39 rfl) rfl ?_
  refine v_get fX8_24 (dec_of DX8_count 40 rfl) rfl rfl ?_
  refine v_V0r (k_swn hF hI (by unfold NR; exact hN)) lX8_159 (dec_of DX8_count 41 rfl) rfl rfl (by decide) (nle rfl) rfl ?_
  exact vi_ret (dec_of DX8_count 42 rfl) rfl ⟨by decide, by decide⟩ (⟨rfl, rfl⟩)
set_option maxRecDepth 100000 in
set_option maxHeartbeats 4000000 in
theorem x_count_out {T : XW} {I N : Nat → Int} {F : Nat → Int → Int} (hF : FR F) (hI : IR I) (hN : NR N) {a : Int} (ha : -2147483648 ≤ a ∧ a < 2147483648) (h : ¬ (0 ≤ a ∧ a ≤ 8)) : Sd (rm 2 45 0 0) mX8_count [.ref 0, J a] (cls I N F ++ T) (cls I N F ++ T) (some (J (-102))) := by
  unfold Sd
  unfold NR at hN
  refine sp_of (ls := [some (.ref 0), some (J a)]) (by decide) (nle rfl) rfl rfl ?_
  refine v_iload_n (dec_of DX8_count 0 rfl) rfl ?_
  refine vi_tabOut (tgt := 139) (dec_of DX8_count 1 rfl) (by omega) (by omega) (by decide) ?_
  refine vi_bi (dec_of DX8_count 43 rfl) (by decide) ?_
  exact vi_ret (dec_of DX8_count 44 rfl) rfl ⟨by decide, by decide⟩ (⟨rfl, rfl⟩)
