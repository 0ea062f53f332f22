/-! Fitting.fit's loop, Psalm (printed by wip/tools/gen_c7.py) -/
theorem Vd_w {R : Room} {ex : List (Nat × (Nat → Int32))} {M : MI} {n0 : Nat} {Z : XW → Option Value → Prop} {ca sl pc : Nat} {ls : List (Option Value)} {st : List Value} {w w' : XW} (h : w = w') (k : Vd R ex M n0 Z ca sl pc ls st w') : Vd R ex M n0 Z ca sl pc ls st w := h ▸ k
theorem uN_self {α : Type} {f : Nat → α} {k : Nat} : uN f k (f k) = f := by
  funext j
  unfold uN
  by_cases h : j = k
  · rw [if_pos h, h]
  · rw [if_neg h]
def fitM (I : Nat → Int) (n : Int) : Int := if I 16 = n - 1 then n + 1 else n
def onP (n k : Int) : Int := if k < n then k else n - 1
def byP (I : Nat → Int) (n k : Int) : Int := if k < n - 1 ∨ (k = n - 1 ∧ I 16 = n - 1) then stp I k else cc (I 17) (I 18) 8
def rowsOK (I : Nat → Int) (n m : Int) (g : Int → Int) : Prop := ∀ k : Int, 0 ≤ k → k < m → g (k * 2 + 0) = onP n k ∧ g (k * 2 + 1) = byP I n k
theorem row2_0 {g : Int → Int} {a s v k : Int} : (uI (adf g 2 a s) (a * 2 + 1) v) (k * 2 + 0) = if k = a then s else g (k * 2 + 0) := by
  simp only [adf, clr, uI]
  by_cases h : k = a
  · subst h
    rw [if_pos rfl, if_neg (by omega), if_neg (by omega), if_pos (by omega)]
  · rw [if_neg h, if_neg (by omega), if_neg (by omega), if_neg (by omega)]
theorem row2_1 {g : Int → Int} {a s v k : Int} : (uI (adf g 2 a s) (a * 2 + 1) v) (k * 2 + 1) = if k = a then v else g (k * 2 + 1) := by
  simp only [adf, clr, uI]
  by_cases h : k = a
  · subst h
    rw [if_pos rfl, if_pos rfl]
  · rw [if_neg h, if_neg (by omega), if_neg (by omega), if_neg (by omega)]
theorem rows_add {I : Nat → Int} {n m s v : Int} {g : Int → Int} (h : rowsOK I n m g) (hs : s = onP n m) (hv : v = byP I n m) : rowsOK I n (m + 1) (uI (adf g 2 m s) (m * 2 + 1) v) := by
  intro k h0 h1
  rw [row2_0, row2_1]
  by_cases hk : k = m
  · subst hk
    rw [if_pos rfl, if_pos rfl]
    exact ⟨hs, hv⟩
  · rw [if_neg hk, if_neg hk]
    exact h k h0 (by omega)
theorem NR12 {N : Nat → Int} (h : NR N) {a : Int} (ha : 0 ≤ a ∧ a ≤ 41) : NR (uN N 12 a) := by
  unfold NR at *
  simp (disch := decide) only [uN_s, uN_n]
  omega
set_option maxRecDepth 100000 in
set_option maxHeartbeats 4000000 in
theorem k_fit_loop10 {T : XW} {I N : Nat → Int} {F : Nat → Int → Int} (hF : FR F) (hI : IR I) (hN : NR N) (hT : 1 ≤ I 17 ∧ I 17 ≤ 8) (hH : 0 ≤ I 18 ∧ I 18 ≤ 1) (h20 : 0 ≤ I 20 ∧ I 20 ≤ 2) (h19 : 0 ≤ I 19 ∧ I 19 ≤ 2) (hf : -200 ≤ frs I ∧ frs I ≤ 200) (h16 : -200 ≤ I 16 ∧ I 16 ≤ 200) {n0 : Nat} {Z : XW → Option Value → Prop} {n tn hh : Int} (hn : 0 < n ∧ n ≤ 40) (hz : ∀ g, (∀ i, -2147483648 ≤ g i ∧ g i < 2147483648) → rowsOK I n (fitM I n) g → Z (cls I (uN N 12 (fitM I n)) (uN F 12 g) ++ T) none) : ∀ (m : Nat) (s a : Int) (g : Int → Int), s + m = n → 0 ≤ s → (∀ i, -2147483648 ≤ g i ∧ g i < 2147483648) → a = (if m = 0 then fitM I n else s) → rowsOK I n a g → Vd (rm 4 88 0 0) [] mX0_fit n0 Z 0 0 58 [some (.ref 28), some (.ref 24), some (J tn), some (J hh), some (J n), some (J s)] [] (cls I (uN N 12 a) (uN F 12 g) ++ T) := by
  intro m
  induction m with
  | zero =>
    intro s a g h1 h2 hg ha hr
    rw [if_pos rfl] at ha
    subst ha
    refine v_iload (dec_of DX0_fit 31 rfl) rfl ?_
    refine v_iload (dec_of DX0_fit 32 rfl) rfl ?_
    refine vi_icmp_ge (tgt := 91) (dec_of DX0_fit 33 rfl) (by decide) (by first | omega | exact bnd_r _ _ | exact hF _ _ | exact hI _ | exact hG _ _ | exact hK _ | (simp [uN] <;> omega)) (by first | omega | exact bnd_r _ _ | exact hF _ _ | exact hI _ | exact hG _ _ | exact hK _ | (simp [uN] <;> omega)) (fun c62 => ?_) (fun c62 => absurd c62 (by omega))
    exact vi_vret (dec_of DX0_fit 47 rfl) rfl ⟨by decide, by decide⟩ (hz g hg hr)
  | succ m ih =>
    intro s a g h1 h2 hg ha hr
    rw [if_neg (by omega)] at ha
    subst ha
    have hF2 := hF.up (t := 12) hg
    have hN2 := NR12 hN (a := a) (by omega)
    by_cases hs : a = n - 1
    · by_cases hl : a = I 16
      · have hM : fitM I n = a + 1 + 1 := by unfold fitM; rw [if_pos (by omega)]; omega
        refine v_iload (dec_of DX0_fit 31 rfl) rfl ?_
        refine v_iload (dec_of DX0_fit 32 rfl) rfl ?_
        refine vi_icmp_ge (tgt := 91) (dec_of DX0_fit 33 rfl) (by decide) (by first | omega | exact bnd_r _ _ | exact hF _ _ | exact hI _ | exact hG _ _ | exact hK _ | (simp [uN] <;> omega)) (by first | omega | exact bnd_r _ _ | exact hF _ _ | exact hI _ | exact hG _ _ | exact hK _ | (simp [uN] <;> omega)) (fun c62 => absurd c62 (by omega)) (fun c62 => ?_)
        refine v_aload_n (dec_of DX0_fit 34 rfl) rfl ?_
        refine v_iload (dec_of DX0_fit 35 rfl) rfl ?_
        refine v_iload (dec_of DX0_fit 36 rfl) rfl ?_
        refine v_iload (dec_of DX0_fit 37 rfl) rfl ?_
        refine vi_const (dec_of DX0_fit 38 rfl) ?_
        refine vi_sub (dec_of DX0_fit 39 rfl) ?_
        refine vi_icmp_ne (tgt := 81) (dec_of DX0_fit 40 rfl) (by decide) (by first | omega | exact bnd_r _ _ | exact hF _ _ | exact hI _ | exact hG _ _ | exact hK _ | (simp [uN] <;> omega)) (by first | omega | exact bnd_r _ _ | exact hF _ _ | exact hI _ | exact hG _ _ | exact hK _ | (simp [uN] <;> omega)) (fun c74 => absurd c74 (by omega)) (fun c74 => ?_)
        refine vi_const (dec_of DX0_fit 41 rfl) ?_
        refine v_goto (tgt := 82) (dec_of DX0_fit 42 rfl) (by decide) ?_
        refine v_V2v (k_sing_two hF2 hI hN2 hT hH (by decide) (by omega) h20 h19 hf h16 (by simp only [uN_s]; omega) hl) lX0_52 (dec_of DX0_fit 44 rfl) rfl rfl (by decide) (nle rfl) rfl ?_
        refine Vd_w (w' := cls I (uN N 12 (a + 1 + 1)) (uN F 12 (uI (adf (uI (adf g 2 a a) (a * 2 + 1) (stp I a)) 2 (a + 1) a) ((a + 1) * 2 + 1) (cc (I 17) (I 18) 8))) ++ T) rfl ?_
        refine vi_inc (dec_of DX0_fit 45 rfl) rfl (by decide) ?_
        dsimp only [List.set]
        refine v_goto (tgt := 58) (dec_of DX0_fit 46 rfl) (by decide) ?_
        refine ih (a + 1) (a + 1 + 1) _ (by omega) (by omega) (uI_r (adf_r (uI_r (adf_r hg (by omega)) (by have := stp_r I a; omega)) (by omega)) (r32c (cc_r _ _ _))) (by rw [if_pos (by omega), hM]) ?_
        exact rows_add (rows_add hr (by unfold onP; omega) (by unfold byP; rw [if_pos (by omega)])) (by unfold onP; omega) (by unfold byP; rw [if_neg (by omega)])
      · have hM : fitM I n = a + 1 := by unfold fitM; rw [if_neg (by omega)]; omega
        refine v_iload (dec_of DX0_fit 31 rfl) rfl ?_
        refine v_iload (dec_of DX0_fit 32 rfl) rfl ?_
        refine vi_icmp_ge (tgt := 91) (dec_of DX0_fit 33 rfl) (by decide) (by first | omega | exact bnd_r _ _ | exact hF _ _ | exact hI _ | exact hG _ _ | exact hK _ | (simp [uN] <;> omega)) (by first | omega | exact bnd_r _ _ | exact hF _ _ | exact hI _ | exact hG _ _ | exact hK _ | (simp [uN] <;> omega)) (fun c62 => absurd c62 (by omega)) (fun c62 => ?_)
        refine v_aload_n (dec_of DX0_fit 34 rfl) rfl ?_
        refine v_iload (dec_of DX0_fit 35 rfl) rfl ?_
        refine v_iload (dec_of DX0_fit 36 rfl) rfl ?_
        refine v_iload (dec_of DX0_fit 37 rfl) rfl ?_
        refine vi_const (dec_of DX0_fit 38 rfl) ?_
        refine vi_sub (dec_of DX0_fit 39 rfl) ?_
        refine vi_icmp_ne (tgt := 81) (dec_of DX0_fit 40 rfl) (by decide) (by first | omega | exact bnd_r _ _ | exact hF _ _ | exact hI _ | exact hG _ _ | exact hK _ | (simp [uN] <;> omega)) (by first | omega | exact bnd_r _ _ | exact hF _ _ | exact hI _ | exact hG _ _ | exact hK _ | (simp [uN] <;> omega)) (fun c74 => absurd c74 (by omega)) (fun c74 => ?_)
        refine vi_const (dec_of DX0_fit 41 rfl) ?_
        refine v_goto (tgt := 82) (dec_of DX0_fit 42 rfl) (by decide) ?_
        refine v_V2v (k_sing_one hF2 hI hN2 hT hH (by decide) (by omega) h20 h19 hf h16 (by simp only [uN_s]; omega) hl) lX0_52 (dec_of DX0_fit 44 rfl) rfl rfl (by decide) (nle rfl) rfl ?_
        refine Vd_w (w' := cls I (uN N 12 (a + 1)) (uN F 12 (uI (adf g 2 a a) (a * 2 + 1) (cc (I 17) (I 18) 8))) ++ T) rfl ?_
        refine vi_inc (dec_of DX0_fit 45 rfl) rfl (by decide) ?_
        dsimp only [List.set]
        refine v_goto (tgt := 58) (dec_of DX0_fit 46 rfl) (by decide) ?_
        refine ih (a + 1) (a + 1) _ (by omega) (by omega) (uI_r (adf_r hg (by omega)) (r32c (cc_r _ _ _))) (by rw [if_pos (by omega), hM]) ?_
        exact rows_add hr (by unfold onP; omega) (by unfold byP; rw [if_neg (by omega)])
    · skip
      refine v_iload (dec_of DX0_fit 31 rfl) rfl ?_
      refine v_iload (dec_of DX0_fit 32 rfl) rfl ?_
      refine vi_icmp_ge (tgt := 91) (dec_of DX0_fit 33 rfl) (by decide) (by first | omega | exact bnd_r _ _ | exact hF _ _ | exact hI _ | exact hG _ _ | exact hK _ | (simp [uN] <;> omega)) (by first | omega | exact bnd_r _ _ | exact hF _ _ | exact hI _ | exact hG _ _ | exact hK _ | (simp [uN] <;> omega)) (fun c62 => absurd c62 (by omega)) (fun c62 => ?_)
      refine v_aload_n (dec_of DX0_fit 34 rfl) rfl ?_
      refine v_iload (dec_of DX0_fit 35 rfl) rfl ?_
      refine v_iload (dec_of DX0_fit 36 rfl) rfl ?_
      refine v_iload (dec_of DX0_fit 37 rfl) rfl ?_
      refine vi_const (dec_of DX0_fit 38 rfl) ?_
      refine vi_sub (dec_of DX0_fit 39 rfl) ?_
      refine vi_icmp_ne (tgt := 81) (dec_of DX0_fit 40 rfl) (by decide) (by first | omega | exact bnd_r _ _ | exact hF _ _ | exact hI _ | exact hG _ _ | exact hK _ | (simp [uN] <;> omega)) (by first | omega | exact bnd_r _ _ | exact hF _ _ | exact hI _ | exact hG _ _ | exact hK _ | (simp [uN] <;> omega)) (fun c74 => ?_) (fun c74 => absurd c74 (by omega))
      refine vi_const (dec_of DX0_fit 43 rfl) ?_
      refine v_V2v (k_sing_mid hF2 hI hN2 hT hH (by decide) (by omega) h20 h19 hf h16 (by simp only [uN_s]; omega)) lX0_52 (dec_of DX0_fit 44 rfl) rfl rfl (by decide) (nle rfl) rfl ?_
      refine Vd_w (w' := cls I (uN N 12 (a + 1)) (uN F 12 (uI (adf g 2 a a) (a * 2 + 1) (stp I a))) ++ T) rfl ?_
      refine vi_inc (dec_of DX0_fit 45 rfl) rfl (by decide) ?_
      dsimp only [List.set]
      refine v_goto (tgt := 58) (dec_of DX0_fit 46 rfl) (by decide) ?_
      refine ih (a + 1) (a + 1) _ (by omega) (by omega) (uI_r (adf_r hg (by omega)) (by have := stp_r I a; omega)) (by rw [if_neg (by omega)]) ?_
      exact rows_add hr (by unfold onP; omega) (by unfold byP; rw [if_pos (by omega)])
set_option maxRecDepth 100000 in
set_option maxHeartbeats 4000000 in
theorem k_fit_loop11 {T : XW} {I N : Nat → Int} {F : Nat → Int → Int} (hF : FR F) (hI : IR I) (hN : NR N) (hT : 1 ≤ I 17 ∧ I 17 ≤ 8) (hH : 0 ≤ I 18 ∧ I 18 ≤ 1) (h20 : 0 ≤ I 20 ∧ I 20 ≤ 2) (h19 : 0 ≤ I 19 ∧ I 19 ≤ 2) (hf : -200 ≤ frs I ∧ frs I ≤ 200) (h16 : -200 ≤ I 16 ∧ I 16 ≤ 200) {n0 : Nat} {Z : XW → Option Value → Prop} {n tn hh : Int} (hn : 0 < n ∧ n ≤ 40) (hz : ∀ g, (∀ i, -2147483648 ≤ g i ∧ g i < 2147483648) → rowsOK I n (fitM I n) g → Z (cls I (uN N 12 (fitM I n)) (uN F 12 g) ++ T) none) : ∀ (m : Nat) (s a : Int) (g : Int → Int), s + m = n → 0 ≤ s → (∀ i, -2147483648 ≤ g i ∧ g i < 2147483648) → a = (if m = 0 then fitM I n else s) → rowsOK I n a g → Vd (rm 4 88 0 0) [] mX0_fit n0 Z 0 0 58 [some (.ref 28), some (.ref 26), some (J tn), some (J hh), some (J n), some (J s)] [] (cls I (uN N 12 a) (uN F 12 g) ++ T) := by
  intro m
  induction m with
  | zero =>
    intro s a g h1 h2 hg ha hr
    rw [if_pos rfl] at ha
    subst ha
    refine v_iload (dec_of DX0_fit 31 rfl) rfl ?_
    refine v_iload (dec_of DX0_fit 32 rfl) rfl ?_
    refine vi_icmp_ge (tgt := 91) (dec_of DX0_fit 33 rfl) (by decide) (by first | omega | exact bnd_r _ _ | exact hF _ _ | exact hI _ | exact hG _ _ | exact hK _ | (simp [uN] <;> omega)) (by first | omega | exact bnd_r _ _ | exact hF _ _ | exact hI _ | exact hG _ _ | exact hK _ | (simp [uN] <;> omega)) (fun c62 => ?_) (fun c62 => absurd c62 (by omega))
    exact vi_vret (dec_of DX0_fit 47 rfl) rfl ⟨by decide, by decide⟩ (hz g hg hr)
  | succ m ih =>
    intro s a g h1 h2 hg ha hr
    rw [if_neg (by omega)] at ha
    subst ha
    have hF2 := hF.up (t := 12) hg
    have hN2 := NR12 hN (a := a) (by omega)
    by_cases hs : a = n - 1
    · by_cases hl : a = I 16
      · have hM : fitM I n = a + 1 + 1 := by unfold fitM; rw [if_pos (by omega)]; omega
        refine v_iload (dec_of DX0_fit 31 rfl) rfl ?_
        refine v_iload (dec_of DX0_fit 32 rfl) rfl ?_
        refine vi_icmp_ge (tgt := 91) (dec_of DX0_fit 33 rfl) (by decide) (by first | omega | exact bnd_r _ _ | exact hF _ _ | exact hI _ | exact hG _ _ | exact hK _ | (simp [uN] <;> omega)) (by first | omega | exact bnd_r _ _ | exact hF _ _ | exact hI _ | exact hG _ _ | exact hK _ | (simp [uN] <;> omega)) (fun c62 => absurd c62 (by omega)) (fun c62 => ?_)
        refine v_aload_n (dec_of DX0_fit 34 rfl) rfl ?_
        refine v_iload (dec_of DX0_fit 35 rfl) rfl ?_
        refine v_iload (dec_of DX0_fit 36 rfl) rfl ?_
        refine v_iload (dec_of DX0_fit 37 rfl) rfl ?_
        refine vi_const (dec_of DX0_fit 38 rfl) ?_
        refine vi_sub (dec_of DX0_fit 39 rfl) ?_
        refine vi_icmp_ne (tgt := 81) (dec_of DX0_fit 40 rfl) (by decide) (by first | omega | exact bnd_r _ _ | exact hF _ _ | exact hI _ | exact hG _ _ | exact hK _ | (simp [uN] <;> omega)) (by first | omega | exact bnd_r _ _ | exact hF _ _ | exact hI _ | exact hG _ _ | exact hK _ | (simp [uN] <;> omega)) (fun c74 => absurd c74 (by omega)) (fun c74 => ?_)
        refine vi_const (dec_of DX0_fit 41 rfl) ?_
        refine v_goto (tgt := 82) (dec_of DX0_fit 42 rfl) (by decide) ?_
        refine v_V2v (k_sing_two hF2 hI hN2 hT hH (by decide) (by omega) h20 h19 hf h16 (by simp only [uN_s]; omega) hl) lX0_52 (dec_of DX0_fit 44 rfl) rfl rfl (by decide) (nle rfl) rfl ?_
        refine Vd_w (w' := cls I (uN N 12 (a + 1 + 1)) (uN F 12 (uI (adf (uI (adf g 2 a a) (a * 2 + 1) (stp I a)) 2 (a + 1) a) ((a + 1) * 2 + 1) (cc (I 17) (I 18) 8))) ++ T) rfl ?_
        refine vi_inc (dec_of DX0_fit 45 rfl) rfl (by decide) ?_
        dsimp only [List.set]
        refine v_goto (tgt := 58) (dec_of DX0_fit 46 rfl) (by decide) ?_
        refine ih (a + 1) (a + 1 + 1) _ (by omega) (by omega) (uI_r (adf_r (uI_r (adf_r hg (by omega)) (by have := stp_r I a; omega)) (by omega)) (r32c (cc_r _ _ _))) (by rw [if_pos (by omega), hM]) ?_
        exact rows_add (rows_add hr (by unfold onP; omega) (by unfold byP; rw [if_pos (by omega)])) (by unfold onP; omega) (by unfold byP; rw [if_neg (by omega)])
      · have hM : fitM I n = a + 1 := by unfold fitM; rw [if_neg (by omega)]; omega
        refine v_iload (dec_of DX0_fit 31 rfl) rfl ?_
        refine v_iload (dec_of DX0_fit 32 rfl) rfl ?_
        refine vi_icmp_ge (tgt := 91) (dec_of DX0_fit 33 rfl) (by decide) (by first | omega | exact bnd_r _ _ | exact hF _ _ | exact hI _ | exact hG _ _ | exact hK _ | (simp [uN] <;> omega)) (by first | omega | exact bnd_r _ _ | exact hF _ _ | exact hI _ | exact hG _ _ | exact hK _ | (simp [uN] <;> omega)) (fun c62 => absurd c62 (by omega)) (fun c62 => ?_)
        refine v_aload_n (dec_of DX0_fit 34 rfl) rfl ?_
        refine v_iload (dec_of DX0_fit 35 rfl) rfl ?_
        refine v_iload (dec_of DX0_fit 36 rfl) rfl ?_
        refine v_iload (dec_of DX0_fit 37 rfl) rfl ?_
        refine vi_const (dec_of DX0_fit 38 rfl) ?_
        refine vi_sub (dec_of DX0_fit 39 rfl) ?_
        refine vi_icmp_ne (tgt := 81) (dec_of DX0_fit 40 rfl) (by decide) (by first | omega | exact bnd_r _ _ | exact hF _ _ | exact hI _ | exact hG _ _ | exact hK _ | (simp [uN] <;> omega)) (by first | omega | exact bnd_r _ _ | exact hF _ _ | exact hI _ | exact hG _ _ | exact hK _ | (simp [uN] <;> omega)) (fun c74 => absurd c74 (by omega)) (fun c74 => ?_)
        refine vi_const (dec_of DX0_fit 41 rfl) ?_
        refine v_goto (tgt := 82) (dec_of DX0_fit 42 rfl) (by decide) ?_
        refine v_V2v (k_sing_one hF2 hI hN2 hT hH (by decide) (by omega) h20 h19 hf h16 (by simp only [uN_s]; omega) hl) lX0_52 (dec_of DX0_fit 44 rfl) rfl rfl (by decide) (nle rfl) rfl ?_
        refine Vd_w (w' := cls I (uN N 12 (a + 1)) (uN F 12 (uI (adf g 2 a a) (a * 2 + 1) (cc (I 17) (I 18) 8))) ++ T) rfl ?_
        refine vi_inc (dec_of DX0_fit 45 rfl) rfl (by decide) ?_
        dsimp only [List.set]
        refine v_goto (tgt := 58) (dec_of DX0_fit 46 rfl) (by decide) ?_
        refine ih (a + 1) (a + 1) _ (by omega) (by omega) (uI_r (adf_r hg (by omega)) (r32c (cc_r _ _ _))) (by rw [if_pos (by omega), hM]) ?_
        exact rows_add hr (by unfold onP; omega) (by unfold byP; rw [if_neg (by omega)])
    · skip
      refine v_iload (dec_of DX0_fit 31 rfl) rfl ?_
      refine v_iload (dec_of DX0_fit 32 rfl) rfl ?_
      refine vi_icmp_ge (tgt := 91) (dec_of DX0_fit 33 rfl) (by decide) (by first | omega | exact bnd_r _ _ | exact hF _ _ | exact hI _ | exact hG _ _ | exact hK _ | (simp [uN] <;> omega)) (by first | omega | exact bnd_r _ _ | exact hF _ _ | exact hI _ | exact hG _ _ | exact hK _ | (simp [uN] <;> omega)) (fun c62 => absurd c62 (by omega)) (fun c62 => ?_)
      refine v_aload_n (dec_of DX0_fit 34 rfl) rfl ?_
      refine v_iload (dec_of DX0_fit 35 rfl) rfl ?_
      refine v_iload (dec_of DX0_fit 36 rfl) rfl ?_
      refine v_iload (dec_of DX0_fit 37 rfl) rfl ?_
      refine vi_const (dec_of DX0_fit 38 rfl) ?_
      refine vi_sub (dec_of DX0_fit 39 rfl) ?_
      refine vi_icmp_ne (tgt := 81) (dec_of DX0_fit 40 rfl) (by decide) (by first | omega | exact bnd_r _ _ | exact hF _ _ | exact hI _ | exact hG _ _ | exact hK _ | (simp [uN] <;> omega)) (by first | omega | exact bnd_r _ _ | exact hF _ _ | exact hI _ | exact hG _ _ | exact hK _ | (simp [uN] <;> omega)) (fun c74 => ?_) (fun c74 => absurd c74 (by omega))
      refine vi_const (dec_of DX0_fit 43 rfl) ?_
      refine v_V2v (k_sing_mid hF2 hI hN2 hT hH (by decide) (by omega) h20 h19 hf h16 (by simp only [uN_s]; omega)) lX0_52 (dec_of DX0_fit 44 rfl) rfl rfl (by decide) (nle rfl) rfl ?_
      refine Vd_w (w' := cls I (uN N 12 (a + 1)) (uN F 12 (uI (adf g 2 a a) (a * 2 + 1) (stp I a))) ++ T) rfl ?_
      refine vi_inc (dec_of DX0_fit 45 rfl) rfl (by decide) ?_
      dsimp only [List.set]
      refine v_goto (tgt := 58) (dec_of DX0_fit 46 rfl) (by decide) ?_
      refine ih (a + 1) (a + 1) _ (by omega) (by omega) (uI_r (adf_r hg (by omega)) (by have := stp_r I a; omega)) (by rw [if_neg (by omega)]) ?_
      exact rows_add hr (by unfold onP; omega) (by unfold byP; rw [if_pos (by omega)])
/-- behind chooseForm -/
def chI (I : Nat → Int) : Nat → Int := fun k => if shr I then uN (uN (uN (uN I 14 1) 15 (-100)) 19 0) 20 0 k else uN (uN (uN I 14 0) 19 (opn (I 18))) 20 (cc (I 17) (I 18) 0) k
theorem chI_s {I : Nat → Int} (h : shr I) : chI I = uN (uN (uN (uN I 14 1) 15 (-100)) 19 0) 20 0 := by funext k; unfold chI; rw [if_pos h]
theorem chI_l {I : Nat → Int} (h : ¬ shr I) : chI I = uN (uN (uN I 14 0) 19 (opn (I 18))) 20 (cc (I 17) (I 18) 0) := by funext k; unfold chI; rw [if_neg h]
theorem opn_r (h : Int) : 0 ≤ opn h ∧ opn h ≤ 2 := by unfold opn; omega
/-- behind placeAccents -/
def plI (I : Nat → Int) (f : Int → Int) (n : Int) : Nat → Int := if cc (I 17) (I 18) 3 = 2 then uN (uN I 16 (lastP f n)) 15 (firstP f (lastP f n)) else uN I 16 (lastP f n)
theorem lastP_r {f : Int → Int} {n : Int} (hn : 0 < n) : 0 ≤ lastP f n ∧ lastP f n < n := by
  have := accB_r f n.toNat
  unfold lastP
  omega
theorem firstP_r {f : Int → Int} {l : Int} (hl : 0 ≤ l) : firstP f l = -100 ∨ (0 ≤ firstP f l ∧ firstP f l < l) := by
  have := accB_r f l.toNat
  unfold firstP
  omega
def ft0 (I : Nat → Int) (tn hh : Int) : Nat → Int := uN (uN (uN (uN (uN I 17 tn) 18 hh) 14 1) 15 (-100)) 16 (-100)
def fitI (I : Nat → Int) (f : Int → Int) (n tn hh : Int) : Nat → Int := fun k => if 0 < n then chI (plI (ft0 I tn hh) f n) k else ft0 I tn hh k
theorem plI_e {I : Nat → Int} {f : Int → Int} {n : Int} {k : Nat} (h15 : k ≠ 15) (h16 : k ≠ 16) : plI I f n k = I k := by
  unfold plI
  split
  · rw [uN_n h15, uN_n h16]
  · rw [uN_n h16]
theorem plI_16 {I : Nat → Int} {f : Int → Int} {n : Int} : plI I f n 16 = lastP f n := by
  unfold plI
  split
  · rw [uN_n (by decide), uN_s]
  · rw [uN_s]
theorem plI_15 {I : Nat → Int} {f : Int → Int} {n : Int} : plI I f n 15 = if cc (I 17) (I 18) 3 = 2 then firstP f (lastP f n) else I 15 := by
  unfold plI
  split
  · rw [uN_s]
  · rw [uN_n (by decide)]
set_option maxRecDepth 100000 in
set_option maxHeartbeats 4000000 in
theorem k_fit_t10 {T : XW} {I N : Nat → Int} {F : Nat → Int → Int} (hF : FR F) (hI : IR I) (hN : NR N) {n0 : Nat} {Z : XW → Option Value → Prop} (hT : 1 ≤ I 17 ∧ I 17 ≤ 8) (hH : 0 ≤ I 18 ∧ I 18 ≤ 1) {n tn hh : Int} (hn : 0 < n ∧ n ≤ 40) (h16 : 0 ≤ I 16 ∧ I 16 ≤ 40) (h15 : I 15 = -100 ∨ (0 ≤ I 15 ∧ I 15 ≤ 40)) (h12 : N 12 = 0) (hz : ∀ g, (∀ i, -2147483648 ≤ g i ∧ g i < 2147483648) → rowsOK (chI I) n (fitM (chI I) n) g → Z (cls (chI I) (uN N 12 (fitM (chI I) n)) (uN F 12 g) ++ T) none) : Vd (rm 4 88 0 0) [] mX0_fit n0 Z 0 0 51 [some (.ref 28), some (.ref 24), some (J tn), some (J hh), some (J n), none] [] (cls I N F ++ T) := by
  unfold NR at hN
  have hc0 := cc0 hT hH
  have ho := opn_r (I 18)
  by_cases hs : shr I
  · rw [chI_s hs] at hz
    refine v_aload_n (dec_of DX0_fit 27 rfl) rfl ?_
    refine v_V0v (k_choose_short hF hI (by unfold NR; exact hN) hT hH hs) lX0_49 (dec_of DX0_fit 28 rfl) rfl rfl (by decide) (nle rfl) rfl ?_
    refine vi_const (dec_of DX0_fit 29 rfl) ?_
    refine v_istore (dec_of DX0_fit 30 rfl) (by decide) ?_
    dsimp only [List.set]
    have e12 : uN N 12 0 = N := by have h9 := uN_self (f := N) (k := 12); rw [h12] at h9; exact h9
    refine Vd_w (w' := cls (uN (uN (uN (uN I 14 1) 15 (-100)) 19 0) 20 0) (uN N 12 0) (uN F 12 (F 12)) ++ T) (by rw [e12, uN_self]) ?_
    exact k_fit_loop10 (I := uN (uN (uN (uN I 14 1) 15 (-100)) 19 0) 20 0) hF ((((hI.up (by omega)).up (by omega)).up (by omega)).up (by omega)) (by unfold NR; exact hN) hT hH (by simp (disch := decide) only [uN_s, uN_n]; omega) (by simp (disch := decide) only [uN_s, uN_n]; omega) (by unfold frs; simp (disch := decide) only [uN_s, uN_n]; omega) (by simp (disch := decide) only [uN_s, uN_n]; omega) hn hz n.toNat 0 0 (F 12) (by omega) (by omega) (hF 12) (by rw [if_neg (by omega)]) (fun k h0 h1 => absurd h1 (by omega))
  · rw [chI_l hs] at hz
    refine v_aload_n (dec_of DX0_fit 27 rfl) rfl ?_
    refine v_V0v (k_choose_long hF hI (by unfold NR; exact hN) hT hH hs) lX0_49 (dec_of DX0_fit 28 rfl) rfl rfl (by decide) (nle rfl) rfl ?_
    refine vi_const (dec_of DX0_fit 29 rfl) ?_
    refine v_istore (dec_of DX0_fit 30 rfl) (by decide) ?_
    dsimp only [List.set]
    have e12 : uN N 12 0 = N := by have h9 := uN_self (f := N) (k := 12); rw [h12] at h9; exact h9
    refine Vd_w (w' := cls (uN (uN (uN I 14 0) 19 (opn (I 18))) 20 (cc (I 17) (I 18) 0)) (uN N 12 0) (uN F 12 (F 12)) ++ T) (by rw [e12, uN_self]) ?_
    exact k_fit_loop10 (I := uN (uN (uN I 14 0) 19 (opn (I 18))) 20 (cc (I 17) (I 18) 0)) hF (((hI.up (by omega)).up (by omega)).up (by omega)) (by unfold NR; exact hN) hT hH (by simp (disch := decide) only [uN_s, uN_n]; omega) (by simp (disch := decide) only [uN_s, uN_n]; omega) (by unfold frs; simp (disch := decide) only [uN_s, uN_n]; omega) (by simp (disch := decide) only [uN_s, uN_n]; omega) hn hz n.toNat 0 0 (F 12) (by omega) (by omega) (hF 12) (by rw [if_neg (by omega)]) (fun k h0 h1 => absurd h1 (by omega))
set_option maxRecDepth 100000 in
set_option maxHeartbeats 4000000 in
theorem k_fit10 {T : XW} {I N : Nat → Int} {F : Nat → Int → Int} (hF : FR F) (hI : IR I) (hN : NR N) {tn hh : Int} (ht : 1 ≤ tn ∧ tn ≤ 8) (hh1 : 0 ≤ hh ∧ hh ≤ 1) : Sp (rm 4 88 0 0) mX0_fit [.ref 28, .ref 24, J tn, J hh] (cls I N F ++ T) (fun w r => r = none ∧ ∃ (m : Int) (g : Int → Int), m = (if 0 < N 10 then fitM (fitI I (F 10) (N 10) tn hh) (N 10) else 0) ∧ w = cls (fitI I (F 10) (N 10) tn hh) (uN N 12 m) (uN F 12 g) ++ T ∧ (rowsOK (fitI I (F 10) (N 10) tn hh) (N 10) m g ∧ (∀ i, -2147483648 ≤ g i ∧ g i < 2147483648))) := by
  unfold NR at hN
  refine sp_of (ls := [some (.ref 28), some (.ref 24), some (J tn), some (J hh), none, none]) (by decide) (nle rfl) rfl rfl ?_
  have hI0 : IR (ft0 I tn hh) := (((((hI.up (by omega)).up (by omega)).up (by omega)).up (by omega)).up (by omega))
  have hN0 : NR (uN N 12 0) := NR12 (by unfold NR; exact hN) (by omega)
  by_cases hn : 0 < N 10
  · have eI : fitI I (F 10) (N 10) tn hh = chI (plI (ft0 I tn hh) (F 10) (N 10)) := by funext k; unfold fitI; rw [if_pos hn]
    have hL := lastP_r (f := F 10) hn
    have hFp := firstP_r (f := F 10) (l := lastP (F 10) (N 10)) hL.1
    rw [eI, if_pos hn]
    have hI1 : IR (plI (ft0 I tn hh) (F 10) (N 10)) := by unfold plI; split; exact ((hI0.up (by omega)).up (by omega)); exact hI0.up (by omega)
    refine v_aload_n (dec_of DX0_fit 0 rfl) rfl ?_
    refine v_iload_n (dec_of DX0_fit 1 rfl) rfl ?_
    refine cp_17 fX0_20 (dec_of DX0_fit 2 rfl) ?_
    refine v_aload_n (dec_of DX0_fit 3 rfl) rfl ?_
    refine v_iload_n (dec_of DX0_fit 4 rfl) rfl ?_
    refine cp_18 fX0_24 (dec_of DX0_fit 5 rfl) ?_
    refine v_aload_n (dec_of DX0_fit 6 rfl) rfl ?_
    refine v_get fX0_14 (dec_of DX0_fit 7 rfl) rfl rfl ?_
    try simp (disch := decide) only [uN_s, uN_n]
    refine vi_const (dec_of DX0_fit 8 rfl) ?_
    refine v_V1v (c12_keep (by first | omega | (simp (disch := decide) only [uN_s, uN_n]; omega)) (by first | omega | (simp (disch := decide) only [uN_s, uN_n]; omega))) lX0_27 (dec_of DX0_fit 9 rfl) rfl rfl (by decide) (nle rfl) rfl ?_
    try simp (disch := decide) only [uN_s, uN_n]
    refine v_aload_n (dec_of DX0_fit 10 rfl) rfl ?_
    refine vi_const (dec_of DX0_fit 11 rfl) ?_
    refine cp_14 fX0_31 (dec_of DX0_fit 12 rfl) (by omega) ?_
    refine v_aload_n (dec_of DX0_fit 13 rfl) rfl ?_
    refine vi_bi (dec_of DX0_fit 14 rfl) (by decide) ?_
    refine cp_15 fX0_35 (dec_of DX0_fit 15 rfl) ?_
    refine v_aload_n (dec_of DX0_fit 16 rfl) rfl ?_
    refine vi_bi (dec_of DX0_fit 17 rfl) (by decide) ?_
    refine cp_16 fX0_38 (dec_of DX0_fit 18 rfl) ?_
    refine v_aload_n (dec_of DX0_fit 19 rfl) rfl ?_
    refine v_V0r (c10_size) lX0_41 (dec_of DX0_fit 20 rfl) rfl rfl (by decide) (nle rfl) rfl ?_
    try simp (disch := decide) only [uN_s, uN_n]
    refine v_istore (dec_of DX0_fit 21 rfl) (by decide) ?_
    dsimp only [List.set]
    refine v_iload (dec_of DX0_fit 22 rfl) rfl ?_
    refine vi_if_le (tgt := 91) (dec_of DX0_fit 23 rfl) (by decide) (by first | omega | (simp (disch := decide) only [uN_s, uN_n]; omega)) (fun c43 => absurd c43 (by omega)) (fun c43 => ?_)
    refine v_aload_n (dec_of DX0_fit 24 rfl) rfl ?_
    refine v_aload_n (dec_of DX0_fit 25 rfl) rfl ?_
    refine Vd_w (w' := cls (ft0 I tn hh) (uN N 12 0) F ++ T) rfl ?_
    refine v_V1v (k_place10 hF hI0 hN0 (by simp (disch := decide) only [ft0, uN_s, uN_n]; omega) (by simp (disch := decide) only [ft0, uN_s, uN_n]; omega) (by simp (disch := decide) only [uN_n]; omega)) lX0_45 (dec_of DX0_fit 26 rfl) rfl rfl (by decide) (nle rfl) rfl ?_
    try simp (disch := decide) only [uN_s, uN_n]
    refine Vd_w (w' := cls (plI (ft0 I tn hh) (F 10) (N 10)) (uN N 12 0) F ++ T) rfl ?_
    exact k_fit_t10 hF hI1 hN0 (by rw [plI_e (by decide) (by decide)]; simp (disch := decide) only [ft0, uN_s, uN_n]; omega) (by rw [plI_e (by decide) (by decide)]; simp (disch := decide) only [ft0, uN_s, uN_n]; omega) (by omega) (by rw [plI_16]; omega) (by rw [plI_15]; simp (disch := decide) only [ft0, uN_s, uN_n]; split <;> omega) (by rw [uN_s]) (fun g hgr hg => ⟨rfl, _, g, rfl, by rw [uN_uu], hg, hgr⟩)
  · have eI : fitI I (F 10) (N 10) tn hh = ft0 I tn hh := by funext k; unfold fitI; rw [if_neg hn]
    rw [eI, if_neg hn]
    refine v_aload_n (dec_of DX0_fit 0 rfl) rfl ?_
    refine v_iload_n (dec_of DX0_fit 1 rfl) rfl ?_
    refine cp_17 fX0_20 (dec_of DX0_fit 2 rfl) ?_
    refine v_aload_n (dec_of DX0_fit 3 rfl) rfl ?_
    refine v_iload_n (dec_of DX0_fit 4 rfl) rfl ?_
    refine cp_18 fX0_24 (dec_of DX0_fit 5 rfl) ?_
    refine v_aload_n (dec_of DX0_fit 6 rfl) rfl ?_
    refine v_get fX0_14 (dec_of DX0_fit 7 rfl) rfl rfl ?_
    try simp (disch := decide) only [uN_s, uN_n]
    refine vi_const (dec_of DX0_fit 8 rfl) ?_
    refine v_V1v (c12_keep (by first | omega | (simp (disch := decide) only [uN_s, uN_n]; omega)) (by first | omega | (simp (disch := decide) only [uN_s, uN_n]; omega))) lX0_27 (dec_of DX0_fit 9 rfl) rfl rfl (by decide) (nle rfl) rfl ?_
    try simp (disch := decide) only [uN_s, uN_n]
    refine v_aload_n (dec_of DX0_fit 10 rfl) rfl ?_
    refine vi_const (dec_of DX0_fit 11 rfl) ?_
    refine cp_14 fX0_31 (dec_of DX0_fit 12 rfl) (by omega) ?_
    refine v_aload_n (dec_of DX0_fit 13 rfl) rfl ?_
    refine vi_bi (dec_of DX0_fit 14 rfl) (by decide) ?_
    refine cp_15 fX0_35 (dec_of DX0_fit 15 rfl) ?_
    refine v_aload_n (dec_of DX0_fit 16 rfl) rfl ?_
    refine vi_bi (dec_of DX0_fit 17 rfl) (by decide) ?_
    refine cp_16 fX0_38 (dec_of DX0_fit 18 rfl) ?_
    refine v_aload_n (dec_of DX0_fit 19 rfl) rfl ?_
    refine v_V0r (c10_size) lX0_41 (dec_of DX0_fit 20 rfl) rfl rfl (by decide) (nle rfl) rfl ?_
    try simp (disch := decide) only [uN_s, uN_n]
    refine v_istore (dec_of DX0_fit 21 rfl) (by decide) ?_
    dsimp only [List.set]
    refine v_iload (dec_of DX0_fit 22 rfl) rfl ?_
    refine vi_if_le (tgt := 91) (dec_of DX0_fit 23 rfl) (by decide) (by first | omega | (simp (disch := decide) only [uN_s, uN_n]; omega)) (fun c43 => ?_) (fun c43 => absurd c43 (by omega))
    exact vi_vret (dec_of DX0_fit 47 rfl) rfl ⟨by decide, by decide⟩ (⟨rfl, 0, F 12, rfl, rfl, fun k h0 h1 => absurd h1 (by omega), hF 12⟩)
set_option maxRecDepth 100000 in
set_option maxHeartbeats 4000000 in
theorem k_fit_t11 {T : XW} {I N : Nat → Int} {F : Nat → Int → Int} (hF : FR F) (hI : IR I) (hN : NR N) {n0 : Nat} {Z : XW → Option Value → Prop} (hT : 1 ≤ I 17 ∧ I 17 ≤ 8) (hH : 0 ≤ I 18 ∧ I 18 ≤ 1) {n tn hh : Int} (hn : 0 < n ∧ n ≤ 40) (h16 : 0 ≤ I 16 ∧ I 16 ≤ 40) (h15 : I 15 = -100 ∨ (0 ≤ I 15 ∧ I 15 ≤ 40)) (h12 : N 12 = 0) (hz : ∀ g, (∀ i, -2147483648 ≤ g i ∧ g i < 2147483648) → rowsOK (chI I) n (fitM (chI I) n) g → Z (cls (chI I) (uN N 12 (fitM (chI I) n)) (uN F 12 g) ++ T) none) : Vd (rm 4 88 0 0) [] mX0_fit n0 Z 0 0 51 [some (.ref 28), some (.ref 26), some (J tn), some (J hh), some (J n), none] [] (cls I N F ++ T) := by
  unfold NR at hN
  have hc0 := cc0 hT hH
  have ho := opn_r (I 18)
  by_cases hs : shr I
  · rw [chI_s hs] at hz
    refine v_aload_n (dec_of DX0_fit 27 rfl) rfl ?_
    refine v_V0v (k_choose_short hF hI (by unfold NR; exact hN) hT hH hs) lX0_49 (dec_of DX0_fit 28 rfl) rfl rfl (by decide) (nle rfl) rfl ?_
    refine vi_const (dec_of DX0_fit 29 rfl) ?_
    refine v_istore (dec_of DX0_fit 30 rfl) (by decide) ?_
    dsimp only [List.set]
    have e12 : uN N 12 0 = N := by have h9 := uN_self (f := N) (k := 12); rw [h12] at h9; exact h9
    refine Vd_w (w' := cls (uN (uN (uN (uN I 14 1) 15 (-100)) 19 0) 20 0) (uN N 12 0) (uN F 12 (F 12)) ++ T) (by rw [e12, uN_self]) ?_
    exact k_fit_loop11 (I := uN (uN (uN (uN I 14 1) 15 (-100)) 19 0) 20 0) hF ((((hI.up (by omega)).up (by omega)).up (by omega)).up (by omega)) (by unfold NR; exact hN) hT hH (by simp (disch := decide) only [uN_s, uN_n]; omega) (by simp (disch := decide) only [uN_s, uN_n]; omega) (by unfold frs; simp (disch := decide) only [uN_s, uN_n]; omega) (by simp (disch := decide) only [uN_s, uN_n]; omega) hn hz n.toNat 0 0 (F 12) (by omega) (by omega) (hF 12) (by rw [if_neg (by omega)]) (fun k h0 h1 => absurd h1 (by omega))
  · rw [chI_l hs] at hz
    refine v_aload_n (dec_of DX0_fit 27 rfl) rfl ?_
    refine v_V0v (k_choose_long hF hI (by unfold NR; exact hN) hT hH hs) lX0_49 (dec_of DX0_fit 28 rfl) rfl rfl (by decide) (nle rfl) rfl ?_
    refine vi_const (dec_of DX0_fit 29 rfl) ?_
    refine v_istore (dec_of DX0_fit 30 rfl) (by decide) ?_
    dsimp only [List.set]
    have e12 : uN N 12 0 = N := by have h9 := uN_self (f := N) (k := 12); rw [h12] at h9; exact h9
    refine Vd_w (w' := cls (uN (uN (uN I 14 0) 19 (opn (I 18))) 20 (cc (I 17) (I 18) 0)) (uN N 12 0) (uN F 12 (F 12)) ++ T) (by rw [e12, uN_self]) ?_
    exact k_fit_loop11 (I := uN (uN (uN I 14 0) 19 (opn (I 18))) 20 (cc (I 17) (I 18) 0)) hF (((hI.up (by omega)).up (by omega)).up (by omega)) (by unfold NR; exact hN) hT hH (by simp (disch := decide) only [uN_s, uN_n]; omega) (by simp (disch := decide) only [uN_s, uN_n]; omega) (by unfold frs; simp (disch := decide) only [uN_s, uN_n]; omega) (by simp (disch := decide) only [uN_s, uN_n]; omega) hn hz n.toNat 0 0 (F 12) (by omega) (by omega) (hF 12) (by rw [if_neg (by omega)]) (fun k h0 h1 => absurd h1 (by omega))
set_option maxRecDepth 100000 in
set_option maxHeartbeats 4000000 in
theorem k_fit11 {T : XW} {I N : Nat → Int} {F : Nat → Int → Int} (hF : FR F) (hI : IR I) (hN : NR N) {tn hh : Int} (ht : 1 ≤ tn ∧ tn ≤ 8) (hh1 : 0 ≤ hh ∧ hh ≤ 1) : Sp (rm 4 88 0 0) mX0_fit [.ref 28, .ref 26, J tn, J hh] (cls I N F ++ T) (fun w r => r = none ∧ ∃ (m : Int) (g : Int → Int), m = (if 0 < N 11 then fitM (fitI I (F 11) (N 11) tn hh) (N 11) else 0) ∧ w = cls (fitI I (F 11) (N 11) tn hh) (uN N 12 m) (uN F 12 g) ++ T ∧ (rowsOK (fitI I (F 11) (N 11) tn hh) (N 11) m g ∧ (∀ i, -2147483648 ≤ g i ∧ g i < 2147483648))) := by
  unfold NR at hN
  refine sp_of (ls := [some (.ref 28), some (.ref 26), some (J tn), some (J hh), none, none]) (by decide) (nle rfl) rfl rfl ?_
  have hI0 : IR (ft0 I tn hh) := (((((hI.up (by omega)).up (by omega)).up (by omega)).up (by omega)).up (by omega))
  have hN0 : NR (uN N 12 0) := NR12 (by unfold NR; exact hN) (by omega)
  by_cases hn : 0 < N 11
  · have eI : fitI I (F 11) (N 11) tn hh = chI (plI (ft0 I tn hh) (F 11) (N 11)) := by funext k; unfold fitI; rw [if_pos hn]
    have hL := lastP_r (f := F 11) hn
    have hFp := firstP_r (f := F 11) (l := lastP (F 11) (N 11)) hL.1
    rw [eI, if_pos hn]
    have hI1 : IR (plI (ft0 I tn hh) (F 11) (N 11)) := by unfold plI; split; exact ((hI0.up (by omega)).up (by omega)); exact hI0.up (by omega)
    refine v_aload_n (dec_of DX0_fit 0 rfl) rfl ?_
    refine v_iload_n (dec_of DX0_fit 1 rfl) rfl ?_
    refine cp_17 fX0_20 (dec_of DX0_fit 2 rfl) ?_
    refine v_aload_n (dec_of DX0_fit 3 rfl) rfl ?_
    refine v_iload_n (dec_of DX0_fit 4 rfl) rfl ?_
    refine cp_18 fX0_24 (dec_of DX0_fit 5 rfl) ?_
    refine v_aload_n (dec_of DX0_fit 6 rfl) rfl ?_
    refine v_get fX0_14 (dec_of DX0_fit 7 rfl) rfl rfl ?_
    try simp (disch := decide) only [uN_s, uN_n]
    refine vi_const (dec_of DX0_fit 8 rfl) ?_
    refine v_V1v (c12_keep (by first | omega | (simp (disch := decide) only [uN_s, uN_n]; omega)) (by first | omega | (simp (disch := decide) only [uN_s, uN_n]; omega))) lX0_27 (dec_of DX0_fit 9 rfl) rfl rfl (by decide) (nle rfl) rfl ?_
    try simp (disch := decide) only [uN_s, uN_n]
    refine v_aload_n (dec_of DX0_fit 10 rfl) rfl ?_
    refine vi_const (dec_of DX0_fit 11 rfl) ?_
    refine cp_14 fX0_31 (dec_of DX0_fit 12 rfl) (by omega) ?_
    refine v_aload_n (dec_of DX0_fit 13 rfl) rfl ?_
    refine vi_bi (dec_of DX0_fit 14 rfl) (by decide) ?_
    refine cp_15 fX0_35 (dec_of DX0_fit 15 rfl) ?_
    refine v_aload_n (dec_of DX0_fit 16 rfl) rfl ?_
    refine vi_bi (dec_of DX0_fit 17 rfl) (by decide) ?_
    refine cp_16 fX0_38 (dec_of DX0_fit 18 rfl) ?_
    refine v_aload_n (dec_of DX0_fit 19 rfl) rfl ?_
    refine v_V0r (c11_size) lX0_41 (dec_of DX0_fit 20 rfl) rfl rfl (by decide) (nle rfl) rfl ?_
    try simp (disch := decide) only [uN_s, uN_n]
    refine v_istore (dec_of DX0_fit 21 rfl) (by decide) ?_
    dsimp only [List.set]
    refine v_iload (dec_of DX0_fit 22 rfl) rfl ?_
    refine vi_if_le (tgt := 91) (dec_of DX0_fit 23 rfl) (by decide) (by first | omega | (simp (disch := decide) only [uN_s, uN_n]; omega)) (fun c43 => absurd c43 (by omega)) (fun c43 => ?_)
    refine v_aload_n (dec_of DX0_fit 24 rfl) rfl ?_
    refine v_aload_n (dec_of DX0_fit 25 rfl) rfl ?_
    refine Vd_w (w' := cls (ft0 I tn hh) (uN N 12 0) F ++ T) rfl ?_
    refine v_V1v (k_place11 hF hI0 hN0 (by simp (disch := decide) only [ft0, uN_s, uN_n]; omega) (by simp (disch := decide) only [ft0, uN_s, uN_n]; omega) (by simp (disch := decide) only [uN_n]; omega)) lX0_45 (dec_of DX0_fit 26 rfl) rfl rfl (by decide) (nle rfl) rfl ?_
    try simp (disch := decide) only [uN_s, uN_n]
    refine Vd_w (w' := cls (plI (ft0 I tn hh) (F 11) (N 11)) (uN N 12 0) F ++ T) rfl ?_
    exact k_fit_t11 hF hI1 hN0 (by rw [plI_e (by decide) (by decide)]; simp (disch := decide) only [ft0, uN_s, uN_n]; omega) (by rw [plI_e (by decide) (by decide)]; simp (disch := decide) only [ft0, uN_s, uN_n]; omega) (by omega) (by rw [plI_16]; omega) (by rw [plI_15]; simp (disch := decide) only [ft0, uN_s, uN_n]; split <;> omega) (by rw [uN_s]) (fun g hgr hg => ⟨rfl, _, g, rfl, by rw [uN_uu], hg, hgr⟩)
  · have eI : fitI I (F 11) (N 11) tn hh = ft0 I tn hh := by funext k; unfold fitI; rw [if_neg hn]
    rw [eI, if_neg hn]
    refine v_aload_n (dec_of DX0_fit 0 rfl) rfl ?_
    refine v_iload_n (dec_of DX0_fit 1 rfl) rfl ?_
    refine cp_17 fX0_20 (dec_of DX0_fit 2 rfl) ?_
    refine v_aload_n (dec_of DX0_fit 3 rfl) rfl ?_
    refine v_iload_n (dec_of DX0_fit 4 rfl) rfl ?_
    refine cp_18 fX0_24 (dec_of DX0_fit 5 rfl) ?_
    refine v_aload_n (dec_of DX0_fit 6 rfl) rfl ?_
    refine v_get fX0_14 (dec_of DX0_fit 7 rfl) rfl rfl ?_
    try simp (disch := decide) only [uN_s, uN_n]
    refine vi_const (dec_of DX0_fit 8 rfl) ?_
    refine v_V1v (c12_keep (by first | omega | (simp (disch := decide) only [uN_s, uN_n]; omega)) (by first | omega | (simp (disch := decide) only [uN_s, uN_n]; omega))) lX0_27 (dec_of DX0_fit 9 rfl) rfl rfl (by decide) (nle rfl) rfl ?_
    try simp (disch := decide) only [uN_s, uN_n]
    refine v_aload_n (dec_of DX0_fit 10 rfl) rfl ?_
    refine vi_const (dec_of DX0_fit 11 rfl) ?_
    refine cp_14 fX0_31 (dec_of DX0_fit 12 rfl) (by omega) ?_
    refine v_aload_n (dec_of DX0_fit 13 rfl) rfl ?_
    refine vi_bi (dec_of DX0_fit 14 rfl) (by decide) ?_
    refine cp_15 fX0_35 (dec_of DX0_fit 15 rfl) ?_
    refine v_aload_n (dec_of DX0_fit 16 rfl) rfl ?_
    refine vi_bi (dec_of DX0_fit 17 rfl) (by decide) ?_
    refine cp_16 fX0_38 (dec_of DX0_fit 18 rfl) ?_
    refine v_aload_n (dec_of DX0_fit 19 rfl) rfl ?_
    refine v_V0r (c11_size) lX0_41 (dec_of DX0_fit 20 rfl) rfl rfl (by decide) (nle rfl) rfl ?_
    try simp (disch := decide) only [uN_s, uN_n]
    refine v_istore (dec_of DX0_fit 21 rfl) (by decide) ?_
    dsimp only [List.set]
    refine v_iload (dec_of DX0_fit 22 rfl) rfl ?_
    refine vi_if_le (tgt := 91) (dec_of DX0_fit 23 rfl) (by decide) (by first | omega | (simp (disch := decide) only [uN_s, uN_n]; omega)) (fun c43 => ?_) (fun c43 => absurd c43 (by omega))
    exact vi_vret (dec_of DX0_fit 47 rfl) rfl ⟨by decide, by decide⟩ (⟨rfl, 0, F 12, rfl, rfl, fun k h0 h1 => absurd h1 (by omega), hF 12⟩)
