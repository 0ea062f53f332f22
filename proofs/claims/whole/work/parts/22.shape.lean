/-! Shaper.shape (printed by wip/tools/gen_c12.py) -/
/-- the columns that neumes and lengths look at are the same -/
def colsEq (F F' : Nat → Int → Int) : Prop := ∀ k : Int, F' 4 (k * 8 + 0) = F 4 (k * 8 + 0) ∧ F' 4 (k * 8 + 1) = F 4 (k * 8 + 1) ∧ F' 4 (k * 8 + 3) = F 4 (k * 8 + 3)
theorem sameG_c {N N' : Nat → Int} {F F' : Nat → Int → Int} (hN : N' 4 = N 4) (h : colsEq F F') (a b : Int) : sameG N' F' a b ↔ sameG N F a b := by
  unfold sameG
  rw [hN, (h a).2.2, (h b).2.2]
theorem wyF_c {F F' : Nat → Int → Int} (h : colsEq F F') (n : Int) : wyF F' n = wyF F n := by
  unfold wyF
  rw [(h n).1, (h (n - 1)).1]
theorem nmL_c {N N' : Nat → Int} {F F' : Nat → Int → Int} (hN : N' 4 = N 4) (h : colsEq F F') (n : Int) : ∀ (m : Nat) (k kd tk wy : Int), nmL N' F' n m k kd tk wy = nmL N F n m k kd tk wy := by
  intro m
  induction m with
  | zero => intros; rfl
  | succ m ih =>
    intro k kd tk wy
    unfold nmL
    rw [wyF_c h]
    by_cases hs : sameG N F n (n + k)
    · rw [if_pos hs, if_pos ((sameG_c hN h _ _).mpr hs), ih, ih]
    · rw [if_neg hs, if_neg (fun q => hs ((sameG_c hN h _ _).mp q))]
theorem nmK_c {N N' : Nat → Int} {F F' : Nat → Int → Int} (hN : N' 4 = N 4) (h : colsEq F F') (n : Int) : nmK N' F' n = nmK N F n := by
  unfold nmK
  rw [(h n).2.1, nmL_c hN h]
theorem lnF_c {N N' : Nat → Int} {F F' : Nat → Int → Int} (hN : N' 4 = N 4) (h : colsEq F F') (n : Int) : lnF N' F' n = lnF N F n := by
  unfold lnF sameG
  rw [hN, (h n).2.1, (h (n + 1)).2.1, (h n).2.2, (h (n + 1)).2.2]
/-- where the neumes begin -/
def nst (N : Nat → Int) (F : Nat → Int → Int) : Nat → Int
  | 0 => 0
  | j + 1 => nst N F j + (nmK N F (nst N F j)).2
theorem nst_mono {N : Nat → Int} {F : Nat → Int → Int} {j : Nat} (h : ∀ i : Nat, i < j → nst N F i < N 4) {a b : Nat} (hab : a ≤ b) (hb : b ≤ j) : nst N F a ≤ nst N F b := by
  induction b with
  | zero => obtain rfl : a = 0 := by omega
            exact Int.le_refl _
  | succ b ih =>
    by_cases e : a = b + 1
    · rw [e]; exact Int.le_refl _
    · have h1 := ih (by omega) (by omega)
      have h2 := nmK_r (F := F) (h b (by omega))
      rw [nst]
      omega
def lqF (F : Nat → Int → Int) (n t : Int) : Int := if bnd (F 4 ((n + t - 1) * 8 + 1)) 16 = 0 then 0 else 1
def ShP (N : Nat → Int) (F : Nat → Int → Int) (n : Int) (j : Nat) (g5 g4 : Int → Int) : Prop :=
  (∀ i : Nat, i < j → nst N F i < N 4) ∧
  (∀ i : Nat, i < j → g5 ((i : Int) * 4 + 0) = (nmK N F (nst N F i)).1 ∧ g5 ((i : Int) * 4 + 1) = nst N F i ∧ g5 ((i : Int) * 4 + 2) = (nmK N F (nst N F i)).2 ∧ g5 ((i : Int) * 4 + 3) = lqF F (nst N F i) (nmK N F (nst N F i)).2) ∧
  (∀ k : Int, 0 ≤ k → k < n → g4 (k * 8 + 7) = lnF N F k) ∧
  (∀ i : Nat, i < j → ∀ k : Int, nst N F i ≤ k → k < nst N F (i + 1) → k < n → g4 (k * 8 + 4) = i) ∧
  (∀ k c : Int, 0 ≤ c → c < 8 → c ≠ 4 → c ≠ 7 → g4 (k * 8 + c) = F 4 (k * 8 + c)) ∧
  (∀ i, -2147483648 ≤ g5 i ∧ g5 i < 2147483648) ∧ (∀ i, -2147483648 ≤ g4 i ∧ g4 i < 2147483648) ∧
  n ≤ nst N F j ∧ (∀ i : Nat, j = i + 1 → nst N F i < n) ∧ nst N F j ≤ N 4 ∧ (j : Int) ≤ nst N F j ∧ 0 ≤ n ∧ (j = 0 → n = 0)
theorem lnF_r (N : Nat → Int) (F : Nat → Int → Int) (n : Int) : 1 ≤ lnF N F n ∧ lnF N F n ≤ 6 := by unfold lnF; omega
theorem set47 {g : Int → Int} {n x y k : Int} : (uI (uI g (n * 8 + 4) x) (n * 8 + 7) y) (k * 8 + 7) = (if k = n then y else g (k * 8 + 7)) ∧ (uI (uI g (n * 8 + 4) x) (n * 8 + 7) y) (k * 8 + 4) = (if k = n then x else g (k * 8 + 4)) := by
  simp only [uI]
  by_cases h : k = n
  · subst h
    rw [if_pos rfl, if_pos rfl, if_neg (by omega), if_pos rfl, if_pos rfl]
    exact ⟨rfl, rfl⟩
  · rw [if_neg (show ¬ k * 8 + 7 = n * 8 + 7 by omega), if_neg (show ¬ k * 8 + 7 = n * 8 + 4 by omega), if_neg (show ¬ k * 8 + 4 = n * 8 + 7 by omega), if_neg (show ¬ k * 8 + 4 = n * 8 + 4 by omega), if_neg h, if_neg h]
    exact ⟨rfl, rfl⟩
theorem set47c {g : Int → Int} {n x y k c : Int} (h0 : 0 ≤ c) (h8 : c < 8) (h4 : c ≠ 4) (h7 : c ≠ 7) : (uI (uI g (n * 8 + 4) x) (n * 8 + 7) y) (k * 8 + c) = g (k * 8 + c) := by
  simp only [uI]
  rw [if_neg (by omega), if_neg (by omega)]
theorem row4 {g : Int → Int} {a s x y z k : Int} : (uI (uI (uI (adf g 4 a s) (a * 4 + 1) x) (a * 4 + 2) y) (a * 4 + 3) z) (k * 4 + 0) = (if k = a then s else g (k * 4 + 0)) ∧ (uI (uI (uI (adf g 4 a s) (a * 4 + 1) x) (a * 4 + 2) y) (a * 4 + 3) z) (k * 4 + 1) = (if k = a then x else g (k * 4 + 1)) ∧ (uI (uI (uI (adf g 4 a s) (a * 4 + 1) x) (a * 4 + 2) y) (a * 4 + 3) z) (k * 4 + 2) = (if k = a then y else g (k * 4 + 2)) ∧ (uI (uI (uI (adf g 4 a s) (a * 4 + 1) x) (a * 4 + 2) y) (a * 4 + 3) z) (k * 4 + 3) = (if k = a then z else g (k * 4 + 3)) := by
  simp only [uI, adf, clr]
  by_cases h : k = a
  · subst h
    refine ⟨?_, ?_, ?_, ?_⟩
    · rw [if_neg (show ¬ k * 4 + 0 = k * 4 + 3 by omega), if_neg (show ¬ k * 4 + 0 = k * 4 + 2 by omega), if_neg (show ¬ k * 4 + 0 = k * 4 + 1 by omega), if_neg (show ¬ (k * 4 + 1 ≤ k * 4 + 0 ∧ k * 4 + 0 < k * 4 + 4) by omega), if_pos (show k * 4 + 0 = k * 4 by omega), if_pos rfl]
    · rw [if_neg (show ¬ k * 4 + 1 = k * 4 + 3 by omega), if_neg (show ¬ k * 4 + 1 = k * 4 + 2 by omega), if_pos rfl, if_pos rfl]
    · rw [if_neg (show ¬ k * 4 + 2 = k * 4 + 3 by omega), if_pos rfl, if_pos rfl]
    · rw [if_pos rfl, if_pos rfl]
  · refine ⟨?_, ?_, ?_, ?_⟩
    · rw [if_neg (show ¬ k * 4 + 0 = a * 4 + 3 by omega), if_neg (show ¬ k * 4 + 0 = a * 4 + 2 by omega), if_neg (show ¬ k * 4 + 0 = a * 4 + 1 by omega), if_neg (show ¬ (a * 4 + 1 ≤ k * 4 + 0 ∧ k * 4 + 0 < a * 4 + 4) by omega), if_neg (show ¬ k * 4 + 0 = a * 4 by omega), if_neg h]
    · rw [if_neg (show ¬ k * 4 + 1 = a * 4 + 3 by omega), if_neg (show ¬ k * 4 + 1 = a * 4 + 2 by omega), if_neg (show ¬ k * 4 + 1 = a * 4 + 1 by omega), if_neg (show ¬ (a * 4 + 1 ≤ k * 4 + 1 ∧ k * 4 + 1 < a * 4 + 4) by omega), if_neg (show ¬ k * 4 + 1 = a * 4 by omega), if_neg h]
    · rw [if_neg (show ¬ k * 4 + 2 = a * 4 + 3 by omega), if_neg (show ¬ k * 4 + 2 = a * 4 + 2 by omega), if_neg (show ¬ k * 4 + 2 = a * 4 + 1 by omega), if_neg (show ¬ (a * 4 + 1 ≤ k * 4 + 2 ∧ k * 4 + 2 < a * 4 + 4) by omega), if_neg (show ¬ k * 4 + 2 = a * 4 by omega), if_neg h]
    · rw [if_neg (show ¬ k * 4 + 3 = a * 4 + 3 by omega), if_neg (show ¬ k * 4 + 3 = a * 4 + 2 by omega), if_neg (show ¬ k * 4 + 3 = a * 4 + 1 by omega), if_neg (show ¬ (a * 4 + 1 ≤ k * 4 + 3 ∧ k * 4 + 3 < a * 4 + 4) by omega), if_neg (show ¬ k * 4 + 3 = a * 4 by omega), if_neg h]
theorem ShP.inside {N : Nat → Int} {F : Nat → Int → Int} {n : Int} {j : Nat} {g5 g4 : Int → Int} (h : ShP N F n j g5 g4) (hn : n < nst N F j) (hj : (j : Int) ≤ 1000) : ShP N F (n + 1) j g5 (uI (uI g4 (n * 8 + 4) ((j : Int) - 1)) (n * 8 + 7) (lnF N F n)) := by
  obtain ⟨a1, a2, a3, a4, a5, a6, a7, a8, a9, a10, a11, a12, a13⟩ := h
  have hr := lnF_r N F n
  refine ⟨a1, a2, fun k h0 h1 => ?_, fun i hi k h0 h1 h2 => ?_, fun k c c0 c8 c4 c7 => ?_, a6, uI_r (uI_r a7 (by omega)) (by omega), by omega, fun i hi => Int.lt_trans (a9 i hi) (by omega), a10, a11, by omega, fun hj0 => ?_⟩
  · rw [set47.1]
    by_cases hk : k = n
    · rw [if_pos hk, hk]
    · rw [if_neg hk]; exact a3 k h0 (by omega)
  · rw [set47.2]
    by_cases hk : k = n
    · rw [if_pos hk]
      subst hk
      obtain ⟨q, hq⟩ : ∃ q, j = q + 1 := by
        cases j with
        | zero => exact absurd hi (by omega)
        | succ q => exact ⟨q, rfl⟩
      have := a9 q hq
      have hiq : i = q := by
        by_cases hlt : i < q
        · have := nst_mono a1 (show i + 1 ≤ q by omega) (by omega)
          omega
        · omega
      subst hiq
      omega
    · rw [if_neg hk]; exact a4 i hi k h0 h1 (by omega)
  · rw [set47c c0 c8 c4 c7]; exact a5 k c c0 c8 c4 c7
  · have := a13 hj0
    subst hj0
    exact absurd hn (by unfold nst; omega)
theorem ShP.start {N : Nat → Int} {F : Nat → Int → Int} {n : Int} {j : Nat} {g5 g4 : Int → Int} (h : ShP N F n j g5 g4) (hn : n = nst N F j) (h4 : n < N 4) (hb : N 4 ≤ 150) :
    ShP N F (n + 1) (j + 1) (uI (uI (uI (adf g5 4 j (nmK N F n).1) ((j : Int) * 4 + 1) n) ((j : Int) * 4 + 2) (nmK N F n).2) ((j : Int) * 4 + 3) (lqF F n (nmK N F n).2)) (uI (uI g4 (n * 8 + 4) ((j : Int) + 1 - 1)) (n * 8 + 7) (lnF N F n)) := by
  obtain ⟨a1, a2, a3, a4, a5, a6, a7, a8, a9, a10, a11, a12, a13⟩ := h
  have hr := lnF_r N F n
  have hk := nmK_k (N := N) (F := F) (n := n)
  have ht := nmK_r (F := F) h4
  have hl : 0 ≤ lqF F n (nmK N F n).2 ∧ lqF F n (nmK N F n).2 ≤ 1 := by unfold lqF; omega
  have e1 : nst N F (j + 1) = n + (nmK N F n).2 := by rw [nst, ← hn]
  refine ⟨fun i hi => ?_, fun i hi => ?_, fun k h0 h1 => ?_, fun i hi k h0 h1 h2 => ?_, fun k c c0 c8 c4 c7 => ?_, uI_r (uI_r (uI_r (adf_r a6 (by omega)) (by omega)) (by omega)) (by omega), uI_r (uI_r a7 (by omega)) (by omega), by omega, fun i hi => ?_, by omega, by omega, by omega, fun h0 => absurd h0 (by omega)⟩
  · by_cases h : i = j
    · subst h; omega
    · exact a1 i (by omega)
  · have r4 := row4 (g := g5) (a := j) (s := (nmK N F n).1) (x := n) (y := (nmK N F n).2) (z := lqF F n (nmK N F n).2) (k := i)
    by_cases h : i = j
    · subst h
      rw [← hn]
      rw [if_pos rfl, if_pos rfl, if_pos rfl, if_pos rfl] at r4
      exact r4
    · have hi' : ¬ (i : Int) = j := by omega
      rw [if_neg hi', if_neg hi', if_neg hi', if_neg hi'] at r4
      rw [r4.1, r4.2.1, r4.2.2.1, r4.2.2.2]
      exact a2 i (by omega)
  · rw [set47.1]
    by_cases hk : k = n
    · rw [if_pos hk, hk]
    · rw [if_neg hk]; exact a3 k h0 (by omega)
  · rw [set47.2]
    by_cases h : i = j
    · subst h
      rw [if_pos (by omega)]
      omega
    · have := nst_mono a1 (show i + 1 ≤ j by omega) (by omega)
      rw [if_neg (by omega)]
      exact a4 i (by omega) k h0 h1 (by omega)
  · rw [set47c c0 c8 c4 c7]; exact a5 k c c0 c8 c4 c7
  · obtain rfl : i = j := by omega
    omega
set_option maxRecDepth 100000 in
set_option maxHeartbeats 4000000 in
theorem k_shape_loop {T : XW} {I N : Nat → Int} {F : Nat → Int → Int} (hF : FR F) (hI : IR I) (hN : NR N) {n0 : Nat} {Z : XW → Option Value → Prop} (hz : ∀ (j : Nat) (g5 g4 : Int → Int), ShP N F (N 4) j g5 g4 → Z (cls I (uN N 5 j) (uN (uN F 5 g5) 4 g4) ++ T) none) : ∀ (m : Nat) (n : Int) (j : Nat) (g5 g4 : Int → Int), n + m = N 4 → ShP N F n j g5 g4 → Vd (rm 3 72 0 0) [] mX4_shape n0 Z 0 0 4 [some (.ref 5), some (J (nst N F j)), some (J n)] [] (cls I (uN N 5 j) (uN (uN F 5 g5) 4 g4) ++ T) := by
  unfold NR at hN
  intro m
  induction m with
  | zero =>
    intro n j g5 g4 hm hS
    obtain rfl : n = N 4 := by omega
    have h13 := hS.2.2.2.2.2.2.2.2.2.2.1
    have h10 := hS.2.2.2.2.2.2.2.2.2.1
    refine v_iload_n (dec_of DX4_shape 4 rfl) rfl ?_
    refine v_aload_n (dec_of DX4_shape 5 rfl) rfl ?_
    refine v_get fX4_9 (dec_of DX4_shape 6 rfl) rfl rfl ?_
    refine v_V0r (c4_size) lX4_15 (dec_of DX4_shape 7 rfl) rfl rfl (by decide) (nle rfl) rfl ?_
    refine vi_icmp_ge (tgt := 67) (dec_of DX4_shape 8 rfl) (by decide) (by first | omega | (simp (disch := decide) only [uN_s, uN_n]; omega)) (by first | omega | (simp (disch := decide) only [uN_s, uN_n]; omega)) (fun c12 => ?_) (fun c12 => absurd c12 (by first | omega | (simp (disch := decide) only [uN_s, uN_n]; omega)))
    exact vi_vret (dec_of DX4_shape 38 rfl) rfl ⟨by decide, by decide⟩ (hz j g5 g4 hS)
  | succ m ih =>
    intro n j g5 g4 hm hS
    have h13 := hS.2.2.2.2.2.2.2.2.2.2.1
    have h10 := hS.2.2.2.2.2.2.2.2.2.1
    have h8 := hS.2.2.2.2.2.2.2.1
    have h12 := hS.2.2.2.2.2.2.2.2.2.2.2.1
    have g5r := hS.2.2.2.2.2.1
    have g4r := hS.2.2.2.2.2.2.1
    have hc := hS.2.2.2.2.1
    have hF2 : FR (uN (uN F 5 g5) 4 g4) := (hF.up g5r).up g4r
    have hN2 : NR (uN N 5 j) := by unfold NR; simp (disch := decide) only [uN_s, uN_n]; omega
    have hce : colsEq F (uN (uN F 5 g5) 4 g4) := fun k => by simp (disch := decide) only [uN_s]; exact ⟨hc k 0 (by omega) (by omega) (by omega) (by omega), hc k 1 (by omega) (by omega) (by omega) (by omega), hc k 3 (by omega) (by omega) (by omega) (by omega)⟩
    have eN : (uN N 5 (j : Int)) 4 = N 4 := uN_n (by decide)
    by_cases hb : n = nst N F j
    · have hkk := nmK_k (N := N) (F := F) (n := n)
      have htt := nmK_r (F := F) (n := n) (N := N) (by omega)
      have hlq : 0 ≤ lqF F n (nmK N F n).2 ∧ lqF F n (nmK N F n).2 ≤ 1 := by unfold lqF; omega
      have hlr := lnF_r N F n
      have hF3 : FR (uN (uN F 5 (uI (uI (uI (adf g5 4 j (nmK N F n).1) ((j : Int) * 4 + 1) n) ((j : Int) * 4 + 2) (nmK N F n).2) ((j : Int) * 4 + 3) (lqF F n (nmK N F n).2))) 4 (uI g4 (n * 8 + 4) ((j : Int) + 1 - 1))) := (hF.up (uI_r (uI_r (uI_r (adf_r g5r (by omega)) (by omega)) (by omega)) (by omega))).up (uI_r g4r (by omega))
      have hN3 : NR (uN N 5 ((j : Int) + 1)) := by unfold NR; simp (disch := decide) only [uN_s, uN_n]; omega
      have hce3 : colsEq F (uN (uN F 5 (uI (uI (uI (adf g5 4 j (nmK N F n).1) ((j : Int) * 4 + 1) n) ((j : Int) * 4 + 2) (nmK N F n).2) ((j : Int) * 4 + 3) (lqF F n (nmK N F n).2))) 4 (uI g4 (n * 8 + 4) ((j : Int) + 1 - 1))) := fun k => by simp (disch := decide) only [uN_s, uI]; rw [if_neg (by omega), if_neg (by omega), if_neg (by omega)]; exact ⟨hc k 0 (by omega) (by omega) (by omega) (by omega), hc k 1 (by omega) (by omega) (by omega) (by omega), hc k 3 (by omega) (by omega) (by omega) (by omega)⟩
      have eN3 : (uN N 5 ((j : Int) + 1)) 4 = N 4 := uN_n (by decide)
      refine v_iload_n (dec_of DX4_shape 4 rfl) rfl ?_
      refine v_aload_n (dec_of DX4_shape 5 rfl) rfl ?_
      refine v_get fX4_9 (dec_of DX4_shape 6 rfl) rfl rfl ?_
      refine v_V0r (c4_size) lX4_15 (dec_of DX4_shape 7 rfl) rfl rfl (by decide) (nle rfl) rfl ?_
      refine vi_icmp_ge (tgt := 67) (dec_of DX4_shape 8 rfl) (by decide) (by first | omega | (simp (disch := decide) only [uN_s, uN_n]; omega)) (by first | omega | (simp (disch := decide) only [uN_s, uN_n]; omega)) (fun c12 => absurd c12 (by first | omega | (simp (disch := decide) only [uN_s, uN_n]; omega))) (fun c12 => ?_)
      refine v_iload_n (dec_of DX4_shape 9 rfl) rfl ?_
      refine v_iload_n (dec_of DX4_shape 10 rfl) rfl ?_
      refine vi_icmp_ne (tgt := 28) (dec_of DX4_shape 11 rfl) (by decide) (by first | omega | (simp (disch := decide) only [uN_s, uN_n]; omega)) (by first | omega | (simp (disch := decide) only [uN_s, uN_n]; omega)) (fun c17 => absurd c17 (by omega)) (fun c17 => ?_)
      refine v_iload_n (dec_of DX4_shape 12 rfl) rfl ?_
      refine v_aload_n (dec_of DX4_shape 13 rfl) rfl ?_
      refine v_iload_n (dec_of DX4_shape 14 rfl) rfl ?_
      refine v_S2r (k_bn hF2 hI hN2 (n := n) (by rw [eN]; omega) (by rw [uN_s]; omega)) lX4_21 (dec_of DX4_shape 15 rfl) (by decide) (nle rfl) rfl ?_
      rw [nmK_c eN hce]
      refine Vd_w (w' := cls I (uN N 5 ((j : Int) + 1)) (uN (uN F 5 (uI (uI (uI (adf g5 4 j (nmK N F n).1) ((j : Int) * 4 + 1) n) ((j : Int) * 4 + 2) (nmK N F n).2) ((j : Int) * 4 + 3) (lqF F n (nmK N F n).2))) 4 g4) ++ T) (by rw [nuF, nmK_c eN hce, show (uN (uN F 5 g5) 4 g4) 4 ((n + (nmK N F n).2 - 1) * 8 + 1) = F 4 ((n + (nmK N F n).2 - 1) * 8 + 1) from (hce _).2.1]; rfl) ?_
      refine vi_add (dec_of DX4_shape 16 rfl) ?_
      refine v_istore_n (dec_of DX4_shape 17 rfl) (by decide) ?_
      dsimp only [List.set]
      refine v_aload_n (dec_of DX4_shape 18 rfl) rfl ?_
      refine v_get fX4_9 (dec_of DX4_shape 19 rfl) rfl rfl ?_
      refine v_iload_n (dec_of DX4_shape 20 rfl) rfl ?_
      refine vi_const (dec_of DX4_shape 21 rfl) ?_
      refine v_aload_n (dec_of DX4_shape 22 rfl) rfl ?_
      refine v_get fX4_27 (dec_of DX4_shape 23 rfl) rfl rfl ?_
      refine v_V0r (c5_size) lX4_15 (dec_of DX4_shape 24 rfl) rfl rfl (by decide) (nle rfl) rfl ?_
      refine vi_const (dec_of DX4_shape 25 rfl) ?_
      refine vi_sub (dec_of DX4_shape 26 rfl) ?_
      refine v_V3v (c4_set (by first | omega | (simp (disch := decide) only [uN_s, uN_n]; omega)) (by first | omega | (simp (disch := decide) only [uN_s, uN_n]; omega)) (by first | omega | (simp (disch := decide) only [uN_s, uN_n]; omega))) lX4_30 (dec_of DX4_shape 27 rfl) rfl rfl (by decide) (nle rfl) rfl ?_
      refine Vd_w (w' := cls I (uN N 5 ((j : Int) + 1)) (uN (uN F 5 (uI (uI (uI (adf g5 4 j (nmK N F n).1) ((j : Int) * 4 + 1) n) ((j : Int) * 4 + 2) (nmK N F n).2) ((j : Int) * 4 + 3) (lqF F n (nmK N F n).2))) 4 (uI g4 (n * 8 + 4) ((j : Int) + 1 - 1))) ++ T) (rfl) ?_
      refine v_aload_n (dec_of DX4_shape 28 rfl) rfl ?_
      refine v_get fX4_9 (dec_of DX4_shape 29 rfl) rfl rfl ?_
      refine v_iload_n (dec_of DX4_shape 30 rfl) rfl ?_
      refine vi_bi (dec_of DX4_shape 31 rfl) (by decide) ?_
      refine v_aload_n (dec_of DX4_shape 32 rfl) rfl ?_
      refine v_iload_n (dec_of DX4_shape 33 rfl) rfl ?_
      refine v_S2r (k_lengthOf hF3 hI hN3 (n := n) (by rw [eN3]; omega)) lX4_34 (dec_of DX4_shape 34 rfl) (by decide) (nle rfl) rfl ?_
      rw [lnF_c eN3 hce3]
      refine v_V3v (c4_set (by first | omega | (simp (disch := decide) only [uN_s, uN_n]; omega)) (by first | omega | (simp (disch := decide) only [uN_s, uN_n]; omega)) (by first | omega | (simp (disch := decide) only [uN_s, uN_n]; omega))) lX4_30 (dec_of DX4_shape 35 rfl) rfl rfl (by decide) (nle rfl) rfl ?_
      refine Vd_w (w' := cls I (uN N 5 ((j : Int) + 1)) (uN (uN F 5 (uI (uI (uI (adf g5 4 j (nmK N F n).1) ((j : Int) * 4 + 1) n) ((j : Int) * 4 + 2) (nmK N F n).2) ((j : Int) * 4 + 3) (lqF F n (nmK N F n).2))) 4 (uI (uI g4 (n * 8 + 4) ((j : Int) + 1 - 1)) (n * 8 + 7) (lnF N F n))) ++ T) (rfl) ?_
      refine vi_inc (dec_of DX4_shape 36 rfl) rfl (by decide) ?_
      dsimp only [List.set]
      refine v_goto (tgt := 4) (dec_of DX4_shape 37 rfl) (by decide) ?_
      rw [show n + (nmK N F n).2 = nst N F (j + 1) by rw [nst, ← hb]]
      exact ih (n + 1) (j + 1) _ _ (by omega) (hS.start hb (by omega) (by omega))
    · have hlr := lnF_r N F n
      have hF3 : FR (uN (uN F 5 g5) 4 (uI g4 (n * 8 + 4) ((j : Int) - 1))) := (hF.up g5r).up (uI_r g4r (by omega))
      have hce3 : colsEq F (uN (uN F 5 g5) 4 (uI g4 (n * 8 + 4) ((j : Int) - 1))) := fun k => by simp (disch := decide) only [uN_s, uI]; rw [if_neg (by omega), if_neg (by omega), if_neg (by omega)]; exact ⟨hc k 0 (by omega) (by omega) (by omega) (by omega), hc k 1 (by omega) (by omega) (by omega) (by omega), hc k 3 (by omega) (by omega) (by omega) (by omega)⟩
      refine v_iload_n (dec_of DX4_shape 4 rfl) rfl ?_
      refine v_aload_n (dec_of DX4_shape 5 rfl) rfl ?_
      refine v_get fX4_9 (dec_of DX4_shape 6 rfl) rfl rfl ?_
      refine v_V0r (c4_size) lX4_15 (dec_of DX4_shape 7 rfl) rfl rfl (by decide) (nle rfl) rfl ?_
      refine vi_icmp_ge (tgt := 67) (dec_of DX4_shape 8 rfl) (by decide) (by first | omega | (simp (disch := decide) only [uN_s, uN_n]; omega)) (by first | omega | (simp (disch := decide) only [uN_s, uN_n]; omega)) (fun c12 => absurd c12 (by first | omega | (simp (disch := decide) only [uN_s, uN_n]; omega))) (fun c12 => ?_)
      refine v_iload_n (dec_of DX4_shape 9 rfl) rfl ?_
      refine v_iload_n (dec_of DX4_shape 10 rfl) rfl ?_
      refine vi_icmp_ne (tgt := 28) (dec_of DX4_shape 11 rfl) (by decide) (by first | omega | (simp (disch := decide) only [uN_s, uN_n]; omega)) (by first | omega | (simp (disch := decide) only [uN_s, uN_n]; omega)) (fun c17 => ?_) (fun c17 => absurd c17 (by omega))
      refine v_aload_n (dec_of DX4_shape 18 rfl) rfl ?_
      refine v_get fX4_9 (dec_of DX4_shape 19 rfl) rfl rfl ?_
      refine v_iload_n (dec_of DX4_shape 20 rfl) rfl ?_
      refine vi_const (dec_of DX4_shape 21 rfl) ?_
      refine v_aload_n (dec_of DX4_shape 22 rfl) rfl ?_
      refine v_get fX4_27 (dec_of DX4_shape 23 rfl) rfl rfl ?_
      refine v_V0r (c5_size) lX4_15 (dec_of DX4_shape 24 rfl) rfl rfl (by decide) (nle rfl) rfl ?_
      refine vi_const (dec_of DX4_shape 25 rfl) ?_
      refine vi_sub (dec_of DX4_shape 26 rfl) ?_
      refine v_V3v (c4_set (by first | omega | (simp (disch := decide) only [uN_s, uN_n]; omega)) (by first | omega | (simp (disch := decide) only [uN_s, uN_n]; omega)) (by first | omega | (simp (disch := decide) only [uN_s, uN_n]; omega))) lX4_30 (dec_of DX4_shape 27 rfl) rfl rfl (by decide) (nle rfl) rfl ?_
      refine Vd_w (w' := cls I (uN N 5 j) (uN (uN F 5 g5) 4 (uI g4 (n * 8 + 4) ((j : Int) - 1))) ++ T) rfl ?_
      refine v_aload_n (dec_of DX4_shape 28 rfl) rfl ?_
      refine v_get fX4_9 (dec_of DX4_shape 29 rfl) rfl rfl ?_
      refine v_iload_n (dec_of DX4_shape 30 rfl) rfl ?_
      refine vi_bi (dec_of DX4_shape 31 rfl) (by decide) ?_
      refine v_aload_n (dec_of DX4_shape 32 rfl) rfl ?_
      refine v_iload_n (dec_of DX4_shape 33 rfl) rfl ?_
      refine v_S2r (k_lengthOf hF3 hI hN2 (n := n) (by rw [eN]; omega)) lX4_34 (dec_of DX4_shape 34 rfl) (by decide) (nle rfl) rfl ?_
      rw [lnF_c eN hce3]
      refine v_V3v (c4_set (by first | omega | (simp (disch := decide) only [uN_s, uN_n]; omega)) (by first | omega | (simp (disch := decide) only [uN_s, uN_n]; omega)) (by first | omega | (simp (disch := decide) only [uN_s, uN_n]; omega))) lX4_30 (dec_of DX4_shape 35 rfl) rfl rfl (by decide) (nle rfl) rfl ?_
      refine Vd_w (w' := cls I (uN N 5 j) (uN (uN F 5 g5) 4 (uI (uI g4 (n * 8 + 4) ((j : Int) - 1)) (n * 8 + 7) (lnF N F n))) ++ T) rfl ?_
      refine vi_inc (dec_of DX4_shape 36 rfl) rfl (by decide) ?_
      dsimp only [List.set]
      refine v_goto (tgt := 4) (dec_of DX4_shape 37 rfl) (by decide) ?_
      exact ih (n + 1) j _ _ (by omega) (hS.inside (by omega) (by omega))
set_option maxRecDepth 100000 in
set_option maxHeartbeats 4000000 in
theorem k_shape {T : XW} {I N : Nat → Int} {F : Nat → Int → Int} (hF : FR F) (hI : IR I) (hN : NR N) (h5 : N 5 = 0) : Sp (rm 3 72 0 0) mX4_shape [.ref 5] (cls I N F ++ T) (fun w r => r = none ∧ ∃ (j : Nat) (g5 g4 : Int → Int), w = cls I (uN N 5 j) (uN (uN F 5 g5) 4 g4) ++ T ∧ ShP N F (N 4) j g5 g4) := by
  unfold NR at hN
  refine sp_of (ls := [some (.ref 5), none, none]) (by decide) (nle rfl) rfl rfl ?_
  refine vi_const (dec_of DX4_shape 0 rfl) ?_
  refine v_istore_n (dec_of DX4_shape 1 rfl) (by decide) ?_
  dsimp only [List.set]
  refine vi_const (dec_of DX4_shape 2 rfl) ?_
  refine v_istore_n (dec_of DX4_shape 3 rfl) (by decide) ?_
  dsimp only [List.set]
  have e5 : uN N 5 ((0 : Nat) : Int) = N := by have h9 := uN_self (f := N) (k := 5); rw [h5] at h9; exact h9
  refine Vd_w (w' := cls I (uN N 5 ((0 : Nat) : Int)) (uN (uN F 5 (F 5)) 4 (F 4)) ++ T) (by rw [e5, uN_self]; rw [show uN F 4 (F 4) = F from uN_self]) ?_
  exact k_shape_loop hF hI (by unfold NR; exact hN) (fun j g5 g4 h => ⟨rfl, j, g5, g4, rfl, h⟩) (N 4).toNat 0 0 (F 5) (F 4) (by omega) ⟨fun i hi => absurd hi (by omega), fun i hi => absurd hi (by omega), fun k h0 h1 => absurd h1 (by omega), fun i hi => absurd hi (by omega), fun k c _ _ _ _ => rfl, hF 5, hF 4, Int.le_refl 0, fun i hi => absurd hi (by omega), by show (0 : Int) ≤ N 4; omega, Int.le_refl 0, Int.le_refl 0, fun _ => rfl⟩
