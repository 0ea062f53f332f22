/-! the reference: findNeumes (printed by wip/tools/gen_m13.py) -/
theorem wayI_inj {a b : Int} (ha : 0 ≤ a ∧ a < 15) (hb : 0 ≤ b ∧ b < 15) (h : wayI a = wayI b) : a = b := by
  have key : ∀ m : Nat, m < 15 → ∀ n : Nat, n < 15 → ([1, 2, 3, 11, 22, 12, 21, 33, 121, 212, 112, 221, 122, 1122, 2211] : List Int).getD m 0 = ([1, 2, 3, 11, 22, 12, 21, 33, 121, 212, 112, 221, 122, 1122, 2211] : List Int).getD n 0 → m = n := by decide
  have := key a.toNat (by omega) b.toNat (by omega) h
  omega
theorem kdS_no {w : Int} (hw : 0 ≤ w ∧ w < 15) : ∀ (m : Nat) (i : Int), w < i → i + m = 15 → kdS (wayI w) m i = -100 := by
  intro m
  induction m with
  | zero => intro i _ _; rfl
  | succ m ih =>
    intro i h1 h2
    rw [kdS, if_neg (fun q => by have := wayI_inj (by omega) hw q; omega)]
    exact ih (i + 1) (by omega) (by omega)
def nmM (K : Nat → Int) (G : Nat → Int → Int) (n : Int) : Nat → Int → Int → Int → Int → Int × Int
  | 0, _, kd, tk, _ => (kd, tk)
  | m + 1, k, kd, tk, wy => if n + k < K 15 ∧ G 19 (n + k) = G 19 n then (if kindW (10 * wy + wyM G (n + k - 1)) = -100 then nmM K G n m (k + 1) kd tk (10 * wy + wyM G (n + k - 1)) else nmM K G n m (k + 1) (kindW (10 * wy + wyM G (n + k - 1))) (k + 1) (10 * wy + wyM G (n + k - 1))) else (kd, tk)
def nm0 (K : Nat → Int) (G : Nat → Int → Int) (n : Int) : Int × Int := nmM K G n 4 1 (if bnd (G 17 n) 4 = 0 then 1 else 2) 1 0
theorem nmM_r {K : Nat → Int} {G : Nat → Int → Int} {n : Int} : ∀ (m : Nat) (k kd tk wy : Int), k + m = 5 → 1 ≤ k → 1 ≤ tk → tk ≤ 5 → n + tk ≤ K 15 → 1 ≤ (nmM K G n m k kd tk wy).2 ∧ (nmM K G n m k kd tk wy).2 ≤ 5 ∧ n + (nmM K G n m k kd tk wy).2 ≤ K 15 := by
  intro m
  induction m with
  | zero => intro k kd tk wy _ _ h1 h2 h3; exact ⟨h1, h2, h3⟩
  | succ m ih =>
    intro k kd tk wy hk hk1 h1 h2 h3
    unfold nmM
    split
    · split
      · exact ih _ _ _ _ (by omega) (by omega) h1 h2 h3
      · exact ih _ _ _ _ (by omega) (by omega) (by omega) (by omega) (by omega)
    · exact ⟨h1, h2, h3⟩
theorem nm0_r {K : Nat → Int} {G : Nat → Int → Int} {n : Int} (hn : n < K 15) : 1 ≤ (nm0 K G n).2 ∧ (nm0 K G n).2 ≤ 5 ∧ n + (nm0 K G n).2 ≤ K 15 := nmM_r _ _ _ _ _ (by decide) (by decide) (by decide) (by decide) (by omega)
theorem wyM_r (G : Nat → Int → Int) (n : Int) : 1 ≤ wyM G n ∧ wyM G n ≤ 3 := by unfold wyM; omega
def T40 (G : Nat → Int → Int) : Prop := ∀ i : Int, 0 ≤ i → i < 15 → G 40 i = wayI i
/-- where the j-th neume begins -/
def nsM (K : Nat → Int) (G : Nat → Int → Int) : Nat → Int
  | 0 => 0
  | j + 1 => nsM K G j + (nm0 K G (nsM K G j)).2
def NmP (K : Nat → Int) (G : Nat → Int → Int) (j : Nat) (a b c d : Int → Int) : Prop :=
  (∀ i : Nat, i < j → nsM K G i < K 15) ∧
  (∀ i : Nat, i < j → a i = (nm0 K G (nsM K G i)).1 ∧ b i = nsM K G i ∧ c i = (nm0 K G (nsM K G i)).2) ∧
  (∀ i : Nat, i < j → ∀ k : Int, nsM K G i ≤ k → k < nsM K G (i + 1) → d k = i) ∧
  (∀ i, -2147483648 ≤ a i ∧ a i < 2147483648) ∧ (∀ i, -2147483648 ≤ b i ∧ b i < 2147483648) ∧ (∀ i, -2147483648 ≤ c i ∧ c i < 2147483648) ∧ (∀ i, -2147483648 ≤ d i ∧ d i < 2147483648) ∧
  nsM K G j ≤ K 15 ∧ (j : Int) ≤ nsM K G j
def nmG (G : Nat → Int → Int) (a b c d : Int → Int) : Nat → Int → Int := uN (uN (uN (uN G 36 a) 37 b) 38 c) 39 d
theorem nmG_n {G : Nat → Int → Int} {a b c d : Int → Int} {t : Nat} (h : t ≠ 36 ∧ t ≠ 37 ∧ t ≠ 38 ∧ t ≠ 39) : nmG G a b c d t = G t := by unfold nmG; rw [uN_n h.2.2.2, uN_n h.2.2.1, uN_n h.2.1, uN_n h.1]
set_option maxRecDepth 100000 in
set_option maxHeartbeats 4000000 in
theorem q_sc_loop {I N : Nat → Int} {F : Nat → Int → Int} {K : Nat → Int} {G : Nat → Int → Int} (hG : FR G) (hK : IR K) (hM : MR K) {n0 : Nat} {Z : XW → Option Value → Prop} (h40 : T40 G) {n row k : Int} (hr : 0 ≤ row ∧ row ≤ 100000) (hk : 1 ≤ k ∧ k ≤ 4) : ∀ (m : Nat) (w bs is : Int), 0 ≤ w → w + m = 15 → Vd (rm 1 21 0 0) [] mX9_findNeumes n0 Z 0 0 131 [some (.ref 31), some (J (n)), some (J (if kdS row m w = -100 then bs else k + 1)), some (J (if kdS row m w = -100 then is else kdS row m w)), some (J (row)), some (J (k)), some (J (15))] [] (W2 I N F K G) → Vd (rm 1 21 0 0) [] mX9_findNeumes n0 Z 0 0 96 [some (.ref 31), some (J (n)), some (J (bs)), some (J (is)), some (J (row)), some (J (k)), some (J (w))] [] (W2 I N F K G) := by
  unfold MR at hM
  intro m
  induction m with
  | zero =>
    intro w bs is h0 h1 hz
    obtain rfl : w = 15 := by omega
    rw [kdS, if_pos rfl, if_pos rfl] at hz
    refine v_iload (dec_of DX9_findNeumes 60 rfl) rfl ?_
    refine vi_bi (dec_of DX9_findNeumes 61 rfl) (by decide) ?_
    refine vi_icmp_ge (tgt := 131) (dec_of DX9_findNeumes 62 rfl) (by decide) (by first | omega | exact bnd_r _ _ | exact hG _ _ | exact hK _ | (simp (disch := decide) only [uN_s, uN_n]; omega)) (by first | omega | exact bnd_r _ _ | exact hG _ _ | exact hK _ | (simp (disch := decide) only [uN_s, uN_n]; omega)) (fun c100 => ?_) (fun c100 => absurd c100 (by omega))
    exact hz
  | succ m ih =>
    intro w bs is h0 h1 hz
    have ew := h40 w h0 (by omega)
    have hwr := wayI_r (a := w) (by omega)
    by_cases hq : wayI w = row
    case pos =>
      have e1 : kdS row (m + 1) w = w + 3 := by rw [kdS, if_pos hq]
      have e2 : kdS row m (w + 1) = -100 := by rw [← hq]; exact kdS_no (by omega) m (w + 1) (by omega) (by omega)
      rw [e1, if_neg (by omega), if_neg (by omega)] at hz
      have ih := ih (w + 1) (k + 1) (3 + w) (by omega) (by omega)
      rw [e2, if_pos rfl, if_pos rfl, show (3 : Int) + w = w + 3 by omega] at ih
      refine v_iload (dec_of DX9_findNeumes 60 rfl) rfl ?_
      refine vi_bi (dec_of DX9_findNeumes 61 rfl) (by decide) ?_
      refine vi_icmp_ge (tgt := 131) (dec_of DX9_findNeumes 62 rfl) (by decide) (by first | omega | exact bnd_r _ _ | exact hG _ _ | exact hK _ | (simp (disch := decide) only [uN_s, uN_n]; omega)) (by first | omega | exact bnd_r _ _ | exact hG _ _ | exact hK _ | (simp (disch := decide) only [uN_s, uN_n]; omega)) (fun c100 => absurd c100 (by omega)) (fun c100 => ?_)
      refine v_aload_n (dec_of DX9_findNeumes 63 rfl) rfl ?_
      refine v_get fX9_86 (dec_of DX9_findNeumes 64 rfl) rfl rfl ?_
      refine v_iload (dec_of DX9_findNeumes 65 rfl) rfl ?_
      refine vi_aload (dec_of DX9_findNeumes 66 rfl) rfl (by first | omega | exact bnd_r _ _ | exact hG _ _ | exact hK _ | (simp (disch := decide) only [uN_s, uN_n]; omega)) (by decide) ?_
      rw [ew]
      refine v_iload (dec_of DX9_findNeumes 67 rfl) rfl ?_
      refine vi_icmp_ne (tgt := 125) (dec_of DX9_findNeumes 68 rfl) (by decide) (by first | omega | exact bnd_r _ _ | exact hG _ _ | exact hK _ | (simp (disch := decide) only [uN_s, uN_n]; omega)) (by first | omega | exact bnd_r _ _ | exact hG _ _ | exact hK _ | (simp (disch := decide) only [uN_s, uN_n]; omega)) (fun c112 => absurd c112 (by omega)) (fun c112 => ?_)
      refine v_iload (dec_of DX9_findNeumes 69 rfl) rfl ?_
      refine vi_const (dec_of DX9_findNeumes 70 rfl) ?_
      refine vi_add (dec_of DX9_findNeumes 71 rfl) ?_
      refine v_istore_n (dec_of DX9_findNeumes 72 rfl) (by decide) ?_
      dsimp only [List.set]
      refine vi_const (dec_of DX9_findNeumes 73 rfl) ?_
      refine v_iload (dec_of DX9_findNeumes 74 rfl) rfl ?_
      refine vi_add (dec_of DX9_findNeumes 75 rfl) ?_
      refine v_istore_n (dec_of DX9_findNeumes 76 rfl) (by decide) ?_
      dsimp only [List.set]
      refine vi_inc (dec_of DX9_findNeumes 77 rfl) rfl (by decide) ?_
      dsimp only [List.set]
      refine v_goto (tgt := 96) (dec_of DX9_findNeumes 78 rfl) (by decide) ?_
      rw [show (3 : Int) + w = w + 3 by omega]
      exact ih hz
    rw [show kdS row (m + 1) w = kdS row m (w + 1) by rw [kdS, if_neg hq]] at hz
    refine v_iload (dec_of DX9_findNeumes 60 rfl) rfl ?_
    refine vi_bi (dec_of DX9_findNeumes 61 rfl) (by decide) ?_
    refine vi_icmp_ge (tgt := 131) (dec_of DX9_findNeumes 62 rfl) (by decide) (by first | omega | exact bnd_r _ _ | exact hG _ _ | exact hK _ | (simp (disch := decide) only [uN_s, uN_n]; omega)) (by first | omega | exact bnd_r _ _ | exact hG _ _ | exact hK _ | (simp (disch := decide) only [uN_s, uN_n]; omega)) (fun c100 => absurd c100 (by omega)) (fun c100 => ?_)
    refine v_aload_n (dec_of DX9_findNeumes 63 rfl) rfl ?_
    refine v_get fX9_86 (dec_of DX9_findNeumes 64 rfl) rfl rfl ?_
    refine v_iload (dec_of DX9_findNeumes 65 rfl) rfl ?_
    refine vi_aload (dec_of DX9_findNeumes 66 rfl) rfl (by first | omega | exact bnd_r _ _ | exact hG _ _ | exact hK _ | (simp (disch := decide) only [uN_s, uN_n]; omega)) (by decide) ?_
    rw [ew]
    refine v_iload (dec_of DX9_findNeumes 67 rfl) rfl ?_
    refine vi_icmp_ne (tgt := 125) (dec_of DX9_findNeumes 68 rfl) (by decide) (by first | omega | exact bnd_r _ _ | exact hG _ _ | exact hK _ | (simp (disch := decide) only [uN_s, uN_n]; omega)) (by first | omega | exact bnd_r _ _ | exact hG _ _ | exact hK _ | (simp (disch := decide) only [uN_s, uN_n]; omega)) (fun c112 => ?_) (fun c112 => absurd c112 (by omega))
    refine vi_inc (dec_of DX9_findNeumes 77 rfl) rfl (by decide) ?_
    dsimp only [List.set]
    refine v_goto (tgt := 96) (dec_of DX9_findNeumes 78 rfl) (by decide) ?_
    exact ih (w + 1) bs is (by omega) (by omega) hz
set_option maxRecDepth 100000 in
set_option maxHeartbeats 4000000 in
theorem q_nk_loop {I N : Nat → Int} {F : Nat → Int → Int} {K : Nat → Int} {G : Nat → Int → Int} (hG : FR G) (hK : IR K) (hM : MR K) {n0 : Nat} {Z : XW → Option Value → Prop} (h40 : T40 G) {n : Int} (hn : 0 ≤ n ∧ n < K 15) (hz : ∀ (row k : Int), Vd (rm 1 21 0 0) [] mX9_findNeumes n0 Z 0 0 137 [some (.ref 31), some (J (n)), some (J ((nm0 K G n).2)), some (J ((nm0 K G n).1)), some (J (row)), some (J (k)), none] [] (W2 I N F K G)) : ∀ (m : Nat) (k kd tk wy : Int), k + m = 5 → 1 ≤ k → (0 ≤ wy ∧ (k = 1 → wy ≤ 3) ∧ (k ≤ 2 → wy ≤ 33) ∧ (k ≤ 3 → wy ≤ 333) ∧ (k ≤ 4 → wy ≤ 3333) ∧ wy ≤ 33333) → nmM K G n m k kd tk wy = nm0 K G n → Vd (rm 1 21 0 0) [] mX9_findNeumes n0 Z 0 0 40 [some (.ref 31), some (J (n)), some (J (tk)), some (J (kd)), some (J (wy)), some (J (k)), none] [] (W2 I N F K G) := by
  have hM0 := hM
  unfold MR at hM
  intro m
  induction m with
  | zero =>
    intro k kd tk wy h1 h2 h3 h4
    have e : (nm0 K G n) = (kd, tk) := h4.symm
    have hz := hz wy k
    rw [e] at hz
    refine v_iload (dec_of DX9_findNeumes 26 rfl) rfl ?_
    refine vi_const (dec_of DX9_findNeumes 27 rfl) ?_
    refine vi_icmp_ge (tgt := 137) (dec_of DX9_findNeumes 28 rfl) (by decide) (by first | omega | exact bnd_r _ _ | exact hG _ _ | exact hK _ | (simp (disch := decide) only [uN_s, uN_n]; omega)) (by first | omega | exact bnd_r _ _ | exact hG _ _ | exact hK _ | (simp (disch := decide) only [uN_s, uN_n]; omega)) (fun c43 => ?_) (fun c43 => absurd c43 (by omega))
    exact hz
  | succ m ih =>
    intro k kd tk wy h1 h2 h3 h4
    have hw := wyM_r G (n + k - 1)
    by_cases hs : n + k < K 15 ∧ G 19 (n + k) = G 19 n
    case neg =>
      have e : (nm0 K G n) = (kd, tk) := by rw [← h4, nmM, if_neg hs]
      have hz := hz wy k
      rw [e] at hz
      by_cases hl : n + k < K 15
      case pos =>
        refine v_iload (dec_of DX9_findNeumes 26 rfl) rfl ?_
        refine vi_const (dec_of DX9_findNeumes 27 rfl) ?_
        refine vi_icmp_ge (tgt := 137) (dec_of DX9_findNeumes 28 rfl) (by decide) (by first | omega | exact bnd_r _ _ | exact hG _ _ | exact hK _ | (simp (disch := decide) only [uN_s, uN_n]; omega)) (by first | omega | exact bnd_r _ _ | exact hG _ _ | exact hK _ | (simp (disch := decide) only [uN_s, uN_n]; omega)) (fun c43 => absurd c43 (by omega)) (fun c43 => ?_)
        refine v_iload_n (dec_of DX9_findNeumes 29 rfl) rfl ?_
        refine v_iload (dec_of DX9_findNeumes 30 rfl) rfl ?_
        refine vi_add (dec_of DX9_findNeumes 31 rfl) ?_
        refine v_aload_n (dec_of DX9_findNeumes 32 rfl) rfl ?_
        refine v_get fX9_142 (dec_of DX9_findNeumes 33 rfl) rfl rfl ?_
        refine vi_icmp_ge (tgt := 137) (dec_of DX9_findNeumes 34 rfl) (by decide) (by first | omega | exact bnd_r _ _ | exact hG _ _ | exact hK _ | (simp (disch := decide) only [uN_s, uN_n]; omega)) (by first | omega | exact bnd_r _ _ | exact hG _ _ | exact hK _ | (simp (disch := decide) only [uN_s, uN_n]; omega)) (fun c54 => absurd c54 (by omega)) (fun c54 => ?_)
        refine v_aload_n (dec_of DX9_findNeumes 35 rfl) rfl ?_
        refine v_get fX9_52 (dec_of DX9_findNeumes 36 rfl) rfl rfl ?_
        refine v_iload_n (dec_of DX9_findNeumes 37 rfl) rfl ?_
        refine v_iload (dec_of DX9_findNeumes 38 rfl) rfl ?_
        refine vi_add (dec_of DX9_findNeumes 39 rfl) ?_
        refine vi_aload (dec_of DX9_findNeumes 40 rfl) rfl (by first | omega | exact bnd_r _ _ | exact hG _ _ | exact hK _ | (simp (disch := decide) only [uN_s, uN_n]; omega)) (by decide) ?_
        refine v_aload_n (dec_of DX9_findNeumes 41 rfl) rfl ?_
        refine v_get fX9_52 (dec_of DX9_findNeumes 42 rfl) rfl rfl ?_
        refine v_iload_n (dec_of DX9_findNeumes 43 rfl) rfl ?_
        refine vi_aload (dec_of DX9_findNeumes 44 rfl) rfl (by first | omega | exact bnd_r _ _ | exact hG _ _ | exact hK _ | (simp (disch := decide) only [uN_s, uN_n]; omega)) (by decide) ?_
        refine vi_icmp_ne (tgt := 137) (dec_of DX9_findNeumes 45 rfl) (by decide) (by first | omega | exact bnd_r _ _ | exact hG _ _ | exact hK _ | (simp (disch := decide) only [uN_s, uN_n]; omega)) (by first | omega | exact bnd_r _ _ | exact hG _ _ | exact hK _ | (simp (disch := decide) only [uN_s, uN_n]; omega)) (fun c72 => ?_) (fun c72 => absurd c72 (by omega))
        exact hz
      case neg =>
        refine v_iload (dec_of DX9_findNeumes 26 rfl) rfl ?_
        refine vi_const (dec_of DX9_findNeumes 27 rfl) ?_
        refine vi_icmp_ge (tgt := 137) (dec_of DX9_findNeumes 28 rfl) (by decide) (by first | omega | exact bnd_r _ _ | exact hG _ _ | exact hK _ | (simp (disch := decide) only [uN_s, uN_n]; omega)) (by first | omega | exact bnd_r _ _ | exact hG _ _ | exact hK _ | (simp (disch := decide) only [uN_s, uN_n]; omega)) (fun c43 => absurd c43 (by omega)) (fun c43 => ?_)
        refine v_iload_n (dec_of DX9_findNeumes 29 rfl) rfl ?_
        refine v_iload (dec_of DX9_findNeumes 30 rfl) rfl ?_
        refine vi_add (dec_of DX9_findNeumes 31 rfl) ?_
        refine v_aload_n (dec_of DX9_findNeumes 32 rfl) rfl ?_
        refine v_get fX9_142 (dec_of DX9_findNeumes 33 rfl) rfl rfl ?_
        refine vi_icmp_ge (tgt := 137) (dec_of DX9_findNeumes 34 rfl) (by decide) (by first | omega | exact bnd_r _ _ | exact hG _ _ | exact hK _ | (simp (disch := decide) only [uN_s, uN_n]; omega)) (by first | omega | exact bnd_r _ _ | exact hG _ _ | exact hK _ | (simp (disch := decide) only [uN_s, uN_n]; omega)) (fun c54 => ?_) (fun c54 => absurd c54 (by omega))
        exact hz
    rw [nmM, if_pos hs] at h4
    have nx : Vd (rm 1 21 0 0) [] mX9_findNeumes n0 Z 0 0 131 [some (.ref 31), some (J (n)), some (J (if kdS (10 * wy + wyM G (n + k - 1)) 15 0 = -100 then tk else k + 1)), some (J (if kdS (10 * wy + wyM G (n + k - 1)) 15 0 = -100 then kd else kdS (10 * wy + wyM G (n + k - 1)) 15 0)), some (J (10 * wy + wyM G (n + k - 1))), some (J (k)), some (J (15))] [] (W2 I N F K G) := by
      refine vi_inc (dec_of DX9_findNeumes 79 rfl) rfl (by decide) ?_
      dsimp only [List.set]
      refine v_goto (tgt := 40) (dec_of DX9_findNeumes 80 rfl) (by decide) ?_
      refine Vd_fg 6 ?_
      dsimp only [List.set]
      refine ih (k + 1) _ _ _ (by omega) (by omega) (by omega) ?_
      rw [← h4]
      show _ = if kdS (10 * wy + wyM G (n + k - 1)) 15 0 = -100 then _ else _
      by_cases hq : kdS (10 * wy + wyM G (n + k - 1)) 15 0 = -100
      · rw [if_pos hq, if_pos hq, if_pos hq]
      · rw [if_neg hq, if_neg hq, if_neg hq]; rfl
    refine v_iload (dec_of DX9_findNeumes 26 rfl) rfl ?_
    refine vi_const (dec_of DX9_findNeumes 27 rfl) ?_
    refine vi_icmp_ge (tgt := 137) (dec_of DX9_findNeumes 28 rfl) (by decide) (by first | omega | exact bnd_r _ _ | exact hG _ _ | exact hK _ | (simp (disch := decide) only [uN_s, uN_n]; omega)) (by first | omega | exact bnd_r _ _ | exact hG _ _ | exact hK _ | (simp (disch := decide) only [uN_s, uN_n]; omega)) (fun c43 => absurd c43 (by omega)) (fun c43 => ?_)
    refine v_iload_n (dec_of DX9_findNeumes 29 rfl) rfl ?_
    refine v_iload (dec_of DX9_findNeumes 30 rfl) rfl ?_
    refine vi_add (dec_of DX9_findNeumes 31 rfl) ?_
    refine v_aload_n (dec_of DX9_findNeumes 32 rfl) rfl ?_
    refine v_get fX9_142 (dec_of DX9_findNeumes 33 rfl) rfl rfl ?_
    refine vi_icmp_ge (tgt := 137) (dec_of DX9_findNeumes 34 rfl) (by decide) (by first | omega | exact bnd_r _ _ | exact hG _ _ | exact hK _ | (simp (disch := decide) only [uN_s, uN_n]; omega)) (by first | omega | exact bnd_r _ _ | exact hG _ _ | exact hK _ | (simp (disch := decide) only [uN_s, uN_n]; omega)) (fun c54 => absurd c54 (by omega)) (fun c54 => ?_)
    refine v_aload_n (dec_of DX9_findNeumes 35 rfl) rfl ?_
    refine v_get fX9_52 (dec_of DX9_findNeumes 36 rfl) rfl rfl ?_
    refine v_iload_n (dec_of DX9_findNeumes 37 rfl) rfl ?_
    refine v_iload (dec_of DX9_findNeumes 38 rfl) rfl ?_
    refine vi_add (dec_of DX9_findNeumes 39 rfl) ?_
    refine vi_aload (dec_of DX9_findNeumes 40 rfl) rfl (by first | omega | exact bnd_r _ _ | exact hG _ _ | exact hK _ | (simp (disch := decide) only [uN_s, uN_n]; omega)) (by decide) ?_
    refine v_aload_n (dec_of DX9_findNeumes 41 rfl) rfl ?_
    refine v_get fX9_52 (dec_of DX9_findNeumes 42 rfl) rfl rfl ?_
    refine v_iload_n (dec_of DX9_findNeumes 43 rfl) rfl ?_
    refine vi_aload (dec_of DX9_findNeumes 44 rfl) rfl (by first | omega | exact bnd_r _ _ | exact hG _ _ | exact hK _ | (simp (disch := decide) only [uN_s, uN_n]; omega)) (by decide) ?_
    refine vi_icmp_ne (tgt := 137) (dec_of DX9_findNeumes 45 rfl) (by decide) (by first | omega | exact bnd_r _ _ | exact hG _ _ | exact hK _ | (simp (disch := decide) only [uN_s, uN_n]; omega)) (by first | omega | exact bnd_r _ _ | exact hG _ _ | exact hK _ | (simp (disch := decide) only [uN_s, uN_n]; omega)) (fun c72 => absurd c72 (by omega)) (fun c72 => ?_)
    refine vi_bi (dec_of DX9_findNeumes 46 rfl) (by decide) ?_
    refine v_iload (dec_of DX9_findNeumes 47 rfl) rfl ?_
    refine vi_mul (dec_of DX9_findNeumes 48 rfl) ?_
    refine v_aload_n (dec_of DX9_findNeumes 49 rfl) rfl ?_
    refine v_iload_n (dec_of DX9_findNeumes 50 rfl) rfl ?_
    refine v_iload (dec_of DX9_findNeumes 51 rfl) rfl ?_
    refine vi_add (dec_of DX9_findNeumes 52 rfl) ?_
    refine vi_const (dec_of DX9_findNeumes 53 rfl) ?_
    refine vi_sub (dec_of DX9_findNeumes 54 rfl) ?_
    refine v_V1r (q_wayOf hG hK hM0 (by omega)) lX9_228 (dec_of DX9_findNeumes 55 rfl) rfl rfl (by decide) (nle rfl) rfl ?_
    refine vi_add (dec_of DX9_findNeumes 56 rfl) ?_
    refine v_istore (dec_of DX9_findNeumes 57 rfl) (by decide) ?_
    dsimp only [List.set]
    refine vi_const (dec_of DX9_findNeumes 58 rfl) ?_
    refine v_istore (dec_of DX9_findNeumes 59 rfl) (by decide) ?_
    dsimp only [List.set]
    exact q_sc_loop hG hK hM0 h40 (by omega) (by omega) 15 0 tk kd (by omega) (by omega) nx
def flU (d : Int → Int) (n b j : Int) : Int → Int := fun i => if n ≤ i ∧ i < n + b then j else d i
theorem flU_step {d : Int → Int} {n k j : Int} (hk : 0 ≤ k) : uI (flU d n k j) (n + k) j = flU d n (k + 1) j := by
  funext i
  unfold uI flU
  by_cases h : i = n + k
  · rw [if_pos h, if_pos (by omega)]
  · rw [if_neg h]
    by_cases h2 : n ≤ i ∧ i < n + k
    · rw [if_pos h2, if_pos (by omega)]
    · rw [if_neg h2, if_neg (by omega)]
theorem flU_0 {d : Int → Int} {n j : Int} : flU d n 0 j = d := by
  funext i
  unfold flU
  rw [if_neg (by omega)]
set_option maxRecDepth 100000 in
set_option maxHeartbeats 4000000 in
theorem q_fl_loop {I N : Nat → Int} {F : Nat → Int → Int} {K : Nat → Int} {G : Nat → Int → Int} (hG : FR G) (hK : IR K) (hM : MR K) {n0 : Nat} {Z : XW → Option Value → Prop} {n bs is row : Int} (hn : 0 ≤ n ∧ n + bs ≤ 150) (hb : 0 ≤ bs ∧ bs ≤ 5) {d : Int → Int} (hz : Vd (rm 1 21 0 0) [] mX9_findNeumes n0 Z 0 0 195 [some (.ref 31), some (J (n)), some (J (bs)), some (J (is)), some (J (row)), some (J (bs)), none] [] (W2 I N F K (uN G 39 (flU d n bs (K 35))))) : ∀ (m : Nat) (k : Int), 0 ≤ k → k + m = bs → Vd (rm 1 21 0 0) [] mX9_findNeumes n0 Z 0 0 170 [some (.ref 31), some (J (n)), some (J (bs)), some (J (is)), some (J (row)), some (J (k)), none] [] (W2 I N F K (uN G 39 (flU d n k (K 35)))) := by
  unfold MR at hM
  intro m
  induction m with
  | zero =>
    intro k h0 h1
    obtain rfl : k = bs := by omega
    refine v_iload (dec_of DX9_findNeumes 101 rfl) rfl ?_
    refine v_iload_n (dec_of DX9_findNeumes 102 rfl) rfl ?_
    refine vi_icmp_ge (tgt := 195) (dec_of DX9_findNeumes 103 rfl) (by decide) (by first | omega | exact bnd_r _ _ | exact hG _ _ | exact hK _ | (simp (disch := decide) only [uN_s, uN_n]; omega)) (by first | omega | exact bnd_r _ _ | exact hG _ _ | exact hK _ | (simp (disch := decide) only [uN_s, uN_n]; omega)) (fun c173 => ?_) (fun c173 => absurd c173 (by omega))
    exact hz
  | succ m ih =>
    intro k h0 h1
    refine v_iload (dec_of DX9_findNeumes 101 rfl) rfl ?_
    refine v_iload_n (dec_of DX9_findNeumes 102 rfl) rfl ?_
    refine vi_icmp_ge (tgt := 195) (dec_of DX9_findNeumes 103 rfl) (by decide) (by first | omega | exact bnd_r _ _ | exact hG _ _ | exact hK _ | (simp (disch := decide) only [uN_s, uN_n]; omega)) (by first | omega | exact bnd_r _ _ | exact hG _ _ | exact hK _ | (simp (disch := decide) only [uN_s, uN_n]; omega)) (fun c173 => absurd c173 (by omega)) (fun c173 => ?_)
    refine v_aload_n (dec_of DX9_findNeumes 104 rfl) rfl ?_
    refine v_get fX9_83 (dec_of DX9_findNeumes 105 rfl) rfl rfl ?_
    refine v_iload_n (dec_of DX9_findNeumes 106 rfl) rfl ?_
    refine v_iload (dec_of DX9_findNeumes 107 rfl) rfl ?_
    refine vi_add (dec_of DX9_findNeumes 108 rfl) ?_
    refine v_aload_n (dec_of DX9_findNeumes 109 rfl) rfl ?_
    refine v_get fX9_163 (dec_of DX9_findNeumes 110 rfl) rfl rfl ?_
    refine ms_39 (dec_of DX9_findNeumes 111 rfl) (by first | omega | exact bnd_r _ _ | exact hG _ _ | exact hK _ | (simp (disch := decide) only [uN_s, uN_n]; omega)) ?_
    refine Vd_w (w' := W2 I N F K (uN G 39 (flU d n (k + 1) (K 35)))) (by rw [← flU_step h0]; rfl) ?_
    refine vi_inc (dec_of DX9_findNeumes 112 rfl) rfl (by decide) ?_
    dsimp only [List.set]
    refine v_goto (tgt := 170) (dec_of DX9_findNeumes 113 rfl) (by decide) ?_
    exact ih (k + 1) (by omega) (by omega)
theorem nm0_c {K K1 : Nat → Int} {G G1 : Nat → Int → Int} (e1 : K1 15 = K 15) (e2 : G1 19 = G 19) (e3 : G1 17 = G 17) (e4 : G1 16 = G 16) (n : Int) : nm0 K1 G1 n = nm0 K G n := by
  have key : ∀ (m : Nat) (k kd tk wy : Int), nmM K1 G1 n m k kd tk wy = nmM K G n m k kd tk wy := by
    intro m
    induction m with
    | zero => intro k kd tk wy; rfl
    | succ m ih =>
      intro k kd tk wy
      rw [nmM, nmM, ih, ih, e1, e2, show wyM G1 (n + k - 1) = wyM G (n + k - 1) by unfold wyM; rw [e4]]
  unfold nm0
  rw [key, e3]
theorem nm0_K {K : Nat → Int} {G : Nat → Int → Int} (n : Int) : 1 ≤ (nm0 K G n).1 ∧ (nm0 K G n).1 ≤ 17 := by
  have key : ∀ (m : Nat) (k kd tk wy : Int), 1 ≤ kd ∧ kd ≤ 17 → 1 ≤ (nmM K G n m k kd tk wy).1 ∧ (nmM K G n m k kd tk wy).1 ≤ 17 := by
    intro m
    induction m with
    | zero => intro k kd tk wy h; exact h
    | succ m ih =>
      intro k kd tk wy h
      unfold nmM
      have hq := kindW_r (10 * wy + wyM G (n + k - 1))
      split
      · split
        · exact ih _ _ _ _ h
        · exact ih _ _ _ _ (by omega)
      · exact h
  exact key _ _ _ _ _ (by split <;> omega)
theorem nsM_le {K : Nat → Int} {G : Nat → Int → Int} {j : Nat} (h : ∀ i : Nat, i < j → nsM K G i < K 15) {a b : Nat} (hab : a ≤ b) (hb : b ≤ j) : nsM K G a ≤ nsM K G b := by
  induction b with
  | zero => obtain rfl : a = 0 := by omega
            exact Int.le_refl _
  | succ b ih =>
    by_cases e : a = b + 1
    · rw [e]; exact Int.le_refl _
    · have h1 := ih (by omega) (by omega)
      have h2 := (nm0_r (G := G) (h b (by omega))).1
      show nsM K G a ≤ nsM K G b + (nm0 K G (nsM K G b)).2
      omega
theorem NmP_step {K : Nat → Int} {G : Nat → Int → Int} {j : Nat} {a b c d : Int → Int} (h : NmP K G j a b c d) (hn : nsM K G j < K 15) (hM : K 15 ≤ 150) : NmP K G (j + 1) (uI a j (nm0 K G (nsM K G j)).1) (uI b j (nsM K G j)) (uI c j (nm0 K G (nsM K G j)).2) (flU d (nsM K G j) (nm0 K G (nsM K G j)).2 j) := by
  obtain ⟨h1, h2, h3, h4, h5, h6, h7, h8, h9⟩ := h
  have hr := nm0_r (G := G) hn
  have hk := nm0_K (K := K) (G := G) (nsM K G j)
  have h1' : ∀ i : Nat, i < j + 1 → nsM K G i < K 15 := fun i hi => by
    by_cases e : i = j
    · rw [e]; exact hn
    · exact h1 i (by omega)
  refine ⟨h1', fun i hi => ?_, fun i hi k hk1 hk2 => ?_, uI_r h4 (by omega), uI_r h5 (by omega), uI_r h6 (by omega), fun i => ?_, ?_, ?_⟩
  · by_cases e : i = j
    · subst e
      exact ⟨uI_s, uI_s, uI_s⟩
    · have := h2 i (by omega)
      rw [uI_n (by omega), uI_n (by omega), uI_n (by omega)]
      exact this
  · by_cases e : i = j
    · subst e
      unfold flU
      rw [if_pos ⟨hk1, hk2⟩]
    · have h10 := nsM_le h1' (a := i + 1) (b := j) (by omega) (by omega)
      unfold flU
      rw [if_neg (by omega)]
      exact h3 i (by omega) k hk1 hk2
  · unfold flU
    have := h7 i
    split <;> omega
  · show nsM K G j + (nm0 K G (nsM K G j)).2 ≤ K 15
    omega
  · show ((j + 1 : Nat) : Int) ≤ nsM K G j + (nm0 K G (nsM K G j)).2
    omega
set_option maxRecDepth 100000 in
set_option maxHeartbeats 4000000 in
theorem q_fn_loop {I N : Nat → Int} {F : Nat → Int → Int} {K : Nat → Int} {G : Nat → Int → Int} (hG : FR G) (hK : IR K) (hM : MR K) {n0 : Nat} {Z : XW → Option Value → Prop} (h40 : T40 G) (hz : ∀ (j : Nat) (a b c d : Int → Int), NmP K G j a b c d → nsM K G j = K 15 → Z (W2 I N F (uN K 35 j) (nmG G a b c d)) none) : ∀ (m j : Nat) (a b c d : Int → Int), K 15 - nsM K G j ≤ m → NmP K G j a b c d → Vd (rm 1 21 0 0) [] mX9_findNeumes n0 Z 0 0 7 [some (.ref 31), some (J (nsM K G j)), none, none, none, none, none] [] (W2 I N F (uN K 35 j) (nmG G a b c d)) := by
  have hM0 := hM
  unfold MR at hM
  intro m
  induction m with
  | zero =>
    intro j a b c d h1 hP
    have h8 := hP.2.2.2.2.2.2.2.1
    have h9 := hP.2.2.2.2.2.2.2.2
    refine v_iload_n (dec_of DX9_findNeumes 5 rfl) rfl ?_
    refine v_aload_n (dec_of DX9_findNeumes 6 rfl) rfl ?_
    refine v_get fX9_142 (dec_of DX9_findNeumes 7 rfl) rfl rfl ?_
    try simp (disch := decide) only [uN_s, uN_n, nmG_n]
    refine vi_icmp_ge (tgt := 212) (dec_of DX9_findNeumes 8 rfl) (by decide) (by first | omega | exact bnd_r _ _ | exact hG _ _ | exact hK _ | (simp (disch := decide) only [uN_s, uN_n]; omega)) (by first | omega | exact bnd_r _ _ | exact hG _ _ | exact hK _ | (simp (disch := decide) only [uN_s, uN_n]; omega)) (fun c12 => ?_) (fun c12 => absurd c12 (by omega))
    exact vi_vret (dec_of DX9_findNeumes 125 rfl) rfl ⟨by decide, by decide⟩ (hz j a b c d hP (by omega))
  | succ m ih =>
    intro j a b c d h1 hP
    have h8 := hP.2.2.2.2.2.2.2.1
    have h9 := hP.2.2.2.2.2.2.2.2
    by_cases hl : nsM K G j < K 15
    case neg =>
      refine v_iload_n (dec_of DX9_findNeumes 5 rfl) rfl ?_
      refine v_aload_n (dec_of DX9_findNeumes 6 rfl) rfl ?_
      refine v_get fX9_142 (dec_of DX9_findNeumes 7 rfl) rfl rfl ?_
      try simp (disch := decide) only [uN_s, uN_n, nmG_n]
      refine vi_icmp_ge (tgt := 212) (dec_of DX9_findNeumes 8 rfl) (by decide) (by first | omega | exact bnd_r _ _ | exact hG _ _ | exact hK _ | (simp (disch := decide) only [uN_s, uN_n]; omega)) (by first | omega | exact bnd_r _ _ | exact hG _ _ | exact hK _ | (simp (disch := decide) only [uN_s, uN_n]; omega)) (fun c12 => ?_) (fun c12 => absurd c12 (by omega))
      exact vi_vret (dec_of DX9_findNeumes 125 rfl) rfl ⟨by decide, by decide⟩ (hz j a b c d hP (by omega))
    have hG1 : FR (nmG G a b c d) := (((hG.up hP.2.2.2.1).up hP.2.2.2.2.1).up hP.2.2.2.2.2.1).up hP.2.2.2.2.2.2.1
    have hK1 : IR (uN K 35 j) := hK.up (by omega)
    have hM1 : MR (uN K 35 j) := by unfold MR; simp (disch := decide) only [uN_s, uN_n]; omega
    have hr := nm0_r (G := G) hl
    have en : nm0 (uN K 35 (j : Int)) (nmG G a b c d) (nsM K G j) = nm0 K G (nsM K G j) := nm0_c rfl rfl rfl rfl _
    have hS := NmP_step hP hl (by omega)
    have fin : ∀ (row k : Int), Vd (rm 1 21 0 0) [] mX9_findNeumes n0 Z 0 0 137 [some (.ref 31), some (J (nsM K G j)), some (J ((nm0 K G (nsM K G j)).2)), some (J ((nm0 K G (nsM K G j)).1)), some (J (row)), some (J (k)), none] [] (W2 I N F (uN K 35 j) (nmG G a b c d)) := by
      intro row k
      refine v_aload_n (dec_of DX9_findNeumes 81 rfl) rfl ?_
      refine v_get fX9_74 (dec_of DX9_findNeumes 82 rfl) rfl rfl ?_
      refine v_aload_n (dec_of DX9_findNeumes 83 rfl) rfl ?_
      refine v_get fX9_163 (dec_of DX9_findNeumes 84 rfl) rfl rfl ?_
      refine v_iload_n (dec_of DX9_findNeumes 85 rfl) rfl ?_
      refine ms_36 (dec_of DX9_findNeumes 86 rfl) (by first | omega | exact bnd_r _ _ | exact hG _ _ | exact hK _ | (simp (disch := decide) only [uN_s, uN_n]; omega)) ?_
      refine v_aload_n (dec_of DX9_findNeumes 87 rfl) rfl ?_
      refine v_get fX9_77 (dec_of DX9_findNeumes 88 rfl) rfl rfl ?_
      refine v_aload_n (dec_of DX9_findNeumes 89 rfl) rfl ?_
      refine v_get fX9_163 (dec_of DX9_findNeumes 90 rfl) rfl rfl ?_
      refine v_iload_n (dec_of DX9_findNeumes 91 rfl) rfl ?_
      refine ms_37 (dec_of DX9_findNeumes 92 rfl) (by first | omega | exact bnd_r _ _ | exact hG _ _ | exact hK _ | (simp (disch := decide) only [uN_s, uN_n]; omega)) ?_
      refine v_aload_n (dec_of DX9_findNeumes 93 rfl) rfl ?_
      refine v_get fX9_80 (dec_of DX9_findNeumes 94 rfl) rfl rfl ?_
      refine v_aload_n (dec_of DX9_findNeumes 95 rfl) rfl ?_
      refine v_get fX9_163 (dec_of DX9_findNeumes 96 rfl) rfl rfl ?_
      refine v_iload_n (dec_of DX9_findNeumes 97 rfl) rfl ?_
      refine ms_38 (dec_of DX9_findNeumes 98 rfl) (by first | omega | exact bnd_r _ _ | exact hG _ _ | exact hK _ | (simp (disch := decide) only [uN_s, uN_n]; omega)) ?_
      refine vi_const (dec_of DX9_findNeumes 99 rfl) ?_
      refine v_istore (dec_of DX9_findNeumes 100 rfl) (by decide) ?_
      dsimp only [List.set]
      refine Vd_w (w' := W2 I N F (uN K 35 j) (uN (nmG G (uI a j (nm0 K G (nsM K G j)).1) (uI b j (nsM K G j)) (uI c j (nm0 K G (nsM K G j)).2) d) 39 (flU d (nsM K G j) 0 ((uN K 35 (j : Int)) 35)))) (by rw [flU_0]; rfl) ?_
      refine q_fl_loop (K := uN K 35 j) (FR.up (((FR.up hG hS.2.2.2.1).up hS.2.2.2.2.1).up hS.2.2.2.2.2.1) hP.2.2.2.2.2.2.1) hK1 hM1 (by omega) (by omega) ?_ (nm0 K G (nsM K G j)).2.toNat 0 (by omega) (by omega)
      refine v_aload_n (dec_of DX9_findNeumes 114 rfl) rfl ?_
      refine v_dup (dec_of DX9_findNeumes 115 rfl) rfl ?_
      refine v_get fX9_163 (dec_of DX9_findNeumes 116 rfl) rfl rfl ?_
      refine vi_const (dec_of DX9_findNeumes 117 rfl) ?_
      refine vi_add (dec_of DX9_findNeumes 118 rfl) ?_
      refine mp_35 fX9_163 (dec_of DX9_findNeumes 119 rfl) ?_
      refine v_iload_n (dec_of DX9_findNeumes 120 rfl) rfl ?_
      refine v_iload_n (dec_of DX9_findNeumes 121 rfl) rfl ?_
      refine vi_add (dec_of DX9_findNeumes 122 rfl) ?_
      refine v_istore_n (dec_of DX9_findNeumes 123 rfl) (by decide) ?_
      dsimp only [List.set]
      refine v_goto (tgt := 7) (dec_of DX9_findNeumes 124 rfl) (by decide) ?_
      refine Vd_fg 2 ?_
      refine Vd_fg 3 ?_
      refine Vd_fg 4 ?_
      refine Vd_fg 5 ?_
      dsimp only [List.set]
      exact ih (j + 1) _ _ _ _ (show K 15 - (nsM K G j + (nm0 K G (nsM K G j)).2) ≤ m by omega) hS
    have h17 := hG 17 (nsM K G j)
    by_cases hm : bnd (G 17 (nsM K G j)) 4 = 0
    case pos =>
      refine v_iload_n (dec_of DX9_findNeumes 5 rfl) rfl ?_
      refine v_aload_n (dec_of DX9_findNeumes 6 rfl) rfl ?_
      refine v_get fX9_142 (dec_of DX9_findNeumes 7 rfl) rfl rfl ?_
      try simp (disch := decide) only [uN_s, uN_n, nmG_n]
      refine vi_icmp_ge (tgt := 212) (dec_of DX9_findNeumes 8 rfl) (by decide) (by first | omega | exact bnd_r _ _ | exact hG _ _ | exact hK _ | (simp (disch := decide) only [uN_s, uN_n]; omega)) (by first | omega | exact bnd_r _ _ | exact hG _ _ | exact hK _ | (simp (disch := decide) only [uN_s, uN_n]; omega)) (fun c12 => absurd c12 (by omega)) (fun c12 => ?_)
      refine vi_const (dec_of DX9_findNeumes 9 rfl) ?_
      refine v_istore_n (dec_of DX9_findNeumes 10 rfl) (by decide) ?_
      dsimp only [List.set]
      refine v_aload_n (dec_of DX9_findNeumes 11 rfl) rfl ?_
      refine v_get fX9_46 (dec_of DX9_findNeumes 12 rfl) rfl rfl ?_
      try simp (disch := decide) only [uN_s, uN_n, nmG_n]
      refine v_iload_n (dec_of DX9_findNeumes 13 rfl) rfl ?_
      refine vi_aload (dec_of DX9_findNeumes 14 rfl) rfl (by first | omega | exact bnd_r _ _ | exact hG _ _ | exact hK _ | (simp (disch := decide) only [uN_s, uN_n]; omega)) (by decide) ?_
      try simp (disch := decide) only [uN_s, uN_n, nmG_n]
      refine vi_const (dec_of DX9_findNeumes 15 rfl) ?_
      refine vi_and (dec_of DX9_findNeumes 16 rfl) ?_
      refine vi_if_eq (tgt := 32) (dec_of DX9_findNeumes 17 rfl) (by decide) (by first | omega | exact bnd_r _ _ | exact hG _ _ | exact hK _ | (simp (disch := decide) only [uN_s, uN_n]; omega)) (fun c25 => ?_) (fun c25 => absurd c25 (by omega))
      refine vi_const (dec_of DX9_findNeumes 20 rfl) ?_
      refine v_istore_n (dec_of DX9_findNeumes 21 rfl) (by decide) ?_
      dsimp only [List.set]
      refine vi_const (dec_of DX9_findNeumes 22 rfl) ?_
      refine v_istore (dec_of DX9_findNeumes 23 rfl) (by decide) ?_
      dsimp only [List.set]
      refine vi_const (dec_of DX9_findNeumes 24 rfl) ?_
      refine v_istore (dec_of DX9_findNeumes 25 rfl) (by decide) ?_
      dsimp only [List.set]
      refine q_nk_loop hG1 hK1 hM1 h40 (show 0 ≤ nsM K G j ∧ nsM K G j < K 15 by omega) (fun row k => by rw [en]; exact fin row k) 4 1 _ 1 0 (by decide) (by decide) (by omega) ?_
      unfold nm0
      rw [show nmG G a b c d 17 = G 17 from rfl, if_pos hm]
    refine v_iload_n (dec_of DX9_findNeumes 5 rfl) rfl ?_
    refine v_aload_n (dec_of DX9_findNeumes 6 rfl) rfl ?_
    refine v_get fX9_142 (dec_of DX9_findNeumes 7 rfl) rfl rfl ?_
    try simp (disch := decide) only [uN_s, uN_n, nmG_n]
    refine vi_icmp_ge (tgt := 212) (dec_of DX9_findNeumes 8 rfl) (by decide) (by first | omega | exact bnd_r _ _ | exact hG _ _ | exact hK _ | (simp (disch := decide) only [uN_s, uN_n]; omega)) (by first | omega | exact bnd_r _ _ | exact hG _ _ | exact hK _ | (simp (disch := decide) only [uN_s, uN_n]; omega)) (fun c12 => absurd c12 (by omega)) (fun c12 => ?_)
    refine vi_const (dec_of DX9_findNeumes 9 rfl) ?_
    refine v_istore_n (dec_of DX9_findNeumes 10 rfl) (by decide) ?_
    dsimp only [List.set]
    refine v_aload_n (dec_of DX9_findNeumes 11 rfl) rfl ?_
    refine v_get fX9_46 (dec_of DX9_findNeumes 12 rfl) rfl rfl ?_
    try simp (disch := decide) only [uN_s, uN_n, nmG_n]
    refine v_iload_n (dec_of DX9_findNeumes 13 rfl) rfl ?_
    refine vi_aload (dec_of DX9_findNeumes 14 rfl) rfl (by first | omega | exact bnd_r _ _ | exact hG _ _ | exact hK _ | (simp (disch := decide) only [uN_s, uN_n]; omega)) (by decide) ?_
    try simp (disch := decide) only [uN_s, uN_n, nmG_n]
    refine vi_const (dec_of DX9_findNeumes 15 rfl) ?_
    refine vi_and (dec_of DX9_findNeumes 16 rfl) ?_
    refine vi_if_eq (tgt := 32) (dec_of DX9_findNeumes 17 rfl) (by decide) (by first | omega | exact bnd_r _ _ | exact hG _ _ | exact hK _ | (simp (disch := decide) only [uN_s, uN_n]; omega)) (fun c25 => absurd c25 (by omega)) (fun c25 => ?_)
    refine vi_const (dec_of DX9_findNeumes 18 rfl) ?_
    refine v_goto (tgt := 33) (dec_of DX9_findNeumes 19 rfl) (by decide) ?_
    refine v_istore_n (dec_of DX9_findNeumes 21 rfl) (by decide) ?_
    dsimp only [List.set]
    refine vi_const (dec_of DX9_findNeumes 22 rfl) ?_
    refine v_istore (dec_of DX9_findNeumes 23 rfl) (by decide) ?_
    dsimp only [List.set]
    refine vi_const (dec_of DX9_findNeumes 24 rfl) ?_
    refine v_istore (dec_of DX9_findNeumes 25 rfl) (by decide) ?_
    dsimp only [List.set]
    refine q_nk_loop hG1 hK1 hM1 h40 (show 0 ≤ nsM K G j ∧ nsM K G j < K 15 by omega) (fun row k => by rw [en]; exact fin row k) 4 1 _ 1 0 (by decide) (by decide) (by omega) ?_
    unfold nm0
    rw [show nmG G a b c d 17 = G 17 from rfl, if_neg hm]
set_option maxRecDepth 100000 in
theorem q_fn {I N : Nat → Int} {F : Nat → Int → Int} {K : Nat → Int} {G : Nat → Int → Int} (hG : FR G) (hK : IR K) (hM : MR K) (h40 : T40 G) : Sp (rm 1 21 0 0) mX9_findNeumes [.ref 31] (W2 I N F K G) (fun w r => r = none ∧ ∃ (j : Nat) (a b c d : Int → Int), w = W2 I N F (uN K 35 j) (nmG G a b c d) ∧ NmP K G j a b c d ∧ nsM K G j = K 15) := by
  refine sp_of (ls := [some (.ref 31), none, none, none, none, none, none]) (by decide) (nle rfl) rfl rfl ?_
  have hM0 := hM
  unfold MR at hM
  refine v_aload_n (dec_of DX9_findNeumes 0 rfl) rfl ?_
  refine vi_const (dec_of DX9_findNeumes 1 rfl) ?_
  refine mp_35 fX9_163 (dec_of DX9_findNeumes 2 rfl) ?_
  refine vi_const (dec_of DX9_findNeumes 3 rfl) ?_
  refine v_istore_n (dec_of DX9_findNeumes 4 rfl) (by decide) ?_
  dsimp only [List.set]
  refine Vd_w (w' := W2 I N F (uN K 35 ((0 : Nat) : Int)) (nmG G (G 36) (G 37) (G 38) (G 39))) rfl ?_
  exact q_fn_loop hG hK hM0 h40 (fun j a b c d h e => ⟨rfl, j, a, b, c, d, rfl, h, e⟩) (K 15).toNat 0 _ _ _ _ (show K 15 - 0 ≤ ((K 15).toNat : Int) by omega) ⟨fun i h => absurd h (by omega), fun i h => absurd h (by omega), fun i h => absurd h (by omega), hG 36, hG 37, hG 38, hG 39, (show (0 : Int) ≤ K 15 by omega), (show ((0 : Nat) : Int) ≤ 0 by decide)⟩
