/-! the reference: workOut, read (printed by wip/tools/gen_m15.py) -/
def pvM (G : Nat → Int → Int) (fl : Int → Int → Int) (wd : Int → Int) (s h : Int) : Int := if s = 0 then 0 else crM G fl wd (s - 1) (G 9 s) h
set_option maxRecDepth 100000 in
set_option maxHeartbeats 8000000 in
theorem q_w1_out {I N : Nat → Int} {F : Nat → Int → Int} {K : Nat → Int} {G : Nat → Int → Int} (hG : FR G) (hK : IR K) (hM : MR K) {n0 : Nat} {Z : XW → Option Value → Prop} {nt en cB : Int → Int} {fl : Int → Int → Int} {wd st sm gd : Int → Int} (hW : WkP K G nt en cB fl wd st sm gd) (h34 : T34 G) (hz : ∀ (a b f : Int → Int), (∀ i : Int, 0 ≤ i → i < K 15 → a i = st i ∧ b i = sm i) → (∀ i, -2147483648 ≤ a i ∧ a i < 2147483648) → (∀ i, -2147483648 ≤ b i ∧ b i < 2147483648) → (∀ i, -2147483648 ≤ f i ∧ f i < 2147483648) → ∀ x y z : Int, Vd (rm 2 47 0 0) [] mX9_workOut n0 Z 0 0 253 [some (.ref 31), some (J (x)), some (J (y)), some (J (z)), none] [] (W2 I N F K (wkG G a b f))) : ∀ (m : Nat) (s : Int) (a b f : Int → Int), 0 ≤ s → s + m = K 3 → W1 G nt st sm (G 9 s) (pvM G fl wd s) a b f → Vd (rm 2 47 0 0) [] mX9_workOut n0 Z 0 0 10 [some (.ref 31), some (J (cB (G 9 s))), some (J (nt (G 9 s))), some (J (s)), none] [] (W2 I N F K (wkG G a b f)) := by
  have hM0 := hM
  have hW0 := hW
  unfold MR at hM
  obtain ⟨w1, w2, w3, w4, w5, w6, w7, w8⟩ := hW
  intro m
  induction m with
  | zero =>
    intro s a b f h1 h2 hP
    obtain rfl : s = K 3 := by omega
    obtain ⟨p1, p2, p3, p4, p5⟩ := hP
    refine v_iload_n (dec_of DX9_workOut 8 rfl) rfl ?_
    refine v_aload_n (dec_of DX9_workOut 9 rfl) rfl ?_
    refine v_get fX9_133 (dec_of DX9_workOut 10 rfl) rfl rfl ?_
    try simp (disch := decide) only [uN_s, uN_n, wkG_n, wkG_30, wkG_31, wkG_33]
    refine vi_icmp_ge (tgt := 253) (dec_of DX9_workOut 11 rfl) (by decide) (by first | omega | exact bnd_r _ _ | exact hG _ _ | exact hK _ | (simp (disch := decide) only [uN_s, uN_n]; omega)) (by first | omega | exact bnd_r _ _ | exact hG _ _ | exact hK _ | (simp (disch := decide) only [uN_s, uN_n]; omega)) (fun c15 => ?_) (fun c15 => absurd c15 (by omega))
    exact hz a b f (fun i h0 h1 => p1 i h0 (by rw [w1.2, w5.2.2.2.1]; exact h1)) p3 p4 p5 _ _ _
  | succ m ih =>
    intro s a b f h1 h2 hP
    obtain ⟨p1, p2, p3, p4, p5⟩ := hP
    have g9 := w2 s h1 (by omega)
    have hG1 : FR (wkG G a b f) := wkG_r hG p3 p4 p5
    have hun : ∀ i, -2147483648 ≤ clr f 0 13 i ∧ clr f 0 13 i < 2147483648 := fun i => by unfold clr; have := p5 i; split <;> omega
    have f43 : ∀ f : Int → Int, (∀ h : Int, 0 ≤ h → h ≤ 12 → f h = crM G fl wd s (G 9 s) h) → (∀ i, -2147483648 ≤ f i ∧ f i < 2147483648) → Vd (rm 2 47 0 0) [] mX9_workOut n0 Z 0 0 43 [some (.ref 31), some (J (cB (G 9 s))), some (J (nt (G 9 s))), some (J (s)), none] [] (W2 I N F K (wkG G a b f)) := by
      intro f q2 q5
      refine v_aload_n (dec_of DX9_workOut 27 rfl) rfl ?_
      refine v_get fX9_31 (dec_of DX9_workOut 28 rfl) rfl rfl ?_
      try simp (disch := decide) only [uN_s, uN_n, wkG_n, wkG_30, wkG_31, wkG_33]
      refine v_iload_n (dec_of DX9_workOut 29 rfl) rfl ?_
      refine vi_aload (dec_of DX9_workOut 30 rfl) rfl (by first | omega | exact bnd_r _ _ | exact hG _ _ | exact hK _ | (simp (disch := decide) only [uN_s, uN_n]; omega)) (by decide) ?_
      try simp (disch := decide) only [uN_s, uN_n, wkG_n, wkG_30, wkG_31, wkG_33]
      refine v_istore (dec_of DX9_workOut 31 rfl) (by decide) ?_
      dsimp only [List.set]
      refine q_w1_in hG hK hM0 hW0 h34 (by omega) (fun a b f hP => ?_) (G 9 (s + 1) - G 9 s).toNat (G 9 s) a b f (by omega) (by omega) ⟨p1, q2, p3, p4, q5⟩
      refine vi_inc (dec_of DX9_workOut 141 rfl) rfl (by decide) ?_
      dsimp only [List.set]
      refine v_goto (tgt := 10) (dec_of DX9_workOut 142 rfl) (by decide) ?_
      refine Vd_fg 4 ?_
      dsimp only [List.set]
      refine ih (s + 1) a b f (by omega) (by omega) ⟨hP.1, fun h h0 h1 => ?_, hP.2.2⟩
      rw [hP.2.1 h h0 h1, pvM, if_neg (by omega), show s + 1 - 1 = s by omega]
    by_cases s0 : s = 0
    case pos =>
      refine v_iload_n (dec_of DX9_workOut 8 rfl) rfl ?_
      refine v_aload_n (dec_of DX9_workOut 9 rfl) rfl ?_
      refine v_get fX9_133 (dec_of DX9_workOut 10 rfl) rfl rfl ?_
      try simp (disch := decide) only [uN_s, uN_n, wkG_n, wkG_30, wkG_31, wkG_33]
      refine vi_icmp_ge (tgt := 253) (dec_of DX9_workOut 11 rfl) (by decide) (by first | omega | exact bnd_r _ _ | exact hG _ _ | exact hK _ | (simp (disch := decide) only [uN_s, uN_n]; omega)) (by first | omega | exact bnd_r _ _ | exact hG _ _ | exact hK _ | (simp (disch := decide) only [uN_s, uN_n]; omega)) (fun c15 => absurd c15 (by omega)) (fun c15 => ?_)
      refine v_iload_n (dec_of DX9_workOut 12 rfl) rfl ?_
      refine vi_if_le (tgt := 43) (dec_of DX9_workOut 13 rfl) (by decide) (by first | omega | exact bnd_r _ _ | exact hG _ _ | exact hK _ | (simp (disch := decide) only [uN_s, uN_n]; omega)) (fun c19 => ?_) (fun c19 => absurd c19 (by omega))
      refine f43 f (fun h q0 q1 => ?_) p5
      subst s0
      rw [p2 h q0 q1, pvM, if_pos rfl, crM, if_neg (by omega)]
    by_cases ew : G 8 s = G 8 (s - 1)
    case pos =>
      refine v_iload_n (dec_of DX9_workOut 8 rfl) rfl ?_
      refine v_aload_n (dec_of DX9_workOut 9 rfl) rfl ?_
      refine v_get fX9_133 (dec_of DX9_workOut 10 rfl) rfl rfl ?_
      try simp (disch := decide) only [uN_s, uN_n, wkG_n, wkG_30, wkG_31, wkG_33]
      refine vi_icmp_ge (tgt := 253) (dec_of DX9_workOut 11 rfl) (by decide) (by first | omega | exact bnd_r _ _ | exact hG _ _ | exact hK _ | (simp (disch := decide) only [uN_s, uN_n]; omega)) (by first | omega | exact bnd_r _ _ | exact hG _ _ | exact hK _ | (simp (disch := decide) only [uN_s, uN_n]; omega)) (fun c15 => absurd c15 (by omega)) (fun c15 => ?_)
      refine v_iload_n (dec_of DX9_workOut 12 rfl) rfl ?_
      refine vi_if_le (tgt := 43) (dec_of DX9_workOut 13 rfl) (by decide) (by first | omega | exact bnd_r _ _ | exact hG _ _ | exact hK _ | (simp (disch := decide) only [uN_s, uN_n]; omega)) (fun c19 => absurd c19 (by omega)) (fun c19 => ?_)
      refine v_aload_n (dec_of DX9_workOut 14 rfl) rfl ?_
      refine v_get fX9_28 (dec_of DX9_workOut 15 rfl) rfl rfl ?_
      try simp (disch := decide) only [uN_s, uN_n, wkG_n, wkG_30, wkG_31, wkG_33]
      refine v_iload_n (dec_of DX9_workOut 16 rfl) rfl ?_
      refine vi_aload (dec_of DX9_workOut 17 rfl) rfl (by first | omega | exact bnd_r _ _ | exact hG _ _ | exact hK _ | (simp (disch := decide) only [uN_s, uN_n]; omega)) (by decide) ?_
      try simp (disch := decide) only [uN_s, uN_n, wkG_n, wkG_30, wkG_31, wkG_33]
      refine v_aload_n (dec_of DX9_workOut 18 rfl) rfl ?_
      refine v_get fX9_28 (dec_of DX9_workOut 19 rfl) rfl rfl ?_
      try simp (disch := decide) only [uN_s, uN_n, wkG_n, wkG_30, wkG_31, wkG_33]
      refine v_iload_n (dec_of DX9_workOut 20 rfl) rfl ?_
      refine vi_const (dec_of DX9_workOut 21 rfl) ?_
      refine vi_sub (dec_of DX9_workOut 22 rfl) ?_
      refine vi_aload (dec_of DX9_workOut 23 rfl) rfl (by first | omega | exact bnd_r _ _ | exact hG _ _ | exact hK _ | (simp (disch := decide) only [uN_s, uN_n]; omega)) (by decide) ?_
      try simp (disch := decide) only [uN_s, uN_n, wkG_n, wkG_30, wkG_31, wkG_33]
      refine vi_icmp_eq (tgt := 43) (dec_of DX9_workOut 24 rfl) (by decide) (by first | omega | exact bnd_r _ _ | exact hG _ _ | exact hK _ | (simp (disch := decide) only [uN_s, uN_n]; omega)) (by first | omega | exact bnd_r _ _ | exact hG _ _ | exact hK _ | (simp (disch := decide) only [uN_s, uN_n]; omega)) (fun c36 => ?_) (fun c36 => absurd c36 (by omega))
      refine f43 f (fun h h0 h1 => ?_) p5
      rw [p2 h h0 h1, pvM, if_neg s0, crM, crM, ew]
    refine v_iload_n (dec_of DX9_workOut 8 rfl) rfl ?_
    refine v_aload_n (dec_of DX9_workOut 9 rfl) rfl ?_
    refine v_get fX9_133 (dec_of DX9_workOut 10 rfl) rfl rfl ?_
    try simp (disch := decide) only [uN_s, uN_n, wkG_n, wkG_30, wkG_31, wkG_33]
    refine vi_icmp_ge (tgt := 253) (dec_of DX9_workOut 11 rfl) (by decide) (by first | omega | exact bnd_r _ _ | exact hG _ _ | exact hK _ | (simp (disch := decide) only [uN_s, uN_n]; omega)) (by first | omega | exact bnd_r _ _ | exact hG _ _ | exact hK _ | (simp (disch := decide) only [uN_s, uN_n]; omega)) (fun c15 => absurd c15 (by omega)) (fun c15 => ?_)
    refine v_iload_n (dec_of DX9_workOut 12 rfl) rfl ?_
    refine vi_if_le (tgt := 43) (dec_of DX9_workOut 13 rfl) (by decide) (by first | omega | exact bnd_r _ _ | exact hG _ _ | exact hK _ | (simp (disch := decide) only [uN_s, uN_n]; omega)) (fun c19 => absurd c19 (by omega)) (fun c19 => ?_)
    refine v_aload_n (dec_of DX9_workOut 14 rfl) rfl ?_
    refine v_get fX9_28 (dec_of DX9_workOut 15 rfl) rfl rfl ?_
    try simp (disch := decide) only [uN_s, uN_n, wkG_n, wkG_30, wkG_31, wkG_33]
    refine v_iload_n (dec_of DX9_workOut 16 rfl) rfl ?_
    refine vi_aload (dec_of DX9_workOut 17 rfl) rfl (by first | omega | exact bnd_r _ _ | exact hG _ _ | exact hK _ | (simp (disch := decide) only [uN_s, uN_n]; omega)) (by decide) ?_
    try simp (disch := decide) only [uN_s, uN_n, wkG_n, wkG_30, wkG_31, wkG_33]
    refine v_aload_n (dec_of DX9_workOut 18 rfl) rfl ?_
    refine v_get fX9_28 (dec_of DX9_workOut 19 rfl) rfl rfl ?_
    try simp (disch := decide) only [uN_s, uN_n, wkG_n, wkG_30, wkG_31, wkG_33]
    refine v_iload_n (dec_of DX9_workOut 20 rfl) rfl ?_
    refine vi_const (dec_of DX9_workOut 21 rfl) ?_
    refine vi_sub (dec_of DX9_workOut 22 rfl) ?_
    refine vi_aload (dec_of DX9_workOut 23 rfl) rfl (by first | omega | exact bnd_r _ _ | exact hG _ _ | exact hK _ | (simp (disch := decide) only [uN_s, uN_n]; omega)) (by decide) ?_
    try simp (disch := decide) only [uN_s, uN_n, wkG_n, wkG_30, wkG_31, wkG_33]
    refine vi_icmp_eq (tgt := 43) (dec_of DX9_workOut 24 rfl) (by decide) (by first | omega | exact bnd_r _ _ | exact hG _ _ | exact hK _ | (simp (disch := decide) only [uN_s, uN_n]; omega)) (by first | omega | exact bnd_r _ _ | exact hG _ _ | exact hK _ | (simp (disch := decide) only [uN_s, uN_n]; omega)) (fun c36 => absurd c36 (by omega)) (fun c36 => ?_)
    refine v_aload_n (dec_of DX9_workOut 25 rfl) rfl ?_
    refine v_V0v (q_unflat hG1 hK hM0) lX9_213 (dec_of DX9_workOut 26 rfl) rfl rfl (by decide) (nle rfl) rfl ?_
    try simp (disch := decide) only [uN_s, uN_n, wkG_n, wkG_30, wkG_31, wkG_33]
    refine Vd_w (w' := W2 I N F K (wkG G a b (clr f 0 13))) rfl ?_
    refine f43 _ (fun h h0 h1 => ?_) hun
    have h7 := w7 s (by omega) (by omega) ew
    unfold clr crM
    rw [if_pos (by omega), if_neg (fun q => h7 q.1 q.2)]
def gdG (G : Nat → Int → Int) (a b f g : Int → Int) : Nat → Int → Int := uN (wkG G a b f) 32 g
theorem gdG_n {G : Nat → Int → Int} {a b f g : Int → Int} {t : Nat} (h : t ≠ 30 ∧ t ≠ 31 ∧ t ≠ 33 ∧ t ≠ 32) : gdG G a b f g t = G t := by unfold gdG; rw [uN_n h.2.2.2, wkG_n ⟨h.1, h.2.1, h.2.2.1⟩]
theorem gdG_30 {G : Nat → Int → Int} {a b f g : Int → Int} : gdG G a b f g 30 = a := rfl
theorem gdG_32 {G : Nat → Int → Int} {a b f g : Int → Int} : gdG G a b f g 32 = g := rfl
set_option maxRecDepth 100000 in
set_option maxHeartbeats 8000000 in
theorem q_w2_loop {I N : Nat → Int} {F : Nat → Int → Int} {K : Nat → Int} {G : Nat → Int → Int} (hG : FR G) (hK : IR K) (hM : MR K) {n0 : Nat} {Z : XW → Option Value → Prop} {nt en cB : Int → Int} {fl : Int → Int → Int} {wd st sm gd : Int → Int} (hW : WkP K G nt en cB fl wd st sm gd) (h34 : T34 G) {a b f : Int → Int} (ha : ∀ i : Int, 0 ≤ i → i < K 15 → a i = st i ∧ b i = sm i) (hra : (∀ i, -2147483648 ≤ a i ∧ a i < 2147483648)) {x : Int} (hst : ∀ i : Int, 0 ≤ i → i < K 15 → -1000 ≤ st i ∧ st i ≤ 1000) (hz : ∀ (g : Int → Int), (∀ i : Int, 0 ≤ i → i < K 22 → g i = gd i) → (∀ i, -2147483648 ≤ g i ∧ g i < 2147483648) → ∀ c e k : Int, Vd (rm 2 47 0 0) [] mX9_workOut n0 Z 0 0 354 [some (.ref 31), some (J (c)), some (J (x)), some (J (e)), some (J (k))] [] (W2 I N F K (gdG G a b f g))) : ∀ (m : Nat) (k : Int) (g : Int → Int), 0 ≤ k → k + m = K 10 → (∀ i : Int, 0 ≤ i → i < en k → g i = gd i) → (∀ i, -2147483648 ≤ g i ∧ g i < 2147483648) → Vd (rm 2 47 0 0) [] mX9_workOut n0 Z 0 0 260 [some (.ref 31), some (J (cB k)), some (J (x)), some (J (en k)), some (J (k))] [] (W2 I N F K (gdG G a b f g)) := by
  have hM0 := hM
  unfold MR at hM
  obtain ⟨w1, w2, w3, w4, w5, w6, w7, w8⟩ := hW
  intro m
  induction m with
  | zero =>
    intro k g h0 h1 hg hr
    obtain rfl : k = K 10 := by omega
    refine v_iload (dec_of DX9_workOut 149 rfl) rfl ?_
    refine v_aload_n (dec_of DX9_workOut 150 rfl) rfl ?_
    refine v_get fX9_136 (dec_of DX9_workOut 151 rfl) rfl rfl ?_
    try simp (disch := decide) only [uN_s, uN_n, wkG_n, wkG_30, wkG_31, wkG_33, gdG_n, gdG_30, gdG_32]
    refine vi_icmp_ge (tgt := 354) (dec_of DX9_workOut 152 rfl) (by decide) (by first | omega | exact bnd_r _ _ | exact hG _ _ | exact hK _ | (simp (disch := decide) only [uN_s, uN_n]; omega)) (by first | omega | exact bnd_r _ _ | exact hG _ _ | exact hK _ | (simp (disch := decide) only [uN_s, uN_n]; omega)) (fun c266 => ?_) (fun c266 => absurd c266 (by omega))
    exact hz g (fun i a b => hg i a (by rw [w5.2.2.2.2]; exact b)) hr _ _ _
  | succ m ih =>
    intro k g h0 h1 hg hr
    obtain ⟨k1, k2, k3, k4, k5, k6, k7, k8, k9⟩ := w3 k (by omega) (by omega)
    have hr0 := w4 k (by omega) (by omega)
    have hr1 := w4 (k + 1) (by omega) (by omega)
    unfold WkR at hr0 hr1
    by_cases c6 : G 11 k = 6
    case pos =>
      have eC : cB (k + 1) = cB k := by rw [k7, if_neg (by omega)]
      have eE : en (k + 1) = en k + 1 := by rw [k5, if_pos c6]
      have k9 := k9 c6
      by_cases hn : nt k < K 15
      case pos =>
        rw [if_pos hn] at k9
        have hs := hst (nt k) (by omega) hn
        have ea := (ha (nt k) (by omega) hn).1
        have hgr : -2147483648 ≤ gdM (st (nt k)) (cB k) ∧ gdM (st (nt k)) (cB k) < 2147483648 := by unfold gdM; omega
        refine v_iload (dec_of DX9_workOut 149 rfl) rfl ?_
        refine v_aload_n (dec_of DX9_workOut 150 rfl) rfl ?_
        refine v_get fX9_136 (dec_of DX9_workOut 151 rfl) rfl rfl ?_
        try simp (disch := decide) only [uN_s, uN_n, wkG_n, wkG_30, wkG_31, wkG_33, gdG_n, gdG_30, gdG_32]
        refine vi_icmp_ge (tgt := 354) (dec_of DX9_workOut 152 rfl) (by decide) (by first | omega | exact bnd_r _ _ | exact hG _ _ | exact hK _ | (simp (disch := decide) only [uN_s, uN_n]; omega)) (by first | omega | exact bnd_r _ _ | exact hG _ _ | exact hK _ | (simp (disch := decide) only [uN_s, uN_n]; omega)) (fun c266 => absurd c266 (by omega)) (fun c266 => ?_)
        refine v_aload_n (dec_of DX9_workOut 153 rfl) rfl ?_
        refine v_get fX9_34 (dec_of DX9_workOut 154 rfl) rfl rfl ?_
        try simp (disch := decide) only [uN_s, uN_n, wkG_n, wkG_30, wkG_31, wkG_33, gdG_n, gdG_30, gdG_32]
        refine v_iload (dec_of DX9_workOut 155 rfl) rfl ?_
        refine vi_aload (dec_of DX9_workOut 156 rfl) rfl (by first | omega | exact bnd_r _ _ | exact hG _ _ | exact hK _ | (simp (disch := decide) only [uN_s, uN_n]; omega)) (by decide) ?_
        try simp (disch := decide) only [uN_s, uN_n, wkG_n, wkG_30, wkG_31, wkG_33, gdG_n, gdG_30, gdG_32]
        refine vi_const (dec_of DX9_workOut 157 rfl) ?_
        refine vi_icmp_ne (tgt := 290) (dec_of DX9_workOut 158 rfl) (by decide) (by first | omega | exact bnd_r _ _ | exact hG _ _ | exact hK _ | (simp (disch := decide) only [uN_s, uN_n]; omega)) (by first | omega | exact bnd_r _ _ | exact hG _ _ | exact hK _ | (simp (disch := decide) only [uN_s, uN_n]; omega)) (fun c277 => ?_) (fun c277 => absurd c277 (by omega))
        refine v_iload_n (dec_of DX9_workOut 164 rfl) rfl ?_
        refine v_istore_n (dec_of DX9_workOut 165 rfl) (by decide) ?_
        dsimp only [List.set]
        refine v_aload_n (dec_of DX9_workOut 166 rfl) rfl ?_
        refine v_get fX9_34 (dec_of DX9_workOut 167 rfl) rfl rfl ?_
        try simp (disch := decide) only [uN_s, uN_n, wkG_n, wkG_30, wkG_31, wkG_33, gdG_n, gdG_30, gdG_32]
        refine v_iload (dec_of DX9_workOut 168 rfl) rfl ?_
        refine vi_aload (dec_of DX9_workOut 169 rfl) rfl (by first | omega | exact bnd_r _ _ | exact hG _ _ | exact hK _ | (simp (disch := decide) only [uN_s, uN_n]; omega)) (by decide) ?_
        try simp (disch := decide) only [uN_s, uN_n, wkG_n, wkG_30, wkG_31, wkG_33, gdG_n, gdG_30, gdG_32]
        refine vi_bi (dec_of DX9_workOut 170 rfl) (by decide) ?_
        refine vi_icmp_ne (tgt := 348) (dec_of DX9_workOut 171 rfl) (by decide) (by first | omega | exact bnd_r _ _ | exact hG _ _ | exact hK _ | (simp (disch := decide) only [uN_s, uN_n]; omega)) (by first | omega | exact bnd_r _ _ | exact hG _ _ | exact hK _ | (simp (disch := decide) only [uN_s, uN_n]; omega)) (fun c301 => absurd c301 (by omega)) (fun c301 => ?_)
        refine v_aload_n (dec_of DX9_workOut 172 rfl) rfl ?_
        refine v_get fX9_65 (dec_of DX9_workOut 173 rfl) rfl rfl ?_
        try simp (disch := decide) only [uN_s, uN_n, wkG_n, wkG_30, wkG_31, wkG_33, gdG_n, gdG_30, gdG_32]
        refine v_iload_n (dec_of DX9_workOut 174 rfl) rfl ?_
        refine v_aload_n (dec_of DX9_workOut 175 rfl) rfl ?_
        refine v_get fX9_40 (dec_of DX9_workOut 176 rfl) rfl rfl ?_
        try simp (disch := decide) only [uN_s, uN_n, wkG_n, wkG_30, wkG_31, wkG_33, gdG_n, gdG_30, gdG_32]
        refine v_iload (dec_of DX9_workOut 177 rfl) rfl ?_
        refine vi_aload (dec_of DX9_workOut 178 rfl) rfl (by first | omega | exact bnd_r _ _ | exact hG _ _ | exact hK _ | (simp (disch := decide) only [uN_s, uN_n]; omega)) (by decide) ?_
        try simp (disch := decide) only [uN_s, uN_n, wkG_n, wkG_30, wkG_31, wkG_33, gdG_n, gdG_30, gdG_32]
        rw [k6]
        refine v_aload_n (dec_of DX9_workOut 179 rfl) rfl ?_
        refine v_get fX9_142 (dec_of DX9_workOut 180 rfl) rfl rfl ?_
        try simp (disch := decide) only [uN_s, uN_n, wkG_n, wkG_30, wkG_31, wkG_33, gdG_n, gdG_30, gdG_32]
        refine vi_icmp_ge (tgt := 342) (dec_of DX9_workOut 181 rfl) (by decide) (by first | omega | exact bnd_r _ _ | exact hG _ _ | exact hK _ | (simp (disch := decide) only [uN_s, uN_n]; omega)) (by first | omega | exact bnd_r _ _ | exact hG _ _ | exact hK _ | (simp (disch := decide) only [uN_s, uN_n]; omega)) (fun c320 => absurd c320 (by omega)) (fun c320 => ?_)
        refine v_aload_n (dec_of DX9_workOut 182 rfl) rfl ?_
        refine v_get fX9_59 (dec_of DX9_workOut 183 rfl) rfl rfl ?_
        try simp (disch := decide) only [uN_s, uN_n, wkG_n, wkG_30, wkG_31, wkG_33, gdG_n, gdG_30, gdG_32]
        refine v_aload_n (dec_of DX9_workOut 184 rfl) rfl ?_
        refine v_get fX9_40 (dec_of DX9_workOut 185 rfl) rfl rfl ?_
        try simp (disch := decide) only [uN_s, uN_n, wkG_n, wkG_30, wkG_31, wkG_33, gdG_n, gdG_30, gdG_32]
        refine v_iload (dec_of DX9_workOut 186 rfl) rfl ?_
        refine vi_aload (dec_of DX9_workOut 187 rfl) rfl (by first | omega | exact bnd_r _ _ | exact hG _ _ | exact hK _ | (simp (disch := decide) only [uN_s, uN_n]; omega)) (by decide) ?_
        try simp (disch := decide) only [uN_s, uN_n, wkG_n, wkG_30, wkG_31, wkG_33, gdG_n, gdG_30, gdG_32]
        rw [k6]
        refine vi_aload (dec_of DX9_workOut 188 rfl) rfl (by first | omega | exact bnd_r _ _ | exact hG _ _ | exact hK _ | (simp (disch := decide) only [uN_s, uN_n]; omega)) (by decide) ?_
        try simp (disch := decide) only [uN_s, uN_n, wkG_n, wkG_30, wkG_31, wkG_33, gdG_n, gdG_30, gdG_32]
        rw [ea]
        refine v_iload_n (dec_of DX9_workOut 189 rfl) rfl ?_
        refine v_S2r (q_guideBy (by omega) (by omega)) lX9_222 (dec_of DX9_workOut 190 rfl) (by decide) (nle rfl) rfl ?_
        try simp (disch := decide) only [uN_s, uN_n, wkG_n, wkG_30, wkG_31, wkG_33, gdG_n, gdG_30, gdG_32]
        rw [show (if 0 ≤ st (nt k) + 2 * (cB k % 10) + 1 + (if 9 < cB k then 4 else 0) ∧ st (nt k) + 2 * (cB k % 10) + 1 + (if 9 < cB k then 4 else 0) ≤ 12 then st (nt k) + 2 * (cB k % 10) + 1 + (if 9 < cB k then 4 else 0) else -100) = gdM (st (nt k)) (cB k) from rfl]
        refine v_goto (tgt := 344) (dec_of DX9_workOut 191 rfl) (by decide) ?_
        refine ms_32 (dec_of DX9_workOut 193 rfl) (by first | omega | exact bnd_r _ _ | exact hG _ _ | exact hK _ | (simp (disch := decide) only [uN_s, uN_n]; omega)) ?_
        refine vi_inc (dec_of DX9_workOut 194 rfl) rfl (by decide) ?_
        dsimp only [List.set]
        refine vi_inc (dec_of DX9_workOut 195 rfl) rfl (by decide) ?_
        dsimp only [List.set]
        refine v_goto (tgt := 260) (dec_of DX9_workOut 196 rfl) (by decide) ?_
        refine Vd_w (w' := W2 I N F K (gdG G a b f (uI g (en k) (gdM (st (nt k)) (cB k))))) rfl ?_
        have nx := ih (k + 1) (uI g (en k) (gdM (st (nt k)) (cB k))) (by omega) (by omega) (fun i a1 b1 => by
          by_cases e : i = en k
          · rw [e, uI_s, k9]
          · rw [uI_n e]; exact hg i a1 (by omega)) (uI_r hr hgr)
        rw [eC, eE] at nx
        exact nx
      rw [if_neg hn] at k9
      refine v_iload (dec_of DX9_workOut 149 rfl) rfl ?_
      refine v_aload_n (dec_of DX9_workOut 150 rfl) rfl ?_
      refine v_get fX9_136 (dec_of DX9_workOut 151 rfl) rfl rfl ?_
      try simp (disch := decide) only [uN_s, uN_n, wkG_n, wkG_30, wkG_31, wkG_33, gdG_n, gdG_30, gdG_32]
      refine vi_icmp_ge (tgt := 354) (dec_of DX9_workOut 152 rfl) (by decide) (by first | omega | exact bnd_r _ _ | exact hG _ _ | exact hK _ | (simp (disch := decide) only [uN_s, uN_n]; omega)) (by first | omega | exact bnd_r _ _ | exact hG _ _ | exact hK _ | (simp (disch := decide) only [uN_s, uN_n]; omega)) (fun c266 => absurd c266 (by omega)) (fun c266 => ?_)
      refine v_aload_n (dec_of DX9_workOut 153 rfl) rfl ?_
      refine v_get fX9_34 (dec_of DX9_workOut 154 rfl) rfl rfl ?_
      try simp (disch := decide) only [uN_s, uN_n, wkG_n, wkG_30, wkG_31, wkG_33, gdG_n, gdG_30, gdG_32]
      refine v_iload (dec_of DX9_workOut 155 rfl) rfl ?_
      refine vi_aload (dec_of DX9_workOut 156 rfl) rfl (by first | omega | exact bnd_r _ _ | exact hG _ _ | exact hK _ | (simp (disch := decide) only [uN_s, uN_n]; omega)) (by decide) ?_
      try simp (disch := decide) only [uN_s, uN_n, wkG_n, wkG_30, wkG_31, wkG_33, gdG_n, gdG_30, gdG_32]
      refine vi_const (dec_of DX9_workOut 157 rfl) ?_
      refine vi_icmp_ne (tgt := 290) (dec_of DX9_workOut 158 rfl) (by decide) (by first | omega | exact bnd_r _ _ | exact hG _ _ | exact hK _ | (simp (disch := decide) only [uN_s, uN_n]; omega)) (by first | omega | exact bnd_r _ _ | exact hG _ _ | exact hK _ | (simp (disch := decide) only [uN_s, uN_n]; omega)) (fun c277 => ?_) (fun c277 => absurd c277 (by omega))
      refine v_iload_n (dec_of DX9_workOut 164 rfl) rfl ?_
      refine v_istore_n (dec_of DX9_workOut 165 rfl) (by decide) ?_
      dsimp only [List.set]
      refine v_aload_n (dec_of DX9_workOut 166 rfl) rfl ?_
      refine v_get fX9_34 (dec_of DX9_workOut 167 rfl) rfl rfl ?_
      try simp (disch := decide) only [uN_s, uN_n, wkG_n, wkG_30, wkG_31, wkG_33, gdG_n, gdG_30, gdG_32]
      refine v_iload (dec_of DX9_workOut 168 rfl) rfl ?_
      refine vi_aload (dec_of DX9_workOut 169 rfl) rfl (by first | omega | exact bnd_r _ _ | exact hG _ _ | exact hK _ | (simp (disch := decide) only [uN_s, uN_n]; omega)) (by decide) ?_
      try simp (disch := decide) only [uN_s, uN_n, wkG_n, wkG_30, wkG_31, wkG_33, gdG_n, gdG_30, gdG_32]
      refine vi_bi (dec_of DX9_workOut 170 rfl) (by decide) ?_
      refine vi_icmp_ne (tgt := 348) (dec_of DX9_workOut 171 rfl) (by decide) (by first | omega | exact bnd_r _ _ | exact hG _ _ | exact hK _ | (simp (disch := decide) only [uN_s, uN_n]; omega)) (by first | omega | exact bnd_r _ _ | exact hG _ _ | exact hK _ | (simp (disch := decide) only [uN_s, uN_n]; omega)) (fun c301 => absurd c301 (by omega)) (fun c301 => ?_)
      refine v_aload_n (dec_of DX9_workOut 172 rfl) rfl ?_
      refine v_get fX9_65 (dec_of DX9_workOut 173 rfl) rfl rfl ?_
      try simp (disch := decide) only [uN_s, uN_n, wkG_n, wkG_30, wkG_31, wkG_33, gdG_n, gdG_30, gdG_32]
      refine v_iload_n (dec_of DX9_workOut 174 rfl) rfl ?_
      refine v_aload_n (dec_of DX9_workOut 175 rfl) rfl ?_
      refine v_get fX9_40 (dec_of DX9_workOut 176 rfl) rfl rfl ?_
      try simp (disch := decide) only [uN_s, uN_n, wkG_n, wkG_30, wkG_31, wkG_33, gdG_n, gdG_30, gdG_32]
      refine v_iload (dec_of DX9_workOut 177 rfl) rfl ?_
      refine vi_aload (dec_of DX9_workOut 178 rfl) rfl (by first | omega | exact bnd_r _ _ | exact hG _ _ | exact hK _ | (simp (disch := decide) only [uN_s, uN_n]; omega)) (by decide) ?_
      try simp (disch := decide) only [uN_s, uN_n, wkG_n, wkG_30, wkG_31, wkG_33, gdG_n, gdG_30, gdG_32]
      rw [k6]
      refine v_aload_n (dec_of DX9_workOut 179 rfl) rfl ?_
      refine v_get fX9_142 (dec_of DX9_workOut 180 rfl) rfl rfl ?_
      try simp (disch := decide) only [uN_s, uN_n, wkG_n, wkG_30, wkG_31, wkG_33, gdG_n, gdG_30, gdG_32]
      refine vi_icmp_ge (tgt := 342) (dec_of DX9_workOut 181 rfl) (by decide) (by first | omega | exact bnd_r _ _ | exact hG _ _ | exact hK _ | (simp (disch := decide) only [uN_s, uN_n]; omega)) (by first | omega | exact bnd_r _ _ | exact hG _ _ | exact hK _ | (simp (disch := decide) only [uN_s, uN_n]; omega)) (fun c320 => ?_) (fun c320 => absurd c320 (by omega))
      refine vi_bi (dec_of DX9_workOut 192 rfl) (by decide) ?_
      refine ms_32 (dec_of DX9_workOut 193 rfl) (by first | omega | exact bnd_r _ _ | exact hG _ _ | exact hK _ | (simp (disch := decide) only [uN_s, uN_n]; omega)) ?_
      refine vi_inc (dec_of DX9_workOut 194 rfl) rfl (by decide) ?_
      dsimp only [List.set]
      refine vi_inc (dec_of DX9_workOut 195 rfl) rfl (by decide) ?_
      dsimp only [List.set]
      refine v_goto (tgt := 260) (dec_of DX9_workOut 196 rfl) (by decide) ?_
      refine Vd_w (w' := W2 I N F K (gdG G a b f (uI g (en k) (-100)))) rfl ?_
      have nx := ih (k + 1) (uI g (en k) (-100)) (by omega) (by omega) (fun i a1 b1 => by
        by_cases e : i = en k
        · rw [e, uI_s, k9]
        · rw [uI_n e]; exact hg i a1 (by omega)) (uI_r hr (by decide))
      rw [eC, eE] at nx
      exact nx
    have eE : en (k + 1) = en k := by rw [k5, if_neg c6]; omega
    by_cases c4 : G 11 k = 4
    case pos =>
      have eC : cB (k + 1) = G 12 k := by rw [k7, if_pos c4]
      refine v_iload (dec_of DX9_workOut 149 rfl) rfl ?_
      refine v_aload_n (dec_of DX9_workOut 150 rfl) rfl ?_
      refine v_get fX9_136 (dec_of DX9_workOut 151 rfl) rfl rfl ?_
      try simp (disch := decide) only [uN_s, uN_n, wkG_n, wkG_30, wkG_31, wkG_33, gdG_n, gdG_30, gdG_32]
      refine vi_icmp_ge (tgt := 354) (dec_of DX9_workOut 152 rfl) (by decide) (by first | omega | exact bnd_r _ _ | exact hG _ _ | exact hK _ | (simp (disch := decide) only [uN_s, uN_n]; omega)) (by first | omega | exact bnd_r _ _ | exact hG _ _ | exact hK _ | (simp (disch := decide) only [uN_s, uN_n]; omega)) (fun c266 => absurd c266 (by omega)) (fun c266 => ?_)
      refine v_aload_n (dec_of DX9_workOut 153 rfl) rfl ?_
      refine v_get fX9_34 (dec_of DX9_workOut 154 rfl) rfl rfl ?_
      try simp (disch := decide) only [uN_s, uN_n, wkG_n, wkG_30, wkG_31, wkG_33, gdG_n, gdG_30, gdG_32]
      refine v_iload (dec_of DX9_workOut 155 rfl) rfl ?_
      refine vi_aload (dec_of DX9_workOut 156 rfl) rfl (by first | omega | exact bnd_r _ _ | exact hG _ _ | exact hK _ | (simp (disch := decide) only [uN_s, uN_n]; omega)) (by decide) ?_
      try simp (disch := decide) only [uN_s, uN_n, wkG_n, wkG_30, wkG_31, wkG_33, gdG_n, gdG_30, gdG_32]
      refine vi_const (dec_of DX9_workOut 157 rfl) ?_
      refine vi_icmp_ne (tgt := 290) (dec_of DX9_workOut 158 rfl) (by decide) (by first | omega | exact bnd_r _ _ | exact hG _ _ | exact hK _ | (simp (disch := decide) only [uN_s, uN_n]; omega)) (by first | omega | exact bnd_r _ _ | exact hG _ _ | exact hK _ | (simp (disch := decide) only [uN_s, uN_n]; omega)) (fun c277 => absurd c277 (by omega)) (fun c277 => ?_)
      refine v_aload_n (dec_of DX9_workOut 159 rfl) rfl ?_
      refine v_get fX9_37 (dec_of DX9_workOut 160 rfl) rfl rfl ?_
      try simp (disch := decide) only [uN_s, uN_n, wkG_n, wkG_30, wkG_31, wkG_33, gdG_n, gdG_30, gdG_32]
      refine v_iload (dec_of DX9_workOut 161 rfl) rfl ?_
      refine vi_aload (dec_of DX9_workOut 162 rfl) rfl (by first | omega | exact bnd_r _ _ | exact hG _ _ | exact hK _ | (simp (disch := decide) only [uN_s, uN_n]; omega)) (by decide) ?_
      try simp (disch := decide) only [uN_s, uN_n, wkG_n, wkG_30, wkG_31, wkG_33, gdG_n, gdG_30, gdG_32]
      refine v_goto (tgt := 291) (dec_of DX9_workOut 163 rfl) (by decide) ?_
      refine v_istore_n (dec_of DX9_workOut 165 rfl) (by decide) ?_
      dsimp only [List.set]
      refine v_aload_n (dec_of DX9_workOut 166 rfl) rfl ?_
      refine v_get fX9_34 (dec_of DX9_workOut 167 rfl) rfl rfl ?_
      try simp (disch := decide) only [uN_s, uN_n, wkG_n, wkG_30, wkG_31, wkG_33, gdG_n, gdG_30, gdG_32]
      refine v_iload (dec_of DX9_workOut 168 rfl) rfl ?_
      refine vi_aload (dec_of DX9_workOut 169 rfl) rfl (by first | omega | exact bnd_r _ _ | exact hG _ _ | exact hK _ | (simp (disch := decide) only [uN_s, uN_n]; omega)) (by decide) ?_
      try simp (disch := decide) only [uN_s, uN_n, wkG_n, wkG_30, wkG_31, wkG_33, gdG_n, gdG_30, gdG_32]
      refine vi_bi (dec_of DX9_workOut 170 rfl) (by decide) ?_
      refine vi_icmp_ne (tgt := 348) (dec_of DX9_workOut 171 rfl) (by decide) (by first | omega | exact bnd_r _ _ | exact hG _ _ | exact hK _ | (simp (disch := decide) only [uN_s, uN_n]; omega)) (by first | omega | exact bnd_r _ _ | exact hG _ _ | exact hK _ | (simp (disch := decide) only [uN_s, uN_n]; omega)) (fun c301 => ?_) (fun c301 => absurd c301 (by omega))
      refine vi_inc (dec_of DX9_workOut 195 rfl) rfl (by decide) ?_
      dsimp only [List.set]
      refine v_goto (tgt := 260) (dec_of DX9_workOut 196 rfl) (by decide) ?_
      refine Vd_w (w' := W2 I N F K (gdG G a b f (g))) rfl ?_
      have nx := ih (k + 1) (g) (by omega) (by omega) (fun i a1 b1 => hg i a1 (by omega)) hr
      rw [eC, eE] at nx
      exact nx
    have eC : cB (k + 1) = cB k := by rw [k7, if_neg c4]
    refine v_iload (dec_of DX9_workOut 149 rfl) rfl ?_
    refine v_aload_n (dec_of DX9_workOut 150 rfl) rfl ?_
    refine v_get fX9_136 (dec_of DX9_workOut 151 rfl) rfl rfl ?_
    try simp (disch := decide) only [uN_s, uN_n, wkG_n, wkG_30, wkG_31, wkG_33, gdG_n, gdG_30, gdG_32]
    refine vi_icmp_ge (tgt := 354) (dec_of DX9_workOut 152 rfl) (by decide) (by first | omega | exact bnd_r _ _ | exact hG _ _ | exact hK _ | (simp (disch := decide) only [uN_s, uN_n]; omega)) (by first | omega | exact bnd_r _ _ | exact hG _ _ | exact hK _ | (simp (disch := decide) only [uN_s, uN_n]; omega)) (fun c266 => absurd c266 (by omega)) (fun c266 => ?_)
    refine v_aload_n (dec_of DX9_workOut 153 rfl) rfl ?_
    refine v_get fX9_34 (dec_of DX9_workOut 154 rfl) rfl rfl ?_
    try simp (disch := decide) only [uN_s, uN_n, wkG_n, wkG_30, wkG_31, wkG_33, gdG_n, gdG_30, gdG_32]
    refine v_iload (dec_of DX9_workOut 155 rfl) rfl ?_
    refine vi_aload (dec_of DX9_workOut 156 rfl) rfl (by first | omega | exact bnd_r _ _ | exact hG _ _ | exact hK _ | (simp (disch := decide) only [uN_s, uN_n]; omega)) (by decide) ?_
    try simp (disch := decide) only [uN_s, uN_n, wkG_n, wkG_30, wkG_31, wkG_33, gdG_n, gdG_30, gdG_32]
    refine vi_const (dec_of DX9_workOut 157 rfl) ?_
    refine vi_icmp_ne (tgt := 290) (dec_of DX9_workOut 158 rfl) (by decide) (by first | omega | exact bnd_r _ _ | exact hG _ _ | exact hK _ | (simp (disch := decide) only [uN_s, uN_n]; omega)) (by first | omega | exact bnd_r _ _ | exact hG _ _ | exact hK _ | (simp (disch := decide) only [uN_s, uN_n]; omega)) (fun c277 => ?_) (fun c277 => absurd c277 (by omega))
    refine v_iload_n (dec_of DX9_workOut 164 rfl) rfl ?_
    refine v_istore_n (dec_of DX9_workOut 165 rfl) (by decide) ?_
    dsimp only [List.set]
    refine v_aload_n (dec_of DX9_workOut 166 rfl) rfl ?_
    refine v_get fX9_34 (dec_of DX9_workOut 167 rfl) rfl rfl ?_
    try simp (disch := decide) only [uN_s, uN_n, wkG_n, wkG_30, wkG_31, wkG_33, gdG_n, gdG_30, gdG_32]
    refine v_iload (dec_of DX9_workOut 168 rfl) rfl ?_
    refine vi_aload (dec_of DX9_workOut 169 rfl) rfl (by first | omega | exact bnd_r _ _ | exact hG _ _ | exact hK _ | (simp (disch := decide) only [uN_s, uN_n]; omega)) (by decide) ?_
    try simp (disch := decide) only [uN_s, uN_n, wkG_n, wkG_30, wkG_31, wkG_33, gdG_n, gdG_30, gdG_32]
    refine vi_bi (dec_of DX9_workOut 170 rfl) (by decide) ?_
    refine vi_icmp_ne (tgt := 348) (dec_of DX9_workOut 171 rfl) (by decide) (by first | omega | exact bnd_r _ _ | exact hG _ _ | exact hK _ | (simp (disch := decide) only [uN_s, uN_n]; omega)) (by first | omega | exact bnd_r _ _ | exact hG _ _ | exact hK _ | (simp (disch := decide) only [uN_s, uN_n]; omega)) (fun c301 => ?_) (fun c301 => absurd c301 (by omega))
    refine vi_inc (dec_of DX9_workOut 195 rfl) rfl (by decide) ?_
    dsimp only [List.set]
    refine v_goto (tgt := 260) (dec_of DX9_workOut 196 rfl) (by decide) ?_
    refine Vd_w (w' := W2 I N F K (gdG G a b f (g))) rfl ?_
    have nx := ih (k + 1) (g) (by omega) (by omega) (fun i a1 b1 => hg i a1 (by omega)) hr
    rw [eC, eE] at nx
    exact nx
theorem NmP_c {K : Nat → Int} {G G1 : Nat → Int → Int} (e2 : G1 19 = G 19) (e3 : G1 17 = G 17) (e4 : G1 16 = G 16) : nsM K G1 = nsM K G ∧ ∀ (j : Nat) (a b c d : Int → Int), NmP K G1 j a b c d → NmP K G j a b c d := by
  have h0 : ∀ n, nm0 K G1 n = nm0 K G n := fun n => nm0_c rfl e2 e3 e4 n
  have h1 : nsM K G1 = nsM K G := by
    funext j
    induction j with
    | zero => rfl
    | succ j ih => rw [nsM, nsM, ih, h0]
  refine ⟨h1, fun j a b c d h => ?_⟩
  unfold NmP at h
  rw [h1] at h
  simp only [h0] at h
  exact h
set_option maxRecDepth 100000 in
set_option maxHeartbeats 4000000 in
theorem q_wo {I N : Nat → Int} {F : Nat → Int → Int} {K : Nat → Int} {G : Nat → Int → Int} (hG : FR G) (hK : IR K) (hM : MR K) {nt en cB : Int → Int} {fl : Int → Int → Int} {wd st sm gd : Int → Int} (hW : WkP K G nt en cB fl wd st sm gd) (h34 : T34 G) (h40 : T40 G) (hst : ∀ i : Int, 0 ≤ i → i < K 15 → -1000 ≤ st i ∧ st i ≤ 1000) : Sp (rm 2 47 0 0) mX9_workOut [.ref 31] (W2 I N F K G) (fun w r => r = none ∧ ∃ (a b f g p q u d : Int → Int) (j : Nat), w = W2 I N F (uN K 35 j) (nmG (gdG G a b f g) p q u d) ∧ (∀ i : Int, 0 ≤ i → i < K 15 → a i = st i ∧ b i = sm i) ∧ (∀ i : Int, 0 ≤ i → i < K 22 → g i = gd i) ∧ NmP K G j p q u d ∧ nsM K G j = K 15 ∧ FR (nmG (gdG G a b f g) p q u d)) := by
  refine sp_of (ls := [some (.ref 31), none, none, none, none]) (by decide) (nle rfl) rfl rfl ?_
  have hM0 := hM
  have hW0 := hW
  unfold MR at hM
  obtain ⟨w1, w2, w3, w4, w5, w6, w7, w8⟩ := hW
  refine vi_const (dec_of DX9_workOut 0 rfl) ?_
  refine v_istore_n (dec_of DX9_workOut 1 rfl) (by decide) ?_
  dsimp only [List.set]
  refine vi_const (dec_of DX9_workOut 2 rfl) ?_
  refine v_istore_n (dec_of DX9_workOut 3 rfl) (by decide) ?_
  dsimp only [List.set]
  refine v_aload_n (dec_of DX9_workOut 4 rfl) rfl ?_
  refine v_V0v (q_unflat hG hK hM0) lX9_213 (dec_of DX9_workOut 5 rfl) rfl rfl (by decide) (nle rfl) rfl ?_
  refine vi_const (dec_of DX9_workOut 6 rfl) ?_
  refine v_istore_n (dec_of DX9_workOut 7 rfl) (by decide) ?_
  dsimp only [List.set]
  refine Vd_w (w' := W2 I N F K (wkG G (G 30) (G 31) (clr (G 33) 0 13))) rfl ?_
  have go1 := q_w1_out hG hK hM0 hW0 h34 (n0 := (W2 I N F K G).length) (I := I) (N := N) (F := F) (Z := fun w r => r = none ∧ ∃ (a b f g p q u d : Int → Int) (j : Nat), w = W2 I N F (uN K 35 j) (nmG (gdG G a b f g) p q u d) ∧ (∀ i : Int, 0 ≤ i → i < K 15 → a i = st i ∧ b i = sm i) ∧ (∀ i : Int, 0 ≤ i → i < K 22 → g i = gd i) ∧ NmP K G j p q u d ∧ nsM K G j = K 15 ∧ FR (nmG (gdG G a b f g) p q u d)) (fun a b f ha hra hrb hrf x y z => ?_) (K 3).toNat 0 (G 30) (G 31) (clr (G 33) 0 13) (by omega) (by omega) ⟨fun i a b => absurd b (by rw [w1.1, w5.1]; omega), fun h a b => by unfold clr pvM; rw [if_pos (by omega), if_pos rfl], hG 30, hG 31, fun i => by unfold clr; have := hG 33 i; split <;> omega⟩
  rw [w1.1, w5.2.2.1, w5.1] at go1
  exact go1
  refine vi_const (dec_of DX9_workOut 143 rfl) ?_
  refine v_istore_n (dec_of DX9_workOut 144 rfl) (by decide) ?_
  dsimp only [List.set]
  refine vi_const (dec_of DX9_workOut 145 rfl) ?_
  refine v_istore_n (dec_of DX9_workOut 146 rfl) (by decide) ?_
  dsimp only [List.set]
  refine vi_const (dec_of DX9_workOut 147 rfl) ?_
  refine v_istore (dec_of DX9_workOut 148 rfl) (by decide) ?_
  dsimp only [List.set]
  refine Vd_w (w' := W2 I N F K (gdG G a b f (G 32))) rfl ?_
  have go2 := q_w2_loop hG hK hM0 hW0 h34 (n0 := (W2 I N F K G).length) (I := I) (N := N) (F := F) (Z := fun w r => r = none ∧ ∃ (a b f g p q u d : Int → Int) (j : Nat), w = W2 I N F (uN K 35 j) (nmG (gdG G a b f g) p q u d) ∧ (∀ i : Int, 0 ≤ i → i < K 15 → a i = st i ∧ b i = sm i) ∧ (∀ i : Int, 0 ≤ i → i < K 22 → g i = gd i) ∧ NmP K G j p q u d ∧ nsM K G j = K 15 ∧ FR (nmG (gdG G a b f g) p q u d)) ha hra (x := y) (f := f) hst (fun g hg hrg c e k => ?_) (K 10).toNat 0 (G 32) (by omega) (by omega) (fun i a b => absurd b (by rw [w5.2.1]; omega)) (hG 32)
  rw [w5.2.1, w5.2.2.1] at go2
  exact go2
  have hG3 : FR (gdG G a b f g) := (wkG_r hG hra hrb hrf).up hrg
  have cc := NmP_c (K := K) (G := G) (G1 := gdG G a b f g) rfl rfl rfl
  refine v_aload_n (dec_of DX9_workOut 197 rfl) rfl ?_
  refine v_V0p (q_fn hG3 hK hM0 h40) lX9_225 (dec_of DX9_workOut 198 rfl) rfl rfl (by decide) (nle rfl) rfl (fun w r hz2 => ?_)
  obtain ⟨rfl, j, p, q, u, d, rfl, hn, he⟩ := hz2
  rw [tl_n]
  exact vi_vret (dec_of DX9_workOut 199 rfl) rfl ⟨by decide, by decide⟩ (⟨rfl, a, b, f, g, p, q, u, d, j, rfl, ha, hg, cc.2 j p q u d hn, by rw [← cc.1]; exact he, (((hG3.up hn.2.2.2.1).up hn.2.2.2.2.1).up hn.2.2.2.2.2.1).up hn.2.2.2.2.2.2.1⟩)
