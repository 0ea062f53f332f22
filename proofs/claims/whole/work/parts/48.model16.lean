/-! the reference: read (printed by wip/tools/gen_m16.py) -/
def cpT (a t : Int → Int) (n : Int) : Int → Int := fun i => if 0 ≤ i ∧ i < n then t i else a i
theorem cpT_0 {a t : Int → Int} : cpT a t 0 = a := by
  funext i
  unfold cpT
  rw [if_neg (by omega)]
theorem cpT_step {a t : Int → Int} {k : Int} (hk : 0 ≤ k) : uI (cpT a t k) k (t k) = cpT a t (k + 1) := by
  funext i
  unfold uI cpT
  by_cases h : i = k
  · rw [if_pos h, if_pos (by omega), h]
  · rw [if_neg h]
    by_cases h2 : 0 ≤ i ∧ i < k
    · rw [if_pos h2, if_pos (by omega)]
    · rw [if_neg h2, if_neg (by omega)]
theorem cpT_r {a t : Int → Int} {n : Int} (h1 : ∀ i, -2147483648 ≤ a i ∧ a i < 2147483648) (h2 : ∀ i, -2147483648 ≤ t i ∧ t i < 2147483648) : ∀ i, -2147483648 ≤ cpT a t n i ∧ cpT a t n i < 2147483648 := by
  intro i
  unfold cpT
  split
  · exact h2 i
  · exact h1 i
/-- the reference as its reading begins -/
def rbK (K : Nat → Int) : Nat → Int := uN (uN K 28 (K 1)) 1 0
def rbG (K : Nat → Int) (G : Nat → Int → Int) : Nat → Int → Int := uN G 2 (cpT (G 2) (G 0) (K 1))
theorem rb_FR {K : Nat → Int} {G : Nat → Int → Int} (hG : FR G) : FR (rbG K G) := hG.up (cpT_r (hG 2) (hG 0))
theorem rb_IR {K : Nat → Int} (hK : IR K) : IR (rbK K) := (hK.up (hK 1)).up (by decide)
theorem rb_MR {K : Nat → Int} (hM : MR K) : MR (rbK K) := by
  unfold MR rbK at *
  simp (disch := decide) only [uN_s, uN_n]
  omega
theorem rd_Iv {K : Nat → Int} {G : Nat → Int → Int} (hG : FR G) (hK : IR K) (hM : MR K) (hb : ∀ i : Int, 0 ≤ i → i < K 1 → 0 ≤ G 0 i ∧ G 0 i < 256) : Iv (rdK (rbK K)) (rbG K G) := by
  refine ⟨?_, ?_, rb_FR hG, ?_, ?_⟩
  · unfold MR at hM
    unfold PI MR rdK noK rbK
    simp (disch := decide) only [uN_s, uN_n]
    repeat' apply And.intro
    all_goals first | exact Or.inl trivial | exact Or.inr trivial | exact Or.inl rfl | exact Or.inr rfl | omega
  · have h := rb_IR hK
    unfold rdK noK
    repeat (first | exact h | refine IR.up ?_ (by decide))
  · intro i h0 h1
    have h1 : i < K 1 := h1
    show 0 ≤ cpT (G 2) (G 0) (K 1) i ∧ cpT (G 2) (G 0) (K 1) i < 256
    unfold cpT
    rw [if_pos ⟨h0, h1⟩]
    exact hb i h0 h1
  · intro q
    exact absurd (show (0 : Int) = 1 from q) (by decide)
set_option maxRecDepth 100000 in
set_option maxHeartbeats 4000000 in
theorem q_cp_loop {I N : Nat → Int} {F : Nat → Int → Int} {K : Nat → Int} {G : Nat → Int → Int} (hG : FR G) (hK : IR K) (hM : MR K) {n0 : Nat} {Z : XW → Option Value → Prop} (hz : ∀ x : Int, Vd (rm 5 114 0 0) [] mX9_read n0 Z 0 0 36 [some (.ref 31), some (J (x))] [] (W2 I N F (uN K 28 (K 1)) (rbG K G))) : ∀ (m : Nat) (k : Int), 0 ≤ k → k + m = K 1 → Vd (rm 5 114 0 0) [] mX9_read n0 Z 0 0 10 [some (.ref 31), some (J (k))] [] (W2 I N F (uN K 28 (K 1)) (uN G 2 (cpT (G 2) (G 0) k))) := by
  unfold MR at hM
  intro m
  induction m with
  | zero =>
    intro k h0 h1
    obtain rfl : k = K 1 := by omega
    refine v_iload_n (dec_of DX9_read 6 rfl) rfl ?_
    refine v_aload_n (dec_of DX9_read 7 rfl) rfl ?_
    refine v_get fX9_166 (dec_of DX9_read 8 rfl) rfl rfl ?_
    try simp (disch := decide) only [uN_s, uN_n]
    refine vi_icmp_ge (tgt := 36) (dec_of DX9_read 9 rfl) (by decide) (by first | omega | exact bnd_r _ _ | exact hG _ _ | exact hK _ | (simp (disch := decide) only [uN_s, uN_n]; omega)) (by first | omega | exact bnd_r _ _ | exact hG _ _ | exact hK _ | (simp (disch := decide) only [uN_s, uN_n]; omega)) (fun c15 => ?_) (fun c15 => absurd c15 (by omega))
    exact hz _
  | succ m ih =>
    intro k h0 h1
    refine v_iload_n (dec_of DX9_read 6 rfl) rfl ?_
    refine v_aload_n (dec_of DX9_read 7 rfl) rfl ?_
    refine v_get fX9_166 (dec_of DX9_read 8 rfl) rfl rfl ?_
    try simp (disch := decide) only [uN_s, uN_n]
    refine vi_icmp_ge (tgt := 36) (dec_of DX9_read 9 rfl) (by decide) (by first | omega | exact bnd_r _ _ | exact hG _ _ | exact hK _ | (simp (disch := decide) only [uN_s, uN_n]; omega)) (by first | omega | exact bnd_r _ _ | exact hG _ _ | exact hK _ | (simp (disch := decide) only [uN_s, uN_n]; omega)) (fun c15 => absurd c15 (by omega)) (fun c15 => ?_)
    refine v_aload_n (dec_of DX9_read 10 rfl) rfl ?_
    refine v_get fX9_13 (dec_of DX9_read 11 rfl) rfl rfl ?_
    try simp (disch := decide) only [uN_s, uN_n]
    refine v_iload_n (dec_of DX9_read 12 rfl) rfl ?_
    refine v_aload_n (dec_of DX9_read 13 rfl) rfl ?_
    refine v_get fX9_7 (dec_of DX9_read 14 rfl) rfl rfl ?_
    try simp (disch := decide) only [uN_s, uN_n]
    refine v_iload_n (dec_of DX9_read 15 rfl) rfl ?_
    refine vi_aload (dec_of DX9_read 16 rfl) rfl (by first | omega | exact bnd_r _ _ | exact hG _ _ | exact hK _ | (simp (disch := decide) only [uN_s, uN_n]; omega)) (by decide) ?_
    try simp (disch := decide) only [uN_s, uN_n]
    refine ms_2 (dec_of DX9_read 17 rfl) (by first | omega | exact bnd_r _ _ | exact hG _ _ | exact hK _ | (simp (disch := decide) only [uN_s, uN_n]; omega)) ?_
    refine Vd_w (w' := W2 I N F (uN K 28 (K 1)) (uN G 2 (cpT (G 2) (G 0) (k + 1)))) (by rw [← cpT_step h0]; rfl) ?_
    refine vi_inc (dec_of DX9_read 18 rfl) rfl (by decide) ?_
    dsimp only [List.set]
    refine v_goto (tgt := 10) (dec_of DX9_read 19 rfl) (by decide) ?_
    exact ih (k + 1) (by omega) (by omega)
theorem tab_rch {K K1 : Nat → Int} {G G1 : Nat → Int → Int} {t : Nat} (ht : 30 ≤ t) (h : Rch (K, G) (K1, G1)) : G1 t = G t := by
  have st : ∀ (K2 : Nat → Int) (G2 : Nat → Int → Int), (mstep K2 G2).2 t = G2 t := by
    intro K2 G2
    have u : ∀ (g : Nat → Int → Int) (k : Nat) (v : Int → Int), k < 30 → uN g k v t = g t := fun g k v hk => uN_n (by omega)
    unfold mstep
    split
    · rfl
    · split
      · unfold mOut tlG bgG
        repeat' split
        all_goals (first | rfl | (dsimp only; repeat rw [u _ _ _ (by decide)]))
      · unfold mIn mHt mkG ntG ptG
        repeat' split
        all_goals (first | rfl | (dsimp only; repeat rw [u _ _ _ (by decide)]))
  exact Rch.inv (P := fun p => p.2 t = G t) (fun K2 G2 h => (st K2 G2).trans h) h rfl
set_option maxRecDepth 100000 in
set_option maxHeartbeats 4000000 in
theorem q_read {I N : Nat → Int} {F : Nat → Int → Int} {K : Nat → Int} {G : Nat → Int → Int} (hG : FR G) (hK : IR K) (hM : MR K) (h34 : T34 G) (h40 : T40 G) (hb : ∀ i : Int, 0 ≤ i → i < K 1 → 0 ≤ G 0 i ∧ G 0 i < 256) {Ps : (Nat → Int) → (Nat → Int → Int) → (Int → Int) → (Int → Int) → (Int → Int) → Prop} (hW : ∀ (K1 : Nat → Int) (G1 : Nat → Int → Int), Rch (rdK (rbK K), rbG K G) (K1, G1) → mDone K1 → K1 26 = 0 → ∃ (nt en cB : Int → Int) (fl : Int → Int → Int) (wd st sm gd : Int → Int), WkP K1 G1 nt en cB fl wd st sm gd ∧ (∀ i : Int, 0 ≤ i → i < K1 15 → -1000 ≤ st i ∧ st i ≤ 1000) ∧ Ps K1 G1 st sm gd) : Sp (rm 5 114 0 0) mX9_read [.ref 31] (W2 I N F K G) (fun w r => ∃ (K1 : Nat → Int) (G1 : Nat → Int → Int), Rch (rdK (rbK K), rbG K G) (K1, G1) ∧ mDone K1 ∧ ((¬ K1 26 = 0 ∧ w = W2 I N F (noK K1) G1 ∧ r = some (J (-10 - K1 26))) ∨ (K1 26 = 0 ∧ ∃ (a b f g p q u d : Int → Int) (j : Nat) (st sm gd : Int → Int), w = W2 I N F (uN K1 35 j) (nmG (gdG G1 a b f g) p q u d) ∧ r = some (J (K1 15)) ∧ (∀ i : Int, 0 ≤ i → i < K1 15 → a i = st i ∧ b i = sm i) ∧ (∀ i : Int, 0 ≤ i → i < K1 22 → g i = gd i) ∧ NmP K1 G1 j p q u d ∧ nsM K1 G1 j = K1 15 ∧ FR (nmG (gdG G1 a b f g) p q u d) ∧ Ps K1 G1 st sm gd))) := by
  refine sp_of (ls := [some (.ref 31), none]) (by decide) (nle rfl) rfl rfl ?_
  have hM0 := hM
  unfold MR at hM
  have hv := rd_Iv hG hK hM0 hb
  refine v_aload_n (dec_of DX9_read 0 rfl) rfl ?_
  refine v_aload_n (dec_of DX9_read 1 rfl) rfl ?_
  refine v_get fX9_123 (dec_of DX9_read 2 rfl) rfl rfl ?_
  try simp (disch := decide) only [uN_s, uN_n]
  refine mp_28 fX9_166 (dec_of DX9_read 3 rfl) ?_
  refine vi_const (dec_of DX9_read 4 rfl) ?_
  refine v_istore_n (dec_of DX9_read 5 rfl) (by decide) ?_
  dsimp only [List.set]
  refine Vd_w (w' := W2 I N F (uN K 28 (K 1)) (uN G 2 (cpT (G 2) (G 0) 0))) (by rw [cpT_0, uN_self]) ?_
  refine q_cp_loop hG hK hM0 (fun x => ?_) (K 1).toNat 0 (by omega) (by omega)
  refine v_aload_n (dec_of DX9_read 20 rfl) rfl ?_
  refine vi_const (dec_of DX9_read 21 rfl) ?_
  refine mp_1 fX9_123 (dec_of DX9_read 22 rfl) ?_
  refine Vd_w (w' := W2 I N F (rbK K) (rbG K G)) rfl ?_
  refine v_aload_n (dec_of DX9_read 23 rfl) rfl ?_
  refine v_V0p (q_rt (rb_FR hG) (rb_IR hK) (rb_MR hM0) hv) lX9_207 (dec_of DX9_read 24 rfl) rfl rfl (by decide) (nle rfl) rfl (fun w r hz2 => ?_)
  obtain ⟨K1, G1, r1, d1, rfl, rfl⟩ := hz2
  rw [tl_n]
  have hv1 := Iv_rch r1 hv
  obtain ⟨hP1, hK1, hG1, _, _⟩ := hv1
  have h26 := hP1.2.2.2.2.2.2.2.2.2.2.2.2.2.1
  by_cases f0 : K1 26 = 0
  case neg =>
    refine v_aload_n (dec_of DX9_read 25 rfl) rfl ?_
    refine v_get fX9_130 (dec_of DX9_read 26 rfl) rfl rfl ?_
    refine vi_if_le (tgt := 64) (dec_of DX9_read 27 rfl) (by decide) (by first | omega | exact hK1 _) (fun c49 => absurd c49 (by omega)) (fun c49 => ?_)
    refine v_aload_n (dec_of DX9_read 28 rfl) rfl ?_
    refine v_V0v (q_nothing hG1 hK1 hP1.1) lX9_176 (dec_of DX9_read 29 rfl) rfl rfl (by decide) (nle rfl) rfl ?_
    refine vi_bi (dec_of DX9_read 30 rfl) (by decide) ?_
    refine v_aload_n (dec_of DX9_read 31 rfl) rfl ?_
    refine v_get fX9_130 (dec_of DX9_read 32 rfl) rfl rfl ?_
    refine vi_sub (dec_of DX9_read 33 rfl) ?_
    exact vi_ret (dec_of DX9_read 34 rfl) rfl ⟨by decide, by decide⟩ (⟨K1, G1, r1, d1, Or.inl ⟨f0, rfl, rfl⟩⟩)
  obtain ⟨nt, en, cB, fl, wd, st, sm, gd, hw1, hw2, hw3⟩ := hW K1 G1 r1 d1 f0
  have t34 : T34 G1 := by unfold T34; rw [tab_rch (t := 34) (by decide) r1]; exact h34
  have t40 : T40 G1 := by unfold T40; rw [tab_rch (t := 40) (by decide) r1]; exact h40
  refine v_aload_n (dec_of DX9_read 25 rfl) rfl ?_
  refine v_get fX9_130 (dec_of DX9_read 26 rfl) rfl rfl ?_
  refine vi_if_le (tgt := 64) (dec_of DX9_read 27 rfl) (by decide) (by first | omega | exact hK1 _) (fun c49 => ?_) (fun c49 => absurd c49 (by omega))
  refine v_aload_n (dec_of DX9_read 35 rfl) rfl ?_
  refine v_V0p (q_wo hG1 hK1 hP1.1 hw1 t34 t40 hw2) lX9_210 (dec_of DX9_read 36 rfl) rfl rfl (by decide) (nle rfl) rfl (fun w r hz2 => ?_)
  obtain ⟨rfl, a, b, f, g, p, q, u, d, j, rfl, h1, h2, h3, h4, h5⟩ := hz2
  rw [tl_n]
  refine v_aload_n (dec_of DX9_read 37 rfl) rfl ?_
  refine v_get fX9_142 (dec_of DX9_read 38 rfl) rfl rfl ?_
  exact vi_ret (dec_of DX9_read 39 rfl) rfl ⟨by decide, by decide⟩ (⟨K1, G1, r1, d1, Or.inr ⟨f0, a, b, f, g, p, q, u, d, j, st, sm, gd, rfl, rfl, h1, h2, h3, h4, h5, hw3⟩⟩)
