/-! the reference: readText (printed by wip/tools/gen_m12.py) -/
theorem Iv_bg {K : Nat → Int} {G : Nat → Int → Int} (hv : Iv K G) (h60 : K 60 = 0) (h3 : ¬ K 3 = 60) : Iv (bgK K) (bgG K G) := by
  obtain ⟨hP, hK, hG, hB, hL⟩ := hv
  have q := hP
  unfold PI MR at q
  refine ⟨PI_bg hP h60 h3, (((hK.up (by omega)).up (by omega)).up (by omega)).up (by omega), FR_bg hP hG, hB, fun _ => ?_⟩
  show 0 ≤ uI (G 5) (K 3) 0 (K 3 + 1 - 1) ∧ uI (G 5) (K 3) 0 (K 3 + 1 - 1) ≤ K 29
  rw [show K 3 + 1 - 1 = K 3 by omega, uI_s]
  omega
abbrev isLP (c : Int) : Prop := ((97 ≤ c ∧ c ≤ 122) ∨ (65 ≤ c ∧ c ≤ 90) ∨ c = 39) ∨ c = 40
theorem ms_tl {K : Nat → Int} {G : Nat → Int → Int} (h26 : K 26 = 0) (h60 : K 60 = 0) (hl : K 29 < K 28) (hc : isLP (byB K G (K 29))) (h61 : ¬ K 61 = 0) : mstep K G = (tlK (byB K G (K 29)) K, tlG (byB K G (K 29)) K G) := by
  rw [ms_out h26 h60 hl]
  unfold mOut
  rw [if_neg (by unfold isLP at hc; omega), if_pos hc, if_neg h61]
theorem ms_bg {K : Nat → Int} {G : Nat → Int → Int} (h26 : K 26 = 0) (h60 : K 60 = 0) (hl : K 29 < K 28) (hc : isLP (byB K G (K 29))) (h61 : K 61 = 0) (h3 : ¬ K 3 = 60) : mstep K G = mstep (bgK K) (bgG K G) := by
  rw [ms_out h26 h60 hl, ms_tl (K := bgK K) (G := bgG K G) h26 h60 hl hc (show ¬ (1 : Int) = 0 by decide)]
  unfold mOut
  rw [if_neg (by unfold isLP at hc; omega), if_pos hc, if_pos h61, if_neg h3]
  rfl
theorem Rch_bg {K : Nat → Int} {G : Nat → Int → Int} {q : MP} (h26 : K 26 = 0) (h60 : K 60 = 0) (hl : K 29 < K 28) (hc : isLP (byB K G (K 29))) (h61 : K 61 = 0) (h3 : ¬ K 3 = 60) (h : Rch (bgK K, bgG K G) q) (hq : q.1 29 ≠ K 29 ∨ ¬ q.1 26 = 0) : Rch (K, G) q := by
  obtain ⟨n, hn⟩ := h
  cases n with
  | zero =>
    have e : (bgK K, bgG K G) = q := hn
    rw [← e] at hq
    rcases hq with a | a
    · exact absurd rfl a
    · exact absurd h26 a
  | succ n => exact ⟨n + 1, by show mitr n (mstep K G) = q; rw [ms_bg h26 h60 hl hc h61 h3]; exact hn⟩
set_option maxRecDepth 100000 in
theorem q_rs {I N : Nat → Int} {F : Nat → Int → Int} {K : Nat → Int} {G : Nat → Int → Int} (hv : Iv K G) (h60 : K 60 = 1) (h63 : K 63 = 1) (h64 : K 64 = 0) : Sp (rm 3 67 0 0) mX9_readSigns [.ref 31] (W2 I N F K G) (fun w r => ∃ (K1 : Nat → Int) (G1 : Nat → Int → Int), Rch (K, G) (K1, G1) ∧ w = W2 I N F K1 G1 ∧ r = none ∧ (¬ K1 26 = 0 ∨ (K1 60 = 0 ∧ K1 61 = 0 ∧ K1 62 = K 62)) ∧ K 29 ≤ K1 29) := by
  refine sp_of (ls := [some (.ref 31), none, none, none, none]) (by decide) (nle rfl) rfl rfl ?_
  refine vi_const (dec_of DX9_readSigns 0 rfl) ?_
  refine v_istore_n (dec_of DX9_readSigns 1 rfl) (by decide) ?_
  dsimp only [List.set]
  have lp := q_rs_loop (I := I) (N := N) (F := F) (n0 := (W2 I N F K G).length) (Z := fun w r => ∃ (K1 : Nat → Int) (G1 : Nat → Int → Int), Rch (K, G) (K1, G1) ∧ w = W2 I N F K1 G1 ∧ r = none ∧ (¬ K1 26 = 0 ∨ (K1 60 = 0 ∧ K1 61 = 0 ∧ K1 62 = K 62)) ∧ K 29 ≤ K1 29) (K 28 - K 29 + 1).toNat K G hv h60 (fun q => absurd q (by omega)) (fun q => by have := hv.1.2.2.2.2.2.1; omega) (fun K1 G1 r a b => ⟨K1, G1, r, rfl, rfl, a, b⟩)
  rw [h63] at lp
  exact lp
set_option maxRecDepth 100000 in
set_option maxHeartbeats 4000000 in
theorem q_r102 {I N : Nat → Int} {F : Nat → Int → Int} {K : Nat → Int} {G : Nat → Int → Int} (hv : Iv K G) {n0 : Nat} {Z : XW → Option Value → Prop} {b : Int} (h26 : K 26 = 0) (h60 : K 60 = 0) (h61 : K 61 = 1) (hl : K 29 < K 28) (hc : isLP (byB K G (K 29))) (cont : ∀ (a : Int) (K1 : Nat → Int) (G1 : Nat → Int → Int), Rch (K, G) (K1, G1) → (¬ K1 26 = 0 ∨ (K1 60 = 0 ∧ a = K1 61 ∧ K1 62 = K 62)) → K 29 < K1 29 → Vd (rm 4 91 0 0) [] mX9_readText n0 Z 0 0 24 [some (.ref 31), some (J a), some (J b), none] [] (W2 I N F K1 G1)) : Vd (rm 4 91 0 0) [] mX9_readText n0 Z 0 0 102 [some (.ref 31), some (J 1), some (J b), some (J (byB K G (K 29)))] [] (W2 I N F K G) := by
  have hv0 := hv
  obtain ⟨hP, hK, hG, hB, hL⟩ := hv
  have hM := hP.1
  have hM0 := hM
  unfold MR at hM
  obtain ⟨_, p23, p24, p25, p10, p29, p14, p20, p60, p61, p62, p63, p64, p26, p3, p15⟩ := hP
  have h3 := p3 (Or.inr h61)
  have e := ms_tl h26 h60 hl hc (by omega)
  have hv1 := Iv_of hv0 e
  have hbr := byB_r hB p29.1
  by_cases c40 : byB K G (K 29) = 40
  case pos =>
    have cont := fun a K1 G1 r => cont a K1 G1 ((Rch.step e).trans r)
    rw [c40] at cont hv1
    have eK : tlK 40 K = uN (uN (uN (adv K 1) 60 1) 63 1) 64 0 := by rw [tlK, if_pos rfl]
    have eG : tlG 40 K G = uN G 7 (uI (G 7) (K 3 - 1) 1) := by rw [tlG, if_pos rfl]
    rw [eK, eG] at cont hv1
    refine v_aload_n (dec_of DX9_readText 58 rfl) rfl ?_
    refine v_get fX9_130 (dec_of DX9_readText 59 rfl) rfl rfl ?_
    try simp (disch := decide) only [uN_s, uN_n]
    refine vi_if_ne (tgt := 146) (dec_of DX9_readText 60 rfl) (by decide) (by first | omega | exact bnd_r _ _ | exact hG _ _ | exact hK _ | (simp (disch := decide) only [uN_s, uN_n]; omega)) (fun c106 => absurd c106 (by omega)) (fun c106 => ?_)
    refine v_iload_n (dec_of DX9_readText 61 rfl) rfl ?_
    refine vi_bi (dec_of DX9_readText 62 rfl) (by decide) ?_
    refine vi_icmp_ne (tgt := 146) (dec_of DX9_readText 63 rfl) (by decide) (by first | omega | exact bnd_r _ _ | exact hG _ _ | exact hK _ | (simp (disch := decide) only [uN_s, uN_n]; omega)) (by first | omega | exact bnd_r _ _ | exact hG _ _ | exact hK _ | (simp (disch := decide) only [uN_s, uN_n]; omega)) (fun c112 => absurd c112 (by omega)) (fun c112 => ?_)
    refine v_aload_n (dec_of DX9_readText 64 rfl) rfl ?_
    refine v_get fX9_25 (dec_of DX9_readText 65 rfl) rfl rfl ?_
    try simp (disch := decide) only [uN_s, uN_n]
    refine v_aload_n (dec_of DX9_readText 66 rfl) rfl ?_
    refine v_get fX9_133 (dec_of DX9_readText 67 rfl) rfl rfl ?_
    try simp (disch := decide) only [uN_s, uN_n]
    refine vi_const (dec_of DX9_readText 68 rfl) ?_
    refine vi_sub (dec_of DX9_readText 69 rfl) ?_
    refine vi_const (dec_of DX9_readText 70 rfl) ?_
    refine ms_7 (dec_of DX9_readText 71 rfl) (by first | omega | exact bnd_r _ _ | exact hG _ _ | exact hK _ | (simp (disch := decide) only [uN_s, uN_n]; omega)) ?_
    refine v_aload_n (dec_of DX9_readText 72 rfl) rfl ?_
    refine v_dup (dec_of DX9_readText 73 rfl) rfl ?_
    refine v_get fX9_169 (dec_of DX9_readText 74 rfl) rfl rfl ?_
    try simp (disch := decide) only [uN_s, uN_n]
    refine vi_const (dec_of DX9_readText 75 rfl) ?_
    refine vi_add (dec_of DX9_readText 76 rfl) ?_
    refine mp_29 fX9_169 (dec_of DX9_readText 77 rfl) ?_
    refine Vd_w (w' := W2 I N F (uN (uN (uN (adv K 1) 60 1) 63 1) 64 0) (uN G 7 (uI (G 7) (K 3 - 1) 1))) rfl ?_
    refine v_aload_n (dec_of DX9_readText 78 rfl) rfl ?_
    refine v_V0p (q_rs hv1 rfl rfl rfl) lX9_190 (dec_of DX9_readText 79 rfl) rfl rfl (by decide) (nle rfl) rfl (fun w r hz2 => ?_)
    obtain ⟨K1, G1, r1, rfl, rfl, a1, a2⟩ := hz2
    rw [tl_n]
    try simp (disch := decide) only [uN_s, uN_n]
    refine vi_const (dec_of DX9_readText 80 rfl) ?_
    refine v_istore_n (dec_of DX9_readText 81 rfl) (by decide) ?_
    dsimp only [List.set]
    refine v_goto (tgt := 222) (dec_of DX9_readText 82 rfl) (by decide) ?_
    refine v_goto (tgt := 24) (dec_of DX9_readText 128 rfl) (by decide) ?_
    refine Vd_fg 3 ?_
    dsimp only [List.set]
    exact cont 0 K1 G1 r1 (a1.imp id (fun z => ⟨z.1, z.2.1.symm, z.2.2⟩)) (Int.lt_of_lt_of_le (show K 29 < K 29 + 1 by omega) a2)
  have eK : tlK (byB K G (K 29)) K = adv K 1 := by rw [tlK, if_neg c40]
  have eG : tlG (byB K G (K 29)) K G = uN (uN G 5 (uI (G 5) (K 3 - 1) (G 5 (K 3 - 1) + 1))) 6 (uI (G 6) (K 3 - 1) (if byB K G (K 29) = 39 then 1 else G 6 (K 3 - 1))) := by rw [tlG, if_neg c40]
  rw [eK, eG] at e
  have cont := cont 1 _ _ (Rch.step e) (Or.inr ⟨h60, h61.symm, rfl⟩) (show K 29 < K 29 + 1 by omega)
  by_cases c39 : byB K G (K 29) = 39
  case pos =>
    rw [if_pos c39] at cont
    refine v_aload_n (dec_of DX9_readText 58 rfl) rfl ?_
    refine v_get fX9_130 (dec_of DX9_readText 59 rfl) rfl rfl ?_
    try simp (disch := decide) only [uN_s, uN_n]
    refine vi_if_ne (tgt := 146) (dec_of DX9_readText 60 rfl) (by decide) (by first | omega | exact bnd_r _ _ | exact hG _ _ | exact hK _ | (simp (disch := decide) only [uN_s, uN_n]; omega)) (fun c106 => absurd c106 (by omega)) (fun c106 => ?_)
    refine v_iload_n (dec_of DX9_readText 61 rfl) rfl ?_
    refine vi_bi (dec_of DX9_readText 62 rfl) (by decide) ?_
    refine vi_icmp_ne (tgt := 146) (dec_of DX9_readText 63 rfl) (by decide) (by first | omega | exact bnd_r _ _ | exact hG _ _ | exact hK _ | (simp (disch := decide) only [uN_s, uN_n]; omega)) (by first | omega | exact bnd_r _ _ | exact hG _ _ | exact hK _ | (simp (disch := decide) only [uN_s, uN_n]; omega)) (fun c112 => ?_) (fun c112 => absurd c112 (by omega))
    refine v_aload_n (dec_of DX9_readText 83 rfl) rfl ?_
    refine v_get fX9_130 (dec_of DX9_readText 84 rfl) rfl rfl ?_
    try simp (disch := decide) only [uN_s, uN_n]
    refine vi_if_ne (tgt := 222) (dec_of DX9_readText 85 rfl) (by decide) (by first | omega | exact bnd_r _ _ | exact hG _ _ | exact hK _ | (simp (disch := decide) only [uN_s, uN_n]; omega)) (fun c150 => absurd c150 (by omega)) (fun c150 => ?_)
    refine v_aload_n (dec_of DX9_readText 86 rfl) rfl ?_
    refine v_get fX9_19 (dec_of DX9_readText 87 rfl) rfl rfl ?_
    try simp (disch := decide) only [uN_s, uN_n]
    refine v_aload_n (dec_of DX9_readText 88 rfl) rfl ?_
    refine v_get fX9_133 (dec_of DX9_readText 89 rfl) rfl rfl ?_
    try simp (disch := decide) only [uN_s, uN_n]
    refine vi_const (dec_of DX9_readText 90 rfl) ?_
    refine vi_sub (dec_of DX9_readText 91 rfl) ?_
    refine v_dup2 (dec_of DX9_readText 92 rfl) rfl rfl ?_
    refine vi_aload (dec_of DX9_readText 93 rfl) rfl (by first | omega | exact bnd_r _ _ | exact hG _ _ | exact hK _ | (simp (disch := decide) only [uN_s, uN_n]; omega)) (by decide) ?_
    try simp (disch := decide) only [uN_s, uN_n]
    refine vi_const (dec_of DX9_readText 94 rfl) ?_
    refine vi_add (dec_of DX9_readText 95 rfl) ?_
    refine ms_5 (dec_of DX9_readText 96 rfl) (by first | omega | exact bnd_r _ _ | exact hG _ _ | exact hK _ | (simp (disch := decide) only [uN_s, uN_n]; omega)) ?_
    refine v_aload_n (dec_of DX9_readText 97 rfl) rfl ?_
    refine v_get fX9_22 (dec_of DX9_readText 98 rfl) rfl rfl ?_
    try simp (disch := decide) only [uN_s, uN_n]
    refine v_aload_n (dec_of DX9_readText 99 rfl) rfl ?_
    refine v_get fX9_133 (dec_of DX9_readText 100 rfl) rfl rfl ?_
    try simp (disch := decide) only [uN_s, uN_n]
    refine vi_const (dec_of DX9_readText 101 rfl) ?_
    refine vi_sub (dec_of DX9_readText 102 rfl) ?_
    refine v_iload_n (dec_of DX9_readText 103 rfl) rfl ?_
    refine vi_bi (dec_of DX9_readText 104 rfl) (by decide) ?_
    refine vi_icmp_ne (tgt := 188) (dec_of DX9_readText 105 rfl) (by decide) (by first | omega | exact bnd_r _ _ | exact hG _ _ | exact hK _ | (simp (disch := decide) only [uN_s, uN_n]; omega)) (by first | omega | exact bnd_r _ _ | exact hG _ _ | exact hK _ | (simp (disch := decide) only [uN_s, uN_n]; omega)) (fun c181 => absurd c181 (by omega)) (fun c181 => ?_)
    refine vi_const (dec_of DX9_readText 106 rfl) ?_
    refine v_goto (tgt := 199) (dec_of DX9_readText 107 rfl) (by decide) ?_
    refine ms_6 (dec_of DX9_readText 115 rfl) (by first | omega | exact bnd_r _ _ | exact hG _ _ | exact hK _ | (simp (disch := decide) only [uN_s, uN_n]; omega)) ?_
    refine v_aload_n (dec_of DX9_readText 116 rfl) rfl ?_
    refine v_dup (dec_of DX9_readText 117 rfl) rfl ?_
    refine v_get fX9_169 (dec_of DX9_readText 118 rfl) rfl rfl ?_
    try simp (disch := decide) only [uN_s, uN_n]
    refine vi_const (dec_of DX9_readText 119 rfl) ?_
    refine vi_add (dec_of DX9_readText 120 rfl) ?_
    refine mp_29 fX9_169 (dec_of DX9_readText 121 rfl) ?_
    refine v_goto (tgt := 222) (dec_of DX9_readText 122 rfl) (by decide) ?_
    refine v_goto (tgt := 24) (dec_of DX9_readText 128 rfl) (by decide) ?_
    refine Vd_fg 3 ?_
    dsimp only [List.set]
    exact cont
  rw [if_neg c39] at cont
  refine v_aload_n (dec_of DX9_readText 58 rfl) rfl ?_
  refine v_get fX9_130 (dec_of DX9_readText 59 rfl) rfl rfl ?_
  try simp (disch := decide) only [uN_s, uN_n]
  refine vi_if_ne (tgt := 146) (dec_of DX9_readText 60 rfl) (by decide) (by first | omega | exact bnd_r _ _ | exact hG _ _ | exact hK _ | (simp (disch := decide) only [uN_s, uN_n]; omega)) (fun c106 => absurd c106 (by omega)) (fun c106 => ?_)
  refine v_iload_n (dec_of DX9_readText 61 rfl) rfl ?_
  refine vi_bi (dec_of DX9_readText 62 rfl) (by decide) ?_
  refine vi_icmp_ne (tgt := 146) (dec_of DX9_readText 63 rfl) (by decide) (by first | omega | exact bnd_r _ _ | exact hG _ _ | exact hK _ | (simp (disch := decide) only [uN_s, uN_n]; omega)) (by first | omega | exact bnd_r _ _ | exact hG _ _ | exact hK _ | (simp (disch := decide) only [uN_s, uN_n]; omega)) (fun c112 => ?_) (fun c112 => absurd c112 (by omega))
  refine v_aload_n (dec_of DX9_readText 83 rfl) rfl ?_
  refine v_get fX9_130 (dec_of DX9_readText 84 rfl) rfl rfl ?_
  try simp (disch := decide) only [uN_s, uN_n]
  refine vi_if_ne (tgt := 222) (dec_of DX9_readText 85 rfl) (by decide) (by first | omega | exact bnd_r _ _ | exact hG _ _ | exact hK _ | (simp (disch := decide) only [uN_s, uN_n]; omega)) (fun c150 => absurd c150 (by omega)) (fun c150 => ?_)
  refine v_aload_n (dec_of DX9_readText 86 rfl) rfl ?_
  refine v_get fX9_19 (dec_of DX9_readText 87 rfl) rfl rfl ?_
  try simp (disch := decide) only [uN_s, uN_n]
  refine v_aload_n (dec_of DX9_readText 88 rfl) rfl ?_
  refine v_get fX9_133 (dec_of DX9_readText 89 rfl) rfl rfl ?_
  try simp (disch := decide) only [uN_s, uN_n]
  refine vi_const (dec_of DX9_readText 90 rfl) ?_
  refine vi_sub (dec_of DX9_readText 91 rfl) ?_
  refine v_dup2 (dec_of DX9_readText 92 rfl) rfl rfl ?_
  refine vi_aload (dec_of DX9_readText 93 rfl) rfl (by first | omega | exact bnd_r _ _ | exact hG _ _ | exact hK _ | (simp (disch := decide) only [uN_s, uN_n]; omega)) (by decide) ?_
  try simp (disch := decide) only [uN_s, uN_n]
  refine vi_const (dec_of DX9_readText 94 rfl) ?_
  refine vi_add (dec_of DX9_readText 95 rfl) ?_
  refine ms_5 (dec_of DX9_readText 96 rfl) (by first | omega | exact bnd_r _ _ | exact hG _ _ | exact hK _ | (simp (disch := decide) only [uN_s, uN_n]; omega)) ?_
  refine v_aload_n (dec_of DX9_readText 97 rfl) rfl ?_
  refine v_get fX9_22 (dec_of DX9_readText 98 rfl) rfl rfl ?_
  try simp (disch := decide) only [uN_s, uN_n]
  refine v_aload_n (dec_of DX9_readText 99 rfl) rfl ?_
  refine v_get fX9_133 (dec_of DX9_readText 100 rfl) rfl rfl ?_
  try simp (disch := decide) only [uN_s, uN_n]
  refine vi_const (dec_of DX9_readText 101 rfl) ?_
  refine vi_sub (dec_of DX9_readText 102 rfl) ?_
  refine v_iload_n (dec_of DX9_readText 103 rfl) rfl ?_
  refine vi_bi (dec_of DX9_readText 104 rfl) (by decide) ?_
  refine vi_icmp_ne (tgt := 188) (dec_of DX9_readText 105 rfl) (by decide) (by first | omega | exact bnd_r _ _ | exact hG _ _ | exact hK _ | (simp (disch := decide) only [uN_s, uN_n]; omega)) (by first | omega | exact bnd_r _ _ | exact hG _ _ | exact hK _ | (simp (disch := decide) only [uN_s, uN_n]; omega)) (fun c181 => ?_) (fun c181 => absurd c181 (by omega))
  refine v_aload_n (dec_of DX9_readText 108 rfl) rfl ?_
  refine v_get fX9_22 (dec_of DX9_readText 109 rfl) rfl rfl ?_
  try simp (disch := decide) only [uN_s, uN_n]
  refine v_aload_n (dec_of DX9_readText 110 rfl) rfl ?_
  refine v_get fX9_133 (dec_of DX9_readText 111 rfl) rfl rfl ?_
  try simp (disch := decide) only [uN_s, uN_n]
  refine vi_const (dec_of DX9_readText 112 rfl) ?_
  refine vi_sub (dec_of DX9_readText 113 rfl) ?_
  refine vi_aload (dec_of DX9_readText 114 rfl) rfl (by first | omega | exact bnd_r _ _ | exact hG _ _ | exact hK _ | (simp (disch := decide) only [uN_s, uN_n]; omega)) (by decide) ?_
  try simp (disch := decide) only [uN_s, uN_n]
  refine ms_6 (dec_of DX9_readText 115 rfl) (by first | omega | exact bnd_r _ _ | exact hG _ _ | exact hK _ | (simp (disch := decide) only [uN_s, uN_n]; omega)) ?_
  refine v_aload_n (dec_of DX9_readText 116 rfl) rfl ?_
  refine v_dup (dec_of DX9_readText 117 rfl) rfl ?_
  refine v_get fX9_169 (dec_of DX9_readText 118 rfl) rfl rfl ?_
  try simp (disch := decide) only [uN_s, uN_n]
  refine vi_const (dec_of DX9_readText 119 rfl) ?_
  refine vi_add (dec_of DX9_readText 120 rfl) ?_
  refine mp_29 fX9_169 (dec_of DX9_readText 121 rfl) ?_
  refine v_goto (tgt := 222) (dec_of DX9_readText 122 rfl) (by decide) ?_
  refine v_goto (tgt := 24) (dec_of DX9_readText 128 rfl) (by decide) ?_
  refine Vd_fg 3 ?_
  dsimp only [List.set]
  exact cont
set_option maxRecDepth 100000 in
set_option maxHeartbeats 8000000 in
theorem q_rt_loop {I N : Nat → Int} {F : Nat → Int → Int} {n0 : Nat} {Z : XW → Option Value → Prop} : ∀ (n : Nat) (K : Nat → Int) (G : Nat → Int → Int) (a b : Int), Iv K G → (K 26 = 0 → a = K 61 ∧ b = K 62 ∧ K 60 = 0) → (K 26 = 0 → K 28 - K 29 < n) → (∀ (K1 : Nat → Int) (G1 : Nat → Int → Int), Rch (K, G) (K1, G1) → mDone K1 → Z (W2 I N F K1 G1) none) → Vd (rm 4 91 0 0) [] mX9_readText n0 Z 0 0 24 [some (.ref 31), some (J a), some (J b), none] [] (W2 I N F K G) := by
  intro n
  induction n with
  | zero =>
    intro K G a b hv hab hn hz
    have hv0 := hv
    obtain ⟨hP, hK, hG, hB, hL⟩ := hv
    have hM := hP.1
    have hM0 := hM
    unfold MR at hM
    obtain ⟨_, p23, p24, p25, p10, p29, p14, p20, p60, p61, p62, p63, p64, p26, p3, p15⟩ := hP
    by_cases f0 : K 26 = 0
    case neg =>
      have hz := hz K G (Rch.refl _) (Or.inl f0)
      by_cases hl : K 29 < K 28
      case pos =>
        refine v_aload_n (dec_of DX9_readText 15 rfl) rfl ?_
        refine v_get fX9_169 (dec_of DX9_readText 16 rfl) rfl rfl ?_
        refine v_aload_n (dec_of DX9_readText 17 rfl) rfl ?_
        refine v_get fX9_166 (dec_of DX9_readText 18 rfl) rfl rfl ?_
        refine vi_icmp_ge (tgt := 225) (dec_of DX9_readText 19 rfl) (by decide) (by first | omega | exact bnd_r _ _ | exact hG _ _ | exact hK _ | (simp (disch := decide) only [uN_s, uN_n]; omega)) (by first | omega | exact bnd_r _ _ | exact hG _ _ | exact hK _ | (simp (disch := decide) only [uN_s, uN_n]; omega)) (fun c32 => absurd c32 (by omega)) (fun c32 => ?_)
        refine v_aload_n (dec_of DX9_readText 20 rfl) rfl ?_
        refine v_get fX9_130 (dec_of DX9_readText 21 rfl) rfl rfl ?_
        refine vi_if_ne (tgt := 225) (dec_of DX9_readText 22 rfl) (by decide) (by first | omega | exact bnd_r _ _ | exact hG _ _ | exact hK _ | (simp (disch := decide) only [uN_s, uN_n]; omega)) (fun c39 => ?_) (fun c39 => absurd c39 (by omega))
        exact vi_vret (dec_of DX9_readText 129 rfl) rfl ⟨by decide, by decide⟩ (hz)
      case neg =>
        refine v_aload_n (dec_of DX9_readText 15 rfl) rfl ?_
        refine v_get fX9_169 (dec_of DX9_readText 16 rfl) rfl rfl ?_
        refine v_aload_n (dec_of DX9_readText 17 rfl) rfl ?_
        refine v_get fX9_166 (dec_of DX9_readText 18 rfl) rfl rfl ?_
        refine vi_icmp_ge (tgt := 225) (dec_of DX9_readText 19 rfl) (by decide) (by first | omega | exact bnd_r _ _ | exact hG _ _ | exact hK _ | (simp (disch := decide) only [uN_s, uN_n]; omega)) (by first | omega | exact bnd_r _ _ | exact hG _ _ | exact hK _ | (simp (disch := decide) only [uN_s, uN_n]; omega)) (fun c32 => ?_) (fun c32 => absurd c32 (by omega))
        exact vi_vret (dec_of DX9_readText 129 rfl) rfl ⟨by decide, by decide⟩ (hz)
    exact absurd (hn f0) (by omega)
  | succ n ih =>
    intro K G a b hv hab hn hz
    have hv0 := hv
    obtain ⟨hP, hK, hG, hB, hL⟩ := hv
    have hM := hP.1
    have hM0 := hM
    unfold MR at hM
    obtain ⟨_, p23, p24, p25, p10, p29, p14, p20, p60, p61, p62, p63, p64, p26, p3, p15⟩ := hP
    by_cases f0 : K 26 = 0
    case neg =>
      have hz := hz K G (Rch.refl _) (Or.inl f0)
      by_cases hl : K 29 < K 28
      case pos =>
        refine v_aload_n (dec_of DX9_readText 15 rfl) rfl ?_
        refine v_get fX9_169 (dec_of DX9_readText 16 rfl) rfl rfl ?_
        refine v_aload_n (dec_of DX9_readText 17 rfl) rfl ?_
        refine v_get fX9_166 (dec_of DX9_readText 18 rfl) rfl rfl ?_
        refine vi_icmp_ge (tgt := 225) (dec_of DX9_readText 19 rfl) (by decide) (by first | omega | exact bnd_r _ _ | exact hG _ _ | exact hK _ | (simp (disch := decide) only [uN_s, uN_n]; omega)) (by first | omega | exact bnd_r _ _ | exact hG _ _ | exact hK _ | (simp (disch := decide) only [uN_s, uN_n]; omega)) (fun c32 => absurd c32 (by omega)) (fun c32 => ?_)
        refine v_aload_n (dec_of DX9_readText 20 rfl) rfl ?_
        refine v_get fX9_130 (dec_of DX9_readText 21 rfl) rfl rfl ?_
        refine vi_if_ne (tgt := 225) (dec_of DX9_readText 22 rfl) (by decide) (by first | omega | exact bnd_r _ _ | exact hG _ _ | exact hK _ | (simp (disch := decide) only [uN_s, uN_n]; omega)) (fun c39 => ?_) (fun c39 => absurd c39 (by omega))
        exact vi_vret (dec_of DX9_readText 129 rfl) rfl ⟨by decide, by decide⟩ (hz)
      case neg =>
        refine v_aload_n (dec_of DX9_readText 15 rfl) rfl ?_
        refine v_get fX9_169 (dec_of DX9_readText 16 rfl) rfl rfl ?_
        refine v_aload_n (dec_of DX9_readText 17 rfl) rfl ?_
        refine v_get fX9_166 (dec_of DX9_readText 18 rfl) rfl rfl ?_
        refine vi_icmp_ge (tgt := 225) (dec_of DX9_readText 19 rfl) (by decide) (by first | omega | exact bnd_r _ _ | exact hG _ _ | exact hK _ | (simp (disch := decide) only [uN_s, uN_n]; omega)) (by first | omega | exact bnd_r _ _ | exact hG _ _ | exact hK _ | (simp (disch := decide) only [uN_s, uN_n]; omega)) (fun c32 => ?_) (fun c32 => absurd c32 (by omega))
        exact vi_vret (dec_of DX9_readText 129 rfl) rfl ⟨by decide, by decide⟩ (hz)
    obtain ⟨rfl, rfl, h60⟩ := hab f0
    by_cases hl : K 29 < K 28
    case neg =>
      have hz := hz K G (Rch.refl _) (Or.inr ⟨h60, by omega⟩)
      refine v_aload_n (dec_of DX9_readText 15 rfl) rfl ?_
      refine v_get fX9_169 (dec_of DX9_readText 16 rfl) rfl rfl ?_
      refine v_aload_n (dec_of DX9_readText 17 rfl) rfl ?_
      refine v_get fX9_166 (dec_of DX9_readText 18 rfl) rfl rfl ?_
      refine vi_icmp_ge (tgt := 225) (dec_of DX9_readText 19 rfl) (by decide) (by first | omega | exact bnd_r _ _ | exact hG _ _ | exact hK _ | (simp (disch := decide) only [uN_s, uN_n]; omega)) (by first | omega | exact bnd_r _ _ | exact hG _ _ | exact hK _ | (simp (disch := decide) only [uN_s, uN_n]; omega)) (fun c32 => ?_) (fun c32 => absurd c32 (by omega))
      exact vi_vret (dec_of DX9_readText 129 rfl) rfl ⟨by decide, by decide⟩ (hz)
    have hbr := byB_r hB p29.1
    have eb : G 2 (K 29) = byB K G (K 29) := by unfold byB; rw [if_pos hl]
    have hn := hn f0
    have nx : ∀ (a b : Int) (K1 : Nat → Int) (G1 : Nat → Int → Int), Rch (K, G) (K1, G1) → (K1 26 = 0 → a = K1 61 ∧ b = K1 62 ∧ K1 60 = 0) → (¬ K1 26 = 0 ∨ K 29 < K1 29) → Vd (rm 4 91 0 0) [] mX9_readText n0 Z 0 0 24 [some (.ref 31), some (J a), some (J b), none] [] (W2 I N F K1 G1) := by
      intro a b K1 G1 r a1 a2
      have k28 : K1 28 = K 28 := (keep_rch r).1
      exact ih K1 G1 a b (Iv_rch r hv0) a1 (fun q => by omega) (fun K2 G2 r2 d => hz K2 G2 (r.trans r2) d)
    have e0 := ms_out (G := G) f0 h60 hl
    unfold mOut at e0
    by_cases cb : byB K G (K 29) = 32 ∨ byB K G (K 29) = 10
    case pos =>
      rw [if_pos cb] at e0
      have nx := nx 0 1 _ _ (Rch.step e0) (fun _ => ⟨rfl, rfl, h60⟩) (Or.inr (show K 29 < K 29 + 1 by omega))
      refine v_aload_n (dec_of DX9_readText 15 rfl) rfl ?_
      refine v_get fX9_169 (dec_of DX9_readText 16 rfl) rfl rfl ?_
      refine v_aload_n (dec_of DX9_readText 17 rfl) rfl ?_
      refine v_get fX9_166 (dec_of DX9_readText 18 rfl) rfl rfl ?_
      refine vi_icmp_ge (tgt := 225) (dec_of DX9_readText 19 rfl) (by decide) (by first | omega | exact bnd_r _ _ | exact hG _ _ | exact hK _ | (simp (disch := decide) only [uN_s, uN_n]; omega)) (by first | omega | exact bnd_r _ _ | exact hG _ _ | exact hK _ | (simp (disch := decide) only [uN_s, uN_n]; omega)) (fun c32 => absurd c32 (by omega)) (fun c32 => ?_)
      refine v_aload_n (dec_of DX9_readText 20 rfl) rfl ?_
      refine v_get fX9_130 (dec_of DX9_readText 21 rfl) rfl rfl ?_
      refine vi_if_ne (tgt := 225) (dec_of DX9_readText 22 rfl) (by decide) (by first | omega | exact bnd_r _ _ | exact hG _ _ | exact hK _ | (simp (disch := decide) only [uN_s, uN_n]; omega)) (fun c39 => absurd c39 (by omega)) (fun c39 => ?_)
      refine v_aload_n (dec_of DX9_readText 23 rfl) rfl ?_
      refine v_get fX9_13 (dec_of DX9_readText 24 rfl) rfl rfl ?_
      refine v_aload_n (dec_of DX9_readText 25 rfl) rfl ?_
      refine v_get fX9_169 (dec_of DX9_readText 26 rfl) rfl rfl ?_
      refine vi_aload (dec_of DX9_readText 27 rfl) rfl (by first | omega | exact bnd_r _ _ | exact hG _ _ | exact hK _ | (simp (disch := decide) only [uN_s, uN_n]; omega)) (by decide) ?_
      rw [eb]
      refine v_istore_n (dec_of DX9_readText 28 rfl) (by decide) ?_
      dsimp only [List.set]
      refine v_iload_n (dec_of DX9_readText 29 rfl) rfl ?_
      refine v_S1r (q_isBlank (by omega)) lX9_179 (dec_of DX9_readText 30 rfl) (by decide) (nle rfl) rfl ?_
      refine vi_if_eq (tgt := 76) (dec_of DX9_readText 31 rfl) (by decide) (by first | omega | exact bnd_r _ _ | exact hG _ _ | exact hK _ | (simp (disch := decide) only [uN_s, uN_n]; omega)) (fun c56 => absurd c56 (by omega)) (fun c56 => ?_)
      refine vi_const (dec_of DX9_readText 32 rfl) ?_
      refine v_istore_n (dec_of DX9_readText 33 rfl) (by decide) ?_
      dsimp only [List.set]
      refine vi_const (dec_of DX9_readText 34 rfl) ?_
      refine v_istore_n (dec_of DX9_readText 35 rfl) (by decide) ?_
      dsimp only [List.set]
      refine v_aload_n (dec_of DX9_readText 36 rfl) rfl ?_
      refine v_dup (dec_of DX9_readText 37 rfl) rfl ?_
      refine v_get fX9_169 (dec_of DX9_readText 38 rfl) rfl rfl ?_
      refine vi_const (dec_of DX9_readText 39 rfl) ?_
      refine vi_add (dec_of DX9_readText 40 rfl) ?_
      refine mp_29 fX9_169 (dec_of DX9_readText 41 rfl) ?_
      refine v_goto (tgt := 222) (dec_of DX9_readText 42 rfl) (by decide) ?_
      refine v_goto (tgt := 24) (dec_of DX9_readText 128 rfl) (by decide) ?_
      refine Vd_fg 3 ?_
      dsimp only [List.set]
      exact nx
    rw [if_neg cb] at e0
    by_cases cl : isLP (byB K G (K 29))
    case neg =>
      rw [if_neg cl] at e0
      have nx := nx (K 61) (K 62) _ _ (Rch.step e0) (fun q => absurd (show (1 : Int) = 0 from q) (by decide)) (Or.inl (show ¬ (1 : Int) = 0 by decide))
      unfold isLP at cl
      refine v_aload_n (dec_of DX9_readText 15 rfl) rfl ?_
      refine v_get fX9_169 (dec_of DX9_readText 16 rfl) rfl rfl ?_
      refine v_aload_n (dec_of DX9_readText 17 rfl) rfl ?_
      refine v_get fX9_166 (dec_of DX9_readText 18 rfl) rfl rfl ?_
      refine vi_icmp_ge (tgt := 225) (dec_of DX9_readText 19 rfl) (by decide) (by first | omega | exact bnd_r _ _ | exact hG _ _ | exact hK _ | (simp (disch := decide) only [uN_s, uN_n]; omega)) (by first | omega | exact bnd_r _ _ | exact hG _ _ | exact hK _ | (simp (disch := decide) only [uN_s, uN_n]; omega)) (fun c32 => absurd c32 (by omega)) (fun c32 => ?_)
      refine v_aload_n (dec_of DX9_readText 20 rfl) rfl ?_
      refine v_get fX9_130 (dec_of DX9_readText 21 rfl) rfl rfl ?_
      refine vi_if_ne (tgt := 225) (dec_of DX9_readText 22 rfl) (by decide) (by first | omega | exact bnd_r _ _ | exact hG _ _ | exact hK _ | (simp (disch := decide) only [uN_s, uN_n]; omega)) (fun c39 => absurd c39 (by omega)) (fun c39 => ?_)
      refine v_aload_n (dec_of DX9_readText 23 rfl) rfl ?_
      refine v_get fX9_13 (dec_of DX9_readText 24 rfl) rfl rfl ?_
      refine v_aload_n (dec_of DX9_readText 25 rfl) rfl ?_
      refine v_get fX9_169 (dec_of DX9_readText 26 rfl) rfl rfl ?_
      refine vi_aload (dec_of DX9_readText 27 rfl) rfl (by first | omega | exact bnd_r _ _ | exact hG _ _ | exact hK _ | (simp (disch := decide) only [uN_s, uN_n]; omega)) (by decide) ?_
      rw [eb]
      refine v_istore_n (dec_of DX9_readText 28 rfl) (by decide) ?_
      dsimp only [List.set]
      refine v_iload_n (dec_of DX9_readText 29 rfl) rfl ?_
      refine v_S1r (q_isBlank (by omega)) lX9_179 (dec_of DX9_readText 30 rfl) (by decide) (nle rfl) rfl ?_
      refine vi_if_eq (tgt := 76) (dec_of DX9_readText 31 rfl) (by decide) (by first | omega | exact bnd_r _ _ | exact hG _ _ | exact hK _ | (simp (disch := decide) only [uN_s, uN_n]; omega)) (fun c56 => ?_) (fun c56 => absurd c56 (by omega))
      refine v_iload_n (dec_of DX9_readText 43 rfl) rfl ?_
      refine v_S1r (q_isLetter (by omega)) lX9_183 (dec_of DX9_readText 44 rfl) (by decide) (nle rfl) rfl ?_
      refine vi_if_ne (tgt := 89) (dec_of DX9_readText 45 rfl) (by decide) (by first | omega | exact bnd_r _ _ | exact hG _ _ | exact hK _ | (simp (disch := decide) only [uN_s, uN_n]; omega)) (fun c80 => absurd c80 (by omega)) (fun c80 => ?_)
      refine v_iload_n (dec_of DX9_readText 46 rfl) rfl ?_
      refine vi_bi (dec_of DX9_readText 47 rfl) (by decide) ?_
      refine vi_icmp_ne (tgt := 213) (dec_of DX9_readText 48 rfl) (by decide) (by first | omega | exact bnd_r _ _ | exact hG _ _ | exact hK _ | (simp (disch := decide) only [uN_s, uN_n]; omega)) (by first | omega | exact bnd_r _ _ | exact hG _ _ | exact hK _ | (simp (disch := decide) only [uN_s, uN_n]; omega)) (fun c86 => ?_) (fun c86 => absurd c86 (by omega))
      refine v_aload_n (dec_of DX9_readText 123 rfl) rfl ?_
      refine vi_const (dec_of DX9_readText 124 rfl) ?_
      refine v_aload_n (dec_of DX9_readText 125 rfl) rfl ?_
      refine v_get fX9_169 (dec_of DX9_readText 126 rfl) rfl rfl ?_
      refine v_V2v (q_wrong0 hG hK hM0 f0) lX9_172 (dec_of DX9_readText 127 rfl) rfl rfl (by decide) (nle rfl) rfl ?_
      refine v_goto (tgt := 24) (dec_of DX9_readText 128 rfl) (by decide) ?_
      refine Vd_fg 3 ?_
      dsimp only [List.set]
      exact nx
    rw [if_pos cl] at e0
    have from89 : Vd (rm 4 91 0 0) [] mX9_readText n0 Z 0 0 89 [some (.ref 31), some (J (K 61)), some (J (K 62)), some (J (byB K G (K 29)))] [] (W2 I N F K G) := by
      by_cases h61 : K 61 = 0
      case neg =>
        refine v_iload_n (dec_of DX9_readText 49 rfl) rfl ?_
        refine vi_if_ne (tgt := 102) (dec_of DX9_readText 50 rfl) (by decide) (by first | omega | exact bnd_r _ _ | exact hG _ _ | exact hK _ | (simp (disch := decide) only [uN_s, uN_n]; omega)) (fun c90 => ?_) (fun c90 => absurd c90 (by omega))
        rw [show K 61 = 1 by omega]
        exact q_r102 hv0 f0 h60 (by omega) hl cl (fun a K1 G1 r b1 b2 => nx a (K 62) K1 G1 r (fun q => by rcases b1 with z | z; exact absurd q z; exact ⟨z.2.1, z.2.2.symm, z.1⟩) (Or.inr b2))
      rw [if_pos h61] at e0
      by_cases h3 : K 3 = 60
      case pos =>
        rw [if_pos h3] at e0
        have nx := nx 1 0 _ _ (Rch.step e0) (fun q => absurd (show (2 : Int) = 0 from q) (by decide)) (Or.inl (show ¬ (2 : Int) = 0 by decide))
        refine v_iload_n (dec_of DX9_readText 49 rfl) rfl ?_
        refine vi_if_ne (tgt := 102) (dec_of DX9_readText 50 rfl) (by decide) (by first | omega | decide | exact hG _ _ | exact hK _ | exact (show -2147483648 ≤ (2 : Int) ∧ (2 : Int) < 2147483648 by decide)) (fun c90 => absurd c90 (by omega)) (fun c90 => ?_)
        refine v_aload_n (dec_of DX9_readText 51 rfl) rfl ?_
        refine v_iload_n (dec_of DX9_readText 52 rfl) rfl ?_
        refine v_V1v (q_bg_full hv0 h3 f0) lX9_186 (dec_of DX9_readText 53 rfl) rfl rfl (by decide) (nle rfl) rfl ?_
        refine vi_const (dec_of DX9_readText 54 rfl) ?_
        refine v_istore_n (dec_of DX9_readText 55 rfl) (by decide) ?_
        dsimp only [List.set]
        refine vi_const (dec_of DX9_readText 56 rfl) ?_
        refine v_istore_n (dec_of DX9_readText 57 rfl) (by decide) ?_
        dsimp only [List.set]
        refine v_aload_n (dec_of DX9_readText 58 rfl) rfl ?_
        refine v_get fX9_130 (dec_of DX9_readText 59 rfl) rfl rfl ?_
        refine vi_if_ne (tgt := 146) (dec_of DX9_readText 60 rfl) (by decide) (by first | omega | decide | exact hG _ _ | exact hK _ | exact (show -2147483648 ≤ (2 : Int) ∧ (2 : Int) < 2147483648 by decide)) (fun c106 => ?_) (fun c106 => absurd c106 (by first | exact (show ¬ (2 : Int) = 0 by decide) | exact (fun q => q (show ¬ (2 : Int) = 0 by decide))))
        refine v_aload_n (dec_of DX9_readText 83 rfl) rfl ?_
        refine v_get fX9_130 (dec_of DX9_readText 84 rfl) rfl rfl ?_
        refine vi_if_ne (tgt := 222) (dec_of DX9_readText 85 rfl) (by decide) (by first | omega | decide | exact hG _ _ | exact hK _ | exact (show -2147483648 ≤ (2 : Int) ∧ (2 : Int) < 2147483648 by decide)) (fun c150 => ?_) (fun c150 => absurd c150 (by first | exact (show ¬ (2 : Int) = 0 by decide) | exact (fun q => q (show ¬ (2 : Int) = 0 by decide))))
        refine v_goto (tgt := 24) (dec_of DX9_readText 128 rfl) (by decide) ?_
        refine Vd_fg 3 ?_
        dsimp only [List.set]
        exact nx
      have hv2 := Iv_bg hv0 h60 h3
      refine v_iload_n (dec_of DX9_readText 49 rfl) rfl ?_
      refine vi_if_ne (tgt := 102) (dec_of DX9_readText 50 rfl) (by decide) (by first | omega | exact bnd_r _ _ | exact hG _ _ | exact hK _ | (simp (disch := decide) only [uN_s, uN_n]; omega)) (fun c90 => absurd c90 (by omega)) (fun c90 => ?_)
      refine v_aload_n (dec_of DX9_readText 51 rfl) rfl ?_
      refine v_iload_n (dec_of DX9_readText 52 rfl) rfl ?_
      refine v_V1v (q_bg hv0 h3) lX9_186 (dec_of DX9_readText 53 rfl) rfl rfl (by decide) (nle rfl) rfl ?_
      refine vi_const (dec_of DX9_readText 54 rfl) ?_
      refine v_istore_n (dec_of DX9_readText 55 rfl) (by decide) ?_
      dsimp only [List.set]
      refine vi_const (dec_of DX9_readText 56 rfl) ?_
      refine v_istore_n (dec_of DX9_readText 57 rfl) (by decide) ?_
      dsimp only [List.set]
      refine q_r102 (K := bgK K) (G := bgG K G) hv2 f0 h60 rfl hl cl (fun a K1 G1 r b1 b2 => ?_)
      exact nx a 0 K1 G1 (Rch_bg f0 h60 hl cl h61 h3 r (Or.inl (fun q => absurd (show K 29 < K1 29 from b2) (by have q : K1 29 = K 29 := q; omega)))) (fun q => by rcases b1 with z | z; exact absurd q z; exact ⟨z.2.1, z.2.2.symm, z.1⟩) (Or.inr b2)
    by_cases c40 : byB K G (K 29) = 40
    case pos =>
      refine v_aload_n (dec_of DX9_readText 15 rfl) rfl ?_
      refine v_get fX9_169 (dec_of DX9_readText 16 rfl) rfl rfl ?_
      refine v_aload_n (dec_of DX9_readText 17 rfl) rfl ?_
      refine v_get fX9_166 (dec_of DX9_readText 18 rfl) rfl rfl ?_
      refine vi_icmp_ge (tgt := 225) (dec_of DX9_readText 19 rfl) (by decide) (by first | omega | exact bnd_r _ _ | exact hG _ _ | exact hK _ | (simp (disch := decide) only [uN_s, uN_n]; omega)) (by first | omega | exact bnd_r _ _ | exact hG _ _ | exact hK _ | (simp (disch := decide) only [uN_s, uN_n]; omega)) (fun c32 => absurd c32 (by omega)) (fun c32 => ?_)
      refine v_aload_n (dec_of DX9_readText 20 rfl) rfl ?_
      refine v_get fX9_130 (dec_of DX9_readText 21 rfl) rfl rfl ?_
      refine vi_if_ne (tgt := 225) (dec_of DX9_readText 22 rfl) (by decide) (by first | omega | exact bnd_r _ _ | exact hG _ _ | exact hK _ | (simp (disch := decide) only [uN_s, uN_n]; omega)) (fun c39 => absurd c39 (by omega)) (fun c39 => ?_)
      refine v_aload_n (dec_of DX9_readText 23 rfl) rfl ?_
      refine v_get fX9_13 (dec_of DX9_readText 24 rfl) rfl rfl ?_
      refine v_aload_n (dec_of DX9_readText 25 rfl) rfl ?_
      refine v_get fX9_169 (dec_of DX9_readText 26 rfl) rfl rfl ?_
      refine vi_aload (dec_of DX9_readText 27 rfl) rfl (by first | omega | exact bnd_r _ _ | exact hG _ _ | exact hK _ | (simp (disch := decide) only [uN_s, uN_n]; omega)) (by decide) ?_
      rw [eb]
      refine v_istore_n (dec_of DX9_readText 28 rfl) (by decide) ?_
      dsimp only [List.set]
      refine v_iload_n (dec_of DX9_readText 29 rfl) rfl ?_
      refine v_S1r (q_isBlank (by omega)) lX9_179 (dec_of DX9_readText 30 rfl) (by decide) (nle rfl) rfl ?_
      refine vi_if_eq (tgt := 76) (dec_of DX9_readText 31 rfl) (by decide) (by first | omega | exact bnd_r _ _ | exact hG _ _ | exact hK _ | (simp (disch := decide) only [uN_s, uN_n]; omega)) (fun c56 => ?_) (fun c56 => absurd c56 (by omega))
      refine v_iload_n (dec_of DX9_readText 43 rfl) rfl ?_
      refine v_S1r (q_isLetter (by omega)) lX9_183 (dec_of DX9_readText 44 rfl) (by decide) (nle rfl) rfl ?_
      refine vi_if_ne (tgt := 89) (dec_of DX9_readText 45 rfl) (by decide) (by first | omega | exact bnd_r _ _ | exact hG _ _ | exact hK _ | (simp (disch := decide) only [uN_s, uN_n]; omega)) (fun c80 => absurd c80 (by omega)) (fun c80 => ?_)
      refine v_iload_n (dec_of DX9_readText 46 rfl) rfl ?_
      refine vi_bi (dec_of DX9_readText 47 rfl) (by decide) ?_
      refine vi_icmp_ne (tgt := 213) (dec_of DX9_readText 48 rfl) (by decide) (by first | omega | exact bnd_r _ _ | exact hG _ _ | exact hK _ | (simp (disch := decide) only [uN_s, uN_n]; omega)) (by first | omega | exact bnd_r _ _ | exact hG _ _ | exact hK _ | (simp (disch := decide) only [uN_s, uN_n]; omega)) (fun c86 => absurd c86 (by omega)) (fun c86 => ?_)
      exact from89
    unfold isLP at cl
    refine v_aload_n (dec_of DX9_readText 15 rfl) rfl ?_
    refine v_get fX9_169 (dec_of DX9_readText 16 rfl) rfl rfl ?_
    refine v_aload_n (dec_of DX9_readText 17 rfl) rfl ?_
    refine v_get fX9_166 (dec_of DX9_readText 18 rfl) rfl rfl ?_
    refine vi_icmp_ge (tgt := 225) (dec_of DX9_readText 19 rfl) (by decide) (by first | omega | exact bnd_r _ _ | exact hG _ _ | exact hK _ | (simp (disch := decide) only [uN_s, uN_n]; omega)) (by first | omega | exact bnd_r _ _ | exact hG _ _ | exact hK _ | (simp (disch := decide) only [uN_s, uN_n]; omega)) (fun c32 => absurd c32 (by omega)) (fun c32 => ?_)
    refine v_aload_n (dec_of DX9_readText 20 rfl) rfl ?_
    refine v_get fX9_130 (dec_of DX9_readText 21 rfl) rfl rfl ?_
    refine vi_if_ne (tgt := 225) (dec_of DX9_readText 22 rfl) (by decide) (by first | omega | exact bnd_r _ _ | exact hG _ _ | exact hK _ | (simp (disch := decide) only [uN_s, uN_n]; omega)) (fun c39 => absurd c39 (by omega)) (fun c39 => ?_)
    refine v_aload_n (dec_of DX9_readText 23 rfl) rfl ?_
    refine v_get fX9_13 (dec_of DX9_readText 24 rfl) rfl rfl ?_
    refine v_aload_n (dec_of DX9_readText 25 rfl) rfl ?_
    refine v_get fX9_169 (dec_of DX9_readText 26 rfl) rfl rfl ?_
    refine vi_aload (dec_of DX9_readText 27 rfl) rfl (by first | omega | exact bnd_r _ _ | exact hG _ _ | exact hK _ | (simp (disch := decide) only [uN_s, uN_n]; omega)) (by decide) ?_
    rw [eb]
    refine v_istore_n (dec_of DX9_readText 28 rfl) (by decide) ?_
    dsimp only [List.set]
    refine v_iload_n (dec_of DX9_readText 29 rfl) rfl ?_
    refine v_S1r (q_isBlank (by omega)) lX9_179 (dec_of DX9_readText 30 rfl) (by decide) (nle rfl) rfl ?_
    refine vi_if_eq (tgt := 76) (dec_of DX9_readText 31 rfl) (by decide) (by first | omega | exact bnd_r _ _ | exact hG _ _ | exact hK _ | (simp (disch := decide) only [uN_s, uN_n]; omega)) (fun c56 => ?_) (fun c56 => absurd c56 (by omega))
    refine v_iload_n (dec_of DX9_readText 43 rfl) rfl ?_
    refine v_S1r (q_isLetter (by omega)) lX9_183 (dec_of DX9_readText 44 rfl) (by decide) (nle rfl) rfl ?_
    refine vi_if_ne (tgt := 89) (dec_of DX9_readText 45 rfl) (by decide) (by first | omega | exact bnd_r _ _ | exact hG _ _ | exact hK _ | (simp (disch := decide) only [uN_s, uN_n]; omega)) (fun c80 => ?_) (fun c80 => absurd c80 (by omega))
    exact from89
/-- as a reading begins -/
def rdK (K : Nat → Int) : Nat → Int := uN (uN (uN (uN (uN (uN (noK (uN (uN K 26 0) 27 (-100))) 29 0) 60 0) 61 0) 62 1) 63 1) 64 0
set_option maxRecDepth 100000 in
theorem q_rt {I N : Nat → Int} {F : Nat → Int → Int} {K : Nat → Int} {G : Nat → Int → Int} (hG : FR G) (hK : IR K) (hM : MR K) (hv : Iv (rdK K) G) : Sp (rm 4 91 0 0) mX9_readText [.ref 31] (W2 I N F K G) (fun w r => ∃ (K1 : Nat → Int) (G1 : Nat → Int → Int), Rch (rdK K, G) (K1, G1) ∧ mDone K1 ∧ w = W2 I N F K1 G1 ∧ r = none) := by
  refine sp_of (ls := [some (.ref 31), none, none, none]) (by decide) (nle rfl) rfl rfl ?_
  have hM0 := hM
  unfold MR at hM
  refine v_aload_n (dec_of DX9_readText 0 rfl) rfl ?_
  refine vi_const (dec_of DX9_readText 1 rfl) ?_
  refine mp_26 fX9_130 (dec_of DX9_readText 2 rfl) ?_
  refine v_aload_n (dec_of DX9_readText 3 rfl) rfl ?_
  refine vi_bi (dec_of DX9_readText 4 rfl) (by decide) ?_
  refine mp_27 fX9_55 (dec_of DX9_readText 5 rfl) ?_
  refine v_aload_n (dec_of DX9_readText 6 rfl) rfl ?_
  refine v_V0v (q_nothing hG ((hK.up (by decide)).up (by decide)) (by unfold MR; exact hM)) lX9_176 (dec_of DX9_readText 7 rfl) rfl rfl (by decide) (nle rfl) rfl ?_
  refine v_aload_n (dec_of DX9_readText 8 rfl) rfl ?_
  refine vi_const (dec_of DX9_readText 9 rfl) ?_
  refine mp_29 fX9_169 (dec_of DX9_readText 10 rfl) ?_
  refine vi_const (dec_of DX9_readText 11 rfl) ?_
  refine v_istore_n (dec_of DX9_readText 12 rfl) (by decide) ?_
  dsimp only [List.set]
  refine vi_const (dec_of DX9_readText 13 rfl) ?_
  refine v_istore_n (dec_of DX9_readText 14 rfl) (by decide) ?_
  dsimp only [List.set]
  refine Vd_w (w' := W2 I N F (rdK K) G) rfl ?_
  exact q_rt_loop (K 28 + 1).toNat (rdK K) G 0 1 hv (fun _ => ⟨rfl, rfl, rfl⟩) (fun _ => by show K 28 - 0 < ((K 28 + 1).toNat : Int); omega) (fun K1 G1 r d => ⟨K1, G1, r, d, rfl, rfl⟩)
