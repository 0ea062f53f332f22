/-! the reference: readSigns, readText (printed by wip/tools/gen_m11.py) -/
theorem keep_rch {K K1 : Nat → Int} {G G1 : Nat → Int → Int} (h : Rch (K, G) (K1, G1)) : K1 28 = K 28 ∧ G1 2 = G 2 :=
  Rch.inv (P := fun p => p.1 28 = K 28 ∧ p.2 2 = G 2) (fun K2 G2 h => by obtain ⟨e1, e2⟩ := keep_step (K := K2) (G := G2); exact ⟨e1.trans h.1, e2.trans h.2⟩) h ⟨rfl, rfl⟩
set_option maxRecDepth 100000 in
set_option maxHeartbeats 8000000 in
theorem q_rs_loop {I N : Nat → Int} {F : Nat → Int → Int} {n0 : Nat} {Z : XW → Option Value → Prop} : ∀ (n : Nat) (K : Nat → Int) (G : Nat → Int → Int), Iv K G → K 60 = 1 → (K 64 = 1 → ¬ K 26 = 0 ∨ mkOf (byB K G (K 29)) = 0) → (K 26 = 0 → K 28 - K 29 < n) → (∀ (K1 : Nat → Int) (G1 : Nat → Int → Int), Rch (K, G) (K1, G1) → (¬ K1 26 = 0 ∨ (K1 60 = 0 ∧ K1 61 = 0 ∧ K1 62 = K 62)) → K 29 ≤ K1 29 → Z (W2 I N F K1 G1) none) → Vd (rm 3 67 0 0) [] mX9_readSigns n0 Z 0 0 2 [some (.ref 31), some (J (K 63)), none, none, none] [] (W2 I N F K G) := by
  intro n
  induction n with
  | zero =>
    intro K G hv h60 h64 hn hz
    have hv0 := hv
    obtain ⟨hP, hK, hG, hB, hL⟩ := hv
    have hM := hP.1
    have hM0 := hM
    unfold MR at hM
    obtain ⟨_, p23, p24, p25, p10, p29, p14, p20, p60, p61, p62, p63, p64, p26, p3, p15⟩ := hP
    have f0 : ¬ K 26 = 0 := fun q => absurd (hn q) (by omega)
    have hz := hz K G (Rch.refl _) (Or.inl f0) (by omega)
    refine v_aload_n (dec_of DX9_readSigns 2 rfl) rfl ?_
    refine v_get fX9_130 (dec_of DX9_readSigns 3 rfl) rfl rfl ?_
    refine vi_if_ne (tgt := 278) (dec_of DX9_readSigns 4 rfl) (by decide) (by first | omega | exact bnd_r _ _ | exact hG _ _ | exact hK _ | (simp (disch := decide) only [uN_s, uN_n]; omega)) (fun c6 => ?_) (fun c6 => absurd c6 (by omega))
    exact vi_vret (dec_of DX9_readSigns 153 rfl) rfl ⟨by decide, by decide⟩ (hz)
  | succ n ih =>
    intro K G hv h60 h64 hn hz
    have hv0 := hv
    obtain ⟨hP, hK, hG, hB, hL⟩ := hv
    have hM := hP.1
    have hM0 := hM
    unfold MR at hM
    obtain ⟨_, p23, p24, p25, p10, p29, p14, p20, p60, p61, p62, p63, p64, p26, p3, p15⟩ := hP
    by_cases f0 : K 26 = 0
    case neg =>
      have hz := hz K G (Rch.refl _) (Or.inl f0) (by omega)
      refine v_aload_n (dec_of DX9_readSigns 2 rfl) rfl ?_
      refine v_get fX9_130 (dec_of DX9_readSigns 3 rfl) rfl rfl ?_
      refine vi_if_ne (tgt := 278) (dec_of DX9_readSigns 4 rfl) (by decide) (by first | omega | exact bnd_r _ _ | exact hG _ _ | exact hK _ | (simp (disch := decide) only [uN_s, uN_n]; omega)) (fun c6 => ?_) (fun c6 => absurd c6 (by omega))
      exact vi_vret (dec_of DX9_readSigns 153 rfl) rfl ⟨by decide, by decide⟩ (hz)
    case pos =>
      have h64 : K 64 = 1 → mkOf (byB K G (K 29)) = 0 := fun q => (h64 q).resolve_left (fun z => z f0)
      have hb1 := byB_r hB p29.1
      have hb2 := byB_r hB (k := K 29 + 1) (by omega)
      have e0 := ms_in (G := G) f0 h60
      unfold mIn at e0
      rw [if_neg (fun q => q.2 (h64 q.1))] at e0
      have nx : ∀ (K1 : Nat → Int) (G1 : Nat → Int → Int), mstep K G = (K1, G1) → K1 60 = 1 → K1 62 = K 62 → (K1 64 = 1 → ¬ K1 26 = 0 ∨ mkOf (byB K1 G1 (K1 29)) = 0) → (¬ K1 26 = 0 ∨ K 29 < K1 29) → K 29 ≤ K1 29 → Vd (rm 3 67 0 0) [] mX9_readSigns n0 Z 0 0 2 [some (.ref 31), some (J (K1 63)), none, none, none] [] (W2 I N F K1 G1) := by
        intro K1 G1 e a62 a1 a2 a3 a4
        have k28 : K1 28 = K 28 := (keep_rch (Rch.step e)).1
        have hn := hn f0
        refine ih K1 G1 (Iv_of hv0 e) a62 a2 (fun q => by omega) (fun K2 G2 r b1 b2 => hz K2 G2 ((Rch.step e).trans r) (b1.imp id (fun z => ⟨z.1, z.2.1, z.2.2.trans a1⟩)) (by omega))
      by_cases c41 : byB K G (K 29) = 41
      case pos =>
        rw [if_pos c41] at e0
        have hz := hz _ _ (Rch.step e0) (Or.inr ⟨rfl, rfl, rfl⟩) (show K 29 ≤ K 29 + 1 by omega)
        refine v_aload_n (dec_of DX9_readSigns 2 rfl) rfl ?_
        refine v_get fX9_130 (dec_of DX9_readSigns 3 rfl) rfl rfl ?_
        try simp (disch := decide) only [uN_s, uN_n]
        refine vi_if_ne (tgt := 278) (dec_of DX9_readSigns 4 rfl) (by decide) (by first | omega | exact bnd_r _ _ | exact hG _ _ | exact hK _ | (simp (disch := decide) only [uN_s, uN_n]; omega)) (fun c6 => absurd c6 (by omega)) (fun c6 => ?_)
        refine v_aload_n (dec_of DX9_readSigns 5 rfl) rfl ?_
        refine v_aload_n (dec_of DX9_readSigns 6 rfl) rfl ?_
        refine v_get fX9_169 (dec_of DX9_readSigns 7 rfl) rfl rfl ?_
        try simp (disch := decide) only [uN_s, uN_n]
        refine v_V1r (q_byteAt hG hK hM0 (by omega)) lX9_193 (dec_of DX9_readSigns 8 rfl) rfl rfl (by decide) (nle rfl) rfl ?_
        try simp (disch := decide) only [uN_s, uN_n]
        refine v_istore_n (dec_of DX9_readSigns 9 rfl) (by decide) ?_
        dsimp only [List.set]
        refine v_aload_n (dec_of DX9_readSigns 10 rfl) rfl ?_
        refine v_aload_n (dec_of DX9_readSigns 11 rfl) rfl ?_
        refine v_get fX9_169 (dec_of DX9_readSigns 12 rfl) rfl rfl ?_
        try simp (disch := decide) only [uN_s, uN_n]
        refine vi_const (dec_of DX9_readSigns 13 rfl) ?_
        refine vi_add (dec_of DX9_readSigns 14 rfl) ?_
        refine v_V1r (q_byteAt hG hK hM0 (by omega)) lX9_193 (dec_of DX9_readSigns 15 rfl) rfl rfl (by decide) (nle rfl) rfl ?_
        try simp (disch := decide) only [uN_s, uN_n]
        refine v_istore_n (dec_of DX9_readSigns 16 rfl) (by decide) ?_
        dsimp only [List.set]
        refine v_iload_n (dec_of DX9_readSigns 17 rfl) rfl ?_
        refine vi_bi (dec_of DX9_readSigns 18 rfl) (by decide) ?_
        refine vi_icmp_ne (tgt := 46) (dec_of DX9_readSigns 19 rfl) (by decide) (by first | omega | exact bnd_r _ _ | exact hG _ _ | exact hK _ | (simp (disch := decide) only [uN_s, uN_n]; omega)) (by first | omega | exact bnd_r _ _ | exact hG _ _ | exact hK _ | (simp (disch := decide) only [uN_s, uN_n]; omega)) (fun c32 => absurd c32 (by omega)) (fun c32 => ?_)
        refine v_aload_n (dec_of DX9_readSigns 20 rfl) rfl ?_
        refine v_dup (dec_of DX9_readSigns 21 rfl) rfl ?_
        refine v_get fX9_169 (dec_of DX9_readSigns 22 rfl) rfl rfl ?_
        try simp (disch := decide) only [uN_s, uN_n]
        refine vi_const (dec_of DX9_readSigns 23 rfl) ?_
        refine vi_add (dec_of DX9_readSigns 24 rfl) ?_
        refine mp_29 fX9_169 (dec_of DX9_readSigns 25 rfl) ?_
        exact vi_vret (dec_of DX9_readSigns 26 rfl) rfl ⟨by decide, by decide⟩ (hz)
      rw [if_neg c41] at e0
      by_cases ch : 97 ≤ byB K G (K 29) ∧ byB K G (K 29) ≤ 109
      case pos =>
        refine v_aload_n (dec_of DX9_readSigns 2 rfl) rfl ?_
        refine v_get fX9_130 (dec_of DX9_readSigns 3 rfl) rfl rfl ?_
        refine vi_if_ne (tgt := 278) (dec_of DX9_readSigns 4 rfl) (by decide) (by first | omega | exact bnd_r _ _ | exact hG _ _ | exact hK _ | (simp (disch := decide) only [uN_s, uN_n]; omega)) (fun c6 => absurd c6 (by omega)) (fun c6 => ?_)
        refine v_aload_n (dec_of DX9_readSigns 5 rfl) rfl ?_
        refine v_aload_n (dec_of DX9_readSigns 6 rfl) rfl ?_
        refine v_get fX9_169 (dec_of DX9_readSigns 7 rfl) rfl rfl ?_
        refine v_V1r (q_byteAt hG hK hM0 (by omega)) lX9_193 (dec_of DX9_readSigns 8 rfl) rfl rfl (by decide) (nle rfl) rfl ?_
        refine v_istore_n (dec_of DX9_readSigns 9 rfl) (by decide) ?_
        dsimp only [List.set]
        refine v_aload_n (dec_of DX9_readSigns 10 rfl) rfl ?_
        refine v_aload_n (dec_of DX9_readSigns 11 rfl) rfl ?_
        refine v_get fX9_169 (dec_of DX9_readSigns 12 rfl) rfl rfl ?_
        refine vi_const (dec_of DX9_readSigns 13 rfl) ?_
        refine vi_add (dec_of DX9_readSigns 14 rfl) ?_
        refine v_V1r (q_byteAt hG hK hM0 (by omega)) lX9_193 (dec_of DX9_readSigns 15 rfl) rfl rfl (by decide) (nle rfl) rfl ?_
        refine v_istore_n (dec_of DX9_readSigns 16 rfl) (by decide) ?_
        dsimp only [List.set]
        refine v_iload_n (dec_of DX9_readSigns 17 rfl) rfl ?_
        refine vi_bi (dec_of DX9_readSigns 18 rfl) (by decide) ?_
        refine vi_icmp_ne (tgt := 46) (dec_of DX9_readSigns 19 rfl) (by decide) (by first | omega | exact bnd_r _ _ | exact hG _ _ | exact hK _ | (simp (disch := decide) only [uN_s, uN_n]; omega)) (by first | omega | exact bnd_r _ _ | exact hG _ _ | exact hK _ | (simp (disch := decide) only [uN_s, uN_n]; omega)) (fun c32 => ?_) (fun c32 => absurd c32 (by omega))
        refine v_iload_n (dec_of DX9_readSigns 27 rfl) rfl ?_
        refine vi_bi (dec_of DX9_readSigns 28 rfl) (by decide) ?_
        refine vi_icmp_lt (tgt := 69) (dec_of DX9_readSigns 29 rfl) (by decide) (by first | omega | exact bnd_r _ _ | exact hG _ _ | exact hK _ | (simp (disch := decide) only [uN_s, uN_n]; omega)) (by first | omega | exact bnd_r _ _ | exact hG _ _ | exact hK _ | (simp (disch := decide) only [uN_s, uN_n]; omega)) (fun c49 => absurd c49 (by omega)) (fun c49 => ?_)
        refine v_iload_n (dec_of DX9_readSigns 30 rfl) rfl ?_
        refine vi_bi (dec_of DX9_readSigns 31 rfl) (by decide) ?_
        refine vi_icmp_gt (tgt := 69) (dec_of DX9_readSigns 32 rfl) (by decide) (by first | omega | exact bnd_r _ _ | exact hG _ _ | exact hK _ | (simp (disch := decide) only [uN_s, uN_n]; omega)) (by first | omega | exact bnd_r _ _ | exact hG _ _ | exact hK _ | (simp (disch := decide) only [uN_s, uN_n]; omega)) (fun c55 => absurd c55 (by omega)) (fun c55 => ?_)
        refine v_aload_n (dec_of DX9_readSigns 33 rfl) rfl ?_
        refine v_iload_n (dec_of DX9_readSigns 34 rfl) rfl ?_
        refine v_iload_n (dec_of DX9_readSigns 35 rfl) rfl ?_
        refine v_iload_n (dec_of DX9_readSigns 36 rfl) rfl ?_
        refine v_V3p (q_rh hv0 f0 h60 h64 ch) lX9_197 (dec_of DX9_readSigns 37 rfl) rfl rfl (by decide) (nle rfl) rfl (fun w r hz2 => ?_)
        obtain ⟨K1, G1, r1, rfl, rfl, a1, a2, k29, k62, a3⟩ := hz2
        rw [tl_s]
        refine v_istore_n (dec_of DX9_readSigns 38 rfl) (by decide) ?_
        dsimp only [List.set]
        refine v_goto (tgt := 275) (dec_of DX9_readSigns 39 rfl) (by decide) ?_
        refine v_goto (tgt := 2) (dec_of DX9_readSigns 152 rfl) (by decide) ?_
        refine Vd_fg 2 ?_
        refine Vd_fg 3 ?_
        refine Vd_fg 4 ?_
        dsimp only [List.set]
        have k28 : K1 28 = K 28 := (keep_rch r1).1
        have hn := hn f0
        exact ih K1 G1 (Iv_rch r1 hv0) a1 a3 (fun q => by omega) (fun K2 G2 r b1 b2 => hz K2 G2 (r1.trans r) (b1.imp id (fun z => ⟨z.1, z.2.1, z.2.2.trans k62⟩)) (by omega))
      rw [if_neg ch] at e0
      by_cases cs : byB K G (K 29) = 47 ∨ byB K G (K 29) = 32 ∨ byB K G (K 29) = 10
      case pos =>
        rw [if_pos cs] at e0
        have nx := nx _ _ e0 h60 rfl (fun q => absurd (show (0 : Int) = 1 from q) (by decide)) (Or.inr (show K 29 < K 29 + 1 by omega)) (show K 29 ≤ K 29 + 1 by omega)
        by_cases c47 : byB K G (K 29) = 47
        case pos =>
          refine v_aload_n (dec_of DX9_readSigns 2 rfl) rfl ?_
          refine v_get fX9_130 (dec_of DX9_readSigns 3 rfl) rfl rfl ?_
          try simp (disch := decide) only [uN_s, uN_n]
          refine vi_if_ne (tgt := 278) (dec_of DX9_readSigns 4 rfl) (by decide) (by first | omega | exact bnd_r _ _ | exact hG _ _ | exact hK _ | (simp (disch := decide) only [uN_s, uN_n]; omega)) (fun c6 => absurd c6 (by omega)) (fun c6 => ?_)
          refine v_aload_n (dec_of DX9_readSigns 5 rfl) rfl ?_
          refine v_aload_n (dec_of DX9_readSigns 6 rfl) rfl ?_
          refine v_get fX9_169 (dec_of DX9_readSigns 7 rfl) rfl rfl ?_
          try simp (disch := decide) only [uN_s, uN_n]
          refine v_V1r (q_byteAt hG hK hM0 (by omega)) lX9_193 (dec_of DX9_readSigns 8 rfl) rfl rfl (by decide) (nle rfl) rfl ?_
          try simp (disch := decide) only [uN_s, uN_n]
          refine v_istore_n (dec_of DX9_readSigns 9 rfl) (by decide) ?_
          dsimp only [List.set]
          refine v_aload_n (dec_of DX9_readSigns 10 rfl) rfl ?_
          refine v_aload_n (dec_of DX9_readSigns 11 rfl) rfl ?_
          refine v_get fX9_169 (dec_of DX9_readSigns 12 rfl) rfl rfl ?_
          try simp (disch := decide) only [uN_s, uN_n]
          refine vi_const (dec_of DX9_readSigns 13 rfl) ?_
          refine vi_add (dec_of DX9_readSigns 14 rfl) ?_
          refine v_V1r (q_byteAt hG hK hM0 (by omega)) lX9_193 (dec_of DX9_readSigns 15 rfl) rfl rfl (by decide) (nle rfl) rfl ?_
          try simp (disch := decide) only [uN_s, uN_n]
          refine v_istore_n (dec_of DX9_readSigns 16 rfl) (by decide) ?_
          dsimp only [List.set]
          refine v_iload_n (dec_of DX9_readSigns 17 rfl) rfl ?_
          refine vi_bi (dec_of DX9_readSigns 18 rfl) (by decide) ?_
          refine vi_icmp_ne (tgt := 46) (dec_of DX9_readSigns 19 rfl) (by decide) (by first | omega | exact bnd_r _ _ | exact hG _ _ | exact hK _ | (simp (disch := decide) only [uN_s, uN_n]; omega)) (by first | omega | exact bnd_r _ _ | exact hG _ _ | exact hK _ | (simp (disch := decide) only [uN_s, uN_n]; omega)) (fun c32 => ?_) (fun c32 => absurd c32 (by omega))
          refine v_iload_n (dec_of DX9_readSigns 27 rfl) rfl ?_
          refine vi_bi (dec_of DX9_readSigns 28 rfl) (by decide) ?_
          refine vi_icmp_lt (tgt := 69) (dec_of DX9_readSigns 29 rfl) (by decide) (by first | omega | exact bnd_r _ _ | exact hG _ _ | exact hK _ | (simp (disch := decide) only [uN_s, uN_n]; omega)) (by first | omega | exact bnd_r _ _ | exact hG _ _ | exact hK _ | (simp (disch := decide) only [uN_s, uN_n]; omega)) (fun c49 => ?_) (fun c49 => absurd c49 (by omega))
          refine v_iload_n (dec_of DX9_readSigns 40 rfl) rfl ?_
          refine vi_bi (dec_of DX9_readSigns 41 rfl) (by decide) ?_
          refine vi_icmp_eq (tgt := 82) (dec_of DX9_readSigns 42 rfl) (by decide) (by first | omega | exact bnd_r _ _ | exact hG _ _ | exact hK _ | (simp (disch := decide) only [uN_s, uN_n]; omega)) (by first | omega | exact bnd_r _ _ | exact hG _ _ | exact hK _ | (simp (disch := decide) only [uN_s, uN_n]; omega)) (fun c72 => ?_) (fun c72 => absurd c72 (by omega))
          refine vi_const (dec_of DX9_readSigns 46 rfl) ?_
          refine v_istore_n (dec_of DX9_readSigns 47 rfl) (by decide) ?_
          dsimp only [List.set]
          refine v_aload_n (dec_of DX9_readSigns 48 rfl) rfl ?_
          refine v_dup (dec_of DX9_readSigns 49 rfl) rfl ?_
          refine v_get fX9_169 (dec_of DX9_readSigns 50 rfl) rfl rfl ?_
          try simp (disch := decide) only [uN_s, uN_n]
          refine vi_const (dec_of DX9_readSigns 51 rfl) ?_
          refine vi_add (dec_of DX9_readSigns 52 rfl) ?_
          refine mp_29 fX9_169 (dec_of DX9_readSigns 53 rfl) ?_
          refine v_goto (tgt := 275) (dec_of DX9_readSigns 54 rfl) (by decide) ?_
          refine v_goto (tgt := 2) (dec_of DX9_readSigns 152 rfl) (by decide) ?_
          refine Vd_fg 2 ?_
          refine Vd_fg 3 ?_
          refine Vd_fg 4 ?_
          dsimp only [List.set]
          exact nx
        case neg =>
          refine v_aload_n (dec_of DX9_readSigns 2 rfl) rfl ?_
          refine v_get fX9_130 (dec_of DX9_readSigns 3 rfl) rfl rfl ?_
          try simp (disch := decide) only [uN_s, uN_n]
          refine vi_if_ne (tgt := 278) (dec_of DX9_readSigns 4 rfl) (by decide) (by first | omega | exact bnd_r _ _ | exact hG _ _ | exact hK _ | (simp (disch := decide) only [uN_s, uN_n]; omega)) (fun c6 => absurd c6 (by omega)) (fun c6 => ?_)
          refine v_aload_n (dec_of DX9_readSigns 5 rfl) rfl ?_
          refine v_aload_n (dec_of DX9_readSigns 6 rfl) rfl ?_
          refine v_get fX9_169 (dec_of DX9_readSigns 7 rfl) rfl rfl ?_
          try simp (disch := decide) only [uN_s, uN_n]
          refine v_V1r (q_byteAt hG hK hM0 (by omega)) lX9_193 (dec_of DX9_readSigns 8 rfl) rfl rfl (by decide) (nle rfl) rfl ?_
          try simp (disch := decide) only [uN_s, uN_n]
          refine v_istore_n (dec_of DX9_readSigns 9 rfl) (by decide) ?_
          dsimp only [List.set]
          refine v_aload_n (dec_of DX9_readSigns 10 rfl) rfl ?_
          refine v_aload_n (dec_of DX9_readSigns 11 rfl) rfl ?_
          refine v_get fX9_169 (dec_of DX9_readSigns 12 rfl) rfl rfl ?_
          try simp (disch := decide) only [uN_s, uN_n]
          refine vi_const (dec_of DX9_readSigns 13 rfl) ?_
          refine vi_add (dec_of DX9_readSigns 14 rfl) ?_
          refine v_V1r (q_byteAt hG hK hM0 (by omega)) lX9_193 (dec_of DX9_readSigns 15 rfl) rfl rfl (by decide) (nle rfl) rfl ?_
          try simp (disch := decide) only [uN_s, uN_n]
          refine v_istore_n (dec_of DX9_readSigns 16 rfl) (by decide) ?_
          dsimp only [List.set]
          refine v_iload_n (dec_of DX9_readSigns 17 rfl) rfl ?_
          refine vi_bi (dec_of DX9_readSigns 18 rfl) (by decide) ?_
          refine vi_icmp_ne (tgt := 46) (dec_of DX9_readSigns 19 rfl) (by decide) (by first | omega | exact bnd_r _ _ | exact hG _ _ | exact hK _ | (simp (disch := decide) only [uN_s, uN_n]; omega)) (by first | omega | exact bnd_r _ _ | exact hG _ _ | exact hK _ | (simp (disch := decide) only [uN_s, uN_n]; omega)) (fun c32 => ?_) (fun c32 => absurd c32 (by omega))
          refine v_iload_n (dec_of DX9_readSigns 27 rfl) rfl ?_
          refine vi_bi (dec_of DX9_readSigns 28 rfl) (by decide) ?_
          refine vi_icmp_lt (tgt := 69) (dec_of DX9_readSigns 29 rfl) (by decide) (by first | omega | exact bnd_r _ _ | exact hG _ _ | exact hK _ | (simp (disch := decide) only [uN_s, uN_n]; omega)) (by first | omega | exact bnd_r _ _ | exact hG _ _ | exact hK _ | (simp (disch := decide) only [uN_s, uN_n]; omega)) (fun c49 => ?_) (fun c49 => absurd c49 (by omega))
          refine v_iload_n (dec_of DX9_readSigns 40 rfl) rfl ?_
          refine vi_bi (dec_of DX9_readSigns 41 rfl) (by decide) ?_
          refine vi_icmp_eq (tgt := 82) (dec_of DX9_readSigns 42 rfl) (by decide) (by first | omega | exact bnd_r _ _ | exact hG _ _ | exact hK _ | (simp (disch := decide) only [uN_s, uN_n]; omega)) (by first | omega | exact bnd_r _ _ | exact hG _ _ | exact hK _ | (simp (disch := decide) only [uN_s, uN_n]; omega)) (fun c72 => absurd c72 (by omega)) (fun c72 => ?_)
          refine v_iload_n (dec_of DX9_readSigns 43 rfl) rfl ?_
          refine v_S1r (q_isBlank (by omega)) lX9_179 (dec_of DX9_readSigns 44 rfl) (by decide) (nle rfl) rfl ?_
          try simp (disch := decide) only [uN_s, uN_n]
          refine vi_if_eq (tgt := 97) (dec_of DX9_readSigns 45 rfl) (by decide) (by first | omega | exact bnd_r _ _ | exact hG _ _ | exact hK _ | (simp (disch := decide) only [uN_s, uN_n]; omega)) (fun c79 => absurd c79 (by omega)) (fun c79 => ?_)
          refine vi_const (dec_of DX9_readSigns 46 rfl) ?_
          refine v_istore_n (dec_of DX9_readSigns 47 rfl) (by decide) ?_
          dsimp only [List.set]
          refine v_aload_n (dec_of DX9_readSigns 48 rfl) rfl ?_
          refine v_dup (dec_of DX9_readSigns 49 rfl) rfl ?_
          refine v_get fX9_169 (dec_of DX9_readSigns 50 rfl) rfl rfl ?_
          try simp (disch := decide) only [uN_s, uN_n]
          refine vi_const (dec_of DX9_readSigns 51 rfl) ?_
          refine vi_add (dec_of DX9_readSigns 52 rfl) ?_
          refine mp_29 fX9_169 (dec_of DX9_readSigns 53 rfl) ?_
          refine v_goto (tgt := 275) (dec_of DX9_readSigns 54 rfl) (by decide) ?_
          refine v_goto (tgt := 2) (dec_of DX9_readSigns 152 rfl) (by decide) ?_
          refine Vd_fg 2 ?_
          refine Vd_fg 3 ?_
          refine Vd_fg 4 ?_
          dsimp only [List.set]
          exact nx
      rw [if_neg cs] at e0
      by_cases cb : byB K G (K 29) = 44 ∨ byB K G (K 29) = 59 ∨ byB K G (K 29) = 58
      case pos =>
        rw [if_pos cb] at e0
        by_cases hf : K 21 = 30
        case pos =>
          rw [if_pos hf] at e0
          have hz := hz _ _ (Rch.step e0) (Or.inl (show ¬ (2 : Int) = 0 by decide)) (show K 29 ≤ K 29 by omega)
          by_cases c44 : byB K G (K 29) = 44
          case pos =>
            refine v_aload_n (dec_of DX9_readSigns 2 rfl) rfl ?_
            refine v_get fX9_130 (dec_of DX9_readSigns 3 rfl) rfl rfl ?_
            refine vi_if_ne (tgt := 278) (dec_of DX9_readSigns 4 rfl) (by decide) (by first | omega | exact bnd_r _ _ | exact hG _ _ | exact hK _ | (simp (disch := decide) only [uN_s, uN_n]; omega)) (fun c6 => absurd c6 (by omega)) (fun c6 => ?_)
            refine v_aload_n (dec_of DX9_readSigns 5 rfl) rfl ?_
            refine v_aload_n (dec_of DX9_readSigns 6 rfl) rfl ?_
            refine v_get fX9_169 (dec_of DX9_readSigns 7 rfl) rfl rfl ?_
            refine v_V1r (q_byteAt hG hK hM0 (by omega)) lX9_193 (dec_of DX9_readSigns 8 rfl) rfl rfl (by decide) (nle rfl) rfl ?_
            refine v_istore_n (dec_of DX9_readSigns 9 rfl) (by decide) ?_
            dsimp only [List.set]
            refine v_aload_n (dec_of DX9_readSigns 10 rfl) rfl ?_
            refine v_aload_n (dec_of DX9_readSigns 11 rfl) rfl ?_
            refine v_get fX9_169 (dec_of DX9_readSigns 12 rfl) rfl rfl ?_
            refine vi_const (dec_of DX9_readSigns 13 rfl) ?_
            refine vi_add (dec_of DX9_readSigns 14 rfl) ?_
            refine v_V1r (q_byteAt hG hK hM0 (by omega)) lX9_193 (dec_of DX9_readSigns 15 rfl) rfl rfl (by decide) (nle rfl) rfl ?_
            refine v_istore_n (dec_of DX9_readSigns 16 rfl) (by decide) ?_
            dsimp only [List.set]
            refine v_iload_n (dec_of DX9_readSigns 17 rfl) rfl ?_
            refine vi_bi (dec_of DX9_readSigns 18 rfl) (by decide) ?_
            refine vi_icmp_ne (tgt := 46) (dec_of DX9_readSigns 19 rfl) (by decide) (by first | omega | exact bnd_r _ _ | exact hG _ _ | exact hK _ | (simp (disch := decide) only [uN_s, uN_n]; omega)) (by first | omega | exact bnd_r _ _ | exact hG _ _ | exact hK _ | (simp (disch := decide) only [uN_s, uN_n]; omega)) (fun c32 => ?_) (fun c32 => absurd c32 (by omega))
            refine v_iload_n (dec_of DX9_readSigns 27 rfl) rfl ?_
            refine vi_bi (dec_of DX9_readSigns 28 rfl) (by decide) ?_
            refine vi_icmp_lt (tgt := 69) (dec_of DX9_readSigns 29 rfl) (by decide) (by first | omega | exact bnd_r _ _ | exact hG _ _ | exact hK _ | (simp (disch := decide) only [uN_s, uN_n]; omega)) (by first | omega | exact bnd_r _ _ | exact hG _ _ | exact hK _ | (simp (disch := decide) only [uN_s, uN_n]; omega)) (fun c49 => ?_) (fun c49 => absurd c49 (by omega))
            refine v_iload_n (dec_of DX9_readSigns 40 rfl) rfl ?_
            refine vi_bi (dec_of DX9_readSigns 41 rfl) (by decide) ?_
            refine vi_icmp_eq (tgt := 82) (dec_of DX9_readSigns 42 rfl) (by decide) (by first | omega | exact bnd_r _ _ | exact hG _ _ | exact hK _ | (simp (disch := decide) only [uN_s, uN_n]; omega)) (by first | omega | exact bnd_r _ _ | exact hG _ _ | exact hK _ | (simp (disch := decide) only [uN_s, uN_n]; omega)) (fun c72 => absurd c72 (by omega)) (fun c72 => ?_)
            refine v_iload_n (dec_of DX9_readSigns 43 rfl) rfl ?_
            refine v_S1r (q_isBlank (by omega)) lX9_179 (dec_of DX9_readSigns 44 rfl) (by decide) (nle rfl) rfl ?_
            refine vi_if_eq (tgt := 97) (dec_of DX9_readSigns 45 rfl) (by decide) (by first | omega | exact bnd_r _ _ | exact hG _ _ | exact hK _ | (simp (disch := decide) only [uN_s, uN_n]; omega)) (fun c79 => ?_) (fun c79 => absurd c79 (by omega))
            refine v_iload_n (dec_of DX9_readSigns 55 rfl) rfl ?_
            refine vi_bi (dec_of DX9_readSigns 56 rfl) (by decide) ?_
            refine vi_icmp_eq (tgt := 115) (dec_of DX9_readSigns 57 rfl) (by decide) (by first | omega | exact bnd_r _ _ | exact hG _ _ | exact hK _ | (simp (disch := decide) only [uN_s, uN_n]; omega)) (by first | omega | exact bnd_r _ _ | exact hG _ _ | exact hK _ | (simp (disch := decide) only [uN_s, uN_n]; omega)) (fun c100 => ?_) (fun c100 => absurd c100 (by omega))
            refine v_aload_n (dec_of DX9_readSigns 64 rfl) rfl ?_
            refine v_get fX9_148 (dec_of DX9_readSigns 65 rfl) rfl rfl ?_
            refine vi_bi (dec_of DX9_readSigns 66 rfl) (by decide) ?_
            refine vi_icmp_ne (tgt := 134) (dec_of DX9_readSigns 67 rfl) (by decide) (by first | omega | exact bnd_r _ _ | exact hG _ _ | exact hK _ | (simp (disch := decide) only [uN_s, uN_n]; omega)) (by first | omega | exact bnd_r _ _ | exact hG _ _ | exact hK _ | (simp (disch := decide) only [uN_s, uN_n]; omega)) (fun c121 => absurd c121 (by omega)) (fun c121 => ?_)
            refine v_aload_n (dec_of DX9_readSigns 68 rfl) rfl ?_
            refine vi_const (dec_of DX9_readSigns 69 rfl) ?_
            refine v_aload_n (dec_of DX9_readSigns 70 rfl) rfl ?_
            refine v_get fX9_169 (dec_of DX9_readSigns 71 rfl) rfl rfl ?_
            refine v_V2v (q_wrong0 hG hK hM0 f0) lX9_172 (dec_of DX9_readSigns 72 rfl) rfl rfl (by decide) (nle rfl) rfl ?_
            exact vi_vret (dec_of DX9_readSigns 73 rfl) rfl ⟨by decide, by decide⟩ (hz)
          by_cases c59 : byB K G (K 29) = 59
          case pos =>
            refine v_aload_n (dec_of DX9_readSigns 2 rfl) rfl ?_
            refine v_get fX9_130 (dec_of DX9_readSigns 3 rfl) rfl rfl ?_
            refine vi_if_ne (tgt := 278) (dec_of DX9_readSigns 4 rfl) (by decide) (by first | omega | exact bnd_r _ _ | exact hG _ _ | exact hK _ | (simp (disch := decide) only [uN_s, uN_n]; omega)) (fun c6 => absurd c6 (by omega)) (fun c6 => ?_)
            refine v_aload_n (dec_of DX9_readSigns 5 rfl) rfl ?_
            refine v_aload_n (dec_of DX9_readSigns 6 rfl) rfl ?_
            refine v_get fX9_169 (dec_of DX9_readSigns 7 rfl) rfl rfl ?_
            refine v_V1r (q_byteAt hG hK hM0 (by omega)) lX9_193 (dec_of DX9_readSigns 8 rfl) rfl rfl (by decide) (nle rfl) rfl ?_
            refine v_istore_n (dec_of DX9_readSigns 9 rfl) (by decide) ?_
            dsimp only [List.set]
            refine v_aload_n (dec_of DX9_readSigns 10 rfl) rfl ?_
            refine v_aload_n (dec_of DX9_readSigns 11 rfl) rfl ?_
            refine v_get fX9_169 (dec_of DX9_readSigns 12 rfl) rfl rfl ?_
            refine vi_const (dec_of DX9_readSigns 13 rfl) ?_
            refine vi_add (dec_of DX9_readSigns 14 rfl) ?_
            refine v_V1r (q_byteAt hG hK hM0 (by omega)) lX9_193 (dec_of DX9_readSigns 15 rfl) rfl rfl (by decide) (nle rfl) rfl ?_
            refine v_istore_n (dec_of DX9_readSigns 16 rfl) (by decide) ?_
            dsimp only [List.set]
            refine v_iload_n (dec_of DX9_readSigns 17 rfl) rfl ?_
            refine vi_bi (dec_of DX9_readSigns 18 rfl) (by decide) ?_
            refine vi_icmp_ne (tgt := 46) (dec_of DX9_readSigns 19 rfl) (by decide) (by first | omega | exact bnd_r _ _ | exact hG _ _ | exact hK _ | (simp (disch := decide) only [uN_s, uN_n]; omega)) (by first | omega | exact bnd_r _ _ | exact hG _ _ | exact hK _ | (simp (disch := decide) only [uN_s, uN_n]; omega)) (fun c32 => ?_) (fun c32 => absurd c32 (by omega))
            refine v_iload_n (dec_of DX9_readSigns 27 rfl) rfl ?_
            refine vi_bi (dec_of DX9_readSigns 28 rfl) (by decide) ?_
            refine vi_icmp_lt (tgt := 69) (dec_of DX9_readSigns 29 rfl) (by decide) (by first | omega | exact bnd_r _ _ | exact hG _ _ | exact hK _ | (simp (disch := decide) only [uN_s, uN_n]; omega)) (by first | omega | exact bnd_r _ _ | exact hG _ _ | exact hK _ | (simp (disch := decide) only [uN_s, uN_n]; omega)) (fun c49 => ?_) (fun c49 => absurd c49 (by omega))
            refine v_iload_n (dec_of DX9_readSigns 40 rfl) rfl ?_
            refine vi_bi (dec_of DX9_readSigns 41 rfl) (by decide) ?_
            refine vi_icmp_eq (tgt := 82) (dec_of DX9_readSigns 42 rfl) (by decide) (by first | omega | exact bnd_r _ _ | exact hG _ _ | exact hK _ | (simp (disch := decide) only [uN_s, uN_n]; omega)) (by first | omega | exact bnd_r _ _ | exact hG _ _ | exact hK _ | (simp (disch := decide) only [uN_s, uN_n]; omega)) (fun c72 => absurd c72 (by omega)) (fun c72 => ?_)
            refine v_iload_n (dec_of DX9_readSigns 43 rfl) rfl ?_
            refine v_S1r (q_isBlank (by omega)) lX9_179 (dec_of DX9_readSigns 44 rfl) (by decide) (nle rfl) rfl ?_
            refine vi_if_eq (tgt := 97) (dec_of DX9_readSigns 45 rfl) (by decide) (by first | omega | exact bnd_r _ _ | exact hG _ _ | exact hK _ | (simp (disch := decide) only [uN_s, uN_n]; omega)) (fun c79 => ?_) (fun c79 => absurd c79 (by omega))
            refine v_iload_n (dec_of DX9_readSigns 55 rfl) rfl ?_
            refine vi_bi (dec_of DX9_readSigns 56 rfl) (by decide) ?_
            refine vi_icmp_eq (tgt := 115) (dec_of DX9_readSigns 57 rfl) (by decide) (by first | omega | exact bnd_r _ _ | exact hG _ _ | exact hK _ | (simp (disch := decide) only [uN_s, uN_n]; omega)) (by first | omega | exact bnd_r _ _ | exact hG _ _ | exact hK _ | (simp (disch := decide) only [uN_s, uN_n]; omega)) (fun c100 => absurd c100 (by omega)) (fun c100 => ?_)
            refine v_iload_n (dec_of DX9_readSigns 58 rfl) rfl ?_
            refine vi_bi (dec_of DX9_readSigns 59 rfl) (by decide) ?_
            refine vi_icmp_eq (tgt := 115) (dec_of DX9_readSigns 60 rfl) (by decide) (by first | omega | exact bnd_r _ _ | exact hG _ _ | exact hK _ | (simp (disch := decide) only [uN_s, uN_n]; omega)) (by first | omega | exact bnd_r _ _ | exact hG _ _ | exact hK _ | (simp (disch := decide) only [uN_s, uN_n]; omega)) (fun c106 => ?_) (fun c106 => absurd c106 (by omega))
            refine v_aload_n (dec_of DX9_readSigns 64 rfl) rfl ?_
            refine v_get fX9_148 (dec_of DX9_readSigns 65 rfl) rfl rfl ?_
            refine vi_bi (dec_of DX9_readSigns 66 rfl) (by decide) ?_
            refine vi_icmp_ne (tgt := 134) (dec_of DX9_readSigns 67 rfl) (by decide) (by first | omega | exact bnd_r _ _ | exact hG _ _ | exact hK _ | (simp (disch := decide) only [uN_s, uN_n]; omega)) (by first | omega | exact bnd_r _ _ | exact hG _ _ | exact hK _ | (simp (disch := decide) only [uN_s, uN_n]; omega)) (fun c121 => absurd c121 (by omega)) (fun c121 => ?_)
            refine v_aload_n (dec_of DX9_readSigns 68 rfl) rfl ?_
            refine vi_const (dec_of DX9_readSigns 69 rfl) ?_
            refine v_aload_n (dec_of DX9_readSigns 70 rfl) rfl ?_
            refine v_get fX9_169 (dec_of DX9_readSigns 71 rfl) rfl rfl ?_
            refine v_V2v (q_wrong0 hG hK hM0 f0) lX9_172 (dec_of DX9_readSigns 72 rfl) rfl rfl (by decide) (nle rfl) rfl ?_
            exact vi_vret (dec_of DX9_readSigns 73 rfl) rfl ⟨by decide, by decide⟩ (hz)
          refine v_aload_n (dec_of DX9_readSigns 2 rfl) rfl ?_
          refine v_get fX9_130 (dec_of DX9_readSigns 3 rfl) rfl rfl ?_
          refine vi_if_ne (tgt := 278) (dec_of DX9_readSigns 4 rfl) (by decide) (by first | omega | exact bnd_r _ _ | exact hG _ _ | exact hK _ | (simp (disch := decide) only [uN_s, uN_n]; omega)) (fun c6 => absurd c6 (by omega)) (fun c6 => ?_)
          refine v_aload_n (dec_of DX9_readSigns 5 rfl) rfl ?_
          refine v_aload_n (dec_of DX9_readSigns 6 rfl) rfl ?_
          refine v_get fX9_169 (dec_of DX9_readSigns 7 rfl) rfl rfl ?_
          refine v_V1r (q_byteAt hG hK hM0 (by omega)) lX9_193 (dec_of DX9_readSigns 8 rfl) rfl rfl (by decide) (nle rfl) rfl ?_
          refine v_istore_n (dec_of DX9_readSigns 9 rfl) (by decide) ?_
          dsimp only [List.set]
          refine v_aload_n (dec_of DX9_readSigns 10 rfl) rfl ?_
          refine v_aload_n (dec_of DX9_readSigns 11 rfl) rfl ?_
          refine v_get fX9_169 (dec_of DX9_readSigns 12 rfl) rfl rfl ?_
          refine vi_const (dec_of DX9_readSigns 13 rfl) ?_
          refine vi_add (dec_of DX9_readSigns 14 rfl) ?_
          refine v_V1r (q_byteAt hG hK hM0 (by omega)) lX9_193 (dec_of DX9_readSigns 15 rfl) rfl rfl (by decide) (nle rfl) rfl ?_
          refine v_istore_n (dec_of DX9_readSigns 16 rfl) (by decide) ?_
          dsimp only [List.set]
          refine v_iload_n (dec_of DX9_readSigns 17 rfl) rfl ?_
          refine vi_bi (dec_of DX9_readSigns 18 rfl) (by decide) ?_
          refine vi_icmp_ne (tgt := 46) (dec_of DX9_readSigns 19 rfl) (by decide) (by first | omega | exact bnd_r _ _ | exact hG _ _ | exact hK _ | (simp (disch := decide) only [uN_s, uN_n]; omega)) (by first | omega | exact bnd_r _ _ | exact hG _ _ | exact hK _ | (simp (disch := decide) only [uN_s, uN_n]; omega)) (fun c32 => ?_) (fun c32 => absurd c32 (by omega))
          refine v_iload_n (dec_of DX9_readSigns 27 rfl) rfl ?_
          refine vi_bi (dec_of DX9_readSigns 28 rfl) (by decide) ?_
          refine vi_icmp_lt (tgt := 69) (dec_of DX9_readSigns 29 rfl) (by decide) (by first | omega | exact bnd_r _ _ | exact hG _ _ | exact hK _ | (simp (disch := decide) only [uN_s, uN_n]; omega)) (by first | omega | exact bnd_r _ _ | exact hG _ _ | exact hK _ | (simp (disch := decide) only [uN_s, uN_n]; omega)) (fun c49 => ?_) (fun c49 => absurd c49 (by omega))
          refine v_iload_n (dec_of DX9_readSigns 40 rfl) rfl ?_
          refine vi_bi (dec_of DX9_readSigns 41 rfl) (by decide) ?_
          refine vi_icmp_eq (tgt := 82) (dec_of DX9_readSigns 42 rfl) (by decide) (by first | omega | exact bnd_r _ _ | exact hG _ _ | exact hK _ | (simp (disch := decide) only [uN_s, uN_n]; omega)) (by first | omega | exact bnd_r _ _ | exact hG _ _ | exact hK _ | (simp (disch := decide) only [uN_s, uN_n]; omega)) (fun c72 => absurd c72 (by omega)) (fun c72 => ?_)
          refine v_iload_n (dec_of DX9_readSigns 43 rfl) rfl ?_
          refine v_S1r (q_isBlank (by omega)) lX9_179 (dec_of DX9_readSigns 44 rfl) (by decide) (nle rfl) rfl ?_
          refine vi_if_eq (tgt := 97) (dec_of DX9_readSigns 45 rfl) (by decide) (by first | omega | exact bnd_r _ _ | exact hG _ _ | exact hK _ | (simp (disch := decide) only [uN_s, uN_n]; omega)) (fun c79 => ?_) (fun c79 => absurd c79 (by omega))
          refine v_iload_n (dec_of DX9_readSigns 55 rfl) rfl ?_
          refine vi_bi (dec_of DX9_readSigns 56 rfl) (by decide) ?_
          refine vi_icmp_eq (tgt := 115) (dec_of DX9_readSigns 57 rfl) (by decide) (by first | omega | exact bnd_r _ _ | exact hG _ _ | exact hK _ | (simp (disch := decide) only [uN_s, uN_n]; omega)) (by first | omega | exact bnd_r _ _ | exact hG _ _ | exact hK _ | (simp (disch := decide) only [uN_s, uN_n]; omega)) (fun c100 => absurd c100 (by omega)) (fun c100 => ?_)
          refine v_iload_n (dec_of DX9_readSigns 58 rfl) rfl ?_
          refine vi_bi (dec_of DX9_readSigns 59 rfl) (by decide) ?_
          refine vi_icmp_eq (tgt := 115) (dec_of DX9_readSigns 60 rfl) (by decide) (by first | omega | exact bnd_r _ _ | exact hG _ _ | exact hK _ | (simp (disch := decide) only [uN_s, uN_n]; omega)) (by first | omega | exact bnd_r _ _ | exact hG _ _ | exact hK _ | (simp (disch := decide) only [uN_s, uN_n]; omega)) (fun c106 => absurd c106 (by omega)) (fun c106 => ?_)
          refine v_iload_n (dec_of DX9_readSigns 61 rfl) rfl ?_
          refine vi_bi (dec_of DX9_readSigns 62 rfl) (by decide) ?_
          refine vi_icmp_ne (tgt := 209) (dec_of DX9_readSigns 63 rfl) (by decide) (by first | omega | exact bnd_r _ _ | exact hG _ _ | exact hK _ | (simp (disch := decide) only [uN_s, uN_n]; omega)) (by first | omega | exact bnd_r _ _ | exact hG _ _ | exact hK _ | (simp (disch := decide) only [uN_s, uN_n]; omega)) (fun c112 => absurd c112 (by omega)) (fun c112 => ?_)
          refine v_aload_n (dec_of DX9_readSigns 64 rfl) rfl ?_
          refine v_get fX9_148 (dec_of DX9_readSigns 65 rfl) rfl rfl ?_
          refine vi_bi (dec_of DX9_readSigns 66 rfl) (by decide) ?_
          refine vi_icmp_ne (tgt := 134) (dec_of DX9_readSigns 67 rfl) (by decide) (by first | omega | exact bnd_r _ _ | exact hG _ _ | exact hK _ | (simp (disch := decide) only [uN_s, uN_n]; omega)) (by first | omega | exact bnd_r _ _ | exact hG _ _ | exact hK _ | (simp (disch := decide) only [uN_s, uN_n]; omega)) (fun c121 => absurd c121 (by omega)) (fun c121 => ?_)
          refine v_aload_n (dec_of DX9_readSigns 68 rfl) rfl ?_
          refine vi_const (dec_of DX9_readSigns 69 rfl) ?_
          refine v_aload_n (dec_of DX9_readSigns 70 rfl) rfl ?_
          refine v_get fX9_169 (dec_of DX9_readSigns 71 rfl) rfl rfl ?_
          refine v_V2v (q_wrong0 hG hK hM0 f0) lX9_172 (dec_of DX9_readSigns 72 rfl) rfl rfl (by decide) (nle rfl) rfl ?_
          exact vi_vret (dec_of DX9_readSigns 73 rfl) rfl ⟨by decide, by decide⟩ (hz)
        rw [if_neg hf] at e0
        have hq : 1 ≤ brK (byB K G (K 29)) (byB K G (K 29 + 1)) ∧ brK (byB K G (K 29)) (byB K G (K 29 + 1)) ≤ 4 := brK_r _ _
        have nx := nx _ _ e0 h60 rfl (fun q => absurd (show (0 : Int) = 1 from q) (by decide)) (Or.inr (show K 29 < K 29 + (if brK (byB K G (K 29)) (byB K G (K 29 + 1)) = 4 then 2 else 1) by split <;> omega)) (show K 29 ≤ K 29 + (if brK (byB K G (K 29)) (byB K G (K 29 + 1)) = 4 then 2 else 1) by split <;> omega)
        by_cases c44 : byB K G (K 29) = 44
        case pos =>
          have eb : brK (byB K G (K 29)) (byB K G (K 29 + 1)) = 1 := by rw [brK, if_pos c44]
          rw [eb] at nx
          refine v_aload_n (dec_of DX9_readSigns 2 rfl) rfl ?_
          refine v_get fX9_130 (dec_of DX9_readSigns 3 rfl) rfl rfl ?_
          try simp (disch := decide) only [uN_s, uN_n]
          refine vi_if_ne (tgt := 278) (dec_of DX9_readSigns 4 rfl) (by decide) (by first | omega | exact bnd_r _ _ | exact hG _ _ | exact hK _ | (simp (disch := decide) only [uN_s, uN_n]; omega)) (fun c6 => absurd c6 (by omega)) (fun c6 => ?_)
          refine v_aload_n (dec_of DX9_readSigns 5 rfl) rfl ?_
          refine v_aload_n (dec_of DX9_readSigns 6 rfl) rfl ?_
          refine v_get fX9_169 (dec_of DX9_readSigns 7 rfl) rfl rfl ?_
          try simp (disch := decide) only [uN_s, uN_n]
          refine v_V1r (q_byteAt hG hK hM0 (by omega)) lX9_193 (dec_of DX9_readSigns 8 rfl) rfl rfl (by decide) (nle rfl) rfl ?_
          try simp (disch := decide) only [uN_s, uN_n]
          refine v_istore_n (dec_of DX9_readSigns 9 rfl) (by decide) ?_
          dsimp only [List.set]
          refine v_aload_n (dec_of DX9_readSigns 10 rfl) rfl ?_
          refine v_aload_n (dec_of DX9_readSigns 11 rfl) rfl ?_
          refine v_get fX9_169 (dec_of DX9_readSigns 12 rfl) rfl rfl ?_
          try simp (disch := decide) only [uN_s, uN_n]
          refine vi_const (dec_of DX9_readSigns 13 rfl) ?_
          refine vi_add (dec_of DX9_readSigns 14 rfl) ?_
          refine v_V1r (q_byteAt hG hK hM0 (by omega)) lX9_193 (dec_of DX9_readSigns 15 rfl) rfl rfl (by decide) (nle rfl) rfl ?_
          try simp (disch := decide) only [uN_s, uN_n]
          refine v_istore_n (dec_of DX9_readSigns 16 rfl) (by decide) ?_
          dsimp only [List.set]
          refine v_iload_n (dec_of DX9_readSigns 17 rfl) rfl ?_
          refine vi_bi (dec_of DX9_readSigns 18 rfl) (by decide) ?_
          refine vi_icmp_ne (tgt := 46) (dec_of DX9_readSigns 19 rfl) (by decide) (by first | omega | exact bnd_r _ _ | exact hG _ _ | exact hK _ | (simp (disch := decide) only [uN_s, uN_n]; omega)) (by first | omega | exact bnd_r _ _ | exact hG _ _ | exact hK _ | (simp (disch := decide) only [uN_s, uN_n]; omega)) (fun c32 => ?_) (fun c32 => absurd c32 (by omega))
          refine v_iload_n (dec_of DX9_readSigns 27 rfl) rfl ?_
          refine vi_bi (dec_of DX9_readSigns 28 rfl) (by decide) ?_
          refine vi_icmp_lt (tgt := 69) (dec_of DX9_readSigns 29 rfl) (by decide) (by first | omega | exact bnd_r _ _ | exact hG _ _ | exact hK _ | (simp (disch := decide) only [uN_s, uN_n]; omega)) (by first | omega | exact bnd_r _ _ | exact hG _ _ | exact hK _ | (simp (disch := decide) only [uN_s, uN_n]; omega)) (fun c49 => ?_) (fun c49 => absurd c49 (by omega))
          refine v_iload_n (dec_of DX9_readSigns 40 rfl) rfl ?_
          refine vi_bi (dec_of DX9_readSigns 41 rfl) (by decide) ?_
          refine vi_icmp_eq (tgt := 82) (dec_of DX9_readSigns 42 rfl) (by decide) (by first | omega | exact bnd_r _ _ | exact hG _ _ | exact hK _ | (simp (disch := decide) only [uN_s, uN_n]; omega)) (by first | omega | exact bnd_r _ _ | exact hG _ _ | exact hK _ | (simp (disch := decide) only [uN_s, uN_n]; omega)) (fun c72 => absurd c72 (by omega)) (fun c72 => ?_)
          refine v_iload_n (dec_of DX9_readSigns 43 rfl) rfl ?_
          refine v_S1r (q_isBlank (by omega)) lX9_179 (dec_of DX9_readSigns 44 rfl) (by decide) (nle rfl) rfl ?_
          try simp (disch := decide) only [uN_s, uN_n]
          refine vi_if_eq (tgt := 97) (dec_of DX9_readSigns 45 rfl) (by decide) (by first | omega | exact bnd_r _ _ | exact hG _ _ | exact hK _ | (simp (disch := decide) only [uN_s, uN_n]; omega)) (fun c79 => ?_) (fun c79 => absurd c79 (by omega))
          refine v_iload_n (dec_of DX9_readSigns 55 rfl) rfl ?_
          refine vi_bi (dec_of DX9_readSigns 56 rfl) (by decide) ?_
          refine vi_icmp_eq (tgt := 115) (dec_of DX9_readSigns 57 rfl) (by decide) (by first | omega | exact bnd_r _ _ | exact hG _ _ | exact hK _ | (simp (disch := decide) only [uN_s, uN_n]; omega)) (by first | omega | exact bnd_r _ _ | exact hG _ _ | exact hK _ | (simp (disch := decide) only [uN_s, uN_n]; omega)) (fun c100 => ?_) (fun c100 => absurd c100 (by omega))
          refine v_aload_n (dec_of DX9_readSigns 64 rfl) rfl ?_
          refine v_get fX9_148 (dec_of DX9_readSigns 65 rfl) rfl rfl ?_
          try simp (disch := decide) only [uN_s, uN_n]
          refine vi_bi (dec_of DX9_readSigns 66 rfl) (by decide) ?_
          refine vi_icmp_ne (tgt := 134) (dec_of DX9_readSigns 67 rfl) (by decide) (by first | omega | exact bnd_r _ _ | exact hG _ _ | exact hK _ | (simp (disch := decide) only [uN_s, uN_n]; omega)) (by first | omega | exact bnd_r _ _ | exact hG _ _ | exact hK _ | (simp (disch := decide) only [uN_s, uN_n]; omega)) (fun c121 => ?_) (fun c121 => absurd c121 (by omega))
          refine v_iload_n (dec_of DX9_readSigns 74 rfl) rfl ?_
          refine vi_bi (dec_of DX9_readSigns 75 rfl) (by decide) ?_
          refine vi_icmp_ne (tgt := 144) (dec_of DX9_readSigns 76 rfl) (by decide) (by first | omega | exact bnd_r _ _ | exact hG _ _ | exact hK _ | (simp (disch := decide) only [uN_s, uN_n]; omega)) (by first | omega | exact bnd_r _ _ | exact hG _ _ | exact hK _ | (simp (disch := decide) only [uN_s, uN_n]; omega)) (fun c137 => absurd c137 (by omega)) (fun c137 => ?_)
          refine vi_const (dec_of DX9_readSigns 77 rfl) ?_
          refine v_goto (tgt := 165) (dec_of DX9_readSigns 78 rfl) (by decide) ?_
          refine v_istore (dec_of DX9_readSigns 90 rfl) (by decide) ?_
          dsimp only [List.set]
          refine v_aload_n (dec_of DX9_readSigns 91 rfl) rfl ?_
          refine v_dup (dec_of DX9_readSigns 92 rfl) rfl ?_
          refine v_get fX9_148 (dec_of DX9_readSigns 93 rfl) rfl rfl ?_
          try simp (disch := decide) only [uN_s, uN_n]
          refine vi_const (dec_of DX9_readSigns 94 rfl) ?_
          refine vi_add (dec_of DX9_readSigns 95 rfl) ?_
          refine mp_21 fX9_148 (dec_of DX9_readSigns 96 rfl) ?_
          refine v_aload_n (dec_of DX9_readSigns 97 rfl) rfl ?_
          refine vi_const (dec_of DX9_readSigns 98 rfl) ?_
          refine v_iload (dec_of DX9_readSigns 99 rfl) rfl ?_
          refine v_V2v (q_put (by simp (disch := decide) only [uN_s, uN_n]; omega) (by simp (disch := decide) only [uN_s, uN_n]; omega)) lX9_201 (dec_of DX9_readSigns 100 rfl) rfl rfl (by decide) (nle rfl) rfl ?_
          try simp (disch := decide) only [uN_s, uN_n]
          refine vi_const (dec_of DX9_readSigns 101 rfl) ?_
          refine v_istore_n (dec_of DX9_readSigns 102 rfl) (by decide) ?_
          dsimp only [List.set]
          refine v_aload_n (dec_of DX9_readSigns 103 rfl) rfl ?_
          refine v_dup (dec_of DX9_readSigns 104 rfl) rfl ?_
          refine v_get fX9_169 (dec_of DX9_readSigns 105 rfl) rfl rfl ?_
          try simp (disch := decide) only [uN_s, uN_n]
          refine v_iload (dec_of DX9_readSigns 106 rfl) rfl ?_
          refine vi_const (dec_of DX9_readSigns 107 rfl) ?_
          refine vi_icmp_ne (tgt := 201) (dec_of DX9_readSigns 108 rfl) (by decide) (by first | omega | exact bnd_r _ _ | exact hG _ _ | exact hK _ | (simp (disch := decide) only [uN_s, uN_n]; omega)) (by first | omega | exact bnd_r _ _ | exact hG _ _ | exact hK _ | (simp (disch := decide) only [uN_s, uN_n]; omega)) (fun c194 => ?_) (fun c194 => absurd c194 (by omega))
          refine vi_const (dec_of DX9_readSigns 111 rfl) ?_
          refine vi_add (dec_of DX9_readSigns 112 rfl) ?_
          refine mp_29 fX9_169 (dec_of DX9_readSigns 113 rfl) ?_
          refine v_goto (tgt := 275) (dec_of DX9_readSigns 114 rfl) (by decide) ?_
          refine v_goto (tgt := 2) (dec_of DX9_readSigns 152 rfl) (by decide) ?_
          refine Vd_fg 2 ?_
          refine Vd_fg 3 ?_
          refine Vd_fg 4 ?_
          dsimp only [List.set]
          exact nx
        by_cases c59 : byB K G (K 29) = 59
        case pos =>
          have eb : brK (byB K G (K 29)) (byB K G (K 29 + 1)) = 2 := by rw [brK, if_neg c44, if_pos c59]
          rw [eb] at nx
          refine v_aload_n (dec_of DX9_readSigns 2 rfl) rfl ?_
          refine v_get fX9_130 (dec_of DX9_readSigns 3 rfl) rfl rfl ?_
          try simp (disch := decide) only [uN_s, uN_n]
          refine vi_if_ne (tgt := 278) (dec_of DX9_readSigns 4 rfl) (by decide) (by first | omega | exact bnd_r _ _ | exact hG _ _ | exact hK _ | (simp (disch := decide) only [uN_s, uN_n]; omega)) (fun c6 => absurd c6 (by omega)) (fun c6 => ?_)
          refine v_aload_n (dec_of DX9_readSigns 5 rfl) rfl ?_
          refine v_aload_n (dec_of DX9_readSigns 6 rfl) rfl ?_
          refine v_get fX9_169 (dec_of DX9_readSigns 7 rfl) rfl rfl ?_
          try simp (disch := decide) only [uN_s, uN_n]
          refine v_V1r (q_byteAt hG hK hM0 (by omega)) lX9_193 (dec_of DX9_readSigns 8 rfl) rfl rfl (by decide) (nle rfl) rfl ?_
          try simp (disch := decide) only [uN_s, uN_n]
          refine v_istore_n (dec_of DX9_readSigns 9 rfl) (by decide) ?_
          dsimp only [List.set]
          refine v_aload_n (dec_of DX9_readSigns 10 rfl) rfl ?_
          refine v_aload_n (dec_of DX9_readSigns 11 rfl) rfl ?_
          refine v_get fX9_169 (dec_of DX9_readSigns 12 rfl) rfl rfl ?_
          try simp (disch := decide) only [uN_s, uN_n]
          refine vi_const (dec_of DX9_readSigns 13 rfl) ?_
          refine vi_add (dec_of DX9_readSigns 14 rfl) ?_
          refine v_V1r (q_byteAt hG hK hM0 (by omega)) lX9_193 (dec_of DX9_readSigns 15 rfl) rfl rfl (by decide) (nle rfl) rfl ?_
          try simp (disch := decide) only [uN_s, uN_n]
          refine v_istore_n (dec_of DX9_readSigns 16 rfl) (by decide) ?_
          dsimp only [List.set]
          refine v_iload_n (dec_of DX9_readSigns 17 rfl) rfl ?_
          refine vi_bi (dec_of DX9_readSigns 18 rfl) (by decide) ?_
          refine vi_icmp_ne (tgt := 46) (dec_of DX9_readSigns 19 rfl) (by decide) (by first | omega | exact bnd_r _ _ | exact hG _ _ | exact hK _ | (simp (disch := decide) only [uN_s, uN_n]; omega)) (by first | omega | exact bnd_r _ _ | exact hG _ _ | exact hK _ | (simp (disch := decide) only [uN_s, uN_n]; omega)) (fun c32 => ?_) (fun c32 => absurd c32 (by omega))
          refine v_iload_n (dec_of DX9_readSigns 27 rfl) rfl ?_
          refine vi_bi (dec_of DX9_readSigns 28 rfl) (by decide) ?_
          refine vi_icmp_lt (tgt := 69) (dec_of DX9_readSigns 29 rfl) (by decide) (by first | omega | exact bnd_r _ _ | exact hG _ _ | exact hK _ | (simp (disch := decide) only [uN_s, uN_n]; omega)) (by first | omega | exact bnd_r _ _ | exact hG _ _ | exact hK _ | (simp (disch := decide) only [uN_s, uN_n]; omega)) (fun c49 => ?_) (fun c49 => absurd c49 (by omega))
          refine v_iload_n (dec_of DX9_readSigns 40 rfl) rfl ?_
          refine vi_bi (dec_of DX9_readSigns 41 rfl) (by decide) ?_
          refine vi_icmp_eq (tgt := 82) (dec_of DX9_readSigns 42 rfl) (by decide) (by first | omega | exact bnd_r _ _ | exact hG _ _ | exact hK _ | (simp (disch := decide) only [uN_s, uN_n]; omega)) (by first | omega | exact bnd_r _ _ | exact hG _ _ | exact hK _ | (simp (disch := decide) only [uN_s, uN_n]; omega)) (fun c72 => absurd c72 (by omega)) (fun c72 => ?_)
          refine v_iload_n (dec_of DX9_readSigns 43 rfl) rfl ?_
          refine v_S1r (q_isBlank (by omega)) lX9_179 (dec_of DX9_readSigns 44 rfl) (by decide) (nle rfl) rfl ?_
          try simp (disch := decide) only [uN_s, uN_n]
          refine vi_if_eq (tgt := 97) (dec_of DX9_readSigns 45 rfl) (by decide) (by first | omega | exact bnd_r _ _ | exact hG _ _ | exact hK _ | (simp (disch := decide) only [uN_s, uN_n]; omega)) (fun c79 => ?_) (fun c79 => absurd c79 (by omega))
          refine v_iload_n (dec_of DX9_readSigns 55 rfl) rfl ?_
          refine vi_bi (dec_of DX9_readSigns 56 rfl) (by decide) ?_
          refine vi_icmp_eq (tgt := 115) (dec_of DX9_readSigns 57 rfl) (by decide) (by first | omega | exact bnd_r _ _ | exact hG _ _ | exact hK _ | (simp (disch := decide) only [uN_s, uN_n]; omega)) (by first | omega | exact bnd_r _ _ | exact hG _ _ | exact hK _ | (simp (disch := decide) only [uN_s, uN_n]; omega)) (fun c100 => absurd c100 (by omega)) (fun c100 => ?_)
          refine v_iload_n (dec_of DX9_readSigns 58 rfl) rfl ?_
          refine vi_bi (dec_of DX9_readSigns 59 rfl) (by decide) ?_
          refine vi_icmp_eq (tgt := 115) (dec_of DX9_readSigns 60 rfl) (by decide) (by first | omega | exact bnd_r _ _ | exact hG _ _ | exact hK _ | (simp (disch := decide) only [uN_s, uN_n]; omega)) (by first | omega | exact bnd_r _ _ | exact hG _ _ | exact hK _ | (simp (disch := decide) only [uN_s, uN_n]; omega)) (fun c106 => ?_) (fun c106 => absurd c106 (by omega))
          refine v_aload_n (dec_of DX9_readSigns 64 rfl) rfl ?_
          refine v_get fX9_148 (dec_of DX9_readSigns 65 rfl) rfl rfl ?_
          try simp (disch := decide) only [uN_s, uN_n]
          refine vi_bi (dec_of DX9_readSigns 66 rfl) (by decide) ?_
          refine vi_icmp_ne (tgt := 134) (dec_of DX9_readSigns 67 rfl) (by decide) (by first | omega | exact bnd_r _ _ | exact hG _ _ | exact hK _ | (simp (disch := decide) only [uN_s, uN_n]; omega)) (by first | omega | exact bnd_r _ _ | exact hG _ _ | exact hK _ | (simp (disch := decide) only [uN_s, uN_n]; omega)) (fun c121 => ?_) (fun c121 => absurd c121 (by omega))
          refine v_iload_n (dec_of DX9_readSigns 74 rfl) rfl ?_
          refine vi_bi (dec_of DX9_readSigns 75 rfl) (by decide) ?_
          refine vi_icmp_ne (tgt := 144) (dec_of DX9_readSigns 76 rfl) (by decide) (by first | omega | exact bnd_r _ _ | exact hG _ _ | exact hK _ | (simp (disch := decide) only [uN_s, uN_n]; omega)) (by first | omega | exact bnd_r _ _ | exact hG _ _ | exact hK _ | (simp (disch := decide) only [uN_s, uN_n]; omega)) (fun c137 => ?_) (fun c137 => absurd c137 (by omega))
          refine v_iload_n (dec_of DX9_readSigns 79 rfl) rfl ?_
          refine vi_bi (dec_of DX9_readSigns 80 rfl) (by decide) ?_
          refine vi_icmp_ne (tgt := 154) (dec_of DX9_readSigns 81 rfl) (by decide) (by first | omega | exact bnd_r _ _ | exact hG _ _ | exact hK _ | (simp (disch := decide) only [uN_s, uN_n]; omega)) (by first | omega | exact bnd_r _ _ | exact hG _ _ | exact hK _ | (simp (disch := decide) only [uN_s, uN_n]; omega)) (fun c147 => absurd c147 (by omega)) (fun c147 => ?_)
          refine vi_const (dec_of DX9_readSigns 82 rfl) ?_
          refine v_goto (tgt := 165) (dec_of DX9_readSigns 83 rfl) (by decide) ?_
          refine v_istore (dec_of DX9_readSigns 90 rfl) (by decide) ?_
          dsimp only [List.set]
          refine v_aload_n (dec_of DX9_readSigns 91 rfl) rfl ?_
          refine v_dup (dec_of DX9_readSigns 92 rfl) rfl ?_
          refine v_get fX9_148 (dec_of DX9_readSigns 93 rfl) rfl rfl ?_
          try simp (disch := decide) only [uN_s, uN_n]
          refine vi_const (dec_of DX9_readSigns 94 rfl) ?_
          refine vi_add (dec_of DX9_readSigns 95 rfl) ?_
          refine mp_21 fX9_148 (dec_of DX9_readSigns 96 rfl) ?_
          refine v_aload_n (dec_of DX9_readSigns 97 rfl) rfl ?_
          refine vi_const (dec_of DX9_readSigns 98 rfl) ?_
          refine v_iload (dec_of DX9_readSigns 99 rfl) rfl ?_
          refine v_V2v (q_put (by simp (disch := decide) only [uN_s, uN_n]; omega) (by simp (disch := decide) only [uN_s, uN_n]; omega)) lX9_201 (dec_of DX9_readSigns 100 rfl) rfl rfl (by decide) (nle rfl) rfl ?_
          try simp (disch := decide) only [uN_s, uN_n]
          refine vi_const (dec_of DX9_readSigns 101 rfl) ?_
          refine v_istore_n (dec_of DX9_readSigns 102 rfl) (by decide) ?_
          dsimp only [List.set]
          refine v_aload_n (dec_of DX9_readSigns 103 rfl) rfl ?_
          refine v_dup (dec_of DX9_readSigns 104 rfl) rfl ?_
          refine v_get fX9_169 (dec_of DX9_readSigns 105 rfl) rfl rfl ?_
          try simp (disch := decide) only [uN_s, uN_n]
          refine v_iload (dec_of DX9_readSigns 106 rfl) rfl ?_
          refine vi_const (dec_of DX9_readSigns 107 rfl) ?_
          refine vi_icmp_ne (tgt := 201) (dec_of DX9_readSigns 108 rfl) (by decide) (by first | omega | exact bnd_r _ _ | exact hG _ _ | exact hK _ | (simp (disch := decide) only [uN_s, uN_n]; omega)) (by first | omega | exact bnd_r _ _ | exact hG _ _ | exact hK _ | (simp (disch := decide) only [uN_s, uN_n]; omega)) (fun c194 => ?_) (fun c194 => absurd c194 (by omega))
          refine vi_const (dec_of DX9_readSigns 111 rfl) ?_
          refine vi_add (dec_of DX9_readSigns 112 rfl) ?_
          refine mp_29 fX9_169 (dec_of DX9_readSigns 113 rfl) ?_
          refine v_goto (tgt := 275) (dec_of DX9_readSigns 114 rfl) (by decide) ?_
          refine v_goto (tgt := 2) (dec_of DX9_readSigns 152 rfl) (by decide) ?_
          refine Vd_fg 2 ?_
          refine Vd_fg 3 ?_
          refine Vd_fg 4 ?_
          dsimp only [List.set]
          exact nx
        by_cases d58 : byB K G (K 29 + 1) = 58
        case pos =>
          have eb : brK (byB K G (K 29)) (byB K G (K 29 + 1)) = 4 := by rw [brK, if_neg c44, if_neg c59, if_pos d58]
          rw [eb] at nx
          refine v_aload_n (dec_of DX9_readSigns 2 rfl) rfl ?_
          refine v_get fX9_130 (dec_of DX9_readSigns 3 rfl) rfl rfl ?_
          try simp (disch := decide) only [uN_s, uN_n]
          refine vi_if_ne (tgt := 278) (dec_of DX9_readSigns 4 rfl) (by decide) (by first | omega | exact bnd_r _ _ | exact hG _ _ | exact hK _ | (simp (disch := decide) only [uN_s, uN_n]; omega)) (fun c6 => absurd c6 (by omega)) (fun c6 => ?_)
          refine v_aload_n (dec_of DX9_readSigns 5 rfl) rfl ?_
          refine v_aload_n (dec_of DX9_readSigns 6 rfl) rfl ?_
          refine v_get fX9_169 (dec_of DX9_readSigns 7 rfl) rfl rfl ?_
          try simp (disch := decide) only [uN_s, uN_n]
          refine v_V1r (q_byteAt hG hK hM0 (by omega)) lX9_193 (dec_of DX9_readSigns 8 rfl) rfl rfl (by decide) (nle rfl) rfl ?_
          try simp (disch := decide) only [uN_s, uN_n]
          refine v_istore_n (dec_of DX9_readSigns 9 rfl) (by decide) ?_
          dsimp only [List.set]
          refine v_aload_n (dec_of DX9_readSigns 10 rfl) rfl ?_
          refine v_aload_n (dec_of DX9_readSigns 11 rfl) rfl ?_
          refine v_get fX9_169 (dec_of DX9_readSigns 12 rfl) rfl rfl ?_
          try simp (disch := decide) only [uN_s, uN_n]
          refine vi_const (dec_of DX9_readSigns 13 rfl) ?_
          refine vi_add (dec_of DX9_readSigns 14 rfl) ?_
          refine v_V1r (q_byteAt hG hK hM0 (by omega)) lX9_193 (dec_of DX9_readSigns 15 rfl) rfl rfl (by decide) (nle rfl) rfl ?_
          try simp (disch := decide) only [uN_s, uN_n]
          refine v_istore_n (dec_of DX9_readSigns 16 rfl) (by decide) ?_
          dsimp only [List.set]
          refine v_iload_n (dec_of DX9_readSigns 17 rfl) rfl ?_
          refine vi_bi (dec_of DX9_readSigns 18 rfl) (by decide) ?_
          refine vi_icmp_ne (tgt := 46) (dec_of DX9_readSigns 19 rfl) (by decide) (by first | omega | exact bnd_r _ _ | exact hG _ _ | exact hK _ | (simp (disch := decide) only [uN_s, uN_n]; omega)) (by first | omega | exact bnd_r _ _ | exact hG _ _ | exact hK _ | (simp (disch := decide) only [uN_s, uN_n]; omega)) (fun c32 => ?_) (fun c32 => absurd c32 (by omega))
          refine v_iload_n (dec_of DX9_readSigns 27 rfl) rfl ?_
          refine vi_bi (dec_of DX9_readSigns 28 rfl) (by decide) ?_
          refine vi_icmp_lt (tgt := 69) (dec_of DX9_readSigns 29 rfl) (by decide) (by first | omega | exact bnd_r _ _ | exact hG _ _ | exact hK _ | (simp (disch := decide) only [uN_s, uN_n]; omega)) (by first | omega | exact bnd_r _ _ | exact hG _ _ | exact hK _ | (simp (disch := decide) only [uN_s, uN_n]; omega)) (fun c49 => ?_) (fun c49 => absurd c49 (by omega))
          refine v_iload_n (dec_of DX9_readSigns 40 rfl) rfl ?_
          refine vi_bi (dec_of DX9_readSigns 41 rfl) (by decide) ?_
          refine vi_icmp_eq (tgt := 82) (dec_of DX9_readSigns 42 rfl) (by decide) (by first | omega | exact bnd_r _ _ | exact hG _ _ | exact hK _ | (simp (disch := decide) only [uN_s, uN_n]; omega)) (by first | omega | exact bnd_r _ _ | exact hG _ _ | exact hK _ | (simp (disch := decide) only [uN_s, uN_n]; omega)) (fun c72 => absurd c72 (by omega)) (fun c72 => ?_)
          refine v_iload_n (dec_of DX9_readSigns 43 rfl) rfl ?_
          refine v_S1r (q_isBlank (by omega)) lX9_179 (dec_of DX9_readSigns 44 rfl) (by decide) (nle rfl) rfl ?_
          try simp (disch := decide) only [uN_s, uN_n]
          refine vi_if_eq (tgt := 97) (dec_of DX9_readSigns 45 rfl) (by decide) (by first | omega | exact bnd_r _ _ | exact hG _ _ | exact hK _ | (simp (disch := decide) only [uN_s, uN_n]; omega)) (fun c79 => ?_) (fun c79 => absurd c79 (by omega))
          refine v_iload_n (dec_of DX9_readSigns 55 rfl) rfl ?_
          refine vi_bi (dec_of DX9_readSigns 56 rfl) (by decide) ?_
          refine vi_icmp_eq (tgt := 115) (dec_of DX9_readSigns 57 rfl) (by decide) (by first | omega | exact bnd_r _ _ | exact hG _ _ | exact hK _ | (simp (disch := decide) only [uN_s, uN_n]; omega)) (by first | omega | exact bnd_r _ _ | exact hG _ _ | exact hK _ | (simp (disch := decide) only [uN_s, uN_n]; omega)) (fun c100 => absurd c100 (by omega)) (fun c100 => ?_)
          refine v_iload_n (dec_of DX9_readSigns 58 rfl) rfl ?_
          refine vi_bi (dec_of DX9_readSigns 59 rfl) (by decide) ?_
          refine vi_icmp_eq (tgt := 115) (dec_of DX9_readSigns 60 rfl) (by decide) (by first | omega | exact bnd_r _ _ | exact hG _ _ | exact hK _ | (simp (disch := decide) only [uN_s, uN_n]; omega)) (by first | omega | exact bnd_r _ _ | exact hG _ _ | exact hK _ | (simp (disch := decide) only [uN_s, uN_n]; omega)) (fun c106 => absurd c106 (by omega)) (fun c106 => ?_)
          refine v_iload_n (dec_of DX9_readSigns 61 rfl) rfl ?_
          refine vi_bi (dec_of DX9_readSigns 62 rfl) (by decide) ?_
          refine vi_icmp_ne (tgt := 209) (dec_of DX9_readSigns 63 rfl) (by decide) (by first | omega | exact bnd_r _ _ | exact hG _ _ | exact hK _ | (simp (disch := decide) only [uN_s, uN_n]; omega)) (by first | omega | exact bnd_r _ _ | exact hG _ _ | exact hK _ | (simp (disch := decide) only [uN_s, uN_n]; omega)) (fun c112 => absurd c112 (by omega)) (fun c112 => ?_)
          refine v_aload_n (dec_of DX9_readSigns 64 rfl) rfl ?_
          refine v_get fX9_148 (dec_of DX9_readSigns 65 rfl) rfl rfl ?_
          try simp (disch := decide) only [uN_s, uN_n]
          refine vi_bi (dec_of DX9_readSigns 66 rfl) (by decide) ?_
          refine vi_icmp_ne (tgt := 134) (dec_of DX9_readSigns 67 rfl) (by decide) (by first | omega | exact bnd_r _ _ | exact hG _ _ | exact hK _ | (simp (disch := decide) only [uN_s, uN_n]; omega)) (by first | omega | exact bnd_r _ _ | exact hG _ _ | exact hK _ | (simp (disch := decide) only [uN_s, uN_n]; omega)) (fun c121 => ?_) (fun c121 => absurd c121 (by omega))
          refine v_iload_n (dec_of DX9_readSigns 74 rfl) rfl ?_
          refine vi_bi (dec_of DX9_readSigns 75 rfl) (by decide) ?_
          refine vi_icmp_ne (tgt := 144) (dec_of DX9_readSigns 76 rfl) (by decide) (by first | omega | exact bnd_r _ _ | exact hG _ _ | exact hK _ | (simp (disch := decide) only [uN_s, uN_n]; omega)) (by first | omega | exact bnd_r _ _ | exact hG _ _ | exact hK _ | (simp (disch := decide) only [uN_s, uN_n]; omega)) (fun c137 => ?_) (fun c137 => absurd c137 (by omega))
          refine v_iload_n (dec_of DX9_readSigns 79 rfl) rfl ?_
          refine vi_bi (dec_of DX9_readSigns 80 rfl) (by decide) ?_
          refine vi_icmp_ne (tgt := 154) (dec_of DX9_readSigns 81 rfl) (by decide) (by first | omega | exact bnd_r _ _ | exact hG _ _ | exact hK _ | (simp (disch := decide) only [uN_s, uN_n]; omega)) (by first | omega | exact bnd_r _ _ | exact hG _ _ | exact hK _ | (simp (disch := decide) only [uN_s, uN_n]; omega)) (fun c147 => ?_) (fun c147 => absurd c147 (by omega))
          refine v_iload_n (dec_of DX9_readSigns 84 rfl) rfl ?_
          refine vi_bi (dec_of DX9_readSigns 85 rfl) (by decide) ?_
          refine vi_icmp_ne (tgt := 164) (dec_of DX9_readSigns 86 rfl) (by decide) (by first | omega | exact bnd_r _ _ | exact hG _ _ | exact hK _ | (simp (disch := decide) only [uN_s, uN_n]; omega)) (by first | omega | exact bnd_r _ _ | exact hG _ _ | exact hK _ | (simp (disch := decide) only [uN_s, uN_n]; omega)) (fun c157 => absurd c157 (by omega)) (fun c157 => ?_)
          refine vi_const (dec_of DX9_readSigns 87 rfl) ?_
          refine v_goto (tgt := 165) (dec_of DX9_readSigns 88 rfl) (by decide) ?_
          refine v_istore (dec_of DX9_readSigns 90 rfl) (by decide) ?_
          dsimp only [List.set]
          refine v_aload_n (dec_of DX9_readSigns 91 rfl) rfl ?_
          refine v_dup (dec_of DX9_readSigns 92 rfl) rfl ?_
          refine v_get fX9_148 (dec_of DX9_readSigns 93 rfl) rfl rfl ?_
          try simp (disch := decide) only [uN_s, uN_n]
          refine vi_const (dec_of DX9_readSigns 94 rfl) ?_
          refine vi_add (dec_of DX9_readSigns 95 rfl) ?_
          refine mp_21 fX9_148 (dec_of DX9_readSigns 96 rfl) ?_
          refine v_aload_n (dec_of DX9_readSigns 97 rfl) rfl ?_
          refine vi_const (dec_of DX9_readSigns 98 rfl) ?_
          refine v_iload (dec_of DX9_readSigns 99 rfl) rfl ?_
          refine v_V2v (q_put (by simp (disch := decide) only [uN_s, uN_n]; omega) (by simp (disch := decide) only [uN_s, uN_n]; omega)) lX9_201 (dec_of DX9_readSigns 100 rfl) rfl rfl (by decide) (nle rfl) rfl ?_
          try simp (disch := decide) only [uN_s, uN_n]
          refine vi_const (dec_of DX9_readSigns 101 rfl) ?_
          refine v_istore_n (dec_of DX9_readSigns 102 rfl) (by decide) ?_
          dsimp only [List.set]
          refine v_aload_n (dec_of DX9_readSigns 103 rfl) rfl ?_
          refine v_dup (dec_of DX9_readSigns 104 rfl) rfl ?_
          refine v_get fX9_169 (dec_of DX9_readSigns 105 rfl) rfl rfl ?_
          try simp (disch := decide) only [uN_s, uN_n]
          refine v_iload (dec_of DX9_readSigns 106 rfl) rfl ?_
          refine vi_const (dec_of DX9_readSigns 107 rfl) ?_
          refine vi_icmp_ne (tgt := 201) (dec_of DX9_readSigns 108 rfl) (by decide) (by first | omega | exact bnd_r _ _ | exact hG _ _ | exact hK _ | (simp (disch := decide) only [uN_s, uN_n]; omega)) (by first | omega | exact bnd_r _ _ | exact hG _ _ | exact hK _ | (simp (disch := decide) only [uN_s, uN_n]; omega)) (fun c194 => absurd c194 (by omega)) (fun c194 => ?_)
          refine vi_const (dec_of DX9_readSigns 109 rfl) ?_
          refine v_goto (tgt := 202) (dec_of DX9_readSigns 110 rfl) (by decide) ?_
          refine vi_add (dec_of DX9_readSigns 112 rfl) ?_
          refine mp_29 fX9_169 (dec_of DX9_readSigns 113 rfl) ?_
          refine v_goto (tgt := 275) (dec_of DX9_readSigns 114 rfl) (by decide) ?_
          refine v_goto (tgt := 2) (dec_of DX9_readSigns 152 rfl) (by decide) ?_
          refine Vd_fg 2 ?_
          refine Vd_fg 3 ?_
          refine Vd_fg 4 ?_
          dsimp only [List.set]
          exact nx
        have eb : brK (byB K G (K 29)) (byB K G (K 29 + 1)) = 3 := by rw [brK, if_neg c44, if_neg c59, if_neg d58]
        rw [eb] at nx
        refine v_aload_n (dec_of DX9_readSigns 2 rfl) rfl ?_
        refine v_get fX9_130 (dec_of DX9_readSigns 3 rfl) rfl rfl ?_
        try simp (disch := decide) only [uN_s, uN_n]
        refine vi_if_ne (tgt := 278) (dec_of DX9_readSigns 4 rfl) (by decide) (by first | omega | exact bnd_r _ _ | exact hG _ _ | exact hK _ | (simp (disch := decide) only [uN_s, uN_n]; omega)) (fun c6 => absurd c6 (by omega)) (fun c6 => ?_)
        refine v_aload_n (dec_of DX9_readSigns 5 rfl) rfl ?_
        refine v_aload_n (dec_of DX9_readSigns 6 rfl) rfl ?_
        refine v_get fX9_169 (dec_of DX9_readSigns 7 rfl) rfl rfl ?_
        try simp (disch := decide) only [uN_s, uN_n]
        refine v_V1r (q_byteAt hG hK hM0 (by omega)) lX9_193 (dec_of DX9_readSigns 8 rfl) rfl rfl (by decide) (nle rfl) rfl ?_
        try simp (disch := decide) only [uN_s, uN_n]
        refine v_istore_n (dec_of DX9_readSigns 9 rfl) (by decide) ?_
        dsimp only [List.set]
        refine v_aload_n (dec_of DX9_readSigns 10 rfl) rfl ?_
        refine v_aload_n (dec_of DX9_readSigns 11 rfl) rfl ?_
        refine v_get fX9_169 (dec_of DX9_readSigns 12 rfl) rfl rfl ?_
        try simp (disch := decide) only [uN_s, uN_n]
        refine vi_const (dec_of DX9_readSigns 13 rfl) ?_
        refine vi_add (dec_of DX9_readSigns 14 rfl) ?_
        refine v_V1r (q_byteAt hG hK hM0 (by omega)) lX9_193 (dec_of DX9_readSigns 15 rfl) rfl rfl (by decide) (nle rfl) rfl ?_
        try simp (disch := decide) only [uN_s, uN_n]
        refine v_istore_n (dec_of DX9_readSigns 16 rfl) (by decide) ?_
        dsimp only [List.set]
        refine v_iload_n (dec_of DX9_readSigns 17 rfl) rfl ?_
        refine vi_bi (dec_of DX9_readSigns 18 rfl) (by decide) ?_
        refine vi_icmp_ne (tgt := 46) (dec_of DX9_readSigns 19 rfl) (by decide) (by first | omega | exact bnd_r _ _ | exact hG _ _ | exact hK _ | (simp (disch := decide) only [uN_s, uN_n]; omega)) (by first | omega | exact bnd_r _ _ | exact hG _ _ | exact hK _ | (simp (disch := decide) only [uN_s, uN_n]; omega)) (fun c32 => ?_) (fun c32 => absurd c32 (by omega))
        refine v_iload_n (dec_of DX9_readSigns 27 rfl) rfl ?_
        refine vi_bi (dec_of DX9_readSigns 28 rfl) (by decide) ?_
        refine vi_icmp_lt (tgt := 69) (dec_of DX9_readSigns 29 rfl) (by decide) (by first | omega | exact bnd_r _ _ | exact hG _ _ | exact hK _ | (simp (disch := decide) only [uN_s, uN_n]; omega)) (by first | omega | exact bnd_r _ _ | exact hG _ _ | exact hK _ | (simp (disch := decide) only [uN_s, uN_n]; omega)) (fun c49 => ?_) (fun c49 => absurd c49 (by omega))
        refine v_iload_n (dec_of DX9_readSigns 40 rfl) rfl ?_
        refine vi_bi (dec_of DX9_readSigns 41 rfl) (by decide) ?_
        refine vi_icmp_eq (tgt := 82) (dec_of DX9_readSigns 42 rfl) (by decide) (by first | omega | exact bnd_r _ _ | exact hG _ _ | exact hK _ | (simp (disch := decide) only [uN_s, uN_n]; omega)) (by first | omega | exact bnd_r _ _ | exact hG _ _ | exact hK _ | (simp (disch := decide) only [uN_s, uN_n]; omega)) (fun c72 => absurd c72 (by omega)) (fun c72 => ?_)
        refine v_iload_n (dec_of DX9_readSigns 43 rfl) rfl ?_
        refine v_S1r (q_isBlank (by omega)) lX9_179 (dec_of DX9_readSigns 44 rfl) (by decide) (nle rfl) rfl ?_
        try simp (disch := decide) only [uN_s, uN_n]
        refine vi_if_eq (tgt := 97) (dec_of DX9_readSigns 45 rfl) (by decide) (by first | omega | exact bnd_r _ _ | exact hG _ _ | exact hK _ | (simp (disch := decide) only [uN_s, uN_n]; omega)) (fun c79 => ?_) (fun c79 => absurd c79 (by omega))
        refine v_iload_n (dec_of DX9_readSigns 55 rfl) rfl ?_
        refine vi_bi (dec_of DX9_readSigns 56 rfl) (by decide) ?_
        refine vi_icmp_eq (tgt := 115) (dec_of DX9_readSigns 57 rfl) (by decide) (by first | omega | exact bnd_r _ _ | exact hG _ _ | exact hK _ | (simp (disch := decide) only [uN_s, uN_n]; omega)) (by first | omega | exact bnd_r _ _ | exact hG _ _ | exact hK _ | (simp (disch := decide) only [uN_s, uN_n]; omega)) (fun c100 => absurd c100 (by omega)) (fun c100 => ?_)
        refine v_iload_n (dec_of DX9_readSigns 58 rfl) rfl ?_
        refine vi_bi (dec_of DX9_readSigns 59 rfl) (by decide) ?_
        refine vi_icmp_eq (tgt := 115) (dec_of DX9_readSigns 60 rfl) (by decide) (by first | omega | exact bnd_r _ _ | exact hG _ _ | exact hK _ | (simp (disch := decide) only [uN_s, uN_n]; omega)) (by first | omega | exact bnd_r _ _ | exact hG _ _ | exact hK _ | (simp (disch := decide) only [uN_s, uN_n]; omega)) (fun c106 => absurd c106 (by omega)) (fun c106 => ?_)
        refine v_iload_n (dec_of DX9_readSigns 61 rfl) rfl ?_
        refine vi_bi (dec_of DX9_readSigns 62 rfl) (by decide) ?_
        refine vi_icmp_ne (tgt := 209) (dec_of DX9_readSigns 63 rfl) (by decide) (by first | omega | exact bnd_r _ _ | exact hG _ _ | exact hK _ | (simp (disch := decide) only [uN_s, uN_n]; omega)) (by first | omega | exact bnd_r _ _ | exact hG _ _ | exact hK _ | (simp (disch := decide) only [uN_s, uN_n]; omega)) (fun c112 => absurd c112 (by omega)) (fun c112 => ?_)
        refine v_aload_n (dec_of DX9_readSigns 64 rfl) rfl ?_
        refine v_get fX9_148 (dec_of DX9_readSigns 65 rfl) rfl rfl ?_
        try simp (disch := decide) only [uN_s, uN_n]
        refine vi_bi (dec_of DX9_readSigns 66 rfl) (by decide) ?_
        refine vi_icmp_ne (tgt := 134) (dec_of DX9_readSigns 67 rfl) (by decide) (by first | omega | exact bnd_r _ _ | exact hG _ _ | exact hK _ | (simp (disch := decide) only [uN_s, uN_n]; omega)) (by first | omega | exact bnd_r _ _ | exact hG _ _ | exact hK _ | (simp (disch := decide) only [uN_s, uN_n]; omega)) (fun c121 => ?_) (fun c121 => absurd c121 (by omega))
        refine v_iload_n (dec_of DX9_readSigns 74 rfl) rfl ?_
        refine vi_bi (dec_of DX9_readSigns 75 rfl) (by decide) ?_
        refine vi_icmp_ne (tgt := 144) (dec_of DX9_readSigns 76 rfl) (by decide) (by first | omega | exact bnd_r _ _ | exact hG _ _ | exact hK _ | (simp (disch := decide) only [uN_s, uN_n]; omega)) (by first | omega | exact bnd_r _ _ | exact hG _ _ | exact hK _ | (simp (disch := decide) only [uN_s, uN_n]; omega)) (fun c137 => ?_) (fun c137 => absurd c137 (by omega))
        refine v_iload_n (dec_of DX9_readSigns 79 rfl) rfl ?_
        refine vi_bi (dec_of DX9_readSigns 80 rfl) (by decide) ?_
        refine vi_icmp_ne (tgt := 154) (dec_of DX9_readSigns 81 rfl) (by decide) (by first | omega | exact bnd_r _ _ | exact hG _ _ | exact hK _ | (simp (disch := decide) only [uN_s, uN_n]; omega)) (by first | omega | exact bnd_r _ _ | exact hG _ _ | exact hK _ | (simp (disch := decide) only [uN_s, uN_n]; omega)) (fun c147 => ?_) (fun c147 => absurd c147 (by omega))
        refine v_iload_n (dec_of DX9_readSigns 84 rfl) rfl ?_
        refine vi_bi (dec_of DX9_readSigns 85 rfl) (by decide) ?_
        refine vi_icmp_ne (tgt := 164) (dec_of DX9_readSigns 86 rfl) (by decide) (by first | omega | exact bnd_r _ _ | exact hG _ _ | exact hK _ | (simp (disch := decide) only [uN_s, uN_n]; omega)) (by first | omega | exact bnd_r _ _ | exact hG _ _ | exact hK _ | (simp (disch := decide) only [uN_s, uN_n]; omega)) (fun c157 => ?_) (fun c157 => absurd c157 (by omega))
        refine vi_const (dec_of DX9_readSigns 89 rfl) ?_
        refine v_istore (dec_of DX9_readSigns 90 rfl) (by decide) ?_
        dsimp only [List.set]
        refine v_aload_n (dec_of DX9_readSigns 91 rfl) rfl ?_
        refine v_dup (dec_of DX9_readSigns 92 rfl) rfl ?_
        refine v_get fX9_148 (dec_of DX9_readSigns 93 rfl) rfl rfl ?_
        try simp (disch := decide) only [uN_s, uN_n]
        refine vi_const (dec_of DX9_readSigns 94 rfl) ?_
        refine vi_add (dec_of DX9_readSigns 95 rfl) ?_
        refine mp_21 fX9_148 (dec_of DX9_readSigns 96 rfl) ?_
        refine v_aload_n (dec_of DX9_readSigns 97 rfl) rfl ?_
        refine vi_const (dec_of DX9_readSigns 98 rfl) ?_
        refine v_iload (dec_of DX9_readSigns 99 rfl) rfl ?_
        refine v_V2v (q_put (by simp (disch := decide) only [uN_s, uN_n]; omega) (by simp (disch := decide) only [uN_s, uN_n]; omega)) lX9_201 (dec_of DX9_readSigns 100 rfl) rfl rfl (by decide) (nle rfl) rfl ?_
        try simp (disch := decide) only [uN_s, uN_n]
        refine vi_const (dec_of DX9_readSigns 101 rfl) ?_
        refine v_istore_n (dec_of DX9_readSigns 102 rfl) (by decide) ?_
        dsimp only [List.set]
        refine v_aload_n (dec_of DX9_readSigns 103 rfl) rfl ?_
        refine v_dup (dec_of DX9_readSigns 104 rfl) rfl ?_
        refine v_get fX9_169 (dec_of DX9_readSigns 105 rfl) rfl rfl ?_
        try simp (disch := decide) only [uN_s, uN_n]
        refine v_iload (dec_of DX9_readSigns 106 rfl) rfl ?_
        refine vi_const (dec_of DX9_readSigns 107 rfl) ?_
        refine vi_icmp_ne (tgt := 201) (dec_of DX9_readSigns 108 rfl) (by decide) (by first | omega | exact bnd_r _ _ | exact hG _ _ | exact hK _ | (simp (disch := decide) only [uN_s, uN_n]; omega)) (by first | omega | exact bnd_r _ _ | exact hG _ _ | exact hK _ | (simp (disch := decide) only [uN_s, uN_n]; omega)) (fun c194 => ?_) (fun c194 => absurd c194 (by omega))
        refine vi_const (dec_of DX9_readSigns 111 rfl) ?_
        refine vi_add (dec_of DX9_readSigns 112 rfl) ?_
        refine mp_29 fX9_169 (dec_of DX9_readSigns 113 rfl) ?_
        refine v_goto (tgt := 275) (dec_of DX9_readSigns 114 rfl) (by decide) ?_
        refine v_goto (tgt := 2) (dec_of DX9_readSigns 152 rfl) (by decide) ?_
        refine Vd_fg 2 ?_
        refine Vd_fg 3 ?_
        refine Vd_fg 4 ?_
        dsimp only [List.set]
        exact nx
      rw [if_neg cb] at e0
      by_cases cz : byB K G (K 29) = 122
      case pos =>
        rw [if_pos cz] at e0
        by_cases hf : K 22 = 20
        case pos =>
          rw [if_pos hf] at e0
          have hz := hz _ _ (Rch.step e0) (Or.inl (show ¬ (2 : Int) = 0 by decide)) (show K 29 ≤ K 29 by omega)
          refine v_aload_n (dec_of DX9_readSigns 2 rfl) rfl ?_
          refine v_get fX9_130 (dec_of DX9_readSigns 3 rfl) rfl rfl ?_
          refine vi_if_ne (tgt := 278) (dec_of DX9_readSigns 4 rfl) (by decide) (by first | omega | exact bnd_r _ _ | exact hG _ _ | exact hK _ | (simp (disch := decide) only [uN_s, uN_n]; omega)) (fun c6 => absurd c6 (by omega)) (fun c6 => ?_)
          refine v_aload_n (dec_of DX9_readSigns 5 rfl) rfl ?_
          refine v_aload_n (dec_of DX9_readSigns 6 rfl) rfl ?_
          refine v_get fX9_169 (dec_of DX9_readSigns 7 rfl) rfl rfl ?_
          refine v_V1r (q_byteAt hG hK hM0 (by omega)) lX9_193 (dec_of DX9_readSigns 8 rfl) rfl rfl (by decide) (nle rfl) rfl ?_
          refine v_istore_n (dec_of DX9_readSigns 9 rfl) (by decide) ?_
          dsimp only [List.set]
          refine v_aload_n (dec_of DX9_readSigns 10 rfl) rfl ?_
          refine v_aload_n (dec_of DX9_readSigns 11 rfl) rfl ?_
          refine v_get fX9_169 (dec_of DX9_readSigns 12 rfl) rfl rfl ?_
          refine vi_const (dec_of DX9_readSigns 13 rfl) ?_
          refine vi_add (dec_of DX9_readSigns 14 rfl) ?_
          refine v_V1r (q_byteAt hG hK hM0 (by omega)) lX9_193 (dec_of DX9_readSigns 15 rfl) rfl rfl (by decide) (nle rfl) rfl ?_
          refine v_istore_n (dec_of DX9_readSigns 16 rfl) (by decide) ?_
          dsimp only [List.set]
          refine v_iload_n (dec_of DX9_readSigns 17 rfl) rfl ?_
          refine vi_bi (dec_of DX9_readSigns 18 rfl) (by decide) ?_
          refine vi_icmp_ne (tgt := 46) (dec_of DX9_readSigns 19 rfl) (by decide) (by first | omega | exact bnd_r _ _ | exact hG _ _ | exact hK _ | (simp (disch := decide) only [uN_s, uN_n]; omega)) (by first | omega | exact bnd_r _ _ | exact hG _ _ | exact hK _ | (simp (disch := decide) only [uN_s, uN_n]; omega)) (fun c32 => ?_) (fun c32 => absurd c32 (by omega))
          refine v_iload_n (dec_of DX9_readSigns 27 rfl) rfl ?_
          refine vi_bi (dec_of DX9_readSigns 28 rfl) (by decide) ?_
          refine vi_icmp_lt (tgt := 69) (dec_of DX9_readSigns 29 rfl) (by decide) (by first | omega | exact bnd_r _ _ | exact hG _ _ | exact hK _ | (simp (disch := decide) only [uN_s, uN_n]; omega)) (by first | omega | exact bnd_r _ _ | exact hG _ _ | exact hK _ | (simp (disch := decide) only [uN_s, uN_n]; omega)) (fun c49 => absurd c49 (by omega)) (fun c49 => ?_)
          refine v_iload_n (dec_of DX9_readSigns 30 rfl) rfl ?_
          refine vi_bi (dec_of DX9_readSigns 31 rfl) (by decide) ?_
          refine vi_icmp_gt (tgt := 69) (dec_of DX9_readSigns 32 rfl) (by decide) (by first | omega | exact bnd_r _ _ | exact hG _ _ | exact hK _ | (simp (disch := decide) only [uN_s, uN_n]; omega)) (by first | omega | exact bnd_r _ _ | exact hG _ _ | exact hK _ | (simp (disch := decide) only [uN_s, uN_n]; omega)) (fun c55 => ?_) (fun c55 => absurd c55 (by omega))
          refine v_iload_n (dec_of DX9_readSigns 40 rfl) rfl ?_
          refine vi_bi (dec_of DX9_readSigns 41 rfl) (by decide) ?_
          refine vi_icmp_eq (tgt := 82) (dec_of DX9_readSigns 42 rfl) (by decide) (by first | omega | exact bnd_r _ _ | exact hG _ _ | exact hK _ | (simp (disch := decide) only [uN_s, uN_n]; omega)) (by first | omega | exact bnd_r _ _ | exact hG _ _ | exact hK _ | (simp (disch := decide) only [uN_s, uN_n]; omega)) (fun c72 => absurd c72 (by omega)) (fun c72 => ?_)
          refine v_iload_n (dec_of DX9_readSigns 43 rfl) rfl ?_
          refine v_S1r (q_isBlank (by omega)) lX9_179 (dec_of DX9_readSigns 44 rfl) (by decide) (nle rfl) rfl ?_
          refine vi_if_eq (tgt := 97) (dec_of DX9_readSigns 45 rfl) (by decide) (by first | omega | exact bnd_r _ _ | exact hG _ _ | exact hK _ | (simp (disch := decide) only [uN_s, uN_n]; omega)) (fun c79 => ?_) (fun c79 => absurd c79 (by omega))
          refine v_iload_n (dec_of DX9_readSigns 55 rfl) rfl ?_
          refine vi_bi (dec_of DX9_readSigns 56 rfl) (by decide) ?_
          refine vi_icmp_eq (tgt := 115) (dec_of DX9_readSigns 57 rfl) (by decide) (by first | omega | exact bnd_r _ _ | exact hG _ _ | exact hK _ | (simp (disch := decide) only [uN_s, uN_n]; omega)) (by first | omega | exact bnd_r _ _ | exact hG _ _ | exact hK _ | (simp (disch := decide) only [uN_s, uN_n]; omega)) (fun c100 => absurd c100 (by omega)) (fun c100 => ?_)
          refine v_iload_n (dec_of DX9_readSigns 58 rfl) rfl ?_
          refine vi_bi (dec_of DX9_readSigns 59 rfl) (by decide) ?_
          refine vi_icmp_eq (tgt := 115) (dec_of DX9_readSigns 60 rfl) (by decide) (by first | omega | exact bnd_r _ _ | exact hG _ _ | exact hK _ | (simp (disch := decide) only [uN_s, uN_n]; omega)) (by first | omega | exact bnd_r _ _ | exact hG _ _ | exact hK _ | (simp (disch := decide) only [uN_s, uN_n]; omega)) (fun c106 => absurd c106 (by omega)) (fun c106 => ?_)
          refine v_iload_n (dec_of DX9_readSigns 61 rfl) rfl ?_
          refine vi_bi (dec_of DX9_readSigns 62 rfl) (by decide) ?_
          refine vi_icmp_ne (tgt := 209) (dec_of DX9_readSigns 63 rfl) (by decide) (by first | omega | exact bnd_r _ _ | exact hG _ _ | exact hK _ | (simp (disch := decide) only [uN_s, uN_n]; omega)) (by first | omega | exact bnd_r _ _ | exact hG _ _ | exact hK _ | (simp (disch := decide) only [uN_s, uN_n]; omega)) (fun c112 => ?_) (fun c112 => absurd c112 (by omega))
          refine v_iload_n (dec_of DX9_readSigns 115 rfl) rfl ?_
          refine vi_bi (dec_of DX9_readSigns 116 rfl) (by decide) ?_
          refine vi_icmp_ne (tgt := 266) (dec_of DX9_readSigns 117 rfl) (by decide) (by first | omega | exact bnd_r _ _ | exact hG _ _ | exact hK _ | (simp (disch := decide) only [uN_s, uN_n]; omega)) (by first | omega | exact bnd_r _ _ | exact hG _ _ | exact hK _ | (simp (disch := decide) only [uN_s, uN_n]; omega)) (fun c212 => absurd c212 (by omega)) (fun c212 => ?_)
          refine v_aload_n (dec_of DX9_readSigns 118 rfl) rfl ?_
          refine v_get fX9_151 (dec_of DX9_readSigns 119 rfl) rfl rfl ?_
          refine vi_bi (dec_of DX9_readSigns 120 rfl) (by decide) ?_
          refine vi_icmp_ne (tgt := 234) (dec_of DX9_readSigns 121 rfl) (by decide) (by first | omega | exact bnd_r _ _ | exact hG _ _ | exact hK _ | (simp (disch := decide) only [uN_s, uN_n]; omega)) (by first | omega | exact bnd_r _ _ | exact hG _ _ | exact hK _ | (simp (disch := decide) only [uN_s, uN_n]; omega)) (fun c221 => absurd c221 (by omega)) (fun c221 => ?_)
          refine v_aload_n (dec_of DX9_readSigns 122 rfl) rfl ?_
          refine vi_const (dec_of DX9_readSigns 123 rfl) ?_
          refine v_aload_n (dec_of DX9_readSigns 124 rfl) rfl ?_
          refine v_get fX9_169 (dec_of DX9_readSigns 125 rfl) rfl rfl ?_
          refine v_V2v (q_wrong0 hG hK hM0 f0) lX9_172 (dec_of DX9_readSigns 126 rfl) rfl rfl (by decide) (nle rfl) rfl ?_
          exact vi_vret (dec_of DX9_readSigns 127 rfl) rfl ⟨by decide, by decide⟩ (hz)
        rw [if_neg hf] at e0
        have nx := nx _ _ e0 h60 rfl (fun q => absurd (show (0 : Int) = 1 from q) (by decide)) (Or.inr (show K 29 < K 29 + 1 by omega)) (show K 29 ≤ K 29 + 1 by omega)
        refine v_aload_n (dec_of DX9_readSigns 2 rfl) rfl ?_
        refine v_get fX9_130 (dec_of DX9_readSigns 3 rfl) rfl rfl ?_
        try simp (disch := decide) only [uN_s, uN_n]
        refine vi_if_ne (tgt := 278) (dec_of DX9_readSigns 4 rfl) (by decide) (by first | omega | exact bnd_r _ _ | exact hG _ _ | exact hK _ | (simp (disch := decide) only [uN_s, uN_n]; omega)) (fun c6 => absurd c6 (by omega)) (fun c6 => ?_)
        refine v_aload_n (dec_of DX9_readSigns 5 rfl) rfl ?_
        refine v_aload_n (dec_of DX9_readSigns 6 rfl) rfl ?_
        refine v_get fX9_169 (dec_of DX9_readSigns 7 rfl) rfl rfl ?_
        try simp (disch := decide) only [uN_s, uN_n]
        refine v_V1r (q_byteAt hG hK hM0 (by omega)) lX9_193 (dec_of DX9_readSigns 8 rfl) rfl rfl (by decide) (nle rfl) rfl ?_
        try simp (disch := decide) only [uN_s, uN_n]
        refine v_istore_n (dec_of DX9_readSigns 9 rfl) (by decide) ?_
        dsimp only [List.set]
        refine v_aload_n (dec_of DX9_readSigns 10 rfl) rfl ?_
        refine v_aload_n (dec_of DX9_readSigns 11 rfl) rfl ?_
        refine v_get fX9_169 (dec_of DX9_readSigns 12 rfl) rfl rfl ?_
        try simp (disch := decide) only [uN_s, uN_n]
        refine vi_const (dec_of DX9_readSigns 13 rfl) ?_
        refine vi_add (dec_of DX9_readSigns 14 rfl) ?_
        refine v_V1r (q_byteAt hG hK hM0 (by omega)) lX9_193 (dec_of DX9_readSigns 15 rfl) rfl rfl (by decide) (nle rfl) rfl ?_
        try simp (disch := decide) only [uN_s, uN_n]
        refine v_istore_n (dec_of DX9_readSigns 16 rfl) (by decide) ?_
        dsimp only [List.set]
        refine v_iload_n (dec_of DX9_readSigns 17 rfl) rfl ?_
        refine vi_bi (dec_of DX9_readSigns 18 rfl) (by decide) ?_
        refine vi_icmp_ne (tgt := 46) (dec_of DX9_readSigns 19 rfl) (by decide) (by first | omega | exact bnd_r _ _ | exact hG _ _ | exact hK _ | (simp (disch := decide) only [uN_s, uN_n]; omega)) (by first | omega | exact bnd_r _ _ | exact hG _ _ | exact hK _ | (simp (disch := decide) only [uN_s, uN_n]; omega)) (fun c32 => ?_) (fun c32 => absurd c32 (by omega))
        refine v_iload_n (dec_of DX9_readSigns 27 rfl) rfl ?_
        refine vi_bi (dec_of DX9_readSigns 28 rfl) (by decide) ?_
        refine vi_icmp_lt (tgt := 69) (dec_of DX9_readSigns 29 rfl) (by decide) (by first | omega | exact bnd_r _ _ | exact hG _ _ | exact hK _ | (simp (disch := decide) only [uN_s, uN_n]; omega)) (by first | omega | exact bnd_r _ _ | exact hG _ _ | exact hK _ | (simp (disch := decide) only [uN_s, uN_n]; omega)) (fun c49 => absurd c49 (by omega)) (fun c49 => ?_)
        refine v_iload_n (dec_of DX9_readSigns 30 rfl) rfl ?_
        refine vi_bi (dec_of DX9_readSigns 31 rfl) (by decide) ?_
        refine vi_icmp_gt (tgt := 69) (dec_of DX9_readSigns 32 rfl) (by decide) (by first | omega | exact bnd_r _ _ | exact hG _ _ | exact hK _ | (simp (disch := decide) only [uN_s, uN_n]; omega)) (by first | omega | exact bnd_r _ _ | exact hG _ _ | exact hK _ | (simp (disch := decide) only [uN_s, uN_n]; omega)) (fun c55 => ?_) (fun c55 => absurd c55 (by omega))
        refine v_iload_n (dec_of DX9_readSigns 40 rfl) rfl ?_
        refine vi_bi (dec_of DX9_readSigns 41 rfl) (by decide) ?_
        refine vi_icmp_eq (tgt := 82) (dec_of DX9_readSigns 42 rfl) (by decide) (by first | omega | exact bnd_r _ _ | exact hG _ _ | exact hK _ | (simp (disch := decide) only [uN_s, uN_n]; omega)) (by first | omega | exact bnd_r _ _ | exact hG _ _ | exact hK _ | (simp (disch := decide) only [uN_s, uN_n]; omega)) (fun c72 => absurd c72 (by omega)) (fun c72 => ?_)
        refine v_iload_n (dec_of DX9_readSigns 43 rfl) rfl ?_
        refine v_S1r (q_isBlank (by omega)) lX9_179 (dec_of DX9_readSigns 44 rfl) (by decide) (nle rfl) rfl ?_
        try simp (disch := decide) only [uN_s, uN_n]
        refine vi_if_eq (tgt := 97) (dec_of DX9_readSigns 45 rfl) (by decide) (by first | omega | exact bnd_r _ _ | exact hG _ _ | exact hK _ | (simp (disch := decide) only [uN_s, uN_n]; omega)) (fun c79 => ?_) (fun c79 => absurd c79 (by omega))
        refine v_iload_n (dec_of DX9_readSigns 55 rfl) rfl ?_
        refine vi_bi (dec_of DX9_readSigns 56 rfl) (by decide) ?_
        refine vi_icmp_eq (tgt := 115) (dec_of DX9_readSigns 57 rfl) (by decide) (by first | omega | exact bnd_r _ _ | exact hG _ _ | exact hK _ | (simp (disch := decide) only [uN_s, uN_n]; omega)) (by first | omega | exact bnd_r _ _ | exact hG _ _ | exact hK _ | (simp (disch := decide) only [uN_s, uN_n]; omega)) (fun c100 => absurd c100 (by omega)) (fun c100 => ?_)
        refine v_iload_n (dec_of DX9_readSigns 58 rfl) rfl ?_
        refine vi_bi (dec_of DX9_readSigns 59 rfl) (by decide) ?_
        refine vi_icmp_eq (tgt := 115) (dec_of DX9_readSigns 60 rfl) (by decide) (by first | omega | exact bnd_r _ _ | exact hG _ _ | exact hK _ | (simp (disch := decide) only [uN_s, uN_n]; omega)) (by first | omega | exact bnd_r _ _ | exact hG _ _ | exact hK _ | (simp (disch := decide) only [uN_s, uN_n]; omega)) (fun c106 => absurd c106 (by omega)) (fun c106 => ?_)
        refine v_iload_n (dec_of DX9_readSigns 61 rfl) rfl ?_
        refine vi_bi (dec_of DX9_readSigns 62 rfl) (by decide) ?_
        refine vi_icmp_ne (tgt := 209) (dec_of DX9_readSigns 63 rfl) (by decide) (by first | omega | exact bnd_r _ _ | exact hG _ _ | exact hK _ | (simp (disch := decide) only [uN_s, uN_n]; omega)) (by first | omega | exact bnd_r _ _ | exact hG _ _ | exact hK _ | (simp (disch := decide) only [uN_s, uN_n]; omega)) (fun c112 => ?_) (fun c112 => absurd c112 (by omega))
        refine v_iload_n (dec_of DX9_readSigns 115 rfl) rfl ?_
        refine vi_bi (dec_of DX9_readSigns 116 rfl) (by decide) ?_
        refine vi_icmp_ne (tgt := 266) (dec_of DX9_readSigns 117 rfl) (by decide) (by first | omega | exact bnd_r _ _ | exact hG _ _ | exact hK _ | (simp (disch := decide) only [uN_s, uN_n]; omega)) (by first | omega | exact bnd_r _ _ | exact hG _ _ | exact hK _ | (simp (disch := decide) only [uN_s, uN_n]; omega)) (fun c212 => absurd c212 (by omega)) (fun c212 => ?_)
        refine v_aload_n (dec_of DX9_readSigns 118 rfl) rfl ?_
        refine v_get fX9_151 (dec_of DX9_readSigns 119 rfl) rfl rfl ?_
        try simp (disch := decide) only [uN_s, uN_n]
        refine vi_bi (dec_of DX9_readSigns 120 rfl) (by decide) ?_
        refine vi_icmp_ne (tgt := 234) (dec_of DX9_readSigns 121 rfl) (by decide) (by first | omega | exact bnd_r _ _ | exact hG _ _ | exact hK _ | (simp (disch := decide) only [uN_s, uN_n]; omega)) (by first | omega | exact bnd_r _ _ | exact hG _ _ | exact hK _ | (simp (disch := decide) only [uN_s, uN_n]; omega)) (fun c221 => ?_) (fun c221 => absurd c221 (by omega))
        refine v_aload_n (dec_of DX9_readSigns 128 rfl) rfl ?_
        refine v_dup (dec_of DX9_readSigns 129 rfl) rfl ?_
        refine v_get fX9_151 (dec_of DX9_readSigns 130 rfl) rfl rfl ?_
        try simp (disch := decide) only [uN_s, uN_n]
        refine vi_const (dec_of DX9_readSigns 131 rfl) ?_
        refine vi_add (dec_of DX9_readSigns 132 rfl) ?_
        refine mp_22 fX9_151 (dec_of DX9_readSigns 133 rfl) ?_
        refine v_aload_n (dec_of DX9_readSigns 134 rfl) rfl ?_
        refine vi_bi (dec_of DX9_readSigns 135 rfl) (by decide) ?_
        refine vi_const (dec_of DX9_readSigns 136 rfl) ?_
        refine v_V2v (q_put (by simp (disch := decide) only [uN_s, uN_n]; omega) (by simp (disch := decide) only [uN_s, uN_n]; omega)) lX9_201 (dec_of DX9_readSigns 137 rfl) rfl rfl (by decide) (nle rfl) rfl ?_
        try simp (disch := decide) only [uN_s, uN_n]
        refine vi_const (dec_of DX9_readSigns 138 rfl) ?_
        refine v_istore_n (dec_of DX9_readSigns 139 rfl) (by decide) ?_
        dsimp only [List.set]
        refine v_aload_n (dec_of DX9_readSigns 140 rfl) rfl ?_
        refine v_dup (dec_of DX9_readSigns 141 rfl) rfl ?_
        refine v_get fX9_169 (dec_of DX9_readSigns 142 rfl) rfl rfl ?_
        try simp (disch := decide) only [uN_s, uN_n]
        refine vi_const (dec_of DX9_readSigns 143 rfl) ?_
        refine vi_add (dec_of DX9_readSigns 144 rfl) ?_
        refine mp_29 fX9_169 (dec_of DX9_readSigns 145 rfl) ?_
        refine v_goto (tgt := 275) (dec_of DX9_readSigns 146 rfl) (by decide) ?_
        refine v_goto (tgt := 2) (dec_of DX9_readSigns 152 rfl) (by decide) ?_
        refine Vd_fg 2 ?_
        refine Vd_fg 3 ?_
        refine Vd_fg 4 ?_
        dsimp only [List.set]
        exact nx
      rw [if_neg cz] at e0
      have nx := nx _ _ e0 h60 rfl (fun q => Or.inl (show ¬ (1 : Int) = 0 by decide)) (Or.inl (show ¬ (1 : Int) = 0 by decide)) (show K 29 ≤ K 29 by omega)
      refine v_aload_n (dec_of DX9_readSigns 2 rfl) rfl ?_
      refine v_get fX9_130 (dec_of DX9_readSigns 3 rfl) rfl rfl ?_
      refine vi_if_ne (tgt := 278) (dec_of DX9_readSigns 4 rfl) (by decide) (by first | omega | exact bnd_r _ _ | exact hG _ _ | exact hK _ | (simp (disch := decide) only [uN_s, uN_n]; omega)) (fun c6 => absurd c6 (by omega)) (fun c6 => ?_)
      refine v_aload_n (dec_of DX9_readSigns 5 rfl) rfl ?_
      refine v_aload_n (dec_of DX9_readSigns 6 rfl) rfl ?_
      refine v_get fX9_169 (dec_of DX9_readSigns 7 rfl) rfl rfl ?_
      refine v_V1r (q_byteAt hG hK hM0 (by omega)) lX9_193 (dec_of DX9_readSigns 8 rfl) rfl rfl (by decide) (nle rfl) rfl ?_
      refine v_istore_n (dec_of DX9_readSigns 9 rfl) (by decide) ?_
      dsimp only [List.set]
      refine v_aload_n (dec_of DX9_readSigns 10 rfl) rfl ?_
      refine v_aload_n (dec_of DX9_readSigns 11 rfl) rfl ?_
      refine v_get fX9_169 (dec_of DX9_readSigns 12 rfl) rfl rfl ?_
      refine vi_const (dec_of DX9_readSigns 13 rfl) ?_
      refine vi_add (dec_of DX9_readSigns 14 rfl) ?_
      refine v_V1r (q_byteAt hG hK hM0 (by omega)) lX9_193 (dec_of DX9_readSigns 15 rfl) rfl rfl (by decide) (nle rfl) rfl ?_
      refine v_istore_n (dec_of DX9_readSigns 16 rfl) (by decide) ?_
      dsimp only [List.set]
      refine v_iload_n (dec_of DX9_readSigns 17 rfl) rfl ?_
      refine vi_bi (dec_of DX9_readSigns 18 rfl) (by decide) ?_
      refine vi_icmp_ne (tgt := 46) (dec_of DX9_readSigns 19 rfl) (by decide) (by first | omega | exact bnd_r _ _ | exact hG _ _ | exact hK _ | (simp (disch := decide) only [uN_s, uN_n]; omega)) (by first | omega | exact bnd_r _ _ | exact hG _ _ | exact hK _ | (simp (disch := decide) only [uN_s, uN_n]; omega)) (fun c32 => ?_) (fun c32 => absurd c32 (by omega))
      refine v_iload_n (dec_of DX9_readSigns 27 rfl) rfl ?_
      refine vi_bi (dec_of DX9_readSigns 28 rfl) (by decide) ?_
      refine vi_icmp_lt (tgt := 69) (dec_of DX9_readSigns 29 rfl) (by decide) (by first | omega | exact bnd_r _ _ | exact hG _ _ | exact hK _ | (simp (disch := decide) only [uN_s, uN_n]; omega)) (by first | omega | exact bnd_r _ _ | exact hG _ _ | exact hK _ | (simp (disch := decide) only [uN_s, uN_n]; omega)) (fun c49 => ?_) (fun c49 => ?_)
      · refine v_iload_n (dec_of DX9_readSigns 40 rfl) rfl ?_
        refine vi_bi (dec_of DX9_readSigns 41 rfl) (by decide) ?_
        refine vi_icmp_eq (tgt := 82) (dec_of DX9_readSigns 42 rfl) (by decide) (by first | omega | exact bnd_r _ _ | exact hG _ _ | exact hK _ | (simp (disch := decide) only [uN_s, uN_n]; omega)) (by first | omega | exact bnd_r _ _ | exact hG _ _ | exact hK _ | (simp (disch := decide) only [uN_s, uN_n]; omega)) (fun c72 => absurd c72 (by omega)) (fun c72 => ?_)
        refine v_iload_n (dec_of DX9_readSigns 43 rfl) rfl ?_
        refine v_S1r (q_isBlank (by omega)) lX9_179 (dec_of DX9_readSigns 44 rfl) (by decide) (nle rfl) rfl ?_
        refine vi_if_eq (tgt := 97) (dec_of DX9_readSigns 45 rfl) (by decide) (by first | omega | exact bnd_r _ _ | exact hG _ _ | exact hK _ | (simp (disch := decide) only [uN_s, uN_n]; omega)) (fun c79 => ?_) (fun c79 => absurd c79 (by omega))
        refine v_iload_n (dec_of DX9_readSigns 55 rfl) rfl ?_
        refine vi_bi (dec_of DX9_readSigns 56 rfl) (by decide) ?_
        refine vi_icmp_eq (tgt := 115) (dec_of DX9_readSigns 57 rfl) (by decide) (by first | omega | exact bnd_r _ _ | exact hG _ _ | exact hK _ | (simp (disch := decide) only [uN_s, uN_n]; omega)) (by first | omega | exact bnd_r _ _ | exact hG _ _ | exact hK _ | (simp (disch := decide) only [uN_s, uN_n]; omega)) (fun c100 => absurd c100 (by omega)) (fun c100 => ?_)
        refine v_iload_n (dec_of DX9_readSigns 58 rfl) rfl ?_
        refine vi_bi (dec_of DX9_readSigns 59 rfl) (by decide) ?_
        refine vi_icmp_eq (tgt := 115) (dec_of DX9_readSigns 60 rfl) (by decide) (by first | omega | exact bnd_r _ _ | exact hG _ _ | exact hK _ | (simp (disch := decide) only [uN_s, uN_n]; omega)) (by first | omega | exact bnd_r _ _ | exact hG _ _ | exact hK _ | (simp (disch := decide) only [uN_s, uN_n]; omega)) (fun c106 => absurd c106 (by omega)) (fun c106 => ?_)
        refine v_iload_n (dec_of DX9_readSigns 61 rfl) rfl ?_
        refine vi_bi (dec_of DX9_readSigns 62 rfl) (by decide) ?_
        refine vi_icmp_ne (tgt := 209) (dec_of DX9_readSigns 63 rfl) (by decide) (by first | omega | exact bnd_r _ _ | exact hG _ _ | exact hK _ | (simp (disch := decide) only [uN_s, uN_n]; omega)) (by first | omega | exact bnd_r _ _ | exact hG _ _ | exact hK _ | (simp (disch := decide) only [uN_s, uN_n]; omega)) (fun c112 => ?_) (fun c112 => absurd c112 (by omega))
        refine v_iload_n (dec_of DX9_readSigns 115 rfl) rfl ?_
        refine vi_bi (dec_of DX9_readSigns 116 rfl) (by decide) ?_
        refine vi_icmp_ne (tgt := 266) (dec_of DX9_readSigns 117 rfl) (by decide) (by first | omega | exact bnd_r _ _ | exact hG _ _ | exact hK _ | (simp (disch := decide) only [uN_s, uN_n]; omega)) (by first | omega | exact bnd_r _ _ | exact hG _ _ | exact hK _ | (simp (disch := decide) only [uN_s, uN_n]; omega)) (fun c212 => ?_) (fun c212 => absurd c212 (by omega))
        refine v_aload_n (dec_of DX9_readSigns 147 rfl) rfl ?_
        refine vi_const (dec_of DX9_readSigns 148 rfl) ?_
        refine v_aload_n (dec_of DX9_readSigns 149 rfl) rfl ?_
        refine v_get fX9_169 (dec_of DX9_readSigns 150 rfl) rfl rfl ?_
        refine v_V2v (q_wrong0 hG hK hM0 f0) lX9_172 (dec_of DX9_readSigns 151 rfl) rfl rfl (by decide) (nle rfl) rfl ?_
        refine v_goto (tgt := 2) (dec_of DX9_readSigns 152 rfl) (by decide) ?_
        refine Vd_fg 2 ?_
        refine Vd_fg 3 ?_
        refine Vd_fg 4 ?_
        dsimp only [List.set]
        exact nx
      · refine v_iload_n (dec_of DX9_readSigns 30 rfl) rfl ?_
        refine vi_bi (dec_of DX9_readSigns 31 rfl) (by decide) ?_
        refine vi_icmp_gt (tgt := 69) (dec_of DX9_readSigns 32 rfl) (by decide) (by first | omega | exact bnd_r _ _ | exact hG _ _ | exact hK _ | (simp (disch := decide) only [uN_s, uN_n]; omega)) (by first | omega | exact bnd_r _ _ | exact hG _ _ | exact hK _ | (simp (disch := decide) only [uN_s, uN_n]; omega)) (fun c55 => ?_) (fun c55 => ?_)
        · refine v_iload_n (dec_of DX9_readSigns 40 rfl) rfl ?_
          refine vi_bi (dec_of DX9_readSigns 41 rfl) (by decide) ?_
          refine vi_icmp_eq (tgt := 82) (dec_of DX9_readSigns 42 rfl) (by decide) (by first | omega | exact bnd_r _ _ | exact hG _ _ | exact hK _ | (simp (disch := decide) only [uN_s, uN_n]; omega)) (by first | omega | exact bnd_r _ _ | exact hG _ _ | exact hK _ | (simp (disch := decide) only [uN_s, uN_n]; omega)) (fun c72 => absurd c72 (by omega)) (fun c72 => ?_)
          refine v_iload_n (dec_of DX9_readSigns 43 rfl) rfl ?_
          refine v_S1r (q_isBlank (by omega)) lX9_179 (dec_of DX9_readSigns 44 rfl) (by decide) (nle rfl) rfl ?_
          refine vi_if_eq (tgt := 97) (dec_of DX9_readSigns 45 rfl) (by decide) (by first | omega | exact bnd_r _ _ | exact hG _ _ | exact hK _ | (simp (disch := decide) only [uN_s, uN_n]; omega)) (fun c79 => ?_) (fun c79 => absurd c79 (by omega))
          refine v_iload_n (dec_of DX9_readSigns 55 rfl) rfl ?_
          refine vi_bi (dec_of DX9_readSigns 56 rfl) (by decide) ?_
          refine vi_icmp_eq (tgt := 115) (dec_of DX9_readSigns 57 rfl) (by decide) (by first | omega | exact bnd_r _ _ | exact hG _ _ | exact hK _ | (simp (disch := decide) only [uN_s, uN_n]; omega)) (by first | omega | exact bnd_r _ _ | exact hG _ _ | exact hK _ | (simp (disch := decide) only [uN_s, uN_n]; omega)) (fun c100 => absurd c100 (by omega)) (fun c100 => ?_)
          refine v_iload_n (dec_of DX9_readSigns 58 rfl) rfl ?_
          refine vi_bi (dec_of DX9_readSigns 59 rfl) (by decide) ?_
          refine vi_icmp_eq (tgt := 115) (dec_of DX9_readSigns 60 rfl) (by decide) (by first | omega | exact bnd_r _ _ | exact hG _ _ | exact hK _ | (simp (disch := decide) only [uN_s, uN_n]; omega)) (by first | omega | exact bnd_r _ _ | exact hG _ _ | exact hK _ | (simp (disch := decide) only [uN_s, uN_n]; omega)) (fun c106 => absurd c106 (by omega)) (fun c106 => ?_)
          refine v_iload_n (dec_of DX9_readSigns 61 rfl) rfl ?_
          refine vi_bi (dec_of DX9_readSigns 62 rfl) (by decide) ?_
          refine vi_icmp_ne (tgt := 209) (dec_of DX9_readSigns 63 rfl) (by decide) (by first | omega | exact bnd_r _ _ | exact hG _ _ | exact hK _ | (simp (disch := decide) only [uN_s, uN_n]; omega)) (by first | omega | exact bnd_r _ _ | exact hG _ _ | exact hK _ | (simp (disch := decide) only [uN_s, uN_n]; omega)) (fun c112 => ?_) (fun c112 => absurd c112 (by omega))
          refine v_iload_n (dec_of DX9_readSigns 115 rfl) rfl ?_
          refine vi_bi (dec_of DX9_readSigns 116 rfl) (by decide) ?_
          refine vi_icmp_ne (tgt := 266) (dec_of DX9_readSigns 117 rfl) (by decide) (by first | omega | exact bnd_r _ _ | exact hG _ _ | exact hK _ | (simp (disch := decide) only [uN_s, uN_n]; omega)) (by first | omega | exact bnd_r _ _ | exact hG _ _ | exact hK _ | (simp (disch := decide) only [uN_s, uN_n]; omega)) (fun c212 => ?_) (fun c212 => absurd c212 (by omega))
          refine v_aload_n (dec_of DX9_readSigns 147 rfl) rfl ?_
          refine vi_const (dec_of DX9_readSigns 148 rfl) ?_
          refine v_aload_n (dec_of DX9_readSigns 149 rfl) rfl ?_
          refine v_get fX9_169 (dec_of DX9_readSigns 150 rfl) rfl rfl ?_
          refine v_V2v (q_wrong0 hG hK hM0 f0) lX9_172 (dec_of DX9_readSigns 151 rfl) rfl rfl (by decide) (nle rfl) rfl ?_
          refine v_goto (tgt := 2) (dec_of DX9_readSigns 152 rfl) (by decide) ?_
          refine Vd_fg 2 ?_
          refine Vd_fg 3 ?_
          refine Vd_fg 4 ?_
          dsimp only [List.set]
          exact nx
        · exact absurd ⟨by omega, by omega⟩ ch
