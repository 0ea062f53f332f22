/-! Fitting.fit, Psalm (printed by wip/tools/gen_c6.py) -/
theorem cc0 {t h : Int} (ht : 1 ≤ t ∧ t ≤ 8) (hh : 0 ≤ h ∧ h ≤ 1) : 0 ≤ cc t h 0 ∧ cc t h 0 ≤ 2 := by
  have key : ∀ n : Nat, n < 8 → ∀ m : Nat, m < 2 → 0 ≤ tabC.getD (n * 20 + (2 + m * 9 + 0)) 0 ∧ tabC.getD (n * 20 + (2 + m * 9 + 0)) 0 ≤ 2 := by decide +kernel
  have := key (t - 1).toNat (by omega) h.toNat (by omega)
  unfold cc cel tI
  rw [show ((t - 1) * 20 + (2 + h * 9 + 0)).toNat = (t - 1).toNat * 20 + (2 + h.toNat * 9 + 0) by omega]
  exact this
theorem r32c {a : Int} (h : -4 ≤ a ∧ a ≤ 2) : -2147483648 ≤ a ∧ a < 2147483648 := by omega
def opn (h : Int) : Int := if h = 0 then 2 else 0
def frs (I : Nat → Int) : Int := if I 15 = -100 then I 16 else I 15
abbrev shr (I : Nat → Int) : Prop := (cc (I 17) (I 18) 3 = 2 ∧ I 15 = -100) ∨ frs I < opn (I 18) + cc (I 17) (I 18) 0 + 1
set_option maxRecDepth 100000 in
set_option maxHeartbeats 4000000 in
theorem k_choose_short {T : XW} {I N : Nat → Int} {F : Nat → Int → Int} (hF : FR F) (hI : IR I) (hN : NR N) (hT : 1 ≤ I 17 ∧ I 17 ≤ 8) (hH : 0 ≤ I 18 ∧ I 18 ≤ 1) (hs : shr I) : Sd (rm 2 43 0 0) mX0_chooseForm [.ref 28] (cls I N F ++ T) (cls (uN (uN (uN (uN I 14 1) 15 (-100)) 19 0) 20 0) N F ++ T) (none) := by
  unfold Sd
  unfold NR at hN
  have hc0 := cc_r (I 17) (I 18) 0
  have hc3 := cc_r (I 17) (I 18) 3
  refine sp_of (ls := [some (.ref 28), none]) (by decide) (nle rfl) rfl rfl ?_
  refine v_aload_n (dec_of DX0_chooseForm 0 rfl) rfl ?_
  refine v_aload_n (dec_of DX0_chooseForm 1 rfl) rfl ?_
  refine v_get fX0_24 (dec_of DX0_chooseForm 2 rfl) rfl rfl ?_
  try simp (disch := decide) only [uN_s, uN_n]
  refine vi_if_ne (tgt := 12) (dec_of DX0_chooseForm 3 rfl) (by decide) (by first | omega | exact hI _ | exact r32c (cc_r _ _ _) | (have h15 := hI 15; have h16 := hI 16; omega) | (have := cc_r (I 17) (I 18) 3; omega) | (have := cc_r (I 17) (I 18) 3; simp [uN]; omega) | (have h15 := hI 15; have h16 := hI 16; have := cc_r (I 17) (I 18) 0; simp [uN]; omega)) (fun c5 => ?_) (fun c5 => ?_)
  · refine vi_const (dec_of DX0_chooseForm 6 rfl) ?_
    refine cp_19 fX0_75 (dec_of DX0_chooseForm 7 rfl) ?_
    refine v_aload_n (dec_of DX0_chooseForm 8 rfl) rfl ?_
    refine v_aload_n (dec_of DX0_chooseForm 9 rfl) rfl ?_
    refine vi_const (dec_of DX0_chooseForm 10 rfl) ?_
    refine v_V1r (k_cc hF (hI.up (by omega)) (by unfold NR; exact hN) hT hH (by omega)) lX0_68 (dec_of DX0_chooseForm 11 rfl) rfl rfl (by decide) (nle rfl) rfl ?_
    try simp (disch := decide) only [uN_s, uN_n]
    refine cp_20 fX0_78 (dec_of DX0_chooseForm 12 rfl) ?_
    refine v_aload_n (dec_of DX0_chooseForm 13 rfl) rfl ?_
    refine vi_const (dec_of DX0_chooseForm 14 rfl) ?_
    refine v_V1r (k_cc hF ((hI.up (by omega)).up (by first | omega | exact r32c (cc_r _ _ _))) (by unfold NR; exact hN) hT hH (by omega)) lX0_68 (dec_of DX0_chooseForm 15 rfl) rfl rfl (by decide) (nle rfl) rfl ?_
    try simp (disch := decide) only [uN_s, uN_n]
    refine vi_const (dec_of DX0_chooseForm 16 rfl) ?_
    refine vi_icmp_ne (tgt := 47) (dec_of DX0_chooseForm 17 rfl) (by decide) (by first | omega | exact hI _ | exact r32c (cc_r _ _ _) | (have h15 := hI 15; have h16 := hI 16; omega) | (have := cc_r (I 17) (I 18) 3; omega) | (have := cc_r (I 17) (I 18) 3; simp [uN]; omega) | (have h15 := hI 15; have h16 := hI 16; have := cc_r (I 17) (I 18) 0; simp [uN]; omega)) (by first | omega | exact hI _ | exact r32c (cc_r _ _ _) | (have h15 := hI 15; have h16 := hI 16; omega) | (have := cc_r (I 17) (I 18) 3; omega) | (have := cc_r (I 17) (I 18) 3; simp [uN]; omega) | (have h15 := hI 15; have h16 := hI 16; have := cc_r (I 17) (I 18) 0; simp [uN]; omega)) (fun c31 => ?_) (fun c31 => ?_)
    · refine vi_const (dec_of DX0_chooseForm 24 rfl) ?_
      refine v_istore_n (dec_of DX0_chooseForm 25 rfl) (by decide) ?_
      dsimp only [List.set]
      refine v_aload_n (dec_of DX0_chooseForm 26 rfl) rfl ?_
      refine v_iload_n (dec_of DX0_chooseForm 27 rfl) rfl ?_
      refine vi_if_ne (tgt := 72) (dec_of DX0_chooseForm 28 rfl) (by decide) (by first | omega | exact hI _ | exact r32c (cc_r _ _ _) | (have h15 := hI 15; have h16 := hI 16; omega) | (have := cc_r (I 17) (I 18) 3; omega) | (have := cc_r (I 17) (I 18) 3; simp [uN]; omega) | (have h15 := hI 15; have h16 := hI 16; have := cc_r (I 17) (I 18) 0; simp [uN]; omega)) (fun c51 => ?_) (fun c51 => ?_)
      · refine vi_const (dec_of DX0_chooseForm 39 rfl) ?_
        refine v_goto (tgt := 77) (dec_of DX0_chooseForm 40 rfl) (by decide) ?_
        refine cp_14 fX0_31 (dec_of DX0_chooseForm 42 rfl) (by omega) ?_
        refine v_aload_n (dec_of DX0_chooseForm 43 rfl) rfl ?_
        refine v_get fX0_31 (dec_of DX0_chooseForm 44 rfl) rfl rfl ?_
        try simp (disch := decide) only [uN_s, uN_n]
        refine vi_if_eq (tgt := 103) (dec_of DX0_chooseForm 45 rfl) (by decide) (by first | omega | exact hI _ | exact r32c (cc_r _ _ _) | (have h15 := hI 15; have h16 := hI 16; omega) | (have := cc_r (I 17) (I 18) 3; omega) | (have := cc_r (I 17) (I 18) 3; simp [uN]; omega) | (have h15 := hI 15; have h16 := hI 16; have := cc_r (I 17) (I 18) 0; simp [uN]; omega)) (fun c84 => absurd c84 (by first | decide | simp [uN])) (fun c84 => ?_)
        refine v_aload_n (dec_of DX0_chooseForm 46 rfl) rfl ?_
        refine vi_bi (dec_of DX0_chooseForm 47 rfl) (by decide) ?_
        refine cp_15 fX0_35 (dec_of DX0_chooseForm 48 rfl) ?_
        refine v_aload_n (dec_of DX0_chooseForm 49 rfl) rfl ?_
        refine vi_const (dec_of DX0_chooseForm 50 rfl) ?_
        refine cp_19 fX0_75 (dec_of DX0_chooseForm 51 rfl) ?_
        refine v_aload_n (dec_of DX0_chooseForm 52 rfl) rfl ?_
        refine vi_const (dec_of DX0_chooseForm 53 rfl) ?_
        refine cp_20 fX0_78 (dec_of DX0_chooseForm 54 rfl) ?_
        exact vi_vret (dec_of DX0_chooseForm 55 rfl) rfl ⟨by decide, by decide⟩ (⟨by first | rfl | (rw [opn, if_pos (by assumption)]; rfl) | (rw [opn, if_neg (by assumption)]; rfl), rfl⟩)
      · refine v_aload_n (dec_of DX0_chooseForm 29 rfl) rfl ?_
        refine v_V0r (k_firstPlaced hF ((hI.up (by omega)).up (by first | omega | exact r32c (cc_r _ _ _))) (by unfold NR; exact hN)) lX0_81 (dec_of DX0_chooseForm 30 rfl) rfl rfl (by decide) (nle rfl) rfl ?_
        try simp (disch := decide) only [uN_s, uN_n]
        refine v_aload_n (dec_of DX0_chooseForm 31 rfl) rfl ?_
        refine v_get fX0_75 (dec_of DX0_chooseForm 32 rfl) rfl rfl ?_
        try simp (disch := decide) only [uN_s, uN_n]
        refine v_aload_n (dec_of DX0_chooseForm 33 rfl) rfl ?_
        refine v_get fX0_78 (dec_of DX0_chooseForm 34 rfl) rfl rfl ?_
        try simp (disch := decide) only [uN_s, uN_n]
        refine vi_add (dec_of DX0_chooseForm 35 rfl) ?_
        refine vi_const (dec_of DX0_chooseForm 36 rfl) ?_
        refine vi_add (dec_of DX0_chooseForm 37 rfl) ?_
        refine vi_icmp_ge (tgt := 76) (dec_of DX0_chooseForm 38 rfl) (by decide) (by first | omega | exact hI _ | exact r32c (cc_r _ _ _) | (have h15 := hI 15; have h16 := hI 16; omega) | (have := cc_r (I 17) (I 18) 3; omega) | (have := cc_r (I 17) (I 18) 3; simp [uN]; omega) | (have h15 := hI 15; have h16 := hI 16; have := cc_r (I 17) (I 18) 0; simp [uN]; omega)) (by first | omega | exact hI _ | exact r32c (cc_r _ _ _) | (have h15 := hI 15; have h16 := hI 16; omega) | (have := cc_r (I 17) (I 18) 3; omega) | (have := cc_r (I 17) (I 18) 3; simp [uN]; omega) | (have h15 := hI 15; have h16 := hI 16; have := cc_r (I 17) (I 18) 0; simp [uN]; omega)) (fun c69 => ?_) (fun c69 => ?_)
        · exact absurd hs (by unfold shr frs opn; omega)
        · refine vi_const (dec_of DX0_chooseForm 39 rfl) ?_
          refine v_goto (tgt := 77) (dec_of DX0_chooseForm 40 rfl) (by decide) ?_
          refine cp_14 fX0_31 (dec_of DX0_chooseForm 42 rfl) (by omega) ?_
          refine v_aload_n (dec_of DX0_chooseForm 43 rfl) rfl ?_
          refine v_get fX0_31 (dec_of DX0_chooseForm 44 rfl) rfl rfl ?_
          try simp (disch := decide) only [uN_s, uN_n]
          refine vi_if_eq (tgt := 103) (dec_of DX0_chooseForm 45 rfl) (by decide) (by first | omega | exact hI _ | exact r32c (cc_r _ _ _) | (have h15 := hI 15; have h16 := hI 16; omega) | (have := cc_r (I 17) (I 18) 3; omega) | (have := cc_r (I 17) (I 18) 3; simp [uN]; omega) | (have h15 := hI 15; have h16 := hI 16; have := cc_r (I 17) (I 18) 0; simp [uN]; omega)) (fun c84 => absurd c84 (by first | decide | simp [uN])) (fun c84 => ?_)
          refine v_aload_n (dec_of DX0_chooseForm 46 rfl) rfl ?_
          refine vi_bi (dec_of DX0_chooseForm 47 rfl) (by decide) ?_
          refine cp_15 fX0_35 (dec_of DX0_chooseForm 48 rfl) ?_
          refine v_aload_n (dec_of DX0_chooseForm 49 rfl) rfl ?_
          refine vi_const (dec_of DX0_chooseForm 50 rfl) ?_
          refine cp_19 fX0_75 (dec_of DX0_chooseForm 51 rfl) ?_
          refine v_aload_n (dec_of DX0_chooseForm 52 rfl) rfl ?_
          refine vi_const (dec_of DX0_chooseForm 53 rfl) ?_
          refine cp_20 fX0_78 (dec_of DX0_chooseForm 54 rfl) ?_
          exact vi_vret (dec_of DX0_chooseForm 55 rfl) rfl ⟨by decide, by decide⟩ (⟨by first | rfl | (rw [opn, if_pos (by assumption)]; rfl) | (rw [opn, if_neg (by assumption)]; rfl), rfl⟩)
    · refine v_aload_n (dec_of DX0_chooseForm 18 rfl) rfl ?_
      refine v_get fX0_35 (dec_of DX0_chooseForm 19 rfl) rfl rfl ?_
      try simp (disch := decide) only [uN_s, uN_n]
      refine vi_bi (dec_of DX0_chooseForm 20 rfl) (by decide) ?_
      refine vi_icmp_ne (tgt := 47) (dec_of DX0_chooseForm 21 rfl) (by decide) (by first | omega | exact hI _ | exact r32c (cc_r _ _ _) | (have h15 := hI 15; have h16 := hI 16; omega) | (have := cc_r (I 17) (I 18) 3; omega) | (have := cc_r (I 17) (I 18) 3; simp [uN]; omega) | (have h15 := hI 15; have h16 := hI 16; have := cc_r (I 17) (I 18) 0; simp [uN]; omega)) (by first | omega | exact hI _ | exact r32c (cc_r _ _ _) | (have h15 := hI 15; have h16 := hI 16; omega) | (have := cc_r (I 17) (I 18) 3; omega) | (have := cc_r (I 17) (I 18) 3; simp [uN]; omega) | (have h15 := hI 15; have h16 := hI 16; have := cc_r (I 17) (I 18) 0; simp [uN]; omega)) (fun c40 => ?_) (fun c40 => ?_)
      · refine vi_const (dec_of DX0_chooseForm 24 rfl) ?_
        refine v_istore_n (dec_of DX0_chooseForm 25 rfl) (by decide) ?_
        dsimp only [List.set]
        refine v_aload_n (dec_of DX0_chooseForm 26 rfl) rfl ?_
        refine v_iload_n (dec_of DX0_chooseForm 27 rfl) rfl ?_
        refine vi_if_ne (tgt := 72) (dec_of DX0_chooseForm 28 rfl) (by decide) (by first | omega | exact hI _ | exact r32c (cc_r _ _ _) | (have h15 := hI 15; have h16 := hI 16; omega) | (have := cc_r (I 17) (I 18) 3; omega) | (have := cc_r (I 17) (I 18) 3; simp [uN]; omega) | (have h15 := hI 15; have h16 := hI 16; have := cc_r (I 17) (I 18) 0; simp [uN]; omega)) (fun c51 => ?_) (fun c51 => ?_)
        · refine vi_const (dec_of DX0_chooseForm 39 rfl) ?_
          refine v_goto (tgt := 77) (dec_of DX0_chooseForm 40 rfl) (by decide) ?_
          refine cp_14 fX0_31 (dec_of DX0_chooseForm 42 rfl) (by omega) ?_
          refine v_aload_n (dec_of DX0_chooseForm 43 rfl) rfl ?_
          refine v_get fX0_31 (dec_of DX0_chooseForm 44 rfl) rfl rfl ?_
          try simp (disch := decide) only [uN_s, uN_n]
          refine vi_if_eq (tgt := 103) (dec_of DX0_chooseForm 45 rfl) (by decide) (by first | omega | exact hI _ | exact r32c (cc_r _ _ _) | (have h15 := hI 15; have h16 := hI 16; omega) | (have := cc_r (I 17) (I 18) 3; omega) | (have := cc_r (I 17) (I 18) 3; simp [uN]; omega) | (have h15 := hI 15; have h16 := hI 16; have := cc_r (I 17) (I 18) 0; simp [uN]; omega)) (fun c84 => absurd c84 (by first | decide | simp [uN])) (fun c84 => ?_)
          refine v_aload_n (dec_of DX0_chooseForm 46 rfl) rfl ?_
          refine vi_bi (dec_of DX0_chooseForm 47 rfl) (by decide) ?_
          refine cp_15 fX0_35 (dec_of DX0_chooseForm 48 rfl) ?_
          refine v_aload_n (dec_of DX0_chooseForm 49 rfl) rfl ?_
          refine vi_const (dec_of DX0_chooseForm 50 rfl) ?_
          refine cp_19 fX0_75 (dec_of DX0_chooseForm 51 rfl) ?_
          refine v_aload_n (dec_of DX0_chooseForm 52 rfl) rfl ?_
          refine vi_const (dec_of DX0_chooseForm 53 rfl) ?_
          refine cp_20 fX0_78 (dec_of DX0_chooseForm 54 rfl) ?_
          exact vi_vret (dec_of DX0_chooseForm 55 rfl) rfl ⟨by decide, by decide⟩ (⟨by first | rfl | (rw [opn, if_pos (by assumption)]; rfl) | (rw [opn, if_neg (by assumption)]; rfl), rfl⟩)
        · refine v_aload_n (dec_of DX0_chooseForm 29 rfl) rfl ?_
          refine v_V0r (k_firstPlaced hF ((hI.up (by omega)).up (by first | omega | exact r32c (cc_r _ _ _))) (by unfold NR; exact hN)) lX0_81 (dec_of DX0_chooseForm 30 rfl) rfl rfl (by decide) (nle rfl) rfl ?_
          try simp (disch := decide) only [uN_s, uN_n]
          refine v_aload_n (dec_of DX0_chooseForm 31 rfl) rfl ?_
          refine v_get fX0_75 (dec_of DX0_chooseForm 32 rfl) rfl rfl ?_
          try simp (disch := decide) only [uN_s, uN_n]
          refine v_aload_n (dec_of DX0_chooseForm 33 rfl) rfl ?_
          refine v_get fX0_78 (dec_of DX0_chooseForm 34 rfl) rfl rfl ?_
          try simp (disch := decide) only [uN_s, uN_n]
          refine vi_add (dec_of DX0_chooseForm 35 rfl) ?_
          refine vi_const (dec_of DX0_chooseForm 36 rfl) ?_
          refine vi_add (dec_of DX0_chooseForm 37 rfl) ?_
          refine vi_icmp_ge (tgt := 76) (dec_of DX0_chooseForm 38 rfl) (by decide) (by first | omega | exact hI _ | exact r32c (cc_r _ _ _) | (have h15 := hI 15; have h16 := hI 16; omega) | (have := cc_r (I 17) (I 18) 3; omega) | (have := cc_r (I 17) (I 18) 3; simp [uN]; omega) | (have h15 := hI 15; have h16 := hI 16; have := cc_r (I 17) (I 18) 0; simp [uN]; omega)) (by first | omega | exact hI _ | exact r32c (cc_r _ _ _) | (have h15 := hI 15; have h16 := hI 16; omega) | (have := cc_r (I 17) (I 18) 3; omega) | (have := cc_r (I 17) (I 18) 3; simp [uN]; omega) | (have h15 := hI 15; have h16 := hI 16; have := cc_r (I 17) (I 18) 0; simp [uN]; omega)) (fun c69 => ?_) (fun c69 => ?_)
          · exact absurd hs (by unfold shr frs opn; omega)
          · refine vi_const (dec_of DX0_chooseForm 39 rfl) ?_
            refine v_goto (tgt := 77) (dec_of DX0_chooseForm 40 rfl) (by decide) ?_
            refine cp_14 fX0_31 (dec_of DX0_chooseForm 42 rfl) (by omega) ?_
            refine v_aload_n (dec_of DX0_chooseForm 43 rfl) rfl ?_
            refine v_get fX0_31 (dec_of DX0_chooseForm 44 rfl) rfl rfl ?_
            try simp (disch := decide) only [uN_s, uN_n]
            refine vi_if_eq (tgt := 103) (dec_of DX0_chooseForm 45 rfl) (by decide) (by first | omega | exact hI _ | exact r32c (cc_r _ _ _) | (have h15 := hI 15; have h16 := hI 16; omega) | (have := cc_r (I 17) (I 18) 3; omega) | (have := cc_r (I 17) (I 18) 3; simp [uN]; omega) | (have h15 := hI 15; have h16 := hI 16; have := cc_r (I 17) (I 18) 0; simp [uN]; omega)) (fun c84 => absurd c84 (by first | decide | simp [uN])) (fun c84 => ?_)
            refine v_aload_n (dec_of DX0_chooseForm 46 rfl) rfl ?_
            refine vi_bi (dec_of DX0_chooseForm 47 rfl) (by decide) ?_
            refine cp_15 fX0_35 (dec_of DX0_chooseForm 48 rfl) ?_
            refine v_aload_n (dec_of DX0_chooseForm 49 rfl) rfl ?_
            refine vi_const (dec_of DX0_chooseForm 50 rfl) ?_
            refine cp_19 fX0_75 (dec_of DX0_chooseForm 51 rfl) ?_
            refine v_aload_n (dec_of DX0_chooseForm 52 rfl) rfl ?_
            refine vi_const (dec_of DX0_chooseForm 53 rfl) ?_
            refine cp_20 fX0_78 (dec_of DX0_chooseForm 54 rfl) ?_
            exact vi_vret (dec_of DX0_chooseForm 55 rfl) rfl ⟨by decide, by decide⟩ (⟨by first | rfl | (rw [opn, if_pos (by assumption)]; rfl) | (rw [opn, if_neg (by assumption)]; rfl), rfl⟩)
      · refine vi_const (dec_of DX0_chooseForm 22 rfl) ?_
        refine v_goto (tgt := 48) (dec_of DX0_chooseForm 23 rfl) (by decide) ?_
        refine v_istore_n (dec_of DX0_chooseForm 25 rfl) (by decide) ?_
        dsimp only [List.set]
        refine v_aload_n (dec_of DX0_chooseForm 26 rfl) rfl ?_
        refine v_iload_n (dec_of DX0_chooseForm 27 rfl) rfl ?_
        refine vi_if_ne (tgt := 72) (dec_of DX0_chooseForm 28 rfl) (by decide) (by first | omega | exact hI _ | exact r32c (cc_r _ _ _) | (have h15 := hI 15; have h16 := hI 16; omega) | (have := cc_r (I 17) (I 18) 3; omega) | (have := cc_r (I 17) (I 18) 3; simp [uN]; omega) | (have h15 := hI 15; have h16 := hI 16; have := cc_r (I 17) (I 18) 0; simp [uN]; omega)) (fun c51 => ?_) (fun c51 => ?_)
        · refine vi_const (dec_of DX0_chooseForm 39 rfl) ?_
          refine v_goto (tgt := 77) (dec_of DX0_chooseForm 40 rfl) (by decide) ?_
          refine cp_14 fX0_31 (dec_of DX0_chooseForm 42 rfl) (by omega) ?_
          refine v_aload_n (dec_of DX0_chooseForm 43 rfl) rfl ?_
          refine v_get fX0_31 (dec_of DX0_chooseForm 44 rfl) rfl rfl ?_
          try simp (disch := decide) only [uN_s, uN_n]
          refine vi_if_eq (tgt := 103) (dec_of DX0_chooseForm 45 rfl) (by decide) (by first | omega | exact hI _ | exact r32c (cc_r _ _ _) | (have h15 := hI 15; have h16 := hI 16; omega) | (have := cc_r (I 17) (I 18) 3; omega) | (have := cc_r (I 17) (I 18) 3; simp [uN]; omega) | (have h15 := hI 15; have h16 := hI 16; have := cc_r (I 17) (I 18) 0; simp [uN]; omega)) (fun c84 => absurd c84 (by first | decide | simp [uN])) (fun c84 => ?_)
          refine v_aload_n (dec_of DX0_chooseForm 46 rfl) rfl ?_
          refine vi_bi (dec_of DX0_chooseForm 47 rfl) (by decide) ?_
          refine cp_15 fX0_35 (dec_of DX0_chooseForm 48 rfl) ?_
          refine v_aload_n (dec_of DX0_chooseForm 49 rfl) rfl ?_
          refine vi_const (dec_of DX0_chooseForm 50 rfl) ?_
          refine cp_19 fX0_75 (dec_of DX0_chooseForm 51 rfl) ?_
          refine v_aload_n (dec_of DX0_chooseForm 52 rfl) rfl ?_
          refine vi_const (dec_of DX0_chooseForm 53 rfl) ?_
          refine cp_20 fX0_78 (dec_of DX0_chooseForm 54 rfl) ?_
          exact vi_vret (dec_of DX0_chooseForm 55 rfl) rfl ⟨by decide, by decide⟩ (⟨by first | rfl | (rw [opn, if_pos (by assumption)]; rfl) | (rw [opn, if_neg (by assumption)]; rfl), rfl⟩)
        · refine v_aload_n (dec_of DX0_chooseForm 29 rfl) rfl ?_
          refine v_V0r (k_firstPlaced hF ((hI.up (by omega)).up (by first | omega | exact r32c (cc_r _ _ _))) (by unfold NR; exact hN)) lX0_81 (dec_of DX0_chooseForm 30 rfl) rfl rfl (by decide) (nle rfl) rfl ?_
          try simp (disch := decide) only [uN_s, uN_n]
          refine v_aload_n (dec_of DX0_chooseForm 31 rfl) rfl ?_
          refine v_get fX0_75 (dec_of DX0_chooseForm 32 rfl) rfl rfl ?_
          try simp (disch := decide) only [uN_s, uN_n]
          refine v_aload_n (dec_of DX0_chooseForm 33 rfl) rfl ?_
          refine v_get fX0_78 (dec_of DX0_chooseForm 34 rfl) rfl rfl ?_
          try simp (disch := decide) only [uN_s, uN_n]
          refine vi_add (dec_of DX0_chooseForm 35 rfl) ?_
          refine vi_const (dec_of DX0_chooseForm 36 rfl) ?_
          refine vi_add (dec_of DX0_chooseForm 37 rfl) ?_
          refine vi_icmp_ge (tgt := 76) (dec_of DX0_chooseForm 38 rfl) (by decide) (by first | omega | exact hI _ | exact r32c (cc_r _ _ _) | (have h15 := hI 15; have h16 := hI 16; omega) | (have := cc_r (I 17) (I 18) 3; omega) | (have := cc_r (I 17) (I 18) 3; simp [uN]; omega) | (have h15 := hI 15; have h16 := hI 16; have := cc_r (I 17) (I 18) 0; simp [uN]; omega)) (by first | omega | exact hI _ | exact r32c (cc_r _ _ _) | (have h15 := hI 15; have h16 := hI 16; omega) | (have := cc_r (I 17) (I 18) 3; omega) | (have := cc_r (I 17) (I 18) 3; simp [uN]; omega) | (have h15 := hI 15; have h16 := hI 16; have := cc_r (I 17) (I 18) 0; simp [uN]; omega)) (fun c69 => ?_) (fun c69 => ?_)
          · exact absurd hs (by unfold shr frs opn; omega)
          · refine vi_const (dec_of DX0_chooseForm 39 rfl) ?_
            refine v_goto (tgt := 77) (dec_of DX0_chooseForm 40 rfl) (by decide) ?_
            refine cp_14 fX0_31 (dec_of DX0_chooseForm 42 rfl) (by omega) ?_
            refine v_aload_n (dec_of DX0_chooseForm 43 rfl) rfl ?_
            refine v_get fX0_31 (dec_of DX0_chooseForm 44 rfl) rfl rfl ?_
            try simp (disch := decide) only [uN_s, uN_n]
            refine vi_if_eq (tgt := 103) (dec_of DX0_chooseForm 45 rfl) (by decide) (by first | omega | exact hI _ | exact r32c (cc_r _ _ _) | (have h15 := hI 15; have h16 := hI 16; omega) | (have := cc_r (I 17) (I 18) 3; omega) | (have := cc_r (I 17) (I 18) 3; simp [uN]; omega) | (have h15 := hI 15; have h16 := hI 16; have := cc_r (I 17) (I 18) 0; simp [uN]; omega)) (fun c84 => absurd c84 (by first | decide | simp [uN])) (fun c84 => ?_)
            refine v_aload_n (dec_of DX0_chooseForm 46 rfl) rfl ?_
            refine vi_bi (dec_of DX0_chooseForm 47 rfl) (by decide) ?_
            refine cp_15 fX0_35 (dec_of DX0_chooseForm 48 rfl) ?_
            refine v_aload_n (dec_of DX0_chooseForm 49 rfl) rfl ?_
            refine vi_const (dec_of DX0_chooseForm 50 rfl) ?_
            refine cp_19 fX0_75 (dec_of DX0_chooseForm 51 rfl) ?_
            refine v_aload_n (dec_of DX0_chooseForm 52 rfl) rfl ?_
            refine vi_const (dec_of DX0_chooseForm 53 rfl) ?_
            refine cp_20 fX0_78 (dec_of DX0_chooseForm 54 rfl) ?_
            exact vi_vret (dec_of DX0_chooseForm 55 rfl) rfl ⟨by decide, by decide⟩ (⟨by first | rfl | (rw [opn, if_pos (by assumption)]; rfl) | (rw [opn, if_neg (by assumption)]; rfl), rfl⟩)
  · refine vi_const (dec_of DX0_chooseForm 4 rfl) ?_
    refine v_goto (tgt := 13) (dec_of DX0_chooseForm 5 rfl) (by decide) ?_
    refine cp_19 fX0_75 (dec_of DX0_chooseForm 7 rfl) ?_
    refine v_aload_n (dec_of DX0_chooseForm 8 rfl) rfl ?_
    refine v_aload_n (dec_of DX0_chooseForm 9 rfl) rfl ?_
    refine vi_const (dec_of DX0_chooseForm 10 rfl) ?_
    refine v_V1r (k_cc hF (hI.up (by omega)) (by unfold NR; exact hN) hT hH (by omega)) lX0_68 (dec_of DX0_chooseForm 11 rfl) rfl rfl (by decide) (nle rfl) rfl ?_
    try simp (disch := decide) only [uN_s, uN_n]
    refine cp_20 fX0_78 (dec_of DX0_chooseForm 12 rfl) ?_
    refine v_aload_n (dec_of DX0_chooseForm 13 rfl) rfl ?_
    refine vi_const (dec_of DX0_chooseForm 14 rfl) ?_
    refine v_V1r (k_cc hF ((hI.up (by omega)).up (by first | omega | exact r32c (cc_r _ _ _))) (by unfold NR; exact hN) hT hH (by omega)) lX0_68 (dec_of DX0_chooseForm 15 rfl) rfl rfl (by decide) (nle rfl) rfl ?_
    try simp (disch := decide) only [uN_s, uN_n]
    refine vi_const (dec_of DX0_chooseForm 16 rfl) ?_
    refine vi_icmp_ne (tgt := 47) (dec_of DX0_chooseForm 17 rfl) (by decide) (by first | omega | exact hI _ | exact r32c (cc_r _ _ _) | (have h15 := hI 15; have h16 := hI 16; omega) | (have := cc_r (I 17) (I 18) 3; omega) | (have := cc_r (I 17) (I 18) 3; simp [uN]; omega) | (have h15 := hI 15; have h16 := hI 16; have := cc_r (I 17) (I 18) 0; simp [uN]; omega)) (by first | omega | exact hI _ | exact r32c (cc_r _ _ _) | (have h15 := hI 15; have h16 := hI 16; omega) | (have := cc_r (I 17) (I 18) 3; omega) | (have := cc_r (I 17) (I 18) 3; simp [uN]; omega) | (have h15 := hI 15; have h16 := hI 16; have := cc_r (I 17) (I 18) 0; simp [uN]; omega)) (fun c31 => ?_) (fun c31 => ?_)
    · refine vi_const (dec_of DX0_chooseForm 24 rfl) ?_
      refine v_istore_n (dec_of DX0_chooseForm 25 rfl) (by decide) ?_
      dsimp only [List.set]
      refine v_aload_n (dec_of DX0_chooseForm 26 rfl) rfl ?_
      refine v_iload_n (dec_of DX0_chooseForm 27 rfl) rfl ?_
      refine vi_if_ne (tgt := 72) (dec_of DX0_chooseForm 28 rfl) (by decide) (by first | omega | exact hI _ | exact r32c (cc_r _ _ _) | (have h15 := hI 15; have h16 := hI 16; omega) | (have := cc_r (I 17) (I 18) 3; omega) | (have := cc_r (I 17) (I 18) 3; simp [uN]; omega) | (have h15 := hI 15; have h16 := hI 16; have := cc_r (I 17) (I 18) 0; simp [uN]; omega)) (fun c51 => ?_) (fun c51 => ?_)
      · refine vi_const (dec_of DX0_chooseForm 39 rfl) ?_
        refine v_goto (tgt := 77) (dec_of DX0_chooseForm 40 rfl) (by decide) ?_
        refine cp_14 fX0_31 (dec_of DX0_chooseForm 42 rfl) (by omega) ?_
        refine v_aload_n (dec_of DX0_chooseForm 43 rfl) rfl ?_
        refine v_get fX0_31 (dec_of DX0_chooseForm 44 rfl) rfl rfl ?_
        try simp (disch := decide) only [uN_s, uN_n]
        refine vi_if_eq (tgt := 103) (dec_of DX0_chooseForm 45 rfl) (by decide) (by first | omega | exact hI _ | exact r32c (cc_r _ _ _) | (have h15 := hI 15; have h16 := hI 16; omega) | (have := cc_r (I 17) (I 18) 3; omega) | (have := cc_r (I 17) (I 18) 3; simp [uN]; omega) | (have h15 := hI 15; have h16 := hI 16; have := cc_r (I 17) (I 18) 0; simp [uN]; omega)) (fun c84 => absurd c84 (by first | decide | simp [uN])) (fun c84 => ?_)
        refine v_aload_n (dec_of DX0_chooseForm 46 rfl) rfl ?_
        refine vi_bi (dec_of DX0_chooseForm 47 rfl) (by decide) ?_
        refine cp_15 fX0_35 (dec_of DX0_chooseForm 48 rfl) ?_
        refine v_aload_n (dec_of DX0_chooseForm 49 rfl) rfl ?_
        refine vi_const (dec_of DX0_chooseForm 50 rfl) ?_
        refine cp_19 fX0_75 (dec_of DX0_chooseForm 51 rfl) ?_
        refine v_aload_n (dec_of DX0_chooseForm 52 rfl) rfl ?_
        refine vi_const (dec_of DX0_chooseForm 53 rfl) ?_
        refine cp_20 fX0_78 (dec_of DX0_chooseForm 54 rfl) ?_
        exact vi_vret (dec_of DX0_chooseForm 55 rfl) rfl ⟨by decide, by decide⟩ (⟨by first | rfl | (rw [opn, if_pos (by assumption)]; rfl) | (rw [opn, if_neg (by assumption)]; rfl), rfl⟩)
      · refine v_aload_n (dec_of DX0_chooseForm 29 rfl) rfl ?_
        refine v_V0r (k_firstPlaced hF ((hI.up (by omega)).up (by first | omega | exact r32c (cc_r _ _ _))) (by unfold NR; exact hN)) lX0_81 (dec_of DX0_chooseForm 30 rfl) rfl rfl (by decide) (nle rfl) rfl ?_
        try simp (disch := decide) only [uN_s, uN_n]
        refine v_aload_n (dec_of DX0_chooseForm 31 rfl) rfl ?_
        refine v_get fX0_75 (dec_of DX0_chooseForm 32 rfl) rfl rfl ?_
        try simp (disch := decide) only [uN_s, uN_n]
        refine v_aload_n (dec_of DX0_chooseForm 33 rfl) rfl ?_
        refine v_get fX0_78 (dec_of DX0_chooseForm 34 rfl) rfl rfl ?_
        try simp (disch := decide) only [uN_s, uN_n]
        refine vi_add (dec_of DX0_chooseForm 35 rfl) ?_
        refine vi_const (dec_of DX0_chooseForm 36 rfl) ?_
        refine vi_add (dec_of DX0_chooseForm 37 rfl) ?_
        refine vi_icmp_ge (tgt := 76) (dec_of DX0_chooseForm 38 rfl) (by decide) (by first | omega | exact hI _ | exact r32c (cc_r _ _ _) | (have h15 := hI 15; have h16 := hI 16; omega) | (have := cc_r (I 17) (I 18) 3; omega) | (have := cc_r (I 17) (I 18) 3; simp [uN]; omega) | (have h15 := hI 15; have h16 := hI 16; have := cc_r (I 17) (I 18) 0; simp [uN]; omega)) (by first | omega | exact hI _ | exact r32c (cc_r _ _ _) | (have h15 := hI 15; have h16 := hI 16; omega) | (have := cc_r (I 17) (I 18) 3; omega) | (have := cc_r (I 17) (I 18) 3; simp [uN]; omega) | (have h15 := hI 15; have h16 := hI 16; have := cc_r (I 17) (I 18) 0; simp [uN]; omega)) (fun c69 => ?_) (fun c69 => ?_)
        · exact absurd hs (by unfold shr frs opn; omega)
        · refine vi_const (dec_of DX0_chooseForm 39 rfl) ?_
          refine v_goto (tgt := 77) (dec_of DX0_chooseForm 40 rfl) (by decide) ?_
          refine cp_14 fX0_31 (dec_of DX0_chooseForm 42 rfl) (by omega) ?_
          refine v_aload_n (dec_of DX0_chooseForm 43 rfl) rfl ?_
          refine v_get fX0_31 (dec_of DX0_chooseForm 44 rfl) rfl rfl ?_
          try simp (disch := decide) only [uN_s, uN_n]
          refine vi_if_eq (tgt := 103) (dec_of DX0_chooseForm 45 rfl) (by decide) (by first | omega | exact hI _ | exact r32c (cc_r _ _ _) | (have h15 := hI 15; have h16 := hI 16; omega) | (have := cc_r (I 17) (I 18) 3; omega) | (have := cc_r (I 17) (I 18) 3; simp [uN]; omega) | (have h15 := hI 15; have h16 := hI 16; have := cc_r (I 17) (I 18) 0; simp [uN]; omega)) (fun c84 => absurd c84 (by first | decide | simp [uN])) (fun c84 => ?_)
          refine v_aload_n (dec_of DX0_chooseForm 46 rfl) rfl ?_
          refine vi_bi (dec_of DX0_chooseForm 47 rfl) (by decide) ?_
          refine cp_15 fX0_35 (dec_of DX0_chooseForm 48 rfl) ?_
          refine v_aload_n (dec_of DX0_chooseForm 49 rfl) rfl ?_
          refine vi_const (dec_of DX0_chooseForm 50 rfl) ?_
          refine cp_19 fX0_75 (dec_of DX0_chooseForm 51 rfl) ?_
          refine v_aload_n (dec_of DX0_chooseForm 52 rfl) rfl ?_
          refine vi_const (dec_of DX0_chooseForm 53 rfl) ?_
          refine cp_20 fX0_78 (dec_of DX0_chooseForm 54 rfl) ?_
          exact vi_vret (dec_of DX0_chooseForm 55 rfl) rfl ⟨by decide, by decide⟩ (⟨by first | rfl | (rw [opn, if_pos (by assumption)]; rfl) | (rw [opn, if_neg (by assumption)]; rfl), rfl⟩)
    · refine v_aload_n (dec_of DX0_chooseForm 18 rfl) rfl ?_
      refine v_get fX0_35 (dec_of DX0_chooseForm 19 rfl) rfl rfl ?_
      try simp (disch := decide) only [uN_s, uN_n]
      refine vi_bi (dec_of DX0_chooseForm 20 rfl) (by decide) ?_
      refine vi_icmp_ne (tgt := 47) (dec_of DX0_chooseForm 21 rfl) (by decide) (by first | omega | exact hI _ | exact r32c (cc_r _ _ _) | (have h15 := hI 15; have h16 := hI 16; omega) | (have := cc_r (I 17) (I 18) 3; omega) | (have := cc_r (I 17) (I 18) 3; simp [uN]; omega) | (have h15 := hI 15; have h16 := hI 16; have := cc_r (I 17) (I 18) 0; simp [uN]; omega)) (by first | omega | exact hI _ | exact r32c (cc_r _ _ _) | (have h15 := hI 15; have h16 := hI 16; omega) | (have := cc_r (I 17) (I 18) 3; omega) | (have := cc_r (I 17) (I 18) 3; simp [uN]; omega) | (have h15 := hI 15; have h16 := hI 16; have := cc_r (I 17) (I 18) 0; simp [uN]; omega)) (fun c40 => ?_) (fun c40 => ?_)
      · refine vi_const (dec_of DX0_chooseForm 24 rfl) ?_
        refine v_istore_n (dec_of DX0_chooseForm 25 rfl) (by decide) ?_
        dsimp only [List.set]
        refine v_aload_n (dec_of DX0_chooseForm 26 rfl) rfl ?_
        refine v_iload_n (dec_of DX0_chooseForm 27 rfl) rfl ?_
        refine vi_if_ne (tgt := 72) (dec_of DX0_chooseForm 28 rfl) (by decide) (by first | omega | exact hI _ | exact r32c (cc_r _ _ _) | (have h15 := hI 15; have h16 := hI 16; omega) | (have := cc_r (I 17) (I 18) 3; omega) | (have := cc_r (I 17) (I 18) 3; simp [uN]; omega) | (have h15 := hI 15; have h16 := hI 16; have := cc_r (I 17) (I 18) 0; simp [uN]; omega)) (fun c51 => ?_) (fun c51 => ?_)
        · refine vi_const (dec_of DX0_chooseForm 39 rfl) ?_
          refine v_goto (tgt := 77) (dec_of DX0_chooseForm 40 rfl) (by decide) ?_
          refine cp_14 fX0_31 (dec_of DX0_chooseForm 42 rfl) (by omega) ?_
          refine v_aload_n (dec_of DX0_chooseForm 43 rfl) rfl ?_
          refine v_get fX0_31 (dec_of DX0_chooseForm 44 rfl) rfl rfl ?_
          try simp (disch := decide) only [uN_s, uN_n]
          refine vi_if_eq (tgt := 103) (dec_of DX0_chooseForm 45 rfl) (by decide) (by first | omega | exact hI _ | exact r32c (cc_r _ _ _) | (have h15 := hI 15; have h16 := hI 16; omega) | (have := cc_r (I 17) (I 18) 3; omega) | (have := cc_r (I 17) (I 18) 3; simp [uN]; omega) | (have h15 := hI 15; have h16 := hI 16; have := cc_r (I 17) (I 18) 0; simp [uN]; omega)) (fun c84 => absurd c84 (by first | decide | simp [uN])) (fun c84 => ?_)
          refine v_aload_n (dec_of DX0_chooseForm 46 rfl) rfl ?_
          refine vi_bi (dec_of DX0_chooseForm 47 rfl) (by decide) ?_
          refine cp_15 fX0_35 (dec_of DX0_chooseForm 48 rfl) ?_
          refine v_aload_n (dec_of DX0_chooseForm 49 rfl) rfl ?_
          refine vi_const (dec_of DX0_chooseForm 50 rfl) ?_
          refine cp_19 fX0_75 (dec_of DX0_chooseForm 51 rfl) ?_
          refine v_aload_n (dec_of DX0_chooseForm 52 rfl) rfl ?_
          refine vi_const (dec_of DX0_chooseForm 53 rfl) ?_
          refine cp_20 fX0_78 (dec_of DX0_chooseForm 54 rfl) ?_
          exact vi_vret (dec_of DX0_chooseForm 55 rfl) rfl ⟨by decide, by decide⟩ (⟨by first | rfl | (rw [opn, if_pos (by assumption)]; rfl) | (rw [opn, if_neg (by assumption)]; rfl), rfl⟩)
        · refine v_aload_n (dec_of DX0_chooseForm 29 rfl) rfl ?_
          refine v_V0r (k_firstPlaced hF ((hI.up (by omega)).up (by first | omega | exact r32c (cc_r _ _ _))) (by unfold NR; exact hN)) lX0_81 (dec_of DX0_chooseForm 30 rfl) rfl rfl (by decide) (nle rfl) rfl ?_
          try simp (disch := decide) only [uN_s, uN_n]
          refine v_aload_n (dec_of DX0_chooseForm 31 rfl) rfl ?_
          refine v_get fX0_75 (dec_of DX0_chooseForm 32 rfl) rfl rfl ?_
          try simp (disch := decide) only [uN_s, uN_n]
          refine v_aload_n (dec_of DX0_chooseForm 33 rfl) rfl ?_
          refine v_get fX0_78 (dec_of DX0_chooseForm 34 rfl) rfl rfl ?_
          try simp (disch := decide) only [uN_s, uN_n]
          refine vi_add (dec_of DX0_chooseForm 35 rfl) ?_
          refine vi_const (dec_of DX0_chooseForm 36 rfl) ?_
          refine vi_add (dec_of DX0_chooseForm 37 rfl) ?_
          refine vi_icmp_ge (tgt := 76) (dec_of DX0_chooseForm 38 rfl) (by decide) (by first | omega | exact hI _ | exact r32c (cc_r _ _ _) | (have h15 := hI 15; have h16 := hI 16; omega) | (have := cc_r (I 17) (I 18) 3; omega) | (have := cc_r (I 17) (I 18) 3; simp [uN]; omega) | (have h15 := hI 15; have h16 := hI 16; have := cc_r (I 17) (I 18) 0; simp [uN]; omega)) (by first | omega | exact hI _ | exact r32c (cc_r _ _ _) | (have h15 := hI 15; have h16 := hI 16; omega) | (have := cc_r (I 17) (I 18) 3; omega) | (have := cc_r (I 17) (I 18) 3; simp [uN]; omega) | (have h15 := hI 15; have h16 := hI 16; have := cc_r (I 17) (I 18) 0; simp [uN]; omega)) (fun c69 => ?_) (fun c69 => ?_)
          · exact absurd hs (by unfold shr frs opn; omega)
          · refine vi_const (dec_of DX0_chooseForm 39 rfl) ?_
            refine v_goto (tgt := 77) (dec_of DX0_chooseForm 40 rfl) (by decide) ?_
            refine cp_14 fX0_31 (dec_of DX0_chooseForm 42 rfl) (by omega) ?_
            refine v_aload_n (dec_of DX0_chooseForm 43 rfl) rfl ?_
            refine v_get fX0_31 (dec_of DX0_chooseForm 44 rfl) rfl rfl ?_
            try simp (disch := decide) only [uN_s, uN_n]
            refine vi_if_eq (tgt := 103) (dec_of DX0_chooseForm 45 rfl) (by decide) (by first | omega | exact hI _ | exact r32c (cc_r _ _ _) | (have h15 := hI 15; have h16 := hI 16; omega) | (have := cc_r (I 17) (I 18) 3; omega) | (have := cc_r (I 17) (I 18) 3; simp [uN]; omega) | (have h15 := hI 15; have h16 := hI 16; have := cc_r (I 17) (I 18) 0; simp [uN]; omega)) (fun c84 => absurd c84 (by first | decide | simp [uN])) (fun c84 => ?_)
            refine v_aload_n (dec_of DX0_chooseForm 46 rfl) rfl ?_
            refine vi_bi (dec_of DX0_chooseForm 47 rfl) (by decide) ?_
            refine cp_15 fX0_35 (dec_of DX0_chooseForm 48 rfl) ?_
            refine v_aload_n (dec_of DX0_chooseForm 49 rfl) rfl ?_
            refine vi_const (dec_of DX0_chooseForm 50 rfl) ?_
            refine cp_19 fX0_75 (dec_of DX0_chooseForm 51 rfl) ?_
            refine v_aload_n (dec_of DX0_chooseForm 52 rfl) rfl ?_
            refine vi_const (dec_of DX0_chooseForm 53 rfl) ?_
            refine cp_20 fX0_78 (dec_of DX0_chooseForm 54 rfl) ?_
            exact vi_vret (dec_of DX0_chooseForm 55 rfl) rfl ⟨by decide, by decide⟩ (⟨by first | rfl | (rw [opn, if_pos (by assumption)]; rfl) | (rw [opn, if_neg (by assumption)]; rfl), rfl⟩)
      · refine vi_const (dec_of DX0_chooseForm 22 rfl) ?_
        refine v_goto (tgt := 48) (dec_of DX0_chooseForm 23 rfl) (by decide) ?_
        refine v_istore_n (dec_of DX0_chooseForm 25 rfl) (by decide) ?_
        dsimp only [List.set]
        refine v_aload_n (dec_of DX0_chooseForm 26 rfl) rfl ?_
        refine v_iload_n (dec_of DX0_chooseForm 27 rfl) rfl ?_
        refine vi_if_ne (tgt := 72) (dec_of DX0_chooseForm 28 rfl) (by decide) (by first | omega | exact hI _ | exact r32c (cc_r _ _ _) | (have h15 := hI 15; have h16 := hI 16; omega) | (have := cc_r (I 17) (I 18) 3; omega) | (have := cc_r (I 17) (I 18) 3; simp [uN]; omega) | (have h15 := hI 15; have h16 := hI 16; have := cc_r (I 17) (I 18) 0; simp [uN]; omega)) (fun c51 => ?_) (fun c51 => ?_)
        · refine vi_const (dec_of DX0_chooseForm 39 rfl) ?_
          refine v_goto (tgt := 77) (dec_of DX0_chooseForm 40 rfl) (by decide) ?_
          refine cp_14 fX0_31 (dec_of DX0_chooseForm 42 rfl) (by omega) ?_
          refine v_aload_n (dec_of DX0_chooseForm 43 rfl) rfl ?_
          refine v_get fX0_31 (dec_of DX0_chooseForm 44 rfl) rfl rfl ?_
          try simp (disch := decide) only [uN_s, uN_n]
          refine vi_if_eq (tgt := 103) (dec_of DX0_chooseForm 45 rfl) (by decide) (by first | omega | exact hI _ | exact r32c (cc_r _ _ _) | (have h15 := hI 15; have h16 := hI 16; omega) | (have := cc_r (I 17) (I 18) 3; omega) | (have := cc_r (I 17) (I 18) 3; simp [uN]; omega) | (have h15 := hI 15; have h16 := hI 16; have := cc_r (I 17) (I 18) 0; simp [uN]; omega)) (fun c84 => absurd c84 (by first | decide | simp [uN])) (fun c84 => ?_)
          refine v_aload_n (dec_of DX0_chooseForm 46 rfl) rfl ?_
          refine vi_bi (dec_of DX0_chooseForm 47 rfl) (by decide) ?_
          refine cp_15 fX0_35 (dec_of DX0_chooseForm 48 rfl) ?_
          refine v_aload_n (dec_of DX0_chooseForm 49 rfl) rfl ?_
          refine vi_const (dec_of DX0_chooseForm 50 rfl) ?_
          refine cp_19 fX0_75 (dec_of DX0_chooseForm 51 rfl) ?_
          refine v_aload_n (dec_of DX0_chooseForm 52 rfl) rfl ?_
          refine vi_const (dec_of DX0_chooseForm 53 rfl) ?_
          refine cp_20 fX0_78 (dec_of DX0_chooseForm 54 rfl) ?_
          exact vi_vret (dec_of DX0_chooseForm 55 rfl) rfl ⟨by decide, by decide⟩ (⟨by first | rfl | (rw [opn, if_pos (by assumption)]; rfl) | (rw [opn, if_neg (by assumption)]; rfl), rfl⟩)
        · refine v_aload_n (dec_of DX0_chooseForm 29 rfl) rfl ?_
          refine v_V0r (k_firstPlaced hF ((hI.up (by omega)).up (by first | omega | exact r32c (cc_r _ _ _))) (by unfold NR; exact hN)) lX0_81 (dec_of DX0_chooseForm 30 rfl) rfl rfl (by decide) (nle rfl) rfl ?_
          try simp (disch := decide) only [uN_s, uN_n]
          refine v_aload_n (dec_of DX0_chooseForm 31 rfl) rfl ?_
          refine v_get fX0_75 (dec_of DX0_chooseForm 32 rfl) rfl rfl ?_
          try simp (disch := decide) only [uN_s, uN_n]
          refine v_aload_n (dec_of DX0_chooseForm 33 rfl) rfl ?_
          refine v_get fX0_78 (dec_of DX0_chooseForm 34 rfl) rfl rfl ?_
          try simp (disch := decide) only [uN_s, uN_n]
          refine vi_add (dec_of DX0_chooseForm 35 rfl) ?_
          refine vi_const (dec_of DX0_chooseForm 36 rfl) ?_
          refine vi_add (dec_of DX0_chooseForm 37 rfl) ?_
          refine vi_icmp_ge (tgt := 76) (dec_of DX0_chooseForm 38 rfl) (by decide) (by first | omega | exact hI _ | exact r32c (cc_r _ _ _) | (have h15 := hI 15; have h16 := hI 16; omega) | (have := cc_r (I 17) (I 18) 3; omega) | (have := cc_r (I 17) (I 18) 3; simp [uN]; omega) | (have h15 := hI 15; have h16 := hI 16; have := cc_r (I 17) (I 18) 0; simp [uN]; omega)) (by first | omega | exact hI _ | exact r32c (cc_r _ _ _) | (have h15 := hI 15; have h16 := hI 16; omega) | (have := cc_r (I 17) (I 18) 3; omega) | (have := cc_r (I 17) (I 18) 3; simp [uN]; omega) | (have h15 := hI 15; have h16 := hI 16; have := cc_r (I 17) (I 18) 0; simp [uN]; omega)) (fun c69 => ?_) (fun c69 => ?_)
          · exact absurd hs (by unfold shr frs opn; omega)
          · refine vi_const (dec_of DX0_chooseForm 39 rfl) ?_
            refine v_goto (tgt := 77) (dec_of DX0_chooseForm 40 rfl) (by decide) ?_
            refine cp_14 fX0_31 (dec_of DX0_chooseForm 42 rfl) (by omega) ?_
            refine v_aload_n (dec_of DX0_chooseForm 43 rfl) rfl ?_
            refine v_get fX0_31 (dec_of DX0_chooseForm 44 rfl) rfl rfl ?_
            try simp (disch := decide) only [uN_s, uN_n]
            refine vi_if_eq (tgt := 103) (dec_of DX0_chooseForm 45 rfl) (by decide) (by first | omega | exact hI _ | exact r32c (cc_r _ _ _) | (have h15 := hI 15; have h16 := hI 16; omega) | (have := cc_r (I 17) (I 18) 3; omega) | (have := cc_r (I 17) (I 18) 3; simp [uN]; omega) | (have h15 := hI 15; have h16 := hI 16; have := cc_r (I 17) (I 18) 0; simp [uN]; omega)) (fun c84 => absurd c84 (by first | decide | simp [uN])) (fun c84 => ?_)
            refine v_aload_n (dec_of DX0_chooseForm 46 rfl) rfl ?_
            refine vi_bi (dec_of DX0_chooseForm 47 rfl) (by decide) ?_
            refine cp_15 fX0_35 (dec_of DX0_chooseForm 48 rfl) ?_
            refine v_aload_n (dec_of DX0_chooseForm 49 rfl) rfl ?_
            refine vi_const (dec_of DX0_chooseForm 50 rfl) ?_
            refine cp_19 fX0_75 (dec_of DX0_chooseForm 51 rfl) ?_
            refine v_aload_n (dec_of DX0_chooseForm 52 rfl) rfl ?_
            refine vi_const (dec_of DX0_chooseForm 53 rfl) ?_
            refine cp_20 fX0_78 (dec_of DX0_chooseForm 54 rfl) ?_
            exact vi_vret (dec_of DX0_chooseForm 55 rfl) rfl ⟨by decide, by decide⟩ (⟨by first | rfl | (rw [opn, if_pos (by assumption)]; rfl) | (rw [opn, if_neg (by assumption)]; rfl), rfl⟩)
set_option maxRecDepth 100000 in
set_option maxHeartbeats 4000000 in
theorem k_choose_long {T : XW} {I N : Nat → Int} {F : Nat → Int → Int} (hF : FR F) (hI : IR I) (hN : NR N) (hT : 1 ≤ I 17 ∧ I 17 ≤ 8) (hH : 0 ≤ I 18 ∧ I 18 ≤ 1) (hs : ¬ shr I) : Sd (rm 2 43 0 0) mX0_chooseForm [.ref 28] (cls I N F ++ T) (cls (uN (uN (uN I 14 0) 19 (opn (I 18))) 20 (cc (I 17) (I 18) 0)) N F ++ T) (none) := by
  unfold Sd
  unfold NR at hN
  have hc0 := cc_r (I 17) (I 18) 0
  have hc3 := cc_r (I 17) (I 18) 3
  refine sp_of (ls := [some (.ref 28), none]) (by decide) (nle rfl) rfl rfl ?_
  refine v_aload_n (dec_of DX0_chooseForm 0 rfl) rfl ?_
  refine v_aload_n (dec_of DX0_chooseForm 1 rfl) rfl ?_
  refine v_get fX0_24 (dec_of DX0_chooseForm 2 rfl) rfl rfl ?_
  try simp (disch := decide) only [uN_s, uN_n]
  refine vi_if_ne (tgt := 12) (dec_of DX0_chooseForm 3 rfl) (by decide) (by first | omega | exact hI _ | exact r32c (cc_r _ _ _) | (have h15 := hI 15; have h16 := hI 16; omega) | (have := cc_r (I 17) (I 18) 3; omega) | (have := cc_r (I 17) (I 18) 3; simp [uN]; omega) | (have h15 := hI 15; have h16 := hI 16; have := cc_r (I 17) (I 18) 0; simp [uN]; omega)) (fun c5 => ?_) (fun c5 => ?_)
  · refine vi_const (dec_of DX0_chooseForm 6 rfl) ?_
    refine cp_19 fX0_75 (dec_of DX0_chooseForm 7 rfl) ?_
    refine v_aload_n (dec_of DX0_chooseForm 8 rfl) rfl ?_
    refine v_aload_n (dec_of DX0_chooseForm 9 rfl) rfl ?_
    refine vi_const (dec_of DX0_chooseForm 10 rfl) ?_
    refine v_V1r (k_cc hF (hI.up (by omega)) (by unfold NR; exact hN) hT hH (by omega)) lX0_68 (dec_of DX0_chooseForm 11 rfl) rfl rfl (by decide) (nle rfl) rfl ?_
    try simp (disch := decide) only [uN_s, uN_n]
    refine cp_20 fX0_78 (dec_of DX0_chooseForm 12 rfl) ?_
    refine v_aload_n (dec_of DX0_chooseForm 13 rfl) rfl ?_
    refine vi_const (dec_of DX0_chooseForm 14 rfl) ?_
    refine v_V1r (k_cc hF ((hI.up (by omega)).up (by first | omega | exact r32c (cc_r _ _ _))) (by unfold NR; exact hN) hT hH (by omega)) lX0_68 (dec_of DX0_chooseForm 15 rfl) rfl rfl (by decide) (nle rfl) rfl ?_
    try simp (disch := decide) only [uN_s, uN_n]
    refine vi_const (dec_of DX0_chooseForm 16 rfl) ?_
    refine vi_icmp_ne (tgt := 47) (dec_of DX0_chooseForm 17 rfl) (by decide) (by first | omega | exact hI _ | exact r32c (cc_r _ _ _) | (have h15 := hI 15; have h16 := hI 16; omega) | (have := cc_r (I 17) (I 18) 3; omega) | (have := cc_r (I 17) (I 18) 3; simp [uN]; omega) | (have h15 := hI 15; have h16 := hI 16; have := cc_r (I 17) (I 18) 0; simp [uN]; omega)) (by first | omega | exact hI _ | exact r32c (cc_r _ _ _) | (have h15 := hI 15; have h16 := hI 16; omega) | (have := cc_r (I 17) (I 18) 3; omega) | (have := cc_r (I 17) (I 18) 3; simp [uN]; omega) | (have h15 := hI 15; have h16 := hI 16; have := cc_r (I 17) (I 18) 0; simp [uN]; omega)) (fun c31 => ?_) (fun c31 => ?_)
    · refine vi_const (dec_of DX0_chooseForm 24 rfl) ?_
      refine v_istore_n (dec_of DX0_chooseForm 25 rfl) (by decide) ?_
      dsimp only [List.set]
      refine v_aload_n (dec_of DX0_chooseForm 26 rfl) rfl ?_
      refine v_iload_n (dec_of DX0_chooseForm 27 rfl) rfl ?_
      refine vi_if_ne (tgt := 72) (dec_of DX0_chooseForm 28 rfl) (by decide) (by first | omega | exact hI _ | exact r32c (cc_r _ _ _) | (have h15 := hI 15; have h16 := hI 16; omega) | (have := cc_r (I 17) (I 18) 3; omega) | (have := cc_r (I 17) (I 18) 3; simp [uN]; omega) | (have h15 := hI 15; have h16 := hI 16; have := cc_r (I 17) (I 18) 0; simp [uN]; omega)) (fun c51 => ?_) (fun c51 => ?_)
      · exact absurd (show shr I from by unfold shr frs opn; omega) hs
      · refine v_aload_n (dec_of DX0_chooseForm 29 rfl) rfl ?_
        refine v_V0r (k_firstPlaced hF ((hI.up (by omega)).up (by first | omega | exact r32c (cc_r _ _ _))) (by unfold NR; exact hN)) lX0_81 (dec_of DX0_chooseForm 30 rfl) rfl rfl (by decide) (nle rfl) rfl ?_
        try simp (disch := decide) only [uN_s, uN_n]
        refine v_aload_n (dec_of DX0_chooseForm 31 rfl) rfl ?_
        refine v_get fX0_75 (dec_of DX0_chooseForm 32 rfl) rfl rfl ?_
        try simp (disch := decide) only [uN_s, uN_n]
        refine v_aload_n (dec_of DX0_chooseForm 33 rfl) rfl ?_
        refine v_get fX0_78 (dec_of DX0_chooseForm 34 rfl) rfl rfl ?_
        try simp (disch := decide) only [uN_s, uN_n]
        refine vi_add (dec_of DX0_chooseForm 35 rfl) ?_
        refine vi_const (dec_of DX0_chooseForm 36 rfl) ?_
        refine vi_add (dec_of DX0_chooseForm 37 rfl) ?_
        refine vi_icmp_ge (tgt := 76) (dec_of DX0_chooseForm 38 rfl) (by decide) (by first | omega | exact hI _ | exact r32c (cc_r _ _ _) | (have h15 := hI 15; have h16 := hI 16; omega) | (have := cc_r (I 17) (I 18) 3; omega) | (have := cc_r (I 17) (I 18) 3; simp [uN]; omega) | (have h15 := hI 15; have h16 := hI 16; have := cc_r (I 17) (I 18) 0; simp [uN]; omega)) (by first | omega | exact hI _ | exact r32c (cc_r _ _ _) | (have h15 := hI 15; have h16 := hI 16; omega) | (have := cc_r (I 17) (I 18) 3; omega) | (have := cc_r (I 17) (I 18) 3; simp [uN]; omega) | (have h15 := hI 15; have h16 := hI 16; have := cc_r (I 17) (I 18) 0; simp [uN]; omega)) (fun c69 => ?_) (fun c69 => ?_)
        · refine vi_const (dec_of DX0_chooseForm 41 rfl) ?_
          refine cp_14 fX0_31 (dec_of DX0_chooseForm 42 rfl) (by omega) ?_
          refine v_aload_n (dec_of DX0_chooseForm 43 rfl) rfl ?_
          refine v_get fX0_31 (dec_of DX0_chooseForm 44 rfl) rfl rfl ?_
          try simp (disch := decide) only [uN_s, uN_n]
          refine vi_if_eq (tgt := 103) (dec_of DX0_chooseForm 45 rfl) (by decide) (by first | omega | exact hI _ | exact r32c (cc_r _ _ _) | (have h15 := hI 15; have h16 := hI 16; omega) | (have := cc_r (I 17) (I 18) 3; omega) | (have := cc_r (I 17) (I 18) 3; simp [uN]; omega) | (have h15 := hI 15; have h16 := hI 16; have := cc_r (I 17) (I 18) 0; simp [uN]; omega)) (fun c84 => ?_) (fun c84 => absurd c84 (by first | decide | simp [uN]))
          exact vi_vret (dec_of DX0_chooseForm 55 rfl) rfl ⟨by decide, by decide⟩ (⟨by first | rfl | (rw [opn, if_pos (by assumption)]; rfl) | (rw [opn, if_neg (by assumption)]; rfl), rfl⟩)
        · exact absurd (show shr I from by unfold shr frs opn; omega) hs
    · refine v_aload_n (dec_of DX0_chooseForm 18 rfl) rfl ?_
      refine v_get fX0_35 (dec_of DX0_chooseForm 19 rfl) rfl rfl ?_
      try simp (disch := decide) only [uN_s, uN_n]
      refine vi_bi (dec_of DX0_chooseForm 20 rfl) (by decide) ?_
      refine vi_icmp_ne (tgt := 47) (dec_of DX0_chooseForm 21 rfl) (by decide) (by first | omega | exact hI _ | exact r32c (cc_r _ _ _) | (have h15 := hI 15; have h16 := hI 16; omega) | (have := cc_r (I 17) (I 18) 3; omega) | (have := cc_r (I 17) (I 18) 3; simp [uN]; omega) | (have h15 := hI 15; have h16 := hI 16; have := cc_r (I 17) (I 18) 0; simp [uN]; omega)) (by first | omega | exact hI _ | exact r32c (cc_r _ _ _) | (have h15 := hI 15; have h16 := hI 16; omega) | (have := cc_r (I 17) (I 18) 3; omega) | (have := cc_r (I 17) (I 18) 3; simp [uN]; omega) | (have h15 := hI 15; have h16 := hI 16; have := cc_r (I 17) (I 18) 0; simp [uN]; omega)) (fun c40 => ?_) (fun c40 => ?_)
      · refine vi_const (dec_of DX0_chooseForm 24 rfl) ?_
        refine v_istore_n (dec_of DX0_chooseForm 25 rfl) (by decide) ?_
        dsimp only [List.set]
        refine v_aload_n (dec_of DX0_chooseForm 26 rfl) rfl ?_
        refine v_iload_n (dec_of DX0_chooseForm 27 rfl) rfl ?_
        refine vi_if_ne (tgt := 72) (dec_of DX0_chooseForm 28 rfl) (by decide) (by first | omega | exact hI _ | exact r32c (cc_r _ _ _) | (have h15 := hI 15; have h16 := hI 16; omega) | (have := cc_r (I 17) (I 18) 3; omega) | (have := cc_r (I 17) (I 18) 3; simp [uN]; omega) | (have h15 := hI 15; have h16 := hI 16; have := cc_r (I 17) (I 18) 0; simp [uN]; omega)) (fun c51 => ?_) (fun c51 => ?_)
        · exact absurd (show shr I from by unfold shr frs opn; omega) hs
        · refine v_aload_n (dec_of DX0_chooseForm 29 rfl) rfl ?_
          refine v_V0r (k_firstPlaced hF ((hI.up (by omega)).up (by first | omega | exact r32c (cc_r _ _ _))) (by unfold NR; exact hN)) lX0_81 (dec_of DX0_chooseForm 30 rfl) rfl rfl (by decide) (nle rfl) rfl ?_
          try simp (disch := decide) only [uN_s, uN_n]
          refine v_aload_n (dec_of DX0_chooseForm 31 rfl) rfl ?_
          refine v_get fX0_75 (dec_of DX0_chooseForm 32 rfl) rfl rfl ?_
          try simp (disch := decide) only [uN_s, uN_n]
          refine v_aload_n (dec_of DX0_chooseForm 33 rfl) rfl ?_
          refine v_get fX0_78 (dec_of DX0_chooseForm 34 rfl) rfl rfl ?_
          try simp (disch := decide) only [uN_s, uN_n]
          refine vi_add (dec_of DX0_chooseForm 35 rfl) ?_
          refine vi_const (dec_of DX0_chooseForm 36 rfl) ?_
          refine vi_add (dec_of DX0_chooseForm 37 rfl) ?_
          refine vi_icmp_ge (tgt := 76) (dec_of DX0_chooseForm 38 rfl) (by decide) (by first | omega | exact hI _ | exact r32c (cc_r _ _ _) | (have h15 := hI 15; have h16 := hI 16; omega) | (have := cc_r (I 17) (I 18) 3; omega) | (have := cc_r (I 17) (I 18) 3; simp [uN]; omega) | (have h15 := hI 15; have h16 := hI 16; have := cc_r (I 17) (I 18) 0; simp [uN]; omega)) (by first | omega | exact hI _ | exact r32c (cc_r _ _ _) | (have h15 := hI 15; have h16 := hI 16; omega) | (have := cc_r (I 17) (I 18) 3; omega) | (have := cc_r (I 17) (I 18) 3; simp [uN]; omega) | (have h15 := hI 15; have h16 := hI 16; have := cc_r (I 17) (I 18) 0; simp [uN]; omega)) (fun c69 => ?_) (fun c69 => ?_)
          · refine vi_const (dec_of DX0_chooseForm 41 rfl) ?_
            refine cp_14 fX0_31 (dec_of DX0_chooseForm 42 rfl) (by omega) ?_
            refine v_aload_n (dec_of DX0_chooseForm 43 rfl) rfl ?_
            refine v_get fX0_31 (dec_of DX0_chooseForm 44 rfl) rfl rfl ?_
            try simp (disch := decide) only [uN_s, uN_n]
            refine vi_if_eq (tgt := 103) (dec_of DX0_chooseForm 45 rfl) (by decide) (by first | omega | exact hI _ | exact r32c (cc_r _ _ _) | (have h15 := hI 15; have h16 := hI 16; omega) | (have := cc_r (I 17) (I 18) 3; omega) | (have := cc_r (I 17) (I 18) 3; simp [uN]; omega) | (have h15 := hI 15; have h16 := hI 16; have := cc_r (I 17) (I 18) 0; simp [uN]; omega)) (fun c84 => ?_) (fun c84 => absurd c84 (by first | decide | simp [uN]))
            exact vi_vret (dec_of DX0_chooseForm 55 rfl) rfl ⟨by decide, by decide⟩ (⟨by first | rfl | (rw [opn, if_pos (by assumption)]; rfl) | (rw [opn, if_neg (by assumption)]; rfl), rfl⟩)
          · exact absurd (show shr I from by unfold shr frs opn; omega) hs
      · refine vi_const (dec_of DX0_chooseForm 22 rfl) ?_
        refine v_goto (tgt := 48) (dec_of DX0_chooseForm 23 rfl) (by decide) ?_
        refine v_istore_n (dec_of DX0_chooseForm 25 rfl) (by decide) ?_
        dsimp only [List.set]
        refine v_aload_n (dec_of DX0_chooseForm 26 rfl) rfl ?_
        refine v_iload_n (dec_of DX0_chooseForm 27 rfl) rfl ?_
        refine vi_if_ne (tgt := 72) (dec_of DX0_chooseForm 28 rfl) (by decide) (by first | omega | exact hI _ | exact r32c (cc_r _ _ _) | (have h15 := hI 15; have h16 := hI 16; omega) | (have := cc_r (I 17) (I 18) 3; omega) | (have := cc_r (I 17) (I 18) 3; simp [uN]; omega) | (have h15 := hI 15; have h16 := hI 16; have := cc_r (I 17) (I 18) 0; simp [uN]; omega)) (fun c51 => ?_) (fun c51 => ?_)
        · exact absurd (show shr I from by unfold shr frs opn; omega) hs
        · refine v_aload_n (dec_of DX0_chooseForm 29 rfl) rfl ?_
          refine v_V0r (k_firstPlaced hF ((hI.up (by omega)).up (by first | omega | exact r32c (cc_r _ _ _))) (by unfold NR; exact hN)) lX0_81 (dec_of DX0_chooseForm 30 rfl) rfl rfl (by decide) (nle rfl) rfl ?_
          try simp (disch := decide) only [uN_s, uN_n]
          refine v_aload_n (dec_of DX0_chooseForm 31 rfl) rfl ?_
          refine v_get fX0_75 (dec_of DX0_chooseForm 32 rfl) rfl rfl ?_
          try simp (disch := decide) only [uN_s, uN_n]
          refine v_aload_n (dec_of DX0_chooseForm 33 rfl) rfl ?_
          refine v_get fX0_78 (dec_of DX0_chooseForm 34 rfl) rfl rfl ?_
          try simp (disch := decide) only [uN_s, uN_n]
          refine vi_add (dec_of DX0_chooseForm 35 rfl) ?_
          refine vi_const (dec_of DX0_chooseForm 36 rfl) ?_
          refine vi_add (dec_of DX0_chooseForm 37 rfl) ?_
          refine vi_icmp_ge (tgt := 76) (dec_of DX0_chooseForm 38 rfl) (by decide) (by first | omega | exact hI _ | exact r32c (cc_r _ _ _) | (have h15 := hI 15; have h16 := hI 16; omega) | (have := cc_r (I 17) (I 18) 3; omega) | (have := cc_r (I 17) (I 18) 3; simp [uN]; omega) | (have h15 := hI 15; have h16 := hI 16; have := cc_r (I 17) (I 18) 0; simp [uN]; omega)) (by first | omega | exact hI _ | exact r32c (cc_r _ _ _) | (have h15 := hI 15; have h16 := hI 16; omega) | (have := cc_r (I 17) (I 18) 3; omega) | (have := cc_r (I 17) (I 18) 3; simp [uN]; omega) | (have h15 := hI 15; have h16 := hI 16; have := cc_r (I 17) (I 18) 0; simp [uN]; omega)) (fun c69 => ?_) (fun c69 => ?_)
          · refine vi_const (dec_of DX0_chooseForm 41 rfl) ?_
            refine cp_14 fX0_31 (dec_of DX0_chooseForm 42 rfl) (by omega) ?_
            refine v_aload_n (dec_of DX0_chooseForm 43 rfl) rfl ?_
            refine v_get fX0_31 (dec_of DX0_chooseForm 44 rfl) rfl rfl ?_
            try simp (disch := decide) only [uN_s, uN_n]
            refine vi_if_eq (tgt := 103) (dec_of DX0_chooseForm 45 rfl) (by decide) (by first | omega | exact hI _ | exact r32c (cc_r _ _ _) | (have h15 := hI 15; have h16 := hI 16; omega) | (have := cc_r (I 17) (I 18) 3; omega) | (have := cc_r (I 17) (I 18) 3; simp [uN]; omega) | (have h15 := hI 15; have h16 := hI 16; have := cc_r (I 17) (I 18) 0; simp [uN]; omega)) (fun c84 => ?_) (fun c84 => absurd c84 (by first | decide | simp [uN]))
            exact vi_vret (dec_of DX0_chooseForm 55 rfl) rfl ⟨by decide, by decide⟩ (⟨by first | rfl | (rw [opn, if_pos (by assumption)]; rfl) | (rw [opn, if_neg (by assumption)]; rfl), rfl⟩)
          · exact absurd (show shr I from by unfold shr frs opn; omega) hs
  · refine vi_const (dec_of DX0_chooseForm 4 rfl) ?_
    refine v_goto (tgt := 13) (dec_of DX0_chooseForm 5 rfl) (by decide) ?_
    refine cp_19 fX0_75 (dec_of DX0_chooseForm 7 rfl) ?_
    refine v_aload_n (dec_of DX0_chooseForm 8 rfl) rfl ?_
    refine v_aload_n (dec_of DX0_chooseForm 9 rfl) rfl ?_
    refine vi_const (dec_of DX0_chooseForm 10 rfl) ?_
    refine v_V1r (k_cc hF (hI.up (by omega)) (by unfold NR; exact hN) hT hH (by omega)) lX0_68 (dec_of DX0_chooseForm 11 rfl) rfl rfl (by decide) (nle rfl) rfl ?_
    try simp (disch := decide) only [uN_s, uN_n]
    refine cp_20 fX0_78 (dec_of DX0_chooseForm 12 rfl) ?_
    refine v_aload_n (dec_of DX0_chooseForm 13 rfl) rfl ?_
    refine vi_const (dec_of DX0_chooseForm 14 rfl) ?_
    refine v_V1r (k_cc hF ((hI.up (by omega)).up (by first | omega | exact r32c (cc_r _ _ _))) (by unfold NR; exact hN) hT hH (by omega)) lX0_68 (dec_of DX0_chooseForm 15 rfl) rfl rfl (by decide) (nle rfl) rfl ?_
    try simp (disch := decide) only [uN_s, uN_n]
    refine vi_const (dec_of DX0_chooseForm 16 rfl) ?_
    refine vi_icmp_ne (tgt := 47) (dec_of DX0_chooseForm 17 rfl) (by decide) (by first | omega | exact hI _ | exact r32c (cc_r _ _ _) | (have h15 := hI 15; have h16 := hI 16; omega) | (have := cc_r (I 17) (I 18) 3; omega) | (have := cc_r (I 17) (I 18) 3; simp [uN]; omega) | (have h15 := hI 15; have h16 := hI 16; have := cc_r (I 17) (I 18) 0; simp [uN]; omega)) (by first | omega | exact hI _ | exact r32c (cc_r _ _ _) | (have h15 := hI 15; have h16 := hI 16; omega) | (have := cc_r (I 17) (I 18) 3; omega) | (have := cc_r (I 17) (I 18) 3; simp [uN]; omega) | (have h15 := hI 15; have h16 := hI 16; have := cc_r (I 17) (I 18) 0; simp [uN]; omega)) (fun c31 => ?_) (fun c31 => ?_)
    · refine vi_const (dec_of DX0_chooseForm 24 rfl) ?_
      refine v_istore_n (dec_of DX0_chooseForm 25 rfl) (by decide) ?_
      dsimp only [List.set]
      refine v_aload_n (dec_of DX0_chooseForm 26 rfl) rfl ?_
      refine v_iload_n (dec_of DX0_chooseForm 27 rfl) rfl ?_
      refine vi_if_ne (tgt := 72) (dec_of DX0_chooseForm 28 rfl) (by decide) (by first | omega | exact hI _ | exact r32c (cc_r _ _ _) | (have h15 := hI 15; have h16 := hI 16; omega) | (have := cc_r (I 17) (I 18) 3; omega) | (have := cc_r (I 17) (I 18) 3; simp [uN]; omega) | (have h15 := hI 15; have h16 := hI 16; have := cc_r (I 17) (I 18) 0; simp [uN]; omega)) (fun c51 => ?_) (fun c51 => ?_)
      · exact absurd (show shr I from by unfold shr frs opn; omega) hs
      · refine v_aload_n (dec_of DX0_chooseForm 29 rfl) rfl ?_
        refine v_V0r (k_firstPlaced hF ((hI.up (by omega)).up (by first | omega | exact r32c (cc_r _ _ _))) (by unfold NR; exact hN)) lX0_81 (dec_of DX0_chooseForm 30 rfl) rfl rfl (by decide) (nle rfl) rfl ?_
        try simp (disch := decide) only [uN_s, uN_n]
        refine v_aload_n (dec_of DX0_chooseForm 31 rfl) rfl ?_
        refine v_get fX0_75 (dec_of DX0_chooseForm 32 rfl) rfl rfl ?_
        try simp (disch := decide) only [uN_s, uN_n]
        refine v_aload_n (dec_of DX0_chooseForm 33 rfl) rfl ?_
        refine v_get fX0_78 (dec_of DX0_chooseForm 34 rfl) rfl rfl ?_
        try simp (disch := decide) only [uN_s, uN_n]
        refine vi_add (dec_of DX0_chooseForm 35 rfl) ?_
        refine vi_const (dec_of DX0_chooseForm 36 rfl) ?_
        refine vi_add (dec_of DX0_chooseForm 37 rfl) ?_
        refine vi_icmp_ge (tgt := 76) (dec_of DX0_chooseForm 38 rfl) (by decide) (by first | omega | exact hI _ | exact r32c (cc_r _ _ _) | (have h15 := hI 15; have h16 := hI 16; omega) | (have := cc_r (I 17) (I 18) 3; omega) | (have := cc_r (I 17) (I 18) 3; simp [uN]; omega) | (have h15 := hI 15; have h16 := hI 16; have := cc_r (I 17) (I 18) 0; simp [uN]; omega)) (by first | omega | exact hI _ | exact r32c (cc_r _ _ _) | (have h15 := hI 15; have h16 := hI 16; omega) | (have := cc_r (I 17) (I 18) 3; omega) | (have := cc_r (I 17) (I 18) 3; simp [uN]; omega) | (have h15 := hI 15; have h16 := hI 16; have := cc_r (I 17) (I 18) 0; simp [uN]; omega)) (fun c69 => ?_) (fun c69 => ?_)
        · refine vi_const (dec_of DX0_chooseForm 41 rfl) ?_
          refine cp_14 fX0_31 (dec_of DX0_chooseForm 42 rfl) (by omega) ?_
          refine v_aload_n (dec_of DX0_chooseForm 43 rfl) rfl ?_
          refine v_get fX0_31 (dec_of DX0_chooseForm 44 rfl) rfl rfl ?_
          try simp (disch := decide) only [uN_s, uN_n]
          refine vi_if_eq (tgt := 103) (dec_of DX0_chooseForm 45 rfl) (by decide) (by first | omega | exact hI _ | exact r32c (cc_r _ _ _) | (have h15 := hI 15; have h16 := hI 16; omega) | (have := cc_r (I 17) (I 18) 3; omega) | (have := cc_r (I 17) (I 18) 3; simp [uN]; omega) | (have h15 := hI 15; have h16 := hI 16; have := cc_r (I 17) (I 18) 0; simp [uN]; omega)) (fun c84 => ?_) (fun c84 => absurd c84 (by first | decide | simp [uN]))
          exact vi_vret (dec_of DX0_chooseForm 55 rfl) rfl ⟨by decide, by decide⟩ (⟨by first | rfl | (rw [opn, if_pos (by assumption)]; rfl) | (rw [opn, if_neg (by assumption)]; rfl), rfl⟩)
        · exact absurd (show shr I from by unfold shr frs opn; omega) hs
    · refine v_aload_n (dec_of DX0_chooseForm 18 rfl) rfl ?_
      refine v_get fX0_35 (dec_of DX0_chooseForm 19 rfl) rfl rfl ?_
      try simp (disch := decide) only [uN_s, uN_n]
      refine vi_bi (dec_of DX0_chooseForm 20 rfl) (by decide) ?_
      refine vi_icmp_ne (tgt := 47) (dec_of DX0_chooseForm 21 rfl) (by decide) (by first | omega | exact hI _ | exact r32c (cc_r _ _ _) | (have h15 := hI 15; have h16 := hI 16; omega) | (have := cc_r (I 17) (I 18) 3; omega) | (have := cc_r (I 17) (I 18) 3; simp [uN]; omega) | (have h15 := hI 15; have h16 := hI 16; have := cc_r (I 17) (I 18) 0; simp [uN]; omega)) (by first | omega | exact hI _ | exact r32c (cc_r _ _ _) | (have h15 := hI 15; have h16 := hI 16; omega) | (have := cc_r (I 17) (I 18) 3; omega) | (have := cc_r (I 17) (I 18) 3; simp [uN]; omega) | (have h15 := hI 15; have h16 := hI 16; have := cc_r (I 17) (I 18) 0; simp [uN]; omega)) (fun c40 => ?_) (fun c40 => ?_)
      · refine vi_const (dec_of DX0_chooseForm 24 rfl) ?_
        refine v_istore_n (dec_of DX0_chooseForm 25 rfl) (by decide) ?_
        dsimp only [List.set]
        refine v_aload_n (dec_of DX0_chooseForm 26 rfl) rfl ?_
        refine v_iload_n (dec_of DX0_chooseForm 27 rfl) rfl ?_
        refine vi_if_ne (tgt := 72) (dec_of DX0_chooseForm 28 rfl) (by decide) (by first | omega | exact hI _ | exact r32c (cc_r _ _ _) | (have h15 := hI 15; have h16 := hI 16; omega) | (have := cc_r (I 17) (I 18) 3; omega) | (have := cc_r (I 17) (I 18) 3; simp [uN]; omega) | (have h15 := hI 15; have h16 := hI 16; have := cc_r (I 17) (I 18) 0; simp [uN]; omega)) (fun c51 => ?_) (fun c51 => ?_)
        · exact absurd (show shr I from by unfold shr frs opn; omega) hs
        · refine v_aload_n (dec_of DX0_chooseForm 29 rfl) rfl ?_
          refine v_V0r (k_firstPlaced hF ((hI.up (by omega)).up (by first | omega | exact r32c (cc_r _ _ _))) (by unfold NR; exact hN)) lX0_81 (dec_of DX0_chooseForm 30 rfl) rfl rfl (by decide) (nle rfl) rfl ?_
          try simp (disch := decide) only [uN_s, uN_n]
          refine v_aload_n (dec_of DX0_chooseForm 31 rfl) rfl ?_
          refine v_get fX0_75 (dec_of DX0_chooseForm 32 rfl) rfl rfl ?_
          try simp (disch := decide) only [uN_s, uN_n]
          refine v_aload_n (dec_of DX0_chooseForm 33 rfl) rfl ?_
          refine v_get fX0_78 (dec_of DX0_chooseForm 34 rfl) rfl rfl ?_
          try simp (disch := decide) only [uN_s, uN_n]
          refine vi_add (dec_of DX0_chooseForm 35 rfl) ?_
          refine vi_const (dec_of DX0_chooseForm 36 rfl) ?_
          refine vi_add (dec_of DX0_chooseForm 37 rfl) ?_
          refine vi_icmp_ge (tgt := 76) (dec_of DX0_chooseForm 38 rfl) (by decide) (by first | omega | exact hI _ | exact r32c (cc_r _ _ _) | (have h15 := hI 15; have h16 := hI 16; omega) | (have := cc_r (I 17) (I 18) 3; omega) | (have := cc_r (I 17) (I 18) 3; simp [uN]; omega) | (have h15 := hI 15; have h16 := hI 16; have := cc_r (I 17) (I 18) 0; simp [uN]; omega)) (by first | omega | exact hI _ | exact r32c (cc_r _ _ _) | (have h15 := hI 15; have h16 := hI 16; omega) | (have := cc_r (I 17) (I 18) 3; omega) | (have := cc_r (I 17) (I 18) 3; simp [uN]; omega) | (have h15 := hI 15; have h16 := hI 16; have := cc_r (I 17) (I 18) 0; simp [uN]; omega)) (fun c69 => ?_) (fun c69 => ?_)
          · refine vi_const (dec_of DX0_chooseForm 41 rfl) ?_
            refine cp_14 fX0_31 (dec_of DX0_chooseForm 42 rfl) (by omega) ?_
            refine v_aload_n (dec_of DX0_chooseForm 43 rfl) rfl ?_
            refine v_get fX0_31 (dec_of DX0_chooseForm 44 rfl) rfl rfl ?_
            try simp (disch := decide) only [uN_s, uN_n]
            refine vi_if_eq (tgt := 103) (dec_of DX0_chooseForm 45 rfl) (by decide) (by first | omega | exact hI _ | exact r32c (cc_r _ _ _) | (have h15 := hI 15; have h16 := hI 16; omega) | (have := cc_r (I 17) (I 18) 3; omega) | (have := cc_r (I 17) (I 18) 3; simp [uN]; omega) | (have h15 := hI 15; have h16 := hI 16; have := cc_r (I 17) (I 18) 0; simp [uN]; omega)) (fun c84 => ?_) (fun c84 => absurd c84 (by first | decide | simp [uN]))
            exact vi_vret (dec_of DX0_chooseForm 55 rfl) rfl ⟨by decide, by decide⟩ (⟨by first | rfl | (rw [opn, if_pos (by assumption)]; rfl) | (rw [opn, if_neg (by assumption)]; rfl), rfl⟩)
          · exact absurd (show shr I from by unfold shr frs opn; omega) hs
      · refine vi_const (dec_of DX0_chooseForm 22 rfl) ?_
        refine v_goto (tgt := 48) (dec_of DX0_chooseForm 23 rfl) (by decide) ?_
        refine v_istore_n (dec_of DX0_chooseForm 25 rfl) (by decide) ?_
        dsimp only [List.set]
        refine v_aload_n (dec_of DX0_chooseForm 26 rfl) rfl ?_
        refine v_iload_n (dec_of DX0_chooseForm 27 rfl) rfl ?_
        refine vi_if_ne (tgt := 72) (dec_of DX0_chooseForm 28 rfl) (by decide) (by first | omega | exact hI _ | exact r32c (cc_r _ _ _) | (have h15 := hI 15; have h16 := hI 16; omega) | (have := cc_r (I 17) (I 18) 3; omega) | (have := cc_r (I 17) (I 18) 3; simp [uN]; omega) | (have h15 := hI 15; have h16 := hI 16; have := cc_r (I 17) (I 18) 0; simp [uN]; omega)) (fun c51 => ?_) (fun c51 => ?_)
        · exact absurd (show shr I from by unfold shr frs opn; omega) hs
        · refine v_aload_n (dec_of DX0_chooseForm 29 rfl) rfl ?_
          refine v_V0r (k_firstPlaced hF ((hI.up (by omega)).up (by first | omega | exact r32c (cc_r _ _ _))) (by unfold NR; exact hN)) lX0_81 (dec_of DX0_chooseForm 30 rfl) rfl rfl (by decide) (nle rfl) rfl ?_
          try simp (disch := decide) only [uN_s, uN_n]
          refine v_aload_n (dec_of DX0_chooseForm 31 rfl) rfl ?_
          refine v_get fX0_75 (dec_of DX0_chooseForm 32 rfl) rfl rfl ?_
          try simp (disch := decide) only [uN_s, uN_n]
          refine v_aload_n (dec_of DX0_chooseForm 33 rfl) rfl ?_
          refine v_get fX0_78 (dec_of DX0_chooseForm 34 rfl) rfl rfl ?_
          try simp (disch := decide) only [uN_s, uN_n]
          refine vi_add (dec_of DX0_chooseForm 35 rfl) ?_
          refine vi_const (dec_of DX0_chooseForm 36 rfl) ?_
          refine vi_add (dec_of DX0_chooseForm 37 rfl) ?_
          refine vi_icmp_ge (tgt := 76) (dec_of DX0_chooseForm 38 rfl) (by decide) (by first | omega | exact hI _ | exact r32c (cc_r _ _ _) | (have h15 := hI 15; have h16 := hI 16; omega) | (have := cc_r (I 17) (I 18) 3; omega) | (have := cc_r (I 17) (I 18) 3; simp [uN]; omega) | (have h15 := hI 15; have h16 := hI 16; have := cc_r (I 17) (I 18) 0; simp [uN]; omega)) (by first | omega | exact hI _ | exact r32c (cc_r _ _ _) | (have h15 := hI 15; have h16 := hI 16; omega) | (have := cc_r (I 17) (I 18) 3; omega) | (have := cc_r (I 17) (I 18) 3; simp [uN]; omega) | (have h15 := hI 15; have h16 := hI 16; have := cc_r (I 17) (I 18) 0; simp [uN]; omega)) (fun c69 => ?_) (fun c69 => ?_)
          · refine vi_const (dec_of DX0_chooseForm 41 rfl) ?_
            refine cp_14 fX0_31 (dec_of DX0_chooseForm 42 rfl) (by omega) ?_
            refine v_aload_n (dec_of DX0_chooseForm 43 rfl) rfl ?_
            refine v_get fX0_31 (dec_of DX0_chooseForm 44 rfl) rfl rfl ?_
            try simp (disch := decide) only [uN_s, uN_n]
            refine vi_if_eq (tgt := 103) (dec_of DX0_chooseForm 45 rfl) (by decide) (by first | omega | exact hI _ | exact r32c (cc_r _ _ _) | (have h15 := hI 15; have h16 := hI 16; omega) | (have := cc_r (I 17) (I 18) 3; omega) | (have := cc_r (I 17) (I 18) 3; simp [uN]; omega) | (have h15 := hI 15; have h16 := hI 16; have := cc_r (I 17) (I 18) 0; simp [uN]; omega)) (fun c84 => ?_) (fun c84 => absurd c84 (by first | decide | simp [uN]))
            exact vi_vret (dec_of DX0_chooseForm 55 rfl) rfl ⟨by decide, by decide⟩ (⟨by first | rfl | (rw [opn, if_pos (by assumption)]; rfl) | (rw [opn, if_neg (by assumption)]; rfl), rfl⟩)
          · exact absurd (show shr I from by unfold shr frs opn; omega) hs
/-- what a syllable of the half is sung by, its last step apart -/
def stp (I : Nat → Int) (s : Int) : Int := if s = I 16 then cc (I 17) (I 18) 6 else if I 16 < s then cc (I 17) (I 18) 7 else if s = frs I then cc (I 17) (I 18) 4 else if frs I < s then cc (I 17) (I 18) 5 else if frs I - I 20 ≤ s then cc (I 17) (I 18) (1 + (s - (frs I - I 20))) else if s < I 19 then cel ((I 17 - 1) * 20 + s) else 0
theorem stp_r (I : Nat → Int) (s : Int) : -4 ≤ stp I s ∧ stp I s ≤ 2 := by
  unfold stp
  split
  · exact cc_r _ _ _
  split
  · exact cc_r _ _ _
  split
  · exact cc_r _ _ _
  split
  · exact cc_r _ _ _
  split
  · exact cc_r _ _ _
  split
  · exact cel_r _
  · decide
set_option maxRecDepth 100000 in
set_option maxHeartbeats 4000000 in
theorem k_stepOf {T : XW} {I N : Nat → Int} {F : Nat → Int → Int} (hF : FR F) (hI : IR I) (hN : NR N) (hT : 1 ≤ I 17 ∧ I 17 ≤ 8) (hH : 0 ≤ I 18 ∧ I 18 ≤ 1) {s : Int} (hs : 0 ≤ s ∧ s ≤ 100) (h20 : 0 ≤ I 20 ∧ I 20 ≤ 2) (h19 : 0 ≤ I 19 ∧ I 19 ≤ 2) (hf : -200 ≤ frs I ∧ frs I ≤ 200) (h16 : -200 ≤ I 16 ∧ I 16 ≤ 200) : Sd (rm 2 43 0 0) mX0_stepOf [.ref 28, J s] (cls I N F ++ T) (cls I N F ++ T) (some (J (stp I s))) := by
  unfold Sd
  unfold NR at hN
  refine sp_of (ls := [some (.ref 28), some (J s), none, none]) (by decide) (nle rfl) rfl rfl ?_
  refine v_iload_n (dec_of DX0_stepOf 0 rfl) rfl ?_
  refine v_aload_n (dec_of DX0_stepOf 1 rfl) rfl ?_
  refine v_get fX0_38 (dec_of DX0_stepOf 2 rfl) rfl rfl ?_
  refine vi_icmp_ne (tgt := 15) (dec_of DX0_stepOf 3 rfl) (by decide) (by first | omega | exact bnd_r _ _ | exact hF _ _ | exact hI _ | exact hG _ _ | exact hK _ | (simp [uN] <;> omega)) (by first | omega | exact bnd_r _ _ | exact hF _ _ | exact hI _ | exact hG _ _ | exact hK _ | (simp [uN] <;> omega)) (fun c5 => ?_) (fun c5 => ?_)
  · refine v_iload_n (dec_of DX0_stepOf 8 rfl) rfl ?_
    refine v_aload_n (dec_of DX0_stepOf 9 rfl) rfl ?_
    refine v_get fX0_38 (dec_of DX0_stepOf 10 rfl) rfl rfl ?_
    refine vi_icmp_le (tgt := 30) (dec_of DX0_stepOf 11 rfl) (by decide) (by first | omega | exact bnd_r _ _ | exact hF _ _ | exact hI _ | exact hG _ _ | exact hK _ | (simp [uN] <;> omega)) (by first | omega | exact bnd_r _ _ | exact hF _ _ | exact hI _ | exact hG _ _ | exact hK _ | (simp [uN] <;> omega)) (fun c20 => ?_) (fun c20 => ?_)
    · refine v_aload_n (dec_of DX0_stepOf 16 rfl) rfl ?_
      refine v_V0r (k_firstPlaced hF hI (by unfold NR; exact hN)) lX0_81 (dec_of DX0_stepOf 17 rfl) rfl rfl (by decide) (nle rfl) rfl ?_
      change Vd _ _ _ _ _ _ _ _ _ (J (frs I) :: _) _
      refine v_istore_n (dec_of DX0_stepOf 18 rfl) (by decide) ?_
      dsimp only [List.set]
      refine v_iload_n (dec_of DX0_stepOf 19 rfl) rfl ?_
      refine v_iload_n (dec_of DX0_stepOf 20 rfl) rfl ?_
      refine vi_icmp_ne (tgt := 46) (dec_of DX0_stepOf 21 rfl) (by decide) (by first | omega | exact bnd_r _ _ | exact hF _ _ | exact hI _ | exact hG _ _ | exact hK _ | (simp [uN] <;> omega)) (by first | omega | exact bnd_r _ _ | exact hF _ _ | exact hI _ | exact hG _ _ | exact hK _ | (simp [uN] <;> omega)) (fun c37 => ?_) (fun c37 => ?_)
      · refine v_iload_n (dec_of DX0_stepOf 26 rfl) rfl ?_
        refine v_iload_n (dec_of DX0_stepOf 27 rfl) rfl ?_
        refine vi_icmp_le (tgt := 57) (dec_of DX0_stepOf 28 rfl) (by decide) (by first | omega | exact bnd_r _ _ | exact hF _ _ | exact hI _ | exact hG _ _ | exact hK _ | (simp [uN] <;> omega)) (by first | omega | exact bnd_r _ _ | exact hF _ _ | exact hI _ | exact hG _ _ | exact hK _ | (simp [uN] <;> omega)) (fun c48 => ?_) (fun c48 => ?_)
        · refine v_iload_n (dec_of DX0_stepOf 33 rfl) rfl ?_
          refine v_iload_n (dec_of DX0_stepOf 34 rfl) rfl ?_
          refine v_aload_n (dec_of DX0_stepOf 35 rfl) rfl ?_
          refine v_get fX0_78 (dec_of DX0_stepOf 36 rfl) rfl rfl ?_
          refine vi_sub (dec_of DX0_stepOf 37 rfl) ?_
          refine vi_sub (dec_of DX0_stepOf 38 rfl) ?_
          refine v_istore_n (dec_of DX0_stepOf 39 rfl) (by decide) ?_
          dsimp only [List.set]
          refine v_iload_n (dec_of DX0_stepOf 40 rfl) rfl ?_
          refine vi_if_lt (tgt := 78) (dec_of DX0_stepOf 41 rfl) (by decide) (by first | omega | exact bnd_r _ _ | exact hF _ _ | exact hI _ | exact hG _ _ | exact hK _ | (simp [uN] <;> omega)) (fun c67 => ?_) (fun c67 => ?_)
          · refine v_iload_n (dec_of DX0_stepOf 48 rfl) rfl ?_
            refine v_aload_n (dec_of DX0_stepOf 49 rfl) rfl ?_
            refine v_get fX0_75 (dec_of DX0_stepOf 50 rfl) rfl rfl ?_
            refine vi_icmp_ge (tgt := 97) (dec_of DX0_stepOf 51 rfl) (by decide) (by first | omega | exact bnd_r _ _ | exact hF _ _ | exact hI _ | exact hG _ _ | exact hK _ | (simp [uN] <;> omega)) (by first | omega | exact bnd_r _ _ | exact hF _ _ | exact hI _ | exact hG _ _ | exact hK _ | (simp [uN] <;> omega)) (fun c83 => ?_) (fun c83 => ?_)
            · rw [stp, if_neg c5, if_neg (by omega), if_neg c37, if_neg (by omega), if_neg (by omega), if_neg (by omega)]
              refine vi_const (dec_of DX0_stepOf 57 rfl) ?_
              exact vi_ret (dec_of DX0_stepOf 58 rfl) rfl ⟨by decide, by decide⟩ (⟨rfl, rfl⟩)
            · refine v_aload_n (dec_of DX0_stepOf 52 rfl) rfl ?_
              refine v_get fX0_20 (dec_of DX0_stepOf 53 rfl) rfl rfl ?_
              refine v_iload_n (dec_of DX0_stepOf 54 rfl) rfl ?_
              rw [stp, if_neg c5, if_neg (by omega), if_neg c37, if_neg (by omega), if_neg (by omega), if_pos c83]
              refine v_S2r (k_cell (by omega) (by omega)) lX0_90 (dec_of DX0_stepOf 55 rfl) (by decide) (nle rfl) rfl ?_
              refine v_goto (tgt := 98) (dec_of DX0_stepOf 56 rfl) (by decide) ?_
              exact vi_ret (dec_of DX0_stepOf 58 rfl) rfl ⟨by decide, by decide⟩ (⟨rfl, rfl⟩)
          · refine v_aload_n (dec_of DX0_stepOf 42 rfl) rfl ?_
            refine vi_const (dec_of DX0_stepOf 43 rfl) ?_
            refine v_iload_n (dec_of DX0_stepOf 44 rfl) rfl ?_
            refine vi_add (dec_of DX0_stepOf 45 rfl) ?_
            rw [stp, if_neg c5, if_neg (by omega), if_neg c37, if_neg (by omega), if_pos (by omega)]
            refine v_V1r (k_cc hF hI (by unfold NR; exact hN) hT hH (by omega)) lX0_68 (dec_of DX0_stepOf 46 rfl) rfl rfl (by decide) (nle rfl) rfl ?_
            exact vi_ret (dec_of DX0_stepOf 47 rfl) rfl ⟨by decide, by decide⟩ (⟨rfl, rfl⟩)
        · refine v_aload_n (dec_of DX0_stepOf 29 rfl) rfl ?_
          refine vi_const (dec_of DX0_stepOf 30 rfl) ?_
          rw [stp, if_neg c5, if_neg (by omega), if_neg c37, if_pos c48]
          refine v_V1r (k_cc hF hI (by unfold NR; exact hN) hT hH (by omega)) lX0_68 (dec_of DX0_stepOf 31 rfl) rfl rfl (by decide) (nle rfl) rfl ?_
          exact vi_ret (dec_of DX0_stepOf 32 rfl) rfl ⟨by decide, by decide⟩ (⟨rfl, rfl⟩)
      · refine v_aload_n (dec_of DX0_stepOf 22 rfl) rfl ?_
        refine vi_const (dec_of DX0_stepOf 23 rfl) ?_
        rw [stp, if_neg c5, if_neg (by omega), if_pos c37]
        refine v_V1r (k_cc hF hI (by unfold NR; exact hN) hT hH (by omega)) lX0_68 (dec_of DX0_stepOf 24 rfl) rfl rfl (by decide) (nle rfl) rfl ?_
        exact vi_ret (dec_of DX0_stepOf 25 rfl) rfl ⟨by decide, by decide⟩ (⟨rfl, rfl⟩)
    · refine v_aload_n (dec_of DX0_stepOf 12 rfl) rfl ?_
      refine vi_bi (dec_of DX0_stepOf 13 rfl) (by decide) ?_
      rw [stp, if_neg c5, if_pos c20]
      refine v_V1r (k_cc hF hI (by unfold NR; exact hN) hT hH (by omega)) lX0_68 (dec_of DX0_stepOf 14 rfl) rfl rfl (by decide) (nle rfl) rfl ?_
      exact vi_ret (dec_of DX0_stepOf 15 rfl) rfl ⟨by decide, by decide⟩ (⟨rfl, rfl⟩)
  · refine v_aload_n (dec_of DX0_stepOf 4 rfl) rfl ?_
    refine vi_bi (dec_of DX0_stepOf 5 rfl) (by decide) ?_
    rw [stp, if_pos c5]
    refine v_V1r (k_cc hF hI (by unfold NR; exact hN) hT hH (by omega)) lX0_68 (dec_of DX0_stepOf 6 rfl) rfl rfl (by decide) (nle rfl) rfl ?_
    exact vi_ret (dec_of DX0_stepOf 7 rfl) rfl ⟨by decide, by decide⟩ (⟨rfl, rfl⟩)
def adS (N : Nat → Int) (F : Nat → Int → Int) (s v : Int) : Nat → Int → Int := uN F 12 (uI (adf (F 12) 2 (N 12) s) (N 12 * 2 + 1) v)
theorem adS_r {N : Nat → Int} {F : Nat → Int → Int} (hF : FR F) {s v : Int} (hs : -2147483648 ≤ s ∧ s < 2147483648) (hv : -2147483648 ≤ v ∧ v < 2147483648) : FR (adS N F s v) := hF.up (uI_r (adf_r (hF 12) hs) hv)
set_option maxRecDepth 100000 in
set_option maxHeartbeats 4000000 in
theorem k_sing_mid {T : XW} {I N : Nat → Int} {F : Nat → Int → Int} (hF : FR F) (hI : IR I) (hN : NR N) (hT : 1 ≤ I 17 ∧ I 17 ≤ 8) (hH : 0 ≤ I 18 ∧ I 18 ≤ 1) {b : Int} (hb : b = 0) {s : Int} (hs : 0 ≤ s ∧ s ≤ 100) (h20 : 0 ≤ I 20 ∧ I 20 ≤ 2) (h19 : 0 ≤ I 19 ∧ I 19 ≤ 2) (hf : -200 ≤ frs I ∧ frs I ≤ 200) (h16 : -200 ≤ I 16 ∧ I 16 ≤ 200) (h12 : N 12 < 40) : Sd (rm 3 66 0 0) mX0_singSyllable [.ref 28, J s, J b] (cls I N F ++ T) (cls I (uN N 12 (N 12 + 1)) (adS N F s (stp I s)) ++ T) (none) := by
  unfold Sd
  unfold NR at hN
  refine sp_of (ls := [some (.ref 28), some (J s), some (J b)]) (by decide) (nle rfl) rfl rfl ?_
  refine v_iload_n (dec_of DX0_singSyllable 0 rfl) rfl ?_
  refine vi_if_eq (tgt := 12) (dec_of DX0_singSyllable 1 rfl) (by decide) (by first | omega | exact bnd_r _ _ | exact hF _ _ | exact hI _ | exact hG _ _ | exact hK _ | (simp [uN] <;> omega)) (fun c1 => ?_) (fun c1 => absurd c1 (by omega))
  refine v_aload_n (dec_of DX0_singSyllable 6 rfl) rfl ?_
  refine v_iload_n (dec_of DX0_singSyllable 7 rfl) rfl ?_
  refine v_aload_n (dec_of DX0_singSyllable 8 rfl) rfl ?_
  refine v_iload_n (dec_of DX0_singSyllable 9 rfl) rfl ?_
  refine v_V1r (k_stepOf hF hI (by unfold NR; exact hN) hT hH hs h20 h19 hf h16) lX0_84 (dec_of DX0_singSyllable 10 rfl) rfl rfl (by decide) (nle rfl) rfl ?_
  refine v_V2v (k_addStep hF hI (by unfold NR; exact hN) (by omega)) lX0_87 (dec_of DX0_singSyllable 11 rfl) rfl rfl (by decide) (nle rfl) rfl ?_
  refine v_iload_n (dec_of DX0_singSyllable 12 rfl) rfl ?_
  refine vi_if_eq (tgt := 37) (dec_of DX0_singSyllable 13 rfl) (by decide) (by first | omega | exact bnd_r _ _ | exact hF _ _ | exact hI _ | exact hG _ _ | exact hK _ | (simp [uN] <;> omega)) (fun c23 => ?_) (fun c23 => absurd c23 (by omega))
  exact vi_vret (dec_of DX0_singSyllable 20 rfl) rfl ⟨by decide, by decide⟩ (⟨rfl, rfl⟩)
set_option maxRecDepth 100000 in
set_option maxHeartbeats 4000000 in
theorem k_sing_one {T : XW} {I N : Nat → Int} {F : Nat → Int → Int} (hF : FR F) (hI : IR I) (hN : NR N) (hT : 1 ≤ I 17 ∧ I 17 ≤ 8) (hH : 0 ≤ I 18 ∧ I 18 ≤ 1) {b : Int} (hb : b = 1) {s : Int} (hs : 0 ≤ s ∧ s ≤ 100) (h20 : 0 ≤ I 20 ∧ I 20 ≤ 2) (h19 : 0 ≤ I 19 ∧ I 19 ≤ 2) (hf : -200 ≤ frs I ∧ frs I ≤ 200) (h16 : -200 ≤ I 16 ∧ I 16 ≤ 200) (h12 : N 12 < 40) (hl : ¬ s = I 16) : Sd (rm 3 66 0 0) mX0_singSyllable [.ref 28, J s, J b] (cls I N F ++ T) (cls I (uN N 12 (N 12 + 1)) (adS N F s (cc (I 17) (I 18) 8)) ++ T) (none) := by
  unfold Sd
  unfold NR at hN
  refine sp_of (ls := [some (.ref 28), some (J s), some (J b)]) (by decide) (nle rfl) rfl rfl ?_
  refine v_iload_n (dec_of DX0_singSyllable 0 rfl) rfl ?_
  refine vi_if_eq (tgt := 12) (dec_of DX0_singSyllable 1 rfl) (by decide) (by first | omega | exact bnd_r _ _ | exact hF _ _ | exact hI _ | exact hG _ _ | exact hK _ | (simp [uN] <;> omega)) (fun c1 => absurd c1 (by omega)) (fun c1 => ?_)
  refine v_iload_n (dec_of DX0_singSyllable 2 rfl) rfl ?_
  refine v_aload_n (dec_of DX0_singSyllable 3 rfl) rfl ?_
  refine v_get fX0_38 (dec_of DX0_singSyllable 4 rfl) rfl rfl ?_
  refine vi_icmp_ne (tgt := 22) (dec_of DX0_singSyllable 5 rfl) (by decide) (by first | omega | exact bnd_r _ _ | exact hF _ _ | exact hI _ | exact hG _ _ | exact hK _ | (simp [uN] <;> omega)) (by first | omega | exact bnd_r _ _ | exact hF _ _ | exact hI _ | exact hG _ _ | exact hK _ | (simp [uN] <;> omega)) (fun c9 => ?_) (fun c9 => absurd c9 (by omega))
  refine v_iload_n (dec_of DX0_singSyllable 12 rfl) rfl ?_
  refine vi_if_eq (tgt := 37) (dec_of DX0_singSyllable 13 rfl) (by decide) (by first | omega | exact bnd_r _ _ | exact hF _ _ | exact hI _ | exact hG _ _ | exact hK _ | (simp [uN] <;> omega)) (fun c23 => absurd c23 (by omega)) (fun c23 => ?_)
  refine v_aload_n (dec_of DX0_singSyllable 14 rfl) rfl ?_
  refine v_iload_n (dec_of DX0_singSyllable 15 rfl) rfl ?_
  refine v_aload_n (dec_of DX0_singSyllable 16 rfl) rfl ?_
  refine vi_bi (dec_of DX0_singSyllable 17 rfl) (by decide) ?_
  refine v_V1r (k_cc hF hI (by unfold NR; exact hN) hT hH (by omega)) lX0_68 (dec_of DX0_singSyllable 18 rfl) rfl rfl (by decide) (nle rfl) rfl ?_
  refine v_V2v (k_addStep hF hI (by unfold NR; exact hN) (by omega)) lX0_87 (dec_of DX0_singSyllable 19 rfl) rfl rfl (by decide) (nle rfl) rfl ?_
  exact vi_vret (dec_of DX0_singSyllable 20 rfl) rfl ⟨by decide, by decide⟩ (⟨rfl, rfl⟩)
set_option maxRecDepth 100000 in
set_option maxHeartbeats 4000000 in
theorem k_sing_two {T : XW} {I N : Nat → Int} {F : Nat → Int → Int} (hF : FR F) (hI : IR I) (hN : NR N) (hT : 1 ≤ I 17 ∧ I 17 ≤ 8) (hH : 0 ≤ I 18 ∧ I 18 ≤ 1) {b : Int} (hb : b = 1) {s : Int} (hs : 0 ≤ s ∧ s ≤ 100) (h20 : 0 ≤ I 20 ∧ I 20 ≤ 2) (h19 : 0 ≤ I 19 ∧ I 19 ≤ 2) (hf : -200 ≤ frs I ∧ frs I ≤ 200) (h16 : -200 ≤ I 16 ∧ I 16 ≤ 200) (h12 : N 12 < 40) (hl : s = I 16) : Sd (rm 3 66 0 0) mX0_singSyllable [.ref 28, J s, J b] (cls I N F ++ T) (cls I (uN (uN N 12 (N 12 + 1)) 12 (N 12 + 1 + 1)) (adS (uN N 12 (N 12 + 1)) (adS N F s (stp I s)) s (cc (I 17) (I 18) 8)) ++ T) (none) := by
  unfold Sd
  unfold NR at hN
  refine sp_of (ls := [some (.ref 28), some (J s), some (J b)]) (by decide) (nle rfl) rfl rfl ?_
  refine v_iload_n (dec_of DX0_singSyllable 0 rfl) rfl ?_
  refine vi_if_eq (tgt := 12) (dec_of DX0_singSyllable 1 rfl) (by decide) (by first | omega | exact bnd_r _ _ | exact hF _ _ | exact hI _ | exact hG _ _ | exact hK _ | (simp [uN] <;> omega)) (fun c1 => absurd c1 (by omega)) (fun c1 => ?_)
  refine v_iload_n (dec_of DX0_singSyllable 2 rfl) rfl ?_
  refine v_aload_n (dec_of DX0_singSyllable 3 rfl) rfl ?_
  refine v_get fX0_38 (dec_of DX0_singSyllable 4 rfl) rfl rfl ?_
  refine vi_icmp_ne (tgt := 22) (dec_of DX0_singSyllable 5 rfl) (by decide) (by first | omega | exact bnd_r _ _ | exact hF _ _ | exact hI _ | exact hG _ _ | exact hK _ | (simp [uN] <;> omega)) (by first | omega | exact bnd_r _ _ | exact hF _ _ | exact hI _ | exact hG _ _ | exact hK _ | (simp [uN] <;> omega)) (fun c9 => absurd c9 (by omega)) (fun c9 => ?_)
  refine v_aload_n (dec_of DX0_singSyllable 6 rfl) rfl ?_
  refine v_iload_n (dec_of DX0_singSyllable 7 rfl) rfl ?_
  refine v_aload_n (dec_of DX0_singSyllable 8 rfl) rfl ?_
  refine v_iload_n (dec_of DX0_singSyllable 9 rfl) rfl ?_
  refine v_V1r (k_stepOf hF hI (by unfold NR; exact hN) hT hH hs h20 h19 hf h16) lX0_84 (dec_of DX0_singSyllable 10 rfl) rfl rfl (by decide) (nle rfl) rfl ?_
  refine v_V2v (k_addStep hF hI (by unfold NR; exact hN) (by omega)) lX0_87 (dec_of DX0_singSyllable 11 rfl) rfl rfl (by decide) (nle rfl) rfl ?_
  refine v_iload_n (dec_of DX0_singSyllable 12 rfl) rfl ?_
  refine vi_if_eq (tgt := 37) (dec_of DX0_singSyllable 13 rfl) (by decide) (by first | omega | exact bnd_r _ _ | exact hF _ _ | exact hI _ | exact hG _ _ | exact hK _ | (simp [uN] <;> omega)) (fun c23 => absurd c23 (by omega)) (fun c23 => ?_)
  refine v_aload_n (dec_of DX0_singSyllable 14 rfl) rfl ?_
  refine v_iload_n (dec_of DX0_singSyllable 15 rfl) rfl ?_
  refine v_aload_n (dec_of DX0_singSyllable 16 rfl) rfl ?_
  refine vi_bi (dec_of DX0_singSyllable 17 rfl) (by decide) ?_
  refine v_V1r (k_cc (adS_r hF (by omega) (by have := stp_r I s; omega)) hI (by unfold NR; simp [uN]; omega) hT hH (by omega)) lX0_68 (dec_of DX0_singSyllable 18 rfl) rfl rfl (by decide) (nle rfl) rfl ?_
  refine v_V2v (k_addStep (adS_r hF (by omega) (by have := stp_r I s; omega)) hI (by unfold NR; simp [uN]; omega) (by simp [uN]; omega)) lX0_87 (dec_of DX0_singSyllable 19 rfl) rfl rfl (by decide) (nle rfl) rfl ?_
  exact vi_vret (dec_of DX0_singSyllable 20 rfl) rfl ⟨by decide, by decide⟩ (⟨rfl, rfl⟩)
