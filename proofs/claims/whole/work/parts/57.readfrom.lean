/-! readFrom and read of the class (printed by wip/tools/gen_c16.py) -/
theorem adv_step {K : Nat → Int} {G : Nat → Int → Int} (hd : ¬ mDone K) (h : (mstep K G).1 26 = 0) : K 29 + 1 ≤ (mstep K G).1 29 := by
  unfold mDone at hd
  have br : ∀ x : Int, K 29 + 1 ≤ K 29 + (if x = 4 then 2 else 1) := by intro x; split <;> omega
  unfold mstep at h ⊢
  rw [if_neg hd] at h ⊢
  have tl : ∀ {K1 : Nat → Int} (c : Int), K1 29 = K 29 → K 29 + 1 ≤ tlK c K1 29 := by
    intro K1 c e
    unfold tlK
    split
    · show K 29 + 1 ≤ K1 29 + 1; omega
    · show K 29 + 1 ≤ K1 29 + 1; omega
  split
  · rename_i h0
    rw [if_pos h0] at h
    unfold mOut at h ⊢
    split
    · exact Int.le_refl _
    split
    · split
      · split
        · rename_i c1 c2 c3 c4
          rw [if_neg c1, if_pos c2, if_pos c3, if_pos c4] at h
          first | exact absurd (show (1 : Int) = 0 from h) (by decide) | exact absurd (show (2 : Int) = 0 from h) (by decide) | exact absurd (show (3 : Int) = 0 from h) (by decide)
        · exact tl _ rfl
      · exact tl _ rfl
    · rename_i c1 c2
      rw [if_neg c1, if_neg c2] at h
      first | exact absurd (show (1 : Int) = 0 from h) (by decide) | exact absurd (show (2 : Int) = 0 from h) (by decide) | exact absurd (show (3 : Int) = 0 from h) (by decide)
  · rename_i h0
    rw [if_neg h0] at h
    unfold mIn at h ⊢
    split
    · split
      · exact Int.le_refl _
      · rename_i c1 c2
        rw [if_pos c1, if_neg c2] at h
        first | exact absurd (show (1 : Int) = 0 from h) (by decide) | exact absurd (show (2 : Int) = 0 from h) (by decide) | exact absurd (show (3 : Int) = 0 from h) (by decide)
    split
    · exact Int.le_refl _
    split
    · rename_i c1 c2 c3
      rw [if_neg c1, if_neg c2, if_pos c3] at h
      unfold mHt at h ⊢
      split
      · rename_i d1
        rw [if_pos d1] at h
        split
        · rename_i d2
          rw [if_pos d2] at h
          first | exact absurd (show (1 : Int) = 0 from h) (by decide) | exact absurd (show (2 : Int) = 0 from h) (by decide) | exact absurd (show (3 : Int) = 0 from h) (by decide)
        · show K 29 + 1 ≤ K 29 + 2; omega
      split
      · rename_i d1 d2
        rw [if_neg d1, if_pos d2] at h
        split
        · rename_i d3
          rw [if_pos d3] at h
          first | exact absurd (show (1 : Int) = 0 from h) (by decide) | exact absurd (show (2 : Int) = 0 from h) (by decide) | exact absurd (show (3 : Int) = 0 from h) (by decide)
        · show K 29 + 1 ≤ K 29 + 2; omega
      split
      · rename_i d1 d2 d3
        rw [if_neg d1, if_neg d2, if_pos d3] at h
        split
        · rename_i d4
          rw [if_pos d4] at h
          first | exact absurd (show (1 : Int) = 0 from h) (by decide) | exact absurd (show (2 : Int) = 0 from h) (by decide) | exact absurd (show (3 : Int) = 0 from h) (by decide)
        · show K 29 + 1 ≤ K 29 + 2; omega
      split
      · rename_i d1 d2 d3 d4
        rw [if_neg d1, if_neg d2, if_neg d3, if_pos d4] at h
        first | exact absurd (show (1 : Int) = 0 from h) (by decide) | exact absurd (show (2 : Int) = 0 from h) (by decide) | exact absurd (show (3 : Int) = 0 from h) (by decide)
      · exact Int.le_refl _
    split
    · exact Int.le_refl _
    split
    · split
      · rename_i c1 c2 c3 c4 c5 c6
        rw [if_neg c1, if_neg c2, if_neg c3, if_neg c4, if_pos c5, if_pos c6] at h
        first | exact absurd (show (1 : Int) = 0 from h) (by decide) | exact absurd (show (2 : Int) = 0 from h) (by decide) | exact absurd (show (3 : Int) = 0 from h) (by decide)
      · exact br _
    split
    · split
      · rename_i c1 c2 c3 c4 c5 c6 c7
        rw [if_neg c1, if_neg c2, if_neg c3, if_neg c4, if_neg c5, if_pos c6, if_pos c7] at h
        first | exact absurd (show (1 : Int) = 0 from h) (by decide) | exact absurd (show (2 : Int) = 0 from h) (by decide) | exact absurd (show (3 : Int) = 0 from h) (by decide)
      · exact Int.le_refl _
    · rename_i c1 c2 c3 c4 c5 c6
      rw [if_neg c1, if_neg c2, if_neg c3, if_neg c4, if_neg c5, if_neg c6] at h
      first | exact absurd (show (1 : Int) = 0 from h) (by decide) | exact absurd (show (2 : Int) = 0 from h) (by decide) | exact absurd (show (3 : Int) = 0 from h) (by decide)
/-- a reading under way: the byte at p is next -/
def RdH (Ib Nb : Nat → Int) (Fb : Nat → Int → Int) (K0 : Nat → Int) (G0 : Nat → Int → Int) (p : Int) (I N : Nat → Int) (F : Nat → Int → Int) (K : Nat → Int) (G : Nat → Int → Int) : Prop :=
  Rch (K0, G0) (K, G) ∧ FR F ∧ IR I ∧ NR N ∧ Kpt Ib Nb Fb I N F ∧ (K 26 = 0 → Rl I N F K G ∧ p ≤ K 29 ∧ I 5 ≤ K 29 ∧ (K 29 = p ∨ K 29 = I 5)) ∧ (¬ K 26 = 0 → I 3 = K 26 ∧ I 4 = K 27)
theorem Kpt_tr {I N I1 N1 I2 N2 : Nat → Int} {F F1 F2 : Nat → Int → Int} (h1 : Kpt I N F I1 N1 F1) (h2 : Kpt I1 N1 F1 I2 N2 F2) : Kpt I N F I2 N2 F2 :=
  ⟨fun k q => (h2.1 k q).trans (h1.1 k q), fun k q => (h2.2.1 k q).trans (h1.2.1 k q), fun k q => (h2.2.2 k q).trans (h1.2.2 k q)⟩
theorem RdH_step {Ib Nb : Nat → Int} {Fb : Nat → Int → Int} {K0 : Nat → Int} {G0 : Nat → Int → Int} {p : Int} {I N I' N' : Nat → Int} {F F' : Nat → Int → Int} {K : Nat → Int} {G : Nat → Int → Int} (h : RdH Ib Nb Fb K0 G0 p I N F K G) (hd : ¬ mDone K) (ep : K 29 = p) (sp : SP (uN I 5 (p + 1)) N F K G I' N' F') : RdH Ib Nb Fb K0 G0 (p + 1) I' N' F' (mstep K G).1 (mstep K G).2 := by
  obtain ⟨h1, h2, h3, h4, h5, h6, h7⟩ := h
  obtain ⟨s1, s2, s3, s4, s5, s6⟩ := sp
  have k0 : Kpt I N F (uN I 5 (p + 1)) N F := ⟨kI_w (by decide) (fun _ _ => rfl), fun _ _ => rfl, fun _ _ => rfl⟩
  refine ⟨h1.trans (Rch.step rfl), s1, s2, s3, Kpt_tr h5 (Kpt_tr k0 s4), fun q => ?_, s6⟩
  have a := adv_step hd q
  obtain ⟨r1, r2⟩ := s5 q
  exact ⟨r1, by omega, by omega, Or.inr r2.symm⟩
/-- the end of a reading in the class -/
def RdZ (T : XW) (I N : Nat → Int) (F : Nat → Int → Int) (K0 : Nat → Int) (G0 : Nat → Int → Int) (w : XW) (r : Option Value) : Prop :=
  ∃ (K : Nat → Int) (G : Nat → Int → Int) (I1 N1 : Nat → Int) (F1 : Nat → Int → Int), Rch (K0, G0) (K, G) ∧ mDone K ∧ r = some (J (K 26)) ∧ FR F1 ∧ IR I1 ∧ NR N1 ∧ Kpt I N F I1 N1 F1 ∧
    ((K 26 = 0 ∧ Rl I1 N1 F1 K G ∧ K 60 = 0 ∧ ∃ (j : Nat) (g5 g4 : Int → Int), ShP N1 F1 (N1 4) j g5 g4 ∧ w = cls I1 (uN N1 5 j) (uN (uN F1 5 g5) 4 g4) ++ T) ∨
     (¬ K 26 = 0 ∧ I1 4 = K 27 ∧ w = cls (uN (uN I1 1 0) 2 0) (uN (uN (uN (uN (uN (uN (uN N1 2 0) 3 0) 4 0) 5 0) 6 0) 7 0) 8 0) F1 ++ T))
set_option maxRecDepth 100000 in
set_option maxHeartbeats 4000000 in
theorem k_placeOfFault {T : XW} {I N : Nat → Int} {F : Nat → Int → Int} : Sd (rm 0 0 0 0) mX2_placeOfFault [.ref 20] (cls I N F ++ T) (cls I N F ++ T) (some (J (I 4))) := by
  unfold Sd
  refine sp_of (ls := [some (.ref 20)]) (by decide) (nle rfl) rfl rfl ?_
  refine v_aload_n (dec_of DX2_placeOfFault 0 rfl) rfl ?_
  refine v_get fX2_26 (dec_of DX2_placeOfFault 1 rfl) rfl rfl ?_
  exact vi_ret (dec_of DX2_placeOfFault 2 rfl) rfl ⟨by decide, by decide⟩ (⟨rfl, rfl⟩)
set_option maxRecDepth 100000 in
set_option maxHeartbeats 4000000 in
theorem k_rd_end {T : XW} {Ib Nb : Nat → Int} {Fb : Nat → Int → Int} {K0 : Nat → Int} {G0 : Nat → Int → Int} {L : Int} (hV0 : Iv K0 G0) (hL : L = K0 28) {n0 : Nat} {Z : XW → Option Value → Prop} (hz : ∀ w r, RdZ T Ib Nb Fb K0 G0 w r → Z w r) {p : Int} {I N : Nat → Int} {F : Nat → Int → Int} {K : Nat → Int} {G : Nat → Int → Int} (h : RdH Ib Nb Fb K0 G0 p I N F K G) (he : ¬ K 26 = 0 ∨ L ≤ p) : Vd (rm 5 122 0 0) [] mX2_readFrom n0 Z 0 0 101 [some (.ref 20), some (.ref 1), some (J L), some (J p), none] [] (cls I N F ++ T) := by
  obtain ⟨h1, hF, hI, hN, hk, hr, hf⟩ := h
  have hV := Iv_rch h1 hV0
  have e28 := (keep_rch h1).1
  have p28 : 0 ≤ K 28 ∧ K 28 ≤ 1500 := hV.1.1.2.2.2.2.2.2.2.1
  have p26 : 0 ≤ K 26 ∧ K 26 ≤ 3 := hV.1.2.2.2.2.2.2.2.2.2.2.2.2.2.1
  have p60 : K 60 = 0 ∨ K 60 = 1 := hV.1.2.2.2.2.2.2.2.2.1
  have p29 := hV.1.2.2.2.2.2.1
  by_cases h26 : K 26 = 0
  · obtain ⟨hR, q1, q2, q3⟩ := hr h26
    have i3 : I 3 = 0 := hR.1.1.1
    have i8 : I 8 = K 60 := hR.1.2.2.1.1
    have e29 : K 29 = K 28 := by have := p29.2.2 h26; omega
    by_cases h60 : K 60 = 0
    · have fin : ∀ w (r : Option Value), r = none ∧ (∃ (j : Nat) (g5 g4 : Int → Int), w = cls I (uN N 5 j) (uN (uN F 5 g5) 4 g4) ++ T ∧ ShP N F (N 4) j g5 g4) → ∃ (j : Nat) (g5 g4 : Int → Int), w = cls I (uN N 5 j) (uN (uN F 5 g5) 4 g4) ++ T ∧ ShP N F (N 4) j g5 g4 := fun w r q => q.2
      refine v_aload_n (dec_of DX2_readFrom 55 rfl) rfl ?_
      refine v_get fX2_47 (dec_of DX2_readFrom 56 rfl) rfl rfl ?_
      refine vi_if_eq (tgt := 121) (dec_of DX2_readFrom 57 rfl) (by decide) (by first | omega | exact bnd_r _ _ | exact hF _ _ | exact hI _ | exact hG _ _ | exact hK _ | (simp [uN] <;> omega)) (fun c105 => ?_) (fun c105 => absurd c105 (by omega))
      refine v_aload_n (dec_of DX2_readFrom 65 rfl) rfl ?_
      refine v_get fX2_37 (dec_of DX2_readFrom 66 rfl) rfl rfl ?_
      refine vi_if_ne (tgt := 138) (dec_of DX2_readFrom 67 rfl) (by decide) (by first | omega | exact bnd_r _ _ | exact hF _ _ | exact hI _ | exact hG _ _ | exact hK _ | (simp [uN] <;> omega)) (fun c125 => absurd c125 (by omega)) (fun c125 => ?_)
      refine v_aload_n (dec_of DX2_readFrom 68 rfl) rfl ?_
      refine v_get fX2_9 (dec_of DX2_readFrom 69 rfl) rfl rfl ?_
      refine v_callS (As := [.ref 5]) lX2_61 (dec_of DX2_readFrom 70 rfl) (k_shape hF hI hN hR.1.2.2.2.2) rfl rfl ⟨by decide, by decide, by decide, by decide⟩ (nle rfl) rfl ?_
      intro w r q _
      obtain ⟨rfl, j, g5, g4, rfl, hs⟩ := q
      refine v_goto (tgt := 145) (dec_of DX2_readFrom 71 rfl) (by decide) ?_
      refine v_aload_n (dec_of DX2_readFrom 75 rfl) rfl ?_
      refine v_get fX2_37 (dec_of DX2_readFrom 76 rfl) rfl rfl ?_
      exact vi_ret (dec_of DX2_readFrom 77 rfl) rfl ⟨by decide, by decide⟩ (by rw [i3]; exact hz _ _ ⟨K, G, I, N, F, h1, Or.inr ⟨h60, by omega⟩, by rw [h26], hF, hI, hN, hk, Or.inl ⟨h26, hR, h60, j, g5, g4, hs, rfl⟩⟩)
    · have h60 : K 60 = 1 := by omega
      have em : mstep K G = (wrK K 1, G) := by
        have eb : byB K G (K 29) = -1 := by unfold byB; rw [if_neg (by omega)]
        unfold mstep
        rw [if_neg (by omega), if_neg (by omega), eb]
        unfold mIn
        rw [if_neg (fun q => q.2 rfl), if_neg (by decide), if_neg (by decide), if_neg (by decide), if_neg (by decide), if_neg (by decide)]
      have hI2 : IR (uN (uN I 3 1) 4 L) := IR2 hI (by decide) (by omega)
      refine v_aload_n (dec_of DX2_readFrom 55 rfl) rfl ?_
      refine v_get fX2_47 (dec_of DX2_readFrom 56 rfl) rfl rfl ?_
      try simp (disch := decide) only [uN_s, uN_n]
      refine vi_if_eq (tgt := 121) (dec_of DX2_readFrom 57 rfl) (by decide) (by first | omega | exact bnd_r _ _ | exact hF _ _ | exact hI _ | exact hG _ _ | exact hK _ | (simp [uN] <;> omega)) (fun c105 => absurd c105 (by omega)) (fun c105 => ?_)
      refine v_aload_n (dec_of DX2_readFrom 58 rfl) rfl ?_
      refine v_get fX2_37 (dec_of DX2_readFrom 59 rfl) rfl rfl ?_
      try simp (disch := decide) only [uN_s, uN_n]
      refine vi_if_ne (tgt := 121) (dec_of DX2_readFrom 60 rfl) (by decide) (by first | omega | exact bnd_r _ _ | exact hF _ _ | exact hI _ | exact hG _ _ | exact hK _ | (simp [uN] <;> omega)) (fun c112 => absurd c112 (by omega)) (fun c112 => ?_)
      refine v_aload_n (dec_of DX2_readFrom 61 rfl) rfl ?_
      refine vi_const (dec_of DX2_readFrom 62 rfl) ?_
      refine v_iload_n (dec_of DX2_readFrom 63 rfl) rfl ?_
      refine v_V2v (k_refuse) lX2_58 (dec_of DX2_readFrom 64 rfl) rfl rfl (by decide) (nle rfl) rfl ?_
      try simp (disch := decide) only [uN_s, uN_n]
      refine v_aload_n (dec_of DX2_readFrom 65 rfl) rfl ?_
      refine v_get fX2_37 (dec_of DX2_readFrom 66 rfl) rfl rfl ?_
      try simp (disch := decide) only [uN_s, uN_n]
      refine vi_if_ne (tgt := 138) (dec_of DX2_readFrom 67 rfl) (by decide) (by first | omega | exact bnd_r _ _ | exact hF _ _ | exact hI _ | exact hG _ _ | exact hK _ | (simp [uN] <;> omega)) (fun c125 => ?_) (fun c125 => absurd c125 (by decide))
      refine v_aload_n (dec_of DX2_readFrom 72 rfl) rfl ?_
      refine v_get fX2_9 (dec_of DX2_readFrom 73 rfl) rfl rfl ?_
      try simp (disch := decide) only [uN_s, uN_n]
      refine v_V0v (k_clear hF hI2 hN) lX2_67 (dec_of DX2_readFrom 74 rfl) rfl rfl (by decide) (nle rfl) rfl ?_
      try simp (disch := decide) only [uN_s, uN_n]
      refine v_aload_n (dec_of DX2_readFrom 75 rfl) rfl ?_
      refine v_get fX2_37 (dec_of DX2_readFrom 76 rfl) rfl rfl ?_
      try simp (disch := decide) only [uN_s, uN_n]
      exact vi_ret (dec_of DX2_readFrom 77 rfl) rfl ⟨by decide, by decide⟩ (hz _ _ ⟨wrK K 1, G, uN (uN I 3 1) 4 L, N, F, h1.trans (Rch.step em), Or.inl (by show ¬ (1 : Int) = 0; decide), rfl, hF, hI2, hN, Kpt_tr hk ⟨kI_w (by decide) (kI_w (by decide) (fun _ _ => rfl)), fun _ _ => rfl, fun _ _ => rfl⟩, Or.inr ⟨by show ¬ (1 : Int) = 0; decide, show L = K 29 by omega, rfl⟩⟩)
  · obtain ⟨i3, i4⟩ := hf h26
    refine v_aload_n (dec_of DX2_readFrom 55 rfl) rfl ?_
    refine v_get fX2_47 (dec_of DX2_readFrom 56 rfl) rfl rfl ?_
    refine vi_if_eq (tgt := 121) (dec_of DX2_readFrom 57 rfl) (by decide) (by first | omega | exact hI _) (fun c105 => ?_) (fun c105 => ?_)
    · refine v_aload_n (dec_of DX2_readFrom 65 rfl) rfl ?_
      refine v_get fX2_37 (dec_of DX2_readFrom 66 rfl) rfl rfl ?_
      refine vi_if_ne (tgt := 138) (dec_of DX2_readFrom 67 rfl) (by decide) (by first | omega | exact hI _) (fun c125 => ?_) (fun c125 => absurd c125 (by omega))
      refine v_aload_n (dec_of DX2_readFrom 72 rfl) rfl ?_
      refine v_get fX2_9 (dec_of DX2_readFrom 73 rfl) rfl rfl ?_
      refine v_V0v (k_clear hF hI hN) lX2_67 (dec_of DX2_readFrom 74 rfl) rfl rfl (by decide) (nle rfl) rfl ?_
      refine v_aload_n (dec_of DX2_readFrom 75 rfl) rfl ?_
      refine v_get fX2_37 (dec_of DX2_readFrom 76 rfl) rfl rfl ?_
      exact vi_ret (dec_of DX2_readFrom 77 rfl) rfl ⟨by decide, by decide⟩ (by
      rw [show uN (uN I 1 0) 2 0 3 = K 26 from i3]
      exact hz _ _ ⟨K, G, I, N, F, h1, Or.inl h26, rfl, hF, hI, hN, hk, Or.inr ⟨h26, i4, rfl⟩⟩)
    · refine v_aload_n (dec_of DX2_readFrom 58 rfl) rfl ?_
      refine v_get fX2_37 (dec_of DX2_readFrom 59 rfl) rfl rfl ?_
      refine vi_if_ne (tgt := 121) (dec_of DX2_readFrom 60 rfl) (by decide) (by first | omega | exact hI _) (fun c112 => ?_) (fun c112 => absurd c112 (by omega))
      refine v_aload_n (dec_of DX2_readFrom 65 rfl) rfl ?_
      refine v_get fX2_37 (dec_of DX2_readFrom 66 rfl) rfl rfl ?_
      refine vi_if_ne (tgt := 138) (dec_of DX2_readFrom 67 rfl) (by decide) (by first | omega | exact hI _) (fun c125 => ?_) (fun c125 => absurd c125 (by omega))
      refine v_aload_n (dec_of DX2_readFrom 72 rfl) rfl ?_
      refine v_get fX2_9 (dec_of DX2_readFrom 73 rfl) rfl rfl ?_
      refine v_V0v (k_clear hF hI hN) lX2_67 (dec_of DX2_readFrom 74 rfl) rfl rfl (by decide) (nle rfl) rfl ?_
      refine v_aload_n (dec_of DX2_readFrom 75 rfl) rfl ?_
      refine v_get fX2_37 (dec_of DX2_readFrom 76 rfl) rfl rfl ?_
      exact vi_ret (dec_of DX2_readFrom 77 rfl) rfl ⟨by decide, by decide⟩ (by
      rw [show uN (uN I 1 0) 2 0 3 = K 26 from i3]
      exact hz _ _ ⟨K, G, I, N, F, h1, Or.inl h26, rfl, hF, hI, hN, hk, Or.inr ⟨h26, i4, rfl⟩⟩)
set_option maxRecDepth 100000 in
set_option maxHeartbeats 4000000 in
theorem k_rd_loop {T : XW} {Ib Nb : Nat → Int} {Fb : Nat → Int → Int} {K0 : Nat → Int} {G0 : Nat → Int → Int} {L : Int} (hV0 : Iv K0 G0) (hL : L = K0 28) {n0 : Nat} {Z : XW → Option Value → Prop} (hz : ∀ w r, RdZ T Ib Nb Fb K0 G0 w r → Z w r) : ∀ (m : Nat) (p : Int) (I N : Nat → Int) (F : Nat → Int → Int) (K : Nat → Int) (G : Nat → Int → Int), p + m = L → 0 ≤ p → RdH Ib Nb Fb K0 G0 p I N F K G → Vd (rm 5 122 0 0) [] mX2_readFrom n0 Z 0 0 11 [some (.ref 20), some (.ref 1), some (J L), some (J p), none] [] (cls I N F ++ T) := by
  have p28 : 0 ≤ K0 28 ∧ K0 28 ≤ 1500 := hV0.1.1.2.2.2.2.2.2.2.1
  intro m
  induction m with
  | zero =>
    intro p I N F K G hm h0 h
    refine v_iload_n (dec_of DX2_readFrom 7 rfl) rfl ?_
    refine v_iload_n (dec_of DX2_readFrom 8 rfl) rfl ?_
    refine vi_icmp_ge (tgt := 101) (dec_of DX2_readFrom 9 rfl) (by decide) (by omega) (by omega) (fun c13 => ?_) (fun c13 => absurd c13 (by omega))
    exact k_rd_end hV0 hL hz h (Or.inr (by omega))
  | succ m ih =>
    intro p I N F K G hm h0 h
    have hh := h
    obtain ⟨h1, hF, hI, hN, hk, hr, hf⟩ := hh
    have hV := Iv_rch h1 hV0
    have e28 := keep_rch h1
    have p26 : 0 ≤ K 26 ∧ K 26 ≤ 3 := hV.1.2.2.2.2.2.2.2.2.2.2.2.2.2.1
    by_cases h26 : K 26 = 0
    · obtain ⟨hR, q1, q2, q3⟩ := hr h26
      have i3 : I 3 = 0 := hR.1.1.1
      have i8 : I 8 = K 60 := hR.1.2.2.1.1
      have p60 : K 60 = 0 ∨ K 60 = 1 := hV.1.2.2.2.2.2.2.2.2.1
      have n0 : N 0 = K 28 := hR.2.2.2.2.1
      have r5 := hI 5
      by_cases h5 : p < I 5
      · have back := ih (p + 1) I N F K G (by omega) (by omega) ⟨h1, hF, hI, hN, hk, fun q => ⟨hR, by omega, by omega, by omega⟩, hf⟩
        refine v_iload_n (dec_of DX2_readFrom 7 rfl) rfl ?_
        refine v_iload_n (dec_of DX2_readFrom 8 rfl) rfl ?_
        refine vi_icmp_ge (tgt := 101) (dec_of DX2_readFrom 9 rfl) (by decide) (by omega) (by omega) (fun c13 => absurd c13 (by omega)) (fun c13 => ?_)
        refine v_aload_n (dec_of DX2_readFrom 10 rfl) rfl ?_
        refine v_get fX2_37 (dec_of DX2_readFrom 11 rfl) rfl rfl ?_
        refine vi_if_ne (tgt := 101) (dec_of DX2_readFrom 12 rfl) (by decide) (by omega) (fun c20 => absurd c20 (by omega)) (fun c20 => ?_)
        refine v_iload_n (dec_of DX2_readFrom 13 rfl) rfl ?_
        refine v_aload_n (dec_of DX2_readFrom 14 rfl) rfl ?_
        refine v_get fX2_40 (dec_of DX2_readFrom 15 rfl) rfl rfl ?_
        refine vi_icmp_lt (tgt := 95) (dec_of DX2_readFrom 16 rfl) (by decide) (by omega) (by omega) (fun c28 => ?_) (fun c28 => absurd c28 (by omega))
        refine vi_inc (dec_of DX2_readFrom 53 rfl) rfl (by decide) ?_
        dsimp only [List.set]
        refine v_goto (tgt := 11) (dec_of DX2_readFrom 54 rfl) (by decide) ?_
        refine Vd_fg 4 ?_
        dsimp only [List.set]
        exact back
      · have ep : K 29 = p := by omega
        have hd : ¬ mDone K := by unfold mDone; omega
        have R5 : Rl (uN I 5 (p + 1)) N F K G := hR
        have I5 : IR (uN I 5 (p + 1)) := hI.up (by omega)
        have e1 : byB K G p = F 0 p := by unfold byB; rw [if_pos (by omega), hR.2.2.2.2.2 p h0 (by omega)]
        have r0 : 0 ≤ N 0 ∧ N 0 ≤ 1500 := by omega
        have rF : -2147483648 ≤ F 0 p ∧ F 0 p < 2147483648 := hF 0 p
        by_cases h60 : K 60 = 1
        · obtain ⟨I', N', F', sp, hs⟩ := k_stepIn hF I5 hN R5 hV h26 h60 (by omega) (by rw [ep, uN_s])
          have back := ih (p + 1) I' N' F' _ _ (by omega) (by omega) (RdH_step h hd ep sp)
          rw [ep, e1] at hs
          by_cases hq : p + 1 < L
          · have e2 : byB K G (p + 1) = F 0 (p + 1) := by unfold byB; rw [if_pos (by omega), hR.2.2.2.2.2 (p + 1) (by omega) (by omega)]
            rw [e2] at hs
            refine v_iload_n (dec_of DX2_readFrom 7 rfl) rfl ?_
            refine v_iload_n (dec_of DX2_readFrom 8 rfl) rfl ?_
            refine vi_icmp_ge (tgt := 101) (dec_of DX2_readFrom 9 rfl) (by decide) (by first | omega | exact hI _) (by first | omega | exact hI _) (fun c13 => absurd c13 (by omega)) (fun c13 => ?_)
            refine v_aload_n (dec_of DX2_readFrom 10 rfl) rfl ?_
            refine v_get fX2_37 (dec_of DX2_readFrom 11 rfl) rfl rfl ?_
            try simp (disch := decide) only [uN_s, uN_n]
            refine vi_if_ne (tgt := 101) (dec_of DX2_readFrom 12 rfl) (by decide) (by first | omega | exact hI _) (fun c20 => absurd c20 (by omega)) (fun c20 => ?_)
            refine v_iload_n (dec_of DX2_readFrom 13 rfl) rfl ?_
            refine v_aload_n (dec_of DX2_readFrom 14 rfl) rfl ?_
            refine v_get fX2_40 (dec_of DX2_readFrom 15 rfl) rfl rfl ?_
            try simp (disch := decide) only [uN_s, uN_n]
            refine vi_icmp_lt (tgt := 95) (dec_of DX2_readFrom 16 rfl) (by decide) (by first | omega | exact hI _) (by first | omega | exact hI _) (fun c28 => absurd c28 (by omega)) (fun c28 => ?_)
            refine v_aload_n (dec_of DX2_readFrom 17 rfl) rfl ?_
            refine v_iload_n (dec_of DX2_readFrom 18 rfl) rfl ?_
            refine vi_const (dec_of DX2_readFrom 19 rfl) ?_
            refine vi_add (dec_of DX2_readFrom 20 rfl) ?_
            refine cp_5 fX2_40 (dec_of DX2_readFrom 21 rfl) ?_
            refine v_aload_n (dec_of DX2_readFrom 22 rfl) rfl ?_
            refine v_get fX2_40 (dec_of DX2_readFrom 23 rfl) rfl rfl ?_
            try simp (disch := decide) only [uN_s, uN_n]
            refine v_iload_n (dec_of DX2_readFrom 24 rfl) rfl ?_
            refine vi_icmp_ge (tgt := 58) (dec_of DX2_readFrom 25 rfl) (by decide) (by first | omega | exact hI _) (by first | omega | exact hI _) (fun c43 => absurd c43 (by omega)) (fun c43 => ?_)
            refine v_aload_n (dec_of DX2_readFrom 26 rfl) rfl ?_
            refine v_aload_n (dec_of DX2_readFrom 27 rfl) rfl ?_
            refine v_get fX2_40 (dec_of DX2_readFrom 28 rfl) rfl rfl ?_
            try simp (disch := decide) only [uN_s, uN_n]
            refine vi_const (dec_of DX2_readFrom 29 rfl) ?_
            refine v_V2r (c0_get (by first | omega | exact hI _) (by first | omega | exact hI _)) lX2_43 (dec_of DX2_readFrom 30 rfl) rfl rfl (by decide) (nle rfl) rfl ?_
            try simp (disch := decide) only [uN_s, uN_n]
            refine v_goto (tgt := 59) (dec_of DX2_readFrom 31 rfl) (by decide) ?_
            refine v_istore (dec_of DX2_readFrom 33 rfl) (by decide) ?_
            dsimp only [List.set]
            refine v_aload_n (dec_of DX2_readFrom 34 rfl) rfl ?_
            refine v_get fX2_47 (dec_of DX2_readFrom 35 rfl) rfl rfl ?_
            try simp (disch := decide) only [uN_s, uN_n]
            refine vi_if_eq (tgt := 84) (dec_of DX2_readFrom 36 rfl) (by decide) (by first | omega | exact hI _) (fun c65 => absurd c65 (by show ¬ I 8 = 0; omega)) (fun c65 => ?_)
            refine v_aload_n (dec_of DX2_readFrom 37 rfl) rfl ?_
            refine v_iload_n (dec_of DX2_readFrom 38 rfl) rfl ?_
            refine v_aload_n (dec_of DX2_readFrom 39 rfl) rfl ?_
            refine v_iload_n (dec_of DX2_readFrom 40 rfl) rfl ?_
            refine vi_const (dec_of DX2_readFrom 41 rfl) ?_
            refine v_V2r (c0_get (by first | omega | exact hI _) (by first | omega | exact hI _)) lX2_43 (dec_of DX2_readFrom 42 rfl) rfl rfl (by decide) (nle rfl) rfl ?_
            try simp (disch := decide) only [uN_s, uN_n]
            refine v_iload (dec_of DX2_readFrom 43 rfl) rfl ?_
            refine v_V3v (hs T) lX2_51 (dec_of DX2_readFrom 44 rfl) rfl rfl (by decide) (nle rfl) rfl ?_
            try simp (disch := decide) only [uN_s, uN_n]
            refine v_goto (tgt := 95) (dec_of DX2_readFrom 45 rfl) (by decide) ?_
            refine vi_inc (dec_of DX2_readFrom 53 rfl) rfl (by decide) ?_
            dsimp only [List.set]
            refine v_goto (tgt := 11) (dec_of DX2_readFrom 54 rfl) (by decide) ?_
            refine Vd_fg 4 ?_
            dsimp only [List.set]
            exact back
          · have e2 : byB K G (p + 1) = -1 := by unfold byB; rw [if_neg (by omega)]
            rw [e2] at hs
            refine v_iload_n (dec_of DX2_readFrom 7 rfl) rfl ?_
            refine v_iload_n (dec_of DX2_readFrom 8 rfl) rfl ?_
            refine vi_icmp_ge (tgt := 101) (dec_of DX2_readFrom 9 rfl) (by decide) (by first | omega | exact hI _) (by first | omega | exact hI _) (fun c13 => absurd c13 (by omega)) (fun c13 => ?_)
            refine v_aload_n (dec_of DX2_readFrom 10 rfl) rfl ?_
            refine v_get fX2_37 (dec_of DX2_readFrom 11 rfl) rfl rfl ?_
            try simp (disch := decide) only [uN_s, uN_n]
            refine vi_if_ne (tgt := 101) (dec_of DX2_readFrom 12 rfl) (by decide) (by first | omega | exact hI _) (fun c20 => absurd c20 (by omega)) (fun c20 => ?_)
            refine v_iload_n (dec_of DX2_readFrom 13 rfl) rfl ?_
            refine v_aload_n (dec_of DX2_readFrom 14 rfl) rfl ?_
            refine v_get fX2_40 (dec_of DX2_readFrom 15 rfl) rfl rfl ?_
            try simp (disch := decide) only [uN_s, uN_n]
            refine vi_icmp_lt (tgt := 95) (dec_of DX2_readFrom 16 rfl) (by decide) (by first | omega | exact hI _) (by first | omega | exact hI _) (fun c28 => absurd c28 (by omega)) (fun c28 => ?_)
            refine v_aload_n (dec_of DX2_readFrom 17 rfl) rfl ?_
            refine v_iload_n (dec_of DX2_readFrom 18 rfl) rfl ?_
            refine vi_const (dec_of DX2_readFrom 19 rfl) ?_
            refine vi_add (dec_of DX2_readFrom 20 rfl) ?_
            refine cp_5 fX2_40 (dec_of DX2_readFrom 21 rfl) ?_
            refine v_aload_n (dec_of DX2_readFrom 22 rfl) rfl ?_
            refine v_get fX2_40 (dec_of DX2_readFrom 23 rfl) rfl rfl ?_
            try simp (disch := decide) only [uN_s, uN_n]
            refine v_iload_n (dec_of DX2_readFrom 24 rfl) rfl ?_
            refine vi_icmp_ge (tgt := 58) (dec_of DX2_readFrom 25 rfl) (by decide) (by first | omega | exact hI _) (by first | omega | exact hI _) (fun c43 => ?_) (fun c43 => absurd c43 (by omega))
            refine vi_const (dec_of DX2_readFrom 32 rfl) ?_
            refine v_istore (dec_of DX2_readFrom 33 rfl) (by decide) ?_
            dsimp only [List.set]
            refine v_aload_n (dec_of DX2_readFrom 34 rfl) rfl ?_
            refine v_get fX2_47 (dec_of DX2_readFrom 35 rfl) rfl rfl ?_
            try simp (disch := decide) only [uN_s, uN_n]
            refine vi_if_eq (tgt := 84) (dec_of DX2_readFrom 36 rfl) (by decide) (by first | omega | exact hI _) (fun c65 => absurd c65 (by show ¬ I 8 = 0; omega)) (fun c65 => ?_)
            refine v_aload_n (dec_of DX2_readFrom 37 rfl) rfl ?_
            refine v_iload_n (dec_of DX2_readFrom 38 rfl) rfl ?_
            refine v_aload_n (dec_of DX2_readFrom 39 rfl) rfl ?_
            refine v_iload_n (dec_of DX2_readFrom 40 rfl) rfl ?_
            refine vi_const (dec_of DX2_readFrom 41 rfl) ?_
            refine v_V2r (c0_get (by first | omega | exact hI _) (by first | omega | exact hI _)) lX2_43 (dec_of DX2_readFrom 42 rfl) rfl rfl (by decide) (nle rfl) rfl ?_
            try simp (disch := decide) only [uN_s, uN_n]
            refine v_iload (dec_of DX2_readFrom 43 rfl) rfl ?_
            refine v_V3v (hs T) lX2_51 (dec_of DX2_readFrom 44 rfl) rfl rfl (by decide) (nle rfl) rfl ?_
            try simp (disch := decide) only [uN_s, uN_n]
            refine v_goto (tgt := 95) (dec_of DX2_readFrom 45 rfl) (by decide) ?_
            refine vi_inc (dec_of DX2_readFrom 53 rfl) rfl (by decide) ?_
            dsimp only [List.set]
            refine v_goto (tgt := 11) (dec_of DX2_readFrom 54 rfl) (by decide) ?_
            refine Vd_fg 4 ?_
            dsimp only [List.set]
            exact back
        · have h60 : K 60 = 0 := by omega
          obtain ⟨I', N', F', sp, hs⟩ := k_stepOut hF I5 hN R5 hV h26 h60 (by omega) (by rw [ep, uN_s])
          have back := ih (p + 1) I' N' F' _ _ (by omega) (by omega) (RdH_step h hd ep sp)
          rw [ep, e1] at hs
          by_cases hq : p + 1 < L
          · refine v_iload_n (dec_of DX2_readFrom 7 rfl) rfl ?_
            refine v_iload_n (dec_of DX2_readFrom 8 rfl) rfl ?_
            refine vi_icmp_ge (tgt := 101) (dec_of DX2_readFrom 9 rfl) (by decide) (by first | omega | exact hI _) (by first | omega | exact hI _) (fun c13 => absurd c13 (by omega)) (fun c13 => ?_)
            refine v_aload_n (dec_of DX2_readFrom 10 rfl) rfl ?_
            refine v_get fX2_37 (dec_of DX2_readFrom 11 rfl) rfl rfl ?_
            try simp (disch := decide) only [uN_s, uN_n]
            refine vi_if_ne (tgt := 101) (dec_of DX2_readFrom 12 rfl) (by decide) (by first | omega | exact hI _) (fun c20 => absurd c20 (by omega)) (fun c20 => ?_)
            refine v_iload_n (dec_of DX2_readFrom 13 rfl) rfl ?_
            refine v_aload_n (dec_of DX2_readFrom 14 rfl) rfl ?_
            refine v_get fX2_40 (dec_of DX2_readFrom 15 rfl) rfl rfl ?_
            try simp (disch := decide) only [uN_s, uN_n]
            refine vi_icmp_lt (tgt := 95) (dec_of DX2_readFrom 16 rfl) (by decide) (by first | omega | exact hI _) (by first | omega | exact hI _) (fun c28 => absurd c28 (by omega)) (fun c28 => ?_)
            refine v_aload_n (dec_of DX2_readFrom 17 rfl) rfl ?_
            refine v_iload_n (dec_of DX2_readFrom 18 rfl) rfl ?_
            refine vi_const (dec_of DX2_readFrom 19 rfl) ?_
            refine vi_add (dec_of DX2_readFrom 20 rfl) ?_
            refine cp_5 fX2_40 (dec_of DX2_readFrom 21 rfl) ?_
            refine v_aload_n (dec_of DX2_readFrom 22 rfl) rfl ?_
            refine v_get fX2_40 (dec_of DX2_readFrom 23 rfl) rfl rfl ?_
            try simp (disch := decide) only [uN_s, uN_n]
            refine v_iload_n (dec_of DX2_readFrom 24 rfl) rfl ?_
            refine vi_icmp_ge (tgt := 58) (dec_of DX2_readFrom 25 rfl) (by decide) (by first | omega | exact hI _) (by first | omega | exact hI _) (fun c43 => absurd c43 (by omega)) (fun c43 => ?_)
            refine v_aload_n (dec_of DX2_readFrom 26 rfl) rfl ?_
            refine v_aload_n (dec_of DX2_readFrom 27 rfl) rfl ?_
            refine v_get fX2_40 (dec_of DX2_readFrom 28 rfl) rfl rfl ?_
            try simp (disch := decide) only [uN_s, uN_n]
            refine vi_const (dec_of DX2_readFrom 29 rfl) ?_
            refine v_V2r (c0_get (by first | omega | exact hI _) (by first | omega | exact hI _)) lX2_43 (dec_of DX2_readFrom 30 rfl) rfl rfl (by decide) (nle rfl) rfl ?_
            try simp (disch := decide) only [uN_s, uN_n]
            refine v_goto (tgt := 59) (dec_of DX2_readFrom 31 rfl) (by decide) ?_
            refine v_istore (dec_of DX2_readFrom 33 rfl) (by decide) ?_
            dsimp only [List.set]
            refine v_aload_n (dec_of DX2_readFrom 34 rfl) rfl ?_
            refine v_get fX2_47 (dec_of DX2_readFrom 35 rfl) rfl rfl ?_
            try simp (disch := decide) only [uN_s, uN_n]
            refine vi_if_eq (tgt := 84) (dec_of DX2_readFrom 36 rfl) (by decide) (by first | omega | exact hI _) (fun c65 => ?_) (fun c65 => absurd c65 (by show ¬ ¬ I 8 = 0; omega))
            refine v_aload_n (dec_of DX2_readFrom 46 rfl) rfl ?_
            refine v_iload_n (dec_of DX2_readFrom 47 rfl) rfl ?_
            refine v_aload_n (dec_of DX2_readFrom 48 rfl) rfl ?_
            refine v_iload_n (dec_of DX2_readFrom 49 rfl) rfl ?_
            refine vi_const (dec_of DX2_readFrom 50 rfl) ?_
            refine v_V2r (c0_get (by first | omega | exact hI _) (by first | omega | exact hI _)) lX2_43 (dec_of DX2_readFrom 51 rfl) rfl rfl (by decide) (nle rfl) rfl ?_
            try simp (disch := decide) only [uN_s, uN_n]
            refine v_V2v (hs T) lX2_55 (dec_of DX2_readFrom 52 rfl) rfl rfl (by decide) (nle rfl) rfl ?_
            try simp (disch := decide) only [uN_s, uN_n]
            refine vi_inc (dec_of DX2_readFrom 53 rfl) rfl (by decide) ?_
            dsimp only [List.set]
            refine v_goto (tgt := 11) (dec_of DX2_readFrom 54 rfl) (by decide) ?_
            refine Vd_fg 4 ?_
            dsimp only [List.set]
            exact back
          · refine v_iload_n (dec_of DX2_readFrom 7 rfl) rfl ?_
            refine v_iload_n (dec_of DX2_readFrom 8 rfl) rfl ?_
            refine vi_icmp_ge (tgt := 101) (dec_of DX2_readFrom 9 rfl) (by decide) (by first | omega | exact hI _) (by first | omega | exact hI _) (fun c13 => absurd c13 (by omega)) (fun c13 => ?_)
            refine v_aload_n (dec_of DX2_readFrom 10 rfl) rfl ?_
            refine v_get fX2_37 (dec_of DX2_readFrom 11 rfl) rfl rfl ?_
            try simp (disch := decide) only [uN_s, uN_n]
            refine vi_if_ne (tgt := 101) (dec_of DX2_readFrom 12 rfl) (by decide) (by first | omega | exact hI _) (fun c20 => absurd c20 (by omega)) (fun c20 => ?_)
            refine v_iload_n (dec_of DX2_readFrom 13 rfl) rfl ?_
            refine v_aload_n (dec_of DX2_readFrom 14 rfl) rfl ?_
            refine v_get fX2_40 (dec_of DX2_readFrom 15 rfl) rfl rfl ?_
            try simp (disch := decide) only [uN_s, uN_n]
            refine vi_icmp_lt (tgt := 95) (dec_of DX2_readFrom 16 rfl) (by decide) (by first | omega | exact hI _) (by first | omega | exact hI _) (fun c28 => absurd c28 (by omega)) (fun c28 => ?_)
            refine v_aload_n (dec_of DX2_readFrom 17 rfl) rfl ?_
            refine v_iload_n (dec_of DX2_readFrom 18 rfl) rfl ?_
            refine vi_const (dec_of DX2_readFrom 19 rfl) ?_
            refine vi_add (dec_of DX2_readFrom 20 rfl) ?_
            refine cp_5 fX2_40 (dec_of DX2_readFrom 21 rfl) ?_
            refine v_aload_n (dec_of DX2_readFrom 22 rfl) rfl ?_
            refine v_get fX2_40 (dec_of DX2_readFrom 23 rfl) rfl rfl ?_
            try simp (disch := decide) only [uN_s, uN_n]
            refine v_iload_n (dec_of DX2_readFrom 24 rfl) rfl ?_
            refine vi_icmp_ge (tgt := 58) (dec_of DX2_readFrom 25 rfl) (by decide) (by first | omega | exact hI _) (by first | omega | exact hI _) (fun c43 => ?_) (fun c43 => absurd c43 (by omega))
            refine vi_const (dec_of DX2_readFrom 32 rfl) ?_
            refine v_istore (dec_of DX2_readFrom 33 rfl) (by decide) ?_
            dsimp only [List.set]
            refine v_aload_n (dec_of DX2_readFrom 34 rfl) rfl ?_
            refine v_get fX2_47 (dec_of DX2_readFrom 35 rfl) rfl rfl ?_
            try simp (disch := decide) only [uN_s, uN_n]
            refine vi_if_eq (tgt := 84) (dec_of DX2_readFrom 36 rfl) (by decide) (by first | omega | exact hI _) (fun c65 => ?_) (fun c65 => absurd c65 (by show ¬ ¬ I 8 = 0; omega))
            refine v_aload_n (dec_of DX2_readFrom 46 rfl) rfl ?_
            refine v_iload_n (dec_of DX2_readFrom 47 rfl) rfl ?_
            refine v_aload_n (dec_of DX2_readFrom 48 rfl) rfl ?_
            refine v_iload_n (dec_of DX2_readFrom 49 rfl) rfl ?_
            refine vi_const (dec_of DX2_readFrom 50 rfl) ?_
            refine v_V2r (c0_get (by first | omega | exact hI _) (by first | omega | exact hI _)) lX2_43 (dec_of DX2_readFrom 51 rfl) rfl rfl (by decide) (nle rfl) rfl ?_
            try simp (disch := decide) only [uN_s, uN_n]
            refine v_V2v (hs T) lX2_55 (dec_of DX2_readFrom 52 rfl) rfl rfl (by decide) (nle rfl) rfl ?_
            try simp (disch := decide) only [uN_s, uN_n]
            refine vi_inc (dec_of DX2_readFrom 53 rfl) rfl (by decide) ?_
            dsimp only [List.set]
            refine v_goto (tgt := 11) (dec_of DX2_readFrom 54 rfl) (by decide) ?_
            refine Vd_fg 4 ?_
            dsimp only [List.set]
            exact back
    · obtain ⟨i3, i4⟩ := hf h26
      refine v_iload_n (dec_of DX2_readFrom 7 rfl) rfl ?_
      refine v_iload_n (dec_of DX2_readFrom 8 rfl) rfl ?_
      refine vi_icmp_ge (tgt := 101) (dec_of DX2_readFrom 9 rfl) (by decide) (by omega) (by omega) (fun c13 => absurd c13 (by omega)) (fun c13 => ?_)
      refine v_aload_n (dec_of DX2_readFrom 10 rfl) rfl ?_
      refine v_get fX2_37 (dec_of DX2_readFrom 11 rfl) rfl rfl ?_
      refine vi_if_ne (tgt := 101) (dec_of DX2_readFrom 12 rfl) (by decide) (by omega) (fun c20 => ?_) (fun c20 => absurd c20 (by omega))
      exact k_rd_end hV0 hL hz h (Or.inl h26)
