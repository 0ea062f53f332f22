/-! the Writer: slashes, loops (printed by wip/tools/gen_c14.py) -/
set_option maxRecDepth 100000 in
set_option maxHeartbeats 4000000 in
theorem k_gf_loop {T : XW} {I N : Nat → Int} {F : Nat → Int → Int} (hF : FR F) (hI : IR I) (hN : NR N) {n0 : Nat} {Z : XW → Option Value → Prop} {j e v : Int} (he : 0 ≤ e ∧ e ≤ N 8) (hv : -2147483648 ≤ v ∧ v < 2147483648) : ∀ (m : Nat) (i : Int), 0 ≤ i ∧ i ≤ 1000 → (m = 0 → e ≤ i) → (0 < m → i + m = e) → Z (cls I N F ++ T) (some (J (gfL N F v m i))) → Vd (rm 2 45 0 0) [] mX7_groupFollows n0 Z 0 0 15 [some (.ref 5), some (J j), some (J e), some (J v), some (J i), none] [] (cls I N F ++ T) := by
  unfold NR at hN
  intro m
  induction m with
  | zero =>
    intro i h0 h1 _ hz
    have h1 := h1 rfl
    refine v_iload (dec_of DX7_groupFollows 10 rfl) rfl ?_
    refine v_iload_n (dec_of DX7_groupFollows 11 rfl) rfl ?_
    refine vi_icmp_ge (tgt := 82) (dec_of DX7_groupFollows 12 rfl) (by decide) (by first | omega | exact hF _ _ | exact bnd_r _ _) (by first | omega | exact hF _ _ | exact bnd_r _ _) (fun c18 => ?_) (fun c18 => absurd c18 (by omega))
    refine vi_const (dec_of DX7_groupFollows 44 rfl) ?_
    exact vi_retz (dec_of DX7_groupFollows 45 rfl) rfl (by first | omega | exact hF _ _ | exact bnd_r _ _) ⟨by decide, by decide⟩ (hz)
  | succ m ih =>
    intro i h0 _ h2 hz
    have h2 := h2 (by omega)
    by_cases k0 : F 8 (i * 2 + 0) = 0
    · rw [gfL, if_pos k0] at hz
      by_cases hs : sameG N F v (F 8 (i * 2 + 1))
      · rw [if_pos hs] at hz
        refine v_iload (dec_of DX7_groupFollows 10 rfl) rfl ?_
        refine v_iload_n (dec_of DX7_groupFollows 11 rfl) rfl ?_
        refine vi_icmp_ge (tgt := 82) (dec_of DX7_groupFollows 12 rfl) (by decide) (by first | omega | exact hF _ _ | exact bnd_r _ _) (by first | omega | exact hF _ _ | exact bnd_r _ _) (fun c18 => absurd c18 (by omega)) (fun c18 => ?_)
        refine v_aload_n (dec_of DX7_groupFollows 13 rfl) rfl ?_
        refine v_get fX7_50 (dec_of DX7_groupFollows 14 rfl) rfl rfl ?_
        refine v_iload (dec_of DX7_groupFollows 15 rfl) rfl ?_
        refine vi_const (dec_of DX7_groupFollows 16 rfl) ?_
        refine v_V2r (c8_get (by first | omega | exact hF _ _ | exact bnd_r _ _) (by first | omega | exact hF _ _ | exact bnd_r _ _) (by first | omega | exact hF _ _ | exact bnd_r _ _)) lX7_23 (dec_of DX7_groupFollows 17 rfl) rfl rfl (by decide) (nle rfl) rfl ?_
        refine v_istore (dec_of DX7_groupFollows 18 rfl) (by decide) ?_
        dsimp only [List.set]
        refine v_iload (dec_of DX7_groupFollows 19 rfl) rfl ?_
        refine vi_if_ne (tgt := 62) (dec_of DX7_groupFollows 20 rfl) (by decide) (by first | omega | exact hF _ _ | exact bnd_r _ _) (fun c35 => absurd c35 (by omega)) (fun c35 => ?_)
        refine v_aload_n (dec_of DX7_groupFollows 21 rfl) rfl ?_
        refine v_iload_n (dec_of DX7_groupFollows 22 rfl) rfl ?_
        refine v_aload_n (dec_of DX7_groupFollows 23 rfl) rfl ?_
        refine v_get fX7_50 (dec_of DX7_groupFollows 24 rfl) rfl rfl ?_
        refine v_iload (dec_of DX7_groupFollows 25 rfl) rfl ?_
        refine vi_const (dec_of DX7_groupFollows 26 rfl) ?_
        refine v_V2r (c8_get (by first | omega | exact hF _ _ | exact bnd_r _ _) (by first | omega | exact hF _ _ | exact bnd_r _ _) (by first | omega | exact hF _ _ | exact bnd_r _ _)) lX7_23 (dec_of DX7_groupFollows 27 rfl) rfl rfl (by decide) (nle rfl) rfl ?_
        refine v_V2r (k_sameGroup hF hI (by unfold NR; exact hN) hv (hF _ _)) lX7_70 (dec_of DX7_groupFollows 28 rfl) rfl rfl (by decide) (nle rfl) rfl ?_
        refine vi_if_ne (tgt := 60) (dec_of DX7_groupFollows 29 rfl) (by decide) (by first | omega | exact hF _ _ | exact bnd_r _ _) (fun c53 => ?_) (fun c53 => absurd c53 (by omega))
        refine vi_const (dec_of DX7_groupFollows 32 rfl) ?_
        exact vi_retz (dec_of DX7_groupFollows 33 rfl) rfl (by first | omega | exact hF _ _ | exact bnd_r _ _) ⟨by decide, by decide⟩ (hz)
      · rw [if_neg hs] at hz
        refine v_iload (dec_of DX7_groupFollows 10 rfl) rfl ?_
        refine v_iload_n (dec_of DX7_groupFollows 11 rfl) rfl ?_
        refine vi_icmp_ge (tgt := 82) (dec_of DX7_groupFollows 12 rfl) (by decide) (by first | omega | exact hF _ _ | exact bnd_r _ _) (by first | omega | exact hF _ _ | exact bnd_r _ _) (fun c18 => absurd c18 (by omega)) (fun c18 => ?_)
        refine v_aload_n (dec_of DX7_groupFollows 13 rfl) rfl ?_
        refine v_get fX7_50 (dec_of DX7_groupFollows 14 rfl) rfl rfl ?_
        refine v_iload (dec_of DX7_groupFollows 15 rfl) rfl ?_
        refine vi_const (dec_of DX7_groupFollows 16 rfl) ?_
        refine v_V2r (c8_get (by first | omega | exact hF _ _ | exact bnd_r _ _) (by first | omega | exact hF _ _ | exact bnd_r _ _) (by first | omega | exact hF _ _ | exact bnd_r _ _)) lX7_23 (dec_of DX7_groupFollows 17 rfl) rfl rfl (by decide) (nle rfl) rfl ?_
        refine v_istore (dec_of DX7_groupFollows 18 rfl) (by decide) ?_
        dsimp only [List.set]
        refine v_iload (dec_of DX7_groupFollows 19 rfl) rfl ?_
        refine vi_if_ne (tgt := 62) (dec_of DX7_groupFollows 20 rfl) (by decide) (by first | omega | exact hF _ _ | exact bnd_r _ _) (fun c35 => absurd c35 (by omega)) (fun c35 => ?_)
        refine v_aload_n (dec_of DX7_groupFollows 21 rfl) rfl ?_
        refine v_iload_n (dec_of DX7_groupFollows 22 rfl) rfl ?_
        refine v_aload_n (dec_of DX7_groupFollows 23 rfl) rfl ?_
        refine v_get fX7_50 (dec_of DX7_groupFollows 24 rfl) rfl rfl ?_
        refine v_iload (dec_of DX7_groupFollows 25 rfl) rfl ?_
        refine vi_const (dec_of DX7_groupFollows 26 rfl) ?_
        refine v_V2r (c8_get (by first | omega | exact hF _ _ | exact bnd_r _ _) (by first | omega | exact hF _ _ | exact bnd_r _ _) (by first | omega | exact hF _ _ | exact bnd_r _ _)) lX7_23 (dec_of DX7_groupFollows 27 rfl) rfl rfl (by decide) (nle rfl) rfl ?_
        refine v_V2r (k_sameGroup hF hI (by unfold NR; exact hN) hv (hF _ _)) lX7_70 (dec_of DX7_groupFollows 28 rfl) rfl rfl (by decide) (nle rfl) rfl ?_
        refine vi_if_ne (tgt := 60) (dec_of DX7_groupFollows 29 rfl) (by decide) (by first | omega | exact hF _ _ | exact bnd_r _ _) (fun c53 => absurd c53 (by omega)) (fun c53 => ?_)
        refine vi_const (dec_of DX7_groupFollows 30 rfl) ?_
        refine v_goto (tgt := 61) (dec_of DX7_groupFollows 31 rfl) (by decide) ?_
        exact vi_retz (dec_of DX7_groupFollows 33 rfl) rfl (by first | omega | exact hF _ _ | exact bnd_r _ _) ⟨by decide, by decide⟩ (hz)
    · rw [gfL, if_neg k0] at hz
      by_cases k12 : F 8 (i * 2 + 0) = 1 ∨ F 8 (i * 2 + 0) = 2
      · rw [if_pos k12] at hz
        refine v_iload (dec_of DX7_groupFollows 10 rfl) rfl ?_
        refine v_iload_n (dec_of DX7_groupFollows 11 rfl) rfl ?_
        refine vi_icmp_ge (tgt := 82) (dec_of DX7_groupFollows 12 rfl) (by decide) (by first | omega | exact hF _ _ | exact bnd_r _ _) (by first | omega | exact hF _ _ | exact bnd_r _ _) (fun c18 => absurd c18 (by omega)) (fun c18 => ?_)
        refine v_aload_n (dec_of DX7_groupFollows 13 rfl) rfl ?_
        refine v_get fX7_50 (dec_of DX7_groupFollows 14 rfl) rfl rfl ?_
        refine v_iload (dec_of DX7_groupFollows 15 rfl) rfl ?_
        refine vi_const (dec_of DX7_groupFollows 16 rfl) ?_
        refine v_V2r (c8_get (by first | omega | exact hF _ _ | exact bnd_r _ _) (by first | omega | exact hF _ _ | exact bnd_r _ _) (by first | omega | exact hF _ _ | exact bnd_r _ _)) lX7_23 (dec_of DX7_groupFollows 17 rfl) rfl rfl (by decide) (nle rfl) rfl ?_
        refine v_istore (dec_of DX7_groupFollows 18 rfl) (by decide) ?_
        dsimp only [List.set]
        refine v_iload (dec_of DX7_groupFollows 19 rfl) rfl ?_
        refine vi_if_ne (tgt := 62) (dec_of DX7_groupFollows 20 rfl) (by decide) (by first | omega | exact hF _ _ | exact bnd_r _ _) (fun c35 => ?_) (fun c35 => absurd c35 (by omega))
        refine v_iload (dec_of DX7_groupFollows 34 rfl) rfl ?_
        refine vi_const (dec_of DX7_groupFollows 35 rfl) ?_
        refine vi_icmp_eq (tgt := 76) (dec_of DX7_groupFollows 36 rfl) (by decide) (by first | omega | exact hF _ _ | exact bnd_r _ _) (by first | omega | exact hF _ _ | exact bnd_r _ _) (fun c65 => ?_) (fun c65 => ?_)
        · refine vi_inc (dec_of DX7_groupFollows 42 rfl) rfl (by decide) ?_
          dsimp only [List.set]
          refine v_goto (tgt := 15) (dec_of DX7_groupFollows 43 rfl) (by decide) ?_
          refine Vd_fg 5 ?_
          dsimp only [List.set]
          exact ih (i + 1) (by omega) (by omega) (by omega) hz
        · refine v_iload (dec_of DX7_groupFollows 37 rfl) rfl ?_
          refine vi_const (dec_of DX7_groupFollows 38 rfl) ?_
          refine vi_icmp_eq (tgt := 76) (dec_of DX7_groupFollows 39 rfl) (by decide) (by first | omega | exact hF _ _ | exact bnd_r _ _) (by first | omega | exact hF _ _ | exact bnd_r _ _) (fun c71 => ?_) (fun c71 => ?_)
          · refine vi_inc (dec_of DX7_groupFollows 42 rfl) rfl (by decide) ?_
            dsimp only [List.set]
            refine v_goto (tgt := 15) (dec_of DX7_groupFollows 43 rfl) (by decide) ?_
            refine Vd_fg 5 ?_
            dsimp only [List.set]
            exact ih (i + 1) (by omega) (by omega) (by omega) hz
          · exact absurd k12 (by omega)
      · rw [if_neg k12] at hz
        refine v_iload (dec_of DX7_groupFollows 10 rfl) rfl ?_
        refine v_iload_n (dec_of DX7_groupFollows 11 rfl) rfl ?_
        refine vi_icmp_ge (tgt := 82) (dec_of DX7_groupFollows 12 rfl) (by decide) (by first | omega | exact hF _ _ | exact bnd_r _ _) (by first | omega | exact hF _ _ | exact bnd_r _ _) (fun c18 => absurd c18 (by omega)) (fun c18 => ?_)
        refine v_aload_n (dec_of DX7_groupFollows 13 rfl) rfl ?_
        refine v_get fX7_50 (dec_of DX7_groupFollows 14 rfl) rfl rfl ?_
        refine v_iload (dec_of DX7_groupFollows 15 rfl) rfl ?_
        refine vi_const (dec_of DX7_groupFollows 16 rfl) ?_
        refine v_V2r (c8_get (by first | omega | exact hF _ _ | exact bnd_r _ _) (by first | omega | exact hF _ _ | exact bnd_r _ _) (by first | omega | exact hF _ _ | exact bnd_r _ _)) lX7_23 (dec_of DX7_groupFollows 17 rfl) rfl rfl (by decide) (nle rfl) rfl ?_
        refine v_istore (dec_of DX7_groupFollows 18 rfl) (by decide) ?_
        dsimp only [List.set]
        refine v_iload (dec_of DX7_groupFollows 19 rfl) rfl ?_
        refine vi_if_ne (tgt := 62) (dec_of DX7_groupFollows 20 rfl) (by decide) (by first | omega | exact hF _ _ | exact bnd_r _ _) (fun c35 => ?_) (fun c35 => absurd c35 (by omega))
        refine v_iload (dec_of DX7_groupFollows 34 rfl) rfl ?_
        refine vi_const (dec_of DX7_groupFollows 35 rfl) ?_
        refine vi_icmp_eq (tgt := 76) (dec_of DX7_groupFollows 36 rfl) (by decide) (by first | omega | exact hF _ _ | exact bnd_r _ _) (by first | omega | exact hF _ _ | exact bnd_r _ _) (fun c65 => absurd c65 (by omega)) (fun c65 => ?_)
        refine v_iload (dec_of DX7_groupFollows 37 rfl) rfl ?_
        refine vi_const (dec_of DX7_groupFollows 38 rfl) ?_
        refine vi_icmp_eq (tgt := 76) (dec_of DX7_groupFollows 39 rfl) (by decide) (by first | omega | exact hF _ _ | exact bnd_r _ _) (by first | omega | exact hF _ _ | exact bnd_r _ _) (fun c71 => absurd c71 (by omega)) (fun c71 => ?_)
        refine vi_const (dec_of DX7_groupFollows 40 rfl) ?_
        exact vi_retz (dec_of DX7_groupFollows 41 rfl) rfl (by first | omega | exact hF _ _ | exact bnd_r _ _) ⟨by decide, by decide⟩ (hz)
set_option maxRecDepth 100000 in
set_option maxHeartbeats 4000000 in
theorem k_gf {T : XW} {I N : Nat → Int} {F : Nat → Int → Int} (hF : FR F) (hI : IR I) (hN : NR N) {j e : Int} (hj : 0 ≤ j ∧ j < N 8) (he : 0 ≤ e ∧ e ≤ N 8) : Sd (rm 2 45 0 0) mX7_groupFollows [.ref 5, J j, J e] (cls I N F ++ T) (cls I N F ++ T) (some (J (gfL N F (F 8 (j * 2 + 1)) (e - (j + 1)).toNat (j + 1)))) := by
  unfold Sd
  unfold NR at hN
  refine sp_of (ls := [some (.ref 5), some (J j), some (J e), none, none, none]) (by decide) (nle rfl) rfl rfl ?_
  refine v_aload_n (dec_of DX7_groupFollows 0 rfl) rfl ?_
  refine v_get fX7_50 (dec_of DX7_groupFollows 1 rfl) rfl rfl ?_
  refine v_iload_n (dec_of DX7_groupFollows 2 rfl) rfl ?_
  refine vi_const (dec_of DX7_groupFollows 3 rfl) ?_
  refine v_V2r (c8_get (by first | omega | exact bnd_r _ _ | exact hF _ _ | exact hI _ | exact hG _ _ | exact hK _ | (simp [uN] <;> omega)) (by first | omega | exact bnd_r _ _ | exact hF _ _ | exact hI _ | exact hG _ _ | exact hK _ | (simp [uN] <;> omega)) (by first | omega | exact bnd_r _ _ | exact hF _ _ | exact hI _ | exact hG _ _ | exact hK _ | (simp [uN] <;> omega))) lX7_23 (dec_of DX7_groupFollows 4 rfl) rfl rfl (by decide) (nle rfl) rfl ?_
  refine v_istore_n (dec_of DX7_groupFollows 5 rfl) (by decide) ?_
  dsimp only [List.set]
  refine v_iload_n (dec_of DX7_groupFollows 6 rfl) rfl ?_
  refine vi_const (dec_of DX7_groupFollows 7 rfl) ?_
  refine vi_add (dec_of DX7_groupFollows 8 rfl) ?_
  refine v_istore (dec_of DX7_groupFollows 9 rfl) (by decide) ?_
  dsimp only [List.set]
  exact k_gf_loop hF hI (by unfold NR; exact hN) he (hF _ _) (e - (j + 1)).toNat (j + 1) (by omega) (by omega) (by omega) ⟨rfl, rfl⟩
set_option maxRecDepth 100000 in
set_option maxHeartbeats 4000000 in
theorem k_nd {T : XW} {I N : Nat → Int} {F : Nat → Int → Int} (hF : FR F) (hI : IR I) (hN : NR N) {j e : Int} (hj : 0 ≤ j ∧ j < N 8) (he : 0 ≤ e ∧ e ≤ N 8) : Sd (rm 3 70 0 0) mX7_needsSlash [.ref 5, J j, J e] (cls I N F ++ T) (cls I N F ++ T) (some (J (ndS N F j e))) := by
  unfold Sd
  unfold NR at hN
  refine sp_of (ls := [some (.ref 5), some (J j), some (J e), none]) (by decide) (nle rfl) rfl rfl ?_
  refine v_aload_n (dec_of DX7_needsSlash 0 rfl) rfl ?_
  refine v_get fX7_50 (dec_of DX7_needsSlash 1 rfl) rfl rfl ?_
  refine v_iload_n (dec_of DX7_needsSlash 2 rfl) rfl ?_
  refine vi_const (dec_of DX7_needsSlash 3 rfl) ?_
  refine v_V2r (c8_get (by first | omega | exact hF _ _) (by first | omega | exact hF _ _) (by first | omega | exact hF _ _)) lX7_23 (dec_of DX7_needsSlash 4 rfl) rfl rfl (by decide) (nle rfl) rfl ?_
  refine v_istore_n (dec_of DX7_needsSlash 5 rfl) (by decide) ?_
  dsimp only [List.set]
  refine v_iload_n (dec_of DX7_needsSlash 6 rfl) rfl ?_
  refine vi_if_ne (tgt := 21) (dec_of DX7_needsSlash 7 rfl) (by decide) (by first | omega | exact hF _ _) (fun c11 => ?_) (fun c11 => ?_)
  · refine v_iload_n (dec_of DX7_needsSlash 13 rfl) rfl ?_
    refine vi_const (dec_of DX7_needsSlash 14 rfl) ?_
    refine vi_icmp_ne (tgt := 80) (dec_of DX7_needsSlash 15 rfl) (by decide) (by first | omega | exact hF _ _) (by first | omega | exact hF _ _) (fun c23 => ?_) (fun c23 => ?_)
    · rw [ndS, if_neg c11, if_neg (by omega)]
      refine vi_const (dec_of DX7_needsSlash 48 rfl) ?_
      exact vi_retz (dec_of DX7_needsSlash 49 rfl) rfl (by first | omega | exact hF _ _) ⟨by decide, by decide⟩ (⟨rfl, rfl⟩)
    · refine v_aload_n (dec_of DX7_needsSlash 16 rfl) rfl ?_
      refine v_get fX7_50 (dec_of DX7_needsSlash 17 rfl) rfl rfl ?_
      refine v_iload_n (dec_of DX7_needsSlash 18 rfl) rfl ?_
      refine vi_const (dec_of DX7_needsSlash 19 rfl) ?_
      refine v_V2r (c8_get (by first | omega | exact hF _ _) (by first | omega | exact hF _ _) (by first | omega | exact hF _ _)) lX7_23 (dec_of DX7_needsSlash 20 rfl) rfl rfl (by decide) (nle rfl) rfl ?_
      refine vi_const (dec_of DX7_needsSlash 21 rfl) ?_
      refine vi_icmp_ne (tgt := 80) (dec_of DX7_needsSlash 22 rfl) (by decide) (by first | omega | exact hF _ _) (by first | omega | exact hF _ _) (fun c36 => ?_) (fun c36 => ?_)
      · rw [ndS, if_neg c11, if_neg (by omega)]
        refine vi_const (dec_of DX7_needsSlash 48 rfl) ?_
        exact vi_retz (dec_of DX7_needsSlash 49 rfl) rfl (by first | omega | exact hF _ _) ⟨by decide, by decide⟩ (⟨rfl, rfl⟩)
      · refine v_iload_n (dec_of DX7_needsSlash 23 rfl) rfl ?_
        refine vi_const (dec_of DX7_needsSlash 24 rfl) ?_
        refine vi_add (dec_of DX7_needsSlash 25 rfl) ?_
        refine v_iload_n (dec_of DX7_needsSlash 26 rfl) rfl ?_
        refine vi_icmp_ge (tgt := 80) (dec_of DX7_needsSlash 27 rfl) (by decide) (by first | omega | exact hF _ _) (by first | omega | exact hF _ _) (fun c43 => ?_) (fun c43 => ?_)
        · rw [ndS, if_neg c11, if_neg (by omega)]
          refine vi_const (dec_of DX7_needsSlash 48 rfl) ?_
          exact vi_retz (dec_of DX7_needsSlash 49 rfl) rfl (by first | omega | exact hF _ _) ⟨by decide, by decide⟩ (⟨rfl, rfl⟩)
        · refine v_aload_n (dec_of DX7_needsSlash 28 rfl) rfl ?_
          refine v_get fX7_50 (dec_of DX7_needsSlash 29 rfl) rfl rfl ?_
          refine v_iload_n (dec_of DX7_needsSlash 30 rfl) rfl ?_
          refine vi_const (dec_of DX7_needsSlash 31 rfl) ?_
          refine vi_add (dec_of DX7_needsSlash 32 rfl) ?_
          refine vi_const (dec_of DX7_needsSlash 33 rfl) ?_
          refine v_V2r (c8_get (by first | omega | exact hF _ _) (by first | omega | exact hF _ _) (by first | omega | exact hF _ _)) lX7_23 (dec_of DX7_needsSlash 34 rfl) rfl rfl (by decide) (nle rfl) rfl ?_
          refine vi_const (dec_of DX7_needsSlash 35 rfl) ?_
          refine vi_icmp_ne (tgt := 80) (dec_of DX7_needsSlash 36 rfl) (by decide) (by first | omega | exact hF _ _) (by first | omega | exact hF _ _) (fun c58 => ?_) (fun c58 => ?_)
          · rw [ndS, if_neg c11, if_neg (by omega)]
            refine vi_const (dec_of DX7_needsSlash 48 rfl) ?_
            exact vi_retz (dec_of DX7_needsSlash 49 rfl) rfl (by first | omega | exact hF _ _) ⟨by decide, by decide⟩ (⟨rfl, rfl⟩)
          · refine v_aload_n (dec_of DX7_needsSlash 37 rfl) rfl ?_
            refine v_get fX7_50 (dec_of DX7_needsSlash 38 rfl) rfl rfl ?_
            refine v_iload_n (dec_of DX7_needsSlash 39 rfl) rfl ?_
            refine vi_const (dec_of DX7_needsSlash 40 rfl) ?_
            refine vi_add (dec_of DX7_needsSlash 41 rfl) ?_
            refine vi_const (dec_of DX7_needsSlash 42 rfl) ?_
            refine v_V2r (c8_get (by first | omega | exact hF _ _) (by first | omega | exact hF _ _) (by first | omega | exact hF _ _)) lX7_23 (dec_of DX7_needsSlash 43 rfl) rfl rfl (by decide) (nle rfl) rfl ?_
            refine vi_const (dec_of DX7_needsSlash 44 rfl) ?_
            refine vi_icmp_lt (tgt := 80) (dec_of DX7_needsSlash 45 rfl) (by decide) (by first | omega | exact hF _ _) (by first | omega | exact hF _ _) (fun c73 => ?_) (fun c73 => ?_)
            · rw [ndS, if_neg c11, if_neg (by omega)]
              refine vi_const (dec_of DX7_needsSlash 48 rfl) ?_
              exact vi_retz (dec_of DX7_needsSlash 49 rfl) rfl (by first | omega | exact hF _ _) ⟨by decide, by decide⟩ (⟨rfl, rfl⟩)
            · rw [ndS, if_neg c11, if_pos (by omega)]
              refine vi_const (dec_of DX7_needsSlash 46 rfl) ?_
              refine v_goto (tgt := 81) (dec_of DX7_needsSlash 47 rfl) (by decide) ?_
              exact vi_retz (dec_of DX7_needsSlash 49 rfl) rfl (by first | omega | exact hF _ _) ⟨by decide, by decide⟩ (⟨rfl, rfl⟩)
  · refine v_aload_n (dec_of DX7_needsSlash 8 rfl) rfl ?_
    refine v_iload_n (dec_of DX7_needsSlash 9 rfl) rfl ?_
    refine v_iload_n (dec_of DX7_needsSlash 10 rfl) rfl ?_
    refine v_S3r (k_gf hF hI (by unfold NR; exact hN) hj he) lX7_67 (dec_of DX7_needsSlash 11 rfl) (by decide) (nle rfl) rfl ?_
    exact vi_retz (dec_of DX7_needsSlash 12 rfl) rfl (gfL_r _ _ _ _ _) ⟨by decide, by decide⟩ (⟨rfl, by rw [ndS, if_pos c11]⟩)
theorem sgnOK_ap {N : Nat → Int} {F : Nat → Int → Int} {L : List Int} {j : Int} (h : sgnOK N F j) : sgnOK (apN N L) (apF N F L) j := h
theorem wSgn_ap {N : Nat → Int} {F : Nat → Int → Int} {L : List Int} {j : Int} : wSgn (apF N F L) j = wSgn F j := rfl
theorem gfL_ap {N : Nat → Int} {F : Nat → Int → Int} {L : List Int} {v : Int} : ∀ (m : Nat) (i : Int), gfL (apN N L) (apF N F L) v m i = gfL N F v m i := by
  intro m
  induction m with
  | zero => intro i; rfl
  | succ m ih => intro i; rw [gfL, gfL, ih]; rfl
theorem ndS_ap {N : Nat → Int} {F : Nat → Int → Int} {L : List Int} {j e : Int} : ndS (apN N L) (apF N F L) j e = ndS N F j e := by
  have h := gfL_ap (N := N) (F := F) (L := L) (v := F 8 (j * 2 + 1)) (e - (j + 1)).toNat (j + 1)
  unfold ndS
  rw [show apF N F L 8 = F 8 from rfl, h]
theorem wSgs_ap {N : Nat → Int} {F : Nat → Int → Int} {L : List Int} {e : Int} : ∀ (m : Nat) (j : Int), wSgs (apN N L) (apF N F L) e m j = wSgs N F e m j := by
  intro m
  induction m with
  | zero => intro i; rfl
  | succ m ih => intro i; rw [wSgs, wSgs, ih, wSgn_ap, wSl, wSl, ndS_ap]
theorem ndS_r (N : Nat → Int) (F : Nat → Int → Int) (j e : Int) : ndS N F j e = 0 ∨ ndS N F j e = 1 := by
  unfold ndS
  split
  · exact gfL_r _ _ _ _ _
  · split <;> omega
set_option maxRecDepth 100000 in
set_option maxHeartbeats 4000000 in
theorem k_ws_loop {T : XW} {I : Nat → Int} (hI : IR I) {n0 : Nat} {Z : XW → Option Value → Prop} {s f e : Int} : ∀ (m : Nat) (j : Int) (N : Nat → Int) (F : Nat → Int → Int), FR F → NR N → (0 ≤ e ∧ e ≤ N 8) → 0 ≤ j → j + m = e → (∀ i : Int, j ≤ i → i < e → sgnOK N F i) → N 1 + ((wSgs N F e m j).length : Int) ≤ 1500 → (∀ a ∈ wSgs N F e m j, -2147483648 ≤ a ∧ a < 2147483648) → Z (cls I (apN N (wSgs N F e m j)) (apF N F (wSgs N F e m j)) ++ T) none → Vd (rm 4 93 0 0) [] mX7_writeSigns n0 Z 0 0 28 [some (.ref 5), some (J s), some (.ref 3), some (J f), some (J e), some (J j)] [] (cls I N F ++ T) := by
  intro m
  induction m with
  | zero =>
    intro j N F hF hN he h0 h1 hs hl hr hz
    unfold NR at hN
    refine v_iload (dec_of DX7_writeSigns 16 rfl) rfl ?_
    refine v_iload (dec_of DX7_writeSigns 17 rfl) rfl ?_
    refine vi_icmp_ge (tgt := 66) (dec_of DX7_writeSigns 18 rfl) (by decide) (by first | omega | exact bnd_r _ _ | exact hF _ _ | exact hI _ | exact hG _ _ | exact hK _ | (simp [uN] <;> omega)) (by first | omega | exact bnd_r _ _ | exact hF _ _ | exact hI _ | exact hG _ _ | exact hK _ | (simp [uN] <;> omega)) (fun c32 => ?_) (fun c32 => absurd c32 (by omega))
    exact vi_vret (dec_of DX7_writeSigns 34 rfl) rfl ⟨by decide, by decide⟩ (by rw [wSgs, ap_nil] at hz; exact hz)
  | succ m ih =>
    intro j N F hF hN he h0 h1 hs hl hr hz
    have hN0 := hN
    unfold NR at hN
    rw [wSgs] at hl hr hz
    simp only [List.length_append] at hl
    have hra : ∀ a ∈ wSgn F j, -2147483648 ≤ a ∧ a < 2147483648 := fun a h => hr a (List.mem_append_left _ h)
    have hF1 : FR (apF N F (wSgn F j)) := FRap hF hra
    have hN1 : NR (apN N (wSgn F j)) := NRap hN0 (by omega)
    by_cases hd : ndS N F j e = 0
    · have eS : wSl N F j e = [] := by rw [wSl, if_pos hd]
      rw [eS] at hl hr hz
      simp only [List.length_nil, List.nil_append] at hl hr hz
      refine v_iload (dec_of DX7_writeSigns 16 rfl) rfl ?_
      refine v_iload (dec_of DX7_writeSigns 17 rfl) rfl ?_
      refine vi_icmp_ge (tgt := 66) (dec_of DX7_writeSigns 18 rfl) (by decide) (by first | omega | (have := ndS_r N F j e; omega)) (by first | omega | (have := ndS_r N F j e; omega)) (fun c32 => absurd c32 (by omega)) (fun c32 => ?_)
      refine v_aload_n (dec_of DX7_writeSigns 19 rfl) rfl ?_
      refine v_iload (dec_of DX7_writeSigns 20 rfl) rfl ?_
      refine v_aload_n (dec_of DX7_writeSigns 21 rfl) rfl ?_
      refine v_S3v (k_wSgn hF hI hN0 (by omega) (hs j (by omega) (by omega)) (by omega) hra) lX7_43 (dec_of DX7_writeSigns 22 rfl) (by decide) (nle rfl) rfl ?_
      refine v_aload_n (dec_of DX7_writeSigns 23 rfl) rfl ?_
      refine v_iload (dec_of DX7_writeSigns 24 rfl) rfl ?_
      refine v_iload (dec_of DX7_writeSigns 25 rfl) rfl ?_
      refine v_S3r (k_nd hF1 hI hN1 (j := j) (e := e) (show 0 ≤ j ∧ j < N 8 by omega) he) lX7_46 (dec_of DX7_writeSigns 26 rfl) (by decide) (nle rfl) rfl ?_
      rw [ndS_ap]
      refine vi_if_eq (tgt := 60) (dec_of DX7_writeSigns 27 rfl) (by decide) (by first | omega | (have := ndS_r N F j e; omega)) (fun c50 => ?_) (fun c50 => absurd c50 (by omega))
      refine vi_inc (dec_of DX7_writeSigns 32 rfl) rfl (by decide) ?_
      dsimp only [List.set]
      refine v_goto (tgt := 28) (dec_of DX7_writeSigns 33 rfl) (by decide) ?_
      refine ih (j + 1) _ _ hF1 hN1 he (by omega) (by omega) (fun i h2 h3 => sgnOK_ap (hs i (by omega) (by omega))) (by rw [wSgs_ap]; simp only [apN, uN_s]; omega) (fun a h => hr a (List.mem_append_right _ (by rw [wSgs_ap] at h; exact h))) ?_
      rw [wSgs_ap, ap2]
      exact hz
    · have eS : wSl N F j e = [47] := by rw [wSl, if_neg hd]
      rw [eS] at hl hr hz
      simp only [List.length_cons, List.length_nil] at hl
      have hF2 : FR (apF N F (wSgn F j ++ [47])) := FRap hF (fun a h => hr a (by rw [← List.append_assoc]; exact List.mem_append_left _ h))
      have hN2 : NR (apN N (wSgn F j ++ [47])) := NRap hN0 (by simp only [List.length_append, List.length_cons, List.length_nil]; omega)
      refine v_iload (dec_of DX7_writeSigns 16 rfl) rfl ?_
      refine v_iload (dec_of DX7_writeSigns 17 rfl) rfl ?_
      refine vi_icmp_ge (tgt := 66) (dec_of DX7_writeSigns 18 rfl) (by decide) (by first | omega | (have := ndS_r N F j e; omega)) (by first | omega | (have := ndS_r N F j e; omega)) (fun c32 => absurd c32 (by omega)) (fun c32 => ?_)
      refine v_aload_n (dec_of DX7_writeSigns 19 rfl) rfl ?_
      refine v_iload (dec_of DX7_writeSigns 20 rfl) rfl ?_
      refine v_aload_n (dec_of DX7_writeSigns 21 rfl) rfl ?_
      refine v_S3v (k_wSgn hF hI hN0 (by omega) (hs j (by omega) (by omega)) (by omega) hra) lX7_43 (dec_of DX7_writeSigns 22 rfl) (by decide) (nle rfl) rfl ?_
      refine v_aload_n (dec_of DX7_writeSigns 23 rfl) rfl ?_
      refine v_iload (dec_of DX7_writeSigns 24 rfl) rfl ?_
      refine v_iload (dec_of DX7_writeSigns 25 rfl) rfl ?_
      refine v_S3r (k_nd hF1 hI hN1 (j := j) (e := e) (show 0 ≤ j ∧ j < N 8 by omega) he) lX7_46 (dec_of DX7_writeSigns 26 rfl) (by decide) (nle rfl) rfl ?_
      rw [ndS_ap]
      refine vi_if_eq (tgt := 60) (dec_of DX7_writeSigns 27 rfl) (by decide) (by first | omega | (have := ndS_r N F j e; omega)) (fun c50 => absurd c50 (by omega)) (fun c50 => ?_)
      refine v_aload_n (dec_of DX7_writeSigns 28 rfl) rfl ?_
      refine vi_bi (dec_of DX7_writeSigns 29 rfl) (by decide) ?_
      refine v_V1r (cw_add (by simp only [apN, uN_s, List.length_append, List.length_cons, List.length_nil]; omega)) lX7_27 (dec_of DX7_writeSigns 30 rfl) rfl rfl (by decide) (nle rfl) rfl ?_
      refine Vd_w ap2 ?_
      refine v_pop (dec_of DX7_writeSigns 31 rfl) rfl ?_
      refine vi_inc (dec_of DX7_writeSigns 32 rfl) rfl (by decide) ?_
      dsimp only [List.set]
      refine v_goto (tgt := 28) (dec_of DX7_writeSigns 33 rfl) (by decide) ?_
      refine ih (j + 1) _ _ hF2 hN2 he (by omega) (by omega) (fun i h2 h3 => sgnOK_ap (hs i (by omega) (by omega))) (by rw [wSgs_ap]; simp only [apN, uN_s, List.length_append, List.length_cons, List.length_nil]; omega) (fun a h => hr a (List.mem_append_right _ (List.mem_append_right _ (by rw [wSgs_ap] at h; exact h)))) ?_
      rw [wSgs_ap, ap2, List.append_assoc]
      exact hz
theorem wLet_ap {N : Nat → Int} {F : Nat → Int → Int} {L : List Int} : ∀ (m : Nat) (j : Int), wLet (apF N F L) m j = wLet F m j := by
  intro m
  induction m with
  | zero => intro i; rfl
  | succ m ih => intro i; rw [wLet, wLet, ih]; rfl
set_option maxRecDepth 100000 in
set_option maxHeartbeats 4000000 in
theorem k_wl_loop {T : XW} {I : Nat → Int} (hI : IR I) {n0 : Nat} {Z : XW → Option Value → Prop} {s f e : Int} : ∀ (m : Nat) (j : Int) (N : Nat → Int) (F : Nat → Int → Int), FR F → NR N → (0 ≤ e ∧ e ≤ N 2) → 0 ≤ j → j + m = e → N 1 + (m : Int) ≤ 1500 → Z (cls I (apN N (wLet F m j)) (apF N F (wLet F m j)) ++ T) none → Vd (rm 1 23 0 0) [] mX7_writeLetters n0 Z 0 0 27 [some (.ref 5), some (J s), some (.ref 3), some (J f), some (J e), some (J j)] [] (cls I N F ++ T) := by
  intro m
  induction m with
  | zero =>
    intro j N F hF hN he h0 h1 hl hz
    unfold NR at hN
    refine v_iload (dec_of DX7_writeLetters 16 rfl) rfl ?_
    refine v_iload (dec_of DX7_writeLetters 17 rfl) rfl ?_
    refine vi_icmp_ge (tgt := 55) (dec_of DX7_writeLetters 18 rfl) (by decide) (by first | omega | exact bnd_r _ _ | exact hF _ _ | exact hI _ | exact hG _ _ | exact hK _ | (simp [uN] <;> omega)) (by first | omega | exact bnd_r _ _ | exact hF _ _ | exact hI _ | exact hG _ _ | exact hK _ | (simp [uN] <;> omega)) (fun c31 => ?_) (fun c31 => absurd c31 (by omega))
    exact vi_vret (dec_of DX7_writeLetters 29 rfl) rfl ⟨by decide, by decide⟩ (by rw [wLet, ap_nil] at hz; exact hz)
  | succ m ih =>
    intro j N F hF hN he h0 h1 hl hz
    have hN0 := hN
    unfold NR at hN
    have hF1 : FR (apF N F [F 2 j]) := FRap hF (fun a h => by rw [List.mem_singleton.mp h]; exact hF 2 j)
    have hN1 : NR (apN N [F 2 j]) := NRap hN0 (by simp only [List.length_cons, List.length_nil]; omega)
    refine v_iload (dec_of DX7_writeLetters 16 rfl) rfl ?_
    refine v_iload (dec_of DX7_writeLetters 17 rfl) rfl ?_
    refine vi_icmp_ge (tgt := 55) (dec_of DX7_writeLetters 18 rfl) (by decide) (by first | omega | exact bnd_r _ _ | exact hF _ _ | exact hI _ | exact hG _ _ | exact hK _ | (simp [uN] <;> omega)) (by first | omega | exact bnd_r _ _ | exact hF _ _ | exact hI _ | exact hG _ _ | exact hK _ | (simp [uN] <;> omega)) (fun c31 => absurd c31 (by omega)) (fun c31 => ?_)
    refine v_aload_n (dec_of DX7_writeLetters 19 rfl) rfl ?_
    refine v_aload_n (dec_of DX7_writeLetters 20 rfl) rfl ?_
    refine v_get fX7_40 (dec_of DX7_writeLetters 21 rfl) rfl rfl ?_
    refine v_iload (dec_of DX7_writeLetters 22 rfl) rfl ?_
    refine vi_const (dec_of DX7_writeLetters 23 rfl) ?_
    refine v_V2r (c2_get (by first | omega | exact bnd_r _ _ | exact hF _ _ | exact hI _ | exact hG _ _ | exact hK _ | (simp [uN] <;> omega)) (by first | omega | exact bnd_r _ _ | exact hF _ _ | exact hI _ | exact hG _ _ | exact hK _ | (simp [uN] <;> omega))) lX7_23 (dec_of DX7_writeLetters 24 rfl) rfl rfl (by decide) (nle rfl) rfl ?_
    refine v_V1r (cw_add (by omega)) lX7_27 (dec_of DX7_writeLetters 25 rfl) rfl rfl (by decide) (nle rfl) rfl ?_
    refine v_pop (dec_of DX7_writeLetters 26 rfl) rfl ?_
    refine vi_inc (dec_of DX7_writeLetters 27 rfl) rfl (by decide) ?_
    dsimp only [List.set]
    refine v_goto (tgt := 27) (dec_of DX7_writeLetters 28 rfl) (by decide) ?_
    refine ih (j + 1) _ _ hF1 hN1 he (by omega) (by omega) (by simp only [apN, uN_s, List.length_cons, List.length_nil]; omega) ?_
    rw [wLet_ap, ap2]
    exact hz
