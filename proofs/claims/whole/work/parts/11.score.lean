/-! Score, Reader: small methods (printed by wip/tools/gen_c1.py) -/
set_option maxRecDepth 100000 in
set_option maxHeartbeats 4000000 in
theorem k_hasMark {T : XW} {I N : Nat → Int} {F : Nat → Int → Int} (hF : FR F) (hI : IR I) (hN : NR N) {a b : Int} (ha : 0 ≤ a ∧ a < N 4) : Sd (rm 1 23 0 0) mX3_hasMark [.ref 5, J a, J b] (cls I N F ++ T) (cls I N F ++ T) (some (J (if bnd (F 4 (a * 8 + 1)) b = 0 then 0 else 1))) := by
  unfold Sd
  unfold NR at hN
  refine sp_of (ls := [some (.ref 5), some (J a), some (J b)]) (by decide) (nle rfl) rfl rfl ?_
  refine v_aload_n (dec_of DX3_hasMark 0 rfl) rfl ?_
  refine v_get fX3_23 (dec_of DX3_hasMark 1 rfl) rfl rfl ?_
  refine v_iload_n (dec_of DX3_hasMark 2 rfl) rfl ?_
  refine vi_const (dec_of DX3_hasMark 3 rfl) ?_
  refine v_V2r (c4_get (by first | omega | exact bnd_r _ _ | exact hF _ _ | exact hI _ | exact hG _ _ | exact hK _ | (simp [uN] <;> omega)) (by first | omega | exact bnd_r _ _ | exact hF _ _ | exact hI _ | exact hG _ _ | exact hK _ | (simp [uN] <;> omega)) (by first | omega | exact bnd_r _ _ | exact hF _ _ | exact hI _ | exact hG _ _ | exact hK _ | (simp [uN] <;> omega))) lX3_53 (dec_of DX3_hasMark 4 rfl) rfl rfl (by decide) (nle rfl) rfl ?_
  refine v_iload_n (dec_of DX3_hasMark 5 rfl) rfl ?_
  refine vi_and (dec_of DX3_hasMark 6 rfl) ?_
  refine vi_if_eq (tgt := 18) (dec_of DX3_hasMark 7 rfl) (by decide) (by first | omega | exact bnd_r _ _ | exact hF _ _ | exact hI _ | exact hG _ _ | exact hK _ | (simp [uN] <;> omega)) (fun c11 => ?_) (fun c11 => ?_)
  · rw [if_pos c11]
    refine vi_const (dec_of DX3_hasMark 10 rfl) ?_
    exact vi_retz (dec_of DX3_hasMark 11 rfl) rfl (by first | omega | exact bnd_r _ _ | exact hF _ _ | exact hI _ | exact hG _ _ | exact hK _ | (simp [uN] <;> omega)) ⟨by decide, by decide⟩ (⟨rfl, rfl⟩)
  · rw [if_neg c11]
    refine vi_const (dec_of DX3_hasMark 8 rfl) ?_
    refine v_goto (tgt := 19) (dec_of DX3_hasMark 9 rfl) (by decide) ?_
    exact vi_retz (dec_of DX3_hasMark 11 rfl) rfl (by first | omega | exact bnd_r _ _ | exact hF _ _ | exact hI _ | exact hG _ _ | exact hK _ | (simp [uN] <;> omega)) ⟨by decide, by decide⟩ (⟨rfl, rfl⟩)
set_option maxRecDepth 100000 in
set_option maxHeartbeats 4000000 in
theorem k_sameGroup {T : XW} {I N : Nat → Int} {F : Nat → Int → Int} (hF : FR F) (hI : IR I) (hN : NR N) {a b : Int} (ha : -2147483648 ≤ a ∧ a < 2147483648) (hb : -2147483648 ≤ b ∧ b < 2147483648) : Sd (rm 1 23 0 0) mX3_sameGroup [.ref 5, J a, J b] (cls I N F ++ T) (cls I N F ++ T) (some (J (if (0 ≤ a ∧ a < N 4) ∧ (0 ≤ b ∧ b < N 4) ∧ F 4 (a * 8 + 3) = F 4 (b * 8 + 3) then 1 else 0))) := by
  unfold Sd
  unfold NR at hN
  refine sp_of (ls := [some (.ref 5), some (J a), some (J b)]) (by decide) (nle rfl) rfl rfl ?_
  refine v_aload_n (dec_of DX3_sameGroup 0 rfl) rfl ?_
  refine v_get fX3_23 (dec_of DX3_sameGroup 1 rfl) rfl rfl ?_
  refine v_iload_n (dec_of DX3_sameGroup 2 rfl) rfl ?_
  refine v_V1r (c4_has (by first | omega | exact bnd_r _ _ | exact hF _ _ | exact hI _ | exact hG _ _ | exact hK _ | (simp [uN] <;> omega)) (by first | omega | exact bnd_r _ _ | exact hF _ _ | exact hI _ | exact hG _ _ | exact hK _ | (simp [uN] <;> omega))) lX3_57 (dec_of DX3_sameGroup 3 rfl) rfl rfl (by decide) (nle rfl) rfl ?_
  refine vi_if_eq (tgt := 47) (dec_of DX3_sameGroup 4 rfl) (by decide) (by first | omega | exact bnd_r _ _ | exact hF _ _ | exact hI _ | exact hG _ _ | exact hK _ | (simp [uN] <;> omega)) (fun c8 => ?_) (fun c8 => ?_)
  · rw [if_neg (by omega)]
    refine vi_const (dec_of DX3_sameGroup 23 rfl) ?_
    exact vi_retz (dec_of DX3_sameGroup 24 rfl) rfl (by first | omega | exact bnd_r _ _ | exact hF _ _ | exact hI _ | exact hG _ _ | exact hK _ | (simp [uN] <;> omega)) ⟨by decide, by decide⟩ (⟨rfl, rfl⟩)
  · refine v_aload_n (dec_of DX3_sameGroup 5 rfl) rfl ?_
    refine v_get fX3_23 (dec_of DX3_sameGroup 6 rfl) rfl rfl ?_
    refine v_iload_n (dec_of DX3_sameGroup 7 rfl) rfl ?_
    refine v_V1r (c4_has (by first | omega | exact bnd_r _ _ | exact hF _ _ | exact hI _ | exact hG _ _ | exact hK _ | (simp [uN] <;> omega)) (by first | omega | exact bnd_r _ _ | exact hF _ _ | exact hI _ | exact hG _ _ | exact hK _ | (simp [uN] <;> omega))) lX3_57 (dec_of DX3_sameGroup 8 rfl) rfl rfl (by decide) (nle rfl) rfl ?_
    refine vi_if_eq (tgt := 47) (dec_of DX3_sameGroup 9 rfl) (by decide) (by first | omega | exact bnd_r _ _ | exact hF _ _ | exact hI _ | exact hG _ _ | exact hK _ | (simp [uN] <;> omega)) (fun c19 => ?_) (fun c19 => ?_)
    · rw [if_neg (by omega)]
      refine vi_const (dec_of DX3_sameGroup 23 rfl) ?_
      exact vi_retz (dec_of DX3_sameGroup 24 rfl) rfl (by first | omega | exact bnd_r _ _ | exact hF _ _ | exact hI _ | exact hG _ _ | exact hK _ | (simp [uN] <;> omega)) ⟨by decide, by decide⟩ (⟨rfl, rfl⟩)
    · refine v_aload_n (dec_of DX3_sameGroup 10 rfl) rfl ?_
      refine v_get fX3_23 (dec_of DX3_sameGroup 11 rfl) rfl rfl ?_
      refine v_iload_n (dec_of DX3_sameGroup 12 rfl) rfl ?_
      refine vi_const (dec_of DX3_sameGroup 13 rfl) ?_
      refine v_V2r (c4_get (by first | omega | exact bnd_r _ _ | exact hF _ _ | exact hI _ | exact hG _ _ | exact hK _ | (simp [uN] <;> omega)) (by first | omega | exact bnd_r _ _ | exact hF _ _ | exact hI _ | exact hG _ _ | exact hK _ | (simp [uN] <;> omega)) (by first | omega | exact bnd_r _ _ | exact hF _ _ | exact hI _ | exact hG _ _ | exact hK _ | (simp [uN] <;> omega))) lX3_53 (dec_of DX3_sameGroup 14 rfl) rfl rfl (by decide) (nle rfl) rfl ?_
      refine v_aload_n (dec_of DX3_sameGroup 15 rfl) rfl ?_
      refine v_get fX3_23 (dec_of DX3_sameGroup 16 rfl) rfl rfl ?_
      refine v_iload_n (dec_of DX3_sameGroup 17 rfl) rfl ?_
      refine vi_const (dec_of DX3_sameGroup 18 rfl) ?_
      refine v_V2r (c4_get (by first | omega | exact bnd_r _ _ | exact hF _ _ | exact hI _ | exact hG _ _ | exact hK _ | (simp [uN] <;> omega)) (by first | omega | exact bnd_r _ _ | exact hF _ _ | exact hI _ | exact hG _ _ | exact hK _ | (simp [uN] <;> omega)) (by first | omega | exact bnd_r _ _ | exact hF _ _ | exact hI _ | exact hG _ _ | exact hK _ | (simp [uN] <;> omega))) lX3_53 (dec_of DX3_sameGroup 19 rfl) rfl rfl (by decide) (nle rfl) rfl ?_
      refine vi_icmp_ne (tgt := 47) (dec_of DX3_sameGroup 20 rfl) (by decide) (by first | omega | exact bnd_r _ _ | exact hF _ _ | exact hI _ | exact hG _ _ | exact hK _ | (simp [uN] <;> omega)) (by first | omega | exact bnd_r _ _ | exact hF _ _ | exact hI _ | exact hG _ _ | exact hK _ | (simp [uN] <;> omega)) (fun c40 => ?_) (fun c40 => ?_)
      · rw [if_neg (by omega)]
        refine vi_const (dec_of DX3_sameGroup 23 rfl) ?_
        exact vi_retz (dec_of DX3_sameGroup 24 rfl) rfl (by first | omega | exact bnd_r _ _ | exact hF _ _ | exact hI _ | exact hG _ _ | exact hK _ | (simp [uN] <;> omega)) ⟨by decide, by decide⟩ (⟨rfl, rfl⟩)
      · rw [if_pos (by omega)]
        refine vi_const (dec_of DX3_sameGroup 21 rfl) ?_
        refine v_goto (tgt := 48) (dec_of DX3_sameGroup 22 rfl) (by decide) ?_
        exact vi_retz (dec_of DX3_sameGroup 24 rfl) rfl (by first | omega | exact bnd_r _ _ | exact hF _ _ | exact hI _ | exact hG _ _ | exact hK _ | (simp [uN] <;> omega)) ⟨by decide, by decide⟩ (⟨rfl, rfl⟩)
set_option maxRecDepth 100000 in
set_option maxHeartbeats 4000000 in
theorem k_guideOf {T : XW} {I N : Nat → Int} {F : Nat → Int → Int} (hF : FR F) (hI : IR I) (hN : NR N) {e : Int} (he : 0 ≤ e ∧ e < N 7) (hh : 0 ≤ F 7 (e * 2 + 0) ∧ F 7 (e * 2 + 0) < N 4 → -1000 ≤ F 4 (F 7 (e * 2 + 0) * 8 + 5) + F 7 (e * 2 + 1) ∧ F 4 (F 7 (e * 2 + 0) * 8 + 5) + F 7 (e * 2 + 1) ≤ 1000) : Sd (rm 1 23 0 0) mX3_guideOf [.ref 5, J e] (cls I N F ++ T) (cls I N F ++ T) (some (J (if (0 ≤ F 7 (e * 2 + 0) ∧ F 7 (e * 2 + 0) < N 4) ∧ 0 ≤ F 4 (F 7 (e * 2 + 0) * 8 + 5) + F 7 (e * 2 + 1) ∧ F 4 (F 7 (e * 2 + 0) * 8 + 5) + F 7 (e * 2 + 1) ≤ 12 then F 4 (F 7 (e * 2 + 0) * 8 + 5) + F 7 (e * 2 + 1) else -100))) := by
  unfold Sd
  unfold NR at hN
  refine sp_of (ls := [some (.ref 5), some (J e), none, none]) (by decide) (nle rfl) rfl rfl ?_
  refine v_aload_n (dec_of DX3_guideOf 0 rfl) rfl ?_
  refine v_get fX3_32 (dec_of DX3_guideOf 1 rfl) rfl rfl ?_
  refine v_iload_n (dec_of DX3_guideOf 2 rfl) rfl ?_
  refine vi_const (dec_of DX3_guideOf 3 rfl) ?_
  refine v_V2r (c7_get (by first | omega | exact bnd_r _ _ | exact hF _ _ | exact hI _ | exact hG _ _ | exact hK _ | (simp [uN] <;> omega)) (by first | omega | exact bnd_r _ _ | exact hF _ _ | exact hI _ | exact hG _ _ | exact hK _ | (simp [uN] <;> omega)) (by first | omega | exact bnd_r _ _ | exact hF _ _ | exact hI _ | exact hG _ _ | exact hK _ | (simp [uN] <;> omega))) lX3_53 (dec_of DX3_guideOf 4 rfl) rfl rfl (by decide) (nle rfl) rfl ?_
  refine v_istore_n (dec_of DX3_guideOf 5 rfl) (by decide) ?_
  dsimp only [List.set]
  refine v_aload_n (dec_of DX3_guideOf 6 rfl) rfl ?_
  refine v_get fX3_23 (dec_of DX3_guideOf 7 rfl) rfl rfl ?_
  refine v_iload_n (dec_of DX3_guideOf 8 rfl) rfl ?_
  refine v_V1r (c4_has (by first | omega | exact bnd_r _ _ | exact hF _ _ | exact hI _ | exact hG _ _ | exact hK _ | (simp [uN] <;> omega)) (by first | omega | exact bnd_r _ _ | exact hF _ _ | exact hI _ | exact hG _ _ | exact hK _ | (simp [uN] <;> omega))) lX3_57 (dec_of DX3_guideOf 9 rfl) rfl rfl (by decide) (nle rfl) rfl ?_
  refine vi_if_ne (tgt := 24) (dec_of DX3_guideOf 10 rfl) (by decide) (by first | omega | exact bnd_r _ _ | exact hF _ _ | exact hI _ | exact hG _ _ | exact hK _ | (simp [uN] <;> omega)) (fun c18 => ?_) (fun c18 => ?_)
  · have h9 := hh (by omega)
    refine v_aload_n (dec_of DX3_guideOf 13 rfl) rfl ?_
    refine v_get fX3_23 (dec_of DX3_guideOf 14 rfl) rfl rfl ?_
    refine v_iload_n (dec_of DX3_guideOf 15 rfl) rfl ?_
    refine vi_const (dec_of DX3_guideOf 16 rfl) ?_
    refine v_V2r (c4_get (by first | omega | exact bnd_r _ _ | exact hF _ _ | exact hI _ | exact hG _ _ | exact hK _ | (simp [uN] <;> omega)) (by first | omega | exact bnd_r _ _ | exact hF _ _ | exact hI _ | exact hG _ _ | exact hK _ | (simp [uN] <;> omega)) (by first | omega | exact bnd_r _ _ | exact hF _ _ | exact hI _ | exact hG _ _ | exact hK _ | (simp [uN] <;> omega))) lX3_53 (dec_of DX3_guideOf 17 rfl) rfl rfl (by decide) (nle rfl) rfl ?_
    refine v_aload_n (dec_of DX3_guideOf 18 rfl) rfl ?_
    refine v_get fX3_32 (dec_of DX3_guideOf 19 rfl) rfl rfl ?_
    refine v_iload_n (dec_of DX3_guideOf 20 rfl) rfl ?_
    refine vi_const (dec_of DX3_guideOf 21 rfl) ?_
    refine v_V2r (c7_get (by first | omega | exact bnd_r _ _ | exact hF _ _ | exact hI _ | exact hG _ _ | exact hK _ | (simp [uN] <;> omega)) (by first | omega | exact bnd_r _ _ | exact hF _ _ | exact hI _ | exact hG _ _ | exact hK _ | (simp [uN] <;> omega)) (by first | omega | exact bnd_r _ _ | exact hF _ _ | exact hI _ | exact hG _ _ | exact hK _ | (simp [uN] <;> omega))) lX3_53 (dec_of DX3_guideOf 22 rfl) rfl rfl (by decide) (nle rfl) rfl ?_
    refine vi_add (dec_of DX3_guideOf 23 rfl) ?_
    refine v_istore_n (dec_of DX3_guideOf 24 rfl) (by decide) ?_
    dsimp only [List.set]
    refine v_iload_n (dec_of DX3_guideOf 25 rfl) rfl ?_
    refine vi_if_lt (tgt := 54) (dec_of DX3_guideOf 26 rfl) (by decide) (by first | omega | exact bnd_r _ _ | exact hF _ _ | exact hI _ | exact hG _ _ | exact hK _ | (simp [uN] <;> omega)) (fun c45 => ?_) (fun c45 => ?_)
    · rw [if_neg (by omega)]
      refine vi_bi (dec_of DX3_guideOf 30 rfl) (by decide) ?_
      refine v_goto (tgt := 60) (dec_of DX3_guideOf 31 rfl) (by decide) ?_
      exact vi_ret (dec_of DX3_guideOf 33 rfl) rfl ⟨by decide, by decide⟩ (⟨rfl, rfl⟩)
    · refine v_iload_n (dec_of DX3_guideOf 27 rfl) rfl ?_
      refine vi_bi (dec_of DX3_guideOf 28 rfl) (by decide) ?_
      refine vi_icmp_le (tgt := 59) (dec_of DX3_guideOf 29 rfl) (by decide) (by first | omega | exact bnd_r _ _ | exact hF _ _ | exact hI _ | exact hG _ _ | exact hK _ | (simp [uN] <;> omega)) (by first | omega | exact bnd_r _ _ | exact hF _ _ | exact hI _ | exact hG _ _ | exact hK _ | (simp [uN] <;> omega)) (fun c51 => ?_) (fun c51 => ?_)
      · rw [if_pos (by omega)]
        refine v_iload_n (dec_of DX3_guideOf 32 rfl) rfl ?_
        exact vi_ret (dec_of DX3_guideOf 33 rfl) rfl ⟨by decide, by decide⟩ (⟨rfl, rfl⟩)
      · rw [if_neg (by omega)]
        refine vi_bi (dec_of DX3_guideOf 30 rfl) (by decide) ?_
        refine v_goto (tgt := 60) (dec_of DX3_guideOf 31 rfl) (by decide) ?_
        exact vi_ret (dec_of DX3_guideOf 33 rfl) rfl ⟨by decide, by decide⟩ (⟨rfl, rfl⟩)
  · rw [if_neg (by omega)]
    refine vi_bi (dec_of DX3_guideOf 11 rfl) (by decide) ?_
    exact vi_ret (dec_of DX3_guideOf 12 rfl) rfl ⟨by decide, by decide⟩ (⟨rfl, rfl⟩)
set_option maxRecDepth 100000 in
set_option maxHeartbeats 4000000 in
theorem k_finalStep {T : XW} {I N : Nat → Int} {F : Nat → Int → Int} (hF : FR F) (hI : IR I) (hN : NR N) (h4 : 0 < N 4) : Sd (rm 1 23 0 0) mX3_finalStep [.ref 5] (cls I N F ++ T) (cls I N F ++ T) (some (J (F 4 ((N 4 - 1) * 8 + 5)))) := by
  unfold Sd
  unfold NR at hN
  refine sp_of (ls := [some (.ref 5)]) (by decide) (nle rfl) rfl rfl ?_
  refine v_aload_n (dec_of DX3_finalStep 0 rfl) rfl ?_
  refine v_get fX3_23 (dec_of DX3_finalStep 1 rfl) rfl rfl ?_
  refine v_aload_n (dec_of DX3_finalStep 2 rfl) rfl ?_
  refine v_get fX3_23 (dec_of DX3_finalStep 3 rfl) rfl rfl ?_
  refine v_V0r (c4_size) lX3_49 (dec_of DX3_finalStep 4 rfl) rfl rfl (by decide) (nle rfl) rfl ?_
  refine vi_const (dec_of DX3_finalStep 5 rfl) ?_
  refine vi_sub (dec_of DX3_finalStep 6 rfl) ?_
  refine vi_const (dec_of DX3_finalStep 7 rfl) ?_
  refine v_V2r (c4_get (by first | omega | exact bnd_r _ _ | exact hF _ _ | exact hI _ | exact hG _ _ | exact hK _ | (simp [uN] <;> omega)) (by first | omega | exact bnd_r _ _ | exact hF _ _ | exact hI _ | exact hG _ _ | exact hK _ | (simp [uN] <;> omega)) (by first | omega | exact bnd_r _ _ | exact hF _ _ | exact hI _ | exact hG _ _ | exact hK _ | (simp [uN] <;> omega))) lX3_53 (dec_of DX3_finalStep 8 rfl) rfl rfl (by decide) (nle rfl) rfl ?_
  exact vi_ret (dec_of DX3_finalStep 9 rfl) rfl ⟨by decide, by decide⟩ (⟨rfl, rfl⟩)
set_option maxRecDepth 100000 in
set_option maxHeartbeats 4000000 in
theorem k_clear {T : XW} {I N : Nat → Int} {F : Nat → Int → Int} (hF : FR F) (hI : IR I) (hN : NR N)  : Sd (rm 1 21 0 0) mX3_clear [.ref 5] (cls I N F ++ T) (cls (uN (uN I 1 0) 2 0) (uN (uN (uN (uN (uN (uN (uN N 2 0) 3 0) 4 0) 5 0) 6 0) 7 0) 8 0) F ++ T) (none) := by
  unfold Sd
  unfold NR at hN
  refine sp_of (ls := [some (.ref 5)]) (by decide) (nle rfl) rfl rfl ?_
  refine v_aload_n (dec_of DX3_clear 0 rfl) rfl ?_
  refine v_get fX3_16 (dec_of DX3_clear 1 rfl) rfl rfl ?_
  refine vi_const (dec_of DX3_clear 2 rfl) ?_
  refine v_V1v (c2_keep (by first | omega | exact bnd_r _ _ | exact hF _ _ | exact hI _ | exact hG _ _ | exact hK _ | (simp [uN] <;> omega)) (by first | omega | exact bnd_r _ _ | exact hF _ _ | exact hI _ | exact hG _ _ | exact hK _ | (simp [uN] <;> omega))) lX3_45 (dec_of DX3_clear 3 rfl) rfl rfl (by decide) (nle rfl) rfl ?_
  refine v_aload_n (dec_of DX3_clear 4 rfl) rfl ?_
  refine v_get fX3_20 (dec_of DX3_clear 5 rfl) rfl rfl ?_
  refine vi_const (dec_of DX3_clear 6 rfl) ?_
  refine v_V1v (c3_keep (by first | omega | exact bnd_r _ _ | exact hF _ _ | exact hI _ | exact hG _ _ | exact hK _ | (simp [uN] <;> omega)) (by first | omega | exact bnd_r _ _ | exact hF _ _ | exact hI _ | exact hG _ _ | exact hK _ | (simp [uN] <;> omega))) lX3_45 (dec_of DX3_clear 7 rfl) rfl rfl (by decide) (nle rfl) rfl ?_
  refine v_aload_n (dec_of DX3_clear 8 rfl) rfl ?_
  refine v_get fX3_23 (dec_of DX3_clear 9 rfl) rfl rfl ?_
  refine vi_const (dec_of DX3_clear 10 rfl) ?_
  refine v_V1v (c4_keep (by first | omega | exact bnd_r _ _ | exact hF _ _ | exact hI _ | exact hG _ _ | exact hK _ | (simp [uN] <;> omega)) (by first | omega | exact bnd_r _ _ | exact hF _ _ | exact hI _ | exact hG _ _ | exact hK _ | (simp [uN] <;> omega))) lX3_45 (dec_of DX3_clear 11 rfl) rfl rfl (by decide) (nle rfl) rfl ?_
  refine v_aload_n (dec_of DX3_clear 12 rfl) rfl ?_
  refine v_get fX3_26 (dec_of DX3_clear 13 rfl) rfl rfl ?_
  refine vi_const (dec_of DX3_clear 14 rfl) ?_
  refine v_V1v (c5_keep (by first | omega | exact bnd_r _ _ | exact hF _ _ | exact hI _ | exact hG _ _ | exact hK _ | (simp [uN] <;> omega)) (by first | omega | exact bnd_r _ _ | exact hF _ _ | exact hI _ | exact hG _ _ | exact hK _ | (simp [uN] <;> omega))) lX3_45 (dec_of DX3_clear 15 rfl) rfl rfl (by decide) (nle rfl) rfl ?_
  refine v_aload_n (dec_of DX3_clear 16 rfl) rfl ?_
  refine v_get fX3_29 (dec_of DX3_clear 17 rfl) rfl rfl ?_
  refine vi_const (dec_of DX3_clear 18 rfl) ?_
  refine v_V1v (c6_keep (by first | omega | exact bnd_r _ _ | exact hF _ _ | exact hI _ | exact hG _ _ | exact hK _ | (simp [uN] <;> omega)) (by first | omega | exact bnd_r _ _ | exact hF _ _ | exact hI _ | exact hG _ _ | exact hK _ | (simp [uN] <;> omega))) lX3_45 (dec_of DX3_clear 19 rfl) rfl rfl (by decide) (nle rfl) rfl ?_
  refine v_aload_n (dec_of DX3_clear 20 rfl) rfl ?_
  refine v_get fX3_32 (dec_of DX3_clear 21 rfl) rfl rfl ?_
  refine vi_const (dec_of DX3_clear 22 rfl) ?_
  refine v_V1v (c7_keep (by first | omega | exact bnd_r _ _ | exact hF _ _ | exact hI _ | exact hG _ _ | exact hK _ | (simp [uN] <;> omega)) (by first | omega | exact bnd_r _ _ | exact hF _ _ | exact hI _ | exact hG _ _ | exact hK _ | (simp [uN] <;> omega))) lX3_45 (dec_of DX3_clear 23 rfl) rfl rfl (by decide) (nle rfl) rfl ?_
  refine v_aload_n (dec_of DX3_clear 24 rfl) rfl ?_
  refine v_get fX3_35 (dec_of DX3_clear 25 rfl) rfl rfl ?_
  refine vi_const (dec_of DX3_clear 26 rfl) ?_
  refine v_V1v (c8_keep (by first | omega | exact bnd_r _ _ | exact hF _ _ | exact hI _ | exact hG _ _ | exact hK _ | (simp [uN] <;> omega)) (by first | omega | exact bnd_r _ _ | exact hF _ _ | exact hI _ | exact hG _ _ | exact hK _ | (simp [uN] <;> omega))) lX3_45 (dec_of DX3_clear 27 rfl) rfl rfl (by decide) (nle rfl) rfl ?_
  refine v_aload_n (dec_of DX3_clear 28 rfl) rfl ?_
  refine vi_const (dec_of DX3_clear 29 rfl) ?_
  refine cp_1 fX3_38 (dec_of DX3_clear 30 rfl) ?_
  refine v_aload_n (dec_of DX3_clear 31 rfl) rfl ?_
  refine vi_const (dec_of DX3_clear 32 rfl) ?_
  refine cp_2 fX3_42 (dec_of DX3_clear 33 rfl) ?_
  exact vi_vret (dec_of DX3_clear 34 rfl) rfl ⟨by decide, by decide⟩ (⟨rfl, rfl⟩)
set_option maxRecDepth 100000 in
set_option maxHeartbeats 4000000 in
theorem k_refuse {T : XW} {I N : Nat → Int} {F : Nat → Int → Int} {a b : Int} : Sd (rm 0 0 0 0) mX2_refuse [.ref 20, J a, J b] (cls I N F ++ T) (cls (uN (uN I 3 a) 4 b) N F ++ T) (none) := by
  unfold Sd
  refine sp_of (ls := [some (.ref 20), some (J a), some (J b)]) (by decide) (nle rfl) rfl rfl ?_
  refine v_aload_n (dec_of DX2_refuse 0 rfl) rfl ?_
  refine v_iload_n (dec_of DX2_refuse 1 rfl) rfl ?_
  refine cp_3 fX2_37 (dec_of DX2_refuse 2 rfl) ?_
  refine v_aload_n (dec_of DX2_refuse 3 rfl) rfl ?_
  refine v_iload_n (dec_of DX2_refuse 4 rfl) rfl ?_
  refine cp_4 fX2_26 (dec_of DX2_refuse 5 rfl) ?_
  exact vi_vret (dec_of DX2_refuse 6 rfl) rfl ⟨by decide, by decide⟩ (⟨rfl, rfl⟩)
set_option maxRecDepth 100000 in
set_option maxHeartbeats 4000000 in
theorem k_isBlank {w : XW} {b : Int} (hb : -2147483648 ≤ b ∧ b < 2147483648) : Sd (rm 0 0 0 0) mX2_isBlank [J b] (w) (w) (some (J (if b = 32 ∨ b = 10 then 1 else 0))) := by
  unfold Sd
  refine sp_of (ls := [some (J b)]) (by decide) (nle rfl) rfl rfl ?_
  refine v_iload_n (dec_of DX2_isBlank 0 rfl) rfl ?_
  refine vi_bi (dec_of DX2_isBlank 1 rfl) (by decide) ?_
  refine vi_icmp_eq (tgt := 12) (dec_of DX2_isBlank 2 rfl) (by decide) (by first | omega | exact bnd_r _ _ | exact hF _ _ | exact hI _ | exact hG _ _ | exact hK _ | (simp [uN] <;> omega)) (by first | omega | exact bnd_r _ _ | exact hF _ _ | exact hI _ | exact hG _ _ | exact hK _ | (simp [uN] <;> omega)) (fun c3 => ?_) (fun c3 => ?_)
  · rw [if_pos (by omega)]
    refine vi_const (dec_of DX2_isBlank 6 rfl) ?_
    refine v_goto (tgt := 17) (dec_of DX2_isBlank 7 rfl) (by decide) ?_
    exact vi_retz (dec_of DX2_isBlank 9 rfl) rfl (by first | omega | exact bnd_r _ _ | exact hF _ _ | exact hI _ | exact hG _ _ | exact hK _ | (simp [uN] <;> omega)) ⟨by decide, by decide⟩ (⟨rfl, rfl⟩)
  · refine v_iload_n (dec_of DX2_isBlank 3 rfl) rfl ?_
    refine vi_bi (dec_of DX2_isBlank 4 rfl) (by decide) ?_
    refine vi_icmp_ne (tgt := 16) (dec_of DX2_isBlank 5 rfl) (by decide) (by first | omega | exact bnd_r _ _ | exact hF _ _ | exact hI _ | exact hG _ _ | exact hK _ | (simp [uN] <;> omega)) (by first | omega | exact bnd_r _ _ | exact hF _ _ | exact hI _ | exact hG _ _ | exact hK _ | (simp [uN] <;> omega)) (fun c9 => ?_) (fun c9 => ?_)
    · rw [if_neg (by omega)]
      refine vi_const (dec_of DX2_isBlank 8 rfl) ?_
      exact vi_retz (dec_of DX2_isBlank 9 rfl) rfl (by first | omega | exact bnd_r _ _ | exact hF _ _ | exact hI _ | exact hG _ _ | exact hK _ | (simp [uN] <;> omega)) ⟨by decide, by decide⟩ (⟨rfl, rfl⟩)
    · rw [if_pos (by omega)]
      refine vi_const (dec_of DX2_isBlank 6 rfl) ?_
      refine v_goto (tgt := 17) (dec_of DX2_isBlank 7 rfl) (by decide) ?_
      exact vi_retz (dec_of DX2_isBlank 9 rfl) rfl (by first | omega | exact bnd_r _ _ | exact hF _ _ | exact hI _ | exact hG _ _ | exact hK _ | (simp [uN] <;> omega)) ⟨by decide, by decide⟩ (⟨rfl, rfl⟩)
set_option maxRecDepth 100000 in
set_option maxHeartbeats 4000000 in
theorem k_isLetter {w : XW} {b : Int} (hb : -2147483648 ≤ b ∧ b < 2147483648) : Sd (rm 0 0 0 0) mX2_isLetter [J b] (w) (w) (some (J (if (97 ≤ b ∧ b ≤ 122) ∨ (65 ≤ b ∧ b ≤ 90) ∨ b = 39 then 1 else 0))) := by
  unfold Sd
  refine sp_of (ls := [some (J b)]) (by decide) (nle rfl) rfl rfl ?_
  refine v_iload_n (dec_of DX2_isLetter 0 rfl) rfl ?_
  refine vi_bi (dec_of DX2_isLetter 1 rfl) (by decide) ?_
  refine vi_icmp_lt (tgt := 12) (dec_of DX2_isLetter 2 rfl) (by decide) (by first | omega | exact bnd_r _ _ | exact hF _ _ | exact hI _ | exact hG _ _ | exact hK _ | (simp [uN] <;> omega)) (by first | omega | exact bnd_r _ _ | exact hF _ _ | exact hI _ | exact hG _ _ | exact hK _ | (simp [uN] <;> omega)) (fun c3 => ?_) (fun c3 => ?_)
  · refine v_iload_n (dec_of DX2_isLetter 6 rfl) rfl ?_
    refine vi_bi (dec_of DX2_isLetter 7 rfl) (by decide) ?_
    refine vi_icmp_lt (tgt := 24) (dec_of DX2_isLetter 8 rfl) (by decide) (by first | omega | exact bnd_r _ _ | exact hF _ _ | exact hI _ | exact hG _ _ | exact hK _ | (simp [uN] <;> omega)) (by first | omega | exact bnd_r _ _ | exact hF _ _ | exact hI _ | exact hG _ _ | exact hK _ | (simp [uN] <;> omega)) (fun c15 => ?_) (fun c15 => ?_)
    · refine v_iload_n (dec_of DX2_isLetter 12 rfl) rfl ?_
      refine vi_bi (dec_of DX2_isLetter 13 rfl) (by decide) ?_
      refine vi_icmp_ne (tgt := 34) (dec_of DX2_isLetter 14 rfl) (by decide) (by first | omega | exact bnd_r _ _ | exact hF _ _ | exact hI _ | exact hG _ _ | exact hK _ | (simp [uN] <;> omega)) (by first | omega | exact bnd_r _ _ | exact hF _ _ | exact hI _ | exact hG _ _ | exact hK _ | (simp [uN] <;> omega)) (fun c27 => ?_) (fun c27 => ?_)
      · rw [if_neg (by omega)]
        refine vi_const (dec_of DX2_isLetter 17 rfl) ?_
        exact vi_retz (dec_of DX2_isLetter 18 rfl) rfl (by first | omega | exact bnd_r _ _ | exact hF _ _ | exact hI _ | exact hG _ _ | exact hK _ | (simp [uN] <;> omega)) ⟨by decide, by decide⟩ (⟨rfl, rfl⟩)
      · rw [if_pos (by omega)]
        refine vi_const (dec_of DX2_isLetter 15 rfl) ?_
        refine v_goto (tgt := 35) (dec_of DX2_isLetter 16 rfl) (by decide) ?_
        exact vi_retz (dec_of DX2_isLetter 18 rfl) rfl (by first | omega | exact bnd_r _ _ | exact hF _ _ | exact hI _ | exact hG _ _ | exact hK _ | (simp [uN] <;> omega)) ⟨by decide, by decide⟩ (⟨rfl, rfl⟩)
    · refine v_iload_n (dec_of DX2_isLetter 9 rfl) rfl ?_
      refine vi_bi (dec_of DX2_isLetter 10 rfl) (by decide) ?_
      refine vi_icmp_le (tgt := 30) (dec_of DX2_isLetter 11 rfl) (by decide) (by first | omega | exact bnd_r _ _ | exact hF _ _ | exact hI _ | exact hG _ _ | exact hK _ | (simp [uN] <;> omega)) (by first | omega | exact bnd_r _ _ | exact hF _ _ | exact hI _ | exact hG _ _ | exact hK _ | (simp [uN] <;> omega)) (fun c21 => ?_) (fun c21 => ?_)
      · rw [if_pos (by omega)]
        refine vi_const (dec_of DX2_isLetter 15 rfl) ?_
        refine v_goto (tgt := 35) (dec_of DX2_isLetter 16 rfl) (by decide) ?_
        exact vi_retz (dec_of DX2_isLetter 18 rfl) rfl (by first | omega | exact bnd_r _ _ | exact hF _ _ | exact hI _ | exact hG _ _ | exact hK _ | (simp [uN] <;> omega)) ⟨by decide, by decide⟩ (⟨rfl, rfl⟩)
      · refine v_iload_n (dec_of DX2_isLetter 12 rfl) rfl ?_
        refine vi_bi (dec_of DX2_isLetter 13 rfl) (by decide) ?_
        refine vi_icmp_ne (tgt := 34) (dec_of DX2_isLetter 14 rfl) (by decide) (by first | omega | exact bnd_r _ _ | exact hF _ _ | exact hI _ | exact hG _ _ | exact hK _ | (simp [uN] <;> omega)) (by first | omega | exact bnd_r _ _ | exact hF _ _ | exact hI _ | exact hG _ _ | exact hK _ | (simp [uN] <;> omega)) (fun c27 => ?_) (fun c27 => ?_)
        · rw [if_neg (by omega)]
          refine vi_const (dec_of DX2_isLetter 17 rfl) ?_
          exact vi_retz (dec_of DX2_isLetter 18 rfl) rfl (by first | omega | exact bnd_r _ _ | exact hF _ _ | exact hI _ | exact hG _ _ | exact hK _ | (simp [uN] <;> omega)) ⟨by decide, by decide⟩ (⟨rfl, rfl⟩)
        · rw [if_pos (by omega)]
          refine vi_const (dec_of DX2_isLetter 15 rfl) ?_
          refine v_goto (tgt := 35) (dec_of DX2_isLetter 16 rfl) (by decide) ?_
          exact vi_retz (dec_of DX2_isLetter 18 rfl) rfl (by first | omega | exact bnd_r _ _ | exact hF _ _ | exact hI _ | exact hG _ _ | exact hK _ | (simp [uN] <;> omega)) ⟨by decide, by decide⟩ (⟨rfl, rfl⟩)
  · refine v_iload_n (dec_of DX2_isLetter 3 rfl) rfl ?_
    refine vi_bi (dec_of DX2_isLetter 4 rfl) (by decide) ?_
    refine vi_icmp_le (tgt := 30) (dec_of DX2_isLetter 5 rfl) (by decide) (by first | omega | exact bnd_r _ _ | exact hF _ _ | exact hI _ | exact hG _ _ | exact hK _ | (simp [uN] <;> omega)) (by first | omega | exact bnd_r _ _ | exact hF _ _ | exact hI _ | exact hG _ _ | exact hK _ | (simp [uN] <;> omega)) (fun c9 => ?_) (fun c9 => ?_)
    · rw [if_pos (by omega)]
      refine vi_const (dec_of DX2_isLetter 15 rfl) ?_
      refine v_goto (tgt := 35) (dec_of DX2_isLetter 16 rfl) (by decide) ?_
      exact vi_retz (dec_of DX2_isLetter 18 rfl) rfl (by first | omega | exact bnd_r _ _ | exact hF _ _ | exact hI _ | exact hG _ _ | exact hK _ | (simp [uN] <;> omega)) ⟨by decide, by decide⟩ (⟨rfl, rfl⟩)
    · refine v_iload_n (dec_of DX2_isLetter 6 rfl) rfl ?_
      refine vi_bi (dec_of DX2_isLetter 7 rfl) (by decide) ?_
      refine vi_icmp_lt (tgt := 24) (dec_of DX2_isLetter 8 rfl) (by decide) (by first | omega | exact bnd_r _ _ | exact hF _ _ | exact hI _ | exact hG _ _ | exact hK _ | (simp [uN] <;> omega)) (by first | omega | exact bnd_r _ _ | exact hF _ _ | exact hI _ | exact hG _ _ | exact hK _ | (simp [uN] <;> omega)) (fun c15 => ?_) (fun c15 => ?_)
      · refine v_iload_n (dec_of DX2_isLetter 12 rfl) rfl ?_
        refine vi_bi (dec_of DX2_isLetter 13 rfl) (by decide) ?_
        refine vi_icmp_ne (tgt := 34) (dec_of DX2_isLetter 14 rfl) (by decide) (by first | omega | exact bnd_r _ _ | exact hF _ _ | exact hI _ | exact hG _ _ | exact hK _ | (simp [uN] <;> omega)) (by first | omega | exact bnd_r _ _ | exact hF _ _ | exact hI _ | exact hG _ _ | exact hK _ | (simp [uN] <;> omega)) (fun c27 => ?_) (fun c27 => ?_)
        · rw [if_neg (by omega)]
          refine vi_const (dec_of DX2_isLetter 17 rfl) ?_
          exact vi_retz (dec_of DX2_isLetter 18 rfl) rfl (by first | omega | exact bnd_r _ _ | exact hF _ _ | exact hI _ | exact hG _ _ | exact hK _ | (simp [uN] <;> omega)) ⟨by decide, by decide⟩ (⟨rfl, rfl⟩)
        · rw [if_pos (by omega)]
          refine vi_const (dec_of DX2_isLetter 15 rfl) ?_
          refine v_goto (tgt := 35) (dec_of DX2_isLetter 16 rfl) (by decide) ?_
          exact vi_retz (dec_of DX2_isLetter 18 rfl) rfl (by first | omega | exact bnd_r _ _ | exact hF _ _ | exact hI _ | exact hG _ _ | exact hK _ | (simp [uN] <;> omega)) ⟨by decide, by decide⟩ (⟨rfl, rfl⟩)
      · refine v_iload_n (dec_of DX2_isLetter 9 rfl) rfl ?_
        refine vi_bi (dec_of DX2_isLetter 10 rfl) (by decide) ?_
        refine vi_icmp_le (tgt := 30) (dec_of DX2_isLetter 11 rfl) (by decide) (by first | omega | exact bnd_r _ _ | exact hF _ _ | exact hI _ | exact hG _ _ | exact hK _ | (simp [uN] <;> omega)) (by first | omega | exact bnd_r _ _ | exact hF _ _ | exact hI _ | exact hG _ _ | exact hK _ | (simp [uN] <;> omega)) (fun c21 => ?_) (fun c21 => ?_)
        · rw [if_pos (by omega)]
          refine vi_const (dec_of DX2_isLetter 15 rfl) ?_
          refine v_goto (tgt := 35) (dec_of DX2_isLetter 16 rfl) (by decide) ?_
          exact vi_retz (dec_of DX2_isLetter 18 rfl) rfl (by first | omega | exact bnd_r _ _ | exact hF _ _ | exact hI _ | exact hG _ _ | exact hK _ | (simp [uN] <;> omega)) ⟨by decide, by decide⟩ (⟨rfl, rfl⟩)
        · refine v_iload_n (dec_of DX2_isLetter 12 rfl) rfl ?_
          refine vi_bi (dec_of DX2_isLetter 13 rfl) (by decide) ?_
          refine vi_icmp_ne (tgt := 34) (dec_of DX2_isLetter 14 rfl) (by decide) (by first | omega | exact bnd_r _ _ | exact hF _ _ | exact hI _ | exact hG _ _ | exact hK _ | (simp [uN] <;> omega)) (by first | omega | exact bnd_r _ _ | exact hF _ _ | exact hI _ | exact hG _ _ | exact hK _ | (simp [uN] <;> omega)) (fun c27 => ?_) (fun c27 => ?_)
          · rw [if_neg (by omega)]
            refine vi_const (dec_of DX2_isLetter 17 rfl) ?_
            exact vi_retz (dec_of DX2_isLetter 18 rfl) rfl (by first | omega | exact bnd_r _ _ | exact hF _ _ | exact hI _ | exact hG _ _ | exact hK _ | (simp [uN] <;> omega)) ⟨by decide, by decide⟩ (⟨rfl, rfl⟩)
          · rw [if_pos (by omega)]
            refine vi_const (dec_of DX2_isLetter 15 rfl) ?_
            refine v_goto (tgt := 35) (dec_of DX2_isLetter 16 rfl) (by decide) ?_
            exact vi_retz (dec_of DX2_isLetter 18 rfl) rfl (by first | omega | exact bnd_r _ _ | exact hF _ _ | exact hI _ | exact hG _ _ | exact hK _ | (simp [uN] <;> omega)) ⟨by decide, by decide⟩ (⟨rfl, rfl⟩)
def mkOf (b : Int) : Int := if b = 46 then 1 else if b = 95 then 2 else if b = 118 then 4 else if b = 119 then 8 else if b = 126 then 16 else 0
set_option maxRecDepth 100000 in
set_option maxHeartbeats 4000000 in
theorem k_markOf {w : XW} {b : Int} (hb : -2147483648 ≤ b ∧ b < 2147483648) : Sd (rm 0 0 0 0) mX2_markOf [J b] w w (some (J (mkOf b))) := by
  unfold Sd
  refine sp_of (ls := [some (J b)]) (by decide) (nle rfl) rfl rfl ?_
  refine v_iload_n (dec_of DX2_markOf 0 rfl) rfl ?_
  by_cases h46 : b = 46
  · subst h46
    refine vi_lookup (tgt := 52) (dec_of DX2_markOf 1 rfl) (by decide) (by decide) rfl (by decide) ?_
    refine vi_const (dec_of DX2_markOf 2 rfl) ?_
    exact vi_ret (dec_of DX2_markOf 3 rfl) rfl ⟨by decide, by decide⟩ (⟨rfl, rfl⟩)
  by_cases h95 : b = 95
  · subst h95
    refine vi_lookup (tgt := 54) (dec_of DX2_markOf 1 rfl) (by decide) (by decide) rfl (by decide) ?_
    refine vi_const (dec_of DX2_markOf 4 rfl) ?_
    exact vi_ret (dec_of DX2_markOf 5 rfl) rfl ⟨by decide, by decide⟩ (⟨rfl, rfl⟩)
  by_cases h118 : b = 118
  · subst h118
    refine vi_lookup (tgt := 56) (dec_of DX2_markOf 1 rfl) (by decide) (by decide) rfl (by decide) ?_
    refine vi_const (dec_of DX2_markOf 6 rfl) ?_
    exact vi_ret (dec_of DX2_markOf 7 rfl) rfl ⟨by decide, by decide⟩ (⟨rfl, rfl⟩)
  by_cases h119 : b = 119
  · subst h119
    refine vi_lookup (tgt := 58) (dec_of DX2_markOf 1 rfl) (by decide) (by decide) rfl (by decide) ?_
    refine vi_bi (dec_of DX2_markOf 8 rfl) (by decide) ?_
    exact vi_ret (dec_of DX2_markOf 9 rfl) rfl ⟨by decide, by decide⟩ (⟨rfl, rfl⟩)
  by_cases h126 : b = 126
  · subst h126
    refine vi_lookup (tgt := 61) (dec_of DX2_markOf 1 rfl) (by decide) (by decide) rfl (by decide) ?_
    refine vi_bi (dec_of DX2_markOf 10 rfl) (by decide) ?_
    exact vi_ret (dec_of DX2_markOf 11 rfl) rfl ⟨by decide, by decide⟩ (⟨rfl, rfl⟩)
  refine vi_lookup (off := 63) (tgt := 64) (dec_of DX2_markOf 1 rfl) hb (by decide) (by simp [Op.lookupswitch.offset, List.find?, Ne.symm h46, h46, Ne.symm h95, h95, Ne.symm h118, h118, Ne.symm h119, h119, Ne.symm h126, h126]) (by decide) ?_
  simp only [mkOf, h46, h95, h118, h119, h126, if_false]
  refine vi_const (dec_of DX2_markOf 12 rfl) ?_
  exact vi_ret (dec_of DX2_markOf 13 rfl) rfl ⟨by decide, by decide⟩ (⟨rfl, rfl⟩)
set_option maxRecDepth 100000 in
set_option maxHeartbeats 4000000 in
theorem k_roomOf {w : XW} {b : Int} (hb : -2147483648 ≤ b ∧ b < 2147483648) : Sd (rm 0 0 0 0) mX2_roomOf [J b] w w (some (J (if b = 0 then 150 else if b = 4 then 30 else 20))) := by
  unfold Sd
  refine sp_of (ls := [some (J b)]) (by decide) (nle rfl) rfl rfl ?_
  refine v_iload_n (dec_of DX2_roomOf 0 rfl) rfl ?_
  by_cases h0 : b = 0
  · subst h0
    refine vi_lookup (tgt := 28) (dec_of DX2_roomOf 1 rfl) (by decide) (by decide) rfl (by decide) ?_
    refine vi_si (dec_of DX2_roomOf 2 rfl) (by decide) ?_
    exact vi_ret (dec_of DX2_roomOf 3 rfl) rfl ⟨by decide, by decide⟩ (⟨rfl, rfl⟩)
  by_cases h4 : b = 4
  · subst h4
    refine vi_lookup (tgt := 32) (dec_of DX2_roomOf 1 rfl) (by decide) (by decide) rfl (by decide) ?_
    refine vi_bi (dec_of DX2_roomOf 4 rfl) (by decide) ?_
    exact vi_ret (dec_of DX2_roomOf 5 rfl) rfl ⟨by decide, by decide⟩ (⟨rfl, rfl⟩)
  refine vi_lookup (off := 34) (tgt := 35) (dec_of DX2_roomOf 1 rfl) hb (by decide) (by simp [Op.lookupswitch.offset, List.find?, Ne.symm h0, h0, Ne.symm h4, h4]) (by decide) ?_
  simp only [mkOf, h0, h4, if_false]
  refine vi_bi (dec_of DX2_roomOf 6 rfl) (by decide) ?_
  exact vi_ret (dec_of DX2_roomOf 7 rfl) rfl ⟨by decide, by decide⟩ (⟨rfl, rfl⟩)
set_option maxRecDepth 100000 in
set_option maxHeartbeats 4000000 in
theorem k_addSign {T : XW} {I N : Nat → Int} {F : Nat → Int → Int} (hF : FR F) (hI : IR I) (hN : NR N) {p k v : Int} (hk : 0 ≤ k ∧ k < 6) (h9 : N 9 = 6) (h8 : N 8 < 260) (hr : F 9 k < (if k = 0 then 150 else if k = 4 then 30 else 20)) : Sd (rm 1 24 0 0) mX2_addSign [.ref 20, J p, J k, J v] (cls I N F ++ T) (cls I (uN N 8 (N 8 + 1)) (uN (uN F 9 (uI (F 9) k (F 9 k + 1))) 8 (uI (adf (F 8) 2 (N 8) k) (N 8 * 2 + 1) v)) ++ T) (some (J 1)) := by
  unfold Sd
  unfold NR at hN
  have hq := hF 9 k
  refine sp_of (ls := [some (.ref 20), some (J p), some (J k), some (J v), none]) (by decide) (nle rfl) rfl rfl ?_
  refine v_aload_n (dec_of DX2_addSign 0 rfl) rfl ?_
  refine v_get fX2_22 (dec_of DX2_addSign 1 rfl) rfl rfl ?_
  refine v_iload_n (dec_of DX2_addSign 2 rfl) rfl ?_
  refine vi_const (dec_of DX2_addSign 3 rfl) ?_
  refine v_V2r (c9_get (by first | omega | exact bnd_r _ _ | exact hF _ _ | exact hI _ | exact hG _ _ | exact hK _ | (simp [uN] <;> omega)) (by first | omega | exact bnd_r _ _ | exact hF _ _ | exact hI _ | exact hG _ _ | exact hK _ | (simp [uN] <;> omega))) lX2_43 (dec_of DX2_addSign 4 rfl) rfl rfl (by decide) (nle rfl) rfl ?_
  refine v_istore (dec_of DX2_addSign 5 rfl) (by decide) ?_
  dsimp only [List.set]
  refine v_iload (dec_of DX2_addSign 6 rfl) rfl ?_
  refine v_iload_n (dec_of DX2_addSign 7 rfl) rfl ?_
  refine v_S1r (k_roomOf (by omega)) lX2_175 (dec_of DX2_addSign 8 rfl) (by decide) (nle rfl) rfl ?_
  refine vi_icmp_lt (tgt := 28) (dec_of DX2_addSign 9 rfl) (by decide) (by first | omega | exact bnd_r _ _ | exact hF _ _ | exact hI _ | exact hG _ _ | exact hK _ | (simp [uN] <;> omega)) (by first | omega | exact bnd_r _ _ | exact hF _ _ | exact hI _ | exact hG _ _ | exact hK _ | (simp [uN] <;> omega)) (fun c17 => ?_) (fun c17 => absurd c17 (by omega))
  refine v_aload_n (dec_of DX2_addSign 16 rfl) rfl ?_
  refine v_get fX2_22 (dec_of DX2_addSign 17 rfl) rfl rfl ?_
  refine v_iload_n (dec_of DX2_addSign 18 rfl) rfl ?_
  refine vi_const (dec_of DX2_addSign 19 rfl) ?_
  refine v_iload (dec_of DX2_addSign 20 rfl) rfl ?_
  refine vi_const (dec_of DX2_addSign 21 rfl) ?_
  refine vi_add (dec_of DX2_addSign 22 rfl) ?_
  refine v_V3v (c9_set (by first | omega | exact bnd_r _ _ | exact hF _ _ | exact hI _ | exact hG _ _ | exact hK _ | (simp [uN] <;> omega)) (by first | omega | exact bnd_r _ _ | exact hF _ _ | exact hI _ | exact hG _ _ | exact hK _ | (simp [uN] <;> omega))) lX2_109 (dec_of DX2_addSign 23 rfl) rfl rfl (by decide) (nle rfl) rfl ?_
  refine v_aload_n (dec_of DX2_addSign 24 rfl) rfl ?_
  refine v_get fX2_9 (dec_of DX2_addSign 25 rfl) rfl rfl ?_
  refine v_get fX2_122 (dec_of DX2_addSign 26 rfl) rfl rfl ?_
  refine v_aload_n (dec_of DX2_addSign 27 rfl) rfl ?_
  refine v_get fX2_9 (dec_of DX2_addSign 28 rfl) rfl rfl ?_
  refine v_get fX2_122 (dec_of DX2_addSign 29 rfl) rfl rfl ?_
  refine v_iload_n (dec_of DX2_addSign 30 rfl) rfl ?_
  refine v_V1r (c8_add (by first | omega | exact bnd_r _ _ | exact hF _ _ | exact hI _ | exact hG _ _ | exact hK _ | (simp [uN] <;> omega))) lX2_92 (dec_of DX2_addSign 31 rfl) rfl rfl (by decide) (nle rfl) rfl ?_
  refine vi_const (dec_of DX2_addSign 32 rfl) ?_
  refine v_iload_n (dec_of DX2_addSign 33 rfl) rfl ?_
  refine v_V3v (c8_set (by first | omega | exact bnd_r _ _ | exact hF _ _ | exact hI _ | exact hG _ _ | exact hK _ | (simp [uN] <;> omega)) (by first | omega | exact bnd_r _ _ | exact hF _ _ | exact hI _ | exact hG _ _ | exact hK _ | (simp [uN] <;> omega)) (by first | omega | exact bnd_r _ _ | exact hF _ _ | exact hI _ | exact hG _ _ | exact hK _ | (simp [uN] <;> omega))) lX2_109 (dec_of DX2_addSign 34 rfl) rfl rfl (by decide) (nle rfl) rfl ?_
  refine vi_const (dec_of DX2_addSign 35 rfl) ?_
  exact vi_retz (dec_of DX2_addSign 36 rfl) rfl (by first | omega | exact bnd_r _ _ | exact hF _ _ | exact hI _ | exact hG _ _ | exact hK _ | (simp [uN] <;> omega)) ⟨by decide, by decide⟩ (⟨rfl, rfl⟩)
set_option maxRecDepth 100000 in
set_option maxHeartbeats 4000000 in
theorem k_addSign_full {T : XW} {I N : Nat → Int} {F : Nat → Int → Int} (hF : FR F) (hI : IR I) (hN : NR N) {p k v : Int} (hk : 0 ≤ k ∧ k < 6) (h9 : N 9 = 6) (hr : ¬ F 9 k < (if k = 0 then 150 else if k = 4 then 30 else 20)) : Sd (rm 1 24 0 0) mX2_addSign [.ref 20, J p, J k, J v] (cls I N F ++ T) (cls (uN (uN I 3 2) 4 p) N F ++ T) (some (J 0)) := by
  unfold Sd
  unfold NR at hN
  have hq := hF 9 k
  refine sp_of (ls := [some (.ref 20), some (J p), some (J k), some (J v), none]) (by decide) (nle rfl) rfl rfl ?_
  refine v_aload_n (dec_of DX2_addSign 0 rfl) rfl ?_
  refine v_get fX2_22 (dec_of DX2_addSign 1 rfl) rfl rfl ?_
  refine v_iload_n (dec_of DX2_addSign 2 rfl) rfl ?_
  refine vi_const (dec_of DX2_addSign 3 rfl) ?_
  refine v_V2r (c9_get (by first | omega | exact bnd_r _ _ | exact hF _ _ | exact hI _ | exact hG _ _ | exact hK _ | (simp [uN] <;> omega)) (by first | omega | exact bnd_r _ _ | exact hF _ _ | exact hI _ | exact hG _ _ | exact hK _ | (simp [uN] <;> omega))) lX2_43 (dec_of DX2_addSign 4 rfl) rfl rfl (by decide) (nle rfl) rfl ?_
  refine v_istore (dec_of DX2_addSign 5 rfl) (by decide) ?_
  dsimp only [List.set]
  refine v_iload (dec_of DX2_addSign 6 rfl) rfl ?_
  refine v_iload_n (dec_of DX2_addSign 7 rfl) rfl ?_
  refine v_S1r (k_roomOf (by omega)) lX2_175 (dec_of DX2_addSign 8 rfl) (by decide) (nle rfl) rfl ?_
  refine vi_icmp_lt (tgt := 28) (dec_of DX2_addSign 9 rfl) (by decide) (by first | omega | exact bnd_r _ _ | exact hF _ _ | exact hI _ | exact hG _ _ | exact hK _ | (simp [uN] <;> omega)) (by first | omega | exact bnd_r _ _ | exact hF _ _ | exact hI _ | exact hG _ _ | exact hK _ | (simp [uN] <;> omega)) (fun c17 => absurd c17 (by omega)) (fun c17 => ?_)
  refine v_aload_n (dec_of DX2_addSign 10 rfl) rfl ?_
  refine vi_const (dec_of DX2_addSign 11 rfl) ?_
  refine v_iload_n (dec_of DX2_addSign 12 rfl) rfl ?_
  refine v_V2v (k_refuse) lX2_58 (dec_of DX2_addSign 13 rfl) rfl rfl (by decide) (nle rfl) rfl ?_
  refine vi_const (dec_of DX2_addSign 14 rfl) ?_
  exact vi_retz (dec_of DX2_addSign 15 rfl) rfl (by first | omega | exact bnd_r _ _ | exact hF _ _ | exact hI _ | exact hG _ _ | exact hK _ | (simp [uN] <;> omega)) ⟨by decide, by decide⟩ (⟨rfl, rfl⟩)
