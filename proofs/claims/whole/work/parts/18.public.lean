/-! Psalm, the public methods but read and write (printed by wip/tools/gen_c8.py) -/
set_option maxRecDepth 100000 in
set_option maxHeartbeats 4000000 in
theorem k_isHalf {w : XW} {a : Int} (ha : -2147483648 ≤ a ∧ a < 2147483648) : Sd (rm 0 0 0 0) mX1_isHalf [J a] (w) (w) (some (J (if a = 0 ∨ a = 1 then 1 else 0))) := by
  unfold Sd
  refine sp_of (ls := [some (J a)]) (by decide) (nle rfl) rfl rfl ?_
  refine v_iload_n (dec_of DX1_isHalf 0 rfl) rfl ?_
  refine vi_if_eq (tgt := 9) (dec_of DX1_isHalf 1 rfl) (by decide) (by first | omega | exact bnd_r _ _ | exact hF _ _ | exact hI _ | exact hG _ _ | exact hK _ | (simp [uN] <;> omega)) (fun c1 => ?_) (fun c1 => ?_)
  · rw [if_pos (by omega)]
    refine vi_const (dec_of DX1_isHalf 5 rfl) ?_
    refine v_goto (tgt := 14) (dec_of DX1_isHalf 6 rfl) (by decide) ?_
    exact vi_retz (dec_of DX1_isHalf 8 rfl) rfl (by first | omega | exact bnd_r _ _ | exact hF _ _ | exact hI _ | exact hG _ _ | exact hK _ | (simp [uN] <;> omega)) ⟨by decide, by decide⟩ (⟨rfl, rfl⟩)
  · refine v_iload_n (dec_of DX1_isHalf 2 rfl) rfl ?_
    refine vi_const (dec_of DX1_isHalf 3 rfl) ?_
    refine vi_icmp_ne (tgt := 13) (dec_of DX1_isHalf 4 rfl) (by decide) (by first | omega | exact bnd_r _ _ | exact hF _ _ | exact hI _ | exact hG _ _ | exact hK _ | (simp [uN] <;> omega)) (by first | omega | exact bnd_r _ _ | exact hF _ _ | exact hI _ | exact hG _ _ | exact hK _ | (simp [uN] <;> omega)) (fun c6 => ?_) (fun c6 => ?_)
    · rw [if_neg (by omega)]
      refine vi_const (dec_of DX1_isHalf 7 rfl) ?_
      exact vi_retz (dec_of DX1_isHalf 8 rfl) rfl (by first | omega | exact bnd_r _ _ | exact hF _ _ | exact hI _ | exact hG _ _ | exact hK _ | (simp [uN] <;> omega)) ⟨by decide, by decide⟩ (⟨rfl, rfl⟩)
    · rw [if_pos (by omega)]
      refine vi_const (dec_of DX1_isHalf 5 rfl) ?_
      refine v_goto (tgt := 14) (dec_of DX1_isHalf 6 rfl) (by decide) ?_
      exact vi_retz (dec_of DX1_isHalf 8 rfl) rfl (by first | omega | exact bnd_r _ _ | exact hF _ _ | exact hI _ | exact hG _ _ | exact hK _ | (simp [uN] <;> omega)) ⟨by decide, by decide⟩ (⟨rfl, rfl⟩)
set_option maxRecDepth 100000 in
set_option maxHeartbeats 4000000 in
theorem k_ctone_ok {T : XW} {I N : Nat → Int} {F : Nat → Int → Int} (hF : FR F) (hI : IR I) (hN : NR N) {a : Int} (h : 1 ≤ a ∧ a ≤ 8) : Sd (rm 0 0 0 0) mX1_changeTone [.ref 23, J a] (cls I N F ++ T) (cls (uN I 13 a) N F ++ T) (some (J (I 13))) := by
  unfold Sd
  unfold NR at hN
  refine sp_of (ls := [some (.ref 23), some (J a), none]) (by decide) (nle rfl) rfl rfl ?_
  refine v_iload_n (dec_of DX1_changeTone 0 rfl) rfl ?_
  refine vi_const (dec_of DX1_changeTone 1 rfl) ?_
  refine vi_icmp_lt (tgt := 11) (dec_of DX1_changeTone 2 rfl) (by decide) (by first | omega | exact bnd_r _ _ | exact hF _ _ | exact hI _ | exact hG _ _ | exact hK _ | (simp [uN] <;> omega)) (by first | omega | exact bnd_r _ _ | exact hF _ _ | exact hI _ | exact hG _ _ | exact hK _ | (simp [uN] <;> omega)) (fun c2 => absurd c2 (by omega)) (fun c2 => ?_)
  refine v_iload_n (dec_of DX1_changeTone 3 rfl) rfl ?_
  refine vi_bi (dec_of DX1_changeTone 4 rfl) (by decide) ?_
  refine vi_icmp_le (tgt := 14) (dec_of DX1_changeTone 5 rfl) (by decide) (by first | omega | exact bnd_r _ _ | exact hF _ _ | exact hI _ | exact hG _ _ | exact hK _ | (simp [uN] <;> omega)) (by first | omega | exact bnd_r _ _ | exact hF _ _ | exact hI _ | exact hG _ _ | exact hK _ | (simp [uN] <;> omega)) (fun c8 => ?_) (fun c8 => absurd c8 (by omega))
  refine v_aload_n (dec_of DX1_changeTone 8 rfl) rfl ?_
  refine v_get fX1_32 (dec_of DX1_changeTone 9 rfl) rfl rfl ?_
  refine v_istore_n (dec_of DX1_changeTone 10 rfl) (by decide) ?_
  dsimp only [List.set]
  refine v_aload_n (dec_of DX1_changeTone 11 rfl) rfl ?_
  refine v_iload_n (dec_of DX1_changeTone 12 rfl) rfl ?_
  refine cp_13 fX1_32 (dec_of DX1_changeTone 13 rfl) ?_
  refine v_iload_n (dec_of DX1_changeTone 14 rfl) rfl ?_
  exact vi_ret (dec_of DX1_changeTone 15 rfl) rfl ⟨by decide, by decide⟩ (⟨rfl, rfl⟩)
set_option maxRecDepth 100000 in
set_option maxHeartbeats 4000000 in
theorem k_ctone_out {T : XW} {I N : Nat → Int} {F : Nat → Int → Int} (hF : FR F) (hI : IR I) (hN : NR N) {a : Int} (ha : -2147483648 ≤ a ∧ a < 2147483648) (h : ¬ (1 ≤ a ∧ a ≤ 8)) : Sd (rm 0 0 0 0) mX1_changeTone [.ref 23, J a] (cls I N F ++ T) (cls I N F ++ T) (some (J (-102))) := by
  unfold Sd
  unfold NR at hN
  refine sp_of (ls := [some (.ref 23), some (J a), none]) (by decide) (nle rfl) rfl rfl ?_
  refine v_iload_n (dec_of DX1_changeTone 0 rfl) rfl ?_
  refine vi_const (dec_of DX1_changeTone 1 rfl) ?_
  refine vi_icmp_lt (tgt := 11) (dec_of DX1_changeTone 2 rfl) (by decide) (by first | omega | exact bnd_r _ _ | exact hF _ _ | exact hI _ | exact hG _ _ | exact hK _ | (simp [uN] <;> omega)) (by first | omega | exact bnd_r _ _ | exact hF _ _ | exact hI _ | exact hG _ _ | exact hK _ | (simp [uN] <;> omega)) (fun c2 => ?_) (fun c2 => ?_)
  · refine vi_bi (dec_of DX1_changeTone 6 rfl) (by decide) ?_
    exact vi_ret (dec_of DX1_changeTone 7 rfl) rfl ⟨by decide, by decide⟩ (⟨rfl, rfl⟩)
  · refine v_iload_n (dec_of DX1_changeTone 3 rfl) rfl ?_
    refine vi_bi (dec_of DX1_changeTone 4 rfl) (by decide) ?_
    refine vi_icmp_le (tgt := 14) (dec_of DX1_changeTone 5 rfl) (by decide) (by first | omega | exact bnd_r _ _ | exact hF _ _ | exact hI _ | exact hG _ _ | exact hK _ | (simp [uN] <;> omega)) (by first | omega | exact bnd_r _ _ | exact hF _ _ | exact hI _ | exact hG _ _ | exact hK _ | (simp [uN] <;> omega)) (fun c8 => ?_) (fun c8 => ?_)
    · exact absurd (show 1 ≤ a ∧ a ≤ 8 by omega) h
    · refine vi_bi (dec_of DX1_changeTone 6 rfl) (by decide) ?_
      exact vi_ret (dec_of DX1_changeTone 7 rfl) rfl ⟨by decide, by decide⟩ (⟨rfl, rfl⟩)
set_option maxRecDepth 100000 in
set_option maxHeartbeats 4000000 in
theorem k_accOf0 {T : XW} {I N : Nat → Int} {F : Nat → Int → Int} (hF : FR F) (hI : IR I) (hN : NR N) {a : Int} (ha : -2147483648 ≤ a ∧ a < 2147483648) (h : a = 0) : Sd (rm 0 0 0 0) mX1_accentsOf [.ref 23, J a] (cls I N F ++ T) (cls I N F ++ T) (some (.ref 24)) := by
  unfold Sd
  unfold NR at hN
  refine sp_of (ls := [some (.ref 23), some (J a)]) (by decide) (nle rfl) rfl rfl ?_
  refine v_iload_n (dec_of DX1_accentsOf 0 rfl) rfl ?_
  refine vi_if_ne (tgt := 11) (dec_of DX1_accentsOf 1 rfl) (by decide) (by first | omega | exact bnd_r _ _ | exact hF _ _ | exact hI _ | exact hG _ _ | exact hK _ | (simp [uN] <;> omega)) (fun c1 => absurd c1 (by omega)) (fun c1 => ?_)
  refine v_aload_n (dec_of DX1_accentsOf 2 rfl) rfl ?_
  refine v_get fX1_16 (dec_of DX1_accentsOf 3 rfl) rfl rfl ?_
  refine v_goto (tgt := 15) (dec_of DX1_accentsOf 4 rfl) (by decide) ?_
  exact vi_aret (dec_of DX1_accentsOf 7 rfl) ⟨_, rfl⟩ ⟨by decide, by decide⟩ (⟨rfl, rfl⟩)
set_option maxRecDepth 100000 in
set_option maxHeartbeats 4000000 in
theorem k_addS0_full {T : XW} {I N : Nat → Int} {F : Nat → Int → Int} (hF : FR F) (hI : IR I) (hN : NR N) {a b : Int} (hb : b = 0 ∨ b = 1) (h : a = 0) (hf : 40 ≤ N 10) : Sd (rm 1 23 0 0) mX1_addSyllable [.ref 23, J a, J b] (cls I N F ++ T) (cls I N F ++ T) (some (J (-104))) := by
  unfold Sd
  unfold NR at hN
  refine sp_of (ls := [some (.ref 23), some (J a), some (J b), none]) (by decide) (nle rfl) rfl rfl ?_
  refine v_iload_n (dec_of DX1_addSyllable 0 rfl) rfl ?_
  refine v_S1r (k_isHalf (by omega)) lX1_38 (dec_of DX1_addSyllable 1 rfl) (by decide) (nle rfl) rfl ?_
  refine vi_if_ne (tgt := 10) (dec_of DX1_addSyllable 2 rfl) (by decide) (by first | omega | exact bnd_r _ _ | exact hF _ _ | exact hI _ | exact hG _ _ | exact hK _ | (simp [uN] <;> omega)) (fun c4 => ?_) (fun c4 => absurd c4 (by omega))
  refine v_aload_n (dec_of DX1_addSyllable 5 rfl) rfl ?_
  refine v_iload_n (dec_of DX1_addSyllable 6 rfl) rfl ?_
  refine v_V1r (k_accOf0 hF hI (by unfold NR; exact hN) (by omega) (by omega)) lX1_42 (dec_of DX1_addSyllable 7 rfl) rfl rfl (by decide) (nle rfl) rfl ?_
  refine v_astore_n (dec_of DX1_addSyllable 8 rfl) (by decide) ?_
  dsimp only [List.set]
  refine v_aload_n (dec_of DX1_addSyllable 9 rfl) rfl ?_
  refine v_V0r (c10_full (by first | omega | exact bnd_r _ _ | exact hF _ _ | exact hI _ | exact hG _ _ | exact hK _ | (simp [uN] <;> omega))) lX1_46 (dec_of DX1_addSyllable 10 rfl) rfl rfl (by decide) (nle rfl) rfl ?_
  refine vi_if_eq (tgt := 26) (dec_of DX1_addSyllable 11 rfl) (by decide) (by first | omega | exact bnd_r _ _ | exact hF _ _ | exact hI _ | exact hG _ _ | exact hK _ | (simp [uN] <;> omega)) (fun c20 => absurd c20 (by omega)) (fun c20 => ?_)
  refine vi_bi (dec_of DX1_addSyllable 12 rfl) (by decide) ?_
  exact vi_ret (dec_of DX1_addSyllable 13 rfl) rfl ⟨by decide, by decide⟩ (⟨rfl, rfl⟩)
set_option maxRecDepth 100000 in
set_option maxHeartbeats 4000000 in
theorem k_addS0 {T : XW} {I N : Nat → Int} {F : Nat → Int → Int} (hF : FR F) (hI : IR I) (hN : NR N) {a b : Int} (hb : b = 0 ∨ b = 1) (h : a = 0) (hf : N 10 < 40) : Sd (rm 1 23 0 0) mX1_addSyllable [.ref 23, J a, J b] (cls I N F ++ T) (cls I (uN N 10 (N 10 + 1)) (uN F 10 (uI (F 10) (N 10) b)) ++ T) (some (J (N 10 + 1))) := by
  unfold Sd
  unfold NR at hN
  refine sp_of (ls := [some (.ref 23), some (J a), some (J b), none]) (by decide) (nle rfl) rfl rfl ?_
  refine v_iload_n (dec_of DX1_addSyllable 0 rfl) rfl ?_
  refine v_S1r (k_isHalf (by omega)) lX1_38 (dec_of DX1_addSyllable 1 rfl) (by decide) (nle rfl) rfl ?_
  refine vi_if_ne (tgt := 10) (dec_of DX1_addSyllable 2 rfl) (by decide) (by first | omega | exact bnd_r _ _ | exact hF _ _ | exact hI _ | exact hG _ _ | exact hK _ | (simp [uN] <;> omega)) (fun c4 => ?_) (fun c4 => absurd c4 (by omega))
  refine v_aload_n (dec_of DX1_addSyllable 5 rfl) rfl ?_
  refine v_iload_n (dec_of DX1_addSyllable 6 rfl) rfl ?_
  refine v_V1r (k_accOf0 hF hI (by unfold NR; exact hN) (by omega) (by omega)) lX1_42 (dec_of DX1_addSyllable 7 rfl) rfl rfl (by decide) (nle rfl) rfl ?_
  refine v_astore_n (dec_of DX1_addSyllable 8 rfl) (by decide) ?_
  dsimp only [List.set]
  refine v_aload_n (dec_of DX1_addSyllable 9 rfl) rfl ?_
  refine v_V0r (c10_full (by first | omega | exact bnd_r _ _ | exact hF _ _ | exact hI _ | exact hG _ _ | exact hK _ | (simp [uN] <;> omega))) lX1_46 (dec_of DX1_addSyllable 10 rfl) rfl rfl (by decide) (nle rfl) rfl ?_
  refine vi_if_eq (tgt := 26) (dec_of DX1_addSyllable 11 rfl) (by decide) (by first | omega | exact bnd_r _ _ | exact hF _ _ | exact hI _ | exact hG _ _ | exact hK _ | (simp [uN] <;> omega)) (fun c20 => ?_) (fun c20 => absurd c20 (by omega))
  refine v_aload_n (dec_of DX1_addSyllable 14 rfl) rfl ?_
  refine v_iload_n (dec_of DX1_addSyllable 15 rfl) rfl ?_
  refine vi_if_eq (tgt := 35) (dec_of DX1_addSyllable 16 rfl) (by decide) (by first | omega | exact bnd_r _ _ | exact hF _ _ | exact hI _ | exact hG _ _ | exact hK _ | (simp [uN] <;> omega)) (fun c28 => ?_) (fun c28 => ?_)
  · obtain rfl : b = 0 := by omega
    refine vi_const (dec_of DX1_addSyllable 19 rfl) ?_
    refine v_V1r (c10_add (by first | omega | exact bnd_r _ _ | exact hF _ _ | exact hI _ | exact hG _ _ | exact hK _ | (simp [uN] <;> omega))) lX1_50 (dec_of DX1_addSyllable 20 rfl) rfl rfl (by decide) (nle rfl) rfl ?_
    refine v_pop (dec_of DX1_addSyllable 21 rfl) rfl ?_
    refine v_aload_n (dec_of DX1_addSyllable 22 rfl) rfl ?_
    refine v_V0r (c10_size) lX1_54 (dec_of DX1_addSyllable 23 rfl) rfl rfl (by decide) (nle rfl) rfl ?_
    exact vi_ret (dec_of DX1_addSyllable 24 rfl) rfl ⟨by decide, by decide⟩ (⟨rfl, rfl⟩)
  · obtain rfl : b = 1 := by omega
    refine vi_const (dec_of DX1_addSyllable 17 rfl) ?_
    refine v_goto (tgt := 36) (dec_of DX1_addSyllable 18 rfl) (by decide) ?_
    refine v_V1r (c10_add (by first | omega | exact bnd_r _ _ | exact hF _ _ | exact hI _ | exact hG _ _ | exact hK _ | (simp [uN] <;> omega))) lX1_50 (dec_of DX1_addSyllable 20 rfl) rfl rfl (by decide) (nle rfl) rfl ?_
    refine v_pop (dec_of DX1_addSyllable 21 rfl) rfl ?_
    refine v_aload_n (dec_of DX1_addSyllable 22 rfl) rfl ?_
    refine v_V0r (c10_size) lX1_54 (dec_of DX1_addSyllable 23 rfl) rfl rfl (by decide) (nle rfl) rfl ?_
    exact vi_ret (dec_of DX1_addSyllable 24 rfl) rfl ⟨by decide, by decide⟩ (⟨rfl, rfl⟩)
set_option maxRecDepth 100000 in
set_option maxHeartbeats 4000000 in
theorem k_accOf1 {T : XW} {I N : Nat → Int} {F : Nat → Int → Int} (hF : FR F) (hI : IR I) (hN : NR N) {a : Int} (ha : -2147483648 ≤ a ∧ a < 2147483648) (h : ¬ a = 0) : Sd (rm 0 0 0 0) mX1_accentsOf [.ref 23, J a] (cls I N F ++ T) (cls I N F ++ T) (some (.ref 26)) := by
  unfold Sd
  unfold NR at hN
  refine sp_of (ls := [some (.ref 23), some (J a)]) (by decide) (nle rfl) rfl rfl ?_
  refine v_iload_n (dec_of DX1_accentsOf 0 rfl) rfl ?_
  refine vi_if_ne (tgt := 11) (dec_of DX1_accentsOf 1 rfl) (by decide) (by first | omega | exact bnd_r _ _ | exact hF _ _ | exact hI _ | exact hG _ _ | exact hK _ | (simp [uN] <;> omega)) (fun c1 => ?_) (fun c1 => absurd c1 (by omega))
  refine v_aload_n (dec_of DX1_accentsOf 5 rfl) rfl ?_
  refine v_get fX1_20 (dec_of DX1_accentsOf 6 rfl) rfl rfl ?_
  exact vi_aret (dec_of DX1_accentsOf 7 rfl) ⟨_, rfl⟩ ⟨by decide, by decide⟩ (⟨rfl, rfl⟩)
set_option maxRecDepth 100000 in
set_option maxHeartbeats 4000000 in
theorem k_addS1_full {T : XW} {I N : Nat → Int} {F : Nat → Int → Int} (hF : FR F) (hI : IR I) (hN : NR N) {a b : Int} (hb : b = 0 ∨ b = 1) (h : a = 1) (hf : 40 ≤ N 11) : Sd (rm 1 23 0 0) mX1_addSyllable [.ref 23, J a, J b] (cls I N F ++ T) (cls I N F ++ T) (some (J (-104))) := by
  unfold Sd
  unfold NR at hN
  refine sp_of (ls := [some (.ref 23), some (J a), some (J b), none]) (by decide) (nle rfl) rfl rfl ?_
  refine v_iload_n (dec_of DX1_addSyllable 0 rfl) rfl ?_
  refine v_S1r (k_isHalf (by omega)) lX1_38 (dec_of DX1_addSyllable 1 rfl) (by decide) (nle rfl) rfl ?_
  refine vi_if_ne (tgt := 10) (dec_of DX1_addSyllable 2 rfl) (by decide) (by first | omega | exact bnd_r _ _ | exact hF _ _ | exact hI _ | exact hG _ _ | exact hK _ | (simp [uN] <;> omega)) (fun c4 => ?_) (fun c4 => absurd c4 (by omega))
  refine v_aload_n (dec_of DX1_addSyllable 5 rfl) rfl ?_
  refine v_iload_n (dec_of DX1_addSyllable 6 rfl) rfl ?_
  refine v_V1r (k_accOf1 hF hI (by unfold NR; exact hN) (by omega) (by omega)) lX1_42 (dec_of DX1_addSyllable 7 rfl) rfl rfl (by decide) (nle rfl) rfl ?_
  refine v_astore_n (dec_of DX1_addSyllable 8 rfl) (by decide) ?_
  dsimp only [List.set]
  refine v_aload_n (dec_of DX1_addSyllable 9 rfl) rfl ?_
  refine v_V0r (c11_full (by first | omega | exact bnd_r _ _ | exact hF _ _ | exact hI _ | exact hG _ _ | exact hK _ | (simp [uN] <;> omega))) lX1_46 (dec_of DX1_addSyllable 10 rfl) rfl rfl (by decide) (nle rfl) rfl ?_
  refine vi_if_eq (tgt := 26) (dec_of DX1_addSyllable 11 rfl) (by decide) (by first | omega | exact bnd_r _ _ | exact hF _ _ | exact hI _ | exact hG _ _ | exact hK _ | (simp [uN] <;> omega)) (fun c20 => absurd c20 (by omega)) (fun c20 => ?_)
  refine vi_bi (dec_of DX1_addSyllable 12 rfl) (by decide) ?_
  exact vi_ret (dec_of DX1_addSyllable 13 rfl) rfl ⟨by decide, by decide⟩ (⟨rfl, rfl⟩)
set_option maxRecDepth 100000 in
set_option maxHeartbeats 4000000 in
theorem k_addS1 {T : XW} {I N : Nat → Int} {F : Nat → Int → Int} (hF : FR F) (hI : IR I) (hN : NR N) {a b : Int} (hb : b = 0 ∨ b = 1) (h : a = 1) (hf : N 11 < 40) : Sd (rm 1 23 0 0) mX1_addSyllable [.ref 23, J a, J b] (cls I N F ++ T) (cls I (uN N 11 (N 11 + 1)) (uN F 11 (uI (F 11) (N 11) b)) ++ T) (some (J (N 11 + 1))) := by
  unfold Sd
  unfold NR at hN
  refine sp_of (ls := [some (.ref 23), some (J a), some (J b), none]) (by decide) (nle rfl) rfl rfl ?_
  refine v_iload_n (dec_of DX1_addSyllable 0 rfl) rfl ?_
  refine v_S1r (k_isHalf (by omega)) lX1_38 (dec_of DX1_addSyllable 1 rfl) (by decide) (nle rfl) rfl ?_
  refine vi_if_ne (tgt := 10) (dec_of DX1_addSyllable 2 rfl) (by decide) (by first | omega | exact bnd_r _ _ | exact hF _ _ | exact hI _ | exact hG _ _ | exact hK _ | (simp [uN] <;> omega)) (fun c4 => ?_) (fun c4 => absurd c4 (by omega))
  refine v_aload_n (dec_of DX1_addSyllable 5 rfl) rfl ?_
  refine v_iload_n (dec_of DX1_addSyllable 6 rfl) rfl ?_
  refine v_V1r (k_accOf1 hF hI (by unfold NR; exact hN) (by omega) (by omega)) lX1_42 (dec_of DX1_addSyllable 7 rfl) rfl rfl (by decide) (nle rfl) rfl ?_
  refine v_astore_n (dec_of DX1_addSyllable 8 rfl) (by decide) ?_
  dsimp only [List.set]
  refine v_aload_n (dec_of DX1_addSyllable 9 rfl) rfl ?_
  refine v_V0r (c11_full (by first | omega | exact bnd_r _ _ | exact hF _ _ | exact hI _ | exact hG _ _ | exact hK _ | (simp [uN] <;> omega))) lX1_46 (dec_of DX1_addSyllable 10 rfl) rfl rfl (by decide) (nle rfl) rfl ?_
  refine vi_if_eq (tgt := 26) (dec_of DX1_addSyllable 11 rfl) (by decide) (by first | omega | exact bnd_r _ _ | exact hF _ _ | exact hI _ | exact hG _ _ | exact hK _ | (simp [uN] <;> omega)) (fun c20 => ?_) (fun c20 => absurd c20 (by omega))
  refine v_aload_n (dec_of DX1_addSyllable 14 rfl) rfl ?_
  refine v_iload_n (dec_of DX1_addSyllable 15 rfl) rfl ?_
  refine vi_if_eq (tgt := 35) (dec_of DX1_addSyllable 16 rfl) (by decide) (by first | omega | exact bnd_r _ _ | exact hF _ _ | exact hI _ | exact hG _ _ | exact hK _ | (simp [uN] <;> omega)) (fun c28 => ?_) (fun c28 => ?_)
  · obtain rfl : b = 0 := by omega
    refine vi_const (dec_of DX1_addSyllable 19 rfl) ?_
    refine v_V1r (c11_add (by first | omega | exact bnd_r _ _ | exact hF _ _ | exact hI _ | exact hG _ _ | exact hK _ | (simp [uN] <;> omega))) lX1_50 (dec_of DX1_addSyllable 20 rfl) rfl rfl (by decide) (nle rfl) rfl ?_
    refine v_pop (dec_of DX1_addSyllable 21 rfl) rfl ?_
    refine v_aload_n (dec_of DX1_addSyllable 22 rfl) rfl ?_
    refine v_V0r (c11_size) lX1_54 (dec_of DX1_addSyllable 23 rfl) rfl rfl (by decide) (nle rfl) rfl ?_
    exact vi_ret (dec_of DX1_addSyllable 24 rfl) rfl ⟨by decide, by decide⟩ (⟨rfl, rfl⟩)
  · obtain rfl : b = 1 := by omega
    refine vi_const (dec_of DX1_addSyllable 17 rfl) ?_
    refine v_goto (tgt := 36) (dec_of DX1_addSyllable 18 rfl) (by decide) ?_
    refine v_V1r (c11_add (by first | omega | exact bnd_r _ _ | exact hF _ _ | exact hI _ | exact hG _ _ | exact hK _ | (simp [uN] <;> omega))) lX1_50 (dec_of DX1_addSyllable 20 rfl) rfl rfl (by decide) (nle rfl) rfl ?_
    refine v_pop (dec_of DX1_addSyllable 21 rfl) rfl ?_
    refine v_aload_n (dec_of DX1_addSyllable 22 rfl) rfl ?_
    refine v_V0r (c11_size) lX1_54 (dec_of DX1_addSyllable 23 rfl) rfl rfl (by decide) (nle rfl) rfl ?_
    exact vi_ret (dec_of DX1_addSyllable 24 rfl) rfl ⟨by decide, by decide⟩ (⟨rfl, rfl⟩)
set_option maxRecDepth 100000 in
set_option maxHeartbeats 4000000 in
theorem k_addS_out {T : XW} {I N : Nat → Int} {F : Nat → Int → Int} (hF : FR F) (hI : IR I) (hN : NR N) {a b : Int} (ha : -2147483648 ≤ a ∧ a < 2147483648) (h : ¬ (a = 0 ∨ a = 1)) : Sd (rm 1 23 0 0) mX1_addSyllable [.ref 23, J a, J b] (cls I N F ++ T) (cls I N F ++ T) (some (J (-102))) := by
  unfold Sd
  unfold NR at hN
  refine sp_of (ls := [some (.ref 23), some (J a), some (J b), none]) (by decide) (nle rfl) rfl rfl ?_
  refine v_iload_n (dec_of DX1_addSyllable 0 rfl) rfl ?_
  refine v_S1r (k_isHalf (by omega)) lX1_38 (dec_of DX1_addSyllable 1 rfl) (by decide) (nle rfl) rfl ?_
  refine vi_if_ne (tgt := 10) (dec_of DX1_addSyllable 2 rfl) (by decide) (by first | omega | exact bnd_r _ _ | exact hF _ _ | exact hI _ | exact hG _ _ | exact hK _ | (simp [uN] <;> omega)) (fun c4 => absurd c4 (by omega)) (fun c4 => ?_)
  refine vi_bi (dec_of DX1_addSyllable 3 rfl) (by decide) ?_
  exact vi_ret (dec_of DX1_addSyllable 4 rfl) rfl ⟨by decide, by decide⟩ (⟨rfl, rfl⟩)
set_option maxRecDepth 100000 in
set_option maxHeartbeats 4000000 in
theorem k_forget {T : XW} {I N : Nat → Int} {F : Nat → Int → Int} (hF : FR F) (hI : IR I) (hN : NR N)  : Sd (rm 1 21 0 0) mX1_forgetVerse [.ref 23] (cls I N F ++ T) (cls I (uN (uN N 10 0) 11 0) F ++ T) (some (J (N 10 + N 11))) := by
  unfold Sd
  unfold NR at hN
  refine sp_of (ls := [some (.ref 23), none]) (by decide) (nle rfl) rfl rfl ?_
  refine v_aload_n (dec_of DX1_forgetVerse 0 rfl) rfl ?_
  refine v_get fX1_16 (dec_of DX1_forgetVerse 1 rfl) rfl rfl ?_
  refine v_V0r (c10_size) lX1_54 (dec_of DX1_forgetVerse 2 rfl) rfl rfl (by decide) (nle rfl) rfl ?_
  refine v_aload_n (dec_of DX1_forgetVerse 3 rfl) rfl ?_
  refine v_get fX1_20 (dec_of DX1_forgetVerse 4 rfl) rfl rfl ?_
  refine v_V0r (c11_size) lX1_54 (dec_of DX1_forgetVerse 5 rfl) rfl rfl (by decide) (nle rfl) rfl ?_
  refine vi_add (dec_of DX1_forgetVerse 6 rfl) ?_
  refine v_istore_n (dec_of DX1_forgetVerse 7 rfl) (by decide) ?_
  dsimp only [List.set]
  refine v_aload_n (dec_of DX1_forgetVerse 8 rfl) rfl ?_
  refine v_get fX1_16 (dec_of DX1_forgetVerse 9 rfl) rfl rfl ?_
  refine vi_const (dec_of DX1_forgetVerse 10 rfl) ?_
  refine v_V1v (c10_keep (by first | omega | exact bnd_r _ _ | exact hF _ _ | exact hI _ | exact hG _ _ | exact hK _ | (simp [uN] <;> omega)) (by first | omega | exact bnd_r _ _ | exact hF _ _ | exact hI _ | exact hG _ _ | exact hK _ | (simp [uN] <;> omega))) lX1_58 (dec_of DX1_forgetVerse 11 rfl) rfl rfl (by decide) (nle rfl) rfl ?_
  refine v_aload_n (dec_of DX1_forgetVerse 12 rfl) rfl ?_
  refine v_get fX1_20 (dec_of DX1_forgetVerse 13 rfl) rfl rfl ?_
  refine vi_const (dec_of DX1_forgetVerse 14 rfl) ?_
  refine v_V1v (c11_keep (by first | omega | exact bnd_r _ _ | exact hF _ _ | exact hI _ | exact hG _ _ | exact hK _ | (simp [uN] <;> omega)) (by first | omega | exact bnd_r _ _ | exact hF _ _ | exact hI _ | exact hG _ _ | exact hK _ | (simp [uN] <;> omega))) lX1_58 (dec_of DX1_forgetVerse 15 rfl) rfl rfl (by decide) (nle rfl) rfl ?_
  refine v_iload_n (dec_of DX1_forgetVerse 16 rfl) rfl ?_
  exact vi_ret (dec_of DX1_forgetVerse 17 rfl) rfl ⟨by decide, by decide⟩ (⟨rfl, rfl⟩)
set_option maxRecDepth 100000 in
set_option maxHeartbeats 4000000 in
theorem x_tone_ok {T : XW} {I N : Nat → Int} {F : Nat → Int → Int} (hF : FR F) (hI : IR I) (hN : NR N) {a : Int} (h : 1 ≤ a ∧ a ≤ 8) : Sd (rm 1 22 0 0) mX8_tone [.ref 0, J a] (cls I N F ++ T) (cls (uN I 13 a) N F ++ T) (some (J (I 13))) := by
  unfold Sd
  unfold NR at hN
  refine sp_of (ls := [some (.ref 0), some (J a)]) (by decide) (nle rfl) rfl rfl ?_
  refine v_aload_n (dec_of DX8_tone 0 rfl) rfl ?_
  refine v_get fX8_40 (dec_of DX8_tone 1 rfl) rfl rfl ?_
  refine v_iload_n (dec_of DX8_tone 2 rfl) rfl ?_
  refine v_V1r (k_ctone_ok hF hI (by unfold NR; exact hN) h) lX8_111 (dec_of DX8_tone 3 rfl) rfl rfl (by decide) (nle rfl) rfl ?_
  exact vi_ret (dec_of DX8_tone 4 rfl) rfl ⟨by decide, by decide⟩ (⟨rfl, rfl⟩)
set_option maxRecDepth 100000 in
set_option maxHeartbeats 4000000 in
theorem x_tone_out {T : XW} {I N : Nat → Int} {F : Nat → Int → Int} (hF : FR F) (hI : IR I) (hN : NR N) {a : Int} (ha : -2147483648 ≤ a ∧ a < 2147483648) (h : ¬ (1 ≤ a ∧ a ≤ 8)) : Sd (rm 1 22 0 0) mX8_tone [.ref 0, J a] (cls I N F ++ T) (cls I N F ++ T) (some (J (-102))) := by
  unfold Sd
  unfold NR at hN
  refine sp_of (ls := [some (.ref 0), some (J a)]) (by decide) (nle rfl) rfl rfl ?_
  refine v_aload_n (dec_of DX8_tone 0 rfl) rfl ?_
  refine v_get fX8_40 (dec_of DX8_tone 1 rfl) rfl rfl ?_
  refine v_iload_n (dec_of DX8_tone 2 rfl) rfl ?_
  refine v_V1r (k_ctone_out hF hI (by unfold NR; exact hN) (by omega) h) lX8_111 (dec_of DX8_tone 3 rfl) rfl rfl (by decide) (nle rfl) rfl ?_
  exact vi_ret (dec_of DX8_tone 4 rfl) rfl ⟨by decide, by decide⟩ (⟨rfl, rfl⟩)
set_option maxRecDepth 100000 in
set_option maxHeartbeats 4000000 in
theorem x_point0 {T : XW} {I N : Nat → Int} {F : Nat → Int → Int} (hF : FR F) (hI : IR I) (hN : NR N) {a b : Int} (hb : b = 0 ∨ b = 1) (h : a = 0) (hf : N 10 < 40) : Sd (rm 2 46 0 0) mX8_point [.ref 0, J a, J b] (cls I N F ++ T) (cls I (uN N 10 (N 10 + 1)) (uN F 10 (uI (F 10) (N 10) b)) ++ T) (some (J (N 10 + 1))) := by
  unfold Sd
  unfold NR at hN
  refine sp_of (ls := [some (.ref 0), some (J a), some (J b)]) (by decide) (nle rfl) rfl rfl ?_
  refine v_aload_n (dec_of DX8_point 0 rfl) rfl ?_
  refine v_get fX8_40 (dec_of DX8_point 1 rfl) rfl rfl ?_
  refine v_iload_n (dec_of DX8_point 2 rfl) rfl ?_
  refine v_iload_n (dec_of DX8_point 3 rfl) rfl ?_
  refine v_V2r (k_addS0 hF hI (by unfold NR; exact hN) hb h hf) lX8_114 (dec_of DX8_point 4 rfl) rfl rfl (by decide) (nle rfl) rfl ?_
  exact vi_ret (dec_of DX8_point 5 rfl) rfl ⟨by decide, by decide⟩ (⟨rfl, rfl⟩)
set_option maxRecDepth 100000 in
set_option maxHeartbeats 4000000 in
theorem x_point0_full {T : XW} {I N : Nat → Int} {F : Nat → Int → Int} (hF : FR F) (hI : IR I) (hN : NR N) {a b : Int} (hb : b = 0 ∨ b = 1) (h : a = 0) (hf : 40 ≤ N 10) : Sd (rm 2 46 0 0) mX8_point [.ref 0, J a, J b] (cls I N F ++ T) (cls I N F ++ T) (some (J (-104))) := by
  unfold Sd
  unfold NR at hN
  refine sp_of (ls := [some (.ref 0), some (J a), some (J b)]) (by decide) (nle rfl) rfl rfl ?_
  refine v_aload_n (dec_of DX8_point 0 rfl) rfl ?_
  refine v_get fX8_40 (dec_of DX8_point 1 rfl) rfl rfl ?_
  refine v_iload_n (dec_of DX8_point 2 rfl) rfl ?_
  refine v_iload_n (dec_of DX8_point 3 rfl) rfl ?_
  refine v_V2r (k_addS0_full hF hI (by unfold NR; exact hN) hb h hf) lX8_114 (dec_of DX8_point 4 rfl) rfl rfl (by decide) (nle rfl) rfl ?_
  exact vi_ret (dec_of DX8_point 5 rfl) rfl ⟨by decide, by decide⟩ (⟨rfl, rfl⟩)
set_option maxRecDepth 100000 in
set_option maxHeartbeats 4000000 in
theorem x_point1 {T : XW} {I N : Nat → Int} {F : Nat → Int → Int} (hF : FR F) (hI : IR I) (hN : NR N) {a b : Int} (hb : b = 0 ∨ b = 1) (h : a = 1) (hf : N 11 < 40) : Sd (rm 2 46 0 0) mX8_point [.ref 0, J a, J b] (cls I N F ++ T) (cls I (uN N 11 (N 11 + 1)) (uN F 11 (uI (F 11) (N 11) b)) ++ T) (some (J (N 11 + 1))) := by
  unfold Sd
  unfold NR at hN
  refine sp_of (ls := [some (.ref 0), some (J a), some (J b)]) (by decide) (nle rfl) rfl rfl ?_
  refine v_aload_n (dec_of DX8_point 0 rfl) rfl ?_
  refine v_get fX8_40 (dec_of DX8_point 1 rfl) rfl rfl ?_
  refine v_iload_n (dec_of DX8_point 2 rfl) rfl ?_
  refine v_iload_n (dec_of DX8_point 3 rfl) rfl ?_
  refine v_V2r (k_addS1 hF hI (by unfold NR; exact hN) hb h hf) lX8_114 (dec_of DX8_point 4 rfl) rfl rfl (by decide) (nle rfl) rfl ?_
  exact vi_ret (dec_of DX8_point 5 rfl) rfl ⟨by decide, by decide⟩ (⟨rfl, rfl⟩)
set_option maxRecDepth 100000 in
set_option maxHeartbeats 4000000 in
theorem x_point1_full {T : XW} {I N : Nat → Int} {F : Nat → Int → Int} (hF : FR F) (hI : IR I) (hN : NR N) {a b : Int} (hb : b = 0 ∨ b = 1) (h : a = 1) (hf : 40 ≤ N 11) : Sd (rm 2 46 0 0) mX8_point [.ref 0, J a, J b] (cls I N F ++ T) (cls I N F ++ T) (some (J (-104))) := by
  unfold Sd
  unfold NR at hN
  refine sp_of (ls := [some (.ref 0), some (J a), some (J b)]) (by decide) (nle rfl) rfl rfl ?_
  refine v_aload_n (dec_of DX8_point 0 rfl) rfl ?_
  refine v_get fX8_40 (dec_of DX8_point 1 rfl) rfl rfl ?_
  refine v_iload_n (dec_of DX8_point 2 rfl) rfl ?_
  refine v_iload_n (dec_of DX8_point 3 rfl) rfl ?_
  refine v_V2r (k_addS1_full hF hI (by unfold NR; exact hN) hb h hf) lX8_114 (dec_of DX8_point 4 rfl) rfl rfl (by decide) (nle rfl) rfl ?_
  exact vi_ret (dec_of DX8_point 5 rfl) rfl ⟨by decide, by decide⟩ (⟨rfl, rfl⟩)
set_option maxRecDepth 100000 in
set_option maxHeartbeats 4000000 in
theorem x_point_out {T : XW} {I N : Nat → Int} {F : Nat → Int → Int} (hF : FR F) (hI : IR I) (hN : NR N) {a b : Int} (ha : -2147483648 ≤ a ∧ a < 2147483648) (h : ¬ (a = 0 ∨ a = 1)) : Sd (rm 2 46 0 0) mX8_point [.ref 0, J a, J b] (cls I N F ++ T) (cls I N F ++ T) (some (J (-102))) := by
  unfold Sd
  unfold NR at hN
  refine sp_of (ls := [some (.ref 0), some (J a), some (J b)]) (by decide) (nle rfl) rfl rfl ?_
  refine v_aload_n (dec_of DX8_point 0 rfl) rfl ?_
  refine v_get fX8_40 (dec_of DX8_point 1 rfl) rfl rfl ?_
  refine v_iload_n (dec_of DX8_point 2 rfl) rfl ?_
  refine v_iload_n (dec_of DX8_point 3 rfl) rfl ?_
  refine v_V2r (k_addS_out hF hI (by unfold NR; exact hN) (by omega) h) lX8_114 (dec_of DX8_point 4 rfl) rfl rfl (by decide) (nle rfl) rfl ?_
  exact vi_ret (dec_of DX8_point 5 rfl) rfl ⟨by decide, by decide⟩ (⟨rfl, rfl⟩)
set_option maxRecDepth 100000 in
set_option maxHeartbeats 4000000 in
theorem x_fresh {T : XW} {I N : Nat → Int} {F : Nat → Int → Int} (hF : FR F) (hI : IR I) (hN : NR N)  : Sd (rm 2 42 0 0) mX8_fresh [.ref 0] (cls I N F ++ T) (cls I (uN (uN N 10 0) 11 0) F ++ T) (some (J (N 10 + N 11))) := by
  unfold Sd
  unfold NR at hN
  refine sp_of (ls := [some (.ref 0)]) (by decide) (nle rfl) rfl rfl ?_
  refine v_aload_n (dec_of DX8_fresh 0 rfl) rfl ?_
  refine v_get fX8_40 (dec_of DX8_fresh 1 rfl) rfl rfl ?_
  refine v_V0r (k_forget hF hI (by unfold NR; exact hN)) lX8_118 (dec_of DX8_fresh 2 rfl) rfl rfl (by decide) (nle rfl) rfl ?_
  exact vi_ret (dec_of DX8_fresh 3 rfl) rfl ⟨by decide, by decide⟩ (⟨rfl, rfl⟩)
set_option maxRecDepth 100000 in
set_option maxHeartbeats 4000000 in
theorem x_place {T : XW} {I N : Nat → Int} {F : Nat → Int → Int} (hF : FR F) (hI : IR I) (hN : NR N)  : Sd (rm 0 0 0 0) mX8_place [.ref 0] (cls I N F ++ T) (cls I N F ++ T) (some (J (I 0))) := by
  unfold Sd
  unfold NR at hN
  refine sp_of (ls := [some (.ref 0)]) (by decide) (nle rfl) rfl rfl ?_
  refine v_aload_n (dec_of DX8_place 0 rfl) rfl ?_
  refine v_get fX8_44 (dec_of DX8_place 1 rfl) rfl rfl ?_
  exact vi_ret (dec_of DX8_place 2 rfl) rfl ⟨by decide, by decide⟩ (⟨rfl, rfl⟩)
set_option maxRecDepth 100000 in
set_option maxHeartbeats 4000000 in
theorem x_end_ok {T : XW} {I N : Nat → Int} {F : Nat → Int → Int} (hF : FR F) (hI : IR I) (hN : NR N) {a : Int} (h : 0 ≤ a ∧ a ≤ N 0) : Sd (rm 1 21 0 0) mX8_end [.ref 0, J a] (cls I N F ++ T) (cls I (uN N 0 a) F ++ T) (some (J a)) := by
  unfold Sd
  unfold NR at hN
  refine sp_of (ls := [some (.ref 0), some (J a)]) (by decide) (nle rfl) rfl rfl ?_
  refine v_iload_n (dec_of DX8_end 0 rfl) rfl ?_
  refine vi_if_lt (tgt := 15) (dec_of DX8_end 1 rfl) (by decide) (by first | omega | exact bnd_r _ _ | exact hF _ _ | exact hI _ | exact hG _ _ | exact hK _ | (simp [uN] <;> omega)) (fun c1 => absurd c1 (by omega)) (fun c1 => ?_)
  refine v_iload_n (dec_of DX8_end 2 rfl) rfl ?_
  refine v_aload_n (dec_of DX8_end 3 rfl) rfl ?_
  refine v_get fX8_14 (dec_of DX8_end 4 rfl) rfl rfl ?_
  refine v_V0r (c0_size) lX8_48 (dec_of DX8_end 5 rfl) rfl rfl (by decide) (nle rfl) rfl ?_
  refine vi_icmp_le (tgt := 18) (dec_of DX8_end 6 rfl) (by decide) (by first | omega | exact bnd_r _ _ | exact hF _ _ | exact hI _ | exact hG _ _ | exact hK _ | (simp [uN] <;> omega)) (by first | omega | exact bnd_r _ _ | exact hF _ _ | exact hI _ | exact hG _ _ | exact hK _ | (simp [uN] <;> omega)) (fun c12 => ?_) (fun c12 => absurd c12 (by omega))
  refine v_aload_n (dec_of DX8_end 9 rfl) rfl ?_
  refine v_get fX8_14 (dec_of DX8_end 10 rfl) rfl rfl ?_
  refine v_iload_n (dec_of DX8_end 11 rfl) rfl ?_
  refine v_V1v (c0_keep (by first | omega | exact bnd_r _ _ | exact hF _ _ | exact hI _ | exact hG _ _ | exact hK _ | (simp [uN] <;> omega)) (by first | omega | exact bnd_r _ _ | exact hF _ _ | exact hI _ | exact hG _ _ | exact hK _ | (simp [uN] <;> omega))) lX8_60 (dec_of DX8_end 12 rfl) rfl rfl (by decide) (nle rfl) rfl ?_
  refine v_iload_n (dec_of DX8_end 13 rfl) rfl ?_
  exact vi_ret (dec_of DX8_end 14 rfl) rfl ⟨by decide, by decide⟩ (⟨rfl, rfl⟩)
set_option maxRecDepth 100000 in
set_option maxHeartbeats 4000000 in
theorem x_end_out {T : XW} {I N : Nat → Int} {F : Nat → Int → Int} (hF : FR F) (hI : IR I) (hN : NR N) {a : Int} (ha : -2147483648 ≤ a ∧ a < 2147483648) (h : ¬ (0 ≤ a ∧ a ≤ N 0)) : Sd (rm 1 21 0 0) mX8_end [.ref 0, J a] (cls I N F ++ T) (cls I N F ++ T) (some (J (-102))) := by
  unfold Sd
  unfold NR at hN
  refine sp_of (ls := [some (.ref 0), some (J a)]) (by decide) (nle rfl) rfl rfl ?_
  refine v_iload_n (dec_of DX8_end 0 rfl) rfl ?_
  refine vi_if_lt (tgt := 15) (dec_of DX8_end 1 rfl) (by decide) (by first | omega | exact bnd_r _ _ | exact hF _ _ | exact hI _ | exact hG _ _ | exact hK _ | (simp [uN] <;> omega)) (fun c1 => ?_) (fun c1 => ?_)
  · refine vi_bi (dec_of DX8_end 7 rfl) (by decide) ?_
    exact vi_ret (dec_of DX8_end 8 rfl) rfl ⟨by decide, by decide⟩ (⟨rfl, rfl⟩)
  · refine v_iload_n (dec_of DX8_end 2 rfl) rfl ?_
    refine v_aload_n (dec_of DX8_end 3 rfl) rfl ?_
    refine v_get fX8_14 (dec_of DX8_end 4 rfl) rfl rfl ?_
    refine v_V0r (c0_size) lX8_48 (dec_of DX8_end 5 rfl) rfl rfl (by decide) (nle rfl) rfl ?_
    refine vi_icmp_le (tgt := 18) (dec_of DX8_end 6 rfl) (by decide) (by first | omega | exact bnd_r _ _ | exact hF _ _ | exact hI _ | exact hG _ _ | exact hK _ | (simp [uN] <;> omega)) (by first | omega | exact bnd_r _ _ | exact hF _ _ | exact hI _ | exact hG _ _ | exact hK _ | (simp [uN] <;> omega)) (fun c12 => ?_) (fun c12 => ?_)
    · exact absurd (show 0 ≤ a ∧ a ≤ N 0 by omega) h
    · refine vi_bi (dec_of DX8_end 7 rfl) (by decide) ?_
      exact vi_ret (dec_of DX8_end 8 rfl) rfl ⟨by decide, by decide⟩ (⟨rfl, rfl⟩)
set_option maxRecDepth 100000 in
set_option maxHeartbeats 4000000 in
theorem x_syllable {T : XW} {I N : Nat → Int} {F : Nat → Int → Int} (hF : FR F) (hI : IR I) (hN : NR N) {a b : Int} (ha : -2147483648 ≤ a ∧ a < 2147483648) (hb : -2147483648 ≤ b ∧ b < 2147483648) : Sd (rm 2 46 0 0) mX8_syllable [.ref 0, J a, J b] (cls I N F ++ T) (cls I N F ++ T) (some (J (if 0 ≤ a ∧ a < N 3 then (if 0 ≤ b ∧ b < 6 then F 3 (a * 9 + b) else -102) else -101))) := by
  unfold Sd
  unfold NR at hN
  refine sp_of (ls := [some (.ref 0), some (J a), some (J b)]) (by decide) (nle rfl) rfl rfl ?_
  refine v_aload_n (dec_of DX8_syllable 0 rfl) rfl ?_
  refine v_get fX8_24 (dec_of DX8_syllable 1 rfl) rfl rfl ?_
  refine v_get fX8_73 (dec_of DX8_syllable 2 rfl) rfl rfl ?_
  refine v_iload_n (dec_of DX8_syllable 3 rfl) rfl ?_
  refine v_iload_n (dec_of DX8_syllable 4 rfl) rfl ?_
  refine vi_bi (dec_of DX8_syllable 5 rfl) (by decide) ?_
  refine v_V3r (c3_ask (by first | omega | exact bnd_r _ _ | exact hF _ _ | exact hI _ | exact hG _ _ | exact hK _ | (simp [uN] <;> omega)) (by first | omega | exact bnd_r _ _ | exact hF _ _ | exact hI _ | exact hG _ _ | exact hK _ | (simp [uN] <;> omega)) (by first | omega | exact bnd_r _ _ | exact hF _ _ | exact hI _ | exact hG _ _ | exact hK _ | (simp [uN] <;> omega)) (by first | omega | exact bnd_r _ _ | exact hF _ _ | exact hI _ | exact hG _ _ | exact hK _ | (simp [uN] <;> omega))) lX8_76 (dec_of DX8_syllable 6 rfl) rfl rfl (by decide) (nle rfl) rfl ?_
  exact vi_ret (dec_of DX8_syllable 7 rfl) rfl ⟨by decide, by decide⟩ (⟨rfl, rfl⟩)
set_option maxRecDepth 100000 in
set_option maxHeartbeats 4000000 in
theorem x_note {T : XW} {I N : Nat → Int} {F : Nat → Int → Int} (hF : FR F) (hI : IR I) (hN : NR N) {a b : Int} (ha : -2147483648 ≤ a ∧ a < 2147483648) (hb : -2147483648 ≤ b ∧ b < 2147483648) : Sd (rm 2 46 0 0) mX8_note [.ref 0, J a, J b] (cls I N F ++ T) (cls I N F ++ T) (some (J (if 0 ≤ a ∧ a < N 4 then (if 0 ≤ b ∧ b < 8 then F 4 (a * 8 + b) else -102) else -101))) := by
  unfold Sd
  unfold NR at hN
  refine sp_of (ls := [some (.ref 0), some (J a), some (J b)]) (by decide) (nle rfl) rfl rfl ?_
  refine v_aload_n (dec_of DX8_note 0 rfl) rfl ?_
  refine v_get fX8_24 (dec_of DX8_note 1 rfl) rfl rfl ?_
  refine v_get fX8_70 (dec_of DX8_note 2 rfl) rfl rfl ?_
  refine v_iload_n (dec_of DX8_note 3 rfl) rfl ?_
  refine v_iload_n (dec_of DX8_note 4 rfl) rfl ?_
  refine vi_bi (dec_of DX8_note 5 rfl) (by decide) ?_
  refine v_V3r (c4_ask (by first | omega | exact bnd_r _ _ | exact hF _ _ | exact hI _ | exact hG _ _ | exact hK _ | (simp [uN] <;> omega)) (by first | omega | exact bnd_r _ _ | exact hF _ _ | exact hI _ | exact hG _ _ | exact hK _ | (simp [uN] <;> omega)) (by first | omega | exact bnd_r _ _ | exact hF _ _ | exact hI _ | exact hG _ _ | exact hK _ | (simp [uN] <;> omega)) (by first | omega | exact bnd_r _ _ | exact hF _ _ | exact hI _ | exact hG _ _ | exact hK _ | (simp [uN] <;> omega))) lX8_76 (dec_of DX8_note 6 rfl) rfl rfl (by decide) (nle rfl) rfl ?_
  exact vi_ret (dec_of DX8_note 7 rfl) rfl ⟨by decide, by decide⟩ (⟨rfl, rfl⟩)
set_option maxRecDepth 100000 in
set_option maxHeartbeats 4000000 in
theorem x_neume {T : XW} {I N : Nat → Int} {F : Nat → Int → Int} (hF : FR F) (hI : IR I) (hN : NR N) {a b : Int} (ha : -2147483648 ≤ a ∧ a < 2147483648) (hb : -2147483648 ≤ b ∧ b < 2147483648) : Sd (rm 2 46 0 0) mX8_neume [.ref 0, J a, J b] (cls I N F ++ T) (cls I N F ++ T) (some (J (if 0 ≤ a ∧ a < N 5 then (if 0 ≤ b ∧ b < 4 then F 5 (a * 4 + b) else -102) else -101))) := by
  unfold Sd
  unfold NR at hN
  refine sp_of (ls := [some (.ref 0), some (J a), some (J b)]) (by decide) (nle rfl) rfl rfl ?_
  refine v_aload_n (dec_of DX8_neume 0 rfl) rfl ?_
  refine v_get fX8_24 (dec_of DX8_neume 1 rfl) rfl rfl ?_
  refine v_get fX8_80 (dec_of DX8_neume 2 rfl) rfl rfl ?_
  refine v_iload_n (dec_of DX8_neume 3 rfl) rfl ?_
  refine v_iload_n (dec_of DX8_neume 4 rfl) rfl ?_
  refine vi_const (dec_of DX8_neume 5 rfl) ?_
  refine v_V3r (c5_ask (by first | omega | exact bnd_r _ _ | exact hF _ _ | exact hI _ | exact hG _ _ | exact hK _ | (simp [uN] <;> omega)) (by first | omega | exact bnd_r _ _ | exact hF _ _ | exact hI _ | exact hG _ _ | exact hK _ | (simp [uN] <;> omega)) (by first | omega | exact bnd_r _ _ | exact hF _ _ | exact hI _ | exact hG _ _ | exact hK _ | (simp [uN] <;> omega)) (by first | omega | exact bnd_r _ _ | exact hF _ _ | exact hI _ | exact hG _ _ | exact hK _ | (simp [uN] <;> omega))) lX8_76 (dec_of DX8_neume 6 rfl) rfl rfl (by decide) (nle rfl) rfl ?_
  exact vi_ret (dec_of DX8_neume 7 rfl) rfl ⟨by decide, by decide⟩ (⟨rfl, rfl⟩)
set_option maxRecDepth 100000 in
set_option maxHeartbeats 4000000 in
theorem x_bar {T : XW} {I N : Nat → Int} {F : Nat → Int → Int} (hF : FR F) (hI : IR I) (hN : NR N) {a b : Int} (ha : -2147483648 ≤ a ∧ a < 2147483648) (hb : -2147483648 ≤ b ∧ b < 2147483648) : Sd (rm 2 46 0 0) mX8_bar [.ref 0, J a, J b] (cls I N F ++ T) (cls I N F ++ T) (some (J (if 0 ≤ a ∧ a < N 6 then (if 0 ≤ b ∧ b < 2 then F 6 (a * 2 + b) else -102) else -101))) := by
  unfold Sd
  unfold NR at hN
  refine sp_of (ls := [some (.ref 0), some (J a), some (J b)]) (by decide) (nle rfl) rfl rfl ?_
  refine v_aload_n (dec_of DX8_bar 0 rfl) rfl ?_
  refine v_get fX8_24 (dec_of DX8_bar 1 rfl) rfl rfl ?_
  refine v_get fX8_83 (dec_of DX8_bar 2 rfl) rfl rfl ?_
  refine v_iload_n (dec_of DX8_bar 3 rfl) rfl ?_
  refine v_iload_n (dec_of DX8_bar 4 rfl) rfl ?_
  refine vi_const (dec_of DX8_bar 5 rfl) ?_
  refine v_V3r (c6_ask (by first | omega | exact bnd_r _ _ | exact hF _ _ | exact hI _ | exact hG _ _ | exact hK _ | (simp [uN] <;> omega)) (by first | omega | exact bnd_r _ _ | exact hF _ _ | exact hI _ | exact hG _ _ | exact hK _ | (simp [uN] <;> omega)) (by first | omega | exact bnd_r _ _ | exact hF _ _ | exact hI _ | exact hG _ _ | exact hK _ | (simp [uN] <;> omega)) (by first | omega | exact bnd_r _ _ | exact hF _ _ | exact hI _ | exact hG _ _ | exact hK _ | (simp [uN] <;> omega))) lX8_76 (dec_of DX8_bar 6 rfl) rfl rfl (by decide) (nle rfl) rfl ?_
  exact vi_ret (dec_of DX8_bar 7 rfl) rfl ⟨by decide, by decide⟩ (⟨rfl, rfl⟩)
set_option maxRecDepth 100000 in
set_option maxHeartbeats 4000000 in
theorem x_guide_un {T : XW} {I N : Nat → Int} {F : Nat → Int → Int} (hF : FR F) (hI : IR I) (hN : NR N) {a : Int} (ha : -2147483648 ≤ a ∧ a < 2147483648) (h : ¬ (0 ≤ a ∧ a < N 7)) : Sd (rm 2 46 0 0) mX8_guide [.ref 0, J a] (cls I N F ++ T) (cls I N F ++ T) (some (J (-101))) := by
  unfold Sd
  unfold NR at hN
  refine sp_of (ls := [some (.ref 0), some (J a)]) (by decide) (nle rfl) rfl rfl ?_
  refine v_aload_n (dec_of DX8_guide 0 rfl) rfl ?_
  refine v_get fX8_24 (dec_of DX8_guide 1 rfl) rfl rfl ?_
  refine v_get fX8_86 (dec_of DX8_guide 2 rfl) rfl rfl ?_
  refine v_iload_n (dec_of DX8_guide 3 rfl) rfl ?_
  refine v_V1r (c7_has (by first | omega | exact bnd_r _ _ | exact hF _ _ | exact hI _ | exact hG _ _ | exact hK _ | (simp [uN] <;> omega)) (by first | omega | exact bnd_r _ _ | exact hF _ _ | exact hI _ | exact hG _ _ | exact hK _ | (simp [uN] <;> omega))) lX8_89 (dec_of DX8_guide 4 rfl) rfl rfl (by decide) (nle rfl) rfl ?_
  refine vi_if_eq (tgt := 25) (dec_of DX8_guide 5 rfl) (by decide) (by first | omega | exact bnd_r _ _ | exact hF _ _ | exact hI _ | exact hG _ _ | exact hK _ | (simp [uN] <;> omega)) (fun c11 => ?_) (fun c11 => absurd c11 (by omega))
  refine vi_bi (dec_of DX8_guide 11 rfl) (by decide) ?_
  exact vi_ret (dec_of DX8_guide 12 rfl) rfl ⟨by decide, by decide⟩ (⟨rfl, rfl⟩)
set_option maxRecDepth 100000 in
set_option maxHeartbeats 4000000 in
theorem x_guide {T : XW} {I N : Nat → Int} {F : Nat → Int → Int} (hF : FR F) (hI : IR I) (hN : NR N) {a : Int} (h : 0 ≤ a ∧ a < N 7) (hh : 0 ≤ F 7 (a * 2 + 0) ∧ F 7 (a * 2 + 0) < N 4 → -1000 ≤ F 4 (F 7 (a * 2 + 0) * 8 + 5) + F 7 (a * 2 + 1) ∧ F 4 (F 7 (a * 2 + 0) * 8 + 5) + F 7 (a * 2 + 1) ≤ 1000) : Sd (rm 2 46 0 0) mX8_guide [.ref 0, J a] (cls I N F ++ T) (cls I N F ++ T) (some (J (if (0 ≤ F 7 (a * 2 + 0) ∧ F 7 (a * 2 + 0) < N 4) ∧ 0 ≤ F 4 (F 7 (a * 2 + 0) * 8 + 5) + F 7 (a * 2 + 1) ∧ F 4 (F 7 (a * 2 + 0) * 8 + 5) + F 7 (a * 2 + 1) ≤ 12 then F 4 (F 7 (a * 2 + 0) * 8 + 5) + F 7 (a * 2 + 1) else -100))) := by
  unfold Sd
  unfold NR at hN
  refine sp_of (ls := [some (.ref 0), some (J a)]) (by decide) (nle rfl) rfl rfl ?_
  refine v_aload_n (dec_of DX8_guide 0 rfl) rfl ?_
  refine v_get fX8_24 (dec_of DX8_guide 1 rfl) rfl rfl ?_
  refine v_get fX8_86 (dec_of DX8_guide 2 rfl) rfl rfl ?_
  refine v_iload_n (dec_of DX8_guide 3 rfl) rfl ?_
  refine v_V1r (c7_has (by first | omega | exact bnd_r _ _ | exact hF _ _ | exact hI _ | exact hG _ _ | exact hK _ | (simp [uN] <;> omega)) (by first | omega | exact bnd_r _ _ | exact hF _ _ | exact hI _ | exact hG _ _ | exact hK _ | (simp [uN] <;> omega))) lX8_89 (dec_of DX8_guide 4 rfl) rfl rfl (by decide) (nle rfl) rfl ?_
  refine vi_if_eq (tgt := 25) (dec_of DX8_guide 5 rfl) (by decide) (by first | omega | exact bnd_r _ _ | exact hF _ _ | exact hI _ | exact hG _ _ | exact hK _ | (simp [uN] <;> omega)) (fun c11 => absurd c11 (by omega)) (fun c11 => ?_)
  refine v_aload_n (dec_of DX8_guide 6 rfl) rfl ?_
  refine v_get fX8_24 (dec_of DX8_guide 7 rfl) rfl rfl ?_
  refine v_iload_n (dec_of DX8_guide 8 rfl) rfl ?_
  refine v_V1r (k_guideOf hF hI (by unfold NR; exact hN) h hh) lX8_93 (dec_of DX8_guide 9 rfl) rfl rfl (by decide) (nle rfl) rfl ?_
  refine v_goto (tgt := 27) (dec_of DX8_guide 10 rfl) (by decide) ?_
  exact vi_ret (dec_of DX8_guide 12 rfl) rfl ⟨by decide, by decide⟩ (⟨rfl, rfl⟩)
set_option maxRecDepth 100000 in
set_option maxHeartbeats 4000000 in
theorem x_at {T : XW} {I N : Nat → Int} {F : Nat → Int → Int} (hF : FR F) (hI : IR I) (hN : NR N) {a : Int} (ha : -2147483648 ≤ a ∧ a < 2147483648) : Sd (rm 1 23 0 0) mX8_at [.ref 0, J a] (cls I N F ++ T) (cls I N F ++ T) (some (J (if 0 ≤ a ∧ a < N 1 then F 1 a else -100))) := by
  unfold Sd
  unfold NR at hN
  refine sp_of (ls := [some (.ref 0), some (J a)]) (by decide) (nle rfl) rfl rfl ?_
  refine v_aload_n (dec_of DX8_at 0 rfl) rfl ?_
  refine v_get fX8_18 (dec_of DX8_at 1 rfl) rfl rfl ?_
  refine v_iload_n (dec_of DX8_at 2 rfl) rfl ?_
  refine v_V1r (c1_has (by first | omega | exact bnd_r _ _ | exact hF _ _ | exact hI _ | exact hG _ _ | exact hK _ | (simp [uN] <;> omega)) (by first | omega | exact bnd_r _ _ | exact hF _ _ | exact hI _ | exact hG _ _ | exact hK _ | (simp [uN] <;> omega))) lX8_89 (dec_of DX8_at 3 rfl) rfl rfl (by decide) (nle rfl) rfl ?_
  refine vi_if_eq (tgt := 23) (dec_of DX8_at 4 rfl) (by decide) (by first | omega | exact bnd_r _ _ | exact hF _ _ | exact hI _ | exact hG _ _ | exact hK _ | (simp [uN] <;> omega)) (fun c8 => ?_) (fun c8 => ?_)
  · rw [if_neg (by omega)]
    refine vi_bi (dec_of DX8_at 11 rfl) (by decide) ?_
    exact vi_ret (dec_of DX8_at 12 rfl) rfl ⟨by decide, by decide⟩ (⟨rfl, rfl⟩)
  · rw [if_pos (by omega)]
    refine v_aload_n (dec_of DX8_at 5 rfl) rfl ?_
    refine v_get fX8_18 (dec_of DX8_at 6 rfl) rfl rfl ?_
    refine v_iload_n (dec_of DX8_at 7 rfl) rfl ?_
    refine vi_const (dec_of DX8_at 8 rfl) ?_
    refine v_V2r (c1_get (by first | omega | exact bnd_r _ _ | exact hF _ _ | exact hI _ | exact hG _ _ | exact hK _ | (simp [uN] <;> omega)) (by first | omega | exact bnd_r _ _ | exact hF _ _ | exact hI _ | exact hG _ _ | exact hK _ | (simp [uN] <;> omega))) lX8_143 (dec_of DX8_at 9 rfl) rfl rfl (by decide) (nle rfl) rfl ?_
    refine v_goto (tgt := 25) (dec_of DX8_at 10 rfl) (by decide) ?_
    exact vi_ret (dec_of DX8_at 12 rfl) rfl ⟨by decide, by decide⟩ (⟨rfl, rfl⟩)
def fdF (f : Int → Int) (n a : Int) : Int → Int := uI (uI (uI (uI f n (bnd (bus a 24) 255)) (n + 1) (bnd (bus a 16) 255)) (n + 1 + 1) (bnd (bus a 8) 255)) (n + 1 + 1 + 1) (bnd (bus a 0) 255)
theorem fdF_r {f : Int → Int} {n a : Int} (h : ∀ i, -2147483648 ≤ f i ∧ f i < 2147483648) : ∀ i, -2147483648 ≤ fdF f n a i ∧ fdF f n a i < 2147483648 := uI_r (uI_r (uI_r (uI_r h (bnd_r _ _)) (bnd_r _ _)) (bnd_r _ _)) (bnd_r _ _)
theorem NR0 {N : Nat → Int} (h : NR N) {a : Int} (ha : 0 ≤ a ∧ a ≤ 1500) : NR (uN N 0 a) := by
  unfold NR at *
  simp (disch := decide) only [uN_s, uN_n]
  omega
set_option maxRecDepth 100000 in
set_option maxHeartbeats 4000000 in
theorem k_feedN {T : XW} {I N : Nat → Int} {F : Nat → Int → Int} (hF : FR F) (hI : IR I) (hN : NR N) {a : Int} (h0 : N 0 + 4 ≤ 1500) : Sd (rm 1 23 0 0) mX8_feedNumber [.ref 0, J a] (cls I N F ++ T) (cls I (uN N 0 (N 0 + 1 + 1 + 1 + 1)) (uN F 0 (fdF (F 0) (N 0) a)) ++ T) (none) := by
  unfold Sd
  unfold NR at hN
  refine sp_of (ls := [some (.ref 0), some (J a), none]) (by decide) (nle rfl) rfl rfl ?_
  refine vi_bi (dec_of DX8_feedNumber 0 rfl) (by decide) ?_
  refine v_istore_n (dec_of DX8_feedNumber 1 rfl) (by decide) ?_
  dsimp only [List.set]
  refine v_iload_n (dec_of DX8_feedNumber 2 rfl) rfl ?_
  refine vi_if_lt (tgt := 28) (dec_of DX8_feedNumber 3 rfl) (by decide) (by first | omega | exact bnd_r _ _ | exact hF _ _ | exact hI _ | exact hG _ _ | exact hK _ | (simp [uN] <;> omega)) (fun c4 => absurd c4 (by omega)) (fun c4 => ?_)
  refine v_aload_n (dec_of DX8_feedNumber 4 rfl) rfl ?_
  refine v_get fX8_14 (dec_of DX8_feedNumber 5 rfl) rfl rfl ?_
  refine v_iload_n (dec_of DX8_feedNumber 6 rfl) rfl ?_
  refine v_iload_n (dec_of DX8_feedNumber 7 rfl) rfl ?_
  refine vi_ushr (dec_of DX8_feedNumber 8 rfl) ?_
  refine vi_si (dec_of DX8_feedNumber 9 rfl) (by decide) ?_
  refine vi_and (dec_of DX8_feedNumber 10 rfl) ?_
  refine v_V1r (c0_add (by first | omega | exact bnd_r _ _ | exact hF _ _ | exact hI _ | exact hG _ _ | exact hK _ | (simp [uN] <;> omega))) lX8_56 (dec_of DX8_feedNumber 11 rfl) rfl rfl (by decide) (nle rfl) rfl ?_
  refine v_pop (dec_of DX8_feedNumber 12 rfl) rfl ?_
  refine vi_inc (dec_of DX8_feedNumber 13 rfl) rfl (by decide) ?_
  dsimp only [List.set]
  refine v_goto (tgt := 3) (dec_of DX8_feedNumber 14 rfl) (by decide) ?_
  refine v_iload_n (dec_of DX8_feedNumber 2 rfl) rfl ?_
  refine vi_if_lt (tgt := 28) (dec_of DX8_feedNumber 3 rfl) (by decide) (by first | omega | exact bnd_r _ _ | exact hF _ _ | exact hI _ | exact hG _ _ | exact hK _ | (simp [uN] <;> omega)) (fun c4 => absurd c4 (by omega)) (fun c4 => ?_)
  refine v_aload_n (dec_of DX8_feedNumber 4 rfl) rfl ?_
  refine v_get fX8_14 (dec_of DX8_feedNumber 5 rfl) rfl rfl ?_
  refine v_iload_n (dec_of DX8_feedNumber 6 rfl) rfl ?_
  refine v_iload_n (dec_of DX8_feedNumber 7 rfl) rfl ?_
  refine vi_ushr (dec_of DX8_feedNumber 8 rfl) ?_
  refine vi_si (dec_of DX8_feedNumber 9 rfl) (by decide) ?_
  refine vi_and (dec_of DX8_feedNumber 10 rfl) ?_
  refine v_V1r (c0_add (by first | omega | exact bnd_r _ _ | exact hF _ _ | exact hI _ | exact hG _ _ | exact hK _ | (simp [uN] <;> omega))) lX8_56 (dec_of DX8_feedNumber 11 rfl) rfl rfl (by decide) (nle rfl) rfl ?_
  refine v_pop (dec_of DX8_feedNumber 12 rfl) rfl ?_
  refine vi_inc (dec_of DX8_feedNumber 13 rfl) rfl (by decide) ?_
  dsimp only [List.set]
  refine v_goto (tgt := 3) (dec_of DX8_feedNumber 14 rfl) (by decide) ?_
  refine v_iload_n (dec_of DX8_feedNumber 2 rfl) rfl ?_
  refine vi_if_lt (tgt := 28) (dec_of DX8_feedNumber 3 rfl) (by decide) (by first | omega | exact bnd_r _ _ | exact hF _ _ | exact hI _ | exact hG _ _ | exact hK _ | (simp [uN] <;> omega)) (fun c4 => absurd c4 (by omega)) (fun c4 => ?_)
  refine v_aload_n (dec_of DX8_feedNumber 4 rfl) rfl ?_
  refine v_get fX8_14 (dec_of DX8_feedNumber 5 rfl) rfl rfl ?_
  refine v_iload_n (dec_of DX8_feedNumber 6 rfl) rfl ?_
  refine v_iload_n (dec_of DX8_feedNumber 7 rfl) rfl ?_
  refine vi_ushr (dec_of DX8_feedNumber 8 rfl) ?_
  refine vi_si (dec_of DX8_feedNumber 9 rfl) (by decide) ?_
  refine vi_and (dec_of DX8_feedNumber 10 rfl) ?_
  refine v_V1r (c0_add (by first | omega | exact bnd_r _ _ | exact hF _ _ | exact hI _ | exact hG _ _ | exact hK _ | (simp [uN] <;> omega))) lX8_56 (dec_of DX8_feedNumber 11 rfl) rfl rfl (by decide) (nle rfl) rfl ?_
  refine v_pop (dec_of DX8_feedNumber 12 rfl) rfl ?_
  refine vi_inc (dec_of DX8_feedNumber 13 rfl) rfl (by decide) ?_
  dsimp only [List.set]
  refine v_goto (tgt := 3) (dec_of DX8_feedNumber 14 rfl) (by decide) ?_
  refine v_iload_n (dec_of DX8_feedNumber 2 rfl) rfl ?_
  refine vi_if_lt (tgt := 28) (dec_of DX8_feedNumber 3 rfl) (by decide) (by first | omega | exact bnd_r _ _ | exact hF _ _ | exact hI _ | exact hG _ _ | exact hK _ | (simp [uN] <;> omega)) (fun c4 => absurd c4 (by omega)) (fun c4 => ?_)
  refine v_aload_n (dec_of DX8_feedNumber 4 rfl) rfl ?_
  refine v_get fX8_14 (dec_of DX8_feedNumber 5 rfl) rfl rfl ?_
  refine v_iload_n (dec_of DX8_feedNumber 6 rfl) rfl ?_
  refine v_iload_n (dec_of DX8_feedNumber 7 rfl) rfl ?_
  refine vi_ushr (dec_of DX8_feedNumber 8 rfl) ?_
  refine vi_si (dec_of DX8_feedNumber 9 rfl) (by decide) ?_
  refine vi_and (dec_of DX8_feedNumber 10 rfl) ?_
  refine v_V1r (c0_add (by first | omega | exact bnd_r _ _ | exact hF _ _ | exact hI _ | exact hG _ _ | exact hK _ | (simp [uN] <;> omega))) lX8_56 (dec_of DX8_feedNumber 11 rfl) rfl rfl (by decide) (nle rfl) rfl ?_
  refine v_pop (dec_of DX8_feedNumber 12 rfl) rfl ?_
  refine vi_inc (dec_of DX8_feedNumber 13 rfl) rfl (by decide) ?_
  dsimp only [List.set]
  refine v_goto (tgt := 3) (dec_of DX8_feedNumber 14 rfl) (by decide) ?_
  refine v_iload_n (dec_of DX8_feedNumber 2 rfl) rfl ?_
  refine vi_if_lt (tgt := 28) (dec_of DX8_feedNumber 3 rfl) (by decide) (by first | omega | exact bnd_r _ _ | exact hF _ _ | exact hI _ | exact hG _ _ | exact hK _ | (simp [uN] <;> omega)) (fun c4 => ?_) (fun c4 => absurd c4 (by omega))
  exact vi_vret (dec_of DX8_feedNumber 15 rfl) rfl ⟨by decide, by decide⟩ (⟨rfl, rfl⟩)
set_option maxRecDepth 100000 in
set_option maxHeartbeats 4000000 in
theorem x_feed {T : XW} {I N : Nat → Int} {F : Nat → Int → Int} (hF : FR F) (hI : IR I) (hN : NR N) {a1 a2 a3 a4 a5 : Int} (h0 : N 0 + 20 ≤ 1500) : Sd (rm 2 45 0 0) mX8_feed [.ref 0, J a1, J a2, J a3, J a4, J a5] (cls I N F ++ T) (cls I (uN N 0 (N 0 + 1 + 1 + 1 + 1 + 1 + 1 + 1 + 1 + 1 + 1 + 1 + 1 + 1 + 1 + 1 + 1 + 1 + 1 + 1 + 1)) (uN F 0 (fdF (fdF (fdF (fdF (fdF (F 0) (N 0) a1) (N 0 + 1 + 1 + 1 + 1) a2) (N 0 + 1 + 1 + 1 + 1 + 1 + 1 + 1 + 1) a3) (N 0 + 1 + 1 + 1 + 1 + 1 + 1 + 1 + 1 + 1 + 1 + 1 + 1) a4) (N 0 + 1 + 1 + 1 + 1 + 1 + 1 + 1 + 1 + 1 + 1 + 1 + 1 + 1 + 1 + 1 + 1) a5)) ++ T) (some (J (N 0 + 1 + 1 + 1 + 1 + 1 + 1 + 1 + 1 + 1 + 1 + 1 + 1 + 1 + 1 + 1 + 1 + 1 + 1 + 1 + 1))) := by
  unfold Sd
  unfold NR at hN
  refine sp_of (ls := [some (.ref 0), some (J a1), some (J a2), some (J a3), some (J a4), some (J a5)]) (by decide) (nle rfl) rfl rfl ?_
  refine v_aload_n (dec_of DX8_feed 0 rfl) rfl ?_
  refine v_get fX8_14 (dec_of DX8_feed 1 rfl) rfl rfl ?_
  refine v_V0r (c0_size) lX8_48 (dec_of DX8_feed 2 rfl) rfl rfl (by decide) (nle rfl) rfl ?_
  refine vi_bi (dec_of DX8_feed 3 rfl) (by decide) ?_
  refine vi_add (dec_of DX8_feed 4 rfl) ?_
  refine vi_si (dec_of DX8_feed 5 rfl) (by decide) ?_
  refine vi_icmp_le (tgt := 19) (dec_of DX8_feed 6 rfl) (by decide) (by first | omega | exact bnd_r _ _ | exact hF _ _ | exact hI _ | exact hG _ _ | exact hK _ | (simp [uN] <;> omega)) (by first | omega | exact bnd_r _ _ | exact hF _ _ | exact hI _ | exact hG _ _ | exact hK _ | (simp [uN] <;> omega)) (fun c13 => ?_) (fun c13 => absurd c13 (by omega))
  refine v_aload_n (dec_of DX8_feed 9 rfl) rfl ?_
  refine v_iload_n (dec_of DX8_feed 10 rfl) rfl ?_
  refine v_V1v (k_feedN (hF) hI (by unfold NR; exact hN) (by first | omega | (simp only [uN_s]; omega))) lX8_52 (dec_of DX8_feed 11 rfl) rfl rfl (by decide) (nle rfl) rfl ?_
  refine Vd_w (w' := cls I (uN N 0 (N 0 + 1 + 1 + 1 + 1)) (uN F 0 (fdF (F 0) (N 0) a1)) ++ T) rfl ?_
  refine v_aload_n (dec_of DX8_feed 12 rfl) rfl ?_
  refine v_iload_n (dec_of DX8_feed 13 rfl) rfl ?_
  refine v_V1v (k_feedN (hF.up (fdF_r (hF 0))) hI (NR0 (by unfold NR; exact hN) (by omega)) (by first | omega | (simp only [uN_s]; omega))) lX8_52 (dec_of DX8_feed 14 rfl) rfl rfl (by decide) (nle rfl) rfl ?_
  refine Vd_w (w' := cls I (uN N 0 (N 0 + 1 + 1 + 1 + 1 + 1 + 1 + 1 + 1)) (uN F 0 (fdF (fdF (F 0) (N 0) a1) (N 0 + 1 + 1 + 1 + 1) a2)) ++ T) rfl ?_
  refine v_aload_n (dec_of DX8_feed 15 rfl) rfl ?_
  refine v_iload_n (dec_of DX8_feed 16 rfl) rfl ?_
  refine v_V1v (k_feedN (hF.up (fdF_r (fdF_r (hF 0)))) hI (NR0 (by unfold NR; exact hN) (by omega)) (by first | omega | (simp only [uN_s]; omega))) lX8_52 (dec_of DX8_feed 17 rfl) rfl rfl (by decide) (nle rfl) rfl ?_
  refine Vd_w (w' := cls I (uN N 0 (N 0 + 1 + 1 + 1 + 1 + 1 + 1 + 1 + 1 + 1 + 1 + 1 + 1)) (uN F 0 (fdF (fdF (fdF (F 0) (N 0) a1) (N 0 + 1 + 1 + 1 + 1) a2) (N 0 + 1 + 1 + 1 + 1 + 1 + 1 + 1 + 1) a3)) ++ T) rfl ?_
  refine v_aload_n (dec_of DX8_feed 18 rfl) rfl ?_
  refine v_iload (dec_of DX8_feed 19 rfl) rfl ?_
  refine v_V1v (k_feedN (hF.up (fdF_r (fdF_r (fdF_r (hF 0))))) hI (NR0 (by unfold NR; exact hN) (by omega)) (by first | omega | (simp only [uN_s]; omega))) lX8_52 (dec_of DX8_feed 20 rfl) rfl rfl (by decide) (nle rfl) rfl ?_
  refine Vd_w (w' := cls I (uN N 0 (N 0 + 1 + 1 + 1 + 1 + 1 + 1 + 1 + 1 + 1 + 1 + 1 + 1 + 1 + 1 + 1 + 1)) (uN F 0 (fdF (fdF (fdF (fdF (F 0) (N 0) a1) (N 0 + 1 + 1 + 1 + 1) a2) (N 0 + 1 + 1 + 1 + 1 + 1 + 1 + 1 + 1) a3) (N 0 + 1 + 1 + 1 + 1 + 1 + 1 + 1 + 1 + 1 + 1 + 1 + 1) a4)) ++ T) rfl ?_
  refine v_aload_n (dec_of DX8_feed 21 rfl) rfl ?_
  refine v_iload (dec_of DX8_feed 22 rfl) rfl ?_
  refine v_V1v (k_feedN (hF.up (fdF_r (fdF_r (fdF_r (fdF_r (hF 0)))))) hI (NR0 (by unfold NR; exact hN) (by omega)) (by first | omega | (simp only [uN_s]; omega))) lX8_52 (dec_of DX8_feed 23 rfl) rfl rfl (by decide) (nle rfl) rfl ?_
  refine Vd_w (w' := cls I (uN N 0 (N 0 + 1 + 1 + 1 + 1 + 1 + 1 + 1 + 1 + 1 + 1 + 1 + 1 + 1 + 1 + 1 + 1 + 1 + 1 + 1 + 1)) (uN F 0 (fdF (fdF (fdF (fdF (fdF (F 0) (N 0) a1) (N 0 + 1 + 1 + 1 + 1) a2) (N 0 + 1 + 1 + 1 + 1 + 1 + 1 + 1 + 1) a3) (N 0 + 1 + 1 + 1 + 1 + 1 + 1 + 1 + 1 + 1 + 1 + 1 + 1) a4) (N 0 + 1 + 1 + 1 + 1 + 1 + 1 + 1 + 1 + 1 + 1 + 1 + 1 + 1 + 1 + 1 + 1) a5)) ++ T) rfl ?_
  refine v_aload_n (dec_of DX8_feed 24 rfl) rfl ?_
  refine v_get fX8_14 (dec_of DX8_feed 25 rfl) rfl rfl ?_
  refine v_V0r (c0_size) lX8_48 (dec_of DX8_feed 26 rfl) rfl rfl (by decide) (nle rfl) rfl ?_
  exact vi_ret (dec_of DX8_feed 27 rfl) rfl ⟨by decide, by decide⟩ (⟨rfl, rfl⟩)
set_option maxRecDepth 100000 in
set_option maxHeartbeats 4000000 in
theorem x_feed_full {T : XW} {I N : Nat → Int} {F : Nat → Int → Int} (hF : FR F) (hI : IR I) (hN : NR N) {a1 a2 a3 a4 a5 : Int} (h0 : ¬ N 0 + 20 ≤ 1500) : Sd (rm 2 45 0 0) mX8_feed [.ref 0, J a1, J a2, J a3, J a4, J a5] (cls I N F ++ T) (cls I N F ++ T) (some (J (-104))) := by
  unfold Sd
  unfold NR at hN
  refine sp_of (ls := [some (.ref 0), some (J a1), some (J a2), some (J a3), some (J a4), some (J a5)]) (by decide) (nle rfl) rfl rfl ?_
  refine v_aload_n (dec_of DX8_feed 0 rfl) rfl ?_
  refine v_get fX8_14 (dec_of DX8_feed 1 rfl) rfl rfl ?_
  refine v_V0r (c0_size) lX8_48 (dec_of DX8_feed 2 rfl) rfl rfl (by decide) (nle rfl) rfl ?_
  refine vi_bi (dec_of DX8_feed 3 rfl) (by decide) ?_
  refine vi_add (dec_of DX8_feed 4 rfl) ?_
  refine vi_si (dec_of DX8_feed 5 rfl) (by decide) ?_
  refine vi_icmp_le (tgt := 19) (dec_of DX8_feed 6 rfl) (by decide) (by first | omega | exact bnd_r _ _ | exact hF _ _ | exact hI _ | exact hG _ _ | exact hK _ | (simp [uN] <;> omega)) (by first | omega | exact bnd_r _ _ | exact hF _ _ | exact hI _ | exact hG _ _ | exact hK _ | (simp [uN] <;> omega)) (fun c13 => absurd c13 (by omega)) (fun c13 => ?_)
  refine vi_bi (dec_of DX8_feed 7 rfl) (by decide) ?_
  exact vi_ret (dec_of DX8_feed 8 rfl) rfl ⟨by decide, by decide⟩ (⟨rfl, rfl⟩)
