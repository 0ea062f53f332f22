/-! fitted, half, sung, mode, count of the class (printed by wip/tools/gen_c9.py) -/
theorem tl_n {rest : List Value} : (none : Option Value).toList ++ rest = rest := rfl
theorem tl_s {v : Value} {rest : List Value} : (some v).toList ++ rest = v :: rest := rfl
theorem fitI_14 {I : Nat → Int} {f : Int → Int} {n tn hh : Int} : -2147483648 ≤ fitI I f n tn hh 14 ∧ fitI I f n tn hh 14 < 2147483648 := by
  unfold fitI
  split
  · unfold chI
    split
    · simp (disch := decide) only [uN_s, uN_n]; decide
    · simp (disch := decide) only [uN_s, uN_n]; decide
  · simp (disch := decide) only [ft0, uN_s, uN_n]; decide
set_option maxRecDepth 100000 in
set_option maxHeartbeats 4000000 in
theorem k_fitted0 {T : XW} {I N : Nat → Int} {F : Nat → Int → Int} (hF : FR F) (hI : IR I) (hN : NR N) (hT : 1 ≤ I 13 ∧ I 13 ≤ 8) : Sp (rm 5 113 0 0) mX1_fitted [.ref 23, J 0] (cls I N F ++ T) (fun w r => r = some (.ref 28) ∧ ∃ (m : Int) (g : Int → Int), m = (if 0 < N 10 then fitM (fitI I (F 10) (N 10) (I 13) 0) (N 10) else 0) ∧ w = cls (fitI I (F 10) (N 10) (I 13) 0) (uN N 12 m) (uN F 12 g) ++ T ∧ (rowsOK (fitI I (F 10) (N 10) (I 13) 0) (N 10) m g ∧ (∀ i, -2147483648 ≤ g i ∧ g i < 2147483648))) := by
  unfold NR at hN
  refine sp_of (ls := [some (.ref 23), some (J 0)]) (by decide) (nle rfl) rfl rfl ?_
  refine v_aload_n (dec_of DX1_fitted 0 rfl) rfl ?_
  refine v_get fX1_28 (dec_of DX1_fitted 1 rfl) rfl rfl ?_
  refine v_aload_n (dec_of DX1_fitted 2 rfl) rfl ?_
  refine v_iload_n (dec_of DX1_fitted 3 rfl) rfl ?_
  refine v_V1r (k_accOf0 hF hI (by unfold NR; exact hN) (by decide) (by decide)) lX1_42 (dec_of DX1_fitted 4 rfl) rfl rfl (by decide) (nle rfl) rfl ?_
  refine v_aload_n (dec_of DX1_fitted 5 rfl) rfl ?_
  refine v_get fX1_32 (dec_of DX1_fitted 6 rfl) rfl rfl ?_
  refine v_iload_n (dec_of DX1_fitted 7 rfl) rfl ?_
  refine v_V3p (k_fit10 hF hI (by unfold NR; exact hN) hT (by decide)) lX1_61 (dec_of DX1_fitted 8 rfl) rfl rfl (by decide) (nle rfl) rfl (fun w r hz => ?_)
  obtain ⟨rfl, m, g, hm, rfl, hr⟩ := hz
  rw [tl_n]
  refine v_aload_n (dec_of DX1_fitted 9 rfl) rfl ?_
  refine v_get fX1_28 (dec_of DX1_fitted 10 rfl) rfl rfl ?_
  exact vi_aret (dec_of DX1_fitted 11 rfl) ⟨_, rfl⟩ ⟨by decide, by decide⟩ (⟨rfl, m, g, hm, rfl, hr⟩)
theorem fitM_r0 {I N : Nat → Int} {F : Nat → Int → Int} (hN : NR N) {J1 : Nat → Int} {m : Int} (hm : m = (if 0 < N 10 then fitM J1 (N 10) else 0)) : 0 ≤ m ∧ m ≤ 41 := by
  unfold NR at hN
  unfold fitM at hm
  omega
set_option maxRecDepth 100000 in
set_option maxHeartbeats 4000000 in
theorem x_half0_0 {T : XW} {I N : Nat → Int} {F : Nat → Int → Int} (hF : FR F) (hI : IR I) (hN : NR N) (hT : 1 ≤ I 13 ∧ I 13 ≤ 8) : Sp (rm 6 134 0 0) mX8_half [.ref 0, J 0, J 0] (cls I N F ++ T) (fun w r => ∃ (m : Int) (g : Int → Int), r = some (J (m)) ∧ m = (if 0 < N 10 then fitM (fitI I (F 10) (N 10) (I 13) 0) (N 10) else 0) ∧ w = cls (fitI I (F 10) (N 10) (I 13) 0) (uN N 12 m) (uN F 12 g) ++ T ∧ (rowsOK (fitI I (F 10) (N 10) (I 13) 0) (N 10) m g ∧ (∀ i, -2147483648 ≤ g i ∧ g i < 2147483648))) := by
  unfold NR at hN
  refine sp_of (ls := [some (.ref 0), some (J 0), some (J 0), none]) (by decide) (nle rfl) rfl rfl ?_
  refine v_iload_n (dec_of DX8_half 0 rfl) rfl ?_
  refine v_S1r (k_isHalf (by decide)) lX8_121 (dec_of DX8_half 1 rfl) (by decide) (nle rfl) rfl ?_
  refine vi_if_eq (tgt := 16) (dec_of DX8_half 2 rfl) (by decide) (by first | omega | decide) (fun c4 => absurd c4 (by omega)) (fun c4 => ?_)
  refine v_iload_n (dec_of DX8_half 3 rfl) rfl ?_
  refine vi_if_lt (tgt := 16) (dec_of DX8_half 4 rfl) (by decide) (by first | omega | decide) (fun c8 => absurd c8 (by omega)) (fun c8 => ?_)
  refine v_iload_n (dec_of DX8_half 5 rfl) rfl ?_
  refine vi_const (dec_of DX8_half 6 rfl) ?_
  refine vi_icmp_le (tgt := 19) (dec_of DX8_half 7 rfl) (by decide) (by first | omega | decide) (by first | omega | decide) (fun c13 => ?_) (fun c13 => absurd c13 (by omega))
  refine v_aload_n (dec_of DX8_half 10 rfl) rfl ?_
  refine v_get fX8_40 (dec_of DX8_half 11 rfl) rfl rfl ?_
  refine v_iload_n (dec_of DX8_half 12 rfl) rfl ?_
  refine v_V1p (k_fitted0 hF hI (by unfold NR; exact hN) hT) lX8_124 (dec_of DX8_half 13 rfl) rfl rfl (by decide) (nle rfl) rfl (fun w r hz => ?_)
  obtain ⟨rfl, m, g, hm, rfl, hr⟩ := hz
  rw [tl_s]
  refine v_astore_n (dec_of DX8_half 14 rfl) (by decide) ?_
  dsimp only [List.set]
  refine v_iload_n (dec_of DX8_half 15 rfl) rfl ?_
  refine vi_tabIn (tgt := 56) (dec_of DX8_half 16 rfl) (by decide) (by decide) (by decide) rfl (by decide) ?_
  refine v_aload_n (dec_of DX8_half 17 rfl) rfl ?_
  refine v_get fX8_128 (dec_of DX8_half 18 rfl) rfl rfl ?_
  refine v_V0r (c12_size) lX8_48 (dec_of DX8_half 19 rfl) rfl rfl (by decide) (nle rfl) rfl ?_
  exact vi_ret (dec_of DX8_half 20 rfl) rfl ⟨by decide, by decide⟩ (⟨m, g, by simp only [uN_s], hm, rfl, hr⟩)
set_option maxRecDepth 100000 in
set_option maxHeartbeats 4000000 in
theorem x_half0_1 {T : XW} {I N : Nat → Int} {F : Nat → Int → Int} (hF : FR F) (hI : IR I) (hN : NR N) (hT : 1 ≤ I 13 ∧ I 13 ≤ 8) : Sp (rm 6 134 0 0) mX8_half [.ref 0, J 0, J 1] (cls I N F ++ T) (fun w r => ∃ (m : Int) (g : Int → Int), r = some (J ((if (fitI I (F 10) (N 10) (I 13) 0) 14 = 0 then 0 else 1))) ∧ m = (if 0 < N 10 then fitM (fitI I (F 10) (N 10) (I 13) 0) (N 10) else 0) ∧ w = cls (fitI I (F 10) (N 10) (I 13) 0) (uN N 12 m) (uN F 12 g) ++ T ∧ (rowsOK (fitI I (F 10) (N 10) (I 13) 0) (N 10) m g ∧ (∀ i, -2147483648 ≤ g i ∧ g i < 2147483648))) := by
  unfold NR at hN
  have hb14 : -2147483648 ≤ (fitI I (F 10) (N 10) (I 13) 0) 14 ∧ (fitI I (F 10) (N 10) (I 13) 0) 14 < 2147483648 := fitI_14
  refine sp_of (ls := [some (.ref 0), some (J 0), some (J 1), none]) (by decide) (nle rfl) rfl rfl ?_
  refine v_iload_n (dec_of DX8_half 0 rfl) rfl ?_
  refine v_S1r (k_isHalf (by decide)) lX8_121 (dec_of DX8_half 1 rfl) (by decide) (nle rfl) rfl ?_
  refine vi_if_eq (tgt := 16) (dec_of DX8_half 2 rfl) (by decide) (by first | omega | decide | exact hb14) (fun c4 => absurd c4 (by omega)) (fun c4 => ?_)
  refine v_iload_n (dec_of DX8_half 3 rfl) rfl ?_
  refine vi_if_lt (tgt := 16) (dec_of DX8_half 4 rfl) (by decide) (by first | omega | decide | exact hb14) (fun c8 => absurd c8 (by omega)) (fun c8 => ?_)
  refine v_iload_n (dec_of DX8_half 5 rfl) rfl ?_
  refine vi_const (dec_of DX8_half 6 rfl) ?_
  refine vi_icmp_le (tgt := 19) (dec_of DX8_half 7 rfl) (by decide) (by first | omega | decide | exact hb14) (by first | omega | decide | exact hb14) (fun c13 => ?_) (fun c13 => absurd c13 (by omega))
  refine v_aload_n (dec_of DX8_half 10 rfl) rfl ?_
  refine v_get fX8_40 (dec_of DX8_half 11 rfl) rfl rfl ?_
  refine v_iload_n (dec_of DX8_half 12 rfl) rfl ?_
  refine v_V1p (k_fitted0 hF hI (by unfold NR; exact hN) hT) lX8_124 (dec_of DX8_half 13 rfl) rfl rfl (by decide) (nle rfl) rfl (fun w r hz => ?_)
  obtain ⟨rfl, m, g, hm, rfl, hr⟩ := hz
  rw [tl_s]
  refine v_astore_n (dec_of DX8_half 14 rfl) (by decide) ?_
  dsimp only [List.set]
  refine v_iload_n (dec_of DX8_half 15 rfl) rfl ?_
  refine vi_tabIn (tgt := 64) (dec_of DX8_half 16 rfl) (by decide) (by decide) (by decide) rfl (by decide) ?_
  refine v_aload_n (dec_of DX8_half 21 rfl) rfl ?_
  refine v_get fX8_133 (dec_of DX8_half 22 rfl) rfl rfl ?_
  refine vi_if_eq (tgt := 75) (dec_of DX8_half 23 rfl) (by decide) (by first | omega | decide | exact hb14) (fun c68 => ?_) (fun c68 => ?_)
  · refine vi_const (dec_of DX8_half 26 rfl) ?_
    exact vi_ret (dec_of DX8_half 27 rfl) rfl ⟨by decide, by decide⟩ (⟨m, g, by first | rw [if_neg c68] | rw [if_pos c68], hm, rfl, hr⟩)
  · refine vi_const (dec_of DX8_half 24 rfl) ?_
    refine v_goto (tgt := 76) (dec_of DX8_half 25 rfl) (by decide) ?_
    exact vi_ret (dec_of DX8_half 27 rfl) rfl ⟨by decide, by decide⟩ (⟨m, g, by first | rw [if_neg c68] | rw [if_pos c68], hm, rfl, hr⟩)
set_option maxRecDepth 100000 in
set_option maxHeartbeats 4000000 in
theorem x_half0_2 {T : XW} {I N : Nat → Int} {F : Nat → Int → Int} (hF : FR F) (hI : IR I) (hN : NR N) (hT : 1 ≤ I 13 ∧ I 13 ≤ 8) : Sp (rm 6 134 0 0) mX8_half [.ref 0, J 0, J 2] (cls I N F ++ T) (fun w r => ∃ (m : Int) (g : Int → Int), r = some (J ((fitI I (F 10) (N 10) (I 13) 0) 15)) ∧ m = (if 0 < N 10 then fitM (fitI I (F 10) (N 10) (I 13) 0) (N 10) else 0) ∧ w = cls (fitI I (F 10) (N 10) (I 13) 0) (uN N 12 m) (uN F 12 g) ++ T ∧ (rowsOK (fitI I (F 10) (N 10) (I 13) 0) (N 10) m g ∧ (∀ i, -2147483648 ≤ g i ∧ g i < 2147483648))) := by
  unfold NR at hN
  refine sp_of (ls := [some (.ref 0), some (J 0), some (J 2), none]) (by decide) (nle rfl) rfl rfl ?_
  refine v_iload_n (dec_of DX8_half 0 rfl) rfl ?_
  refine v_S1r (k_isHalf (by decide)) lX8_121 (dec_of DX8_half 1 rfl) (by decide) (nle rfl) rfl ?_
  refine vi_if_eq (tgt := 16) (dec_of DX8_half 2 rfl) (by decide) (by first | omega | decide) (fun c4 => absurd c4 (by omega)) (fun c4 => ?_)
  refine v_iload_n (dec_of DX8_half 3 rfl) rfl ?_
  refine vi_if_lt (tgt := 16) (dec_of DX8_half 4 rfl) (by decide) (by first | omega | decide) (fun c8 => absurd c8 (by omega)) (fun c8 => ?_)
  refine v_iload_n (dec_of DX8_half 5 rfl) rfl ?_
  refine vi_const (dec_of DX8_half 6 rfl) ?_
  refine vi_icmp_le (tgt := 19) (dec_of DX8_half 7 rfl) (by decide) (by first | omega | decide) (by first | omega | decide) (fun c13 => ?_) (fun c13 => absurd c13 (by omega))
  refine v_aload_n (dec_of DX8_half 10 rfl) rfl ?_
  refine v_get fX8_40 (dec_of DX8_half 11 rfl) rfl rfl ?_
  refine v_iload_n (dec_of DX8_half 12 rfl) rfl ?_
  refine v_V1p (k_fitted0 hF hI (by unfold NR; exact hN) hT) lX8_124 (dec_of DX8_half 13 rfl) rfl rfl (by decide) (nle rfl) rfl (fun w r hz => ?_)
  obtain ⟨rfl, m, g, hm, rfl, hr⟩ := hz
  rw [tl_s]
  refine v_astore_n (dec_of DX8_half 14 rfl) (by decide) ?_
  dsimp only [List.set]
  refine v_iload_n (dec_of DX8_half 15 rfl) rfl ?_
  refine vi_tabIn (tgt := 77) (dec_of DX8_half 16 rfl) (by decide) (by decide) (by decide) rfl (by decide) ?_
  refine v_aload_n (dec_of DX8_half 28 rfl) rfl ?_
  refine v_get fX8_137 (dec_of DX8_half 29 rfl) rfl rfl ?_
  exact vi_ret (dec_of DX8_half 30 rfl) rfl ⟨by decide, by decide⟩ (⟨m, g, rfl, hm, rfl, hr⟩)
set_option maxRecDepth 100000 in
set_option maxHeartbeats 4000000 in
theorem x_half0_3 {T : XW} {I N : Nat → Int} {F : Nat → Int → Int} (hF : FR F) (hI : IR I) (hN : NR N) (hT : 1 ≤ I 13 ∧ I 13 ≤ 8) : Sp (rm 6 134 0 0) mX8_half [.ref 0, J 0, J 3] (cls I N F ++ T) (fun w r => ∃ (m : Int) (g : Int → Int), r = some (J ((fitI I (F 10) (N 10) (I 13) 0) 16)) ∧ m = (if 0 < N 10 then fitM (fitI I (F 10) (N 10) (I 13) 0) (N 10) else 0) ∧ w = cls (fitI I (F 10) (N 10) (I 13) 0) (uN N 12 m) (uN F 12 g) ++ T ∧ (rowsOK (fitI I (F 10) (N 10) (I 13) 0) (N 10) m g ∧ (∀ i, -2147483648 ≤ g i ∧ g i < 2147483648))) := by
  unfold NR at hN
  refine sp_of (ls := [some (.ref 0), some (J 0), some (J 3), none]) (by decide) (nle rfl) rfl rfl ?_
  refine v_iload_n (dec_of DX8_half 0 rfl) rfl ?_
  refine v_S1r (k_isHalf (by decide)) lX8_121 (dec_of DX8_half 1 rfl) (by decide) (nle rfl) rfl ?_
  refine vi_if_eq (tgt := 16) (dec_of DX8_half 2 rfl) (by decide) (by first | omega | decide) (fun c4 => absurd c4 (by omega)) (fun c4 => ?_)
  refine v_iload_n (dec_of DX8_half 3 rfl) rfl ?_
  refine vi_if_lt (tgt := 16) (dec_of DX8_half 4 rfl) (by decide) (by first | omega | decide) (fun c8 => absurd c8 (by omega)) (fun c8 => ?_)
  refine v_iload_n (dec_of DX8_half 5 rfl) rfl ?_
  refine vi_const (dec_of DX8_half 6 rfl) ?_
  refine vi_icmp_le (tgt := 19) (dec_of DX8_half 7 rfl) (by decide) (by first | omega | decide) (by first | omega | decide) (fun c13 => ?_) (fun c13 => absurd c13 (by omega))
  refine v_aload_n (dec_of DX8_half 10 rfl) rfl ?_
  refine v_get fX8_40 (dec_of DX8_half 11 rfl) rfl rfl ?_
  refine v_iload_n (dec_of DX8_half 12 rfl) rfl ?_
  refine v_V1p (k_fitted0 hF hI (by unfold NR; exact hN) hT) lX8_124 (dec_of DX8_half 13 rfl) rfl rfl (by decide) (nle rfl) rfl (fun w r hz => ?_)
  obtain ⟨rfl, m, g, hm, rfl, hr⟩ := hz
  rw [tl_s]
  refine v_astore_n (dec_of DX8_half 14 rfl) (by decide) ?_
  dsimp only [List.set]
  refine v_iload_n (dec_of DX8_half 15 rfl) rfl ?_
  refine vi_tabOut (tgt := 82) (dec_of DX8_half 16 rfl) (by decide) (Or.inr (by decide)) (by decide) ?_
  refine v_aload_n (dec_of DX8_half 31 rfl) rfl ?_
  refine v_get fX8_140 (dec_of DX8_half 32 rfl) rfl rfl ?_
  exact vi_ret (dec_of DX8_half 33 rfl) rfl ⟨by decide, by decide⟩ (⟨m, g, rfl, hm, rfl, hr⟩)
set_option maxRecDepth 100000 in
set_option maxHeartbeats 4000000 in
theorem x_sung0_0 {T : XW} {I N : Nat → Int} {F : Nat → Int → Int} (hF : FR F) (hI : IR I) (hN : NR N) (hT : 1 ≤ I 13 ∧ I 13 ≤ 8) {k : Int} (hk : -2147483648 ≤ k ∧ k < 2147483648) : Sp (rm 6 134 0 0) mX8_sung [.ref 0, J 0, J k, J 0] (cls I N F ++ T) (fun w r => ∃ (m : Int) (g : Int → Int), r = some (J (if 0 ≤ k ∧ k < m then g (k * 2 + 0) else -100)) ∧ m = (if 0 < N 10 then fitM (fitI I (F 10) (N 10) (I 13) 0) (N 10) else 0) ∧ w = cls (fitI I (F 10) (N 10) (I 13) 0) (uN N 12 m) (uN F 12 g) ++ T ∧ (rowsOK (fitI I (F 10) (N 10) (I 13) 0) (N 10) m g ∧ (∀ i, -2147483648 ≤ g i ∧ g i < 2147483648))) := by
  unfold NR at hN
  refine sp_of (ls := [some (.ref 0), some (J 0), some (J k), some (J 0), none]) (by decide) (nle rfl) rfl rfl ?_
  refine v_iload_n (dec_of DX8_sung 0 rfl) rfl ?_
  refine v_S1r (k_isHalf (by decide)) lX8_121 (dec_of DX8_sung 1 rfl) (by decide) (nle rfl) rfl ?_
  refine vi_if_eq (tgt := 16) (dec_of DX8_sung 2 rfl) (by decide) (by first | omega | decide) (fun c4 => absurd c4 (by omega)) (fun c4 => ?_)
  refine v_iload_n (dec_of DX8_sung 3 rfl) rfl ?_
  refine vi_if_lt (tgt := 16) (dec_of DX8_sung 4 rfl) (by decide) (by first | omega | decide) (fun c8 => absurd c8 (by omega)) (fun c8 => ?_)
  refine v_iload_n (dec_of DX8_sung 5 rfl) rfl ?_
  refine vi_const (dec_of DX8_sung 6 rfl) ?_
  refine vi_icmp_le (tgt := 19) (dec_of DX8_sung 7 rfl) (by decide) (by first | omega | decide) (by first | omega | decide) (fun c13 => ?_) (fun c13 => absurd c13 (by omega))
  refine v_aload_n (dec_of DX8_sung 10 rfl) rfl ?_
  refine v_get fX8_40 (dec_of DX8_sung 11 rfl) rfl rfl ?_
  refine v_iload_n (dec_of DX8_sung 12 rfl) rfl ?_
  refine v_V1p (k_fitted0 hF hI (by unfold NR; exact hN) hT) lX8_124 (dec_of DX8_sung 13 rfl) rfl rfl (by decide) (nle rfl) rfl (fun w r hz => ?_)
  obtain ⟨rfl, m, g, hm, rfl, hr⟩ := hz
  rw [tl_s]
  have hm2 := fitM_r0 (F := F) (I := I) (by unfold NR; exact hN) hm
  refine v_get fX8_128 (dec_of DX8_sung 14 rfl) rfl rfl ?_
  refine v_astore (dec_of DX8_sung 15 rfl) (by decide) ?_
  dsimp only [List.set]
  refine v_aload (dec_of DX8_sung 16 rfl) rfl ?_
  refine v_iload_n (dec_of DX8_sung 17 rfl) rfl ?_
  refine v_V1r (c12_has (by simp only [uN_s]; omega) (by omega)) lX8_89 (dec_of DX8_sung 18 rfl) rfl rfl (by decide) (nle rfl) rfl ?_
  simp only [uN_s]
  refine vi_if_eq (tgt := 51) (dec_of DX8_sung 19 rfl) (by decide) (by first | omega | decide) (fun c38 => ?_) (fun c38 => ?_)
  · refine vi_bi (dec_of DX8_sung 25 rfl) (by decide) ?_
    exact vi_ret (dec_of DX8_sung 26 rfl) rfl ⟨by decide, by decide⟩ (⟨m, g, by first | rw [if_pos (by omega)] | rw [if_neg (by omega)], hm, rfl, hr⟩)
  · refine v_aload (dec_of DX8_sung 20 rfl) rfl ?_
    refine v_iload_n (dec_of DX8_sung 21 rfl) rfl ?_
    refine v_iload_n (dec_of DX8_sung 22 rfl) rfl ?_
    refine v_V2r (c12_get (by simp only [uN_s]; omega) (by simp only [uN_s]; omega) (by decide)) lX8_143 (dec_of DX8_sung 23 rfl) rfl rfl (by decide) (nle rfl) rfl ?_
    simp only [uN_s]
    refine v_goto (tgt := 53) (dec_of DX8_sung 24 rfl) (by decide) ?_
    exact vi_ret (dec_of DX8_sung 26 rfl) rfl ⟨by decide, by decide⟩ (⟨m, g, by first | rw [if_pos (by omega)] | rw [if_neg (by omega)], hm, rfl, hr⟩)
set_option maxRecDepth 100000 in
set_option maxHeartbeats 4000000 in
theorem x_sung0_1 {T : XW} {I N : Nat → Int} {F : Nat → Int → Int} (hF : FR F) (hI : IR I) (hN : NR N) (hT : 1 ≤ I 13 ∧ I 13 ≤ 8) {k : Int} (hk : -2147483648 ≤ k ∧ k < 2147483648) : Sp (rm 6 134 0 0) mX8_sung [.ref 0, J 0, J k, J 1] (cls I N F ++ T) (fun w r => ∃ (m : Int) (g : Int → Int), r = some (J (if 0 ≤ k ∧ k < m then g (k * 2 + 1) else -100)) ∧ m = (if 0 < N 10 then fitM (fitI I (F 10) (N 10) (I 13) 0) (N 10) else 0) ∧ w = cls (fitI I (F 10) (N 10) (I 13) 0) (uN N 12 m) (uN F 12 g) ++ T ∧ (rowsOK (fitI I (F 10) (N 10) (I 13) 0) (N 10) m g ∧ (∀ i, -2147483648 ≤ g i ∧ g i < 2147483648))) := by
  unfold NR at hN
  refine sp_of (ls := [some (.ref 0), some (J 0), some (J k), some (J 1), none]) (by decide) (nle rfl) rfl rfl ?_
  refine v_iload_n (dec_of DX8_sung 0 rfl) rfl ?_
  refine v_S1r (k_isHalf (by decide)) lX8_121 (dec_of DX8_sung 1 rfl) (by decide) (nle rfl) rfl ?_
  refine vi_if_eq (tgt := 16) (dec_of DX8_sung 2 rfl) (by decide) (by first | omega | decide) (fun c4 => absurd c4 (by omega)) (fun c4 => ?_)
  refine v_iload_n (dec_of DX8_sung 3 rfl) rfl ?_
  refine vi_if_lt (tgt := 16) (dec_of DX8_sung 4 rfl) (by decide) (by first | omega | decide) (fun c8 => absurd c8 (by omega)) (fun c8 => ?_)
  refine v_iload_n (dec_of DX8_sung 5 rfl) rfl ?_
  refine vi_const (dec_of DX8_sung 6 rfl) ?_
  refine vi_icmp_le (tgt := 19) (dec_of DX8_sung 7 rfl) (by decide) (by first | omega | decide) (by first | omega | decide) (fun c13 => ?_) (fun c13 => absurd c13 (by omega))
  refine v_aload_n (dec_of DX8_sung 10 rfl) rfl ?_
  refine v_get fX8_40 (dec_of DX8_sung 11 rfl) rfl rfl ?_
  refine v_iload_n (dec_of DX8_sung 12 rfl) rfl ?_
  refine v_V1p (k_fitted0 hF hI (by unfold NR; exact hN) hT) lX8_124 (dec_of DX8_sung 13 rfl) rfl rfl (by decide) (nle rfl) rfl (fun w r hz => ?_)
  obtain ⟨rfl, m, g, hm, rfl, hr⟩ := hz
  rw [tl_s]
  have hm2 := fitM_r0 (F := F) (I := I) (by unfold NR; exact hN) hm
  refine v_get fX8_128 (dec_of DX8_sung 14 rfl) rfl rfl ?_
  refine v_astore (dec_of DX8_sung 15 rfl) (by decide) ?_
  dsimp only [List.set]
  refine v_aload (dec_of DX8_sung 16 rfl) rfl ?_
  refine v_iload_n (dec_of DX8_sung 17 rfl) rfl ?_
  refine v_V1r (c12_has (by simp only [uN_s]; omega) (by omega)) lX8_89 (dec_of DX8_sung 18 rfl) rfl rfl (by decide) (nle rfl) rfl ?_
  simp only [uN_s]
  refine vi_if_eq (tgt := 51) (dec_of DX8_sung 19 rfl) (by decide) (by first | omega | decide) (fun c38 => ?_) (fun c38 => ?_)
  · refine vi_bi (dec_of DX8_sung 25 rfl) (by decide) ?_
    exact vi_ret (dec_of DX8_sung 26 rfl) rfl ⟨by decide, by decide⟩ (⟨m, g, by first | rw [if_pos (by omega)] | rw [if_neg (by omega)], hm, rfl, hr⟩)
  · refine v_aload (dec_of DX8_sung 20 rfl) rfl ?_
    refine v_iload_n (dec_of DX8_sung 21 rfl) rfl ?_
    refine v_iload_n (dec_of DX8_sung 22 rfl) rfl ?_
    refine v_V2r (c12_get (by simp only [uN_s]; omega) (by simp only [uN_s]; omega) (by decide)) lX8_143 (dec_of DX8_sung 23 rfl) rfl rfl (by decide) (nle rfl) rfl ?_
    simp only [uN_s]
    refine v_goto (tgt := 53) (dec_of DX8_sung 24 rfl) (by decide) ?_
    exact vi_ret (dec_of DX8_sung 26 rfl) rfl ⟨by decide, by decide⟩ (⟨m, g, by first | rw [if_pos (by omega)] | rw [if_neg (by omega)], hm, rfl, hr⟩)
set_option maxRecDepth 100000 in
set_option maxHeartbeats 4000000 in
theorem k_fitted1 {T : XW} {I N : Nat → Int} {F : Nat → Int → Int} (hF : FR F) (hI : IR I) (hN : NR N) (hT : 1 ≤ I 13 ∧ I 13 ≤ 8) : Sp (rm 5 113 0 0) mX1_fitted [.ref 23, J 1] (cls I N F ++ T) (fun w r => r = some (.ref 28) ∧ ∃ (m : Int) (g : Int → Int), m = (if 0 < N 11 then fitM (fitI I (F 11) (N 11) (I 13) 1) (N 11) else 0) ∧ w = cls (fitI I (F 11) (N 11) (I 13) 1) (uN N 12 m) (uN F 12 g) ++ T ∧ (rowsOK (fitI I (F 11) (N 11) (I 13) 1) (N 11) m g ∧ (∀ i, -2147483648 ≤ g i ∧ g i < 2147483648))) := by
  unfold NR at hN
  refine sp_of (ls := [some (.ref 23), some (J 1)]) (by decide) (nle rfl) rfl rfl ?_
  refine v_aload_n (dec_of DX1_fitted 0 rfl) rfl ?_
  refine v_get fX1_28 (dec_of DX1_fitted 1 rfl) rfl rfl ?_
  refine v_aload_n (dec_of DX1_fitted 2 rfl) rfl ?_
  refine v_iload_n (dec_of DX1_fitted 3 rfl) rfl ?_
  refine v_V1r (k_accOf1 hF hI (by unfold NR; exact hN) (by decide) (by decide)) lX1_42 (dec_of DX1_fitted 4 rfl) rfl rfl (by decide) (nle rfl) rfl ?_
  refine v_aload_n (dec_of DX1_fitted 5 rfl) rfl ?_
  refine v_get fX1_32 (dec_of DX1_fitted 6 rfl) rfl rfl ?_
  refine v_iload_n (dec_of DX1_fitted 7 rfl) rfl ?_
  refine v_V3p (k_fit11 hF hI (by unfold NR; exact hN) hT (by decide)) lX1_61 (dec_of DX1_fitted 8 rfl) rfl rfl (by decide) (nle rfl) rfl (fun w r hz => ?_)
  obtain ⟨rfl, m, g, hm, rfl, hr⟩ := hz
  rw [tl_n]
  refine v_aload_n (dec_of DX1_fitted 9 rfl) rfl ?_
  refine v_get fX1_28 (dec_of DX1_fitted 10 rfl) rfl rfl ?_
  exact vi_aret (dec_of DX1_fitted 11 rfl) ⟨_, rfl⟩ ⟨by decide, by decide⟩ (⟨rfl, m, g, hm, rfl, hr⟩)
theorem fitM_r1 {I N : Nat → Int} {F : Nat → Int → Int} (hN : NR N) {J1 : Nat → Int} {m : Int} (hm : m = (if 0 < N 11 then fitM J1 (N 11) else 0)) : 0 ≤ m ∧ m ≤ 41 := by
  unfold NR at hN
  unfold fitM at hm
  omega
set_option maxRecDepth 100000 in
set_option maxHeartbeats 4000000 in
theorem x_half1_0 {T : XW} {I N : Nat → Int} {F : Nat → Int → Int} (hF : FR F) (hI : IR I) (hN : NR N) (hT : 1 ≤ I 13 ∧ I 13 ≤ 8) : Sp (rm 6 134 0 0) mX8_half [.ref 0, J 1, J 0] (cls I N F ++ T) (fun w r => ∃ (m : Int) (g : Int → Int), r = some (J (m)) ∧ m = (if 0 < N 11 then fitM (fitI I (F 11) (N 11) (I 13) 1) (N 11) else 0) ∧ w = cls (fitI I (F 11) (N 11) (I 13) 1) (uN N 12 m) (uN F 12 g) ++ T ∧ (rowsOK (fitI I (F 11) (N 11) (I 13) 1) (N 11) m g ∧ (∀ i, -2147483648 ≤ g i ∧ g i < 2147483648))) := by
  unfold NR at hN
  refine sp_of (ls := [some (.ref 0), some (J 1), some (J 0), none]) (by decide) (nle rfl) rfl rfl ?_
  refine v_iload_n (dec_of DX8_half 0 rfl) rfl ?_
  refine v_S1r (k_isHalf (by decide)) lX8_121 (dec_of DX8_half 1 rfl) (by decide) (nle rfl) rfl ?_
  refine vi_if_eq (tgt := 16) (dec_of DX8_half 2 rfl) (by decide) (by first | omega | decide) (fun c4 => absurd c4 (by omega)) (fun c4 => ?_)
  refine v_iload_n (dec_of DX8_half 3 rfl) rfl ?_
  refine vi_if_lt (tgt := 16) (dec_of DX8_half 4 rfl) (by decide) (by first | omega | decide) (fun c8 => absurd c8 (by omega)) (fun c8 => ?_)
  refine v_iload_n (dec_of DX8_half 5 rfl) rfl ?_
  refine vi_const (dec_of DX8_half 6 rfl) ?_
  refine vi_icmp_le (tgt := 19) (dec_of DX8_half 7 rfl) (by decide) (by first | omega | decide) (by first | omega | decide) (fun c13 => ?_) (fun c13 => absurd c13 (by omega))
  refine v_aload_n (dec_of DX8_half 10 rfl) rfl ?_
  refine v_get fX8_40 (dec_of DX8_half 11 rfl) rfl rfl ?_
  refine v_iload_n (dec_of DX8_half 12 rfl) rfl ?_
  refine v_V1p (k_fitted1 hF hI (by unfold NR; exact hN) hT) lX8_124 (dec_of DX8_half 13 rfl) rfl rfl (by decide) (nle rfl) rfl (fun w r hz => ?_)
  obtain ⟨rfl, m, g, hm, rfl, hr⟩ := hz
  rw [tl_s]
  refine v_astore_n (dec_of DX8_half 14 rfl) (by decide) ?_
  dsimp only [List.set]
  refine v_iload_n (dec_of DX8_half 15 rfl) rfl ?_
  refine vi_tabIn (tgt := 56) (dec_of DX8_half 16 rfl) (by decide) (by decide) (by decide) rfl (by decide) ?_
  refine v_aload_n (dec_of DX8_half 17 rfl) rfl ?_
  refine v_get fX8_128 (dec_of DX8_half 18 rfl) rfl rfl ?_
  refine v_V0r (c12_size) lX8_48 (dec_of DX8_half 19 rfl) rfl rfl (by decide) (nle rfl) rfl ?_
  exact vi_ret (dec_of DX8_half 20 rfl) rfl ⟨by decide, by decide⟩ (⟨m, g, by simp only [uN_s], hm, rfl, hr⟩)
set_option maxRecDepth 100000 in
set_option maxHeartbeats 4000000 in
theorem x_half1_1 {T : XW} {I N : Nat → Int} {F : Nat → Int → Int} (hF : FR F) (hI : IR I) (hN : NR N) (hT : 1 ≤ I 13 ∧ I 13 ≤ 8) : Sp (rm 6 134 0 0) mX8_half [.ref 0, J 1, J 1] (cls I N F ++ T) (fun w r => ∃ (m : Int) (g : Int → Int), r = some (J ((if (fitI I (F 11) (N 11) (I 13) 1) 14 = 0 then 0 else 1))) ∧ m = (if 0 < N 11 then fitM (fitI I (F 11) (N 11) (I 13) 1) (N 11) else 0) ∧ w = cls (fitI I (F 11) (N 11) (I 13) 1) (uN N 12 m) (uN F 12 g) ++ T ∧ (rowsOK (fitI I (F 11) (N 11) (I 13) 1) (N 11) m g ∧ (∀ i, -2147483648 ≤ g i ∧ g i < 2147483648))) := by
  unfold NR at hN
  have hb14 : -2147483648 ≤ (fitI I (F 11) (N 11) (I 13) 1) 14 ∧ (fitI I (F 11) (N 11) (I 13) 1) 14 < 2147483648 := fitI_14
  refine sp_of (ls := [some (.ref 0), some (J 1), some (J 1), none]) (by decide) (nle rfl) rfl rfl ?_
  refine v_iload_n (dec_of DX8_half 0 rfl) rfl ?_
  refine v_S1r (k_isHalf (by decide)) lX8_121 (dec_of DX8_half 1 rfl) (by decide) (nle rfl) rfl ?_
  refine vi_if_eq (tgt := 16) (dec_of DX8_half 2 rfl) (by decide) (by first | omega | decide | exact hb14) (fun c4 => absurd c4 (by omega)) (fun c4 => ?_)
  refine v_iload_n (dec_of DX8_half 3 rfl) rfl ?_
  refine vi_if_lt (tgt := 16) (dec_of DX8_half 4 rfl) (by decide) (by first | omega | decide | exact hb14) (fun c8 => absurd c8 (by omega)) (fun c8 => ?_)
  refine v_iload_n (dec_of DX8_half 5 rfl) rfl ?_
  refine vi_const (dec_of DX8_half 6 rfl) ?_
  refine vi_icmp_le (tgt := 19) (dec_of DX8_half 7 rfl) (by decide) (by first | omega | decide | exact hb14) (by first | omega | decide | exact hb14) (fun c13 => ?_) (fun c13 => absurd c13 (by omega))
  refine v_aload_n (dec_of DX8_half 10 rfl) rfl ?_
  refine v_get fX8_40 (dec_of DX8_half 11 rfl) rfl rfl ?_
  refine v_iload_n (dec_of DX8_half 12 rfl) rfl ?_
  refine v_V1p (k_fitted1 hF hI (by unfold NR; exact hN) hT) lX8_124 (dec_of DX8_half 13 rfl) rfl rfl (by decide) (nle rfl) rfl (fun w r hz => ?_)
  obtain ⟨rfl, m, g, hm, rfl, hr⟩ := hz
  rw [tl_s]
  refine v_astore_n (dec_of DX8_half 14 rfl) (by decide) ?_
  dsimp only [List.set]
  refine v_iload_n (dec_of DX8_half 15 rfl) rfl ?_
  refine vi_tabIn (tgt := 64) (dec_of DX8_half 16 rfl) (by decide) (by decide) (by decide) rfl (by decide) ?_
  refine v_aload_n (dec_of DX8_half 21 rfl) rfl ?_
  refine v_get fX8_133 (dec_of DX8_half 22 rfl) rfl rfl ?_
  refine vi_if_eq (tgt := 75) (dec_of DX8_half 23 rfl) (by decide) (by first | omega | decide | exact hb14) (fun c68 => ?_) (fun c68 => ?_)
  · refine vi_const (dec_of DX8_half 26 rfl) ?_
    exact vi_ret (dec_of DX8_half 27 rfl) rfl ⟨by decide, by decide⟩ (⟨m, g, by first | rw [if_neg c68] | rw [if_pos c68], hm, rfl, hr⟩)
  · refine vi_const (dec_of DX8_half 24 rfl) ?_
    refine v_goto (tgt := 76) (dec_of DX8_half 25 rfl) (by decide) ?_
    exact vi_ret (dec_of DX8_half 27 rfl) rfl ⟨by decide, by decide⟩ (⟨m, g, by first | rw [if_neg c68] | rw [if_pos c68], hm, rfl, hr⟩)
set_option maxRecDepth 100000 in
set_option maxHeartbeats 4000000 in
theorem x_half1_2 {T : XW} {I N : Nat → Int} {F : Nat → Int → Int} (hF : FR F) (hI : IR I) (hN : NR N) (hT : 1 ≤ I 13 ∧ I 13 ≤ 8) : Sp (rm 6 134 0 0) mX8_half [.ref 0, J 1, J 2] (cls I N F ++ T) (fun w r => ∃ (m : Int) (g : Int → Int), r = some (J ((fitI I (F 11) (N 11) (I 13) 1) 15)) ∧ m = (if 0 < N 11 then fitM (fitI I (F 11) (N 11) (I 13) 1) (N 11) else 0) ∧ w = cls (fitI I (F 11) (N 11) (I 13) 1) (uN N 12 m) (uN F 12 g) ++ T ∧ (rowsOK (fitI I (F 11) (N 11) (I 13) 1) (N 11) m g ∧ (∀ i, -2147483648 ≤ g i ∧ g i < 2147483648))) := by
  unfold NR at hN
  refine sp_of (ls := [some (.ref 0), some (J 1), some (J 2), none]) (by decide) (nle rfl) rfl rfl ?_
  refine v_iload_n (dec_of DX8_half 0 rfl) rfl ?_
  refine v_S1r (k_isHalf (by decide)) lX8_121 (dec_of DX8_half 1 rfl) (by decide) (nle rfl) rfl ?_
  refine vi_if_eq (tgt := 16) (dec_of DX8_half 2 rfl) (by decide) (by first | omega | decide) (fun c4 => absurd c4 (by omega)) (fun c4 => ?_)
  refine v_iload_n (dec_of DX8_half 3 rfl) rfl ?_
  refine vi_if_lt (tgt := 16) (dec_of DX8_half 4 rfl) (by decide) (by first | omega | decide) (fun c8 => absurd c8 (by omega)) (fun c8 => ?_)
  refine v_iload_n (dec_of DX8_half 5 rfl) rfl ?_
  refine vi_const (dec_of DX8_half 6 rfl) ?_
  refine vi_icmp_le (tgt := 19) (dec_of DX8_half 7 rfl) (by decide) (by first | omega | decide) (by first | omega | decide) (fun c13 => ?_) (fun c13 => absurd c13 (by omega))
  refine v_aload_n (dec_of DX8_half 10 rfl) rfl ?_
  refine v_get fX8_40 (dec_of DX8_half 11 rfl) rfl rfl ?_
  refine v_iload_n (dec_of DX8_half 12 rfl) rfl ?_
  refine v_V1p (k_fitted1 hF hI (by unfold NR; exact hN) hT) lX8_124 (dec_of DX8_half 13 rfl) rfl rfl (by decide) (nle rfl) rfl (fun w r hz => ?_)
  obtain ⟨rfl, m, g, hm, rfl, hr⟩ := hz
  rw [tl_s]
  refine v_astore_n (dec_of DX8_half 14 rfl) (by decide) ?_
  dsimp only [List.set]
  refine v_iload_n (dec_of DX8_half 15 rfl) rfl ?_
  refine vi_tabIn (tgt := 77) (dec_of DX8_half 16 rfl) (by decide) (by decide) (by decide) rfl (by decide) ?_
  refine v_aload_n (dec_of DX8_half 28 rfl) rfl ?_
  refine v_get fX8_137 (dec_of DX8_half 29 rfl) rfl rfl ?_
  exact vi_ret (dec_of DX8_half 30 rfl) rfl ⟨by decide, by decide⟩ (⟨m, g, rfl, hm, rfl, hr⟩)
set_option maxRecDepth 100000 in
set_option maxHeartbeats 4000000 in
theorem x_half1_3 {T : XW} {I N : Nat → Int} {F : Nat → Int → Int} (hF : FR F) (hI : IR I) (hN : NR N) (hT : 1 ≤ I 13 ∧ I 13 ≤ 8) : Sp (rm 6 134 0 0) mX8_half [.ref 0, J 1, J 3] (cls I N F ++ T) (fun w r => ∃ (m : Int) (g : Int → Int), r = some (J ((fitI I (F 11) (N 11) (I 13) 1) 16)) ∧ m = (if 0 < N 11 then fitM (fitI I (F 11) (N 11) (I 13) 1) (N 11) else 0) ∧ w = cls (fitI I (F 11) (N 11) (I 13) 1) (uN N 12 m) (uN F 12 g) ++ T ∧ (rowsOK (fitI I (F 11) (N 11) (I 13) 1) (N 11) m g ∧ (∀ i, -2147483648 ≤ g i ∧ g i < 2147483648))) := by
  unfold NR at hN
  refine sp_of (ls := [some (.ref 0), some (J 1), some (J 3), none]) (by decide) (nle rfl) rfl rfl ?_
  refine v_iload_n (dec_of DX8_half 0 rfl) rfl ?_
  refine v_S1r (k_isHalf (by decide)) lX8_121 (dec_of DX8_half 1 rfl) (by decide) (nle rfl) rfl ?_
  refine vi_if_eq (tgt := 16) (dec_of DX8_half 2 rfl) (by decide) (by first | omega | decide) (fun c4 => absurd c4 (by omega)) (fun c4 => ?_)
  refine v_iload_n (dec_of DX8_half 3 rfl) rfl ?_
  refine vi_if_lt (tgt := 16) (dec_of DX8_half 4 rfl) (by decide) (by first | omega | decide) (fun c8 => absurd c8 (by omega)) (fun c8 => ?_)
  refine v_iload_n (dec_of DX8_half 5 rfl) rfl ?_
  refine vi_const (dec_of DX8_half 6 rfl) ?_
  refine vi_icmp_le (tgt := 19) (dec_of DX8_half 7 rfl) (by decide) (by first | omega | decide) (by first | omega | decide) (fun c13 => ?_) (fun c13 => absurd c13 (by omega))
  refine v_aload_n (dec_of DX8_half 10 rfl) rfl ?_
  refine v_get fX8_40 (dec_of DX8_half 11 rfl) rfl rfl ?_
  refine v_iload_n (dec_of DX8_half 12 rfl) rfl ?_
  refine v_V1p (k_fitted1 hF hI (by unfold NR; exact hN) hT) lX8_124 (dec_of DX8_half 13 rfl) rfl rfl (by decide) (nle rfl) rfl (fun w r hz => ?_)
  obtain ⟨rfl, m, g, hm, rfl, hr⟩ := hz
  rw [tl_s]
  refine v_astore_n (dec_of DX8_half 14 rfl) (by decide) ?_
  dsimp only [List.set]
  refine v_iload_n (dec_of DX8_half 15 rfl) rfl ?_
  refine vi_tabOut (tgt := 82) (dec_of DX8_half 16 rfl) (by decide) (Or.inr (by decide)) (by decide) ?_
  refine v_aload_n (dec_of DX8_half 31 rfl) rfl ?_
  refine v_get fX8_140 (dec_of DX8_half 32 rfl) rfl rfl ?_
  exact vi_ret (dec_of DX8_half 33 rfl) rfl ⟨by decide, by decide⟩ (⟨m, g, rfl, hm, rfl, hr⟩)
set_option maxRecDepth 100000 in
set_option maxHeartbeats 4000000 in
theorem x_sung1_0 {T : XW} {I N : Nat → Int} {F : Nat → Int → Int} (hF : FR F) (hI : IR I) (hN : NR N) (hT : 1 ≤ I 13 ∧ I 13 ≤ 8) {k : Int} (hk : -2147483648 ≤ k ∧ k < 2147483648) : Sp (rm 6 134 0 0) mX8_sung [.ref 0, J 1, J k, J 0] (cls I N F ++ T) (fun w r => ∃ (m : Int) (g : Int → Int), r = some (J (if 0 ≤ k ∧ k < m then g (k * 2 + 0) else -100)) ∧ m = (if 0 < N 11 then fitM (fitI I (F 11) (N 11) (I 13) 1) (N 11) else 0) ∧ w = cls (fitI I (F 11) (N 11) (I 13) 1) (uN N 12 m) (uN F 12 g) ++ T ∧ (rowsOK (fitI I (F 11) (N 11) (I 13) 1) (N 11) m g ∧ (∀ i, -2147483648 ≤ g i ∧ g i < 2147483648))) := by
  unfold NR at hN
  refine sp_of (ls := [some (.ref 0), some (J 1), some (J k), some (J 0), none]) (by decide) (nle rfl) rfl rfl ?_
  refine v_iload_n (dec_of DX8_sung 0 rfl) rfl ?_
  refine v_S1r (k_isHalf (by decide)) lX8_121 (dec_of DX8_sung 1 rfl) (by decide) (nle rfl) rfl ?_
  refine vi_if_eq (tgt := 16) (dec_of DX8_sung 2 rfl) (by decide) (by first | omega | decide) (fun c4 => absurd c4 (by omega)) (fun c4 => ?_)
  refine v_iload_n (dec_of DX8_sung 3 rfl) rfl ?_
  refine vi_if_lt (tgt := 16) (dec_of DX8_sung 4 rfl) (by decide) (by first | omega | decide) (fun c8 => absurd c8 (by omega)) (fun c8 => ?_)
  refine v_iload_n (dec_of DX8_sung 5 rfl) rfl ?_
  refine vi_const (dec_of DX8_sung 6 rfl) ?_
  refine vi_icmp_le (tgt := 19) (dec_of DX8_sung 7 rfl) (by decide) (by first | omega | decide) (by first | omega | decide) (fun c13 => ?_) (fun c13 => absurd c13 (by omega))
  refine v_aload_n (dec_of DX8_sung 10 rfl) rfl ?_
  refine v_get fX8_40 (dec_of DX8_sung 11 rfl) rfl rfl ?_
  refine v_iload_n (dec_of DX8_sung 12 rfl) rfl ?_
  refine v_V1p (k_fitted1 hF hI (by unfold NR; exact hN) hT) lX8_124 (dec_of DX8_sung 13 rfl) rfl rfl (by decide) (nle rfl) rfl (fun w r hz => ?_)
  obtain ⟨rfl, m, g, hm, rfl, hr⟩ := hz
  rw [tl_s]
  have hm2 := fitM_r1 (F := F) (I := I) (by unfold NR; exact hN) hm
  refine v_get fX8_128 (dec_of DX8_sung 14 rfl) rfl rfl ?_
  refine v_astore (dec_of DX8_sung 15 rfl) (by decide) ?_
  dsimp only [List.set]
  refine v_aload (dec_of DX8_sung 16 rfl) rfl ?_
  refine v_iload_n (dec_of DX8_sung 17 rfl) rfl ?_
  refine v_V1r (c12_has (by simp only [uN_s]; omega) (by omega)) lX8_89 (dec_of DX8_sung 18 rfl) rfl rfl (by decide) (nle rfl) rfl ?_
  simp only [uN_s]
  refine vi_if_eq (tgt := 51) (dec_of DX8_sung 19 rfl) (by decide) (by first | omega | decide) (fun c38 => ?_) (fun c38 => ?_)
  · refine vi_bi (dec_of DX8_sung 25 rfl) (by decide) ?_
    exact vi_ret (dec_of DX8_sung 26 rfl) rfl ⟨by decide, by decide⟩ (⟨m, g, by first | rw [if_pos (by omega)] | rw [if_neg (by omega)], hm, rfl, hr⟩)
  · refine v_aload (dec_of DX8_sung 20 rfl) rfl ?_
    refine v_iload_n (dec_of DX8_sung 21 rfl) rfl ?_
    refine v_iload_n (dec_of DX8_sung 22 rfl) rfl ?_
    refine v_V2r (c12_get (by simp only [uN_s]; omega) (by simp only [uN_s]; omega) (by decide)) lX8_143 (dec_of DX8_sung 23 rfl) rfl rfl (by decide) (nle rfl) rfl ?_
    simp only [uN_s]
    refine v_goto (tgt := 53) (dec_of DX8_sung 24 rfl) (by decide) ?_
    exact vi_ret (dec_of DX8_sung 26 rfl) rfl ⟨by decide, by decide⟩ (⟨m, g, by first | rw [if_pos (by omega)] | rw [if_neg (by omega)], hm, rfl, hr⟩)
set_option maxRecDepth 100000 in
set_option maxHeartbeats 4000000 in
theorem x_sung1_1 {T : XW} {I N : Nat → Int} {F : Nat → Int → Int} (hF : FR F) (hI : IR I) (hN : NR N) (hT : 1 ≤ I 13 ∧ I 13 ≤ 8) {k : Int} (hk : -2147483648 ≤ k ∧ k < 2147483648) : Sp (rm 6 134 0 0) mX8_sung [.ref 0, J 1, J k, J 1] (cls I N F ++ T) (fun w r => ∃ (m : Int) (g : Int → Int), r = some (J (if 0 ≤ k ∧ k < m then g (k * 2 + 1) else -100)) ∧ m = (if 0 < N 11 then fitM (fitI I (F 11) (N 11) (I 13) 1) (N 11) else 0) ∧ w = cls (fitI I (F 11) (N 11) (I 13) 1) (uN N 12 m) (uN F 12 g) ++ T ∧ (rowsOK (fitI I (F 11) (N 11) (I 13) 1) (N 11) m g ∧ (∀ i, -2147483648 ≤ g i ∧ g i < 2147483648))) := by
  unfold NR at hN
  refine sp_of (ls := [some (.ref 0), some (J 1), some (J k), some (J 1), none]) (by decide) (nle rfl) rfl rfl ?_
  refine v_iload_n (dec_of DX8_sung 0 rfl) rfl ?_
  refine v_S1r (k_isHalf (by decide)) lX8_121 (dec_of DX8_sung 1 rfl) (by decide) (nle rfl) rfl ?_
  refine vi_if_eq (tgt := 16) (dec_of DX8_sung 2 rfl) (by decide) (by first | omega | decide) (fun c4 => absurd c4 (by omega)) (fun c4 => ?_)
  refine v_iload_n (dec_of DX8_sung 3 rfl) rfl ?_
  refine vi_if_lt (tgt := 16) (dec_of DX8_sung 4 rfl) (by decide) (by first | omega | decide) (fun c8 => absurd c8 (by omega)) (fun c8 => ?_)
  refine v_iload_n (dec_of DX8_sung 5 rfl) rfl ?_
  refine vi_const (dec_of DX8_sung 6 rfl) ?_
  refine vi_icmp_le (tgt := 19) (dec_of DX8_sung 7 rfl) (by decide) (by first | omega | decide) (by first | omega | decide) (fun c13 => ?_) (fun c13 => absurd c13 (by omega))
  refine v_aload_n (dec_of DX8_sung 10 rfl) rfl ?_
  refine v_get fX8_40 (dec_of DX8_sung 11 rfl) rfl rfl ?_
  refine v_iload_n (dec_of DX8_sung 12 rfl) rfl ?_
  refine v_V1p (k_fitted1 hF hI (by unfold NR; exact hN) hT) lX8_124 (dec_of DX8_sung 13 rfl) rfl rfl (by decide) (nle rfl) rfl (fun w r hz => ?_)
  obtain ⟨rfl, m, g, hm, rfl, hr⟩ := hz
  rw [tl_s]
  have hm2 := fitM_r1 (F := F) (I := I) (by unfold NR; exact hN) hm
  refine v_get fX8_128 (dec_of DX8_sung 14 rfl) rfl rfl ?_
  refine v_astore (dec_of DX8_sung 15 rfl) (by decide) ?_
  dsimp only [List.set]
  refine v_aload (dec_of DX8_sung 16 rfl) rfl ?_
  refine v_iload_n (dec_of DX8_sung 17 rfl) rfl ?_
  refine v_V1r (c12_has (by simp only [uN_s]; omega) (by omega)) lX8_89 (dec_of DX8_sung 18 rfl) rfl rfl (by decide) (nle rfl) rfl ?_
  simp only [uN_s]
  refine vi_if_eq (tgt := 51) (dec_of DX8_sung 19 rfl) (by decide) (by first | omega | decide) (fun c38 => ?_) (fun c38 => ?_)
  · refine vi_bi (dec_of DX8_sung 25 rfl) (by decide) ?_
    exact vi_ret (dec_of DX8_sung 26 rfl) rfl ⟨by decide, by decide⟩ (⟨m, g, by first | rw [if_pos (by omega)] | rw [if_neg (by omega)], hm, rfl, hr⟩)
  · refine v_aload (dec_of DX8_sung 20 rfl) rfl ?_
    refine v_iload_n (dec_of DX8_sung 21 rfl) rfl ?_
    refine v_iload_n (dec_of DX8_sung 22 rfl) rfl ?_
    refine v_V2r (c12_get (by simp only [uN_s]; omega) (by simp only [uN_s]; omega) (by decide)) lX8_143 (dec_of DX8_sung 23 rfl) rfl rfl (by decide) (nle rfl) rfl ?_
    simp only [uN_s]
    refine v_goto (tgt := 53) (dec_of DX8_sung 24 rfl) (by decide) ?_
    exact vi_ret (dec_of DX8_sung 26 rfl) rfl ⟨by decide, by decide⟩ (⟨m, g, by first | rw [if_pos (by omega)] | rw [if_neg (by omega)], hm, rfl, hr⟩)
set_option maxRecDepth 100000 in
set_option maxHeartbeats 4000000 in
theorem x_half_out {T : XW} {I N : Nat → Int} {F : Nat → Int → Int} (hF : FR F) (hI : IR I) (hN : NR N) {a b : Int} (ha : -2147483648 ≤ a ∧ a < 2147483648) (hb : -2147483648 ≤ b ∧ b < 2147483648) (h : ¬ ((a = 0 ∨ a = 1) ∧ 0 ≤ b ∧ b ≤ 3)) : Sd (rm 6 134 0 0) mX8_half [.ref 0, J a, J b] (cls I N F ++ T) (cls I N F ++ T) (some (J (-102))) := by
  unfold Sd
  unfold NR at hN
  refine sp_of (ls := [some (.ref 0), some (J a), some (J b), none]) (by decide) (nle rfl) rfl rfl ?_
  refine v_iload_n (dec_of DX8_half 0 rfl) rfl ?_
  refine v_S1r (k_isHalf (by omega)) lX8_121 (dec_of DX8_half 1 rfl) (by decide) (nle rfl) rfl ?_
  refine vi_if_eq (tgt := 16) (dec_of DX8_half 2 rfl) (by decide) (by first | omega | exact bnd_r _ _ | exact hF _ _ | exact hI _ | exact hG _ _ | exact hK _ | (simp [uN] <;> omega)) (fun c4 => ?_) (fun c4 => ?_)
  · refine vi_bi (dec_of DX8_half 8 rfl) (by decide) ?_
    exact vi_ret (dec_of DX8_half 9 rfl) rfl ⟨by decide, by decide⟩ (⟨rfl, rfl⟩)
  · refine v_iload_n (dec_of DX8_half 3 rfl) rfl ?_
    refine vi_if_lt (tgt := 16) (dec_of DX8_half 4 rfl) (by decide) (by first | omega | exact bnd_r _ _ | exact hF _ _ | exact hI _ | exact hG _ _ | exact hK _ | (simp [uN] <;> omega)) (fun c8 => ?_) (fun c8 => ?_)
    · refine vi_bi (dec_of DX8_half 8 rfl) (by decide) ?_
      exact vi_ret (dec_of DX8_half 9 rfl) rfl ⟨by decide, by decide⟩ (⟨rfl, rfl⟩)
    · refine v_iload_n (dec_of DX8_half 5 rfl) rfl ?_
      refine vi_const (dec_of DX8_half 6 rfl) ?_
      refine vi_icmp_le (tgt := 19) (dec_of DX8_half 7 rfl) (by decide) (by first | omega | exact bnd_r _ _ | exact hF _ _ | exact hI _ | exact hG _ _ | exact hK _ | (simp [uN] <;> omega)) (by first | omega | exact bnd_r _ _ | exact hF _ _ | exact hI _ | exact hG _ _ | exact hK _ | (simp [uN] <;> omega)) (fun c13 => ?_) (fun c13 => ?_)
      · exact absurd (show (a = 0 ∨ a = 1) ∧ 0 ≤ b ∧ b ≤ 3 by omega) h
      · refine vi_bi (dec_of DX8_half 8 rfl) (by decide) ?_
        exact vi_ret (dec_of DX8_half 9 rfl) rfl ⟨by decide, by decide⟩ (⟨rfl, rfl⟩)
set_option maxRecDepth 100000 in
set_option maxHeartbeats 4000000 in
theorem x_sung_out {T : XW} {I N : Nat → Int} {F : Nat → Int → Int} (hF : FR F) (hI : IR I) (hN : NR N) {a k b : Int} (ha : -2147483648 ≤ a ∧ a < 2147483648) (hb : -2147483648 ≤ b ∧ b < 2147483648) (h : ¬ ((a = 0 ∨ a = 1) ∧ 0 ≤ b ∧ b ≤ 1)) : Sd (rm 6 134 0 0) mX8_sung [.ref 0, J a, J k, J b] (cls I N F ++ T) (cls I N F ++ T) (some (J (-102))) := by
  unfold Sd
  unfold NR at hN
  refine sp_of (ls := [some (.ref 0), some (J a), some (J k), some (J b), none]) (by decide) (nle rfl) rfl rfl ?_
  refine v_iload_n (dec_of DX8_sung 0 rfl) rfl ?_
  refine v_S1r (k_isHalf (by omega)) lX8_121 (dec_of DX8_sung 1 rfl) (by decide) (nle rfl) rfl ?_
  refine vi_if_eq (tgt := 16) (dec_of DX8_sung 2 rfl) (by decide) (by first | omega | exact bnd_r _ _ | exact hF _ _ | exact hI _ | exact hG _ _ | exact hK _ | (simp [uN] <;> omega)) (fun c4 => ?_) (fun c4 => ?_)
  · refine vi_bi (dec_of DX8_sung 8 rfl) (by decide) ?_
    exact vi_ret (dec_of DX8_sung 9 rfl) rfl ⟨by decide, by decide⟩ (⟨rfl, rfl⟩)
  · refine v_iload_n (dec_of DX8_sung 3 rfl) rfl ?_
    refine vi_if_lt (tgt := 16) (dec_of DX8_sung 4 rfl) (by decide) (by first | omega | exact bnd_r _ _ | exact hF _ _ | exact hI _ | exact hG _ _ | exact hK _ | (simp [uN] <;> omega)) (fun c8 => ?_) (fun c8 => ?_)
    · refine vi_bi (dec_of DX8_sung 8 rfl) (by decide) ?_
      exact vi_ret (dec_of DX8_sung 9 rfl) rfl ⟨by decide, by decide⟩ (⟨rfl, rfl⟩)
    · refine v_iload_n (dec_of DX8_sung 5 rfl) rfl ?_
      refine vi_const (dec_of DX8_sung 6 rfl) ?_
      refine vi_icmp_le (tgt := 19) (dec_of DX8_sung 7 rfl) (by decide) (by first | omega | exact bnd_r _ _ | exact hF _ _ | exact hI _ | exact hG _ _ | exact hK _ | (simp [uN] <;> omega)) (by first | omega | exact bnd_r _ _ | exact hF _ _ | exact hI _ | exact hG _ _ | exact hK _ | (simp [uN] <;> omega)) (fun c13 => ?_) (fun c13 => ?_)
      · exact absurd (show (a = 0 ∨ a = 1) ∧ 0 ≤ b ∧ b ≤ 1 by omega) h
      · refine vi_bi (dec_of DX8_sung 8 rfl) (by decide) ?_
        exact vi_ret (dec_of DX8_sung 9 rfl) rfl ⟨by decide, by decide⟩ (⟨rfl, rfl⟩)
