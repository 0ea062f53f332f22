/-! Reader: takeInside, start (printed by wip/tools/gen_c4.py) -/
theorem mkOf_r (b : Int) : 0 ≤ mkOf b ∧ mkOf b ≤ 16 := by unfold mkOf; omega
set_option maxRecDepth 100000 in
set_option maxHeartbeats 4000000 in
theorem k_in_mark {T : XW} {I N : Nat → Int} {F : Nat → Int → Int} {w2 : XW} {p b q : Int} (hb : 0 ≤ b ∧ b < 256) (hq : -1 ≤ q ∧ q < 256) (hc : ¬ mkOf b = 0) (hs : Sd (rm 2 45 0 0) mX2_takeMark [.ref 20, J p, J (mkOf b)] (cls I N F ++ T) w2 none) : Sd (rm 4 98 0 0) mX2_takeInside [.ref 20, J p, J b, J q] (cls I N F ++ T) (w2) (none) := by
  unfold Sd
  have hm := mkOf_r b
  refine sp_of (ls := [some (.ref 20), some (J p), some (J b), some (J q), none]) (by decide) (nle rfl) rfl rfl ?_
  refine v_iload_n (dec_of DX2_takeInside 0 rfl) rfl ?_
  refine v_S1r (k_markOf (by omega)) lX2_125 (dec_of DX2_takeInside 1 rfl) (by decide) (nle rfl) rfl ?_
  refine v_istore (dec_of DX2_takeInside 2 rfl) (by decide) ?_
  dsimp only [List.set]
  refine v_iload (dec_of DX2_takeInside 3 rfl) rfl ?_
  refine vi_if_eq (tgt := 19) (dec_of DX2_takeInside 4 rfl) (by decide) (by first | omega | exact bnd_r _ _ | exact hF _ _ | exact hI _ | exact hG _ _ | exact hK _ | (simp [uN] <;> omega)) (fun c8 => absurd c8 (by omega)) (fun c8 => ?_)
  refine v_aload_n (dec_of DX2_takeInside 5 rfl) rfl ?_
  refine v_iload_n (dec_of DX2_takeInside 6 rfl) rfl ?_
  refine v_iload (dec_of DX2_takeInside 7 rfl) rfl ?_
  refine v_V2v (hs) lX2_128 (dec_of DX2_takeInside 8 rfl) rfl rfl (by decide) (nle rfl) rfl ?_
  exact vi_vret (dec_of DX2_takeInside 9 rfl) rfl ⟨by decide, by decide⟩ (⟨rfl, rfl⟩)
set_option maxRecDepth 100000 in
set_option maxHeartbeats 4000000 in
theorem k_in_height {T : XW} {I N : Nat → Int} {F : Nat → Int → Int} {w2 : XW} {p b q : Int} (hb : 0 ≤ b ∧ b < 256) (hq : -1 ≤ q ∧ q < 256) (hc : 97 ≤ b ∧ b ≤ 109) (hs : Sd (rm 3 74 0 0) mX2_takeHeight [.ref 20, J p, J (b - 97), J q] (cls (uN I 12 0) N F ++ T) w2 none) : Sd (rm 4 98 0 0) mX2_takeInside [.ref 20, J p, J b, J q] (cls I N F ++ T) (w2) (none) := by
  unfold Sd
  have hm := mkOf_r b
  have hm0 : mkOf b = 0 := by unfold mkOf; omega
  refine sp_of (ls := [some (.ref 20), some (J p), some (J b), some (J q), none]) (by decide) (nle rfl) rfl rfl ?_
  refine v_iload_n (dec_of DX2_takeInside 0 rfl) rfl ?_
  refine v_S1r (k_markOf (by omega)) lX2_125 (dec_of DX2_takeInside 1 rfl) (by decide) (nle rfl) rfl ?_
  refine v_istore (dec_of DX2_takeInside 2 rfl) (by decide) ?_
  dsimp only [List.set]
  refine v_iload (dec_of DX2_takeInside 3 rfl) rfl ?_
  refine vi_if_eq (tgt := 19) (dec_of DX2_takeInside 4 rfl) (by decide) (by first | omega | exact bnd_r _ _ | exact hF _ _ | exact hI _ | exact hG _ _ | exact hK _ | (simp [uN] <;> omega)) (fun c8 => ?_) (fun c8 => absurd c8 (by omega))
  refine v_aload_n (dec_of DX2_takeInside 10 rfl) rfl ?_
  refine vi_const (dec_of DX2_takeInside 11 rfl) ?_
  refine cp_12 fX2_82 (dec_of DX2_takeInside 12 rfl) (by omega) ?_
  refine v_iload_n (dec_of DX2_takeInside 13 rfl) rfl ?_
  refine vi_bi (dec_of DX2_takeInside 14 rfl) (by decide) ?_
  refine vi_icmp_lt (tgt := 47) (dec_of DX2_takeInside 15 rfl) (by decide) (by first | omega | exact bnd_r _ _ | exact hF _ _ | exact hI _ | exact hG _ _ | exact hK _ | (simp [uN] <;> omega)) (by first | omega | exact bnd_r _ _ | exact hF _ _ | exact hI _ | exact hG _ _ | exact hK _ | (simp [uN] <;> omega)) (fun c27 => absurd c27 (by omega)) (fun c27 => ?_)
  refine v_iload_n (dec_of DX2_takeInside 16 rfl) rfl ?_
  refine vi_bi (dec_of DX2_takeInside 17 rfl) (by decide) ?_
  refine vi_icmp_gt (tgt := 47) (dec_of DX2_takeInside 18 rfl) (by decide) (by first | omega | exact bnd_r _ _ | exact hF _ _ | exact hI _ | exact hG _ _ | exact hK _ | (simp [uN] <;> omega)) (by first | omega | exact bnd_r _ _ | exact hF _ _ | exact hI _ | exact hG _ _ | exact hK _ | (simp [uN] <;> omega)) (fun c33 => absurd c33 (by omega)) (fun c33 => ?_)
  refine v_aload_n (dec_of DX2_takeInside 19 rfl) rfl ?_
  refine v_iload_n (dec_of DX2_takeInside 20 rfl) rfl ?_
  refine v_iload_n (dec_of DX2_takeInside 21 rfl) rfl ?_
  refine vi_bi (dec_of DX2_takeInside 22 rfl) (by decide) ?_
  refine vi_sub (dec_of DX2_takeInside 23 rfl) ?_
  refine v_iload_n (dec_of DX2_takeInside 24 rfl) rfl ?_
  refine v_V3v (hs) lX2_131 (dec_of DX2_takeInside 25 rfl) rfl rfl (by decide) (nle rfl) rfl ?_
  exact vi_vret (dec_of DX2_takeInside 26 rfl) rfl ⟨by decide, by decide⟩ (⟨rfl, rfl⟩)
set_option maxRecDepth 100000 in
set_option maxHeartbeats 4000000 in
theorem k_in_sep32 {T : XW} {I N : Nat → Int} {F : Nat → Int → Int} {p q : Int} (hq : -1 ≤ q ∧ q < 256)  : Sd (rm 4 98 0 0) mX2_takeInside [.ref 20, J p, J 32, J q] (cls I N F ++ T) (cls (uN (uN I 12 0) 11 0) N F ++ T) (none) := by
  unfold Sd
  refine sp_of (ls := [some (.ref 20), some (J p), some (J 32), some (J q), none]) (by decide) (nle rfl) rfl rfl ?_
  refine v_iload_n (dec_of DX2_takeInside 0 rfl) rfl ?_
  refine v_S1r (k_markOf (by omega)) lX2_125 (dec_of DX2_takeInside 1 rfl) (by decide) (nle rfl) rfl ?_
  refine v_istore (dec_of DX2_takeInside 2 rfl) (by decide) ?_
  dsimp only [List.set]
  refine v_iload (dec_of DX2_takeInside 3 rfl) rfl ?_
  refine vi_if_eq (tgt := 19) (dec_of DX2_takeInside 4 rfl) (by decide) (by decide) (fun c8 => ?_) (fun c8 => absurd c8 (by decide))
  refine v_aload_n (dec_of DX2_takeInside 10 rfl) rfl ?_
  refine vi_const (dec_of DX2_takeInside 11 rfl) ?_
  refine cp_12 fX2_82 (dec_of DX2_takeInside 12 rfl) (by omega) ?_
  refine v_iload_n (dec_of DX2_takeInside 13 rfl) rfl ?_
  refine vi_bi (dec_of DX2_takeInside 14 rfl) (by decide) ?_
  refine vi_icmp_lt (tgt := 47) (dec_of DX2_takeInside 15 rfl) (by decide) (by first | omega | exact bnd_r _ _ | exact hF _ _ | exact hI _ | exact hG _ _ | exact hK _ | (simp [uN] <;> omega)) (by first | omega | exact bnd_r _ _ | exact hF _ _ | exact hI _ | exact hG _ _ | exact hK _ | (simp [uN] <;> omega)) (fun c27 => ?_) (fun c27 => absurd c27 (by omega))
  refine v_aload_n (dec_of DX2_takeInside 27 rfl) rfl ?_
  refine vi_const (dec_of DX2_takeInside 28 rfl) ?_
  refine cp_11 fX2_79 (dec_of DX2_takeInside 29 rfl) (by omega) ?_
  refine v_iload_n (dec_of DX2_takeInside 30 rfl) rfl ?_
  refine vi_lookup (tgt := 128) (dec_of DX2_takeInside 31 rfl) (by decide) (by decide) rfl (by decide) ?_
  refine v_goto (tgt := 189) (dec_of DX2_takeInside 32 rfl) (by decide) ?_
  exact vi_vret (dec_of DX2_takeInside 64 rfl) rfl ⟨by decide, by decide⟩ (⟨rfl, rfl⟩)
set_option maxRecDepth 100000 in
set_option maxHeartbeats 4000000 in
theorem k_in_sep10 {T : XW} {I N : Nat → Int} {F : Nat → Int → Int} {p q : Int} (hq : -1 ≤ q ∧ q < 256)  : Sd (rm 4 98 0 0) mX2_takeInside [.ref 20, J p, J 10, J q] (cls I N F ++ T) (cls (uN (uN I 12 0) 11 0) N F ++ T) (none) := by
  unfold Sd
  refine sp_of (ls := [some (.ref 20), some (J p), some (J 10), some (J q), none]) (by decide) (nle rfl) rfl rfl ?_
  refine v_iload_n (dec_of DX2_takeInside 0 rfl) rfl ?_
  refine v_S1r (k_markOf (by omega)) lX2_125 (dec_of DX2_takeInside 1 rfl) (by decide) (nle rfl) rfl ?_
  refine v_istore (dec_of DX2_takeInside 2 rfl) (by decide) ?_
  dsimp only [List.set]
  refine v_iload (dec_of DX2_takeInside 3 rfl) rfl ?_
  refine vi_if_eq (tgt := 19) (dec_of DX2_takeInside 4 rfl) (by decide) (by decide) (fun c8 => ?_) (fun c8 => absurd c8 (by decide))
  refine v_aload_n (dec_of DX2_takeInside 10 rfl) rfl ?_
  refine vi_const (dec_of DX2_takeInside 11 rfl) ?_
  refine cp_12 fX2_82 (dec_of DX2_takeInside 12 rfl) (by omega) ?_
  refine v_iload_n (dec_of DX2_takeInside 13 rfl) rfl ?_
  refine vi_bi (dec_of DX2_takeInside 14 rfl) (by decide) ?_
  refine vi_icmp_lt (tgt := 47) (dec_of DX2_takeInside 15 rfl) (by decide) (by first | omega | exact bnd_r _ _ | exact hF _ _ | exact hI _ | exact hG _ _ | exact hK _ | (simp [uN] <;> omega)) (by first | omega | exact bnd_r _ _ | exact hF _ _ | exact hI _ | exact hG _ _ | exact hK _ | (simp [uN] <;> omega)) (fun c27 => ?_) (fun c27 => absurd c27 (by omega))
  refine v_aload_n (dec_of DX2_takeInside 27 rfl) rfl ?_
  refine vi_const (dec_of DX2_takeInside 28 rfl) ?_
  refine cp_11 fX2_79 (dec_of DX2_takeInside 29 rfl) (by omega) ?_
  refine v_iload_n (dec_of DX2_takeInside 30 rfl) rfl ?_
  refine vi_lookup (tgt := 128) (dec_of DX2_takeInside 31 rfl) (by decide) (by decide) rfl (by decide) ?_
  refine v_goto (tgt := 189) (dec_of DX2_takeInside 32 rfl) (by decide) ?_
  exact vi_vret (dec_of DX2_takeInside 64 rfl) rfl ⟨by decide, by decide⟩ (⟨rfl, rfl⟩)
set_option maxRecDepth 100000 in
set_option maxHeartbeats 4000000 in
theorem k_in_sep47 {T : XW} {I N : Nat → Int} {F : Nat → Int → Int} {p q : Int} (hq : -1 ≤ q ∧ q < 256)  : Sd (rm 4 98 0 0) mX2_takeInside [.ref 20, J p, J 47, J q] (cls I N F ++ T) (cls (uN (uN I 12 0) 11 0) N F ++ T) (none) := by
  unfold Sd
  refine sp_of (ls := [some (.ref 20), some (J p), some (J 47), some (J q), none]) (by decide) (nle rfl) rfl rfl ?_
  refine v_iload_n (dec_of DX2_takeInside 0 rfl) rfl ?_
  refine v_S1r (k_markOf (by omega)) lX2_125 (dec_of DX2_takeInside 1 rfl) (by decide) (nle rfl) rfl ?_
  refine v_istore (dec_of DX2_takeInside 2 rfl) (by decide) ?_
  dsimp only [List.set]
  refine v_iload (dec_of DX2_takeInside 3 rfl) rfl ?_
  refine vi_if_eq (tgt := 19) (dec_of DX2_takeInside 4 rfl) (by decide) (by decide) (fun c8 => ?_) (fun c8 => absurd c8 (by decide))
  refine v_aload_n (dec_of DX2_takeInside 10 rfl) rfl ?_
  refine vi_const (dec_of DX2_takeInside 11 rfl) ?_
  refine cp_12 fX2_82 (dec_of DX2_takeInside 12 rfl) (by omega) ?_
  refine v_iload_n (dec_of DX2_takeInside 13 rfl) rfl ?_
  refine vi_bi (dec_of DX2_takeInside 14 rfl) (by decide) ?_
  refine vi_icmp_lt (tgt := 47) (dec_of DX2_takeInside 15 rfl) (by decide) (by first | omega | exact bnd_r _ _ | exact hF _ _ | exact hI _ | exact hG _ _ | exact hK _ | (simp [uN] <;> omega)) (by first | omega | exact bnd_r _ _ | exact hF _ _ | exact hI _ | exact hG _ _ | exact hK _ | (simp [uN] <;> omega)) (fun c27 => ?_) (fun c27 => absurd c27 (by omega))
  refine v_aload_n (dec_of DX2_takeInside 27 rfl) rfl ?_
  refine vi_const (dec_of DX2_takeInside 28 rfl) ?_
  refine cp_11 fX2_79 (dec_of DX2_takeInside 29 rfl) (by omega) ?_
  refine v_iload_n (dec_of DX2_takeInside 30 rfl) rfl ?_
  refine vi_lookup (tgt := 128) (dec_of DX2_takeInside 31 rfl) (by decide) (by decide) rfl (by decide) ?_
  refine v_goto (tgt := 189) (dec_of DX2_takeInside 32 rfl) (by decide) ?_
  exact vi_vret (dec_of DX2_takeInside 64 rfl) rfl ⟨by decide, by decide⟩ (⟨rfl, rfl⟩)
set_option maxRecDepth 100000 in
set_option maxHeartbeats 4000000 in
theorem k_in_close {T : XW} {I N : Nat → Int} {F : Nat → Int → Int} {w2 : XW} {p q : Int} (hq : -1 ≤ q ∧ q < 256) (hs : Sd (rm 1 24 0 0) mX2_endSyllable [.ref 20] (cls (uN (uN I 12 0) 11 0) N F ++ T) w2 none) : Sd (rm 4 98 0 0) mX2_takeInside [.ref 20, J p, J 41, J q] (cls I N F ++ T) (w2) (none) := by
  unfold Sd
  refine sp_of (ls := [some (.ref 20), some (J p), some (J 41), some (J q), none]) (by decide) (nle rfl) rfl rfl ?_
  refine v_iload_n (dec_of DX2_takeInside 0 rfl) rfl ?_
  refine v_S1r (k_markOf (by omega)) lX2_125 (dec_of DX2_takeInside 1 rfl) (by decide) (nle rfl) rfl ?_
  refine v_istore (dec_of DX2_takeInside 2 rfl) (by decide) ?_
  dsimp only [List.set]
  refine v_iload (dec_of DX2_takeInside 3 rfl) rfl ?_
  refine vi_if_eq (tgt := 19) (dec_of DX2_takeInside 4 rfl) (by decide) (by decide) (fun c8 => ?_) (fun c8 => absurd c8 (by decide))
  refine v_aload_n (dec_of DX2_takeInside 10 rfl) rfl ?_
  refine vi_const (dec_of DX2_takeInside 11 rfl) ?_
  refine cp_12 fX2_82 (dec_of DX2_takeInside 12 rfl) (by omega) ?_
  refine v_iload_n (dec_of DX2_takeInside 13 rfl) rfl ?_
  refine vi_bi (dec_of DX2_takeInside 14 rfl) (by decide) ?_
  refine vi_icmp_lt (tgt := 47) (dec_of DX2_takeInside 15 rfl) (by decide) (by first | omega | exact bnd_r _ _ | exact hF _ _ | exact hI _ | exact hG _ _ | exact hK _ | (simp [uN] <;> omega)) (by first | omega | exact bnd_r _ _ | exact hF _ _ | exact hI _ | exact hG _ _ | exact hK _ | (simp [uN] <;> omega)) (fun c27 => ?_) (fun c27 => absurd c27 (by omega))
  refine v_aload_n (dec_of DX2_takeInside 27 rfl) rfl ?_
  refine vi_const (dec_of DX2_takeInside 28 rfl) ?_
  refine cp_11 fX2_79 (dec_of DX2_takeInside 29 rfl) (by omega) ?_
  refine v_iload_n (dec_of DX2_takeInside 30 rfl) rfl ?_
  refine vi_lookup (tgt := 131) (dec_of DX2_takeInside 31 rfl) (by decide) (by decide) rfl (by decide) ?_
  refine v_aload_n (dec_of DX2_takeInside 33 rfl) rfl ?_
  refine v_V0v (hs) lX2_134 (dec_of DX2_takeInside 34 rfl) rfl rfl (by decide) (nle rfl) rfl ?_
  refine v_goto (tgt := 189) (dec_of DX2_takeInside 35 rfl) (by decide) ?_
  exact vi_vret (dec_of DX2_takeInside 64 rfl) rfl ⟨by decide, by decide⟩ (⟨rfl, rfl⟩)
set_option maxRecDepth 100000 in
set_option maxHeartbeats 4000000 in
theorem k_in_comma {T : XW} {I N : Nat → Int} {F : Nat → Int → Int} {w2 : XW} {p q : Int} (hq : -1 ≤ q ∧ q < 256) (hs : Sd (rm 2 48 0 0) mX2_takeBar [.ref 20, J p, J 1] (cls (uN (uN I 12 0) 11 0) N F ++ T) w2 none) : Sd (rm 4 98 0 0) mX2_takeInside [.ref 20, J p, J 44, J q] (cls I N F ++ T) (w2) (none) := by
  unfold Sd
  refine sp_of (ls := [some (.ref 20), some (J p), some (J 44), some (J q), none]) (by decide) (nle rfl) rfl rfl ?_
  refine v_iload_n (dec_of DX2_takeInside 0 rfl) rfl ?_
  refine v_S1r (k_markOf (by omega)) lX2_125 (dec_of DX2_takeInside 1 rfl) (by decide) (nle rfl) rfl ?_
  refine v_istore (dec_of DX2_takeInside 2 rfl) (by decide) ?_
  dsimp only [List.set]
  refine v_iload (dec_of DX2_takeInside 3 rfl) rfl ?_
  refine vi_if_eq (tgt := 19) (dec_of DX2_takeInside 4 rfl) (by decide) (by decide) (fun c8 => ?_) (fun c8 => absurd c8 (by decide))
  refine v_aload_n (dec_of DX2_takeInside 10 rfl) rfl ?_
  refine vi_const (dec_of DX2_takeInside 11 rfl) ?_
  refine cp_12 fX2_82 (dec_of DX2_takeInside 12 rfl) (by omega) ?_
  refine v_iload_n (dec_of DX2_takeInside 13 rfl) rfl ?_
  refine vi_bi (dec_of DX2_takeInside 14 rfl) (by decide) ?_
  refine vi_icmp_lt (tgt := 47) (dec_of DX2_takeInside 15 rfl) (by decide) (by first | omega | exact bnd_r _ _ | exact hF _ _ | exact hI _ | exact hG _ _ | exact hK _ | (simp [uN] <;> omega)) (by first | omega | exact bnd_r _ _ | exact hF _ _ | exact hI _ | exact hG _ _ | exact hK _ | (simp [uN] <;> omega)) (fun c27 => ?_) (fun c27 => absurd c27 (by omega))
  refine v_aload_n (dec_of DX2_takeInside 27 rfl) rfl ?_
  refine vi_const (dec_of DX2_takeInside 28 rfl) ?_
  refine cp_11 fX2_79 (dec_of DX2_takeInside 29 rfl) (by omega) ?_
  refine v_iload_n (dec_of DX2_takeInside 30 rfl) rfl ?_
  refine vi_lookup (tgt := 138) (dec_of DX2_takeInside 31 rfl) (by decide) (by decide) rfl (by decide) ?_
  refine v_aload_n (dec_of DX2_takeInside 36 rfl) rfl ?_
  refine v_iload_n (dec_of DX2_takeInside 37 rfl) rfl ?_
  refine vi_const (dec_of DX2_takeInside 38 rfl) ?_
  refine v_V2v (hs) lX2_137 (dec_of DX2_takeInside 39 rfl) rfl rfl (by decide) (nle rfl) rfl ?_
  refine v_goto (tgt := 189) (dec_of DX2_takeInside 40 rfl) (by decide) ?_
  exact vi_vret (dec_of DX2_takeInside 64 rfl) rfl ⟨by decide, by decide⟩ (⟨rfl, rfl⟩)
set_option maxRecDepth 100000 in
set_option maxHeartbeats 4000000 in
theorem k_in_semi {T : XW} {I N : Nat → Int} {F : Nat → Int → Int} {w2 : XW} {p q : Int} (hq : -1 ≤ q ∧ q < 256) (hs : Sd (rm 2 48 0 0) mX2_takeBar [.ref 20, J p, J 2] (cls (uN (uN I 12 0) 11 0) N F ++ T) w2 none) : Sd (rm 4 98 0 0) mX2_takeInside [.ref 20, J p, J 59, J q] (cls I N F ++ T) (w2) (none) := by
  unfold Sd
  refine sp_of (ls := [some (.ref 20), some (J p), some (J 59), some (J q), none]) (by decide) (nle rfl) rfl rfl ?_
  refine v_iload_n (dec_of DX2_takeInside 0 rfl) rfl ?_
  refine v_S1r (k_markOf (by omega)) lX2_125 (dec_of DX2_takeInside 1 rfl) (by decide) (nle rfl) rfl ?_
  refine v_istore (dec_of DX2_takeInside 2 rfl) (by decide) ?_
  dsimp only [List.set]
  refine v_iload (dec_of DX2_takeInside 3 rfl) rfl ?_
  refine vi_if_eq (tgt := 19) (dec_of DX2_takeInside 4 rfl) (by decide) (by decide) (fun c8 => ?_) (fun c8 => absurd c8 (by decide))
  refine v_aload_n (dec_of DX2_takeInside 10 rfl) rfl ?_
  refine vi_const (dec_of DX2_takeInside 11 rfl) ?_
  refine cp_12 fX2_82 (dec_of DX2_takeInside 12 rfl) (by omega) ?_
  refine v_iload_n (dec_of DX2_takeInside 13 rfl) rfl ?_
  refine vi_bi (dec_of DX2_takeInside 14 rfl) (by decide) ?_
  refine vi_icmp_lt (tgt := 47) (dec_of DX2_takeInside 15 rfl) (by decide) (by first | omega | exact bnd_r _ _ | exact hF _ _ | exact hI _ | exact hG _ _ | exact hK _ | (simp [uN] <;> omega)) (by first | omega | exact bnd_r _ _ | exact hF _ _ | exact hI _ | exact hG _ _ | exact hK _ | (simp [uN] <;> omega)) (fun c27 => ?_) (fun c27 => absurd c27 (by omega))
  refine v_aload_n (dec_of DX2_takeInside 27 rfl) rfl ?_
  refine vi_const (dec_of DX2_takeInside 28 rfl) ?_
  refine cp_11 fX2_79 (dec_of DX2_takeInside 29 rfl) (by omega) ?_
  refine v_iload_n (dec_of DX2_takeInside 30 rfl) rfl ?_
  refine vi_lookup (tgt := 147) (dec_of DX2_takeInside 31 rfl) (by decide) (by decide) rfl (by decide) ?_
  refine v_aload_n (dec_of DX2_takeInside 41 rfl) rfl ?_
  refine v_iload_n (dec_of DX2_takeInside 42 rfl) rfl ?_
  refine vi_const (dec_of DX2_takeInside 43 rfl) ?_
  refine v_V2v (hs) lX2_137 (dec_of DX2_takeInside 44 rfl) rfl rfl (by decide) (nle rfl) rfl ?_
  refine v_goto (tgt := 189) (dec_of DX2_takeInside 45 rfl) (by decide) ?_
  exact vi_vret (dec_of DX2_takeInside 64 rfl) rfl ⟨by decide, by decide⟩ (⟨rfl, rfl⟩)
set_option maxRecDepth 100000 in
set_option maxHeartbeats 4000000 in
theorem k_in_colon2 {T : XW} {I N : Nat → Int} {F : Nat → Int → Int} {w2 : XW} {p q : Int} (hq : -1 ≤ q ∧ q < 256) (hc : q = 58) (hs : Sd (rm 2 48 0 0) mX2_takeBar [.ref 20, J p, J 4] (cls (uN (uN I 12 0) 11 0) N F ++ T) w2 none) : Sd (rm 4 98 0 0) mX2_takeInside [.ref 20, J p, J 58, J q] (cls I N F ++ T) (w2) (none) := by
  unfold Sd
  refine sp_of (ls := [some (.ref 20), some (J p), some (J 58), some (J q), none]) (by decide) (nle rfl) rfl rfl ?_
  refine v_iload_n (dec_of DX2_takeInside 0 rfl) rfl ?_
  refine v_S1r (k_markOf (by omega)) lX2_125 (dec_of DX2_takeInside 1 rfl) (by decide) (nle rfl) rfl ?_
  refine v_istore (dec_of DX2_takeInside 2 rfl) (by decide) ?_
  dsimp only [List.set]
  refine v_iload (dec_of DX2_takeInside 3 rfl) rfl ?_
  refine vi_if_eq (tgt := 19) (dec_of DX2_takeInside 4 rfl) (by decide) (by decide) (fun c8 => ?_) (fun c8 => absurd c8 (by decide))
  refine v_aload_n (dec_of DX2_takeInside 10 rfl) rfl ?_
  refine vi_const (dec_of DX2_takeInside 11 rfl) ?_
  refine cp_12 fX2_82 (dec_of DX2_takeInside 12 rfl) (by omega) ?_
  refine v_iload_n (dec_of DX2_takeInside 13 rfl) rfl ?_
  refine vi_bi (dec_of DX2_takeInside 14 rfl) (by decide) ?_
  refine vi_icmp_lt (tgt := 47) (dec_of DX2_takeInside 15 rfl) (by decide) (by first | omega | exact bnd_r _ _ | exact hF _ _ | exact hI _ | exact hG _ _ | exact hK _ | (simp [uN] <;> omega)) (by first | omega | exact bnd_r _ _ | exact hF _ _ | exact hI _ | exact hG _ _ | exact hK _ | (simp [uN] <;> omega)) (fun c27 => ?_) (fun c27 => absurd c27 (by omega))
  refine v_aload_n (dec_of DX2_takeInside 27 rfl) rfl ?_
  refine vi_const (dec_of DX2_takeInside 28 rfl) ?_
  refine cp_11 fX2_79 (dec_of DX2_takeInside 29 rfl) (by omega) ?_
  refine v_iload_n (dec_of DX2_takeInside 30 rfl) rfl ?_
  refine vi_lookup (tgt := 156) (dec_of DX2_takeInside 31 rfl) (by decide) (by decide) rfl (by decide) ?_
  refine v_aload_n (dec_of DX2_takeInside 46 rfl) rfl ?_
  refine v_iload_n (dec_of DX2_takeInside 47 rfl) rfl ?_
  refine v_iload_n (dec_of DX2_takeInside 48 rfl) rfl ?_
  refine vi_bi (dec_of DX2_takeInside 49 rfl) (by decide) ?_
  refine vi_icmp_ne (tgt := 168) (dec_of DX2_takeInside 50 rfl) (by decide) (by first | omega | exact bnd_r _ _ | exact hF _ _ | exact hI _ | exact hG _ _ | exact hK _ | (simp [uN] <;> omega)) (by first | omega | exact bnd_r _ _ | exact hF _ _ | exact hI _ | exact hG _ _ | exact hK _ | (simp [uN] <;> omega)) (fun c161 => absurd c161 (by omega)) (fun c161 => ?_)
  refine vi_const (dec_of DX2_takeInside 51 rfl) ?_
  refine v_goto (tgt := 169) (dec_of DX2_takeInside 52 rfl) (by decide) ?_
  refine v_V2v (hs) lX2_137 (dec_of DX2_takeInside 54 rfl) rfl rfl (by decide) (nle rfl) rfl ?_
  refine v_goto (tgt := 189) (dec_of DX2_takeInside 55 rfl) (by decide) ?_
  exact vi_vret (dec_of DX2_takeInside 64 rfl) rfl ⟨by decide, by decide⟩ (⟨rfl, rfl⟩)
set_option maxRecDepth 100000 in
set_option maxHeartbeats 4000000 in
theorem k_in_colon1 {T : XW} {I N : Nat → Int} {F : Nat → Int → Int} {w2 : XW} {p q : Int} (hq : -1 ≤ q ∧ q < 256) (hc : ¬ q = 58) (hs : Sd (rm 2 48 0 0) mX2_takeBar [.ref 20, J p, J 3] (cls (uN (uN I 12 0) 11 0) N F ++ T) w2 none) : Sd (rm 4 98 0 0) mX2_takeInside [.ref 20, J p, J 58, J q] (cls I N F ++ T) (w2) (none) := by
  unfold Sd
  refine sp_of (ls := [some (.ref 20), some (J p), some (J 58), some (J q), none]) (by decide) (nle rfl) rfl rfl ?_
  refine v_iload_n (dec_of DX2_takeInside 0 rfl) rfl ?_
  refine v_S1r (k_markOf (by omega)) lX2_125 (dec_of DX2_takeInside 1 rfl) (by decide) (nle rfl) rfl ?_
  refine v_istore (dec_of DX2_takeInside 2 rfl) (by decide) ?_
  dsimp only [List.set]
  refine v_iload (dec_of DX2_takeInside 3 rfl) rfl ?_
  refine vi_if_eq (tgt := 19) (dec_of DX2_takeInside 4 rfl) (by decide) (by decide) (fun c8 => ?_) (fun c8 => absurd c8 (by decide))
  refine v_aload_n (dec_of DX2_takeInside 10 rfl) rfl ?_
  refine vi_const (dec_of DX2_takeInside 11 rfl) ?_
  refine cp_12 fX2_82 (dec_of DX2_takeInside 12 rfl) (by omega) ?_
  refine v_iload_n (dec_of DX2_takeInside 13 rfl) rfl ?_
  refine vi_bi (dec_of DX2_takeInside 14 rfl) (by decide) ?_
  refine vi_icmp_lt (tgt := 47) (dec_of DX2_takeInside 15 rfl) (by decide) (by first | omega | exact bnd_r _ _ | exact hF _ _ | exact hI _ | exact hG _ _ | exact hK _ | (simp [uN] <;> omega)) (by first | omega | exact bnd_r _ _ | exact hF _ _ | exact hI _ | exact hG _ _ | exact hK _ | (simp [uN] <;> omega)) (fun c27 => ?_) (fun c27 => absurd c27 (by omega))
  refine v_aload_n (dec_of DX2_takeInside 27 rfl) rfl ?_
  refine vi_const (dec_of DX2_takeInside 28 rfl) ?_
  refine cp_11 fX2_79 (dec_of DX2_takeInside 29 rfl) (by omega) ?_
  refine v_iload_n (dec_of DX2_takeInside 30 rfl) rfl ?_
  refine vi_lookup (tgt := 156) (dec_of DX2_takeInside 31 rfl) (by decide) (by decide) rfl (by decide) ?_
  refine v_aload_n (dec_of DX2_takeInside 46 rfl) rfl ?_
  refine v_iload_n (dec_of DX2_takeInside 47 rfl) rfl ?_
  refine v_iload_n (dec_of DX2_takeInside 48 rfl) rfl ?_
  refine vi_bi (dec_of DX2_takeInside 49 rfl) (by decide) ?_
  refine vi_icmp_ne (tgt := 168) (dec_of DX2_takeInside 50 rfl) (by decide) (by first | omega | exact bnd_r _ _ | exact hF _ _ | exact hI _ | exact hG _ _ | exact hK _ | (simp [uN] <;> omega)) (by first | omega | exact bnd_r _ _ | exact hF _ _ | exact hI _ | exact hG _ _ | exact hK _ | (simp [uN] <;> omega)) (fun c161 => ?_) (fun c161 => absurd c161 (by omega))
  refine vi_const (dec_of DX2_takeInside 53 rfl) ?_
  refine v_V2v (hs) lX2_137 (dec_of DX2_takeInside 54 rfl) rfl rfl (by decide) (nle rfl) rfl ?_
  refine v_goto (tgt := 189) (dec_of DX2_takeInside 55 rfl) (by decide) ?_
  exact vi_vret (dec_of DX2_takeInside 64 rfl) rfl ⟨by decide, by decide⟩ (⟨rfl, rfl⟩)
set_option maxRecDepth 100000 in
set_option maxHeartbeats 4000000 in
theorem k_in_z {T : XW} {I N : Nat → Int} {F : Nat → Int → Int} {w2 : XW} {p q : Int} (hq : -1 ≤ q ∧ q < 256) (hs : Sd (rm 2 48 0 0) mX2_takeLineEnd [.ref 20, J p] (cls (uN (uN I 12 0) 11 0) N F ++ T) w2 none) : Sd (rm 4 98 0 0) mX2_takeInside [.ref 20, J p, J 122, J q] (cls I N F ++ T) (w2) (none) := by
  unfold Sd
  refine sp_of (ls := [some (.ref 20), some (J p), some (J 122), some (J q), none]) (by decide) (nle rfl) rfl rfl ?_
  refine v_iload_n (dec_of DX2_takeInside 0 rfl) rfl ?_
  refine v_S1r (k_markOf (by omega)) lX2_125 (dec_of DX2_takeInside 1 rfl) (by decide) (nle rfl) rfl ?_
  refine v_istore (dec_of DX2_takeInside 2 rfl) (by decide) ?_
  dsimp only [List.set]
  refine v_iload (dec_of DX2_takeInside 3 rfl) rfl ?_
  refine vi_if_eq (tgt := 19) (dec_of DX2_takeInside 4 rfl) (by decide) (by decide) (fun c8 => ?_) (fun c8 => absurd c8 (by decide))
  refine v_aload_n (dec_of DX2_takeInside 10 rfl) rfl ?_
  refine vi_const (dec_of DX2_takeInside 11 rfl) ?_
  refine cp_12 fX2_82 (dec_of DX2_takeInside 12 rfl) (by omega) ?_
  refine v_iload_n (dec_of DX2_takeInside 13 rfl) rfl ?_
  refine vi_bi (dec_of DX2_takeInside 14 rfl) (by decide) ?_
  refine vi_icmp_lt (tgt := 47) (dec_of DX2_takeInside 15 rfl) (by decide) (by first | omega | exact bnd_r _ _ | exact hF _ _ | exact hI _ | exact hG _ _ | exact hK _ | (simp [uN] <;> omega)) (by first | omega | exact bnd_r _ _ | exact hF _ _ | exact hI _ | exact hG _ _ | exact hK _ | (simp [uN] <;> omega)) (fun c27 => absurd c27 (by omega)) (fun c27 => ?_)
  refine v_iload_n (dec_of DX2_takeInside 16 rfl) rfl ?_
  refine vi_bi (dec_of DX2_takeInside 17 rfl) (by decide) ?_
  refine vi_icmp_gt (tgt := 47) (dec_of DX2_takeInside 18 rfl) (by decide) (by first | omega | exact bnd_r _ _ | exact hF _ _ | exact hI _ | exact hG _ _ | exact hK _ | (simp [uN] <;> omega)) (by first | omega | exact bnd_r _ _ | exact hF _ _ | exact hI _ | exact hG _ _ | exact hK _ | (simp [uN] <;> omega)) (fun c33 => ?_) (fun c33 => absurd c33 (by omega))
  refine v_aload_n (dec_of DX2_takeInside 27 rfl) rfl ?_
  refine vi_const (dec_of DX2_takeInside 28 rfl) ?_
  refine cp_11 fX2_79 (dec_of DX2_takeInside 29 rfl) (by omega) ?_
  refine v_iload_n (dec_of DX2_takeInside 30 rfl) rfl ?_
  refine vi_lookup (tgt := 175) (dec_of DX2_takeInside 31 rfl) (by decide) (by decide) rfl (by decide) ?_
  refine v_aload_n (dec_of DX2_takeInside 56 rfl) rfl ?_
  refine v_iload_n (dec_of DX2_takeInside 57 rfl) rfl ?_
  refine v_V1v (hs) lX2_140 (dec_of DX2_takeInside 58 rfl) rfl rfl (by decide) (nle rfl) rfl ?_
  refine v_goto (tgt := 189) (dec_of DX2_takeInside 59 rfl) (by decide) ?_
  exact vi_vret (dec_of DX2_takeInside 64 rfl) rfl ⟨by decide, by decide⟩ (⟨rfl, rfl⟩)
set_option maxRecDepth 100000 in
set_option maxHeartbeats 4000000 in
theorem k_in_strange {T : XW} {I N : Nat → Int} {F : Nat → Int → Int} {p b q : Int} (hb : 0 ≤ b ∧ b < 256) (hq : -1 ≤ q ∧ q < 256) (hm0 : mkOf b = 0) (hc : ¬ (97 ≤ b ∧ b ≤ 109)) (h1 : ¬ b = 10) (h2 : ¬ b = 32) (h3 : ¬ b = 41) (h4 : ¬ b = 44) (h5 : ¬ b = 47) (h6 : ¬ b = 58) (h7 : ¬ b = 59) (h8 : ¬ b = 122) : Sd (rm 4 98 0 0) mX2_takeInside [.ref 20, J p, J b, J q] (cls I N F ++ T) (cls (uN (uN (uN (uN I 12 0) 11 0) 3 1) 4 p) N F ++ T) (none) := by
  unfold Sd
  refine sp_of (ls := [some (.ref 20), some (J p), some (J b), some (J q), none]) (by decide) (nle rfl) rfl rfl ?_
  refine v_iload_n (dec_of DX2_takeInside 0 rfl) rfl ?_
  refine v_S1r (k_markOf (by omega)) lX2_125 (dec_of DX2_takeInside 1 rfl) (by decide) (nle rfl) rfl ?_
  refine v_istore (dec_of DX2_takeInside 2 rfl) (by decide) ?_
  dsimp only [List.set]
  refine v_iload (dec_of DX2_takeInside 3 rfl) rfl ?_
  refine vi_if_eq (tgt := 19) (dec_of DX2_takeInside 4 rfl) (by decide) (by first | omega | exact bnd_r _ _ | exact hF _ _ | exact hI _ | exact hG _ _ | exact hK _ | (simp [uN] <;> omega)) (fun c8 => ?_) (fun c8 => absurd c8 (by omega))
  refine v_aload_n (dec_of DX2_takeInside 10 rfl) rfl ?_
  refine vi_const (dec_of DX2_takeInside 11 rfl) ?_
  refine cp_12 fX2_82 (dec_of DX2_takeInside 12 rfl) (by omega) ?_
  refine v_iload_n (dec_of DX2_takeInside 13 rfl) rfl ?_
  refine vi_bi (dec_of DX2_takeInside 14 rfl) (by decide) ?_
  refine vi_icmp_lt (tgt := 47) (dec_of DX2_takeInside 15 rfl) (by decide) (by first | omega | exact bnd_r _ _ | exact hF _ _ | exact hI _ | exact hG _ _ | exact hK _ | (simp [uN] <;> omega)) (by first | omega | exact bnd_r _ _ | exact hF _ _ | exact hI _ | exact hG _ _ | exact hK _ | (simp [uN] <;> omega)) (fun c27 => ?_) (fun c27 => ?_)
  · refine v_aload_n (dec_of DX2_takeInside 27 rfl) rfl ?_
    refine vi_const (dec_of DX2_takeInside 28 rfl) ?_
    refine cp_11 fX2_79 (dec_of DX2_takeInside 29 rfl) (by omega) ?_
    refine v_iload_n (dec_of DX2_takeInside 30 rfl) rfl ?_
    refine vi_lookup (off := 130) (tgt := 183) (dec_of DX2_takeInside 31 rfl) (by omega) (by decide) (by simp [Op.lookupswitch.offset, List.find?, h1, h2, h3, h4, h5, h6, h7, h8, Ne.symm h1, Ne.symm h2, Ne.symm h3, Ne.symm h4, Ne.symm h5, Ne.symm h6, Ne.symm h7, Ne.symm h8]) (by decide) ?_
    refine v_aload_n (dec_of DX2_takeInside 60 rfl) rfl ?_
    refine vi_const (dec_of DX2_takeInside 61 rfl) ?_
    refine v_iload_n (dec_of DX2_takeInside 62 rfl) rfl ?_
    refine v_V2v (k_refuse) lX2_58 (dec_of DX2_takeInside 63 rfl) rfl rfl (by decide) (nle rfl) rfl ?_
    exact vi_vret (dec_of DX2_takeInside 64 rfl) rfl ⟨by decide, by decide⟩ (⟨rfl, rfl⟩)
  · refine v_iload_n (dec_of DX2_takeInside 16 rfl) rfl ?_
    refine vi_bi (dec_of DX2_takeInside 17 rfl) (by decide) ?_
    refine vi_icmp_gt (tgt := 47) (dec_of DX2_takeInside 18 rfl) (by decide) (by first | omega | exact bnd_r _ _ | exact hF _ _ | exact hI _ | exact hG _ _ | exact hK _ | (simp [uN] <;> omega)) (by first | omega | exact bnd_r _ _ | exact hF _ _ | exact hI _ | exact hG _ _ | exact hK _ | (simp [uN] <;> omega)) (fun c33 => ?_) (fun c33 => ?_)
    · refine v_aload_n (dec_of DX2_takeInside 27 rfl) rfl ?_
      refine vi_const (dec_of DX2_takeInside 28 rfl) ?_
      refine cp_11 fX2_79 (dec_of DX2_takeInside 29 rfl) (by omega) ?_
      refine v_iload_n (dec_of DX2_takeInside 30 rfl) rfl ?_
      refine vi_lookup (off := 130) (tgt := 183) (dec_of DX2_takeInside 31 rfl) (by omega) (by decide) (by simp [Op.lookupswitch.offset, List.find?, h1, h2, h3, h4, h5, h6, h7, h8, Ne.symm h1, Ne.symm h2, Ne.symm h3, Ne.symm h4, Ne.symm h5, Ne.symm h6, Ne.symm h7, Ne.symm h8]) (by decide) ?_
      refine v_aload_n (dec_of DX2_takeInside 60 rfl) rfl ?_
      refine vi_const (dec_of DX2_takeInside 61 rfl) ?_
      refine v_iload_n (dec_of DX2_takeInside 62 rfl) rfl ?_
      refine v_V2v (k_refuse) lX2_58 (dec_of DX2_takeInside 63 rfl) rfl rfl (by decide) (nle rfl) rfl ?_
      exact vi_vret (dec_of DX2_takeInside 64 rfl) rfl ⟨by decide, by decide⟩ (⟨rfl, rfl⟩)
    · exact absurd (show 97 ≤ b ∧ b ≤ 109 by omega) hc
def stI (I : Nat → Int) : Nat → Int := uN (uN (uN (uN (uN (uN (uN (uN (uN (uN (uN (uN I 1 0) 2 0) 3 0) 4 (-100)) 5 0) 6 9) 8 0) 9 0) 10 0) 11 0) 12 0) 7 0
def stN (N : Nat → Int) : Nat → Int := uN (uN (uN (uN (uN (uN (uN (uN N 2 0) 3 0) 4 0) 5 0) 6 0) 7 0) 8 0) 9 6
def stF (F : Nat → Int → Int) : Nat → Int → Int := uN F 9 (uI (uI (uI (uI (uI (uI (F 9) 0 0) 1 0) 2 0) 3 0) 4 0) 5 0)
set_option maxRecDepth 100000 in
set_option maxHeartbeats 4000000 in
theorem k_start {T : XW} {I N : Nat → Int} {F : Nat → Int → Int} (hF : FR F) (hI : IR I) (hN : NR N)  : Sd (rm 2 41 0 0) mX2_start [.ref 20] (cls I N F ++ T) (cls (stI I) (stN N) (stF F) ++ T) (none) := by
  unfold Sd
  unfold NR at hN
  refine sp_of (ls := [some (.ref 20), none]) (by decide) (nle rfl) rfl rfl ?_
  refine v_aload_n (dec_of DX2_start 0 rfl) rfl ?_
  refine v_get fX2_9 (dec_of DX2_start 1 rfl) rfl rfl ?_
  refine v_V0v (k_clear hF hI (by unfold NR; exact hN)) lX2_67 (dec_of DX2_start 2 rfl) rfl rfl (by decide) (nle rfl) rfl ?_
  refine v_aload_n (dec_of DX2_start 3 rfl) rfl ?_
  refine vi_const (dec_of DX2_start 4 rfl) ?_
  refine cp_3 fX2_37 (dec_of DX2_start 5 rfl) ?_
  refine v_aload_n (dec_of DX2_start 6 rfl) rfl ?_
  refine vi_bi (dec_of DX2_start 7 rfl) (by decide) ?_
  refine cp_4 fX2_26 (dec_of DX2_start 8 rfl) ?_
  refine v_aload_n (dec_of DX2_start 9 rfl) rfl ?_
  refine vi_const (dec_of DX2_start 10 rfl) ?_
  refine cp_5 fX2_40 (dec_of DX2_start 11 rfl) ?_
  refine v_aload_n (dec_of DX2_start 12 rfl) rfl ?_
  refine vi_bi (dec_of DX2_start 13 rfl) (by decide) ?_
  refine cp_6 fX2_70 (dec_of DX2_start 14 rfl) ?_
  refine v_aload_n (dec_of DX2_start 15 rfl) rfl ?_
  refine vi_const (dec_of DX2_start 16 rfl) ?_
  refine cp_8 fX2_47 (dec_of DX2_start 17 rfl) (by omega) ?_
  refine v_aload_n (dec_of DX2_start 18 rfl) rfl ?_
  refine vi_const (dec_of DX2_start 19 rfl) ?_
  refine cp_9 fX2_73 (dec_of DX2_start 20 rfl) (by omega) ?_
  refine v_aload_n (dec_of DX2_start 21 rfl) rfl ?_
  refine vi_const (dec_of DX2_start 22 rfl) ?_
  refine cp_10 fX2_76 (dec_of DX2_start 23 rfl) (by omega) ?_
  refine v_aload_n (dec_of DX2_start 24 rfl) rfl ?_
  refine vi_const (dec_of DX2_start 25 rfl) ?_
  refine cp_11 fX2_79 (dec_of DX2_start 26 rfl) (by omega) ?_
  refine v_aload_n (dec_of DX2_start 27 rfl) rfl ?_
  refine vi_const (dec_of DX2_start 28 rfl) ?_
  refine cp_12 fX2_82 (dec_of DX2_start 29 rfl) (by omega) ?_
  refine v_aload_n (dec_of DX2_start 30 rfl) rfl ?_
  refine vi_const (dec_of DX2_start 31 rfl) ?_
  refine cp_7 fX2_85 (dec_of DX2_start 32 rfl) ?_
  refine v_aload_n (dec_of DX2_start 33 rfl) rfl ?_
  refine v_get fX2_22 (dec_of DX2_start 34 rfl) rfl rfl ?_
  refine vi_const (dec_of DX2_start 35 rfl) ?_
  refine v_V1v (c9_keep (by first | omega | exact bnd_r _ _ | exact hF _ _ | exact hI _ | exact hG _ _ | exact hK _ | (simp [uN] <;> omega)) (by first | omega | exact bnd_r _ _ | exact hF _ _ | exact hI _ | exact hG _ _ | exact hK _ | (simp [uN] <;> omega))) lX2_88 (dec_of DX2_start 36 rfl) rfl rfl (by decide) (nle rfl) rfl ?_
  refine vi_const (dec_of DX2_start 37 rfl) ?_
  refine v_istore_n (dec_of DX2_start 38 rfl) (by decide) ?_
  dsimp only [List.set]
  refine v_iload_n (dec_of DX2_start 39 rfl) rfl ?_
  refine vi_bi (dec_of DX2_start 40 rfl) (by decide) ?_
  refine vi_icmp_ge (tgt := 90) (dec_of DX2_start 41 rfl) (by decide) (by first | omega | exact bnd_r _ _ | exact hF _ _ | exact hI _ | exact hG _ _ | exact hK _ | (simp [uN] <;> omega)) (by first | omega | exact bnd_r _ _ | exact hF _ _ | exact hI _ | exact hG _ _ | exact hK _ | (simp [uN] <;> omega)) (fun c72 => absurd c72 (by omega)) (fun c72 => ?_)
  refine v_aload_n (dec_of DX2_start 42 rfl) rfl ?_
  refine v_get fX2_22 (dec_of DX2_start 43 rfl) rfl rfl ?_
  refine vi_const (dec_of DX2_start 44 rfl) ?_
  refine v_V1r (c9_add (by first | omega | exact bnd_r _ _ | exact hF _ _ | exact hI _ | exact hG _ _ | exact hK _ | (simp [uN] <;> omega))) lX2_92 (dec_of DX2_start 45 rfl) rfl rfl (by decide) (nle rfl) rfl ?_
  refine v_pop (dec_of DX2_start 46 rfl) rfl ?_
  refine vi_inc (dec_of DX2_start 47 rfl) rfl (by decide) ?_
  dsimp only [List.set]
  refine v_goto (tgt := 69) (dec_of DX2_start 48 rfl) (by decide) ?_
  refine v_iload_n (dec_of DX2_start 39 rfl) rfl ?_
  refine vi_bi (dec_of DX2_start 40 rfl) (by decide) ?_
  refine vi_icmp_ge (tgt := 90) (dec_of DX2_start 41 rfl) (by decide) (by first | omega | exact bnd_r _ _ | exact hF _ _ | exact hI _ | exact hG _ _ | exact hK _ | (simp [uN] <;> omega)) (by first | omega | exact bnd_r _ _ | exact hF _ _ | exact hI _ | exact hG _ _ | exact hK _ | (simp [uN] <;> omega)) (fun c72 => absurd c72 (by omega)) (fun c72 => ?_)
  refine v_aload_n (dec_of DX2_start 42 rfl) rfl ?_
  refine v_get fX2_22 (dec_of DX2_start 43 rfl) rfl rfl ?_
  refine vi_const (dec_of DX2_start 44 rfl) ?_
  refine v_V1r (c9_add (by first | omega | exact bnd_r _ _ | exact hF _ _ | exact hI _ | exact hG _ _ | exact hK _ | (simp [uN] <;> omega))) lX2_92 (dec_of DX2_start 45 rfl) rfl rfl (by decide) (nle rfl) rfl ?_
  refine v_pop (dec_of DX2_start 46 rfl) rfl ?_
  refine vi_inc (dec_of DX2_start 47 rfl) rfl (by decide) ?_
  dsimp only [List.set]
  refine v_goto (tgt := 69) (dec_of DX2_start 48 rfl) (by decide) ?_
  refine v_iload_n (dec_of DX2_start 39 rfl) rfl ?_
  refine vi_bi (dec_of DX2_start 40 rfl) (by decide) ?_
  refine vi_icmp_ge (tgt := 90) (dec_of DX2_start 41 rfl) (by decide) (by first | omega | exact bnd_r _ _ | exact hF _ _ | exact hI _ | exact hG _ _ | exact hK _ | (simp [uN] <;> omega)) (by first | omega | exact bnd_r _ _ | exact hF _ _ | exact hI _ | exact hG _ _ | exact hK _ | (simp [uN] <;> omega)) (fun c72 => absurd c72 (by omega)) (fun c72 => ?_)
  refine v_aload_n (dec_of DX2_start 42 rfl) rfl ?_
  refine v_get fX2_22 (dec_of DX2_start 43 rfl) rfl rfl ?_
  refine vi_const (dec_of DX2_start 44 rfl) ?_
  refine v_V1r (c9_add (by first | omega | exact bnd_r _ _ | exact hF _ _ | exact hI _ | exact hG _ _ | exact hK _ | (simp [uN] <;> omega))) lX2_92 (dec_of DX2_start 45 rfl) rfl rfl (by decide) (nle rfl) rfl ?_
  refine v_pop (dec_of DX2_start 46 rfl) rfl ?_
  refine vi_inc (dec_of DX2_start 47 rfl) rfl (by decide) ?_
  dsimp only [List.set]
  refine v_goto (tgt := 69) (dec_of DX2_start 48 rfl) (by decide) ?_
  refine v_iload_n (dec_of DX2_start 39 rfl) rfl ?_
  refine vi_bi (dec_of DX2_start 40 rfl) (by decide) ?_
  refine vi_icmp_ge (tgt := 90) (dec_of DX2_start 41 rfl) (by decide) (by first | omega | exact bnd_r _ _ | exact hF _ _ | exact hI _ | exact hG _ _ | exact hK _ | (simp [uN] <;> omega)) (by first | omega | exact bnd_r _ _ | exact hF _ _ | exact hI _ | exact hG _ _ | exact hK _ | (simp [uN] <;> omega)) (fun c72 => absurd c72 (by omega)) (fun c72 => ?_)
  refine v_aload_n (dec_of DX2_start 42 rfl) rfl ?_
  refine v_get fX2_22 (dec_of DX2_start 43 rfl) rfl rfl ?_
  refine vi_const (dec_of DX2_start 44 rfl) ?_
  refine v_V1r (c9_add (by first | omega | exact bnd_r _ _ | exact hF _ _ | exact hI _ | exact hG _ _ | exact hK _ | (simp [uN] <;> omega))) lX2_92 (dec_of DX2_start 45 rfl) rfl rfl (by decide) (nle rfl) rfl ?_
  refine v_pop (dec_of DX2_start 46 rfl) rfl ?_
  refine vi_inc (dec_of DX2_start 47 rfl) rfl (by decide) ?_
  dsimp only [List.set]
  refine v_goto (tgt := 69) (dec_of DX2_start 48 rfl) (by decide) ?_
  refine v_iload_n (dec_of DX2_start 39 rfl) rfl ?_
  refine vi_bi (dec_of DX2_start 40 rfl) (by decide) ?_
  refine vi_icmp_ge (tgt := 90) (dec_of DX2_start 41 rfl) (by decide) (by first | omega | exact bnd_r _ _ | exact hF _ _ | exact hI _ | exact hG _ _ | exact hK _ | (simp [uN] <;> omega)) (by first | omega | exact bnd_r _ _ | exact hF _ _ | exact hI _ | exact hG _ _ | exact hK _ | (simp [uN] <;> omega)) (fun c72 => absurd c72 (by omega)) (fun c72 => ?_)
  refine v_aload_n (dec_of DX2_start 42 rfl) rfl ?_
  refine v_get fX2_22 (dec_of DX2_start 43 rfl) rfl rfl ?_
  refine vi_const (dec_of DX2_start 44 rfl) ?_
  refine v_V1r (c9_add (by first | omega | exact bnd_r _ _ | exact hF _ _ | exact hI _ | exact hG _ _ | exact hK _ | (simp [uN] <;> omega))) lX2_92 (dec_of DX2_start 45 rfl) rfl rfl (by decide) (nle rfl) rfl ?_
  refine v_pop (dec_of DX2_start 46 rfl) rfl ?_
  refine vi_inc (dec_of DX2_start 47 rfl) rfl (by decide) ?_
  dsimp only [List.set]
  refine v_goto (tgt := 69) (dec_of DX2_start 48 rfl) (by decide) ?_
  refine v_iload_n (dec_of DX2_start 39 rfl) rfl ?_
  refine vi_bi (dec_of DX2_start 40 rfl) (by decide) ?_
  refine vi_icmp_ge (tgt := 90) (dec_of DX2_start 41 rfl) (by decide) (by first | omega | exact bnd_r _ _ | exact hF _ _ | exact hI _ | exact hG _ _ | exact hK _ | (simp [uN] <;> omega)) (by first | omega | exact bnd_r _ _ | exact hF _ _ | exact hI _ | exact hG _ _ | exact hK _ | (simp [uN] <;> omega)) (fun c72 => absurd c72 (by omega)) (fun c72 => ?_)
  refine v_aload_n (dec_of DX2_start 42 rfl) rfl ?_
  refine v_get fX2_22 (dec_of DX2_start 43 rfl) rfl rfl ?_
  refine vi_const (dec_of DX2_start 44 rfl) ?_
  refine v_V1r (c9_add (by first | omega | exact bnd_r _ _ | exact hF _ _ | exact hI _ | exact hG _ _ | exact hK _ | (simp [uN] <;> omega))) lX2_92 (dec_of DX2_start 45 rfl) rfl rfl (by decide) (nle rfl) rfl ?_
  refine v_pop (dec_of DX2_start 46 rfl) rfl ?_
  refine vi_inc (dec_of DX2_start 47 rfl) rfl (by decide) ?_
  dsimp only [List.set]
  refine v_goto (tgt := 69) (dec_of DX2_start 48 rfl) (by decide) ?_
  refine v_iload_n (dec_of DX2_start 39 rfl) rfl ?_
  refine vi_bi (dec_of DX2_start 40 rfl) (by decide) ?_
  refine vi_icmp_ge (tgt := 90) (dec_of DX2_start 41 rfl) (by decide) (by first | omega | exact bnd_r _ _ | exact hF _ _ | exact hI _ | exact hG _ _ | exact hK _ | (simp [uN] <;> omega)) (by first | omega | exact bnd_r _ _ | exact hF _ _ | exact hI _ | exact hG _ _ | exact hK _ | (simp [uN] <;> omega)) (fun c72 => ?_) (fun c72 => absurd c72 (by omega))
  exact vi_vret (dec_of DX2_start 49 rfl) rfl ⟨by decide, by decide⟩ (⟨rfl, rfl⟩)
