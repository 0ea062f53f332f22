/-! the reference: half, sung, tellSign (printed by wip/tools/gen_m7.py) -/
theorem fitK_r {K : Nat → Int} {G : Nat → Int → Int} (hK : IR K) {h : Int} (h45 : 0 ≤ G 45 h ∧ G 45 h ≤ 40) : IR (fitK K G h) := by
  intro k
  unfold fitK
  split
  · exact ((((hK.up (by omega)).up (by omega)).up (by omega)).up (by omega) : IR (k0M K)) k
  · have hL : 0 ≤ lM G h ∧ lM G h < G 45 h := lsP_r (by omega)
    have hO : -2 ≤ oM K G h ∧ oM K G h ≤ 40 := onM_r (by omega)
    exact (((((((hK.up (by omega)).up (by omega)).up (by omega)).up (by omega)) : IR (k0M K)).up (by omega)).up (by unfold shM; omega)).up (by unfold fiM; omega) |>.up (by omega) |> fun q => q k
theorem fitK_51 {K : Nat → Int} {G : Nat → Int → Int} {h : Int} (h45 : 0 ≤ G 45 h ∧ G 45 h ≤ 40) : 0 ≤ fitK K G h 51 ∧ fitK K G h 51 ≤ 41 := by
  unfold fitK
  split
  · unfold k0M; simp (disch := decide) only [uN_s, uN_n]; decide
  · rw [uN_s]; split <;> omega
set_option maxRecDepth 100000 in
set_option maxHeartbeats 4000000 in
theorem q_half0_0 {I N : Nat → Int} {F : Nat → Int → Int} {K : Nat → Int} {G : Nat → Int → Int} (hG : FR G) (hK : IR K) (hM : MR K) (h45 : 0 ≤ G 45 0 ∧ G 45 0 ≤ 40) (hpr : 0 ≤ clM K G 0 0 ∧ clM K G 0 0 ≤ 2) : Sp (rm 2 53 0 0) mX9_half [.ref 31, J 0, J 0] (W2 I N F K G) (fun w r => ∃ on by1 : Int → Int, r = some (J (fitK K G 0 51)) ∧ w = W2 I N F (fitK K G 0) (uN (uN G 52 on) 53 by1) ∧ fitR K G 0 on by1) := by
  have hM0 := hM
  unfold MR at hM
  have hKf := fitK_r (h := 0) hK h45
  refine sp_of (ls := [some (.ref 31), some (J 0), some (J 0)]) (by decide) (nle rfl) rfl rfl ?_
  refine v_iload_n (dec_of DX9_half 0 rfl) rfl ?_
  refine vi_const (dec_of DX9_half 1 rfl) ?_
  refine vi_const (dec_of DX9_half 2 rfl) ?_
  refine v_S3r (q_in (by decide) (by decide) (by decide)) lX9_126 (dec_of DX9_half 3 rfl) (by decide) (nle rfl) rfl ?_
  refine vi_if_eq (tgt := 18) (dec_of DX9_half 4 rfl) (by decide) (by first | omega | decide | exact hKf _) (fun c6 => absurd c6 (by omega)) (fun c6 => ?_)
  refine v_iload_n (dec_of DX9_half 5 rfl) rfl ?_
  refine vi_const (dec_of DX9_half 6 rfl) ?_
  refine vi_const (dec_of DX9_half 7 rfl) ?_
  refine v_S3r (q_in (by decide) (by decide) (by decide)) lX9_126 (dec_of DX9_half 8 rfl) (by decide) (nle rfl) rfl ?_
  refine vi_if_ne (tgt := 21) (dec_of DX9_half 9 rfl) (by decide) (by first | omega | decide | exact hKf _) (fun c15 => ?_) (fun c15 => absurd c15 (by omega))
  refine v_aload_n (dec_of DX9_half 12 rfl) rfl ?_
  refine v_iload_n (dec_of DX9_half 13 rfl) rfl ?_
  refine v_V1p (q_fit hG hK hM0 (h := 0) (by decide) h45 hpr) lX9_262 (dec_of DX9_half 14 rfl) rfl rfl (by decide) (nle rfl) rfl (fun w r hz => ?_)
  obtain ⟨rfl, on, by1, rfl, hr⟩ := hz
  rw [tl_n]
  refine v_iload_n (dec_of DX9_half 15 rfl) rfl ?_
  refine vi_if_ne (tgt := 37) (dec_of DX9_half 16 rfl) (by decide) (by first | omega | decide | exact hKf _) (fun c27 => absurd c27 (by omega)) (fun c27 => ?_)
  refine v_aload_n (dec_of DX9_half 17 rfl) rfl ?_
  refine v_get fX9_240 (dec_of DX9_half 18 rfl) rfl rfl ?_
  refine v_goto (tgt := 73) (dec_of DX9_half 19 rfl) (by decide) ?_
  exact vi_ret (dec_of DX9_half 38 rfl) rfl ⟨by decide, by decide⟩ (⟨on, by1, by first | rfl | (rw [if_pos (by assumption)]) | (rw [if_neg (by assumption)]), rfl, hr⟩)
set_option maxRecDepth 100000 in
set_option maxHeartbeats 4000000 in
theorem q_half0_1 {I N : Nat → Int} {F : Nat → Int → Int} {K : Nat → Int} {G : Nat → Int → Int} (hG : FR G) (hK : IR K) (hM : MR K) (h45 : 0 ≤ G 45 0 ∧ G 45 0 ≤ 40) (hpr : 0 ≤ clM K G 0 0 ∧ clM K G 0 0 ≤ 2) : Sp (rm 2 53 0 0) mX9_half [.ref 31, J 0, J 1] (W2 I N F K G) (fun w r => ∃ on by1 : Int → Int, r = some (J (if fitK K G 0 50 = 0 then 0 else 1)) ∧ w = W2 I N F (fitK K G 0) (uN (uN G 52 on) 53 by1) ∧ fitR K G 0 on by1) := by
  have hM0 := hM
  unfold MR at hM
  have hKf := fitK_r (h := 0) hK h45
  refine sp_of (ls := [some (.ref 31), some (J 0), some (J 1)]) (by decide) (nle rfl) rfl rfl ?_
  refine v_iload_n (dec_of DX9_half 0 rfl) rfl ?_
  refine vi_const (dec_of DX9_half 1 rfl) ?_
  refine vi_const (dec_of DX9_half 2 rfl) ?_
  refine v_S3r (q_in (by decide) (by decide) (by decide)) lX9_126 (dec_of DX9_half 3 rfl) (by decide) (nle rfl) rfl ?_
  refine vi_if_eq (tgt := 18) (dec_of DX9_half 4 rfl) (by decide) (by first | omega | decide | exact hKf _) (fun c6 => absurd c6 (by omega)) (fun c6 => ?_)
  refine v_iload_n (dec_of DX9_half 5 rfl) rfl ?_
  refine vi_const (dec_of DX9_half 6 rfl) ?_
  refine vi_const (dec_of DX9_half 7 rfl) ?_
  refine v_S3r (q_in (by decide) (by decide) (by decide)) lX9_126 (dec_of DX9_half 8 rfl) (by decide) (nle rfl) rfl ?_
  refine vi_if_ne (tgt := 21) (dec_of DX9_half 9 rfl) (by decide) (by first | omega | decide | exact hKf _) (fun c15 => ?_) (fun c15 => absurd c15 (by omega))
  refine v_aload_n (dec_of DX9_half 12 rfl) rfl ?_
  refine v_iload_n (dec_of DX9_half 13 rfl) rfl ?_
  refine v_V1p (q_fit hG hK hM0 (h := 0) (by decide) h45 hpr) lX9_262 (dec_of DX9_half 14 rfl) rfl rfl (by decide) (nle rfl) rfl (fun w r hz => ?_)
  obtain ⟨rfl, on, by1, rfl, hr⟩ := hz
  rw [tl_n]
  refine v_iload_n (dec_of DX9_half 15 rfl) rfl ?_
  refine vi_if_ne (tgt := 37) (dec_of DX9_half 16 rfl) (by decide) (by first | omega | decide | exact hKf _) (fun c27 => ?_) (fun c27 => absurd c27 (by omega))
  refine v_iload_n (dec_of DX9_half 20 rfl) rfl ?_
  refine vi_const (dec_of DX9_half 21 rfl) ?_
  refine vi_icmp_ne (tgt := 57) (dec_of DX9_half 22 rfl) (by decide) (by first | omega | decide | exact hKf _) (by first | omega | decide | exact hKf _) (fun c39 => absurd c39 (by omega)) (fun c39 => ?_)
  refine v_aload_n (dec_of DX9_half 23 rfl) rfl ?_
  refine v_get fX9_249 (dec_of DX9_half 24 rfl) rfl rfl ?_
  refine vi_if_eq (tgt := 53) (dec_of DX9_half 25 rfl) (by decide) (by first | omega | decide | exact hKf _) (fun c46 => ?_) (fun c46 => ?_)
  · refine vi_const (dec_of DX9_half 28 rfl) ?_
    refine v_goto (tgt := 73) (dec_of DX9_half 29 rfl) (by decide) ?_
    exact vi_ret (dec_of DX9_half 38 rfl) rfl ⟨by decide, by decide⟩ (⟨on, by1, by first | rfl | (rw [if_pos (by assumption)]) | (rw [if_neg (by assumption)]), rfl, hr⟩)
  · refine vi_const (dec_of DX9_half 26 rfl) ?_
    refine v_goto (tgt := 73) (dec_of DX9_half 27 rfl) (by decide) ?_
    exact vi_ret (dec_of DX9_half 38 rfl) rfl ⟨by decide, by decide⟩ (⟨on, by1, by first | rfl | (rw [if_pos (by assumption)]) | (rw [if_neg (by assumption)]), rfl, hr⟩)
set_option maxRecDepth 100000 in
set_option maxHeartbeats 4000000 in
theorem q_half0_2 {I N : Nat → Int} {F : Nat → Int → Int} {K : Nat → Int} {G : Nat → Int → Int} (hG : FR G) (hK : IR K) (hM : MR K) (h45 : 0 ≤ G 45 0 ∧ G 45 0 ≤ 40) (hpr : 0 ≤ clM K G 0 0 ∧ clM K G 0 0 ≤ 2) : Sp (rm 2 53 0 0) mX9_half [.ref 31, J 0, J 2] (W2 I N F K G) (fun w r => ∃ on by1 : Int → Int, r = some (J (fitK K G 0 48)) ∧ w = W2 I N F (fitK K G 0) (uN (uN G 52 on) 53 by1) ∧ fitR K G 0 on by1) := by
  have hM0 := hM
  unfold MR at hM
  have hKf := fitK_r (h := 0) hK h45
  refine sp_of (ls := [some (.ref 31), some (J 0), some (J 2)]) (by decide) (nle rfl) rfl rfl ?_
  refine v_iload_n (dec_of DX9_half 0 rfl) rfl ?_
  refine vi_const (dec_of DX9_half 1 rfl) ?_
  refine vi_const (dec_of DX9_half 2 rfl) ?_
  refine v_S3r (q_in (by decide) (by decide) (by decide)) lX9_126 (dec_of DX9_half 3 rfl) (by decide) (nle rfl) rfl ?_
  refine vi_if_eq (tgt := 18) (dec_of DX9_half 4 rfl) (by decide) (by first | omega | decide | exact hKf _) (fun c6 => absurd c6 (by omega)) (fun c6 => ?_)
  refine v_iload_n (dec_of DX9_half 5 rfl) rfl ?_
  refine vi_const (dec_of DX9_half 6 rfl) ?_
  refine vi_const (dec_of DX9_half 7 rfl) ?_
  refine v_S3r (q_in (by decide) (by decide) (by decide)) lX9_126 (dec_of DX9_half 8 rfl) (by decide) (nle rfl) rfl ?_
  refine vi_if_ne (tgt := 21) (dec_of DX9_half 9 rfl) (by decide) (by first | omega | decide | exact hKf _) (fun c15 => ?_) (fun c15 => absurd c15 (by omega))
  refine v_aload_n (dec_of DX9_half 12 rfl) rfl ?_
  refine v_iload_n (dec_of DX9_half 13 rfl) rfl ?_
  refine v_V1p (q_fit hG hK hM0 (h := 0) (by decide) h45 hpr) lX9_262 (dec_of DX9_half 14 rfl) rfl rfl (by decide) (nle rfl) rfl (fun w r hz => ?_)
  obtain ⟨rfl, on, by1, rfl, hr⟩ := hz
  rw [tl_n]
  refine v_iload_n (dec_of DX9_half 15 rfl) rfl ?_
  refine vi_if_ne (tgt := 37) (dec_of DX9_half 16 rfl) (by decide) (by first | omega | decide | exact hKf _) (fun c27 => ?_) (fun c27 => absurd c27 (by omega))
  refine v_iload_n (dec_of DX9_half 20 rfl) rfl ?_
  refine vi_const (dec_of DX9_half 21 rfl) ?_
  refine vi_icmp_ne (tgt := 57) (dec_of DX9_half 22 rfl) (by decide) (by first | omega | decide | exact hKf _) (by first | omega | decide | exact hKf _) (fun c39 => ?_) (fun c39 => absurd c39 (by omega))
  refine v_iload_n (dec_of DX9_half 30 rfl) rfl ?_
  refine vi_const (dec_of DX9_half 31 rfl) ?_
  refine vi_icmp_ne (tgt := 69) (dec_of DX9_half 32 rfl) (by decide) (by first | omega | decide | exact hKf _) (by first | omega | decide | exact hKf _) (fun c59 => absurd c59 (by omega)) (fun c59 => ?_)
  refine v_aload_n (dec_of DX9_half 33 rfl) rfl ?_
  refine v_get fX9_243 (dec_of DX9_half 34 rfl) rfl rfl ?_
  refine v_goto (tgt := 73) (dec_of DX9_half 35 rfl) (by decide) ?_
  exact vi_ret (dec_of DX9_half 38 rfl) rfl ⟨by decide, by decide⟩ (⟨on, by1, by first | rfl | (rw [if_pos (by assumption)]) | (rw [if_neg (by assumption)]), rfl, hr⟩)
set_option maxRecDepth 100000 in
set_option maxHeartbeats 4000000 in
theorem q_half0_3 {I N : Nat → Int} {F : Nat → Int → Int} {K : Nat → Int} {G : Nat → Int → Int} (hG : FR G) (hK : IR K) (hM : MR K) (h45 : 0 ≤ G 45 0 ∧ G 45 0 ≤ 40) (hpr : 0 ≤ clM K G 0 0 ∧ clM K G 0 0 ≤ 2) : Sp (rm 2 53 0 0) mX9_half [.ref 31, J 0, J 3] (W2 I N F K G) (fun w r => ∃ on by1 : Int → Int, r = some (J (fitK K G 0 49)) ∧ w = W2 I N F (fitK K G 0) (uN (uN G 52 on) 53 by1) ∧ fitR K G 0 on by1) := by
  have hM0 := hM
  unfold MR at hM
  have hKf := fitK_r (h := 0) hK h45
  refine sp_of (ls := [some (.ref 31), some (J 0), some (J 3)]) (by decide) (nle rfl) rfl rfl ?_
  refine v_iload_n (dec_of DX9_half 0 rfl) rfl ?_
  refine vi_const (dec_of DX9_half 1 rfl) ?_
  refine vi_const (dec_of DX9_half 2 rfl) ?_
  refine v_S3r (q_in (by decide) (by decide) (by decide)) lX9_126 (dec_of DX9_half 3 rfl) (by decide) (nle rfl) rfl ?_
  refine vi_if_eq (tgt := 18) (dec_of DX9_half 4 rfl) (by decide) (by first | omega | decide | exact hKf _) (fun c6 => absurd c6 (by omega)) (fun c6 => ?_)
  refine v_iload_n (dec_of DX9_half 5 rfl) rfl ?_
  refine vi_const (dec_of DX9_half 6 rfl) ?_
  refine vi_const (dec_of DX9_half 7 rfl) ?_
  refine v_S3r (q_in (by decide) (by decide) (by decide)) lX9_126 (dec_of DX9_half 8 rfl) (by decide) (nle rfl) rfl ?_
  refine vi_if_ne (tgt := 21) (dec_of DX9_half 9 rfl) (by decide) (by first | omega | decide | exact hKf _) (fun c15 => ?_) (fun c15 => absurd c15 (by omega))
  refine v_aload_n (dec_of DX9_half 12 rfl) rfl ?_
  refine v_iload_n (dec_of DX9_half 13 rfl) rfl ?_
  refine v_V1p (q_fit hG hK hM0 (h := 0) (by decide) h45 hpr) lX9_262 (dec_of DX9_half 14 rfl) rfl rfl (by decide) (nle rfl) rfl (fun w r hz => ?_)
  obtain ⟨rfl, on, by1, rfl, hr⟩ := hz
  rw [tl_n]
  refine v_iload_n (dec_of DX9_half 15 rfl) rfl ?_
  refine vi_if_ne (tgt := 37) (dec_of DX9_half 16 rfl) (by decide) (by first | omega | decide | exact hKf _) (fun c27 => ?_) (fun c27 => absurd c27 (by omega))
  refine v_iload_n (dec_of DX9_half 20 rfl) rfl ?_
  refine vi_const (dec_of DX9_half 21 rfl) ?_
  refine vi_icmp_ne (tgt := 57) (dec_of DX9_half 22 rfl) (by decide) (by first | omega | decide | exact hKf _) (by first | omega | decide | exact hKf _) (fun c39 => ?_) (fun c39 => absurd c39 (by omega))
  refine v_iload_n (dec_of DX9_half 30 rfl) rfl ?_
  refine vi_const (dec_of DX9_half 31 rfl) ?_
  refine vi_icmp_ne (tgt := 69) (dec_of DX9_half 32 rfl) (by decide) (by first | omega | decide | exact hKf _) (by first | omega | decide | exact hKf _) (fun c59 => ?_) (fun c59 => absurd c59 (by omega))
  refine v_aload_n (dec_of DX9_half 36 rfl) rfl ?_
  refine v_get fX9_246 (dec_of DX9_half 37 rfl) rfl rfl ?_
  exact vi_ret (dec_of DX9_half 38 rfl) rfl ⟨by decide, by decide⟩ (⟨on, by1, by first | rfl | (rw [if_pos (by assumption)]) | (rw [if_neg (by assumption)]), rfl, hr⟩)
set_option maxRecDepth 100000 in
set_option maxHeartbeats 4000000 in
theorem q_sung0_0 {I N : Nat → Int} {F : Nat → Int → Int} {K : Nat → Int} {G : Nat → Int → Int} (hG : FR G) (hK : IR K) (hM : MR K) (h45 : 0 ≤ G 45 0 ∧ G 45 0 ≤ 40) (hpr : 0 ≤ clM K G 0 0 ∧ clM K G 0 0 ≤ 2) {k : Int} (hk : -2147483648 ≤ k ∧ k < 2147483648) : Sp (rm 2 53 0 0) mX9_sung [.ref 31, J 0, J k, J 0] (W2 I N F K G) (fun w r => ∃ on by1 : Int → Int, r = some (J (if 0 ≤ k ∧ k < fitK K G 0 51 then on k else -100)) ∧ w = W2 I N F (fitK K G 0) (uN (uN G 52 on) 53 by1) ∧ fitR K G 0 on by1) := by
  have hM0 := hM
  unfold MR at hM
  have hKf := fitK_r (h := 0) hK h45
  have h51 := fitK_51 (K := K) (h := 0) h45
  refine sp_of (ls := [some (.ref 31), some (J 0), some (J k), some (J 0)]) (by decide) (nle rfl) rfl rfl ?_
  refine v_iload_n (dec_of DX9_sung 0 rfl) rfl ?_
  refine vi_const (dec_of DX9_sung 1 rfl) ?_
  refine vi_const (dec_of DX9_sung 2 rfl) ?_
  refine v_S3r (q_in (by decide) (by decide) (by decide)) lX9_126 (dec_of DX9_sung 3 rfl) (by decide) (nle rfl) rfl ?_
  refine vi_if_eq (tgt := 18) (dec_of DX9_sung 4 rfl) (by decide) (by first | omega | decide | exact hKf _) (fun c6 => absurd c6 (by omega)) (fun c6 => ?_)
  refine v_iload_n (dec_of DX9_sung 5 rfl) rfl ?_
  refine vi_const (dec_of DX9_sung 6 rfl) ?_
  refine vi_const (dec_of DX9_sung 7 rfl) ?_
  refine v_S3r (q_in (by decide) (by decide) (by decide)) lX9_126 (dec_of DX9_sung 8 rfl) (by decide) (nle rfl) rfl ?_
  refine vi_if_ne (tgt := 21) (dec_of DX9_sung 9 rfl) (by decide) (by first | omega | decide | exact hKf _) (fun c15 => ?_) (fun c15 => absurd c15 (by omega))
  refine v_aload_n (dec_of DX9_sung 12 rfl) rfl ?_
  refine v_iload_n (dec_of DX9_sung 13 rfl) rfl ?_
  refine v_V1p (q_fit hG hK hM0 (h := 0) (by decide) h45 hpr) lX9_262 (dec_of DX9_sung 14 rfl) rfl rfl (by decide) (nle rfl) rfl (fun w r hz => ?_)
  obtain ⟨rfl, on, by1, rfl, hr⟩ := hz
  rw [tl_n]
  refine v_iload_n (dec_of DX9_sung 15 rfl) rfl ?_
  refine vi_const (dec_of DX9_sung 16 rfl) ?_
  refine v_aload_n (dec_of DX9_sung 17 rfl) rfl ?_
  refine v_get fX9_240 (dec_of DX9_sung 18 rfl) rfl rfl ?_
  refine vi_const (dec_of DX9_sung 19 rfl) ?_
  refine vi_sub (dec_of DX9_sung 20 rfl) ?_
  refine v_S3r (q_in (by omega) (by omega) (by omega)) lX9_126 (dec_of DX9_sung 21 rfl) (by decide) (nle rfl) rfl ?_
  refine vi_if_ne (tgt := 45) (dec_of DX9_sung 22 rfl) (by decide) (by first | omega | decide | exact hKf _) (fun c37 => ?_) (fun c37 => ?_)
  · refine v_iload_n (dec_of DX9_sung 25 rfl) rfl ?_
    refine vi_if_ne (tgt := 58) (dec_of DX9_sung 26 rfl) (by decide) (by first | omega | decide | exact hKf _) (fun c46 => absurd c46 (by omega)) (fun c46 => ?_)
    refine v_aload_n (dec_of DX9_sung 27 rfl) rfl ?_
    refine v_get fX9_107 (dec_of DX9_sung 28 rfl) rfl rfl ?_
    refine v_iload_n (dec_of DX9_sung 29 rfl) rfl ?_
    refine vi_aload (dec_of DX9_sung 30 rfl) rfl (by first | omega | decide | exact hKf _) (by decide) ?_
    refine v_goto (tgt := 64) (dec_of DX9_sung 31 rfl) (by decide) ?_
    exact vi_ret (dec_of DX9_sung 36 rfl) rfl ⟨by decide, by decide⟩ (⟨on, by1, by first | (rw [if_pos (by omega)]; rfl) | (rw [if_neg (by omega)]; done), rfl, hr⟩)
  · refine vi_bi (dec_of DX9_sung 23 rfl) (by decide) ?_
    refine v_goto (tgt := 64) (dec_of DX9_sung 24 rfl) (by decide) ?_
    exact vi_ret (dec_of DX9_sung 36 rfl) rfl ⟨by decide, by decide⟩ (⟨on, by1, by first | (rw [if_pos (by omega)]; rfl) | (rw [if_neg (by omega)]; done), rfl, hr⟩)
set_option maxRecDepth 100000 in
set_option maxHeartbeats 4000000 in
theorem q_sung0_1 {I N : Nat → Int} {F : Nat → Int → Int} {K : Nat → Int} {G : Nat → Int → Int} (hG : FR G) (hK : IR K) (hM : MR K) (h45 : 0 ≤ G 45 0 ∧ G 45 0 ≤ 40) (hpr : 0 ≤ clM K G 0 0 ∧ clM K G 0 0 ≤ 2) {k : Int} (hk : -2147483648 ≤ k ∧ k < 2147483648) : Sp (rm 2 53 0 0) mX9_sung [.ref 31, J 0, J k, J 1] (W2 I N F K G) (fun w r => ∃ on by1 : Int → Int, r = some (J (if 0 ≤ k ∧ k < fitK K G 0 51 then by1 k else -100)) ∧ w = W2 I N F (fitK K G 0) (uN (uN G 52 on) 53 by1) ∧ fitR K G 0 on by1) := by
  have hM0 := hM
  unfold MR at hM
  have hKf := fitK_r (h := 0) hK h45
  have h51 := fitK_51 (K := K) (h := 0) h45
  refine sp_of (ls := [some (.ref 31), some (J 0), some (J k), some (J 1)]) (by decide) (nle rfl) rfl rfl ?_
  refine v_iload_n (dec_of DX9_sung 0 rfl) rfl ?_
  refine vi_const (dec_of DX9_sung 1 rfl) ?_
  refine vi_const (dec_of DX9_sung 2 rfl) ?_
  refine v_S3r (q_in (by decide) (by decide) (by decide)) lX9_126 (dec_of DX9_sung 3 rfl) (by decide) (nle rfl) rfl ?_
  refine vi_if_eq (tgt := 18) (dec_of DX9_sung 4 rfl) (by decide) (by first | omega | decide | exact hKf _) (fun c6 => absurd c6 (by omega)) (fun c6 => ?_)
  refine v_iload_n (dec_of DX9_sung 5 rfl) rfl ?_
  refine vi_const (dec_of DX9_sung 6 rfl) ?_
  refine vi_const (dec_of DX9_sung 7 rfl) ?_
  refine v_S3r (q_in (by decide) (by decide) (by decide)) lX9_126 (dec_of DX9_sung 8 rfl) (by decide) (nle rfl) rfl ?_
  refine vi_if_ne (tgt := 21) (dec_of DX9_sung 9 rfl) (by decide) (by first | omega | decide | exact hKf _) (fun c15 => ?_) (fun c15 => absurd c15 (by omega))
  refine v_aload_n (dec_of DX9_sung 12 rfl) rfl ?_
  refine v_iload_n (dec_of DX9_sung 13 rfl) rfl ?_
  refine v_V1p (q_fit hG hK hM0 (h := 0) (by decide) h45 hpr) lX9_262 (dec_of DX9_sung 14 rfl) rfl rfl (by decide) (nle rfl) rfl (fun w r hz => ?_)
  obtain ⟨rfl, on, by1, rfl, hr⟩ := hz
  rw [tl_n]
  refine v_iload_n (dec_of DX9_sung 15 rfl) rfl ?_
  refine vi_const (dec_of DX9_sung 16 rfl) ?_
  refine v_aload_n (dec_of DX9_sung 17 rfl) rfl ?_
  refine v_get fX9_240 (dec_of DX9_sung 18 rfl) rfl rfl ?_
  refine vi_const (dec_of DX9_sung 19 rfl) ?_
  refine vi_sub (dec_of DX9_sung 20 rfl) ?_
  refine v_S3r (q_in (by omega) (by omega) (by omega)) lX9_126 (dec_of DX9_sung 21 rfl) (by decide) (nle rfl) rfl ?_
  refine vi_if_ne (tgt := 45) (dec_of DX9_sung 22 rfl) (by decide) (by first | omega | decide | exact hKf _) (fun c37 => ?_) (fun c37 => ?_)
  · refine v_iload_n (dec_of DX9_sung 25 rfl) rfl ?_
    refine vi_if_ne (tgt := 58) (dec_of DX9_sung 26 rfl) (by decide) (by first | omega | decide | exact hKf _) (fun c46 => ?_) (fun c46 => absurd c46 (by omega))
    refine v_aload_n (dec_of DX9_sung 32 rfl) rfl ?_
    refine v_get fX9_110 (dec_of DX9_sung 33 rfl) rfl rfl ?_
    refine v_iload_n (dec_of DX9_sung 34 rfl) rfl ?_
    refine vi_aload (dec_of DX9_sung 35 rfl) rfl (by first | omega | decide | exact hKf _) (by decide) ?_
    exact vi_ret (dec_of DX9_sung 36 rfl) rfl ⟨by decide, by decide⟩ (⟨on, by1, by first | (rw [if_pos (by omega)]; rfl) | (rw [if_neg (by omega)]; done), rfl, hr⟩)
  · refine vi_bi (dec_of DX9_sung 23 rfl) (by decide) ?_
    refine v_goto (tgt := 64) (dec_of DX9_sung 24 rfl) (by decide) ?_
    exact vi_ret (dec_of DX9_sung 36 rfl) rfl ⟨by decide, by decide⟩ (⟨on, by1, by first | (rw [if_pos (by omega)]; rfl) | (rw [if_neg (by omega)]; done), rfl, hr⟩)
set_option maxRecDepth 100000 in
set_option maxHeartbeats 4000000 in
theorem q_half1_0 {I N : Nat → Int} {F : Nat → Int → Int} {K : Nat → Int} {G : Nat → Int → Int} (hG : FR G) (hK : IR K) (hM : MR K) (h45 : 0 ≤ G 45 1 ∧ G 45 1 ≤ 40) (hpr : 0 ≤ clM K G 1 0 ∧ clM K G 1 0 ≤ 2) : Sp (rm 2 53 0 0) mX9_half [.ref 31, J 1, J 0] (W2 I N F K G) (fun w r => ∃ on by1 : Int → Int, r = some (J (fitK K G 1 51)) ∧ w = W2 I N F (fitK K G 1) (uN (uN G 52 on) 53 by1) ∧ fitR K G 1 on by1) := by
  have hM0 := hM
  unfold MR at hM
  have hKf := fitK_r (h := 1) hK h45
  refine sp_of (ls := [some (.ref 31), some (J 1), some (J 0)]) (by decide) (nle rfl) rfl rfl ?_
  refine v_iload_n (dec_of DX9_half 0 rfl) rfl ?_
  refine vi_const (dec_of DX9_half 1 rfl) ?_
  refine vi_const (dec_of DX9_half 2 rfl) ?_
  refine v_S3r (q_in (by decide) (by decide) (by decide)) lX9_126 (dec_of DX9_half 3 rfl) (by decide) (nle rfl) rfl ?_
  refine vi_if_eq (tgt := 18) (dec_of DX9_half 4 rfl) (by decide) (by first | omega | decide | exact hKf _) (fun c6 => absurd c6 (by omega)) (fun c6 => ?_)
  refine v_iload_n (dec_of DX9_half 5 rfl) rfl ?_
  refine vi_const (dec_of DX9_half 6 rfl) ?_
  refine vi_const (dec_of DX9_half 7 rfl) ?_
  refine v_S3r (q_in (by decide) (by decide) (by decide)) lX9_126 (dec_of DX9_half 8 rfl) (by decide) (nle rfl) rfl ?_
  refine vi_if_ne (tgt := 21) (dec_of DX9_half 9 rfl) (by decide) (by first | omega | decide | exact hKf _) (fun c15 => ?_) (fun c15 => absurd c15 (by omega))
  refine v_aload_n (dec_of DX9_half 12 rfl) rfl ?_
  refine v_iload_n (dec_of DX9_half 13 rfl) rfl ?_
  refine v_V1p (q_fit hG hK hM0 (h := 1) (by decide) h45 hpr) lX9_262 (dec_of DX9_half 14 rfl) rfl rfl (by decide) (nle rfl) rfl (fun w r hz => ?_)
  obtain ⟨rfl, on, by1, rfl, hr⟩ := hz
  rw [tl_n]
  refine v_iload_n (dec_of DX9_half 15 rfl) rfl ?_
  refine vi_if_ne (tgt := 37) (dec_of DX9_half 16 rfl) (by decide) (by first | omega | decide | exact hKf _) (fun c27 => absurd c27 (by omega)) (fun c27 => ?_)
  refine v_aload_n (dec_of DX9_half 17 rfl) rfl ?_
  refine v_get fX9_240 (dec_of DX9_half 18 rfl) rfl rfl ?_
  refine v_goto (tgt := 73) (dec_of DX9_half 19 rfl) (by decide) ?_
  exact vi_ret (dec_of DX9_half 38 rfl) rfl ⟨by decide, by decide⟩ (⟨on, by1, by first | rfl | (rw [if_pos (by assumption)]) | (rw [if_neg (by assumption)]), rfl, hr⟩)
set_option maxRecDepth 100000 in
set_option maxHeartbeats 4000000 in
theorem q_half1_1 {I N : Nat → Int} {F : Nat → Int → Int} {K : Nat → Int} {G : Nat → Int → Int} (hG : FR G) (hK : IR K) (hM : MR K) (h45 : 0 ≤ G 45 1 ∧ G 45 1 ≤ 40) (hpr : 0 ≤ clM K G 1 0 ∧ clM K G 1 0 ≤ 2) : Sp (rm 2 53 0 0) mX9_half [.ref 31, J 1, J 1] (W2 I N F K G) (fun w r => ∃ on by1 : Int → Int, r = some (J (if fitK K G 1 50 = 0 then 0 else 1)) ∧ w = W2 I N F (fitK K G 1) (uN (uN G 52 on) 53 by1) ∧ fitR K G 1 on by1) := by
  have hM0 := hM
  unfold MR at hM
  have hKf := fitK_r (h := 1) hK h45
  refine sp_of (ls := [some (.ref 31), some (J 1), some (J 1)]) (by decide) (nle rfl) rfl rfl ?_
  refine v_iload_n (dec_of DX9_half 0 rfl) rfl ?_
  refine vi_const (dec_of DX9_half 1 rfl) ?_
  refine vi_const (dec_of DX9_half 2 rfl) ?_
  refine v_S3r (q_in (by decide) (by decide) (by decide)) lX9_126 (dec_of DX9_half 3 rfl) (by decide) (nle rfl) rfl ?_
  refine vi_if_eq (tgt := 18) (dec_of DX9_half 4 rfl) (by decide) (by first | omega | decide | exact hKf _) (fun c6 => absurd c6 (by omega)) (fun c6 => ?_)
  refine v_iload_n (dec_of DX9_half 5 rfl) rfl ?_
  refine vi_const (dec_of DX9_half 6 rfl) ?_
  refine vi_const (dec_of DX9_half 7 rfl) ?_
  refine v_S3r (q_in (by decide) (by decide) (by decide)) lX9_126 (dec_of DX9_half 8 rfl) (by decide) (nle rfl) rfl ?_
  refine vi_if_ne (tgt := 21) (dec_of DX9_half 9 rfl) (by decide) (by first | omega | decide | exact hKf _) (fun c15 => ?_) (fun c15 => absurd c15 (by omega))
  refine v_aload_n (dec_of DX9_half 12 rfl) rfl ?_
  refine v_iload_n (dec_of DX9_half 13 rfl) rfl ?_
  refine v_V1p (q_fit hG hK hM0 (h := 1) (by decide) h45 hpr) lX9_262 (dec_of DX9_half 14 rfl) rfl rfl (by decide) (nle rfl) rfl (fun w r hz => ?_)
  obtain ⟨rfl, on, by1, rfl, hr⟩ := hz
  rw [tl_n]
  refine v_iload_n (dec_of DX9_half 15 rfl) rfl ?_
  refine vi_if_ne (tgt := 37) (dec_of DX9_half 16 rfl) (by decide) (by first | omega | decide | exact hKf _) (fun c27 => ?_) (fun c27 => absurd c27 (by omega))
  refine v_iload_n (dec_of DX9_half 20 rfl) rfl ?_
  refine vi_const (dec_of DX9_half 21 rfl) ?_
  refine vi_icmp_ne (tgt := 57) (dec_of DX9_half 22 rfl) (by decide) (by first | omega | decide | exact hKf _) (by first | omega | decide | exact hKf _) (fun c39 => absurd c39 (by omega)) (fun c39 => ?_)
  refine v_aload_n (dec_of DX9_half 23 rfl) rfl ?_
  refine v_get fX9_249 (dec_of DX9_half 24 rfl) rfl rfl ?_
  refine vi_if_eq (tgt := 53) (dec_of DX9_half 25 rfl) (by decide) (by first | omega | decide | exact hKf _) (fun c46 => ?_) (fun c46 => ?_)
  · refine vi_const (dec_of DX9_half 28 rfl) ?_
    refine v_goto (tgt := 73) (dec_of DX9_half 29 rfl) (by decide) ?_
    exact vi_ret (dec_of DX9_half 38 rfl) rfl ⟨by decide, by decide⟩ (⟨on, by1, by first | rfl | (rw [if_pos (by assumption)]) | (rw [if_neg (by assumption)]), rfl, hr⟩)
  · refine vi_const (dec_of DX9_half 26 rfl) ?_
    refine v_goto (tgt := 73) (dec_of DX9_half 27 rfl) (by decide) ?_
    exact vi_ret (dec_of DX9_half 38 rfl) rfl ⟨by decide, by decide⟩ (⟨on, by1, by first | rfl | (rw [if_pos (by assumption)]) | (rw [if_neg (by assumption)]), rfl, hr⟩)
set_option maxRecDepth 100000 in
set_option maxHeartbeats 4000000 in
theorem q_half1_2 {I N : Nat → Int} {F : Nat → Int → Int} {K : Nat → Int} {G : Nat → Int → Int} (hG : FR G) (hK : IR K) (hM : MR K) (h45 : 0 ≤ G 45 1 ∧ G 45 1 ≤ 40) (hpr : 0 ≤ clM K G 1 0 ∧ clM K G 1 0 ≤ 2) : Sp (rm 2 53 0 0) mX9_half [.ref 31, J 1, J 2] (W2 I N F K G) (fun w r => ∃ on by1 : Int → Int, r = some (J (fitK K G 1 48)) ∧ w = W2 I N F (fitK K G 1) (uN (uN G 52 on) 53 by1) ∧ fitR K G 1 on by1) := by
  have hM0 := hM
  unfold MR at hM
  have hKf := fitK_r (h := 1) hK h45
  refine sp_of (ls := [some (.ref 31), some (J 1), some (J 2)]) (by decide) (nle rfl) rfl rfl ?_
  refine v_iload_n (dec_of DX9_half 0 rfl) rfl ?_
  refine vi_const (dec_of DX9_half 1 rfl) ?_
  refine vi_const (dec_of DX9_half 2 rfl) ?_
  refine v_S3r (q_in (by decide) (by decide) (by decide)) lX9_126 (dec_of DX9_half 3 rfl) (by decide) (nle rfl) rfl ?_
  refine vi_if_eq (tgt := 18) (dec_of DX9_half 4 rfl) (by decide) (by first | omega | decide | exact hKf _) (fun c6 => absurd c6 (by omega)) (fun c6 => ?_)
  refine v_iload_n (dec_of DX9_half 5 rfl) rfl ?_
  refine vi_const (dec_of DX9_half 6 rfl) ?_
  refine vi_const (dec_of DX9_half 7 rfl) ?_
  refine v_S3r (q_in (by decide) (by decide) (by decide)) lX9_126 (dec_of DX9_half 8 rfl) (by decide) (nle rfl) rfl ?_
  refine vi_if_ne (tgt := 21) (dec_of DX9_half 9 rfl) (by decide) (by first | omega | decide | exact hKf _) (fun c15 => ?_) (fun c15 => absurd c15 (by omega))
  refine v_aload_n (dec_of DX9_half 12 rfl) rfl ?_
  refine v_iload_n (dec_of DX9_half 13 rfl) rfl ?_
  refine v_V1p (q_fit hG hK hM0 (h := 1) (by decide) h45 hpr) lX9_262 (dec_of DX9_half 14 rfl) rfl rfl (by decide) (nle rfl) rfl (fun w r hz => ?_)
  obtain ⟨rfl, on, by1, rfl, hr⟩ := hz
  rw [tl_n]
  refine v_iload_n (dec_of DX9_half 15 rfl) rfl ?_
  refine vi_if_ne (tgt := 37) (dec_of DX9_half 16 rfl) (by decide) (by first | omega | decide | exact hKf _) (fun c27 => ?_) (fun c27 => absurd c27 (by omega))
  refine v_iload_n (dec_of DX9_half 20 rfl) rfl ?_
  refine vi_const (dec_of DX9_half 21 rfl) ?_
  refine vi_icmp_ne (tgt := 57) (dec_of DX9_half 22 rfl) (by decide) (by first | omega | decide | exact hKf _) (by first | omega | decide | exact hKf _) (fun c39 => ?_) (fun c39 => absurd c39 (by omega))
  refine v_iload_n (dec_of DX9_half 30 rfl) rfl ?_
  refine vi_const (dec_of DX9_half 31 rfl) ?_
  refine vi_icmp_ne (tgt := 69) (dec_of DX9_half 32 rfl) (by decide) (by first | omega | decide | exact hKf _) (by first | omega | decide | exact hKf _) (fun c59 => absurd c59 (by omega)) (fun c59 => ?_)
  refine v_aload_n (dec_of DX9_half 33 rfl) rfl ?_
  refine v_get fX9_243 (dec_of DX9_half 34 rfl) rfl rfl ?_
  refine v_goto (tgt := 73) (dec_of DX9_half 35 rfl) (by decide) ?_
  exact vi_ret (dec_of DX9_half 38 rfl) rfl ⟨by decide, by decide⟩ (⟨on, by1, by first | rfl | (rw [if_pos (by assumption)]) | (rw [if_neg (by assumption)]), rfl, hr⟩)
set_option maxRecDepth 100000 in
set_option maxHeartbeats 4000000 in
theorem q_half1_3 {I N : Nat → Int} {F : Nat → Int → Int} {K : Nat → Int} {G : Nat → Int → Int} (hG : FR G) (hK : IR K) (hM : MR K) (h45 : 0 ≤ G 45 1 ∧ G 45 1 ≤ 40) (hpr : 0 ≤ clM K G 1 0 ∧ clM K G 1 0 ≤ 2) : Sp (rm 2 53 0 0) mX9_half [.ref 31, J 1, J 3] (W2 I N F K G) (fun w r => ∃ on by1 : Int → Int, r = some (J (fitK K G 1 49)) ∧ w = W2 I N F (fitK K G 1) (uN (uN G 52 on) 53 by1) ∧ fitR K G 1 on by1) := by
  have hM0 := hM
  unfold MR at hM
  have hKf := fitK_r (h := 1) hK h45
  refine sp_of (ls := [some (.ref 31), some (J 1), some (J 3)]) (by decide) (nle rfl) rfl rfl ?_
  refine v_iload_n (dec_of DX9_half 0 rfl) rfl ?_
  refine vi_const (dec_of DX9_half 1 rfl) ?_
  refine vi_const (dec_of DX9_half 2 rfl) ?_
  refine v_S3r (q_in (by decide) (by decide) (by decide)) lX9_126 (dec_of DX9_half 3 rfl) (by decide) (nle rfl) rfl ?_
  refine vi_if_eq (tgt := 18) (dec_of DX9_half 4 rfl) (by decide) (by first | omega | decide | exact hKf _) (fun c6 => absurd c6 (by omega)) (fun c6 => ?_)
  refine v_iload_n (dec_of DX9_half 5 rfl) rfl ?_
  refine vi_const (dec_of DX9_half 6 rfl) ?_
  refine vi_const (dec_of DX9_half 7 rfl) ?_
  refine v_S3r (q_in (by decide) (by decide) (by decide)) lX9_126 (dec_of DX9_half 8 rfl) (by decide) (nle rfl) rfl ?_
  refine vi_if_ne (tgt := 21) (dec_of DX9_half 9 rfl) (by decide) (by first | omega | decide | exact hKf _) (fun c15 => ?_) (fun c15 => absurd c15 (by omega))
  refine v_aload_n (dec_of DX9_half 12 rfl) rfl ?_
  refine v_iload_n (dec_of DX9_half 13 rfl) rfl ?_
  refine v_V1p (q_fit hG hK hM0 (h := 1) (by decide) h45 hpr) lX9_262 (dec_of DX9_half 14 rfl) rfl rfl (by decide) (nle rfl) rfl (fun w r hz => ?_)
  obtain ⟨rfl, on, by1, rfl, hr⟩ := hz
  rw [tl_n]
  refine v_iload_n (dec_of DX9_half 15 rfl) rfl ?_
  refine vi_if_ne (tgt := 37) (dec_of DX9_half 16 rfl) (by decide) (by first | omega | decide | exact hKf _) (fun c27 => ?_) (fun c27 => absurd c27 (by omega))
  refine v_iload_n (dec_of DX9_half 20 rfl) rfl ?_
  refine vi_const (dec_of DX9_half 21 rfl) ?_
  refine vi_icmp_ne (tgt := 57) (dec_of DX9_half 22 rfl) (by decide) (by first | omega | decide | exact hKf _) (by first | omega | decide | exact hKf _) (fun c39 => ?_) (fun c39 => absurd c39 (by omega))
  refine v_iload_n (dec_of DX9_half 30 rfl) rfl ?_
  refine vi_const (dec_of DX9_half 31 rfl) ?_
  refine vi_icmp_ne (tgt := 69) (dec_of DX9_half 32 rfl) (by decide) (by first | omega | decide | exact hKf _) (by first | omega | decide | exact hKf _) (fun c59 => ?_) (fun c59 => absurd c59 (by omega))
  refine v_aload_n (dec_of DX9_half 36 rfl) rfl ?_
  refine v_get fX9_246 (dec_of DX9_half 37 rfl) rfl rfl ?_
  exact vi_ret (dec_of DX9_half 38 rfl) rfl ⟨by decide, by decide⟩ (⟨on, by1, by first | rfl | (rw [if_pos (by assumption)]) | (rw [if_neg (by assumption)]), rfl, hr⟩)
set_option maxRecDepth 100000 in
set_option maxHeartbeats 4000000 in
theorem q_sung1_0 {I N : Nat → Int} {F : Nat → Int → Int} {K : Nat → Int} {G : Nat → Int → Int} (hG : FR G) (hK : IR K) (hM : MR K) (h45 : 0 ≤ G 45 1 ∧ G 45 1 ≤ 40) (hpr : 0 ≤ clM K G 1 0 ∧ clM K G 1 0 ≤ 2) {k : Int} (hk : -2147483648 ≤ k ∧ k < 2147483648) : Sp (rm 2 53 0 0) mX9_sung [.ref 31, J 1, J k, J 0] (W2 I N F K G) (fun w r => ∃ on by1 : Int → Int, r = some (J (if 0 ≤ k ∧ k < fitK K G 1 51 then on k else -100)) ∧ w = W2 I N F (fitK K G 1) (uN (uN G 52 on) 53 by1) ∧ fitR K G 1 on by1) := by
  have hM0 := hM
  unfold MR at hM
  have hKf := fitK_r (h := 1) hK h45
  have h51 := fitK_51 (K := K) (h := 1) h45
  refine sp_of (ls := [some (.ref 31), some (J 1), some (J k), some (J 0)]) (by decide) (nle rfl) rfl rfl ?_
  refine v_iload_n (dec_of DX9_sung 0 rfl) rfl ?_
  refine vi_const (dec_of DX9_sung 1 rfl) ?_
  refine vi_const (dec_of DX9_sung 2 rfl) ?_
  refine v_S3r (q_in (by decide) (by decide) (by decide)) lX9_126 (dec_of DX9_sung 3 rfl) (by decide) (nle rfl) rfl ?_
  refine vi_if_eq (tgt := 18) (dec_of DX9_sung 4 rfl) (by decide) (by first | omega | decide | exact hKf _) (fun c6 => absurd c6 (by omega)) (fun c6 => ?_)
  refine v_iload_n (dec_of DX9_sung 5 rfl) rfl ?_
  refine vi_const (dec_of DX9_sung 6 rfl) ?_
  refine vi_const (dec_of DX9_sung 7 rfl) ?_
  refine v_S3r (q_in (by decide) (by decide) (by decide)) lX9_126 (dec_of DX9_sung 8 rfl) (by decide) (nle rfl) rfl ?_
  refine vi_if_ne (tgt := 21) (dec_of DX9_sung 9 rfl) (by decide) (by first | omega | decide | exact hKf _) (fun c15 => ?_) (fun c15 => absurd c15 (by omega))
  refine v_aload_n (dec_of DX9_sung 12 rfl) rfl ?_
  refine v_iload_n (dec_of DX9_sung 13 rfl) rfl ?_
  refine v_V1p (q_fit hG hK hM0 (h := 1) (by decide) h45 hpr) lX9_262 (dec_of DX9_sung 14 rfl) rfl rfl (by decide) (nle rfl) rfl (fun w r hz => ?_)
  obtain ⟨rfl, on, by1, rfl, hr⟩ := hz
  rw [tl_n]
  refine v_iload_n (dec_of DX9_sung 15 rfl) rfl ?_
  refine vi_const (dec_of DX9_sung 16 rfl) ?_
  refine v_aload_n (dec_of DX9_sung 17 rfl) rfl ?_
  refine v_get fX9_240 (dec_of DX9_sung 18 rfl) rfl rfl ?_
  refine vi_const (dec_of DX9_sung 19 rfl) ?_
  refine vi_sub (dec_of DX9_sung 20 rfl) ?_
  refine v_S3r (q_in (by omega) (by omega) (by omega)) lX9_126 (dec_of DX9_sung 21 rfl) (by decide) (nle rfl) rfl ?_
  refine vi_if_ne (tgt := 45) (dec_of DX9_sung 22 rfl) (by decide) (by first | omega | decide | exact hKf _) (fun c37 => ?_) (fun c37 => ?_)
  · refine v_iload_n (dec_of DX9_sung 25 rfl) rfl ?_
    refine vi_if_ne (tgt := 58) (dec_of DX9_sung 26 rfl) (by decide) (by first | omega | decide | exact hKf _) (fun c46 => absurd c46 (by omega)) (fun c46 => ?_)
    refine v_aload_n (dec_of DX9_sung 27 rfl) rfl ?_
    refine v_get fX9_107 (dec_of DX9_sung 28 rfl) rfl rfl ?_
    refine v_iload_n (dec_of DX9_sung 29 rfl) rfl ?_
    refine vi_aload (dec_of DX9_sung 30 rfl) rfl (by first | omega | decide | exact hKf _) (by decide) ?_
    refine v_goto (tgt := 64) (dec_of DX9_sung 31 rfl) (by decide) ?_
    exact vi_ret (dec_of DX9_sung 36 rfl) rfl ⟨by decide, by decide⟩ (⟨on, by1, by first | (rw [if_pos (by omega)]; rfl) | (rw [if_neg (by omega)]; done), rfl, hr⟩)
  · refine vi_bi (dec_of DX9_sung 23 rfl) (by decide) ?_
    refine v_goto (tgt := 64) (dec_of DX9_sung 24 rfl) (by decide) ?_
    exact vi_ret (dec_of DX9_sung 36 rfl) rfl ⟨by decide, by decide⟩ (⟨on, by1, by first | (rw [if_pos (by omega)]; rfl) | (rw [if_neg (by omega)]; done), rfl, hr⟩)
set_option maxRecDepth 100000 in
set_option maxHeartbeats 4000000 in
theorem q_sung1_1 {I N : Nat → Int} {F : Nat → Int → Int} {K : Nat → Int} {G : Nat → Int → Int} (hG : FR G) (hK : IR K) (hM : MR K) (h45 : 0 ≤ G 45 1 ∧ G 45 1 ≤ 40) (hpr : 0 ≤ clM K G 1 0 ∧ clM K G 1 0 ≤ 2) {k : Int} (hk : -2147483648 ≤ k ∧ k < 2147483648) : Sp (rm 2 53 0 0) mX9_sung [.ref 31, J 1, J k, J 1] (W2 I N F K G) (fun w r => ∃ on by1 : Int → Int, r = some (J (if 0 ≤ k ∧ k < fitK K G 1 51 then by1 k else -100)) ∧ w = W2 I N F (fitK K G 1) (uN (uN G 52 on) 53 by1) ∧ fitR K G 1 on by1) := by
  have hM0 := hM
  unfold MR at hM
  have hKf := fitK_r (h := 1) hK h45
  have h51 := fitK_51 (K := K) (h := 1) h45
  refine sp_of (ls := [some (.ref 31), some (J 1), some (J k), some (J 1)]) (by decide) (nle rfl) rfl rfl ?_
  refine v_iload_n (dec_of DX9_sung 0 rfl) rfl ?_
  refine vi_const (dec_of DX9_sung 1 rfl) ?_
  refine vi_const (dec_of DX9_sung 2 rfl) ?_
  refine v_S3r (q_in (by decide) (by decide) (by decide)) lX9_126 (dec_of DX9_sung 3 rfl) (by decide) (nle rfl) rfl ?_
  refine vi_if_eq (tgt := 18) (dec_of DX9_sung 4 rfl) (by decide) (by first | omega | decide | exact hKf _) (fun c6 => absurd c6 (by omega)) (fun c6 => ?_)
  refine v_iload_n (dec_of DX9_sung 5 rfl) rfl ?_
  refine vi_const (dec_of DX9_sung 6 rfl) ?_
  refine vi_const (dec_of DX9_sung 7 rfl) ?_
  refine v_S3r (q_in (by decide) (by decide) (by decide)) lX9_126 (dec_of DX9_sung 8 rfl) (by decide) (nle rfl) rfl ?_
  refine vi_if_ne (tgt := 21) (dec_of DX9_sung 9 rfl) (by decide) (by first | omega | decide | exact hKf _) (fun c15 => ?_) (fun c15 => absurd c15 (by omega))
  refine v_aload_n (dec_of DX9_sung 12 rfl) rfl ?_
  refine v_iload_n (dec_of DX9_sung 13 rfl) rfl ?_
  refine v_V1p (q_fit hG hK hM0 (h := 1) (by decide) h45 hpr) lX9_262 (dec_of DX9_sung 14 rfl) rfl rfl (by decide) (nle rfl) rfl (fun w r hz => ?_)
  obtain ⟨rfl, on, by1, rfl, hr⟩ := hz
  rw [tl_n]
  refine v_iload_n (dec_of DX9_sung 15 rfl) rfl ?_
  refine vi_const (dec_of DX9_sung 16 rfl) ?_
  refine v_aload_n (dec_of DX9_sung 17 rfl) rfl ?_
  refine v_get fX9_240 (dec_of DX9_sung 18 rfl) rfl rfl ?_
  refine vi_const (dec_of DX9_sung 19 rfl) ?_
  refine vi_sub (dec_of DX9_sung 20 rfl) ?_
  refine v_S3r (q_in (by omega) (by omega) (by omega)) lX9_126 (dec_of DX9_sung 21 rfl) (by decide) (nle rfl) rfl ?_
  refine vi_if_ne (tgt := 45) (dec_of DX9_sung 22 rfl) (by decide) (by first | omega | decide | exact hKf _) (fun c37 => ?_) (fun c37 => ?_)
  · refine v_iload_n (dec_of DX9_sung 25 rfl) rfl ?_
    refine vi_if_ne (tgt := 58) (dec_of DX9_sung 26 rfl) (by decide) (by first | omega | decide | exact hKf _) (fun c46 => ?_) (fun c46 => absurd c46 (by omega))
    refine v_aload_n (dec_of DX9_sung 32 rfl) rfl ?_
    refine v_get fX9_110 (dec_of DX9_sung 33 rfl) rfl rfl ?_
    refine v_iload_n (dec_of DX9_sung 34 rfl) rfl ?_
    refine vi_aload (dec_of DX9_sung 35 rfl) rfl (by first | omega | decide | exact hKf _) (by decide) ?_
    exact vi_ret (dec_of DX9_sung 36 rfl) rfl ⟨by decide, by decide⟩ (⟨on, by1, by first | (rw [if_pos (by omega)]; rfl) | (rw [if_neg (by omega)]; done), rfl, hr⟩)
  · refine vi_bi (dec_of DX9_sung 23 rfl) (by decide) ?_
    refine v_goto (tgt := 64) (dec_of DX9_sung 24 rfl) (by decide) ?_
    exact vi_ret (dec_of DX9_sung 36 rfl) rfl ⟨by decide, by decide⟩ (⟨on, by1, by first | (rw [if_pos (by omega)]; rfl) | (rw [if_neg (by omega)]; done), rfl, hr⟩)
set_option maxRecDepth 100000 in
set_option maxHeartbeats 4000000 in
theorem q_half_out {I N : Nat → Int} {F : Nat → Int → Int} {K : Nat → Int} {G : Nat → Int → Int} (hG : FR G) (hK : IR K) (hM : MR K) {a b : Int} (ha : -2147483648 ≤ a ∧ a < 2147483648) (hb : -2147483648 ≤ b ∧ b < 2147483648) (h : ¬ ((a = 0 ∨ a = 1) ∧ 0 ≤ b ∧ b ≤ 3)) : Sd (rm 2 53 0 0) mX9_half [.ref 31, J a, J b] (W2 I N F K G) (W2 I N F K G) (some (J (-102))) := by
  unfold Sd
  unfold MR at hM
  refine sp_of (ls := [some (.ref 31), some (J a), some (J b)]) (by decide) (nle rfl) rfl rfl ?_
  refine v_iload_n (dec_of DX9_half 0 rfl) rfl ?_
  refine vi_const (dec_of DX9_half 1 rfl) ?_
  refine vi_const (dec_of DX9_half 2 rfl) ?_
  refine v_S3r (q_in (by omega) (by omega) (by omega)) lX9_126 (dec_of DX9_half 3 rfl) (by decide) (nle rfl) rfl ?_
  refine vi_if_eq (tgt := 18) (dec_of DX9_half 4 rfl) (by decide) (by first | omega | exact bnd_r _ _ | exact hG _ _ | exact hK _ | (simp (disch := decide) only [uN_s, uN_n]; omega)) (fun c6 => ?_) (fun c6 => ?_)
  · refine vi_bi (dec_of DX9_half 10 rfl) (by decide) ?_
    exact vi_ret (dec_of DX9_half 11 rfl) rfl ⟨by decide, by decide⟩ (⟨rfl, rfl⟩)
  · refine v_iload_n (dec_of DX9_half 5 rfl) rfl ?_
    refine vi_const (dec_of DX9_half 6 rfl) ?_
    refine vi_const (dec_of DX9_half 7 rfl) ?_
    refine v_S3r (q_in (by omega) (by omega) (by omega)) lX9_126 (dec_of DX9_half 8 rfl) (by decide) (nle rfl) rfl ?_
    refine vi_if_ne (tgt := 21) (dec_of DX9_half 9 rfl) (by decide) (by first | omega | exact bnd_r _ _ | exact hG _ _ | exact hK _ | (simp (disch := decide) only [uN_s, uN_n]; omega)) (fun c15 => ?_) (fun c15 => ?_)
    · exact absurd (show (a = 0 ∨ a = 1) ∧ 0 ≤ b ∧ b ≤ 3 by omega) h
    · refine vi_bi (dec_of DX9_half 10 rfl) (by decide) ?_
      exact vi_ret (dec_of DX9_half 11 rfl) rfl ⟨by decide, by decide⟩ (⟨rfl, rfl⟩)
set_option maxRecDepth 100000 in
set_option maxHeartbeats 4000000 in
theorem q_sung_out {I N : Nat → Int} {F : Nat → Int → Int} {K : Nat → Int} {G : Nat → Int → Int} (hG : FR G) (hK : IR K) (hM : MR K) {a k b : Int} (ha : -2147483648 ≤ a ∧ a < 2147483648) (hb : -2147483648 ≤ b ∧ b < 2147483648) (h : ¬ ((a = 0 ∨ a = 1) ∧ 0 ≤ b ∧ b ≤ 1)) : Sd (rm 2 53 0 0) mX9_sung [.ref 31, J a, J k, J b] (W2 I N F K G) (W2 I N F K G) (some (J (-102))) := by
  unfold Sd
  unfold MR at hM
  refine sp_of (ls := [some (.ref 31), some (J a), some (J k), some (J b)]) (by decide) (nle rfl) rfl rfl ?_
  refine v_iload_n (dec_of DX9_sung 0 rfl) rfl ?_
  refine vi_const (dec_of DX9_sung 1 rfl) ?_
  refine vi_const (dec_of DX9_sung 2 rfl) ?_
  refine v_S3r (q_in (by omega) (by omega) (by omega)) lX9_126 (dec_of DX9_sung 3 rfl) (by decide) (nle rfl) rfl ?_
  refine vi_if_eq (tgt := 18) (dec_of DX9_sung 4 rfl) (by decide) (by first | omega | exact bnd_r _ _ | exact hG _ _ | exact hK _ | (simp (disch := decide) only [uN_s, uN_n]; omega)) (fun c6 => ?_) (fun c6 => ?_)
  · refine vi_bi (dec_of DX9_sung 10 rfl) (by decide) ?_
    exact vi_ret (dec_of DX9_sung 11 rfl) rfl ⟨by decide, by decide⟩ (⟨rfl, rfl⟩)
  · refine v_iload_n (dec_of DX9_sung 5 rfl) rfl ?_
    refine vi_const (dec_of DX9_sung 6 rfl) ?_
    refine vi_const (dec_of DX9_sung 7 rfl) ?_
    refine v_S3r (q_in (by omega) (by omega) (by omega)) lX9_126 (dec_of DX9_sung 8 rfl) (by decide) (nle rfl) rfl ?_
    refine vi_if_ne (tgt := 21) (dec_of DX9_sung 9 rfl) (by decide) (by first | omega | exact bnd_r _ _ | exact hG _ _ | exact hK _ | (simp (disch := decide) only [uN_s, uN_n]; omega)) (fun c15 => ?_) (fun c15 => ?_)
    · exact absurd (show (a = 0 ∨ a = 1) ∧ 0 ≤ b ∧ b ≤ 1 by omega) h
    · refine vi_bi (dec_of DX9_sung 10 rfl) (by decide) ?_
      exact vi_ret (dec_of DX9_sung 11 rfl) rfl ⟨by decide, by decide⟩ (⟨rfl, rfl⟩)
def moN (K : Nat → Int) (l : List Int) : Nat → Int := uN K 55 (K 55 + l.length)
def moG (K : Nat → Int) (G : Nat → Int → Int) (l : List Int) : Nat → Int → Int := uN G 54 (wr (G 54) (K 55) l)
theorem mo2 {I N : Nat → Int} {F : Nat → Int → Int} {K : Nat → Int} {G : Nat → Int → Int} {a b : List Int} : W2 I N F (moN (moN K a) b) (moG (moN K a) (moG K G a) b) = W2 I N F (moN K (a ++ b)) (moG K G (a ++ b)) := by
  have e1 : moN (moN K a) b = moN K (a ++ b) := by
    unfold moN
    rw [uN_uu, uN_s, List.length_append]
    congr 1
    omega
  have e2 : moG (moN K a) (moG K G a) b = moG K G (a ++ b) := by
    unfold moG moN
    rw [uN_uu, uN_s, uN_s, wr_app]
  rw [e1, e2]
theorem mo_nil {I N : Nat → Int} {F : Nat → Int → Int} {K : Nat → Int} {G : Nat → Int → Int} : W2 I N F (moN K []) (moG K G []) = W2 I N F K G := by
  have e1 : moN K [] = K := by unfold moN; simp [uN_self]
  have e2 : moG K G [] = G := by unfold moG wr; exact uN_self
  rw [e1, e2]
theorem MRmo {K : Nat → Int} (h : MR K) {l : List Int} (hl : K 55 + (l.length : Int) ≤ 1700) : MR (moN K l) := by
  unfold MR moN at *
  simp (disch := decide) only [uN_s, uN_n]
  omega
theorem IRmo {K : Nat → Int} (h : IR K) (hM : MR K) {l : List Int} (hl : K 55 + (l.length : Int) ≤ 1700) : IR (moN K l) := h.up (by unfold MR at hM; omega)
theorem FRmo {K : Nat → Int} {G : Nat → Int → Int} (h : FR G) {l : List Int} (hl : ∀ a ∈ l, -2147483648 ≤ a ∧ a < 2147483648) : FR (moG K G l) := h.up (wr_r (h 54) hl)
theorem qw_tell {I N : Nat → Int} {F : Nat → Int → Int} {K : Nat → Int} {G : Nat → Int → Int} (hG : FR G) (hK : IR K) (hM : MR K) {a : Int} (h : K 55 + 1 ≤ 1700) : Sd (rm 0 0 0 0) mX9_tell [.ref 31, J a] (W2 I N F K G) (W2 I N F (moN K [a]) (moG K G [a])) none := q_tell hG hK hM (by omega)
set_option maxRecDepth 100000 in
set_option maxHeartbeats 4000000 in
theorem q_tellIf {I N : Nat → Int} {F : Nat → Int → Int} {K : Nat → Int} {G : Nat → Int → Int} (hG : FR G) (hK : IR K) (hM : MR K) {c m b : Int} (hlen : K 55 + ((wMk m c b).length : Int) ≤ 1700) (hr : ∀ a ∈ wMk m c b, -2147483648 ≤ a ∧ a < 2147483648) : Sd (rm 1 21 0 0) mX9_tellIf [.ref 31, J c, J m, J b] (W2 I N F K G) (W2 I N F (moN K (wMk m c b)) (moG K G (wMk m c b))) (none) := by
  unfold Sd
  unfold MR at hM
  refine sp_of (ls := [some (.ref 31), some (J c), some (J m), some (J b)]) (by decide) (nle rfl) rfl rfl ?_
  refine v_iload_n (dec_of DX9_tellIf 0 rfl) rfl ?_
  refine v_iload_n (dec_of DX9_tellIf 1 rfl) rfl ?_
  refine vi_and (dec_of DX9_tellIf 2 rfl) ?_
  refine vi_if_eq (tgt := 11) (dec_of DX9_tellIf 3 rfl) (by decide) (by first | omega | exact bnd_r _ _ | exact hG _ _ | exact hK _ | (simp (disch := decide) only [uN_s, uN_n]; omega)) (fun c3 => ?_) (fun c3 => ?_)
  · exact vi_vret (dec_of DX9_tellIf 7 rfl) rfl ⟨by decide, by decide⟩ (by first | exact ⟨rfl, rfl⟩ | (rw [wMk, if_pos c3]; exact ⟨by rw [mo_nil], rfl⟩))
  · rw [wMk, if_neg c3] at hlen ⊢
    simp only [List.length_cons, List.length_nil] at hlen
    refine v_aload_n (dec_of DX9_tellIf 4 rfl) rfl ?_
    refine v_iload_n (dec_of DX9_tellIf 5 rfl) rfl ?_
    refine v_V1v (qw_tell hG hK (by unfold MR; exact hM) (by omega)) lX9_269 (dec_of DX9_tellIf 6 rfl) rfl rfl (by decide) (nle rfl) rfl ?_
    exact vi_vret (dec_of DX9_tellIf 7 rfl) rfl ⟨by decide, by decide⟩ (by first | exact ⟨rfl, rfl⟩ | (rw [wMk, if_pos c3]; exact ⟨by rw [mo_nil], rfl⟩))
def ipL (G : Nat → Int → Int) (k : Int) : Nat → Int → Int
  | 0, _ => 0
  | m + 1, j => if G 11 j = 1 then (if G 19 (G 13 j) = G 19 (G 13 k) then 0 else 1) else if 4 ≤ G 11 j then 0 else ipL G k m (j + 1)
theorem ipL_r (G : Nat → Int → Int) (k : Int) : ∀ (m : Nat) (j : Int), ipL G k m j = 0 ∨ ipL G k m j = 1 := by
  intro m
  induction m with
  | zero => intro j; exact Or.inl rfl
  | succ m ih =>
    intro j
    unfold ipL
    split
    · split <;> omega
    · split
      · exact Or.inl rfl
      · exact ih _
/-- what a sign's cells are in the reference -/
def sgM (K : Nat → Int) (G : Nat → Int → Int) (j : Int) : Prop := G 11 j = 1 → 0 ≤ G 13 j ∧ G 13 j < 150
set_option maxRecDepth 100000 in
set_option maxHeartbeats 4000000 in
theorem q_ip_loop {I N : Nat → Int} {F : Nat → Int → Int} {K : Nat → Int} {G : Nat → Int → Int} (hG : FR G) (hK : IR K) (hM : MR K) {n0 : Nat} {Z : XW → Option Value → Prop} {k e : Int} (he : 0 ≤ e ∧ e ≤ 300) (hk : 0 ≤ k ∧ k < 300) (hs : ∀ j : Int, 0 ≤ j → j < e → sgM K G j) (hk2 : 0 ≤ G 13 k ∧ G 13 k < 150) : ∀ (m : Nat) (j : Int), (0 ≤ j ∧ j ≤ 1000) → (m = 0 → e ≤ j) → (0 < m → j + m = e) → Z (W2 I N F K G) (some (J (ipL G k m j))) → Vd (rm 0 0 0 0) [] mX9_isParted n0 Z 0 0 4 [some (.ref 31), some (J k), some (J e), some (J j)] [] (W2 I N F K G) := by
  unfold MR at hM
  intro m
  induction m with
  | zero =>
    intro j h0 h1 _ hz
    have h1 := h1 rfl
    refine v_iload_n (dec_of DX9_isParted 4 rfl) rfl ?_
    refine v_iload_n (dec_of DX9_isParted 5 rfl) rfl ?_
    refine vi_icmp_ge (tgt := 68) (dec_of DX9_isParted 6 rfl) (by decide) (by first | omega | exact bnd_r _ _ | exact hG _ _ | exact hK _ | (simp (disch := decide) only [uN_s, uN_n]; omega)) (by first | omega | exact bnd_r _ _ | exact hG _ _ | exact hK _ | (simp (disch := decide) only [uN_s, uN_n]; omega)) (fun c6 => ?_) (fun c6 => absurd c6 (by omega))
    refine vi_const (dec_of DX9_isParted 42 rfl) ?_
    exact vi_retz (dec_of DX9_isParted 43 rfl) rfl (by first | omega | exact bnd_r _ _ | exact hG _ _ | exact hK _ | (simp (disch := decide) only [uN_s, uN_n]; omega)) ⟨by decide, by decide⟩ (hz)
  | succ m ih =>
    intro j h0 _ h2 hz
    have h2 := h2 (by omega)
    have hsj := hs j (by omega) (by omega)
    rw [ipL] at hz
    by_cases k1 : G 11 j = 1
    · rw [if_pos k1] at hz
      have hsj := hsj k1
      by_cases k2 : G 19 (G 13 j) = G 19 (G 13 k)
      · rw [if_pos k2] at hz
        refine v_iload_n (dec_of DX9_isParted 4 rfl) rfl ?_
        refine v_iload_n (dec_of DX9_isParted 5 rfl) rfl ?_
        refine vi_icmp_ge (tgt := 68) (dec_of DX9_isParted 6 rfl) (by decide) (by first | omega | exact bnd_r _ _ | exact hG _ _ | exact hK _ | (simp (disch := decide) only [uN_s, uN_n]; omega)) (by first | omega | exact bnd_r _ _ | exact hG _ _ | exact hK _ | (simp (disch := decide) only [uN_s, uN_n]; omega)) (fun c6 => absurd c6 (by omega)) (fun c6 => ?_)
        refine v_aload_n (dec_of DX9_isParted 7 rfl) rfl ?_
        refine v_get fX9_34 (dec_of DX9_isParted 8 rfl) rfl rfl ?_
        refine v_iload_n (dec_of DX9_isParted 9 rfl) rfl ?_
        refine vi_aload (dec_of DX9_isParted 10 rfl) rfl (by first | omega | exact bnd_r _ _ | exact hG _ _ | exact hK _ | (simp (disch := decide) only [uN_s, uN_n]; omega)) (by decide) ?_
        refine vi_const (dec_of DX9_isParted 11 rfl) ?_
        refine vi_icmp_ne (tgt := 50) (dec_of DX9_isParted 12 rfl) (by decide) (by first | omega | exact bnd_r _ _ | exact hG _ _ | exact hK _ | (simp (disch := decide) only [uN_s, uN_n]; omega)) (by first | omega | exact bnd_r _ _ | exact hG _ _ | exact hK _ | (simp (disch := decide) only [uN_s, uN_n]; omega)) (fun c16 => absurd c16 (by omega)) (fun c16 => ?_)
        refine v_aload_n (dec_of DX9_isParted 13 rfl) rfl ?_
        refine v_get fX9_52 (dec_of DX9_isParted 14 rfl) rfl rfl ?_
        refine v_aload_n (dec_of DX9_isParted 15 rfl) rfl ?_
        refine v_get fX9_40 (dec_of DX9_isParted 16 rfl) rfl rfl ?_
        refine v_iload_n (dec_of DX9_isParted 17 rfl) rfl ?_
        refine vi_aload (dec_of DX9_isParted 18 rfl) rfl (by first | omega | exact bnd_r _ _ | exact hG _ _ | exact hK _ | (simp (disch := decide) only [uN_s, uN_n]; omega)) (by decide) ?_
        refine vi_aload (dec_of DX9_isParted 19 rfl) rfl (by first | omega | exact bnd_r _ _ | exact hG _ _ | exact hK _ | (simp (disch := decide) only [uN_s, uN_n]; omega)) (by decide) ?_
        refine v_aload_n (dec_of DX9_isParted 20 rfl) rfl ?_
        refine v_get fX9_52 (dec_of DX9_isParted 21 rfl) rfl rfl ?_
        refine v_aload_n (dec_of DX9_isParted 22 rfl) rfl ?_
        refine v_get fX9_40 (dec_of DX9_isParted 23 rfl) rfl rfl ?_
        refine v_iload_n (dec_of DX9_isParted 24 rfl) rfl ?_
        refine vi_aload (dec_of DX9_isParted 25 rfl) rfl (by first | omega | exact bnd_r _ _ | exact hG _ _ | exact hK _ | (simp (disch := decide) only [uN_s, uN_n]; omega)) (by decide) ?_
        refine vi_aload (dec_of DX9_isParted 26 rfl) rfl (by first | omega | exact bnd_r _ _ | exact hG _ _ | exact hK _ | (simp (disch := decide) only [uN_s, uN_n]; omega)) (by decide) ?_
        refine vi_icmp_eq (tgt := 48) (dec_of DX9_isParted 27 rfl) (by decide) (by first | omega | exact bnd_r _ _ | exact hG _ _ | exact hK _ | (simp (disch := decide) only [uN_s, uN_n]; omega)) (by first | omega | exact bnd_r _ _ | exact hG _ _ | exact hK _ | (simp (disch := decide) only [uN_s, uN_n]; omega)) (fun c41 => ?_) (fun c41 => absurd c41 (by omega))
        refine vi_const (dec_of DX9_isParted 30 rfl) ?_
        exact vi_retz (dec_of DX9_isParted 31 rfl) rfl (by first | omega | exact bnd_r _ _ | exact hG _ _ | exact hK _ | (simp (disch := decide) only [uN_s, uN_n]; omega)) ⟨by decide, by decide⟩ (hz)
      · rw [if_neg k2] at hz
        refine v_iload_n (dec_of DX9_isParted 4 rfl) rfl ?_
        refine v_iload_n (dec_of DX9_isParted 5 rfl) rfl ?_
        refine vi_icmp_ge (tgt := 68) (dec_of DX9_isParted 6 rfl) (by decide) (by first | omega | exact bnd_r _ _ | exact hG _ _ | exact hK _ | (simp (disch := decide) only [uN_s, uN_n]; omega)) (by first | omega | exact bnd_r _ _ | exact hG _ _ | exact hK _ | (simp (disch := decide) only [uN_s, uN_n]; omega)) (fun c6 => absurd c6 (by omega)) (fun c6 => ?_)
        refine v_aload_n (dec_of DX9_isParted 7 rfl) rfl ?_
        refine v_get fX9_34 (dec_of DX9_isParted 8 rfl) rfl rfl ?_
        refine v_iload_n (dec_of DX9_isParted 9 rfl) rfl ?_
        refine vi_aload (dec_of DX9_isParted 10 rfl) rfl (by first | omega | exact bnd_r _ _ | exact hG _ _ | exact hK _ | (simp (disch := decide) only [uN_s, uN_n]; omega)) (by decide) ?_
        refine vi_const (dec_of DX9_isParted 11 rfl) ?_
        refine vi_icmp_ne (tgt := 50) (dec_of DX9_isParted 12 rfl) (by decide) (by first | omega | exact bnd_r _ _ | exact hG _ _ | exact hK _ | (simp (disch := decide) only [uN_s, uN_n]; omega)) (by first | omega | exact bnd_r _ _ | exact hG _ _ | exact hK _ | (simp (disch := decide) only [uN_s, uN_n]; omega)) (fun c16 => absurd c16 (by omega)) (fun c16 => ?_)
        refine v_aload_n (dec_of DX9_isParted 13 rfl) rfl ?_
        refine v_get fX9_52 (dec_of DX9_isParted 14 rfl) rfl rfl ?_
        refine v_aload_n (dec_of DX9_isParted 15 rfl) rfl ?_
        refine v_get fX9_40 (dec_of DX9_isParted 16 rfl) rfl rfl ?_
        refine v_iload_n (dec_of DX9_isParted 17 rfl) rfl ?_
        refine vi_aload (dec_of DX9_isParted 18 rfl) rfl (by first | omega | exact bnd_r _ _ | exact hG _ _ | exact hK _ | (simp (disch := decide) only [uN_s, uN_n]; omega)) (by decide) ?_
        refine vi_aload (dec_of DX9_isParted 19 rfl) rfl (by first | omega | exact bnd_r _ _ | exact hG _ _ | exact hK _ | (simp (disch := decide) only [uN_s, uN_n]; omega)) (by decide) ?_
        refine v_aload_n (dec_of DX9_isParted 20 rfl) rfl ?_
        refine v_get fX9_52 (dec_of DX9_isParted 21 rfl) rfl rfl ?_
        refine v_aload_n (dec_of DX9_isParted 22 rfl) rfl ?_
        refine v_get fX9_40 (dec_of DX9_isParted 23 rfl) rfl rfl ?_
        refine v_iload_n (dec_of DX9_isParted 24 rfl) rfl ?_
        refine vi_aload (dec_of DX9_isParted 25 rfl) rfl (by first | omega | exact bnd_r _ _ | exact hG _ _ | exact hK _ | (simp (disch := decide) only [uN_s, uN_n]; omega)) (by decide) ?_
        refine vi_aload (dec_of DX9_isParted 26 rfl) rfl (by first | omega | exact bnd_r _ _ | exact hG _ _ | exact hK _ | (simp (disch := decide) only [uN_s, uN_n]; omega)) (by decide) ?_
        refine vi_icmp_eq (tgt := 48) (dec_of DX9_isParted 27 rfl) (by decide) (by first | omega | exact bnd_r _ _ | exact hG _ _ | exact hK _ | (simp (disch := decide) only [uN_s, uN_n]; omega)) (by first | omega | exact bnd_r _ _ | exact hG _ _ | exact hK _ | (simp (disch := decide) only [uN_s, uN_n]; omega)) (fun c41 => absurd c41 (by omega)) (fun c41 => ?_)
        refine vi_const (dec_of DX9_isParted 28 rfl) ?_
        refine v_goto (tgt := 49) (dec_of DX9_isParted 29 rfl) (by decide) ?_
        exact vi_retz (dec_of DX9_isParted 31 rfl) rfl (by first | omega | exact bnd_r _ _ | exact hG _ _ | exact hK _ | (simp (disch := decide) only [uN_s, uN_n]; omega)) ⟨by decide, by decide⟩ (hz)
    · rw [if_neg k1] at hz
      by_cases k4 : 4 ≤ G 11 j
      · rw [if_pos k4] at hz
        refine v_iload_n (dec_of DX9_isParted 4 rfl) rfl ?_
        refine v_iload_n (dec_of DX9_isParted 5 rfl) rfl ?_
        refine vi_icmp_ge (tgt := 68) (dec_of DX9_isParted 6 rfl) (by decide) (by first | omega | exact bnd_r _ _ | exact hG _ _ | exact hK _ | (simp (disch := decide) only [uN_s, uN_n]; omega)) (by first | omega | exact bnd_r _ _ | exact hG _ _ | exact hK _ | (simp (disch := decide) only [uN_s, uN_n]; omega)) (fun c6 => absurd c6 (by omega)) (fun c6 => ?_)
        refine v_aload_n (dec_of DX9_isParted 7 rfl) rfl ?_
        refine v_get fX9_34 (dec_of DX9_isParted 8 rfl) rfl rfl ?_
        refine v_iload_n (dec_of DX9_isParted 9 rfl) rfl ?_
        refine vi_aload (dec_of DX9_isParted 10 rfl) rfl (by first | omega | exact bnd_r _ _ | exact hG _ _ | exact hK _ | (simp (disch := decide) only [uN_s, uN_n]; omega)) (by decide) ?_
        refine vi_const (dec_of DX9_isParted 11 rfl) ?_
        refine vi_icmp_ne (tgt := 50) (dec_of DX9_isParted 12 rfl) (by decide) (by first | omega | exact bnd_r _ _ | exact hG _ _ | exact hK _ | (simp (disch := decide) only [uN_s, uN_n]; omega)) (by first | omega | exact bnd_r _ _ | exact hG _ _ | exact hK _ | (simp (disch := decide) only [uN_s, uN_n]; omega)) (fun c16 => ?_) (fun c16 => absurd c16 (by omega))
        refine v_aload_n (dec_of DX9_isParted 32 rfl) rfl ?_
        refine v_get fX9_34 (dec_of DX9_isParted 33 rfl) rfl rfl ?_
        refine v_iload_n (dec_of DX9_isParted 34 rfl) rfl ?_
        refine vi_aload (dec_of DX9_isParted 35 rfl) rfl (by first | omega | exact bnd_r _ _ | exact hG _ _ | exact hK _ | (simp (disch := decide) only [uN_s, uN_n]; omega)) (by decide) ?_
        refine vi_const (dec_of DX9_isParted 36 rfl) ?_
        refine vi_icmp_lt (tgt := 62) (dec_of DX9_isParted 37 rfl) (by decide) (by first | omega | exact bnd_r _ _ | exact hG _ _ | exact hK _ | (simp (disch := decide) only [uN_s, uN_n]; omega)) (by first | omega | exact bnd_r _ _ | exact hG _ _ | exact hK _ | (simp (disch := decide) only [uN_s, uN_n]; omega)) (fun c57 => absurd c57 (by omega)) (fun c57 => ?_)
        refine vi_const (dec_of DX9_isParted 38 rfl) ?_
        exact vi_retz (dec_of DX9_isParted 39 rfl) rfl (by first | omega | exact bnd_r _ _ | exact hG _ _ | exact hK _ | (simp (disch := decide) only [uN_s, uN_n]; omega)) ⟨by decide, by decide⟩ (hz)
      · rw [if_neg k4] at hz
        refine v_iload_n (dec_of DX9_isParted 4 rfl) rfl ?_
        refine v_iload_n (dec_of DX9_isParted 5 rfl) rfl ?_
        refine vi_icmp_ge (tgt := 68) (dec_of DX9_isParted 6 rfl) (by decide) (by first | omega | exact bnd_r _ _ | exact hG _ _ | exact hK _ | (simp (disch := decide) only [uN_s, uN_n]; omega)) (by first | omega | exact bnd_r _ _ | exact hG _ _ | exact hK _ | (simp (disch := decide) only [uN_s, uN_n]; omega)) (fun c6 => absurd c6 (by omega)) (fun c6 => ?_)
        refine v_aload_n (dec_of DX9_isParted 7 rfl) rfl ?_
        refine v_get fX9_34 (dec_of DX9_isParted 8 rfl) rfl rfl ?_
        refine v_iload_n (dec_of DX9_isParted 9 rfl) rfl ?_
        refine vi_aload (dec_of DX9_isParted 10 rfl) rfl (by first | omega | exact bnd_r _ _ | exact hG _ _ | exact hK _ | (simp (disch := decide) only [uN_s, uN_n]; omega)) (by decide) ?_
        refine vi_const (dec_of DX9_isParted 11 rfl) ?_
        refine vi_icmp_ne (tgt := 50) (dec_of DX9_isParted 12 rfl) (by decide) (by first | omega | exact bnd_r _ _ | exact hG _ _ | exact hK _ | (simp (disch := decide) only [uN_s, uN_n]; omega)) (by first | omega | exact bnd_r _ _ | exact hG _ _ | exact hK _ | (simp (disch := decide) only [uN_s, uN_n]; omega)) (fun c16 => ?_) (fun c16 => absurd c16 (by omega))
        refine v_aload_n (dec_of DX9_isParted 32 rfl) rfl ?_
        refine v_get fX9_34 (dec_of DX9_isParted 33 rfl) rfl rfl ?_
        refine v_iload_n (dec_of DX9_isParted 34 rfl) rfl ?_
        refine vi_aload (dec_of DX9_isParted 35 rfl) rfl (by first | omega | exact bnd_r _ _ | exact hG _ _ | exact hK _ | (simp (disch := decide) only [uN_s, uN_n]; omega)) (by decide) ?_
        refine vi_const (dec_of DX9_isParted 36 rfl) ?_
        refine vi_icmp_lt (tgt := 62) (dec_of DX9_isParted 37 rfl) (by decide) (by first | omega | exact bnd_r _ _ | exact hG _ _ | exact hK _ | (simp (disch := decide) only [uN_s, uN_n]; omega)) (by first | omega | exact bnd_r _ _ | exact hG _ _ | exact hK _ | (simp (disch := decide) only [uN_s, uN_n]; omega)) (fun c57 => ?_) (fun c57 => absurd c57 (by omega))
        refine vi_inc (dec_of DX9_isParted 40 rfl) rfl (by decide) ?_
        dsimp only [List.set]
        refine v_goto (tgt := 4) (dec_of DX9_isParted 41 rfl) (by decide) ?_
        exact ih (j + 1) (by omega) (by omega) (by omega) hz
set_option maxRecDepth 100000 in
set_option maxHeartbeats 4000000 in
theorem q_ip {I N : Nat → Int} {F : Nat → Int → Int} {K : Nat → Int} {G : Nat → Int → Int} (hG : FR G) (hK : IR K) (hM : MR K) {k e : Int} (he : 0 ≤ e ∧ e ≤ 300) (hk : 0 ≤ k ∧ k < 300) (hs : ∀ j : Int, 0 ≤ j → j < e → sgM K G j) (hk2 : 0 ≤ G 13 k ∧ G 13 k < 150) : Sd (rm 0 0 0 0) mX9_isParted [.ref 31, J k, J e] (W2 I N F K G) (W2 I N F K G) (some (J (ipL G k (e - (k + 1)).toNat (k + 1)))) := by
  unfold Sd
  unfold MR at hM
  refine sp_of (ls := [some (.ref 31), some (J k), some (J e), none]) (by decide) (nle rfl) rfl rfl ?_
  refine v_iload_n (dec_of DX9_isParted 0 rfl) rfl ?_
  refine vi_const (dec_of DX9_isParted 1 rfl) ?_
  refine vi_add (dec_of DX9_isParted 2 rfl) ?_
  refine v_istore_n (dec_of DX9_isParted 3 rfl) (by decide) ?_
  dsimp only [List.set]
  exact q_ip_loop hG hK (by unfold MR; exact hM) he hk hs hk2 (e - (k + 1)).toNat (k + 1) (by omega) (by omega) (by omega) ⟨rfl, rfl⟩
