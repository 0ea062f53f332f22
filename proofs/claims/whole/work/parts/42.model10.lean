/-! the reference: begin, put, readHeight (printed by wip/tools/gen_m10.py) -/
set_option maxRecDepth 100000 in
set_option maxHeartbeats 4000000 in
theorem q_bg_full {I N : Nat → Int} {F : Nat → Int → Int} {K : Nat → Int} {G : Nat → Int → Int} (hv : Iv K G) {a : Int} (h3 : K 3 = 60) (h26 : K 26 = 0) : Sd (rm 1 22 0 0) mX9_beginSyllable [.ref 31, J a] (W2 I N F K G) (W2 I N F (wrK K 2) G) (none) := by
  unfold Sd
  obtain ⟨hP, hK, hG, hB, hL⟩ := hv
  have hM := hP.1
  have hM0 := hM
  unfold MR at hM
  obtain ⟨_, p23, p24, p25, p10, p29, p14, p20, p60, p61, p62, p63, p64, p26, p3, p15⟩ := hP
  refine sp_of (ls := [some (.ref 31), some (J a)]) (by decide) (nle rfl) rfl rfl ?_
  refine v_aload_n (dec_of DX9_beginSyllable 0 rfl) rfl ?_
  refine v_get fX9_133 (dec_of DX9_beginSyllable 1 rfl) rfl rfl ?_
  refine vi_bi (dec_of DX9_beginSyllable 2 rfl) (by decide) ?_
  refine vi_icmp_ne (tgt := 19) (dec_of DX9_beginSyllable 3 rfl) (by decide) (by first | omega | exact bnd_r _ _ | exact hG _ _ | exact hK _ | (simp (disch := decide) only [uN_s, uN_n]; omega)) (by first | omega | exact bnd_r _ _ | exact hG _ _ | exact hK _ | (simp (disch := decide) only [uN_s, uN_n]; omega)) (fun c6 => absurd c6 (by omega)) (fun c6 => ?_)
  refine v_aload_n (dec_of DX9_beginSyllable 4 rfl) rfl ?_
  refine vi_const (dec_of DX9_beginSyllable 5 rfl) ?_
  refine v_aload_n (dec_of DX9_beginSyllable 6 rfl) rfl ?_
  refine v_get fX9_169 (dec_of DX9_beginSyllable 7 rfl) rfl rfl ?_
  refine v_V2v (q_wrong0 hG hK hM0 h26) lX9_172 (dec_of DX9_beginSyllable 8 rfl) rfl rfl (by decide) (nle rfl) rfl ?_
  exact vi_vret (dec_of DX9_beginSyllable 9 rfl) rfl ⟨by decide, by decide⟩ (⟨rfl, rfl⟩)
set_option maxRecDepth 100000 in
set_option maxHeartbeats 4000000 in
theorem q_bg {I N : Nat → Int} {F : Nat → Int → Int} {K : Nat → Int} {G : Nat → Int → Int} (hv : Iv K G) (h3 : ¬ K 3 = 60) : Sd (rm 1 22 0 0) mX9_beginSyllable [.ref 31, J (K 62)] (W2 I N F K G) (W2 I N F (bgK K) (bgG K G)) (none) := by
  unfold Sd
  obtain ⟨hP, hK, hG, hB, hL⟩ := hv
  have hM := hP.1
  have hM0 := hM
  unfold MR at hM
  obtain ⟨_, p23, p24, p25, p10, p29, p14, p20, p60, p61, p62, p63, p64, p26, p3, p15⟩ := hP
  refine sp_of (ls := [some (.ref 31), some (J (K 62))]) (by decide) (nle rfl) rfl rfl ?_
  refine v_aload_n (dec_of DX9_beginSyllable 0 rfl) rfl ?_
  refine v_get fX9_133 (dec_of DX9_beginSyllable 1 rfl) rfl rfl ?_
  try simp (disch := decide) only [uN_s, uN_n]
  refine vi_bi (dec_of DX9_beginSyllable 2 rfl) (by decide) ?_
  refine vi_icmp_ne (tgt := 19) (dec_of DX9_beginSyllable 3 rfl) (by decide) (by first | omega | exact bnd_r _ _ | exact hG _ _ | exact hK _ | (simp (disch := decide) only [uN_s, uN_n]; omega)) (by first | omega | exact bnd_r _ _ | exact hG _ _ | exact hK _ | (simp (disch := decide) only [uN_s, uN_n]; omega)) (fun c6 => ?_) (fun c6 => absurd c6 (by omega))
  refine v_aload_n (dec_of DX9_beginSyllable 10 rfl) rfl ?_
  refine v_dup (dec_of DX9_beginSyllable 11 rfl) rfl ?_
  refine v_get fX9_139 (dec_of DX9_beginSyllable 12 rfl) rfl rfl ?_
  try simp (disch := decide) only [uN_s, uN_n]
  refine v_iload_n (dec_of DX9_beginSyllable 13 rfl) rfl ?_
  refine vi_if_eq (tgt := 32) (dec_of DX9_beginSyllable 14 rfl) (by decide) (by first | omega | exact bnd_r _ _ | exact hG _ _ | exact hK _ | (simp (disch := decide) only [uN_s, uN_n]; omega)) (fun c25 => ?_) (fun c25 => ?_)
  · refine vi_const (dec_of DX9_beginSyllable 17 rfl) ?_
    refine vi_add (dec_of DX9_beginSyllable 18 rfl) ?_
    first | rw [show K 14 + 1 = K 14 + K 62 by omega] | rw [show K 14 + 0 = K 14 + K 62 by omega]
    refine mp_14 fX9_139 (dec_of DX9_beginSyllable 19 rfl) ?_
    refine v_aload_n (dec_of DX9_beginSyllable 20 rfl) rfl ?_
    refine v_get fX9_28 (dec_of DX9_beginSyllable 21 rfl) rfl rfl ?_
    try simp (disch := decide) only [uN_s, uN_n]
    refine v_aload_n (dec_of DX9_beginSyllable 22 rfl) rfl ?_
    refine v_get fX9_133 (dec_of DX9_beginSyllable 23 rfl) rfl rfl ?_
    try simp (disch := decide) only [uN_s, uN_n]
    refine v_aload_n (dec_of DX9_beginSyllable 24 rfl) rfl ?_
    refine v_get fX9_139 (dec_of DX9_beginSyllable 25 rfl) rfl rfl ?_
    try simp (disch := decide) only [uN_s, uN_n]
    refine vi_const (dec_of DX9_beginSyllable 26 rfl) ?_
    refine vi_sub (dec_of DX9_beginSyllable 27 rfl) ?_
    refine ms_8 (dec_of DX9_beginSyllable 28 rfl) (by first | omega | exact bnd_r _ _ | exact hG _ _ | exact hK _ | (simp (disch := decide) only [uN_s, uN_n]; omega)) ?_
    refine v_aload_n (dec_of DX9_beginSyllable 29 rfl) rfl ?_
    refine v_get fX9_16 (dec_of DX9_beginSyllable 30 rfl) rfl rfl ?_
    try simp (disch := decide) only [uN_s, uN_n]
    refine v_aload_n (dec_of DX9_beginSyllable 31 rfl) rfl ?_
    refine v_get fX9_133 (dec_of DX9_beginSyllable 32 rfl) rfl rfl ?_
    try simp (disch := decide) only [uN_s, uN_n]
    refine v_aload_n (dec_of DX9_beginSyllable 33 rfl) rfl ?_
    refine v_get fX9_169 (dec_of DX9_beginSyllable 34 rfl) rfl rfl ?_
    try simp (disch := decide) only [uN_s, uN_n]
    refine ms_4 (dec_of DX9_beginSyllable 35 rfl) (by first | omega | exact bnd_r _ _ | exact hG _ _ | exact hK _ | (simp (disch := decide) only [uN_s, uN_n]; omega)) ?_
    refine v_aload_n (dec_of DX9_beginSyllable 36 rfl) rfl ?_
    refine v_get fX9_19 (dec_of DX9_beginSyllable 37 rfl) rfl rfl ?_
    try simp (disch := decide) only [uN_s, uN_n]
    refine v_aload_n (dec_of DX9_beginSyllable 38 rfl) rfl ?_
    refine v_get fX9_133 (dec_of DX9_beginSyllable 39 rfl) rfl rfl ?_
    try simp (disch := decide) only [uN_s, uN_n]
    refine vi_const (dec_of DX9_beginSyllable 40 rfl) ?_
    refine ms_5 (dec_of DX9_beginSyllable 41 rfl) (by first | omega | exact bnd_r _ _ | exact hG _ _ | exact hK _ | (simp (disch := decide) only [uN_s, uN_n]; omega)) ?_
    refine v_aload_n (dec_of DX9_beginSyllable 42 rfl) rfl ?_
    refine v_get fX9_22 (dec_of DX9_beginSyllable 43 rfl) rfl rfl ?_
    try simp (disch := decide) only [uN_s, uN_n]
    refine v_aload_n (dec_of DX9_beginSyllable 44 rfl) rfl ?_
    refine v_get fX9_133 (dec_of DX9_beginSyllable 45 rfl) rfl rfl ?_
    try simp (disch := decide) only [uN_s, uN_n]
    refine vi_const (dec_of DX9_beginSyllable 46 rfl) ?_
    refine ms_6 (dec_of DX9_beginSyllable 47 rfl) (by first | omega | exact bnd_r _ _ | exact hG _ _ | exact hK _ | (simp (disch := decide) only [uN_s, uN_n]; omega)) ?_
    refine v_aload_n (dec_of DX9_beginSyllable 48 rfl) rfl ?_
    refine v_get fX9_25 (dec_of DX9_beginSyllable 49 rfl) rfl rfl ?_
    try simp (disch := decide) only [uN_s, uN_n]
    refine v_aload_n (dec_of DX9_beginSyllable 50 rfl) rfl ?_
    refine v_get fX9_133 (dec_of DX9_beginSyllable 51 rfl) rfl rfl ?_
    try simp (disch := decide) only [uN_s, uN_n]
    refine vi_const (dec_of DX9_beginSyllable 52 rfl) ?_
    refine ms_7 (dec_of DX9_beginSyllable 53 rfl) (by first | omega | exact bnd_r _ _ | exact hG _ _ | exact hK _ | (simp (disch := decide) only [uN_s, uN_n]; omega)) ?_
    refine v_aload_n (dec_of DX9_beginSyllable 54 rfl) rfl ?_
    refine v_get fX9_31 (dec_of DX9_beginSyllable 55 rfl) rfl rfl ?_
    try simp (disch := decide) only [uN_s, uN_n]
    refine v_aload_n (dec_of DX9_beginSyllable 56 rfl) rfl ?_
    refine v_get fX9_133 (dec_of DX9_beginSyllable 57 rfl) rfl rfl ?_
    try simp (disch := decide) only [uN_s, uN_n]
    refine v_aload_n (dec_of DX9_beginSyllable 58 rfl) rfl ?_
    refine v_get fX9_136 (dec_of DX9_beginSyllable 59 rfl) rfl rfl ?_
    try simp (disch := decide) only [uN_s, uN_n]
    refine ms_9 (dec_of DX9_beginSyllable 60 rfl) (by first | omega | exact bnd_r _ _ | exact hG _ _ | exact hK _ | (simp (disch := decide) only [uN_s, uN_n]; omega)) ?_
    refine v_aload_n (dec_of DX9_beginSyllable 61 rfl) rfl ?_
    refine v_dup (dec_of DX9_beginSyllable 62 rfl) rfl ?_
    refine v_get fX9_133 (dec_of DX9_beginSyllable 63 rfl) rfl rfl ?_
    try simp (disch := decide) only [uN_s, uN_n]
    refine vi_const (dec_of DX9_beginSyllable 64 rfl) ?_
    refine vi_add (dec_of DX9_beginSyllable 65 rfl) ?_
    refine mp_3 fX9_133 (dec_of DX9_beginSyllable 66 rfl) ?_
    refine v_aload_n (dec_of DX9_beginSyllable 67 rfl) rfl ?_
    refine v_get fX9_31 (dec_of DX9_beginSyllable 68 rfl) rfl rfl ?_
    try simp (disch := decide) only [uN_s, uN_n]
    refine v_aload_n (dec_of DX9_beginSyllable 69 rfl) rfl ?_
    refine v_get fX9_133 (dec_of DX9_beginSyllable 70 rfl) rfl rfl ?_
    try simp (disch := decide) only [uN_s, uN_n]
    refine v_aload_n (dec_of DX9_beginSyllable 71 rfl) rfl ?_
    refine v_get fX9_136 (dec_of DX9_beginSyllable 72 rfl) rfl rfl ?_
    try simp (disch := decide) only [uN_s, uN_n]
    refine ms_9 (dec_of DX9_beginSyllable 73 rfl) (by first | omega | exact bnd_r _ _ | exact hG _ _ | exact hK _ | (simp (disch := decide) only [uN_s, uN_n]; omega)) ?_
    exact vi_vret (dec_of DX9_beginSyllable 74 rfl) rfl ⟨by decide, by decide⟩ (⟨rfl, rfl⟩)
  · refine vi_const (dec_of DX9_beginSyllable 15 rfl) ?_
    refine v_goto (tgt := 33) (dec_of DX9_beginSyllable 16 rfl) (by decide) ?_
    refine vi_add (dec_of DX9_beginSyllable 18 rfl) ?_
    first | rw [show K 14 + 1 = K 14 + K 62 by omega] | rw [show K 14 + 0 = K 14 + K 62 by omega]
    refine mp_14 fX9_139 (dec_of DX9_beginSyllable 19 rfl) ?_
    refine v_aload_n (dec_of DX9_beginSyllable 20 rfl) rfl ?_
    refine v_get fX9_28 (dec_of DX9_beginSyllable 21 rfl) rfl rfl ?_
    try simp (disch := decide) only [uN_s, uN_n]
    refine v_aload_n (dec_of DX9_beginSyllable 22 rfl) rfl ?_
    refine v_get fX9_133 (dec_of DX9_beginSyllable 23 rfl) rfl rfl ?_
    try simp (disch := decide) only [uN_s, uN_n]
    refine v_aload_n (dec_of DX9_beginSyllable 24 rfl) rfl ?_
    refine v_get fX9_139 (dec_of DX9_beginSyllable 25 rfl) rfl rfl ?_
    try simp (disch := decide) only [uN_s, uN_n]
    refine vi_const (dec_of DX9_beginSyllable 26 rfl) ?_
    refine vi_sub (dec_of DX9_beginSyllable 27 rfl) ?_
    refine ms_8 (dec_of DX9_beginSyllable 28 rfl) (by first | omega | exact bnd_r _ _ | exact hG _ _ | exact hK _ | (simp (disch := decide) only [uN_s, uN_n]; omega)) ?_
    refine v_aload_n (dec_of DX9_beginSyllable 29 rfl) rfl ?_
    refine v_get fX9_16 (dec_of DX9_beginSyllable 30 rfl) rfl rfl ?_
    try simp (disch := decide) only [uN_s, uN_n]
    refine v_aload_n (dec_of DX9_beginSyllable 31 rfl) rfl ?_
    refine v_get fX9_133 (dec_of DX9_beginSyllable 32 rfl) rfl rfl ?_
    try simp (disch := decide) only [uN_s, uN_n]
    refine v_aload_n (dec_of DX9_beginSyllable 33 rfl) rfl ?_
    refine v_get fX9_169 (dec_of DX9_beginSyllable 34 rfl) rfl rfl ?_
    try simp (disch := decide) only [uN_s, uN_n]
    refine ms_4 (dec_of DX9_beginSyllable 35 rfl) (by first | omega | exact bnd_r _ _ | exact hG _ _ | exact hK _ | (simp (disch := decide) only [uN_s, uN_n]; omega)) ?_
    refine v_aload_n (dec_of DX9_beginSyllable 36 rfl) rfl ?_
    refine v_get fX9_19 (dec_of DX9_beginSyllable 37 rfl) rfl rfl ?_
    try simp (disch := decide) only [uN_s, uN_n]
    refine v_aload_n (dec_of DX9_beginSyllable 38 rfl) rfl ?_
    refine v_get fX9_133 (dec_of DX9_beginSyllable 39 rfl) rfl rfl ?_
    try simp (disch := decide) only [uN_s, uN_n]
    refine vi_const (dec_of DX9_beginSyllable 40 rfl) ?_
    refine ms_5 (dec_of DX9_beginSyllable 41 rfl) (by first | omega | exact bnd_r _ _ | exact hG _ _ | exact hK _ | (simp (disch := decide) only [uN_s, uN_n]; omega)) ?_
    refine v_aload_n (dec_of DX9_beginSyllable 42 rfl) rfl ?_
    refine v_get fX9_22 (dec_of DX9_beginSyllable 43 rfl) rfl rfl ?_
    try simp (disch := decide) only [uN_s, uN_n]
    refine v_aload_n (dec_of DX9_beginSyllable 44 rfl) rfl ?_
    refine v_get fX9_133 (dec_of DX9_beginSyllable 45 rfl) rfl rfl ?_
    try simp (disch := decide) only [uN_s, uN_n]
    refine vi_const (dec_of DX9_beginSyllable 46 rfl) ?_
    refine ms_6 (dec_of DX9_beginSyllable 47 rfl) (by first | omega | exact bnd_r _ _ | exact hG _ _ | exact hK _ | (simp (disch := decide) only [uN_s, uN_n]; omega)) ?_
    refine v_aload_n (dec_of DX9_beginSyllable 48 rfl) rfl ?_
    refine v_get fX9_25 (dec_of DX9_beginSyllable 49 rfl) rfl rfl ?_
    try simp (disch := decide) only [uN_s, uN_n]
    refine v_aload_n (dec_of DX9_beginSyllable 50 rfl) rfl ?_
    refine v_get fX9_133 (dec_of DX9_beginSyllable 51 rfl) rfl rfl ?_
    try simp (disch := decide) only [uN_s, uN_n]
    refine vi_const (dec_of DX9_beginSyllable 52 rfl) ?_
    refine ms_7 (dec_of DX9_beginSyllable 53 rfl) (by first | omega | exact bnd_r _ _ | exact hG _ _ | exact hK _ | (simp (disch := decide) only [uN_s, uN_n]; omega)) ?_
    refine v_aload_n (dec_of DX9_beginSyllable 54 rfl) rfl ?_
    refine v_get fX9_31 (dec_of DX9_beginSyllable 55 rfl) rfl rfl ?_
    try simp (disch := decide) only [uN_s, uN_n]
    refine v_aload_n (dec_of DX9_beginSyllable 56 rfl) rfl ?_
    refine v_get fX9_133 (dec_of DX9_beginSyllable 57 rfl) rfl rfl ?_
    try simp (disch := decide) only [uN_s, uN_n]
    refine v_aload_n (dec_of DX9_beginSyllable 58 rfl) rfl ?_
    refine v_get fX9_136 (dec_of DX9_beginSyllable 59 rfl) rfl rfl ?_
    try simp (disch := decide) only [uN_s, uN_n]
    refine ms_9 (dec_of DX9_beginSyllable 60 rfl) (by first | omega | exact bnd_r _ _ | exact hG _ _ | exact hK _ | (simp (disch := decide) only [uN_s, uN_n]; omega)) ?_
    refine v_aload_n (dec_of DX9_beginSyllable 61 rfl) rfl ?_
    refine v_dup (dec_of DX9_beginSyllable 62 rfl) rfl ?_
    refine v_get fX9_133 (dec_of DX9_beginSyllable 63 rfl) rfl rfl ?_
    try simp (disch := decide) only [uN_s, uN_n]
    refine vi_const (dec_of DX9_beginSyllable 64 rfl) ?_
    refine vi_add (dec_of DX9_beginSyllable 65 rfl) ?_
    refine mp_3 fX9_133 (dec_of DX9_beginSyllable 66 rfl) ?_
    refine v_aload_n (dec_of DX9_beginSyllable 67 rfl) rfl ?_
    refine v_get fX9_31 (dec_of DX9_beginSyllable 68 rfl) rfl rfl ?_
    try simp (disch := decide) only [uN_s, uN_n]
    refine v_aload_n (dec_of DX9_beginSyllable 69 rfl) rfl ?_
    refine v_get fX9_133 (dec_of DX9_beginSyllable 70 rfl) rfl rfl ?_
    try simp (disch := decide) only [uN_s, uN_n]
    refine v_aload_n (dec_of DX9_beginSyllable 71 rfl) rfl ?_
    refine v_get fX9_136 (dec_of DX9_beginSyllable 72 rfl) rfl rfl ?_
    try simp (disch := decide) only [uN_s, uN_n]
    refine ms_9 (dec_of DX9_beginSyllable 73 rfl) (by first | omega | exact bnd_r _ _ | exact hG _ _ | exact hK _ | (simp (disch := decide) only [uN_s, uN_n]; omega)) ?_
    exact vi_vret (dec_of DX9_beginSyllable 74 rfl) rfl ⟨by decide, by decide⟩ (⟨rfl, rfl⟩)
set_option maxRecDepth 100000 in
set_option maxHeartbeats 4000000 in
theorem q_put {I N : Nat → Int} {F : Nat → Int → Int} {K : Nat → Int} {G : Nat → Int → Int} {k v : Int} (h10 : 0 ≤ K 10 ∧ K 10 < 300) (h3 : 0 ≤ K 3 ∧ K 3 ≤ 60) : Sd (rm 0 0 0 0) mX9_put [.ref 31, J k, J v] (W2 I N F K G) (W2 I N F (ptK K) (ptG K G k v)) (none) := by
  unfold Sd
  refine sp_of (ls := [some (.ref 31), some (J k), some (J v)]) (by decide) (nle rfl) rfl rfl ?_
  refine v_aload_n (dec_of DX9_put 0 rfl) rfl ?_
  refine v_get fX9_34 (dec_of DX9_put 1 rfl) rfl rfl ?_
  try simp (disch := decide) only [uN_s, uN_n]
  refine v_aload_n (dec_of DX9_put 2 rfl) rfl ?_
  refine v_get fX9_136 (dec_of DX9_put 3 rfl) rfl rfl ?_
  try simp (disch := decide) only [uN_s, uN_n]
  refine v_iload_n (dec_of DX9_put 4 rfl) rfl ?_
  refine ms_11 (dec_of DX9_put 5 rfl) (by first | omega | exact bnd_r _ _ | exact hG _ _ | exact hK _ | (simp (disch := decide) only [uN_s, uN_n]; omega)) ?_
  refine v_aload_n (dec_of DX9_put 6 rfl) rfl ?_
  refine v_get fX9_37 (dec_of DX9_put 7 rfl) rfl rfl ?_
  try simp (disch := decide) only [uN_s, uN_n]
  refine v_aload_n (dec_of DX9_put 8 rfl) rfl ?_
  refine v_get fX9_136 (dec_of DX9_put 9 rfl) rfl rfl ?_
  try simp (disch := decide) only [uN_s, uN_n]
  refine v_iload_n (dec_of DX9_put 10 rfl) rfl ?_
  refine ms_12 (dec_of DX9_put 11 rfl) (by first | omega | exact bnd_r _ _ | exact hG _ _ | exact hK _ | (simp (disch := decide) only [uN_s, uN_n]; omega)) ?_
  refine v_aload_n (dec_of DX9_put 12 rfl) rfl ?_
  refine v_get fX9_40 (dec_of DX9_put 13 rfl) rfl rfl ?_
  try simp (disch := decide) only [uN_s, uN_n]
  refine v_aload_n (dec_of DX9_put 14 rfl) rfl ?_
  refine v_get fX9_136 (dec_of DX9_put 15 rfl) rfl rfl ?_
  try simp (disch := decide) only [uN_s, uN_n]
  refine v_aload_n (dec_of DX9_put 16 rfl) rfl ?_
  refine v_get fX9_142 (dec_of DX9_put 17 rfl) rfl rfl ?_
  try simp (disch := decide) only [uN_s, uN_n]
  refine ms_13 (dec_of DX9_put 18 rfl) (by first | omega | exact bnd_r _ _ | exact hG _ _ | exact hK _ | (simp (disch := decide) only [uN_s, uN_n]; omega)) ?_
  refine v_aload_n (dec_of DX9_put 19 rfl) rfl ?_
  refine v_dup (dec_of DX9_put 20 rfl) rfl ?_
  refine v_get fX9_136 (dec_of DX9_put 21 rfl) rfl rfl ?_
  try simp (disch := decide) only [uN_s, uN_n]
  refine vi_const (dec_of DX9_put 22 rfl) ?_
  refine vi_add (dec_of DX9_put 23 rfl) ?_
  refine mp_10 fX9_136 (dec_of DX9_put 24 rfl) ?_
  refine v_aload_n (dec_of DX9_put 25 rfl) rfl ?_
  refine v_get fX9_31 (dec_of DX9_put 26 rfl) rfl rfl ?_
  try simp (disch := decide) only [uN_s, uN_n]
  refine v_aload_n (dec_of DX9_put 27 rfl) rfl ?_
  refine v_get fX9_133 (dec_of DX9_put 28 rfl) rfl rfl ?_
  try simp (disch := decide) only [uN_s, uN_n]
  refine v_aload_n (dec_of DX9_put 29 rfl) rfl ?_
  refine v_get fX9_136 (dec_of DX9_put 30 rfl) rfl rfl ?_
  try simp (disch := decide) only [uN_s, uN_n]
  refine ms_9 (dec_of DX9_put 31 rfl) (by first | omega | exact bnd_r _ _ | exact hG _ _ | exact hK _ | (simp (disch := decide) only [uN_s, uN_n]; omega)) ?_
  exact vi_vret (dec_of DX9_put 32 rfl) rfl ⟨by decide, by decide⟩ (⟨rfl, rfl⟩)
set_option maxRecDepth 100000 in
set_option maxHeartbeats 4000000 in
theorem q_rh_c_full {I N : Nat → Int} {F : Nat → Int → Int} {K : Nat → Int} {G : Nat → Int → Int} (hv : Iv K G) {c d : Int} (hc : 97 ≤ c ∧ c ≤ 109) (hd : -1 ≤ d ∧ d < 256) (h26 : K 26 = 0) (h : c = 99) (h1 : 49 ≤ d ∧ d ≤ 52) (hf : K 23 = 20) : Sd (rm 2 43 0 0) mX9_readHeight [.ref 31, J c, J d, J (K 63)] (W2 I N F K G) (W2 I N F (wrK K 2) G) (some (J (K 63))) := by
  unfold Sd
  obtain ⟨hP, hK, hG, hB, hL⟩ := hv
  have hM := hP.1
  have hM0 := hM
  unfold MR at hM
  obtain ⟨_, p23, p24, p25, p10, p29, p14, p20, p60, p61, p62, p63, p64, p26, p3, p15⟩ := hP
  refine sp_of (ls := [some (.ref 31), some (J c), some (J d), some (J (K 63)), none]) (by decide) (nle rfl) rfl rfl ?_
  refine v_iload_n (dec_of DX9_readHeight 0 rfl) rfl ?_
  refine vi_bi (dec_of DX9_readHeight 1 rfl) (by decide) ?_
  refine vi_icmp_eq (tgt := 12) (dec_of DX9_readHeight 2 rfl) (by decide) (by first | omega | exact bnd_r _ _ | exact hG _ _ | exact hK _ | (simp (disch := decide) only [uN_s, uN_n]; omega)) (by first | omega | exact bnd_r _ _ | exact hG _ _ | exact hK _ | (simp (disch := decide) only [uN_s, uN_n]; omega)) (fun c3 => ?_) (fun c3 => absurd c3 (by omega))
  refine v_iload_n (dec_of DX9_readHeight 6 rfl) rfl ?_
  refine vi_bi (dec_of DX9_readHeight 7 rfl) (by decide) ?_
  refine vi_icmp_lt (tgt := 88) (dec_of DX9_readHeight 8 rfl) (by decide) (by first | omega | exact bnd_r _ _ | exact hG _ _ | exact hK _ | (simp (disch := decide) only [uN_s, uN_n]; omega)) (by first | omega | exact bnd_r _ _ | exact hG _ _ | exact hK _ | (simp (disch := decide) only [uN_s, uN_n]; omega)) (fun c15 => absurd c15 (by omega)) (fun c15 => ?_)
  refine v_iload_n (dec_of DX9_readHeight 9 rfl) rfl ?_
  refine vi_bi (dec_of DX9_readHeight 10 rfl) (by decide) ?_
  refine vi_icmp_gt (tgt := 88) (dec_of DX9_readHeight 11 rfl) (by decide) (by first | omega | exact bnd_r _ _ | exact hG _ _ | exact hK _ | (simp (disch := decide) only [uN_s, uN_n]; omega)) (by first | omega | exact bnd_r _ _ | exact hG _ _ | exact hK _ | (simp (disch := decide) only [uN_s, uN_n]; omega)) (fun c21 => absurd c21 (by omega)) (fun c21 => ?_)
  refine v_aload_n (dec_of DX9_readHeight 12 rfl) rfl ?_
  refine v_get fX9_154 (dec_of DX9_readHeight 13 rfl) rfl rfl ?_
  refine vi_bi (dec_of DX9_readHeight 14 rfl) (by decide) ?_
  refine vi_icmp_ne (tgt := 44) (dec_of DX9_readHeight 15 rfl) (by decide) (by first | omega | exact bnd_r _ _ | exact hG _ _ | exact hK _ | (simp (disch := decide) only [uN_s, uN_n]; omega)) (by first | omega | exact bnd_r _ _ | exact hG _ _ | exact hK _ | (simp (disch := decide) only [uN_s, uN_n]; omega)) (fun c30 => absurd c30 (by omega)) (fun c30 => ?_)
  refine v_aload_n (dec_of DX9_readHeight 16 rfl) rfl ?_
  refine vi_const (dec_of DX9_readHeight 17 rfl) ?_
  refine v_aload_n (dec_of DX9_readHeight 18 rfl) rfl ?_
  refine v_get fX9_169 (dec_of DX9_readHeight 19 rfl) rfl rfl ?_
  refine v_V2v (q_wrong0 hG hK hM0 h26) lX9_172 (dec_of DX9_readHeight 20 rfl) rfl rfl (by decide) (nle rfl) rfl ?_
  refine v_iload_n (dec_of DX9_readHeight 21 rfl) rfl ?_
  exact vi_retz (dec_of DX9_readHeight 22 rfl) rfl (by first | omega | exact bnd_r _ _ | exact hG _ _ | exact hK _ | (simp (disch := decide) only [uN_s, uN_n]; omega)) ⟨by decide, by decide⟩ (⟨rfl, rfl⟩)
set_option maxRecDepth 100000 in
set_option maxHeartbeats 4000000 in
theorem q_rh_c {I N : Nat → Int} {F : Nat → Int → Int} {K : Nat → Int} {G : Nat → Int → Int} (hv : Iv K G) {c d : Int} (hc : 97 ≤ c ∧ c ≤ 109) (hd : -1 ≤ d ∧ d < 256) (h26 : K 26 = 0) (h : c = 99) (h1 : 49 ≤ d ∧ d ≤ 52) (hf : ¬ K 23 = 20) : Sd (rm 2 43 0 0) mX9_readHeight [.ref 31, J c, J d, J (K 63)] (W2 I N F K G) (W2 I N F (sgK 23 2 1 K) (ptG K G 4 ((if c = 102 then 10 else 0) + d - 48))) (some (J 1)) := by
  unfold Sd
  obtain ⟨hP, hK, hG, hB, hL⟩ := hv
  have hM := hP.1
  have hM0 := hM
  unfold MR at hM
  obtain ⟨_, p23, p24, p25, p10, p29, p14, p20, p60, p61, p62, p63, p64, p26, p3, p15⟩ := hP
  refine sp_of (ls := [some (.ref 31), some (J c), some (J d), some (J (K 63)), none]) (by decide) (nle rfl) rfl rfl ?_
  refine v_iload_n (dec_of DX9_readHeight 0 rfl) rfl ?_
  refine vi_bi (dec_of DX9_readHeight 1 rfl) (by decide) ?_
  refine vi_icmp_eq (tgt := 12) (dec_of DX9_readHeight 2 rfl) (by decide) (by first | omega | exact bnd_r _ _ | exact hG _ _ | exact hK _ | (simp (disch := decide) only [uN_s, uN_n]; omega)) (by first | omega | exact bnd_r _ _ | exact hG _ _ | exact hK _ | (simp (disch := decide) only [uN_s, uN_n]; omega)) (fun c3 => ?_) (fun c3 => absurd c3 (by omega))
  refine v_iload_n (dec_of DX9_readHeight 6 rfl) rfl ?_
  refine vi_bi (dec_of DX9_readHeight 7 rfl) (by decide) ?_
  refine vi_icmp_lt (tgt := 88) (dec_of DX9_readHeight 8 rfl) (by decide) (by first | omega | exact bnd_r _ _ | exact hG _ _ | exact hK _ | (simp (disch := decide) only [uN_s, uN_n]; omega)) (by first | omega | exact bnd_r _ _ | exact hG _ _ | exact hK _ | (simp (disch := decide) only [uN_s, uN_n]; omega)) (fun c15 => absurd c15 (by omega)) (fun c15 => ?_)
  refine v_iload_n (dec_of DX9_readHeight 9 rfl) rfl ?_
  refine vi_bi (dec_of DX9_readHeight 10 rfl) (by decide) ?_
  refine vi_icmp_gt (tgt := 88) (dec_of DX9_readHeight 11 rfl) (by decide) (by first | omega | exact bnd_r _ _ | exact hG _ _ | exact hK _ | (simp (disch := decide) only [uN_s, uN_n]; omega)) (by first | omega | exact bnd_r _ _ | exact hG _ _ | exact hK _ | (simp (disch := decide) only [uN_s, uN_n]; omega)) (fun c21 => absurd c21 (by omega)) (fun c21 => ?_)
  refine v_aload_n (dec_of DX9_readHeight 12 rfl) rfl ?_
  refine v_get fX9_154 (dec_of DX9_readHeight 13 rfl) rfl rfl ?_
  refine vi_bi (dec_of DX9_readHeight 14 rfl) (by decide) ?_
  refine vi_icmp_ne (tgt := 44) (dec_of DX9_readHeight 15 rfl) (by decide) (by first | omega | exact bnd_r _ _ | exact hG _ _ | exact hK _ | (simp (disch := decide) only [uN_s, uN_n]; omega)) (by first | omega | exact bnd_r _ _ | exact hG _ _ | exact hK _ | (simp (disch := decide) only [uN_s, uN_n]; omega)) (fun c30 => ?_) (fun c30 => absurd c30 (by omega))
  refine v_aload_n (dec_of DX9_readHeight 23 rfl) rfl ?_
  refine v_dup (dec_of DX9_readHeight 24 rfl) rfl ?_
  refine v_get fX9_154 (dec_of DX9_readHeight 25 rfl) rfl rfl ?_
  refine vi_const (dec_of DX9_readHeight 26 rfl) ?_
  refine vi_add (dec_of DX9_readHeight 27 rfl) ?_
  refine mp_23 fX9_154 (dec_of DX9_readHeight 28 rfl) ?_
  refine v_aload_n (dec_of DX9_readHeight 29 rfl) rfl ?_
  refine vi_const (dec_of DX9_readHeight 30 rfl) ?_
  refine v_iload_n (dec_of DX9_readHeight 31 rfl) rfl ?_
  refine vi_bi (dec_of DX9_readHeight 32 rfl) (by decide) ?_
  refine vi_icmp_ne (tgt := 67) (dec_of DX9_readHeight 33 rfl) (by decide) (by first | omega | exact bnd_r _ _ | exact hG _ _ | exact hK _ | (simp (disch := decide) only [uN_s, uN_n]; omega)) (by first | omega | exact bnd_r _ _ | exact hG _ _ | exact hK _ | (simp (disch := decide) only [uN_s, uN_n]; omega)) (fun c59 => ?_) (fun c59 => absurd c59 (by omega))
  refine vi_const (dec_of DX9_readHeight 36 rfl) ?_
  refine v_iload_n (dec_of DX9_readHeight 37 rfl) rfl ?_
  refine vi_add (dec_of DX9_readHeight 38 rfl) ?_
  refine vi_bi (dec_of DX9_readHeight 39 rfl) (by decide) ?_
  refine vi_sub (dec_of DX9_readHeight 40 rfl) ?_
  rw [show 0 + d - 48 = (if c = 102 then 10 else 0) + d - 48 by rw [if_neg (by omega)]]
  refine v_V2v (q_put (show 0 ≤ K 10 ∧ K 10 < 300 by omega) (show 0 ≤ K 3 ∧ K 3 ≤ 60 by omega)) lX9_201 (dec_of DX9_readHeight 41 rfl) rfl rfl (by decide) (nle rfl) rfl ?_
  refine v_aload_n (dec_of DX9_readHeight 42 rfl) rfl ?_
  refine v_dup (dec_of DX9_readHeight 43 rfl) rfl ?_
  refine v_get fX9_169 (dec_of DX9_readHeight 44 rfl) rfl rfl ?_
  refine vi_const (dec_of DX9_readHeight 45 rfl) ?_
  refine vi_add (dec_of DX9_readHeight 46 rfl) ?_
  refine mp_29 fX9_169 (dec_of DX9_readHeight 47 rfl) ?_
  refine vi_const (dec_of DX9_readHeight 48 rfl) ?_
  exact vi_retz (dec_of DX9_readHeight 49 rfl) rfl (by first | omega | exact bnd_r _ _ | exact hG _ _ | exact hK _ | (simp (disch := decide) only [uN_s, uN_n]; omega)) ⟨by decide, by decide⟩ (⟨rfl, rfl⟩)
set_option maxRecDepth 100000 in
set_option maxHeartbeats 4000000 in
theorem q_rh_f_full {I N : Nat → Int} {F : Nat → Int → Int} {K : Nat → Int} {G : Nat → Int → Int} (hv : Iv K G) {c d : Int} (hc : 97 ≤ c ∧ c ≤ 109) (hd : -1 ≤ d ∧ d < 256) (h26 : K 26 = 0) (h : c = 102) (h1 : 49 ≤ d ∧ d ≤ 52) (hf : K 23 = 20) : Sd (rm 2 43 0 0) mX9_readHeight [.ref 31, J c, J d, J (K 63)] (W2 I N F K G) (W2 I N F (wrK K 2) G) (some (J (K 63))) := by
  unfold Sd
  obtain ⟨hP, hK, hG, hB, hL⟩ := hv
  have hM := hP.1
  have hM0 := hM
  unfold MR at hM
  obtain ⟨_, p23, p24, p25, p10, p29, p14, p20, p60, p61, p62, p63, p64, p26, p3, p15⟩ := hP
  refine sp_of (ls := [some (.ref 31), some (J c), some (J d), some (J (K 63)), none]) (by decide) (nle rfl) rfl rfl ?_
  refine v_iload_n (dec_of DX9_readHeight 0 rfl) rfl ?_
  refine vi_bi (dec_of DX9_readHeight 1 rfl) (by decide) ?_
  refine vi_icmp_eq (tgt := 12) (dec_of DX9_readHeight 2 rfl) (by decide) (by first | omega | exact bnd_r _ _ | exact hG _ _ | exact hK _ | (simp (disch := decide) only [uN_s, uN_n]; omega)) (by first | omega | exact bnd_r _ _ | exact hG _ _ | exact hK _ | (simp (disch := decide) only [uN_s, uN_n]; omega)) (fun c3 => absurd c3 (by omega)) (fun c3 => ?_)
  refine v_iload_n (dec_of DX9_readHeight 3 rfl) rfl ?_
  refine vi_bi (dec_of DX9_readHeight 4 rfl) (by decide) ?_
  refine vi_icmp_ne (tgt := 88) (dec_of DX9_readHeight 5 rfl) (by decide) (by first | omega | exact bnd_r _ _ | exact hG _ _ | exact hK _ | (simp (disch := decide) only [uN_s, uN_n]; omega)) (by first | omega | exact bnd_r _ _ | exact hG _ _ | exact hK _ | (simp (disch := decide) only [uN_s, uN_n]; omega)) (fun c9 => absurd c9 (by omega)) (fun c9 => ?_)
  refine v_iload_n (dec_of DX9_readHeight 6 rfl) rfl ?_
  refine vi_bi (dec_of DX9_readHeight 7 rfl) (by decide) ?_
  refine vi_icmp_lt (tgt := 88) (dec_of DX9_readHeight 8 rfl) (by decide) (by first | omega | exact bnd_r _ _ | exact hG _ _ | exact hK _ | (simp (disch := decide) only [uN_s, uN_n]; omega)) (by first | omega | exact bnd_r _ _ | exact hG _ _ | exact hK _ | (simp (disch := decide) only [uN_s, uN_n]; omega)) (fun c15 => absurd c15 (by omega)) (fun c15 => ?_)
  refine v_iload_n (dec_of DX9_readHeight 9 rfl) rfl ?_
  refine vi_bi (dec_of DX9_readHeight 10 rfl) (by decide) ?_
  refine vi_icmp_gt (tgt := 88) (dec_of DX9_readHeight 11 rfl) (by decide) (by first | omega | exact bnd_r _ _ | exact hG _ _ | exact hK _ | (simp (disch := decide) only [uN_s, uN_n]; omega)) (by first | omega | exact bnd_r _ _ | exact hG _ _ | exact hK _ | (simp (disch := decide) only [uN_s, uN_n]; omega)) (fun c21 => absurd c21 (by omega)) (fun c21 => ?_)
  refine v_aload_n (dec_of DX9_readHeight 12 rfl) rfl ?_
  refine v_get fX9_154 (dec_of DX9_readHeight 13 rfl) rfl rfl ?_
  refine vi_bi (dec_of DX9_readHeight 14 rfl) (by decide) ?_
  refine vi_icmp_ne (tgt := 44) (dec_of DX9_readHeight 15 rfl) (by decide) (by first | omega | exact bnd_r _ _ | exact hG _ _ | exact hK _ | (simp (disch := decide) only [uN_s, uN_n]; omega)) (by first | omega | exact bnd_r _ _ | exact hG _ _ | exact hK _ | (simp (disch := decide) only [uN_s, uN_n]; omega)) (fun c30 => absurd c30 (by omega)) (fun c30 => ?_)
  refine v_aload_n (dec_of DX9_readHeight 16 rfl) rfl ?_
  refine vi_const (dec_of DX9_readHeight 17 rfl) ?_
  refine v_aload_n (dec_of DX9_readHeight 18 rfl) rfl ?_
  refine v_get fX9_169 (dec_of DX9_readHeight 19 rfl) rfl rfl ?_
  refine v_V2v (q_wrong0 hG hK hM0 h26) lX9_172 (dec_of DX9_readHeight 20 rfl) rfl rfl (by decide) (nle rfl) rfl ?_
  refine v_iload_n (dec_of DX9_readHeight 21 rfl) rfl ?_
  exact vi_retz (dec_of DX9_readHeight 22 rfl) rfl (by first | omega | exact bnd_r _ _ | exact hG _ _ | exact hK _ | (simp (disch := decide) only [uN_s, uN_n]; omega)) ⟨by decide, by decide⟩ (⟨rfl, rfl⟩)
set_option maxRecDepth 100000 in
set_option maxHeartbeats 4000000 in
theorem q_rh_f {I N : Nat → Int} {F : Nat → Int → Int} {K : Nat → Int} {G : Nat → Int → Int} (hv : Iv K G) {c d : Int} (hc : 97 ≤ c ∧ c ≤ 109) (hd : -1 ≤ d ∧ d < 256) (h26 : K 26 = 0) (h : c = 102) (h1 : 49 ≤ d ∧ d ≤ 52) (hf : ¬ K 23 = 20) : Sd (rm 2 43 0 0) mX9_readHeight [.ref 31, J c, J d, J (K 63)] (W2 I N F K G) (W2 I N F (sgK 23 2 1 K) (ptG K G 4 ((if c = 102 then 10 else 0) + d - 48))) (some (J 1)) := by
  unfold Sd
  obtain ⟨hP, hK, hG, hB, hL⟩ := hv
  have hM := hP.1
  have hM0 := hM
  unfold MR at hM
  obtain ⟨_, p23, p24, p25, p10, p29, p14, p20, p60, p61, p62, p63, p64, p26, p3, p15⟩ := hP
  refine sp_of (ls := [some (.ref 31), some (J c), some (J d), some (J (K 63)), none]) (by decide) (nle rfl) rfl rfl ?_
  refine v_iload_n (dec_of DX9_readHeight 0 rfl) rfl ?_
  refine vi_bi (dec_of DX9_readHeight 1 rfl) (by decide) ?_
  refine vi_icmp_eq (tgt := 12) (dec_of DX9_readHeight 2 rfl) (by decide) (by first | omega | exact bnd_r _ _ | exact hG _ _ | exact hK _ | (simp (disch := decide) only [uN_s, uN_n]; omega)) (by first | omega | exact bnd_r _ _ | exact hG _ _ | exact hK _ | (simp (disch := decide) only [uN_s, uN_n]; omega)) (fun c3 => absurd c3 (by omega)) (fun c3 => ?_)
  refine v_iload_n (dec_of DX9_readHeight 3 rfl) rfl ?_
  refine vi_bi (dec_of DX9_readHeight 4 rfl) (by decide) ?_
  refine vi_icmp_ne (tgt := 88) (dec_of DX9_readHeight 5 rfl) (by decide) (by first | omega | exact bnd_r _ _ | exact hG _ _ | exact hK _ | (simp (disch := decide) only [uN_s, uN_n]; omega)) (by first | omega | exact bnd_r _ _ | exact hG _ _ | exact hK _ | (simp (disch := decide) only [uN_s, uN_n]; omega)) (fun c9 => absurd c9 (by omega)) (fun c9 => ?_)
  refine v_iload_n (dec_of DX9_readHeight 6 rfl) rfl ?_
  refine vi_bi (dec_of DX9_readHeight 7 rfl) (by decide) ?_
  refine vi_icmp_lt (tgt := 88) (dec_of DX9_readHeight 8 rfl) (by decide) (by first | omega | exact bnd_r _ _ | exact hG _ _ | exact hK _ | (simp (disch := decide) only [uN_s, uN_n]; omega)) (by first | omega | exact bnd_r _ _ | exact hG _ _ | exact hK _ | (simp (disch := decide) only [uN_s, uN_n]; omega)) (fun c15 => absurd c15 (by omega)) (fun c15 => ?_)
  refine v_iload_n (dec_of DX9_readHeight 9 rfl) rfl ?_
  refine vi_bi (dec_of DX9_readHeight 10 rfl) (by decide) ?_
  refine vi_icmp_gt (tgt := 88) (dec_of DX9_readHeight 11 rfl) (by decide) (by first | omega | exact bnd_r _ _ | exact hG _ _ | exact hK _ | (simp (disch := decide) only [uN_s, uN_n]; omega)) (by first | omega | exact bnd_r _ _ | exact hG _ _ | exact hK _ | (simp (disch := decide) only [uN_s, uN_n]; omega)) (fun c21 => absurd c21 (by omega)) (fun c21 => ?_)
  refine v_aload_n (dec_of DX9_readHeight 12 rfl) rfl ?_
  refine v_get fX9_154 (dec_of DX9_readHeight 13 rfl) rfl rfl ?_
  refine vi_bi (dec_of DX9_readHeight 14 rfl) (by decide) ?_
  refine vi_icmp_ne (tgt := 44) (dec_of DX9_readHeight 15 rfl) (by decide) (by first | omega | exact bnd_r _ _ | exact hG _ _ | exact hK _ | (simp (disch := decide) only [uN_s, uN_n]; omega)) (by first | omega | exact bnd_r _ _ | exact hG _ _ | exact hK _ | (simp (disch := decide) only [uN_s, uN_n]; omega)) (fun c30 => ?_) (fun c30 => absurd c30 (by omega))
  refine v_aload_n (dec_of DX9_readHeight 23 rfl) rfl ?_
  refine v_dup (dec_of DX9_readHeight 24 rfl) rfl ?_
  refine v_get fX9_154 (dec_of DX9_readHeight 25 rfl) rfl rfl ?_
  refine vi_const (dec_of DX9_readHeight 26 rfl) ?_
  refine vi_add (dec_of DX9_readHeight 27 rfl) ?_
  refine mp_23 fX9_154 (dec_of DX9_readHeight 28 rfl) ?_
  refine v_aload_n (dec_of DX9_readHeight 29 rfl) rfl ?_
  refine vi_const (dec_of DX9_readHeight 30 rfl) ?_
  refine v_iload_n (dec_of DX9_readHeight 31 rfl) rfl ?_
  refine vi_bi (dec_of DX9_readHeight 32 rfl) (by decide) ?_
  refine vi_icmp_ne (tgt := 67) (dec_of DX9_readHeight 33 rfl) (by decide) (by first | omega | exact bnd_r _ _ | exact hG _ _ | exact hK _ | (simp (disch := decide) only [uN_s, uN_n]; omega)) (by first | omega | exact bnd_r _ _ | exact hG _ _ | exact hK _ | (simp (disch := decide) only [uN_s, uN_n]; omega)) (fun c59 => absurd c59 (by omega)) (fun c59 => ?_)
  refine vi_bi (dec_of DX9_readHeight 34 rfl) (by decide) ?_
  refine v_goto (tgt := 68) (dec_of DX9_readHeight 35 rfl) (by decide) ?_
  refine v_iload_n (dec_of DX9_readHeight 37 rfl) rfl ?_
  refine vi_add (dec_of DX9_readHeight 38 rfl) ?_
  refine vi_bi (dec_of DX9_readHeight 39 rfl) (by decide) ?_
  refine vi_sub (dec_of DX9_readHeight 40 rfl) ?_
  rw [show 10 + d - 48 = (if c = 102 then 10 else 0) + d - 48 by rw [if_pos (by omega)]]
  refine v_V2v (q_put (show 0 ≤ K 10 ∧ K 10 < 300 by omega) (show 0 ≤ K 3 ∧ K 3 ≤ 60 by omega)) lX9_201 (dec_of DX9_readHeight 41 rfl) rfl rfl (by decide) (nle rfl) rfl ?_
  refine v_aload_n (dec_of DX9_readHeight 42 rfl) rfl ?_
  refine v_dup (dec_of DX9_readHeight 43 rfl) rfl ?_
  refine v_get fX9_169 (dec_of DX9_readHeight 44 rfl) rfl rfl ?_
  refine vi_const (dec_of DX9_readHeight 45 rfl) ?_
  refine vi_add (dec_of DX9_readHeight 46 rfl) ?_
  refine mp_29 fX9_169 (dec_of DX9_readHeight 47 rfl) ?_
  refine vi_const (dec_of DX9_readHeight 48 rfl) ?_
  exact vi_retz (dec_of DX9_readHeight 49 rfl) rfl (by first | omega | exact bnd_r _ _ | exact hG _ _ | exact hK _ | (simp (disch := decide) only [uN_s, uN_n]; omega)) ⟨by decide, by decide⟩ (⟨rfl, rfl⟩)
set_option maxRecDepth 100000 in
set_option maxHeartbeats 4000000 in
theorem q_r88_x_full {I N : Nat → Int} {F : Nat → Int → Int} {K : Nat → Int} {G : Nat → Int → Int} (hv : Iv K G) {n0 : Nat} {Z : XW → Option Value → Prop} {c d : Int} (hc : 97 ≤ c ∧ c ≤ 109) (hd : -1 ≤ d ∧ d < 256) (h26 : K 26 = 0) (h : d = 120) (hf : K 24 = 20) (hz : Z (W2 I N F (wrK K 2) G) (some (J (K 63)))) : Vd (rm 2 43 0 0) [] mX9_readHeight n0 Z 0 0 88 [some (.ref 31), some (J c), some (J d), some (J (K 63)), none] [] (W2 I N F K G) := by
  obtain ⟨hP, hK, hG, hB, hL⟩ := hv
  have hM := hP.1
  have hM0 := hM
  unfold MR at hM
  obtain ⟨_, p23, p24, p25, p10, p29, p14, p20, p60, p61, p62, p63, p64, p26, p3, p15⟩ := hP
  refine v_iload_n (dec_of DX9_readHeight 50 rfl) rfl ?_
  refine vi_bi (dec_of DX9_readHeight 51 rfl) (by decide) ?_
  refine vi_icmp_eq (tgt := 100) (dec_of DX9_readHeight 52 rfl) (by decide) (by first | omega | exact bnd_r _ _ | exact hG _ _ | exact hK _ | (simp (disch := decide) only [uN_s, uN_n]; omega)) (by first | omega | exact bnd_r _ _ | exact hG _ _ | exact hK _ | (simp (disch := decide) only [uN_s, uN_n]; omega)) (fun c91 => ?_) (fun c91 => absurd c91 (by omega))
  refine v_iload_n (dec_of DX9_readHeight 56 rfl) rfl ?_
  refine vi_bi (dec_of DX9_readHeight 57 rfl) (by decide) ?_
  refine vi_icmp_ne (tgt := 113) (dec_of DX9_readHeight 58 rfl) (by decide) (by first | omega | exact bnd_r _ _ | exact hG _ _ | exact hK _ | (simp (disch := decide) only [uN_s, uN_n]; omega)) (by first | omega | exact bnd_r _ _ | exact hG _ _ | exact hK _ | (simp (disch := decide) only [uN_s, uN_n]; omega)) (fun c103 => absurd c103 (by omega)) (fun c103 => ?_)
  refine v_aload_n (dec_of DX9_readHeight 59 rfl) rfl ?_
  refine v_get fX9_157 (dec_of DX9_readHeight 60 rfl) rfl rfl ?_
  refine v_goto (tgt := 117) (dec_of DX9_readHeight 61 rfl) (by decide) ?_
  refine v_istore (dec_of DX9_readHeight 64 rfl) (by decide) ?_
  dsimp only [List.set]
  refine v_iload (dec_of DX9_readHeight 65 rfl) rfl ?_
  refine vi_bi (dec_of DX9_readHeight 66 rfl) (by decide) ?_
  refine vi_icmp_ne (tgt := 137) (dec_of DX9_readHeight 67 rfl) (by decide) (by first | omega | exact bnd_r _ _ | exact hG _ _ | exact hK _ | (simp (disch := decide) only [uN_s, uN_n]; omega)) (by first | omega | exact bnd_r _ _ | exact hG _ _ | exact hK _ | (simp (disch := decide) only [uN_s, uN_n]; omega)) (fun c123 => absurd c123 (by omega)) (fun c123 => ?_)
  refine v_aload_n (dec_of DX9_readHeight 68 rfl) rfl ?_
  refine vi_const (dec_of DX9_readHeight 69 rfl) ?_
  refine v_aload_n (dec_of DX9_readHeight 70 rfl) rfl ?_
  refine v_get fX9_169 (dec_of DX9_readHeight 71 rfl) rfl rfl ?_
  refine v_V2v (q_wrong0 hG hK hM0 h26) lX9_172 (dec_of DX9_readHeight 72 rfl) rfl rfl (by decide) (nle rfl) rfl ?_
  refine v_iload_n (dec_of DX9_readHeight 73 rfl) rfl ?_
  exact vi_retz (dec_of DX9_readHeight 74 rfl) rfl (by first | omega | exact bnd_r _ _ | exact hG _ _ | exact hK _ | (simp (disch := decide) only [uN_s, uN_n]; omega)) ⟨by decide, by decide⟩ (hz)
set_option maxRecDepth 100000 in
set_option maxHeartbeats 4000000 in
theorem q_r88_x {I N : Nat → Int} {F : Nat → Int → Int} {K : Nat → Int} {G : Nat → Int → Int} (hv : Iv K G) {n0 : Nat} {Z : XW → Option Value → Prop} {c d : Int} (hc : 97 ≤ c ∧ c ≤ 109) (hd : -1 ≤ d ∧ d < 256) (h26 : K 26 = 0) (h : d = 120) (hf : ¬ K 24 = 20) (hz : Z (W2 I N F (sgK 24 2 (K 63) K) (ptG K G 2 (c - 97))) (some (J (K 63)))) : Vd (rm 2 43 0 0) [] mX9_readHeight n0 Z 0 0 88 [some (.ref 31), some (J c), some (J d), some (J (K 63)), none] [] (W2 I N F K G) := by
  obtain ⟨hP, hK, hG, hB, hL⟩ := hv
  have hM := hP.1
  have hM0 := hM
  unfold MR at hM
  obtain ⟨_, p23, p24, p25, p10, p29, p14, p20, p60, p61, p62, p63, p64, p26, p3, p15⟩ := hP
  refine v_iload_n (dec_of DX9_readHeight 50 rfl) rfl ?_
  refine vi_bi (dec_of DX9_readHeight 51 rfl) (by decide) ?_
  refine vi_icmp_eq (tgt := 100) (dec_of DX9_readHeight 52 rfl) (by decide) (by first | omega | exact bnd_r _ _ | exact hG _ _ | exact hK _ | (simp (disch := decide) only [uN_s, uN_n]; omega)) (by first | omega | exact bnd_r _ _ | exact hG _ _ | exact hK _ | (simp (disch := decide) only [uN_s, uN_n]; omega)) (fun c91 => ?_) (fun c91 => absurd c91 (by omega))
  refine v_iload_n (dec_of DX9_readHeight 56 rfl) rfl ?_
  refine vi_bi (dec_of DX9_readHeight 57 rfl) (by decide) ?_
  refine vi_icmp_ne (tgt := 113) (dec_of DX9_readHeight 58 rfl) (by decide) (by first | omega | exact bnd_r _ _ | exact hG _ _ | exact hK _ | (simp (disch := decide) only [uN_s, uN_n]; omega)) (by first | omega | exact bnd_r _ _ | exact hG _ _ | exact hK _ | (simp (disch := decide) only [uN_s, uN_n]; omega)) (fun c103 => absurd c103 (by omega)) (fun c103 => ?_)
  refine v_aload_n (dec_of DX9_readHeight 59 rfl) rfl ?_
  refine v_get fX9_157 (dec_of DX9_readHeight 60 rfl) rfl rfl ?_
  try simp (disch := decide) only [uN_s, uN_n]
  refine v_goto (tgt := 117) (dec_of DX9_readHeight 61 rfl) (by decide) ?_
  refine v_istore (dec_of DX9_readHeight 64 rfl) (by decide) ?_
  dsimp only [List.set]
  refine v_iload (dec_of DX9_readHeight 65 rfl) rfl ?_
  refine vi_bi (dec_of DX9_readHeight 66 rfl) (by decide) ?_
  refine vi_icmp_ne (tgt := 137) (dec_of DX9_readHeight 67 rfl) (by decide) (by first | omega | exact bnd_r _ _ | exact hG _ _ | exact hK _ | (simp (disch := decide) only [uN_s, uN_n]; omega)) (by first | omega | exact bnd_r _ _ | exact hG _ _ | exact hK _ | (simp (disch := decide) only [uN_s, uN_n]; omega)) (fun c123 => ?_) (fun c123 => absurd c123 (by omega))
  refine v_aload_n (dec_of DX9_readHeight 75 rfl) rfl ?_
  refine v_dup (dec_of DX9_readHeight 76 rfl) rfl ?_
  refine v_get fX9_157 (dec_of DX9_readHeight 77 rfl) rfl rfl ?_
  try simp (disch := decide) only [uN_s, uN_n]
  refine v_iload_n (dec_of DX9_readHeight 78 rfl) rfl ?_
  refine vi_bi (dec_of DX9_readHeight 79 rfl) (by decide) ?_
  refine vi_icmp_ne (tgt := 152) (dec_of DX9_readHeight 80 rfl) (by decide) (by first | omega | exact bnd_r _ _ | exact hG _ _ | exact hK _ | (simp (disch := decide) only [uN_s, uN_n]; omega)) (by first | omega | exact bnd_r _ _ | exact hG _ _ | exact hK _ | (simp (disch := decide) only [uN_s, uN_n]; omega)) (fun c145 => absurd c145 (by omega)) (fun c145 => ?_)
  refine vi_const (dec_of DX9_readHeight 81 rfl) ?_
  refine v_goto (tgt := 153) (dec_of DX9_readHeight 82 rfl) (by decide) ?_
  refine vi_add (dec_of DX9_readHeight 84 rfl) ?_
  refine mp_24 fX9_157 (dec_of DX9_readHeight 85 rfl) ?_
  refine v_aload_n (dec_of DX9_readHeight 86 rfl) rfl ?_
  refine v_dup (dec_of DX9_readHeight 87 rfl) rfl ?_
  refine v_get fX9_160 (dec_of DX9_readHeight 88 rfl) rfl rfl ?_
  try simp (disch := decide) only [uN_s, uN_n]
  refine v_iload_n (dec_of DX9_readHeight 89 rfl) rfl ?_
  refine vi_bi (dec_of DX9_readHeight 90 rfl) (by decide) ?_
  refine vi_icmp_ne (tgt := 172) (dec_of DX9_readHeight 91 rfl) (by decide) (by first | omega | exact bnd_r _ _ | exact hG _ _ | exact hK _ | (simp (disch := decide) only [uN_s, uN_n]; omega)) (by first | omega | exact bnd_r _ _ | exact hG _ _ | exact hK _ | (simp (disch := decide) only [uN_s, uN_n]; omega)) (fun c165 => ?_) (fun c165 => absurd c165 (by omega))
  refine vi_const (dec_of DX9_readHeight 94 rfl) ?_
  refine vi_add (dec_of DX9_readHeight 95 rfl) ?_
  refine mp_25 fX9_160 (dec_of DX9_readHeight 96 rfl) ?_
  refine v_aload_n (dec_of DX9_readHeight 97 rfl) rfl ?_
  refine v_iload_n (dec_of DX9_readHeight 98 rfl) rfl ?_
  refine vi_bi (dec_of DX9_readHeight 99 rfl) (by decide) ?_
  refine vi_icmp_ne (tgt := 188) (dec_of DX9_readHeight 100 rfl) (by decide) (by first | omega | exact bnd_r _ _ | exact hG _ _ | exact hK _ | (simp (disch := decide) only [uN_s, uN_n]; omega)) (by first | omega | exact bnd_r _ _ | exact hG _ _ | exact hK _ | (simp (disch := decide) only [uN_s, uN_n]; omega)) (fun c181 => absurd c181 (by omega)) (fun c181 => ?_)
  refine vi_const (dec_of DX9_readHeight 101 rfl) ?_
  refine v_goto (tgt := 189) (dec_of DX9_readHeight 102 rfl) (by decide) ?_
  refine v_iload_n (dec_of DX9_readHeight 104 rfl) rfl ?_
  refine vi_bi (dec_of DX9_readHeight 105 rfl) (by decide) ?_
  refine vi_sub (dec_of DX9_readHeight 106 rfl) ?_
  refine v_V2v (q_put (by simp (disch := decide) only [uN_s, uN_n]; omega) (by simp (disch := decide) only [uN_s, uN_n]; omega)) lX9_201 (dec_of DX9_readHeight 107 rfl) rfl rfl (by decide) (nle rfl) rfl ?_
  try simp (disch := decide) only [uN_s, uN_n]
  refine v_aload_n (dec_of DX9_readHeight 108 rfl) rfl ?_
  refine v_dup (dec_of DX9_readHeight 109 rfl) rfl ?_
  refine v_get fX9_169 (dec_of DX9_readHeight 110 rfl) rfl rfl ?_
  try simp (disch := decide) only [uN_s, uN_n]
  refine vi_const (dec_of DX9_readHeight 111 rfl) ?_
  refine vi_add (dec_of DX9_readHeight 112 rfl) ?_
  refine mp_29 fX9_169 (dec_of DX9_readHeight 113 rfl) ?_
  refine v_iload_n (dec_of DX9_readHeight 114 rfl) rfl ?_
  exact vi_retz (dec_of DX9_readHeight 115 rfl) rfl (by first | omega | exact bnd_r _ _ | exact hG _ _ | exact hK _ | (simp (disch := decide) only [uN_s, uN_n]; omega)) ⟨by decide, by decide⟩ (by rw [show K 25 + 0 = K 25 by omega] at *; exact hz)
set_option maxRecDepth 100000 in
set_option maxHeartbeats 4000000 in
theorem q_rh_x_full {I N : Nat → Int} {F : Nat → Int → Int} {K : Nat → Int} {G : Nat → Int → Int} (hv : Iv K G) {c d : Int} (hc : 97 ≤ c ∧ c ≤ 109) (hd : -1 ≤ d ∧ d < 256) (h26 : K 26 = 0) (h : d = 120) (hf : K 24 = 20) : Sd (rm 2 43 0 0) mX9_readHeight [.ref 31, J c, J d, J (K 63)] (W2 I N F K G) (W2 I N F (wrK K 2) G) (some (J (K 63))) := by
  unfold Sd
  refine sp_of (ls := [some (.ref 31), some (J c), some (J d), some (J (K 63)), none]) (by decide) (nle rfl) rfl rfl ?_
  refine v_iload_n (dec_of DX9_readHeight 0 rfl) rfl ?_
  refine vi_bi (dec_of DX9_readHeight 1 rfl) (by decide) ?_
  refine vi_icmp_eq (tgt := 12) (dec_of DX9_readHeight 2 rfl) (by decide) (by first | omega | exact bnd_r _ _ | exact hG _ _ | exact hK _ | (simp (disch := decide) only [uN_s, uN_n]; omega)) (by first | omega | exact bnd_r _ _ | exact hG _ _ | exact hK _ | (simp (disch := decide) only [uN_s, uN_n]; omega)) (fun c3 => ?_) (fun c3 => ?_)
  · refine v_iload_n (dec_of DX9_readHeight 6 rfl) rfl ?_
    refine vi_bi (dec_of DX9_readHeight 7 rfl) (by decide) ?_
    refine vi_icmp_lt (tgt := 88) (dec_of DX9_readHeight 8 rfl) (by decide) (by first | omega | exact bnd_r _ _ | exact hG _ _ | exact hK _ | (simp (disch := decide) only [uN_s, uN_n]; omega)) (by first | omega | exact bnd_r _ _ | exact hG _ _ | exact hK _ | (simp (disch := decide) only [uN_s, uN_n]; omega)) (fun c15 => absurd c15 (by omega)) (fun c15 => ?_)
    refine v_iload_n (dec_of DX9_readHeight 9 rfl) rfl ?_
    refine vi_bi (dec_of DX9_readHeight 10 rfl) (by decide) ?_
    refine vi_icmp_gt (tgt := 88) (dec_of DX9_readHeight 11 rfl) (by decide) (by first | omega | exact bnd_r _ _ | exact hG _ _ | exact hK _ | (simp (disch := decide) only [uN_s, uN_n]; omega)) (by first | omega | exact bnd_r _ _ | exact hG _ _ | exact hK _ | (simp (disch := decide) only [uN_s, uN_n]; omega)) (fun c21 => ?_) (fun c21 => absurd c21 (by omega))
    exact q_r88_x_full hv hc hd h26 h hf ⟨rfl, rfl⟩
  · refine v_iload_n (dec_of DX9_readHeight 3 rfl) rfl ?_
    refine vi_bi (dec_of DX9_readHeight 4 rfl) (by decide) ?_
    refine vi_icmp_ne (tgt := 88) (dec_of DX9_readHeight 5 rfl) (by decide) (by first | omega | exact bnd_r _ _ | exact hG _ _ | exact hK _ | (simp (disch := decide) only [uN_s, uN_n]; omega)) (by first | omega | exact bnd_r _ _ | exact hG _ _ | exact hK _ | (simp (disch := decide) only [uN_s, uN_n]; omega)) (fun c9 => ?_) (fun c9 => ?_)
    · exact q_r88_x_full hv hc hd h26 h hf ⟨rfl, rfl⟩
    · refine v_iload_n (dec_of DX9_readHeight 6 rfl) rfl ?_
      refine vi_bi (dec_of DX9_readHeight 7 rfl) (by decide) ?_
      refine vi_icmp_lt (tgt := 88) (dec_of DX9_readHeight 8 rfl) (by decide) (by first | omega | exact bnd_r _ _ | exact hG _ _ | exact hK _ | (simp (disch := decide) only [uN_s, uN_n]; omega)) (by first | omega | exact bnd_r _ _ | exact hG _ _ | exact hK _ | (simp (disch := decide) only [uN_s, uN_n]; omega)) (fun c15 => absurd c15 (by omega)) (fun c15 => ?_)
      refine v_iload_n (dec_of DX9_readHeight 9 rfl) rfl ?_
      refine vi_bi (dec_of DX9_readHeight 10 rfl) (by decide) ?_
      refine vi_icmp_gt (tgt := 88) (dec_of DX9_readHeight 11 rfl) (by decide) (by first | omega | exact bnd_r _ _ | exact hG _ _ | exact hK _ | (simp (disch := decide) only [uN_s, uN_n]; omega)) (by first | omega | exact bnd_r _ _ | exact hG _ _ | exact hK _ | (simp (disch := decide) only [uN_s, uN_n]; omega)) (fun c21 => ?_) (fun c21 => absurd c21 (by omega))
      exact q_r88_x_full hv hc hd h26 h hf ⟨rfl, rfl⟩
set_option maxRecDepth 100000 in
set_option maxHeartbeats 4000000 in
theorem q_rh_x {I N : Nat → Int} {F : Nat → Int → Int} {K : Nat → Int} {G : Nat → Int → Int} (hv : Iv K G) {c d : Int} (hc : 97 ≤ c ∧ c ≤ 109) (hd : -1 ≤ d ∧ d < 256) (h26 : K 26 = 0) (h : d = 120) (hf : ¬ K 24 = 20) : Sd (rm 2 43 0 0) mX9_readHeight [.ref 31, J c, J d, J (K 63)] (W2 I N F K G) (W2 I N F (sgK 24 2 (K 63) K) (ptG K G 2 (c - 97))) (some (J (K 63))) := by
  unfold Sd
  refine sp_of (ls := [some (.ref 31), some (J c), some (J d), some (J (K 63)), none]) (by decide) (nle rfl) rfl rfl ?_
  refine v_iload_n (dec_of DX9_readHeight 0 rfl) rfl ?_
  refine vi_bi (dec_of DX9_readHeight 1 rfl) (by decide) ?_
  refine vi_icmp_eq (tgt := 12) (dec_of DX9_readHeight 2 rfl) (by decide) (by first | omega | exact bnd_r _ _ | exact hG _ _ | exact hK _ | (simp (disch := decide) only [uN_s, uN_n]; omega)) (by first | omega | exact bnd_r _ _ | exact hG _ _ | exact hK _ | (simp (disch := decide) only [uN_s, uN_n]; omega)) (fun c3 => ?_) (fun c3 => ?_)
  · refine v_iload_n (dec_of DX9_readHeight 6 rfl) rfl ?_
    refine vi_bi (dec_of DX9_readHeight 7 rfl) (by decide) ?_
    refine vi_icmp_lt (tgt := 88) (dec_of DX9_readHeight 8 rfl) (by decide) (by first | omega | exact bnd_r _ _ | exact hG _ _ | exact hK _ | (simp (disch := decide) only [uN_s, uN_n]; omega)) (by first | omega | exact bnd_r _ _ | exact hG _ _ | exact hK _ | (simp (disch := decide) only [uN_s, uN_n]; omega)) (fun c15 => absurd c15 (by omega)) (fun c15 => ?_)
    refine v_iload_n (dec_of DX9_readHeight 9 rfl) rfl ?_
    refine vi_bi (dec_of DX9_readHeight 10 rfl) (by decide) ?_
    refine vi_icmp_gt (tgt := 88) (dec_of DX9_readHeight 11 rfl) (by decide) (by first | omega | exact bnd_r _ _ | exact hG _ _ | exact hK _ | (simp (disch := decide) only [uN_s, uN_n]; omega)) (by first | omega | exact bnd_r _ _ | exact hG _ _ | exact hK _ | (simp (disch := decide) only [uN_s, uN_n]; omega)) (fun c21 => ?_) (fun c21 => absurd c21 (by omega))
    exact q_r88_x hv hc hd h26 h hf ⟨rfl, rfl⟩
  · refine v_iload_n (dec_of DX9_readHeight 3 rfl) rfl ?_
    refine vi_bi (dec_of DX9_readHeight 4 rfl) (by decide) ?_
    refine vi_icmp_ne (tgt := 88) (dec_of DX9_readHeight 5 rfl) (by decide) (by first | omega | exact bnd_r _ _ | exact hG _ _ | exact hK _ | (simp (disch := decide) only [uN_s, uN_n]; omega)) (by first | omega | exact bnd_r _ _ | exact hG _ _ | exact hK _ | (simp (disch := decide) only [uN_s, uN_n]; omega)) (fun c9 => ?_) (fun c9 => ?_)
    · exact q_r88_x hv hc hd h26 h hf ⟨rfl, rfl⟩
    · refine v_iload_n (dec_of DX9_readHeight 6 rfl) rfl ?_
      refine vi_bi (dec_of DX9_readHeight 7 rfl) (by decide) ?_
      refine vi_icmp_lt (tgt := 88) (dec_of DX9_readHeight 8 rfl) (by decide) (by first | omega | exact bnd_r _ _ | exact hG _ _ | exact hK _ | (simp (disch := decide) only [uN_s, uN_n]; omega)) (by first | omega | exact bnd_r _ _ | exact hG _ _ | exact hK _ | (simp (disch := decide) only [uN_s, uN_n]; omega)) (fun c15 => absurd c15 (by omega)) (fun c15 => ?_)
      refine v_iload_n (dec_of DX9_readHeight 9 rfl) rfl ?_
      refine vi_bi (dec_of DX9_readHeight 10 rfl) (by decide) ?_
      refine vi_icmp_gt (tgt := 88) (dec_of DX9_readHeight 11 rfl) (by decide) (by first | omega | exact bnd_r _ _ | exact hG _ _ | exact hK _ | (simp (disch := decide) only [uN_s, uN_n]; omega)) (by first | omega | exact bnd_r _ _ | exact hG _ _ | exact hK _ | (simp (disch := decide) only [uN_s, uN_n]; omega)) (fun c21 => ?_) (fun c21 => absurd c21 (by omega))
      exact q_r88_x hv hc hd h26 h hf ⟨rfl, rfl⟩
set_option maxRecDepth 100000 in
set_option maxHeartbeats 4000000 in
theorem q_r88_y_full {I N : Nat → Int} {F : Nat → Int → Int} {K : Nat → Int} {G : Nat → Int → Int} (hv : Iv K G) {n0 : Nat} {Z : XW → Option Value → Prop} {c d : Int} (hc : 97 ≤ c ∧ c ≤ 109) (hd : -1 ≤ d ∧ d < 256) (h26 : K 26 = 0) (h : d = 121) (hf : K 25 = 20) (hz : Z (W2 I N F (wrK K 2) G) (some (J (K 63)))) : Vd (rm 2 43 0 0) [] mX9_readHeight n0 Z 0 0 88 [some (.ref 31), some (J c), some (J d), some (J (K 63)), none] [] (W2 I N F K G) := by
  obtain ⟨hP, hK, hG, hB, hL⟩ := hv
  have hM := hP.1
  have hM0 := hM
  unfold MR at hM
  obtain ⟨_, p23, p24, p25, p10, p29, p14, p20, p60, p61, p62, p63, p64, p26, p3, p15⟩ := hP
  refine v_iload_n (dec_of DX9_readHeight 50 rfl) rfl ?_
  refine vi_bi (dec_of DX9_readHeight 51 rfl) (by decide) ?_
  refine vi_icmp_eq (tgt := 100) (dec_of DX9_readHeight 52 rfl) (by decide) (by first | omega | exact bnd_r _ _ | exact hG _ _ | exact hK _ | (simp (disch := decide) only [uN_s, uN_n]; omega)) (by first | omega | exact bnd_r _ _ | exact hG _ _ | exact hK _ | (simp (disch := decide) only [uN_s, uN_n]; omega)) (fun c91 => absurd c91 (by omega)) (fun c91 => ?_)
  refine v_iload_n (dec_of DX9_readHeight 53 rfl) rfl ?_
  refine vi_bi (dec_of DX9_readHeight 54 rfl) (by decide) ?_
  refine vi_icmp_ne (tgt := 208) (dec_of DX9_readHeight 55 rfl) (by decide) (by first | omega | exact bnd_r _ _ | exact hG _ _ | exact hK _ | (simp (disch := decide) only [uN_s, uN_n]; omega)) (by first | omega | exact bnd_r _ _ | exact hG _ _ | exact hK _ | (simp (disch := decide) only [uN_s, uN_n]; omega)) (fun c97 => absurd c97 (by omega)) (fun c97 => ?_)
  refine v_iload_n (dec_of DX9_readHeight 56 rfl) rfl ?_
  refine vi_bi (dec_of DX9_readHeight 57 rfl) (by decide) ?_
  refine vi_icmp_ne (tgt := 113) (dec_of DX9_readHeight 58 rfl) (by decide) (by first | omega | exact bnd_r _ _ | exact hG _ _ | exact hK _ | (simp (disch := decide) only [uN_s, uN_n]; omega)) (by first | omega | exact bnd_r _ _ | exact hG _ _ | exact hK _ | (simp (disch := decide) only [uN_s, uN_n]; omega)) (fun c103 => ?_) (fun c103 => absurd c103 (by omega))
  refine v_aload_n (dec_of DX9_readHeight 62 rfl) rfl ?_
  refine v_get fX9_160 (dec_of DX9_readHeight 63 rfl) rfl rfl ?_
  refine v_istore (dec_of DX9_readHeight 64 rfl) (by decide) ?_
  dsimp only [List.set]
  refine v_iload (dec_of DX9_readHeight 65 rfl) rfl ?_
  refine vi_bi (dec_of DX9_readHeight 66 rfl) (by decide) ?_
  refine vi_icmp_ne (tgt := 137) (dec_of DX9_readHeight 67 rfl) (by decide) (by first | omega | exact bnd_r _ _ | exact hG _ _ | exact hK _ | (simp (disch := decide) only [uN_s, uN_n]; omega)) (by first | omega | exact bnd_r _ _ | exact hG _ _ | exact hK _ | (simp (disch := decide) only [uN_s, uN_n]; omega)) (fun c123 => absurd c123 (by omega)) (fun c123 => ?_)
  refine v_aload_n (dec_of DX9_readHeight 68 rfl) rfl ?_
  refine vi_const (dec_of DX9_readHeight 69 rfl) ?_
  refine v_aload_n (dec_of DX9_readHeight 70 rfl) rfl ?_
  refine v_get fX9_169 (dec_of DX9_readHeight 71 rfl) rfl rfl ?_
  refine v_V2v (q_wrong0 hG hK hM0 h26) lX9_172 (dec_of DX9_readHeight 72 rfl) rfl rfl (by decide) (nle rfl) rfl ?_
  refine v_iload_n (dec_of DX9_readHeight 73 rfl) rfl ?_
  exact vi_retz (dec_of DX9_readHeight 74 rfl) rfl (by first | omega | exact bnd_r _ _ | exact hG _ _ | exact hK _ | (simp (disch := decide) only [uN_s, uN_n]; omega)) ⟨by decide, by decide⟩ (hz)
set_option maxRecDepth 100000 in
set_option maxHeartbeats 4000000 in
theorem q_r88_y {I N : Nat → Int} {F : Nat → Int → Int} {K : Nat → Int} {G : Nat → Int → Int} (hv : Iv K G) {n0 : Nat} {Z : XW → Option Value → Prop} {c d : Int} (hc : 97 ≤ c ∧ c ≤ 109) (hd : -1 ≤ d ∧ d < 256) (h26 : K 26 = 0) (h : d = 121) (hf : ¬ K 25 = 20) (hz : Z (W2 I N F (sgK 25 2 (K 63) K) (ptG K G 3 (c - 97))) (some (J (K 63)))) : Vd (rm 2 43 0 0) [] mX9_readHeight n0 Z 0 0 88 [some (.ref 31), some (J c), some (J d), some (J (K 63)), none] [] (W2 I N F K G) := by
  obtain ⟨hP, hK, hG, hB, hL⟩ := hv
  have hM := hP.1
  have hM0 := hM
  unfold MR at hM
  obtain ⟨_, p23, p24, p25, p10, p29, p14, p20, p60, p61, p62, p63, p64, p26, p3, p15⟩ := hP
  refine v_iload_n (dec_of DX9_readHeight 50 rfl) rfl ?_
  refine vi_bi (dec_of DX9_readHeight 51 rfl) (by decide) ?_
  refine vi_icmp_eq (tgt := 100) (dec_of DX9_readHeight 52 rfl) (by decide) (by first | omega | exact bnd_r _ _ | exact hG _ _ | exact hK _ | (simp (disch := decide) only [uN_s, uN_n]; omega)) (by first | omega | exact bnd_r _ _ | exact hG _ _ | exact hK _ | (simp (disch := decide) only [uN_s, uN_n]; omega)) (fun c91 => absurd c91 (by omega)) (fun c91 => ?_)
  refine v_iload_n (dec_of DX9_readHeight 53 rfl) rfl ?_
  refine vi_bi (dec_of DX9_readHeight 54 rfl) (by decide) ?_
  refine vi_icmp_ne (tgt := 208) (dec_of DX9_readHeight 55 rfl) (by decide) (by first | omega | exact bnd_r _ _ | exact hG _ _ | exact hK _ | (simp (disch := decide) only [uN_s, uN_n]; omega)) (by first | omega | exact bnd_r _ _ | exact hG _ _ | exact hK _ | (simp (disch := decide) only [uN_s, uN_n]; omega)) (fun c97 => absurd c97 (by omega)) (fun c97 => ?_)
  refine v_iload_n (dec_of DX9_readHeight 56 rfl) rfl ?_
  refine vi_bi (dec_of DX9_readHeight 57 rfl) (by decide) ?_
  refine vi_icmp_ne (tgt := 113) (dec_of DX9_readHeight 58 rfl) (by decide) (by first | omega | exact bnd_r _ _ | exact hG _ _ | exact hK _ | (simp (disch := decide) only [uN_s, uN_n]; omega)) (by first | omega | exact bnd_r _ _ | exact hG _ _ | exact hK _ | (simp (disch := decide) only [uN_s, uN_n]; omega)) (fun c103 => ?_) (fun c103 => absurd c103 (by omega))
  refine v_aload_n (dec_of DX9_readHeight 62 rfl) rfl ?_
  refine v_get fX9_160 (dec_of DX9_readHeight 63 rfl) rfl rfl ?_
  try simp (disch := decide) only [uN_s, uN_n]
  refine v_istore (dec_of DX9_readHeight 64 rfl) (by decide) ?_
  dsimp only [List.set]
  refine v_iload (dec_of DX9_readHeight 65 rfl) rfl ?_
  refine vi_bi (dec_of DX9_readHeight 66 rfl) (by decide) ?_
  refine vi_icmp_ne (tgt := 137) (dec_of DX9_readHeight 67 rfl) (by decide) (by first | omega | exact bnd_r _ _ | exact hG _ _ | exact hK _ | (simp (disch := decide) only [uN_s, uN_n]; omega)) (by first | omega | exact bnd_r _ _ | exact hG _ _ | exact hK _ | (simp (disch := decide) only [uN_s, uN_n]; omega)) (fun c123 => ?_) (fun c123 => absurd c123 (by omega))
  refine v_aload_n (dec_of DX9_readHeight 75 rfl) rfl ?_
  refine v_dup (dec_of DX9_readHeight 76 rfl) rfl ?_
  refine v_get fX9_157 (dec_of DX9_readHeight 77 rfl) rfl rfl ?_
  try simp (disch := decide) only [uN_s, uN_n]
  refine v_iload_n (dec_of DX9_readHeight 78 rfl) rfl ?_
  refine vi_bi (dec_of DX9_readHeight 79 rfl) (by decide) ?_
  refine vi_icmp_ne (tgt := 152) (dec_of DX9_readHeight 80 rfl) (by decide) (by first | omega | exact bnd_r _ _ | exact hG _ _ | exact hK _ | (simp (disch := decide) only [uN_s, uN_n]; omega)) (by first | omega | exact bnd_r _ _ | exact hG _ _ | exact hK _ | (simp (disch := decide) only [uN_s, uN_n]; omega)) (fun c145 => ?_) (fun c145 => absurd c145 (by omega))
  refine vi_const (dec_of DX9_readHeight 83 rfl) ?_
  refine vi_add (dec_of DX9_readHeight 84 rfl) ?_
  refine mp_24 fX9_157 (dec_of DX9_readHeight 85 rfl) ?_
  refine v_aload_n (dec_of DX9_readHeight 86 rfl) rfl ?_
  refine v_dup (dec_of DX9_readHeight 87 rfl) rfl ?_
  refine v_get fX9_160 (dec_of DX9_readHeight 88 rfl) rfl rfl ?_
  try simp (disch := decide) only [uN_s, uN_n]
  refine v_iload_n (dec_of DX9_readHeight 89 rfl) rfl ?_
  refine vi_bi (dec_of DX9_readHeight 90 rfl) (by decide) ?_
  refine vi_icmp_ne (tgt := 172) (dec_of DX9_readHeight 91 rfl) (by decide) (by first | omega | exact bnd_r _ _ | exact hG _ _ | exact hK _ | (simp (disch := decide) only [uN_s, uN_n]; omega)) (by first | omega | exact bnd_r _ _ | exact hG _ _ | exact hK _ | (simp (disch := decide) only [uN_s, uN_n]; omega)) (fun c165 => absurd c165 (by omega)) (fun c165 => ?_)
  refine vi_const (dec_of DX9_readHeight 92 rfl) ?_
  refine v_goto (tgt := 173) (dec_of DX9_readHeight 93 rfl) (by decide) ?_
  refine vi_add (dec_of DX9_readHeight 95 rfl) ?_
  refine mp_25 fX9_160 (dec_of DX9_readHeight 96 rfl) ?_
  refine v_aload_n (dec_of DX9_readHeight 97 rfl) rfl ?_
  refine v_iload_n (dec_of DX9_readHeight 98 rfl) rfl ?_
  refine vi_bi (dec_of DX9_readHeight 99 rfl) (by decide) ?_
  refine vi_icmp_ne (tgt := 188) (dec_of DX9_readHeight 100 rfl) (by decide) (by first | omega | exact bnd_r _ _ | exact hG _ _ | exact hK _ | (simp (disch := decide) only [uN_s, uN_n]; omega)) (by first | omega | exact bnd_r _ _ | exact hG _ _ | exact hK _ | (simp (disch := decide) only [uN_s, uN_n]; omega)) (fun c181 => ?_) (fun c181 => absurd c181 (by omega))
  refine vi_const (dec_of DX9_readHeight 103 rfl) ?_
  refine v_iload_n (dec_of DX9_readHeight 104 rfl) rfl ?_
  refine vi_bi (dec_of DX9_readHeight 105 rfl) (by decide) ?_
  refine vi_sub (dec_of DX9_readHeight 106 rfl) ?_
  refine v_V2v (q_put (by simp (disch := decide) only [uN_s, uN_n]; omega) (by simp (disch := decide) only [uN_s, uN_n]; omega)) lX9_201 (dec_of DX9_readHeight 107 rfl) rfl rfl (by decide) (nle rfl) rfl ?_
  try simp (disch := decide) only [uN_s, uN_n]
  refine v_aload_n (dec_of DX9_readHeight 108 rfl) rfl ?_
  refine v_dup (dec_of DX9_readHeight 109 rfl) rfl ?_
  refine v_get fX9_169 (dec_of DX9_readHeight 110 rfl) rfl rfl ?_
  try simp (disch := decide) only [uN_s, uN_n]
  refine vi_const (dec_of DX9_readHeight 111 rfl) ?_
  refine vi_add (dec_of DX9_readHeight 112 rfl) ?_
  refine mp_29 fX9_169 (dec_of DX9_readHeight 113 rfl) ?_
  refine v_iload_n (dec_of DX9_readHeight 114 rfl) rfl ?_
  exact vi_retz (dec_of DX9_readHeight 115 rfl) rfl (by first | omega | exact bnd_r _ _ | exact hG _ _ | exact hK _ | (simp (disch := decide) only [uN_s, uN_n]; omega)) ⟨by decide, by decide⟩ (by rw [show K 24 + 0 = K 24 by omega]; exact hz)
set_option maxRecDepth 100000 in
set_option maxHeartbeats 4000000 in
theorem q_rh_y_full {I N : Nat → Int} {F : Nat → Int → Int} {K : Nat → Int} {G : Nat → Int → Int} (hv : Iv K G) {c d : Int} (hc : 97 ≤ c ∧ c ≤ 109) (hd : -1 ≤ d ∧ d < 256) (h26 : K 26 = 0) (h : d = 121) (hf : K 25 = 20) : Sd (rm 2 43 0 0) mX9_readHeight [.ref 31, J c, J d, J (K 63)] (W2 I N F K G) (W2 I N F (wrK K 2) G) (some (J (K 63))) := by
  unfold Sd
  refine sp_of (ls := [some (.ref 31), some (J c), some (J d), some (J (K 63)), none]) (by decide) (nle rfl) rfl rfl ?_
  refine v_iload_n (dec_of DX9_readHeight 0 rfl) rfl ?_
  refine vi_bi (dec_of DX9_readHeight 1 rfl) (by decide) ?_
  refine vi_icmp_eq (tgt := 12) (dec_of DX9_readHeight 2 rfl) (by decide) (by first | omega | exact bnd_r _ _ | exact hG _ _ | exact hK _ | (simp (disch := decide) only [uN_s, uN_n]; omega)) (by first | omega | exact bnd_r _ _ | exact hG _ _ | exact hK _ | (simp (disch := decide) only [uN_s, uN_n]; omega)) (fun c3 => ?_) (fun c3 => ?_)
  · refine v_iload_n (dec_of DX9_readHeight 6 rfl) rfl ?_
    refine vi_bi (dec_of DX9_readHeight 7 rfl) (by decide) ?_
    refine vi_icmp_lt (tgt := 88) (dec_of DX9_readHeight 8 rfl) (by decide) (by first | omega | exact bnd_r _ _ | exact hG _ _ | exact hK _ | (simp (disch := decide) only [uN_s, uN_n]; omega)) (by first | omega | exact bnd_r _ _ | exact hG _ _ | exact hK _ | (simp (disch := decide) only [uN_s, uN_n]; omega)) (fun c15 => absurd c15 (by omega)) (fun c15 => ?_)
    refine v_iload_n (dec_of DX9_readHeight 9 rfl) rfl ?_
    refine vi_bi (dec_of DX9_readHeight 10 rfl) (by decide) ?_
    refine vi_icmp_gt (tgt := 88) (dec_of DX9_readHeight 11 rfl) (by decide) (by first | omega | exact bnd_r _ _ | exact hG _ _ | exact hK _ | (simp (disch := decide) only [uN_s, uN_n]; omega)) (by first | omega | exact bnd_r _ _ | exact hG _ _ | exact hK _ | (simp (disch := decide) only [uN_s, uN_n]; omega)) (fun c21 => ?_) (fun c21 => absurd c21 (by omega))
    exact q_r88_y_full hv hc hd h26 h hf ⟨rfl, rfl⟩
  · refine v_iload_n (dec_of DX9_readHeight 3 rfl) rfl ?_
    refine vi_bi (dec_of DX9_readHeight 4 rfl) (by decide) ?_
    refine vi_icmp_ne (tgt := 88) (dec_of DX9_readHeight 5 rfl) (by decide) (by first | omega | exact bnd_r _ _ | exact hG _ _ | exact hK _ | (simp (disch := decide) only [uN_s, uN_n]; omega)) (by first | omega | exact bnd_r _ _ | exact hG _ _ | exact hK _ | (simp (disch := decide) only [uN_s, uN_n]; omega)) (fun c9 => ?_) (fun c9 => ?_)
    · exact q_r88_y_full hv hc hd h26 h hf ⟨rfl, rfl⟩
    · refine v_iload_n (dec_of DX9_readHeight 6 rfl) rfl ?_
      refine vi_bi (dec_of DX9_readHeight 7 rfl) (by decide) ?_
      refine vi_icmp_lt (tgt := 88) (dec_of DX9_readHeight 8 rfl) (by decide) (by first | omega | exact bnd_r _ _ | exact hG _ _ | exact hK _ | (simp (disch := decide) only [uN_s, uN_n]; omega)) (by first | omega | exact bnd_r _ _ | exact hG _ _ | exact hK _ | (simp (disch := decide) only [uN_s, uN_n]; omega)) (fun c15 => absurd c15 (by omega)) (fun c15 => ?_)
      refine v_iload_n (dec_of DX9_readHeight 9 rfl) rfl ?_
      refine vi_bi (dec_of DX9_readHeight 10 rfl) (by decide) ?_
      refine vi_icmp_gt (tgt := 88) (dec_of DX9_readHeight 11 rfl) (by decide) (by first | omega | exact bnd_r _ _ | exact hG _ _ | exact hK _ | (simp (disch := decide) only [uN_s, uN_n]; omega)) (by first | omega | exact bnd_r _ _ | exact hG _ _ | exact hK _ | (simp (disch := decide) only [uN_s, uN_n]; omega)) (fun c21 => ?_) (fun c21 => absurd c21 (by omega))
      exact q_r88_y_full hv hc hd h26 h hf ⟨rfl, rfl⟩
set_option maxRecDepth 100000 in
set_option maxHeartbeats 4000000 in
theorem q_rh_y {I N : Nat → Int} {F : Nat → Int → Int} {K : Nat → Int} {G : Nat → Int → Int} (hv : Iv K G) {c d : Int} (hc : 97 ≤ c ∧ c ≤ 109) (hd : -1 ≤ d ∧ d < 256) (h26 : K 26 = 0) (h : d = 121) (hf : ¬ K 25 = 20) : Sd (rm 2 43 0 0) mX9_readHeight [.ref 31, J c, J d, J (K 63)] (W2 I N F K G) (W2 I N F (sgK 25 2 (K 63) K) (ptG K G 3 (c - 97))) (some (J (K 63))) := by
  unfold Sd
  refine sp_of (ls := [some (.ref 31), some (J c), some (J d), some (J (K 63)), none]) (by decide) (nle rfl) rfl rfl ?_
  refine v_iload_n (dec_of DX9_readHeight 0 rfl) rfl ?_
  refine vi_bi (dec_of DX9_readHeight 1 rfl) (by decide) ?_
  refine vi_icmp_eq (tgt := 12) (dec_of DX9_readHeight 2 rfl) (by decide) (by first | omega | exact bnd_r _ _ | exact hG _ _ | exact hK _ | (simp (disch := decide) only [uN_s, uN_n]; omega)) (by first | omega | exact bnd_r _ _ | exact hG _ _ | exact hK _ | (simp (disch := decide) only [uN_s, uN_n]; omega)) (fun c3 => ?_) (fun c3 => ?_)
  · refine v_iload_n (dec_of DX9_readHeight 6 rfl) rfl ?_
    refine vi_bi (dec_of DX9_readHeight 7 rfl) (by decide) ?_
    refine vi_icmp_lt (tgt := 88) (dec_of DX9_readHeight 8 rfl) (by decide) (by first | omega | exact bnd_r _ _ | exact hG _ _ | exact hK _ | (simp (disch := decide) only [uN_s, uN_n]; omega)) (by first | omega | exact bnd_r _ _ | exact hG _ _ | exact hK _ | (simp (disch := decide) only [uN_s, uN_n]; omega)) (fun c15 => absurd c15 (by omega)) (fun c15 => ?_)
    refine v_iload_n (dec_of DX9_readHeight 9 rfl) rfl ?_
    refine vi_bi (dec_of DX9_readHeight 10 rfl) (by decide) ?_
    refine vi_icmp_gt (tgt := 88) (dec_of DX9_readHeight 11 rfl) (by decide) (by first | omega | exact bnd_r _ _ | exact hG _ _ | exact hK _ | (simp (disch := decide) only [uN_s, uN_n]; omega)) (by first | omega | exact bnd_r _ _ | exact hG _ _ | exact hK _ | (simp (disch := decide) only [uN_s, uN_n]; omega)) (fun c21 => ?_) (fun c21 => absurd c21 (by omega))
    exact q_r88_y hv hc hd h26 h hf ⟨rfl, rfl⟩
  · refine v_iload_n (dec_of DX9_readHeight 3 rfl) rfl ?_
    refine vi_bi (dec_of DX9_readHeight 4 rfl) (by decide) ?_
    refine vi_icmp_ne (tgt := 88) (dec_of DX9_readHeight 5 rfl) (by decide) (by first | omega | exact bnd_r _ _ | exact hG _ _ | exact hK _ | (simp (disch := decide) only [uN_s, uN_n]; omega)) (by first | omega | exact bnd_r _ _ | exact hG _ _ | exact hK _ | (simp (disch := decide) only [uN_s, uN_n]; omega)) (fun c9 => ?_) (fun c9 => ?_)
    · exact q_r88_y hv hc hd h26 h hf ⟨rfl, rfl⟩
    · refine v_iload_n (dec_of DX9_readHeight 6 rfl) rfl ?_
      refine vi_bi (dec_of DX9_readHeight 7 rfl) (by decide) ?_
      refine vi_icmp_lt (tgt := 88) (dec_of DX9_readHeight 8 rfl) (by decide) (by first | omega | exact bnd_r _ _ | exact hG _ _ | exact hK _ | (simp (disch := decide) only [uN_s, uN_n]; omega)) (by first | omega | exact bnd_r _ _ | exact hG _ _ | exact hK _ | (simp (disch := decide) only [uN_s, uN_n]; omega)) (fun c15 => absurd c15 (by omega)) (fun c15 => ?_)
      refine v_iload_n (dec_of DX9_readHeight 9 rfl) rfl ?_
      refine vi_bi (dec_of DX9_readHeight 10 rfl) (by decide) ?_
      refine vi_icmp_gt (tgt := 88) (dec_of DX9_readHeight 11 rfl) (by decide) (by first | omega | exact bnd_r _ _ | exact hG _ _ | exact hK _ | (simp (disch := decide) only [uN_s, uN_n]; omega)) (by first | omega | exact bnd_r _ _ | exact hG _ _ | exact hK _ | (simp (disch := decide) only [uN_s, uN_n]; omega)) (fun c21 => ?_) (fun c21 => absurd c21 (by omega))
      exact q_r88_y hv hc hd h26 h hf ⟨rfl, rfl⟩
set_option maxRecDepth 100000 in
set_option maxHeartbeats 4000000 in
theorem q_r88_n_full {I N : Nat → Int} {F : Nat → Int → Int} {K : Nat → Int} {G : Nat → Int → Int} (hv : Iv K G) {n0 : Nat} {Z : XW → Option Value → Prop} {c d : Int} (hc : 97 ≤ c ∧ c ≤ 109) (hd : -1 ≤ d ∧ d < 256) (h26 : K 26 = 0) (h : ¬ d = 120 ∧ ¬ d = 121) (hf : K 15 = 150) (hz : Z (W2 I N F (wrK K 2) G) (some (J (K 63)))) : Vd (rm 2 43 0 0) [] mX9_readHeight n0 Z 0 0 88 [some (.ref 31), some (J c), some (J d), some (J (K 63)), none] [] (W2 I N F K G) := by
  obtain ⟨hP, hK, hG, hB, hL⟩ := hv
  have hM := hP.1
  have hM0 := hM
  unfold MR at hM
  obtain ⟨_, p23, p24, p25, p10, p29, p14, p20, p60, p61, p62, p63, p64, p26, p3, p15⟩ := hP
  refine v_iload_n (dec_of DX9_readHeight 50 rfl) rfl ?_
  refine vi_bi (dec_of DX9_readHeight 51 rfl) (by decide) ?_
  refine vi_icmp_eq (tgt := 100) (dec_of DX9_readHeight 52 rfl) (by decide) (by first | omega | exact bnd_r _ _ | exact hG _ _ | exact hK _ | (simp (disch := decide) only [uN_s, uN_n]; omega)) (by first | omega | exact bnd_r _ _ | exact hG _ _ | exact hK _ | (simp (disch := decide) only [uN_s, uN_n]; omega)) (fun c91 => absurd c91 (by omega)) (fun c91 => ?_)
  refine v_iload_n (dec_of DX9_readHeight 53 rfl) rfl ?_
  refine vi_bi (dec_of DX9_readHeight 54 rfl) (by decide) ?_
  refine vi_icmp_ne (tgt := 208) (dec_of DX9_readHeight 55 rfl) (by decide) (by first | omega | exact bnd_r _ _ | exact hG _ _ | exact hK _ | (simp (disch := decide) only [uN_s, uN_n]; omega)) (by first | omega | exact bnd_r _ _ | exact hG _ _ | exact hK _ | (simp (disch := decide) only [uN_s, uN_n]; omega)) (fun c97 => ?_) (fun c97 => absurd c97 (by omega))
  refine v_aload_n (dec_of DX9_readHeight 116 rfl) rfl ?_
  refine v_get fX9_142 (dec_of DX9_readHeight 117 rfl) rfl rfl ?_
  refine vi_si (dec_of DX9_readHeight 118 rfl) (by decide) ?_
  refine vi_icmp_ne (tgt := 229) (dec_of DX9_readHeight 119 rfl) (by decide) (by first | omega | exact bnd_r _ _ | exact hG _ _ | exact hK _ | (simp (disch := decide) only [uN_s, uN_n]; omega)) (by first | omega | exact bnd_r _ _ | exact hG _ _ | exact hK _ | (simp (disch := decide) only [uN_s, uN_n]; omega)) (fun c215 => absurd c215 (by omega)) (fun c215 => ?_)
  refine v_aload_n (dec_of DX9_readHeight 120 rfl) rfl ?_
  refine vi_const (dec_of DX9_readHeight 121 rfl) ?_
  refine v_aload_n (dec_of DX9_readHeight 122 rfl) rfl ?_
  refine v_get fX9_169 (dec_of DX9_readHeight 123 rfl) rfl rfl ?_
  refine v_V2v (q_wrong0 hG hK hM0 h26) lX9_172 (dec_of DX9_readHeight 124 rfl) rfl rfl (by decide) (nle rfl) rfl ?_
  refine v_iload_n (dec_of DX9_readHeight 125 rfl) rfl ?_
  exact vi_retz (dec_of DX9_readHeight 126 rfl) rfl (by first | omega | exact bnd_r _ _ | exact hG _ _ | exact hK _ | (simp (disch := decide) only [uN_s, uN_n]; omega)) ⟨by decide, by decide⟩ (hz)
set_option maxRecDepth 100000 in
set_option maxHeartbeats 4000000 in
theorem q_rh_nf {I N : Nat → Int} {F : Nat → Int → Int} {K : Nat → Int} {G : Nat → Int → Int} (hv : Iv K G) {c d : Int} (hc : 97 ≤ c ∧ c ≤ 109) (hd : -1 ≤ d ∧ d < 256) (h26 : K 26 = 0) (hn : ¬ ((c = 99 ∨ c = 102) ∧ 49 ≤ d ∧ d ≤ 52)) (h : ¬ d = 120 ∧ ¬ d = 121) (hf : K 15 = 150) : Sd (rm 2 43 0 0) mX9_readHeight [.ref 31, J c, J d, J (K 63)] (W2 I N F K G) (W2 I N F (wrK K 2) G) (some (J (K 63))) := by
  unfold Sd
  refine sp_of (ls := [some (.ref 31), some (J c), some (J d), some (J (K 63)), none]) (by decide) (nle rfl) rfl rfl ?_
  refine v_iload_n (dec_of DX9_readHeight 0 rfl) rfl ?_
  refine vi_bi (dec_of DX9_readHeight 1 rfl) (by decide) ?_
  refine vi_icmp_eq (tgt := 12) (dec_of DX9_readHeight 2 rfl) (by decide) (by first | omega | exact bnd_r _ _ | exact hG _ _ | exact hK _ | (simp (disch := decide) only [uN_s, uN_n]; omega)) (by first | omega | exact bnd_r _ _ | exact hG _ _ | exact hK _ | (simp (disch := decide) only [uN_s, uN_n]; omega)) (fun c3 => ?_) (fun c3 => ?_)
  · refine v_iload_n (dec_of DX9_readHeight 6 rfl) rfl ?_
    refine vi_bi (dec_of DX9_readHeight 7 rfl) (by decide) ?_
    refine vi_icmp_lt (tgt := 88) (dec_of DX9_readHeight 8 rfl) (by decide) (by first | omega | exact bnd_r _ _ | exact hG _ _ | exact hK _ | (simp (disch := decide) only [uN_s, uN_n]; omega)) (by first | omega | exact bnd_r _ _ | exact hG _ _ | exact hK _ | (simp (disch := decide) only [uN_s, uN_n]; omega)) (fun c15 => ?_) (fun c15 => ?_)
    · exact q_r88_n_full hv hc hd h26 h hf ⟨rfl, rfl⟩
    · refine v_iload_n (dec_of DX9_readHeight 9 rfl) rfl ?_
      refine vi_bi (dec_of DX9_readHeight 10 rfl) (by decide) ?_
      refine vi_icmp_gt (tgt := 88) (dec_of DX9_readHeight 11 rfl) (by decide) (by first | omega | exact bnd_r _ _ | exact hG _ _ | exact hK _ | (simp (disch := decide) only [uN_s, uN_n]; omega)) (by first | omega | exact bnd_r _ _ | exact hG _ _ | exact hK _ | (simp (disch := decide) only [uN_s, uN_n]; omega)) (fun c21 => ?_) (fun c21 => ?_)
      · exact q_r88_n_full hv hc hd h26 h hf ⟨rfl, rfl⟩
      · exact absurd ⟨by omega, by omega, by omega⟩ hn
  · refine v_iload_n (dec_of DX9_readHeight 3 rfl) rfl ?_
    refine vi_bi (dec_of DX9_readHeight 4 rfl) (by decide) ?_
    refine vi_icmp_ne (tgt := 88) (dec_of DX9_readHeight 5 rfl) (by decide) (by first | omega | exact bnd_r _ _ | exact hG _ _ | exact hK _ | (simp (disch := decide) only [uN_s, uN_n]; omega)) (by first | omega | exact bnd_r _ _ | exact hG _ _ | exact hK _ | (simp (disch := decide) only [uN_s, uN_n]; omega)) (fun c9 => ?_) (fun c9 => ?_)
    · exact q_r88_n_full hv hc hd h26 h hf ⟨rfl, rfl⟩
    · refine v_iload_n (dec_of DX9_readHeight 6 rfl) rfl ?_
      refine vi_bi (dec_of DX9_readHeight 7 rfl) (by decide) ?_
      refine vi_icmp_lt (tgt := 88) (dec_of DX9_readHeight 8 rfl) (by decide) (by first | omega | exact bnd_r _ _ | exact hG _ _ | exact hK _ | (simp (disch := decide) only [uN_s, uN_n]; omega)) (by first | omega | exact bnd_r _ _ | exact hG _ _ | exact hK _ | (simp (disch := decide) only [uN_s, uN_n]; omega)) (fun c15 => ?_) (fun c15 => ?_)
      · exact q_r88_n_full hv hc hd h26 h hf ⟨rfl, rfl⟩
      · refine v_iload_n (dec_of DX9_readHeight 9 rfl) rfl ?_
        refine vi_bi (dec_of DX9_readHeight 10 rfl) (by decide) ?_
        refine vi_icmp_gt (tgt := 88) (dec_of DX9_readHeight 11 rfl) (by decide) (by first | omega | exact bnd_r _ _ | exact hG _ _ | exact hK _ | (simp (disch := decide) only [uN_s, uN_n]; omega)) (by first | omega | exact bnd_r _ _ | exact hG _ _ | exact hK _ | (simp (disch := decide) only [uN_s, uN_n]; omega)) (fun c21 => ?_) (fun c21 => ?_)
        · exact q_r88_n_full hv hc hd h26 h hf ⟨rfl, rfl⟩
        · exact absurd ⟨by omega, by omega, by omega⟩ hn
theorem ms_in {K : Nat → Int} {G : Nat → Int → Int} (h26 : K 26 = 0) (h60 : K 60 = 1) : mstep K G = mIn (byB K G (K 29)) (byB K G (K 29 + 1)) K G := by
  unfold mstep
  rw [if_neg (by omega), if_neg (by omega)]
theorem ms_out {K : Nat → Int} {G : Nat → Int → Int} (h26 : K 26 = 0) (h60 : K 60 = 0) (hl : K 29 < K 28) : mstep K G = mOut (byB K G (K 29)) K G := by
  unfold mstep
  rw [if_neg (by omega), if_pos h60]
theorem ms_mk {K : Nat → Int} {G : Nat → Int → Int} (h26 : K 26 = 0) (h60 : K 60 = 1) (h64 : K 64 = 1) (hm : ¬ mkOf (byB K G (K 29)) = 0) (hb : bnd (G 17 (K 15 - 1)) (mkOf (byB K G (K 29))) = 0) : mstep K G = (adv K 1, mkG (mkOf (byB K G (K 29))) K G) := by
  rw [ms_in h26 h60]
  unfold mIn
  rw [if_pos ⟨h64, hm⟩, if_pos hb]
theorem ms_m3 {K : Nat → Int} {G : Nat → Int → Int} (h26 : K 26 = 0) (h60 : K 60 = 1) (h64 : K 64 = 1) (hm : ¬ mkOf (byB K G (K 29)) = 0) (hb : ¬ bnd (G 17 (K 15 - 1)) (mkOf (byB K G (K 29))) = 0) : mstep K G = (adv (wrK K 3) 1, mkG (mkOf (byB K G (K 29))) K G) := by
  rw [ms_in h26 h60]
  unfold mIn
  rw [if_pos ⟨h64, hm⟩, if_neg hb]
theorem mk_af {c : Int} (h : 97 ≤ c ∧ c ≤ 109) : mkOf c = 0 := by
  unfold mkOf
  rw [if_neg (by omega), if_neg (by omega), if_neg (by omega), if_neg (by omega), if_neg (by omega)]
theorem ms_ht {K : Nat → Int} {G : Nat → Int → Int} (h26 : K 26 = 0) (h60 : K 60 = 1) (hc : 97 ≤ byB K G (K 29) ∧ byB K G (K 29) ≤ 109) : mstep K G = mHt (byB K G (K 29)) (byB K G (K 29 + 1)) K G := by
  rw [ms_in h26 h60]
  unfold mIn
  rw [if_neg (fun q => q.2 (mk_af hc)), if_neg (by omega), if_pos hc]
theorem Iv_of {K K' : Nat → Int} {G G' : Nat → Int → Int} (hv : Iv K G) (h : mstep K G = (K', G')) : Iv K' G' := by
  have := Iv_step hv
  rw [h] at this
  exact this
set_option maxRecDepth 100000 in
set_option maxHeartbeats 4000000 in
theorem q_mk_loop {I N : Nat → Int} {F : Nat → Int → Int} {n0 : Nat} {Z : XW → Option Value → Prop} {c d p : Int} : ∀ (n : Nat) (K : Nat → Int) (G : Nat → Int → Int), Iv K G → K 60 = 1 → K 64 = 1 → (K 26 = 0 → K 28 - K 29 < n) → (∀ (K1 : Nat → Int) (G1 : Nat → Int → Int), Rch (K, G) (K1, G1) → (¬ K1 26 = 0 ∨ mkOf (byB K1 G1 (K1 29)) = 0) → K1 60 = 1 → K1 63 = K 63 → K 29 ≤ K1 29 → K1 62 = K 62 → Z (W2 I N F K1 G1) (some (J 0))) → Vd (rm 2 43 0 0) [] mX9_readHeight n0 Z 0 0 339 [some (.ref 31), some (J c), some (J d), some (J p), some (J (mkOf (byB K G (K 29))))] [] (W2 I N F K G) := by
  intro n
  induction n with
  | zero =>
    intro K G hv h60 h64 hn hz
    have hv0 := hv
    obtain ⟨hP, hK, hG, hB, hL⟩ := hv
    have hM := hP.1
    have hM0 := hM
    unfold MR at hM
    obtain ⟨_, p23, p24, p25, p10, p29, p14, p20, p60, p61, p62, p63, p64, p26, p3, p15⟩ := hP
    have hbr := byB_r hB p29.1
    have hmr := mkOf_r (byB K G (K 29))
    by_cases m0 : mkOf (byB K G (K 29)) = 0
    · have hz := hz K G (Rch.refl _) (Or.inr m0) h60 rfl (by omega) rfl
      refine v_iload (dec_of DX9_readHeight 192 rfl) rfl ?_
      refine vi_if_le (tgt := 416) (dec_of DX9_readHeight 193 rfl) (by decide) (by first | omega | exact bnd_r _ _ | exact hG _ _ | exact hK _ | (simp (disch := decide) only [uN_s, uN_n]; omega)) (fun c341 => ?_) (fun c341 => absurd c341 (by omega))
      refine vi_const (dec_of DX9_readHeight 235 rfl) ?_
      exact vi_retz (dec_of DX9_readHeight 236 rfl) rfl (by first | omega | exact bnd_r _ _ | exact hG _ _ | exact hK _ | (simp (disch := decide) only [uN_s, uN_n]; omega)) ⟨by decide, by decide⟩ (hz)
    by_cases f0 : K 26 = 0
    · skip
      exact absurd (hn f0) (by omega)
    · have hz := hz K G (Rch.refl _) (Or.inl f0) h60 rfl (by omega) rfl
      refine v_iload (dec_of DX9_readHeight 192 rfl) rfl ?_
      refine vi_if_le (tgt := 416) (dec_of DX9_readHeight 193 rfl) (by decide) (by first | omega | exact bnd_r _ _ | exact hG _ _ | exact hK _ | (simp (disch := decide) only [uN_s, uN_n]; omega)) (fun c341 => absurd c341 (by omega)) (fun c341 => ?_)
      refine v_aload_n (dec_of DX9_readHeight 194 rfl) rfl ?_
      refine v_get fX9_130 (dec_of DX9_readHeight 195 rfl) rfl rfl ?_
      refine vi_if_ne (tgt := 416) (dec_of DX9_readHeight 196 rfl) (by decide) (by first | omega | exact bnd_r _ _ | exact hG _ _ | exact hK _ | (simp (disch := decide) only [uN_s, uN_n]; omega)) (fun c348 => ?_) (fun c348 => absurd c348 (by omega))
      refine vi_const (dec_of DX9_readHeight 235 rfl) ?_
      exact vi_retz (dec_of DX9_readHeight 236 rfl) rfl (by first | omega | exact bnd_r _ _ | exact hG _ _ | exact hK _ | (simp (disch := decide) only [uN_s, uN_n]; omega)) ⟨by decide, by decide⟩ (hz)
  | succ n ih =>
    intro K G hv h60 h64 hn hz
    have hv0 := hv
    obtain ⟨hP, hK, hG, hB, hL⟩ := hv
    have hM := hP.1
    have hM0 := hM
    unfold MR at hM
    obtain ⟨_, p23, p24, p25, p10, p29, p14, p20, p60, p61, p62, p63, p64, p26, p3, p15⟩ := hP
    have hbr := byB_r hB p29.1
    have hmr := mkOf_r (byB K G (K 29))
    by_cases m0 : mkOf (byB K G (K 29)) = 0
    · have hz := hz K G (Rch.refl _) (Or.inr m0) h60 rfl (by omega) rfl
      refine v_iload (dec_of DX9_readHeight 192 rfl) rfl ?_
      refine vi_if_le (tgt := 416) (dec_of DX9_readHeight 193 rfl) (by decide) (by first | omega | exact bnd_r _ _ | exact hG _ _ | exact hK _ | (simp (disch := decide) only [uN_s, uN_n]; omega)) (fun c341 => ?_) (fun c341 => absurd c341 (by omega))
      refine vi_const (dec_of DX9_readHeight 235 rfl) ?_
      exact vi_retz (dec_of DX9_readHeight 236 rfl) rfl (by first | omega | exact bnd_r _ _ | exact hG _ _ | exact hK _ | (simp (disch := decide) only [uN_s, uN_n]; omega)) ⟨by decide, by decide⟩ (hz)
    by_cases f0 : K 26 = 0
    · skip
      have h15 : 0 < K 15 := p15 ⟨h64, h60⟩
      have hlt : K 29 < K 28 := by
        by_cases e : byB K G (K 29) = -1
        · rw [e] at m0; exact absurd rfl m0
        · omega
      by_cases hb : bnd (G 17 (K 15 - 1)) (mkOf (byB K G (K 29))) = 0
      · have e := ms_mk f0 h60 h64 m0 hb
        have hv1 := Iv_of hv0 e
        have hP1 := hv1.1
        refine v_iload (dec_of DX9_readHeight 192 rfl) rfl ?_
        refine vi_if_le (tgt := 416) (dec_of DX9_readHeight 193 rfl) (by decide) (by first | omega | exact bnd_r _ _ | exact hG _ _ | exact hK _ | (simp (disch := decide) only [uN_s, uN_n]; omega)) (fun c341 => absurd c341 (by omega)) (fun c341 => ?_)
        refine v_aload_n (dec_of DX9_readHeight 194 rfl) rfl ?_
        refine v_get fX9_130 (dec_of DX9_readHeight 195 rfl) rfl rfl ?_
        try simp (disch := decide) only [uN_s, uN_n]
        refine vi_if_ne (tgt := 416) (dec_of DX9_readHeight 196 rfl) (by decide) (by first | omega | exact bnd_r _ _ | exact hG _ _ | exact hK _ | (simp (disch := decide) only [uN_s, uN_n]; omega)) (fun c348 => absurd c348 (by omega)) (fun c348 => ?_)
        refine v_aload_n (dec_of DX9_readHeight 197 rfl) rfl ?_
        refine v_get fX9_46 (dec_of DX9_readHeight 198 rfl) rfl rfl ?_
        try simp (disch := decide) only [uN_s, uN_n]
        refine v_aload_n (dec_of DX9_readHeight 199 rfl) rfl ?_
        refine v_get fX9_142 (dec_of DX9_readHeight 200 rfl) rfl rfl ?_
        try simp (disch := decide) only [uN_s, uN_n]
        refine vi_const (dec_of DX9_readHeight 201 rfl) ?_
        refine vi_sub (dec_of DX9_readHeight 202 rfl) ?_
        refine vi_aload (dec_of DX9_readHeight 203 rfl) rfl (by first | omega | exact bnd_r _ _ | exact hG _ _ | exact hK _ | (simp (disch := decide) only [uN_s, uN_n]; omega)) (by decide) ?_
        try simp (disch := decide) only [uN_s, uN_n]
        refine v_iload (dec_of DX9_readHeight 204 rfl) rfl ?_
        refine vi_and (dec_of DX9_readHeight 205 rfl) ?_
        refine vi_if_eq (tgt := 377) (dec_of DX9_readHeight 206 rfl) (by decide) (by first | omega | exact bnd_r _ _ | exact hG _ _ | exact hK _ | (simp (disch := decide) only [uN_s, uN_n]; omega)) (fun c365 => ?_) (fun c365 => absurd c365 (by omega))
        refine v_aload_n (dec_of DX9_readHeight 212 rfl) rfl ?_
        refine v_get fX9_46 (dec_of DX9_readHeight 213 rfl) rfl rfl ?_
        try simp (disch := decide) only [uN_s, uN_n]
        refine v_aload_n (dec_of DX9_readHeight 214 rfl) rfl ?_
        refine v_get fX9_142 (dec_of DX9_readHeight 215 rfl) rfl rfl ?_
        try simp (disch := decide) only [uN_s, uN_n]
        refine vi_const (dec_of DX9_readHeight 216 rfl) ?_
        refine vi_sub (dec_of DX9_readHeight 217 rfl) ?_
        refine v_dup2 (dec_of DX9_readHeight 218 rfl) rfl rfl ?_
        refine vi_aload (dec_of DX9_readHeight 219 rfl) rfl (by first | omega | exact bnd_r _ _ | exact hG _ _ | exact hK _ | (simp (disch := decide) only [uN_s, uN_n]; omega)) (by decide) ?_
        try simp (disch := decide) only [uN_s, uN_n]
        refine v_iload (dec_of DX9_readHeight 220 rfl) rfl ?_
        refine vi_or (dec_of DX9_readHeight 221 rfl) ?_
        refine ms_17 (dec_of DX9_readHeight 222 rfl) (by first | omega | exact bnd_r _ _ | exact hG _ _ | exact hK _ | (simp (disch := decide) only [uN_s, uN_n]; omega)) ?_
        refine v_aload_n (dec_of DX9_readHeight 223 rfl) rfl ?_
        refine v_dup (dec_of DX9_readHeight 224 rfl) rfl ?_
        refine v_get fX9_169 (dec_of DX9_readHeight 225 rfl) rfl rfl ?_
        try simp (disch := decide) only [uN_s, uN_n]
        refine vi_const (dec_of DX9_readHeight 226 rfl) ?_
        refine vi_add (dec_of DX9_readHeight 227 rfl) ?_
        refine mp_29 fX9_169 (dec_of DX9_readHeight 228 rfl) ?_
        refine Vd_w (w' := W2 I N F (adv K 1) (mkG (mkOf (byB K G (K 29))) K G)) rfl ?_
        refine v_aload_n (dec_of DX9_readHeight 229 rfl) rfl ?_
        refine v_aload_n (dec_of DX9_readHeight 230 rfl) rfl ?_
        refine v_get fX9_169 (dec_of DX9_readHeight 231 rfl) rfl rfl ?_
        try simp (disch := decide) only [uN_s, uN_n]
        refine v_V1r (q_markAt hv1.2.2.1 hv1.2.1 hP1.1 (show 0 ≤ K 29 + 1 ∧ K 29 + 1 ≤ 100000 by omega)) lX9_204 (dec_of DX9_readHeight 232 rfl) rfl rfl (by decide) (nle rfl) rfl ?_
        try simp (disch := decide) only [uN_s, uN_n]
        refine v_istore (dec_of DX9_readHeight 233 rfl) (by decide) ?_
        dsimp only [List.set]
        refine v_goto (tgt := 339) (dec_of DX9_readHeight 234 rfl) (by decide) ?_
        refine ih (adv K 1) (mkG (mkOf (byB K G (K 29))) K G) hv1 h60 h64 (fun q => ?_) (fun K1 G1 r a b c e4 e5 => hz K1 G1 ((Rch.step e).trans r) a b c (Int.le_trans (show K 29 ≤ K 29 + 1 by omega) e4) e5)
        show K 28 - (K 29 + 1) < n
        omega
      · have e := ms_m3 f0 h60 h64 m0 hb
        have hv1 := Iv_of hv0 e
        have hP1 := hv1.1
        refine v_iload (dec_of DX9_readHeight 192 rfl) rfl ?_
        refine vi_if_le (tgt := 416) (dec_of DX9_readHeight 193 rfl) (by decide) (by first | omega | exact bnd_r _ _ | exact hG _ _ | exact hK _ | (simp (disch := decide) only [uN_s, uN_n]; omega)) (fun c341 => absurd c341 (by omega)) (fun c341 => ?_)
        refine v_aload_n (dec_of DX9_readHeight 194 rfl) rfl ?_
        refine v_get fX9_130 (dec_of DX9_readHeight 195 rfl) rfl rfl ?_
        try simp (disch := decide) only [uN_s, uN_n]
        refine vi_if_ne (tgt := 416) (dec_of DX9_readHeight 196 rfl) (by decide) (by first | omega | exact bnd_r _ _ | exact hG _ _ | exact hK _ | (simp (disch := decide) only [uN_s, uN_n]; omega)) (fun c348 => absurd c348 (by omega)) (fun c348 => ?_)
        refine v_aload_n (dec_of DX9_readHeight 197 rfl) rfl ?_
        refine v_get fX9_46 (dec_of DX9_readHeight 198 rfl) rfl rfl ?_
        try simp (disch := decide) only [uN_s, uN_n]
        refine v_aload_n (dec_of DX9_readHeight 199 rfl) rfl ?_
        refine v_get fX9_142 (dec_of DX9_readHeight 200 rfl) rfl rfl ?_
        try simp (disch := decide) only [uN_s, uN_n]
        refine vi_const (dec_of DX9_readHeight 201 rfl) ?_
        refine vi_sub (dec_of DX9_readHeight 202 rfl) ?_
        refine vi_aload (dec_of DX9_readHeight 203 rfl) rfl (by first | omega | exact bnd_r _ _ | exact hG _ _ | exact hK _ | (simp (disch := decide) only [uN_s, uN_n]; omega)) (by decide) ?_
        try simp (disch := decide) only [uN_s, uN_n]
        refine v_iload (dec_of DX9_readHeight 204 rfl) rfl ?_
        refine vi_and (dec_of DX9_readHeight 205 rfl) ?_
        refine vi_if_eq (tgt := 377) (dec_of DX9_readHeight 206 rfl) (by decide) (by first | omega | exact bnd_r _ _ | exact hG _ _ | exact hK _ | (simp (disch := decide) only [uN_s, uN_n]; omega)) (fun c365 => absurd c365 (by omega)) (fun c365 => ?_)
        refine v_aload_n (dec_of DX9_readHeight 207 rfl) rfl ?_
        refine vi_const (dec_of DX9_readHeight 208 rfl) ?_
        refine v_aload_n (dec_of DX9_readHeight 209 rfl) rfl ?_
        refine v_get fX9_169 (dec_of DX9_readHeight 210 rfl) rfl rfl ?_
        try simp (disch := decide) only [uN_s, uN_n]
        refine v_V2v (q_wrong0 hG hK hM0 f0) lX9_172 (dec_of DX9_readHeight 211 rfl) rfl rfl (by decide) (nle rfl) rfl ?_
        try simp (disch := decide) only [uN_s, uN_n]
        refine v_aload_n (dec_of DX9_readHeight 212 rfl) rfl ?_
        refine v_get fX9_46 (dec_of DX9_readHeight 213 rfl) rfl rfl ?_
        try simp (disch := decide) only [uN_s, uN_n]
        refine v_aload_n (dec_of DX9_readHeight 214 rfl) rfl ?_
        refine v_get fX9_142 (dec_of DX9_readHeight 215 rfl) rfl rfl ?_
        try simp (disch := decide) only [uN_s, uN_n]
        refine vi_const (dec_of DX9_readHeight 216 rfl) ?_
        refine vi_sub (dec_of DX9_readHeight 217 rfl) ?_
        refine v_dup2 (dec_of DX9_readHeight 218 rfl) rfl rfl ?_
        refine vi_aload (dec_of DX9_readHeight 219 rfl) rfl (by first | omega | exact bnd_r _ _ | exact hG _ _ | exact hK _ | (simp (disch := decide) only [uN_s, uN_n]; omega)) (by decide) ?_
        try simp (disch := decide) only [uN_s, uN_n]
        refine v_iload (dec_of DX9_readHeight 220 rfl) rfl ?_
        refine vi_or (dec_of DX9_readHeight 221 rfl) ?_
        refine ms_17 (dec_of DX9_readHeight 222 rfl) (by first | omega | exact bnd_r _ _ | exact hG _ _ | exact hK _ | (simp (disch := decide) only [uN_s, uN_n]; omega)) ?_
        refine v_aload_n (dec_of DX9_readHeight 223 rfl) rfl ?_
        refine v_dup (dec_of DX9_readHeight 224 rfl) rfl ?_
        refine v_get fX9_169 (dec_of DX9_readHeight 225 rfl) rfl rfl ?_
        try simp (disch := decide) only [uN_s, uN_n]
        refine vi_const (dec_of DX9_readHeight 226 rfl) ?_
        refine vi_add (dec_of DX9_readHeight 227 rfl) ?_
        refine mp_29 fX9_169 (dec_of DX9_readHeight 228 rfl) ?_
        refine Vd_w (w' := W2 I N F (adv (wrK K 3) 1) (mkG (mkOf (byB K G (K 29))) K G)) rfl ?_
        refine v_aload_n (dec_of DX9_readHeight 229 rfl) rfl ?_
        refine v_aload_n (dec_of DX9_readHeight 230 rfl) rfl ?_
        refine v_get fX9_169 (dec_of DX9_readHeight 231 rfl) rfl rfl ?_
        try simp (disch := decide) only [uN_s, uN_n]
        refine v_V1r (q_markAt hv1.2.2.1 hv1.2.1 hP1.1 (show 0 ≤ K 29 + 1 ∧ K 29 + 1 ≤ 100000 by omega)) lX9_204 (dec_of DX9_readHeight 232 rfl) rfl rfl (by decide) (nle rfl) rfl ?_
        try simp (disch := decide) only [uN_s, uN_n]
        refine v_istore (dec_of DX9_readHeight 233 rfl) (by decide) ?_
        dsimp only [List.set]
        refine v_goto (tgt := 339) (dec_of DX9_readHeight 234 rfl) (by decide) ?_
        refine ih (adv (wrK K 3) 1) (mkG (mkOf (byB K G (K 29))) K G) hv1 h60 h64 (fun q => ?_) (fun K1 G1 r a b c e4 e5 => hz K1 G1 ((Rch.step e).trans r) a b c (Int.le_trans (show K 29 ≤ K 29 + 1 by omega) e4) e5)
        exact absurd q (show ¬ (3 : Int) = 0 by decide)
    · have hz := hz K G (Rch.refl _) (Or.inl f0) h60 rfl (by omega) rfl
      refine v_iload (dec_of DX9_readHeight 192 rfl) rfl ?_
      refine vi_if_le (tgt := 416) (dec_of DX9_readHeight 193 rfl) (by decide) (by first | omega | exact bnd_r _ _ | exact hG _ _ | exact hK _ | (simp (disch := decide) only [uN_s, uN_n]; omega)) (fun c341 => absurd c341 (by omega)) (fun c341 => ?_)
      refine v_aload_n (dec_of DX9_readHeight 194 rfl) rfl ?_
      refine v_get fX9_130 (dec_of DX9_readHeight 195 rfl) rfl rfl ?_
      refine vi_if_ne (tgt := 416) (dec_of DX9_readHeight 196 rfl) (by decide) (by first | omega | exact bnd_r _ _ | exact hG _ _ | exact hK _ | (simp (disch := decide) only [uN_s, uN_n]; omega)) (fun c348 => ?_) (fun c348 => absurd c348 (by omega))
      refine vi_const (dec_of DX9_readHeight 235 rfl) ?_
      exact vi_retz (dec_of DX9_readHeight 236 rfl) rfl (by first | omega | exact bnd_r _ _ | exact hG _ _ | exact hK _ | (simp (disch := decide) only [uN_s, uN_n]; omega)) ⟨by decide, by decide⟩ (hz)
set_option maxRecDepth 100000 in
set_option maxHeartbeats 4000000 in
theorem q_r88_n {I N : Nat → Int} {F : Nat → Int → Int} {K : Nat → Int} {G : Nat → Int → Int} (hv : Iv K G) {n0 : Nat} {Z : XW → Option Value → Prop} {c d : Int} (hc : 97 ≤ c ∧ c ≤ 109) (hd : -1 ≤ d ∧ d < 256) (h26 : K 26 = 0) (h60 : K 60 = 1) (ec : c = byB K G (K 29)) (ed : d = byB K G (K 29 + 1)) (hn : ¬ ((c = 99 ∨ c = 102) ∧ 49 ≤ d ∧ d ≤ 52)) (h : ¬ d = 120 ∧ ¬ d = 121) (hf : ¬ K 15 = 150) (hz : ∀ (K1 : Nat → Int) (G1 : Nat → Int → Int), Rch (K, G) (K1, G1) → (¬ K1 26 = 0 ∨ mkOf (byB K1 G1 (K1 29)) = 0) → K1 60 = 1 → K1 63 = 0 → K 29 < K1 29 → K1 62 = K 62 → Z (W2 I N F K1 G1) (some (J 0))) : Vd (rm 2 43 0 0) [] mX9_readHeight n0 Z 0 0 88 [some (.ref 31), some (J c), some (J d), some (J (K 63)), none] [] (W2 I N F K G) := by
  have hv0 := hv
  obtain ⟨hP, hK, hG, hB, hL⟩ := hv
  have hM := hP.1
  have hM0 := hM
  unfold MR at hM
  obtain ⟨_, p23, p24, p25, p10, p29, p14, p20, p60, p61, p62, p63, p64, p26, p3, p15⟩ := hP
  have e : mstep K G = (ntK K, ntG (c - 97) K G) := by
    rw [ms_ht h26 h60 (by omega), ← ec, ← ed]
    unfold mHt
    rw [if_neg hn, if_neg h.1, if_neg h.2, if_neg hf]
  have hv1 := Iv_of hv0 e
  have hP1 := hv1.1
  refine v_iload_n (dec_of DX9_readHeight 50 rfl) rfl ?_
  refine vi_bi (dec_of DX9_readHeight 51 rfl) (by decide) ?_
  refine vi_icmp_eq (tgt := 100) (dec_of DX9_readHeight 52 rfl) (by decide) (by first | omega | exact bnd_r _ _ | exact hG _ _ | exact hK _ | (simp (disch := decide) only [uN_s, uN_n]; omega)) (by first | omega | exact bnd_r _ _ | exact hG _ _ | exact hK _ | (simp (disch := decide) only [uN_s, uN_n]; omega)) (fun c91 => absurd c91 (by omega)) (fun c91 => ?_)
  refine v_iload_n (dec_of DX9_readHeight 53 rfl) rfl ?_
  refine vi_bi (dec_of DX9_readHeight 54 rfl) (by decide) ?_
  refine vi_icmp_ne (tgt := 208) (dec_of DX9_readHeight 55 rfl) (by decide) (by first | omega | exact bnd_r _ _ | exact hG _ _ | exact hK _ | (simp (disch := decide) only [uN_s, uN_n]; omega)) (by first | omega | exact bnd_r _ _ | exact hG _ _ | exact hK _ | (simp (disch := decide) only [uN_s, uN_n]; omega)) (fun c97 => ?_) (fun c97 => absurd c97 (by omega))
  refine v_aload_n (dec_of DX9_readHeight 116 rfl) rfl ?_
  refine v_get fX9_142 (dec_of DX9_readHeight 117 rfl) rfl rfl ?_
  try simp (disch := decide) only [uN_s, uN_n]
  refine vi_si (dec_of DX9_readHeight 118 rfl) (by decide) ?_
  refine vi_icmp_ne (tgt := 229) (dec_of DX9_readHeight 119 rfl) (by decide) (by first | omega | exact bnd_r _ _ | exact hG _ _ | exact hK _ | (simp (disch := decide) only [uN_s, uN_n]; omega)) (by first | omega | exact bnd_r _ _ | exact hG _ _ | exact hK _ | (simp (disch := decide) only [uN_s, uN_n]; omega)) (fun c215 => ?_) (fun c215 => absurd c215 (by omega))
  refine v_aload_n (dec_of DX9_readHeight 127 rfl) rfl ?_
  refine v_dup (dec_of DX9_readHeight 128 rfl) rfl ?_
  refine v_get fX9_145 (dec_of DX9_readHeight 129 rfl) rfl rfl ?_
  try simp (disch := decide) only [uN_s, uN_n]
  refine v_iload_n (dec_of DX9_readHeight 130 rfl) rfl ?_
  refine vi_if_eq (tgt := 242) (dec_of DX9_readHeight 131 rfl) (by decide) (by first | omega | exact bnd_r _ _ | exact hG _ _ | exact hK _ | (simp (disch := decide) only [uN_s, uN_n]; omega)) (fun c235 => ?_) (fun c235 => ?_)
  · refine vi_const (dec_of DX9_readHeight 134 rfl) ?_
    refine vi_add (dec_of DX9_readHeight 135 rfl) ?_
    first | rw [show K 20 + 1 = K 20 + K 63 by omega] | rw [show K 20 + 0 = K 20 + K 63 by omega]
    refine mp_20 fX9_145 (dec_of DX9_readHeight 136 rfl) ?_
    refine v_aload_n (dec_of DX9_readHeight 137 rfl) rfl ?_
    refine vi_const (dec_of DX9_readHeight 138 rfl) ?_
    refine v_iload_n (dec_of DX9_readHeight 139 rfl) rfl ?_
    refine vi_bi (dec_of DX9_readHeight 140 rfl) (by decide) ?_
    refine vi_sub (dec_of DX9_readHeight 141 rfl) ?_
    refine v_V2v (q_put (by simp (disch := decide) only [uN_s, uN_n]; omega) (by simp (disch := decide) only [uN_s, uN_n]; omega)) lX9_201 (dec_of DX9_readHeight 142 rfl) rfl rfl (by decide) (nle rfl) rfl ?_
    try simp (disch := decide) only [uN_s, uN_n]
    refine Vd_w (w' := W2 I N F (uN (uN K 20 (K 20 + K 63)) 10 (K 10 + 1)) (ptG K G 1 (c - 97))) rfl ?_
    refine v_aload_n (dec_of DX9_readHeight 143 rfl) rfl ?_
    refine v_get fX9_43 (dec_of DX9_readHeight 144 rfl) rfl rfl ?_
    try simp (disch := decide) only [uN_s, uN_n]
    refine v_aload_n (dec_of DX9_readHeight 145 rfl) rfl ?_
    refine v_get fX9_142 (dec_of DX9_readHeight 146 rfl) rfl rfl ?_
    try simp (disch := decide) only [uN_s, uN_n]
    refine v_iload_n (dec_of DX9_readHeight 147 rfl) rfl ?_
    refine vi_bi (dec_of DX9_readHeight 148 rfl) (by decide) ?_
    refine vi_sub (dec_of DX9_readHeight 149 rfl) ?_
    refine ms_16 (dec_of DX9_readHeight 150 rfl) (by first | omega | exact bnd_r _ _ | exact hG _ _ | exact hK _ | (simp (disch := decide) only [uN_s, uN_n]; omega)) ?_
    refine v_aload_n (dec_of DX9_readHeight 151 rfl) rfl ?_
    refine v_get fX9_46 (dec_of DX9_readHeight 152 rfl) rfl rfl ?_
    try simp (disch := decide) only [uN_s, uN_n]
    refine v_aload_n (dec_of DX9_readHeight 153 rfl) rfl ?_
    refine v_get fX9_142 (dec_of DX9_readHeight 154 rfl) rfl rfl ?_
    try simp (disch := decide) only [uN_s, uN_n]
    refine vi_const (dec_of DX9_readHeight 155 rfl) ?_
    refine ms_17 (dec_of DX9_readHeight 156 rfl) (by first | omega | exact bnd_r _ _ | exact hG _ _ | exact hK _ | (simp (disch := decide) only [uN_s, uN_n]; omega)) ?_
    refine v_aload_n (dec_of DX9_readHeight 157 rfl) rfl ?_
    refine v_get fX9_49 (dec_of DX9_readHeight 158 rfl) rfl rfl ?_
    try simp (disch := decide) only [uN_s, uN_n]
    refine v_aload_n (dec_of DX9_readHeight 159 rfl) rfl ?_
    refine v_get fX9_142 (dec_of DX9_readHeight 160 rfl) rfl rfl ?_
    try simp (disch := decide) only [uN_s, uN_n]
    refine v_aload_n (dec_of DX9_readHeight 161 rfl) rfl ?_
    refine v_get fX9_133 (dec_of DX9_readHeight 162 rfl) rfl rfl ?_
    try simp (disch := decide) only [uN_s, uN_n]
    refine vi_const (dec_of DX9_readHeight 163 rfl) ?_
    refine vi_sub (dec_of DX9_readHeight 164 rfl) ?_
    refine ms_18 (dec_of DX9_readHeight 165 rfl) (by first | omega | exact bnd_r _ _ | exact hG _ _ | exact hK _ | (simp (disch := decide) only [uN_s, uN_n]; omega)) ?_
    refine v_aload_n (dec_of DX9_readHeight 166 rfl) rfl ?_
    refine v_get fX9_52 (dec_of DX9_readHeight 167 rfl) rfl rfl ?_
    try simp (disch := decide) only [uN_s, uN_n]
    refine v_aload_n (dec_of DX9_readHeight 168 rfl) rfl ?_
    refine v_get fX9_142 (dec_of DX9_readHeight 169 rfl) rfl rfl ?_
    try simp (disch := decide) only [uN_s, uN_n]
    refine v_aload_n (dec_of DX9_readHeight 170 rfl) rfl ?_
    refine v_get fX9_145 (dec_of DX9_readHeight 171 rfl) rfl rfl ?_
    try simp (disch := decide) only [uN_s, uN_n]
    refine vi_const (dec_of DX9_readHeight 172 rfl) ?_
    refine vi_sub (dec_of DX9_readHeight 173 rfl) ?_
    refine ms_19 (dec_of DX9_readHeight 174 rfl) (by first | omega | exact bnd_r _ _ | exact hG _ _ | exact hK _ | (simp (disch := decide) only [uN_s, uN_n]; omega)) ?_
    refine v_aload_n (dec_of DX9_readHeight 175 rfl) rfl ?_
    refine v_dup (dec_of DX9_readHeight 176 rfl) rfl ?_
    refine v_get fX9_142 (dec_of DX9_readHeight 177 rfl) rfl rfl ?_
    try simp (disch := decide) only [uN_s, uN_n]
    refine vi_const (dec_of DX9_readHeight 178 rfl) ?_
    refine vi_add (dec_of DX9_readHeight 179 rfl) ?_
    refine mp_15 fX9_142 (dec_of DX9_readHeight 180 rfl) ?_
    refine v_aload_n (dec_of DX9_readHeight 181 rfl) rfl ?_
    refine v_dup (dec_of DX9_readHeight 182 rfl) rfl ?_
    refine v_get fX9_169 (dec_of DX9_readHeight 183 rfl) rfl rfl ?_
    try simp (disch := decide) only [uN_s, uN_n]
    refine vi_const (dec_of DX9_readHeight 184 rfl) ?_
    refine vi_add (dec_of DX9_readHeight 185 rfl) ?_
    refine mp_29 fX9_169 (dec_of DX9_readHeight 186 rfl) ?_
    refine Vd_w (w' := W2 I N F (ntK K) (ntG (c - 97) K G)) rfl ?_
    refine v_aload_n (dec_of DX9_readHeight 187 rfl) rfl ?_
    refine v_aload_n (dec_of DX9_readHeight 188 rfl) rfl ?_
    refine v_get fX9_169 (dec_of DX9_readHeight 189 rfl) rfl rfl ?_
    try simp (disch := decide) only [uN_s, uN_n]
    refine v_V1r (q_markAt hv1.2.2.1 hv1.2.1 hP1.1 (show 0 ≤ K 29 + 1 ∧ K 29 + 1 ≤ 100000 by omega)) lX9_204 (dec_of DX9_readHeight 190 rfl) rfl rfl (by decide) (nle rfl) rfl ?_
    try simp (disch := decide) only [uN_s, uN_n]
    refine v_istore (dec_of DX9_readHeight 191 rfl) (by decide) ?_
    dsimp only [List.set]
    refine q_mk_loop (K 28 - K 29 + 1).toNat (ntK K) (ntG (c - 97) K G) hv1 h60 rfl (fun q => ?_) (fun K1 G1 r a b e3 e4 e5 => hz K1 G1 ((Rch.step e).trans r) a b e3 (Int.lt_of_lt_of_le (show K 29 < K 29 + 1 by omega) e4) e5)
    show K 28 - (K 29 + 1) < ((K 28 - K 29 + 1).toNat : Int)
    omega
  · refine vi_const (dec_of DX9_readHeight 132 rfl) ?_
    refine v_goto (tgt := 243) (dec_of DX9_readHeight 133 rfl) (by decide) ?_
    refine vi_add (dec_of DX9_readHeight 135 rfl) ?_
    first | rw [show K 20 + 1 = K 20 + K 63 by omega] | rw [show K 20 + 0 = K 20 + K 63 by omega]
    refine mp_20 fX9_145 (dec_of DX9_readHeight 136 rfl) ?_
    refine v_aload_n (dec_of DX9_readHeight 137 rfl) rfl ?_
    refine vi_const (dec_of DX9_readHeight 138 rfl) ?_
    refine v_iload_n (dec_of DX9_readHeight 139 rfl) rfl ?_
    refine vi_bi (dec_of DX9_readHeight 140 rfl) (by decide) ?_
    refine vi_sub (dec_of DX9_readHeight 141 rfl) ?_
    refine v_V2v (q_put (by simp (disch := decide) only [uN_s, uN_n]; omega) (by simp (disch := decide) only [uN_s, uN_n]; omega)) lX9_201 (dec_of DX9_readHeight 142 rfl) rfl rfl (by decide) (nle rfl) rfl ?_
    try simp (disch := decide) only [uN_s, uN_n]
    refine Vd_w (w' := W2 I N F (uN (uN K 20 (K 20 + K 63)) 10 (K 10 + 1)) (ptG K G 1 (c - 97))) rfl ?_
    refine v_aload_n (dec_of DX9_readHeight 143 rfl) rfl ?_
    refine v_get fX9_43 (dec_of DX9_readHeight 144 rfl) rfl rfl ?_
    try simp (disch := decide) only [uN_s, uN_n]
    refine v_aload_n (dec_of DX9_readHeight 145 rfl) rfl ?_
    refine v_get fX9_142 (dec_of DX9_readHeight 146 rfl) rfl rfl ?_
    try simp (disch := decide) only [uN_s, uN_n]
    refine v_iload_n (dec_of DX9_readHeight 147 rfl) rfl ?_
    refine vi_bi (dec_of DX9_readHeight 148 rfl) (by decide) ?_
    refine vi_sub (dec_of DX9_readHeight 149 rfl) ?_
    refine ms_16 (dec_of DX9_readHeight 150 rfl) (by first | omega | exact bnd_r _ _ | exact hG _ _ | exact hK _ | (simp (disch := decide) only [uN_s, uN_n]; omega)) ?_
    refine v_aload_n (dec_of DX9_readHeight 151 rfl) rfl ?_
    refine v_get fX9_46 (dec_of DX9_readHeight 152 rfl) rfl rfl ?_
    try simp (disch := decide) only [uN_s, uN_n]
    refine v_aload_n (dec_of DX9_readHeight 153 rfl) rfl ?_
    refine v_get fX9_142 (dec_of DX9_readHeight 154 rfl) rfl rfl ?_
    try simp (disch := decide) only [uN_s, uN_n]
    refine vi_const (dec_of DX9_readHeight 155 rfl) ?_
    refine ms_17 (dec_of DX9_readHeight 156 rfl) (by first | omega | exact bnd_r _ _ | exact hG _ _ | exact hK _ | (simp (disch := decide) only [uN_s, uN_n]; omega)) ?_
    refine v_aload_n (dec_of DX9_readHeight 157 rfl) rfl ?_
    refine v_get fX9_49 (dec_of DX9_readHeight 158 rfl) rfl rfl ?_
    try simp (disch := decide) only [uN_s, uN_n]
    refine v_aload_n (dec_of DX9_readHeight 159 rfl) rfl ?_
    refine v_get fX9_142 (dec_of DX9_readHeight 160 rfl) rfl rfl ?_
    try simp (disch := decide) only [uN_s, uN_n]
    refine v_aload_n (dec_of DX9_readHeight 161 rfl) rfl ?_
    refine v_get fX9_133 (dec_of DX9_readHeight 162 rfl) rfl rfl ?_
    try simp (disch := decide) only [uN_s, uN_n]
    refine vi_const (dec_of DX9_readHeight 163 rfl) ?_
    refine vi_sub (dec_of DX9_readHeight 164 rfl) ?_
    refine ms_18 (dec_of DX9_readHeight 165 rfl) (by first | omega | exact bnd_r _ _ | exact hG _ _ | exact hK _ | (simp (disch := decide) only [uN_s, uN_n]; omega)) ?_
    refine v_aload_n (dec_of DX9_readHeight 166 rfl) rfl ?_
    refine v_get fX9_52 (dec_of DX9_readHeight 167 rfl) rfl rfl ?_
    try simp (disch := decide) only [uN_s, uN_n]
    refine v_aload_n (dec_of DX9_readHeight 168 rfl) rfl ?_
    refine v_get fX9_142 (dec_of DX9_readHeight 169 rfl) rfl rfl ?_
    try simp (disch := decide) only [uN_s, uN_n]
    refine v_aload_n (dec_of DX9_readHeight 170 rfl) rfl ?_
    refine v_get fX9_145 (dec_of DX9_readHeight 171 rfl) rfl rfl ?_
    try simp (disch := decide) only [uN_s, uN_n]
    refine vi_const (dec_of DX9_readHeight 172 rfl) ?_
    refine vi_sub (dec_of DX9_readHeight 173 rfl) ?_
    refine ms_19 (dec_of DX9_readHeight 174 rfl) (by first | omega | exact bnd_r _ _ | exact hG _ _ | exact hK _ | (simp (disch := decide) only [uN_s, uN_n]; omega)) ?_
    refine v_aload_n (dec_of DX9_readHeight 175 rfl) rfl ?_
    refine v_dup (dec_of DX9_readHeight 176 rfl) rfl ?_
    refine v_get fX9_142 (dec_of DX9_readHeight 177 rfl) rfl rfl ?_
    try simp (disch := decide) only [uN_s, uN_n]
    refine vi_const (dec_of DX9_readHeight 178 rfl) ?_
    refine vi_add (dec_of DX9_readHeight 179 rfl) ?_
    refine mp_15 fX9_142 (dec_of DX9_readHeight 180 rfl) ?_
    refine v_aload_n (dec_of DX9_readHeight 181 rfl) rfl ?_
    refine v_dup (dec_of DX9_readHeight 182 rfl) rfl ?_
    refine v_get fX9_169 (dec_of DX9_readHeight 183 rfl) rfl rfl ?_
    try simp (disch := decide) only [uN_s, uN_n]
    refine vi_const (dec_of DX9_readHeight 184 rfl) ?_
    refine vi_add (dec_of DX9_readHeight 185 rfl) ?_
    refine mp_29 fX9_169 (dec_of DX9_readHeight 186 rfl) ?_
    refine Vd_w (w' := W2 I N F (ntK K) (ntG (c - 97) K G)) rfl ?_
    refine v_aload_n (dec_of DX9_readHeight 187 rfl) rfl ?_
    refine v_aload_n (dec_of DX9_readHeight 188 rfl) rfl ?_
    refine v_get fX9_169 (dec_of DX9_readHeight 189 rfl) rfl rfl ?_
    try simp (disch := decide) only [uN_s, uN_n]
    refine v_V1r (q_markAt hv1.2.2.1 hv1.2.1 hP1.1 (show 0 ≤ K 29 + 1 ∧ K 29 + 1 ≤ 100000 by omega)) lX9_204 (dec_of DX9_readHeight 190 rfl) rfl rfl (by decide) (nle rfl) rfl ?_
    try simp (disch := decide) only [uN_s, uN_n]
    refine v_istore (dec_of DX9_readHeight 191 rfl) (by decide) ?_
    dsimp only [List.set]
    refine q_mk_loop (K 28 - K 29 + 1).toNat (ntK K) (ntG (c - 97) K G) hv1 h60 rfl (fun q => ?_) (fun K1 G1 r a b e3 e4 e5 => hz K1 G1 ((Rch.step e).trans r) a b e3 (Int.lt_of_lt_of_le (show K 29 < K 29 + 1 by omega) e4) e5)
    show K 28 - (K 29 + 1) < ((K 28 - K 29 + 1).toNat : Int)
    omega
set_option maxRecDepth 100000 in
set_option maxHeartbeats 4000000 in
theorem q_rh_n {I N : Nat → Int} {F : Nat → Int → Int} {K : Nat → Int} {G : Nat → Int → Int} (hv : Iv K G) {c d : Int} (hc : 97 ≤ c ∧ c ≤ 109) (hd : -1 ≤ d ∧ d < 256) (h26 : K 26 = 0) (h60 : K 60 = 1) (ec : c = byB K G (K 29)) (ed : d = byB K G (K 29 + 1)) (hn : ¬ ((c = 99 ∨ c = 102) ∧ 49 ≤ d ∧ d ≤ 52)) (h : ¬ d = 120 ∧ ¬ d = 121) (hf : ¬ K 15 = 150) : Sp (rm 2 43 0 0) mX9_readHeight [.ref 31, J c, J d, J (K 63)] (W2 I N F K G) (fun w r => ∃ (K1 : Nat → Int) (G1 : Nat → Int → Int), Rch (K, G) (K1, G1) ∧ w = W2 I N F K1 G1 ∧ r = some (J (K1 63)) ∧ K1 60 = 1 ∧ (¬ K1 26 = 0 ∨ K 29 < K1 29) ∧ K 29 ≤ K1 29 ∧ K1 62 = K 62 ∧ (K1 64 = 1 → ¬ K1 26 = 0 ∨ mkOf (byB K1 G1 (K1 29)) = 0)) := by
  refine sp_of (ls := [some (.ref 31), some (J c), some (J d), some (J (K 63)), none]) (by decide) (nle rfl) rfl rfl ?_
  have tl : Vd (rm 2 43 0 0) [] mX9_readHeight (W2 I N F K G).length (fun w r => ∃ (K1 : Nat → Int) (G1 : Nat → Int → Int), Rch (K, G) (K1, G1) ∧ w = W2 I N F K1 G1 ∧ r = some (J (K1 63)) ∧ K1 60 = 1 ∧ (¬ K1 26 = 0 ∨ K 29 < K1 29) ∧ K 29 ≤ K1 29 ∧ K1 62 = K 62 ∧ (K1 64 = 1 → ¬ K1 26 = 0 ∨ mkOf (byB K1 G1 (K1 29)) = 0)) 0 0 88 [some (.ref 31), some (J c), some (J d), some (J (K 63)), none] [] (W2 I N F K G) := q_r88_n hv hc hd h26 h60 ec ed hn h hf (fun K1 G1 r a b c4 e4 e5 => ⟨K1, G1, r, rfl, by rw [c4], b, Or.inr e4, Int.le_of_lt e4, e5, fun _ => a⟩)
  refine v_iload_n (dec_of DX9_readHeight 0 rfl) rfl ?_
  refine vi_bi (dec_of DX9_readHeight 1 rfl) (by decide) ?_
  refine vi_icmp_eq (tgt := 12) (dec_of DX9_readHeight 2 rfl) (by decide) (by first | omega | exact bnd_r _ _ | exact hG _ _ | exact hK _ | (simp (disch := decide) only [uN_s, uN_n]; omega)) (by first | omega | exact bnd_r _ _ | exact hG _ _ | exact hK _ | (simp (disch := decide) only [uN_s, uN_n]; omega)) (fun c3 => ?_) (fun c3 => ?_)
  · refine v_iload_n (dec_of DX9_readHeight 6 rfl) rfl ?_
    refine vi_bi (dec_of DX9_readHeight 7 rfl) (by decide) ?_
    refine vi_icmp_lt (tgt := 88) (dec_of DX9_readHeight 8 rfl) (by decide) (by first | omega | exact bnd_r _ _ | exact hG _ _ | exact hK _ | (simp (disch := decide) only [uN_s, uN_n]; omega)) (by first | omega | exact bnd_r _ _ | exact hG _ _ | exact hK _ | (simp (disch := decide) only [uN_s, uN_n]; omega)) (fun c15 => ?_) (fun c15 => ?_)
    · exact tl
    · refine v_iload_n (dec_of DX9_readHeight 9 rfl) rfl ?_
      refine vi_bi (dec_of DX9_readHeight 10 rfl) (by decide) ?_
      refine vi_icmp_gt (tgt := 88) (dec_of DX9_readHeight 11 rfl) (by decide) (by first | omega | exact bnd_r _ _ | exact hG _ _ | exact hK _ | (simp (disch := decide) only [uN_s, uN_n]; omega)) (by first | omega | exact bnd_r _ _ | exact hG _ _ | exact hK _ | (simp (disch := decide) only [uN_s, uN_n]; omega)) (fun c21 => ?_) (fun c21 => ?_)
      · exact tl
      · exact absurd ⟨by omega, by omega, by omega⟩ hn
  · refine v_iload_n (dec_of DX9_readHeight 3 rfl) rfl ?_
    refine vi_bi (dec_of DX9_readHeight 4 rfl) (by decide) ?_
    refine vi_icmp_ne (tgt := 88) (dec_of DX9_readHeight 5 rfl) (by decide) (by first | omega | exact bnd_r _ _ | exact hG _ _ | exact hK _ | (simp (disch := decide) only [uN_s, uN_n]; omega)) (by first | omega | exact bnd_r _ _ | exact hG _ _ | exact hK _ | (simp (disch := decide) only [uN_s, uN_n]; omega)) (fun c9 => ?_) (fun c9 => ?_)
    · exact tl
    · refine v_iload_n (dec_of DX9_readHeight 6 rfl) rfl ?_
      refine vi_bi (dec_of DX9_readHeight 7 rfl) (by decide) ?_
      refine vi_icmp_lt (tgt := 88) (dec_of DX9_readHeight 8 rfl) (by decide) (by first | omega | exact bnd_r _ _ | exact hG _ _ | exact hK _ | (simp (disch := decide) only [uN_s, uN_n]; omega)) (by first | omega | exact bnd_r _ _ | exact hG _ _ | exact hK _ | (simp (disch := decide) only [uN_s, uN_n]; omega)) (fun c15 => ?_) (fun c15 => ?_)
      · exact tl
      · refine v_iload_n (dec_of DX9_readHeight 9 rfl) rfl ?_
        refine vi_bi (dec_of DX9_readHeight 10 rfl) (by decide) ?_
        refine vi_icmp_gt (tgt := 88) (dec_of DX9_readHeight 11 rfl) (by decide) (by first | omega | exact bnd_r _ _ | exact hG _ _ | exact hK _ | (simp (disch := decide) only [uN_s, uN_n]; omega)) (by first | omega | exact bnd_r _ _ | exact hG _ _ | exact hK _ | (simp (disch := decide) only [uN_s, uN_n]; omega)) (fun c21 => ?_) (fun c21 => ?_)
        · exact tl
        · exact absurd ⟨by omega, by omega, by omega⟩ hn
theorem q_rh {I N : Nat → Int} {F : Nat → Int → Int} {K : Nat → Int} {G : Nat → Int → Int} (hv : Iv K G) (h26 : K 26 = 0) (h60 : K 60 = 1) (h64 : K 64 = 1 → mkOf (byB K G (K 29)) = 0) (hc : 97 ≤ byB K G (K 29) ∧ byB K G (K 29) ≤ 109) : Sp (rm 2 43 0 0) mX9_readHeight [.ref 31, J (byB K G (K 29)), J (byB K G (K 29 + 1)), J (K 63)] (W2 I N F K G) (fun w r => ∃ (K1 : Nat → Int) (G1 : Nat → Int → Int), Rch (K, G) (K1, G1) ∧ w = W2 I N F K1 G1 ∧ r = some (J (K1 63)) ∧ K1 60 = 1 ∧ (¬ K1 26 = 0 ∨ K 29 < K1 29) ∧ K 29 ≤ K1 29 ∧ K1 62 = K 62 ∧ (K1 64 = 1 → ¬ K1 26 = 0 ∨ mkOf (byB K1 G1 (K1 29)) = 0)) := by
  have p29 := hv.1.2.2.2.2.2.1
  have hd := byB_r hv.2.2.2.1 (k := K 29 + 1) (by omega)
  have hd2 : -1 ≤ byB K G (K 29 + 1) ∧ byB K G (K 29 + 1) < 256 := ⟨hd.1, hd.2.1⟩
  have e0 := ms_ht h26 h60 hc
  unfold mHt at e0
  by_cases hn : (byB K G (K 29) = 99 ∨ byB K G (K 29) = 102) ∧ 49 ≤ byB K G (K 29 + 1) ∧ byB K G (K 29 + 1) ≤ 52
  · rw [if_pos hn] at e0
    by_cases hf : K 23 = 20
    · rw [if_pos hf] at e0
      have fin : ∀ x y, (x = W2 I N F (wrK K 2) G ∧ y = some (J (K 63))) → (fun w r => ∃ (K1 : Nat → Int) (G1 : Nat → Int → Int), Rch (K, G) (K1, G1) ∧ w = W2 I N F K1 G1 ∧ r = some (J (K1 63)) ∧ K1 60 = 1 ∧ (¬ K1 26 = 0 ∨ K 29 < K1 29) ∧ K 29 ≤ K1 29 ∧ K1 62 = K 62 ∧ (K1 64 = 1 → ¬ K1 26 = 0 ∨ mkOf (byB K1 G1 (K1 29)) = 0)) x y := fun x y h => ⟨_, _, Rch.step e0, h.1, h.2, h60, Or.inl (show ¬ (2 : Int) = 0 by decide), Int.le_refl _, rfl, fun _ => Or.inl (show ¬ (2 : Int) = 0 by decide)⟩
      rcases hn.1 with h | h
      · exact Sp.wk (q_rh_c_full hv hc hd2 h26 h hn.2 hf) fin
      · exact Sp.wk (q_rh_f_full hv hc hd2 h26 h hn.2 hf) fin
    · rw [if_neg hf] at e0
      have fin : ∀ x y, (x = W2 I N F (sgK 23 2 1 K) (ptG K G 4 ((if byB K G (K 29) = 102 then 10 else 0) + byB K G (K 29 + 1) - 48)) ∧ y = some (J 1)) → (fun w r => ∃ (K1 : Nat → Int) (G1 : Nat → Int → Int), Rch (K, G) (K1, G1) ∧ w = W2 I N F K1 G1 ∧ r = some (J (K1 63)) ∧ K1 60 = 1 ∧ (¬ K1 26 = 0 ∨ K 29 < K1 29) ∧ K 29 ≤ K1 29 ∧ K1 62 = K 62 ∧ (K1 64 = 1 → ¬ K1 26 = 0 ∨ mkOf (byB K1 G1 (K1 29)) = 0)) x y := fun x y h => ⟨_, _, Rch.step e0, h.1, h.2, h60, Or.inr (show K 29 < K 29 + 2 by omega), (show K 29 ≤ K 29 + 2 by omega), rfl, fun q => absurd (show (0 : Int) = 1 from q) (by decide)⟩
      rcases hn.1 with h | h
      · exact Sp.wk (q_rh_c hv hc hd2 h26 h hn.2 hf) fin
      · exact Sp.wk (q_rh_f hv hc hd2 h26 h hn.2 hf) fin
  rw [if_neg hn] at e0
  have full : mstep K G = (wrK K 2, G) → ∀ x y, (x = W2 I N F (wrK K 2) G ∧ y = some (J (K 63))) → (fun w r => ∃ (K1 : Nat → Int) (G1 : Nat → Int → Int), Rch (K, G) (K1, G1) ∧ w = W2 I N F K1 G1 ∧ r = some (J (K1 63)) ∧ K1 60 = 1 ∧ (¬ K1 26 = 0 ∨ K 29 < K1 29) ∧ K 29 ≤ K1 29 ∧ K1 62 = K 62 ∧ (K1 64 = 1 → ¬ K1 26 = 0 ∨ mkOf (byB K1 G1 (K1 29)) = 0)) x y := fun e0 x y h => ⟨_, _, Rch.step e0, h.1, h.2, h60, Or.inl (show ¬ (2 : Int) = 0 by decide), Int.le_refl _, rfl, fun _ => Or.inl (show ¬ (2 : Int) = 0 by decide)⟩
  by_cases h1 : byB K G (K 29 + 1) = 120
  · rw [if_pos h1] at e0
    by_cases hf : K 24 = 20
    · rw [if_pos hf] at e0
      exact Sp.wk (q_rh_x_full hv hc hd2 h26 h1 hf) (full e0)
    · rw [if_neg hf] at e0
      exact Sp.wk (q_rh_x hv hc hd2 h26 h1 hf) (fun x y h => ⟨_, _, Rch.step e0, h.1, h.2, h60, Or.inr (show K 29 < K 29 + 2 by omega), (show K 29 ≤ K 29 + 2 by omega), rfl, fun q => absurd (show (0 : Int) = 1 from q) (by decide)⟩)
  rw [if_neg h1] at e0
  by_cases h2 : byB K G (K 29 + 1) = 121
  · rw [if_pos h2] at e0
    by_cases hf : K 25 = 20
    · rw [if_pos hf] at e0
      exact Sp.wk (q_rh_y_full hv hc hd2 h26 h2 hf) (full e0)
    · rw [if_neg hf] at e0
      exact Sp.wk (q_rh_y hv hc hd2 h26 h2 hf) (fun x y h => ⟨_, _, Rch.step e0, h.1, h.2, h60, Or.inr (show K 29 < K 29 + 2 by omega), (show K 29 ≤ K 29 + 2 by omega), rfl, fun q => absurd (show (0 : Int) = 1 from q) (by decide)⟩)
  rw [if_neg h2] at e0
  by_cases hf : K 15 = 150
  · rw [if_pos hf] at e0
    exact Sp.wk (q_rh_nf hv hc hd2 h26 hn ⟨h1, h2⟩ hf) (full e0)
  · exact q_rh_n hv hc hd2 h26 h60 rfl rfl hn ⟨h1, h2⟩ hf
