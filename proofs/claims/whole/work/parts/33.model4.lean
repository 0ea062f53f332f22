/-! the reference: feed, fit, half, sung (printed by wip/tools/gen_m4.py) -/
def fdM (g : Int → Int) (n a1 a2 a3 a4 a5 : Int) : Int → Int := (uI (uI (uI (uI (uI (uI (uI (uI (uI (uI (uI (uI (uI (uI (uI (uI (uI (uI (uI (uI g (n) (bnd (bsr a1 24) 255)) (n + 1) (bnd (bsr a1 16) 255)) (n + 1 + 1) (bnd (bsr a1 8) 255)) (n + 1 + 1 + 1) (bnd (bsr a1 0) 255)) (n + 1 + 1 + 1 + 1) (bnd (bsr a2 24) 255)) (n + 1 + 1 + 1 + 1 + 1) (bnd (bsr a2 16) 255)) (n + 1 + 1 + 1 + 1 + 1 + 1) (bnd (bsr a2 8) 255)) (n + 1 + 1 + 1 + 1 + 1 + 1 + 1) (bnd (bsr a2 0) 255)) (n + 1 + 1 + 1 + 1 + 1 + 1 + 1 + 1) (bnd (bsr a3 24) 255)) (n + 1 + 1 + 1 + 1 + 1 + 1 + 1 + 1 + 1) (bnd (bsr a3 16) 255)) (n + 1 + 1 + 1 + 1 + 1 + 1 + 1 + 1 + 1 + 1) (bnd (bsr a3 8) 255)) (n + 1 + 1 + 1 + 1 + 1 + 1 + 1 + 1 + 1 + 1 + 1) (bnd (bsr a3 0) 255)) (n + 1 + 1 + 1 + 1 + 1 + 1 + 1 + 1 + 1 + 1 + 1 + 1) (bnd (bsr a4 24) 255)) (n + 1 + 1 + 1 + 1 + 1 + 1 + 1 + 1 + 1 + 1 + 1 + 1 + 1) (bnd (bsr a4 16) 255)) (n + 1 + 1 + 1 + 1 + 1 + 1 + 1 + 1 + 1 + 1 + 1 + 1 + 1 + 1) (bnd (bsr a4 8) 255)) (n + 1 + 1 + 1 + 1 + 1 + 1 + 1 + 1 + 1 + 1 + 1 + 1 + 1 + 1 + 1) (bnd (bsr a4 0) 255)) (n + 1 + 1 + 1 + 1 + 1 + 1 + 1 + 1 + 1 + 1 + 1 + 1 + 1 + 1 + 1 + 1) (bnd (bsr a5 24) 255)) (n + 1 + 1 + 1 + 1 + 1 + 1 + 1 + 1 + 1 + 1 + 1 + 1 + 1 + 1 + 1 + 1 + 1) (bnd (bsr a5 16) 255)) (n + 1 + 1 + 1 + 1 + 1 + 1 + 1 + 1 + 1 + 1 + 1 + 1 + 1 + 1 + 1 + 1 + 1 + 1) (bnd (bsr a5 8) 255)) (n + 1 + 1 + 1 + 1 + 1 + 1 + 1 + 1 + 1 + 1 + 1 + 1 + 1 + 1 + 1 + 1 + 1 + 1 + 1) (bnd (bsr a5 0) 255))
set_option maxRecDepth 100000 in
set_option maxHeartbeats 4000000 in
theorem q_feed {I N : Nat → Int} {F : Nat → Int → Int} {K : Nat → Int} {G : Nat → Int → Int} (hG : FR G) (hK : IR K) (hM : MR K) {a1 a2 a3 a4 a5 : Int} (h : K 1 + 20 ≤ 1500) : Sd (rm 0 0 0 0) mX9_feed [.ref 31, J a1, J a2, J a3, J a4, J a5] (W2 I N F K G) (W2 I N F (uN K 1 (K 1 + 1 + 1 + 1 + 1 + 1 + 1 + 1 + 1 + 1 + 1 + 1 + 1 + 1 + 1 + 1 + 1 + 1 + 1 + 1 + 1)) (uN G 0 (fdM (G 0) (K 1) a1 a2 a3 a4 a5))) (some (J (K 1 + 1 + 1 + 1 + 1 + 1 + 1 + 1 + 1 + 1 + 1 + 1 + 1 + 1 + 1 + 1 + 1 + 1 + 1 + 1 + 1))) := by
  unfold Sd
  unfold MR at hM
  refine sp_of (ls := [some (.ref 31), some (J a1), some (J a2), some (J a3), some (J a4), some (J a5), none, none]) (by decide) (nle rfl) rfl rfl ?_
  refine v_aload_n (dec_of DX9_feed 0 rfl) rfl ?_
  refine v_get fX9_123 (dec_of DX9_feed 1 rfl) rfl rfl ?_
  try simp (disch := decide) only [uN_s, uN_n]
  refine vi_bi (dec_of DX9_feed 2 rfl) (by decide) ?_
  refine vi_add (dec_of DX9_feed 3 rfl) ?_
  refine vi_si (dec_of DX9_feed 4 rfl) (by decide) ?_
  refine vi_icmp_le (tgt := 16) (dec_of DX9_feed 5 rfl) (by decide) (by first | omega | exact bnd_r _ _ | exact hG _ _ | exact hK _ | (simp (disch := decide) only [uN_s, uN_n]; omega)) (by first | omega | exact bnd_r _ _ | exact hG _ _ | exact hK _ | (simp (disch := decide) only [uN_s, uN_n]; omega)) (fun c10 => ?_) (fun c10 => absurd c10 (by omega))
  refine vi_const (dec_of DX9_feed 8 rfl) ?_
  refine v_istore (dec_of DX9_feed 9 rfl) (by decide) ?_
  dsimp only [List.set]
  refine v_iload (dec_of DX9_feed 10 rfl) rfl ?_
  refine vi_bi (dec_of DX9_feed 11 rfl) (by decide) ?_
  refine vi_icmp_ge (tgt := 116) (dec_of DX9_feed 12 rfl) (by decide) (by first | omega | exact bnd_r _ _ | exact hG _ _ | exact hK _ | (simp (disch := decide) only [uN_s, uN_n]; omega)) (by first | omega | exact bnd_r _ _ | exact hG _ _ | exact hK _ | (simp (disch := decide) only [uN_s, uN_n]; omega)) (fun c23 => absurd c23 (by omega)) (fun c23 => ?_)
  refine v_iload (dec_of DX9_feed 13 rfl) rfl ?_
  refine vi_const (dec_of DX9_feed 14 rfl) ?_
  refine vi_icmp_ge (tgt := 36) (dec_of DX9_feed 15 rfl) (by decide) (by first | omega | exact bnd_r _ _ | exact hG _ _ | exact hK _ | (simp (disch := decide) only [uN_s, uN_n]; omega)) (by first | omega | exact bnd_r _ _ | exact hG _ _ | exact hK _ | (simp (disch := decide) only [uN_s, uN_n]; omega)) (fun c29 => absurd c29 (by omega)) (fun c29 => ?_)
  refine v_iload_n (dec_of DX9_feed 16 rfl) rfl ?_
  refine v_goto (tgt := 72) (dec_of DX9_feed 17 rfl) (by decide) ?_
  refine v_istore (dec_of DX9_feed 34 rfl) (by decide) ?_
  dsimp only [List.set]
  refine v_aload_n (dec_of DX9_feed 35 rfl) rfl ?_
  refine v_get fX9_7 (dec_of DX9_feed 36 rfl) rfl rfl ?_
  try simp (disch := decide) only [uN_s, uN_n]
  refine v_aload_n (dec_of DX9_feed 37 rfl) rfl ?_
  refine v_get fX9_123 (dec_of DX9_feed 38 rfl) rfl rfl ?_
  try simp (disch := decide) only [uN_s, uN_n]
  refine v_iload (dec_of DX9_feed 39 rfl) rfl ?_
  refine vi_bi (dec_of DX9_feed 40 rfl) (by decide) ?_
  refine vi_bi (dec_of DX9_feed 41 rfl) (by decide) ?_
  refine v_iload (dec_of DX9_feed 42 rfl) rfl ?_
  refine vi_const (dec_of DX9_feed 43 rfl) ?_
  refine vi_rem (by first | omega | exact bnd_r _ _ | exact hG _ _ | exact hK _ | (simp (disch := decide) only [uN_s, uN_n]; omega)) (by first | omega | exact bnd_r _ _ | exact hG _ _ | exact hK _ | (simp (disch := decide) only [uN_s, uN_n]; omega)) (dec_of DX9_feed 44 rfl) ?_
  refine vi_mul (dec_of DX9_feed 45 rfl) ?_
  refine vi_sub (dec_of DX9_feed 46 rfl) ?_
  refine vi_shr (dec_of DX9_feed 47 rfl) ?_
  refine vi_si (dec_of DX9_feed 48 rfl) (by decide) ?_
  refine vi_and (dec_of DX9_feed 49 rfl) ?_
  refine ms_0 (dec_of DX9_feed 50 rfl) (by first | omega | exact bnd_r _ _ | exact hG _ _ | exact hK _ | (simp (disch := decide) only [uN_s, uN_n]; omega)) ?_
  try rw [uN_uu]
  refine v_aload_n (dec_of DX9_feed 51 rfl) rfl ?_
  refine v_dup (dec_of DX9_feed 52 rfl) rfl ?_
  refine v_get fX9_123 (dec_of DX9_feed 53 rfl) rfl rfl ?_
  try simp (disch := decide) only [uN_s, uN_n]
  refine vi_const (dec_of DX9_feed 54 rfl) ?_
  refine vi_add (dec_of DX9_feed 55 rfl) ?_
  refine mp_1 fX9_123 (dec_of DX9_feed 56 rfl) ?_
  try rw [uN_uu]
  refine vi_inc (dec_of DX9_feed 57 rfl) rfl (by decide) ?_
  dsimp only [List.set]
  refine v_goto (tgt := 19) (dec_of DX9_feed 58 rfl) (by decide) ?_
  refine v_iload (dec_of DX9_feed 10 rfl) rfl ?_
  refine vi_bi (dec_of DX9_feed 11 rfl) (by decide) ?_
  refine vi_icmp_ge (tgt := 116) (dec_of DX9_feed 12 rfl) (by decide) (by first | omega | exact bnd_r _ _ | exact hG _ _ | exact hK _ | (simp (disch := decide) only [uN_s, uN_n]; omega)) (by first | omega | exact bnd_r _ _ | exact hG _ _ | exact hK _ | (simp (disch := decide) only [uN_s, uN_n]; omega)) (fun c23 => absurd c23 (by omega)) (fun c23 => ?_)
  refine v_iload (dec_of DX9_feed 13 rfl) rfl ?_
  refine vi_const (dec_of DX9_feed 14 rfl) ?_
  refine vi_icmp_ge (tgt := 36) (dec_of DX9_feed 15 rfl) (by decide) (by first | omega | exact bnd_r _ _ | exact hG _ _ | exact hK _ | (simp (disch := decide) only [uN_s, uN_n]; omega)) (by first | omega | exact bnd_r _ _ | exact hG _ _ | exact hK _ | (simp (disch := decide) only [uN_s, uN_n]; omega)) (fun c29 => absurd c29 (by omega)) (fun c29 => ?_)
  refine v_iload_n (dec_of DX9_feed 16 rfl) rfl ?_
  refine v_goto (tgt := 72) (dec_of DX9_feed 17 rfl) (by decide) ?_
  refine v_istore (dec_of DX9_feed 34 rfl) (by decide) ?_
  dsimp only [List.set]
  refine v_aload_n (dec_of DX9_feed 35 rfl) rfl ?_
  refine v_get fX9_7 (dec_of DX9_feed 36 rfl) rfl rfl ?_
  try simp (disch := decide) only [uN_s, uN_n]
  refine v_aload_n (dec_of DX9_feed 37 rfl) rfl ?_
  refine v_get fX9_123 (dec_of DX9_feed 38 rfl) rfl rfl ?_
  try simp (disch := decide) only [uN_s, uN_n]
  refine v_iload (dec_of DX9_feed 39 rfl) rfl ?_
  refine vi_bi (dec_of DX9_feed 40 rfl) (by decide) ?_
  refine vi_bi (dec_of DX9_feed 41 rfl) (by decide) ?_
  refine v_iload (dec_of DX9_feed 42 rfl) rfl ?_
  refine vi_const (dec_of DX9_feed 43 rfl) ?_
  refine vi_rem (by first | omega | exact bnd_r _ _ | exact hG _ _ | exact hK _ | (simp (disch := decide) only [uN_s, uN_n]; omega)) (by first | omega | exact bnd_r _ _ | exact hG _ _ | exact hK _ | (simp (disch := decide) only [uN_s, uN_n]; omega)) (dec_of DX9_feed 44 rfl) ?_
  refine vi_mul (dec_of DX9_feed 45 rfl) ?_
  refine vi_sub (dec_of DX9_feed 46 rfl) ?_
  refine vi_shr (dec_of DX9_feed 47 rfl) ?_
  refine vi_si (dec_of DX9_feed 48 rfl) (by decide) ?_
  refine vi_and (dec_of DX9_feed 49 rfl) ?_
  refine ms_0 (dec_of DX9_feed 50 rfl) (by first | omega | exact bnd_r _ _ | exact hG _ _ | exact hK _ | (simp (disch := decide) only [uN_s, uN_n]; omega)) ?_
  try rw [uN_uu]
  refine v_aload_n (dec_of DX9_feed 51 rfl) rfl ?_
  refine v_dup (dec_of DX9_feed 52 rfl) rfl ?_
  refine v_get fX9_123 (dec_of DX9_feed 53 rfl) rfl rfl ?_
  try simp (disch := decide) only [uN_s, uN_n]
  refine vi_const (dec_of DX9_feed 54 rfl) ?_
  refine vi_add (dec_of DX9_feed 55 rfl) ?_
  refine mp_1 fX9_123 (dec_of DX9_feed 56 rfl) ?_
  try rw [uN_uu]
  refine vi_inc (dec_of DX9_feed 57 rfl) rfl (by decide) ?_
  dsimp only [List.set]
  refine v_goto (tgt := 19) (dec_of DX9_feed 58 rfl) (by decide) ?_
  refine v_iload (dec_of DX9_feed 10 rfl) rfl ?_
  refine vi_bi (dec_of DX9_feed 11 rfl) (by decide) ?_
  refine vi_icmp_ge (tgt := 116) (dec_of DX9_feed 12 rfl) (by decide) (by first | omega | exact bnd_r _ _ | exact hG _ _ | exact hK _ | (simp (disch := decide) only [uN_s, uN_n]; omega)) (by first | omega | exact bnd_r _ _ | exact hG _ _ | exact hK _ | (simp (disch := decide) only [uN_s, uN_n]; omega)) (fun c23 => absurd c23 (by omega)) (fun c23 => ?_)
  refine v_iload (dec_of DX9_feed 13 rfl) rfl ?_
  refine vi_const (dec_of DX9_feed 14 rfl) ?_
  refine vi_icmp_ge (tgt := 36) (dec_of DX9_feed 15 rfl) (by decide) (by first | omega | exact bnd_r _ _ | exact hG _ _ | exact hK _ | (simp (disch := decide) only [uN_s, uN_n]; omega)) (by first | omega | exact bnd_r _ _ | exact hG _ _ | exact hK _ | (simp (disch := decide) only [uN_s, uN_n]; omega)) (fun c29 => absurd c29 (by omega)) (fun c29 => ?_)
  refine v_iload_n (dec_of DX9_feed 16 rfl) rfl ?_
  refine v_goto (tgt := 72) (dec_of DX9_feed 17 rfl) (by decide) ?_
  refine v_istore (dec_of DX9_feed 34 rfl) (by decide) ?_
  dsimp only [List.set]
  refine v_aload_n (dec_of DX9_feed 35 rfl) rfl ?_
  refine v_get fX9_7 (dec_of DX9_feed 36 rfl) rfl rfl ?_
  try simp (disch := decide) only [uN_s, uN_n]
  refine v_aload_n (dec_of DX9_feed 37 rfl) rfl ?_
  refine v_get fX9_123 (dec_of DX9_feed 38 rfl) rfl rfl ?_
  try simp (disch := decide) only [uN_s, uN_n]
  refine v_iload (dec_of DX9_feed 39 rfl) rfl ?_
  refine vi_bi (dec_of DX9_feed 40 rfl) (by decide) ?_
  refine vi_bi (dec_of DX9_feed 41 rfl) (by decide) ?_
  refine v_iload (dec_of DX9_feed 42 rfl) rfl ?_
  refine vi_const (dec_of DX9_feed 43 rfl) ?_
  refine vi_rem (by first | omega | exact bnd_r _ _ | exact hG _ _ | exact hK _ | (simp (disch := decide) only [uN_s, uN_n]; omega)) (by first | omega | exact bnd_r _ _ | exact hG _ _ | exact hK _ | (simp (disch := decide) only [uN_s, uN_n]; omega)) (dec_of DX9_feed 44 rfl) ?_
  refine vi_mul (dec_of DX9_feed 45 rfl) ?_
  refine vi_sub (dec_of DX9_feed 46 rfl) ?_
  refine vi_shr (dec_of DX9_feed 47 rfl) ?_
  refine vi_si (dec_of DX9_feed 48 rfl) (by decide) ?_
  refine vi_and (dec_of DX9_feed 49 rfl) ?_
  refine ms_0 (dec_of DX9_feed 50 rfl) (by first | omega | exact bnd_r _ _ | exact hG _ _ | exact hK _ | (simp (disch := decide) only [uN_s, uN_n]; omega)) ?_
  try rw [uN_uu]
  refine v_aload_n (dec_of DX9_feed 51 rfl) rfl ?_
  refine v_dup (dec_of DX9_feed 52 rfl) rfl ?_
  refine v_get fX9_123 (dec_of DX9_feed 53 rfl) rfl rfl ?_
  try simp (disch := decide) only [uN_s, uN_n]
  refine vi_const (dec_of DX9_feed 54 rfl) ?_
  refine vi_add (dec_of DX9_feed 55 rfl) ?_
  refine mp_1 fX9_123 (dec_of DX9_feed 56 rfl) ?_
  try rw [uN_uu]
  refine vi_inc (dec_of DX9_feed 57 rfl) rfl (by decide) ?_
  dsimp only [List.set]
  refine v_goto (tgt := 19) (dec_of DX9_feed 58 rfl) (by decide) ?_
  refine v_iload (dec_of DX9_feed 10 rfl) rfl ?_
  refine vi_bi (dec_of DX9_feed 11 rfl) (by decide) ?_
  refine vi_icmp_ge (tgt := 116) (dec_of DX9_feed 12 rfl) (by decide) (by first | omega | exact bnd_r _ _ | exact hG _ _ | exact hK _ | (simp (disch := decide) only [uN_s, uN_n]; omega)) (by first | omega | exact bnd_r _ _ | exact hG _ _ | exact hK _ | (simp (disch := decide) only [uN_s, uN_n]; omega)) (fun c23 => absurd c23 (by omega)) (fun c23 => ?_)
  refine v_iload (dec_of DX9_feed 13 rfl) rfl ?_
  refine vi_const (dec_of DX9_feed 14 rfl) ?_
  refine vi_icmp_ge (tgt := 36) (dec_of DX9_feed 15 rfl) (by decide) (by first | omega | exact bnd_r _ _ | exact hG _ _ | exact hK _ | (simp (disch := decide) only [uN_s, uN_n]; omega)) (by first | omega | exact bnd_r _ _ | exact hG _ _ | exact hK _ | (simp (disch := decide) only [uN_s, uN_n]; omega)) (fun c29 => absurd c29 (by omega)) (fun c29 => ?_)
  refine v_iload_n (dec_of DX9_feed 16 rfl) rfl ?_
  refine v_goto (tgt := 72) (dec_of DX9_feed 17 rfl) (by decide) ?_
  refine v_istore (dec_of DX9_feed 34 rfl) (by decide) ?_
  dsimp only [List.set]
  refine v_aload_n (dec_of DX9_feed 35 rfl) rfl ?_
  refine v_get fX9_7 (dec_of DX9_feed 36 rfl) rfl rfl ?_
  try simp (disch := decide) only [uN_s, uN_n]
  refine v_aload_n (dec_of DX9_feed 37 rfl) rfl ?_
  refine v_get fX9_123 (dec_of DX9_feed 38 rfl) rfl rfl ?_
  try simp (disch := decide) only [uN_s, uN_n]
  refine v_iload (dec_of DX9_feed 39 rfl) rfl ?_
  refine vi_bi (dec_of DX9_feed 40 rfl) (by decide) ?_
  refine vi_bi (dec_of DX9_feed 41 rfl) (by decide) ?_
  refine v_iload (dec_of DX9_feed 42 rfl) rfl ?_
  refine vi_const (dec_of DX9_feed 43 rfl) ?_
  refine vi_rem (by first | omega | exact bnd_r _ _ | exact hG _ _ | exact hK _ | (simp (disch := decide) only [uN_s, uN_n]; omega)) (by first | omega | exact bnd_r _ _ | exact hG _ _ | exact hK _ | (simp (disch := decide) only [uN_s, uN_n]; omega)) (dec_of DX9_feed 44 rfl) ?_
  refine vi_mul (dec_of DX9_feed 45 rfl) ?_
  refine vi_sub (dec_of DX9_feed 46 rfl) ?_
  refine vi_shr (dec_of DX9_feed 47 rfl) ?_
  refine vi_si (dec_of DX9_feed 48 rfl) (by decide) ?_
  refine vi_and (dec_of DX9_feed 49 rfl) ?_
  refine ms_0 (dec_of DX9_feed 50 rfl) (by first | omega | exact bnd_r _ _ | exact hG _ _ | exact hK _ | (simp (disch := decide) only [uN_s, uN_n]; omega)) ?_
  try rw [uN_uu]
  refine v_aload_n (dec_of DX9_feed 51 rfl) rfl ?_
  refine v_dup (dec_of DX9_feed 52 rfl) rfl ?_
  refine v_get fX9_123 (dec_of DX9_feed 53 rfl) rfl rfl ?_
  try simp (disch := decide) only [uN_s, uN_n]
  refine vi_const (dec_of DX9_feed 54 rfl) ?_
  refine vi_add (dec_of DX9_feed 55 rfl) ?_
  refine mp_1 fX9_123 (dec_of DX9_feed 56 rfl) ?_
  try rw [uN_uu]
  refine vi_inc (dec_of DX9_feed 57 rfl) rfl (by decide) ?_
  dsimp only [List.set]
  refine v_goto (tgt := 19) (dec_of DX9_feed 58 rfl) (by decide) ?_
  refine v_iload (dec_of DX9_feed 10 rfl) rfl ?_
  refine vi_bi (dec_of DX9_feed 11 rfl) (by decide) ?_
  refine vi_icmp_ge (tgt := 116) (dec_of DX9_feed 12 rfl) (by decide) (by first | omega | exact bnd_r _ _ | exact hG _ _ | exact hK _ | (simp (disch := decide) only [uN_s, uN_n]; omega)) (by first | omega | exact bnd_r _ _ | exact hG _ _ | exact hK _ | (simp (disch := decide) only [uN_s, uN_n]; omega)) (fun c23 => absurd c23 (by omega)) (fun c23 => ?_)
  refine v_iload (dec_of DX9_feed 13 rfl) rfl ?_
  refine vi_const (dec_of DX9_feed 14 rfl) ?_
  refine vi_icmp_ge (tgt := 36) (dec_of DX9_feed 15 rfl) (by decide) (by first | omega | exact bnd_r _ _ | exact hG _ _ | exact hK _ | (simp (disch := decide) only [uN_s, uN_n]; omega)) (by first | omega | exact bnd_r _ _ | exact hG _ _ | exact hK _ | (simp (disch := decide) only [uN_s, uN_n]; omega)) (fun c29 => ?_) (fun c29 => absurd c29 (by omega))
  refine v_iload (dec_of DX9_feed 18 rfl) rfl ?_
  refine vi_bi (dec_of DX9_feed 19 rfl) (by decide) ?_
  refine vi_icmp_ge (tgt := 47) (dec_of DX9_feed 20 rfl) (by decide) (by first | omega | exact bnd_r _ _ | exact hG _ _ | exact hK _ | (simp (disch := decide) only [uN_s, uN_n]; omega)) (by first | omega | exact bnd_r _ _ | exact hG _ _ | exact hK _ | (simp (disch := decide) only [uN_s, uN_n]; omega)) (fun c40 => absurd c40 (by omega)) (fun c40 => ?_)
  refine v_iload_n (dec_of DX9_feed 21 rfl) rfl ?_
  refine v_goto (tgt := 72) (dec_of DX9_feed 22 rfl) (by decide) ?_
  refine v_istore (dec_of DX9_feed 34 rfl) (by decide) ?_
  dsimp only [List.set]
  refine v_aload_n (dec_of DX9_feed 35 rfl) rfl ?_
  refine v_get fX9_7 (dec_of DX9_feed 36 rfl) rfl rfl ?_
  try simp (disch := decide) only [uN_s, uN_n]
  refine v_aload_n (dec_of DX9_feed 37 rfl) rfl ?_
  refine v_get fX9_123 (dec_of DX9_feed 38 rfl) rfl rfl ?_
  try simp (disch := decide) only [uN_s, uN_n]
  refine v_iload (dec_of DX9_feed 39 rfl) rfl ?_
  refine vi_bi (dec_of DX9_feed 40 rfl) (by decide) ?_
  refine vi_bi (dec_of DX9_feed 41 rfl) (by decide) ?_
  refine v_iload (dec_of DX9_feed 42 rfl) rfl ?_
  refine vi_const (dec_of DX9_feed 43 rfl) ?_
  refine vi_rem (by first | omega | exact bnd_r _ _ | exact hG _ _ | exact hK _ | (simp (disch := decide) only [uN_s, uN_n]; omega)) (by first | omega | exact bnd_r _ _ | exact hG _ _ | exact hK _ | (simp (disch := decide) only [uN_s, uN_n]; omega)) (dec_of DX9_feed 44 rfl) ?_
  refine vi_mul (dec_of DX9_feed 45 rfl) ?_
  refine vi_sub (dec_of DX9_feed 46 rfl) ?_
  refine vi_shr (dec_of DX9_feed 47 rfl) ?_
  refine vi_si (dec_of DX9_feed 48 rfl) (by decide) ?_
  refine vi_and (dec_of DX9_feed 49 rfl) ?_
  refine ms_0 (dec_of DX9_feed 50 rfl) (by first | omega | exact bnd_r _ _ | exact hG _ _ | exact hK _ | (simp (disch := decide) only [uN_s, uN_n]; omega)) ?_
  try rw [uN_uu]
  refine v_aload_n (dec_of DX9_feed 51 rfl) rfl ?_
  refine v_dup (dec_of DX9_feed 52 rfl) rfl ?_
  refine v_get fX9_123 (dec_of DX9_feed 53 rfl) rfl rfl ?_
  try simp (disch := decide) only [uN_s, uN_n]
  refine vi_const (dec_of DX9_feed 54 rfl) ?_
  refine vi_add (dec_of DX9_feed 55 rfl) ?_
  refine mp_1 fX9_123 (dec_of DX9_feed 56 rfl) ?_
  try rw [uN_uu]
  refine vi_inc (dec_of DX9_feed 57 rfl) rfl (by decide) ?_
  dsimp only [List.set]
  refine v_goto (tgt := 19) (dec_of DX9_feed 58 rfl) (by decide) ?_
  refine v_iload (dec_of DX9_feed 10 rfl) rfl ?_
  refine vi_bi (dec_of DX9_feed 11 rfl) (by decide) ?_
  refine vi_icmp_ge (tgt := 116) (dec_of DX9_feed 12 rfl) (by decide) (by first | omega | exact bnd_r _ _ | exact hG _ _ | exact hK _ | (simp (disch := decide) only [uN_s, uN_n]; omega)) (by first | omega | exact bnd_r _ _ | exact hG _ _ | exact hK _ | (simp (disch := decide) only [uN_s, uN_n]; omega)) (fun c23 => absurd c23 (by omega)) (fun c23 => ?_)
  refine v_iload (dec_of DX9_feed 13 rfl) rfl ?_
  refine vi_const (dec_of DX9_feed 14 rfl) ?_
  refine vi_icmp_ge (tgt := 36) (dec_of DX9_feed 15 rfl) (by decide) (by first | omega | exact bnd_r _ _ | exact hG _ _ | exact hK _ | (simp (disch := decide) only [uN_s, uN_n]; omega)) (by first | omega | exact bnd_r _ _ | exact hG _ _ | exact hK _ | (simp (disch := decide) only [uN_s, uN_n]; omega)) (fun c29 => ?_) (fun c29 => absurd c29 (by omega))
  refine v_iload (dec_of DX9_feed 18 rfl) rfl ?_
  refine vi_bi (dec_of DX9_feed 19 rfl) (by decide) ?_
  refine vi_icmp_ge (tgt := 47) (dec_of DX9_feed 20 rfl) (by decide) (by first | omega | exact bnd_r _ _ | exact hG _ _ | exact hK _ | (simp (disch := decide) only [uN_s, uN_n]; omega)) (by first | omega | exact bnd_r _ _ | exact hG _ _ | exact hK _ | (simp (disch := decide) only [uN_s, uN_n]; omega)) (fun c40 => absurd c40 (by omega)) (fun c40 => ?_)
  refine v_iload_n (dec_of DX9_feed 21 rfl) rfl ?_
  refine v_goto (tgt := 72) (dec_of DX9_feed 22 rfl) (by decide) ?_
  refine v_istore (dec_of DX9_feed 34 rfl) (by decide) ?_
  dsimp only [List.set]
  refine v_aload_n (dec_of DX9_feed 35 rfl) rfl ?_
  refine v_get fX9_7 (dec_of DX9_feed 36 rfl) rfl rfl ?_
  try simp (disch := decide) only [uN_s, uN_n]
  refine v_aload_n (dec_of DX9_feed 37 rfl) rfl ?_
  refine v_get fX9_123 (dec_of DX9_feed 38 rfl) rfl rfl ?_
  try simp (disch := decide) only [uN_s, uN_n]
  refine v_iload (dec_of DX9_feed 39 rfl) rfl ?_
  refine vi_bi (dec_of DX9_feed 40 rfl) (by decide) ?_
  refine vi_bi (dec_of DX9_feed 41 rfl) (by decide) ?_
  refine v_iload (dec_of DX9_feed 42 rfl) rfl ?_
  refine vi_const (dec_of DX9_feed 43 rfl) ?_
  refine vi_rem (by first | omega | exact bnd_r _ _ | exact hG _ _ | exact hK _ | (simp (disch := decide) only [uN_s, uN_n]; omega)) (by first | omega | exact bnd_r _ _ | exact hG _ _ | exact hK _ | (simp (disch := decide) only [uN_s, uN_n]; omega)) (dec_of DX9_feed 44 rfl) ?_
  refine vi_mul (dec_of DX9_feed 45 rfl) ?_
  refine vi_sub (dec_of DX9_feed 46 rfl) ?_
  refine vi_shr (dec_of DX9_feed 47 rfl) ?_
  refine vi_si (dec_of DX9_feed 48 rfl) (by decide) ?_
  refine vi_and (dec_of DX9_feed 49 rfl) ?_
  refine ms_0 (dec_of DX9_feed 50 rfl) (by first | omega | exact bnd_r _ _ | exact hG _ _ | exact hK _ | (simp (disch := decide) only [uN_s, uN_n]; omega)) ?_
  try rw [uN_uu]
  refine v_aload_n (dec_of DX9_feed 51 rfl) rfl ?_
  refine v_dup (dec_of DX9_feed 52 rfl) rfl ?_
  refine v_get fX9_123 (dec_of DX9_feed 53 rfl) rfl rfl ?_
  try simp (disch := decide) only [uN_s, uN_n]
  refine vi_const (dec_of DX9_feed 54 rfl) ?_
  refine vi_add (dec_of DX9_feed 55 rfl) ?_
  refine mp_1 fX9_123 (dec_of DX9_feed 56 rfl) ?_
  try rw [uN_uu]
  refine vi_inc (dec_of DX9_feed 57 rfl) rfl (by decide) ?_
  dsimp only [List.set]
  refine v_goto (tgt := 19) (dec_of DX9_feed 58 rfl) (by decide) ?_
  refine v_iload (dec_of DX9_feed 10 rfl) rfl ?_
  refine vi_bi (dec_of DX9_feed 11 rfl) (by decide) ?_
  refine vi_icmp_ge (tgt := 116) (dec_of DX9_feed 12 rfl) (by decide) (by first | omega | exact bnd_r _ _ | exact hG _ _ | exact hK _ | (simp (disch := decide) only [uN_s, uN_n]; omega)) (by first | omega | exact bnd_r _ _ | exact hG _ _ | exact hK _ | (simp (disch := decide) only [uN_s, uN_n]; omega)) (fun c23 => absurd c23 (by omega)) (fun c23 => ?_)
  refine v_iload (dec_of DX9_feed 13 rfl) rfl ?_
  refine vi_const (dec_of DX9_feed 14 rfl) ?_
  refine vi_icmp_ge (tgt := 36) (dec_of DX9_feed 15 rfl) (by decide) (by first | omega | exact bnd_r _ _ | exact hG _ _ | exact hK _ | (simp (disch := decide) only [uN_s, uN_n]; omega)) (by first | omega | exact bnd_r _ _ | exact hG _ _ | exact hK _ | (simp (disch := decide) only [uN_s, uN_n]; omega)) (fun c29 => ?_) (fun c29 => absurd c29 (by omega))
  refine v_iload (dec_of DX9_feed 18 rfl) rfl ?_
  refine vi_bi (dec_of DX9_feed 19 rfl) (by decide) ?_
  refine vi_icmp_ge (tgt := 47) (dec_of DX9_feed 20 rfl) (by decide) (by first | omega | exact bnd_r _ _ | exact hG _ _ | exact hK _ | (simp (disch := decide) only [uN_s, uN_n]; omega)) (by first | omega | exact bnd_r _ _ | exact hG _ _ | exact hK _ | (simp (disch := decide) only [uN_s, uN_n]; omega)) (fun c40 => absurd c40 (by omega)) (fun c40 => ?_)
  refine v_iload_n (dec_of DX9_feed 21 rfl) rfl ?_
  refine v_goto (tgt := 72) (dec_of DX9_feed 22 rfl) (by decide) ?_
  refine v_istore (dec_of DX9_feed 34 rfl) (by decide) ?_
  dsimp only [List.set]
  refine v_aload_n (dec_of DX9_feed 35 rfl) rfl ?_
  refine v_get fX9_7 (dec_of DX9_feed 36 rfl) rfl rfl ?_
  try simp (disch := decide) only [uN_s, uN_n]
  refine v_aload_n (dec_of DX9_feed 37 rfl) rfl ?_
  refine v_get fX9_123 (dec_of DX9_feed 38 rfl) rfl rfl ?_
  try simp (disch := decide) only [uN_s, uN_n]
  refine v_iload (dec_of DX9_feed 39 rfl) rfl ?_
  refine vi_bi (dec_of DX9_feed 40 rfl) (by decide) ?_
  refine vi_bi (dec_of DX9_feed 41 rfl) (by decide) ?_
  refine v_iload (dec_of DX9_feed 42 rfl) rfl ?_
  refine vi_const (dec_of DX9_feed 43 rfl) ?_
  refine vi_rem (by first | omega | exact bnd_r _ _ | exact hG _ _ | exact hK _ | (simp (disch := decide) only [uN_s, uN_n]; omega)) (by first | omega | exact bnd_r _ _ | exact hG _ _ | exact hK _ | (simp (disch := decide) only [uN_s, uN_n]; omega)) (dec_of DX9_feed 44 rfl) ?_
  refine vi_mul (dec_of DX9_feed 45 rfl) ?_
  refine vi_sub (dec_of DX9_feed 46 rfl) ?_
  refine vi_shr (dec_of DX9_feed 47 rfl) ?_
  refine vi_si (dec_of DX9_feed 48 rfl) (by decide) ?_
  refine vi_and (dec_of DX9_feed 49 rfl) ?_
  refine ms_0 (dec_of DX9_feed 50 rfl) (by first | omega | exact bnd_r _ _ | exact hG _ _ | exact hK _ | (simp (disch := decide) only [uN_s, uN_n]; omega)) ?_
  try rw [uN_uu]
  refine v_aload_n (dec_of DX9_feed 51 rfl) rfl ?_
  refine v_dup (dec_of DX9_feed 52 rfl) rfl ?_
  refine v_get fX9_123 (dec_of DX9_feed 53 rfl) rfl rfl ?_
  try simp (disch := decide) only [uN_s, uN_n]
  refine vi_const (dec_of DX9_feed 54 rfl) ?_
  refine vi_add (dec_of DX9_feed 55 rfl) ?_
  refine mp_1 fX9_123 (dec_of DX9_feed 56 rfl) ?_
  try rw [uN_uu]
  refine vi_inc (dec_of DX9_feed 57 rfl) rfl (by decide) ?_
  dsimp only [List.set]
  refine v_goto (tgt := 19) (dec_of DX9_feed 58 rfl) (by decide) ?_
  refine v_iload (dec_of DX9_feed 10 rfl) rfl ?_
  refine vi_bi (dec_of DX9_feed 11 rfl) (by decide) ?_
  refine vi_icmp_ge (tgt := 116) (dec_of DX9_feed 12 rfl) (by decide) (by first | omega | exact bnd_r _ _ | exact hG _ _ | exact hK _ | (simp (disch := decide) only [uN_s, uN_n]; omega)) (by first | omega | exact bnd_r _ _ | exact hG _ _ | exact hK _ | (simp (disch := decide) only [uN_s, uN_n]; omega)) (fun c23 => absurd c23 (by omega)) (fun c23 => ?_)
  refine v_iload (dec_of DX9_feed 13 rfl) rfl ?_
  refine vi_const (dec_of DX9_feed 14 rfl) ?_
  refine vi_icmp_ge (tgt := 36) (dec_of DX9_feed 15 rfl) (by decide) (by first | omega | exact bnd_r _ _ | exact hG _ _ | exact hK _ | (simp (disch := decide) only [uN_s, uN_n]; omega)) (by first | omega | exact bnd_r _ _ | exact hG _ _ | exact hK _ | (simp (disch := decide) only [uN_s, uN_n]; omega)) (fun c29 => ?_) (fun c29 => absurd c29 (by omega))
  refine v_iload (dec_of DX9_feed 18 rfl) rfl ?_
  refine vi_bi (dec_of DX9_feed 19 rfl) (by decide) ?_
  refine vi_icmp_ge (tgt := 47) (dec_of DX9_feed 20 rfl) (by decide) (by first | omega | exact bnd_r _ _ | exact hG _ _ | exact hK _ | (simp (disch := decide) only [uN_s, uN_n]; omega)) (by first | omega | exact bnd_r _ _ | exact hG _ _ | exact hK _ | (simp (disch := decide) only [uN_s, uN_n]; omega)) (fun c40 => absurd c40 (by omega)) (fun c40 => ?_)
  refine v_iload_n (dec_of DX9_feed 21 rfl) rfl ?_
  refine v_goto (tgt := 72) (dec_of DX9_feed 22 rfl) (by decide) ?_
  refine v_istore (dec_of DX9_feed 34 rfl) (by decide) ?_
  dsimp only [List.set]
  refine v_aload_n (dec_of DX9_feed 35 rfl) rfl ?_
  refine v_get fX9_7 (dec_of DX9_feed 36 rfl) rfl rfl ?_
  try simp (disch := decide) only [uN_s, uN_n]
  refine v_aload_n (dec_of DX9_feed 37 rfl) rfl ?_
  refine v_get fX9_123 (dec_of DX9_feed 38 rfl) rfl rfl ?_
  try simp (disch := decide) only [uN_s, uN_n]
  refine v_iload (dec_of DX9_feed 39 rfl) rfl ?_
  refine vi_bi (dec_of DX9_feed 40 rfl) (by decide) ?_
  refine vi_bi (dec_of DX9_feed 41 rfl) (by decide) ?_
  refine v_iload (dec_of DX9_feed 42 rfl) rfl ?_
  refine vi_const (dec_of DX9_feed 43 rfl) ?_
  refine vi_rem (by first | omega | exact bnd_r _ _ | exact hG _ _ | exact hK _ | (simp (disch := decide) only [uN_s, uN_n]; omega)) (by first | omega | exact bnd_r _ _ | exact hG _ _ | exact hK _ | (simp (disch := decide) only [uN_s, uN_n]; omega)) (dec_of DX9_feed 44 rfl) ?_
  refine vi_mul (dec_of DX9_feed 45 rfl) ?_
  refine vi_sub (dec_of DX9_feed 46 rfl) ?_
  refine vi_shr (dec_of DX9_feed 47 rfl) ?_
  refine vi_si (dec_of DX9_feed 48 rfl) (by decide) ?_
  refine vi_and (dec_of DX9_feed 49 rfl) ?_
  refine ms_0 (dec_of DX9_feed 50 rfl) (by first | omega | exact bnd_r _ _ | exact hG _ _ | exact hK _ | (simp (disch := decide) only [uN_s, uN_n]; omega)) ?_
  try rw [uN_uu]
  refine v_aload_n (dec_of DX9_feed 51 rfl) rfl ?_
  refine v_dup (dec_of DX9_feed 52 rfl) rfl ?_
  refine v_get fX9_123 (dec_of DX9_feed 53 rfl) rfl rfl ?_
  try simp (disch := decide) only [uN_s, uN_n]
  refine vi_const (dec_of DX9_feed 54 rfl) ?_
  refine vi_add (dec_of DX9_feed 55 rfl) ?_
  refine mp_1 fX9_123 (dec_of DX9_feed 56 rfl) ?_
  try rw [uN_uu]
  refine vi_inc (dec_of DX9_feed 57 rfl) rfl (by decide) ?_
  dsimp only [List.set]
  refine v_goto (tgt := 19) (dec_of DX9_feed 58 rfl) (by decide) ?_
  refine v_iload (dec_of DX9_feed 10 rfl) rfl ?_
  refine vi_bi (dec_of DX9_feed 11 rfl) (by decide) ?_
  refine vi_icmp_ge (tgt := 116) (dec_of DX9_feed 12 rfl) (by decide) (by first | omega | exact bnd_r _ _ | exact hG _ _ | exact hK _ | (simp (disch := decide) only [uN_s, uN_n]; omega)) (by first | omega | exact bnd_r _ _ | exact hG _ _ | exact hK _ | (simp (disch := decide) only [uN_s, uN_n]; omega)) (fun c23 => absurd c23 (by omega)) (fun c23 => ?_)
  refine v_iload (dec_of DX9_feed 13 rfl) rfl ?_
  refine vi_const (dec_of DX9_feed 14 rfl) ?_
  refine vi_icmp_ge (tgt := 36) (dec_of DX9_feed 15 rfl) (by decide) (by first | omega | exact bnd_r _ _ | exact hG _ _ | exact hK _ | (simp (disch := decide) only [uN_s, uN_n]; omega)) (by first | omega | exact bnd_r _ _ | exact hG _ _ | exact hK _ | (simp (disch := decide) only [uN_s, uN_n]; omega)) (fun c29 => ?_) (fun c29 => absurd c29 (by omega))
  refine v_iload (dec_of DX9_feed 18 rfl) rfl ?_
  refine vi_bi (dec_of DX9_feed 19 rfl) (by decide) ?_
  refine vi_icmp_ge (tgt := 47) (dec_of DX9_feed 20 rfl) (by decide) (by first | omega | exact bnd_r _ _ | exact hG _ _ | exact hK _ | (simp (disch := decide) only [uN_s, uN_n]; omega)) (by first | omega | exact bnd_r _ _ | exact hG _ _ | exact hK _ | (simp (disch := decide) only [uN_s, uN_n]; omega)) (fun c40 => ?_) (fun c40 => absurd c40 (by omega))
  refine v_iload (dec_of DX9_feed 23 rfl) rfl ?_
  refine vi_bi (dec_of DX9_feed 24 rfl) (by decide) ?_
  refine vi_icmp_ge (tgt := 58) (dec_of DX9_feed 25 rfl) (by decide) (by first | omega | exact bnd_r _ _ | exact hG _ _ | exact hK _ | (simp (disch := decide) only [uN_s, uN_n]; omega)) (by first | omega | exact bnd_r _ _ | exact hG _ _ | exact hK _ | (simp (disch := decide) only [uN_s, uN_n]; omega)) (fun c51 => absurd c51 (by omega)) (fun c51 => ?_)
  refine v_iload_n (dec_of DX9_feed 26 rfl) rfl ?_
  refine v_goto (tgt := 72) (dec_of DX9_feed 27 rfl) (by decide) ?_
  refine v_istore (dec_of DX9_feed 34 rfl) (by decide) ?_
  dsimp only [List.set]
  refine v_aload_n (dec_of DX9_feed 35 rfl) rfl ?_
  refine v_get fX9_7 (dec_of DX9_feed 36 rfl) rfl rfl ?_
  try simp (disch := decide) only [uN_s, uN_n]
  refine v_aload_n (dec_of DX9_feed 37 rfl) rfl ?_
  refine v_get fX9_123 (dec_of DX9_feed 38 rfl) rfl rfl ?_
  try simp (disch := decide) only [uN_s, uN_n]
  refine v_iload (dec_of DX9_feed 39 rfl) rfl ?_
  refine vi_bi (dec_of DX9_feed 40 rfl) (by decide) ?_
  refine vi_bi (dec_of DX9_feed 41 rfl) (by decide) ?_
  refine v_iload (dec_of DX9_feed 42 rfl) rfl ?_
  refine vi_const (dec_of DX9_feed 43 rfl) ?_
  refine vi_rem (by first | omega | exact bnd_r _ _ | exact hG _ _ | exact hK _ | (simp (disch := decide) only [uN_s, uN_n]; omega)) (by first | omega | exact bnd_r _ _ | exact hG _ _ | exact hK _ | (simp (disch := decide) only [uN_s, uN_n]; omega)) (dec_of DX9_feed 44 rfl) ?_
  refine vi_mul (dec_of DX9_feed 45 rfl) ?_
  refine vi_sub (dec_of DX9_feed 46 rfl) ?_
  refine vi_shr (dec_of DX9_feed 47 rfl) ?_
  refine vi_si (dec_of DX9_feed 48 rfl) (by decide) ?_
  refine vi_and (dec_of DX9_feed 49 rfl) ?_
  refine ms_0 (dec_of DX9_feed 50 rfl) (by first | omega | exact bnd_r _ _ | exact hG _ _ | exact hK _ | (simp (disch := decide) only [uN_s, uN_n]; omega)) ?_
  try rw [uN_uu]
  refine v_aload_n (dec_of DX9_feed 51 rfl) rfl ?_
  refine v_dup (dec_of DX9_feed 52 rfl) rfl ?_
  refine v_get fX9_123 (dec_of DX9_feed 53 rfl) rfl rfl ?_
  try simp (disch := decide) only [uN_s, uN_n]
  refine vi_const (dec_of DX9_feed 54 rfl) ?_
  refine vi_add (dec_of DX9_feed 55 rfl) ?_
  refine mp_1 fX9_123 (dec_of DX9_feed 56 rfl) ?_
  try rw [uN_uu]
  refine vi_inc (dec_of DX9_feed 57 rfl) rfl (by decide) ?_
  dsimp only [List.set]
  refine v_goto (tgt := 19) (dec_of DX9_feed 58 rfl) (by decide) ?_
  refine v_iload (dec_of DX9_feed 10 rfl) rfl ?_
  refine vi_bi (dec_of DX9_feed 11 rfl) (by decide) ?_
  refine vi_icmp_ge (tgt := 116) (dec_of DX9_feed 12 rfl) (by decide) (by first | omega | exact bnd_r _ _ | exact hG _ _ | exact hK _ | (simp (disch := decide) only [uN_s, uN_n]; omega)) (by first | omega | exact bnd_r _ _ | exact hG _ _ | exact hK _ | (simp (disch := decide) only [uN_s, uN_n]; omega)) (fun c23 => absurd c23 (by omega)) (fun c23 => ?_)
  refine v_iload (dec_of DX9_feed 13 rfl) rfl ?_
  refine vi_const (dec_of DX9_feed 14 rfl) ?_
  refine vi_icmp_ge (tgt := 36) (dec_of DX9_feed 15 rfl) (by decide) (by first | omega | exact bnd_r _ _ | exact hG _ _ | exact hK _ | (simp (disch := decide) only [uN_s, uN_n]; omega)) (by first | omega | exact bnd_r _ _ | exact hG _ _ | exact hK _ | (simp (disch := decide) only [uN_s, uN_n]; omega)) (fun c29 => ?_) (fun c29 => absurd c29 (by omega))
  refine v_iload (dec_of DX9_feed 18 rfl) rfl ?_
  refine vi_bi (dec_of DX9_feed 19 rfl) (by decide) ?_
  refine vi_icmp_ge (tgt := 47) (dec_of DX9_feed 20 rfl) (by decide) (by first | omega | exact bnd_r _ _ | exact hG _ _ | exact hK _ | (simp (disch := decide) only [uN_s, uN_n]; omega)) (by first | omega | exact bnd_r _ _ | exact hG _ _ | exact hK _ | (simp (disch := decide) only [uN_s, uN_n]; omega)) (fun c40 => ?_) (fun c40 => absurd c40 (by omega))
  refine v_iload (dec_of DX9_feed 23 rfl) rfl ?_
  refine vi_bi (dec_of DX9_feed 24 rfl) (by decide) ?_
  refine vi_icmp_ge (tgt := 58) (dec_of DX9_feed 25 rfl) (by decide) (by first | omega | exact bnd_r _ _ | exact hG _ _ | exact hK _ | (simp (disch := decide) only [uN_s, uN_n]; omega)) (by first | omega | exact bnd_r _ _ | exact hG _ _ | exact hK _ | (simp (disch := decide) only [uN_s, uN_n]; omega)) (fun c51 => absurd c51 (by omega)) (fun c51 => ?_)
  refine v_iload_n (dec_of DX9_feed 26 rfl) rfl ?_
  refine v_goto (tgt := 72) (dec_of DX9_feed 27 rfl) (by decide) ?_
  refine v_istore (dec_of DX9_feed 34 rfl) (by decide) ?_
  dsimp only [List.set]
  refine v_aload_n (dec_of DX9_feed 35 rfl) rfl ?_
  refine v_get fX9_7 (dec_of DX9_feed 36 rfl) rfl rfl ?_
  try simp (disch := decide) only [uN_s, uN_n]
  refine v_aload_n (dec_of DX9_feed 37 rfl) rfl ?_
  refine v_get fX9_123 (dec_of DX9_feed 38 rfl) rfl rfl ?_
  try simp (disch := decide) only [uN_s, uN_n]
  refine v_iload (dec_of DX9_feed 39 rfl) rfl ?_
  refine vi_bi (dec_of DX9_feed 40 rfl) (by decide) ?_
  refine vi_bi (dec_of DX9_feed 41 rfl) (by decide) ?_
  refine v_iload (dec_of DX9_feed 42 rfl) rfl ?_
  refine vi_const (dec_of DX9_feed 43 rfl) ?_
  refine vi_rem (by first | omega | exact bnd_r _ _ | exact hG _ _ | exact hK _ | (simp (disch := decide) only [uN_s, uN_n]; omega)) (by first | omega | exact bnd_r _ _ | exact hG _ _ | exact hK _ | (simp (disch := decide) only [uN_s, uN_n]; omega)) (dec_of DX9_feed 44 rfl) ?_
  refine vi_mul (dec_of DX9_feed 45 rfl) ?_
  refine vi_sub (dec_of DX9_feed 46 rfl) ?_
  refine vi_shr (dec_of DX9_feed 47 rfl) ?_
  refine vi_si (dec_of DX9_feed 48 rfl) (by decide) ?_
  refine vi_and (dec_of DX9_feed 49 rfl) ?_
  refine ms_0 (dec_of DX9_feed 50 rfl) (by first | omega | exact bnd_r _ _ | exact hG _ _ | exact hK _ | (simp (disch := decide) only [uN_s, uN_n]; omega)) ?_
  try rw [uN_uu]
  refine v_aload_n (dec_of DX9_feed 51 rfl) rfl ?_
  refine v_dup (dec_of DX9_feed 52 rfl) rfl ?_
  refine v_get fX9_123 (dec_of DX9_feed 53 rfl) rfl rfl ?_
  try simp (disch := decide) only [uN_s, uN_n]
  refine vi_const (dec_of DX9_feed 54 rfl) ?_
  refine vi_add (dec_of DX9_feed 55 rfl) ?_
  refine mp_1 fX9_123 (dec_of DX9_feed 56 rfl) ?_
  try rw [uN_uu]
  refine vi_inc (dec_of DX9_feed 57 rfl) rfl (by decide) ?_
  dsimp only [List.set]
  refine v_goto (tgt := 19) (dec_of DX9_feed 58 rfl) (by decide) ?_
  refine v_iload (dec_of DX9_feed 10 rfl) rfl ?_
  refine vi_bi (dec_of DX9_feed 11 rfl) (by decide) ?_
  refine vi_icmp_ge (tgt := 116) (dec_of DX9_feed 12 rfl) (by decide) (by first | omega | exact bnd_r _ _ | exact hG _ _ | exact hK _ | (simp (disch := decide) only [uN_s, uN_n]; omega)) (by first | omega | exact bnd_r _ _ | exact hG _ _ | exact hK _ | (simp (disch := decide) only [uN_s, uN_n]; omega)) (fun c23 => absurd c23 (by omega)) (fun c23 => ?_)
  refine v_iload (dec_of DX9_feed 13 rfl) rfl ?_
  refine vi_const (dec_of DX9_feed 14 rfl) ?_
  refine vi_icmp_ge (tgt := 36) (dec_of DX9_feed 15 rfl) (by decide) (by first | omega | exact bnd_r _ _ | exact hG _ _ | exact hK _ | (simp (disch := decide) only [uN_s, uN_n]; omega)) (by first | omega | exact bnd_r _ _ | exact hG _ _ | exact hK _ | (simp (disch := decide) only [uN_s, uN_n]; omega)) (fun c29 => ?_) (fun c29 => absurd c29 (by omega))
  refine v_iload (dec_of DX9_feed 18 rfl) rfl ?_
  refine vi_bi (dec_of DX9_feed 19 rfl) (by decide) ?_
  refine vi_icmp_ge (tgt := 47) (dec_of DX9_feed 20 rfl) (by decide) (by first | omega | exact bnd_r _ _ | exact hG _ _ | exact hK _ | (simp (disch := decide) only [uN_s, uN_n]; omega)) (by first | omega | exact bnd_r _ _ | exact hG _ _ | exact hK _ | (simp (disch := decide) only [uN_s, uN_n]; omega)) (fun c40 => ?_) (fun c40 => absurd c40 (by omega))
  refine v_iload (dec_of DX9_feed 23 rfl) rfl ?_
  refine vi_bi (dec_of DX9_feed 24 rfl) (by decide) ?_
  refine vi_icmp_ge (tgt := 58) (dec_of DX9_feed 25 rfl) (by decide) (by first | omega | exact bnd_r _ _ | exact hG _ _ | exact hK _ | (simp (disch := decide) only [uN_s, uN_n]; omega)) (by first | omega | exact bnd_r _ _ | exact hG _ _ | exact hK _ | (simp (disch := decide) only [uN_s, uN_n]; omega)) (fun c51 => absurd c51 (by omega)) (fun c51 => ?_)
  refine v_iload_n (dec_of DX9_feed 26 rfl) rfl ?_
  refine v_goto (tgt := 72) (dec_of DX9_feed 27 rfl) (by decide) ?_
  refine v_istore (dec_of DX9_feed 34 rfl) (by decide) ?_
  dsimp only [List.set]
  refine v_aload_n (dec_of DX9_feed 35 rfl) rfl ?_
  refine v_get fX9_7 (dec_of DX9_feed 36 rfl) rfl rfl ?_
  try simp (disch := decide) only [uN_s, uN_n]
  refine v_aload_n (dec_of DX9_feed 37 rfl) rfl ?_
  refine v_get fX9_123 (dec_of DX9_feed 38 rfl) rfl rfl ?_
  try simp (disch := decide) only [uN_s, uN_n]
  refine v_iload (dec_of DX9_feed 39 rfl) rfl ?_
  refine vi_bi (dec_of DX9_feed 40 rfl) (by decide) ?_
  refine vi_bi (dec_of DX9_feed 41 rfl) (by decide) ?_
  refine v_iload (dec_of DX9_feed 42 rfl) rfl ?_
  refine vi_const (dec_of DX9_feed 43 rfl) ?_
  refine vi_rem (by first | omega | exact bnd_r _ _ | exact hG _ _ | exact hK _ | (simp (disch := decide) only [uN_s, uN_n]; omega)) (by first | omega | exact bnd_r _ _ | exact hG _ _ | exact hK _ | (simp (disch := decide) only [uN_s, uN_n]; omega)) (dec_of DX9_feed 44 rfl) ?_
  refine vi_mul (dec_of DX9_feed 45 rfl) ?_
  refine vi_sub (dec_of DX9_feed 46 rfl) ?_
  refine vi_shr (dec_of DX9_feed 47 rfl) ?_
  refine vi_si (dec_of DX9_feed 48 rfl) (by decide) ?_
  refine vi_and (dec_of DX9_feed 49 rfl) ?_
  refine ms_0 (dec_of DX9_feed 50 rfl) (by first | omega | exact bnd_r _ _ | exact hG _ _ | exact hK _ | (simp (disch := decide) only [uN_s, uN_n]; omega)) ?_
  try rw [uN_uu]
  refine v_aload_n (dec_of DX9_feed 51 rfl) rfl ?_
  refine v_dup (dec_of DX9_feed 52 rfl) rfl ?_
  refine v_get fX9_123 (dec_of DX9_feed 53 rfl) rfl rfl ?_
  try simp (disch := decide) only [uN_s, uN_n]
  refine vi_const (dec_of DX9_feed 54 rfl) ?_
  refine vi_add (dec_of DX9_feed 55 rfl) ?_
  refine mp_1 fX9_123 (dec_of DX9_feed 56 rfl) ?_
  try rw [uN_uu]
  refine vi_inc (dec_of DX9_feed 57 rfl) rfl (by decide) ?_
  dsimp only [List.set]
  refine v_goto (tgt := 19) (dec_of DX9_feed 58 rfl) (by decide) ?_
  refine v_iload (dec_of DX9_feed 10 rfl) rfl ?_
  refine vi_bi (dec_of DX9_feed 11 rfl) (by decide) ?_
  refine vi_icmp_ge (tgt := 116) (dec_of DX9_feed 12 rfl) (by decide) (by first | omega | exact bnd_r _ _ | exact hG _ _ | exact hK _ | (simp (disch := decide) only [uN_s, uN_n]; omega)) (by first | omega | exact bnd_r _ _ | exact hG _ _ | exact hK _ | (simp (disch := decide) only [uN_s, uN_n]; omega)) (fun c23 => absurd c23 (by omega)) (fun c23 => ?_)
  refine v_iload (dec_of DX9_feed 13 rfl) rfl ?_
  refine vi_const (dec_of DX9_feed 14 rfl) ?_
  refine vi_icmp_ge (tgt := 36) (dec_of DX9_feed 15 rfl) (by decide) (by first | omega | exact bnd_r _ _ | exact hG _ _ | exact hK _ | (simp (disch := decide) only [uN_s, uN_n]; omega)) (by first | omega | exact bnd_r _ _ | exact hG _ _ | exact hK _ | (simp (disch := decide) only [uN_s, uN_n]; omega)) (fun c29 => ?_) (fun c29 => absurd c29 (by omega))
  refine v_iload (dec_of DX9_feed 18 rfl) rfl ?_
  refine vi_bi (dec_of DX9_feed 19 rfl) (by decide) ?_
  refine vi_icmp_ge (tgt := 47) (dec_of DX9_feed 20 rfl) (by decide) (by first | omega | exact bnd_r _ _ | exact hG _ _ | exact hK _ | (simp (disch := decide) only [uN_s, uN_n]; omega)) (by first | omega | exact bnd_r _ _ | exact hG _ _ | exact hK _ | (simp (disch := decide) only [uN_s, uN_n]; omega)) (fun c40 => ?_) (fun c40 => absurd c40 (by omega))
  refine v_iload (dec_of DX9_feed 23 rfl) rfl ?_
  refine vi_bi (dec_of DX9_feed 24 rfl) (by decide) ?_
  refine vi_icmp_ge (tgt := 58) (dec_of DX9_feed 25 rfl) (by decide) (by first | omega | exact bnd_r _ _ | exact hG _ _ | exact hK _ | (simp (disch := decide) only [uN_s, uN_n]; omega)) (by first | omega | exact bnd_r _ _ | exact hG _ _ | exact hK _ | (simp (disch := decide) only [uN_s, uN_n]; omega)) (fun c51 => absurd c51 (by omega)) (fun c51 => ?_)
  refine v_iload_n (dec_of DX9_feed 26 rfl) rfl ?_
  refine v_goto (tgt := 72) (dec_of DX9_feed 27 rfl) (by decide) ?_
  refine v_istore (dec_of DX9_feed 34 rfl) (by decide) ?_
  dsimp only [List.set]
  refine v_aload_n (dec_of DX9_feed 35 rfl) rfl ?_
  refine v_get fX9_7 (dec_of DX9_feed 36 rfl) rfl rfl ?_
  try simp (disch := decide) only [uN_s, uN_n]
  refine v_aload_n (dec_of DX9_feed 37 rfl) rfl ?_
  refine v_get fX9_123 (dec_of DX9_feed 38 rfl) rfl rfl ?_
  try simp (disch := decide) only [uN_s, uN_n]
  refine v_iload (dec_of DX9_feed 39 rfl) rfl ?_
  refine vi_bi (dec_of DX9_feed 40 rfl) (by decide) ?_
  refine vi_bi (dec_of DX9_feed 41 rfl) (by decide) ?_
  refine v_iload (dec_of DX9_feed 42 rfl) rfl ?_
  refine vi_const (dec_of DX9_feed 43 rfl) ?_
  refine vi_rem (by first | omega | exact bnd_r _ _ | exact hG _ _ | exact hK _ | (simp (disch := decide) only [uN_s, uN_n]; omega)) (by first | omega | exact bnd_r _ _ | exact hG _ _ | exact hK _ | (simp (disch := decide) only [uN_s, uN_n]; omega)) (dec_of DX9_feed 44 rfl) ?_
  refine vi_mul (dec_of DX9_feed 45 rfl) ?_
  refine vi_sub (dec_of DX9_feed 46 rfl) ?_
  refine vi_shr (dec_of DX9_feed 47 rfl) ?_
  refine vi_si (dec_of DX9_feed 48 rfl) (by decide) ?_
  refine vi_and (dec_of DX9_feed 49 rfl) ?_
  refine ms_0 (dec_of DX9_feed 50 rfl) (by first | omega | exact bnd_r _ _ | exact hG _ _ | exact hK _ | (simp (disch := decide) only [uN_s, uN_n]; omega)) ?_
  try rw [uN_uu]
  refine v_aload_n (dec_of DX9_feed 51 rfl) rfl ?_
  refine v_dup (dec_of DX9_feed 52 rfl) rfl ?_
  refine v_get fX9_123 (dec_of DX9_feed 53 rfl) rfl rfl ?_
  try simp (disch := decide) only [uN_s, uN_n]
  refine vi_const (dec_of DX9_feed 54 rfl) ?_
  refine vi_add (dec_of DX9_feed 55 rfl) ?_
  refine mp_1 fX9_123 (dec_of DX9_feed 56 rfl) ?_
  try rw [uN_uu]
  refine vi_inc (dec_of DX9_feed 57 rfl) rfl (by decide) ?_
  dsimp only [List.set]
  refine v_goto (tgt := 19) (dec_of DX9_feed 58 rfl) (by decide) ?_
  refine v_iload (dec_of DX9_feed 10 rfl) rfl ?_
  refine vi_bi (dec_of DX9_feed 11 rfl) (by decide) ?_
  refine vi_icmp_ge (tgt := 116) (dec_of DX9_feed 12 rfl) (by decide) (by first | omega | exact bnd_r _ _ | exact hG _ _ | exact hK _ | (simp (disch := decide) only [uN_s, uN_n]; omega)) (by first | omega | exact bnd_r _ _ | exact hG _ _ | exact hK _ | (simp (disch := decide) only [uN_s, uN_n]; omega)) (fun c23 => absurd c23 (by omega)) (fun c23 => ?_)
  refine v_iload (dec_of DX9_feed 13 rfl) rfl ?_
  refine vi_const (dec_of DX9_feed 14 rfl) ?_
  refine vi_icmp_ge (tgt := 36) (dec_of DX9_feed 15 rfl) (by decide) (by first | omega | exact bnd_r _ _ | exact hG _ _ | exact hK _ | (simp (disch := decide) only [uN_s, uN_n]; omega)) (by first | omega | exact bnd_r _ _ | exact hG _ _ | exact hK _ | (simp (disch := decide) only [uN_s, uN_n]; omega)) (fun c29 => ?_) (fun c29 => absurd c29 (by omega))
  refine v_iload (dec_of DX9_feed 18 rfl) rfl ?_
  refine vi_bi (dec_of DX9_feed 19 rfl) (by decide) ?_
  refine vi_icmp_ge (tgt := 47) (dec_of DX9_feed 20 rfl) (by decide) (by first | omega | exact bnd_r _ _ | exact hG _ _ | exact hK _ | (simp (disch := decide) only [uN_s, uN_n]; omega)) (by first | omega | exact bnd_r _ _ | exact hG _ _ | exact hK _ | (simp (disch := decide) only [uN_s, uN_n]; omega)) (fun c40 => ?_) (fun c40 => absurd c40 (by omega))
  refine v_iload (dec_of DX9_feed 23 rfl) rfl ?_
  refine vi_bi (dec_of DX9_feed 24 rfl) (by decide) ?_
  refine vi_icmp_ge (tgt := 58) (dec_of DX9_feed 25 rfl) (by decide) (by first | omega | exact bnd_r _ _ | exact hG _ _ | exact hK _ | (simp (disch := decide) only [uN_s, uN_n]; omega)) (by first | omega | exact bnd_r _ _ | exact hG _ _ | exact hK _ | (simp (disch := decide) only [uN_s, uN_n]; omega)) (fun c51 => ?_) (fun c51 => absurd c51 (by omega))
  refine v_iload (dec_of DX9_feed 28 rfl) rfl ?_
  refine vi_bi (dec_of DX9_feed 29 rfl) (by decide) ?_
  refine vi_icmp_ge (tgt := 70) (dec_of DX9_feed 30 rfl) (by decide) (by first | omega | exact bnd_r _ _ | exact hG _ _ | exact hK _ | (simp (disch := decide) only [uN_s, uN_n]; omega)) (by first | omega | exact bnd_r _ _ | exact hG _ _ | exact hK _ | (simp (disch := decide) only [uN_s, uN_n]; omega)) (fun c62 => absurd c62 (by omega)) (fun c62 => ?_)
  refine v_iload (dec_of DX9_feed 31 rfl) rfl ?_
  refine v_goto (tgt := 72) (dec_of DX9_feed 32 rfl) (by decide) ?_
  refine v_istore (dec_of DX9_feed 34 rfl) (by decide) ?_
  dsimp only [List.set]
  refine v_aload_n (dec_of DX9_feed 35 rfl) rfl ?_
  refine v_get fX9_7 (dec_of DX9_feed 36 rfl) rfl rfl ?_
  try simp (disch := decide) only [uN_s, uN_n]
  refine v_aload_n (dec_of DX9_feed 37 rfl) rfl ?_
  refine v_get fX9_123 (dec_of DX9_feed 38 rfl) rfl rfl ?_
  try simp (disch := decide) only [uN_s, uN_n]
  refine v_iload (dec_of DX9_feed 39 rfl) rfl ?_
  refine vi_bi (dec_of DX9_feed 40 rfl) (by decide) ?_
  refine vi_bi (dec_of DX9_feed 41 rfl) (by decide) ?_
  refine v_iload (dec_of DX9_feed 42 rfl) rfl ?_
  refine vi_const (dec_of DX9_feed 43 rfl) ?_
  refine vi_rem (by first | omega | exact bnd_r _ _ | exact hG _ _ | exact hK _ | (simp (disch := decide) only [uN_s, uN_n]; omega)) (by first | omega | exact bnd_r _ _ | exact hG _ _ | exact hK _ | (simp (disch := decide) only [uN_s, uN_n]; omega)) (dec_of DX9_feed 44 rfl) ?_
  refine vi_mul (dec_of DX9_feed 45 rfl) ?_
  refine vi_sub (dec_of DX9_feed 46 rfl) ?_
  refine vi_shr (dec_of DX9_feed 47 rfl) ?_
  refine vi_si (dec_of DX9_feed 48 rfl) (by decide) ?_
  refine vi_and (dec_of DX9_feed 49 rfl) ?_
  refine ms_0 (dec_of DX9_feed 50 rfl) (by first | omega | exact bnd_r _ _ | exact hG _ _ | exact hK _ | (simp (disch := decide) only [uN_s, uN_n]; omega)) ?_
  try rw [uN_uu]
  refine v_aload_n (dec_of DX9_feed 51 rfl) rfl ?_
  refine v_dup (dec_of DX9_feed 52 rfl) rfl ?_
  refine v_get fX9_123 (dec_of DX9_feed 53 rfl) rfl rfl ?_
  try simp (disch := decide) only [uN_s, uN_n]
  refine vi_const (dec_of DX9_feed 54 rfl) ?_
  refine vi_add (dec_of DX9_feed 55 rfl) ?_
  refine mp_1 fX9_123 (dec_of DX9_feed 56 rfl) ?_
  try rw [uN_uu]
  refine vi_inc (dec_of DX9_feed 57 rfl) rfl (by decide) ?_
  dsimp only [List.set]
  refine v_goto (tgt := 19) (dec_of DX9_feed 58 rfl) (by decide) ?_
  refine v_iload (dec_of DX9_feed 10 rfl) rfl ?_
  refine vi_bi (dec_of DX9_feed 11 rfl) (by decide) ?_
  refine vi_icmp_ge (tgt := 116) (dec_of DX9_feed 12 rfl) (by decide) (by first | omega | exact bnd_r _ _ | exact hG _ _ | exact hK _ | (simp (disch := decide) only [uN_s, uN_n]; omega)) (by first | omega | exact bnd_r _ _ | exact hG _ _ | exact hK _ | (simp (disch := decide) only [uN_s, uN_n]; omega)) (fun c23 => absurd c23 (by omega)) (fun c23 => ?_)
  refine v_iload (dec_of DX9_feed 13 rfl) rfl ?_
  refine vi_const (dec_of DX9_feed 14 rfl) ?_
  refine vi_icmp_ge (tgt := 36) (dec_of DX9_feed 15 rfl) (by decide) (by first | omega | exact bnd_r _ _ | exact hG _ _ | exact hK _ | (simp (disch := decide) only [uN_s, uN_n]; omega)) (by first | omega | exact bnd_r _ _ | exact hG _ _ | exact hK _ | (simp (disch := decide) only [uN_s, uN_n]; omega)) (fun c29 => ?_) (fun c29 => absurd c29 (by omega))
  refine v_iload (dec_of DX9_feed 18 rfl) rfl ?_
  refine vi_bi (dec_of DX9_feed 19 rfl) (by decide) ?_
  refine vi_icmp_ge (tgt := 47) (dec_of DX9_feed 20 rfl) (by decide) (by first | omega | exact bnd_r _ _ | exact hG _ _ | exact hK _ | (simp (disch := decide) only [uN_s, uN_n]; omega)) (by first | omega | exact bnd_r _ _ | exact hG _ _ | exact hK _ | (simp (disch := decide) only [uN_s, uN_n]; omega)) (fun c40 => ?_) (fun c40 => absurd c40 (by omega))
  refine v_iload (dec_of DX9_feed 23 rfl) rfl ?_
  refine vi_bi (dec_of DX9_feed 24 rfl) (by decide) ?_
  refine vi_icmp_ge (tgt := 58) (dec_of DX9_feed 25 rfl) (by decide) (by first | omega | exact bnd_r _ _ | exact hG _ _ | exact hK _ | (simp (disch := decide) only [uN_s, uN_n]; omega)) (by first | omega | exact bnd_r _ _ | exact hG _ _ | exact hK _ | (simp (disch := decide) only [uN_s, uN_n]; omega)) (fun c51 => ?_) (fun c51 => absurd c51 (by omega))
  refine v_iload (dec_of DX9_feed 28 rfl) rfl ?_
  refine vi_bi (dec_of DX9_feed 29 rfl) (by decide) ?_
  refine vi_icmp_ge (tgt := 70) (dec_of DX9_feed 30 rfl) (by decide) (by first | omega | exact bnd_r _ _ | exact hG _ _ | exact hK _ | (simp (disch := decide) only [uN_s, uN_n]; omega)) (by first | omega | exact bnd_r _ _ | exact hG _ _ | exact hK _ | (simp (disch := decide) only [uN_s, uN_n]; omega)) (fun c62 => absurd c62 (by omega)) (fun c62 => ?_)
  refine v_iload (dec_of DX9_feed 31 rfl) rfl ?_
  refine v_goto (tgt := 72) (dec_of DX9_feed 32 rfl) (by decide) ?_
  refine v_istore (dec_of DX9_feed 34 rfl) (by decide) ?_
  dsimp only [List.set]
  refine v_aload_n (dec_of DX9_feed 35 rfl) rfl ?_
  refine v_get fX9_7 (dec_of DX9_feed 36 rfl) rfl rfl ?_
  try simp (disch := decide) only [uN_s, uN_n]
  refine v_aload_n (dec_of DX9_feed 37 rfl) rfl ?_
  refine v_get fX9_123 (dec_of DX9_feed 38 rfl) rfl rfl ?_
  try simp (disch := decide) only [uN_s, uN_n]
  refine v_iload (dec_of DX9_feed 39 rfl) rfl ?_
  refine vi_bi (dec_of DX9_feed 40 rfl) (by decide) ?_
  refine vi_bi (dec_of DX9_feed 41 rfl) (by decide) ?_
  refine v_iload (dec_of DX9_feed 42 rfl) rfl ?_
  refine vi_const (dec_of DX9_feed 43 rfl) ?_
  refine vi_rem (by first | omega | exact bnd_r _ _ | exact hG _ _ | exact hK _ | (simp (disch := decide) only [uN_s, uN_n]; omega)) (by first | omega | exact bnd_r _ _ | exact hG _ _ | exact hK _ | (simp (disch := decide) only [uN_s, uN_n]; omega)) (dec_of DX9_feed 44 rfl) ?_
  refine vi_mul (dec_of DX9_feed 45 rfl) ?_
  refine vi_sub (dec_of DX9_feed 46 rfl) ?_
  refine vi_shr (dec_of DX9_feed 47 rfl) ?_
  refine vi_si (dec_of DX9_feed 48 rfl) (by decide) ?_
  refine vi_and (dec_of DX9_feed 49 rfl) ?_
  refine ms_0 (dec_of DX9_feed 50 rfl) (by first | omega | exact bnd_r _ _ | exact hG _ _ | exact hK _ | (simp (disch := decide) only [uN_s, uN_n]; omega)) ?_
  try rw [uN_uu]
  refine v_aload_n (dec_of DX9_feed 51 rfl) rfl ?_
  refine v_dup (dec_of DX9_feed 52 rfl) rfl ?_
  refine v_get fX9_123 (dec_of DX9_feed 53 rfl) rfl rfl ?_
  try simp (disch := decide) only [uN_s, uN_n]
  refine vi_const (dec_of DX9_feed 54 rfl) ?_
  refine vi_add (dec_of DX9_feed 55 rfl) ?_
  refine mp_1 fX9_123 (dec_of DX9_feed 56 rfl) ?_
  try rw [uN_uu]
  refine vi_inc (dec_of DX9_feed 57 rfl) rfl (by decide) ?_
  dsimp only [List.set]
  refine v_goto (tgt := 19) (dec_of DX9_feed 58 rfl) (by decide) ?_
  refine v_iload (dec_of DX9_feed 10 rfl) rfl ?_
  refine vi_bi (dec_of DX9_feed 11 rfl) (by decide) ?_
  refine vi_icmp_ge (tgt := 116) (dec_of DX9_feed 12 rfl) (by decide) (by first | omega | exact bnd_r _ _ | exact hG _ _ | exact hK _ | (simp (disch := decide) only [uN_s, uN_n]; omega)) (by first | omega | exact bnd_r _ _ | exact hG _ _ | exact hK _ | (simp (disch := decide) only [uN_s, uN_n]; omega)) (fun c23 => absurd c23 (by omega)) (fun c23 => ?_)
  refine v_iload (dec_of DX9_feed 13 rfl) rfl ?_
  refine vi_const (dec_of DX9_feed 14 rfl) ?_
  refine vi_icmp_ge (tgt := 36) (dec_of DX9_feed 15 rfl) (by decide) (by first | omega | exact bnd_r _ _ | exact hG _ _ | exact hK _ | (simp (disch := decide) only [uN_s, uN_n]; omega)) (by first | omega | exact bnd_r _ _ | exact hG _ _ | exact hK _ | (simp (disch := decide) only [uN_s, uN_n]; omega)) (fun c29 => ?_) (fun c29 => absurd c29 (by omega))
  refine v_iload (dec_of DX9_feed 18 rfl) rfl ?_
  refine vi_bi (dec_of DX9_feed 19 rfl) (by decide) ?_
  refine vi_icmp_ge (tgt := 47) (dec_of DX9_feed 20 rfl) (by decide) (by first | omega | exact bnd_r _ _ | exact hG _ _ | exact hK _ | (simp (disch := decide) only [uN_s, uN_n]; omega)) (by first | omega | exact bnd_r _ _ | exact hG _ _ | exact hK _ | (simp (disch := decide) only [uN_s, uN_n]; omega)) (fun c40 => ?_) (fun c40 => absurd c40 (by omega))
  refine v_iload (dec_of DX9_feed 23 rfl) rfl ?_
  refine vi_bi (dec_of DX9_feed 24 rfl) (by decide) ?_
  refine vi_icmp_ge (tgt := 58) (dec_of DX9_feed 25 rfl) (by decide) (by first | omega | exact bnd_r _ _ | exact hG _ _ | exact hK _ | (simp (disch := decide) only [uN_s, uN_n]; omega)) (by first | omega | exact bnd_r _ _ | exact hG _ _ | exact hK _ | (simp (disch := decide) only [uN_s, uN_n]; omega)) (fun c51 => ?_) (fun c51 => absurd c51 (by omega))
  refine v_iload (dec_of DX9_feed 28 rfl) rfl ?_
  refine vi_bi (dec_of DX9_feed 29 rfl) (by decide) ?_
  refine vi_icmp_ge (tgt := 70) (dec_of DX9_feed 30 rfl) (by decide) (by first | omega | exact bnd_r _ _ | exact hG _ _ | exact hK _ | (simp (disch := decide) only [uN_s, uN_n]; omega)) (by first | omega | exact bnd_r _ _ | exact hG _ _ | exact hK _ | (simp (disch := decide) only [uN_s, uN_n]; omega)) (fun c62 => absurd c62 (by omega)) (fun c62 => ?_)
  refine v_iload (dec_of DX9_feed 31 rfl) rfl ?_
  refine v_goto (tgt := 72) (dec_of DX9_feed 32 rfl) (by decide) ?_
  refine v_istore (dec_of DX9_feed 34 rfl) (by decide) ?_
  dsimp only [List.set]
  refine v_aload_n (dec_of DX9_feed 35 rfl) rfl ?_
  refine v_get fX9_7 (dec_of DX9_feed 36 rfl) rfl rfl ?_
  try simp (disch := decide) only [uN_s, uN_n]
  refine v_aload_n (dec_of DX9_feed 37 rfl) rfl ?_
  refine v_get fX9_123 (dec_of DX9_feed 38 rfl) rfl rfl ?_
  try simp (disch := decide) only [uN_s, uN_n]
  refine v_iload (dec_of DX9_feed 39 rfl) rfl ?_
  refine vi_bi (dec_of DX9_feed 40 rfl) (by decide) ?_
  refine vi_bi (dec_of DX9_feed 41 rfl) (by decide) ?_
  refine v_iload (dec_of DX9_feed 42 rfl) rfl ?_
  refine vi_const (dec_of DX9_feed 43 rfl) ?_
  refine vi_rem (by first | omega | exact bnd_r _ _ | exact hG _ _ | exact hK _ | (simp (disch := decide) only [uN_s, uN_n]; omega)) (by first | omega | exact bnd_r _ _ | exact hG _ _ | exact hK _ | (simp (disch := decide) only [uN_s, uN_n]; omega)) (dec_of DX9_feed 44 rfl) ?_
  refine vi_mul (dec_of DX9_feed 45 rfl) ?_
  refine vi_sub (dec_of DX9_feed 46 rfl) ?_
  refine vi_shr (dec_of DX9_feed 47 rfl) ?_
  refine vi_si (dec_of DX9_feed 48 rfl) (by decide) ?_
  refine vi_and (dec_of DX9_feed 49 rfl) ?_
  refine ms_0 (dec_of DX9_feed 50 rfl) (by first | omega | exact bnd_r _ _ | exact hG _ _ | exact hK _ | (simp (disch := decide) only [uN_s, uN_n]; omega)) ?_
  try rw [uN_uu]
  refine v_aload_n (dec_of DX9_feed 51 rfl) rfl ?_
  refine v_dup (dec_of DX9_feed 52 rfl) rfl ?_
  refine v_get fX9_123 (dec_of DX9_feed 53 rfl) rfl rfl ?_
  try simp (disch := decide) only [uN_s, uN_n]
  refine vi_const (dec_of DX9_feed 54 rfl) ?_
  refine vi_add (dec_of DX9_feed 55 rfl) ?_
  refine mp_1 fX9_123 (dec_of DX9_feed 56 rfl) ?_
  try rw [uN_uu]
  refine vi_inc (dec_of DX9_feed 57 rfl) rfl (by decide) ?_
  dsimp only [List.set]
  refine v_goto (tgt := 19) (dec_of DX9_feed 58 rfl) (by decide) ?_
  refine v_iload (dec_of DX9_feed 10 rfl) rfl ?_
  refine vi_bi (dec_of DX9_feed 11 rfl) (by decide) ?_
  refine vi_icmp_ge (tgt := 116) (dec_of DX9_feed 12 rfl) (by decide) (by first | omega | exact bnd_r _ _ | exact hG _ _ | exact hK _ | (simp (disch := decide) only [uN_s, uN_n]; omega)) (by first | omega | exact bnd_r _ _ | exact hG _ _ | exact hK _ | (simp (disch := decide) only [uN_s, uN_n]; omega)) (fun c23 => absurd c23 (by omega)) (fun c23 => ?_)
  refine v_iload (dec_of DX9_feed 13 rfl) rfl ?_
  refine vi_const (dec_of DX9_feed 14 rfl) ?_
  refine vi_icmp_ge (tgt := 36) (dec_of DX9_feed 15 rfl) (by decide) (by first | omega | exact bnd_r _ _ | exact hG _ _ | exact hK _ | (simp (disch := decide) only [uN_s, uN_n]; omega)) (by first | omega | exact bnd_r _ _ | exact hG _ _ | exact hK _ | (simp (disch := decide) only [uN_s, uN_n]; omega)) (fun c29 => ?_) (fun c29 => absurd c29 (by omega))
  refine v_iload (dec_of DX9_feed 18 rfl) rfl ?_
  refine vi_bi (dec_of DX9_feed 19 rfl) (by decide) ?_
  refine vi_icmp_ge (tgt := 47) (dec_of DX9_feed 20 rfl) (by decide) (by first | omega | exact bnd_r _ _ | exact hG _ _ | exact hK _ | (simp (disch := decide) only [uN_s, uN_n]; omega)) (by first | omega | exact bnd_r _ _ | exact hG _ _ | exact hK _ | (simp (disch := decide) only [uN_s, uN_n]; omega)) (fun c40 => ?_) (fun c40 => absurd c40 (by omega))
  refine v_iload (dec_of DX9_feed 23 rfl) rfl ?_
  refine vi_bi (dec_of DX9_feed 24 rfl) (by decide) ?_
  refine vi_icmp_ge (tgt := 58) (dec_of DX9_feed 25 rfl) (by decide) (by first | omega | exact bnd_r _ _ | exact hG _ _ | exact hK _ | (simp (disch := decide) only [uN_s, uN_n]; omega)) (by first | omega | exact bnd_r _ _ | exact hG _ _ | exact hK _ | (simp (disch := decide) only [uN_s, uN_n]; omega)) (fun c51 => ?_) (fun c51 => absurd c51 (by omega))
  refine v_iload (dec_of DX9_feed 28 rfl) rfl ?_
  refine vi_bi (dec_of DX9_feed 29 rfl) (by decide) ?_
  refine vi_icmp_ge (tgt := 70) (dec_of DX9_feed 30 rfl) (by decide) (by first | omega | exact bnd_r _ _ | exact hG _ _ | exact hK _ | (simp (disch := decide) only [uN_s, uN_n]; omega)) (by first | omega | exact bnd_r _ _ | exact hG _ _ | exact hK _ | (simp (disch := decide) only [uN_s, uN_n]; omega)) (fun c62 => absurd c62 (by omega)) (fun c62 => ?_)
  refine v_iload (dec_of DX9_feed 31 rfl) rfl ?_
  refine v_goto (tgt := 72) (dec_of DX9_feed 32 rfl) (by decide) ?_
  refine v_istore (dec_of DX9_feed 34 rfl) (by decide) ?_
  dsimp only [List.set]
  refine v_aload_n (dec_of DX9_feed 35 rfl) rfl ?_
  refine v_get fX9_7 (dec_of DX9_feed 36 rfl) rfl rfl ?_
  try simp (disch := decide) only [uN_s, uN_n]
  refine v_aload_n (dec_of DX9_feed 37 rfl) rfl ?_
  refine v_get fX9_123 (dec_of DX9_feed 38 rfl) rfl rfl ?_
  try simp (disch := decide) only [uN_s, uN_n]
  refine v_iload (dec_of DX9_feed 39 rfl) rfl ?_
  refine vi_bi (dec_of DX9_feed 40 rfl) (by decide) ?_
  refine vi_bi (dec_of DX9_feed 41 rfl) (by decide) ?_
  refine v_iload (dec_of DX9_feed 42 rfl) rfl ?_
  refine vi_const (dec_of DX9_feed 43 rfl) ?_
  refine vi_rem (by first | omega | exact bnd_r _ _ | exact hG _ _ | exact hK _ | (simp (disch := decide) only [uN_s, uN_n]; omega)) (by first | omega | exact bnd_r _ _ | exact hG _ _ | exact hK _ | (simp (disch := decide) only [uN_s, uN_n]; omega)) (dec_of DX9_feed 44 rfl) ?_
  refine vi_mul (dec_of DX9_feed 45 rfl) ?_
  refine vi_sub (dec_of DX9_feed 46 rfl) ?_
  refine vi_shr (dec_of DX9_feed 47 rfl) ?_
  refine vi_si (dec_of DX9_feed 48 rfl) (by decide) ?_
  refine vi_and (dec_of DX9_feed 49 rfl) ?_
  refine ms_0 (dec_of DX9_feed 50 rfl) (by first | omega | exact bnd_r _ _ | exact hG _ _ | exact hK _ | (simp (disch := decide) only [uN_s, uN_n]; omega)) ?_
  try rw [uN_uu]
  refine v_aload_n (dec_of DX9_feed 51 rfl) rfl ?_
  refine v_dup (dec_of DX9_feed 52 rfl) rfl ?_
  refine v_get fX9_123 (dec_of DX9_feed 53 rfl) rfl rfl ?_
  try simp (disch := decide) only [uN_s, uN_n]
  refine vi_const (dec_of DX9_feed 54 rfl) ?_
  refine vi_add (dec_of DX9_feed 55 rfl) ?_
  refine mp_1 fX9_123 (dec_of DX9_feed 56 rfl) ?_
  try rw [uN_uu]
  refine vi_inc (dec_of DX9_feed 57 rfl) rfl (by decide) ?_
  dsimp only [List.set]
  refine v_goto (tgt := 19) (dec_of DX9_feed 58 rfl) (by decide) ?_
  refine v_iload (dec_of DX9_feed 10 rfl) rfl ?_
  refine vi_bi (dec_of DX9_feed 11 rfl) (by decide) ?_
  refine vi_icmp_ge (tgt := 116) (dec_of DX9_feed 12 rfl) (by decide) (by first | omega | exact bnd_r _ _ | exact hG _ _ | exact hK _ | (simp (disch := decide) only [uN_s, uN_n]; omega)) (by first | omega | exact bnd_r _ _ | exact hG _ _ | exact hK _ | (simp (disch := decide) only [uN_s, uN_n]; omega)) (fun c23 => absurd c23 (by omega)) (fun c23 => ?_)
  refine v_iload (dec_of DX9_feed 13 rfl) rfl ?_
  refine vi_const (dec_of DX9_feed 14 rfl) ?_
  refine vi_icmp_ge (tgt := 36) (dec_of DX9_feed 15 rfl) (by decide) (by first | omega | exact bnd_r _ _ | exact hG _ _ | exact hK _ | (simp (disch := decide) only [uN_s, uN_n]; omega)) (by first | omega | exact bnd_r _ _ | exact hG _ _ | exact hK _ | (simp (disch := decide) only [uN_s, uN_n]; omega)) (fun c29 => ?_) (fun c29 => absurd c29 (by omega))
  refine v_iload (dec_of DX9_feed 18 rfl) rfl ?_
  refine vi_bi (dec_of DX9_feed 19 rfl) (by decide) ?_
  refine vi_icmp_ge (tgt := 47) (dec_of DX9_feed 20 rfl) (by decide) (by first | omega | exact bnd_r _ _ | exact hG _ _ | exact hK _ | (simp (disch := decide) only [uN_s, uN_n]; omega)) (by first | omega | exact bnd_r _ _ | exact hG _ _ | exact hK _ | (simp (disch := decide) only [uN_s, uN_n]; omega)) (fun c40 => ?_) (fun c40 => absurd c40 (by omega))
  refine v_iload (dec_of DX9_feed 23 rfl) rfl ?_
  refine vi_bi (dec_of DX9_feed 24 rfl) (by decide) ?_
  refine vi_icmp_ge (tgt := 58) (dec_of DX9_feed 25 rfl) (by decide) (by first | omega | exact bnd_r _ _ | exact hG _ _ | exact hK _ | (simp (disch := decide) only [uN_s, uN_n]; omega)) (by first | omega | exact bnd_r _ _ | exact hG _ _ | exact hK _ | (simp (disch := decide) only [uN_s, uN_n]; omega)) (fun c51 => ?_) (fun c51 => absurd c51 (by omega))
  refine v_iload (dec_of DX9_feed 28 rfl) rfl ?_
  refine vi_bi (dec_of DX9_feed 29 rfl) (by decide) ?_
  refine vi_icmp_ge (tgt := 70) (dec_of DX9_feed 30 rfl) (by decide) (by first | omega | exact bnd_r _ _ | exact hG _ _ | exact hK _ | (simp (disch := decide) only [uN_s, uN_n]; omega)) (by first | omega | exact bnd_r _ _ | exact hG _ _ | exact hK _ | (simp (disch := decide) only [uN_s, uN_n]; omega)) (fun c62 => ?_) (fun c62 => absurd c62 (by omega))
  refine v_iload (dec_of DX9_feed 33 rfl) rfl ?_
  refine v_istore (dec_of DX9_feed 34 rfl) (by decide) ?_
  dsimp only [List.set]
  refine v_aload_n (dec_of DX9_feed 35 rfl) rfl ?_
  refine v_get fX9_7 (dec_of DX9_feed 36 rfl) rfl rfl ?_
  try simp (disch := decide) only [uN_s, uN_n]
  refine v_aload_n (dec_of DX9_feed 37 rfl) rfl ?_
  refine v_get fX9_123 (dec_of DX9_feed 38 rfl) rfl rfl ?_
  try simp (disch := decide) only [uN_s, uN_n]
  refine v_iload (dec_of DX9_feed 39 rfl) rfl ?_
  refine vi_bi (dec_of DX9_feed 40 rfl) (by decide) ?_
  refine vi_bi (dec_of DX9_feed 41 rfl) (by decide) ?_
  refine v_iload (dec_of DX9_feed 42 rfl) rfl ?_
  refine vi_const (dec_of DX9_feed 43 rfl) ?_
  refine vi_rem (by first | omega | exact bnd_r _ _ | exact hG _ _ | exact hK _ | (simp (disch := decide) only [uN_s, uN_n]; omega)) (by first | omega | exact bnd_r _ _ | exact hG _ _ | exact hK _ | (simp (disch := decide) only [uN_s, uN_n]; omega)) (dec_of DX9_feed 44 rfl) ?_
  refine vi_mul (dec_of DX9_feed 45 rfl) ?_
  refine vi_sub (dec_of DX9_feed 46 rfl) ?_
  refine vi_shr (dec_of DX9_feed 47 rfl) ?_
  refine vi_si (dec_of DX9_feed 48 rfl) (by decide) ?_
  refine vi_and (dec_of DX9_feed 49 rfl) ?_
  refine ms_0 (dec_of DX9_feed 50 rfl) (by first | omega | exact bnd_r _ _ | exact hG _ _ | exact hK _ | (simp (disch := decide) only [uN_s, uN_n]; omega)) ?_
  try rw [uN_uu]
  refine v_aload_n (dec_of DX9_feed 51 rfl) rfl ?_
  refine v_dup (dec_of DX9_feed 52 rfl) rfl ?_
  refine v_get fX9_123 (dec_of DX9_feed 53 rfl) rfl rfl ?_
  try simp (disch := decide) only [uN_s, uN_n]
  refine vi_const (dec_of DX9_feed 54 rfl) ?_
  refine vi_add (dec_of DX9_feed 55 rfl) ?_
  refine mp_1 fX9_123 (dec_of DX9_feed 56 rfl) ?_
  try rw [uN_uu]
  refine vi_inc (dec_of DX9_feed 57 rfl) rfl (by decide) ?_
  dsimp only [List.set]
  refine v_goto (tgt := 19) (dec_of DX9_feed 58 rfl) (by decide) ?_
  refine v_iload (dec_of DX9_feed 10 rfl) rfl ?_
  refine vi_bi (dec_of DX9_feed 11 rfl) (by decide) ?_
  refine vi_icmp_ge (tgt := 116) (dec_of DX9_feed 12 rfl) (by decide) (by first | omega | exact bnd_r _ _ | exact hG _ _ | exact hK _ | (simp (disch := decide) only [uN_s, uN_n]; omega)) (by first | omega | exact bnd_r _ _ | exact hG _ _ | exact hK _ | (simp (disch := decide) only [uN_s, uN_n]; omega)) (fun c23 => absurd c23 (by omega)) (fun c23 => ?_)
  refine v_iload (dec_of DX9_feed 13 rfl) rfl ?_
  refine vi_const (dec_of DX9_feed 14 rfl) ?_
  refine vi_icmp_ge (tgt := 36) (dec_of DX9_feed 15 rfl) (by decide) (by first | omega | exact bnd_r _ _ | exact hG _ _ | exact hK _ | (simp (disch := decide) only [uN_s, uN_n]; omega)) (by first | omega | exact bnd_r _ _ | exact hG _ _ | exact hK _ | (simp (disch := decide) only [uN_s, uN_n]; omega)) (fun c29 => ?_) (fun c29 => absurd c29 (by omega))
  refine v_iload (dec_of DX9_feed 18 rfl) rfl ?_
  refine vi_bi (dec_of DX9_feed 19 rfl) (by decide) ?_
  refine vi_icmp_ge (tgt := 47) (dec_of DX9_feed 20 rfl) (by decide) (by first | omega | exact bnd_r _ _ | exact hG _ _ | exact hK _ | (simp (disch := decide) only [uN_s, uN_n]; omega)) (by first | omega | exact bnd_r _ _ | exact hG _ _ | exact hK _ | (simp (disch := decide) only [uN_s, uN_n]; omega)) (fun c40 => ?_) (fun c40 => absurd c40 (by omega))
  refine v_iload (dec_of DX9_feed 23 rfl) rfl ?_
  refine vi_bi (dec_of DX9_feed 24 rfl) (by decide) ?_
  refine vi_icmp_ge (tgt := 58) (dec_of DX9_feed 25 rfl) (by decide) (by first | omega | exact bnd_r _ _ | exact hG _ _ | exact hK _ | (simp (disch := decide) only [uN_s, uN_n]; omega)) (by first | omega | exact bnd_r _ _ | exact hG _ _ | exact hK _ | (simp (disch := decide) only [uN_s, uN_n]; omega)) (fun c51 => ?_) (fun c51 => absurd c51 (by omega))
  refine v_iload (dec_of DX9_feed 28 rfl) rfl ?_
  refine vi_bi (dec_of DX9_feed 29 rfl) (by decide) ?_
  refine vi_icmp_ge (tgt := 70) (dec_of DX9_feed 30 rfl) (by decide) (by first | omega | exact bnd_r _ _ | exact hG _ _ | exact hK _ | (simp (disch := decide) only [uN_s, uN_n]; omega)) (by first | omega | exact bnd_r _ _ | exact hG _ _ | exact hK _ | (simp (disch := decide) only [uN_s, uN_n]; omega)) (fun c62 => ?_) (fun c62 => absurd c62 (by omega))
  refine v_iload (dec_of DX9_feed 33 rfl) rfl ?_
  refine v_istore (dec_of DX9_feed 34 rfl) (by decide) ?_
  dsimp only [List.set]
  refine v_aload_n (dec_of DX9_feed 35 rfl) rfl ?_
  refine v_get fX9_7 (dec_of DX9_feed 36 rfl) rfl rfl ?_
  try simp (disch := decide) only [uN_s, uN_n]
  refine v_aload_n (dec_of DX9_feed 37 rfl) rfl ?_
  refine v_get fX9_123 (dec_of DX9_feed 38 rfl) rfl rfl ?_
  try simp (disch := decide) only [uN_s, uN_n]
  refine v_iload (dec_of DX9_feed 39 rfl) rfl ?_
  refine vi_bi (dec_of DX9_feed 40 rfl) (by decide) ?_
  refine vi_bi (dec_of DX9_feed 41 rfl) (by decide) ?_
  refine v_iload (dec_of DX9_feed 42 rfl) rfl ?_
  refine vi_const (dec_of DX9_feed 43 rfl) ?_
  refine vi_rem (by first | omega | exact bnd_r _ _ | exact hG _ _ | exact hK _ | (simp (disch := decide) only [uN_s, uN_n]; omega)) (by first | omega | exact bnd_r _ _ | exact hG _ _ | exact hK _ | (simp (disch := decide) only [uN_s, uN_n]; omega)) (dec_of DX9_feed 44 rfl) ?_
  refine vi_mul (dec_of DX9_feed 45 rfl) ?_
  refine vi_sub (dec_of DX9_feed 46 rfl) ?_
  refine vi_shr (dec_of DX9_feed 47 rfl) ?_
  refine vi_si (dec_of DX9_feed 48 rfl) (by decide) ?_
  refine vi_and (dec_of DX9_feed 49 rfl) ?_
  refine ms_0 (dec_of DX9_feed 50 rfl) (by first | omega | exact bnd_r _ _ | exact hG _ _ | exact hK _ | (simp (disch := decide) only [uN_s, uN_n]; omega)) ?_
  try rw [uN_uu]
  refine v_aload_n (dec_of DX9_feed 51 rfl) rfl ?_
  refine v_dup (dec_of DX9_feed 52 rfl) rfl ?_
  refine v_get fX9_123 (dec_of DX9_feed 53 rfl) rfl rfl ?_
  try simp (disch := decide) only [uN_s, uN_n]
  refine vi_const (dec_of DX9_feed 54 rfl) ?_
  refine vi_add (dec_of DX9_feed 55 rfl) ?_
  refine mp_1 fX9_123 (dec_of DX9_feed 56 rfl) ?_
  try rw [uN_uu]
  refine vi_inc (dec_of DX9_feed 57 rfl) rfl (by decide) ?_
  dsimp only [List.set]
  refine v_goto (tgt := 19) (dec_of DX9_feed 58 rfl) (by decide) ?_
  refine v_iload (dec_of DX9_feed 10 rfl) rfl ?_
  refine vi_bi (dec_of DX9_feed 11 rfl) (by decide) ?_
  refine vi_icmp_ge (tgt := 116) (dec_of DX9_feed 12 rfl) (by decide) (by first | omega | exact bnd_r _ _ | exact hG _ _ | exact hK _ | (simp (disch := decide) only [uN_s, uN_n]; omega)) (by first | omega | exact bnd_r _ _ | exact hG _ _ | exact hK _ | (simp (disch := decide) only [uN_s, uN_n]; omega)) (fun c23 => absurd c23 (by omega)) (fun c23 => ?_)
  refine v_iload (dec_of DX9_feed 13 rfl) rfl ?_
  refine vi_const (dec_of DX9_feed 14 rfl) ?_
  refine vi_icmp_ge (tgt := 36) (dec_of DX9_feed 15 rfl) (by decide) (by first | omega | exact bnd_r _ _ | exact hG _ _ | exact hK _ | (simp (disch := decide) only [uN_s, uN_n]; omega)) (by first | omega | exact bnd_r _ _ | exact hG _ _ | exact hK _ | (simp (disch := decide) only [uN_s, uN_n]; omega)) (fun c29 => ?_) (fun c29 => absurd c29 (by omega))
  refine v_iload (dec_of DX9_feed 18 rfl) rfl ?_
  refine vi_bi (dec_of DX9_feed 19 rfl) (by decide) ?_
  refine vi_icmp_ge (tgt := 47) (dec_of DX9_feed 20 rfl) (by decide) (by first | omega | exact bnd_r _ _ | exact hG _ _ | exact hK _ | (simp (disch := decide) only [uN_s, uN_n]; omega)) (by first | omega | exact bnd_r _ _ | exact hG _ _ | exact hK _ | (simp (disch := decide) only [uN_s, uN_n]; omega)) (fun c40 => ?_) (fun c40 => absurd c40 (by omega))
  refine v_iload (dec_of DX9_feed 23 rfl) rfl ?_
  refine vi_bi (dec_of DX9_feed 24 rfl) (by decide) ?_
  refine vi_icmp_ge (tgt := 58) (dec_of DX9_feed 25 rfl) (by decide) (by first | omega | exact bnd_r _ _ | exact hG _ _ | exact hK _ | (simp (disch := decide) only [uN_s, uN_n]; omega)) (by first | omega | exact bnd_r _ _ | exact hG _ _ | exact hK _ | (simp (disch := decide) only [uN_s, uN_n]; omega)) (fun c51 => ?_) (fun c51 => absurd c51 (by omega))
  refine v_iload (dec_of DX9_feed 28 rfl) rfl ?_
  refine vi_bi (dec_of DX9_feed 29 rfl) (by decide) ?_
  refine vi_icmp_ge (tgt := 70) (dec_of DX9_feed 30 rfl) (by decide) (by first | omega | exact bnd_r _ _ | exact hG _ _ | exact hK _ | (simp (disch := decide) only [uN_s, uN_n]; omega)) (by first | omega | exact bnd_r _ _ | exact hG _ _ | exact hK _ | (simp (disch := decide) only [uN_s, uN_n]; omega)) (fun c62 => ?_) (fun c62 => absurd c62 (by omega))
  refine v_iload (dec_of DX9_feed 33 rfl) rfl ?_
  refine v_istore (dec_of DX9_feed 34 rfl) (by decide) ?_
  dsimp only [List.set]
  refine v_aload_n (dec_of DX9_feed 35 rfl) rfl ?_
  refine v_get fX9_7 (dec_of DX9_feed 36 rfl) rfl rfl ?_
  try simp (disch := decide) only [uN_s, uN_n]
  refine v_aload_n (dec_of DX9_feed 37 rfl) rfl ?_
  refine v_get fX9_123 (dec_of DX9_feed 38 rfl) rfl rfl ?_
  try simp (disch := decide) only [uN_s, uN_n]
  refine v_iload (dec_of DX9_feed 39 rfl) rfl ?_
  refine vi_bi (dec_of DX9_feed 40 rfl) (by decide) ?_
  refine vi_bi (dec_of DX9_feed 41 rfl) (by decide) ?_
  refine v_iload (dec_of DX9_feed 42 rfl) rfl ?_
  refine vi_const (dec_of DX9_feed 43 rfl) ?_
  refine vi_rem (by first | omega | exact bnd_r _ _ | exact hG _ _ | exact hK _ | (simp (disch := decide) only [uN_s, uN_n]; omega)) (by first | omega | exact bnd_r _ _ | exact hG _ _ | exact hK _ | (simp (disch := decide) only [uN_s, uN_n]; omega)) (dec_of DX9_feed 44 rfl) ?_
  refine vi_mul (dec_of DX9_feed 45 rfl) ?_
  refine vi_sub (dec_of DX9_feed 46 rfl) ?_
  refine vi_shr (dec_of DX9_feed 47 rfl) ?_
  refine vi_si (dec_of DX9_feed 48 rfl) (by decide) ?_
  refine vi_and (dec_of DX9_feed 49 rfl) ?_
  refine ms_0 (dec_of DX9_feed 50 rfl) (by first | omega | exact bnd_r _ _ | exact hG _ _ | exact hK _ | (simp (disch := decide) only [uN_s, uN_n]; omega)) ?_
  try rw [uN_uu]
  refine v_aload_n (dec_of DX9_feed 51 rfl) rfl ?_
  refine v_dup (dec_of DX9_feed 52 rfl) rfl ?_
  refine v_get fX9_123 (dec_of DX9_feed 53 rfl) rfl rfl ?_
  try simp (disch := decide) only [uN_s, uN_n]
  refine vi_const (dec_of DX9_feed 54 rfl) ?_
  refine vi_add (dec_of DX9_feed 55 rfl) ?_
  refine mp_1 fX9_123 (dec_of DX9_feed 56 rfl) ?_
  try rw [uN_uu]
  refine vi_inc (dec_of DX9_feed 57 rfl) rfl (by decide) ?_
  dsimp only [List.set]
  refine v_goto (tgt := 19) (dec_of DX9_feed 58 rfl) (by decide) ?_
  refine v_iload (dec_of DX9_feed 10 rfl) rfl ?_
  refine vi_bi (dec_of DX9_feed 11 rfl) (by decide) ?_
  refine vi_icmp_ge (tgt := 116) (dec_of DX9_feed 12 rfl) (by decide) (by first | omega | exact bnd_r _ _ | exact hG _ _ | exact hK _ | (simp (disch := decide) only [uN_s, uN_n]; omega)) (by first | omega | exact bnd_r _ _ | exact hG _ _ | exact hK _ | (simp (disch := decide) only [uN_s, uN_n]; omega)) (fun c23 => absurd c23 (by omega)) (fun c23 => ?_)
  refine v_iload (dec_of DX9_feed 13 rfl) rfl ?_
  refine vi_const (dec_of DX9_feed 14 rfl) ?_
  refine vi_icmp_ge (tgt := 36) (dec_of DX9_feed 15 rfl) (by decide) (by first | omega | exact bnd_r _ _ | exact hG _ _ | exact hK _ | (simp (disch := decide) only [uN_s, uN_n]; omega)) (by first | omega | exact bnd_r _ _ | exact hG _ _ | exact hK _ | (simp (disch := decide) only [uN_s, uN_n]; omega)) (fun c29 => ?_) (fun c29 => absurd c29 (by omega))
  refine v_iload (dec_of DX9_feed 18 rfl) rfl ?_
  refine vi_bi (dec_of DX9_feed 19 rfl) (by decide) ?_
  refine vi_icmp_ge (tgt := 47) (dec_of DX9_feed 20 rfl) (by decide) (by first | omega | exact bnd_r _ _ | exact hG _ _ | exact hK _ | (simp (disch := decide) only [uN_s, uN_n]; omega)) (by first | omega | exact bnd_r _ _ | exact hG _ _ | exact hK _ | (simp (disch := decide) only [uN_s, uN_n]; omega)) (fun c40 => ?_) (fun c40 => absurd c40 (by omega))
  refine v_iload (dec_of DX9_feed 23 rfl) rfl ?_
  refine vi_bi (dec_of DX9_feed 24 rfl) (by decide) ?_
  refine vi_icmp_ge (tgt := 58) (dec_of DX9_feed 25 rfl) (by decide) (by first | omega | exact bnd_r _ _ | exact hG _ _ | exact hK _ | (simp (disch := decide) only [uN_s, uN_n]; omega)) (by first | omega | exact bnd_r _ _ | exact hG _ _ | exact hK _ | (simp (disch := decide) only [uN_s, uN_n]; omega)) (fun c51 => ?_) (fun c51 => absurd c51 (by omega))
  refine v_iload (dec_of DX9_feed 28 rfl) rfl ?_
  refine vi_bi (dec_of DX9_feed 29 rfl) (by decide) ?_
  refine vi_icmp_ge (tgt := 70) (dec_of DX9_feed 30 rfl) (by decide) (by first | omega | exact bnd_r _ _ | exact hG _ _ | exact hK _ | (simp (disch := decide) only [uN_s, uN_n]; omega)) (by first | omega | exact bnd_r _ _ | exact hG _ _ | exact hK _ | (simp (disch := decide) only [uN_s, uN_n]; omega)) (fun c62 => ?_) (fun c62 => absurd c62 (by omega))
  refine v_iload (dec_of DX9_feed 33 rfl) rfl ?_
  refine v_istore (dec_of DX9_feed 34 rfl) (by decide) ?_
  dsimp only [List.set]
  refine v_aload_n (dec_of DX9_feed 35 rfl) rfl ?_
  refine v_get fX9_7 (dec_of DX9_feed 36 rfl) rfl rfl ?_
  try simp (disch := decide) only [uN_s, uN_n]
  refine v_aload_n (dec_of DX9_feed 37 rfl) rfl ?_
  refine v_get fX9_123 (dec_of DX9_feed 38 rfl) rfl rfl ?_
  try simp (disch := decide) only [uN_s, uN_n]
  refine v_iload (dec_of DX9_feed 39 rfl) rfl ?_
  refine vi_bi (dec_of DX9_feed 40 rfl) (by decide) ?_
  refine vi_bi (dec_of DX9_feed 41 rfl) (by decide) ?_
  refine v_iload (dec_of DX9_feed 42 rfl) rfl ?_
  refine vi_const (dec_of DX9_feed 43 rfl) ?_
  refine vi_rem (by first | omega | exact bnd_r _ _ | exact hG _ _ | exact hK _ | (simp (disch := decide) only [uN_s, uN_n]; omega)) (by first | omega | exact bnd_r _ _ | exact hG _ _ | exact hK _ | (simp (disch := decide) only [uN_s, uN_n]; omega)) (dec_of DX9_feed 44 rfl) ?_
  refine vi_mul (dec_of DX9_feed 45 rfl) ?_
  refine vi_sub (dec_of DX9_feed 46 rfl) ?_
  refine vi_shr (dec_of DX9_feed 47 rfl) ?_
  refine vi_si (dec_of DX9_feed 48 rfl) (by decide) ?_
  refine vi_and (dec_of DX9_feed 49 rfl) ?_
  refine ms_0 (dec_of DX9_feed 50 rfl) (by first | omega | exact bnd_r _ _ | exact hG _ _ | exact hK _ | (simp (disch := decide) only [uN_s, uN_n]; omega)) ?_
  try rw [uN_uu]
  refine v_aload_n (dec_of DX9_feed 51 rfl) rfl ?_
  refine v_dup (dec_of DX9_feed 52 rfl) rfl ?_
  refine v_get fX9_123 (dec_of DX9_feed 53 rfl) rfl rfl ?_
  try simp (disch := decide) only [uN_s, uN_n]
  refine vi_const (dec_of DX9_feed 54 rfl) ?_
  refine vi_add (dec_of DX9_feed 55 rfl) ?_
  refine mp_1 fX9_123 (dec_of DX9_feed 56 rfl) ?_
  try rw [uN_uu]
  refine vi_inc (dec_of DX9_feed 57 rfl) rfl (by decide) ?_
  dsimp only [List.set]
  refine v_goto (tgt := 19) (dec_of DX9_feed 58 rfl) (by decide) ?_
  refine v_iload (dec_of DX9_feed 10 rfl) rfl ?_
  refine vi_bi (dec_of DX9_feed 11 rfl) (by decide) ?_
  refine vi_icmp_ge (tgt := 116) (dec_of DX9_feed 12 rfl) (by decide) (by first | omega | exact bnd_r _ _ | exact hG _ _ | exact hK _ | (simp (disch := decide) only [uN_s, uN_n]; omega)) (by first | omega | exact bnd_r _ _ | exact hG _ _ | exact hK _ | (simp (disch := decide) only [uN_s, uN_n]; omega)) (fun c23 => ?_) (fun c23 => absurd c23 (by omega))
  refine v_aload_n (dec_of DX9_feed 59 rfl) rfl ?_
  refine v_get fX9_123 (dec_of DX9_feed 60 rfl) rfl rfl ?_
  try simp (disch := decide) only [uN_s, uN_n]
  exact vi_ret (dec_of DX9_feed 61 rfl) rfl ⟨by decide, by decide⟩ (⟨rfl, rfl⟩)
set_option maxRecDepth 100000 in
set_option maxHeartbeats 4000000 in
theorem q_feed_full {I N : Nat → Int} {F : Nat → Int → Int} {K : Nat → Int} {G : Nat → Int → Int} (hG : FR G) (hK : IR K) (hM : MR K) {a1 a2 a3 a4 a5 : Int} (h : ¬ K 1 + 20 ≤ 1500) : Sd (rm 0 0 0 0) mX9_feed [.ref 31, J a1, J a2, J a3, J a4, J a5] (W2 I N F K G) (W2 I N F K G) (some (J (-104))) := by
  unfold Sd
  unfold MR at hM
  refine sp_of (ls := [some (.ref 31), some (J a1), some (J a2), some (J a3), some (J a4), some (J a5), none, none]) (by decide) (nle rfl) rfl rfl ?_
  refine v_aload_n (dec_of DX9_feed 0 rfl) rfl ?_
  refine v_get fX9_123 (dec_of DX9_feed 1 rfl) rfl rfl ?_
  refine vi_bi (dec_of DX9_feed 2 rfl) (by decide) ?_
  refine vi_add (dec_of DX9_feed 3 rfl) ?_
  refine vi_si (dec_of DX9_feed 4 rfl) (by decide) ?_
  refine vi_icmp_le (tgt := 16) (dec_of DX9_feed 5 rfl) (by decide) (by first | omega | exact bnd_r _ _ | exact hG _ _ | exact hK _ | (simp (disch := decide) only [uN_s, uN_n]; omega)) (by first | omega | exact bnd_r _ _ | exact hG _ _ | exact hK _ | (simp (disch := decide) only [uN_s, uN_n]; omega)) (fun c10 => absurd c10 (by omega)) (fun c10 => ?_)
  refine vi_bi (dec_of DX9_feed 6 rfl) (by decide) ?_
  exact vi_ret (dec_of DX9_feed 7 rfl) rfl ⟨by decide, by decide⟩ (⟨rfl, rfl⟩)
