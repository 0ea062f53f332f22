/-! read of the class (printed by wip/tools/gen_c16.py) -/
set_option maxRecDepth 100000 in
set_option maxHeartbeats 1000000 in
theorem k_readFrom {T : XW} {I N : Nat → Int} {F : Nat → Int → Int} {K : Nat → Int} {G : Nat → Int → Int} (hF : FR F) (hI : IR I) (hN : NR N) (hR0 : Rl (stI I) (stN N) (stF F) K G) (k29 : K 29 = 0) (k26 : K 26 = 0) (hV : Iv K G) : Sp (rm 5 122 0 0) mX2_readFrom [.ref 20, .ref 1] (cls I N F ++ T) (RdZ T I N F K G) := by
  refine sp_of (ls := [some (.ref 20), some (.ref 1), none, none, none]) (by decide) (nle rfl) rfl rfl ?_
  refine v_aload_n (dec_of DX2_readFrom 0 rfl) rfl ?_
  refine v_V0v (k_start hF hI hN) lX2_30 (dec_of DX2_readFrom 1 rfl) rfl rfl (by decide) (nle rfl) rfl ?_
  refine v_aload_n (dec_of DX2_readFrom 2 rfl) rfl ?_
  refine v_V0r (c0_size) lX2_33 (dec_of DX2_readFrom 3 rfl) rfl rfl (by decide) (nle rfl) rfl ?_
  refine v_istore_n (dec_of DX2_readFrom 4 rfl) (by decide) ?_
  dsimp only [List.set]
  refine vi_const (dec_of DX2_readFrom 5 rfl) ?_
  refine v_istore_n (dec_of DX2_readFrom 6 rfl) (by decide) ?_
  dsimp only [List.set]
  have e0 : stN N 0 = K 28 := hR0.2.2.2.2.1
  have p1 : 0 ≤ stN N 0 := hN.1.1
  have i5 : stI I 5 = 0 := rfl
  exact k_rd_loop hV e0 (fun w r h => h) (stN N 0).toNat 0 (stI I) (stN N) (stF F) K G (by omega) (Int.le_refl 0) ⟨Rch.refl _, stF_r hF, stI_r hI, stN_r hN, st_kpt, fun _ => ⟨hR0, by omega, by omega, Or.inl k29⟩, fun q => absurd k26 q⟩
/-- what read leaves -/
def RdX (T : XW) (I N : Nat → Int) (F : Nat → Int → Int) (K0 : Nat → Int) (G0 : Nat → Int → Int) (w : XW) (r : Option Value) : Prop :=
  ∃ (K : Nat → Int) (G : Nat → Int → Int) (I1 N1 : Nat → Int) (F1 : Nat → Int → Int), Rch (K0, G0) (K, G) ∧ mDone K ∧ FR F1 ∧ IR I1 ∧ NR N1 ∧ Kpt I N F I1 N1 F1 ∧
    ((K 26 = 0 ∧ Rl I1 N1 F1 K G ∧ K 60 = 0 ∧ r = some (J (K 15)) ∧ ∃ (j : Nat) (g5 g4 : Int → Int), ShP N1 F1 (N1 4) j g5 g4 ∧ w = cls (uN I1 0 (-100)) (uN (uN N1 5 j) 0 0) (uN (uN F1 5 g5) 4 g4) ++ T) ∨
     (¬ K 26 = 0 ∧ r = some (J (-10 - K 26)) ∧ w = cls (uN (uN (uN I1 1 0) 2 0) 0 (K 27)) (uN (uN (uN (uN (uN (uN (uN (uN N1 2 0) 3 0) 4 0) 5 0) 6 0) 7 0) 8 0) 0 0) F1 ++ T))
set_option maxRecDepth 100000 in
set_option maxHeartbeats 1000000 in
theorem x_read {T : XW} {I N : Nat → Int} {F : Nat → Int → Int} {K : Nat → Int} {G : Nat → Int → Int} (hF : FR F) (hI : IR I) (hN : NR N) (hR0 : Rl (stI I) (stN N) (stF F) K G) (k29 : K 29 = 0) (k26 : K 26 = 0) (hV : Iv K G) : Sp (rm 6 146 0 0) mX8_read [.ref 0] (cls I N F ++ T) (RdX T I N F K G) := by
  refine sp_of (ls := [some (.ref 0), none]) (by decide) (nle rfl) rfl rfl ?_
  refine v_aload_n (dec_of DX8_read 0 rfl) rfl ?_
  refine v_get fX8_33 (dec_of DX8_read 1 rfl) rfl rfl ?_
  refine v_aload_n (dec_of DX8_read 2 rfl) rfl ?_
  refine v_get fX8_14 (dec_of DX8_read 3 rfl) rfl rfl ?_
  refine v_V1p (k_readFrom hF hI hN hR0 k29 k26 hV) lX8_63 (dec_of DX8_read 4 rfl) rfl rfl ⟨by decide, by decide, by decide, by decide⟩ (nle rfl) rfl ?_
  intro w r q
  obtain ⟨K1, G1, I1, N1, F1, s1, s2, rfl, s3, s4, s5, s6, q⟩ := q
  have m26 := (Iv_rch s1 hV).1.2.2.2.2.2.2.2.2.2.2.2.2.2.1
  have n0 := s5.1
  rcases q with ⟨q1, q2, q3, j, g5, g4, q4, rfl⟩ | ⟨q1, q2, rfl⟩
  · show Vd _ _ _ _ _ _ _ _ _ [J (K1 26)] _
    refine v_istore_n (dec_of DX8_read 5 rfl) (by decide) ?_
    dsimp only [List.set]
    refine v_aload_n (dec_of DX8_read 6 rfl) rfl ?_
    refine v_get fX8_14 (dec_of DX8_read 7 rfl) rfl rfl ?_
    refine vi_const (dec_of DX8_read 8 rfl) ?_
    refine v_V1v (c0_keep (by exact n0) (by exact ⟨Int.le_refl 0, n0.1⟩)) lX8_60 (dec_of DX8_read 9 rfl) rfl rfl (by decide) (nle rfl) rfl ?_
    refine v_iload_n (dec_of DX8_read 10 rfl) rfl ?_
    refine vi_if_eq (tgt := 40) (dec_of DX8_read 11 rfl) (by decide) (by first | omega | exact bnd_r _ _ | exact hF _ _ | exact hI _ | exact hG _ _ | exact hK _ | (simp [uN] <;> omega)) (fun c21 => ?_) (fun c21 => absurd c21 (by omega))
    refine v_aload_n (dec_of DX8_read 21 rfl) rfl ?_
    refine vi_bi (dec_of DX8_read 22 rfl) (by decide) ?_
    refine cp_0 fX8_44 (dec_of DX8_read 23 rfl) ?_
    refine v_aload_n (dec_of DX8_read 24 rfl) rfl ?_
    refine v_get fX8_24 (dec_of DX8_read 25 rfl) rfl rfl ?_
    refine v_get fX8_70 (dec_of DX8_read 26 rfl) rfl rfl ?_
    refine v_V0r (c4_size) lX8_48 (dec_of DX8_read 27 rfl) rfl rfl (by decide) (nle rfl) rfl ?_
    exact vi_ret (dec_of DX8_read 28 rfl) rfl ⟨by decide, by decide⟩ (⟨K1, G1, I1, N1, F1, s1, s2, s3, s4, s5, s6, Or.inl ⟨q1, q2, q3, by rw [show uN (uN N1 5 (j : Int)) 0 0 4 = K1 15 from q2.1.1.2.2.2.2.2.2.1], j, g5, g4, q4, rfl⟩⟩)
  · show Vd _ _ _ _ _ _ _ _ _ [J (K1 26)] _
    refine v_istore_n (dec_of DX8_read 5 rfl) (by decide) ?_
    dsimp only [List.set]
    refine v_aload_n (dec_of DX8_read 6 rfl) rfl ?_
    refine v_get fX8_14 (dec_of DX8_read 7 rfl) rfl rfl ?_
    refine vi_const (dec_of DX8_read 8 rfl) ?_
    refine v_V1v (c0_keep (by exact n0) (by exact ⟨Int.le_refl 0, n0.1⟩)) lX8_60 (dec_of DX8_read 9 rfl) rfl rfl (by decide) (nle rfl) rfl ?_
    refine v_iload_n (dec_of DX8_read 10 rfl) rfl ?_
    refine vi_if_eq (tgt := 40) (dec_of DX8_read 11 rfl) (by decide) (by first | omega | exact bnd_r _ _ | exact hF _ _ | exact hI _ | exact hG _ _ | exact hK _ | (simp [uN] <;> omega)) (fun c21 => absurd c21 (by omega)) (fun c21 => ?_)
    refine v_aload_n (dec_of DX8_read 12 rfl) rfl ?_
    refine v_aload_n (dec_of DX8_read 13 rfl) rfl ?_
    refine v_get fX8_33 (dec_of DX8_read 14 rfl) rfl rfl ?_
    refine v_V0r (k_placeOfFault) lX8_67 (dec_of DX8_read 15 rfl) rfl rfl (by decide) (nle rfl) rfl ?_
    refine cp_0 fX8_44 (dec_of DX8_read 16 rfl) ?_
    refine vi_bi (dec_of DX8_read 17 rfl) (by decide) ?_
    refine v_iload_n (dec_of DX8_read 18 rfl) rfl ?_
    refine vi_sub (dec_of DX8_read 19 rfl) ?_
    exact vi_ret (dec_of DX8_read 20 rfl) rfl ⟨by decide, by decide⟩ (⟨K1, G1, I1, N1, F1, s1, s2, s3, s4, s5, s6, Or.inr ⟨q1, rfl, by rw [show uN (uN I1 1 0) 2 0 4 = K1 27 from q2]⟩⟩)
