/-! Reader: within brackets (printed by wip/tools/gen_c3.py) -/
/-- a sign of kind k with value v comes behind -/
def sgF (N : Nat → Int) (F : Nat → Int → Int) (k v : Int) : Nat → Int → Int := uN (uN F 9 (uI (F 9) k (F 9 k + 1))) 8 (uI (adf (F 8) 2 (N 8) k) (N 8 * 2 + 1) v)
def rmK (k : Int) : Int := if k = 0 then 150 else if k = 4 then 30 else 20
theorem k_addS {T : XW} {I N : Nat → Int} {F : Nat → Int → Int} (hF : FR F) (hI : IR I) (hN : NR N) {p k v : Int} (hk : 0 ≤ k ∧ k < 6) (h9 : N 9 = 6) (h8 : N 8 < 260) (hr : F 9 k < rmK k) : Sd (rm 1 24 0 0) mX2_addSign [.ref 20, J p, J k, J v] (cls I N F ++ T) (cls I (uN N 8 (N 8 + 1)) (sgF N F k v) ++ T) (some (J 1)) := k_addSign hF hI hN hk h9 h8 hr
theorem k_addSf {T : XW} {I N : Nat → Int} {F : Nat → Int → Int} (hF : FR F) (hI : IR I) (hN : NR N) {p k v : Int} (hk : 0 ≤ k ∧ k < 6) (h9 : N 9 = 6) (hr : ¬ F 9 k < rmK k) : Sd (rm 1 24 0 0) mX2_addSign [.ref 20, J p, J k, J v] (cls I N F ++ T) (cls (uN (uN I 3 2) 4 p) N F ++ T) (some (J 0)) := k_addSign_full hF hI hN hk h9 hr
def ntF (I N : Nat → Int) (F : Nat → Int → Int) (h g : Int) : Nat → Int → Int :=
  uN (uN (sgF N F 0 (N 4)) 4 (uI (uI (uI (uI (adf (F 4) 8 (N 4) h) (N 4 * 8 + 2) (N 3 - 1)) (N 4 * 8 + 3) (g - 1)) (N 4 * 8 + 5) (h - I 6)) (N 4 * 8 + 6) (12 * ((h - I 6) / 7) + scI ((h - I 6) % 7) - bnd (bsr (I 7) h) 1))) 3
    (if F 3 ((N 3 - 1) * 9 + 4) = 0 then uI (uI (F 3) ((N 3 - 1) * 9 + 5) (N 4)) ((N 3 - 1) * 9 + 4) (F 3 ((N 3 - 1) * 9 + 4) + 1) else uI (F 3) ((N 3 - 1) * 9 + 4) (F 3 ((N 3 - 1) * 9 + 4) + 1))
set_option maxRecDepth 100000 in
set_option maxHeartbeats 4000000 in
theorem k_endSyl {T : XW} {I N : Nat → Int} {F : Nat → Int → Int} (hF : FR F) (hI : IR I) (hN : NR N) (h3 : 0 < N 3) : Sd (rm 1 24 0 0) mX2_endSyllable [.ref 20] (cls I N F ++ T) (cls (uN (uN I 8 0) 9 0) N (uN F 3 (uI (F 3) ((N 3 - 1) * 9 + 8) (N 8 - F 3 ((N 3 - 1) * 9 + 7)))) ++ T) (none) := by
  unfold Sd
  unfold NR at hN
  refine sp_of (ls := [some (.ref 20), none, none]) (by decide) (nle rfl) rfl rfl ?_
  refine v_aload_n (dec_of DX2_endSyllable 0 rfl) rfl ?_
  refine vi_const (dec_of DX2_endSyllable 1 rfl) ?_
  refine cp_8 fX2_47 (dec_of DX2_endSyllable 2 rfl) (by omega) ?_
  refine v_aload_n (dec_of DX2_endSyllable 3 rfl) rfl ?_
  refine vi_const (dec_of DX2_endSyllable 4 rfl) ?_
  refine cp_9 fX2_73 (dec_of DX2_endSyllable 5 rfl) (by omega) ?_
  refine v_aload_n (dec_of DX2_endSyllable 6 rfl) rfl ?_
  refine v_get fX2_9 (dec_of DX2_endSyllable 7 rfl) rfl rfl ?_
  refine v_get fX2_106 (dec_of DX2_endSyllable 8 rfl) rfl rfl ?_
  refine v_V0r (c3_size) lX2_33 (dec_of DX2_endSyllable 9 rfl) rfl rfl (by decide) (nle rfl) rfl ?_
  refine vi_const (dec_of DX2_endSyllable 10 rfl) ?_
  refine vi_sub (dec_of DX2_endSyllable 11 rfl) ?_
  refine v_istore_n (dec_of DX2_endSyllable 12 rfl) (by decide) ?_
  dsimp only [List.set]
  refine v_aload_n (dec_of DX2_endSyllable 13 rfl) rfl ?_
  refine v_get fX2_9 (dec_of DX2_endSyllable 14 rfl) rfl rfl ?_
  refine v_get fX2_122 (dec_of DX2_endSyllable 15 rfl) rfl rfl ?_
  refine v_V0r (c8_size) lX2_33 (dec_of DX2_endSyllable 16 rfl) rfl rfl (by decide) (nle rfl) rfl ?_
  refine v_aload_n (dec_of DX2_endSyllable 17 rfl) rfl ?_
  refine v_get fX2_9 (dec_of DX2_endSyllable 18 rfl) rfl rfl ?_
  refine v_get fX2_106 (dec_of DX2_endSyllable 19 rfl) rfl rfl ?_
  refine v_iload_n (dec_of DX2_endSyllable 20 rfl) rfl ?_
  refine vi_bi (dec_of DX2_endSyllable 21 rfl) (by decide) ?_
  refine v_V2r (c3_get (by first | omega | exact bnd_r _ _ | exact hF _ _ | exact hI _ | exact hG _ _ | exact hK _ | (simp [uN] <;> omega)) (by first | omega | exact bnd_r _ _ | exact hF _ _ | exact hI _ | exact hG _ _ | exact hK _ | (simp [uN] <;> omega)) (by first | omega | exact bnd_r _ _ | exact hF _ _ | exact hI _ | exact hG _ _ | exact hK _ | (simp [uN] <;> omega))) lX2_43 (dec_of DX2_endSyllable 22 rfl) rfl rfl (by decide) (nle rfl) rfl ?_
  refine vi_sub (dec_of DX2_endSyllable 23 rfl) ?_
  refine v_istore_n (dec_of DX2_endSyllable 24 rfl) (by decide) ?_
  dsimp only [List.set]
  refine v_aload_n (dec_of DX2_endSyllable 25 rfl) rfl ?_
  refine v_get fX2_9 (dec_of DX2_endSyllable 26 rfl) rfl rfl ?_
  refine v_get fX2_106 (dec_of DX2_endSyllable 27 rfl) rfl rfl ?_
  refine v_iload_n (dec_of DX2_endSyllable 28 rfl) rfl ?_
  refine vi_bi (dec_of DX2_endSyllable 29 rfl) (by decide) ?_
  refine v_iload_n (dec_of DX2_endSyllable 30 rfl) rfl ?_
  refine v_V3v (c3_set (by first | omega | exact bnd_r _ _ | exact hF _ _ | exact hI _ | exact hG _ _ | exact hK _ | (simp [uN] <;> omega)) (by first | omega | exact bnd_r _ _ | exact hF _ _ | exact hI _ | exact hG _ _ | exact hK _ | (simp [uN] <;> omega)) (by first | omega | exact bnd_r _ _ | exact hF _ _ | exact hI _ | exact hG _ _ | exact hK _ | (simp [uN] <;> omega))) lX2_109 (dec_of DX2_endSyllable 31 rfl) rfl rfl (by decide) (nle rfl) rfl ?_
  exact vi_vret (dec_of DX2_endSyllable 32 rfl) rfl ⟨by decide, by decide⟩ (⟨rfl, rfl⟩)
set_option maxRecDepth 100000 in
set_option maxHeartbeats 4000000 in
theorem k_mark_strange {T : XW} {I N : Nat → Int} {F : Nat → Int → Int} (hF : FR F) (hI : IR I) (hN : NR N) {p m : Int} (hm : -2147483648 ≤ m ∧ m < 2147483648) (h12 : I 12 = 0) : Sd (rm 2 45 0 0) mX2_takeMark [.ref 20, J p, J m] (cls I N F ++ T) (cls (uN (uN I 3 1) 4 p) N F ++ T) (none) := by
  unfold Sd
  unfold NR at hN
  refine sp_of (ls := [some (.ref 20), some (J p), some (J m), none]) (by decide) (nle rfl) rfl rfl ?_
  refine v_aload_n (dec_of DX2_takeMark 0 rfl) rfl ?_
  refine v_get fX2_9 (dec_of DX2_takeMark 1 rfl) rfl rfl ?_
  refine v_get fX2_143 (dec_of DX2_takeMark 2 rfl) rfl rfl ?_
  refine v_V0r (c4_size) lX2_33 (dec_of DX2_takeMark 3 rfl) rfl rfl (by decide) (nle rfl) rfl ?_
  refine vi_const (dec_of DX2_takeMark 4 rfl) ?_
  refine vi_sub (dec_of DX2_takeMark 5 rfl) ?_
  refine v_istore_n (dec_of DX2_takeMark 6 rfl) (by decide) ?_
  dsimp only [List.set]
  refine v_aload_n (dec_of DX2_takeMark 7 rfl) rfl ?_
  refine v_get fX2_82 (dec_of DX2_takeMark 8 rfl) rfl rfl ?_
  refine vi_if_ne (tgt := 29) (dec_of DX2_takeMark 9 rfl) (by decide) (by first | omega | exact bnd_r _ _ | exact hF _ _ | exact hI _ | exact hG _ _ | exact hK _ | (simp [uN] <;> omega)) (fun c17 => absurd c17 (by omega)) (fun c17 => ?_)
  refine v_aload_n (dec_of DX2_takeMark 10 rfl) rfl ?_
  refine vi_const (dec_of DX2_takeMark 11 rfl) ?_
  refine v_iload_n (dec_of DX2_takeMark 12 rfl) rfl ?_
  refine v_V2v (k_refuse) lX2_58 (dec_of DX2_takeMark 13 rfl) rfl rfl (by decide) (nle rfl) rfl ?_
  refine v_goto (tgt := 76) (dec_of DX2_takeMark 14 rfl) (by decide) ?_
  exact vi_vret (dec_of DX2_takeMark 40 rfl) rfl ⟨by decide, by decide⟩ (⟨rfl, rfl⟩)
set_option maxRecDepth 100000 in
set_option maxHeartbeats 4000000 in
theorem k_mark_twice {T : XW} {I N : Nat → Int} {F : Nat → Int → Int} (hF : FR F) (hI : IR I) (hN : NR N) {p m : Int} (hm : -2147483648 ≤ m ∧ m < 2147483648) (h12 : ¬ I 12 = 0) (h4 : 0 < N 4) (hb : ¬ bnd (F 4 ((N 4 - 1) * 8 + 1)) m = 0) : Sd (rm 2 45 0 0) mX2_takeMark [.ref 20, J p, J m] (cls I N F ++ T) (cls (uN (uN I 3 3) 4 p) N F ++ T) (none) := by
  unfold Sd
  unfold NR at hN
  refine sp_of (ls := [some (.ref 20), some (J p), some (J m), none]) (by decide) (nle rfl) rfl rfl ?_
  refine v_aload_n (dec_of DX2_takeMark 0 rfl) rfl ?_
  refine v_get fX2_9 (dec_of DX2_takeMark 1 rfl) rfl rfl ?_
  refine v_get fX2_143 (dec_of DX2_takeMark 2 rfl) rfl rfl ?_
  refine v_V0r (c4_size) lX2_33 (dec_of DX2_takeMark 3 rfl) rfl rfl (by decide) (nle rfl) rfl ?_
  refine vi_const (dec_of DX2_takeMark 4 rfl) ?_
  refine vi_sub (dec_of DX2_takeMark 5 rfl) ?_
  refine v_istore_n (dec_of DX2_takeMark 6 rfl) (by decide) ?_
  dsimp only [List.set]
  refine v_aload_n (dec_of DX2_takeMark 7 rfl) rfl ?_
  refine v_get fX2_82 (dec_of DX2_takeMark 8 rfl) rfl rfl ?_
  refine vi_if_ne (tgt := 29) (dec_of DX2_takeMark 9 rfl) (by decide) (by first | omega | exact bnd_r _ _ | exact hF _ _ | exact hI _ | exact hG _ _ | exact hK _ | (simp [uN] <;> omega)) (fun c17 => ?_) (fun c17 => absurd c17 (by omega))
  refine v_aload_n (dec_of DX2_takeMark 15 rfl) rfl ?_
  refine v_get fX2_9 (dec_of DX2_takeMark 16 rfl) rfl rfl ?_
  refine v_iload_n (dec_of DX2_takeMark 17 rfl) rfl ?_
  refine v_iload_n (dec_of DX2_takeMark 18 rfl) rfl ?_
  refine v_V2r (k_hasMark hF hI (by unfold NR; exact hN) (by omega)) lX2_146 (dec_of DX2_takeMark 19 rfl) rfl rfl (by decide) (nle rfl) rfl ?_
  refine vi_if_eq (tgt := 50) (dec_of DX2_takeMark 20 rfl) (by decide) (by first | omega | exact bnd_r _ _ | exact hF _ _ | exact hI _ | exact hG _ _ | exact hK _ | (simp [uN] <;> omega)) (fun c38 => absurd c38 (by omega)) (fun c38 => ?_)
  refine v_aload_n (dec_of DX2_takeMark 21 rfl) rfl ?_
  refine vi_const (dec_of DX2_takeMark 22 rfl) ?_
  refine v_iload_n (dec_of DX2_takeMark 23 rfl) rfl ?_
  refine v_V2v (k_refuse) lX2_58 (dec_of DX2_takeMark 24 rfl) rfl rfl (by decide) (nle rfl) rfl ?_
  refine v_goto (tgt := 76) (dec_of DX2_takeMark 25 rfl) (by decide) ?_
  exact vi_vret (dec_of DX2_takeMark 40 rfl) rfl ⟨by decide, by decide⟩ (⟨rfl, rfl⟩)
set_option maxRecDepth 100000 in
set_option maxHeartbeats 4000000 in
theorem k_mark_ok {T : XW} {I N : Nat → Int} {F : Nat → Int → Int} (hF : FR F) (hI : IR I) (hN : NR N) {p m : Int} (hm : -2147483648 ≤ m ∧ m < 2147483648) (h12 : ¬ I 12 = 0) (h4 : 0 < N 4) (hb : bnd (F 4 ((N 4 - 1) * 8 + 1)) m = 0) : Sd (rm 2 45 0 0) mX2_takeMark [.ref 20, J p, J m] (cls I N F ++ T) (cls I N (uN F 4 (uI (F 4) ((N 4 - 1) * 8 + 1) (F 4 ((N 4 - 1) * 8 + 1) + m))) ++ T) (none) := by
  unfold Sd
  unfold NR at hN
  refine sp_of (ls := [some (.ref 20), some (J p), some (J m), none]) (by decide) (nle rfl) rfl rfl ?_
  refine v_aload_n (dec_of DX2_takeMark 0 rfl) rfl ?_
  refine v_get fX2_9 (dec_of DX2_takeMark 1 rfl) rfl rfl ?_
  refine v_get fX2_143 (dec_of DX2_takeMark 2 rfl) rfl rfl ?_
  refine v_V0r (c4_size) lX2_33 (dec_of DX2_takeMark 3 rfl) rfl rfl (by decide) (nle rfl) rfl ?_
  refine vi_const (dec_of DX2_takeMark 4 rfl) ?_
  refine vi_sub (dec_of DX2_takeMark 5 rfl) ?_
  refine v_istore_n (dec_of DX2_takeMark 6 rfl) (by decide) ?_
  dsimp only [List.set]
  refine v_aload_n (dec_of DX2_takeMark 7 rfl) rfl ?_
  refine v_get fX2_82 (dec_of DX2_takeMark 8 rfl) rfl rfl ?_
  refine vi_if_ne (tgt := 29) (dec_of DX2_takeMark 9 rfl) (by decide) (by first | omega | exact bnd_r _ _ | exact hF _ _ | exact hI _ | exact hG _ _ | exact hK _ | (simp [uN] <;> omega)) (fun c17 => ?_) (fun c17 => absurd c17 (by omega))
  refine v_aload_n (dec_of DX2_takeMark 15 rfl) rfl ?_
  refine v_get fX2_9 (dec_of DX2_takeMark 16 rfl) rfl rfl ?_
  refine v_iload_n (dec_of DX2_takeMark 17 rfl) rfl ?_
  refine v_iload_n (dec_of DX2_takeMark 18 rfl) rfl ?_
  refine v_V2r (k_hasMark hF hI (by unfold NR; exact hN) (by omega)) lX2_146 (dec_of DX2_takeMark 19 rfl) rfl rfl (by decide) (nle rfl) rfl ?_
  refine vi_if_eq (tgt := 50) (dec_of DX2_takeMark 20 rfl) (by decide) (by first | omega | exact bnd_r _ _ | exact hF _ _ | exact hI _ | exact hG _ _ | exact hK _ | (simp [uN] <;> omega)) (fun c38 => ?_) (fun c38 => absurd c38 (by omega))
  refine v_aload_n (dec_of DX2_takeMark 26 rfl) rfl ?_
  refine v_get fX2_9 (dec_of DX2_takeMark 27 rfl) rfl rfl ?_
  refine v_get fX2_143 (dec_of DX2_takeMark 28 rfl) rfl rfl ?_
  refine v_iload_n (dec_of DX2_takeMark 29 rfl) rfl ?_
  refine vi_const (dec_of DX2_takeMark 30 rfl) ?_
  refine v_aload_n (dec_of DX2_takeMark 31 rfl) rfl ?_
  refine v_get fX2_9 (dec_of DX2_takeMark 32 rfl) rfl rfl ?_
  refine v_get fX2_143 (dec_of DX2_takeMark 33 rfl) rfl rfl ?_
  refine v_iload_n (dec_of DX2_takeMark 34 rfl) rfl ?_
  refine vi_const (dec_of DX2_takeMark 35 rfl) ?_
  refine v_V2r (c4_get (by first | omega | exact bnd_r _ _ | exact hF _ _ | exact hI _ | exact hG _ _ | exact hK _ | (simp [uN] <;> omega)) (by first | omega | exact bnd_r _ _ | exact hF _ _ | exact hI _ | exact hG _ _ | exact hK _ | (simp [uN] <;> omega)) (by first | omega | exact bnd_r _ _ | exact hF _ _ | exact hI _ | exact hG _ _ | exact hK _ | (simp [uN] <;> omega))) lX2_43 (dec_of DX2_takeMark 36 rfl) rfl rfl (by decide) (nle rfl) rfl ?_
  refine v_iload_n (dec_of DX2_takeMark 37 rfl) rfl ?_
  refine vi_add (dec_of DX2_takeMark 38 rfl) ?_
  refine v_V3v (c4_set (by first | omega | exact bnd_r _ _ | exact hF _ _ | exact hI _ | exact hG _ _ | exact hK _ | (simp [uN] <;> omega)) (by first | omega | exact bnd_r _ _ | exact hF _ _ | exact hI _ | exact hG _ _ | exact hK _ | (simp [uN] <;> omega)) (by first | omega | exact bnd_r _ _ | exact hF _ _ | exact hI _ | exact hG _ _ | exact hK _ | (simp [uN] <;> omega))) lX2_109 (dec_of DX2_takeMark 39 rfl) rfl rfl (by decide) (nle rfl) rfl ?_
  exact vi_vret (dec_of DX2_takeMark 40 rfl) rfl ⟨by decide, by decide⟩ (⟨rfl, rfl⟩)
set_option maxRecDepth 100000 in
set_option maxHeartbeats 4000000 in
theorem k_flat {T : XW} {I N : Nat → Int} {F : Nat → Int → Int} (hF : FR F) (hI : IR I) (hN : NR N) {p k h : Int} (hp : 0 ≤ p ∧ p ≤ 2000) (hh : 0 ≤ h ∧ h ≤ 12) (hk : k = 1) (h9 : N 9 = 6) (h8 : N 8 < 260) (hr : F 9 k < rmK k) : Sd (rm 2 48 0 0) mX2_takeAccidental [.ref 20, J p, J k, J h] (cls I N F ++ T) (cls (uN (uN I 5 (p + 2)) 7 (bor (I 7) (bsl 1 h))) (uN N 8 (N 8 + 1)) (sgF N F k h) ++ T) (none) := by
  unfold Sd
  unfold NR at hN
  refine sp_of (ls := [some (.ref 20), some (J p), some (J k), some (J h), none]) (by decide) (nle rfl) rfl rfl ?_
  refine v_aload_n (dec_of DX2_takeAccidental 0 rfl) rfl ?_
  refine v_iload_n (dec_of DX2_takeAccidental 1 rfl) rfl ?_
  refine vi_const (dec_of DX2_takeAccidental 2 rfl) ?_
  refine vi_add (dec_of DX2_takeAccidental 3 rfl) ?_
  refine cp_5 fX2_40 (dec_of DX2_takeAccidental 4 rfl) ?_
  refine v_aload_n (dec_of DX2_takeAccidental 5 rfl) rfl ?_
  refine v_iload_n (dec_of DX2_takeAccidental 6 rfl) rfl ?_
  refine v_iload_n (dec_of DX2_takeAccidental 7 rfl) rfl ?_
  refine v_iload_n (dec_of DX2_takeAccidental 8 rfl) rfl ?_
  refine v_V3r (k_addS hF (hI.up (by omega)) (by unfold NR; exact hN) (by omega) h9 h8 hr) lX2_159 (dec_of DX2_takeAccidental 9 rfl) rfl rfl (by decide) (nle rfl) rfl ?_
  refine vi_if_eq (tgt := 50) (dec_of DX2_takeAccidental 10 rfl) (by decide) (by first | omega | exact bnd_r _ _ | exact hF _ _ | exact hI _ | exact hG _ _ | exact hK _ | (simp [uN] <;> omega)) (fun c14 => absurd c14 (by omega)) (fun c14 => ?_)
  refine vi_const (dec_of DX2_takeAccidental 11 rfl) ?_
  refine v_iload_n (dec_of DX2_takeAccidental 12 rfl) rfl ?_
  refine vi_shl (dec_of DX2_takeAccidental 13 rfl) ?_
  refine v_istore (dec_of DX2_takeAccidental 14 rfl) (by decide) ?_
  dsimp only [List.set]
  refine v_aload_n (dec_of DX2_takeAccidental 15 rfl) rfl ?_
  refine v_iload_n (dec_of DX2_takeAccidental 16 rfl) rfl ?_
  refine vi_const (dec_of DX2_takeAccidental 17 rfl) ?_
  refine vi_icmp_ne (tgt := 38) (dec_of DX2_takeAccidental 18 rfl) (by decide) (by first | omega | exact bnd_r _ _ | exact hF _ _ | exact hI _ | exact hG _ _ | exact hK _ | (simp [uN] <;> omega)) (by first | omega | exact bnd_r _ _ | exact hF _ _ | exact hI _ | exact hG _ _ | exact hK _ | (simp [uN] <;> omega)) (fun c25 => absurd c25 (by omega)) (fun c25 => ?_)
  refine v_aload_n (dec_of DX2_takeAccidental 19 rfl) rfl ?_
  refine v_get fX2_85 (dec_of DX2_takeAccidental 20 rfl) rfl rfl ?_
  refine v_iload (dec_of DX2_takeAccidental 21 rfl) rfl ?_
  refine vi_or (dec_of DX2_takeAccidental 22 rfl) ?_
  refine v_goto (tgt := 47) (dec_of DX2_takeAccidental 23 rfl) (by decide) ?_
  refine cp_7 fX2_85 (dec_of DX2_takeAccidental 30 rfl) ?_
  exact vi_vret (dec_of DX2_takeAccidental 31 rfl) rfl ⟨by decide, by decide⟩ (⟨rfl, rfl⟩)
set_option maxRecDepth 100000 in
set_option maxHeartbeats 4000000 in
theorem k_nat {T : XW} {I N : Nat → Int} {F : Nat → Int → Int} (hF : FR F) (hI : IR I) (hN : NR N) {p k h : Int} (hp : 0 ≤ p ∧ p ≤ 2000) (hh : 0 ≤ h ∧ h ≤ 12) (hk : k = 2) (h9 : N 9 = 6) (h8 : N 8 < 260) (hr : F 9 k < rmK k) : Sd (rm 2 48 0 0) mX2_takeAccidental [.ref 20, J p, J k, J h] (cls I N F ++ T) (cls (uN (uN I 5 (p + 2)) 7 (bnd (I 7) (bxr (bsl 1 h) (-1)))) (uN N 8 (N 8 + 1)) (sgF N F k h) ++ T) (none) := by
  unfold Sd
  unfold NR at hN
  refine sp_of (ls := [some (.ref 20), some (J p), some (J k), some (J h), none]) (by decide) (nle rfl) rfl rfl ?_
  refine v_aload_n (dec_of DX2_takeAccidental 0 rfl) rfl ?_
  refine v_iload_n (dec_of DX2_takeAccidental 1 rfl) rfl ?_
  refine vi_const (dec_of DX2_takeAccidental 2 rfl) ?_
  refine vi_add (dec_of DX2_takeAccidental 3 rfl) ?_
  refine cp_5 fX2_40 (dec_of DX2_takeAccidental 4 rfl) ?_
  refine v_aload_n (dec_of DX2_takeAccidental 5 rfl) rfl ?_
  refine v_iload_n (dec_of DX2_takeAccidental 6 rfl) rfl ?_
  refine v_iload_n (dec_of DX2_takeAccidental 7 rfl) rfl ?_
  refine v_iload_n (dec_of DX2_takeAccidental 8 rfl) rfl ?_
  refine v_V3r (k_addS hF (hI.up (by omega)) (by unfold NR; exact hN) (by omega) h9 h8 hr) lX2_159 (dec_of DX2_takeAccidental 9 rfl) rfl rfl (by decide) (nle rfl) rfl ?_
  refine vi_if_eq (tgt := 50) (dec_of DX2_takeAccidental 10 rfl) (by decide) (by first | omega | exact bnd_r _ _ | exact hF _ _ | exact hI _ | exact hG _ _ | exact hK _ | (simp [uN] <;> omega)) (fun c14 => absurd c14 (by omega)) (fun c14 => ?_)
  refine vi_const (dec_of DX2_takeAccidental 11 rfl) ?_
  refine v_iload_n (dec_of DX2_takeAccidental 12 rfl) rfl ?_
  refine vi_shl (dec_of DX2_takeAccidental 13 rfl) ?_
  refine v_istore (dec_of DX2_takeAccidental 14 rfl) (by decide) ?_
  dsimp only [List.set]
  refine v_aload_n (dec_of DX2_takeAccidental 15 rfl) rfl ?_
  refine v_iload_n (dec_of DX2_takeAccidental 16 rfl) rfl ?_
  refine vi_const (dec_of DX2_takeAccidental 17 rfl) ?_
  refine vi_icmp_ne (tgt := 38) (dec_of DX2_takeAccidental 18 rfl) (by decide) (by first | omega | exact bnd_r _ _ | exact hF _ _ | exact hI _ | exact hG _ _ | exact hK _ | (simp [uN] <;> omega)) (by first | omega | exact bnd_r _ _ | exact hF _ _ | exact hI _ | exact hG _ _ | exact hK _ | (simp [uN] <;> omega)) (fun c25 => ?_) (fun c25 => absurd c25 (by omega))
  refine v_aload_n (dec_of DX2_takeAccidental 24 rfl) rfl ?_
  refine v_get fX2_85 (dec_of DX2_takeAccidental 25 rfl) rfl rfl ?_
  refine v_iload (dec_of DX2_takeAccidental 26 rfl) rfl ?_
  refine vi_const (dec_of DX2_takeAccidental 27 rfl) ?_
  refine vi_xor (dec_of DX2_takeAccidental 28 rfl) ?_
  refine vi_and (dec_of DX2_takeAccidental 29 rfl) ?_
  refine cp_7 fX2_85 (dec_of DX2_takeAccidental 30 rfl) ?_
  exact vi_vret (dec_of DX2_takeAccidental 31 rfl) rfl ⟨by decide, by decide⟩ (⟨rfl, rfl⟩)
set_option maxRecDepth 100000 in
set_option maxHeartbeats 4000000 in
theorem k_acc_full {T : XW} {I N : Nat → Int} {F : Nat → Int → Int} (hF : FR F) (hI : IR I) (hN : NR N) {p k h : Int} (hp : 0 ≤ p ∧ p ≤ 2000) (hh : 0 ≤ h ∧ h ≤ 12) (hk : k = 1 ∨ k = 2) (h9 : N 9 = 6) (hr : ¬ F 9 k < rmK k) : Sd (rm 2 48 0 0) mX2_takeAccidental [.ref 20, J p, J k, J h] (cls I N F ++ T) (cls (uN (uN (uN I 5 (p + 2)) 3 2) 4 p) N F ++ T) (none) := by
  unfold Sd
  unfold NR at hN
  refine sp_of (ls := [some (.ref 20), some (J p), some (J k), some (J h), none]) (by decide) (nle rfl) rfl rfl ?_
  refine v_aload_n (dec_of DX2_takeAccidental 0 rfl) rfl ?_
  refine v_iload_n (dec_of DX2_takeAccidental 1 rfl) rfl ?_
  refine vi_const (dec_of DX2_takeAccidental 2 rfl) ?_
  refine vi_add (dec_of DX2_takeAccidental 3 rfl) ?_
  refine cp_5 fX2_40 (dec_of DX2_takeAccidental 4 rfl) ?_
  refine v_aload_n (dec_of DX2_takeAccidental 5 rfl) rfl ?_
  refine v_iload_n (dec_of DX2_takeAccidental 6 rfl) rfl ?_
  refine v_iload_n (dec_of DX2_takeAccidental 7 rfl) rfl ?_
  refine v_iload_n (dec_of DX2_takeAccidental 8 rfl) rfl ?_
  refine v_V3r (k_addSf hF (hI.up (by omega)) (by unfold NR; exact hN) (by omega) h9 hr) lX2_159 (dec_of DX2_takeAccidental 9 rfl) rfl rfl (by decide) (nle rfl) rfl ?_
  refine vi_if_eq (tgt := 50) (dec_of DX2_takeAccidental 10 rfl) (by decide) (by first | omega | exact bnd_r _ _ | exact hF _ _ | exact hI _ | exact hG _ _ | exact hK _ | (simp [uN] <;> omega)) (fun c14 => ?_) (fun c14 => absurd c14 (by omega))
  exact vi_vret (dec_of DX2_takeAccidental 31 rfl) rfl ⟨by decide, by decide⟩ (⟨rfl, rfl⟩)
set_option maxRecDepth 100000 in
set_option maxHeartbeats 4000000 in
theorem k_clef_f {T : XW} {I N : Nat → Int} {F : Nat → Int → Int} (hF : FR F) (hI : IR I) (hN : NR N) {p h n : Int} (hp : 0 ≤ p ∧ p ≤ 2000) (hh : 0 ≤ h ∧ h ≤ 12) (hn : 1 ≤ n ∧ n ≤ 4) (h5 : h = 5) (h9 : N 9 = 6) (h8 : N 8 < 260) (hr : F 9 3 < 20) : Sd (rm 2 48 0 0) mX2_takeClef [.ref 20, J p, J h, J n] (cls I N F ++ T) (cls (uN (uN (uN (uN I 5 (p + 2)) 11 0) 6 (2 * n + 1 + 4)) 7 0) (uN N 8 (N 8 + 1)) (sgF N F 3 (n + 4)) ++ T) (none) := by
  unfold Sd
  unfold NR at hN
  refine sp_of (ls := [some (.ref 20), some (J p), some (J h), some (J n), none]) (by decide) (nle rfl) rfl rfl ?_
  refine v_aload_n (dec_of DX2_takeClef 0 rfl) rfl ?_
  refine v_iload_n (dec_of DX2_takeClef 1 rfl) rfl ?_
  refine vi_const (dec_of DX2_takeClef 2 rfl) ?_
  refine vi_add (dec_of DX2_takeClef 3 rfl) ?_
  refine cp_5 fX2_40 (dec_of DX2_takeClef 4 rfl) ?_
  refine v_aload_n (dec_of DX2_takeClef 5 rfl) rfl ?_
  refine vi_const (dec_of DX2_takeClef 6 rfl) ?_
  refine cp_11 fX2_79 (dec_of DX2_takeClef 7 rfl) (by omega) ?_
  refine v_iload_n (dec_of DX2_takeClef 8 rfl) rfl ?_
  refine vi_const (dec_of DX2_takeClef 9 rfl) ?_
  refine vi_icmp_ne (tgt := 21) (dec_of DX2_takeClef 10 rfl) (by decide) (by first | omega | exact bnd_r _ _ | exact hF _ _ | exact hI _ | exact hG _ _ | exact hK _ | (simp [uN] <;> omega)) (by first | omega | exact bnd_r _ _ | exact hF _ _ | exact hI _ | exact hG _ _ | exact hK _ | (simp [uN] <;> omega)) (fun c14 => absurd c14 (by omega)) (fun c14 => ?_)
  refine vi_const (dec_of DX2_takeClef 11 rfl) ?_
  refine v_goto (tgt := 22) (dec_of DX2_takeClef 12 rfl) (by decide) ?_
  refine v_istore (dec_of DX2_takeClef 14 rfl) (by decide) ?_
  dsimp only [List.set]
  refine v_aload_n (dec_of DX2_takeClef 15 rfl) rfl ?_
  refine v_iload_n (dec_of DX2_takeClef 16 rfl) rfl ?_
  refine vi_const (dec_of DX2_takeClef 17 rfl) ?_
  refine v_iload (dec_of DX2_takeClef 18 rfl) rfl ?_
  refine vi_if_eq (tgt := 38) (dec_of DX2_takeClef 19 rfl) (by decide) (by first | omega | exact bnd_r _ _ | exact hF _ _ | exact hI _ | exact hG _ _ | exact hK _ | (simp [uN] <;> omega)) (fun c29 => absurd c29 (by omega)) (fun c29 => ?_)
  refine v_iload_n (dec_of DX2_takeClef 20 rfl) rfl ?_
  refine vi_const (dec_of DX2_takeClef 21 rfl) ?_
  refine vi_add (dec_of DX2_takeClef 22 rfl) ?_
  refine v_goto (tgt := 39) (dec_of DX2_takeClef 23 rfl) (by decide) ?_
  refine v_V3r (k_addS hF ((hI.up (by omega)).up (by omega)) (by unfold NR; exact hN) (by omega) h9 h8 hr) lX2_159 (dec_of DX2_takeClef 25 rfl) rfl rfl (by decide) (nle rfl) rfl ?_
  refine vi_if_eq (tgt := 70) (dec_of DX2_takeClef 26 rfl) (by decide) (by first | omega | exact bnd_r _ _ | exact hF _ _ | exact hI _ | exact hG _ _ | exact hK _ | (simp [uN] <;> omega)) (fun c42 => absurd c42 (by omega)) (fun c42 => ?_)
  refine v_aload_n (dec_of DX2_takeClef 27 rfl) rfl ?_
  refine vi_const (dec_of DX2_takeClef 28 rfl) ?_
  refine v_iload_n (dec_of DX2_takeClef 29 rfl) rfl ?_
  refine vi_mul (dec_of DX2_takeClef 30 rfl) ?_
  refine vi_const (dec_of DX2_takeClef 31 rfl) ?_
  refine vi_add (dec_of DX2_takeClef 32 rfl) ?_
  refine v_iload (dec_of DX2_takeClef 33 rfl) rfl ?_
  refine vi_if_eq (tgt := 60) (dec_of DX2_takeClef 34 rfl) (by decide) (by first | omega | exact bnd_r _ _ | exact hF _ _ | exact hI _ | exact hG _ _ | exact hK _ | (simp [uN] <;> omega)) (fun c53 => absurd c53 (by omega)) (fun c53 => ?_)
  refine vi_const (dec_of DX2_takeClef 35 rfl) ?_
  refine v_goto (tgt := 61) (dec_of DX2_takeClef 36 rfl) (by decide) ?_
  refine vi_add (dec_of DX2_takeClef 38 rfl) ?_
  refine cp_6 fX2_70 (dec_of DX2_takeClef 39 rfl) ?_
  refine v_aload_n (dec_of DX2_takeClef 40 rfl) rfl ?_
  refine vi_const (dec_of DX2_takeClef 41 rfl) ?_
  refine cp_7 fX2_85 (dec_of DX2_takeClef 42 rfl) ?_
  exact vi_vret (dec_of DX2_takeClef 43 rfl) rfl ⟨by decide, by decide⟩ (⟨rfl, rfl⟩)
set_option maxRecDepth 100000 in
set_option maxHeartbeats 4000000 in
theorem k_clef_f_full {T : XW} {I N : Nat → Int} {F : Nat → Int → Int} (hF : FR F) (hI : IR I) (hN : NR N) {p h n : Int} (hp : 0 ≤ p ∧ p ≤ 2000) (hh : 0 ≤ h ∧ h ≤ 12) (hn : 1 ≤ n ∧ n ≤ 4) (h5 : h = 5) (h9 : N 9 = 6) (hr : ¬ F 9 3 < 20) : Sd (rm 2 48 0 0) mX2_takeClef [.ref 20, J p, J h, J n] (cls I N F ++ T) (cls (uN (uN (uN (uN I 5 (p + 2)) 11 0) 3 2) 4 p) N F ++ T) (none) := by
  unfold Sd
  unfold NR at hN
  refine sp_of (ls := [some (.ref 20), some (J p), some (J h), some (J n), none]) (by decide) (nle rfl) rfl rfl ?_
  refine v_aload_n (dec_of DX2_takeClef 0 rfl) rfl ?_
  refine v_iload_n (dec_of DX2_takeClef 1 rfl) rfl ?_
  refine vi_const (dec_of DX2_takeClef 2 rfl) ?_
  refine vi_add (dec_of DX2_takeClef 3 rfl) ?_
  refine cp_5 fX2_40 (dec_of DX2_takeClef 4 rfl) ?_
  refine v_aload_n (dec_of DX2_takeClef 5 rfl) rfl ?_
  refine vi_const (dec_of DX2_takeClef 6 rfl) ?_
  refine cp_11 fX2_79 (dec_of DX2_takeClef 7 rfl) (by omega) ?_
  refine v_iload_n (dec_of DX2_takeClef 8 rfl) rfl ?_
  refine vi_const (dec_of DX2_takeClef 9 rfl) ?_
  refine vi_icmp_ne (tgt := 21) (dec_of DX2_takeClef 10 rfl) (by decide) (by first | omega | exact bnd_r _ _ | exact hF _ _ | exact hI _ | exact hG _ _ | exact hK _ | (simp [uN] <;> omega)) (by first | omega | exact bnd_r _ _ | exact hF _ _ | exact hI _ | exact hG _ _ | exact hK _ | (simp [uN] <;> omega)) (fun c14 => absurd c14 (by omega)) (fun c14 => ?_)
  refine vi_const (dec_of DX2_takeClef 11 rfl) ?_
  refine v_goto (tgt := 22) (dec_of DX2_takeClef 12 rfl) (by decide) ?_
  refine v_istore (dec_of DX2_takeClef 14 rfl) (by decide) ?_
  dsimp only [List.set]
  refine v_aload_n (dec_of DX2_takeClef 15 rfl) rfl ?_
  refine v_iload_n (dec_of DX2_takeClef 16 rfl) rfl ?_
  refine vi_const (dec_of DX2_takeClef 17 rfl) ?_
  refine v_iload (dec_of DX2_takeClef 18 rfl) rfl ?_
  refine vi_if_eq (tgt := 38) (dec_of DX2_takeClef 19 rfl) (by decide) (by first | omega | exact bnd_r _ _ | exact hF _ _ | exact hI _ | exact hG _ _ | exact hK _ | (simp [uN] <;> omega)) (fun c29 => absurd c29 (by omega)) (fun c29 => ?_)
  refine v_iload_n (dec_of DX2_takeClef 20 rfl) rfl ?_
  refine vi_const (dec_of DX2_takeClef 21 rfl) ?_
  refine vi_add (dec_of DX2_takeClef 22 rfl) ?_
  refine v_goto (tgt := 39) (dec_of DX2_takeClef 23 rfl) (by decide) ?_
  refine v_V3r (k_addSf hF ((hI.up (by omega)).up (by omega)) (by unfold NR; exact hN) (by omega) h9 hr) lX2_159 (dec_of DX2_takeClef 25 rfl) rfl rfl (by decide) (nle rfl) rfl ?_
  refine vi_if_eq (tgt := 70) (dec_of DX2_takeClef 26 rfl) (by decide) (by first | omega | exact bnd_r _ _ | exact hF _ _ | exact hI _ | exact hG _ _ | exact hK _ | (simp [uN] <;> omega)) (fun c42 => ?_) (fun c42 => absurd c42 (by omega))
  exact vi_vret (dec_of DX2_takeClef 43 rfl) rfl ⟨by decide, by decide⟩ (⟨rfl, rfl⟩)
set_option maxRecDepth 100000 in
set_option maxHeartbeats 4000000 in
theorem k_clef_c {T : XW} {I N : Nat → Int} {F : Nat → Int → Int} (hF : FR F) (hI : IR I) (hN : NR N) {p h n : Int} (hp : 0 ≤ p ∧ p ≤ 2000) (hh : 0 ≤ h ∧ h ≤ 12) (hn : 1 ≤ n ∧ n ≤ 4) (h5 : ¬ h = 5) (h9 : N 9 = 6) (h8 : N 8 < 260) (hr : F 9 3 < 20) : Sd (rm 2 48 0 0) mX2_takeClef [.ref 20, J p, J h, J n] (cls I N F ++ T) (cls (uN (uN (uN (uN I 5 (p + 2)) 11 0) 6 (2 * n + 1 + 0)) 7 0) (uN N 8 (N 8 + 1)) (sgF N F 3 (n)) ++ T) (none) := by
  unfold Sd
  unfold NR at hN
  refine sp_of (ls := [some (.ref 20), some (J p), some (J h), some (J n), none]) (by decide) (nle rfl) rfl rfl ?_
  refine v_aload_n (dec_of DX2_takeClef 0 rfl) rfl ?_
  refine v_iload_n (dec_of DX2_takeClef 1 rfl) rfl ?_
  refine vi_const (dec_of DX2_takeClef 2 rfl) ?_
  refine vi_add (dec_of DX2_takeClef 3 rfl) ?_
  refine cp_5 fX2_40 (dec_of DX2_takeClef 4 rfl) ?_
  refine v_aload_n (dec_of DX2_takeClef 5 rfl) rfl ?_
  refine vi_const (dec_of DX2_takeClef 6 rfl) ?_
  refine cp_11 fX2_79 (dec_of DX2_takeClef 7 rfl) (by omega) ?_
  refine v_iload_n (dec_of DX2_takeClef 8 rfl) rfl ?_
  refine vi_const (dec_of DX2_takeClef 9 rfl) ?_
  refine vi_icmp_ne (tgt := 21) (dec_of DX2_takeClef 10 rfl) (by decide) (by first | omega | exact bnd_r _ _ | exact hF _ _ | exact hI _ | exact hG _ _ | exact hK _ | (simp [uN] <;> omega)) (by first | omega | exact bnd_r _ _ | exact hF _ _ | exact hI _ | exact hG _ _ | exact hK _ | (simp [uN] <;> omega)) (fun c14 => ?_) (fun c14 => absurd c14 (by omega))
  refine vi_const (dec_of DX2_takeClef 13 rfl) ?_
  refine v_istore (dec_of DX2_takeClef 14 rfl) (by decide) ?_
  dsimp only [List.set]
  refine v_aload_n (dec_of DX2_takeClef 15 rfl) rfl ?_
  refine v_iload_n (dec_of DX2_takeClef 16 rfl) rfl ?_
  refine vi_const (dec_of DX2_takeClef 17 rfl) ?_
  refine v_iload (dec_of DX2_takeClef 18 rfl) rfl ?_
  refine vi_if_eq (tgt := 38) (dec_of DX2_takeClef 19 rfl) (by decide) (by first | omega | exact bnd_r _ _ | exact hF _ _ | exact hI _ | exact hG _ _ | exact hK _ | (simp [uN] <;> omega)) (fun c29 => ?_) (fun c29 => absurd c29 (by omega))
  refine v_iload_n (dec_of DX2_takeClef 24 rfl) rfl ?_
  refine v_V3r (k_addS hF ((hI.up (by omega)).up (by omega)) (by unfold NR; exact hN) (by omega) h9 h8 hr) lX2_159 (dec_of DX2_takeClef 25 rfl) rfl rfl (by decide) (nle rfl) rfl ?_
  refine vi_if_eq (tgt := 70) (dec_of DX2_takeClef 26 rfl) (by decide) (by first | omega | exact bnd_r _ _ | exact hF _ _ | exact hI _ | exact hG _ _ | exact hK _ | (simp [uN] <;> omega)) (fun c42 => absurd c42 (by omega)) (fun c42 => ?_)
  refine v_aload_n (dec_of DX2_takeClef 27 rfl) rfl ?_
  refine vi_const (dec_of DX2_takeClef 28 rfl) ?_
  refine v_iload_n (dec_of DX2_takeClef 29 rfl) rfl ?_
  refine vi_mul (dec_of DX2_takeClef 30 rfl) ?_
  refine vi_const (dec_of DX2_takeClef 31 rfl) ?_
  refine vi_add (dec_of DX2_takeClef 32 rfl) ?_
  refine v_iload (dec_of DX2_takeClef 33 rfl) rfl ?_
  refine vi_if_eq (tgt := 60) (dec_of DX2_takeClef 34 rfl) (by decide) (by first | omega | exact bnd_r _ _ | exact hF _ _ | exact hI _ | exact hG _ _ | exact hK _ | (simp [uN] <;> omega)) (fun c53 => ?_) (fun c53 => absurd c53 (by omega))
  refine vi_const (dec_of DX2_takeClef 37 rfl) ?_
  refine vi_add (dec_of DX2_takeClef 38 rfl) ?_
  refine cp_6 fX2_70 (dec_of DX2_takeClef 39 rfl) ?_
  refine v_aload_n (dec_of DX2_takeClef 40 rfl) rfl ?_
  refine vi_const (dec_of DX2_takeClef 41 rfl) ?_
  refine cp_7 fX2_85 (dec_of DX2_takeClef 42 rfl) ?_
  exact vi_vret (dec_of DX2_takeClef 43 rfl) rfl ⟨by decide, by decide⟩ (⟨rfl, rfl⟩)
set_option maxRecDepth 100000 in
set_option maxHeartbeats 4000000 in
theorem k_clef_c_full {T : XW} {I N : Nat → Int} {F : Nat → Int → Int} (hF : FR F) (hI : IR I) (hN : NR N) {p h n : Int} (hp : 0 ≤ p ∧ p ≤ 2000) (hh : 0 ≤ h ∧ h ≤ 12) (hn : 1 ≤ n ∧ n ≤ 4) (h5 : ¬ h = 5) (h9 : N 9 = 6) (hr : ¬ F 9 3 < 20) : Sd (rm 2 48 0 0) mX2_takeClef [.ref 20, J p, J h, J n] (cls I N F ++ T) (cls (uN (uN (uN (uN I 5 (p + 2)) 11 0) 3 2) 4 p) N F ++ T) (none) := by
  unfold Sd
  unfold NR at hN
  refine sp_of (ls := [some (.ref 20), some (J p), some (J h), some (J n), none]) (by decide) (nle rfl) rfl rfl ?_
  refine v_aload_n (dec_of DX2_takeClef 0 rfl) rfl ?_
  refine v_iload_n (dec_of DX2_takeClef 1 rfl) rfl ?_
  refine vi_const (dec_of DX2_takeClef 2 rfl) ?_
  refine vi_add (dec_of DX2_takeClef 3 rfl) ?_
  refine cp_5 fX2_40 (dec_of DX2_takeClef 4 rfl) ?_
  refine v_aload_n (dec_of DX2_takeClef 5 rfl) rfl ?_
  refine vi_const (dec_of DX2_takeClef 6 rfl) ?_
  refine cp_11 fX2_79 (dec_of DX2_takeClef 7 rfl) (by omega) ?_
  refine v_iload_n (dec_of DX2_takeClef 8 rfl) rfl ?_
  refine vi_const (dec_of DX2_takeClef 9 rfl) ?_
  refine vi_icmp_ne (tgt := 21) (dec_of DX2_takeClef 10 rfl) (by decide) (by first | omega | exact bnd_r _ _ | exact hF _ _ | exact hI _ | exact hG _ _ | exact hK _ | (simp [uN] <;> omega)) (by first | omega | exact bnd_r _ _ | exact hF _ _ | exact hI _ | exact hG _ _ | exact hK _ | (simp [uN] <;> omega)) (fun c14 => ?_) (fun c14 => absurd c14 (by omega))
  refine vi_const (dec_of DX2_takeClef 13 rfl) ?_
  refine v_istore (dec_of DX2_takeClef 14 rfl) (by decide) ?_
  dsimp only [List.set]
  refine v_aload_n (dec_of DX2_takeClef 15 rfl) rfl ?_
  refine v_iload_n (dec_of DX2_takeClef 16 rfl) rfl ?_
  refine vi_const (dec_of DX2_takeClef 17 rfl) ?_
  refine v_iload (dec_of DX2_takeClef 18 rfl) rfl ?_
  refine vi_if_eq (tgt := 38) (dec_of DX2_takeClef 19 rfl) (by decide) (by first | omega | exact bnd_r _ _ | exact hF _ _ | exact hI _ | exact hG _ _ | exact hK _ | (simp [uN] <;> omega)) (fun c29 => ?_) (fun c29 => absurd c29 (by omega))
  refine v_iload_n (dec_of DX2_takeClef 24 rfl) rfl ?_
  refine v_V3r (k_addSf hF ((hI.up (by omega)).up (by omega)) (by unfold NR; exact hN) (by omega) h9 hr) lX2_159 (dec_of DX2_takeClef 25 rfl) rfl rfl (by decide) (nle rfl) rfl ?_
  refine vi_if_eq (tgt := 70) (dec_of DX2_takeClef 26 rfl) (by decide) (by first | omega | exact bnd_r _ _ | exact hF _ _ | exact hI _ | exact hG _ _ | exact hK _ | (simp [uN] <;> omega)) (fun c42 => ?_) (fun c42 => absurd c42 (by omega))
  exact vi_vret (dec_of DX2_takeClef 43 rfl) rfl ⟨by decide, by decide⟩ (⟨rfl, rfl⟩)
set_option maxRecDepth 100000 in
set_option maxHeartbeats 4000000 in
theorem k_note_full {T : XW} {I N : Nat → Int} {F : Nat → Int → Int} (hF : FR F) (hI : IR I) (hN : NR N) {p h : Int} (hh : 0 ≤ h ∧ h ≤ 12) (h9 : N 9 = 6) (hr : ¬ F 9 0 < 150) : Sd (rm 2 48 0 0) mX2_takeNote [.ref 20, J p, J h] (cls I N F ++ T) (cls (uN (uN I 3 2) 4 p) N F ++ T) (none) := by
  unfold Sd
  unfold NR at hN
  refine sp_of (ls := [some (.ref 20), some (J p), some (J h), none, none, none, none]) (by decide) (nle rfl) rfl rfl ?_
  refine v_aload_n (dec_of DX2_takeNote 0 rfl) rfl ?_
  refine v_iload_n (dec_of DX2_takeNote 1 rfl) rfl ?_
  refine vi_const (dec_of DX2_takeNote 2 rfl) ?_
  refine v_aload_n (dec_of DX2_takeNote 3 rfl) rfl ?_
  refine v_get fX2_9 (dec_of DX2_takeNote 4 rfl) rfl rfl ?_
  refine v_get fX2_143 (dec_of DX2_takeNote 5 rfl) rfl rfl ?_
  refine v_V0r (c4_size) lX2_33 (dec_of DX2_takeNote 6 rfl) rfl rfl (by decide) (nle rfl) rfl ?_
  refine v_V3r (k_addSf hF hI (by unfold NR; exact hN) (by omega) h9 hr) lX2_159 (dec_of DX2_takeNote 7 rfl) rfl rfl (by decide) (nle rfl) rfl ?_
  refine vi_if_ne (tgt := 20) (dec_of DX2_takeNote 8 rfl) (by decide) (by first | omega | exact bnd_r _ _ | exact hF _ _ | exact hI _ | exact hG _ _ | exact hK _ | (simp [uN] <;> omega)) (fun c16 => absurd c16 (by omega)) (fun c16 => ?_)
  exact vi_vret (dec_of DX2_takeNote 9 rfl) rfl ⟨by decide, by decide⟩ (⟨rfl, rfl⟩)
set_option maxRecDepth 100000 in
set_option maxHeartbeats 4000000 in
theorem k_note_new {T : XW} {I N : Nat → Int} {F : Nat → Int → Int} (hF : FR F) (hI : IR I) (hN : NR N) {p h : Int} (hh : 0 ≤ h ∧ h ≤ 12) (h11 : I 11 = 0) (h9 : N 9 = 6) (h8 : N 8 < 260) (hr : F 9 0 < 150) (h4 : N 4 < 150) (h3 : 0 < N 3) (h6 : -100 ≤ I 6 ∧ I 6 ≤ 100) : Sd (rm 2 48 0 0) mX2_takeNote [.ref 20, J p, J h] (cls I N F ++ T) (cls (uN (uN (uN I 11 1) 2 (I 2 + 1)) 12 1) (uN (uN N 8 (N 8 + 1)) 4 (N 4 + 1)) (ntF I N F h (I 2 + 1)) ++ T) (none) := by
  unfold Sd
  unfold NR at hN
  refine sp_of (ls := [some (.ref 20), some (J p), some (J h), none, none, none, none]) (by decide) (nle rfl) rfl rfl ?_
  refine v_aload_n (dec_of DX2_takeNote 0 rfl) rfl ?_
  refine v_iload_n (dec_of DX2_takeNote 1 rfl) rfl ?_
  refine vi_const (dec_of DX2_takeNote 2 rfl) ?_
  refine v_aload_n (dec_of DX2_takeNote 3 rfl) rfl ?_
  refine v_get fX2_9 (dec_of DX2_takeNote 4 rfl) rfl rfl ?_
  refine v_get fX2_143 (dec_of DX2_takeNote 5 rfl) rfl rfl ?_
  refine v_V0r (c4_size) lX2_33 (dec_of DX2_takeNote 6 rfl) rfl rfl (by decide) (nle rfl) rfl ?_
  refine v_V3r (k_addS hF hI (by unfold NR; exact hN) (by omega) h9 h8 hr) lX2_159 (dec_of DX2_takeNote 7 rfl) rfl rfl (by decide) (nle rfl) rfl ?_
  refine vi_if_ne (tgt := 20) (dec_of DX2_takeNote 8 rfl) (by decide) (by first | omega | exact bnd_r _ _ | exact hF _ _ | exact hI _ | exact hG _ _ | exact hK _ | (simp [uN] <;> omega)) (fun c16 => ?_) (fun c16 => absurd c16 (by omega))
  refine v_aload_n (dec_of DX2_takeNote 10 rfl) rfl ?_
  refine v_get fX2_79 (dec_of DX2_takeNote 11 rfl) rfl rfl ?_
  refine vi_if_ne (tgt := 45) (dec_of DX2_takeNote 12 rfl) (by decide) (by first | omega | exact bnd_r _ _ | exact hF _ _ | exact hI _ | exact hG _ _ | exact hK _ | (simp [uN] <;> omega)) (fun c24 => absurd c24 (by omega)) (fun c24 => ?_)
  refine v_aload_n (dec_of DX2_takeNote 13 rfl) rfl ?_
  refine vi_const (dec_of DX2_takeNote 14 rfl) ?_
  refine cp_11 fX2_79 (dec_of DX2_takeNote 15 rfl) (by omega) ?_
  refine v_aload_n (dec_of DX2_takeNote 16 rfl) rfl ?_
  refine v_get fX2_9 (dec_of DX2_takeNote 17 rfl) rfl rfl ?_
  refine v_dup (dec_of DX2_takeNote 18 rfl) rfl ?_
  refine v_get fX2_163 (dec_of DX2_takeNote 19 rfl) rfl rfl ?_
  refine vi_const (dec_of DX2_takeNote 20 rfl) ?_
  refine vi_add (dec_of DX2_takeNote 21 rfl) ?_
  refine cp_2 fX2_163 (dec_of DX2_takeNote 22 rfl) ?_
  refine v_aload_n (dec_of DX2_takeNote 23 rfl) rfl ?_
  refine vi_const (dec_of DX2_takeNote 24 rfl) ?_
  refine cp_12 fX2_82 (dec_of DX2_takeNote 25 rfl) (by omega) ?_
  refine v_iload_n (dec_of DX2_takeNote 26 rfl) rfl ?_
  refine v_aload_n (dec_of DX2_takeNote 27 rfl) rfl ?_
  refine v_get fX2_70 (dec_of DX2_takeNote 28 rfl) rfl rfl ?_
  refine vi_sub (dec_of DX2_takeNote 29 rfl) ?_
  refine v_istore_n (dec_of DX2_takeNote 30 rfl) (by decide) ?_
  dsimp only [List.set]
  refine v_aload_n (dec_of DX2_takeNote 31 rfl) rfl ?_
  refine v_get fX2_9 (dec_of DX2_takeNote 32 rfl) rfl rfl ?_
  refine v_get fX2_106 (dec_of DX2_takeNote 33 rfl) rfl rfl ?_
  refine v_V0r (c3_size) lX2_33 (dec_of DX2_takeNote 34 rfl) rfl rfl (by decide) (nle rfl) rfl ?_
  refine vi_const (dec_of DX2_takeNote 35 rfl) ?_
  refine vi_sub (dec_of DX2_takeNote 36 rfl) ?_
  refine v_istore (dec_of DX2_takeNote 37 rfl) (by decide) ?_
  dsimp only [List.set]
  refine v_aload_n (dec_of DX2_takeNote 38 rfl) rfl ?_
  refine v_get fX2_9 (dec_of DX2_takeNote 39 rfl) rfl rfl ?_
  refine v_get fX2_143 (dec_of DX2_takeNote 40 rfl) rfl rfl ?_
  refine v_iload_n (dec_of DX2_takeNote 41 rfl) rfl ?_
  refine v_V1r (c4_add (by first | omega | exact bnd_r _ _ | exact hF _ _ | exact hI _ | exact hG _ _ | exact hK _ | (simp [uN] <;> omega))) lX2_92 (dec_of DX2_takeNote 42 rfl) rfl rfl (by decide) (nle rfl) rfl ?_
  refine v_istore (dec_of DX2_takeNote 43 rfl) (by decide) ?_
  dsimp only [List.set]
  refine v_aload_n (dec_of DX2_takeNote 44 rfl) rfl ?_
  refine v_get fX2_9 (dec_of DX2_takeNote 45 rfl) rfl rfl ?_
  refine v_get fX2_143 (dec_of DX2_takeNote 46 rfl) rfl rfl ?_
  refine v_iload (dec_of DX2_takeNote 47 rfl) rfl ?_
  refine vi_const (dec_of DX2_takeNote 48 rfl) ?_
  refine v_iload (dec_of DX2_takeNote 49 rfl) rfl ?_
  refine v_V3v (c4_set (by first | omega | exact bnd_r _ _ | exact hF _ _ | exact hI _ | exact hG _ _ | exact hK _ | (simp [uN] <;> omega)) (by first | omega | exact bnd_r _ _ | exact hF _ _ | exact hI _ | exact hG _ _ | exact hK _ | (simp [uN] <;> omega)) (by first | omega | exact bnd_r _ _ | exact hF _ _ | exact hI _ | exact hG _ _ | exact hK _ | (simp [uN] <;> omega))) lX2_109 (dec_of DX2_takeNote 50 rfl) rfl rfl (by decide) (nle rfl) rfl ?_
  refine v_aload_n (dec_of DX2_takeNote 51 rfl) rfl ?_
  refine v_get fX2_9 (dec_of DX2_takeNote 52 rfl) rfl rfl ?_
  refine v_get fX2_143 (dec_of DX2_takeNote 53 rfl) rfl rfl ?_
  refine v_iload (dec_of DX2_takeNote 54 rfl) rfl ?_
  refine vi_const (dec_of DX2_takeNote 55 rfl) ?_
  refine v_aload_n (dec_of DX2_takeNote 56 rfl) rfl ?_
  refine v_get fX2_9 (dec_of DX2_takeNote 57 rfl) rfl rfl ?_
  refine v_get fX2_163 (dec_of DX2_takeNote 58 rfl) rfl rfl ?_
  refine vi_const (dec_of DX2_takeNote 59 rfl) ?_
  refine vi_sub (dec_of DX2_takeNote 60 rfl) ?_
  refine v_V3v (c4_set (by first | omega | exact bnd_r _ _ | exact hF _ _ | exact hI _ | exact hG _ _ | exact hK _ | (simp [uN] <;> omega)) (by first | omega | exact bnd_r _ _ | exact hF _ _ | exact hI _ | exact hG _ _ | exact hK _ | (simp [uN] <;> omega)) (by first | omega | exact bnd_r _ _ | exact hF _ _ | exact hI _ | exact hG _ _ | exact hK _ | (simp [uN] <;> omega))) lX2_109 (dec_of DX2_takeNote 61 rfl) rfl rfl (by decide) (nle rfl) rfl ?_
  refine v_aload_n (dec_of DX2_takeNote 62 rfl) rfl ?_
  refine v_get fX2_9 (dec_of DX2_takeNote 63 rfl) rfl rfl ?_
  refine v_get fX2_143 (dec_of DX2_takeNote 64 rfl) rfl rfl ?_
  refine v_iload (dec_of DX2_takeNote 65 rfl) rfl ?_
  refine vi_const (dec_of DX2_takeNote 66 rfl) ?_
  refine v_iload_n (dec_of DX2_takeNote 67 rfl) rfl ?_
  refine v_V3v (c4_set (by first | omega | exact bnd_r _ _ | exact hF _ _ | exact hI _ | exact hG _ _ | exact hK _ | (simp [uN] <;> omega)) (by first | omega | exact bnd_r _ _ | exact hF _ _ | exact hI _ | exact hG _ _ | exact hK _ | (simp [uN] <;> omega)) (by first | omega | exact bnd_r _ _ | exact hF _ _ | exact hI _ | exact hG _ _ | exact hK _ | (simp [uN] <;> omega))) lX2_109 (dec_of DX2_takeNote 68 rfl) rfl rfl (by decide) (nle rfl) rfl ?_
  refine v_aload_n (dec_of DX2_takeNote 69 rfl) rfl ?_
  refine v_get fX2_9 (dec_of DX2_takeNote 70 rfl) rfl rfl ?_
  refine v_get fX2_143 (dec_of DX2_takeNote 71 rfl) rfl rfl ?_
  refine v_iload (dec_of DX2_takeNote 72 rfl) rfl ?_
  refine vi_bi (dec_of DX2_takeNote 73 rfl) (by decide) ?_
  refine v_iload_n (dec_of DX2_takeNote 74 rfl) rfl ?_
  refine v_S1r (k_semitonesOf (by first | omega | (simp [uN]; omega))) lX2_166 (dec_of DX2_takeNote 75 rfl) (by decide) (nle rfl) rfl ?_
  refine v_aload_n (dec_of DX2_takeNote 76 rfl) rfl ?_
  refine v_get fX2_85 (dec_of DX2_takeNote 77 rfl) rfl rfl ?_
  refine v_iload_n (dec_of DX2_takeNote 78 rfl) rfl ?_
  refine vi_shr (dec_of DX2_takeNote 79 rfl) ?_
  refine vi_const (dec_of DX2_takeNote 80 rfl) ?_
  refine vi_and (dec_of DX2_takeNote 81 rfl) ?_
  refine vi_sub (dec_of DX2_takeNote 82 rfl) ?_
  refine v_V3v (c4_set (by first | omega | exact bnd_r _ _ | exact hF _ _ | exact hI _ | exact hG _ _ | exact hK _ | (simp [uN] <;> omega)) (by first | omega | exact bnd_r _ _ | exact hF _ _ | exact hI _ | exact hG _ _ | exact hK _ | (simp [uN] <;> omega)) (by first | omega | exact bnd_r _ _ | exact hF _ _ | exact hI _ | exact hG _ _ | exact hK _ | (simp [uN] <;> omega))) lX2_109 (dec_of DX2_takeNote 83 rfl) rfl rfl (by decide) (nle rfl) rfl ?_
  refine v_aload_n (dec_of DX2_takeNote 84 rfl) rfl ?_
  refine v_get fX2_9 (dec_of DX2_takeNote 85 rfl) rfl rfl ?_
  refine v_get fX2_106 (dec_of DX2_takeNote 86 rfl) rfl rfl ?_
  refine v_iload (dec_of DX2_takeNote 87 rfl) rfl ?_
  refine vi_const (dec_of DX2_takeNote 88 rfl) ?_
  refine v_V2r (c3_get (by first | omega | exact bnd_r _ _ | exact hF _ _ | exact hI _ | exact hG _ _ | exact hK _ | (simp [uN] <;> omega)) (by first | omega | exact bnd_r _ _ | exact hF _ _ | exact hI _ | exact hG _ _ | exact hK _ | (simp [uN] <;> omega)) (by first | omega | exact bnd_r _ _ | exact hF _ _ | exact hI _ | exact hG _ _ | exact hK _ | (simp [uN] <;> omega))) lX2_43 (dec_of DX2_takeNote 89 rfl) rfl rfl (by decide) (nle rfl) rfl ?_
  refine v_istore (dec_of DX2_takeNote 90 rfl) (by decide) ?_
  dsimp only [List.set]
  refine v_iload (dec_of DX2_takeNote 91 rfl) rfl ?_
  refine vi_if_ne (tgt := 197) (dec_of DX2_takeNote 92 rfl) (by decide) (by first | omega | exact bnd_r _ _ | exact hF _ _ | exact hI _ | exact hG _ _ | exact hK _ | (simp [uN] <;> omega)) (fun c179 => ?_) (fun c179 => ?_)
  · refine v_aload_n (dec_of DX2_takeNote 100 rfl) rfl ?_
    refine v_get fX2_9 (dec_of DX2_takeNote 101 rfl) rfl rfl ?_
    refine v_get fX2_106 (dec_of DX2_takeNote 102 rfl) rfl rfl ?_
    refine v_iload (dec_of DX2_takeNote 103 rfl) rfl ?_
    refine vi_const (dec_of DX2_takeNote 104 rfl) ?_
    refine v_iload (dec_of DX2_takeNote 105 rfl) rfl ?_
    refine vi_const (dec_of DX2_takeNote 106 rfl) ?_
    refine vi_add (dec_of DX2_takeNote 107 rfl) ?_
    refine v_V3v (c3_set (by first | omega | exact bnd_r _ _ | exact hF _ _ | exact hI _ | exact hG _ _ | exact hK _ | (simp [uN] <;> omega)) (by first | omega | exact bnd_r _ _ | exact hF _ _ | exact hI _ | exact hG _ _ | exact hK _ | (simp [uN] <;> omega)) (by first | omega | exact bnd_r _ _ | exact hF _ _ | exact hI _ | exact hG _ _ | exact hK _ | (simp [uN] <;> omega))) lX2_109 (dec_of DX2_takeNote 108 rfl) rfl rfl (by decide) (nle rfl) rfl ?_
    exact vi_vret (dec_of DX2_takeNote 109 rfl) rfl ⟨by decide, by decide⟩ (⟨by first | (rw [ntF, if_pos (by assumption)]; rfl) | (rw [ntF, if_neg (by assumption)]; rfl), rfl⟩)
  · refine v_aload_n (dec_of DX2_takeNote 93 rfl) rfl ?_
    refine v_get fX2_9 (dec_of DX2_takeNote 94 rfl) rfl rfl ?_
    refine v_get fX2_106 (dec_of DX2_takeNote 95 rfl) rfl rfl ?_
    refine v_iload (dec_of DX2_takeNote 96 rfl) rfl ?_
    refine vi_const (dec_of DX2_takeNote 97 rfl) ?_
    refine v_iload (dec_of DX2_takeNote 98 rfl) rfl ?_
    refine v_V3v (c3_set (by first | omega | exact bnd_r _ _ | exact hF _ _ | exact hI _ | exact hG _ _ | exact hK _ | (simp [uN] <;> omega)) (by first | omega | exact bnd_r _ _ | exact hF _ _ | exact hI _ | exact hG _ _ | exact hK _ | (simp [uN] <;> omega)) (by first | omega | exact bnd_r _ _ | exact hF _ _ | exact hI _ | exact hG _ _ | exact hK _ | (simp [uN] <;> omega))) lX2_109 (dec_of DX2_takeNote 99 rfl) rfl rfl (by decide) (nle rfl) rfl ?_
    refine v_aload_n (dec_of DX2_takeNote 100 rfl) rfl ?_
    refine v_get fX2_9 (dec_of DX2_takeNote 101 rfl) rfl rfl ?_
    refine v_get fX2_106 (dec_of DX2_takeNote 102 rfl) rfl rfl ?_
    refine v_iload (dec_of DX2_takeNote 103 rfl) rfl ?_
    refine vi_const (dec_of DX2_takeNote 104 rfl) ?_
    refine v_iload (dec_of DX2_takeNote 105 rfl) rfl ?_
    refine vi_const (dec_of DX2_takeNote 106 rfl) ?_
    refine vi_add (dec_of DX2_takeNote 107 rfl) ?_
    refine v_V3v (c3_set (by first | omega | exact bnd_r _ _ | exact hF _ _ | exact hI _ | exact hG _ _ | exact hK _ | (simp [uN] <;> omega)) (by first | omega | exact bnd_r _ _ | exact hF _ _ | exact hI _ | exact hG _ _ | exact hK _ | (simp [uN] <;> omega)) (by first | omega | exact bnd_r _ _ | exact hF _ _ | exact hI _ | exact hG _ _ | exact hK _ | (simp [uN] <;> omega))) lX2_109 (dec_of DX2_takeNote 108 rfl) rfl rfl (by decide) (nle rfl) rfl ?_
    exact vi_vret (dec_of DX2_takeNote 109 rfl) rfl ⟨by decide, by decide⟩ (⟨by first | (rw [ntF, if_pos (by assumption)]; rfl) | (rw [ntF, if_neg (by assumption)]; rfl), rfl⟩)
set_option maxRecDepth 100000 in
set_option maxHeartbeats 4000000 in
theorem k_note_old {T : XW} {I N : Nat → Int} {F : Nat → Int → Int} (hF : FR F) (hI : IR I) (hN : NR N) {p h : Int} (hh : 0 ≤ h ∧ h ≤ 12) (h11 : ¬ I 11 = 0) (h9 : N 9 = 6) (h8 : N 8 < 260) (hr : F 9 0 < 150) (h4 : N 4 < 150) (h3 : 0 < N 3) (h6 : -100 ≤ I 6 ∧ I 6 ≤ 100) : Sd (rm 2 48 0 0) mX2_takeNote [.ref 20, J p, J h] (cls I N F ++ T) (cls (uN I 12 1) (uN (uN N 8 (N 8 + 1)) 4 (N 4 + 1)) (ntF I N F h (I 2)) ++ T) (none) := by
  unfold Sd
  unfold NR at hN
  refine sp_of (ls := [some (.ref 20), some (J p), some (J h), none, none, none, none]) (by decide) (nle rfl) rfl rfl ?_
  refine v_aload_n (dec_of DX2_takeNote 0 rfl) rfl ?_
  refine v_iload_n (dec_of DX2_takeNote 1 rfl) rfl ?_
  refine vi_const (dec_of DX2_takeNote 2 rfl) ?_
  refine v_aload_n (dec_of DX2_takeNote 3 rfl) rfl ?_
  refine v_get fX2_9 (dec_of DX2_takeNote 4 rfl) rfl rfl ?_
  refine v_get fX2_143 (dec_of DX2_takeNote 5 rfl) rfl rfl ?_
  refine v_V0r (c4_size) lX2_33 (dec_of DX2_takeNote 6 rfl) rfl rfl (by decide) (nle rfl) rfl ?_
  refine v_V3r (k_addS hF hI (by unfold NR; exact hN) (by omega) h9 h8 hr) lX2_159 (dec_of DX2_takeNote 7 rfl) rfl rfl (by decide) (nle rfl) rfl ?_
  refine vi_if_ne (tgt := 20) (dec_of DX2_takeNote 8 rfl) (by decide) (by first | omega | exact bnd_r _ _ | exact hF _ _ | exact hI _ | exact hG _ _ | exact hK _ | (simp [uN] <;> omega)) (fun c16 => ?_) (fun c16 => absurd c16 (by omega))
  refine v_aload_n (dec_of DX2_takeNote 10 rfl) rfl ?_
  refine v_get fX2_79 (dec_of DX2_takeNote 11 rfl) rfl rfl ?_
  refine vi_if_ne (tgt := 45) (dec_of DX2_takeNote 12 rfl) (by decide) (by first | omega | exact bnd_r _ _ | exact hF _ _ | exact hI _ | exact hG _ _ | exact hK _ | (simp [uN] <;> omega)) (fun c24 => ?_) (fun c24 => absurd c24 (by omega))
  refine v_aload_n (dec_of DX2_takeNote 23 rfl) rfl ?_
  refine vi_const (dec_of DX2_takeNote 24 rfl) ?_
  refine cp_12 fX2_82 (dec_of DX2_takeNote 25 rfl) (by omega) ?_
  refine v_iload_n (dec_of DX2_takeNote 26 rfl) rfl ?_
  refine v_aload_n (dec_of DX2_takeNote 27 rfl) rfl ?_
  refine v_get fX2_70 (dec_of DX2_takeNote 28 rfl) rfl rfl ?_
  refine vi_sub (dec_of DX2_takeNote 29 rfl) ?_
  refine v_istore_n (dec_of DX2_takeNote 30 rfl) (by decide) ?_
  dsimp only [List.set]
  refine v_aload_n (dec_of DX2_takeNote 31 rfl) rfl ?_
  refine v_get fX2_9 (dec_of DX2_takeNote 32 rfl) rfl rfl ?_
  refine v_get fX2_106 (dec_of DX2_takeNote 33 rfl) rfl rfl ?_
  refine v_V0r (c3_size) lX2_33 (dec_of DX2_takeNote 34 rfl) rfl rfl (by decide) (nle rfl) rfl ?_
  refine vi_const (dec_of DX2_takeNote 35 rfl) ?_
  refine vi_sub (dec_of DX2_takeNote 36 rfl) ?_
  refine v_istore (dec_of DX2_takeNote 37 rfl) (by decide) ?_
  dsimp only [List.set]
  refine v_aload_n (dec_of DX2_takeNote 38 rfl) rfl ?_
  refine v_get fX2_9 (dec_of DX2_takeNote 39 rfl) rfl rfl ?_
  refine v_get fX2_143 (dec_of DX2_takeNote 40 rfl) rfl rfl ?_
  refine v_iload_n (dec_of DX2_takeNote 41 rfl) rfl ?_
  refine v_V1r (c4_add (by first | omega | exact bnd_r _ _ | exact hF _ _ | exact hI _ | exact hG _ _ | exact hK _ | (simp [uN] <;> omega))) lX2_92 (dec_of DX2_takeNote 42 rfl) rfl rfl (by decide) (nle rfl) rfl ?_
  refine v_istore (dec_of DX2_takeNote 43 rfl) (by decide) ?_
  dsimp only [List.set]
  refine v_aload_n (dec_of DX2_takeNote 44 rfl) rfl ?_
  refine v_get fX2_9 (dec_of DX2_takeNote 45 rfl) rfl rfl ?_
  refine v_get fX2_143 (dec_of DX2_takeNote 46 rfl) rfl rfl ?_
  refine v_iload (dec_of DX2_takeNote 47 rfl) rfl ?_
  refine vi_const (dec_of DX2_takeNote 48 rfl) ?_
  refine v_iload (dec_of DX2_takeNote 49 rfl) rfl ?_
  refine v_V3v (c4_set (by first | omega | exact bnd_r _ _ | exact hF _ _ | exact hI _ | exact hG _ _ | exact hK _ | (simp [uN] <;> omega)) (by first | omega | exact bnd_r _ _ | exact hF _ _ | exact hI _ | exact hG _ _ | exact hK _ | (simp [uN] <;> omega)) (by first | omega | exact bnd_r _ _ | exact hF _ _ | exact hI _ | exact hG _ _ | exact hK _ | (simp [uN] <;> omega))) lX2_109 (dec_of DX2_takeNote 50 rfl) rfl rfl (by decide) (nle rfl) rfl ?_
  refine v_aload_n (dec_of DX2_takeNote 51 rfl) rfl ?_
  refine v_get fX2_9 (dec_of DX2_takeNote 52 rfl) rfl rfl ?_
  refine v_get fX2_143 (dec_of DX2_takeNote 53 rfl) rfl rfl ?_
  refine v_iload (dec_of DX2_takeNote 54 rfl) rfl ?_
  refine vi_const (dec_of DX2_takeNote 55 rfl) ?_
  refine v_aload_n (dec_of DX2_takeNote 56 rfl) rfl ?_
  refine v_get fX2_9 (dec_of DX2_takeNote 57 rfl) rfl rfl ?_
  refine v_get fX2_163 (dec_of DX2_takeNote 58 rfl) rfl rfl ?_
  refine vi_const (dec_of DX2_takeNote 59 rfl) ?_
  refine vi_sub (dec_of DX2_takeNote 60 rfl) ?_
  refine v_V3v (c4_set (by first | omega | exact bnd_r _ _ | exact hF _ _ | exact hI _ | exact hG _ _ | exact hK _ | (simp [uN] <;> omega)) (by first | omega | exact bnd_r _ _ | exact hF _ _ | exact hI _ | exact hG _ _ | exact hK _ | (simp [uN] <;> omega)) (by first | omega | exact bnd_r _ _ | exact hF _ _ | exact hI _ | exact hG _ _ | exact hK _ | (simp [uN] <;> omega))) lX2_109 (dec_of DX2_takeNote 61 rfl) rfl rfl (by decide) (nle rfl) rfl ?_
  refine v_aload_n (dec_of DX2_takeNote 62 rfl) rfl ?_
  refine v_get fX2_9 (dec_of DX2_takeNote 63 rfl) rfl rfl ?_
  refine v_get fX2_143 (dec_of DX2_takeNote 64 rfl) rfl rfl ?_
  refine v_iload (dec_of DX2_takeNote 65 rfl) rfl ?_
  refine vi_const (dec_of DX2_takeNote 66 rfl) ?_
  refine v_iload_n (dec_of DX2_takeNote 67 rfl) rfl ?_
  refine v_V3v (c4_set (by first | omega | exact bnd_r _ _ | exact hF _ _ | exact hI _ | exact hG _ _ | exact hK _ | (simp [uN] <;> omega)) (by first | omega | exact bnd_r _ _ | exact hF _ _ | exact hI _ | exact hG _ _ | exact hK _ | (simp [uN] <;> omega)) (by first | omega | exact bnd_r _ _ | exact hF _ _ | exact hI _ | exact hG _ _ | exact hK _ | (simp [uN] <;> omega))) lX2_109 (dec_of DX2_takeNote 68 rfl) rfl rfl (by decide) (nle rfl) rfl ?_
  refine v_aload_n (dec_of DX2_takeNote 69 rfl) rfl ?_
  refine v_get fX2_9 (dec_of DX2_takeNote 70 rfl) rfl rfl ?_
  refine v_get fX2_143 (dec_of DX2_takeNote 71 rfl) rfl rfl ?_
  refine v_iload (dec_of DX2_takeNote 72 rfl) rfl ?_
  refine vi_bi (dec_of DX2_takeNote 73 rfl) (by decide) ?_
  refine v_iload_n (dec_of DX2_takeNote 74 rfl) rfl ?_
  refine v_S1r (k_semitonesOf (by first | omega | (simp [uN]; omega))) lX2_166 (dec_of DX2_takeNote 75 rfl) (by decide) (nle rfl) rfl ?_
  refine v_aload_n (dec_of DX2_takeNote 76 rfl) rfl ?_
  refine v_get fX2_85 (dec_of DX2_takeNote 77 rfl) rfl rfl ?_
  refine v_iload_n (dec_of DX2_takeNote 78 rfl) rfl ?_
  refine vi_shr (dec_of DX2_takeNote 79 rfl) ?_
  refine vi_const (dec_of DX2_takeNote 80 rfl) ?_
  refine vi_and (dec_of DX2_takeNote 81 rfl) ?_
  refine vi_sub (dec_of DX2_takeNote 82 rfl) ?_
  refine v_V3v (c4_set (by first | omega | exact bnd_r _ _ | exact hF _ _ | exact hI _ | exact hG _ _ | exact hK _ | (simp [uN] <;> omega)) (by first | omega | exact bnd_r _ _ | exact hF _ _ | exact hI _ | exact hG _ _ | exact hK _ | (simp [uN] <;> omega)) (by first | omega | exact bnd_r _ _ | exact hF _ _ | exact hI _ | exact hG _ _ | exact hK _ | (simp [uN] <;> omega))) lX2_109 (dec_of DX2_takeNote 83 rfl) rfl rfl (by decide) (nle rfl) rfl ?_
  refine v_aload_n (dec_of DX2_takeNote 84 rfl) rfl ?_
  refine v_get fX2_9 (dec_of DX2_takeNote 85 rfl) rfl rfl ?_
  refine v_get fX2_106 (dec_of DX2_takeNote 86 rfl) rfl rfl ?_
  refine v_iload (dec_of DX2_takeNote 87 rfl) rfl ?_
  refine vi_const (dec_of DX2_takeNote 88 rfl) ?_
  refine v_V2r (c3_get (by first | omega | exact bnd_r _ _ | exact hF _ _ | exact hI _ | exact hG _ _ | exact hK _ | (simp [uN] <;> omega)) (by first | omega | exact bnd_r _ _ | exact hF _ _ | exact hI _ | exact hG _ _ | exact hK _ | (simp [uN] <;> omega)) (by first | omega | exact bnd_r _ _ | exact hF _ _ | exact hI _ | exact hG _ _ | exact hK _ | (simp [uN] <;> omega))) lX2_43 (dec_of DX2_takeNote 89 rfl) rfl rfl (by decide) (nle rfl) rfl ?_
  refine v_istore (dec_of DX2_takeNote 90 rfl) (by decide) ?_
  dsimp only [List.set]
  refine v_iload (dec_of DX2_takeNote 91 rfl) rfl ?_
  refine vi_if_ne (tgt := 197) (dec_of DX2_takeNote 92 rfl) (by decide) (by first | omega | exact bnd_r _ _ | exact hF _ _ | exact hI _ | exact hG _ _ | exact hK _ | (simp [uN] <;> omega)) (fun c179 => ?_) (fun c179 => ?_)
  · refine v_aload_n (dec_of DX2_takeNote 100 rfl) rfl ?_
    refine v_get fX2_9 (dec_of DX2_takeNote 101 rfl) rfl rfl ?_
    refine v_get fX2_106 (dec_of DX2_takeNote 102 rfl) rfl rfl ?_
    refine v_iload (dec_of DX2_takeNote 103 rfl) rfl ?_
    refine vi_const (dec_of DX2_takeNote 104 rfl) ?_
    refine v_iload (dec_of DX2_takeNote 105 rfl) rfl ?_
    refine vi_const (dec_of DX2_takeNote 106 rfl) ?_
    refine vi_add (dec_of DX2_takeNote 107 rfl) ?_
    refine v_V3v (c3_set (by first | omega | exact bnd_r _ _ | exact hF _ _ | exact hI _ | exact hG _ _ | exact hK _ | (simp [uN] <;> omega)) (by first | omega | exact bnd_r _ _ | exact hF _ _ | exact hI _ | exact hG _ _ | exact hK _ | (simp [uN] <;> omega)) (by first | omega | exact bnd_r _ _ | exact hF _ _ | exact hI _ | exact hG _ _ | exact hK _ | (simp [uN] <;> omega))) lX2_109 (dec_of DX2_takeNote 108 rfl) rfl rfl (by decide) (nle rfl) rfl ?_
    exact vi_vret (dec_of DX2_takeNote 109 rfl) rfl ⟨by decide, by decide⟩ (⟨by first | (rw [ntF, if_pos (by assumption)]; rfl) | (rw [ntF, if_neg (by assumption)]; rfl), rfl⟩)
  · refine v_aload_n (dec_of DX2_takeNote 93 rfl) rfl ?_
    refine v_get fX2_9 (dec_of DX2_takeNote 94 rfl) rfl rfl ?_
    refine v_get fX2_106 (dec_of DX2_takeNote 95 rfl) rfl rfl ?_
    refine v_iload (dec_of DX2_takeNote 96 rfl) rfl ?_
    refine vi_const (dec_of DX2_takeNote 97 rfl) ?_
    refine v_iload (dec_of DX2_takeNote 98 rfl) rfl ?_
    refine v_V3v (c3_set (by first | omega | exact bnd_r _ _ | exact hF _ _ | exact hI _ | exact hG _ _ | exact hK _ | (simp [uN] <;> omega)) (by first | omega | exact bnd_r _ _ | exact hF _ _ | exact hI _ | exact hG _ _ | exact hK _ | (simp [uN] <;> omega)) (by first | omega | exact bnd_r _ _ | exact hF _ _ | exact hI _ | exact hG _ _ | exact hK _ | (simp [uN] <;> omega))) lX2_109 (dec_of DX2_takeNote 99 rfl) rfl rfl (by decide) (nle rfl) rfl ?_
    refine v_aload_n (dec_of DX2_takeNote 100 rfl) rfl ?_
    refine v_get fX2_9 (dec_of DX2_takeNote 101 rfl) rfl rfl ?_
    refine v_get fX2_106 (dec_of DX2_takeNote 102 rfl) rfl rfl ?_
    refine v_iload (dec_of DX2_takeNote 103 rfl) rfl ?_
    refine vi_const (dec_of DX2_takeNote 104 rfl) ?_
    refine v_iload (dec_of DX2_takeNote 105 rfl) rfl ?_
    refine vi_const (dec_of DX2_takeNote 106 rfl) ?_
    refine vi_add (dec_of DX2_takeNote 107 rfl) ?_
    refine v_V3v (c3_set (by first | omega | exact bnd_r _ _ | exact hF _ _ | exact hI _ | exact hG _ _ | exact hK _ | (simp [uN] <;> omega)) (by first | omega | exact bnd_r _ _ | exact hF _ _ | exact hI _ | exact hG _ _ | exact hK _ | (simp [uN] <;> omega)) (by first | omega | exact bnd_r _ _ | exact hF _ _ | exact hI _ | exact hG _ _ | exact hK _ | (simp [uN] <;> omega))) lX2_109 (dec_of DX2_takeNote 108 rfl) rfl rfl (by decide) (nle rfl) rfl ?_
    exact vi_vret (dec_of DX2_takeNote 109 rfl) rfl ⟨by decide, by decide⟩ (⟨by first | (rw [ntF, if_pos (by assumption)]; rfl) | (rw [ntF, if_neg (by assumption)]; rfl), rfl⟩)
set_option maxRecDepth 100000 in
set_option maxHeartbeats 4000000 in
theorem k_bar2 {T : XW} {I N : Nat → Int} {F : Nat → Int → Int} (hF : FR F) (hI : IR I) (hN : NR N) {p k : Int} (hp : 0 ≤ p ∧ p ≤ 2000) (hk : 1 ≤ k ∧ k ≤ 4) (h4 : k = 4) (h9 : N 9 = 6) (h8 : N 8 < 260) (hr : F 9 4 < 30) (h6 : N 6 < 30) : Sd (rm 2 48 0 0) mX2_takeBar [.ref 20, J p, J k] (cls I N F ++ T) (cls (uN (uN I 5 (p + 2)) 7 0) (uN (uN N 8 (N 8 + 1)) 6 (N 6 + 1)) (uN (sgF N F 4 k) 6 (uI (adf (F 6) 2 (N 6) k) (N 6 * 2 + 1) (N 4))) ++ T) (none) := by
  unfold Sd
  unfold NR at hN
  refine sp_of (ls := [some (.ref 20), some (J p), some (J k), none]) (by decide) (nle rfl) rfl rfl ?_
  refine v_iload_n (dec_of DX2_takeBar 0 rfl) rfl ?_
  refine vi_const (dec_of DX2_takeBar 1 rfl) ?_
  refine vi_icmp_ne (tgt := 12) (dec_of DX2_takeBar 2 rfl) (by decide) (by first | omega | exact bnd_r _ _ | exact hF _ _ | exact hI _ | exact hG _ _ | exact hK _ | (simp [uN] <;> omega)) (by first | omega | exact bnd_r _ _ | exact hF _ _ | exact hI _ | exact hG _ _ | exact hK _ | (simp [uN] <;> omega)) (fun c2 => absurd c2 (by omega)) (fun c2 => ?_)
  refine v_aload_n (dec_of DX2_takeBar 3 rfl) rfl ?_
  refine v_iload_n (dec_of DX2_takeBar 4 rfl) rfl ?_
  refine vi_const (dec_of DX2_takeBar 5 rfl) ?_
  refine vi_add (dec_of DX2_takeBar 6 rfl) ?_
  refine cp_5 fX2_40 (dec_of DX2_takeBar 7 rfl) ?_
  refine v_aload_n (dec_of DX2_takeBar 8 rfl) rfl ?_
  refine v_iload_n (dec_of DX2_takeBar 9 rfl) rfl ?_
  refine vi_const (dec_of DX2_takeBar 10 rfl) ?_
  refine v_iload_n (dec_of DX2_takeBar 11 rfl) rfl ?_
  refine v_V3r (k_addS hF (hI.up (by omega)) (by unfold NR; exact hN) (by omega) h9 h8 hr) lX2_159 (dec_of DX2_takeBar 12 rfl) rfl rfl (by decide) (nle rfl) rfl ?_
  refine vi_if_eq (tgt := 61) (dec_of DX2_takeBar 13 rfl) (by decide) (by first | omega | exact bnd_r _ _ | exact hF _ _ | exact hI _ | exact hG _ _ | exact hK _ | (simp [uN] <;> omega)) (fun c19 => absurd c19 (by omega)) (fun c19 => ?_)
  refine v_aload_n (dec_of DX2_takeBar 14 rfl) rfl ?_
  refine v_get fX2_9 (dec_of DX2_takeBar 15 rfl) rfl rfl ?_
  refine v_get fX2_169 (dec_of DX2_takeBar 16 rfl) rfl rfl ?_
  refine v_iload_n (dec_of DX2_takeBar 17 rfl) rfl ?_
  refine v_V1r (c6_add (by first | omega | exact bnd_r _ _ | exact hF _ _ | exact hI _ | exact hG _ _ | exact hK _ | (simp [uN] <;> omega))) lX2_92 (dec_of DX2_takeBar 18 rfl) rfl rfl (by decide) (nle rfl) rfl ?_
  refine v_istore_n (dec_of DX2_takeBar 19 rfl) (by decide) ?_
  dsimp only [List.set]
  refine v_aload_n (dec_of DX2_takeBar 20 rfl) rfl ?_
  refine v_get fX2_9 (dec_of DX2_takeBar 21 rfl) rfl rfl ?_
  refine v_get fX2_169 (dec_of DX2_takeBar 22 rfl) rfl rfl ?_
  refine v_iload_n (dec_of DX2_takeBar 23 rfl) rfl ?_
  refine vi_const (dec_of DX2_takeBar 24 rfl) ?_
  refine v_aload_n (dec_of DX2_takeBar 25 rfl) rfl ?_
  refine v_get fX2_9 (dec_of DX2_takeBar 26 rfl) rfl rfl ?_
  refine v_get fX2_143 (dec_of DX2_takeBar 27 rfl) rfl rfl ?_
  refine v_V0r (c4_size) lX2_33 (dec_of DX2_takeBar 28 rfl) rfl rfl (by decide) (nle rfl) rfl ?_
  refine v_V3v (c6_set (by first | omega | exact bnd_r _ _ | exact hF _ _ | exact hI _ | exact hG _ _ | exact hK _ | (simp [uN] <;> omega)) (by first | omega | exact bnd_r _ _ | exact hF _ _ | exact hI _ | exact hG _ _ | exact hK _ | (simp [uN] <;> omega)) (by first | omega | exact bnd_r _ _ | exact hF _ _ | exact hI _ | exact hG _ _ | exact hK _ | (simp [uN] <;> omega))) lX2_109 (dec_of DX2_takeBar 29 rfl) rfl rfl (by decide) (nle rfl) rfl ?_
  refine v_aload_n (dec_of DX2_takeBar 30 rfl) rfl ?_
  refine vi_const (dec_of DX2_takeBar 31 rfl) ?_
  refine cp_7 fX2_85 (dec_of DX2_takeBar 32 rfl) ?_
  exact vi_vret (dec_of DX2_takeBar 33 rfl) rfl ⟨by decide, by decide⟩ (⟨rfl, rfl⟩)
set_option maxRecDepth 100000 in
set_option maxHeartbeats 4000000 in
theorem k_bar2_full {T : XW} {I N : Nat → Int} {F : Nat → Int → Int} (hF : FR F) (hI : IR I) (hN : NR N) {p k : Int} (hp : 0 ≤ p ∧ p ≤ 2000) (hk : 1 ≤ k ∧ k ≤ 4) (h4 : k = 4) (h9 : N 9 = 6) (hr : ¬ F 9 4 < 30) : Sd (rm 2 48 0 0) mX2_takeBar [.ref 20, J p, J k] (cls I N F ++ T) (cls (uN (uN (uN I 5 (p + 2)) 3 2) 4 p) N F ++ T) (none) := by
  unfold Sd
  unfold NR at hN
  refine sp_of (ls := [some (.ref 20), some (J p), some (J k), none]) (by decide) (nle rfl) rfl rfl ?_
  refine v_iload_n (dec_of DX2_takeBar 0 rfl) rfl ?_
  refine vi_const (dec_of DX2_takeBar 1 rfl) ?_
  refine vi_icmp_ne (tgt := 12) (dec_of DX2_takeBar 2 rfl) (by decide) (by first | omega | exact bnd_r _ _ | exact hF _ _ | exact hI _ | exact hG _ _ | exact hK _ | (simp [uN] <;> omega)) (by first | omega | exact bnd_r _ _ | exact hF _ _ | exact hI _ | exact hG _ _ | exact hK _ | (simp [uN] <;> omega)) (fun c2 => absurd c2 (by omega)) (fun c2 => ?_)
  refine v_aload_n (dec_of DX2_takeBar 3 rfl) rfl ?_
  refine v_iload_n (dec_of DX2_takeBar 4 rfl) rfl ?_
  refine vi_const (dec_of DX2_takeBar 5 rfl) ?_
  refine vi_add (dec_of DX2_takeBar 6 rfl) ?_
  refine cp_5 fX2_40 (dec_of DX2_takeBar 7 rfl) ?_
  refine v_aload_n (dec_of DX2_takeBar 8 rfl) rfl ?_
  refine v_iload_n (dec_of DX2_takeBar 9 rfl) rfl ?_
  refine vi_const (dec_of DX2_takeBar 10 rfl) ?_
  refine v_iload_n (dec_of DX2_takeBar 11 rfl) rfl ?_
  refine v_V3r (k_addSf hF (hI.up (by omega)) (by unfold NR; exact hN) (by omega) h9 hr) lX2_159 (dec_of DX2_takeBar 12 rfl) rfl rfl (by decide) (nle rfl) rfl ?_
  refine vi_if_eq (tgt := 61) (dec_of DX2_takeBar 13 rfl) (by decide) (by first | omega | exact bnd_r _ _ | exact hF _ _ | exact hI _ | exact hG _ _ | exact hK _ | (simp [uN] <;> omega)) (fun c19 => ?_) (fun c19 => absurd c19 (by omega))
  exact vi_vret (dec_of DX2_takeBar 33 rfl) rfl ⟨by decide, by decide⟩ (⟨rfl, rfl⟩)
set_option maxRecDepth 100000 in
set_option maxHeartbeats 4000000 in
theorem k_bar1 {T : XW} {I N : Nat → Int} {F : Nat → Int → Int} (hF : FR F) (hI : IR I) (hN : NR N) {p k : Int} (hp : 0 ≤ p ∧ p ≤ 2000) (hk : 1 ≤ k ∧ k ≤ 4) (h4 : ¬ k = 4) (h9 : N 9 = 6) (h8 : N 8 < 260) (hr : F 9 4 < 30) (h6 : N 6 < 30) : Sd (rm 2 48 0 0) mX2_takeBar [.ref 20, J p, J k] (cls I N F ++ T) (cls (uN (I) 7 0) (uN (uN N 8 (N 8 + 1)) 6 (N 6 + 1)) (uN (sgF N F 4 k) 6 (uI (adf (F 6) 2 (N 6) k) (N 6 * 2 + 1) (N 4))) ++ T) (none) := by
  unfold Sd
  unfold NR at hN
  refine sp_of (ls := [some (.ref 20), some (J p), some (J k), none]) (by decide) (nle rfl) rfl rfl ?_
  refine v_iload_n (dec_of DX2_takeBar 0 rfl) rfl ?_
  refine vi_const (dec_of DX2_takeBar 1 rfl) ?_
  refine vi_icmp_ne (tgt := 12) (dec_of DX2_takeBar 2 rfl) (by decide) (by first | omega | exact bnd_r _ _ | exact hF _ _ | exact hI _ | exact hG _ _ | exact hK _ | (simp [uN] <;> omega)) (by first | omega | exact bnd_r _ _ | exact hF _ _ | exact hI _ | exact hG _ _ | exact hK _ | (simp [uN] <;> omega)) (fun c2 => ?_) (fun c2 => absurd c2 (by omega))
  refine v_aload_n (dec_of DX2_takeBar 8 rfl) rfl ?_
  refine v_iload_n (dec_of DX2_takeBar 9 rfl) rfl ?_
  refine vi_const (dec_of DX2_takeBar 10 rfl) ?_
  refine v_iload_n (dec_of DX2_takeBar 11 rfl) rfl ?_
  refine v_V3r (k_addS hF hI (by unfold NR; exact hN) (by omega) h9 h8 hr) lX2_159 (dec_of DX2_takeBar 12 rfl) rfl rfl (by decide) (nle rfl) rfl ?_
  refine vi_if_eq (tgt := 61) (dec_of DX2_takeBar 13 rfl) (by decide) (by first | omega | exact bnd_r _ _ | exact hF _ _ | exact hI _ | exact hG _ _ | exact hK _ | (simp [uN] <;> omega)) (fun c19 => absurd c19 (by omega)) (fun c19 => ?_)
  refine v_aload_n (dec_of DX2_takeBar 14 rfl) rfl ?_
  refine v_get fX2_9 (dec_of DX2_takeBar 15 rfl) rfl rfl ?_
  refine v_get fX2_169 (dec_of DX2_takeBar 16 rfl) rfl rfl ?_
  refine v_iload_n (dec_of DX2_takeBar 17 rfl) rfl ?_
  refine v_V1r (c6_add (by first | omega | exact bnd_r _ _ | exact hF _ _ | exact hI _ | exact hG _ _ | exact hK _ | (simp [uN] <;> omega))) lX2_92 (dec_of DX2_takeBar 18 rfl) rfl rfl (by decide) (nle rfl) rfl ?_
  refine v_istore_n (dec_of DX2_takeBar 19 rfl) (by decide) ?_
  dsimp only [List.set]
  refine v_aload_n (dec_of DX2_takeBar 20 rfl) rfl ?_
  refine v_get fX2_9 (dec_of DX2_takeBar 21 rfl) rfl rfl ?_
  refine v_get fX2_169 (dec_of DX2_takeBar 22 rfl) rfl rfl ?_
  refine v_iload_n (dec_of DX2_takeBar 23 rfl) rfl ?_
  refine vi_const (dec_of DX2_takeBar 24 rfl) ?_
  refine v_aload_n (dec_of DX2_takeBar 25 rfl) rfl ?_
  refine v_get fX2_9 (dec_of DX2_takeBar 26 rfl) rfl rfl ?_
  refine v_get fX2_143 (dec_of DX2_takeBar 27 rfl) rfl rfl ?_
  refine v_V0r (c4_size) lX2_33 (dec_of DX2_takeBar 28 rfl) rfl rfl (by decide) (nle rfl) rfl ?_
  refine v_V3v (c6_set (by first | omega | exact bnd_r _ _ | exact hF _ _ | exact hI _ | exact hG _ _ | exact hK _ | (simp [uN] <;> omega)) (by first | omega | exact bnd_r _ _ | exact hF _ _ | exact hI _ | exact hG _ _ | exact hK _ | (simp [uN] <;> omega)) (by first | omega | exact bnd_r _ _ | exact hF _ _ | exact hI _ | exact hG _ _ | exact hK _ | (simp [uN] <;> omega))) lX2_109 (dec_of DX2_takeBar 29 rfl) rfl rfl (by decide) (nle rfl) rfl ?_
  refine v_aload_n (dec_of DX2_takeBar 30 rfl) rfl ?_
  refine vi_const (dec_of DX2_takeBar 31 rfl) ?_
  refine cp_7 fX2_85 (dec_of DX2_takeBar 32 rfl) ?_
  exact vi_vret (dec_of DX2_takeBar 33 rfl) rfl ⟨by decide, by decide⟩ (⟨rfl, rfl⟩)
set_option maxRecDepth 100000 in
set_option maxHeartbeats 4000000 in
theorem k_bar1_full {T : XW} {I N : Nat → Int} {F : Nat → Int → Int} (hF : FR F) (hI : IR I) (hN : NR N) {p k : Int} (hp : 0 ≤ p ∧ p ≤ 2000) (hk : 1 ≤ k ∧ k ≤ 4) (h4 : ¬ k = 4) (h9 : N 9 = 6) (hr : ¬ F 9 4 < 30) : Sd (rm 2 48 0 0) mX2_takeBar [.ref 20, J p, J k] (cls I N F ++ T) (cls (uN (uN (I) 3 2) 4 p) N F ++ T) (none) := by
  unfold Sd
  unfold NR at hN
  refine sp_of (ls := [some (.ref 20), some (J p), some (J k), none]) (by decide) (nle rfl) rfl rfl ?_
  refine v_iload_n (dec_of DX2_takeBar 0 rfl) rfl ?_
  refine vi_const (dec_of DX2_takeBar 1 rfl) ?_
  refine vi_icmp_ne (tgt := 12) (dec_of DX2_takeBar 2 rfl) (by decide) (by first | omega | exact bnd_r _ _ | exact hF _ _ | exact hI _ | exact hG _ _ | exact hK _ | (simp [uN] <;> omega)) (by first | omega | exact bnd_r _ _ | exact hF _ _ | exact hI _ | exact hG _ _ | exact hK _ | (simp [uN] <;> omega)) (fun c2 => ?_) (fun c2 => absurd c2 (by omega))
  refine v_aload_n (dec_of DX2_takeBar 8 rfl) rfl ?_
  refine v_iload_n (dec_of DX2_takeBar 9 rfl) rfl ?_
  refine vi_const (dec_of DX2_takeBar 10 rfl) ?_
  refine v_iload_n (dec_of DX2_takeBar 11 rfl) rfl ?_
  refine v_V3r (k_addSf hF hI (by unfold NR; exact hN) (by omega) h9 hr) lX2_159 (dec_of DX2_takeBar 12 rfl) rfl rfl (by decide) (nle rfl) rfl ?_
  refine vi_if_eq (tgt := 61) (dec_of DX2_takeBar 13 rfl) (by decide) (by first | omega | exact bnd_r _ _ | exact hF _ _ | exact hI _ | exact hG _ _ | exact hK _ | (simp [uN] <;> omega)) (fun c19 => ?_) (fun c19 => absurd c19 (by omega))
  exact vi_vret (dec_of DX2_takeBar 33 rfl) rfl ⟨by decide, by decide⟩ (⟨rfl, rfl⟩)
set_option maxRecDepth 100000 in
set_option maxHeartbeats 4000000 in
theorem k_end {T : XW} {I N : Nat → Int} {F : Nat → Int → Int} (hF : FR F) (hI : IR I) (hN : NR N) {p : Int} (h9 : N 9 = 6) (h8 : N 8 < 260) (hr : F 9 5 < 20) (h7 : N 7 < 20) : Sd (rm 2 48 0 0) mX2_takeLineEnd [.ref 20, J p] (cls I N F ++ T) (cls I (uN (uN N 8 (N 8 + 1)) 7 (N 7 + 1)) (uN (sgF N F 5 0) 7 (uI (adf (F 7) 2 (N 7) (N 4)) (N 7 * 2 + 1) (I 6))) ++ T) (none) := by
  unfold Sd
  unfold NR at hN
  refine sp_of (ls := [some (.ref 20), some (J p), none]) (by decide) (nle rfl) rfl rfl ?_
  refine v_aload_n (dec_of DX2_takeLineEnd 0 rfl) rfl ?_
  refine v_iload_n (dec_of DX2_takeLineEnd 1 rfl) rfl ?_
  refine vi_const (dec_of DX2_takeLineEnd 2 rfl) ?_
  refine vi_const (dec_of DX2_takeLineEnd 3 rfl) ?_
  refine v_V3r (k_addS hF hI (by unfold NR; exact hN) (by omega) h9 h8 hr) lX2_159 (dec_of DX2_takeLineEnd 4 rfl) rfl rfl (by decide) (nle rfl) rfl ?_
  refine vi_if_eq (tgt := 47) (dec_of DX2_takeLineEnd 5 rfl) (by decide) (by first | omega | exact bnd_r _ _ | exact hF _ _ | exact hI _ | exact hG _ _ | exact hK _ | (simp [uN] <;> omega)) (fun c7 => absurd c7 (by omega)) (fun c7 => ?_)
  refine v_aload_n (dec_of DX2_takeLineEnd 6 rfl) rfl ?_
  refine v_get fX2_9 (dec_of DX2_takeLineEnd 7 rfl) rfl rfl ?_
  refine v_get fX2_172 (dec_of DX2_takeLineEnd 8 rfl) rfl rfl ?_
  refine v_aload_n (dec_of DX2_takeLineEnd 9 rfl) rfl ?_
  refine v_get fX2_9 (dec_of DX2_takeLineEnd 10 rfl) rfl rfl ?_
  refine v_get fX2_143 (dec_of DX2_takeLineEnd 11 rfl) rfl rfl ?_
  refine v_V0r (c4_size) lX2_33 (dec_of DX2_takeLineEnd 12 rfl) rfl rfl (by decide) (nle rfl) rfl ?_
  refine v_V1r (c7_add (by first | omega | exact bnd_r _ _ | exact hF _ _ | exact hI _ | exact hG _ _ | exact hK _ | (simp [uN] <;> omega))) lX2_92 (dec_of DX2_takeLineEnd 13 rfl) rfl rfl (by decide) (nle rfl) rfl ?_
  refine v_istore_n (dec_of DX2_takeLineEnd 14 rfl) (by decide) ?_
  dsimp only [List.set]
  refine v_aload_n (dec_of DX2_takeLineEnd 15 rfl) rfl ?_
  refine v_get fX2_9 (dec_of DX2_takeLineEnd 16 rfl) rfl rfl ?_
  refine v_get fX2_172 (dec_of DX2_takeLineEnd 17 rfl) rfl rfl ?_
  refine v_iload_n (dec_of DX2_takeLineEnd 18 rfl) rfl ?_
  refine vi_const (dec_of DX2_takeLineEnd 19 rfl) ?_
  refine v_aload_n (dec_of DX2_takeLineEnd 20 rfl) rfl ?_
  refine v_get fX2_70 (dec_of DX2_takeLineEnd 21 rfl) rfl rfl ?_
  refine v_V3v (c7_set (by first | omega | exact bnd_r _ _ | exact hF _ _ | exact hI _ | exact hG _ _ | exact hK _ | (simp [uN] <;> omega)) (by first | omega | exact bnd_r _ _ | exact hF _ _ | exact hI _ | exact hG _ _ | exact hK _ | (simp [uN] <;> omega)) (by first | omega | exact bnd_r _ _ | exact hF _ _ | exact hI _ | exact hG _ _ | exact hK _ | (simp [uN] <;> omega))) lX2_109 (dec_of DX2_takeLineEnd 22 rfl) rfl rfl (by decide) (nle rfl) rfl ?_
  exact vi_vret (dec_of DX2_takeLineEnd 23 rfl) rfl ⟨by decide, by decide⟩ (⟨rfl, rfl⟩)
set_option maxRecDepth 100000 in
set_option maxHeartbeats 4000000 in
theorem k_end_full {T : XW} {I N : Nat → Int} {F : Nat → Int → Int} (hF : FR F) (hI : IR I) (hN : NR N) {p : Int} (h9 : N 9 = 6) (hr : ¬ F 9 5 < 20) : Sd (rm 2 48 0 0) mX2_takeLineEnd [.ref 20, J p] (cls I N F ++ T) (cls (uN (uN I 3 2) 4 p) N F ++ T) (none) := by
  unfold Sd
  unfold NR at hN
  refine sp_of (ls := [some (.ref 20), some (J p), none]) (by decide) (nle rfl) rfl rfl ?_
  refine v_aload_n (dec_of DX2_takeLineEnd 0 rfl) rfl ?_
  refine v_iload_n (dec_of DX2_takeLineEnd 1 rfl) rfl ?_
  refine vi_const (dec_of DX2_takeLineEnd 2 rfl) ?_
  refine vi_const (dec_of DX2_takeLineEnd 3 rfl) ?_
  refine v_V3r (k_addSf hF hI (by unfold NR; exact hN) (by omega) h9 hr) lX2_159 (dec_of DX2_takeLineEnd 4 rfl) rfl rfl (by decide) (nle rfl) rfl ?_
  refine vi_if_eq (tgt := 47) (dec_of DX2_takeLineEnd 5 rfl) (by decide) (by first | omega | exact bnd_r _ _ | exact hF _ _ | exact hI _ | exact hG _ _ | exact hK _ | (simp [uN] <;> omega)) (fun c7 => ?_) (fun c7 => absurd c7 (by omega))
  exact vi_vret (dec_of DX2_takeLineEnd 23 rfl) rfl ⟨by decide, by decide⟩ (⟨rfl, rfl⟩)
set_option maxRecDepth 100000 in
set_option maxHeartbeats 4000000 in
theorem k_h_flat {T : XW} {I N : Nat → Int} {F : Nat → Int → Int} {w2 : XW} {p h b : Int} (hh : 0 ≤ h ∧ h ≤ 12) (hb : -1 ≤ b ∧ b < 256) (hc : b = 120) (hs : Sd (rm 2 48 0 0) mX2_takeAccidental [.ref 20, J p, J 1, J h] (cls I N F ++ T) w2 none) : Sd (rm 3 74 0 0) mX2_takeHeight [.ref 20, J p, J h, J b] (cls I N F ++ T) (w2) (none) := by
  unfold Sd
  refine sp_of (ls := [some (.ref 20), some (J p), some (J h), some (J b), none]) (by decide) (nle rfl) rfl rfl ?_
  refine v_iload_n (dec_of DX2_takeHeight 0 rfl) rfl ?_
  refine vi_const (dec_of DX2_takeHeight 1 rfl) ?_
  refine vi_icmp_eq (tgt := 10) (dec_of DX2_takeHeight 2 rfl) (by decide) (by first | omega | exact bnd_r _ _ | exact hF _ _ | exact hI _ | exact hG _ _ | exact hK _ | (simp [uN] <;> omega)) (by first | omega | exact bnd_r _ _ | exact hF _ _ | exact hI _ | exact hG _ _ | exact hK _ | (simp [uN] <;> omega)) (fun c2 => ?_) (fun c2 => ?_)
  · refine vi_const (dec_of DX2_takeHeight 6 rfl) ?_
    refine v_goto (tgt := 15) (dec_of DX2_takeHeight 7 rfl) (by decide) ?_
    refine v_istore (dec_of DX2_takeHeight 9 rfl) (by decide) ?_
    dsimp only [List.set]
    refine v_iload_n (dec_of DX2_takeHeight 10 rfl) rfl ?_
    refine vi_bi (dec_of DX2_takeHeight 11 rfl) (by decide) ?_
    refine vi_icmp_ne (tgt := 33) (dec_of DX2_takeHeight 12 rfl) (by decide) (by first | omega | exact bnd_r _ _ | exact hF _ _ | exact hI _ | exact hG _ _ | exact hK _ | (simp [uN] <;> omega)) (by first | omega | exact bnd_r _ _ | exact hF _ _ | exact hI _ | exact hG _ _ | exact hK _ | (simp [uN] <;> omega)) (fun c20 => absurd c20 (by omega)) (fun c20 => ?_)
    refine v_aload_n (dec_of DX2_takeHeight 13 rfl) rfl ?_
    refine v_iload_n (dec_of DX2_takeHeight 14 rfl) rfl ?_
    refine vi_const (dec_of DX2_takeHeight 15 rfl) ?_
    refine v_iload_n (dec_of DX2_takeHeight 16 rfl) rfl ?_
    refine v_V3v (hs) lX2_150 (dec_of DX2_takeHeight 17 rfl) rfl rfl (by decide) (nle rfl) rfl ?_
    refine v_goto (tgt := 85) (dec_of DX2_takeHeight 18 rfl) (by decide) ?_
    exact vi_vret (dec_of DX2_takeHeight 48 rfl) rfl ⟨by decide, by decide⟩ (⟨rfl, rfl⟩)
  · refine v_iload_n (dec_of DX2_takeHeight 3 rfl) rfl ?_
    refine vi_const (dec_of DX2_takeHeight 4 rfl) ?_
    refine vi_icmp_ne (tgt := 14) (dec_of DX2_takeHeight 5 rfl) (by decide) (by first | omega | exact bnd_r _ _ | exact hF _ _ | exact hI _ | exact hG _ _ | exact hK _ | (simp [uN] <;> omega)) (by first | omega | exact bnd_r _ _ | exact hF _ _ | exact hI _ | exact hG _ _ | exact hK _ | (simp [uN] <;> omega)) (fun c7 => ?_) (fun c7 => ?_)
    · refine vi_const (dec_of DX2_takeHeight 8 rfl) ?_
      refine v_istore (dec_of DX2_takeHeight 9 rfl) (by decide) ?_
      dsimp only [List.set]
      refine v_iload_n (dec_of DX2_takeHeight 10 rfl) rfl ?_
      refine vi_bi (dec_of DX2_takeHeight 11 rfl) (by decide) ?_
      refine vi_icmp_ne (tgt := 33) (dec_of DX2_takeHeight 12 rfl) (by decide) (by first | omega | exact bnd_r _ _ | exact hF _ _ | exact hI _ | exact hG _ _ | exact hK _ | (simp [uN] <;> omega)) (by first | omega | exact bnd_r _ _ | exact hF _ _ | exact hI _ | exact hG _ _ | exact hK _ | (simp [uN] <;> omega)) (fun c20 => absurd c20 (by omega)) (fun c20 => ?_)
      refine v_aload_n (dec_of DX2_takeHeight 13 rfl) rfl ?_
      refine v_iload_n (dec_of DX2_takeHeight 14 rfl) rfl ?_
      refine vi_const (dec_of DX2_takeHeight 15 rfl) ?_
      refine v_iload_n (dec_of DX2_takeHeight 16 rfl) rfl ?_
      refine v_V3v (hs) lX2_150 (dec_of DX2_takeHeight 17 rfl) rfl rfl (by decide) (nle rfl) rfl ?_
      refine v_goto (tgt := 85) (dec_of DX2_takeHeight 18 rfl) (by decide) ?_
      exact vi_vret (dec_of DX2_takeHeight 48 rfl) rfl ⟨by decide, by decide⟩ (⟨rfl, rfl⟩)
    · refine vi_const (dec_of DX2_takeHeight 6 rfl) ?_
      refine v_goto (tgt := 15) (dec_of DX2_takeHeight 7 rfl) (by decide) ?_
      refine v_istore (dec_of DX2_takeHeight 9 rfl) (by decide) ?_
      dsimp only [List.set]
      refine v_iload_n (dec_of DX2_takeHeight 10 rfl) rfl ?_
      refine vi_bi (dec_of DX2_takeHeight 11 rfl) (by decide) ?_
      refine vi_icmp_ne (tgt := 33) (dec_of DX2_takeHeight 12 rfl) (by decide) (by first | omega | exact bnd_r _ _ | exact hF _ _ | exact hI _ | exact hG _ _ | exact hK _ | (simp [uN] <;> omega)) (by first | omega | exact bnd_r _ _ | exact hF _ _ | exact hI _ | exact hG _ _ | exact hK _ | (simp [uN] <;> omega)) (fun c20 => absurd c20 (by omega)) (fun c20 => ?_)
      refine v_aload_n (dec_of DX2_takeHeight 13 rfl) rfl ?_
      refine v_iload_n (dec_of DX2_takeHeight 14 rfl) rfl ?_
      refine vi_const (dec_of DX2_takeHeight 15 rfl) ?_
      refine v_iload_n (dec_of DX2_takeHeight 16 rfl) rfl ?_
      refine v_V3v (hs) lX2_150 (dec_of DX2_takeHeight 17 rfl) rfl rfl (by decide) (nle rfl) rfl ?_
      refine v_goto (tgt := 85) (dec_of DX2_takeHeight 18 rfl) (by decide) ?_
      exact vi_vret (dec_of DX2_takeHeight 48 rfl) rfl ⟨by decide, by decide⟩ (⟨rfl, rfl⟩)
set_option maxRecDepth 100000 in
set_option maxHeartbeats 4000000 in
theorem k_h_nat {T : XW} {I N : Nat → Int} {F : Nat → Int → Int} {w2 : XW} {p h b : Int} (hh : 0 ≤ h ∧ h ≤ 12) (hb : -1 ≤ b ∧ b < 256) (hc : b = 121) (hs : Sd (rm 2 48 0 0) mX2_takeAccidental [.ref 20, J p, J 2, J h] (cls I N F ++ T) w2 none) : Sd (rm 3 74 0 0) mX2_takeHeight [.ref 20, J p, J h, J b] (cls I N F ++ T) (w2) (none) := by
  unfold Sd
  refine sp_of (ls := [some (.ref 20), some (J p), some (J h), some (J b), none]) (by decide) (nle rfl) rfl rfl ?_
  refine v_iload_n (dec_of DX2_takeHeight 0 rfl) rfl ?_
  refine vi_const (dec_of DX2_takeHeight 1 rfl) ?_
  refine vi_icmp_eq (tgt := 10) (dec_of DX2_takeHeight 2 rfl) (by decide) (by first | omega | exact bnd_r _ _ | exact hF _ _ | exact hI _ | exact hG _ _ | exact hK _ | (simp [uN] <;> omega)) (by first | omega | exact bnd_r _ _ | exact hF _ _ | exact hI _ | exact hG _ _ | exact hK _ | (simp [uN] <;> omega)) (fun c2 => ?_) (fun c2 => ?_)
  · refine vi_const (dec_of DX2_takeHeight 6 rfl) ?_
    refine v_goto (tgt := 15) (dec_of DX2_takeHeight 7 rfl) (by decide) ?_
    refine v_istore (dec_of DX2_takeHeight 9 rfl) (by decide) ?_
    dsimp only [List.set]
    refine v_iload_n (dec_of DX2_takeHeight 10 rfl) rfl ?_
    refine vi_bi (dec_of DX2_takeHeight 11 rfl) (by decide) ?_
    refine vi_icmp_ne (tgt := 33) (dec_of DX2_takeHeight 12 rfl) (by decide) (by first | omega | exact bnd_r _ _ | exact hF _ _ | exact hI _ | exact hG _ _ | exact hK _ | (simp [uN] <;> omega)) (by first | omega | exact bnd_r _ _ | exact hF _ _ | exact hI _ | exact hG _ _ | exact hK _ | (simp [uN] <;> omega)) (fun c20 => ?_) (fun c20 => absurd c20 (by omega))
    refine v_iload_n (dec_of DX2_takeHeight 19 rfl) rfl ?_
    refine vi_bi (dec_of DX2_takeHeight 20 rfl) (by decide) ?_
    refine vi_icmp_ne (tgt := 49) (dec_of DX2_takeHeight 21 rfl) (by decide) (by first | omega | exact bnd_r _ _ | exact hF _ _ | exact hI _ | exact hG _ _ | exact hK _ | (simp [uN] <;> omega)) (by first | omega | exact bnd_r _ _ | exact hF _ _ | exact hI _ | exact hG _ _ | exact hK _ | (simp [uN] <;> omega)) (fun c36 => absurd c36 (by omega)) (fun c36 => ?_)
    refine v_aload_n (dec_of DX2_takeHeight 22 rfl) rfl ?_
    refine v_iload_n (dec_of DX2_takeHeight 23 rfl) rfl ?_
    refine vi_const (dec_of DX2_takeHeight 24 rfl) ?_
    refine v_iload_n (dec_of DX2_takeHeight 25 rfl) rfl ?_
    refine v_V3v (hs) lX2_150 (dec_of DX2_takeHeight 26 rfl) rfl rfl (by decide) (nle rfl) rfl ?_
    refine v_goto (tgt := 85) (dec_of DX2_takeHeight 27 rfl) (by decide) ?_
    exact vi_vret (dec_of DX2_takeHeight 48 rfl) rfl ⟨by decide, by decide⟩ (⟨rfl, rfl⟩)
  · refine v_iload_n (dec_of DX2_takeHeight 3 rfl) rfl ?_
    refine vi_const (dec_of DX2_takeHeight 4 rfl) ?_
    refine vi_icmp_ne (tgt := 14) (dec_of DX2_takeHeight 5 rfl) (by decide) (by first | omega | exact bnd_r _ _ | exact hF _ _ | exact hI _ | exact hG _ _ | exact hK _ | (simp [uN] <;> omega)) (by first | omega | exact bnd_r _ _ | exact hF _ _ | exact hI _ | exact hG _ _ | exact hK _ | (simp [uN] <;> omega)) (fun c7 => ?_) (fun c7 => ?_)
    · refine vi_const (dec_of DX2_takeHeight 8 rfl) ?_
      refine v_istore (dec_of DX2_takeHeight 9 rfl) (by decide) ?_
      dsimp only [List.set]
      refine v_iload_n (dec_of DX2_takeHeight 10 rfl) rfl ?_
      refine vi_bi (dec_of DX2_takeHeight 11 rfl) (by decide) ?_
      refine vi_icmp_ne (tgt := 33) (dec_of DX2_takeHeight 12 rfl) (by decide) (by first | omega | exact bnd_r _ _ | exact hF _ _ | exact hI _ | exact hG _ _ | exact hK _ | (simp [uN] <;> omega)) (by first | omega | exact bnd_r _ _ | exact hF _ _ | exact hI _ | exact hG _ _ | exact hK _ | (simp [uN] <;> omega)) (fun c20 => ?_) (fun c20 => absurd c20 (by omega))
      refine v_iload_n (dec_of DX2_takeHeight 19 rfl) rfl ?_
      refine vi_bi (dec_of DX2_takeHeight 20 rfl) (by decide) ?_
      refine vi_icmp_ne (tgt := 49) (dec_of DX2_takeHeight 21 rfl) (by decide) (by first | omega | exact bnd_r _ _ | exact hF _ _ | exact hI _ | exact hG _ _ | exact hK _ | (simp [uN] <;> omega)) (by first | omega | exact bnd_r _ _ | exact hF _ _ | exact hI _ | exact hG _ _ | exact hK _ | (simp [uN] <;> omega)) (fun c36 => absurd c36 (by omega)) (fun c36 => ?_)
      refine v_aload_n (dec_of DX2_takeHeight 22 rfl) rfl ?_
      refine v_iload_n (dec_of DX2_takeHeight 23 rfl) rfl ?_
      refine vi_const (dec_of DX2_takeHeight 24 rfl) ?_
      refine v_iload_n (dec_of DX2_takeHeight 25 rfl) rfl ?_
      refine v_V3v (hs) lX2_150 (dec_of DX2_takeHeight 26 rfl) rfl rfl (by decide) (nle rfl) rfl ?_
      refine v_goto (tgt := 85) (dec_of DX2_takeHeight 27 rfl) (by decide) ?_
      exact vi_vret (dec_of DX2_takeHeight 48 rfl) rfl ⟨by decide, by decide⟩ (⟨rfl, rfl⟩)
    · refine vi_const (dec_of DX2_takeHeight 6 rfl) ?_
      refine v_goto (tgt := 15) (dec_of DX2_takeHeight 7 rfl) (by decide) ?_
      refine v_istore (dec_of DX2_takeHeight 9 rfl) (by decide) ?_
      dsimp only [List.set]
      refine v_iload_n (dec_of DX2_takeHeight 10 rfl) rfl ?_
      refine vi_bi (dec_of DX2_takeHeight 11 rfl) (by decide) ?_
      refine vi_icmp_ne (tgt := 33) (dec_of DX2_takeHeight 12 rfl) (by decide) (by first | omega | exact bnd_r _ _ | exact hF _ _ | exact hI _ | exact hG _ _ | exact hK _ | (simp [uN] <;> omega)) (by first | omega | exact bnd_r _ _ | exact hF _ _ | exact hI _ | exact hG _ _ | exact hK _ | (simp [uN] <;> omega)) (fun c20 => ?_) (fun c20 => absurd c20 (by omega))
      refine v_iload_n (dec_of DX2_takeHeight 19 rfl) rfl ?_
      refine vi_bi (dec_of DX2_takeHeight 20 rfl) (by decide) ?_
      refine vi_icmp_ne (tgt := 49) (dec_of DX2_takeHeight 21 rfl) (by decide) (by first | omega | exact bnd_r _ _ | exact hF _ _ | exact hI _ | exact hG _ _ | exact hK _ | (simp [uN] <;> omega)) (by first | omega | exact bnd_r _ _ | exact hF _ _ | exact hI _ | exact hG _ _ | exact hK _ | (simp [uN] <;> omega)) (fun c36 => absurd c36 (by omega)) (fun c36 => ?_)
      refine v_aload_n (dec_of DX2_takeHeight 22 rfl) rfl ?_
      refine v_iload_n (dec_of DX2_takeHeight 23 rfl) rfl ?_
      refine vi_const (dec_of DX2_takeHeight 24 rfl) ?_
      refine v_iload_n (dec_of DX2_takeHeight 25 rfl) rfl ?_
      refine v_V3v (hs) lX2_150 (dec_of DX2_takeHeight 26 rfl) rfl rfl (by decide) (nle rfl) rfl ?_
      refine v_goto (tgt := 85) (dec_of DX2_takeHeight 27 rfl) (by decide) ?_
      exact vi_vret (dec_of DX2_takeHeight 48 rfl) rfl ⟨by decide, by decide⟩ (⟨rfl, rfl⟩)
set_option maxRecDepth 100000 in
set_option maxHeartbeats 4000000 in
theorem k_h_clef {T : XW} {I N : Nat → Int} {F : Nat → Int → Int} {w2 : XW} {p h b : Int} (hh : 0 ≤ h ∧ h ≤ 12) (hb : -1 ≤ b ∧ b < 256) (hc : (h = 2 ∨ h = 5) ∧ 49 ≤ b ∧ b ≤ 52) (hs : Sd (rm 2 48 0 0) mX2_takeClef [.ref 20, J p, J h, J (b - 48)] (cls I N F ++ T) w2 none) : Sd (rm 3 74 0 0) mX2_takeHeight [.ref 20, J p, J h, J b] (cls I N F ++ T) (w2) (none) := by
  unfold Sd
  refine sp_of (ls := [some (.ref 20), some (J p), some (J h), some (J b), none]) (by decide) (nle rfl) rfl rfl ?_
  refine v_iload_n (dec_of DX2_takeHeight 0 rfl) rfl ?_
  refine vi_const (dec_of DX2_takeHeight 1 rfl) ?_
  refine vi_icmp_eq (tgt := 10) (dec_of DX2_takeHeight 2 rfl) (by decide) (by first | omega | exact bnd_r _ _ | exact hF _ _ | exact hI _ | exact hG _ _ | exact hK _ | (simp [uN] <;> omega)) (by first | omega | exact bnd_r _ _ | exact hF _ _ | exact hI _ | exact hG _ _ | exact hK _ | (simp [uN] <;> omega)) (fun c2 => ?_) (fun c2 => ?_)
  · refine vi_const (dec_of DX2_takeHeight 6 rfl) ?_
    refine v_goto (tgt := 15) (dec_of DX2_takeHeight 7 rfl) (by decide) ?_
    refine v_istore (dec_of DX2_takeHeight 9 rfl) (by decide) ?_
    dsimp only [List.set]
    refine v_iload_n (dec_of DX2_takeHeight 10 rfl) rfl ?_
    refine vi_bi (dec_of DX2_takeHeight 11 rfl) (by decide) ?_
    refine vi_icmp_ne (tgt := 33) (dec_of DX2_takeHeight 12 rfl) (by decide) (by first | omega | exact bnd_r _ _ | exact hF _ _ | exact hI _ | exact hG _ _ | exact hK _ | (simp [uN] <;> omega)) (by first | omega | exact bnd_r _ _ | exact hF _ _ | exact hI _ | exact hG _ _ | exact hK _ | (simp [uN] <;> omega)) (fun c20 => ?_) (fun c20 => absurd c20 (by omega))
    refine v_iload_n (dec_of DX2_takeHeight 19 rfl) rfl ?_
    refine vi_bi (dec_of DX2_takeHeight 20 rfl) (by decide) ?_
    refine vi_icmp_ne (tgt := 49) (dec_of DX2_takeHeight 21 rfl) (by decide) (by first | omega | exact bnd_r _ _ | exact hF _ _ | exact hI _ | exact hG _ _ | exact hK _ | (simp [uN] <;> omega)) (by first | omega | exact bnd_r _ _ | exact hF _ _ | exact hI _ | exact hG _ _ | exact hK _ | (simp [uN] <;> omega)) (fun c36 => ?_) (fun c36 => absurd c36 (by omega))
    refine v_iload (dec_of DX2_takeHeight 28 rfl) rfl ?_
    refine vi_if_eq (tgt := 79) (dec_of DX2_takeHeight 29 rfl) (by decide) (by first | omega | exact bnd_r _ _ | exact hF _ _ | exact hI _ | exact hG _ _ | exact hK _ | (simp [uN] <;> omega)) (fun c51 => absurd c51 (by omega)) (fun c51 => ?_)
    refine v_iload_n (dec_of DX2_takeHeight 30 rfl) rfl ?_
    refine vi_bi (dec_of DX2_takeHeight 31 rfl) (by decide) ?_
    refine vi_icmp_lt (tgt := 79) (dec_of DX2_takeHeight 32 rfl) (by decide) (by first | omega | exact bnd_r _ _ | exact hF _ _ | exact hI _ | exact hG _ _ | exact hK _ | (simp [uN] <;> omega)) (by first | omega | exact bnd_r _ _ | exact hF _ _ | exact hI _ | exact hG _ _ | exact hK _ | (simp [uN] <;> omega)) (fun c57 => absurd c57 (by omega)) (fun c57 => ?_)
    refine v_iload_n (dec_of DX2_takeHeight 33 rfl) rfl ?_
    refine vi_bi (dec_of DX2_takeHeight 34 rfl) (by decide) ?_
    refine vi_icmp_gt (tgt := 79) (dec_of DX2_takeHeight 35 rfl) (by decide) (by first | omega | exact bnd_r _ _ | exact hF _ _ | exact hI _ | exact hG _ _ | exact hK _ | (simp [uN] <;> omega)) (by first | omega | exact bnd_r _ _ | exact hF _ _ | exact hI _ | exact hG _ _ | exact hK _ | (simp [uN] <;> omega)) (fun c63 => absurd c63 (by omega)) (fun c63 => ?_)
    refine v_aload_n (dec_of DX2_takeHeight 36 rfl) rfl ?_
    refine v_iload_n (dec_of DX2_takeHeight 37 rfl) rfl ?_
    refine v_iload_n (dec_of DX2_takeHeight 38 rfl) rfl ?_
    refine v_iload_n (dec_of DX2_takeHeight 39 rfl) rfl ?_
    refine vi_bi (dec_of DX2_takeHeight 40 rfl) (by decide) ?_
    refine vi_sub (dec_of DX2_takeHeight 41 rfl) ?_
    refine v_V3v (hs) lX2_153 (dec_of DX2_takeHeight 42 rfl) rfl rfl (by decide) (nle rfl) rfl ?_
    refine v_goto (tgt := 85) (dec_of DX2_takeHeight 43 rfl) (by decide) ?_
    exact vi_vret (dec_of DX2_takeHeight 48 rfl) rfl ⟨by decide, by decide⟩ (⟨rfl, rfl⟩)
  · refine v_iload_n (dec_of DX2_takeHeight 3 rfl) rfl ?_
    refine vi_const (dec_of DX2_takeHeight 4 rfl) ?_
    refine vi_icmp_ne (tgt := 14) (dec_of DX2_takeHeight 5 rfl) (by decide) (by first | omega | exact bnd_r _ _ | exact hF _ _ | exact hI _ | exact hG _ _ | exact hK _ | (simp [uN] <;> omega)) (by first | omega | exact bnd_r _ _ | exact hF _ _ | exact hI _ | exact hG _ _ | exact hK _ | (simp [uN] <;> omega)) (fun c7 => absurd c7 (by omega)) (fun c7 => ?_)
    refine vi_const (dec_of DX2_takeHeight 6 rfl) ?_
    refine v_goto (tgt := 15) (dec_of DX2_takeHeight 7 rfl) (by decide) ?_
    refine v_istore (dec_of DX2_takeHeight 9 rfl) (by decide) ?_
    dsimp only [List.set]
    refine v_iload_n (dec_of DX2_takeHeight 10 rfl) rfl ?_
    refine vi_bi (dec_of DX2_takeHeight 11 rfl) (by decide) ?_
    refine vi_icmp_ne (tgt := 33) (dec_of DX2_takeHeight 12 rfl) (by decide) (by first | omega | exact bnd_r _ _ | exact hF _ _ | exact hI _ | exact hG _ _ | exact hK _ | (simp [uN] <;> omega)) (by first | omega | exact bnd_r _ _ | exact hF _ _ | exact hI _ | exact hG _ _ | exact hK _ | (simp [uN] <;> omega)) (fun c20 => ?_) (fun c20 => absurd c20 (by omega))
    refine v_iload_n (dec_of DX2_takeHeight 19 rfl) rfl ?_
    refine vi_bi (dec_of DX2_takeHeight 20 rfl) (by decide) ?_
    refine vi_icmp_ne (tgt := 49) (dec_of DX2_takeHeight 21 rfl) (by decide) (by first | omega | exact bnd_r _ _ | exact hF _ _ | exact hI _ | exact hG _ _ | exact hK _ | (simp [uN] <;> omega)) (by first | omega | exact bnd_r _ _ | exact hF _ _ | exact hI _ | exact hG _ _ | exact hK _ | (simp [uN] <;> omega)) (fun c36 => ?_) (fun c36 => absurd c36 (by omega))
    refine v_iload (dec_of DX2_takeHeight 28 rfl) rfl ?_
    refine vi_if_eq (tgt := 79) (dec_of DX2_takeHeight 29 rfl) (by decide) (by first | omega | exact bnd_r _ _ | exact hF _ _ | exact hI _ | exact hG _ _ | exact hK _ | (simp [uN] <;> omega)) (fun c51 => absurd c51 (by omega)) (fun c51 => ?_)
    refine v_iload_n (dec_of DX2_takeHeight 30 rfl) rfl ?_
    refine vi_bi (dec_of DX2_takeHeight 31 rfl) (by decide) ?_
    refine vi_icmp_lt (tgt := 79) (dec_of DX2_takeHeight 32 rfl) (by decide) (by first | omega | exact bnd_r _ _ | exact hF _ _ | exact hI _ | exact hG _ _ | exact hK _ | (simp [uN] <;> omega)) (by first | omega | exact bnd_r _ _ | exact hF _ _ | exact hI _ | exact hG _ _ | exact hK _ | (simp [uN] <;> omega)) (fun c57 => absurd c57 (by omega)) (fun c57 => ?_)
    refine v_iload_n (dec_of DX2_takeHeight 33 rfl) rfl ?_
    refine vi_bi (dec_of DX2_takeHeight 34 rfl) (by decide) ?_
    refine vi_icmp_gt (tgt := 79) (dec_of DX2_takeHeight 35 rfl) (by decide) (by first | omega | exact bnd_r _ _ | exact hF _ _ | exact hI _ | exact hG _ _ | exact hK _ | (simp [uN] <;> omega)) (by first | omega | exact bnd_r _ _ | exact hF _ _ | exact hI _ | exact hG _ _ | exact hK _ | (simp [uN] <;> omega)) (fun c63 => absurd c63 (by omega)) (fun c63 => ?_)
    refine v_aload_n (dec_of DX2_takeHeight 36 rfl) rfl ?_
    refine v_iload_n (dec_of DX2_takeHeight 37 rfl) rfl ?_
    refine v_iload_n (dec_of DX2_takeHeight 38 rfl) rfl ?_
    refine v_iload_n (dec_of DX2_takeHeight 39 rfl) rfl ?_
    refine vi_bi (dec_of DX2_takeHeight 40 rfl) (by decide) ?_
    refine vi_sub (dec_of DX2_takeHeight 41 rfl) ?_
    refine v_V3v (hs) lX2_153 (dec_of DX2_takeHeight 42 rfl) rfl rfl (by decide) (nle rfl) rfl ?_
    refine v_goto (tgt := 85) (dec_of DX2_takeHeight 43 rfl) (by decide) ?_
    exact vi_vret (dec_of DX2_takeHeight 48 rfl) rfl ⟨by decide, by decide⟩ (⟨rfl, rfl⟩)
set_option maxRecDepth 100000 in
set_option maxHeartbeats 4000000 in
theorem k_h_note {T : XW} {I N : Nat → Int} {F : Nat → Int → Int} {w2 : XW} {p h b : Int} (hh : 0 ≤ h ∧ h ≤ 12) (hb : -1 ≤ b ∧ b < 256) (hc : b ≠ 120 ∧ b ≠ 121 ∧ ¬ ((h = 2 ∨ h = 5) ∧ 49 ≤ b ∧ b ≤ 52)) (hs : Sd (rm 2 48 0 0) mX2_takeNote [.ref 20, J p, J h] (cls I N F ++ T) w2 none) : Sd (rm 3 74 0 0) mX2_takeHeight [.ref 20, J p, J h, J b] (cls I N F ++ T) (w2) (none) := by
  unfold Sd
  refine sp_of (ls := [some (.ref 20), some (J p), some (J h), some (J b), none]) (by decide) (nle rfl) rfl rfl ?_
  refine v_iload_n (dec_of DX2_takeHeight 0 rfl) rfl ?_
  refine vi_const (dec_of DX2_takeHeight 1 rfl) ?_
  refine vi_icmp_eq (tgt := 10) (dec_of DX2_takeHeight 2 rfl) (by decide) (by first | omega | exact bnd_r _ _ | exact hF _ _ | exact hI _ | exact hG _ _ | exact hK _ | (simp [uN] <;> omega)) (by first | omega | exact bnd_r _ _ | exact hF _ _ | exact hI _ | exact hG _ _ | exact hK _ | (simp [uN] <;> omega)) (fun c2 => ?_) (fun c2 => ?_)
  · refine vi_const (dec_of DX2_takeHeight 6 rfl) ?_
    refine v_goto (tgt := 15) (dec_of DX2_takeHeight 7 rfl) (by decide) ?_
    refine v_istore (dec_of DX2_takeHeight 9 rfl) (by decide) ?_
    dsimp only [List.set]
    refine v_iload_n (dec_of DX2_takeHeight 10 rfl) rfl ?_
    refine vi_bi (dec_of DX2_takeHeight 11 rfl) (by decide) ?_
    refine vi_icmp_ne (tgt := 33) (dec_of DX2_takeHeight 12 rfl) (by decide) (by first | omega | exact bnd_r _ _ | exact hF _ _ | exact hI _ | exact hG _ _ | exact hK _ | (simp [uN] <;> omega)) (by first | omega | exact bnd_r _ _ | exact hF _ _ | exact hI _ | exact hG _ _ | exact hK _ | (simp [uN] <;> omega)) (fun c20 => ?_) (fun c20 => absurd c20 (by omega))
    refine v_iload_n (dec_of DX2_takeHeight 19 rfl) rfl ?_
    refine vi_bi (dec_of DX2_takeHeight 20 rfl) (by decide) ?_
    refine vi_icmp_ne (tgt := 49) (dec_of DX2_takeHeight 21 rfl) (by decide) (by first | omega | exact bnd_r _ _ | exact hF _ _ | exact hI _ | exact hG _ _ | exact hK _ | (simp [uN] <;> omega)) (by first | omega | exact bnd_r _ _ | exact hF _ _ | exact hI _ | exact hG _ _ | exact hK _ | (simp [uN] <;> omega)) (fun c36 => ?_) (fun c36 => absurd c36 (by omega))
    refine v_iload (dec_of DX2_takeHeight 28 rfl) rfl ?_
    refine vi_if_eq (tgt := 79) (dec_of DX2_takeHeight 29 rfl) (by decide) (by first | omega | exact bnd_r _ _ | exact hF _ _ | exact hI _ | exact hG _ _ | exact hK _ | (simp [uN] <;> omega)) (fun c51 => ?_) (fun c51 => ?_)
    · refine v_aload_n (dec_of DX2_takeHeight 44 rfl) rfl ?_
      refine v_iload_n (dec_of DX2_takeHeight 45 rfl) rfl ?_
      refine v_iload_n (dec_of DX2_takeHeight 46 rfl) rfl ?_
      refine v_V2v (hs) lX2_156 (dec_of DX2_takeHeight 47 rfl) rfl rfl (by decide) (nle rfl) rfl ?_
      exact vi_vret (dec_of DX2_takeHeight 48 rfl) rfl ⟨by decide, by decide⟩ (⟨rfl, rfl⟩)
    · refine v_iload_n (dec_of DX2_takeHeight 30 rfl) rfl ?_
      refine vi_bi (dec_of DX2_takeHeight 31 rfl) (by decide) ?_
      refine vi_icmp_lt (tgt := 79) (dec_of DX2_takeHeight 32 rfl) (by decide) (by first | omega | exact bnd_r _ _ | exact hF _ _ | exact hI _ | exact hG _ _ | exact hK _ | (simp [uN] <;> omega)) (by first | omega | exact bnd_r _ _ | exact hF _ _ | exact hI _ | exact hG _ _ | exact hK _ | (simp [uN] <;> omega)) (fun c57 => ?_) (fun c57 => ?_)
      · refine v_aload_n (dec_of DX2_takeHeight 44 rfl) rfl ?_
        refine v_iload_n (dec_of DX2_takeHeight 45 rfl) rfl ?_
        refine v_iload_n (dec_of DX2_takeHeight 46 rfl) rfl ?_
        refine v_V2v (hs) lX2_156 (dec_of DX2_takeHeight 47 rfl) rfl rfl (by decide) (nle rfl) rfl ?_
        exact vi_vret (dec_of DX2_takeHeight 48 rfl) rfl ⟨by decide, by decide⟩ (⟨rfl, rfl⟩)
      · refine v_iload_n (dec_of DX2_takeHeight 33 rfl) rfl ?_
        refine vi_bi (dec_of DX2_takeHeight 34 rfl) (by decide) ?_
        refine vi_icmp_gt (tgt := 79) (dec_of DX2_takeHeight 35 rfl) (by decide) (by first | omega | exact bnd_r _ _ | exact hF _ _ | exact hI _ | exact hG _ _ | exact hK _ | (simp [uN] <;> omega)) (by first | omega | exact bnd_r _ _ | exact hF _ _ | exact hI _ | exact hG _ _ | exact hK _ | (simp [uN] <;> omega)) (fun c63 => ?_) (fun c63 => ?_)
        · refine v_aload_n (dec_of DX2_takeHeight 44 rfl) rfl ?_
          refine v_iload_n (dec_of DX2_takeHeight 45 rfl) rfl ?_
          refine v_iload_n (dec_of DX2_takeHeight 46 rfl) rfl ?_
          refine v_V2v (hs) lX2_156 (dec_of DX2_takeHeight 47 rfl) rfl rfl (by decide) (nle rfl) rfl ?_
          exact vi_vret (dec_of DX2_takeHeight 48 rfl) rfl ⟨by decide, by decide⟩ (⟨rfl, rfl⟩)
        · exact absurd hc (by omega)
  · refine v_iload_n (dec_of DX2_takeHeight 3 rfl) rfl ?_
    refine vi_const (dec_of DX2_takeHeight 4 rfl) ?_
    refine vi_icmp_ne (tgt := 14) (dec_of DX2_takeHeight 5 rfl) (by decide) (by first | omega | exact bnd_r _ _ | exact hF _ _ | exact hI _ | exact hG _ _ | exact hK _ | (simp [uN] <;> omega)) (by first | omega | exact bnd_r _ _ | exact hF _ _ | exact hI _ | exact hG _ _ | exact hK _ | (simp [uN] <;> omega)) (fun c7 => ?_) (fun c7 => ?_)
    · refine vi_const (dec_of DX2_takeHeight 8 rfl) ?_
      refine v_istore (dec_of DX2_takeHeight 9 rfl) (by decide) ?_
      dsimp only [List.set]
      refine v_iload_n (dec_of DX2_takeHeight 10 rfl) rfl ?_
      refine vi_bi (dec_of DX2_takeHeight 11 rfl) (by decide) ?_
      refine vi_icmp_ne (tgt := 33) (dec_of DX2_takeHeight 12 rfl) (by decide) (by first | omega | exact bnd_r _ _ | exact hF _ _ | exact hI _ | exact hG _ _ | exact hK _ | (simp [uN] <;> omega)) (by first | omega | exact bnd_r _ _ | exact hF _ _ | exact hI _ | exact hG _ _ | exact hK _ | (simp [uN] <;> omega)) (fun c20 => ?_) (fun c20 => absurd c20 (by omega))
      refine v_iload_n (dec_of DX2_takeHeight 19 rfl) rfl ?_
      refine vi_bi (dec_of DX2_takeHeight 20 rfl) (by decide) ?_
      refine vi_icmp_ne (tgt := 49) (dec_of DX2_takeHeight 21 rfl) (by decide) (by first | omega | exact bnd_r _ _ | exact hF _ _ | exact hI _ | exact hG _ _ | exact hK _ | (simp [uN] <;> omega)) (by first | omega | exact bnd_r _ _ | exact hF _ _ | exact hI _ | exact hG _ _ | exact hK _ | (simp [uN] <;> omega)) (fun c36 => ?_) (fun c36 => absurd c36 (by omega))
      refine v_iload (dec_of DX2_takeHeight 28 rfl) rfl ?_
      refine vi_if_eq (tgt := 79) (dec_of DX2_takeHeight 29 rfl) (by decide) (by first | omega | exact bnd_r _ _ | exact hF _ _ | exact hI _ | exact hG _ _ | exact hK _ | (simp [uN] <;> omega)) (fun c51 => ?_) (fun c51 => ?_)
      · refine v_aload_n (dec_of DX2_takeHeight 44 rfl) rfl ?_
        refine v_iload_n (dec_of DX2_takeHeight 45 rfl) rfl ?_
        refine v_iload_n (dec_of DX2_takeHeight 46 rfl) rfl ?_
        refine v_V2v (hs) lX2_156 (dec_of DX2_takeHeight 47 rfl) rfl rfl (by decide) (nle rfl) rfl ?_
        exact vi_vret (dec_of DX2_takeHeight 48 rfl) rfl ⟨by decide, by decide⟩ (⟨rfl, rfl⟩)
      · refine v_iload_n (dec_of DX2_takeHeight 30 rfl) rfl ?_
        refine vi_bi (dec_of DX2_takeHeight 31 rfl) (by decide) ?_
        refine vi_icmp_lt (tgt := 79) (dec_of DX2_takeHeight 32 rfl) (by decide) (by first | omega | exact bnd_r _ _ | exact hF _ _ | exact hI _ | exact hG _ _ | exact hK _ | (simp [uN] <;> omega)) (by first | omega | exact bnd_r _ _ | exact hF _ _ | exact hI _ | exact hG _ _ | exact hK _ | (simp [uN] <;> omega)) (fun c57 => ?_) (fun c57 => ?_)
        · refine v_aload_n (dec_of DX2_takeHeight 44 rfl) rfl ?_
          refine v_iload_n (dec_of DX2_takeHeight 45 rfl) rfl ?_
          refine v_iload_n (dec_of DX2_takeHeight 46 rfl) rfl ?_
          refine v_V2v (hs) lX2_156 (dec_of DX2_takeHeight 47 rfl) rfl rfl (by decide) (nle rfl) rfl ?_
          exact vi_vret (dec_of DX2_takeHeight 48 rfl) rfl ⟨by decide, by decide⟩ (⟨rfl, rfl⟩)
        · refine v_iload_n (dec_of DX2_takeHeight 33 rfl) rfl ?_
          refine vi_bi (dec_of DX2_takeHeight 34 rfl) (by decide) ?_
          refine vi_icmp_gt (tgt := 79) (dec_of DX2_takeHeight 35 rfl) (by decide) (by first | omega | exact bnd_r _ _ | exact hF _ _ | exact hI _ | exact hG _ _ | exact hK _ | (simp [uN] <;> omega)) (by first | omega | exact bnd_r _ _ | exact hF _ _ | exact hI _ | exact hG _ _ | exact hK _ | (simp [uN] <;> omega)) (fun c63 => ?_) (fun c63 => ?_)
          · refine v_aload_n (dec_of DX2_takeHeight 44 rfl) rfl ?_
            refine v_iload_n (dec_of DX2_takeHeight 45 rfl) rfl ?_
            refine v_iload_n (dec_of DX2_takeHeight 46 rfl) rfl ?_
            refine v_V2v (hs) lX2_156 (dec_of DX2_takeHeight 47 rfl) rfl rfl (by decide) (nle rfl) rfl ?_
            exact vi_vret (dec_of DX2_takeHeight 48 rfl) rfl ⟨by decide, by decide⟩ (⟨rfl, rfl⟩)
          · exact absurd hc (by omega)
    · refine vi_const (dec_of DX2_takeHeight 6 rfl) ?_
      refine v_goto (tgt := 15) (dec_of DX2_takeHeight 7 rfl) (by decide) ?_
      refine v_istore (dec_of DX2_takeHeight 9 rfl) (by decide) ?_
      dsimp only [List.set]
      refine v_iload_n (dec_of DX2_takeHeight 10 rfl) rfl ?_
      refine vi_bi (dec_of DX2_takeHeight 11 rfl) (by decide) ?_
      refine vi_icmp_ne (tgt := 33) (dec_of DX2_takeHeight 12 rfl) (by decide) (by first | omega | exact bnd_r _ _ | exact hF _ _ | exact hI _ | exact hG _ _ | exact hK _ | (simp [uN] <;> omega)) (by first | omega | exact bnd_r _ _ | exact hF _ _ | exact hI _ | exact hG _ _ | exact hK _ | (simp [uN] <;> omega)) (fun c20 => ?_) (fun c20 => absurd c20 (by omega))
      refine v_iload_n (dec_of DX2_takeHeight 19 rfl) rfl ?_
      refine vi_bi (dec_of DX2_takeHeight 20 rfl) (by decide) ?_
      refine vi_icmp_ne (tgt := 49) (dec_of DX2_takeHeight 21 rfl) (by decide) (by first | omega | exact bnd_r _ _ | exact hF _ _ | exact hI _ | exact hG _ _ | exact hK _ | (simp [uN] <;> omega)) (by first | omega | exact bnd_r _ _ | exact hF _ _ | exact hI _ | exact hG _ _ | exact hK _ | (simp [uN] <;> omega)) (fun c36 => ?_) (fun c36 => absurd c36 (by omega))
      refine v_iload (dec_of DX2_takeHeight 28 rfl) rfl ?_
      refine vi_if_eq (tgt := 79) (dec_of DX2_takeHeight 29 rfl) (by decide) (by first | omega | exact bnd_r _ _ | exact hF _ _ | exact hI _ | exact hG _ _ | exact hK _ | (simp [uN] <;> omega)) (fun c51 => ?_) (fun c51 => ?_)
      · refine v_aload_n (dec_of DX2_takeHeight 44 rfl) rfl ?_
        refine v_iload_n (dec_of DX2_takeHeight 45 rfl) rfl ?_
        refine v_iload_n (dec_of DX2_takeHeight 46 rfl) rfl ?_
        refine v_V2v (hs) lX2_156 (dec_of DX2_takeHeight 47 rfl) rfl rfl (by decide) (nle rfl) rfl ?_
        exact vi_vret (dec_of DX2_takeHeight 48 rfl) rfl ⟨by decide, by decide⟩ (⟨rfl, rfl⟩)
      · refine v_iload_n (dec_of DX2_takeHeight 30 rfl) rfl ?_
        refine vi_bi (dec_of DX2_takeHeight 31 rfl) (by decide) ?_
        refine vi_icmp_lt (tgt := 79) (dec_of DX2_takeHeight 32 rfl) (by decide) (by first | omega | exact bnd_r _ _ | exact hF _ _ | exact hI _ | exact hG _ _ | exact hK _ | (simp [uN] <;> omega)) (by first | omega | exact bnd_r _ _ | exact hF _ _ | exact hI _ | exact hG _ _ | exact hK _ | (simp [uN] <;> omega)) (fun c57 => ?_) (fun c57 => ?_)
        · refine v_aload_n (dec_of DX2_takeHeight 44 rfl) rfl ?_
          refine v_iload_n (dec_of DX2_takeHeight 45 rfl) rfl ?_
          refine v_iload_n (dec_of DX2_takeHeight 46 rfl) rfl ?_
          refine v_V2v (hs) lX2_156 (dec_of DX2_takeHeight 47 rfl) rfl rfl (by decide) (nle rfl) rfl ?_
          exact vi_vret (dec_of DX2_takeHeight 48 rfl) rfl ⟨by decide, by decide⟩ (⟨rfl, rfl⟩)
        · refine v_iload_n (dec_of DX2_takeHeight 33 rfl) rfl ?_
          refine vi_bi (dec_of DX2_takeHeight 34 rfl) (by decide) ?_
          refine vi_icmp_gt (tgt := 79) (dec_of DX2_takeHeight 35 rfl) (by decide) (by first | omega | exact bnd_r _ _ | exact hF _ _ | exact hI _ | exact hG _ _ | exact hK _ | (simp [uN] <;> omega)) (by first | omega | exact bnd_r _ _ | exact hF _ _ | exact hI _ | exact hG _ _ | exact hK _ | (simp [uN] <;> omega)) (fun c63 => ?_) (fun c63 => ?_)
          · refine v_aload_n (dec_of DX2_takeHeight 44 rfl) rfl ?_
            refine v_iload_n (dec_of DX2_takeHeight 45 rfl) rfl ?_
            refine v_iload_n (dec_of DX2_takeHeight 46 rfl) rfl ?_
            refine v_V2v (hs) lX2_156 (dec_of DX2_takeHeight 47 rfl) rfl rfl (by decide) (nle rfl) rfl ?_
            exact vi_vret (dec_of DX2_takeHeight 48 rfl) rfl ⟨by decide, by decide⟩ (⟨rfl, rfl⟩)
          · exact absurd hc (by omega)
