/-! the Writer: a score (printed by wip/tools/gen_c15.py) -/
theorem wLet_len (F : Nat → Int → Int) : ∀ (m : Nat) (j : Int), (wLet F m j).length = m := by
  intro m
  induction m with
  | zero => intro j; rfl
  | succ m ih => intro j; rw [wLet, List.length_cons, ih]
theorem wLet_r {F : Nat → Int → Int} (hF : FR F) : ∀ (m : Nat) (j : Int), ∀ a ∈ wLet F m j, -2147483648 ≤ a ∧ a < 2147483648 := by
  intro m
  induction m with
  | zero => intro j a h; exact absurd h List.not_mem_nil
  | succ m ih =>
    intro j a h
    rcases List.mem_cons.mp h with h | h
    · rw [h]; exact hF 2 j
    · exact ih _ a h
def wLs (F : Nat → Int → Int) (s : Int) : List Int := wLet F (F 3 (s * 9 + 1)).toNat (F 3 (s * 9 + 6))
def wSs (N : Nat → Int) (F : Nat → Int → Int) (s : Int) : List Int := wSgs N F (F 3 (s * 9 + 7) + F 3 (s * 9 + 8)) (F 3 (s * 9 + 8)).toNat (F 3 (s * 9 + 7))
def wBk (N : Nat → Int) (F : Nat → Int → Int) (s : Int) : List Int := if F 3 (s * 9 + 3) = 1 then [40] ++ (wSs N F s ++ [41]) else []
def wBl (F : Nat → Int → Int) (s : Int) : List Int := if 0 < s ∧ ¬ F 3 ((s - 1) * 9 + 0) = F 3 (s * 9 + 0) then [32] else []
def wSy (N : Nat → Int) (F : Nat → Int → Int) (s : Int) : List Int := wBl F s ++ (wLs F s ++ wBk N F s)
def wSc (N : Nat → Int) (F : Nat → Int → Int) : Nat → Int → List Int
  | 0, _ => []
  | m + 1, s => wSy N F s ++ wSc N F m (s + 1)
def sylOK (N : Nat → Int) (F : Nat → Int → Int) (s : Int) : Prop := 0 ≤ F 3 (s * 9 + 6) ∧ 0 ≤ F 3 (s * 9 + 1) ∧ F 3 (s * 9 + 6) + F 3 (s * 9 + 1) ≤ N 2 ∧ (F 3 (s * 9 + 3) = 1 → 0 ≤ F 3 (s * 9 + 7) ∧ 0 ≤ F 3 (s * 9 + 8) ∧ F 3 (s * 9 + 7) + F 3 (s * 9 + 8) ≤ N 8 ∧ ∀ i : Int, F 3 (s * 9 + 7) ≤ i → i < F 3 (s * 9 + 7) + F 3 (s * 9 + 8) → sgnOK N F i)
theorem wSs_ap {N : Nat → Int} {F : Nat → Int → Int} {L : List Int} {s : Int} : wSs (apN N L) (apF N F L) s = wSs N F s := wSgs_ap _ _
theorem wLs_ap {N : Nat → Int} {F : Nat → Int → Int} {L : List Int} {s : Int} : wLs (apF N F L) s = wLs F s := wLet_ap _ _
theorem wBk_ap {N : Nat → Int} {F : Nat → Int → Int} {L : List Int} {s : Int} : wBk (apN N L) (apF N F L) s = wBk N F s := by
  unfold wBk
  rw [wSs_ap]
  rfl
theorem wSy_ap {N : Nat → Int} {F : Nat → Int → Int} {L : List Int} {s : Int} : wSy (apN N L) (apF N F L) s = wSy N F s := by
  unfold wSy
  rw [wLs_ap, wBk_ap]
  rfl
theorem wSc_ap {N : Nat → Int} {F : Nat → Int → Int} {L : List Int} : ∀ (m : Nat) (s : Int), wSc (apN N L) (apF N F L) m s = wSc N F m s := by
  intro m
  induction m with
  | zero => intro s; rfl
  | succ m ih => intro s; rw [wSc, wSc, ih, wSy_ap]
set_option maxRecDepth 100000 in
set_option maxHeartbeats 4000000 in
theorem k_wLs {T : XW} {I N : Nat → Int} {F : Nat → Int → Int} (hF : FR F) (hI : IR I) (hN : NR N) {s : Int} (hs : 0 ≤ s ∧ s < N 3) (h6 : 0 ≤ F 3 (s * 9 + 6)) (h1 : 0 ≤ F 3 (s * 9 + 1)) (h2 : F 3 (s * 9 + 6) + F 3 (s * 9 + 1) ≤ N 2) (hlen : N 1 + ((wLs F s).length : Int) ≤ 1500) : Sd (rm 1 23 0 0) mX7_writeLetters [.ref 5, J s, .ref 3] (cls I N F ++ T) (cls I (apN N (wLs F s)) (apF N F (wLs F s)) ++ T) (none) := by
  unfold Sd
  unfold NR at hN
  refine sp_of (ls := [some (.ref 5), some (J s), some (.ref 3), none, none, none]) (by decide) (nle rfl) rfl rfl ?_
  refine v_aload_n (dec_of DX7_writeLetters 0 rfl) rfl ?_
  refine v_get fX7_13 (dec_of DX7_writeLetters 1 rfl) rfl rfl ?_
  refine v_iload_n (dec_of DX7_writeLetters 2 rfl) rfl ?_
  refine vi_bi (dec_of DX7_writeLetters 3 rfl) (by decide) ?_
  refine v_V2r (c3_get (by first | omega | exact bnd_r _ _ | exact hF _ _ | exact hI _ | exact hG _ _ | exact hK _ | (simp [uN] <;> omega)) (by first | omega | exact bnd_r _ _ | exact hF _ _ | exact hI _ | exact hG _ _ | exact hK _ | (simp [uN] <;> omega)) (by first | omega | exact bnd_r _ _ | exact hF _ _ | exact hI _ | exact hG _ _ | exact hK _ | (simp [uN] <;> omega))) lX7_23 (dec_of DX7_writeLetters 4 rfl) rfl rfl (by decide) (nle rfl) rfl ?_
  refine v_istore_n (dec_of DX7_writeLetters 5 rfl) (by decide) ?_
  dsimp only [List.set]
  refine v_iload_n (dec_of DX7_writeLetters 6 rfl) rfl ?_
  refine v_aload_n (dec_of DX7_writeLetters 7 rfl) rfl ?_
  refine v_get fX7_13 (dec_of DX7_writeLetters 8 rfl) rfl rfl ?_
  refine v_iload_n (dec_of DX7_writeLetters 9 rfl) rfl ?_
  refine vi_const (dec_of DX7_writeLetters 10 rfl) ?_
  refine v_V2r (c3_get (by first | omega | exact bnd_r _ _ | exact hF _ _ | exact hI _ | exact hG _ _ | exact hK _ | (simp [uN] <;> omega)) (by first | omega | exact bnd_r _ _ | exact hF _ _ | exact hI _ | exact hG _ _ | exact hK _ | (simp [uN] <;> omega)) (by first | omega | exact bnd_r _ _ | exact hF _ _ | exact hI _ | exact hG _ _ | exact hK _ | (simp [uN] <;> omega))) lX7_23 (dec_of DX7_writeLetters 11 rfl) rfl rfl (by decide) (nle rfl) rfl ?_
  refine vi_add (dec_of DX7_writeLetters 12 rfl) ?_
  refine v_istore (dec_of DX7_writeLetters 13 rfl) (by decide) ?_
  dsimp only [List.set]
  refine v_iload_n (dec_of DX7_writeLetters 14 rfl) rfl ?_
  refine v_istore (dec_of DX7_writeLetters 15 rfl) (by decide) ?_
  dsimp only [List.set]
  exact k_wl_loop hI (F 3 (s * 9 + 1)).toNat (F 3 (s * 9 + 6)) N F hF (by unfold NR; exact hN) (by omega) (by omega) (by omega) (by rw [wLs, wLet_len] at hlen; omega) ⟨rfl, rfl⟩
set_option maxRecDepth 100000 in
set_option maxHeartbeats 4000000 in
theorem k_wSs {T : XW} {I N : Nat → Int} {F : Nat → Int → Int} (hF : FR F) (hI : IR I) (hN : NR N) {s : Int} (hs : 0 ≤ s ∧ s < N 3) (h7 : 0 ≤ F 3 (s * 9 + 7)) (h8 : 0 ≤ F 3 (s * 9 + 8)) (h2 : F 3 (s * 9 + 7) + F 3 (s * 9 + 8) ≤ N 8) (hk : ∀ i : Int, F 3 (s * 9 + 7) ≤ i → i < F 3 (s * 9 + 7) + F 3 (s * 9 + 8) → sgnOK N F i) (hlen : N 1 + ((wSs N F s).length : Int) ≤ 1500) (hr : ∀ a ∈ wSs N F s, -2147483648 ≤ a ∧ a < 2147483648) : Sd (rm 4 93 0 0) mX7_writeSigns [.ref 5, J s, .ref 3] (cls I N F ++ T) (cls I (apN N (wSs N F s)) (apF N F (wSs N F s)) ++ T) (none) := by
  unfold Sd
  unfold NR at hN
  refine sp_of (ls := [some (.ref 5), some (J s), some (.ref 3), none, none, none]) (by decide) (nle rfl) rfl rfl ?_
  refine v_aload_n (dec_of DX7_writeSigns 0 rfl) rfl ?_
  refine v_get fX7_13 (dec_of DX7_writeSigns 1 rfl) rfl rfl ?_
  refine v_iload_n (dec_of DX7_writeSigns 2 rfl) rfl ?_
  refine vi_bi (dec_of DX7_writeSigns 3 rfl) (by decide) ?_
  refine v_V2r (c3_get (by first | omega | exact bnd_r _ _ | exact hF _ _ | exact hI _ | exact hG _ _ | exact hK _ | (simp [uN] <;> omega)) (by first | omega | exact bnd_r _ _ | exact hF _ _ | exact hI _ | exact hG _ _ | exact hK _ | (simp [uN] <;> omega)) (by first | omega | exact bnd_r _ _ | exact hF _ _ | exact hI _ | exact hG _ _ | exact hK _ | (simp [uN] <;> omega))) lX7_23 (dec_of DX7_writeSigns 4 rfl) rfl rfl (by decide) (nle rfl) rfl ?_
  refine v_istore_n (dec_of DX7_writeSigns 5 rfl) (by decide) ?_
  dsimp only [List.set]
  refine v_iload_n (dec_of DX7_writeSigns 6 rfl) rfl ?_
  refine v_aload_n (dec_of DX7_writeSigns 7 rfl) rfl ?_
  refine v_get fX7_13 (dec_of DX7_writeSigns 8 rfl) rfl rfl ?_
  refine v_iload_n (dec_of DX7_writeSigns 9 rfl) rfl ?_
  refine vi_bi (dec_of DX7_writeSigns 10 rfl) (by decide) ?_
  refine v_V2r (c3_get (by first | omega | exact bnd_r _ _ | exact hF _ _ | exact hI _ | exact hG _ _ | exact hK _ | (simp [uN] <;> omega)) (by first | omega | exact bnd_r _ _ | exact hF _ _ | exact hI _ | exact hG _ _ | exact hK _ | (simp [uN] <;> omega)) (by first | omega | exact bnd_r _ _ | exact hF _ _ | exact hI _ | exact hG _ _ | exact hK _ | (simp [uN] <;> omega))) lX7_23 (dec_of DX7_writeSigns 11 rfl) rfl rfl (by decide) (nle rfl) rfl ?_
  refine vi_add (dec_of DX7_writeSigns 12 rfl) ?_
  refine v_istore (dec_of DX7_writeSigns 13 rfl) (by decide) ?_
  dsimp only [List.set]
  refine v_iload_n (dec_of DX7_writeSigns 14 rfl) rfl ?_
  refine v_istore (dec_of DX7_writeSigns 15 rfl) (by decide) ?_
  dsimp only [List.set]
  exact k_ws_loop hI (F 3 (s * 9 + 8)).toNat (F 3 (s * 9 + 7)) N F hF (by unfold NR; exact hN) (by omega) (by omega) (by omega) hk hlen hr ⟨rfl, rfl⟩
set_option maxRecDepth 100000 in
set_option maxHeartbeats 4000000 in
theorem k_wb {T : XW} {I N : Nat → Int} {F : Nat → Int → Int} (hF : FR F) (hI : IR I) (hN : NR N) {n0 : Nat} {Z : XW → Option Value → Prop} {s x : Int} (hs : 0 ≤ s ∧ s < N 3) (hy : sylOK N F s) (hlen : N 1 + ((wBk N F s).length : Int) ≤ 1500) (hr : ∀ a ∈ wBk N F s, -2147483648 ≤ a ∧ a < 2147483648) (kk : Vd (rm 5 118 0 0) [] mX7_writeScore n0 Z 0 0 93 [some (.ref 5), some (.ref 3), some (J s), some (J x)] [] (cls I (apN N (wBk N F s)) (apF N F (wBk N F s)) ++ T)) : Vd (rm 5 118 0 0) [] mX7_writeScore n0 Z 0 0 60 [some (.ref 5), some (.ref 3), some (J s), some (J x)] [] (cls I N F ++ T) := by
  have hN0 := hN
  unfold NR at hN
  by_cases h3 : F 3 (s * 9 + 3) = 1
  · rw [wBk, if_pos h3] at hlen hr kk
    simp only [List.length_append, List.length_cons, List.length_nil] at hlen
    obtain ⟨q7, q8, q9, q10⟩ := hy.2.2.2 h3
    have hF1 : FR (apF N F [40]) := FRap hF (fun a h => hr a (List.mem_append_left _ h))
    have hN1 : NR (apN N [40]) := NRap hN0 (by simp only [List.length_cons, List.length_nil]; omega)
    refine v_aload_n (dec_of DX7_writeScore 35 rfl) rfl ?_
    refine v_get fX7_13 (dec_of DX7_writeScore 36 rfl) rfl rfl ?_
    refine v_iload_n (dec_of DX7_writeScore 37 rfl) rfl ?_
    refine vi_const (dec_of DX7_writeScore 38 rfl) ?_
    refine v_V2r (c3_get (by first | omega | exact hF _ _) (by first | omega | exact hF _ _) (by first | omega | exact hF _ _)) lX7_23 (dec_of DX7_writeScore 39 rfl) rfl rfl (by decide) (nle rfl) rfl ?_
    refine vi_const (dec_of DX7_writeScore 40 rfl) ?_
    refine vi_icmp_ne (tgt := 93) (dec_of DX7_writeScore 41 rfl) (by decide) (by first | omega | exact hF _ _) (by first | omega | exact hF _ _) (fun c70 => absurd c70 (by omega)) (fun c70 => ?_)
    refine v_aload_n (dec_of DX7_writeScore 42 rfl) rfl ?_
    refine vi_bi (dec_of DX7_writeScore 43 rfl) (by decide) ?_
    refine v_V1r (cw_add (by omega)) lX7_27 (dec_of DX7_writeScore 44 rfl) rfl rfl (by decide) (nle rfl) rfl ?_
    refine v_pop (dec_of DX7_writeScore 45 rfl) rfl ?_
    refine v_aload_n (dec_of DX7_writeScore 46 rfl) rfl ?_
    refine v_iload_n (dec_of DX7_writeScore 47 rfl) rfl ?_
    refine v_aload_n (dec_of DX7_writeScore 48 rfl) rfl ?_
    refine v_S3v (k_wSs (N := apN N [40]) (F := apF N F [40]) hF1 hI hN1 (s := s) (show 0 ≤ s ∧ s < N 3 from hs) q7 q8 q9 (fun i a b => sgnOK_ap (q10 i a b)) (by rw [wSs_ap]; simp only [apN, uN_s, List.length_cons, List.length_nil]; omega) (fun a h => hr a (List.mem_append_right _ (List.mem_append_left _ (by rw [wSs_ap] at h; exact h))))) lX7_37 (dec_of DX7_writeScore 49 rfl) (by decide) (nle rfl) rfl ?_
    rw [wSs_ap]
    refine Vd_w ap2 ?_
    refine v_aload_n (dec_of DX7_writeScore 50 rfl) rfl ?_
    refine vi_bi (dec_of DX7_writeScore 51 rfl) (by decide) ?_
    refine v_V1r (cw_add (by simp only [apN, uN_s, List.length_append, List.length_cons, List.length_nil]; omega)) lX7_27 (dec_of DX7_writeScore 52 rfl) rfl rfl (by decide) (nle rfl) rfl ?_
    refine Vd_w ap2 ?_
    rw [List.append_assoc]
    refine v_pop (dec_of DX7_writeScore 53 rfl) rfl ?_
    exact kk
  · rw [wBk, if_neg h3, ap_nil] at kk
    refine v_aload_n (dec_of DX7_writeScore 35 rfl) rfl ?_
    refine v_get fX7_13 (dec_of DX7_writeScore 36 rfl) rfl rfl ?_
    refine v_iload_n (dec_of DX7_writeScore 37 rfl) rfl ?_
    refine vi_const (dec_of DX7_writeScore 38 rfl) ?_
    refine v_V2r (c3_get (by first | omega | exact hF _ _) (by first | omega | exact hF _ _) (by first | omega | exact hF _ _)) lX7_23 (dec_of DX7_writeScore 39 rfl) rfl rfl (by decide) (nle rfl) rfl ?_
    refine vi_const (dec_of DX7_writeScore 40 rfl) ?_
    refine vi_icmp_ne (tgt := 93) (dec_of DX7_writeScore 41 rfl) (by decide) (by first | omega | exact hF _ _) (by first | omega | exact hF _ _) (fun c70 => ?_) (fun c70 => absurd c70 (by omega))
    exact kk
set_option maxRecDepth 100000 in
set_option maxHeartbeats 4000000 in
theorem k_wlb {T : XW} {I N : Nat → Int} {F : Nat → Int → Int} (hF : FR F) (hI : IR I) (hN : NR N) {n0 : Nat} {Z : XW → Option Value → Prop} {s x : Int} (hs : 0 ≤ s ∧ s < N 3) (hy : sylOK N F s) (hlen : N 1 + (((wLs F s ++ wBk N F s)).length : Int) ≤ 1500) (hr : ∀ a ∈ (wLs F s ++ wBk N F s), -2147483648 ≤ a ∧ a < 2147483648) (kk : Vd (rm 5 118 0 0) [] mX7_writeScore n0 Z 0 0 93 [some (.ref 5), some (.ref 3), some (J s), some (J x)] [] (cls I (apN N (wLs F s ++ wBk N F s)) (apF N F (wLs F s ++ wBk N F s)) ++ T)) : Vd (rm 5 118 0 0) [] mX7_writeScore n0 Z 0 0 54 [some (.ref 5), some (.ref 3), some (J s), some (J x)] [] (cls I N F ++ T) := by
  have hN0 := hN
  unfold NR at hN
  simp only [List.length_append] at hlen
  have hF1 : FR (apF N F (wLs F s)) := FRap hF (fun a h => hr a (List.mem_append_left _ h))
  have hN1 : NR (apN N (wLs F s)) := NRap hN0 (by omega)
  refine v_aload_n (dec_of DX7_writeScore 31 rfl) rfl ?_
  refine v_iload_n (dec_of DX7_writeScore 32 rfl) rfl ?_
  refine v_aload_n (dec_of DX7_writeScore 33 rfl) rfl ?_
  refine v_S3v (k_wLs hF hI hN0 hs hy.1 hy.2.1 hy.2.2.1 (by omega)) lX7_31 (dec_of DX7_writeScore 34 rfl) (by decide) (nle rfl) rfl ?_
  refine k_wb hF1 hI hN1 (show 0 ≤ s ∧ s < N 3 from hs) hy (by rw [wBk_ap]; simp only [apN, uN_s]; omega) (fun a h => hr a (List.mem_append_right _ (by rw [wBk_ap] at h; exact h))) ?_
  rw [wBk_ap, ap2]
  exact kk
set_option maxRecDepth 100000 in
set_option maxHeartbeats 4000000 in
theorem k_wc_loop {T : XW} {I : Nat → Int} (hI : IR I) {n0 : Nat} {Z : XW → Option Value → Prop} : ∀ (m : Nat) (s : Int) (N : Nat → Int) (F : Nat → Int → Int), FR F → NR N → 0 ≤ s → s + m = N 3 → (∀ i : Int, s ≤ i → i < N 3 → sylOK N F i) → N 1 + ((wSc N F m s).length : Int) ≤ 1500 → (∀ a ∈ wSc N F m s, -2147483648 ≤ a ∧ a < 2147483648) → Z (cls I (apN N (wSc N F m s)) (apF N F (wSc N F m s)) ++ T) none → Vd (rm 5 118 0 0) [] mX7_writeScore n0 Z 0 0 7 [some (.ref 5), some (.ref 3), some (J s), none] [] (cls I N F ++ T) := by
  intro m
  induction m with
  | zero =>
    intro s N F hF hN h0 h1 hs hl hr hz
    unfold NR at hN
    refine v_iload_n (dec_of DX7_writeScore 5 rfl) rfl ?_
    refine v_aload_n (dec_of DX7_writeScore 6 rfl) rfl ?_
    refine v_get fX7_13 (dec_of DX7_writeScore 7 rfl) rfl rfl ?_
    refine v_V0r (c3_size) lX7_19 (dec_of DX7_writeScore 8 rfl) rfl rfl (by decide) (nle rfl) rfl ?_
    refine vi_icmp_ge (tgt := 99) (dec_of DX7_writeScore 9 rfl) (by decide) (by first | omega | exact bnd_r _ _ | exact hF _ _ | exact hI _ | exact hG _ _ | exact hK _ | (simp [uN] <;> omega)) (by first | omega | exact bnd_r _ _ | exact hF _ _ | exact hI _ | exact hG _ _ | exact hK _ | (simp [uN] <;> omega)) (fun c15 => ?_) (fun c15 => absurd c15 (by omega))
    exact vi_vret (dec_of DX7_writeScore 56 rfl) rfl ⟨by decide, by decide⟩ (by rw [wSc, ap_nil] at hz; exact hz)
  | succ m ih =>
    intro s N F hF hN h0 h1 hs hl hr hz
    have hN0 := hN
    unfold NR at hN
    rw [wSc] at hl hr hz
    simp only [List.length_append] at hl
    have hy := hs s (by omega) (by omega)
    have hFy : FR (apF N F (wSy N F s)) := FRap hF (fun a h => hr a (List.mem_append_left _ h))
    have hNy : NR (apN N (wSy N F s)) := NRap hN0 (by omega)
    have back : ∀ x : Int, Vd (rm 5 118 0 0) [] mX7_writeScore n0 Z 0 0 93 [some (.ref 5), some (.ref 3), some (J s), some (J x)] [] (cls I (apN N (wSy N F s)) (apF N F (wSy N F s)) ++ T) := by
      intro x
      refine vi_inc (dec_of DX7_writeScore 54 rfl) rfl (by decide) ?_
      dsimp only [List.set]
      refine v_goto (tgt := 7) (dec_of DX7_writeScore 55 rfl) (by decide) ?_
      refine Vd_fg 3 ?_
      dsimp only [List.set]
      refine ih (s + 1) _ _ hFy hNy (by omega) (show s + 1 + (m : Int) = N 3 by omega) (fun i a b => hs i (by omega) b) (by rw [wSc_ap]; simp only [apN, uN_s]; omega) (fun a h => hr a (List.mem_append_right _ (by rw [wSc_ap] at h; exact h))) ?_
      rw [wSc_ap, ap2]
      exact hz
    by_cases hb : 0 < s ∧ ¬ F 3 ((s - 1) * 9 + 0) = F 3 (s * 9 + 0)
    · have eB : wSy N F s = [32] ++ (wLs F s ++ wBk N F s) := by rw [wSy, wBl, if_pos hb]
      rw [eB] at hl hr back
      simp only [List.length_append, List.length_cons, List.length_nil] at hl
      have hF1 : FR (apF N F [32]) := FRap hF (fun a h => hr a (List.mem_append_left _ (List.mem_append_left _ h)))
      have hN1 : NR (apN N [32]) := NRap hN0 (by simp only [List.length_cons, List.length_nil]; omega)
      refine v_iload_n (dec_of DX7_writeScore 5 rfl) rfl ?_
      refine v_aload_n (dec_of DX7_writeScore 6 rfl) rfl ?_
      refine v_get fX7_13 (dec_of DX7_writeScore 7 rfl) rfl rfl ?_
      refine v_V0r (c3_size) lX7_19 (dec_of DX7_writeScore 8 rfl) rfl rfl (by decide) (nle rfl) rfl ?_
      refine vi_icmp_ge (tgt := 99) (dec_of DX7_writeScore 9 rfl) (by decide) (by first | omega | exact hF _ _) (by first | omega | exact hF _ _) (fun c15 => absurd c15 (by omega)) (fun c15 => ?_)
      refine v_aload_n (dec_of DX7_writeScore 10 rfl) rfl ?_
      refine v_get fX7_13 (dec_of DX7_writeScore 11 rfl) rfl rfl ?_
      refine v_iload_n (dec_of DX7_writeScore 12 rfl) rfl ?_
      refine vi_const (dec_of DX7_writeScore 13 rfl) ?_
      refine v_V2r (c3_get (by first | omega | exact hF _ _) (by first | omega | exact hF _ _) (by first | omega | exact hF _ _)) lX7_23 (dec_of DX7_writeScore 14 rfl) rfl rfl (by decide) (nle rfl) rfl ?_
      refine v_istore_n (dec_of DX7_writeScore 15 rfl) (by decide) ?_
      dsimp only [List.set]
      refine v_iload_n (dec_of DX7_writeScore 16 rfl) rfl ?_
      refine vi_if_le (tgt := 54) (dec_of DX7_writeScore 17 rfl) (by decide) (by first | omega | exact hF _ _) (fun c29 => absurd c29 (by omega)) (fun c29 => ?_)
      refine v_aload_n (dec_of DX7_writeScore 18 rfl) rfl ?_
      refine v_get fX7_13 (dec_of DX7_writeScore 19 rfl) rfl rfl ?_
      refine v_iload_n (dec_of DX7_writeScore 20 rfl) rfl ?_
      refine vi_const (dec_of DX7_writeScore 21 rfl) ?_
      refine vi_sub (dec_of DX7_writeScore 22 rfl) ?_
      refine vi_const (dec_of DX7_writeScore 23 rfl) ?_
      refine v_V2r (c3_get (by first | omega | exact hF _ _) (by first | omega | exact hF _ _) (by first | omega | exact hF _ _)) lX7_23 (dec_of DX7_writeScore 24 rfl) rfl rfl (by decide) (nle rfl) rfl ?_
      refine v_iload_n (dec_of DX7_writeScore 25 rfl) rfl ?_
      refine vi_icmp_eq (tgt := 54) (dec_of DX7_writeScore 26 rfl) (by decide) (by first | omega | exact hF _ _) (by first | omega | exact hF _ _) (fun c44 => absurd c44 (by omega)) (fun c44 => ?_)
      refine v_aload_n (dec_of DX7_writeScore 27 rfl) rfl ?_
      refine vi_bi (dec_of DX7_writeScore 28 rfl) (by decide) ?_
      refine v_V1r (cw_add (by omega)) lX7_27 (dec_of DX7_writeScore 29 rfl) rfl rfl (by decide) (nle rfl) rfl ?_
      refine v_pop (dec_of DX7_writeScore 30 rfl) rfl ?_
      refine k_wlb hF1 hI hN1 (show 0 ≤ s ∧ s < N 3 by omega) hy (by rw [wLs_ap, wBk_ap]; simp only [apN, uN_s, List.length_append, List.length_cons, List.length_nil]; omega) (fun a h => hr a (List.mem_append_left _ (List.mem_append_right _ (by rw [wLs_ap, wBk_ap] at h; exact h)))) ?_
      rw [wLs_ap, wBk_ap, ap2]
      exact back _
    · have eB : wSy N F s = wLs F s ++ wBk N F s := by rw [wSy, wBl, if_neg hb, List.nil_append]
      rw [eB] at hl hr back
      simp only [List.length_append] at hl
      refine v_iload_n (dec_of DX7_writeScore 5 rfl) rfl ?_
      refine v_aload_n (dec_of DX7_writeScore 6 rfl) rfl ?_
      refine v_get fX7_13 (dec_of DX7_writeScore 7 rfl) rfl rfl ?_
      refine v_V0r (c3_size) lX7_19 (dec_of DX7_writeScore 8 rfl) rfl rfl (by decide) (nle rfl) rfl ?_
      refine vi_icmp_ge (tgt := 99) (dec_of DX7_writeScore 9 rfl) (by decide) (by first | omega | exact hF _ _) (by first | omega | exact hF _ _) (fun c15 => absurd c15 (by omega)) (fun c15 => ?_)
      refine v_aload_n (dec_of DX7_writeScore 10 rfl) rfl ?_
      refine v_get fX7_13 (dec_of DX7_writeScore 11 rfl) rfl rfl ?_
      refine v_iload_n (dec_of DX7_writeScore 12 rfl) rfl ?_
      refine vi_const (dec_of DX7_writeScore 13 rfl) ?_
      refine v_V2r (c3_get (by first | omega | exact hF _ _) (by first | omega | exact hF _ _) (by first | omega | exact hF _ _)) lX7_23 (dec_of DX7_writeScore 14 rfl) rfl rfl (by decide) (nle rfl) rfl ?_
      refine v_istore_n (dec_of DX7_writeScore 15 rfl) (by decide) ?_
      dsimp only [List.set]
      refine v_iload_n (dec_of DX7_writeScore 16 rfl) rfl ?_
      refine vi_if_le (tgt := 54) (dec_of DX7_writeScore 17 rfl) (by decide) (by first | omega | exact hF _ _) (fun c29 => ?_) (fun c29 => ?_)
      · exact k_wlb hF hI hN0 (by omega) hy (by simp only [List.length_append]; omega) (fun a h => hr a (List.mem_append_left _ h)) (back _)
      · refine v_aload_n (dec_of DX7_writeScore 18 rfl) rfl ?_
        refine v_get fX7_13 (dec_of DX7_writeScore 19 rfl) rfl rfl ?_
        refine v_iload_n (dec_of DX7_writeScore 20 rfl) rfl ?_
        refine vi_const (dec_of DX7_writeScore 21 rfl) ?_
        refine vi_sub (dec_of DX7_writeScore 22 rfl) ?_
        refine vi_const (dec_of DX7_writeScore 23 rfl) ?_
        refine v_V2r (c3_get (by first | omega | exact hF _ _) (by first | omega | exact hF _ _) (by first | omega | exact hF _ _)) lX7_23 (dec_of DX7_writeScore 24 rfl) rfl rfl (by decide) (nle rfl) rfl ?_
        refine v_iload_n (dec_of DX7_writeScore 25 rfl) rfl ?_
        refine vi_icmp_eq (tgt := 54) (dec_of DX7_writeScore 26 rfl) (by decide) (by first | omega | exact hF _ _) (by first | omega | exact hF _ _) (fun c44 => ?_) (fun c44 => absurd c44 (by omega))
        exact k_wlb hF hI hN0 (by omega) hy (by simp only [List.length_append]; omega) (fun a h => hr a (List.mem_append_left _ h)) (back _)
theorem NR1 {N : Nat → Int} (h : NR N) {a : Int} (ha : 0 ≤ a ∧ a ≤ 1500) : NR (uN N 1 a) := by
  unfold NR at *
  simp (disch := decide) only [uN_s, uN_n]
  omega
theorem gfL_0 {N : Nat → Int} {F : Nat → Int → Int} {v x : Int} : ∀ (m : Nat) (i : Int), gfL (uN N 1 x) F v m i = gfL N F v m i := by
  intro m
  induction m with
  | zero => intro i; rfl
  | succ m ih => intro i; rw [gfL, gfL, ih]; rfl
theorem wSgs_0 {N : Nat → Int} {F : Nat → Int → Int} {e x : Int} : ∀ (m : Nat) (j : Int), wSgs (uN N 1 x) F e m j = wSgs N F e m j := by
  intro m
  induction m with
  | zero => intro i; rfl
  | succ m ih => intro i; rw [wSgs, wSgs, ih, wSl, wSl, ndS, ndS, gfL_0]
theorem wSc_0 {N : Nat → Int} {F : Nat → Int → Int} {x : Int} : ∀ (m : Nat) (s : Int), wSc (uN N 1 x) F m s = wSc N F m s := by
  intro m
  induction m with
  | zero => intro s; rfl
  | succ m ih => intro s; rw [wSc, wSc, ih, wSy, wSy, wBk, wBk, wSs, wSs, wSgs_0]
/-- the text of a score -/
def wTx (N : Nat → Int) (F : Nat → Int → Int) : List Int := wSc N F (N 3).toNat 0
set_option maxRecDepth 100000 in
set_option maxHeartbeats 4000000 in
theorem k_wScore {T : XW} {I N : Nat → Int} {F : Nat → Int → Int} (hF : FR F) (hI : IR I) (hN : NR N) (hy : ∀ i : Int, 0 ≤ i → i < N 3 → sylOK N F i) (hlen : ((wTx N F).length : Int) ≤ 1500) (hr : ∀ a ∈ wTx N F, -2147483648 ≤ a ∧ a < 2147483648) : Sd (rm 5 118 0 0) mX7_writeScore [.ref 5, .ref 3] (cls I N F ++ T) (cls I (apN (uN N 1 0) (wTx N F)) (apF (uN N 1 0) F (wTx N F)) ++ T) (none) := by
  unfold Sd
  unfold NR at hN
  refine sp_of (ls := [some (.ref 5), some (.ref 3), none, none]) (by decide) (nle rfl) rfl rfl ?_
  refine v_aload_n (dec_of DX7_writeScore 0 rfl) rfl ?_
  refine vi_const (dec_of DX7_writeScore 1 rfl) ?_
  refine v_V1v (c1_keep (by first | omega | exact bnd_r _ _ | exact hF _ _ | exact hI _ | exact hG _ _ | exact hK _ | (simp [uN] <;> omega)) (by first | omega | exact bnd_r _ _ | exact hF _ _ | exact hI _ | exact hG _ _ | exact hK _ | (simp [uN] <;> omega))) lX7_7 (dec_of DX7_writeScore 2 rfl) rfl rfl (by decide) (nle rfl) rfl ?_
  refine vi_const (dec_of DX7_writeScore 3 rfl) ?_
  refine v_istore_n (dec_of DX7_writeScore 4 rfl) (by decide) ?_
  dsimp only [List.set]
  refine k_wc_loop hI (N 3).toNat 0 (uN N 1 0) F hF (NR1 (by unfold NR; exact hN) (by omega)) (by omega) (show (0 : Int) + ((N 3).toNat : Int) = N 3 by omega) hy (by rw [wSc_0, uN_s]; rw [wTx] at hlen; omega) (by rw [wSc_0]; exact hr) ?_
  rw [wSc_0]
  exact ⟨rfl, rfl⟩
set_option maxRecDepth 100000 in
set_option maxHeartbeats 4000000 in
theorem x_write {T : XW} {I N : Nat → Int} {F : Nat → Int → Int} (hF : FR F) (hI : IR I) (hN : NR N) (hy : ∀ i : Int, 0 ≤ i → i < N 3 → sylOK N F i) (hlen : ((wTx N F).length : Int) ≤ 1500) (hr : ∀ a ∈ wTx N F, -2147483648 ≤ a ∧ a < 2147483648) : Sd (rm 6 141 0 0) mX8_write [.ref 0] (cls I N F ++ T) (cls I (apN (uN N 1 0) (wTx N F)) (apF (uN N 1 0) F (wTx N F)) ++ T) (some (J ((wTx N F).length))) := by
  unfold Sd
  unfold NR at hN
  refine sp_of (ls := [some (.ref 0)]) (by decide) (nle rfl) rfl rfl ?_
  refine v_aload_n (dec_of DX8_write 0 rfl) rfl ?_
  refine v_get fX8_24 (dec_of DX8_write 1 rfl) rfl rfl ?_
  refine v_aload_n (dec_of DX8_write 2 rfl) rfl ?_
  refine v_get fX8_18 (dec_of DX8_write 3 rfl) rfl rfl ?_
  refine v_S2v (k_wScore hF hI (by unfold NR; exact hN) hy hlen hr) lX8_147 (dec_of DX8_write 4 rfl) (by decide) (nle rfl) rfl ?_
  refine v_aload_n (dec_of DX8_write 5 rfl) rfl ?_
  refine v_get fX8_18 (dec_of DX8_write 6 rfl) rfl rfl ?_
  refine v_V0r (c1_size) lX8_48 (dec_of DX8_write 7 rfl) rfl rfl (by decide) (nle rfl) rfl ?_
  exact vi_ret (dec_of DX8_write 8 rfl) rfl ⟨by decide, by decide⟩ (⟨rfl, Jc (by simp only [apN, uN_s]; omega)⟩)
