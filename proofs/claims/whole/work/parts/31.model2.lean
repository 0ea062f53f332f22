/-! the reference: loops (printed by wip/tools/gen_m2.py) -/
def cnM (g : Int → Int) (s : Int) : Nat → Int
  | 0 => 0
  | n + 1 => cnM g s n + (if g n = s then 1 else 0)
theorem cnM_r (g : Int → Int) (s : Int) (n : Nat) : 0 ≤ cnM g s n ∧ cnM g s n ≤ n := by
  induction n with
  | zero => exact ⟨Int.le_refl 0, Int.le_refl 0⟩
  | succ n ih => unfold cnM; omega
def fsD (g : Int → Int) (s : Int) : Nat → Int → Int
  | 0, a => a
  | n + 1, a => fsD g s n (if g n = s then n else a)
def accU (f : Int → Int) : Nat → Int
  | 0 => -1
  | n + 1 => if f n = 1 then n else accU f n
theorem accU_r (f : Int → Int) (n : Nat) : -1 ≤ accU f n ∧ accU f n < n := by
  induction n with
  | zero => exact ⟨Int.le_refl (-1), by show (-1 : Int) < 0; decide⟩
  | succ n ih => unfold accU; split <;> omega
theorem accU_B (f : Int → Int) (n : Nat) : (accU f n = -1 ∧ accB f n = -100) ∨ (0 ≤ accU f n ∧ accB f n = accU f n) := by
  induction n with
  | zero => exact Or.inl ⟨rfl, rfl⟩
  | succ n ih =>
    unfold accU accB
    by_cases h : f n = 1
    · rw [if_pos h, if_pos h]; omega
    · rw [if_neg h, if_neg h]; exact ih
set_option maxRecDepth 100000 in
set_option maxHeartbeats 4000000 in
theorem q_no_loop {I N : Nat → Int} {F : Nat → Int → Int} {K : Nat → Int} {G : Nat → Int → Int} (hG : FR G) (hK : IR K) (hM : MR K) {n0 : Nat} {Z : XW → Option Value → Prop} {s : Int} (hs : -2147483648 ≤ s ∧ s < 2147483648) (hz : Z (W2 I N F K G) (some (J (cnM (G 18) s (K 15).toNat)))) : ∀ (m n : Nat), (n : Int) + m = K 15 → Vd (rm 0 0 0 0) [] mX9_notesOf n0 Z 0 0 4 [some (.ref 31), some (J s), some (J (cnM (G 18) s n)), some (J n)] [] (W2 I N F K G) := by
  unfold MR at hM
  intro m
  induction m with
  | zero =>
    intro n hn
    have e : n = (K 15).toNat := by omega
    refine v_iload_n (dec_of DX9_notesOf 4 rfl) rfl ?_
    refine v_aload_n (dec_of DX9_notesOf 5 rfl) rfl ?_
    refine v_get fX9_142 (dec_of DX9_notesOf 6 rfl) rfl rfl ?_
    refine vi_icmp_ge (tgt := 36) (dec_of DX9_notesOf 7 rfl) (by decide) (by first | omega | exact bnd_r _ _ | exact hG _ _ | exact hK _ | (simp (disch := decide) only [uN_s, uN_n]; omega)) (by first | omega | exact bnd_r _ _ | exact hG _ _ | exact hK _ | (simp (disch := decide) only [uN_s, uN_n]; omega)) (fun c9 => ?_) (fun c9 => absurd c9 (by omega))
    refine v_iload_n (dec_of DX9_notesOf 22 rfl) rfl ?_
    exact vi_ret (dec_of DX9_notesOf 23 rfl) rfl ⟨by decide, by decide⟩ (by rw [e]; exact hz)
  | succ m ih =>
    intro n hn
    by_cases h : G 18 n = s
    · have e1 : cnM (G 18) s n + 1 = cnM (G 18) s (n + 1) := by rw [cnM, if_pos h]
      refine v_iload_n (dec_of DX9_notesOf 4 rfl) rfl ?_
      refine v_aload_n (dec_of DX9_notesOf 5 rfl) rfl ?_
      refine v_get fX9_142 (dec_of DX9_notesOf 6 rfl) rfl rfl ?_
      refine vi_icmp_ge (tgt := 36) (dec_of DX9_notesOf 7 rfl) (by decide) (by first | omega | exact bnd_r _ _ | exact hG _ _ | exact hK _ | (simp (disch := decide) only [uN_s, uN_n]; omega)) (by first | omega | exact bnd_r _ _ | exact hG _ _ | exact hK _ | (simp (disch := decide) only [uN_s, uN_n]; omega)) (fun c9 => absurd c9 (by omega)) (fun c9 => ?_)
      refine v_iload_n (dec_of DX9_notesOf 8 rfl) rfl ?_
      refine v_aload_n (dec_of DX9_notesOf 9 rfl) rfl ?_
      refine v_get fX9_49 (dec_of DX9_notesOf 10 rfl) rfl rfl ?_
      refine v_iload_n (dec_of DX9_notesOf 11 rfl) rfl ?_
      refine vi_aload (dec_of DX9_notesOf 12 rfl) rfl (by first | omega | exact bnd_r _ _ | exact hG _ _ | exact hK _ | (simp (disch := decide) only [uN_s, uN_n]; omega)) (by decide) ?_
      refine v_iload_n (dec_of DX9_notesOf 13 rfl) rfl ?_
      refine vi_icmp_ne (tgt := 27) (dec_of DX9_notesOf 14 rfl) (by decide) (by first | omega | exact bnd_r _ _ | exact hG _ _ | exact hK _ | (simp (disch := decide) only [uN_s, uN_n]; omega)) (by first | omega | exact bnd_r _ _ | exact hG _ _ | exact hK _ | (simp (disch := decide) only [uN_s, uN_n]; omega)) (fun c20 => absurd c20 (by omega)) (fun c20 => ?_)
      refine vi_const (dec_of DX9_notesOf 15 rfl) ?_
      refine v_goto (tgt := 28) (dec_of DX9_notesOf 16 rfl) (by decide) ?_
      refine vi_add (dec_of DX9_notesOf 18 rfl) ?_
      refine v_istore_n (dec_of DX9_notesOf 19 rfl) (by decide) ?_
      dsimp only [List.set]
      refine vi_inc (dec_of DX9_notesOf 20 rfl) rfl (by decide) ?_
      dsimp only [List.set]
      refine v_goto (tgt := 4) (dec_of DX9_notesOf 21 rfl) (by decide) ?_
      rw [e1]
      exact ih (n + 1) (by omega)
    · have e1 : cnM (G 18) s n + 0 = cnM (G 18) s (n + 1) := by rw [cnM, if_neg h]
      refine v_iload_n (dec_of DX9_notesOf 4 rfl) rfl ?_
      refine v_aload_n (dec_of DX9_notesOf 5 rfl) rfl ?_
      refine v_get fX9_142 (dec_of DX9_notesOf 6 rfl) rfl rfl ?_
      refine vi_icmp_ge (tgt := 36) (dec_of DX9_notesOf 7 rfl) (by decide) (by first | omega | exact bnd_r _ _ | exact hG _ _ | exact hK _ | (simp (disch := decide) only [uN_s, uN_n]; omega)) (by first | omega | exact bnd_r _ _ | exact hG _ _ | exact hK _ | (simp (disch := decide) only [uN_s, uN_n]; omega)) (fun c9 => absurd c9 (by omega)) (fun c9 => ?_)
      refine v_iload_n (dec_of DX9_notesOf 8 rfl) rfl ?_
      refine v_aload_n (dec_of DX9_notesOf 9 rfl) rfl ?_
      refine v_get fX9_49 (dec_of DX9_notesOf 10 rfl) rfl rfl ?_
      refine v_iload_n (dec_of DX9_notesOf 11 rfl) rfl ?_
      refine vi_aload (dec_of DX9_notesOf 12 rfl) rfl (by first | omega | exact bnd_r _ _ | exact hG _ _ | exact hK _ | (simp (disch := decide) only [uN_s, uN_n]; omega)) (by decide) ?_
      refine v_iload_n (dec_of DX9_notesOf 13 rfl) rfl ?_
      refine vi_icmp_ne (tgt := 27) (dec_of DX9_notesOf 14 rfl) (by decide) (by first | omega | exact bnd_r _ _ | exact hG _ _ | exact hK _ | (simp (disch := decide) only [uN_s, uN_n]; omega)) (by first | omega | exact bnd_r _ _ | exact hG _ _ | exact hK _ | (simp (disch := decide) only [uN_s, uN_n]; omega)) (fun c20 => ?_) (fun c20 => absurd c20 (by omega))
      refine vi_const (dec_of DX9_notesOf 17 rfl) ?_
      refine vi_add (dec_of DX9_notesOf 18 rfl) ?_
      refine v_istore_n (dec_of DX9_notesOf 19 rfl) (by decide) ?_
      dsimp only [List.set]
      refine vi_inc (dec_of DX9_notesOf 20 rfl) rfl (by decide) ?_
      dsimp only [List.set]
      refine v_goto (tgt := 4) (dec_of DX9_notesOf 21 rfl) (by decide) ?_
      rw [e1]
      exact ih (n + 1) (by omega)
set_option maxRecDepth 100000 in
set_option maxHeartbeats 4000000 in
theorem q_notesOf {I N : Nat → Int} {F : Nat → Int → Int} {K : Nat → Int} {G : Nat → Int → Int} (hG : FR G) (hK : IR K) (hM : MR K) {s : Int} (hs : -2147483648 ≤ s ∧ s < 2147483648) : Sd (rm 0 0 0 0) mX9_notesOf [.ref 31, J s] (W2 I N F K G) (W2 I N F K G) (some (J (cnM (G 18) s (K 15).toNat))) := by
  unfold Sd
  unfold MR at hM
  refine sp_of (ls := [some (.ref 31), some (J s), none, none]) (by decide) (nle rfl) rfl rfl ?_
  refine vi_const (dec_of DX9_notesOf 0 rfl) ?_
  refine v_istore_n (dec_of DX9_notesOf 1 rfl) (by decide) ?_
  dsimp only [List.set]
  refine vi_const (dec_of DX9_notesOf 2 rfl) ?_
  refine v_istore_n (dec_of DX9_notesOf 3 rfl) (by decide) ?_
  dsimp only [List.set]
  exact q_no_loop hG hK (by unfold MR; exact hM) hs ⟨rfl, rfl⟩ (K 15).toNat 0 (by omega)
set_option maxRecDepth 100000 in
set_option maxHeartbeats 4000000 in
theorem q_fo_loop {I N : Nat → Int} {F : Nat → Int → Int} {K : Nat → Int} {G : Nat → Int → Int} (hG : FR G) (hK : IR K) (hM : MR K) {n0 : Nat} {Z : XW → Option Value → Prop} {s : Int} (hs : -2147483648 ≤ s ∧ s < 2147483648) : ∀ (n : Nat) (a : Int), (n : Int) ≤ K 15 → Z (W2 I N F K G) (some (J (fsD (G 18) s n a))) → Vd (rm 0 0 0 0) [] mX9_firstOf n0 Z 0 0 10 [some (.ref 31), some (J s), some (J a), some (J ((n : Int) - 1))] [] (W2 I N F K G) := by
  unfold MR at hM
  intro n
  induction n with
  | zero =>
    intro a hn hz
    refine v_iload_n (dec_of DX9_firstOf 7 rfl) rfl ?_
    refine vi_if_lt (tgt := 36) (dec_of DX9_firstOf 8 rfl) (by decide) (by first | omega | exact bnd_r _ _ | exact hG _ _ | exact hK _ | (simp (disch := decide) only [uN_s, uN_n]; omega)) (fun c11 => ?_) (fun c11 => absurd c11 (by omega))
    refine v_iload_n (dec_of DX9_firstOf 21 rfl) rfl ?_
    exact vi_ret (dec_of DX9_firstOf 22 rfl) rfl ⟨by decide, by decide⟩ (hz)
  | succ n ih =>
    intro a hn hz
    rw [fsD] at hz
    rw [show ((n + 1 : Nat) : Int) - 1 = (n : Int) by omega]
    by_cases h : G 18 n = s
    · rw [if_pos h] at hz
      refine v_iload_n (dec_of DX9_firstOf 7 rfl) rfl ?_
      refine vi_if_lt (tgt := 36) (dec_of DX9_firstOf 8 rfl) (by decide) (by first | omega | exact bnd_r _ _ | exact hG _ _ | exact hK _ | (simp (disch := decide) only [uN_s, uN_n]; omega)) (fun c11 => absurd c11 (by omega)) (fun c11 => ?_)
      refine v_aload_n (dec_of DX9_firstOf 9 rfl) rfl ?_
      refine v_get fX9_49 (dec_of DX9_firstOf 10 rfl) rfl rfl ?_
      refine v_iload_n (dec_of DX9_firstOf 11 rfl) rfl ?_
      refine vi_aload (dec_of DX9_firstOf 12 rfl) rfl (by first | omega | exact bnd_r _ _ | exact hG _ _ | exact hK _ | (simp (disch := decide) only [uN_s, uN_n]; omega)) (by decide) ?_
      refine v_iload_n (dec_of DX9_firstOf 13 rfl) rfl ?_
      refine vi_icmp_ne (tgt := 28) (dec_of DX9_firstOf 14 rfl) (by decide) (by first | omega | exact bnd_r _ _ | exact hG _ _ | exact hK _ | (simp (disch := decide) only [uN_s, uN_n]; omega)) (by first | omega | exact bnd_r _ _ | exact hG _ _ | exact hK _ | (simp (disch := decide) only [uN_s, uN_n]; omega)) (fun c21 => absurd c21 (by omega)) (fun c21 => ?_)
      refine v_iload_n (dec_of DX9_firstOf 15 rfl) rfl ?_
      refine v_goto (tgt := 29) (dec_of DX9_firstOf 16 rfl) (by decide) ?_
      refine v_istore_n (dec_of DX9_firstOf 18 rfl) (by decide) ?_
      dsimp only [List.set]
      refine vi_inc (dec_of DX9_firstOf 19 rfl) rfl (by decide) ?_
      dsimp only [List.set]
      refine v_goto (tgt := 10) (dec_of DX9_firstOf 20 rfl) (by decide) ?_
      rw [show (n : Int) + -1 = (n : Int) - 1 by omega]
      exact ih _ (by omega) hz
    · rw [if_neg h] at hz
      refine v_iload_n (dec_of DX9_firstOf 7 rfl) rfl ?_
      refine vi_if_lt (tgt := 36) (dec_of DX9_firstOf 8 rfl) (by decide) (by first | omega | exact bnd_r _ _ | exact hG _ _ | exact hK _ | (simp (disch := decide) only [uN_s, uN_n]; omega)) (fun c11 => absurd c11 (by omega)) (fun c11 => ?_)
      refine v_aload_n (dec_of DX9_firstOf 9 rfl) rfl ?_
      refine v_get fX9_49 (dec_of DX9_firstOf 10 rfl) rfl rfl ?_
      refine v_iload_n (dec_of DX9_firstOf 11 rfl) rfl ?_
      refine vi_aload (dec_of DX9_firstOf 12 rfl) rfl (by first | omega | exact bnd_r _ _ | exact hG _ _ | exact hK _ | (simp (disch := decide) only [uN_s, uN_n]; omega)) (by decide) ?_
      refine v_iload_n (dec_of DX9_firstOf 13 rfl) rfl ?_
      refine vi_icmp_ne (tgt := 28) (dec_of DX9_firstOf 14 rfl) (by decide) (by first | omega | exact bnd_r _ _ | exact hG _ _ | exact hK _ | (simp (disch := decide) only [uN_s, uN_n]; omega)) (by first | omega | exact bnd_r _ _ | exact hG _ _ | exact hK _ | (simp (disch := decide) only [uN_s, uN_n]; omega)) (fun c21 => ?_) (fun c21 => absurd c21 (by omega))
      refine v_iload_n (dec_of DX9_firstOf 17 rfl) rfl ?_
      refine v_istore_n (dec_of DX9_firstOf 18 rfl) (by decide) ?_
      dsimp only [List.set]
      refine vi_inc (dec_of DX9_firstOf 19 rfl) rfl (by decide) ?_
      dsimp only [List.set]
      refine v_goto (tgt := 10) (dec_of DX9_firstOf 20 rfl) (by decide) ?_
      rw [show (n : Int) + -1 = (n : Int) - 1 by omega]
      exact ih _ (by omega) hz
set_option maxRecDepth 100000 in
set_option maxHeartbeats 4000000 in
theorem q_firstOf {I N : Nat → Int} {F : Nat → Int → Int} {K : Nat → Int} {G : Nat → Int → Int} (hG : FR G) (hK : IR K) (hM : MR K) {s : Int} (hs : -2147483648 ≤ s ∧ s < 2147483648) : Sd (rm 0 0 0 0) mX9_firstOf [.ref 31, J s] (W2 I N F K G) (W2 I N F K G) (some (J (fsD (G 18) s (K 15).toNat (-100)))) := by
  unfold Sd
  unfold MR at hM
  refine sp_of (ls := [some (.ref 31), some (J s), none, none]) (by decide) (nle rfl) rfl rfl ?_
  refine vi_bi (dec_of DX9_firstOf 0 rfl) (by decide) ?_
  refine v_istore_n (dec_of DX9_firstOf 1 rfl) (by decide) ?_
  dsimp only [List.set]
  refine v_aload_n (dec_of DX9_firstOf 2 rfl) rfl ?_
  refine v_get fX9_142 (dec_of DX9_firstOf 3 rfl) rfl rfl ?_
  refine vi_const (dec_of DX9_firstOf 4 rfl) ?_
  refine vi_sub (dec_of DX9_firstOf 5 rfl) ?_
  refine v_istore_n (dec_of DX9_firstOf 6 rfl) (by decide) ?_
  dsimp only [List.set]
  rw [show K 15 - 1 = ((K 15).toNat : Int) - 1 by omega]
  exact q_fo_loop hG hK (by unfold MR; exact hM) hs (K 15).toNat (-100) (by omega) ⟨rfl, rfl⟩
def ptF (G : Nat → Int → Int) (h : Int) : Int → Int := fun k => G 44 (40 * h + k)
set_option maxRecDepth 100000 in
set_option maxHeartbeats 4000000 in
theorem q_ab_loop {I N : Nat → Int} {F : Nat → Int → Int} {K : Nat → Int} {G : Nat → Int → Int} (hG : FR G) (hK : IR K) (hM : MR K) {n0 : Nat} {Z : XW → Option Value → Prop} {h p : Int} (hh : 0 ≤ h ∧ h ≤ 1) (hp : 0 ≤ p ∧ p ≤ 40) (hz : Z (W2 I N F K G) (some (J (accU (ptF G h) p.toNat)))) : ∀ (m n : Nat), (n : Int) + m = p → Vd (rm 0 0 0 0) [] mX9_accentBefore n0 Z 0 0 5 [some (.ref 31), some (J h), some (J p), some (J (accU (ptF G h) n)), some (J n)] [] (W2 I N F K G) := by
  unfold MR at hM
  intro m
  induction m with
  | zero =>
    intro n hn
    have e : n = p.toNat := by omega
    refine v_iload (dec_of DX9_accentBefore 4 rfl) rfl ?_
    refine v_iload_n (dec_of DX9_accentBefore 5 rfl) rfl ?_
    refine vi_icmp_ge (tgt := 40) (dec_of DX9_accentBefore 6 rfl) (by decide) (by first | omega | exact bnd_r _ _ | exact hG _ _ | exact hK _ | (simp (disch := decide) only [uN_s, uN_n]; omega)) (by first | omega | exact bnd_r _ _ | exact hG _ _ | exact hK _ | (simp (disch := decide) only [uN_s, uN_n]; omega)) (fun c8 => ?_) (fun c8 => absurd c8 (by omega))
    refine v_iload_n (dec_of DX9_accentBefore 23 rfl) rfl ?_
    exact vi_ret (dec_of DX9_accentBefore 24 rfl) rfl ⟨by decide, by decide⟩ (by rw [e]; exact hz)
  | succ m ih =>
    intro n hn
    by_cases h1 : G 44 (40 * h + n) = 1
    · have e1 : (n : Int) = accU (ptF G h) (n + 1) := by rw [accU, if_pos (show ptF G h n = 1 from h1)]
      refine v_iload (dec_of DX9_accentBefore 4 rfl) rfl ?_
      refine v_iload_n (dec_of DX9_accentBefore 5 rfl) rfl ?_
      refine vi_icmp_ge (tgt := 40) (dec_of DX9_accentBefore 6 rfl) (by decide) (by first | omega | exact bnd_r _ _ | exact hG _ _ | exact hK _ | (simp (disch := decide) only [uN_s, uN_n]; omega)) (by first | omega | exact bnd_r _ _ | exact hG _ _ | exact hK _ | (simp (disch := decide) only [uN_s, uN_n]; omega)) (fun c8 => absurd c8 (by omega)) (fun c8 => ?_)
      refine v_aload_n (dec_of DX9_accentBefore 7 rfl) rfl ?_
      refine v_get fX9_95 (dec_of DX9_accentBefore 8 rfl) rfl rfl ?_
      refine vi_bi (dec_of DX9_accentBefore 9 rfl) (by decide) ?_
      refine v_iload_n (dec_of DX9_accentBefore 10 rfl) rfl ?_
      refine vi_mul (dec_of DX9_accentBefore 11 rfl) ?_
      refine v_iload (dec_of DX9_accentBefore 12 rfl) rfl ?_
      refine vi_add (dec_of DX9_accentBefore 13 rfl) ?_
      refine vi_aload (dec_of DX9_accentBefore 14 rfl) rfl (by first | omega | exact bnd_r _ _ | exact hG _ _ | exact hK _ | (simp (disch := decide) only [uN_s, uN_n]; omega)) (by decide) ?_
      refine vi_const (dec_of DX9_accentBefore 15 rfl) ?_
      refine vi_icmp_ne (tgt := 32) (dec_of DX9_accentBefore 16 rfl) (by decide) (by first | omega | exact bnd_r _ _ | exact hG _ _ | exact hK _ | (simp (disch := decide) only [uN_s, uN_n]; omega)) (by first | omega | exact bnd_r _ _ | exact hG _ _ | exact hK _ | (simp (disch := decide) only [uN_s, uN_n]; omega)) (fun c24 => absurd c24 (by omega)) (fun c24 => ?_)
      refine v_iload (dec_of DX9_accentBefore 17 rfl) rfl ?_
      refine v_goto (tgt := 33) (dec_of DX9_accentBefore 18 rfl) (by decide) ?_
      refine v_istore_n (dec_of DX9_accentBefore 20 rfl) (by decide) ?_
      dsimp only [List.set]
      refine vi_inc (dec_of DX9_accentBefore 21 rfl) rfl (by decide) ?_
      dsimp only [List.set]
      refine v_goto (tgt := 5) (dec_of DX9_accentBefore 22 rfl) (by decide) ?_
      have h9 := ih (n + 1) (by omega)
      rw [← e1] at h9
      exact h9
    · have e1 : accU (ptF G h) n = accU (ptF G h) (n + 1) := by rw [accU, if_neg (show ¬ ptF G h n = 1 from h1)]
      refine v_iload (dec_of DX9_accentBefore 4 rfl) rfl ?_
      refine v_iload_n (dec_of DX9_accentBefore 5 rfl) rfl ?_
      refine vi_icmp_ge (tgt := 40) (dec_of DX9_accentBefore 6 rfl) (by decide) (by first | omega | exact bnd_r _ _ | exact hG _ _ | exact hK _ | (simp (disch := decide) only [uN_s, uN_n]; omega)) (by first | omega | exact bnd_r _ _ | exact hG _ _ | exact hK _ | (simp (disch := decide) only [uN_s, uN_n]; omega)) (fun c8 => absurd c8 (by omega)) (fun c8 => ?_)
      refine v_aload_n (dec_of DX9_accentBefore 7 rfl) rfl ?_
      refine v_get fX9_95 (dec_of DX9_accentBefore 8 rfl) rfl rfl ?_
      refine vi_bi (dec_of DX9_accentBefore 9 rfl) (by decide) ?_
      refine v_iload_n (dec_of DX9_accentBefore 10 rfl) rfl ?_
      refine vi_mul (dec_of DX9_accentBefore 11 rfl) ?_
      refine v_iload (dec_of DX9_accentBefore 12 rfl) rfl ?_
      refine vi_add (dec_of DX9_accentBefore 13 rfl) ?_
      refine vi_aload (dec_of DX9_accentBefore 14 rfl) rfl (by first | omega | exact bnd_r _ _ | exact hG _ _ | exact hK _ | (simp (disch := decide) only [uN_s, uN_n]; omega)) (by decide) ?_
      refine vi_const (dec_of DX9_accentBefore 15 rfl) ?_
      refine vi_icmp_ne (tgt := 32) (dec_of DX9_accentBefore 16 rfl) (by decide) (by first | omega | exact bnd_r _ _ | exact hG _ _ | exact hK _ | (simp (disch := decide) only [uN_s, uN_n]; omega)) (by first | omega | exact bnd_r _ _ | exact hG _ _ | exact hK _ | (simp (disch := decide) only [uN_s, uN_n]; omega)) (fun c24 => ?_) (fun c24 => absurd c24 (by omega))
      refine v_iload_n (dec_of DX9_accentBefore 19 rfl) rfl ?_
      refine v_istore_n (dec_of DX9_accentBefore 20 rfl) (by decide) ?_
      dsimp only [List.set]
      refine vi_inc (dec_of DX9_accentBefore 21 rfl) rfl (by decide) ?_
      dsimp only [List.set]
      refine v_goto (tgt := 5) (dec_of DX9_accentBefore 22 rfl) (by decide) ?_
      have h9 := ih (n + 1) (by omega)
      rw [← e1] at h9
      exact h9
set_option maxRecDepth 100000 in
set_option maxHeartbeats 4000000 in
theorem q_acc {I N : Nat → Int} {F : Nat → Int → Int} {K : Nat → Int} {G : Nat → Int → Int} (hG : FR G) (hK : IR K) (hM : MR K) {h p : Int} (hh : 0 ≤ h ∧ h ≤ 1) (hp : 0 ≤ p ∧ p ≤ 40) : Sd (rm 0 0 0 0) mX9_accentBefore [.ref 31, J h, J p] (W2 I N F K G) (W2 I N F K G) (some (J (accU (ptF G h) p.toNat))) := by
  unfold Sd
  unfold MR at hM
  refine sp_of (ls := [some (.ref 31), some (J h), some (J p), none, none]) (by decide) (nle rfl) rfl rfl ?_
  refine vi_const (dec_of DX9_accentBefore 0 rfl) ?_
  refine v_istore_n (dec_of DX9_accentBefore 1 rfl) (by decide) ?_
  dsimp only [List.set]
  refine vi_const (dec_of DX9_accentBefore 2 rfl) ?_
  refine v_istore (dec_of DX9_accentBefore 3 rfl) (by decide) ?_
  dsimp only [List.set]
  exact q_ab_loop hG hK (by unfold MR; exact hM) hh hp ⟨rfl, rfl⟩ p.toNat 0 (by omega)
set_option maxRecDepth 100000 in
set_option maxHeartbeats 4000000 in
theorem q_uf_loop {I N : Nat → Int} {F : Nat → Int → Int} {K : Nat → Int} {G : Nat → Int → Int} (hG : FR G) (hK : IR K) (hM : MR K) {n0 : Nat} {Z : XW → Option Value → Prop} (hz : Z (W2 I N F K (uN G 33 (clr (G 33) 0 13))) none) : ∀ (m : Nat) (i : Int) (g : Int → Int), 0 ≤ i → i + m = 13 → clr g i 13 = clr (G 33) 0 13 → Vd (rm 0 0 0 0) [] mX9_unflat n0 Z 0 0 2 [some (.ref 31), some (J i)] [] (W2 I N F K (uN G 33 g)) := by
  intro m
  induction m with
  | zero =>
    intro i g h0 h1 h2
    rw [clr_end (by omega)] at h2
    subst h2
    refine v_iload_n (dec_of DX9_unflat 2 rfl) rfl ?_
    refine vi_bi (dec_of DX9_unflat 3 rfl) (by decide) ?_
    refine vi_icmp_ge (tgt := 21) (dec_of DX9_unflat 4 rfl) (by decide) (by first | omega | exact bnd_r _ _ | exact hG _ _ | exact hK _ | (simp (disch := decide) only [uN_s, uN_n]; omega)) (by first | omega | exact bnd_r _ _ | exact hG _ _ | exact hK _ | (simp (disch := decide) only [uN_s, uN_n]; omega)) (fun c5 => ?_) (fun c5 => absurd c5 (by omega))
    exact vi_vret (dec_of DX9_unflat 12 rfl) rfl ⟨by decide, by decide⟩ (hz)
  | succ m ih =>
    intro i g h0 h1 h2
    refine v_iload_n (dec_of DX9_unflat 2 rfl) rfl ?_
    refine vi_bi (dec_of DX9_unflat 3 rfl) (by decide) ?_
    refine vi_icmp_ge (tgt := 21) (dec_of DX9_unflat 4 rfl) (by decide) (by first | omega | exact bnd_r _ _ | exact hG _ _ | exact hK _ | (simp (disch := decide) only [uN_s, uN_n]; omega)) (by first | omega | exact bnd_r _ _ | exact hG _ _ | exact hK _ | (simp (disch := decide) only [uN_s, uN_n]; omega)) (fun c5 => absurd c5 (by omega)) (fun c5 => ?_)
    refine v_aload_n (dec_of DX9_unflat 5 rfl) rfl ?_
    refine v_get fX9_68 (dec_of DX9_unflat 6 rfl) rfl rfl ?_
    refine v_iload_n (dec_of DX9_unflat 7 rfl) rfl ?_
    refine vi_const (dec_of DX9_unflat 8 rfl) ?_
    refine ms_33 (dec_of DX9_unflat 9 rfl) (by first | omega | exact bnd_r _ _ | exact hG _ _ | exact hK _ | (simp (disch := decide) only [uN_s, uN_n]; omega)) ?_
    refine Vd_w (w' := W2 I N F K (uN G 33 (uI g i 0))) rfl ?_
    refine vi_inc (dec_of DX9_unflat 10 rfl) rfl (by decide) ?_
    dsimp only [List.set]
    refine v_goto (tgt := 2) (dec_of DX9_unflat 11 rfl) (by decide) ?_
    exact ih (i + 1) _ (by omega) (by omega) (by rw [clr_step (by omega)]; exact h2)
set_option maxRecDepth 100000 in
set_option maxHeartbeats 4000000 in
theorem q_unflat {I N : Nat → Int} {F : Nat → Int → Int} {K : Nat → Int} {G : Nat → Int → Int} (hG : FR G) (hK : IR K) (hM : MR K)  : Sd (rm 0 0 0 0) mX9_unflat [.ref 31] (W2 I N F K G) (W2 I N F K (uN G 33 (clr (G 33) 0 13))) (none) := by
  unfold Sd
  unfold MR at hM
  refine sp_of (ls := [some (.ref 31), none]) (by decide) (nle rfl) rfl rfl ?_
  refine vi_const (dec_of DX9_unflat 0 rfl) ?_
  refine v_istore_n (dec_of DX9_unflat 1 rfl) (by decide) ?_
  dsimp only [List.set]
  refine Vd_w (w' := W2 I N F K (uN G 33 (G 33))) (by rw [uN_self]) ?_
  exact q_uf_loop hG hK (by unfold MR; exact hM) ⟨rfl, rfl⟩ 13 0 (G 33) (by omega) (by omega) rfl
set_option maxRecDepth 100000 in
set_option maxHeartbeats 4000000 in
theorem q_syl0 {I N : Nat → Int} {F : Nat → Int → Int} {K : Nat → Int} {G : Nat → Int → Int} (hG : FR G) (hK : IR K) (hM : MR K) {a : Int} (ha : 0 ≤ a ∧ a < K 3)  : Sd (rm 1 23 0 0) mX9_syllable [.ref 31, J a, J 0] (W2 I N F K G) (W2 I N F K G) (some (J (G 8 a))) := by
  unfold Sd
  unfold MR at hM
  refine sp_of (ls := [some (.ref 31), some (J a), some (J 0)]) (by decide) (nle rfl) rfl rfl ?_
  refine v_iload_n (dec_of DX9_syllable 0 rfl) rfl ?_
  refine vi_const (dec_of DX9_syllable 1 rfl) ?_
  refine v_aload_n (dec_of DX9_syllable 2 rfl) rfl ?_
  refine v_get fX9_133 (dec_of DX9_syllable 3 rfl) rfl rfl ?_
  refine vi_const (dec_of DX9_syllable 4 rfl) ?_
  refine vi_sub (dec_of DX9_syllable 5 rfl) ?_
  refine v_S3r (q_in (by omega) (by omega) (by omega)) lX9_126 (dec_of DX9_syllable 6 rfl) (by decide) (nle rfl) rfl ?_
  refine vi_if_ne (tgt := 17) (dec_of DX9_syllable 7 rfl) (by decide) (by first | omega | exact bnd_r _ _ | exact hG _ _ | exact hK _ | (simp (disch := decide) only [uN_s, uN_n]; omega)) (fun c11 => ?_) (fun c11 => absurd c11 (by omega))
  refine v_iload_n (dec_of DX9_syllable 10 rfl) rfl ?_
  refine vi_tabIn (tgt := 56) (dec_of DX9_syllable 11 rfl) (by decide) (by decide) (by decide) rfl (by decide) ?_
  refine v_aload_n (dec_of DX9_syllable 12 rfl) rfl ?_
  refine v_get fX9_28 (dec_of DX9_syllable 13 rfl) rfl rfl ?_
  refine v_iload_n (dec_of DX9_syllable 14 rfl) rfl ?_
  refine vi_aload (dec_of DX9_syllable 15 rfl) rfl (by first | omega | exact bnd_r _ _ | exact hG _ _ | exact hK _ | (simp (disch := decide) only [uN_s, uN_n]; omega)) (by decide) ?_
  exact vi_ret (dec_of DX9_syllable 16 rfl) rfl ⟨by decide, by decide⟩ (⟨rfl, rfl⟩)
set_option maxRecDepth 100000 in
set_option maxHeartbeats 4000000 in
theorem q_syl1 {I N : Nat → Int} {F : Nat → Int → Int} {K : Nat → Int} {G : Nat → Int → Int} (hG : FR G) (hK : IR K) (hM : MR K) {a : Int} (ha : 0 ≤ a ∧ a < K 3)  : Sd (rm 1 23 0 0) mX9_syllable [.ref 31, J a, J 1] (W2 I N F K G) (W2 I N F K G) (some (J (G 5 a))) := by
  unfold Sd
  unfold MR at hM
  refine sp_of (ls := [some (.ref 31), some (J a), some (J 1)]) (by decide) (nle rfl) rfl rfl ?_
  refine v_iload_n (dec_of DX9_syllable 0 rfl) rfl ?_
  refine vi_const (dec_of DX9_syllable 1 rfl) ?_
  refine v_aload_n (dec_of DX9_syllable 2 rfl) rfl ?_
  refine v_get fX9_133 (dec_of DX9_syllable 3 rfl) rfl rfl ?_
  refine vi_const (dec_of DX9_syllable 4 rfl) ?_
  refine vi_sub (dec_of DX9_syllable 5 rfl) ?_
  refine v_S3r (q_in (by omega) (by omega) (by omega)) lX9_126 (dec_of DX9_syllable 6 rfl) (by decide) (nle rfl) rfl ?_
  refine vi_if_ne (tgt := 17) (dec_of DX9_syllable 7 rfl) (by decide) (by first | omega | exact bnd_r _ _ | exact hG _ _ | exact hK _ | (simp (disch := decide) only [uN_s, uN_n]; omega)) (fun c11 => ?_) (fun c11 => absurd c11 (by omega))
  refine v_iload_n (dec_of DX9_syllable 10 rfl) rfl ?_
  refine vi_tabIn (tgt := 63) (dec_of DX9_syllable 11 rfl) (by decide) (by decide) (by decide) rfl (by decide) ?_
  refine v_aload_n (dec_of DX9_syllable 17 rfl) rfl ?_
  refine v_get fX9_19 (dec_of DX9_syllable 18 rfl) rfl rfl ?_
  refine v_iload_n (dec_of DX9_syllable 19 rfl) rfl ?_
  refine vi_aload (dec_of DX9_syllable 20 rfl) rfl (by first | omega | exact bnd_r _ _ | exact hG _ _ | exact hK _ | (simp (disch := decide) only [uN_s, uN_n]; omega)) (by decide) ?_
  exact vi_ret (dec_of DX9_syllable 21 rfl) rfl ⟨by decide, by decide⟩ (⟨rfl, rfl⟩)
set_option maxRecDepth 100000 in
set_option maxHeartbeats 4000000 in
theorem q_syl2 {I N : Nat → Int} {F : Nat → Int → Int} {K : Nat → Int} {G : Nat → Int → Int} (hG : FR G) (hK : IR K) (hM : MR K) {a : Int} (ha : 0 ≤ a ∧ a < K 3)  : Sd (rm 1 23 0 0) mX9_syllable [.ref 31, J a, J 2] (W2 I N F K G) (W2 I N F K G) (some (J (G 6 a))) := by
  unfold Sd
  unfold MR at hM
  refine sp_of (ls := [some (.ref 31), some (J a), some (J 2)]) (by decide) (nle rfl) rfl rfl ?_
  refine v_iload_n (dec_of DX9_syllable 0 rfl) rfl ?_
  refine vi_const (dec_of DX9_syllable 1 rfl) ?_
  refine v_aload_n (dec_of DX9_syllable 2 rfl) rfl ?_
  refine v_get fX9_133 (dec_of DX9_syllable 3 rfl) rfl rfl ?_
  refine vi_const (dec_of DX9_syllable 4 rfl) ?_
  refine vi_sub (dec_of DX9_syllable 5 rfl) ?_
  refine v_S3r (q_in (by omega) (by omega) (by omega)) lX9_126 (dec_of DX9_syllable 6 rfl) (by decide) (nle rfl) rfl ?_
  refine vi_if_ne (tgt := 17) (dec_of DX9_syllable 7 rfl) (by decide) (by first | omega | exact bnd_r _ _ | exact hG _ _ | exact hK _ | (simp (disch := decide) only [uN_s, uN_n]; omega)) (fun c11 => ?_) (fun c11 => absurd c11 (by omega))
  refine v_iload_n (dec_of DX9_syllable 10 rfl) rfl ?_
  refine vi_tabIn (tgt := 70) (dec_of DX9_syllable 11 rfl) (by decide) (by decide) (by decide) rfl (by decide) ?_
  refine v_aload_n (dec_of DX9_syllable 22 rfl) rfl ?_
  refine v_get fX9_22 (dec_of DX9_syllable 23 rfl) rfl rfl ?_
  refine v_iload_n (dec_of DX9_syllable 24 rfl) rfl ?_
  refine vi_aload (dec_of DX9_syllable 25 rfl) rfl (by first | omega | exact bnd_r _ _ | exact hG _ _ | exact hK _ | (simp (disch := decide) only [uN_s, uN_n]; omega)) (by decide) ?_
  exact vi_ret (dec_of DX9_syllable 26 rfl) rfl ⟨by decide, by decide⟩ (⟨rfl, rfl⟩)
set_option maxRecDepth 100000 in
set_option maxHeartbeats 4000000 in
theorem q_syl3 {I N : Nat → Int} {F : Nat → Int → Int} {K : Nat → Int} {G : Nat → Int → Int} (hG : FR G) (hK : IR K) (hM : MR K) {a : Int} (ha : 0 ≤ a ∧ a < K 3)  : Sd (rm 1 23 0 0) mX9_syllable [.ref 31, J a, J 3] (W2 I N F K G) (W2 I N F K G) (some (J (G 7 a))) := by
  unfold Sd
  unfold MR at hM
  refine sp_of (ls := [some (.ref 31), some (J a), some (J 3)]) (by decide) (nle rfl) rfl rfl ?_
  refine v_iload_n (dec_of DX9_syllable 0 rfl) rfl ?_
  refine vi_const (dec_of DX9_syllable 1 rfl) ?_
  refine v_aload_n (dec_of DX9_syllable 2 rfl) rfl ?_
  refine v_get fX9_133 (dec_of DX9_syllable 3 rfl) rfl rfl ?_
  refine vi_const (dec_of DX9_syllable 4 rfl) ?_
  refine vi_sub (dec_of DX9_syllable 5 rfl) ?_
  refine v_S3r (q_in (by omega) (by omega) (by omega)) lX9_126 (dec_of DX9_syllable 6 rfl) (by decide) (nle rfl) rfl ?_
  refine vi_if_ne (tgt := 17) (dec_of DX9_syllable 7 rfl) (by decide) (by first | omega | exact bnd_r _ _ | exact hG _ _ | exact hK _ | (simp (disch := decide) only [uN_s, uN_n]; omega)) (fun c11 => ?_) (fun c11 => absurd c11 (by omega))
  refine v_iload_n (dec_of DX9_syllable 10 rfl) rfl ?_
  refine vi_tabIn (tgt := 77) (dec_of DX9_syllable 11 rfl) (by decide) (by decide) (by decide) rfl (by decide) ?_
  refine v_aload_n (dec_of DX9_syllable 27 rfl) rfl ?_
  refine v_get fX9_25 (dec_of DX9_syllable 28 rfl) rfl rfl ?_
  refine v_iload_n (dec_of DX9_syllable 29 rfl) rfl ?_
  refine vi_aload (dec_of DX9_syllable 30 rfl) rfl (by first | omega | exact bnd_r _ _ | exact hG _ _ | exact hK _ | (simp (disch := decide) only [uN_s, uN_n]; omega)) (by decide) ?_
  exact vi_ret (dec_of DX9_syllable 31 rfl) rfl ⟨by decide, by decide⟩ (⟨rfl, rfl⟩)
set_option maxRecDepth 100000 in
set_option maxHeartbeats 4000000 in
theorem q_syl4 {I N : Nat → Int} {F : Nat → Int → Int} {K : Nat → Int} {G : Nat → Int → Int} (hG : FR G) (hK : IR K) (hM : MR K) {a : Int} (ha : 0 ≤ a ∧ a < K 3)  : Sd (rm 1 23 0 0) mX9_syllable [.ref 31, J a, J 4] (W2 I N F K G) (W2 I N F K G) (some (J (cnM (G 18) a (K 15).toNat))) := by
  unfold Sd
  unfold MR at hM
  refine sp_of (ls := [some (.ref 31), some (J a), some (J 4)]) (by decide) (nle rfl) rfl rfl ?_
  refine v_iload_n (dec_of DX9_syllable 0 rfl) rfl ?_
  refine vi_const (dec_of DX9_syllable 1 rfl) ?_
  refine v_aload_n (dec_of DX9_syllable 2 rfl) rfl ?_
  refine v_get fX9_133 (dec_of DX9_syllable 3 rfl) rfl rfl ?_
  refine vi_const (dec_of DX9_syllable 4 rfl) ?_
  refine vi_sub (dec_of DX9_syllable 5 rfl) ?_
  refine v_S3r (q_in (by omega) (by omega) (by omega)) lX9_126 (dec_of DX9_syllable 6 rfl) (by decide) (nle rfl) rfl ?_
  refine vi_if_ne (tgt := 17) (dec_of DX9_syllable 7 rfl) (by decide) (by first | omega | exact bnd_r _ _ | exact hG _ _ | exact hK _ | (simp (disch := decide) only [uN_s, uN_n]; omega)) (fun c11 => ?_) (fun c11 => absurd c11 (by omega))
  refine v_iload_n (dec_of DX9_syllable 10 rfl) rfl ?_
  refine vi_tabIn (tgt := 84) (dec_of DX9_syllable 11 rfl) (by decide) (by decide) (by decide) rfl (by decide) ?_
  refine v_aload_n (dec_of DX9_syllable 32 rfl) rfl ?_
  refine v_iload_n (dec_of DX9_syllable 33 rfl) rfl ?_
  refine v_V1r (q_notesOf hG hK (by unfold MR; exact hM) (by omega)) lX9_231 (dec_of DX9_syllable 34 rfl) rfl rfl (by decide) (nle rfl) rfl ?_
  exact vi_ret (dec_of DX9_syllable 35 rfl) rfl ⟨by decide, by decide⟩ (⟨rfl, rfl⟩)
set_option maxRecDepth 100000 in
set_option maxHeartbeats 4000000 in
theorem q_syl5 {I N : Nat → Int} {F : Nat → Int → Int} {K : Nat → Int} {G : Nat → Int → Int} (hG : FR G) (hK : IR K) (hM : MR K) {a : Int} (ha : 0 ≤ a ∧ a < K 3)  : Sd (rm 1 23 0 0) mX9_syllable [.ref 31, J a, J 5] (W2 I N F K G) (W2 I N F K G) (some (J (fsD (G 18) a (K 15).toNat (-100)))) := by
  unfold Sd
  unfold MR at hM
  refine sp_of (ls := [some (.ref 31), some (J a), some (J 5)]) (by decide) (nle rfl) rfl rfl ?_
  refine v_iload_n (dec_of DX9_syllable 0 rfl) rfl ?_
  refine vi_const (dec_of DX9_syllable 1 rfl) ?_
  refine v_aload_n (dec_of DX9_syllable 2 rfl) rfl ?_
  refine v_get fX9_133 (dec_of DX9_syllable 3 rfl) rfl rfl ?_
  refine vi_const (dec_of DX9_syllable 4 rfl) ?_
  refine vi_sub (dec_of DX9_syllable 5 rfl) ?_
  refine v_S3r (q_in (by omega) (by omega) (by omega)) lX9_126 (dec_of DX9_syllable 6 rfl) (by decide) (nle rfl) rfl ?_
  refine vi_if_ne (tgt := 17) (dec_of DX9_syllable 7 rfl) (by decide) (by first | omega | exact bnd_r _ _ | exact hG _ _ | exact hK _ | (simp (disch := decide) only [uN_s, uN_n]; omega)) (fun c11 => ?_) (fun c11 => absurd c11 (by omega))
  refine v_iload_n (dec_of DX9_syllable 10 rfl) rfl ?_
  refine vi_tabIn (tgt := 90) (dec_of DX9_syllable 11 rfl) (by decide) (by decide) (by decide) rfl (by decide) ?_
  refine v_aload_n (dec_of DX9_syllable 36 rfl) rfl ?_
  refine v_iload_n (dec_of DX9_syllable 37 rfl) rfl ?_
  refine v_V1r (q_firstOf hG hK (by unfold MR; exact hM) (by omega)) lX9_234 (dec_of DX9_syllable 38 rfl) rfl rfl (by decide) (nle rfl) rfl ?_
  exact vi_ret (dec_of DX9_syllable 39 rfl) rfl ⟨by decide, by decide⟩ (⟨rfl, rfl⟩)
set_option maxRecDepth 100000 in
set_option maxHeartbeats 4000000 in
theorem q_syl_un {I N : Nat → Int} {F : Nat → Int → Int} {K : Nat → Int} {G : Nat → Int → Int} (hG : FR G) (hK : IR K) (hM : MR K) {a b : Int} (ha : -2147483648 ≤ a ∧ a < 2147483648) (h : ¬ (0 ≤ a ∧ a < K 3)) : Sd (rm 1 23 0 0) mX9_syllable [.ref 31, J a, J b] (W2 I N F K G) (W2 I N F K G) (some (J (-101))) := by
  unfold Sd
  unfold MR at hM
  refine sp_of (ls := [some (.ref 31), some (J a), some (J b)]) (by decide) (nle rfl) rfl rfl ?_
  refine v_iload_n (dec_of DX9_syllable 0 rfl) rfl ?_
  refine vi_const (dec_of DX9_syllable 1 rfl) ?_
  refine v_aload_n (dec_of DX9_syllable 2 rfl) rfl ?_
  refine v_get fX9_133 (dec_of DX9_syllable 3 rfl) rfl rfl ?_
  refine vi_const (dec_of DX9_syllable 4 rfl) ?_
  refine vi_sub (dec_of DX9_syllable 5 rfl) ?_
  refine v_S3r (q_in (by omega) (by omega) (by omega)) lX9_126 (dec_of DX9_syllable 6 rfl) (by decide) (nle rfl) rfl ?_
  refine vi_if_ne (tgt := 17) (dec_of DX9_syllable 7 rfl) (by decide) (by first | omega | exact bnd_r _ _ | exact hG _ _ | exact hK _ | (simp (disch := decide) only [uN_s, uN_n]; omega)) (fun c11 => absurd c11 (by omega)) (fun c11 => ?_)
  refine vi_bi (dec_of DX9_syllable 8 rfl) (by decide) ?_
  exact vi_ret (dec_of DX9_syllable 9 rfl) rfl ⟨by decide, by decide⟩ (⟨rfl, rfl⟩)
set_option maxRecDepth 100000 in
set_option maxHeartbeats 4000000 in
theorem q_syl_out {I N : Nat → Int} {F : Nat → Int → Int} {K : Nat → Int} {G : Nat → Int → Int} (hG : FR G) (hK : IR K) (hM : MR K) {a b : Int} (hb : -2147483648 ≤ b ∧ b < 2147483648) (ha : 0 ≤ a ∧ a < K 3) (h : ¬ (0 ≤ b ∧ b ≤ 5)) : Sd (rm 1 23 0 0) mX9_syllable [.ref 31, J a, J b] (W2 I N F K G) (W2 I N F K G) (some (J (-102))) := by
  unfold Sd
  unfold MR at hM
  refine sp_of (ls := [some (.ref 31), some (J a), some (J b)]) (by decide) (nle rfl) rfl rfl ?_
  refine v_iload_n (dec_of DX9_syllable 0 rfl) rfl ?_
  refine vi_const (dec_of DX9_syllable 1 rfl) ?_
  refine v_aload_n (dec_of DX9_syllable 2 rfl) rfl ?_
  refine v_get fX9_133 (dec_of DX9_syllable 3 rfl) rfl rfl ?_
  refine vi_const (dec_of DX9_syllable 4 rfl) ?_
  refine vi_sub (dec_of DX9_syllable 5 rfl) ?_
  refine v_S3r (q_in (by omega) (by omega) (by omega)) lX9_126 (dec_of DX9_syllable 6 rfl) (by decide) (nle rfl) rfl ?_
  refine vi_if_ne (tgt := 17) (dec_of DX9_syllable 7 rfl) (by decide) (by first | omega | exact bnd_r _ _ | exact hG _ _ | exact hK _ | (simp (disch := decide) only [uN_s, uN_n]; omega)) (fun c11 => ?_) (fun c11 => absurd c11 (by omega))
  refine v_iload_n (dec_of DX9_syllable 10 rfl) rfl ?_
  refine vi_tabOut (tgt := 96) (dec_of DX9_syllable 11 rfl) (by omega) (by omega) (by decide) ?_
  refine vi_bi (dec_of DX9_syllable 40 rfl) (by decide) ?_
  exact vi_ret (dec_of DX9_syllable 41 rfl) rfl ⟨by decide, by decide⟩ (⟨rfl, rfl⟩)
set_option maxRecDepth 100000 in
set_option maxHeartbeats 4000000 in
theorem q_note0 {I N : Nat → Int} {F : Nat → Int → Int} {K : Nat → Int} {G : Nat → Int → Int} (hG : FR G) (hK : IR K) (hM : MR K) {a : Int} (ha : 0 ≤ a ∧ a < K 15)  : Sd (rm 1 22 0 0) mX9_note [.ref 31, J a, J 0] (W2 I N F K G) (W2 I N F K G) (some (J (G 16 a))) := by
  unfold Sd
  unfold MR at hM
  refine sp_of (ls := [some (.ref 31), some (J a), some (J 0)]) (by decide) (nle rfl) rfl rfl ?_
  refine v_iload_n (dec_of DX9_note 0 rfl) rfl ?_
  refine vi_const (dec_of DX9_note 1 rfl) ?_
  refine v_aload_n (dec_of DX9_note 2 rfl) rfl ?_
  refine v_get fX9_142 (dec_of DX9_note 3 rfl) rfl rfl ?_
  refine vi_const (dec_of DX9_note 4 rfl) ?_
  refine vi_sub (dec_of DX9_note 5 rfl) ?_
  refine v_S3r (q_in (by omega) (by omega) (by omega)) lX9_126 (dec_of DX9_note 6 rfl) (by decide) (nle rfl) rfl ?_
  refine vi_if_ne (tgt := 17) (dec_of DX9_note 7 rfl) (by decide) (by first | omega | exact bnd_r _ _ | exact hG _ _ | exact hK _ | (simp (disch := decide) only [uN_s, uN_n]; omega)) (fun c11 => ?_) (fun c11 => absurd c11 (by omega))
  refine v_iload_n (dec_of DX9_note 10 rfl) rfl ?_
  refine vi_tabIn (tgt := 64) (dec_of DX9_note 11 rfl) (by decide) (by decide) (by decide) rfl (by decide) ?_
  refine v_aload_n (dec_of DX9_note 12 rfl) rfl ?_
  refine v_get fX9_43 (dec_of DX9_note 13 rfl) rfl rfl ?_
  refine v_iload_n (dec_of DX9_note 14 rfl) rfl ?_
  refine vi_aload (dec_of DX9_note 15 rfl) rfl (by first | omega | exact bnd_r _ _ | exact hG _ _ | exact hK _ | (simp (disch := decide) only [uN_s, uN_n]; omega)) (by decide) ?_
  exact vi_ret (dec_of DX9_note 16 rfl) rfl ⟨by decide, by decide⟩ (⟨rfl, rfl⟩)
set_option maxRecDepth 100000 in
set_option maxHeartbeats 4000000 in
theorem q_note1 {I N : Nat → Int} {F : Nat → Int → Int} {K : Nat → Int} {G : Nat → Int → Int} (hG : FR G) (hK : IR K) (hM : MR K) {a : Int} (ha : 0 ≤ a ∧ a < K 15)  : Sd (rm 1 22 0 0) mX9_note [.ref 31, J a, J 1] (W2 I N F K G) (W2 I N F K G) (some (J (G 17 a))) := by
  unfold Sd
  unfold MR at hM
  refine sp_of (ls := [some (.ref 31), some (J a), some (J 1)]) (by decide) (nle rfl) rfl rfl ?_
  refine v_iload_n (dec_of DX9_note 0 rfl) rfl ?_
  refine vi_const (dec_of DX9_note 1 rfl) ?_
  refine v_aload_n (dec_of DX9_note 2 rfl) rfl ?_
  refine v_get fX9_142 (dec_of DX9_note 3 rfl) rfl rfl ?_
  refine vi_const (dec_of DX9_note 4 rfl) ?_
  refine vi_sub (dec_of DX9_note 5 rfl) ?_
  refine v_S3r (q_in (by omega) (by omega) (by omega)) lX9_126 (dec_of DX9_note 6 rfl) (by decide) (nle rfl) rfl ?_
  refine vi_if_ne (tgt := 17) (dec_of DX9_note 7 rfl) (by decide) (by first | omega | exact bnd_r _ _ | exact hG _ _ | exact hK _ | (simp (disch := decide) only [uN_s, uN_n]; omega)) (fun c11 => ?_) (fun c11 => absurd c11 (by omega))
  refine v_iload_n (dec_of DX9_note 10 rfl) rfl ?_
  refine vi_tabIn (tgt := 71) (dec_of DX9_note 11 rfl) (by decide) (by decide) (by decide) rfl (by decide) ?_
  refine v_aload_n (dec_of DX9_note 17 rfl) rfl ?_
  refine v_get fX9_46 (dec_of DX9_note 18 rfl) rfl rfl ?_
  refine v_iload_n (dec_of DX9_note 19 rfl) rfl ?_
  refine vi_aload (dec_of DX9_note 20 rfl) rfl (by first | omega | exact bnd_r _ _ | exact hG _ _ | exact hK _ | (simp (disch := decide) only [uN_s, uN_n]; omega)) (by decide) ?_
  exact vi_ret (dec_of DX9_note 21 rfl) rfl ⟨by decide, by decide⟩ (⟨rfl, rfl⟩)
set_option maxRecDepth 100000 in
set_option maxHeartbeats 4000000 in
theorem q_note2 {I N : Nat → Int} {F : Nat → Int → Int} {K : Nat → Int} {G : Nat → Int → Int} (hG : FR G) (hK : IR K) (hM : MR K) {a : Int} (ha : 0 ≤ a ∧ a < K 15)  : Sd (rm 1 22 0 0) mX9_note [.ref 31, J a, J 2] (W2 I N F K G) (W2 I N F K G) (some (J (G 18 a))) := by
  unfold Sd
  unfold MR at hM
  refine sp_of (ls := [some (.ref 31), some (J a), some (J 2)]) (by decide) (nle rfl) rfl rfl ?_
  refine v_iload_n (dec_of DX9_note 0 rfl) rfl ?_
  refine vi_const (dec_of DX9_note 1 rfl) ?_
  refine v_aload_n (dec_of DX9_note 2 rfl) rfl ?_
  refine v_get fX9_142 (dec_of DX9_note 3 rfl) rfl rfl ?_
  refine vi_const (dec_of DX9_note 4 rfl) ?_
  refine vi_sub (dec_of DX9_note 5 rfl) ?_
  refine v_S3r (q_in (by omega) (by omega) (by omega)) lX9_126 (dec_of DX9_note 6 rfl) (by decide) (nle rfl) rfl ?_
  refine vi_if_ne (tgt := 17) (dec_of DX9_note 7 rfl) (by decide) (by first | omega | exact bnd_r _ _ | exact hG _ _ | exact hK _ | (simp (disch := decide) only [uN_s, uN_n]; omega)) (fun c11 => ?_) (fun c11 => absurd c11 (by omega))
  refine v_iload_n (dec_of DX9_note 10 rfl) rfl ?_
  refine vi_tabIn (tgt := 78) (dec_of DX9_note 11 rfl) (by decide) (by decide) (by decide) rfl (by decide) ?_
  refine v_aload_n (dec_of DX9_note 22 rfl) rfl ?_
  refine v_get fX9_49 (dec_of DX9_note 23 rfl) rfl rfl ?_
  refine v_iload_n (dec_of DX9_note 24 rfl) rfl ?_
  refine vi_aload (dec_of DX9_note 25 rfl) rfl (by first | omega | exact bnd_r _ _ | exact hG _ _ | exact hK _ | (simp (disch := decide) only [uN_s, uN_n]; omega)) (by decide) ?_
  exact vi_ret (dec_of DX9_note 26 rfl) rfl ⟨by decide, by decide⟩ (⟨rfl, rfl⟩)
set_option maxRecDepth 100000 in
set_option maxHeartbeats 4000000 in
theorem q_note3 {I N : Nat → Int} {F : Nat → Int → Int} {K : Nat → Int} {G : Nat → Int → Int} (hG : FR G) (hK : IR K) (hM : MR K) {a : Int} (ha : 0 ≤ a ∧ a < K 15)  : Sd (rm 1 22 0 0) mX9_note [.ref 31, J a, J 3] (W2 I N F K G) (W2 I N F K G) (some (J (G 19 a))) := by
  unfold Sd
  unfold MR at hM
  refine sp_of (ls := [some (.ref 31), some (J a), some (J 3)]) (by decide) (nle rfl) rfl rfl ?_
  refine v_iload_n (dec_of DX9_note 0 rfl) rfl ?_
  refine vi_const (dec_of DX9_note 1 rfl) ?_
  refine v_aload_n (dec_of DX9_note 2 rfl) rfl ?_
  refine v_get fX9_142 (dec_of DX9_note 3 rfl) rfl rfl ?_
  refine vi_const (dec_of DX9_note 4 rfl) ?_
  refine vi_sub (dec_of DX9_note 5 rfl) ?_
  refine v_S3r (q_in (by omega) (by omega) (by omega)) lX9_126 (dec_of DX9_note 6 rfl) (by decide) (nle rfl) rfl ?_
  refine vi_if_ne (tgt := 17) (dec_of DX9_note 7 rfl) (by decide) (by first | omega | exact bnd_r _ _ | exact hG _ _ | exact hK _ | (simp (disch := decide) only [uN_s, uN_n]; omega)) (fun c11 => ?_) (fun c11 => absurd c11 (by omega))
  refine v_iload_n (dec_of DX9_note 10 rfl) rfl ?_
  refine vi_tabIn (tgt := 85) (dec_of DX9_note 11 rfl) (by decide) (by decide) (by decide) rfl (by decide) ?_
  refine v_aload_n (dec_of DX9_note 27 rfl) rfl ?_
  refine v_get fX9_52 (dec_of DX9_note 28 rfl) rfl rfl ?_
  refine v_iload_n (dec_of DX9_note 29 rfl) rfl ?_
  refine vi_aload (dec_of DX9_note 30 rfl) rfl (by first | omega | exact bnd_r _ _ | exact hG _ _ | exact hK _ | (simp (disch := decide) only [uN_s, uN_n]; omega)) (by decide) ?_
  exact vi_ret (dec_of DX9_note 31 rfl) rfl ⟨by decide, by decide⟩ (⟨rfl, rfl⟩)
set_option maxRecDepth 100000 in
set_option maxHeartbeats 4000000 in
theorem q_note4 {I N : Nat → Int} {F : Nat → Int → Int} {K : Nat → Int} {G : Nat → Int → Int} (hG : FR G) (hK : IR K) (hM : MR K) {a : Int} (ha : 0 ≤ a ∧ a < K 15)  : Sd (rm 1 22 0 0) mX9_note [.ref 31, J a, J 4] (W2 I N F K G) (W2 I N F K G) (some (J (G 39 a))) := by
  unfold Sd
  unfold MR at hM
  refine sp_of (ls := [some (.ref 31), some (J a), some (J 4)]) (by decide) (nle rfl) rfl rfl ?_
  refine v_iload_n (dec_of DX9_note 0 rfl) rfl ?_
  refine vi_const (dec_of DX9_note 1 rfl) ?_
  refine v_aload_n (dec_of DX9_note 2 rfl) rfl ?_
  refine v_get fX9_142 (dec_of DX9_note 3 rfl) rfl rfl ?_
  refine vi_const (dec_of DX9_note 4 rfl) ?_
  refine vi_sub (dec_of DX9_note 5 rfl) ?_
  refine v_S3r (q_in (by omega) (by omega) (by omega)) lX9_126 (dec_of DX9_note 6 rfl) (by decide) (nle rfl) rfl ?_
  refine vi_if_ne (tgt := 17) (dec_of DX9_note 7 rfl) (by decide) (by first | omega | exact bnd_r _ _ | exact hG _ _ | exact hK _ | (simp (disch := decide) only [uN_s, uN_n]; omega)) (fun c11 => ?_) (fun c11 => absurd c11 (by omega))
  refine v_iload_n (dec_of DX9_note 10 rfl) rfl ?_
  refine vi_tabIn (tgt := 92) (dec_of DX9_note 11 rfl) (by decide) (by decide) (by decide) rfl (by decide) ?_
  refine v_aload_n (dec_of DX9_note 32 rfl) rfl ?_
  refine v_get fX9_83 (dec_of DX9_note 33 rfl) rfl rfl ?_
  refine v_iload_n (dec_of DX9_note 34 rfl) rfl ?_
  refine vi_aload (dec_of DX9_note 35 rfl) rfl (by first | omega | exact bnd_r _ _ | exact hG _ _ | exact hK _ | (simp (disch := decide) only [uN_s, uN_n]; omega)) (by decide) ?_
  exact vi_ret (dec_of DX9_note 36 rfl) rfl ⟨by decide, by decide⟩ (⟨rfl, rfl⟩)
set_option maxRecDepth 100000 in
set_option maxHeartbeats 4000000 in
theorem q_note5 {I N : Nat → Int} {F : Nat → Int → Int} {K : Nat → Int} {G : Nat → Int → Int} (hG : FR G) (hK : IR K) (hM : MR K) {a : Int} (ha : 0 ≤ a ∧ a < K 15)  : Sd (rm 1 22 0 0) mX9_note [.ref 31, J a, J 5] (W2 I N F K G) (W2 I N F K G) (some (J (G 30 a))) := by
  unfold Sd
  unfold MR at hM
  refine sp_of (ls := [some (.ref 31), some (J a), some (J 5)]) (by decide) (nle rfl) rfl rfl ?_
  refine v_iload_n (dec_of DX9_note 0 rfl) rfl ?_
  refine vi_const (dec_of DX9_note 1 rfl) ?_
  refine v_aload_n (dec_of DX9_note 2 rfl) rfl ?_
  refine v_get fX9_142 (dec_of DX9_note 3 rfl) rfl rfl ?_
  refine vi_const (dec_of DX9_note 4 rfl) ?_
  refine vi_sub (dec_of DX9_note 5 rfl) ?_
  refine v_S3r (q_in (by omega) (by omega) (by omega)) lX9_126 (dec_of DX9_note 6 rfl) (by decide) (nle rfl) rfl ?_
  refine vi_if_ne (tgt := 17) (dec_of DX9_note 7 rfl) (by decide) (by first | omega | exact bnd_r _ _ | exact hG _ _ | exact hK _ | (simp (disch := decide) only [uN_s, uN_n]; omega)) (fun c11 => ?_) (fun c11 => absurd c11 (by omega))
  refine v_iload_n (dec_of DX9_note 10 rfl) rfl ?_
  refine vi_tabIn (tgt := 99) (dec_of DX9_note 11 rfl) (by decide) (by decide) (by decide) rfl (by decide) ?_
  refine v_aload_n (dec_of DX9_note 37 rfl) rfl ?_
  refine v_get fX9_59 (dec_of DX9_note 38 rfl) rfl rfl ?_
  refine v_iload_n (dec_of DX9_note 39 rfl) rfl ?_
  refine vi_aload (dec_of DX9_note 40 rfl) rfl (by first | omega | exact bnd_r _ _ | exact hG _ _ | exact hK _ | (simp (disch := decide) only [uN_s, uN_n]; omega)) (by decide) ?_
  exact vi_ret (dec_of DX9_note 41 rfl) rfl ⟨by decide, by decide⟩ (⟨rfl, rfl⟩)
set_option maxRecDepth 100000 in
set_option maxHeartbeats 4000000 in
theorem q_note6 {I N : Nat → Int} {F : Nat → Int → Int} {K : Nat → Int} {G : Nat → Int → Int} (hG : FR G) (hK : IR K) (hM : MR K) {a : Int} (ha : 0 ≤ a ∧ a < K 15)  : Sd (rm 1 22 0 0) mX9_note [.ref 31, J a, J 6] (W2 I N F K G) (W2 I N F K G) (some (J (G 31 a))) := by
  unfold Sd
  unfold MR at hM
  refine sp_of (ls := [some (.ref 31), some (J a), some (J 6)]) (by decide) (nle rfl) rfl rfl ?_
  refine v_iload_n (dec_of DX9_note 0 rfl) rfl ?_
  refine vi_const (dec_of DX9_note 1 rfl) ?_
  refine v_aload_n (dec_of DX9_note 2 rfl) rfl ?_
  refine v_get fX9_142 (dec_of DX9_note 3 rfl) rfl rfl ?_
  refine vi_const (dec_of DX9_note 4 rfl) ?_
  refine vi_sub (dec_of DX9_note 5 rfl) ?_
  refine v_S3r (q_in (by omega) (by omega) (by omega)) lX9_126 (dec_of DX9_note 6 rfl) (by decide) (nle rfl) rfl ?_
  refine vi_if_ne (tgt := 17) (dec_of DX9_note 7 rfl) (by decide) (by first | omega | exact bnd_r _ _ | exact hG _ _ | exact hK _ | (simp (disch := decide) only [uN_s, uN_n]; omega)) (fun c11 => ?_) (fun c11 => absurd c11 (by omega))
  refine v_iload_n (dec_of DX9_note 10 rfl) rfl ?_
  refine vi_tabIn (tgt := 106) (dec_of DX9_note 11 rfl) (by decide) (by decide) (by decide) rfl (by decide) ?_
  refine v_aload_n (dec_of DX9_note 42 rfl) rfl ?_
  refine v_get fX9_62 (dec_of DX9_note 43 rfl) rfl rfl ?_
  refine v_iload_n (dec_of DX9_note 44 rfl) rfl ?_
  refine vi_aload (dec_of DX9_note 45 rfl) rfl (by first | omega | exact bnd_r _ _ | exact hG _ _ | exact hK _ | (simp (disch := decide) only [uN_s, uN_n]; omega)) (by decide) ?_
  exact vi_ret (dec_of DX9_note 46 rfl) rfl ⟨by decide, by decide⟩ (⟨rfl, rfl⟩)
set_option maxRecDepth 100000 in
set_option maxHeartbeats 4000000 in
theorem q_note7 {I N : Nat → Int} {F : Nat → Int → Int} {K : Nat → Int} {G : Nat → Int → Int} (hG : FR G) (hK : IR K) (hM : MR K) {a : Int} (ha : 0 ≤ a ∧ a < K 15)  : Sd (rm 1 22 0 0) mX9_note [.ref 31, J a, J 7] (W2 I N F K G) (W2 I N F K G) (some (J (lnM K G a))) := by
  unfold Sd
  unfold MR at hM
  refine sp_of (ls := [some (.ref 31), some (J a), some (J 7)]) (by decide) (nle rfl) rfl rfl ?_
  refine v_iload_n (dec_of DX9_note 0 rfl) rfl ?_
  refine vi_const (dec_of DX9_note 1 rfl) ?_
  refine v_aload_n (dec_of DX9_note 2 rfl) rfl ?_
  refine v_get fX9_142 (dec_of DX9_note 3 rfl) rfl rfl ?_
  refine vi_const (dec_of DX9_note 4 rfl) ?_
  refine vi_sub (dec_of DX9_note 5 rfl) ?_
  refine v_S3r (q_in (by omega) (by omega) (by omega)) lX9_126 (dec_of DX9_note 6 rfl) (by decide) (nle rfl) rfl ?_
  refine vi_if_ne (tgt := 17) (dec_of DX9_note 7 rfl) (by decide) (by first | omega | exact bnd_r _ _ | exact hG _ _ | exact hK _ | (simp (disch := decide) only [uN_s, uN_n]; omega)) (fun c11 => ?_) (fun c11 => absurd c11 (by omega))
  refine v_iload_n (dec_of DX9_note 10 rfl) rfl ?_
  refine vi_tabIn (tgt := 113) (dec_of DX9_note 11 rfl) (by decide) (by decide) (by decide) rfl (by decide) ?_
  refine v_aload_n (dec_of DX9_note 47 rfl) rfl ?_
  refine v_iload_n (dec_of DX9_note 48 rfl) rfl ?_
  refine v_V1r (q_lengthOf hG hK (by unfold MR; exact hM) ha) lX9_237 (dec_of DX9_note 49 rfl) rfl rfl (by decide) (nle rfl) rfl ?_
  exact vi_ret (dec_of DX9_note 50 rfl) rfl ⟨by decide, by decide⟩ (⟨rfl, rfl⟩)
set_option maxRecDepth 100000 in
set_option maxHeartbeats 4000000 in
theorem q_note_un {I N : Nat → Int} {F : Nat → Int → Int} {K : Nat → Int} {G : Nat → Int → Int} (hG : FR G) (hK : IR K) (hM : MR K) {a b : Int} (ha : -2147483648 ≤ a ∧ a < 2147483648) (h : ¬ (0 ≤ a ∧ a < K 15)) : Sd (rm 1 22 0 0) mX9_note [.ref 31, J a, J b] (W2 I N F K G) (W2 I N F K G) (some (J (-101))) := by
  unfold Sd
  unfold MR at hM
  refine sp_of (ls := [some (.ref 31), some (J a), some (J b)]) (by decide) (nle rfl) rfl rfl ?_
  refine v_iload_n (dec_of DX9_note 0 rfl) rfl ?_
  refine vi_const (dec_of DX9_note 1 rfl) ?_
  refine v_aload_n (dec_of DX9_note 2 rfl) rfl ?_
  refine v_get fX9_142 (dec_of DX9_note 3 rfl) rfl rfl ?_
  refine vi_const (dec_of DX9_note 4 rfl) ?_
  refine vi_sub (dec_of DX9_note 5 rfl) ?_
  refine v_S3r (q_in (by omega) (by omega) (by omega)) lX9_126 (dec_of DX9_note 6 rfl) (by decide) (nle rfl) rfl ?_
  refine vi_if_ne (tgt := 17) (dec_of DX9_note 7 rfl) (by decide) (by first | omega | exact bnd_r _ _ | exact hG _ _ | exact hK _ | (simp (disch := decide) only [uN_s, uN_n]; omega)) (fun c11 => absurd c11 (by omega)) (fun c11 => ?_)
  refine vi_bi (dec_of DX9_note 8 rfl) (by decide) ?_
  exact vi_ret (dec_of DX9_note 9 rfl) rfl ⟨by decide, by decide⟩ (⟨rfl, rfl⟩)
set_option maxRecDepth 100000 in
set_option maxHeartbeats 4000000 in
theorem q_note_out {I N : Nat → Int} {F : Nat → Int → Int} {K : Nat → Int} {G : Nat → Int → Int} (hG : FR G) (hK : IR K) (hM : MR K) {a b : Int} (hb : -2147483648 ≤ b ∧ b < 2147483648) (ha : 0 ≤ a ∧ a < K 15) (h : ¬ (0 ≤ b ∧ b ≤ 7)) : Sd (rm 1 22 0 0) mX9_note [.ref 31, J a, J b] (W2 I N F K G) (W2 I N F K G) (some (J (-102))) := by
  unfold Sd
  unfold MR at hM
  refine sp_of (ls := [some (.ref 31), some (J a), some (J b)]) (by decide) (nle rfl) rfl rfl ?_
  refine v_iload_n (dec_of DX9_note 0 rfl) rfl ?_
  refine vi_const (dec_of DX9_note 1 rfl) ?_
  refine v_aload_n (dec_of DX9_note 2 rfl) rfl ?_
  refine v_get fX9_142 (dec_of DX9_note 3 rfl) rfl rfl ?_
  refine vi_const (dec_of DX9_note 4 rfl) ?_
  refine vi_sub (dec_of DX9_note 5 rfl) ?_
  refine v_S3r (q_in (by omega) (by omega) (by omega)) lX9_126 (dec_of DX9_note 6 rfl) (by decide) (nle rfl) rfl ?_
  refine vi_if_ne (tgt := 17) (dec_of DX9_note 7 rfl) (by decide) (by first | omega | exact bnd_r _ _ | exact hG _ _ | exact hK _ | (simp (disch := decide) only [uN_s, uN_n]; omega)) (fun c11 => ?_) (fun c11 => absurd c11 (by omega))
  refine v_iload_n (dec_of DX9_note 10 rfl) rfl ?_
  refine vi_tabOut (tgt := 119) (dec_of DX9_note 11 rfl) (by omega) (by omega) (by decide) ?_
  refine vi_bi (dec_of DX9_note 51 rfl) (by decide) ?_
  exact vi_ret (dec_of DX9_note 52 rfl) rfl ⟨by decide, by decide⟩ (⟨rfl, rfl⟩)
set_option maxRecDepth 100000 in
set_option maxHeartbeats 4000000 in
theorem q_neume0 {I N : Nat → Int} {F : Nat → Int → Int} {K : Nat → Int} {G : Nat → Int → Int} (hG : FR G) (hK : IR K) (hM : MR K) {a : Int} (ha : 0 ≤ a ∧ a < K 35) (hq : 0 ≤ G 37 a + G 38 a - 1 ∧ G 37 a + G 38 a - 1 < 150) : Sd (rm 1 22 0 0) mX9_neume [.ref 31, J a, J 0] (W2 I N F K G) (W2 I N F K G) (some (J (G 36 a))) := by
  unfold Sd
  unfold MR at hM
  refine sp_of (ls := [some (.ref 31), some (J a), some (J 0)]) (by decide) (nle rfl) rfl rfl ?_
  refine v_iload_n (dec_of DX9_neume 0 rfl) rfl ?_
  refine vi_const (dec_of DX9_neume 1 rfl) ?_
  refine v_aload_n (dec_of DX9_neume 2 rfl) rfl ?_
  refine v_get fX9_163 (dec_of DX9_neume 3 rfl) rfl rfl ?_
  refine vi_const (dec_of DX9_neume 4 rfl) ?_
  refine vi_sub (dec_of DX9_neume 5 rfl) ?_
  refine v_S3r (q_in (by omega) (by omega) (by omega)) lX9_126 (dec_of DX9_neume 6 rfl) (by decide) (nle rfl) rfl ?_
  refine vi_if_ne (tgt := 17) (dec_of DX9_neume 7 rfl) (by decide) (by first | omega | exact bnd_r _ _ | exact hG _ _ | exact hK _ | (simp (disch := decide) only [uN_s, uN_n]; omega)) (fun c11 => ?_) (fun c11 => absurd c11 (by omega))
  refine v_iload_n (dec_of DX9_neume 10 rfl) rfl ?_
  refine vi_tabIn (tgt := 48) (dec_of DX9_neume 11 rfl) (by decide) (by decide) (by decide) rfl (by decide) ?_
  refine v_aload_n (dec_of DX9_neume 12 rfl) rfl ?_
  refine v_get fX9_74 (dec_of DX9_neume 13 rfl) rfl rfl ?_
  refine v_iload_n (dec_of DX9_neume 14 rfl) rfl ?_
  refine vi_aload (dec_of DX9_neume 15 rfl) rfl (by first | omega | exact bnd_r _ _ | exact hG _ _ | exact hK _ | (simp (disch := decide) only [uN_s, uN_n]; omega)) (by decide) ?_
  exact vi_ret (dec_of DX9_neume 16 rfl) rfl ⟨by decide, by decide⟩ (⟨rfl, rfl⟩)
set_option maxRecDepth 100000 in
set_option maxHeartbeats 4000000 in
theorem q_neume1 {I N : Nat → Int} {F : Nat → Int → Int} {K : Nat → Int} {G : Nat → Int → Int} (hG : FR G) (hK : IR K) (hM : MR K) {a : Int} (ha : 0 ≤ a ∧ a < K 35) (hq : 0 ≤ G 37 a + G 38 a - 1 ∧ G 37 a + G 38 a - 1 < 150) : Sd (rm 1 22 0 0) mX9_neume [.ref 31, J a, J 1] (W2 I N F K G) (W2 I N F K G) (some (J (G 37 a))) := by
  unfold Sd
  unfold MR at hM
  refine sp_of (ls := [some (.ref 31), some (J a), some (J 1)]) (by decide) (nle rfl) rfl rfl ?_
  refine v_iload_n (dec_of DX9_neume 0 rfl) rfl ?_
  refine vi_const (dec_of DX9_neume 1 rfl) ?_
  refine v_aload_n (dec_of DX9_neume 2 rfl) rfl ?_
  refine v_get fX9_163 (dec_of DX9_neume 3 rfl) rfl rfl ?_
  refine vi_const (dec_of DX9_neume 4 rfl) ?_
  refine vi_sub (dec_of DX9_neume 5 rfl) ?_
  refine v_S3r (q_in (by omega) (by omega) (by omega)) lX9_126 (dec_of DX9_neume 6 rfl) (by decide) (nle rfl) rfl ?_
  refine vi_if_ne (tgt := 17) (dec_of DX9_neume 7 rfl) (by decide) (by first | omega | exact bnd_r _ _ | exact hG _ _ | exact hK _ | (simp (disch := decide) only [uN_s, uN_n]; omega)) (fun c11 => ?_) (fun c11 => absurd c11 (by omega))
  refine v_iload_n (dec_of DX9_neume 10 rfl) rfl ?_
  refine vi_tabIn (tgt := 55) (dec_of DX9_neume 11 rfl) (by decide) (by decide) (by decide) rfl (by decide) ?_
  refine v_aload_n (dec_of DX9_neume 17 rfl) rfl ?_
  refine v_get fX9_77 (dec_of DX9_neume 18 rfl) rfl rfl ?_
  refine v_iload_n (dec_of DX9_neume 19 rfl) rfl ?_
  refine vi_aload (dec_of DX9_neume 20 rfl) rfl (by first | omega | exact bnd_r _ _ | exact hG _ _ | exact hK _ | (simp (disch := decide) only [uN_s, uN_n]; omega)) (by decide) ?_
  exact vi_ret (dec_of DX9_neume 21 rfl) rfl ⟨by decide, by decide⟩ (⟨rfl, rfl⟩)
set_option maxRecDepth 100000 in
set_option maxHeartbeats 4000000 in
theorem q_neume2 {I N : Nat → Int} {F : Nat → Int → Int} {K : Nat → Int} {G : Nat → Int → Int} (hG : FR G) (hK : IR K) (hM : MR K) {a : Int} (ha : 0 ≤ a ∧ a < K 35) (hq : 0 ≤ G 37 a + G 38 a - 1 ∧ G 37 a + G 38 a - 1 < 150) : Sd (rm 1 22 0 0) mX9_neume [.ref 31, J a, J 2] (W2 I N F K G) (W2 I N F K G) (some (J (G 38 a))) := by
  unfold Sd
  unfold MR at hM
  refine sp_of (ls := [some (.ref 31), some (J a), some (J 2)]) (by decide) (nle rfl) rfl rfl ?_
  refine v_iload_n (dec_of DX9_neume 0 rfl) rfl ?_
  refine vi_const (dec_of DX9_neume 1 rfl) ?_
  refine v_aload_n (dec_of DX9_neume 2 rfl) rfl ?_
  refine v_get fX9_163 (dec_of DX9_neume 3 rfl) rfl rfl ?_
  refine vi_const (dec_of DX9_neume 4 rfl) ?_
  refine vi_sub (dec_of DX9_neume 5 rfl) ?_
  refine v_S3r (q_in (by omega) (by omega) (by omega)) lX9_126 (dec_of DX9_neume 6 rfl) (by decide) (nle rfl) rfl ?_
  refine vi_if_ne (tgt := 17) (dec_of DX9_neume 7 rfl) (by decide) (by first | omega | exact bnd_r _ _ | exact hG _ _ | exact hK _ | (simp (disch := decide) only [uN_s, uN_n]; omega)) (fun c11 => ?_) (fun c11 => absurd c11 (by omega))
  refine v_iload_n (dec_of DX9_neume 10 rfl) rfl ?_
  refine vi_tabIn (tgt := 62) (dec_of DX9_neume 11 rfl) (by decide) (by decide) (by decide) rfl (by decide) ?_
  refine v_aload_n (dec_of DX9_neume 22 rfl) rfl ?_
  refine v_get fX9_80 (dec_of DX9_neume 23 rfl) rfl rfl ?_
  refine v_iload_n (dec_of DX9_neume 24 rfl) rfl ?_
  refine vi_aload (dec_of DX9_neume 25 rfl) rfl (by first | omega | exact bnd_r _ _ | exact hG _ _ | exact hK _ | (simp (disch := decide) only [uN_s, uN_n]; omega)) (by decide) ?_
  exact vi_ret (dec_of DX9_neume 26 rfl) rfl ⟨by decide, by decide⟩ (⟨rfl, rfl⟩)
set_option maxRecDepth 100000 in
set_option maxHeartbeats 4000000 in
theorem q_neume3 {I N : Nat → Int} {F : Nat → Int → Int} {K : Nat → Int} {G : Nat → Int → Int} (hG : FR G) (hK : IR K) (hM : MR K) {a : Int} (ha : 0 ≤ a ∧ a < K 35) (hq : 0 ≤ G 37 a + G 38 a - 1 ∧ G 37 a + G 38 a - 1 < 150) : Sd (rm 1 22 0 0) mX9_neume [.ref 31, J a, J 3] (W2 I N F K G) (W2 I N F K G) (some (J (if bnd (G 17 (G 37 a + G 38 a - 1)) 16 = 0 then 0 else 1))) := by
  unfold Sd
  unfold MR at hM
  refine sp_of (ls := [some (.ref 31), some (J a), some (J 3)]) (by decide) (nle rfl) rfl rfl ?_
  refine v_iload_n (dec_of DX9_neume 0 rfl) rfl ?_
  refine vi_const (dec_of DX9_neume 1 rfl) ?_
  refine v_aload_n (dec_of DX9_neume 2 rfl) rfl ?_
  refine v_get fX9_163 (dec_of DX9_neume 3 rfl) rfl rfl ?_
  refine vi_const (dec_of DX9_neume 4 rfl) ?_
  refine vi_sub (dec_of DX9_neume 5 rfl) ?_
  refine v_S3r (q_in (by omega) (by omega) (by omega)) lX9_126 (dec_of DX9_neume 6 rfl) (by decide) (nle rfl) rfl ?_
  refine vi_if_ne (tgt := 17) (dec_of DX9_neume 7 rfl) (by decide) (by first | omega | exact bnd_r _ _ | exact hG _ _ | exact hK _ | (simp (disch := decide) only [uN_s, uN_n]; omega)) (fun c11 => ?_) (fun c11 => absurd c11 (by omega))
  refine v_iload_n (dec_of DX9_neume 10 rfl) rfl ?_
  refine vi_tabIn (tgt := 69) (dec_of DX9_neume 11 rfl) (by decide) (by decide) (by decide) rfl (by decide) ?_
  refine v_aload_n (dec_of DX9_neume 27 rfl) rfl ?_
  refine v_get fX9_46 (dec_of DX9_neume 28 rfl) rfl rfl ?_
  refine v_aload_n (dec_of DX9_neume 29 rfl) rfl ?_
  refine v_get fX9_77 (dec_of DX9_neume 30 rfl) rfl rfl ?_
  refine v_iload_n (dec_of DX9_neume 31 rfl) rfl ?_
  refine vi_aload (dec_of DX9_neume 32 rfl) rfl (by first | omega | exact bnd_r _ _ | exact hG _ _ | exact hK _ | (simp (disch := decide) only [uN_s, uN_n]; omega)) (by decide) ?_
  refine v_aload_n (dec_of DX9_neume 33 rfl) rfl ?_
  refine v_get fX9_80 (dec_of DX9_neume 34 rfl) rfl rfl ?_
  refine v_iload_n (dec_of DX9_neume 35 rfl) rfl ?_
  refine vi_aload (dec_of DX9_neume 36 rfl) rfl (by first | omega | exact bnd_r _ _ | exact hG _ _ | exact hK _ | (simp (disch := decide) only [uN_s, uN_n]; omega)) (by decide) ?_
  refine vi_add (dec_of DX9_neume 37 rfl) ?_
  refine vi_const (dec_of DX9_neume 38 rfl) ?_
  refine vi_sub (dec_of DX9_neume 39 rfl) ?_
  refine vi_aload (dec_of DX9_neume 40 rfl) rfl (by first | omega | exact bnd_r _ _ | exact hG _ _ | exact hK _ | (simp (disch := decide) only [uN_s, uN_n]; omega)) (by decide) ?_
  refine vi_bi (dec_of DX9_neume 41 rfl) (by decide) ?_
  refine vi_and (dec_of DX9_neume 42 rfl) ?_
  refine vi_if_eq (tgt := 99) (dec_of DX9_neume 43 rfl) (by decide) (by first | omega | exact bnd_r _ _ | exact hG _ _ | exact hK _ | (simp (disch := decide) only [uN_s, uN_n]; omega)) (fun c92 => ?_) (fun c92 => ?_)
  · refine vi_const (dec_of DX9_neume 46 rfl) ?_
    exact vi_ret (dec_of DX9_neume 47 rfl) rfl ⟨by decide, by decide⟩ (⟨rfl, Jc (by omega)⟩)
  · refine vi_const (dec_of DX9_neume 44 rfl) ?_
    refine v_goto (tgt := 100) (dec_of DX9_neume 45 rfl) (by decide) ?_
    exact vi_ret (dec_of DX9_neume 47 rfl) rfl ⟨by decide, by decide⟩ (⟨rfl, Jc (by omega)⟩)
set_option maxRecDepth 100000 in
set_option maxHeartbeats 4000000 in
theorem q_neume_un {I N : Nat → Int} {F : Nat → Int → Int} {K : Nat → Int} {G : Nat → Int → Int} (hG : FR G) (hK : IR K) (hM : MR K) {a b : Int} (ha : -2147483648 ≤ a ∧ a < 2147483648) (h : ¬ (0 ≤ a ∧ a < K 35)) : Sd (rm 1 22 0 0) mX9_neume [.ref 31, J a, J b] (W2 I N F K G) (W2 I N F K G) (some (J (-101))) := by
  unfold Sd
  unfold MR at hM
  refine sp_of (ls := [some (.ref 31), some (J a), some (J b)]) (by decide) (nle rfl) rfl rfl ?_
  refine v_iload_n (dec_of DX9_neume 0 rfl) rfl ?_
  refine vi_const (dec_of DX9_neume 1 rfl) ?_
  refine v_aload_n (dec_of DX9_neume 2 rfl) rfl ?_
  refine v_get fX9_163 (dec_of DX9_neume 3 rfl) rfl rfl ?_
  refine vi_const (dec_of DX9_neume 4 rfl) ?_
  refine vi_sub (dec_of DX9_neume 5 rfl) ?_
  refine v_S3r (q_in (by omega) (by omega) (by omega)) lX9_126 (dec_of DX9_neume 6 rfl) (by decide) (nle rfl) rfl ?_
  refine vi_if_ne (tgt := 17) (dec_of DX9_neume 7 rfl) (by decide) (by first | omega | exact bnd_r _ _ | exact hG _ _ | exact hK _ | (simp (disch := decide) only [uN_s, uN_n]; omega)) (fun c11 => absurd c11 (by omega)) (fun c11 => ?_)
  refine vi_bi (dec_of DX9_neume 8 rfl) (by decide) ?_
  exact vi_ret (dec_of DX9_neume 9 rfl) rfl ⟨by decide, by decide⟩ (⟨rfl, rfl⟩)
set_option maxRecDepth 100000 in
set_option maxHeartbeats 4000000 in
theorem q_neume_out {I N : Nat → Int} {F : Nat → Int → Int} {K : Nat → Int} {G : Nat → Int → Int} (hG : FR G) (hK : IR K) (hM : MR K) {a b : Int} (hb : -2147483648 ≤ b ∧ b < 2147483648) (ha : 0 ≤ a ∧ a < K 35) (h : ¬ (0 ≤ b ∧ b ≤ 3)) : Sd (rm 1 22 0 0) mX9_neume [.ref 31, J a, J b] (W2 I N F K G) (W2 I N F K G) (some (J (-102))) := by
  unfold Sd
  unfold MR at hM
  refine sp_of (ls := [some (.ref 31), some (J a), some (J b)]) (by decide) (nle rfl) rfl rfl ?_
  refine v_iload_n (dec_of DX9_neume 0 rfl) rfl ?_
  refine vi_const (dec_of DX9_neume 1 rfl) ?_
  refine v_aload_n (dec_of DX9_neume 2 rfl) rfl ?_
  refine v_get fX9_163 (dec_of DX9_neume 3 rfl) rfl rfl ?_
  refine vi_const (dec_of DX9_neume 4 rfl) ?_
  refine vi_sub (dec_of DX9_neume 5 rfl) ?_
  refine v_S3r (q_in (by omega) (by omega) (by omega)) lX9_126 (dec_of DX9_neume 6 rfl) (by decide) (nle rfl) rfl ?_
  refine vi_if_ne (tgt := 17) (dec_of DX9_neume 7 rfl) (by decide) (by first | omega | exact bnd_r _ _ | exact hG _ _ | exact hK _ | (simp (disch := decide) only [uN_s, uN_n]; omega)) (fun c11 => ?_) (fun c11 => absurd c11 (by omega))
  refine v_iload_n (dec_of DX9_neume 10 rfl) rfl ?_
  refine vi_tabOut (tgt := 101) (dec_of DX9_neume 11 rfl) (by omega) (by omega) (by decide) ?_
  refine vi_bi (dec_of DX9_neume 48 rfl) (by decide) ?_
  exact vi_ret (dec_of DX9_neume 49 rfl) rfl ⟨by decide, by decide⟩ (⟨rfl, rfl⟩)
def nzM (K : Nat → Int) (G : Nat → Int → Int) : Nat → Int
  | 0 => 0
  | n + 1 => nzM K G n + (if cnM (G 18) n (K 15).toNat = 0 then 1 else 0)
set_option maxRecDepth 100000 in
set_option maxHeartbeats 4000000 in
theorem q_count0 {I N : Nat → Int} {F : Nat → Int → Int} {K : Nat → Int} {G : Nat → Int → Int} (hG : FR G) (hK : IR K) (hM : MR K)  : Sd (rm 1 23 0 0) mX9_count [.ref 31, J 0] (W2 I N F K G) (W2 I N F K G) (some (J (K 3))) := by
  unfold Sd
  unfold MR at hM
  refine sp_of (ls := [some (.ref 31), some (J 0), none, none]) (by decide) (nle rfl) rfl rfl ?_
  refine v_iload_n (dec_of DX9_count 0 rfl) rfl ?_
  refine vi_tabIn (tgt := 52) (dec_of DX9_count 1 rfl) (by decide) (by decide) (by decide) rfl (by decide) ?_
  refine v_aload_n (dec_of DX9_count 2 rfl) rfl ?_
  refine v_get fX9_133 (dec_of DX9_count 3 rfl) rfl rfl ?_
  exact vi_ret (dec_of DX9_count 4 rfl) rfl ⟨by decide, by decide⟩ (⟨rfl, rfl⟩)
set_option maxRecDepth 100000 in
set_option maxHeartbeats 4000000 in
theorem q_count1 {I N : Nat → Int} {F : Nat → Int → Int} {K : Nat → Int} {G : Nat → Int → Int} (hG : FR G) (hK : IR K) (hM : MR K)  : Sd (rm 1 23 0 0) mX9_count [.ref 31, J 1] (W2 I N F K G) (W2 I N F K G) (some (J (K 15))) := by
  unfold Sd
  unfold MR at hM
  refine sp_of (ls := [some (.ref 31), some (J 1), none, none]) (by decide) (nle rfl) rfl rfl ?_
  refine v_iload_n (dec_of DX9_count 0 rfl) rfl ?_
  refine vi_tabIn (tgt := 57) (dec_of DX9_count 1 rfl) (by decide) (by decide) (by decide) rfl (by decide) ?_
  refine v_aload_n (dec_of DX9_count 5 rfl) rfl ?_
  refine v_get fX9_142 (dec_of DX9_count 6 rfl) rfl rfl ?_
  exact vi_ret (dec_of DX9_count 7 rfl) rfl ⟨by decide, by decide⟩ (⟨rfl, rfl⟩)
set_option maxRecDepth 100000 in
set_option maxHeartbeats 4000000 in
theorem q_count2 {I N : Nat → Int} {F : Nat → Int → Int} {K : Nat → Int} {G : Nat → Int → Int} (hG : FR G) (hK : IR K) (hM : MR K)  : Sd (rm 1 23 0 0) mX9_count [.ref 31, J 2] (W2 I N F K G) (W2 I N F K G) (some (J (K 20))) := by
  unfold Sd
  unfold MR at hM
  refine sp_of (ls := [some (.ref 31), some (J 2), none, none]) (by decide) (nle rfl) rfl rfl ?_
  refine v_iload_n (dec_of DX9_count 0 rfl) rfl ?_
  refine vi_tabIn (tgt := 62) (dec_of DX9_count 1 rfl) (by decide) (by decide) (by decide) rfl (by decide) ?_
  refine v_aload_n (dec_of DX9_count 8 rfl) rfl ?_
  refine v_get fX9_145 (dec_of DX9_count 9 rfl) rfl rfl ?_
  exact vi_ret (dec_of DX9_count 10 rfl) rfl ⟨by decide, by decide⟩ (⟨rfl, rfl⟩)
set_option maxRecDepth 100000 in
set_option maxHeartbeats 4000000 in
theorem q_count3 {I N : Nat → Int} {F : Nat → Int → Int} {K : Nat → Int} {G : Nat → Int → Int} (hG : FR G) (hK : IR K) (hM : MR K)  : Sd (rm 1 23 0 0) mX9_count [.ref 31, J 3] (W2 I N F K G) (W2 I N F K G) (some (J (K 35))) := by
  unfold Sd
  unfold MR at hM
  refine sp_of (ls := [some (.ref 31), some (J 3), none, none]) (by decide) (nle rfl) rfl rfl ?_
  refine v_iload_n (dec_of DX9_count 0 rfl) rfl ?_
  refine vi_tabIn (tgt := 67) (dec_of DX9_count 1 rfl) (by decide) (by decide) (by decide) rfl (by decide) ?_
  refine v_aload_n (dec_of DX9_count 11 rfl) rfl ?_
  refine v_get fX9_163 (dec_of DX9_count 12 rfl) rfl rfl ?_
  exact vi_ret (dec_of DX9_count 13 rfl) rfl ⟨by decide, by decide⟩ (⟨rfl, rfl⟩)
set_option maxRecDepth 100000 in
set_option maxHeartbeats 4000000 in
theorem q_count4 {I N : Nat → Int} {F : Nat → Int → Int} {K : Nat → Int} {G : Nat → Int → Int} (hG : FR G) (hK : IR K) (hM : MR K)  : Sd (rm 1 23 0 0) mX9_count [.ref 31, J 4] (W2 I N F K G) (W2 I N F K G) (some (J (K 21))) := by
  unfold Sd
  unfold MR at hM
  refine sp_of (ls := [some (.ref 31), some (J 4), none, none]) (by decide) (nle rfl) rfl rfl ?_
  refine v_iload_n (dec_of DX9_count 0 rfl) rfl ?_
  refine vi_tabIn (tgt := 72) (dec_of DX9_count 1 rfl) (by decide) (by decide) (by decide) rfl (by decide) ?_
  refine v_aload_n (dec_of DX9_count 14 rfl) rfl ?_
  refine v_get fX9_148 (dec_of DX9_count 15 rfl) rfl rfl ?_
  exact vi_ret (dec_of DX9_count 16 rfl) rfl ⟨by decide, by decide⟩ (⟨rfl, rfl⟩)
set_option maxRecDepth 100000 in
set_option maxHeartbeats 4000000 in
theorem q_count5 {I N : Nat → Int} {F : Nat → Int → Int} {K : Nat → Int} {G : Nat → Int → Int} (hG : FR G) (hK : IR K) (hM : MR K)  : Sd (rm 1 23 0 0) mX9_count [.ref 31, J 5] (W2 I N F K G) (W2 I N F K G) (some (J (K 22))) := by
  unfold Sd
  unfold MR at hM
  refine sp_of (ls := [some (.ref 31), some (J 5), none, none]) (by decide) (nle rfl) rfl rfl ?_
  refine v_iload_n (dec_of DX9_count 0 rfl) rfl ?_
  refine vi_tabIn (tgt := 77) (dec_of DX9_count 1 rfl) (by decide) (by decide) (by decide) rfl (by decide) ?_
  refine v_aload_n (dec_of DX9_count 17 rfl) rfl ?_
  refine v_get fX9_151 (dec_of DX9_count 18 rfl) rfl rfl ?_
  exact vi_ret (dec_of DX9_count 19 rfl) rfl ⟨by decide, by decide⟩ (⟨rfl, rfl⟩)
set_option maxRecDepth 100000 in
set_option maxHeartbeats 4000000 in
theorem q_count6 {I N : Nat → Int} {F : Nat → Int → Int} {K : Nat → Int} {G : Nat → Int → Int} (hG : FR G) (hK : IR K) (hM : MR K)  : Sd (rm 1 23 0 0) mX9_count [.ref 31, J 6] (W2 I N F K G) (W2 I N F K G) (some (J (K 14))) := by
  unfold Sd
  unfold MR at hM
  refine sp_of (ls := [some (.ref 31), some (J 6), none, none]) (by decide) (nle rfl) rfl rfl ?_
  refine v_iload_n (dec_of DX9_count 0 rfl) rfl ?_
  refine vi_tabIn (tgt := 82) (dec_of DX9_count 1 rfl) (by decide) (by decide) (by decide) rfl (by decide) ?_
  refine v_aload_n (dec_of DX9_count 20 rfl) rfl ?_
  refine v_get fX9_139 (dec_of DX9_count 21 rfl) rfl rfl ?_
  exact vi_ret (dec_of DX9_count 22 rfl) rfl ⟨by decide, by decide⟩ (⟨rfl, rfl⟩)
set_option maxRecDepth 100000 in
set_option maxHeartbeats 4000000 in
theorem q_count7 {I N : Nat → Int} {F : Nat → Int → Int} {K : Nat → Int} {G : Nat → Int → Int} (hG : FR G) (hK : IR K) (hM : MR K)  : Sd (rm 1 23 0 0) mX9_count [.ref 31, J 7] (W2 I N F K G) (W2 I N F K G) (some (J (K 1))) := by
  unfold Sd
  unfold MR at hM
  refine sp_of (ls := [some (.ref 31), some (J 7), none, none]) (by decide) (nle rfl) rfl rfl ?_
  refine v_iload_n (dec_of DX9_count 0 rfl) rfl ?_
  refine vi_tabIn (tgt := 87) (dec_of DX9_count 1 rfl) (by decide) (by decide) (by decide) rfl (by decide) ?_
  refine v_aload_n (dec_of DX9_count 23 rfl) rfl ?_
  refine v_get fX9_123 (dec_of DX9_count 24 rfl) rfl rfl ?_
  exact vi_ret (dec_of DX9_count 25 rfl) rfl ⟨by decide, by decide⟩ (⟨rfl, rfl⟩)
set_option maxRecDepth 100000 in
set_option maxHeartbeats 4000000 in
theorem q_count_out {I N : Nat → Int} {F : Nat → Int → Int} {K : Nat → Int} {G : Nat → Int → Int} (hG : FR G) (hK : IR K) (hM : MR K) {a : Int} (ha : -2147483648 ≤ a ∧ a < 2147483648) (h : ¬ (0 ≤ a ∧ a ≤ 8)) : Sd (rm 1 23 0 0) mX9_count [.ref 31, J a] (W2 I N F K G) (W2 I N F K G) (some (J (-102))) := by
  unfold Sd
  unfold MR at hM
  refine sp_of (ls := [some (.ref 31), some (J a), none, none]) (by decide) (nle rfl) rfl rfl ?_
  refine v_iload_n (dec_of DX9_count 0 rfl) rfl ?_
  refine vi_tabOut (tgt := 128) (dec_of DX9_count 1 rfl) (by omega) (by omega) (by decide) ?_
  refine vi_bi (dec_of DX9_count 48 rfl) (by decide) ?_
  exact vi_ret (dec_of DX9_count 49 rfl) rfl ⟨by decide, by decide⟩ (⟨rfl, rfl⟩)
set_option maxRecDepth 100000 in
set_option maxHeartbeats 4000000 in
theorem q_c8_loop {I N : Nat → Int} {F : Nat → Int → Int} {K : Nat → Int} {G : Nat → Int → Int} (hG : FR G) (hK : IR K) (hM : MR K) {n0 : Nat} {Z : XW → Option Value → Prop} (hz : Z (W2 I N F K G) (some (J (nzM K G (K 3).toNat)))) : ∀ (m n : Nat), (n : Int) + m = K 3 → Vd (rm 1 23 0 0) [] mX9_count n0 Z 0 0 96 [some (.ref 31), some (J 8), some (J (nzM K G n)), some (J n)] [] (W2 I N F K G) := by
  have hM0 := hM
  unfold MR at hM
  intro m
  induction m with
  | zero =>
    intro n hn
    have e : n = (K 3).toNat := by omega
    refine v_iload_n (dec_of DX9_count 30 rfl) rfl ?_
    refine v_aload_n (dec_of DX9_count 31 rfl) rfl ?_
    refine v_get fX9_133 (dec_of DX9_count 32 rfl) rfl rfl ?_
    refine vi_icmp_ge (tgt := 126) (dec_of DX9_count 33 rfl) (by decide) (by first | omega | exact bnd_r _ _ | exact hG _ _ | exact hK _ | (simp (disch := decide) only [uN_s, uN_n]; omega)) (by first | omega | exact bnd_r _ _ | exact hG _ _ | exact hK _ | (simp (disch := decide) only [uN_s, uN_n]; omega)) (fun c101 => ?_) (fun c101 => absurd c101 (by omega))
    refine v_iload_n (dec_of DX9_count 46 rfl) rfl ?_
    exact vi_ret (dec_of DX9_count 47 rfl) rfl ⟨by decide, by decide⟩ (by rw [e]; exact hz)
  | succ m ih =>
    intro n hn
    have hcr := cnM_r (G 18) n (K 15).toNat
    by_cases h : cnM (G 18) n (K 15).toNat = 0
    · have e1 : nzM K G n + 1 = nzM K G (n + 1) := by rw [nzM, if_pos h]
      refine v_iload_n (dec_of DX9_count 30 rfl) rfl ?_
      refine v_aload_n (dec_of DX9_count 31 rfl) rfl ?_
      refine v_get fX9_133 (dec_of DX9_count 32 rfl) rfl rfl ?_
      refine vi_icmp_ge (tgt := 126) (dec_of DX9_count 33 rfl) (by decide) (by first | omega | exact bnd_r _ _ | exact hG _ _ | exact hK _ | (simp (disch := decide) only [uN_s, uN_n]; omega)) (by first | omega | exact bnd_r _ _ | exact hG _ _ | exact hK _ | (simp (disch := decide) only [uN_s, uN_n]; omega)) (fun c101 => absurd c101 (by omega)) (fun c101 => ?_)
      refine v_iload_n (dec_of DX9_count 34 rfl) rfl ?_
      refine v_aload_n (dec_of DX9_count 35 rfl) rfl ?_
      refine v_iload_n (dec_of DX9_count 36 rfl) rfl ?_
      refine v_V1r (q_notesOf hG hK hM0 (by omega)) lX9_231 (dec_of DX9_count 37 rfl) rfl rfl (by decide) (nle rfl) rfl ?_
      refine vi_if_ne (tgt := 117) (dec_of DX9_count 38 rfl) (by decide) (by first | omega | exact bnd_r _ _ | exact hG _ _ | exact hK _ | (simp (disch := decide) only [uN_s, uN_n]; omega)) (fun c110 => absurd c110 (by omega)) (fun c110 => ?_)
      refine vi_const (dec_of DX9_count 39 rfl) ?_
      refine v_goto (tgt := 118) (dec_of DX9_count 40 rfl) (by decide) ?_
      refine vi_add (dec_of DX9_count 42 rfl) ?_
      refine v_istore_n (dec_of DX9_count 43 rfl) (by decide) ?_
      dsimp only [List.set]
      refine vi_inc (dec_of DX9_count 44 rfl) rfl (by decide) ?_
      dsimp only [List.set]
      refine v_goto (tgt := 96) (dec_of DX9_count 45 rfl) (by decide) ?_
      rw [e1]
      exact ih (n + 1) (by omega)
    · have e1 : nzM K G n + 0 = nzM K G (n + 1) := by rw [nzM, if_neg h]
      refine v_iload_n (dec_of DX9_count 30 rfl) rfl ?_
      refine v_aload_n (dec_of DX9_count 31 rfl) rfl ?_
      refine v_get fX9_133 (dec_of DX9_count 32 rfl) rfl rfl ?_
      refine vi_icmp_ge (tgt := 126) (dec_of DX9_count 33 rfl) (by decide) (by first | omega | exact bnd_r _ _ | exact hG _ _ | exact hK _ | (simp (disch := decide) only [uN_s, uN_n]; omega)) (by first | omega | exact bnd_r _ _ | exact hG _ _ | exact hK _ | (simp (disch := decide) only [uN_s, uN_n]; omega)) (fun c101 => absurd c101 (by omega)) (fun c101 => ?_)
      refine v_iload_n (dec_of DX9_count 34 rfl) rfl ?_
      refine v_aload_n (dec_of DX9_count 35 rfl) rfl ?_
      refine v_iload_n (dec_of DX9_count 36 rfl) rfl ?_
      refine v_V1r (q_notesOf hG hK hM0 (by omega)) lX9_231 (dec_of DX9_count 37 rfl) rfl rfl (by decide) (nle rfl) rfl ?_
      refine vi_if_ne (tgt := 117) (dec_of DX9_count 38 rfl) (by decide) (by first | omega | exact bnd_r _ _ | exact hG _ _ | exact hK _ | (simp (disch := decide) only [uN_s, uN_n]; omega)) (fun c110 => ?_) (fun c110 => absurd c110 (by omega))
      refine vi_const (dec_of DX9_count 41 rfl) ?_
      refine vi_add (dec_of DX9_count 42 rfl) ?_
      refine v_istore_n (dec_of DX9_count 43 rfl) (by decide) ?_
      dsimp only [List.set]
      refine vi_inc (dec_of DX9_count 44 rfl) rfl (by decide) ?_
      dsimp only [List.set]
      refine v_goto (tgt := 96) (dec_of DX9_count 45 rfl) (by decide) ?_
      rw [e1]
      exact ih (n + 1) (by omega)
set_option maxRecDepth 100000 in
set_option maxHeartbeats 4000000 in
theorem q_count8 {I N : Nat → Int} {F : Nat → Int → Int} {K : Nat → Int} {G : Nat → Int → Int} (hG : FR G) (hK : IR K) (hM : MR K)  : Sd (rm 1 23 0 0) mX9_count [.ref 31, J 8] (W2 I N F K G) (W2 I N F K G) (some (J (nzM K G (K 3).toNat))) := by
  unfold Sd
  unfold MR at hM
  refine sp_of (ls := [some (.ref 31), some (J 8), none, none]) (by decide) (nle rfl) rfl rfl ?_
  refine v_iload_n (dec_of DX9_count 0 rfl) rfl ?_
  refine vi_tabIn (tgt := 92) (dec_of DX9_count 1 rfl) (by decide) (by decide) (by decide) rfl (by decide) ?_
  refine vi_const (dec_of DX9_count 26 rfl) ?_
  refine v_istore_n (dec_of DX9_count 27 rfl) (by decide) ?_
  dsimp only [List.set]
  refine vi_const (dec_of DX9_count 28 rfl) ?_
  refine v_istore_n (dec_of DX9_count 29 rfl) (by decide) ?_
  dsimp only [List.set]
  exact q_c8_loop hG hK (by unfold MR; exact hM) ⟨rfl, rfl⟩ (K 3).toNat 0 (by omega)
