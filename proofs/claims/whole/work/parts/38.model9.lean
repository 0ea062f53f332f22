/-! the reference: write (printed by wip/tools/gen_m9.py) -/
def mNt (G : Nat → Int → Int) (k : Int) : List Int := [97 + G 12 k] ++ wMk (G 17 (G 13 k)) 46 1 ++ wMk (G 17 (G 13 k)) 95 2 ++ wMk (G 17 (G 13 k)) 118 4 ++ wMk (G 17 (G 13 k)) 119 8 ++ wMk (G 17 (G 13 k)) 126 16
def mSgn (G : Nat → Int → Int) (k e : Int) : List Int :=
  if G 11 k = 1 then (if ipL G k (e - (k + 1)).toNat (k + 1) = 0 then mNt G k else mNt G k ++ [47])
  else if G 11 k = 2 then [97 + G 12 k] ++ [120] else if G 11 k = 3 then [97 + G 12 k] ++ [121]
  else if G 11 k = 4 then (if 9 < G 12 k then [102] ++ [48 + G 12 k % 10] else [99] ++ [48 + G 12 k % 10])
  else if G 11 k = 5 then (if (G 12 k = 3 ∧ k + 1 < e ∧ G 11 (k + 1) = 5 ∧ 3 ≤ G 12 (k + 1)) then [58] ++ wMk (G 12 k) 58 4 ++ [47] else [if G 12 k = 1 then 44 else if G 12 k = 2 then 59 else 58] ++ wMk (G 12 k) 58 4)
  else [122]
/-- what a sign's cells may be, in the reference -/
def sgR (G : Nat → Int → Int) (j : Int) : Prop := (G 11 j = 1 → 0 ≤ G 13 j ∧ G 13 j < 150) ∧ (G 11 j = 4 → 0 ≤ G 12 j ∧ G 12 j ≤ 100) ∧ (G 11 j = 5 → 1 ≤ G 12 j ∧ G 12 j ≤ 4) ∧ 1 ≤ G 11 j ∧ G 11 j ≤ 6
theorem q_tS {I N : Nat → Int} {F : Nat → Int → Int} {K : Nat → Int} {G : Nat → Int → Int} (hG : FR G) (hK : IR K) (hM : MR K) {k e : Int} (hk : 0 ≤ k ∧ k < 300) (he : 0 ≤ e ∧ e ≤ 300) (hke : k < e) (hs : ∀ j : Int, 0 ≤ j → j < e → sgR G j) (hlen : K 55 + ((mSgn G k e).length : Int) ≤ 1700) (hr : ∀ a ∈ mSgn G k e, -2147483648 ≤ a ∧ a < 2147483648) : Sd (rm 2 44 0 0) mX9_tellSign [.ref 31, J k, J e] (W2 I N F K G) (W2 I N F (moN K (mSgn G k e)) (moG K G (mSgn G k e))) none := by
  obtain ⟨s1, s4, s5, s6⟩ := hs k hk.1 hke
  by_cases h1 : G 11 k = 1
  · have hs' : ∀ j : Int, 0 ≤ j → j < e → sgM K G j := fun j a b => (hs j a b).1
    by_cases hp : ipL G k (e - (k + 1)).toNat (k + 1) = 0
    · have eq : mSgn G k e = mNt G k := by rw [mSgn, if_pos h1, if_pos hp]
      rw [eq] at hlen hr ⊢
      exact q_t1_0 hG hK hM hk he h1 (s1 h1) hs' hp hlen hr
    · have eq : mSgn G k e = mNt G k ++ [47] := by rw [mSgn, if_pos h1, if_neg hp]
      rw [eq] at hlen hr ⊢
      exact q_t1_1 hG hK hM hk he h1 (s1 h1) hs' hp hlen hr
  by_cases h2 : G 11 k = 2
  · have eq : mSgn G k e = [97 + G 12 k] ++ [120] := by rw [mSgn, if_neg h1, if_pos h2]
    rw [eq] at hlen hr ⊢
    exact q_t2 hG hK hM hk he h2 hlen hr
  by_cases h3 : G 11 k = 3
  · have eq : mSgn G k e = [97 + G 12 k] ++ [121] := by rw [mSgn, if_neg h1, if_neg h2, if_pos h3]
    rw [eq] at hlen hr ⊢
    exact q_t3 hG hK hM hk he h3 hlen hr
  by_cases h4 : G 11 k = 4
  · by_cases hv : 9 < G 12 k
    · have eq : mSgn G k e = [102] ++ [48 + G 12 k % 10] := by rw [mSgn, if_neg h1, if_neg h2, if_neg h3, if_pos h4, if_pos hv]
      rw [eq] at hlen hr ⊢
      exact q_t4f hG hK hM hk he h4 hv (s4 h4) hlen hr
    · have eq : mSgn G k e = [99] ++ [48 + G 12 k % 10] := by rw [mSgn, if_neg h1, if_neg h2, if_neg h3, if_pos h4, if_neg hv]
      rw [eq] at hlen hr ⊢
      exact q_t4c hG hK hM hk he h4 hv (s4 h4) hlen hr
  by_cases h5 : G 11 k = 5
  · have h15 := s5 h5
    by_cases hc : (G 12 k = 3 ∧ k + 1 < e ∧ G 11 (k + 1) = 5 ∧ 3 ≤ G 12 (k + 1))
    · have eq : mSgn G k e = [58] ++ wMk (G 12 k) 58 4 ++ [47] := by rw [mSgn, if_neg h1, if_neg h2, if_neg h3, if_neg h4, if_pos h5, if_pos hc]
      rw [eq] at hlen hr ⊢
      exact q_t5_3s hG hK hM hk he h5 hc.1 hc hlen hr
    · have eq : mSgn G k e = [if G 12 k = 1 then 44 else if G 12 k = 2 then 59 else 58] ++ wMk (G 12 k) 58 4 := by rw [mSgn, if_neg h1, if_neg h2, if_neg h3, if_neg h4, if_pos h5, if_neg hc]
      by_cases v1 : G 12 k = 1
      · rw [if_pos v1] at eq
        rw [eq] at hlen hr ⊢
        exact q_t5_1 hG hK hM hk he h5 v1 hc hlen hr
      by_cases v2 : G 12 k = 2
      · rw [if_neg v1, if_pos v2] at eq
        rw [eq] at hlen hr ⊢
        exact q_t5_2 hG hK hM hk he h5 v2 hc hlen hr
      rw [if_neg v1, if_neg v2] at eq
      rw [eq] at hlen hr ⊢
      by_cases v3 : G 12 k = 3
      · exact q_t5_3 hG hK hM hk he h5 v3 hc hlen hr
      · exact q_t5_4 hG hK hM hk he h5 (by omega) hc hlen hr
  have eq : mSgn G k e = [122] := by rw [mSgn, if_neg h1, if_neg h2, if_neg h3, if_neg h4, if_neg h5]
  rw [eq] at hlen hr ⊢
  exact q_t6 hG hK hM hk he (by omega) hlen hr
def mSgs (G : Nat → Int → Int) (e : Int) : Nat → Int → List Int
  | 0, _ => []
  | m + 1, j => mSgn G j e ++ mSgs G e m (j + 1)
def mLet (G : Nat → Int → Int) (s : Int) : Nat → Int → List Int
  | 0, _ => []
  | m + 1, i => [G 2 (G 4 s + i)] ++ mLet G s m (i + 1)
theorem mSgn_mo {K : Nat → Int} {G : Nat → Int → Int} {l : List Int} {k e : Int} : mSgn (moG K G l) k e = mSgn G k e := by
  have h := ipL_mo (K := K) (G := G) (l := l) (k := k) (e - (k + 1)).toNat (k + 1)
  unfold mSgn
  rw [h]
  rfl
theorem mSgs_mo {K : Nat → Int} {G : Nat → Int → Int} {l : List Int} {e : Int} : ∀ (m : Nat) (j : Int), mSgs (moG K G l) e m j = mSgs G e m j := by
  intro m
  induction m with
  | zero => intro j; rfl
  | succ m ih => intro j; rw [mSgs, mSgs, ih, mSgn_mo]
theorem mLet_mo {K : Nat → Int} {G : Nat → Int → Int} {l : List Int} {s : Int} : ∀ (m : Nat) (j : Int), mLet (moG K G l) s m j = mLet G s m j := by
  intro m
  induction m with
  | zero => intro j; rfl
  | succ m ih => intro j; rw [mLet, mLet, ih]; rfl
theorem mLet_len (G : Nat → Int → Int) (s : Int) : ∀ (m : Nat) (j : Int), (mLet G s m j).length = m := by
  intro m
  induction m with
  | zero => intro j; rfl
  | succ m ih => intro j; rw [mLet, List.length_append, ih]; simp [Nat.add_comm]
def mLs (G : Nat → Int → Int) (s : Int) : List Int := mLet G s (G 5 s).toNat 0
def mSs (G : Nat → Int → Int) (s : Int) : List Int := mSgs G (G 9 (s + 1)) (G 9 (s + 1) - G 9 s).toNat (G 9 s)
def mBk (G : Nat → Int → Int) (s : Int) : List Int := if G 7 s = 1 then [40] ++ (mSs G s ++ [41]) else []
def mBl (G : Nat → Int → Int) (s : Int) : List Int := if 0 < s ∧ ¬ G 8 s = G 8 (s - 1) then [32] else []
def mSy (G : Nat → Int → Int) (s : Int) : List Int := mBl G s ++ (mLs G s ++ mBk G s)
def mSc (G : Nat → Int → Int) : Nat → Int → List Int
  | 0, _ => []
  | m + 1, s => mSy G s ++ mSc G m (s + 1)
/-- what a syllable's cells may be, in the reference -/
def syR (G : Nat → Int → Int) (s : Int) : Prop := 0 ≤ G 4 s ∧ 0 ≤ G 5 s ∧ G 4 s + G 5 s ≤ 1500 ∧ 0 ≤ G 9 s ∧ G 9 s ≤ G 9 (s + 1) ∧ G 9 (s + 1) ≤ 300 ∧ ∀ j : Int, 0 ≤ j → j < G 9 (s + 1) → sgR G j
theorem mSs_mo {K : Nat → Int} {G : Nat → Int → Int} {l : List Int} {s : Int} : mSs (moG K G l) s = mSs G s := mSgs_mo _ _
theorem mLs_mo {K : Nat → Int} {G : Nat → Int → Int} {l : List Int} {s : Int} : mLs (moG K G l) s = mLs G s := mLet_mo _ _
theorem mBk_mo {K : Nat → Int} {G : Nat → Int → Int} {l : List Int} {s : Int} : mBk (moG K G l) s = mBk G s := by
  unfold mBk
  rw [mSs_mo]
  rfl
theorem mSy_mo {K : Nat → Int} {G : Nat → Int → Int} {l : List Int} {s : Int} : mSy (moG K G l) s = mSy G s := by
  unfold mSy
  rw [mLs_mo, mBk_mo]
  rfl
theorem mSc_mo {K : Nat → Int} {G : Nat → Int → Int} {l : List Int} : ∀ (m : Nat) (s : Int), mSc (moG K G l) m s = mSc G m s := by
  intro m
  induction m with
  | zero => intro s; rfl
  | succ m ih => intro s; rw [mSc, mSc, ih, mSy_mo]
set_option maxRecDepth 100000 in
set_option maxHeartbeats 4000000 in
theorem q_wl_loop {I N : Nat → Int} {F : Nat → Int → Int} {n0 : Nat} {Z : XW → Option Value → Prop} {s : Int} (hs : 0 ≤ s ∧ s < 60) : ∀ (m : Nat) (j : Int) (K : Nat → Int) (G : Nat → Int → Int), FR G → IR K → MR K → s < K 3 → syR G s → 0 ≤ j → j + m = G 5 s → K 55 + (m : Int) ≤ 1700 → (∀ x : Int, Vd (rm 3 68 0 0) [] mX9_write n0 Z 0 0 77 [some (.ref 31), some (J s), some (J x)] [] (W2 I N F (moN K (mLet G s m j)) (moG K G (mLet G s m j)))) → Vd (rm 3 68 0 0) [] mX9_write n0 Z 0 0 44 [some (.ref 31), some (J s), some (J j)] [] (W2 I N F K G) := by
  intro m
  induction m with
  | zero =>
    intro j K G hG hK hM hs3 hy h0 h1 hl hz
    unfold MR at hM
    unfold syR at hy
    refine v_iload_n (dec_of DX9_write 27 rfl) rfl ?_
    refine v_aload_n (dec_of DX9_write 28 rfl) rfl ?_
    refine v_get fX9_19 (dec_of DX9_write 29 rfl) rfl rfl ?_
    refine v_iload_n (dec_of DX9_write 30 rfl) rfl ?_
    refine vi_aload (dec_of DX9_write 31 rfl) rfl (by first | omega | exact bnd_r _ _ | exact hG _ _ | exact hK _ | (simp (disch := decide) only [uN_s, uN_n]; omega)) (by decide) ?_
    refine vi_icmp_ge (tgt := 77) (dec_of DX9_write 32 rfl) (by decide) (by first | omega | exact bnd_r _ _ | exact hG _ _ | exact hK _ | (simp (disch := decide) only [uN_s, uN_n]; omega)) (by first | omega | exact bnd_r _ _ | exact hG _ _ | exact hK _ | (simp (disch := decide) only [uN_s, uN_n]; omega)) (fun c51 => ?_) (fun c51 => absurd c51 (by omega))
    have hz := hz j
    rw [mLet, mo_nil] at hz
    exact hz
  | succ m ih =>
    intro j K G hG hK hM hs3 hy h0 h1 hl hz
    have hM0 := hM
    have hy0 := hy
    unfold MR at hM
    unfold syR at hy
    have hG1 : FR (moG K G [G 2 (G 4 s + j)]) := FRmo hG (fun a h => by rw [List.mem_singleton.mp h]; exact hG 2 _)
    have hK1 : IR (moN K [G 2 (G 4 s + j)]) := IRmo hK hM0 (by simp only [List.length_cons, List.length_nil]; omega)
    have hM1 : MR (moN K [G 2 (G 4 s + j)]) := MRmo hM0 (by simp only [List.length_cons, List.length_nil]; omega)
    refine v_iload_n (dec_of DX9_write 27 rfl) rfl ?_
    refine v_aload_n (dec_of DX9_write 28 rfl) rfl ?_
    refine v_get fX9_19 (dec_of DX9_write 29 rfl) rfl rfl ?_
    refine v_iload_n (dec_of DX9_write 30 rfl) rfl ?_
    refine vi_aload (dec_of DX9_write 31 rfl) rfl (by first | omega | exact bnd_r _ _ | exact hG _ _ | exact hK _ | (simp (disch := decide) only [uN_s, uN_n]; omega)) (by decide) ?_
    refine vi_icmp_ge (tgt := 77) (dec_of DX9_write 32 rfl) (by decide) (by first | omega | exact bnd_r _ _ | exact hG _ _ | exact hK _ | (simp (disch := decide) only [uN_s, uN_n]; omega)) (by first | omega | exact bnd_r _ _ | exact hG _ _ | exact hK _ | (simp (disch := decide) only [uN_s, uN_n]; omega)) (fun c51 => absurd c51 (by omega)) (fun c51 => ?_)
    refine v_aload_n (dec_of DX9_write 33 rfl) rfl ?_
    refine v_aload_n (dec_of DX9_write 34 rfl) rfl ?_
    refine v_get fX9_13 (dec_of DX9_write 35 rfl) rfl rfl ?_
    refine v_aload_n (dec_of DX9_write 36 rfl) rfl ?_
    refine v_get fX9_16 (dec_of DX9_write 37 rfl) rfl rfl ?_
    refine v_iload_n (dec_of DX9_write 38 rfl) rfl ?_
    refine vi_aload (dec_of DX9_write 39 rfl) rfl (by first | omega | exact bnd_r _ _ | exact hG _ _ | exact hK _ | (simp (disch := decide) only [uN_s, uN_n]; omega)) (by decide) ?_
    refine v_iload_n (dec_of DX9_write 40 rfl) rfl ?_
    refine vi_add (dec_of DX9_write 41 rfl) ?_
    refine vi_aload (dec_of DX9_write 42 rfl) rfl (by first | omega | exact bnd_r _ _ | exact hG _ _ | exact hK _ | (simp (disch := decide) only [uN_s, uN_n]; omega)) (by decide) ?_
    refine v_V1v (qw_tell hG hK hM0 (by omega)) lX9_269 (dec_of DX9_write 43 rfl) rfl rfl (by decide) (nle rfl) rfl ?_
    refine vi_inc (dec_of DX9_write 44 rfl) rfl (by decide) ?_
    dsimp only [List.set]
    refine v_goto (tgt := 44) (dec_of DX9_write 45 rfl) (by decide) ?_
    refine ih (j + 1) _ _ hG1 hK1 hM1 hs3 hy0 (by omega) (show j + 1 + (m : Int) = G 5 s by omega) (by simp only [moN, uN_s, List.length_cons, List.length_nil]; omega) (fun x => ?_)
    rw [mLet_mo]
    refine Vd_w mo2 ?_
    exact hz x
set_option maxRecDepth 100000 in
set_option maxHeartbeats 4000000 in
theorem q_ws_loop {I N : Nat → Int} {F : Nat → Int → Int} {n0 : Nat} {Z : XW → Option Value → Prop} {s : Int} (hs : 0 ≤ s ∧ s < 60) : ∀ (m : Nat) (j : Int) (K : Nat → Int) (G : Nat → Int → Int), FR G → IR K → MR K → s < K 3 → syR G s → 0 ≤ j → j + m = G 9 (s + 1) → K 55 + ((mSgs G (G 9 (s + 1)) m j).length : Int) ≤ 1700 → (∀ a ∈ mSgs G (G 9 (s + 1)) m j, -2147483648 ≤ a ∧ a < 2147483648) → (∀ x : Int, Vd (rm 3 68 0 0) [] mX9_write n0 Z 0 0 131 [some (.ref 31), some (J s), some (J x)] [] (W2 I N F (moN K (mSgs G (G 9 (s + 1)) m j)) (moG K G (mSgs G (G 9 (s + 1)) m j)))) → Vd (rm 3 68 0 0) [] mX9_write n0 Z 0 0 100 [some (.ref 31), some (J s), some (J j)] [] (W2 I N F K G) := by
  intro m
  induction m with
  | zero =>
    intro j K G hG hK hM hs3 hy h0 h1 hl hr hz
    unfold MR at hM
    unfold syR at hy
    refine v_iload_n (dec_of DX9_write 60 rfl) rfl ?_
    refine v_aload_n (dec_of DX9_write 61 rfl) rfl ?_
    refine v_get fX9_31 (dec_of DX9_write 62 rfl) rfl rfl ?_
    refine v_iload_n (dec_of DX9_write 63 rfl) rfl ?_
    refine vi_const (dec_of DX9_write 64 rfl) ?_
    refine vi_add (dec_of DX9_write 65 rfl) ?_
    refine vi_aload (dec_of DX9_write 66 rfl) rfl (by first | omega | exact bnd_r _ _ | exact hG _ _ | exact hK _ | (simp (disch := decide) only [uN_s, uN_n]; omega)) (by decide) ?_
    refine vi_icmp_ge (tgt := 131) (dec_of DX9_write 67 rfl) (by decide) (by first | omega | exact bnd_r _ _ | exact hG _ _ | exact hK _ | (simp (disch := decide) only [uN_s, uN_n]; omega)) (by first | omega | exact bnd_r _ _ | exact hG _ _ | exact hK _ | (simp (disch := decide) only [uN_s, uN_n]; omega)) (fun c109 => ?_) (fun c109 => absurd c109 (by omega))
    have hz := hz j
    rw [mSgs, mo_nil] at hz
    exact hz
  | succ m ih =>
    intro j K G hG hK hM hs3 hy h0 h1 hl hr hz
    have hM0 := hM
    have hy0 := hy
    unfold MR at hM
    obtain ⟨y1, y2, y3, y4, y5, y6, y7⟩ := hy
    rw [mSgs] at hl hr hz
    simp only [List.length_append] at hl
    have hra : ∀ a ∈ mSgn G j (G 9 (s + 1)), -2147483648 ≤ a ∧ a < 2147483648 := fun a h => hr a (List.mem_append_left _ h)
    have hG1 : FR (moG K G (mSgn G j (G 9 (s + 1)))) := FRmo hG hra
    have hK1 : IR (moN K (mSgn G j (G 9 (s + 1)))) := IRmo hK hM0 (by omega)
    have hM1 : MR (moN K (mSgn G j (G 9 (s + 1)))) := MRmo hM0 (by omega)
    refine v_iload_n (dec_of DX9_write 60 rfl) rfl ?_
    refine v_aload_n (dec_of DX9_write 61 rfl) rfl ?_
    refine v_get fX9_31 (dec_of DX9_write 62 rfl) rfl rfl ?_
    refine v_iload_n (dec_of DX9_write 63 rfl) rfl ?_
    refine vi_const (dec_of DX9_write 64 rfl) ?_
    refine vi_add (dec_of DX9_write 65 rfl) ?_
    refine vi_aload (dec_of DX9_write 66 rfl) rfl (by first | omega | exact bnd_r _ _ | exact hG _ _ | exact hK _ | (simp (disch := decide) only [uN_s, uN_n]; omega)) (by decide) ?_
    refine vi_icmp_ge (tgt := 131) (dec_of DX9_write 67 rfl) (by decide) (by first | omega | exact bnd_r _ _ | exact hG _ _ | exact hK _ | (simp (disch := decide) only [uN_s, uN_n]; omega)) (by first | omega | exact bnd_r _ _ | exact hG _ _ | exact hK _ | (simp (disch := decide) only [uN_s, uN_n]; omega)) (fun c109 => absurd c109 (by omega)) (fun c109 => ?_)
    refine v_aload_n (dec_of DX9_write 68 rfl) rfl ?_
    refine v_iload_n (dec_of DX9_write 69 rfl) rfl ?_
    refine v_aload_n (dec_of DX9_write 70 rfl) rfl ?_
    refine v_get fX9_31 (dec_of DX9_write 71 rfl) rfl rfl ?_
    refine v_iload_n (dec_of DX9_write 72 rfl) rfl ?_
    refine vi_const (dec_of DX9_write 73 rfl) ?_
    refine vi_add (dec_of DX9_write 74 rfl) ?_
    refine vi_aload (dec_of DX9_write 75 rfl) rfl (by first | omega | exact bnd_r _ _ | exact hG _ _ | exact hK _ | (simp (disch := decide) only [uN_s, uN_n]; omega)) (by decide) ?_
    refine v_V2v (q_tS hG hK hM0 (k := j) (e := G 9 (s + 1)) (by omega) (by omega) (by omega) y7 (by omega) hra) lX9_280 (dec_of DX9_write 76 rfl) rfl rfl (by decide) (nle rfl) rfl ?_
    refine vi_inc (dec_of DX9_write 77 rfl) rfl (by decide) ?_
    dsimp only [List.set]
    refine v_goto (tgt := 100) (dec_of DX9_write 78 rfl) (by decide) ?_
    refine ih (j + 1) _ _ hG1 hK1 hM1 hs3 hy0 (by omega) (show j + 1 + (m : Int) = G 9 (s + 1) by omega) (by rw [show moG K G (mSgn G j (G 9 (s + 1))) 9 = G 9 from rfl, mSgs_mo]; simp only [moN, uN_s]; omega) (fun a h => hr a (List.mem_append_right _ (by rw [show moG K G (mSgn G j (G 9 (s + 1))) 9 = G 9 from rfl, mSgs_mo] at h; exact h))) (fun x => ?_)
    rw [show moG K G (mSgn G j (G 9 (s + 1))) 9 = G 9 from rfl, mSgs_mo]
    refine Vd_w mo2 ?_
    exact hz x
set_option maxRecDepth 100000 in
set_option maxHeartbeats 4000000 in
theorem q_wb {I N : Nat → Int} {F : Nat → Int → Int} {n0 : Nat} {Z : XW → Option Value → Prop} {K : Nat → Int} {G : Nat → Int → Int} (hG : FR G) (hK : IR K) (hM : MR K) {s x : Int} (hs : 0 ≤ s ∧ s < K 3) (hy : syR G s) (hlen : K 55 + ((mBk G s).length : Int) ≤ 1700) (hr : ∀ a ∈ mBk G s, -2147483648 ≤ a ∧ a < 2147483648) (kk : ∀ x : Int, Vd (rm 3 68 0 0) [] mX9_write n0 Z 0 0 137 [some (.ref 31), some (J s), some (J x)] [] (W2 I N F (moN K (mBk G s)) (moG K G (mBk G s)))) : Vd (rm 3 68 0 0) [] mX9_write n0 Z 0 0 77 [some (.ref 31), some (J s), some (J x)] [] (W2 I N F K G) := by
  have hM0 := hM
  unfold MR at hM
  by_cases h7 : G 7 s = 1
  · rw [mBk, if_pos h7] at hlen hr kk
    simp only [List.length_append, List.length_cons, List.length_nil] at hlen
    have hy0 := hy
    obtain ⟨y1, y2, y3, y4, y5, y6, y7⟩ := hy
    have hG1 : FR (moG K G [40]) := FRmo hG (fun a h => hr a (List.mem_append_left _ h))
    have hM1 : MR (moN K [40]) := MRmo hM0 (by simp only [List.length_cons, List.length_nil]; omega)
    have hK1 : IR (moN K [40]) := IRmo hK hM0 (by simp only [List.length_cons, List.length_nil]; omega)
    have hG2 : FR (moG K G ([40] ++ mSs G s)) := FRmo hG (fun a h => hr a (by rw [← List.append_assoc]; exact List.mem_append_left _ h))
    have hM2 : MR (moN K ([40] ++ mSs G s)) := MRmo hM0 (by simp only [List.length_append, List.length_cons, List.length_nil]; omega)
    have hK2 : IR (moN K ([40] ++ mSs G s)) := IRmo hK hM0 (by simp only [List.length_append, List.length_cons, List.length_nil]; omega)
    have beh : ∀ x : Int, Vd (rm 3 68 0 0) [] mX9_write n0 Z 0 0 131 [some (.ref 31), some (J s), some (J x)] [] (W2 I N F (moN K ([40] ++ mSs G s)) (moG K G ([40] ++ mSs G s))) := by
      intro x
      refine v_aload_n (dec_of DX9_write 79 rfl) rfl ?_
      refine vi_bi (dec_of DX9_write 80 rfl) (by decide) ?_
      refine v_V1v (qw_tell hG2 hK2 hM2 (by simp only [moN, uN_s, List.length_append, List.length_cons, List.length_nil]; omega)) lX9_269 (dec_of DX9_write 81 rfl) rfl rfl (by decide) (nle rfl) rfl ?_
      refine Vd_w mo2 ?_
      rw [List.append_assoc]
      exact kk x
    refine v_aload_n (dec_of DX9_write 46 rfl) rfl ?_
    refine v_get fX9_25 (dec_of DX9_write 47 rfl) rfl rfl ?_
    try simp (disch := decide) only [uN_s, uN_n, moG_n, moN_n]
    refine v_iload_n (dec_of DX9_write 48 rfl) rfl ?_
    refine vi_aload (dec_of DX9_write 49 rfl) rfl (by first | omega | exact bnd_r _ _ | exact hG _ _ | exact hK _ | (simp (disch := decide) only [uN_s, uN_n]; omega)) (by decide) ?_
    try simp (disch := decide) only [uN_s, uN_n, moG_n, moN_n]
    refine vi_const (dec_of DX9_write 50 rfl) ?_
    refine vi_icmp_ne (tgt := 137) (dec_of DX9_write 51 rfl) (by decide) (by first | omega | exact bnd_r _ _ | exact hG _ _ | exact hK _ | (simp (disch := decide) only [uN_s, uN_n]; omega)) (by first | omega | exact bnd_r _ _ | exact hG _ _ | exact hK _ | (simp (disch := decide) only [uN_s, uN_n]; omega)) (fun c84 => absurd c84 (by omega)) (fun c84 => ?_)
    refine v_aload_n (dec_of DX9_write 52 rfl) rfl ?_
    refine vi_bi (dec_of DX9_write 53 rfl) (by decide) ?_
    refine v_V1v (qw_tell hG hK hM0 (by omega)) lX9_269 (dec_of DX9_write 54 rfl) rfl rfl (by decide) (nle rfl) rfl ?_
    try simp (disch := decide) only [uN_s, uN_n, moG_n, moN_n]
    refine v_aload_n (dec_of DX9_write 55 rfl) rfl ?_
    refine v_get fX9_31 (dec_of DX9_write 56 rfl) rfl rfl ?_
    try simp (disch := decide) only [uN_s, uN_n, moG_n, moN_n]
    refine v_iload_n (dec_of DX9_write 57 rfl) rfl ?_
    refine vi_aload (dec_of DX9_write 58 rfl) rfl (by first | omega | exact bnd_r _ _ | exact hG _ _ | exact hK _ | (simp (disch := decide) only [uN_s, uN_n]; omega)) (by decide) ?_
    try simp (disch := decide) only [uN_s, uN_n, moG_n, moN_n]
    refine v_istore_n (dec_of DX9_write 59 rfl) (by decide) ?_
    dsimp only [List.set]
    have e9 : ∀ t, moG K G [40] 9 t = G 9 t := fun t => rfl
    refine q_ws_loop (s := s) (by omega) (G 9 (s + 1) - G 9 s).toNat (G 9 s) _ _ hG1 hK1 hM1 hs.2 hy0 (by omega) (by rw [e9]; omega) (by rw [e9, mSgs_mo]; simp only [moN, uN_s, List.length_cons, List.length_nil]; unfold mSs at hlen; omega) (fun a h => hr a (List.mem_append_right _ (List.mem_append_left _ (by rw [e9, mSgs_mo] at h; exact h)))) (fun x => ?_)
    rw [e9, mSgs_mo]
    refine Vd_w mo2 ?_
    exact beh x
  · rw [mBk, if_neg h7, mo_nil] at kk
    refine v_aload_n (dec_of DX9_write 46 rfl) rfl ?_
    refine v_get fX9_25 (dec_of DX9_write 47 rfl) rfl rfl ?_
    refine v_iload_n (dec_of DX9_write 48 rfl) rfl ?_
    refine vi_aload (dec_of DX9_write 49 rfl) rfl (by first | omega | exact bnd_r _ _ | exact hG _ _ | exact hK _ | (simp (disch := decide) only [uN_s, uN_n]; omega)) (by decide) ?_
    refine vi_const (dec_of DX9_write 50 rfl) ?_
    refine vi_icmp_ne (tgt := 137) (dec_of DX9_write 51 rfl) (by decide) (by first | omega | exact bnd_r _ _ | exact hG _ _ | exact hK _ | (simp (disch := decide) only [uN_s, uN_n]; omega)) (by first | omega | exact bnd_r _ _ | exact hG _ _ | exact hK _ | (simp (disch := decide) only [uN_s, uN_n]; omega)) (fun c84 => ?_) (fun c84 => absurd c84 (by omega))
    exact kk _
set_option maxRecDepth 100000 in
set_option maxHeartbeats 4000000 in
theorem q_wlb {I N : Nat → Int} {F : Nat → Int → Int} {n0 : Nat} {Z : XW → Option Value → Prop} {K : Nat → Int} {G : Nat → Int → Int} (hG : FR G) (hK : IR K) (hM : MR K) {s : Int} {o : Option Value} (hs : 0 ≤ s ∧ s < K 3) (hy : syR G s) (hlen : K 55 + ((mLs G s ++ mBk G s).length : Int) ≤ 1700) (hr : ∀ a ∈ mLs G s ++ mBk G s, -2147483648 ≤ a ∧ a < 2147483648) (kk : ∀ x : Int, Vd (rm 3 68 0 0) [] mX9_write n0 Z 0 0 137 [some (.ref 31), some (J s), some (J x)] [] (W2 I N F (moN K (mLs G s ++ mBk G s)) (moG K G (mLs G s ++ mBk G s)))) : Vd (rm 3 68 0 0) [] mX9_write n0 Z 0 0 42 [some (.ref 31), some (J s), o] [] (W2 I N F K G) := by
  have hM0 := hM
  unfold MR at hM
  simp only [List.length_append] at hlen
  have hll : (mLs G s).length = (G 5 s).toNat := mLet_len _ _ _ _
  have h5 : 0 ≤ G 5 s := hy.2.1
  have hG1 : FR (moG K G (mLs G s)) := FRmo hG (fun a h => hr a (List.mem_append_left _ h))
  have hM1 : MR (moN K (mLs G s)) := MRmo hM0 (by omega)
  have hK1 : IR (moN K (mLs G s)) := IRmo hK hM0 (by omega)
  refine vi_const (dec_of DX9_write 25 rfl) ?_
  refine v_istore_n (dec_of DX9_write 26 rfl) (by decide) ?_
  dsimp only [List.set]
  refine q_wl_loop (s := s) (by omega) (G 5 s).toNat 0 K G hG hK hM0 hs.2 hy (by omega) (by omega) (by omega) (fun x => ?_)
  refine q_wb hG1 hK1 hM1 hs hy (by rw [mBk_mo]; simp only [moN, uN_s]; omega) (fun a h => hr a (List.mem_append_right _ (by rw [mBk_mo] at h; exact h))) (fun x => ?_)
  rw [mBk_mo]
  refine Vd_w mo2 ?_
  exact kk x
set_option maxRecDepth 100000 in
set_option maxHeartbeats 4000000 in
theorem q_wc_loop {I N : Nat → Int} {F : Nat → Int → Int} {n0 : Nat} {Z : XW → Option Value → Prop} : ∀ (m : Nat) (s : Int) (K : Nat → Int) (G : Nat → Int → Int), FR G → IR K → MR K → 0 ≤ s → s + m = K 3 → (∀ i : Int, s ≤ i → i < K 3 → syR G i) → K 55 + ((mSc G m s).length : Int) ≤ 1700 → (∀ a ∈ mSc G m s, -2147483648 ≤ a ∧ a < 2147483648) → Z (W2 I N F (moN K (mSc G m s)) (moG K G (mSc G m s))) (some (J (K 55 + (mSc G m s).length))) → Vd (rm 3 68 0 0) [] mX9_write n0 Z 0 0 7 [some (.ref 31), some (J s), none] [] (W2 I N F K G) := by
  intro m
  induction m with
  | zero =>
    intro s K G hG hK hM h0 h1 hs hl hr hz
    unfold MR at hM
    refine v_iload_n (dec_of DX9_write 5 rfl) rfl ?_
    refine v_aload_n (dec_of DX9_write 6 rfl) rfl ?_
    refine v_get fX9_133 (dec_of DX9_write 7 rfl) rfl rfl ?_
    refine vi_icmp_ge (tgt := 143) (dec_of DX9_write 8 rfl) (by decide) (by first | omega | exact bnd_r _ _ | exact hG _ _ | exact hK _ | (simp (disch := decide) only [uN_s, uN_n]; omega)) (by first | omega | exact bnd_r _ _ | exact hG _ _ | exact hK _ | (simp (disch := decide) only [uN_s, uN_n]; omega)) (fun c12 => ?_) (fun c12 => absurd c12 (by omega))
    refine v_aload_n (dec_of DX9_write 84 rfl) rfl ?_
    refine v_get fX9_266 (dec_of DX9_write 85 rfl) rfl rfl ?_
    exact vi_ret (dec_of DX9_write 86 rfl) rfl ⟨by decide, by decide⟩ (by rw [mSc, mo_nil] at hz; rw [show K 55 + ((([] : List Int).length : Nat) : Int) = K 55 by simp] at hz; exact hz)
  | succ m ih =>
    intro s K G hG hK hM h0 h1 hs hl hr hz
    have hM0 := hM
    unfold MR at hM
    rw [mSc] at hl hr hz
    simp only [List.length_append] at hl
    have hy := hs s (by omega) (by omega)
    have hGy : FR (moG K G (mSy G s)) := FRmo hG (fun a h => hr a (List.mem_append_left _ h))
    have hMy : MR (moN K (mSy G s)) := MRmo hM0 (by omega)
    have hKy : IR (moN K (mSy G s)) := IRmo hK hM0 (by omega)
    have back : ∀ x : Int, Vd (rm 3 68 0 0) [] mX9_write n0 Z 0 0 137 [some (.ref 31), some (J s), some (J x)] [] (W2 I N F (moN K (mSy G s)) (moG K G (mSy G s))) := by
      intro x
      refine vi_inc (dec_of DX9_write 82 rfl) rfl (by decide) ?_
      dsimp only [List.set]
      refine v_goto (tgt := 7) (dec_of DX9_write 83 rfl) (by decide) ?_
      refine Vd_fg 2 ?_
      dsimp only [List.set]
      refine ih (s + 1) _ _ hGy hKy hMy (by omega) (show s + 1 + (m : Int) = K 3 by omega) (fun i a b => hs i (by omega) b) (by rw [mSc_mo]; simp only [moN, uN_s]; omega) (fun a h => hr a (List.mem_append_right _ (by rw [mSc_mo] at h; exact h))) ?_
      rw [mSc_mo, mo2]
      rw [show moN K (mSy G s) 55 + ((mSc G m (s + 1)).length : Int) = K 55 + ((mSy G s ++ mSc G m (s + 1)).length : Int) by simp only [moN, uN_s, List.length_append]; omega]
      exact hz
    by_cases hb : 0 < s ∧ ¬ G 8 s = G 8 (s - 1)
    · have eB : mSy G s = [32] ++ (mLs G s ++ mBk G s) := by rw [mSy, mBl, if_pos hb]
      rw [eB] at hl hr back
      simp only [List.length_append, List.length_cons, List.length_nil] at hl
      have hG1 : FR (moG K G [32]) := FRmo hG (fun a h => hr a (List.mem_append_left _ (List.mem_append_left _ h)))
      have hM1 : MR (moN K [32]) := MRmo hM0 (by simp only [List.length_cons, List.length_nil]; omega)
      have hK1 : IR (moN K [32]) := IRmo hK hM0 (by simp only [List.length_cons, List.length_nil]; omega)
      refine v_iload_n (dec_of DX9_write 5 rfl) rfl ?_
      refine v_aload_n (dec_of DX9_write 6 rfl) rfl ?_
      refine v_get fX9_133 (dec_of DX9_write 7 rfl) rfl rfl ?_
      refine vi_icmp_ge (tgt := 143) (dec_of DX9_write 8 rfl) (by decide) (by first | omega | exact bnd_r _ _ | exact hG _ _ | exact hK _ | (simp (disch := decide) only [uN_s, uN_n]; omega)) (by first | omega | exact bnd_r _ _ | exact hG _ _ | exact hK _ | (simp (disch := decide) only [uN_s, uN_n]; omega)) (fun c12 => absurd c12 (by omega)) (fun c12 => ?_)
      refine v_iload_n (dec_of DX9_write 9 rfl) rfl ?_
      refine vi_if_le (tgt := 42) (dec_of DX9_write 10 rfl) (by decide) (by first | omega | exact bnd_r _ _ | exact hG _ _ | exact hK _ | (simp (disch := decide) only [uN_s, uN_n]; omega)) (fun c16 => absurd c16 (by omega)) (fun c16 => ?_)
      refine v_aload_n (dec_of DX9_write 11 rfl) rfl ?_
      refine v_get fX9_28 (dec_of DX9_write 12 rfl) rfl rfl ?_
      refine v_iload_n (dec_of DX9_write 13 rfl) rfl ?_
      refine vi_aload (dec_of DX9_write 14 rfl) rfl (by first | omega | exact bnd_r _ _ | exact hG _ _ | exact hK _ | (simp (disch := decide) only [uN_s, uN_n]; omega)) (by decide) ?_
      refine v_aload_n (dec_of DX9_write 15 rfl) rfl ?_
      refine v_get fX9_28 (dec_of DX9_write 16 rfl) rfl rfl ?_
      refine v_iload_n (dec_of DX9_write 17 rfl) rfl ?_
      refine vi_const (dec_of DX9_write 18 rfl) ?_
      refine vi_sub (dec_of DX9_write 19 rfl) ?_
      refine vi_aload (dec_of DX9_write 20 rfl) rfl (by first | omega | exact bnd_r _ _ | exact hG _ _ | exact hK _ | (simp (disch := decide) only [uN_s, uN_n]; omega)) (by decide) ?_
      refine vi_icmp_eq (tgt := 42) (dec_of DX9_write 21 rfl) (by decide) (by first | omega | exact bnd_r _ _ | exact hG _ _ | exact hK _ | (simp (disch := decide) only [uN_s, uN_n]; omega)) (by first | omega | exact bnd_r _ _ | exact hG _ _ | exact hK _ | (simp (disch := decide) only [uN_s, uN_n]; omega)) (fun c33 => absurd c33 (by omega)) (fun c33 => ?_)
      refine v_aload_n (dec_of DX9_write 22 rfl) rfl ?_
      refine vi_bi (dec_of DX9_write 23 rfl) (by decide) ?_
      refine v_V1v (qw_tell hG hK hM0 (by omega)) lX9_269 (dec_of DX9_write 24 rfl) rfl rfl (by decide) (nle rfl) rfl ?_
      refine q_wlb hG1 hK1 hM1 (show 0 ≤ s ∧ s < K 3 by omega) hy (by rw [mLs_mo, mBk_mo]; simp only [moN, uN_s, List.length_append, List.length_cons, List.length_nil]; omega) (fun a h => hr a (List.mem_append_left _ (List.mem_append_right _ (by rw [mLs_mo, mBk_mo] at h; exact h)))) (fun x => ?_)
      rw [mLs_mo, mBk_mo]
      refine Vd_w mo2 ?_
      exact back _
    · have eB : mSy G s = mLs G s ++ mBk G s := by rw [mSy, mBl, if_neg hb, List.nil_append]
      rw [eB] at hl hr back
      simp only [List.length_append] at hl
      refine v_iload_n (dec_of DX9_write 5 rfl) rfl ?_
      refine v_aload_n (dec_of DX9_write 6 rfl) rfl ?_
      refine v_get fX9_133 (dec_of DX9_write 7 rfl) rfl rfl ?_
      refine vi_icmp_ge (tgt := 143) (dec_of DX9_write 8 rfl) (by decide) (by first | omega | exact bnd_r _ _ | exact hG _ _ | exact hK _ | (simp (disch := decide) only [uN_s, uN_n]; omega)) (by first | omega | exact bnd_r _ _ | exact hG _ _ | exact hK _ | (simp (disch := decide) only [uN_s, uN_n]; omega)) (fun c12 => absurd c12 (by omega)) (fun c12 => ?_)
      refine v_iload_n (dec_of DX9_write 9 rfl) rfl ?_
      refine vi_if_le (tgt := 42) (dec_of DX9_write 10 rfl) (by decide) (by first | omega | exact bnd_r _ _ | exact hG _ _ | exact hK _ | (simp (disch := decide) only [uN_s, uN_n]; omega)) (fun c16 => ?_) (fun c16 => ?_)
      · exact q_wlb hG hK hM0 (by omega) hy (by simp only [List.length_append]; omega) (fun a h => hr a (List.mem_append_left _ h)) back
      · refine v_aload_n (dec_of DX9_write 11 rfl) rfl ?_
        refine v_get fX9_28 (dec_of DX9_write 12 rfl) rfl rfl ?_
        refine v_iload_n (dec_of DX9_write 13 rfl) rfl ?_
        refine vi_aload (dec_of DX9_write 14 rfl) rfl (by first | omega | exact bnd_r _ _ | exact hG _ _ | exact hK _ | (simp (disch := decide) only [uN_s, uN_n]; omega)) (by decide) ?_
        refine v_aload_n (dec_of DX9_write 15 rfl) rfl ?_
        refine v_get fX9_28 (dec_of DX9_write 16 rfl) rfl rfl ?_
        refine v_iload_n (dec_of DX9_write 17 rfl) rfl ?_
        refine vi_const (dec_of DX9_write 18 rfl) ?_
        refine vi_sub (dec_of DX9_write 19 rfl) ?_
        refine vi_aload (dec_of DX9_write 20 rfl) rfl (by first | omega | exact bnd_r _ _ | exact hG _ _ | exact hK _ | (simp (disch := decide) only [uN_s, uN_n]; omega)) (by decide) ?_
        refine vi_icmp_eq (tgt := 42) (dec_of DX9_write 21 rfl) (by decide) (by first | omega | exact bnd_r _ _ | exact hG _ _ | exact hK _ | (simp (disch := decide) only [uN_s, uN_n]; omega)) (by first | omega | exact bnd_r _ _ | exact hG _ _ | exact hK _ | (simp (disch := decide) only [uN_s, uN_n]; omega)) (fun c33 => ?_) (fun c33 => absurd c33 (by omega))
        exact q_wlb hG hK hM0 (by omega) hy (by simp only [List.length_append]; omega) (fun a h => hr a (List.mem_append_left _ h)) back
/-- what the reference writes -/
def mTx (K : Nat → Int) (G : Nat → Int → Int) : List Int := mSc G (K 3).toNat 0
theorem MR55 {K : Nat → Int} (h : MR K) {a : Int} (ha : 0 ≤ a ∧ a ≤ 1700) : MR (uN K 55 a) := by
  unfold MR at *
  simp (disch := decide) only [uN_s, uN_n]
  omega
set_option maxRecDepth 100000 in
set_option maxHeartbeats 4000000 in
theorem q_write {I N : Nat → Int} {F : Nat → Int → Int} {K : Nat → Int} {G : Nat → Int → Int} (hG : FR G) (hK : IR K) (hM : MR K) (hy : ∀ i : Int, 0 ≤ i → i < K 3 → syR G i) (hlen : ((mTx K G).length : Int) ≤ 1700) (hr : ∀ a ∈ mTx K G, -2147483648 ≤ a ∧ a < 2147483648) : Sd (rm 3 68 0 0) mX9_write [.ref 31] (W2 I N F K G) (W2 I N F (moN (uN K 55 0) (mTx K G)) (moG (uN K 55 0) G (mTx K G))) (some (J ((mTx K G).length))) := by
  unfold Sd
  unfold MR at hM
  refine sp_of (ls := [some (.ref 31), none, none]) (by decide) (nle rfl) rfl rfl ?_
  refine v_aload_n (dec_of DX9_write 0 rfl) rfl ?_
  refine vi_const (dec_of DX9_write 1 rfl) ?_
  refine mp_55 fX9_266 (dec_of DX9_write 2 rfl) ?_
  refine vi_const (dec_of DX9_write 3 rfl) ?_
  refine v_istore_n (dec_of DX9_write 4 rfl) (by decide) ?_
  dsimp only [List.set]
  refine q_wc_loop (K 3).toNat 0 (uN K 55 0) G hG (hK.up (by omega)) (MR55 (by unfold MR; exact hM) (by omega)) (by omega) (show (0 : Int) + ((K 3).toNat : Int) = K 3 by omega) hy (by rw [uN_s]; unfold mTx at hlen; omega) hr ?_
  exact ⟨rfl, Jc (by rw [uN_s, mTx]; omega)⟩
