/-! the reference: mode, bar, feed (printed by wip/tools/gen_m3.py) -/
def lwM (f : Int → Int) : Nat → Int
  | 0 => f 0
  | n + 1 => if f ((n : Int) + 1) < lwM f n then f ((n : Int) + 1) else lwM f n
def hgM (f : Int → Int) : Nat → Int
  | 0 => f 0
  | n + 1 => if hgM f n < f ((n : Int) + 1) then f ((n : Int) + 1) else hgM f n
theorem lwM_r {f : Int → Int} {x y : Int} : ∀ n : Nat, (∀ k : Int, 0 ≤ k → k ≤ n → x ≤ f k ∧ f k ≤ y) → x ≤ lwM f n ∧ lwM f n ≤ y := by
  intro n
  induction n with
  | zero => intro h; exact h 0 (by omega) (by omega)
  | succ n ih =>
    intro h
    have h1 := ih (fun k a b => h k a (by omega))
    have h2 := h ((n : Int) + 1) (by omega) (by omega)
    unfold lwM
    omega
theorem hgM_r {f : Int → Int} {x y : Int} : ∀ n : Nat, (∀ k : Int, 0 ≤ k → k ≤ n → x ≤ f k ∧ f k ≤ y) → x ≤ hgM f n ∧ hgM f n ≤ y := by
  intro n
  induction n with
  | zero => intro h; exact h 0 (by omega) (by omega)
  | succ n ih =>
    intro h
    have h1 := ih (fun k a b => h k a (by omega))
    have h2 := h ((n : Int) + 1) (by omega) (by omega)
    unfold hgM
    omega
def SM (K : Nat → Int) (G : Nat → Int → Int) : Prop := ∀ k : Int, 0 ≤ k → k < K 15 → -1000 ≤ G 30 k ∧ G 30 k ≤ 1000
def lsM (K : Nat → Int) (G : Nat → Int → Int) : Int := G 30 (K 15 - 1)
def lowM (K : Nat → Int) (G : Nat → Int → Int) : Int := lwM (G 30) (K 15 - 1).toNat
def hghM (K : Nat → Int) (G : Nat → Int → Int) : Int := hgM (G 30) (K 15 - 1).toNat
def mdM (K : Nat → Int) (G : Nat → Int → Int) : Int := G 41 (lsM K G % 7) + (if 0 < G 41 (lsM K G % 7) ∧ 3 ≤ lsM K G - lowM K G ∧ hghM K G - lsM K G ≤ 5 then 1 else 0)
def MT (G : Nat → Int → Int) : Prop := ∀ i : Int, 0 ≤ i → i < 7 → 0 ≤ G 41 i ∧ G 41 i ≤ 7
set_option maxRecDepth 100000 in
set_option maxHeartbeats 4000000 in
theorem q_md_loop {I N : Nat → Int} {F : Nat → Int → Int} {K : Nat → Int} {G : Nat → Int → Int} (hG : FR G) (hK : IR K) (hM : MR K) {n0 : Nat} {Z : XW → Option Value → Prop} {a : Int} (hS : SM K G) (h15 : 0 < K 15) (hz : Vd (rm 2 43 0 0) [] mX9_mode n0 Z 0 0 100 [some (.ref 31), some (J a), some (J (lowM K G)), some (J (hghM K G)), some (J (K 15)), none] [] (W2 I N F K G)) : ∀ (m n : Nat), (n : Int) + 1 + m = K 15 → Vd (rm 2 43 0 0) [] mX9_mode n0 Z 0 0 39 [some (.ref 31), some (J a), some (J (lwM (G 30) n)), some (J (hgM (G 30) n)), some (J ((n : Int) + 1)), none] [] (W2 I N F K G) := by
  unfold MR at hM
  intro m
  induction m with
  | zero =>
    intro n hn
    have e : n = (K 15 - 1).toNat := by omega
    refine v_iload (dec_of DX9_mode 24 rfl) rfl ?_
    refine v_aload_n (dec_of DX9_mode 25 rfl) rfl ?_
    refine v_get fX9_142 (dec_of DX9_mode 26 rfl) rfl rfl ?_
    refine vi_icmp_ge (tgt := 100) (dec_of DX9_mode 27 rfl) (by decide) (by first | omega | exact bnd_r _ _ | exact hG _ _ | exact hK _ | (simp (disch := decide) only [uN_s, uN_n]; omega)) (by first | omega | exact bnd_r _ _ | exact hG _ _ | exact hK _ | (simp (disch := decide) only [uN_s, uN_n]; omega)) (fun c45 => ?_) (fun c45 => absurd c45 (by omega))
    have hz2 := hz
    rw [lowM, hghM, ← e, show K 15 = (n : Int) + 1 by omega] at hz2
    exact hz2
  | succ m ih =>
    intro n hn
    have hl := lwM_r (f := G 30) n (fun k a b => hS k a (by omega))
    have hh := hgM_r (f := G 30) n (fun k a b => hS k a (by omega))
    have hs := hS ((n : Int) + 1) (by omega) (by omega)
    by_cases h1 : G 30 ((n : Int) + 1) < lwM (G 30) n
    · have e1 : G 30 ((n : Int) + 1) = lwM (G 30) (n + 1) := by rw [lwM, if_pos h1]
      by_cases h2 : hgM (G 30) n < G 30 ((n : Int) + 1)
      · have e2 : G 30 ((n : Int) + 1) = hgM (G 30) (n + 1) := by rw [hgM, if_pos h2]
        refine v_iload (dec_of DX9_mode 24 rfl) rfl ?_
        refine v_aload_n (dec_of DX9_mode 25 rfl) rfl ?_
        refine v_get fX9_142 (dec_of DX9_mode 26 rfl) rfl rfl ?_
        refine vi_icmp_ge (tgt := 100) (dec_of DX9_mode 27 rfl) (by decide) (by first | omega | exact bnd_r _ _ | exact hG _ _ | exact hK _ | (simp (disch := decide) only [uN_s, uN_n]; omega)) (by first | omega | exact bnd_r _ _ | exact hG _ _ | exact hK _ | (simp (disch := decide) only [uN_s, uN_n]; omega)) (fun c45 => absurd c45 (by omega)) (fun c45 => ?_)
        refine v_aload_n (dec_of DX9_mode 28 rfl) rfl ?_
        refine v_get fX9_59 (dec_of DX9_mode 29 rfl) rfl rfl ?_
        refine v_iload (dec_of DX9_mode 30 rfl) rfl ?_
        refine vi_aload (dec_of DX9_mode 31 rfl) rfl (by first | omega | exact bnd_r _ _ | exact hG _ _ | exact hK _ | (simp (disch := decide) only [uN_s, uN_n]; omega)) (by decide) ?_
        refine v_iload_n (dec_of DX9_mode 32 rfl) rfl ?_
        refine vi_icmp_ge (tgt := 69) (dec_of DX9_mode 33 rfl) (by decide) (by first | omega | exact bnd_r _ _ | exact hG _ _ | exact hK _ | (simp (disch := decide) only [uN_s, uN_n]; omega)) (by first | omega | exact bnd_r _ _ | exact hG _ _ | exact hK _ | (simp (disch := decide) only [uN_s, uN_n]; omega)) (fun c56 => absurd c56 (by omega)) (fun c56 => ?_)
        refine v_aload_n (dec_of DX9_mode 34 rfl) rfl ?_
        refine v_get fX9_59 (dec_of DX9_mode 35 rfl) rfl rfl ?_
        refine v_iload (dec_of DX9_mode 36 rfl) rfl ?_
        refine vi_aload (dec_of DX9_mode 37 rfl) rfl (by first | omega | exact bnd_r _ _ | exact hG _ _ | exact hK _ | (simp (disch := decide) only [uN_s, uN_n]; omega)) (by decide) ?_
        refine v_goto (tgt := 70) (dec_of DX9_mode 38 rfl) (by decide) ?_
        refine v_istore_n (dec_of DX9_mode 40 rfl) (by decide) ?_
        dsimp only [List.set]
        refine v_aload_n (dec_of DX9_mode 41 rfl) rfl ?_
        refine v_get fX9_59 (dec_of DX9_mode 42 rfl) rfl rfl ?_
        refine v_iload (dec_of DX9_mode 43 rfl) rfl ?_
        refine vi_aload (dec_of DX9_mode 44 rfl) rfl (by first | omega | exact bnd_r _ _ | exact hG _ _ | exact hK _ | (simp (disch := decide) only [uN_s, uN_n]; omega)) (by decide) ?_
        refine v_iload_n (dec_of DX9_mode 45 rfl) rfl ?_
        refine vi_icmp_le (tgt := 92) (dec_of DX9_mode 46 rfl) (by decide) (by first | omega | exact bnd_r _ _ | exact hG _ _ | exact hK _ | (simp (disch := decide) only [uN_s, uN_n]; omega)) (by first | omega | exact bnd_r _ _ | exact hG _ _ | exact hK _ | (simp (disch := decide) only [uN_s, uN_n]; omega)) (fun c79 => absurd c79 (by omega)) (fun c79 => ?_)
        refine v_aload_n (dec_of DX9_mode 47 rfl) rfl ?_
        refine v_get fX9_59 (dec_of DX9_mode 48 rfl) rfl rfl ?_
        refine v_iload (dec_of DX9_mode 49 rfl) rfl ?_
        refine vi_aload (dec_of DX9_mode 50 rfl) rfl (by first | omega | exact bnd_r _ _ | exact hG _ _ | exact hK _ | (simp (disch := decide) only [uN_s, uN_n]; omega)) (by decide) ?_
        refine v_goto (tgt := 93) (dec_of DX9_mode 51 rfl) (by decide) ?_
        refine v_istore_n (dec_of DX9_mode 53 rfl) (by decide) ?_
        dsimp only [List.set]
        refine vi_inc (dec_of DX9_mode 54 rfl) rfl (by decide) ?_
        dsimp only [List.set]
        refine v_goto (tgt := 39) (dec_of DX9_mode 55 rfl) (by decide) ?_
        have h9 := ih (n + 1) (by omega)
        rw [← e1, ← e2] at h9
        exact h9
      · have e2 : hgM (G 30) n = hgM (G 30) (n + 1) := by rw [hgM, if_neg h2]
        refine v_iload (dec_of DX9_mode 24 rfl) rfl ?_
        refine v_aload_n (dec_of DX9_mode 25 rfl) rfl ?_
        refine v_get fX9_142 (dec_of DX9_mode 26 rfl) rfl rfl ?_
        refine vi_icmp_ge (tgt := 100) (dec_of DX9_mode 27 rfl) (by decide) (by first | omega | exact bnd_r _ _ | exact hG _ _ | exact hK _ | (simp (disch := decide) only [uN_s, uN_n]; omega)) (by first | omega | exact bnd_r _ _ | exact hG _ _ | exact hK _ | (simp (disch := decide) only [uN_s, uN_n]; omega)) (fun c45 => absurd c45 (by omega)) (fun c45 => ?_)
        refine v_aload_n (dec_of DX9_mode 28 rfl) rfl ?_
        refine v_get fX9_59 (dec_of DX9_mode 29 rfl) rfl rfl ?_
        refine v_iload (dec_of DX9_mode 30 rfl) rfl ?_
        refine vi_aload (dec_of DX9_mode 31 rfl) rfl (by first | omega | exact bnd_r _ _ | exact hG _ _ | exact hK _ | (simp (disch := decide) only [uN_s, uN_n]; omega)) (by decide) ?_
        refine v_iload_n (dec_of DX9_mode 32 rfl) rfl ?_
        refine vi_icmp_ge (tgt := 69) (dec_of DX9_mode 33 rfl) (by decide) (by first | omega | exact bnd_r _ _ | exact hG _ _ | exact hK _ | (simp (disch := decide) only [uN_s, uN_n]; omega)) (by first | omega | exact bnd_r _ _ | exact hG _ _ | exact hK _ | (simp (disch := decide) only [uN_s, uN_n]; omega)) (fun c56 => absurd c56 (by omega)) (fun c56 => ?_)
        refine v_aload_n (dec_of DX9_mode 34 rfl) rfl ?_
        refine v_get fX9_59 (dec_of DX9_mode 35 rfl) rfl rfl ?_
        refine v_iload (dec_of DX9_mode 36 rfl) rfl ?_
        refine vi_aload (dec_of DX9_mode 37 rfl) rfl (by first | omega | exact bnd_r _ _ | exact hG _ _ | exact hK _ | (simp (disch := decide) only [uN_s, uN_n]; omega)) (by decide) ?_
        refine v_goto (tgt := 70) (dec_of DX9_mode 38 rfl) (by decide) ?_
        refine v_istore_n (dec_of DX9_mode 40 rfl) (by decide) ?_
        dsimp only [List.set]
        refine v_aload_n (dec_of DX9_mode 41 rfl) rfl ?_
        refine v_get fX9_59 (dec_of DX9_mode 42 rfl) rfl rfl ?_
        refine v_iload (dec_of DX9_mode 43 rfl) rfl ?_
        refine vi_aload (dec_of DX9_mode 44 rfl) rfl (by first | omega | exact bnd_r _ _ | exact hG _ _ | exact hK _ | (simp (disch := decide) only [uN_s, uN_n]; omega)) (by decide) ?_
        refine v_iload_n (dec_of DX9_mode 45 rfl) rfl ?_
        refine vi_icmp_le (tgt := 92) (dec_of DX9_mode 46 rfl) (by decide) (by first | omega | exact bnd_r _ _ | exact hG _ _ | exact hK _ | (simp (disch := decide) only [uN_s, uN_n]; omega)) (by first | omega | exact bnd_r _ _ | exact hG _ _ | exact hK _ | (simp (disch := decide) only [uN_s, uN_n]; omega)) (fun c79 => ?_) (fun c79 => absurd c79 (by omega))
        refine v_iload_n (dec_of DX9_mode 52 rfl) rfl ?_
        refine v_istore_n (dec_of DX9_mode 53 rfl) (by decide) ?_
        dsimp only [List.set]
        refine vi_inc (dec_of DX9_mode 54 rfl) rfl (by decide) ?_
        dsimp only [List.set]
        refine v_goto (tgt := 39) (dec_of DX9_mode 55 rfl) (by decide) ?_
        have h9 := ih (n + 1) (by omega)
        rw [← e1, ← e2] at h9
        exact h9
    · have e1 : lwM (G 30) n = lwM (G 30) (n + 1) := by rw [lwM, if_neg h1]
      by_cases h2 : hgM (G 30) n < G 30 ((n : Int) + 1)
      · have e2 : G 30 ((n : Int) + 1) = hgM (G 30) (n + 1) := by rw [hgM, if_pos h2]
        refine v_iload (dec_of DX9_mode 24 rfl) rfl ?_
        refine v_aload_n (dec_of DX9_mode 25 rfl) rfl ?_
        refine v_get fX9_142 (dec_of DX9_mode 26 rfl) rfl rfl ?_
        refine vi_icmp_ge (tgt := 100) (dec_of DX9_mode 27 rfl) (by decide) (by first | omega | exact bnd_r _ _ | exact hG _ _ | exact hK _ | (simp (disch := decide) only [uN_s, uN_n]; omega)) (by first | omega | exact bnd_r _ _ | exact hG _ _ | exact hK _ | (simp (disch := decide) only [uN_s, uN_n]; omega)) (fun c45 => absurd c45 (by omega)) (fun c45 => ?_)
        refine v_aload_n (dec_of DX9_mode 28 rfl) rfl ?_
        refine v_get fX9_59 (dec_of DX9_mode 29 rfl) rfl rfl ?_
        refine v_iload (dec_of DX9_mode 30 rfl) rfl ?_
        refine vi_aload (dec_of DX9_mode 31 rfl) rfl (by first | omega | exact bnd_r _ _ | exact hG _ _ | exact hK _ | (simp (disch := decide) only [uN_s, uN_n]; omega)) (by decide) ?_
        refine v_iload_n (dec_of DX9_mode 32 rfl) rfl ?_
        refine vi_icmp_ge (tgt := 69) (dec_of DX9_mode 33 rfl) (by decide) (by first | omega | exact bnd_r _ _ | exact hG _ _ | exact hK _ | (simp (disch := decide) only [uN_s, uN_n]; omega)) (by first | omega | exact bnd_r _ _ | exact hG _ _ | exact hK _ | (simp (disch := decide) only [uN_s, uN_n]; omega)) (fun c56 => ?_) (fun c56 => absurd c56 (by omega))
        refine v_iload_n (dec_of DX9_mode 39 rfl) rfl ?_
        refine v_istore_n (dec_of DX9_mode 40 rfl) (by decide) ?_
        dsimp only [List.set]
        refine v_aload_n (dec_of DX9_mode 41 rfl) rfl ?_
        refine v_get fX9_59 (dec_of DX9_mode 42 rfl) rfl rfl ?_
        refine v_iload (dec_of DX9_mode 43 rfl) rfl ?_
        refine vi_aload (dec_of DX9_mode 44 rfl) rfl (by first | omega | exact bnd_r _ _ | exact hG _ _ | exact hK _ | (simp (disch := decide) only [uN_s, uN_n]; omega)) (by decide) ?_
        refine v_iload_n (dec_of DX9_mode 45 rfl) rfl ?_
        refine vi_icmp_le (tgt := 92) (dec_of DX9_mode 46 rfl) (by decide) (by first | omega | exact bnd_r _ _ | exact hG _ _ | exact hK _ | (simp (disch := decide) only [uN_s, uN_n]; omega)) (by first | omega | exact bnd_r _ _ | exact hG _ _ | exact hK _ | (simp (disch := decide) only [uN_s, uN_n]; omega)) (fun c79 => absurd c79 (by omega)) (fun c79 => ?_)
        refine v_aload_n (dec_of DX9_mode 47 rfl) rfl ?_
        refine v_get fX9_59 (dec_of DX9_mode 48 rfl) rfl rfl ?_
        refine v_iload (dec_of DX9_mode 49 rfl) rfl ?_
        refine vi_aload (dec_of DX9_mode 50 rfl) rfl (by first | omega | exact bnd_r _ _ | exact hG _ _ | exact hK _ | (simp (disch := decide) only [uN_s, uN_n]; omega)) (by decide) ?_
        refine v_goto (tgt := 93) (dec_of DX9_mode 51 rfl) (by decide) ?_
        refine v_istore_n (dec_of DX9_mode 53 rfl) (by decide) ?_
        dsimp only [List.set]
        refine vi_inc (dec_of DX9_mode 54 rfl) rfl (by decide) ?_
        dsimp only [List.set]
        refine v_goto (tgt := 39) (dec_of DX9_mode 55 rfl) (by decide) ?_
        have h9 := ih (n + 1) (by omega)
        rw [← e1, ← e2] at h9
        exact h9
      · have e2 : hgM (G 30) n = hgM (G 30) (n + 1) := by rw [hgM, if_neg h2]
        refine v_iload (dec_of DX9_mode 24 rfl) rfl ?_
        refine v_aload_n (dec_of DX9_mode 25 rfl) rfl ?_
        refine v_get fX9_142 (dec_of DX9_mode 26 rfl) rfl rfl ?_
        refine vi_icmp_ge (tgt := 100) (dec_of DX9_mode 27 rfl) (by decide) (by first | omega | exact bnd_r _ _ | exact hG _ _ | exact hK _ | (simp (disch := decide) only [uN_s, uN_n]; omega)) (by first | omega | exact bnd_r _ _ | exact hG _ _ | exact hK _ | (simp (disch := decide) only [uN_s, uN_n]; omega)) (fun c45 => absurd c45 (by omega)) (fun c45 => ?_)
        refine v_aload_n (dec_of DX9_mode 28 rfl) rfl ?_
        refine v_get fX9_59 (dec_of DX9_mode 29 rfl) rfl rfl ?_
        refine v_iload (dec_of DX9_mode 30 rfl) rfl ?_
        refine vi_aload (dec_of DX9_mode 31 rfl) rfl (by first | omega | exact bnd_r _ _ | exact hG _ _ | exact hK _ | (simp (disch := decide) only [uN_s, uN_n]; omega)) (by decide) ?_
        refine v_iload_n (dec_of DX9_mode 32 rfl) rfl ?_
        refine vi_icmp_ge (tgt := 69) (dec_of DX9_mode 33 rfl) (by decide) (by first | omega | exact bnd_r _ _ | exact hG _ _ | exact hK _ | (simp (disch := decide) only [uN_s, uN_n]; omega)) (by first | omega | exact bnd_r _ _ | exact hG _ _ | exact hK _ | (simp (disch := decide) only [uN_s, uN_n]; omega)) (fun c56 => ?_) (fun c56 => absurd c56 (by omega))
        refine v_iload_n (dec_of DX9_mode 39 rfl) rfl ?_
        refine v_istore_n (dec_of DX9_mode 40 rfl) (by decide) ?_
        dsimp only [List.set]
        refine v_aload_n (dec_of DX9_mode 41 rfl) rfl ?_
        refine v_get fX9_59 (dec_of DX9_mode 42 rfl) rfl rfl ?_
        refine v_iload (dec_of DX9_mode 43 rfl) rfl ?_
        refine vi_aload (dec_of DX9_mode 44 rfl) rfl (by first | omega | exact bnd_r _ _ | exact hG _ _ | exact hK _ | (simp (disch := decide) only [uN_s, uN_n]; omega)) (by decide) ?_
        refine v_iload_n (dec_of DX9_mode 45 rfl) rfl ?_
        refine vi_icmp_le (tgt := 92) (dec_of DX9_mode 46 rfl) (by decide) (by first | omega | exact bnd_r _ _ | exact hG _ _ | exact hK _ | (simp (disch := decide) only [uN_s, uN_n]; omega)) (by first | omega | exact bnd_r _ _ | exact hG _ _ | exact hK _ | (simp (disch := decide) only [uN_s, uN_n]; omega)) (fun c79 => ?_) (fun c79 => absurd c79 (by omega))
        refine v_iload_n (dec_of DX9_mode 52 rfl) rfl ?_
        refine v_istore_n (dec_of DX9_mode 53 rfl) (by decide) ?_
        dsimp only [List.set]
        refine vi_inc (dec_of DX9_mode 54 rfl) rfl (by decide) ?_
        dsimp only [List.set]
        refine v_goto (tgt := 39) (dec_of DX9_mode 55 rfl) (by decide) ?_
        have h9 := ih (n + 1) (by omega)
        rw [← e1, ← e2] at h9
        exact h9
set_option maxRecDepth 100000 in
set_option maxHeartbeats 4000000 in
theorem q_md_t0 {I N : Nat → Int} {F : Nat → Int → Int} {K : Nat → Int} {G : Nat → Int → Int} (hG : FR G) (hK : IR K) (hM : MR K) {n0 : Nat} {Z : XW → Option Value → Prop} (hS : SM K G) (hT : MT G) (h15 : 0 < K 15) (hz : Z (W2 I N F K G) (some (J (mdM K G)))) :  Vd (rm 2 43 0 0) [] mX9_mode n0 Z 0 0 100 [some (.ref 31), some (J 0), some (J (lowM K G)), some (J (hghM K G)), some (J (K 15)), none] [] (W2 I N F K G) := by
  unfold MR at hM
  have hl := lwM_r (f := G 30) (x := -1000) (y := 1000) (K 15 - 1).toNat (fun k a b => hS k a (by omega))
  have hh := hgM_r (f := G 30) (x := -1000) (y := 1000) (K 15 - 1).toNat (fun k a b => hS k a (by omega))
  have hq := hS (K 15 - 1) (by omega) (by omega)
  change -1000 ≤ lowM K G ∧ lowM K G ≤ 1000 at hl
  change -1000 ≤ hghM K G ∧ hghM K G ≤ 1000 at hh
  change -1000 ≤ lsM K G ∧ lsM K G ≤ 1000 at hq
  have ht := hT (lsM K G % 7) (by omega) (by omega)
  have hmr : 0 ≤ mdM K G ∧ mdM K G ≤ 8 := by unfold mdM; omega
  refine v_aload_n (dec_of DX9_mode 56 rfl) rfl ?_
  refine v_get fX9_59 (dec_of DX9_mode 57 rfl) rfl rfl ?_
  refine v_aload_n (dec_of DX9_mode 58 rfl) rfl ?_
  refine v_get fX9_142 (dec_of DX9_mode 59 rfl) rfl rfl ?_
  refine vi_const (dec_of DX9_mode 60 rfl) ?_
  refine vi_sub (dec_of DX9_mode 61 rfl) ?_
  refine vi_aload (dec_of DX9_mode 62 rfl) rfl (by first | omega | exact bnd_r _ _ | exact hG _ _ | exact hK _ | (simp (disch := decide) only [uN_s, uN_n]; omega)) (by decide) ?_
  change Vd _ _ _ _ _ _ _ _ _ (J (lsM K G) :: _) _
  refine v_istore (dec_of DX9_mode 63 rfl) (by decide) ?_
  dsimp only [List.set]
  refine v_aload_n (dec_of DX9_mode 64 rfl) rfl ?_
  refine v_get fX9_89 (dec_of DX9_mode 65 rfl) rfl rfl ?_
  refine v_iload (dec_of DX9_mode 66 rfl) rfl ?_
  refine vi_bi (dec_of DX9_mode 67 rfl) (by decide) ?_
  refine v_S2r (q_mod (by omega)) lX9_219 (dec_of DX9_mode 68 rfl) (by decide) (nle rfl) rfl ?_
  refine vi_aload (dec_of DX9_mode 69 rfl) rfl (by first | omega | exact bnd_r _ _ | exact hG _ _ | exact hK _ | (simp (disch := decide) only [uN_s, uN_n]; omega)) (by decide) ?_
  refine v_istore (dec_of DX9_mode 70 rfl) (by decide) ?_
  dsimp only [List.set]
  refine v_iload (dec_of DX9_mode 71 rfl) rfl ?_
  refine v_iload (dec_of DX9_mode 72 rfl) rfl ?_
  refine vi_if_le (tgt := 154) (dec_of DX9_mode 73 rfl) (by decide) (by first | omega | exact bnd_r _ _ | exact hG _ _ | exact hK _ | (simp (disch := decide) only [uN_s, uN_n]; omega)) (fun c131 => ?_) (fun c131 => ?_)
  · refine vi_const (dec_of DX9_mode 86 rfl) ?_
    refine vi_add (dec_of DX9_mode 87 rfl) ?_
    rw [show _ + _ = mdM K G from by unfold mdM; omega]
    refine v_istore (dec_of DX9_mode 88 rfl) (by decide) ?_
    dsimp only [List.set]
    refine v_iload_n (dec_of DX9_mode 89 rfl) rfl ?_
    refine vi_tabIn (tgt := 188) (dec_of DX9_mode 90 rfl) (by decide) (by decide) (by decide) rfl (by decide) ?_
    refine v_iload (dec_of DX9_mode 91 rfl) rfl ?_
    exact vi_ret (dec_of DX9_mode 92 rfl) rfl ⟨by decide, by decide⟩ (hz)
  · refine v_iload (dec_of DX9_mode 74 rfl) rfl ?_
    refine v_iload_n (dec_of DX9_mode 75 rfl) rfl ?_
    refine vi_sub (dec_of DX9_mode 76 rfl) ?_
    refine vi_const (dec_of DX9_mode 77 rfl) ?_
    refine vi_icmp_lt (tgt := 154) (dec_of DX9_mode 78 rfl) (by decide) (by first | omega | exact bnd_r _ _ | exact hG _ _ | exact hK _ | (simp (disch := decide) only [uN_s, uN_n]; omega)) (by first | omega | exact bnd_r _ _ | exact hG _ _ | exact hK _ | (simp (disch := decide) only [uN_s, uN_n]; omega)) (fun c139 => ?_) (fun c139 => ?_)
    · refine vi_const (dec_of DX9_mode 86 rfl) ?_
      refine vi_add (dec_of DX9_mode 87 rfl) ?_
      rw [show _ + _ = mdM K G from by unfold mdM; omega]
      refine v_istore (dec_of DX9_mode 88 rfl) (by decide) ?_
      dsimp only [List.set]
      refine v_iload_n (dec_of DX9_mode 89 rfl) rfl ?_
      refine vi_tabIn (tgt := 188) (dec_of DX9_mode 90 rfl) (by decide) (by decide) (by decide) rfl (by decide) ?_
      refine v_iload (dec_of DX9_mode 91 rfl) rfl ?_
      exact vi_ret (dec_of DX9_mode 92 rfl) rfl ⟨by decide, by decide⟩ (hz)
    · refine v_iload_n (dec_of DX9_mode 79 rfl) rfl ?_
      refine v_iload (dec_of DX9_mode 80 rfl) rfl ?_
      refine vi_sub (dec_of DX9_mode 81 rfl) ?_
      refine vi_const (dec_of DX9_mode 82 rfl) ?_
      refine vi_icmp_gt (tgt := 154) (dec_of DX9_mode 83 rfl) (by decide) (by first | omega | exact bnd_r _ _ | exact hG _ _ | exact hK _ | (simp (disch := decide) only [uN_s, uN_n]; omega)) (by first | omega | exact bnd_r _ _ | exact hG _ _ | exact hK _ | (simp (disch := decide) only [uN_s, uN_n]; omega)) (fun c147 => ?_) (fun c147 => ?_)
      · refine vi_const (dec_of DX9_mode 86 rfl) ?_
        refine vi_add (dec_of DX9_mode 87 rfl) ?_
        rw [show _ + _ = mdM K G from by unfold mdM; omega]
        refine v_istore (dec_of DX9_mode 88 rfl) (by decide) ?_
        dsimp only [List.set]
        refine v_iload_n (dec_of DX9_mode 89 rfl) rfl ?_
        refine vi_tabIn (tgt := 188) (dec_of DX9_mode 90 rfl) (by decide) (by decide) (by decide) rfl (by decide) ?_
        refine v_iload (dec_of DX9_mode 91 rfl) rfl ?_
        exact vi_ret (dec_of DX9_mode 92 rfl) rfl ⟨by decide, by decide⟩ (hz)
      · refine vi_const (dec_of DX9_mode 84 rfl) ?_
        refine v_goto (tgt := 155) (dec_of DX9_mode 85 rfl) (by decide) ?_
        refine vi_add (dec_of DX9_mode 87 rfl) ?_
        rw [show _ + _ = mdM K G from by unfold mdM; omega]
        refine v_istore (dec_of DX9_mode 88 rfl) (by decide) ?_
        dsimp only [List.set]
        refine v_iload_n (dec_of DX9_mode 89 rfl) rfl ?_
        refine vi_tabIn (tgt := 188) (dec_of DX9_mode 90 rfl) (by decide) (by decide) (by decide) rfl (by decide) ?_
        refine v_iload (dec_of DX9_mode 91 rfl) rfl ?_
        exact vi_ret (dec_of DX9_mode 92 rfl) rfl ⟨by decide, by decide⟩ (hz)
set_option maxRecDepth 100000 in
set_option maxHeartbeats 4000000 in
theorem q_mode0 {I N : Nat → Int} {F : Nat → Int → Int} {K : Nat → Int} {G : Nat → Int → Int} (hG : FR G) (hK : IR K) (hM : MR K) (hS : SM K G) (hT : MT G) (h15 : 0 < K 15) : Sd (rm 2 43 0 0) mX9_mode [.ref 31, J 0] (W2 I N F K G) (W2 I N F K G) (some (J (mdM K G))) := by
  unfold Sd
  unfold MR at hM
  refine sp_of (ls := [some (.ref 31), some (J 0), none, none, none, none]) (by decide) (nle rfl) rfl rfl ?_
  refine v_iload_n (dec_of DX9_mode 0 rfl) rfl ?_
  refine vi_const (dec_of DX9_mode 1 rfl) ?_
  refine vi_const (dec_of DX9_mode 2 rfl) ?_
  refine v_S3r (q_in (by decide) (by decide) (by decide)) lX9_126 (dec_of DX9_mode 3 rfl) (by decide) (nle rfl) rfl ?_
  refine vi_if_ne (tgt := 12) (dec_of DX9_mode 4 rfl) (by decide) (by first | omega | exact bnd_r _ _ | exact hG _ _ | exact hK _ | (simp (disch := decide) only [uN_s, uN_n]; omega)) (fun c6 => ?_) (fun c6 => absurd c6 (by omega))
  refine v_aload_n (dec_of DX9_mode 7 rfl) rfl ?_
  refine v_get fX9_142 (dec_of DX9_mode 8 rfl) rfl rfl ?_
  refine vi_if_ne (tgt := 22) (dec_of DX9_mode 9 rfl) (by decide) (by first | omega | exact bnd_r _ _ | exact hG _ _ | exact hK _ | (simp (disch := decide) only [uN_s, uN_n]; omega)) (fun c16 => ?_) (fun c16 => absurd c16 (by omega))
  refine v_aload_n (dec_of DX9_mode 12 rfl) rfl ?_
  refine v_get fX9_59 (dec_of DX9_mode 13 rfl) rfl rfl ?_
  refine vi_const (dec_of DX9_mode 14 rfl) ?_
  refine vi_aload (dec_of DX9_mode 15 rfl) rfl (by first | omega | exact bnd_r _ _ | exact hG _ _ | exact hK _ | (simp (disch := decide) only [uN_s, uN_n]; omega)) (by decide) ?_
  refine v_istore_n (dec_of DX9_mode 16 rfl) (by decide) ?_
  dsimp only [List.set]
  refine v_aload_n (dec_of DX9_mode 17 rfl) rfl ?_
  refine v_get fX9_59 (dec_of DX9_mode 18 rfl) rfl rfl ?_
  refine vi_const (dec_of DX9_mode 19 rfl) ?_
  refine vi_aload (dec_of DX9_mode 20 rfl) rfl (by first | omega | exact bnd_r _ _ | exact hG _ _ | exact hK _ | (simp (disch := decide) only [uN_s, uN_n]; omega)) (by decide) ?_
  refine v_istore_n (dec_of DX9_mode 21 rfl) (by decide) ?_
  dsimp only [List.set]
  refine vi_const (dec_of DX9_mode 22 rfl) ?_
  refine v_istore (dec_of DX9_mode 23 rfl) (by decide) ?_
  dsimp only [List.set]
  exact q_md_loop hG hK (by unfold MR; exact hM) hS h15 (q_md_t0 hG hK (by unfold MR; exact hM) hS hT h15 ⟨rfl, rfl⟩) (K 15 - 1).toNat 0 (by omega)
set_option maxRecDepth 100000 in
set_option maxHeartbeats 4000000 in
theorem q_md_t1 {I N : Nat → Int} {F : Nat → Int → Int} {K : Nat → Int} {G : Nat → Int → Int} (hG : FR G) (hK : IR K) (hM : MR K) {n0 : Nat} {Z : XW → Option Value → Prop} (hS : SM K G) (hT : MT G) (h15 : 0 < K 15) (hz : Z (W2 I N F K G) (some (J (lsM K G)))) :  Vd (rm 2 43 0 0) [] mX9_mode n0 Z 0 0 100 [some (.ref 31), some (J 1), some (J (lowM K G)), some (J (hghM K G)), some (J (K 15)), none] [] (W2 I N F K G) := by
  unfold MR at hM
  have hl := lwM_r (f := G 30) (x := -1000) (y := 1000) (K 15 - 1).toNat (fun k a b => hS k a (by omega))
  have hh := hgM_r (f := G 30) (x := -1000) (y := 1000) (K 15 - 1).toNat (fun k a b => hS k a (by omega))
  have hq := hS (K 15 - 1) (by omega) (by omega)
  change -1000 ≤ lowM K G ∧ lowM K G ≤ 1000 at hl
  change -1000 ≤ hghM K G ∧ hghM K G ≤ 1000 at hh
  change -1000 ≤ lsM K G ∧ lsM K G ≤ 1000 at hq
  have ht := hT (lsM K G % 7) (by omega) (by omega)
  have hmr : 0 ≤ mdM K G ∧ mdM K G ≤ 8 := by unfold mdM; omega
  refine v_aload_n (dec_of DX9_mode 56 rfl) rfl ?_
  refine v_get fX9_59 (dec_of DX9_mode 57 rfl) rfl rfl ?_
  refine v_aload_n (dec_of DX9_mode 58 rfl) rfl ?_
  refine v_get fX9_142 (dec_of DX9_mode 59 rfl) rfl rfl ?_
  refine vi_const (dec_of DX9_mode 60 rfl) ?_
  refine vi_sub (dec_of DX9_mode 61 rfl) ?_
  refine vi_aload (dec_of DX9_mode 62 rfl) rfl (by first | omega | exact bnd_r _ _ | exact hG _ _ | exact hK _ | (simp (disch := decide) only [uN_s, uN_n]; omega)) (by decide) ?_
  change Vd _ _ _ _ _ _ _ _ _ (J (lsM K G) :: _) _
  refine v_istore (dec_of DX9_mode 63 rfl) (by decide) ?_
  dsimp only [List.set]
  refine v_aload_n (dec_of DX9_mode 64 rfl) rfl ?_
  refine v_get fX9_89 (dec_of DX9_mode 65 rfl) rfl rfl ?_
  refine v_iload (dec_of DX9_mode 66 rfl) rfl ?_
  refine vi_bi (dec_of DX9_mode 67 rfl) (by decide) ?_
  refine v_S2r (q_mod (by omega)) lX9_219 (dec_of DX9_mode 68 rfl) (by decide) (nle rfl) rfl ?_
  refine vi_aload (dec_of DX9_mode 69 rfl) rfl (by first | omega | exact bnd_r _ _ | exact hG _ _ | exact hK _ | (simp (disch := decide) only [uN_s, uN_n]; omega)) (by decide) ?_
  refine v_istore (dec_of DX9_mode 70 rfl) (by decide) ?_
  dsimp only [List.set]
  refine v_iload (dec_of DX9_mode 71 rfl) rfl ?_
  refine v_iload (dec_of DX9_mode 72 rfl) rfl ?_
  refine vi_if_le (tgt := 154) (dec_of DX9_mode 73 rfl) (by decide) (by first | omega | exact bnd_r _ _ | exact hG _ _ | exact hK _ | (simp (disch := decide) only [uN_s, uN_n]; omega)) (fun c131 => ?_) (fun c131 => ?_)
  · refine vi_const (dec_of DX9_mode 86 rfl) ?_
    refine vi_add (dec_of DX9_mode 87 rfl) ?_
    rw [show _ + _ = mdM K G from by unfold mdM; omega]
    refine v_istore (dec_of DX9_mode 88 rfl) (by decide) ?_
    dsimp only [List.set]
    refine v_iload_n (dec_of DX9_mode 89 rfl) rfl ?_
    refine vi_tabIn (tgt := 191) (dec_of DX9_mode 90 rfl) (by decide) (by decide) (by decide) rfl (by decide) ?_
    refine v_iload (dec_of DX9_mode 93 rfl) rfl ?_
    exact vi_ret (dec_of DX9_mode 94 rfl) rfl ⟨by decide, by decide⟩ (hz)
  · refine v_iload (dec_of DX9_mode 74 rfl) rfl ?_
    refine v_iload_n (dec_of DX9_mode 75 rfl) rfl ?_
    refine vi_sub (dec_of DX9_mode 76 rfl) ?_
    refine vi_const (dec_of DX9_mode 77 rfl) ?_
    refine vi_icmp_lt (tgt := 154) (dec_of DX9_mode 78 rfl) (by decide) (by first | omega | exact bnd_r _ _ | exact hG _ _ | exact hK _ | (simp (disch := decide) only [uN_s, uN_n]; omega)) (by first | omega | exact bnd_r _ _ | exact hG _ _ | exact hK _ | (simp (disch := decide) only [uN_s, uN_n]; omega)) (fun c139 => ?_) (fun c139 => ?_)
    · refine vi_const (dec_of DX9_mode 86 rfl) ?_
      refine vi_add (dec_of DX9_mode 87 rfl) ?_
      rw [show _ + _ = mdM K G from by unfold mdM; omega]
      refine v_istore (dec_of DX9_mode 88 rfl) (by decide) ?_
      dsimp only [List.set]
      refine v_iload_n (dec_of DX9_mode 89 rfl) rfl ?_
      refine vi_tabIn (tgt := 191) (dec_of DX9_mode 90 rfl) (by decide) (by decide) (by decide) rfl (by decide) ?_
      refine v_iload (dec_of DX9_mode 93 rfl) rfl ?_
      exact vi_ret (dec_of DX9_mode 94 rfl) rfl ⟨by decide, by decide⟩ (hz)
    · refine v_iload_n (dec_of DX9_mode 79 rfl) rfl ?_
      refine v_iload (dec_of DX9_mode 80 rfl) rfl ?_
      refine vi_sub (dec_of DX9_mode 81 rfl) ?_
      refine vi_const (dec_of DX9_mode 82 rfl) ?_
      refine vi_icmp_gt (tgt := 154) (dec_of DX9_mode 83 rfl) (by decide) (by first | omega | exact bnd_r _ _ | exact hG _ _ | exact hK _ | (simp (disch := decide) only [uN_s, uN_n]; omega)) (by first | omega | exact bnd_r _ _ | exact hG _ _ | exact hK _ | (simp (disch := decide) only [uN_s, uN_n]; omega)) (fun c147 => ?_) (fun c147 => ?_)
      · refine vi_const (dec_of DX9_mode 86 rfl) ?_
        refine vi_add (dec_of DX9_mode 87 rfl) ?_
        rw [show _ + _ = mdM K G from by unfold mdM; omega]
        refine v_istore (dec_of DX9_mode 88 rfl) (by decide) ?_
        dsimp only [List.set]
        refine v_iload_n (dec_of DX9_mode 89 rfl) rfl ?_
        refine vi_tabIn (tgt := 191) (dec_of DX9_mode 90 rfl) (by decide) (by decide) (by decide) rfl (by decide) ?_
        refine v_iload (dec_of DX9_mode 93 rfl) rfl ?_
        exact vi_ret (dec_of DX9_mode 94 rfl) rfl ⟨by decide, by decide⟩ (hz)
      · refine vi_const (dec_of DX9_mode 84 rfl) ?_
        refine v_goto (tgt := 155) (dec_of DX9_mode 85 rfl) (by decide) ?_
        refine vi_add (dec_of DX9_mode 87 rfl) ?_
        rw [show _ + _ = mdM K G from by unfold mdM; omega]
        refine v_istore (dec_of DX9_mode 88 rfl) (by decide) ?_
        dsimp only [List.set]
        refine v_iload_n (dec_of DX9_mode 89 rfl) rfl ?_
        refine vi_tabIn (tgt := 191) (dec_of DX9_mode 90 rfl) (by decide) (by decide) (by decide) rfl (by decide) ?_
        refine v_iload (dec_of DX9_mode 93 rfl) rfl ?_
        exact vi_ret (dec_of DX9_mode 94 rfl) rfl ⟨by decide, by decide⟩ (hz)
set_option maxRecDepth 100000 in
set_option maxHeartbeats 4000000 in
theorem q_mode1 {I N : Nat → Int} {F : Nat → Int → Int} {K : Nat → Int} {G : Nat → Int → Int} (hG : FR G) (hK : IR K) (hM : MR K) (hS : SM K G) (hT : MT G) (h15 : 0 < K 15) : Sd (rm 2 43 0 0) mX9_mode [.ref 31, J 1] (W2 I N F K G) (W2 I N F K G) (some (J (lsM K G))) := by
  unfold Sd
  unfold MR at hM
  refine sp_of (ls := [some (.ref 31), some (J 1), none, none, none, none]) (by decide) (nle rfl) rfl rfl ?_
  refine v_iload_n (dec_of DX9_mode 0 rfl) rfl ?_
  refine vi_const (dec_of DX9_mode 1 rfl) ?_
  refine vi_const (dec_of DX9_mode 2 rfl) ?_
  refine v_S3r (q_in (by decide) (by decide) (by decide)) lX9_126 (dec_of DX9_mode 3 rfl) (by decide) (nle rfl) rfl ?_
  refine vi_if_ne (tgt := 12) (dec_of DX9_mode 4 rfl) (by decide) (by first | omega | exact bnd_r _ _ | exact hG _ _ | exact hK _ | (simp (disch := decide) only [uN_s, uN_n]; omega)) (fun c6 => ?_) (fun c6 => absurd c6 (by omega))
  refine v_aload_n (dec_of DX9_mode 7 rfl) rfl ?_
  refine v_get fX9_142 (dec_of DX9_mode 8 rfl) rfl rfl ?_
  refine vi_if_ne (tgt := 22) (dec_of DX9_mode 9 rfl) (by decide) (by first | omega | exact bnd_r _ _ | exact hG _ _ | exact hK _ | (simp (disch := decide) only [uN_s, uN_n]; omega)) (fun c16 => ?_) (fun c16 => absurd c16 (by omega))
  refine v_aload_n (dec_of DX9_mode 12 rfl) rfl ?_
  refine v_get fX9_59 (dec_of DX9_mode 13 rfl) rfl rfl ?_
  refine vi_const (dec_of DX9_mode 14 rfl) ?_
  refine vi_aload (dec_of DX9_mode 15 rfl) rfl (by first | omega | exact bnd_r _ _ | exact hG _ _ | exact hK _ | (simp (disch := decide) only [uN_s, uN_n]; omega)) (by decide) ?_
  refine v_istore_n (dec_of DX9_mode 16 rfl) (by decide) ?_
  dsimp only [List.set]
  refine v_aload_n (dec_of DX9_mode 17 rfl) rfl ?_
  refine v_get fX9_59 (dec_of DX9_mode 18 rfl) rfl rfl ?_
  refine vi_const (dec_of DX9_mode 19 rfl) ?_
  refine vi_aload (dec_of DX9_mode 20 rfl) rfl (by first | omega | exact bnd_r _ _ | exact hG _ _ | exact hK _ | (simp (disch := decide) only [uN_s, uN_n]; omega)) (by decide) ?_
  refine v_istore_n (dec_of DX9_mode 21 rfl) (by decide) ?_
  dsimp only [List.set]
  refine vi_const (dec_of DX9_mode 22 rfl) ?_
  refine v_istore (dec_of DX9_mode 23 rfl) (by decide) ?_
  dsimp only [List.set]
  exact q_md_loop hG hK (by unfold MR; exact hM) hS h15 (q_md_t1 hG hK (by unfold MR; exact hM) hS hT h15 ⟨rfl, rfl⟩) (K 15 - 1).toNat 0 (by omega)
set_option maxRecDepth 100000 in
set_option maxHeartbeats 4000000 in
theorem q_md_t2 {I N : Nat → Int} {F : Nat → Int → Int} {K : Nat → Int} {G : Nat → Int → Int} (hG : FR G) (hK : IR K) (hM : MR K) {n0 : Nat} {Z : XW → Option Value → Prop} (hS : SM K G) (hT : MT G) (h15 : 0 < K 15) (hz : Z (W2 I N F K G) (some (J (if mdM K G = 0 then -100 else lsM K G + G 42 (mdM K G))))) :  Vd (rm 2 43 0 0) [] mX9_mode n0 Z 0 0 100 [some (.ref 31), some (J 2), some (J (lowM K G)), some (J (hghM K G)), some (J (K 15)), none] [] (W2 I N F K G) := by
  unfold MR at hM
  have hl := lwM_r (f := G 30) (x := -1000) (y := 1000) (K 15 - 1).toNat (fun k a b => hS k a (by omega))
  have hh := hgM_r (f := G 30) (x := -1000) (y := 1000) (K 15 - 1).toNat (fun k a b => hS k a (by omega))
  have hq := hS (K 15 - 1) (by omega) (by omega)
  change -1000 ≤ lowM K G ∧ lowM K G ≤ 1000 at hl
  change -1000 ≤ hghM K G ∧ hghM K G ≤ 1000 at hh
  change -1000 ≤ lsM K G ∧ lsM K G ≤ 1000 at hq
  have ht := hT (lsM K G % 7) (by omega) (by omega)
  have hmr : 0 ≤ mdM K G ∧ mdM K G ≤ 8 := by unfold mdM; omega
  refine v_aload_n (dec_of DX9_mode 56 rfl) rfl ?_
  refine v_get fX9_59 (dec_of DX9_mode 57 rfl) rfl rfl ?_
  refine v_aload_n (dec_of DX9_mode 58 rfl) rfl ?_
  refine v_get fX9_142 (dec_of DX9_mode 59 rfl) rfl rfl ?_
  refine vi_const (dec_of DX9_mode 60 rfl) ?_
  refine vi_sub (dec_of DX9_mode 61 rfl) ?_
  refine vi_aload (dec_of DX9_mode 62 rfl) rfl (by first | omega | exact bnd_r _ _ | exact hG _ _ | exact hK _ | (simp (disch := decide) only [uN_s, uN_n]; omega)) (by decide) ?_
  change Vd _ _ _ _ _ _ _ _ _ (J (lsM K G) :: _) _
  refine v_istore (dec_of DX9_mode 63 rfl) (by decide) ?_
  dsimp only [List.set]
  refine v_aload_n (dec_of DX9_mode 64 rfl) rfl ?_
  refine v_get fX9_89 (dec_of DX9_mode 65 rfl) rfl rfl ?_
  refine v_iload (dec_of DX9_mode 66 rfl) rfl ?_
  refine vi_bi (dec_of DX9_mode 67 rfl) (by decide) ?_
  refine v_S2r (q_mod (by omega)) lX9_219 (dec_of DX9_mode 68 rfl) (by decide) (nle rfl) rfl ?_
  refine vi_aload (dec_of DX9_mode 69 rfl) rfl (by first | omega | exact bnd_r _ _ | exact hG _ _ | exact hK _ | (simp (disch := decide) only [uN_s, uN_n]; omega)) (by decide) ?_
  refine v_istore (dec_of DX9_mode 70 rfl) (by decide) ?_
  dsimp only [List.set]
  refine v_iload (dec_of DX9_mode 71 rfl) rfl ?_
  refine v_iload (dec_of DX9_mode 72 rfl) rfl ?_
  refine vi_if_le (tgt := 154) (dec_of DX9_mode 73 rfl) (by decide) (by first | omega | exact bnd_r _ _ | exact hG _ _ | exact hK _ | (simp (disch := decide) only [uN_s, uN_n]; omega)) (fun c131 => ?_) (fun c131 => ?_)
  · refine vi_const (dec_of DX9_mode 86 rfl) ?_
    refine vi_add (dec_of DX9_mode 87 rfl) ?_
    rw [show _ + _ = mdM K G from by unfold mdM; omega]
    refine v_istore (dec_of DX9_mode 88 rfl) (by decide) ?_
    dsimp only [List.set]
    refine v_iload_n (dec_of DX9_mode 89 rfl) rfl ?_
    refine vi_tabIn (tgt := 194) (dec_of DX9_mode 90 rfl) (by decide) (by decide) (by decide) rfl (by decide) ?_
    refine v_iload (dec_of DX9_mode 95 rfl) rfl ?_
    refine vi_if_ne (tgt := 204) (dec_of DX9_mode 96 rfl) (by decide) (by first | omega | exact bnd_r _ _ | exact hG _ _ | exact hK _ | (simp (disch := decide) only [uN_s, uN_n]; omega)) (fun c196 => ?_) (fun c196 => ?_)
    · refine v_iload (dec_of DX9_mode 99 rfl) rfl ?_
      refine v_aload_n (dec_of DX9_mode 100 rfl) rfl ?_
      refine v_get fX9_92 (dec_of DX9_mode 101 rfl) rfl rfl ?_
      refine v_iload (dec_of DX9_mode 102 rfl) rfl ?_
      refine vi_aload (dec_of DX9_mode 103 rfl) rfl (by first | omega | exact bnd_r _ _ | exact hG _ _ | exact hK _ | (simp (disch := decide) only [uN_s, uN_n]; omega)) (by decide) ?_
      refine vi_add (dec_of DX9_mode 104 rfl) ?_
      exact vi_ret (dec_of DX9_mode 105 rfl) rfl ⟨by decide, by decide⟩ (by first | (rw [if_pos (by assumption)] at hz; exact hz) | (rw [if_neg (by assumption)] at hz; exact hz))
    · refine vi_bi (dec_of DX9_mode 97 rfl) (by decide) ?_
      refine v_goto (tgt := 214) (dec_of DX9_mode 98 rfl) (by decide) ?_
      exact vi_ret (dec_of DX9_mode 105 rfl) rfl ⟨by decide, by decide⟩ (by first | (rw [if_pos (by assumption)] at hz; exact hz) | (rw [if_neg (by assumption)] at hz; exact hz))
  · refine v_iload (dec_of DX9_mode 74 rfl) rfl ?_
    refine v_iload_n (dec_of DX9_mode 75 rfl) rfl ?_
    refine vi_sub (dec_of DX9_mode 76 rfl) ?_
    refine vi_const (dec_of DX9_mode 77 rfl) ?_
    refine vi_icmp_lt (tgt := 154) (dec_of DX9_mode 78 rfl) (by decide) (by first | omega | exact bnd_r _ _ | exact hG _ _ | exact hK _ | (simp (disch := decide) only [uN_s, uN_n]; omega)) (by first | omega | exact bnd_r _ _ | exact hG _ _ | exact hK _ | (simp (disch := decide) only [uN_s, uN_n]; omega)) (fun c139 => ?_) (fun c139 => ?_)
    · refine vi_const (dec_of DX9_mode 86 rfl) ?_
      refine vi_add (dec_of DX9_mode 87 rfl) ?_
      rw [show _ + _ = mdM K G from by unfold mdM; omega]
      refine v_istore (dec_of DX9_mode 88 rfl) (by decide) ?_
      dsimp only [List.set]
      refine v_iload_n (dec_of DX9_mode 89 rfl) rfl ?_
      refine vi_tabIn (tgt := 194) (dec_of DX9_mode 90 rfl) (by decide) (by decide) (by decide) rfl (by decide) ?_
      refine v_iload (dec_of DX9_mode 95 rfl) rfl ?_
      refine vi_if_ne (tgt := 204) (dec_of DX9_mode 96 rfl) (by decide) (by first | omega | exact bnd_r _ _ | exact hG _ _ | exact hK _ | (simp (disch := decide) only [uN_s, uN_n]; omega)) (fun c196 => ?_) (fun c196 => ?_)
      · refine v_iload (dec_of DX9_mode 99 rfl) rfl ?_
        refine v_aload_n (dec_of DX9_mode 100 rfl) rfl ?_
        refine v_get fX9_92 (dec_of DX9_mode 101 rfl) rfl rfl ?_
        refine v_iload (dec_of DX9_mode 102 rfl) rfl ?_
        refine vi_aload (dec_of DX9_mode 103 rfl) rfl (by first | omega | exact bnd_r _ _ | exact hG _ _ | exact hK _ | (simp (disch := decide) only [uN_s, uN_n]; omega)) (by decide) ?_
        refine vi_add (dec_of DX9_mode 104 rfl) ?_
        exact vi_ret (dec_of DX9_mode 105 rfl) rfl ⟨by decide, by decide⟩ (by first | (rw [if_pos (by assumption)] at hz; exact hz) | (rw [if_neg (by assumption)] at hz; exact hz))
      · refine vi_bi (dec_of DX9_mode 97 rfl) (by decide) ?_
        refine v_goto (tgt := 214) (dec_of DX9_mode 98 rfl) (by decide) ?_
        exact vi_ret (dec_of DX9_mode 105 rfl) rfl ⟨by decide, by decide⟩ (by first | (rw [if_pos (by assumption)] at hz; exact hz) | (rw [if_neg (by assumption)] at hz; exact hz))
    · refine v_iload_n (dec_of DX9_mode 79 rfl) rfl ?_
      refine v_iload (dec_of DX9_mode 80 rfl) rfl ?_
      refine vi_sub (dec_of DX9_mode 81 rfl) ?_
      refine vi_const (dec_of DX9_mode 82 rfl) ?_
      refine vi_icmp_gt (tgt := 154) (dec_of DX9_mode 83 rfl) (by decide) (by first | omega | exact bnd_r _ _ | exact hG _ _ | exact hK _ | (simp (disch := decide) only [uN_s, uN_n]; omega)) (by first | omega | exact bnd_r _ _ | exact hG _ _ | exact hK _ | (simp (disch := decide) only [uN_s, uN_n]; omega)) (fun c147 => ?_) (fun c147 => ?_)
      · refine vi_const (dec_of DX9_mode 86 rfl) ?_
        refine vi_add (dec_of DX9_mode 87 rfl) ?_
        rw [show _ + _ = mdM K G from by unfold mdM; omega]
        refine v_istore (dec_of DX9_mode 88 rfl) (by decide) ?_
        dsimp only [List.set]
        refine v_iload_n (dec_of DX9_mode 89 rfl) rfl ?_
        refine vi_tabIn (tgt := 194) (dec_of DX9_mode 90 rfl) (by decide) (by decide) (by decide) rfl (by decide) ?_
        refine v_iload (dec_of DX9_mode 95 rfl) rfl ?_
        refine vi_if_ne (tgt := 204) (dec_of DX9_mode 96 rfl) (by decide) (by first | omega | exact bnd_r _ _ | exact hG _ _ | exact hK _ | (simp (disch := decide) only [uN_s, uN_n]; omega)) (fun c196 => ?_) (fun c196 => ?_)
        · refine v_iload (dec_of DX9_mode 99 rfl) rfl ?_
          refine v_aload_n (dec_of DX9_mode 100 rfl) rfl ?_
          refine v_get fX9_92 (dec_of DX9_mode 101 rfl) rfl rfl ?_
          refine v_iload (dec_of DX9_mode 102 rfl) rfl ?_
          refine vi_aload (dec_of DX9_mode 103 rfl) rfl (by first | omega | exact bnd_r _ _ | exact hG _ _ | exact hK _ | (simp (disch := decide) only [uN_s, uN_n]; omega)) (by decide) ?_
          refine vi_add (dec_of DX9_mode 104 rfl) ?_
          exact vi_ret (dec_of DX9_mode 105 rfl) rfl ⟨by decide, by decide⟩ (by first | (rw [if_pos (by assumption)] at hz; exact hz) | (rw [if_neg (by assumption)] at hz; exact hz))
        · refine vi_bi (dec_of DX9_mode 97 rfl) (by decide) ?_
          refine v_goto (tgt := 214) (dec_of DX9_mode 98 rfl) (by decide) ?_
          exact vi_ret (dec_of DX9_mode 105 rfl) rfl ⟨by decide, by decide⟩ (by first | (rw [if_pos (by assumption)] at hz; exact hz) | (rw [if_neg (by assumption)] at hz; exact hz))
      · refine vi_const (dec_of DX9_mode 84 rfl) ?_
        refine v_goto (tgt := 155) (dec_of DX9_mode 85 rfl) (by decide) ?_
        refine vi_add (dec_of DX9_mode 87 rfl) ?_
        rw [show _ + _ = mdM K G from by unfold mdM; omega]
        refine v_istore (dec_of DX9_mode 88 rfl) (by decide) ?_
        dsimp only [List.set]
        refine v_iload_n (dec_of DX9_mode 89 rfl) rfl ?_
        refine vi_tabIn (tgt := 194) (dec_of DX9_mode 90 rfl) (by decide) (by decide) (by decide) rfl (by decide) ?_
        refine v_iload (dec_of DX9_mode 95 rfl) rfl ?_
        refine vi_if_ne (tgt := 204) (dec_of DX9_mode 96 rfl) (by decide) (by first | omega | exact bnd_r _ _ | exact hG _ _ | exact hK _ | (simp (disch := decide) only [uN_s, uN_n]; omega)) (fun c196 => ?_) (fun c196 => ?_)
        · refine v_iload (dec_of DX9_mode 99 rfl) rfl ?_
          refine v_aload_n (dec_of DX9_mode 100 rfl) rfl ?_
          refine v_get fX9_92 (dec_of DX9_mode 101 rfl) rfl rfl ?_
          refine v_iload (dec_of DX9_mode 102 rfl) rfl ?_
          refine vi_aload (dec_of DX9_mode 103 rfl) rfl (by first | omega | exact bnd_r _ _ | exact hG _ _ | exact hK _ | (simp (disch := decide) only [uN_s, uN_n]; omega)) (by decide) ?_
          refine vi_add (dec_of DX9_mode 104 rfl) ?_
          exact vi_ret (dec_of DX9_mode 105 rfl) rfl ⟨by decide, by decide⟩ (by first | (rw [if_pos (by assumption)] at hz; exact hz) | (rw [if_neg (by assumption)] at hz; exact hz))
        · refine vi_bi (dec_of DX9_mode 97 rfl) (by decide) ?_
          refine v_goto (tgt := 214) (dec_of DX9_mode 98 rfl) (by decide) ?_
          exact vi_ret (dec_of DX9_mode 105 rfl) rfl ⟨by decide, by decide⟩ (by first | (rw [if_pos (by assumption)] at hz; exact hz) | (rw [if_neg (by assumption)] at hz; exact hz))
set_option maxRecDepth 100000 in
set_option maxHeartbeats 4000000 in
theorem q_mode2 {I N : Nat → Int} {F : Nat → Int → Int} {K : Nat → Int} {G : Nat → Int → Int} (hG : FR G) (hK : IR K) (hM : MR K) (hS : SM K G) (hT : MT G) (h15 : 0 < K 15) : Sd (rm 2 43 0 0) mX9_mode [.ref 31, J 2] (W2 I N F K G) (W2 I N F K G) (some (J (if mdM K G = 0 then -100 else lsM K G + G 42 (mdM K G)))) := by
  unfold Sd
  unfold MR at hM
  refine sp_of (ls := [some (.ref 31), some (J 2), none, none, none, none]) (by decide) (nle rfl) rfl rfl ?_
  refine v_iload_n (dec_of DX9_mode 0 rfl) rfl ?_
  refine vi_const (dec_of DX9_mode 1 rfl) ?_
  refine vi_const (dec_of DX9_mode 2 rfl) ?_
  refine v_S3r (q_in (by decide) (by decide) (by decide)) lX9_126 (dec_of DX9_mode 3 rfl) (by decide) (nle rfl) rfl ?_
  refine vi_if_ne (tgt := 12) (dec_of DX9_mode 4 rfl) (by decide) (by first | omega | exact bnd_r _ _ | exact hG _ _ | exact hK _ | (simp (disch := decide) only [uN_s, uN_n]; omega)) (fun c6 => ?_) (fun c6 => absurd c6 (by omega))
  refine v_aload_n (dec_of DX9_mode 7 rfl) rfl ?_
  refine v_get fX9_142 (dec_of DX9_mode 8 rfl) rfl rfl ?_
  refine vi_if_ne (tgt := 22) (dec_of DX9_mode 9 rfl) (by decide) (by first | omega | exact bnd_r _ _ | exact hG _ _ | exact hK _ | (simp (disch := decide) only [uN_s, uN_n]; omega)) (fun c16 => ?_) (fun c16 => absurd c16 (by omega))
  refine v_aload_n (dec_of DX9_mode 12 rfl) rfl ?_
  refine v_get fX9_59 (dec_of DX9_mode 13 rfl) rfl rfl ?_
  refine vi_const (dec_of DX9_mode 14 rfl) ?_
  refine vi_aload (dec_of DX9_mode 15 rfl) rfl (by first | omega | exact bnd_r _ _ | exact hG _ _ | exact hK _ | (simp (disch := decide) only [uN_s, uN_n]; omega)) (by decide) ?_
  refine v_istore_n (dec_of DX9_mode 16 rfl) (by decide) ?_
  dsimp only [List.set]
  refine v_aload_n (dec_of DX9_mode 17 rfl) rfl ?_
  refine v_get fX9_59 (dec_of DX9_mode 18 rfl) rfl rfl ?_
  refine vi_const (dec_of DX9_mode 19 rfl) ?_
  refine vi_aload (dec_of DX9_mode 20 rfl) rfl (by first | omega | exact bnd_r _ _ | exact hG _ _ | exact hK _ | (simp (disch := decide) only [uN_s, uN_n]; omega)) (by decide) ?_
  refine v_istore_n (dec_of DX9_mode 21 rfl) (by decide) ?_
  dsimp only [List.set]
  refine vi_const (dec_of DX9_mode 22 rfl) ?_
  refine v_istore (dec_of DX9_mode 23 rfl) (by decide) ?_
  dsimp only [List.set]
  exact q_md_loop hG hK (by unfold MR; exact hM) hS h15 (q_md_t2 hG hK (by unfold MR; exact hM) hS hT h15 ⟨rfl, rfl⟩) (K 15 - 1).toNat 0 (by omega)
set_option maxRecDepth 100000 in
set_option maxHeartbeats 4000000 in
theorem q_md_t3 {I N : Nat → Int} {F : Nat → Int → Int} {K : Nat → Int} {G : Nat → Int → Int} (hG : FR G) (hK : IR K) (hM : MR K) {n0 : Nat} {Z : XW → Option Value → Prop} (hS : SM K G) (hT : MT G) (h15 : 0 < K 15) (hz : Z (W2 I N F K G) (some (J (lowM K G)))) :  Vd (rm 2 43 0 0) [] mX9_mode n0 Z 0 0 100 [some (.ref 31), some (J 3), some (J (lowM K G)), some (J (hghM K G)), some (J (K 15)), none] [] (W2 I N F K G) := by
  unfold MR at hM
  have hl := lwM_r (f := G 30) (x := -1000) (y := 1000) (K 15 - 1).toNat (fun k a b => hS k a (by omega))
  have hh := hgM_r (f := G 30) (x := -1000) (y := 1000) (K 15 - 1).toNat (fun k a b => hS k a (by omega))
  have hq := hS (K 15 - 1) (by omega) (by omega)
  change -1000 ≤ lowM K G ∧ lowM K G ≤ 1000 at hl
  change -1000 ≤ hghM K G ∧ hghM K G ≤ 1000 at hh
  change -1000 ≤ lsM K G ∧ lsM K G ≤ 1000 at hq
  have ht := hT (lsM K G % 7) (by omega) (by omega)
  have hmr : 0 ≤ mdM K G ∧ mdM K G ≤ 8 := by unfold mdM; omega
  refine v_aload_n (dec_of DX9_mode 56 rfl) rfl ?_
  refine v_get fX9_59 (dec_of DX9_mode 57 rfl) rfl rfl ?_
  refine v_aload_n (dec_of DX9_mode 58 rfl) rfl ?_
  refine v_get fX9_142 (dec_of DX9_mode 59 rfl) rfl rfl ?_
  refine vi_const (dec_of DX9_mode 60 rfl) ?_
  refine vi_sub (dec_of DX9_mode 61 rfl) ?_
  refine vi_aload (dec_of DX9_mode 62 rfl) rfl (by first | omega | exact bnd_r _ _ | exact hG _ _ | exact hK _ | (simp (disch := decide) only [uN_s, uN_n]; omega)) (by decide) ?_
  change Vd _ _ _ _ _ _ _ _ _ (J (lsM K G) :: _) _
  refine v_istore (dec_of DX9_mode 63 rfl) (by decide) ?_
  dsimp only [List.set]
  refine v_aload_n (dec_of DX9_mode 64 rfl) rfl ?_
  refine v_get fX9_89 (dec_of DX9_mode 65 rfl) rfl rfl ?_
  refine v_iload (dec_of DX9_mode 66 rfl) rfl ?_
  refine vi_bi (dec_of DX9_mode 67 rfl) (by decide) ?_
  refine v_S2r (q_mod (by omega)) lX9_219 (dec_of DX9_mode 68 rfl) (by decide) (nle rfl) rfl ?_
  refine vi_aload (dec_of DX9_mode 69 rfl) rfl (by first | omega | exact bnd_r _ _ | exact hG _ _ | exact hK _ | (simp (disch := decide) only [uN_s, uN_n]; omega)) (by decide) ?_
  refine v_istore (dec_of DX9_mode 70 rfl) (by decide) ?_
  dsimp only [List.set]
  refine v_iload (dec_of DX9_mode 71 rfl) rfl ?_
  refine v_iload (dec_of DX9_mode 72 rfl) rfl ?_
  refine vi_if_le (tgt := 154) (dec_of DX9_mode 73 rfl) (by decide) (by first | omega | exact bnd_r _ _ | exact hG _ _ | exact hK _ | (simp (disch := decide) only [uN_s, uN_n]; omega)) (fun c131 => ?_) (fun c131 => ?_)
  · refine vi_const (dec_of DX9_mode 86 rfl) ?_
    refine vi_add (dec_of DX9_mode 87 rfl) ?_
    rw [show _ + _ = mdM K G from by unfold mdM; omega]
    refine v_istore (dec_of DX9_mode 88 rfl) (by decide) ?_
    dsimp only [List.set]
    refine v_iload_n (dec_of DX9_mode 89 rfl) rfl ?_
    refine vi_tabIn (tgt := 215) (dec_of DX9_mode 90 rfl) (by decide) (by decide) (by decide) rfl (by decide) ?_
    refine v_iload_n (dec_of DX9_mode 106 rfl) rfl ?_
    exact vi_ret (dec_of DX9_mode 107 rfl) rfl ⟨by decide, by decide⟩ (hz)
  · refine v_iload (dec_of DX9_mode 74 rfl) rfl ?_
    refine v_iload_n (dec_of DX9_mode 75 rfl) rfl ?_
    refine vi_sub (dec_of DX9_mode 76 rfl) ?_
    refine vi_const (dec_of DX9_mode 77 rfl) ?_
    refine vi_icmp_lt (tgt := 154) (dec_of DX9_mode 78 rfl) (by decide) (by first | omega | exact bnd_r _ _ | exact hG _ _ | exact hK _ | (simp (disch := decide) only [uN_s, uN_n]; omega)) (by first | omega | exact bnd_r _ _ | exact hG _ _ | exact hK _ | (simp (disch := decide) only [uN_s, uN_n]; omega)) (fun c139 => ?_) (fun c139 => ?_)
    · refine vi_const (dec_of DX9_mode 86 rfl) ?_
      refine vi_add (dec_of DX9_mode 87 rfl) ?_
      rw [show _ + _ = mdM K G from by unfold mdM; omega]
      refine v_istore (dec_of DX9_mode 88 rfl) (by decide) ?_
      dsimp only [List.set]
      refine v_iload_n (dec_of DX9_mode 89 rfl) rfl ?_
      refine vi_tabIn (tgt := 215) (dec_of DX9_mode 90 rfl) (by decide) (by decide) (by decide) rfl (by decide) ?_
      refine v_iload_n (dec_of DX9_mode 106 rfl) rfl ?_
      exact vi_ret (dec_of DX9_mode 107 rfl) rfl ⟨by decide, by decide⟩ (hz)
    · refine v_iload_n (dec_of DX9_mode 79 rfl) rfl ?_
      refine v_iload (dec_of DX9_mode 80 rfl) rfl ?_
      refine vi_sub (dec_of DX9_mode 81 rfl) ?_
      refine vi_const (dec_of DX9_mode 82 rfl) ?_
      refine vi_icmp_gt (tgt := 154) (dec_of DX9_mode 83 rfl) (by decide) (by first | omega | exact bnd_r _ _ | exact hG _ _ | exact hK _ | (simp (disch := decide) only [uN_s, uN_n]; omega)) (by first | omega | exact bnd_r _ _ | exact hG _ _ | exact hK _ | (simp (disch := decide) only [uN_s, uN_n]; omega)) (fun c147 => ?_) (fun c147 => ?_)
      · refine vi_const (dec_of DX9_mode 86 rfl) ?_
        refine vi_add (dec_of DX9_mode 87 rfl) ?_
        rw [show _ + _ = mdM K G from by unfold mdM; omega]
        refine v_istore (dec_of DX9_mode 88 rfl) (by decide) ?_
        dsimp only [List.set]
        refine v_iload_n (dec_of DX9_mode 89 rfl) rfl ?_
        refine vi_tabIn (tgt := 215) (dec_of DX9_mode 90 rfl) (by decide) (by decide) (by decide) rfl (by decide) ?_
        refine v_iload_n (dec_of DX9_mode 106 rfl) rfl ?_
        exact vi_ret (dec_of DX9_mode 107 rfl) rfl ⟨by decide, by decide⟩ (hz)
      · refine vi_const (dec_of DX9_mode 84 rfl) ?_
        refine v_goto (tgt := 155) (dec_of DX9_mode 85 rfl) (by decide) ?_
        refine vi_add (dec_of DX9_mode 87 rfl) ?_
        rw [show _ + _ = mdM K G from by unfold mdM; omega]
        refine v_istore (dec_of DX9_mode 88 rfl) (by decide) ?_
        dsimp only [List.set]
        refine v_iload_n (dec_of DX9_mode 89 rfl) rfl ?_
        refine vi_tabIn (tgt := 215) (dec_of DX9_mode 90 rfl) (by decide) (by decide) (by decide) rfl (by decide) ?_
        refine v_iload_n (dec_of DX9_mode 106 rfl) rfl ?_
        exact vi_ret (dec_of DX9_mode 107 rfl) rfl ⟨by decide, by decide⟩ (hz)
set_option maxRecDepth 100000 in
set_option maxHeartbeats 4000000 in
theorem q_mode3 {I N : Nat → Int} {F : Nat → Int → Int} {K : Nat → Int} {G : Nat → Int → Int} (hG : FR G) (hK : IR K) (hM : MR K) (hS : SM K G) (hT : MT G) (h15 : 0 < K 15) : Sd (rm 2 43 0 0) mX9_mode [.ref 31, J 3] (W2 I N F K G) (W2 I N F K G) (some (J (lowM K G))) := by
  unfold Sd
  unfold MR at hM
  refine sp_of (ls := [some (.ref 31), some (J 3), none, none, none, none]) (by decide) (nle rfl) rfl rfl ?_
  refine v_iload_n (dec_of DX9_mode 0 rfl) rfl ?_
  refine vi_const (dec_of DX9_mode 1 rfl) ?_
  refine vi_const (dec_of DX9_mode 2 rfl) ?_
  refine v_S3r (q_in (by decide) (by decide) (by decide)) lX9_126 (dec_of DX9_mode 3 rfl) (by decide) (nle rfl) rfl ?_
  refine vi_if_ne (tgt := 12) (dec_of DX9_mode 4 rfl) (by decide) (by first | omega | exact bnd_r _ _ | exact hG _ _ | exact hK _ | (simp (disch := decide) only [uN_s, uN_n]; omega)) (fun c6 => ?_) (fun c6 => absurd c6 (by omega))
  refine v_aload_n (dec_of DX9_mode 7 rfl) rfl ?_
  refine v_get fX9_142 (dec_of DX9_mode 8 rfl) rfl rfl ?_
  refine vi_if_ne (tgt := 22) (dec_of DX9_mode 9 rfl) (by decide) (by first | omega | exact bnd_r _ _ | exact hG _ _ | exact hK _ | (simp (disch := decide) only [uN_s, uN_n]; omega)) (fun c16 => ?_) (fun c16 => absurd c16 (by omega))
  refine v_aload_n (dec_of DX9_mode 12 rfl) rfl ?_
  refine v_get fX9_59 (dec_of DX9_mode 13 rfl) rfl rfl ?_
  refine vi_const (dec_of DX9_mode 14 rfl) ?_
  refine vi_aload (dec_of DX9_mode 15 rfl) rfl (by first | omega | exact bnd_r _ _ | exact hG _ _ | exact hK _ | (simp (disch := decide) only [uN_s, uN_n]; omega)) (by decide) ?_
  refine v_istore_n (dec_of DX9_mode 16 rfl) (by decide) ?_
  dsimp only [List.set]
  refine v_aload_n (dec_of DX9_mode 17 rfl) rfl ?_
  refine v_get fX9_59 (dec_of DX9_mode 18 rfl) rfl rfl ?_
  refine vi_const (dec_of DX9_mode 19 rfl) ?_
  refine vi_aload (dec_of DX9_mode 20 rfl) rfl (by first | omega | exact bnd_r _ _ | exact hG _ _ | exact hK _ | (simp (disch := decide) only [uN_s, uN_n]; omega)) (by decide) ?_
  refine v_istore_n (dec_of DX9_mode 21 rfl) (by decide) ?_
  dsimp only [List.set]
  refine vi_const (dec_of DX9_mode 22 rfl) ?_
  refine v_istore (dec_of DX9_mode 23 rfl) (by decide) ?_
  dsimp only [List.set]
  exact q_md_loop hG hK (by unfold MR; exact hM) hS h15 (q_md_t3 hG hK (by unfold MR; exact hM) hS hT h15 ⟨rfl, rfl⟩) (K 15 - 1).toNat 0 (by omega)
set_option maxRecDepth 100000 in
set_option maxHeartbeats 4000000 in
theorem q_md_t4 {I N : Nat → Int} {F : Nat → Int → Int} {K : Nat → Int} {G : Nat → Int → Int} (hG : FR G) (hK : IR K) (hM : MR K) {n0 : Nat} {Z : XW → Option Value → Prop} (hS : SM K G) (hT : MT G) (h15 : 0 < K 15) (hz : Z (W2 I N F K G) (some (J (hghM K G)))) :  Vd (rm 2 43 0 0) [] mX9_mode n0 Z 0 0 100 [some (.ref 31), some (J 4), some (J (lowM K G)), some (J (hghM K G)), some (J (K 15)), none] [] (W2 I N F K G) := by
  unfold MR at hM
  have hl := lwM_r (f := G 30) (x := -1000) (y := 1000) (K 15 - 1).toNat (fun k a b => hS k a (by omega))
  have hh := hgM_r (f := G 30) (x := -1000) (y := 1000) (K 15 - 1).toNat (fun k a b => hS k a (by omega))
  have hq := hS (K 15 - 1) (by omega) (by omega)
  change -1000 ≤ lowM K G ∧ lowM K G ≤ 1000 at hl
  change -1000 ≤ hghM K G ∧ hghM K G ≤ 1000 at hh
  change -1000 ≤ lsM K G ∧ lsM K G ≤ 1000 at hq
  have ht := hT (lsM K G % 7) (by omega) (by omega)
  have hmr : 0 ≤ mdM K G ∧ mdM K G ≤ 8 := by unfold mdM; omega
  refine v_aload_n (dec_of DX9_mode 56 rfl) rfl ?_
  refine v_get fX9_59 (dec_of DX9_mode 57 rfl) rfl rfl ?_
  refine v_aload_n (dec_of DX9_mode 58 rfl) rfl ?_
  refine v_get fX9_142 (dec_of DX9_mode 59 rfl) rfl rfl ?_
  refine vi_const (dec_of DX9_mode 60 rfl) ?_
  refine vi_sub (dec_of DX9_mode 61 rfl) ?_
  refine vi_aload (dec_of DX9_mode 62 rfl) rfl (by first | omega | exact bnd_r _ _ | exact hG _ _ | exact hK _ | (simp (disch := decide) only [uN_s, uN_n]; omega)) (by decide) ?_
  change Vd _ _ _ _ _ _ _ _ _ (J (lsM K G) :: _) _
  refine v_istore (dec_of DX9_mode 63 rfl) (by decide) ?_
  dsimp only [List.set]
  refine v_aload_n (dec_of DX9_mode 64 rfl) rfl ?_
  refine v_get fX9_89 (dec_of DX9_mode 65 rfl) rfl rfl ?_
  refine v_iload (dec_of DX9_mode 66 rfl) rfl ?_
  refine vi_bi (dec_of DX9_mode 67 rfl) (by decide) ?_
  refine v_S2r (q_mod (by omega)) lX9_219 (dec_of DX9_mode 68 rfl) (by decide) (nle rfl) rfl ?_
  refine vi_aload (dec_of DX9_mode 69 rfl) rfl (by first | omega | exact bnd_r _ _ | exact hG _ _ | exact hK _ | (simp (disch := decide) only [uN_s, uN_n]; omega)) (by decide) ?_
  refine v_istore (dec_of DX9_mode 70 rfl) (by decide) ?_
  dsimp only [List.set]
  refine v_iload (dec_of DX9_mode 71 rfl) rfl ?_
  refine v_iload (dec_of DX9_mode 72 rfl) rfl ?_
  refine vi_if_le (tgt := 154) (dec_of DX9_mode 73 rfl) (by decide) (by first | omega | exact bnd_r _ _ | exact hG _ _ | exact hK _ | (simp (disch := decide) only [uN_s, uN_n]; omega)) (fun c131 => ?_) (fun c131 => ?_)
  · refine vi_const (dec_of DX9_mode 86 rfl) ?_
    refine vi_add (dec_of DX9_mode 87 rfl) ?_
    rw [show _ + _ = mdM K G from by unfold mdM; omega]
    refine v_istore (dec_of DX9_mode 88 rfl) (by decide) ?_
    dsimp only [List.set]
    refine v_iload_n (dec_of DX9_mode 89 rfl) rfl ?_
    refine vi_tabOut (tgt := 217) (dec_of DX9_mode 90 rfl) (by decide) (Or.inr (by decide)) (by decide) ?_
    refine v_iload_n (dec_of DX9_mode 108 rfl) rfl ?_
    exact vi_ret (dec_of DX9_mode 109 rfl) rfl ⟨by decide, by decide⟩ (hz)
  · refine v_iload (dec_of DX9_mode 74 rfl) rfl ?_
    refine v_iload_n (dec_of DX9_mode 75 rfl) rfl ?_
    refine vi_sub (dec_of DX9_mode 76 rfl) ?_
    refine vi_const (dec_of DX9_mode 77 rfl) ?_
    refine vi_icmp_lt (tgt := 154) (dec_of DX9_mode 78 rfl) (by decide) (by first | omega | exact bnd_r _ _ | exact hG _ _ | exact hK _ | (simp (disch := decide) only [uN_s, uN_n]; omega)) (by first | omega | exact bnd_r _ _ | exact hG _ _ | exact hK _ | (simp (disch := decide) only [uN_s, uN_n]; omega)) (fun c139 => ?_) (fun c139 => ?_)
    · refine vi_const (dec_of DX9_mode 86 rfl) ?_
      refine vi_add (dec_of DX9_mode 87 rfl) ?_
      rw [show _ + _ = mdM K G from by unfold mdM; omega]
      refine v_istore (dec_of DX9_mode 88 rfl) (by decide) ?_
      dsimp only [List.set]
      refine v_iload_n (dec_of DX9_mode 89 rfl) rfl ?_
      refine vi_tabOut (tgt := 217) (dec_of DX9_mode 90 rfl) (by decide) (Or.inr (by decide)) (by decide) ?_
      refine v_iload_n (dec_of DX9_mode 108 rfl) rfl ?_
      exact vi_ret (dec_of DX9_mode 109 rfl) rfl ⟨by decide, by decide⟩ (hz)
    · refine v_iload_n (dec_of DX9_mode 79 rfl) rfl ?_
      refine v_iload (dec_of DX9_mode 80 rfl) rfl ?_
      refine vi_sub (dec_of DX9_mode 81 rfl) ?_
      refine vi_const (dec_of DX9_mode 82 rfl) ?_
      refine vi_icmp_gt (tgt := 154) (dec_of DX9_mode 83 rfl) (by decide) (by first | omega | exact bnd_r _ _ | exact hG _ _ | exact hK _ | (simp (disch := decide) only [uN_s, uN_n]; omega)) (by first | omega | exact bnd_r _ _ | exact hG _ _ | exact hK _ | (simp (disch := decide) only [uN_s, uN_n]; omega)) (fun c147 => ?_) (fun c147 => ?_)
      · refine vi_const (dec_of DX9_mode 86 rfl) ?_
        refine vi_add (dec_of DX9_mode 87 rfl) ?_
        rw [show _ + _ = mdM K G from by unfold mdM; omega]
        refine v_istore (dec_of DX9_mode 88 rfl) (by decide) ?_
        dsimp only [List.set]
        refine v_iload_n (dec_of DX9_mode 89 rfl) rfl ?_
        refine vi_tabOut (tgt := 217) (dec_of DX9_mode 90 rfl) (by decide) (Or.inr (by decide)) (by decide) ?_
        refine v_iload_n (dec_of DX9_mode 108 rfl) rfl ?_
        exact vi_ret (dec_of DX9_mode 109 rfl) rfl ⟨by decide, by decide⟩ (hz)
      · refine vi_const (dec_of DX9_mode 84 rfl) ?_
        refine v_goto (tgt := 155) (dec_of DX9_mode 85 rfl) (by decide) ?_
        refine vi_add (dec_of DX9_mode 87 rfl) ?_
        rw [show _ + _ = mdM K G from by unfold mdM; omega]
        refine v_istore (dec_of DX9_mode 88 rfl) (by decide) ?_
        dsimp only [List.set]
        refine v_iload_n (dec_of DX9_mode 89 rfl) rfl ?_
        refine vi_tabOut (tgt := 217) (dec_of DX9_mode 90 rfl) (by decide) (Or.inr (by decide)) (by decide) ?_
        refine v_iload_n (dec_of DX9_mode 108 rfl) rfl ?_
        exact vi_ret (dec_of DX9_mode 109 rfl) rfl ⟨by decide, by decide⟩ (hz)
set_option maxRecDepth 100000 in
set_option maxHeartbeats 4000000 in
theorem q_mode4 {I N : Nat → Int} {F : Nat → Int → Int} {K : Nat → Int} {G : Nat → Int → Int} (hG : FR G) (hK : IR K) (hM : MR K) (hS : SM K G) (hT : MT G) (h15 : 0 < K 15) : Sd (rm 2 43 0 0) mX9_mode [.ref 31, J 4] (W2 I N F K G) (W2 I N F K G) (some (J (hghM K G))) := by
  unfold Sd
  unfold MR at hM
  refine sp_of (ls := [some (.ref 31), some (J 4), none, none, none, none]) (by decide) (nle rfl) rfl rfl ?_
  refine v_iload_n (dec_of DX9_mode 0 rfl) rfl ?_
  refine vi_const (dec_of DX9_mode 1 rfl) ?_
  refine vi_const (dec_of DX9_mode 2 rfl) ?_
  refine v_S3r (q_in (by decide) (by decide) (by decide)) lX9_126 (dec_of DX9_mode 3 rfl) (by decide) (nle rfl) rfl ?_
  refine vi_if_ne (tgt := 12) (dec_of DX9_mode 4 rfl) (by decide) (by first | omega | exact bnd_r _ _ | exact hG _ _ | exact hK _ | (simp (disch := decide) only [uN_s, uN_n]; omega)) (fun c6 => ?_) (fun c6 => absurd c6 (by omega))
  refine v_aload_n (dec_of DX9_mode 7 rfl) rfl ?_
  refine v_get fX9_142 (dec_of DX9_mode 8 rfl) rfl rfl ?_
  refine vi_if_ne (tgt := 22) (dec_of DX9_mode 9 rfl) (by decide) (by first | omega | exact bnd_r _ _ | exact hG _ _ | exact hK _ | (simp (disch := decide) only [uN_s, uN_n]; omega)) (fun c16 => ?_) (fun c16 => absurd c16 (by omega))
  refine v_aload_n (dec_of DX9_mode 12 rfl) rfl ?_
  refine v_get fX9_59 (dec_of DX9_mode 13 rfl) rfl rfl ?_
  refine vi_const (dec_of DX9_mode 14 rfl) ?_
  refine vi_aload (dec_of DX9_mode 15 rfl) rfl (by first | omega | exact bnd_r _ _ | exact hG _ _ | exact hK _ | (simp (disch := decide) only [uN_s, uN_n]; omega)) (by decide) ?_
  refine v_istore_n (dec_of DX9_mode 16 rfl) (by decide) ?_
  dsimp only [List.set]
  refine v_aload_n (dec_of DX9_mode 17 rfl) rfl ?_
  refine v_get fX9_59 (dec_of DX9_mode 18 rfl) rfl rfl ?_
  refine vi_const (dec_of DX9_mode 19 rfl) ?_
  refine vi_aload (dec_of DX9_mode 20 rfl) rfl (by first | omega | exact bnd_r _ _ | exact hG _ _ | exact hK _ | (simp (disch := decide) only [uN_s, uN_n]; omega)) (by decide) ?_
  refine v_istore_n (dec_of DX9_mode 21 rfl) (by decide) ?_
  dsimp only [List.set]
  refine vi_const (dec_of DX9_mode 22 rfl) ?_
  refine v_istore (dec_of DX9_mode 23 rfl) (by decide) ?_
  dsimp only [List.set]
  exact q_md_loop hG hK (by unfold MR; exact hM) hS h15 (q_md_t4 hG hK (by unfold MR; exact hM) hS hT h15 ⟨rfl, rfl⟩) (K 15 - 1).toNat 0 (by omega)
set_option maxRecDepth 100000 in
set_option maxHeartbeats 4000000 in
theorem q_mode_state {I N : Nat → Int} {F : Nat → Int → Int} {K : Nat → Int} {G : Nat → Int → Int} (hG : FR G) (hK : IR K) (hM : MR K) {a : Int} (h : 0 ≤ a ∧ a ≤ 4) (h15 : K 15 = 0) : Sd (rm 2 43 0 0) mX9_mode [.ref 31, J a] (W2 I N F K G) (W2 I N F K G) (some (J (-103))) := by
  unfold Sd
  unfold MR at hM
  refine sp_of (ls := [some (.ref 31), some (J a), none, none, none, none]) (by decide) (nle rfl) rfl rfl ?_
  refine v_iload_n (dec_of DX9_mode 0 rfl) rfl ?_
  refine vi_const (dec_of DX9_mode 1 rfl) ?_
  refine vi_const (dec_of DX9_mode 2 rfl) ?_
  refine v_S3r (q_in (by omega) (by omega) (by omega)) lX9_126 (dec_of DX9_mode 3 rfl) (by decide) (nle rfl) rfl ?_
  refine vi_if_ne (tgt := 12) (dec_of DX9_mode 4 rfl) (by decide) (by first | omega | exact bnd_r _ _ | exact hG _ _ | exact hK _ | (simp (disch := decide) only [uN_s, uN_n]; omega)) (fun c6 => ?_) (fun c6 => absurd c6 (by omega))
  refine v_aload_n (dec_of DX9_mode 7 rfl) rfl ?_
  refine v_get fX9_142 (dec_of DX9_mode 8 rfl) rfl rfl ?_
  refine vi_if_ne (tgt := 22) (dec_of DX9_mode 9 rfl) (by decide) (by first | omega | exact bnd_r _ _ | exact hG _ _ | exact hK _ | (simp (disch := decide) only [uN_s, uN_n]; omega)) (fun c16 => absurd c16 (by omega)) (fun c16 => ?_)
  refine vi_bi (dec_of DX9_mode 10 rfl) (by decide) ?_
  exact vi_ret (dec_of DX9_mode 11 rfl) rfl ⟨by decide, by decide⟩ (⟨rfl, rfl⟩)
set_option maxRecDepth 100000 in
set_option maxHeartbeats 4000000 in
theorem q_mode_out {I N : Nat → Int} {F : Nat → Int → Int} {K : Nat → Int} {G : Nat → Int → Int} (hG : FR G) (hK : IR K) (hM : MR K) {a : Int} (ha : -2147483648 ≤ a ∧ a < 2147483648) (h : ¬ (0 ≤ a ∧ a ≤ 4)) : Sd (rm 2 43 0 0) mX9_mode [.ref 31, J a] (W2 I N F K G) (W2 I N F K G) (some (J (-102))) := by
  unfold Sd
  unfold MR at hM
  refine sp_of (ls := [some (.ref 31), some (J a), none, none, none, none]) (by decide) (nle rfl) rfl rfl ?_
  refine v_iload_n (dec_of DX9_mode 0 rfl) rfl ?_
  refine vi_const (dec_of DX9_mode 1 rfl) ?_
  refine vi_const (dec_of DX9_mode 2 rfl) ?_
  refine v_S3r (q_in (by omega) (by omega) (by omega)) lX9_126 (dec_of DX9_mode 3 rfl) (by decide) (nle rfl) rfl ?_
  refine vi_if_ne (tgt := 12) (dec_of DX9_mode 4 rfl) (by decide) (by first | omega | exact bnd_r _ _ | exact hG _ _ | exact hK _ | (simp (disch := decide) only [uN_s, uN_n]; omega)) (fun c6 => absurd c6 (by omega)) (fun c6 => ?_)
  refine vi_bi (dec_of DX9_mode 5 rfl) (by decide) ?_
  exact vi_ret (dec_of DX9_mode 6 rfl) rfl ⟨by decide, by decide⟩ (⟨rfl, rfl⟩)
def brS (G : Nat → Int → Int) (i wh : Int) : Nat → Int × Int
  | 0 => (0, 0)
  | n + 1 => if G 11 n = 5 then ((brS G i wh n).1 + 1, if (brS G i wh n).1 = i then (if wh = 0 then G 12 n else G 13 n) else (brS G i wh n).2) else brS G i wh n
theorem brS_r (G : Nat → Int → Int) (i wh : Int) (n : Nat) : 0 ≤ (brS G i wh n).1 ∧ (brS G i wh n).1 ≤ n := by
  induction n with
  | zero => exact ⟨Int.le_refl 0, Int.le_refl 0⟩
  | succ n ih => unfold brS; split <;> (try dsimp only) <;> omega
set_option maxRecDepth 100000 in
set_option maxHeartbeats 4000000 in
theorem q_br_loop {I N : Nat → Int} {F : Nat → Int → Int} {K : Nat → Int} {G : Nat → Int → Int} (hG : FR G) (hK : IR K) (hM : MR K) {n0 : Nat} {Z : XW → Option Value → Prop} {i wh : Int} (hi : -2147483648 ≤ i ∧ i < 2147483648) (hw : 0 ≤ wh ∧ wh ≤ 1) (hz : Z (W2 I N F K G) (some (J (brS G i wh (K 10).toNat).2))) : ∀ (m n : Nat), (n : Int) + m = K 10 → Vd (rm 1 22 0 0) [] mX9_bar n0 Z 0 0 37 [some (.ref 31), some (J i), some (J wh), some (J (brS G i wh n).1), some (J (brS G i wh n).2), some (J (n : Int))] [] (W2 I N F K G) := by
  unfold MR at hM
  intro m
  induction m with
  | zero =>
    intro n hn
    have e : n = (K 10).toNat := by omega
    refine v_iload (dec_of DX9_bar 23 rfl) rfl ?_
    refine v_aload_n (dec_of DX9_bar 24 rfl) rfl ?_
    refine v_get fX9_136 (dec_of DX9_bar 25 rfl) rfl rfl ?_
    refine vi_icmp_ge (tgt := 99) (dec_of DX9_bar 26 rfl) (by decide) (by first | omega | exact bnd_r _ _ | exact hG _ _ | exact hK _ | (simp (disch := decide) only [uN_s, uN_n]; omega)) (by first | omega | exact bnd_r _ _ | exact hG _ _ | exact hK _ | (simp (disch := decide) only [uN_s, uN_n]; omega)) (fun c43 => ?_) (fun c43 => absurd c43 (by omega))
    refine v_iload (dec_of DX9_bar 53 rfl) rfl ?_
    exact vi_ret (dec_of DX9_bar 54 rfl) rfl ⟨by decide, by decide⟩ (by rw [e]; exact hz)
  | succ m ih =>
    intro n hn
    have hb := brS_r G i wh n
    have h9 := ih (n + 1) (by omega)
    rw [brS] at h9
    by_cases h5 : G 11 n = 5
    · rw [if_pos h5] at h9
      by_cases hb1 : (brS G i wh n).1 = i
      · rw [if_pos hb1] at h9
        by_cases hw0 : wh = 0
        · rw [if_pos hw0] at h9
          refine v_iload (dec_of DX9_bar 23 rfl) rfl ?_
          refine v_aload_n (dec_of DX9_bar 24 rfl) rfl ?_
          refine v_get fX9_136 (dec_of DX9_bar 25 rfl) rfl rfl ?_
          refine vi_icmp_ge (tgt := 99) (dec_of DX9_bar 26 rfl) (by decide) (by first | omega | exact bnd_r _ _ | exact hG _ _ | exact hK _ | (simp (disch := decide) only [uN_s, uN_n]; omega)) (by first | omega | exact bnd_r _ _ | exact hG _ _ | exact hK _ | (simp (disch := decide) only [uN_s, uN_n]; omega)) (fun c43 => absurd c43 (by omega)) (fun c43 => ?_)
          refine v_aload_n (dec_of DX9_bar 27 rfl) rfl ?_
          refine v_get fX9_34 (dec_of DX9_bar 28 rfl) rfl rfl ?_
          refine v_iload (dec_of DX9_bar 29 rfl) rfl ?_
          refine vi_aload (dec_of DX9_bar 30 rfl) rfl (by first | omega | exact bnd_r _ _ | exact hG _ _ | exact hK _ | (simp (disch := decide) only [uN_s, uN_n]; omega)) (by decide) ?_
          refine vi_const (dec_of DX9_bar 31 rfl) ?_
          refine vi_icmp_ne (tgt := 93) (dec_of DX9_bar 32 rfl) (by decide) (by first | omega | exact bnd_r _ _ | exact hG _ _ | exact hK _ | (simp (disch := decide) only [uN_s, uN_n]; omega)) (by first | omega | exact bnd_r _ _ | exact hG _ _ | exact hK _ | (simp (disch := decide) only [uN_s, uN_n]; omega)) (fun c54 => absurd c54 (by omega)) (fun c54 => ?_)
          refine v_iload_n (dec_of DX9_bar 33 rfl) rfl ?_
          refine v_iload_n (dec_of DX9_bar 34 rfl) rfl ?_
          refine vi_icmp_ne (tgt := 86) (dec_of DX9_bar 35 rfl) (by decide) (by first | omega | exact bnd_r _ _ | exact hG _ _ | exact hK _ | (simp (disch := decide) only [uN_s, uN_n]; omega)) (by first | omega | exact bnd_r _ _ | exact hG _ _ | exact hK _ | (simp (disch := decide) only [uN_s, uN_n]; omega)) (fun c59 => absurd c59 (by omega)) (fun c59 => ?_)
          refine v_iload_n (dec_of DX9_bar 36 rfl) rfl ?_
          refine vi_if_ne (tgt := 76) (dec_of DX9_bar 37 rfl) (by decide) (by first | omega | exact bnd_r _ _ | exact hG _ _ | exact hK _ | (simp (disch := decide) only [uN_s, uN_n]; omega)) (fun c63 => absurd c63 (by omega)) (fun c63 => ?_)
          refine v_aload_n (dec_of DX9_bar 38 rfl) rfl ?_
          refine v_get fX9_37 (dec_of DX9_bar 39 rfl) rfl rfl ?_
          refine v_iload (dec_of DX9_bar 40 rfl) rfl ?_
          refine vi_aload (dec_of DX9_bar 41 rfl) rfl (by first | omega | exact bnd_r _ _ | exact hG _ _ | exact hK _ | (simp (disch := decide) only [uN_s, uN_n]; omega)) (by decide) ?_
          refine v_goto (tgt := 88) (dec_of DX9_bar 42 rfl) (by decide) ?_
          refine v_istore (dec_of DX9_bar 49 rfl) (by decide) ?_
          dsimp only [List.set]
          refine vi_inc (dec_of DX9_bar 50 rfl) rfl (by decide) ?_
          dsimp only [List.set]
          refine vi_inc (dec_of DX9_bar 51 rfl) rfl (by decide) ?_
          dsimp only [List.set]
          refine v_goto (tgt := 37) (dec_of DX9_bar 52 rfl) (by decide) ?_
          exact h9
        · rw [if_neg hw0] at h9
          refine v_iload (dec_of DX9_bar 23 rfl) rfl ?_
          refine v_aload_n (dec_of DX9_bar 24 rfl) rfl ?_
          refine v_get fX9_136 (dec_of DX9_bar 25 rfl) rfl rfl ?_
          refine vi_icmp_ge (tgt := 99) (dec_of DX9_bar 26 rfl) (by decide) (by first | omega | exact bnd_r _ _ | exact hG _ _ | exact hK _ | (simp (disch := decide) only [uN_s, uN_n]; omega)) (by first | omega | exact bnd_r _ _ | exact hG _ _ | exact hK _ | (simp (disch := decide) only [uN_s, uN_n]; omega)) (fun c43 => absurd c43 (by omega)) (fun c43 => ?_)
          refine v_aload_n (dec_of DX9_bar 27 rfl) rfl ?_
          refine v_get fX9_34 (dec_of DX9_bar 28 rfl) rfl rfl ?_
          refine v_iload (dec_of DX9_bar 29 rfl) rfl ?_
          refine vi_aload (dec_of DX9_bar 30 rfl) rfl (by first | omega | exact bnd_r _ _ | exact hG _ _ | exact hK _ | (simp (disch := decide) only [uN_s, uN_n]; omega)) (by decide) ?_
          refine vi_const (dec_of DX9_bar 31 rfl) ?_
          refine vi_icmp_ne (tgt := 93) (dec_of DX9_bar 32 rfl) (by decide) (by first | omega | exact bnd_r _ _ | exact hG _ _ | exact hK _ | (simp (disch := decide) only [uN_s, uN_n]; omega)) (by first | omega | exact bnd_r _ _ | exact hG _ _ | exact hK _ | (simp (disch := decide) only [uN_s, uN_n]; omega)) (fun c54 => absurd c54 (by omega)) (fun c54 => ?_)
          refine v_iload_n (dec_of DX9_bar 33 rfl) rfl ?_
          refine v_iload_n (dec_of DX9_bar 34 rfl) rfl ?_
          refine vi_icmp_ne (tgt := 86) (dec_of DX9_bar 35 rfl) (by decide) (by first | omega | exact bnd_r _ _ | exact hG _ _ | exact hK _ | (simp (disch := decide) only [uN_s, uN_n]; omega)) (by first | omega | exact bnd_r _ _ | exact hG _ _ | exact hK _ | (simp (disch := decide) only [uN_s, uN_n]; omega)) (fun c59 => absurd c59 (by omega)) (fun c59 => ?_)
          refine v_iload_n (dec_of DX9_bar 36 rfl) rfl ?_
          refine vi_if_ne (tgt := 76) (dec_of DX9_bar 37 rfl) (by decide) (by first | omega | exact bnd_r _ _ | exact hG _ _ | exact hK _ | (simp (disch := decide) only [uN_s, uN_n]; omega)) (fun c63 => ?_) (fun c63 => absurd c63 (by omega))
          refine v_aload_n (dec_of DX9_bar 43 rfl) rfl ?_
          refine v_get fX9_40 (dec_of DX9_bar 44 rfl) rfl rfl ?_
          refine v_iload (dec_of DX9_bar 45 rfl) rfl ?_
          refine vi_aload (dec_of DX9_bar 46 rfl) rfl (by first | omega | exact bnd_r _ _ | exact hG _ _ | exact hK _ | (simp (disch := decide) only [uN_s, uN_n]; omega)) (by decide) ?_
          refine v_goto (tgt := 88) (dec_of DX9_bar 47 rfl) (by decide) ?_
          refine v_istore (dec_of DX9_bar 49 rfl) (by decide) ?_
          dsimp only [List.set]
          refine vi_inc (dec_of DX9_bar 50 rfl) rfl (by decide) ?_
          dsimp only [List.set]
          refine vi_inc (dec_of DX9_bar 51 rfl) rfl (by decide) ?_
          dsimp only [List.set]
          refine v_goto (tgt := 37) (dec_of DX9_bar 52 rfl) (by decide) ?_
          exact h9
      · rw [if_neg hb1] at h9
        refine v_iload (dec_of DX9_bar 23 rfl) rfl ?_
        refine v_aload_n (dec_of DX9_bar 24 rfl) rfl ?_
        refine v_get fX9_136 (dec_of DX9_bar 25 rfl) rfl rfl ?_
        refine vi_icmp_ge (tgt := 99) (dec_of DX9_bar 26 rfl) (by decide) (by first | omega | exact bnd_r _ _ | exact hG _ _ | exact hK _ | (simp (disch := decide) only [uN_s, uN_n]; omega)) (by first | omega | exact bnd_r _ _ | exact hG _ _ | exact hK _ | (simp (disch := decide) only [uN_s, uN_n]; omega)) (fun c43 => absurd c43 (by omega)) (fun c43 => ?_)
        refine v_aload_n (dec_of DX9_bar 27 rfl) rfl ?_
        refine v_get fX9_34 (dec_of DX9_bar 28 rfl) rfl rfl ?_
        refine v_iload (dec_of DX9_bar 29 rfl) rfl ?_
        refine vi_aload (dec_of DX9_bar 30 rfl) rfl (by first | omega | exact bnd_r _ _ | exact hG _ _ | exact hK _ | (simp (disch := decide) only [uN_s, uN_n]; omega)) (by decide) ?_
        refine vi_const (dec_of DX9_bar 31 rfl) ?_
        refine vi_icmp_ne (tgt := 93) (dec_of DX9_bar 32 rfl) (by decide) (by first | omega | exact bnd_r _ _ | exact hG _ _ | exact hK _ | (simp (disch := decide) only [uN_s, uN_n]; omega)) (by first | omega | exact bnd_r _ _ | exact hG _ _ | exact hK _ | (simp (disch := decide) only [uN_s, uN_n]; omega)) (fun c54 => absurd c54 (by omega)) (fun c54 => ?_)
        refine v_iload_n (dec_of DX9_bar 33 rfl) rfl ?_
        refine v_iload_n (dec_of DX9_bar 34 rfl) rfl ?_
        refine vi_icmp_ne (tgt := 86) (dec_of DX9_bar 35 rfl) (by decide) (by first | omega | exact bnd_r _ _ | exact hG _ _ | exact hK _ | (simp (disch := decide) only [uN_s, uN_n]; omega)) (by first | omega | exact bnd_r _ _ | exact hG _ _ | exact hK _ | (simp (disch := decide) only [uN_s, uN_n]; omega)) (fun c59 => ?_) (fun c59 => absurd c59 (by omega))
        refine v_iload (dec_of DX9_bar 48 rfl) rfl ?_
        refine v_istore (dec_of DX9_bar 49 rfl) (by decide) ?_
        dsimp only [List.set]
        refine vi_inc (dec_of DX9_bar 50 rfl) rfl (by decide) ?_
        dsimp only [List.set]
        refine vi_inc (dec_of DX9_bar 51 rfl) rfl (by decide) ?_
        dsimp only [List.set]
        refine v_goto (tgt := 37) (dec_of DX9_bar 52 rfl) (by decide) ?_
        exact h9
    · rw [if_neg h5] at h9
      refine v_iload (dec_of DX9_bar 23 rfl) rfl ?_
      refine v_aload_n (dec_of DX9_bar 24 rfl) rfl ?_
      refine v_get fX9_136 (dec_of DX9_bar 25 rfl) rfl rfl ?_
      refine vi_icmp_ge (tgt := 99) (dec_of DX9_bar 26 rfl) (by decide) (by first | omega | exact bnd_r _ _ | exact hG _ _ | exact hK _ | (simp (disch := decide) only [uN_s, uN_n]; omega)) (by first | omega | exact bnd_r _ _ | exact hG _ _ | exact hK _ | (simp (disch := decide) only [uN_s, uN_n]; omega)) (fun c43 => absurd c43 (by omega)) (fun c43 => ?_)
      refine v_aload_n (dec_of DX9_bar 27 rfl) rfl ?_
      refine v_get fX9_34 (dec_of DX9_bar 28 rfl) rfl rfl ?_
      refine v_iload (dec_of DX9_bar 29 rfl) rfl ?_
      refine vi_aload (dec_of DX9_bar 30 rfl) rfl (by first | omega | exact bnd_r _ _ | exact hG _ _ | exact hK _ | (simp (disch := decide) only [uN_s, uN_n]; omega)) (by decide) ?_
      refine vi_const (dec_of DX9_bar 31 rfl) ?_
      refine vi_icmp_ne (tgt := 93) (dec_of DX9_bar 32 rfl) (by decide) (by first | omega | exact bnd_r _ _ | exact hG _ _ | exact hK _ | (simp (disch := decide) only [uN_s, uN_n]; omega)) (by first | omega | exact bnd_r _ _ | exact hG _ _ | exact hK _ | (simp (disch := decide) only [uN_s, uN_n]; omega)) (fun c54 => ?_) (fun c54 => absurd c54 (by omega))
      refine vi_inc (dec_of DX9_bar 51 rfl) rfl (by decide) ?_
      dsimp only [List.set]
      refine v_goto (tgt := 37) (dec_of DX9_bar 52 rfl) (by decide) ?_
      exact h9
set_option maxRecDepth 100000 in
set_option maxHeartbeats 4000000 in
theorem q_bar {I N : Nat → Int} {F : Nat → Int → Int} {K : Nat → Int} {G : Nat → Int → Int} (hG : FR G) (hK : IR K) (hM : MR K) {a b : Int} (ha : 0 ≤ a ∧ a < K 21) (hb : 0 ≤ b ∧ b ≤ 1) : Sd (rm 1 22 0 0) mX9_bar [.ref 31, J a, J b] (W2 I N F K G) (W2 I N F K G) (some (J (brS G a b (K 10).toNat).2)) := by
  unfold Sd
  unfold MR at hM
  refine sp_of (ls := [some (.ref 31), some (J a), some (J b), none, none, none]) (by decide) (nle rfl) rfl rfl ?_
  refine v_iload_n (dec_of DX9_bar 0 rfl) rfl ?_
  refine vi_const (dec_of DX9_bar 1 rfl) ?_
  refine v_aload_n (dec_of DX9_bar 2 rfl) rfl ?_
  refine v_get fX9_148 (dec_of DX9_bar 3 rfl) rfl rfl ?_
  refine vi_const (dec_of DX9_bar 4 rfl) ?_
  refine vi_sub (dec_of DX9_bar 5 rfl) ?_
  refine v_S3r (q_in (by omega) (by omega) (by omega)) lX9_126 (dec_of DX9_bar 6 rfl) (by decide) (nle rfl) rfl ?_
  refine vi_if_ne (tgt := 17) (dec_of DX9_bar 7 rfl) (by decide) (by first | omega | exact bnd_r _ _ | exact hG _ _ | exact hK _ | (simp (disch := decide) only [uN_s, uN_n]; omega)) (fun c11 => ?_) (fun c11 => absurd c11 (by omega))
  refine v_iload_n (dec_of DX9_bar 10 rfl) rfl ?_
  refine vi_const (dec_of DX9_bar 11 rfl) ?_
  refine vi_const (dec_of DX9_bar 12 rfl) ?_
  refine v_S3r (q_in (by omega) (by omega) (by omega)) lX9_126 (dec_of DX9_bar 13 rfl) (by decide) (nle rfl) rfl ?_
  refine vi_if_ne (tgt := 29) (dec_of DX9_bar 14 rfl) (by decide) (by first | omega | exact bnd_r _ _ | exact hG _ _ | exact hK _ | (simp (disch := decide) only [uN_s, uN_n]; omega)) (fun c23 => ?_) (fun c23 => absurd c23 (by omega))
  refine vi_const (dec_of DX9_bar 17 rfl) ?_
  refine v_istore_n (dec_of DX9_bar 18 rfl) (by decide) ?_
  dsimp only [List.set]
  refine vi_const (dec_of DX9_bar 19 rfl) ?_
  refine v_istore (dec_of DX9_bar 20 rfl) (by decide) ?_
  dsimp only [List.set]
  refine vi_const (dec_of DX9_bar 21 rfl) ?_
  refine v_istore (dec_of DX9_bar 22 rfl) (by decide) ?_
  dsimp only [List.set]
  exact q_br_loop hG hK (by unfold MR; exact hM) (by omega) hb ⟨rfl, rfl⟩ (K 10).toNat 0 (by omega)
set_option maxRecDepth 100000 in
set_option maxHeartbeats 4000000 in
theorem q_bar_un {I N : Nat → Int} {F : Nat → Int → Int} {K : Nat → Int} {G : Nat → Int → Int} (hG : FR G) (hK : IR K) (hM : MR K) {a b : Int} (ha : -2147483648 ≤ a ∧ a < 2147483648) (h : ¬ (0 ≤ a ∧ a < K 21)) : Sd (rm 1 22 0 0) mX9_bar [.ref 31, J a, J b] (W2 I N F K G) (W2 I N F K G) (some (J (-101))) := by
  unfold Sd
  unfold MR at hM
  refine sp_of (ls := [some (.ref 31), some (J a), some (J b), none, none, none]) (by decide) (nle rfl) rfl rfl ?_
  refine v_iload_n (dec_of DX9_bar 0 rfl) rfl ?_
  refine vi_const (dec_of DX9_bar 1 rfl) ?_
  refine v_aload_n (dec_of DX9_bar 2 rfl) rfl ?_
  refine v_get fX9_148 (dec_of DX9_bar 3 rfl) rfl rfl ?_
  refine vi_const (dec_of DX9_bar 4 rfl) ?_
  refine vi_sub (dec_of DX9_bar 5 rfl) ?_
  refine v_S3r (q_in (by omega) (by omega) (by omega)) lX9_126 (dec_of DX9_bar 6 rfl) (by decide) (nle rfl) rfl ?_
  refine vi_if_ne (tgt := 17) (dec_of DX9_bar 7 rfl) (by decide) (by first | omega | exact bnd_r _ _ | exact hG _ _ | exact hK _ | (simp (disch := decide) only [uN_s, uN_n]; omega)) (fun c11 => absurd c11 (by omega)) (fun c11 => ?_)
  refine vi_bi (dec_of DX9_bar 8 rfl) (by decide) ?_
  exact vi_ret (dec_of DX9_bar 9 rfl) rfl ⟨by decide, by decide⟩ (⟨rfl, rfl⟩)
set_option maxRecDepth 100000 in
set_option maxHeartbeats 4000000 in
theorem q_bar_out {I N : Nat → Int} {F : Nat → Int → Int} {K : Nat → Int} {G : Nat → Int → Int} (hG : FR G) (hK : IR K) (hM : MR K) {a b : Int} (hb : -2147483648 ≤ b ∧ b < 2147483648) (ha : 0 ≤ a ∧ a < K 21) (h : ¬ (0 ≤ b ∧ b ≤ 1)) : Sd (rm 1 22 0 0) mX9_bar [.ref 31, J a, J b] (W2 I N F K G) (W2 I N F K G) (some (J (-102))) := by
  unfold Sd
  unfold MR at hM
  refine sp_of (ls := [some (.ref 31), some (J a), some (J b), none, none, none]) (by decide) (nle rfl) rfl rfl ?_
  refine v_iload_n (dec_of DX9_bar 0 rfl) rfl ?_
  refine vi_const (dec_of DX9_bar 1 rfl) ?_
  refine v_aload_n (dec_of DX9_bar 2 rfl) rfl ?_
  refine v_get fX9_148 (dec_of DX9_bar 3 rfl) rfl rfl ?_
  refine vi_const (dec_of DX9_bar 4 rfl) ?_
  refine vi_sub (dec_of DX9_bar 5 rfl) ?_
  refine v_S3r (q_in (by omega) (by omega) (by omega)) lX9_126 (dec_of DX9_bar 6 rfl) (by decide) (nle rfl) rfl ?_
  refine vi_if_ne (tgt := 17) (dec_of DX9_bar 7 rfl) (by decide) (by first | omega | exact bnd_r _ _ | exact hG _ _ | exact hK _ | (simp (disch := decide) only [uN_s, uN_n]; omega)) (fun c11 => ?_) (fun c11 => absurd c11 (by omega))
  refine v_iload_n (dec_of DX9_bar 10 rfl) rfl ?_
  refine vi_const (dec_of DX9_bar 11 rfl) ?_
  refine vi_const (dec_of DX9_bar 12 rfl) ?_
  refine v_S3r (q_in (by omega) (by omega) (by omega)) lX9_126 (dec_of DX9_bar 13 rfl) (by decide) (nle rfl) rfl ?_
  refine vi_if_ne (tgt := 29) (dec_of DX9_bar 14 rfl) (by decide) (by first | omega | exact bnd_r _ _ | exact hG _ _ | exact hK _ | (simp (disch := decide) only [uN_s, uN_n]; omega)) (fun c23 => absurd c23 (by omega)) (fun c23 => ?_)
  refine vi_bi (dec_of DX9_bar 15 rfl) (by decide) ?_
  exact vi_ret (dec_of DX9_bar 16 rfl) rfl ⟨by decide, by decide⟩ (⟨rfl, rfl⟩)
