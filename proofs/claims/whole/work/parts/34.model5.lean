/-! the reference: fit (printed by wip/tools/gen_m5.py) -/
def byM (K : Nat → Int) (G : Nat → Int → Int) (h op pr fm k : Int) : Int := if k = K 49 then clM K G h 6 else if K 49 < k then clM K G h 7 else if k = K 48 then clM K G h 4 else if fm < k then clM K G h 5 else if K 50 = 0 ∧ fm - pr ≤ k then clM K G h (1 + k - (fm - pr)) else if K 50 = 0 ∧ k < op then G 46 (2 * (K 43 - 1) + k) else 0
def byN (K : Nat → Int) (G : Nat → Int → Int) (h n op pr fm k : Int) : Int := if n ≤ k ∨ (k = n - 1 ∧ ¬ k = K 49) then clM K G h 8 else byM K G h op pr fm k
def rwM (K : Nat → Int) (G : Nat → Int → Int) (h n op pr fm m : Int) (on by1 : Int → Int) : Prop := ∀ i : Int, 0 ≤ i → i < m → on i = onP n i ∧ by1 i = byN K G h n op pr fm i
theorem rwM_add {K : Nat → Int} {G : Nat → Int → Int} {h n op pr fm m s v : Int} {on by1 : Int → Int} (hr : rwM K G h n op pr fm m on by1) (hs : s = onP n m) (hv : v = byN K G h n op pr fm m) : rwM K G h n op pr fm (m + 1) (uI on m s) (uI by1 m v) := by
  intro i h0 h1
  unfold uI
  by_cases hi : i = m
  · rw [if_pos hi, if_pos hi, hi]; exact ⟨hs, hv⟩
  · rw [if_neg hi, if_neg hi]; exact hr i h0 (by omega)
def ftM (K : Nat → Int) (n : Int) : Int := if K 49 = n - 1 then n + 1 else n
theorem MR51 {K : Nat → Int} (h : MR K) {a : Int} (ha : 0 ≤ a ∧ a ≤ 41) : MR (uN K 51 a) := by
  unfold MR at *
  simp (disch := decide) only [uN_s, uN_n]
  omega
set_option maxRecDepth 100000 in
set_option maxHeartbeats 4000000 in
theorem q_ft_end {I N : Nat → Int} {F : Nat → Int → Int} {K : Nat → Int} {G : Nat → Int → Int} (hG : FR G) (hK : IR K) (hM : MR K) {n0 : Nat} {Z : XW → Option Value → Prop} {h n tw one op pr fm a b : Int} {on by1 : Int → Int} (hh : 0 ≤ h ∧ h ≤ 1) (hn : 0 < n ∧ n ≤ 40) (hop : 0 ≤ op ∧ op ≤ 2) (hpr : 0 ≤ pr ∧ pr ≤ 2) (hfm : -100 ≤ fm ∧ fm ≤ 100) (h49 : 0 ≤ K 49 ∧ K 49 < n) (h48 : -100 ≤ K 48 ∧ K 48 ≤ 100) (h50 : 0 ≤ K 50 ∧ K 50 ≤ 1) (ha : 0 ≤ a ∧ a < n) (ho : ∀ i, -2147483648 ≤ on i ∧ on i < 2147483648) (hb : ∀ i, -2147483648 ≤ by1 i ∧ by1 i < 2147483648) (hr : rwM K G h n op pr fm a on by1) (eb : b = byM K G h op pr fm a) (rb : -2147483648 ≤ b ∧ b < 2147483648) (kk : ∀ (on2 by2 : Int → Int), (∀ i, -2147483648 ≤ on2 i ∧ on2 i < 2147483648) → (∀ i, -2147483648 ≤ by2 i ∧ by2 i < 2147483648) → rwM K G h n op pr fm (a + 1) on2 by2 → Vd (rm 1 24 0 0) [] mX9_fit n0 Z 0 0 217 [some (.ref 31), some (J h), some (J n), some (J tw), some (J one), some (J op), some (J pr), some (J fm), some (J (a + 1)), none] [] (W2 I N F (uN K 51 (a + 1)) (uN (uN G 52 on2) 53 by2))) :  Vd (rm 1 24 0 0) [] mX9_fit n0 Z 0 0 375 [some (.ref 31), some (J h), some (J n), some (J tw), some (J one), some (J op), some (J pr), some (J fm), some (J a), some (J b)] [] (W2 I N F (uN K 51 a) (uN (uN G 52 on) 53 by1)) := by
  have hM0 := hM
  unfold MR at hM
  have hG2 : FR (uN (uN G 52 on) 53 by1) := (hG.up ho).up hb
  have hM2 := MR51 hM0 (a := a) (by omega)
  have hK2 : IR (uN K 51 a) := hK.up (by omega)
  have h8r : -2147483648 ≤ clM K G h 8 ∧ clM K G h 8 < 2147483648 := hG 47 _
  by_cases h1 : a = n - 1
  · by_cases h2 : a = K 49
    · skip
      refine v_iload (dec_of DX9_fit 199 rfl) rfl ?_
      refine v_iload_n (dec_of DX9_fit 200 rfl) rfl ?_
      refine vi_const (dec_of DX9_fit 201 rfl) ?_
      refine vi_sub (dec_of DX9_fit 202 rfl) ?_
      refine vi_icmp_ne (tgt := 401) (dec_of DX9_fit 203 rfl) (by decide) (by first | omega | exact bnd_r _ _ | exact hG _ _ | exact hK _ | (simp (disch := decide) only [uN_s, uN_n]; omega)) (by first | omega | exact bnd_r _ _ | exact hG _ _ | exact hK _ | (simp (disch := decide) only [uN_s, uN_n]; omega)) (fun c380 => absurd c380 (by omega)) (fun c380 => ?_)
      refine v_iload (dec_of DX9_fit 204 rfl) rfl ?_
      refine v_aload_n (dec_of DX9_fit 205 rfl) rfl ?_
      refine v_get fX9_246 (dec_of DX9_fit 206 rfl) rfl rfl ?_
      try simp (disch := decide) only [uN_s, uN_n]
      refine vi_icmp_eq (tgt := 401) (dec_of DX9_fit 207 rfl) (by decide) (by first | omega | exact bnd_r _ _ | exact hG _ _ | exact hK _ | (simp (disch := decide) only [uN_s, uN_n]; omega)) (by first | omega | exact bnd_r _ _ | exact hG _ _ | exact hK _ | (simp (disch := decide) only [uN_s, uN_n]; omega)) (fun c389 => ?_) (fun c389 => absurd c389 (by omega))
      refine v_aload_n (dec_of DX9_fit 213 rfl) rfl ?_
      refine v_iload (dec_of DX9_fit 214 rfl) rfl ?_
      refine v_iload (dec_of DX9_fit 215 rfl) rfl ?_
      refine v_V2v (q_sing hG2 hK2 hM2 (by rw [uN_s]; omega)) lX9_259 (dec_of DX9_fit 216 rfl) rfl rfl (by decide) (nle rfl) rfl ?_
      try simp (disch := decide) only [uN_s, uN_n]
      refine Vd_w (w' := W2 I N F (uN K 51 (a + 1)) (uN (uN G 52 (uI on a a)) 53 (uI by1 a (b)))) rfl ?_
      refine vi_inc (dec_of DX9_fit 217 rfl) rfl (by decide) ?_
      dsimp only [List.set]
      refine v_goto (tgt := 217) (dec_of DX9_fit 218 rfl) (by decide) ?_
      refine Vd_fg 9 ?_
      dsimp only [List.set]
      exact kk (uI on a a) (uI by1 a (b)) (uI_r ho (by omega)) (uI_r hb (by omega)) (rwM_add hr (by unfold onP; omega) (by rw [byN, if_neg (by omega)]; exact eb))
    · skip
      refine v_iload (dec_of DX9_fit 199 rfl) rfl ?_
      refine v_iload_n (dec_of DX9_fit 200 rfl) rfl ?_
      refine vi_const (dec_of DX9_fit 201 rfl) ?_
      refine vi_sub (dec_of DX9_fit 202 rfl) ?_
      refine vi_icmp_ne (tgt := 401) (dec_of DX9_fit 203 rfl) (by decide) (by first | omega | exact bnd_r _ _ | exact hG _ _ | exact hK _ | (simp (disch := decide) only [uN_s, uN_n]; omega)) (by first | omega | exact bnd_r _ _ | exact hG _ _ | exact hK _ | (simp (disch := decide) only [uN_s, uN_n]; omega)) (fun c380 => absurd c380 (by omega)) (fun c380 => ?_)
      refine v_iload (dec_of DX9_fit 204 rfl) rfl ?_
      refine v_aload_n (dec_of DX9_fit 205 rfl) rfl ?_
      refine v_get fX9_246 (dec_of DX9_fit 206 rfl) rfl rfl ?_
      try simp (disch := decide) only [uN_s, uN_n]
      refine vi_icmp_eq (tgt := 401) (dec_of DX9_fit 207 rfl) (by decide) (by first | omega | exact bnd_r _ _ | exact hG _ _ | exact hK _ | (simp (disch := decide) only [uN_s, uN_n]; omega)) (by first | omega | exact bnd_r _ _ | exact hG _ _ | exact hK _ | (simp (disch := decide) only [uN_s, uN_n]; omega)) (fun c389 => absurd c389 (by omega)) (fun c389 => ?_)
      refine v_aload_n (dec_of DX9_fit 208 rfl) rfl ?_
      refine v_iload_n (dec_of DX9_fit 209 rfl) rfl ?_
      refine vi_bi (dec_of DX9_fit 210 rfl) (by decide) ?_
      refine v_V2r (q_close hG2 hK2 hM2 hh (by omega)) lX9_256 (dec_of DX9_fit 211 rfl) rfl rfl (by decide) (nle rfl) rfl ?_
      try simp (disch := decide) only [uN_s, uN_n]
      change Vd _ _ _ _ _ _ _ _ _ (J (clM K G h 8) :: _) _
      refine v_istore (dec_of DX9_fit 212 rfl) (by decide) ?_
      dsimp only [List.set]
      refine v_aload_n (dec_of DX9_fit 213 rfl) rfl ?_
      refine v_iload (dec_of DX9_fit 214 rfl) rfl ?_
      refine v_iload (dec_of DX9_fit 215 rfl) rfl ?_
      refine v_V2v (q_sing hG2 hK2 hM2 (by rw [uN_s]; omega)) lX9_259 (dec_of DX9_fit 216 rfl) rfl rfl (by decide) (nle rfl) rfl ?_
      try simp (disch := decide) only [uN_s, uN_n]
      refine Vd_w (w' := W2 I N F (uN K 51 (a + 1)) (uN (uN G 52 (uI on a a)) 53 (uI by1 a (clM K G h 8)))) rfl ?_
      refine vi_inc (dec_of DX9_fit 217 rfl) rfl (by decide) ?_
      dsimp only [List.set]
      refine v_goto (tgt := 217) (dec_of DX9_fit 218 rfl) (by decide) ?_
      refine Vd_fg 9 ?_
      dsimp only [List.set]
      exact kk (uI on a a) (uI by1 a (clM K G h 8)) (uI_r ho (by omega)) (uI_r hb (by omega)) (rwM_add hr (by unfold onP; omega) (by rw [byN, if_pos (by omega)]))
  · skip
    refine v_iload (dec_of DX9_fit 199 rfl) rfl ?_
    refine v_iload_n (dec_of DX9_fit 200 rfl) rfl ?_
    refine vi_const (dec_of DX9_fit 201 rfl) ?_
    refine vi_sub (dec_of DX9_fit 202 rfl) ?_
    refine vi_icmp_ne (tgt := 401) (dec_of DX9_fit 203 rfl) (by decide) (by first | omega | exact bnd_r _ _ | exact hG _ _ | exact hK _ | (simp (disch := decide) only [uN_s, uN_n]; omega)) (by first | omega | exact bnd_r _ _ | exact hG _ _ | exact hK _ | (simp (disch := decide) only [uN_s, uN_n]; omega)) (fun c380 => ?_) (fun c380 => absurd c380 (by omega))
    refine v_aload_n (dec_of DX9_fit 213 rfl) rfl ?_
    refine v_iload (dec_of DX9_fit 214 rfl) rfl ?_
    refine v_iload (dec_of DX9_fit 215 rfl) rfl ?_
    refine v_V2v (q_sing hG2 hK2 hM2 (by rw [uN_s]; omega)) lX9_259 (dec_of DX9_fit 216 rfl) rfl rfl (by decide) (nle rfl) rfl ?_
    try simp (disch := decide) only [uN_s, uN_n]
    refine Vd_w (w' := W2 I N F (uN K 51 (a + 1)) (uN (uN G 52 (uI on a a)) 53 (uI by1 a (b)))) rfl ?_
    refine vi_inc (dec_of DX9_fit 217 rfl) rfl (by decide) ?_
    dsimp only [List.set]
    refine v_goto (tgt := 217) (dec_of DX9_fit 218 rfl) (by decide) ?_
    refine Vd_fg 9 ?_
    dsimp only [List.set]
    exact kk (uI on a a) (uI by1 a (b)) (uI_r ho (by omega)) (uI_r hb (by omega)) (rwM_add hr (by unfold onP; omega) (by rw [byN, if_neg (by omega)]; exact eb))
set_option maxRecDepth 100000 in
set_option maxHeartbeats 4000000 in
theorem q_ft_loop {I N : Nat → Int} {F : Nat → Int → Int} {K : Nat → Int} {G : Nat → Int → Int} (hG : FR G) (hK : IR K) (hM : MR K) {n0 : Nat} {Z : XW → Option Value → Prop} {h n tw one op pr fm : Int} (hh : 0 ≤ h ∧ h ≤ 1) (hn : 0 < n ∧ n ≤ 40) (hop : 0 ≤ op ∧ op ≤ 2) (hpr : 0 ≤ pr ∧ pr ≤ 2) (hfm : -100 ≤ fm ∧ fm ≤ 100) (h49 : 0 ≤ K 49 ∧ K 49 < n) (h48 : -100 ≤ K 48 ∧ K 48 ≤ 100) (h50 : 0 ≤ K 50 ∧ K 50 ≤ 1) (hz : ∀ (on by1 : Int → Int), (∀ i, -2147483648 ≤ on i ∧ on i < 2147483648) → (∀ i, -2147483648 ≤ by1 i ∧ by1 i < 2147483648) → rwM K G h n op pr fm n on by1 → Vd (rm 1 24 0 0) [] mX9_fit n0 Z 0 0 415 [some (.ref 31), some (J h), some (J n), some (J tw), some (J one), some (J op), some (J pr), some (J fm), some (J n), none] [] (W2 I N F (uN K 51 n) (uN (uN G 52 on) 53 by1))) : ∀ (m : Nat) (a : Int) (on by1 : Int → Int), a + m = n → 0 ≤ a → (∀ i, -2147483648 ≤ on i ∧ on i < 2147483648) → (∀ i, -2147483648 ≤ by1 i ∧ by1 i < 2147483648) → rwM K G h n op pr fm a on by1 → Vd (rm 1 24 0 0) [] mX9_fit n0 Z 0 0 217 [some (.ref 31), some (J h), some (J n), some (J tw), some (J one), some (J op), some (J pr), some (J fm), some (J a), none] [] (W2 I N F (uN K 51 a) (uN (uN G 52 on) 53 by1)) := by
  have hM0 := hM
  unfold MR at hM
  intro m
  induction m with
  | zero =>
    intro a on by1 h1 h0 ho hb hr
    obtain rfl : a = n := by omega
    refine v_iload (dec_of DX9_fit 117 rfl) rfl ?_
    refine v_iload_n (dec_of DX9_fit 118 rfl) rfl ?_
    refine vi_icmp_ge (tgt := 415) (dec_of DX9_fit 119 rfl) (by decide) (by first | omega | exact bnd_r _ _ | exact hG _ _ | exact hK _ | (simp (disch := decide) only [uN_s, uN_n]; omega)) (by first | omega | exact bnd_r _ _ | exact hG _ _ | exact hK _ | (simp (disch := decide) only [uN_s, uN_n]; omega)) (fun c220 => ?_) (fun c220 => absurd c220 (by omega))
    exact hz on by1 ho hb hr
  | succ m ih =>
    intro a on by1 h1 h0 ho hb hr
    have hG2 : FR (uN (uN G 52 on) 53 by1) := (hG.up ho).up hb
    have hM2 := MR51 hM0 (a := a) (by omega)
    have hK2 : IR (uN K 51 a) := hK.up (by omega)
    have kk : ∀ (on2 by2 : Int → Int), (∀ i, -2147483648 ≤ on2 i ∧ on2 i < 2147483648) → (∀ i, -2147483648 ≤ by2 i ∧ by2 i < 2147483648) → rwM K G h n op pr fm (a + 1) on2 by2 → Vd (rm 1 24 0 0) [] mX9_fit n0 Z 0 0 217 [some (.ref 31), some (J h), some (J n), some (J tw), some (J one), some (J op), some (J pr), some (J fm), some (J (a + 1)), none] [] (W2 I N F (uN K 51 (a + 1)) (uN (uN G 52 on2) 53 by2)) := fun on2 by2 q1 q2 q3 => ih (a + 1) on2 by2 (by omega) (by omega) q1 q2 q3
    have fin : ∀ b : Int, b = byM K G h op pr fm a → (-2147483648 ≤ b ∧ b < 2147483648) → Vd (rm 1 24 0 0) [] mX9_fit n0 Z 0 0 375 [some (.ref 31), some (J h), some (J n), some (J tw), some (J one), some (J op), some (J pr), some (J fm), some (J a), some (J b)] [] (W2 I N F (uN K 51 a) (uN (uN G 52 on) 53 by1)) := fun b e1 e2 => q_ft_end hG hK hM0 hh hn hop hpr hfm h49 h48 h50 (by omega) ho hb hr e1 e2 kk
    by_cases k1 : a = K 49
    · skip
      refine v_iload (dec_of DX9_fit 117 rfl) rfl ?_
      refine v_iload_n (dec_of DX9_fit 118 rfl) rfl ?_
      refine vi_icmp_ge (tgt := 415) (dec_of DX9_fit 119 rfl) (by decide) (by first | omega | exact bnd_r _ _ | exact hG _ _ | exact hK _ | (simp (disch := decide) only [uN_s, uN_n]; omega)) (by first | omega | exact bnd_r _ _ | exact hG _ _ | exact hK _ | (simp (disch := decide) only [uN_s, uN_n]; omega)) (fun c220 => absurd c220 (by omega)) (fun c220 => ?_)
      refine vi_const (dec_of DX9_fit 120 rfl) ?_
      refine v_istore (dec_of DX9_fit 121 rfl) (by decide) ?_
      dsimp only [List.set]
      refine v_iload (dec_of DX9_fit 122 rfl) rfl ?_
      refine v_aload_n (dec_of DX9_fit 123 rfl) rfl ?_
      refine v_get fX9_246 (dec_of DX9_fit 124 rfl) rfl rfl ?_
      try simp (disch := decide) only [uN_s, uN_n]
      refine vi_icmp_ne (tgt := 247) (dec_of DX9_fit 125 rfl) (by decide) (by first | omega | exact bnd_r _ _ | exact hG _ _ | exact hK _ | (simp (disch := decide) only [uN_s, uN_n]; omega)) (by first | omega | exact bnd_r _ _ | exact hG _ _ | exact hK _ | (simp (disch := decide) only [uN_s, uN_n]; omega)) (fun c232 => absurd c232 (by omega)) (fun c232 => ?_)
      refine v_aload_n (dec_of DX9_fit 126 rfl) rfl ?_
      refine v_iload_n (dec_of DX9_fit 127 rfl) rfl ?_
      refine vi_bi (dec_of DX9_fit 128 rfl) (by decide) ?_
      refine v_V2r (q_close hG2 hK2 hM2 hh (by omega)) lX9_256 (dec_of DX9_fit 129 rfl) rfl rfl (by decide) (nle rfl) rfl ?_
      try simp (disch := decide) only [uN_s, uN_n]
      change Vd _ _ _ _ _ _ _ _ _ (J (clM K G h (6)) :: _) _
      refine v_istore (dec_of DX9_fit 130 rfl) (by decide) ?_
      dsimp only [List.set]
      refine v_goto (tgt := 375) (dec_of DX9_fit 131 rfl) (by decide) ?_
      exact fin _ (by rw [byM, if_pos (by omega)]) (hG 47 _)
    by_cases k2 : K 49 < a
    · skip
      refine v_iload (dec_of DX9_fit 117 rfl) rfl ?_
      refine v_iload_n (dec_of DX9_fit 118 rfl) rfl ?_
      refine vi_icmp_ge (tgt := 415) (dec_of DX9_fit 119 rfl) (by decide) (by first | omega | exact bnd_r _ _ | exact hG _ _ | exact hK _ | (simp (disch := decide) only [uN_s, uN_n]; omega)) (by first | omega | exact bnd_r _ _ | exact hG _ _ | exact hK _ | (simp (disch := decide) only [uN_s, uN_n]; omega)) (fun c220 => absurd c220 (by omega)) (fun c220 => ?_)
      refine vi_const (dec_of DX9_fit 120 rfl) ?_
      refine v_istore (dec_of DX9_fit 121 rfl) (by decide) ?_
      dsimp only [List.set]
      refine v_iload (dec_of DX9_fit 122 rfl) rfl ?_
      refine v_aload_n (dec_of DX9_fit 123 rfl) rfl ?_
      refine v_get fX9_246 (dec_of DX9_fit 124 rfl) rfl rfl ?_
      try simp (disch := decide) only [uN_s, uN_n]
      refine vi_icmp_ne (tgt := 247) (dec_of DX9_fit 125 rfl) (by decide) (by first | omega | exact bnd_r _ _ | exact hG _ _ | exact hK _ | (simp (disch := decide) only [uN_s, uN_n]; omega)) (by first | omega | exact bnd_r _ _ | exact hG _ _ | exact hK _ | (simp (disch := decide) only [uN_s, uN_n]; omega)) (fun c232 => ?_) (fun c232 => absurd c232 (by omega))
      refine v_iload (dec_of DX9_fit 132 rfl) rfl ?_
      refine v_aload_n (dec_of DX9_fit 133 rfl) rfl ?_
      refine v_get fX9_246 (dec_of DX9_fit 134 rfl) rfl rfl ?_
      try simp (disch := decide) only [uN_s, uN_n]
      refine vi_icmp_le (tgt := 268) (dec_of DX9_fit 135 rfl) (by decide) (by first | omega | exact bnd_r _ _ | exact hG _ _ | exact hK _ | (simp (disch := decide) only [uN_s, uN_n]; omega)) (by first | omega | exact bnd_r _ _ | exact hG _ _ | exact hK _ | (simp (disch := decide) only [uN_s, uN_n]; omega)) (fun c253 => absurd c253 (by omega)) (fun c253 => ?_)
      refine v_aload_n (dec_of DX9_fit 136 rfl) rfl ?_
      refine v_iload_n (dec_of DX9_fit 137 rfl) rfl ?_
      refine vi_bi (dec_of DX9_fit 138 rfl) (by decide) ?_
      refine v_V2r (q_close hG2 hK2 hM2 hh (by omega)) lX9_256 (dec_of DX9_fit 139 rfl) rfl rfl (by decide) (nle rfl) rfl ?_
      try simp (disch := decide) only [uN_s, uN_n]
      change Vd _ _ _ _ _ _ _ _ _ (J (clM K G h (7)) :: _) _
      refine v_istore (dec_of DX9_fit 140 rfl) (by decide) ?_
      dsimp only [List.set]
      refine v_goto (tgt := 375) (dec_of DX9_fit 141 rfl) (by decide) ?_
      exact fin _ (by rw [byM, if_neg (by omega), if_pos (by omega)]) (hG 47 _)
    by_cases k3 : a = K 48
    · skip
      refine v_iload (dec_of DX9_fit 117 rfl) rfl ?_
      refine v_iload_n (dec_of DX9_fit 118 rfl) rfl ?_
      refine vi_icmp_ge (tgt := 415) (dec_of DX9_fit 119 rfl) (by decide) (by first | omega | exact bnd_r _ _ | exact hG _ _ | exact hK _ | (simp (disch := decide) only [uN_s, uN_n]; omega)) (by first | omega | exact bnd_r _ _ | exact hG _ _ | exact hK _ | (simp (disch := decide) only [uN_s, uN_n]; omega)) (fun c220 => absurd c220 (by omega)) (fun c220 => ?_)
      refine vi_const (dec_of DX9_fit 120 rfl) ?_
      refine v_istore (dec_of DX9_fit 121 rfl) (by decide) ?_
      dsimp only [List.set]
      refine v_iload (dec_of DX9_fit 122 rfl) rfl ?_
      refine v_aload_n (dec_of DX9_fit 123 rfl) rfl ?_
      refine v_get fX9_246 (dec_of DX9_fit 124 rfl) rfl rfl ?_
      try simp (disch := decide) only [uN_s, uN_n]
      refine vi_icmp_ne (tgt := 247) (dec_of DX9_fit 125 rfl) (by decide) (by first | omega | exact bnd_r _ _ | exact hG _ _ | exact hK _ | (simp (disch := decide) only [uN_s, uN_n]; omega)) (by first | omega | exact bnd_r _ _ | exact hG _ _ | exact hK _ | (simp (disch := decide) only [uN_s, uN_n]; omega)) (fun c232 => ?_) (fun c232 => absurd c232 (by omega))
      refine v_iload (dec_of DX9_fit 132 rfl) rfl ?_
      refine v_aload_n (dec_of DX9_fit 133 rfl) rfl ?_
      refine v_get fX9_246 (dec_of DX9_fit 134 rfl) rfl rfl ?_
      try simp (disch := decide) only [uN_s, uN_n]
      refine vi_icmp_le (tgt := 268) (dec_of DX9_fit 135 rfl) (by decide) (by first | omega | exact bnd_r _ _ | exact hG _ _ | exact hK _ | (simp (disch := decide) only [uN_s, uN_n]; omega)) (by first | omega | exact bnd_r _ _ | exact hG _ _ | exact hK _ | (simp (disch := decide) only [uN_s, uN_n]; omega)) (fun c253 => ?_) (fun c253 => absurd c253 (by omega))
      refine v_iload (dec_of DX9_fit 142 rfl) rfl ?_
      refine v_aload_n (dec_of DX9_fit 143 rfl) rfl ?_
      refine v_get fX9_243 (dec_of DX9_fit 144 rfl) rfl rfl ?_
      try simp (disch := decide) only [uN_s, uN_n]
      refine vi_icmp_ne (tgt := 288) (dec_of DX9_fit 145 rfl) (by decide) (by first | omega | exact bnd_r _ _ | exact hG _ _ | exact hK _ | (simp (disch := decide) only [uN_s, uN_n]; omega)) (by first | omega | exact bnd_r _ _ | exact hG _ _ | exact hK _ | (simp (disch := decide) only [uN_s, uN_n]; omega)) (fun c274 => absurd c274 (by omega)) (fun c274 => ?_)
      refine v_aload_n (dec_of DX9_fit 146 rfl) rfl ?_
      refine v_iload_n (dec_of DX9_fit 147 rfl) rfl ?_
      refine vi_const (dec_of DX9_fit 148 rfl) ?_
      refine v_V2r (q_close hG2 hK2 hM2 hh (by omega)) lX9_256 (dec_of DX9_fit 149 rfl) rfl rfl (by decide) (nle rfl) rfl ?_
      try simp (disch := decide) only [uN_s, uN_n]
      change Vd _ _ _ _ _ _ _ _ _ (J (clM K G h (4)) :: _) _
      refine v_istore (dec_of DX9_fit 150 rfl) (by decide) ?_
      dsimp only [List.set]
      refine v_goto (tgt := 375) (dec_of DX9_fit 151 rfl) (by decide) ?_
      exact fin _ (by rw [byM, if_neg (by omega), if_neg (by omega), if_pos (by omega)]) (hG 47 _)
    by_cases k4 : fm < a
    · skip
      refine v_iload (dec_of DX9_fit 117 rfl) rfl ?_
      refine v_iload_n (dec_of DX9_fit 118 rfl) rfl ?_
      refine vi_icmp_ge (tgt := 415) (dec_of DX9_fit 119 rfl) (by decide) (by first | omega | exact bnd_r _ _ | exact hG _ _ | exact hK _ | (simp (disch := decide) only [uN_s, uN_n]; omega)) (by first | omega | exact bnd_r _ _ | exact hG _ _ | exact hK _ | (simp (disch := decide) only [uN_s, uN_n]; omega)) (fun c220 => absurd c220 (by omega)) (fun c220 => ?_)
      refine vi_const (dec_of DX9_fit 120 rfl) ?_
      refine v_istore (dec_of DX9_fit 121 rfl) (by decide) ?_
      dsimp only [List.set]
      refine v_iload (dec_of DX9_fit 122 rfl) rfl ?_
      refine v_aload_n (dec_of DX9_fit 123 rfl) rfl ?_
      refine v_get fX9_246 (dec_of DX9_fit 124 rfl) rfl rfl ?_
      try simp (disch := decide) only [uN_s, uN_n]
      refine vi_icmp_ne (tgt := 247) (dec_of DX9_fit 125 rfl) (by decide) (by first | omega | exact bnd_r _ _ | exact hG _ _ | exact hK _ | (simp (disch := decide) only [uN_s, uN_n]; omega)) (by first | omega | exact bnd_r _ _ | exact hG _ _ | exact hK _ | (simp (disch := decide) only [uN_s, uN_n]; omega)) (fun c232 => ?_) (fun c232 => absurd c232 (by omega))
      refine v_iload (dec_of DX9_fit 132 rfl) rfl ?_
      refine v_aload_n (dec_of DX9_fit 133 rfl) rfl ?_
      refine v_get fX9_246 (dec_of DX9_fit 134 rfl) rfl rfl ?_
      try simp (disch := decide) only [uN_s, uN_n]
      refine vi_icmp_le (tgt := 268) (dec_of DX9_fit 135 rfl) (by decide) (by first | omega | exact bnd_r _ _ | exact hG _ _ | exact hK _ | (simp (disch := decide) only [uN_s, uN_n]; omega)) (by first | omega | exact bnd_r _ _ | exact hG _ _ | exact hK _ | (simp (disch := decide) only [uN_s, uN_n]; omega)) (fun c253 => ?_) (fun c253 => absurd c253 (by omega))
      refine v_iload (dec_of DX9_fit 142 rfl) rfl ?_
      refine v_aload_n (dec_of DX9_fit 143 rfl) rfl ?_
      refine v_get fX9_243 (dec_of DX9_fit 144 rfl) rfl rfl ?_
      try simp (disch := decide) only [uN_s, uN_n]
      refine vi_icmp_ne (tgt := 288) (dec_of DX9_fit 145 rfl) (by decide) (by first | omega | exact bnd_r _ _ | exact hG _ _ | exact hK _ | (simp (disch := decide) only [uN_s, uN_n]; omega)) (by first | omega | exact bnd_r _ _ | exact hG _ _ | exact hK _ | (simp (disch := decide) only [uN_s, uN_n]; omega)) (fun c274 => ?_) (fun c274 => absurd c274 (by omega))
      refine v_iload (dec_of DX9_fit 152 rfl) rfl ?_
      refine v_iload (dec_of DX9_fit 153 rfl) rfl ?_
      refine vi_icmp_le (tgt := 306) (dec_of DX9_fit 154 rfl) (by decide) (by first | omega | exact bnd_r _ _ | exact hG _ _ | exact hK _ | (simp (disch := decide) only [uN_s, uN_n]; omega)) (by first | omega | exact bnd_r _ _ | exact hG _ _ | exact hK _ | (simp (disch := decide) only [uN_s, uN_n]; omega)) (fun c292 => absurd c292 (by omega)) (fun c292 => ?_)
      refine v_aload_n (dec_of DX9_fit 155 rfl) rfl ?_
      refine v_iload_n (dec_of DX9_fit 156 rfl) rfl ?_
      refine vi_const (dec_of DX9_fit 157 rfl) ?_
      refine v_V2r (q_close hG2 hK2 hM2 hh (by omega)) lX9_256 (dec_of DX9_fit 158 rfl) rfl rfl (by decide) (nle rfl) rfl ?_
      try simp (disch := decide) only [uN_s, uN_n]
      change Vd _ _ _ _ _ _ _ _ _ (J (clM K G h (5)) :: _) _
      refine v_istore (dec_of DX9_fit 159 rfl) (by decide) ?_
      dsimp only [List.set]
      refine v_goto (tgt := 375) (dec_of DX9_fit 160 rfl) (by decide) ?_
      exact fin _ (by rw [byM, if_neg (by omega), if_neg (by omega), if_neg (by omega), if_pos (by omega)]) (hG 47 _)
    by_cases k5 : K 50 = 0
    · by_cases k6 : fm - pr ≤ a
      · skip
        refine v_iload (dec_of DX9_fit 117 rfl) rfl ?_
        refine v_iload_n (dec_of DX9_fit 118 rfl) rfl ?_
        refine vi_icmp_ge (tgt := 415) (dec_of DX9_fit 119 rfl) (by decide) (by first | omega | exact bnd_r _ _ | exact hG _ _ | exact hK _ | (simp (disch := decide) only [uN_s, uN_n]; omega)) (by first | omega | exact bnd_r _ _ | exact hG _ _ | exact hK _ | (simp (disch := decide) only [uN_s, uN_n]; omega)) (fun c220 => absurd c220 (by omega)) (fun c220 => ?_)
        refine vi_const (dec_of DX9_fit 120 rfl) ?_
        refine v_istore (dec_of DX9_fit 121 rfl) (by decide) ?_
        dsimp only [List.set]
        refine v_iload (dec_of DX9_fit 122 rfl) rfl ?_
        refine v_aload_n (dec_of DX9_fit 123 rfl) rfl ?_
        refine v_get fX9_246 (dec_of DX9_fit 124 rfl) rfl rfl ?_
        try simp (disch := decide) only [uN_s, uN_n]
        refine vi_icmp_ne (tgt := 247) (dec_of DX9_fit 125 rfl) (by decide) (by first | omega | exact bnd_r _ _ | exact hG _ _ | exact hK _ | (simp (disch := decide) only [uN_s, uN_n]; omega)) (by first | omega | exact bnd_r _ _ | exact hG _ _ | exact hK _ | (simp (disch := decide) only [uN_s, uN_n]; omega)) (fun c232 => ?_) (fun c232 => absurd c232 (by omega))
        refine v_iload (dec_of DX9_fit 132 rfl) rfl ?_
        refine v_aload_n (dec_of DX9_fit 133 rfl) rfl ?_
        refine v_get fX9_246 (dec_of DX9_fit 134 rfl) rfl rfl ?_
        try simp (disch := decide) only [uN_s, uN_n]
        refine vi_icmp_le (tgt := 268) (dec_of DX9_fit 135 rfl) (by decide) (by first | omega | exact bnd_r _ _ | exact hG _ _ | exact hK _ | (simp (disch := decide) only [uN_s, uN_n]; omega)) (by first | omega | exact bnd_r _ _ | exact hG _ _ | exact hK _ | (simp (disch := decide) only [uN_s, uN_n]; omega)) (fun c253 => ?_) (fun c253 => absurd c253 (by omega))
        refine v_iload (dec_of DX9_fit 142 rfl) rfl ?_
        refine v_aload_n (dec_of DX9_fit 143 rfl) rfl ?_
        refine v_get fX9_243 (dec_of DX9_fit 144 rfl) rfl rfl ?_
        try simp (disch := decide) only [uN_s, uN_n]
        refine vi_icmp_ne (tgt := 288) (dec_of DX9_fit 145 rfl) (by decide) (by first | omega | exact bnd_r _ _ | exact hG _ _ | exact hK _ | (simp (disch := decide) only [uN_s, uN_n]; omega)) (by first | omega | exact bnd_r _ _ | exact hG _ _ | exact hK _ | (simp (disch := decide) only [uN_s, uN_n]; omega)) (fun c274 => ?_) (fun c274 => absurd c274 (by omega))
        refine v_iload (dec_of DX9_fit 152 rfl) rfl ?_
        refine v_iload (dec_of DX9_fit 153 rfl) rfl ?_
        refine vi_icmp_le (tgt := 306) (dec_of DX9_fit 154 rfl) (by decide) (by first | omega | exact bnd_r _ _ | exact hG _ _ | exact hK _ | (simp (disch := decide) only [uN_s, uN_n]; omega)) (by first | omega | exact bnd_r _ _ | exact hG _ _ | exact hK _ | (simp (disch := decide) only [uN_s, uN_n]; omega)) (fun c292 => ?_) (fun c292 => absurd c292 (by omega))
        refine v_aload_n (dec_of DX9_fit 161 rfl) rfl ?_
        refine v_get fX9_249 (dec_of DX9_fit 162 rfl) rfl rfl ?_
        try simp (disch := decide) only [uN_s, uN_n]
        refine vi_if_ne (tgt := 343) (dec_of DX9_fit 163 rfl) (by decide) (by first | omega | exact bnd_r _ _ | exact hG _ _ | exact hK _ | (simp (disch := decide) only [uN_s, uN_n]; omega)) (fun c310 => absurd c310 (by omega)) (fun c310 => ?_)
        refine v_iload (dec_of DX9_fit 164 rfl) rfl ?_
        refine v_iload (dec_of DX9_fit 165 rfl) rfl ?_
        refine v_iload (dec_of DX9_fit 166 rfl) rfl ?_
        refine vi_sub (dec_of DX9_fit 167 rfl) ?_
        refine vi_icmp_lt (tgt := 343) (dec_of DX9_fit 168 rfl) (by decide) (by first | omega | exact bnd_r _ _ | exact hG _ _ | exact hK _ | (simp (disch := decide) only [uN_s, uN_n]; omega)) (by first | omega | exact bnd_r _ _ | exact hG _ _ | exact hK _ | (simp (disch := decide) only [uN_s, uN_n]; omega)) (fun c320 => absurd c320 (by omega)) (fun c320 => ?_)
        refine v_aload_n (dec_of DX9_fit 169 rfl) rfl ?_
        refine v_iload_n (dec_of DX9_fit 170 rfl) rfl ?_
        refine vi_const (dec_of DX9_fit 171 rfl) ?_
        refine v_iload (dec_of DX9_fit 172 rfl) rfl ?_
        refine vi_add (dec_of DX9_fit 173 rfl) ?_
        refine v_iload (dec_of DX9_fit 174 rfl) rfl ?_
        refine v_iload (dec_of DX9_fit 175 rfl) rfl ?_
        refine vi_sub (dec_of DX9_fit 176 rfl) ?_
        refine vi_sub (dec_of DX9_fit 177 rfl) ?_
        refine v_V2r (q_close hG2 hK2 hM2 hh (by omega)) lX9_256 (dec_of DX9_fit 178 rfl) rfl rfl (by decide) (nle rfl) rfl ?_
        try simp (disch := decide) only [uN_s, uN_n]
        change Vd _ _ _ _ _ _ _ _ _ (J (clM K G h (1 + a - (fm - pr))) :: _) _
        refine v_istore (dec_of DX9_fit 179 rfl) (by decide) ?_
        dsimp only [List.set]
        refine v_goto (tgt := 375) (dec_of DX9_fit 180 rfl) (by decide) ?_
        exact fin _ (by rw [byM, if_neg (by omega), if_neg (by omega), if_neg (by omega), if_neg (by omega), if_pos (by omega)]) (hG 47 _)
      by_cases k7 : a < op
      · skip
        refine v_iload (dec_of DX9_fit 117 rfl) rfl ?_
        refine v_iload_n (dec_of DX9_fit 118 rfl) rfl ?_
        refine vi_icmp_ge (tgt := 415) (dec_of DX9_fit 119 rfl) (by decide) (by first | omega | exact bnd_r _ _ | exact hG _ _ | exact hK _ | (simp (disch := decide) only [uN_s, uN_n]; omega)) (by first | omega | exact bnd_r _ _ | exact hG _ _ | exact hK _ | (simp (disch := decide) only [uN_s, uN_n]; omega)) (fun c220 => absurd c220 (by omega)) (fun c220 => ?_)
        refine vi_const (dec_of DX9_fit 120 rfl) ?_
        refine v_istore (dec_of DX9_fit 121 rfl) (by decide) ?_
        dsimp only [List.set]
        refine v_iload (dec_of DX9_fit 122 rfl) rfl ?_
        refine v_aload_n (dec_of DX9_fit 123 rfl) rfl ?_
        refine v_get fX9_246 (dec_of DX9_fit 124 rfl) rfl rfl ?_
        try simp (disch := decide) only [uN_s, uN_n]
        refine vi_icmp_ne (tgt := 247) (dec_of DX9_fit 125 rfl) (by decide) (by first | omega | exact bnd_r _ _ | exact hG _ _ | exact hK _ | (simp (disch := decide) only [uN_s, uN_n]; omega)) (by first | omega | exact bnd_r _ _ | exact hG _ _ | exact hK _ | (simp (disch := decide) only [uN_s, uN_n]; omega)) (fun c232 => ?_) (fun c232 => absurd c232 (by omega))
        refine v_iload (dec_of DX9_fit 132 rfl) rfl ?_
        refine v_aload_n (dec_of DX9_fit 133 rfl) rfl ?_
        refine v_get fX9_246 (dec_of DX9_fit 134 rfl) rfl rfl ?_
        try simp (disch := decide) only [uN_s, uN_n]
        refine vi_icmp_le (tgt := 268) (dec_of DX9_fit 135 rfl) (by decide) (by first | omega | exact bnd_r _ _ | exact hG _ _ | exact hK _ | (simp (disch := decide) only [uN_s, uN_n]; omega)) (by first | omega | exact bnd_r _ _ | exact hG _ _ | exact hK _ | (simp (disch := decide) only [uN_s, uN_n]; omega)) (fun c253 => ?_) (fun c253 => absurd c253 (by omega))
        refine v_iload (dec_of DX9_fit 142 rfl) rfl ?_
        refine v_aload_n (dec_of DX9_fit 143 rfl) rfl ?_
        refine v_get fX9_243 (dec_of DX9_fit 144 rfl) rfl rfl ?_
        try simp (disch := decide) only [uN_s, uN_n]
        refine vi_icmp_ne (tgt := 288) (dec_of DX9_fit 145 rfl) (by decide) (by first | omega | exact bnd_r _ _ | exact hG _ _ | exact hK _ | (simp (disch := decide) only [uN_s, uN_n]; omega)) (by first | omega | exact bnd_r _ _ | exact hG _ _ | exact hK _ | (simp (disch := decide) only [uN_s, uN_n]; omega)) (fun c274 => ?_) (fun c274 => absurd c274 (by omega))
        refine v_iload (dec_of DX9_fit 152 rfl) rfl ?_
        refine v_iload (dec_of DX9_fit 153 rfl) rfl ?_
        refine vi_icmp_le (tgt := 306) (dec_of DX9_fit 154 rfl) (by decide) (by first | omega | exact bnd_r _ _ | exact hG _ _ | exact hK _ | (simp (disch := decide) only [uN_s, uN_n]; omega)) (by first | omega | exact bnd_r _ _ | exact hG _ _ | exact hK _ | (simp (disch := decide) only [uN_s, uN_n]; omega)) (fun c292 => ?_) (fun c292 => absurd c292 (by omega))
        refine v_aload_n (dec_of DX9_fit 161 rfl) rfl ?_
        refine v_get fX9_249 (dec_of DX9_fit 162 rfl) rfl rfl ?_
        try simp (disch := decide) only [uN_s, uN_n]
        refine vi_if_ne (tgt := 343) (dec_of DX9_fit 163 rfl) (by decide) (by first | omega | exact bnd_r _ _ | exact hG _ _ | exact hK _ | (simp (disch := decide) only [uN_s, uN_n]; omega)) (fun c310 => absurd c310 (by omega)) (fun c310 => ?_)
        refine v_iload (dec_of DX9_fit 164 rfl) rfl ?_
        refine v_iload (dec_of DX9_fit 165 rfl) rfl ?_
        refine v_iload (dec_of DX9_fit 166 rfl) rfl ?_
        refine vi_sub (dec_of DX9_fit 167 rfl) ?_
        refine vi_icmp_lt (tgt := 343) (dec_of DX9_fit 168 rfl) (by decide) (by first | omega | exact bnd_r _ _ | exact hG _ _ | exact hK _ | (simp (disch := decide) only [uN_s, uN_n]; omega)) (by first | omega | exact bnd_r _ _ | exact hG _ _ | exact hK _ | (simp (disch := decide) only [uN_s, uN_n]; omega)) (fun c320 => ?_) (fun c320 => absurd c320 (by omega))
        refine v_aload_n (dec_of DX9_fit 181 rfl) rfl ?_
        refine v_get fX9_249 (dec_of DX9_fit 182 rfl) rfl rfl ?_
        try simp (disch := decide) only [uN_s, uN_n]
        refine vi_if_ne (tgt := 375) (dec_of DX9_fit 183 rfl) (by decide) (by first | omega | exact bnd_r _ _ | exact hG _ _ | exact hK _ | (simp (disch := decide) only [uN_s, uN_n]; omega)) (fun c347 => absurd c347 (by omega)) (fun c347 => ?_)
        refine v_iload (dec_of DX9_fit 184 rfl) rfl ?_
        refine v_iload (dec_of DX9_fit 185 rfl) rfl ?_
        refine vi_icmp_ge (tgt := 375) (dec_of DX9_fit 186 rfl) (by decide) (by first | omega | exact bnd_r _ _ | exact hG _ _ | exact hK _ | (simp (disch := decide) only [uN_s, uN_n]; omega)) (by first | omega | exact bnd_r _ _ | exact hG _ _ | exact hK _ | (simp (disch := decide) only [uN_s, uN_n]; omega)) (fun c354 => absurd c354 (by omega)) (fun c354 => ?_)
        refine v_aload_n (dec_of DX9_fit 187 rfl) rfl ?_
        refine v_get fX9_101 (dec_of DX9_fit 188 rfl) rfl rfl ?_
        try simp (disch := decide) only [uN_s, uN_n]
        refine vi_const (dec_of DX9_fit 189 rfl) ?_
        refine v_aload_n (dec_of DX9_fit 190 rfl) rfl ?_
        refine v_get fX9_116 (dec_of DX9_fit 191 rfl) rfl rfl ?_
        try simp (disch := decide) only [uN_s, uN_n]
        refine vi_const (dec_of DX9_fit 192 rfl) ?_
        refine vi_sub (dec_of DX9_fit 193 rfl) ?_
        refine vi_mul (dec_of DX9_fit 194 rfl) ?_
        refine v_iload (dec_of DX9_fit 195 rfl) rfl ?_
        refine vi_add (dec_of DX9_fit 196 rfl) ?_
        refine vi_aload (dec_of DX9_fit 197 rfl) rfl (by first | omega | exact bnd_r _ _ | exact hG _ _ | exact hK _ | (simp (disch := decide) only [uN_s, uN_n]; omega)) (by decide) ?_
        try simp (disch := decide) only [uN_s, uN_n]
        refine v_istore (dec_of DX9_fit 198 rfl) (by decide) ?_
        dsimp only [List.set]
        exact fin _ (by rw [byM, if_neg (by omega), if_neg (by omega), if_neg (by omega), if_neg (by omega), if_neg (by omega), if_pos (by omega)]) (hG 46 _)
      · skip
        refine v_iload (dec_of DX9_fit 117 rfl) rfl ?_
        refine v_iload_n (dec_of DX9_fit 118 rfl) rfl ?_
        refine vi_icmp_ge (tgt := 415) (dec_of DX9_fit 119 rfl) (by decide) (by first | omega | exact bnd_r _ _ | exact hG _ _ | exact hK _ | (simp (disch := decide) only [uN_s, uN_n]; omega)) (by first | omega | exact bnd_r _ _ | exact hG _ _ | exact hK _ | (simp (disch := decide) only [uN_s, uN_n]; omega)) (fun c220 => absurd c220 (by omega)) (fun c220 => ?_)
        refine vi_const (dec_of DX9_fit 120 rfl) ?_
        refine v_istore (dec_of DX9_fit 121 rfl) (by decide) ?_
        dsimp only [List.set]
        refine v_iload (dec_of DX9_fit 122 rfl) rfl ?_
        refine v_aload_n (dec_of DX9_fit 123 rfl) rfl ?_
        refine v_get fX9_246 (dec_of DX9_fit 124 rfl) rfl rfl ?_
        try simp (disch := decide) only [uN_s, uN_n]
        refine vi_icmp_ne (tgt := 247) (dec_of DX9_fit 125 rfl) (by decide) (by first | omega | exact bnd_r _ _ | exact hG _ _ | exact hK _ | (simp (disch := decide) only [uN_s, uN_n]; omega)) (by first | omega | exact bnd_r _ _ | exact hG _ _ | exact hK _ | (simp (disch := decide) only [uN_s, uN_n]; omega)) (fun c232 => ?_) (fun c232 => absurd c232 (by omega))
        refine v_iload (dec_of DX9_fit 132 rfl) rfl ?_
        refine v_aload_n (dec_of DX9_fit 133 rfl) rfl ?_
        refine v_get fX9_246 (dec_of DX9_fit 134 rfl) rfl rfl ?_
        try simp (disch := decide) only [uN_s, uN_n]
        refine vi_icmp_le (tgt := 268) (dec_of DX9_fit 135 rfl) (by decide) (by first | omega | exact bnd_r _ _ | exact hG _ _ | exact hK _ | (simp (disch := decide) only [uN_s, uN_n]; omega)) (by first | omega | exact bnd_r _ _ | exact hG _ _ | exact hK _ | (simp (disch := decide) only [uN_s, uN_n]; omega)) (fun c253 => ?_) (fun c253 => absurd c253 (by omega))
        refine v_iload (dec_of DX9_fit 142 rfl) rfl ?_
        refine v_aload_n (dec_of DX9_fit 143 rfl) rfl ?_
        refine v_get fX9_243 (dec_of DX9_fit 144 rfl) rfl rfl ?_
        try simp (disch := decide) only [uN_s, uN_n]
        refine vi_icmp_ne (tgt := 288) (dec_of DX9_fit 145 rfl) (by decide) (by first | omega | exact bnd_r _ _ | exact hG _ _ | exact hK _ | (simp (disch := decide) only [uN_s, uN_n]; omega)) (by first | omega | exact bnd_r _ _ | exact hG _ _ | exact hK _ | (simp (disch := decide) only [uN_s, uN_n]; omega)) (fun c274 => ?_) (fun c274 => absurd c274 (by omega))
        refine v_iload (dec_of DX9_fit 152 rfl) rfl ?_
        refine v_iload (dec_of DX9_fit 153 rfl) rfl ?_
        refine vi_icmp_le (tgt := 306) (dec_of DX9_fit 154 rfl) (by decide) (by first | omega | exact bnd_r _ _ | exact hG _ _ | exact hK _ | (simp (disch := decide) only [uN_s, uN_n]; omega)) (by first | omega | exact bnd_r _ _ | exact hG _ _ | exact hK _ | (simp (disch := decide) only [uN_s, uN_n]; omega)) (fun c292 => ?_) (fun c292 => absurd c292 (by omega))
        refine v_aload_n (dec_of DX9_fit 161 rfl) rfl ?_
        refine v_get fX9_249 (dec_of DX9_fit 162 rfl) rfl rfl ?_
        try simp (disch := decide) only [uN_s, uN_n]
        refine vi_if_ne (tgt := 343) (dec_of DX9_fit 163 rfl) (by decide) (by first | omega | exact bnd_r _ _ | exact hG _ _ | exact hK _ | (simp (disch := decide) only [uN_s, uN_n]; omega)) (fun c310 => absurd c310 (by omega)) (fun c310 => ?_)
        refine v_iload (dec_of DX9_fit 164 rfl) rfl ?_
        refine v_iload (dec_of DX9_fit 165 rfl) rfl ?_
        refine v_iload (dec_of DX9_fit 166 rfl) rfl ?_
        refine vi_sub (dec_of DX9_fit 167 rfl) ?_
        refine vi_icmp_lt (tgt := 343) (dec_of DX9_fit 168 rfl) (by decide) (by first | omega | exact bnd_r _ _ | exact hG _ _ | exact hK _ | (simp (disch := decide) only [uN_s, uN_n]; omega)) (by first | omega | exact bnd_r _ _ | exact hG _ _ | exact hK _ | (simp (disch := decide) only [uN_s, uN_n]; omega)) (fun c320 => ?_) (fun c320 => absurd c320 (by omega))
        refine v_aload_n (dec_of DX9_fit 181 rfl) rfl ?_
        refine v_get fX9_249 (dec_of DX9_fit 182 rfl) rfl rfl ?_
        try simp (disch := decide) only [uN_s, uN_n]
        refine vi_if_ne (tgt := 375) (dec_of DX9_fit 183 rfl) (by decide) (by first | omega | exact bnd_r _ _ | exact hG _ _ | exact hK _ | (simp (disch := decide) only [uN_s, uN_n]; omega)) (fun c347 => absurd c347 (by omega)) (fun c347 => ?_)
        refine v_iload (dec_of DX9_fit 184 rfl) rfl ?_
        refine v_iload (dec_of DX9_fit 185 rfl) rfl ?_
        refine vi_icmp_ge (tgt := 375) (dec_of DX9_fit 186 rfl) (by decide) (by first | omega | exact bnd_r _ _ | exact hG _ _ | exact hK _ | (simp (disch := decide) only [uN_s, uN_n]; omega)) (by first | omega | exact bnd_r _ _ | exact hG _ _ | exact hK _ | (simp (disch := decide) only [uN_s, uN_n]; omega)) (fun c354 => ?_) (fun c354 => absurd c354 (by omega))
        exact fin _ (by rw [byM, if_neg (by omega), if_neg (by omega), if_neg (by omega), if_neg (by omega), if_neg (by omega), if_neg (by omega)]) (by omega)
    · skip
      refine v_iload (dec_of DX9_fit 117 rfl) rfl ?_
      refine v_iload_n (dec_of DX9_fit 118 rfl) rfl ?_
      refine vi_icmp_ge (tgt := 415) (dec_of DX9_fit 119 rfl) (by decide) (by first | omega | exact bnd_r _ _ | exact hG _ _ | exact hK _ | (simp (disch := decide) only [uN_s, uN_n]; omega)) (by first | omega | exact bnd_r _ _ | exact hG _ _ | exact hK _ | (simp (disch := decide) only [uN_s, uN_n]; omega)) (fun c220 => absurd c220 (by omega)) (fun c220 => ?_)
      refine vi_const (dec_of DX9_fit 120 rfl) ?_
      refine v_istore (dec_of DX9_fit 121 rfl) (by decide) ?_
      dsimp only [List.set]
      refine v_iload (dec_of DX9_fit 122 rfl) rfl ?_
      refine v_aload_n (dec_of DX9_fit 123 rfl) rfl ?_
      refine v_get fX9_246 (dec_of DX9_fit 124 rfl) rfl rfl ?_
      try simp (disch := decide) only [uN_s, uN_n]
      refine vi_icmp_ne (tgt := 247) (dec_of DX9_fit 125 rfl) (by decide) (by first | omega | exact bnd_r _ _ | exact hG _ _ | exact hK _ | (simp (disch := decide) only [uN_s, uN_n]; omega)) (by first | omega | exact bnd_r _ _ | exact hG _ _ | exact hK _ | (simp (disch := decide) only [uN_s, uN_n]; omega)) (fun c232 => ?_) (fun c232 => absurd c232 (by omega))
      refine v_iload (dec_of DX9_fit 132 rfl) rfl ?_
      refine v_aload_n (dec_of DX9_fit 133 rfl) rfl ?_
      refine v_get fX9_246 (dec_of DX9_fit 134 rfl) rfl rfl ?_
      try simp (disch := decide) only [uN_s, uN_n]
      refine vi_icmp_le (tgt := 268) (dec_of DX9_fit 135 rfl) (by decide) (by first | omega | exact bnd_r _ _ | exact hG _ _ | exact hK _ | (simp (disch := decide) only [uN_s, uN_n]; omega)) (by first | omega | exact bnd_r _ _ | exact hG _ _ | exact hK _ | (simp (disch := decide) only [uN_s, uN_n]; omega)) (fun c253 => ?_) (fun c253 => absurd c253 (by omega))
      refine v_iload (dec_of DX9_fit 142 rfl) rfl ?_
      refine v_aload_n (dec_of DX9_fit 143 rfl) rfl ?_
      refine v_get fX9_243 (dec_of DX9_fit 144 rfl) rfl rfl ?_
      try simp (disch := decide) only [uN_s, uN_n]
      refine vi_icmp_ne (tgt := 288) (dec_of DX9_fit 145 rfl) (by decide) (by first | omega | exact bnd_r _ _ | exact hG _ _ | exact hK _ | (simp (disch := decide) only [uN_s, uN_n]; omega)) (by first | omega | exact bnd_r _ _ | exact hG _ _ | exact hK _ | (simp (disch := decide) only [uN_s, uN_n]; omega)) (fun c274 => ?_) (fun c274 => absurd c274 (by omega))
      refine v_iload (dec_of DX9_fit 152 rfl) rfl ?_
      refine v_iload (dec_of DX9_fit 153 rfl) rfl ?_
      refine vi_icmp_le (tgt := 306) (dec_of DX9_fit 154 rfl) (by decide) (by first | omega | exact bnd_r _ _ | exact hG _ _ | exact hK _ | (simp (disch := decide) only [uN_s, uN_n]; omega)) (by first | omega | exact bnd_r _ _ | exact hG _ _ | exact hK _ | (simp (disch := decide) only [uN_s, uN_n]; omega)) (fun c292 => ?_) (fun c292 => absurd c292 (by omega))
      refine v_aload_n (dec_of DX9_fit 161 rfl) rfl ?_
      refine v_get fX9_249 (dec_of DX9_fit 162 rfl) rfl rfl ?_
      try simp (disch := decide) only [uN_s, uN_n]
      refine vi_if_ne (tgt := 343) (dec_of DX9_fit 163 rfl) (by decide) (by first | omega | exact bnd_r _ _ | exact hG _ _ | exact hK _ | (simp (disch := decide) only [uN_s, uN_n]; omega)) (fun c310 => ?_) (fun c310 => absurd c310 (by omega))
      refine v_aload_n (dec_of DX9_fit 181 rfl) rfl ?_
      refine v_get fX9_249 (dec_of DX9_fit 182 rfl) rfl rfl ?_
      try simp (disch := decide) only [uN_s, uN_n]
      refine vi_if_ne (tgt := 375) (dec_of DX9_fit 183 rfl) (by decide) (by first | omega | exact bnd_r _ _ | exact hG _ _ | exact hK _ | (simp (disch := decide) only [uN_s, uN_n]; omega)) (fun c347 => ?_) (fun c347 => absurd c347 (by omega))
      exact fin _ (by rw [byM, if_neg (by omega), if_neg (by omega), if_neg (by omega), if_neg (by omega), if_neg (by omega), if_neg (by omega)]) (by omega)
def shM (h pr one : Int) : Int := if one < 0 ∨ one < opn h + pr + 1 then 1 else 0
def fiM (h pr tw one : Int) : Int := if ¬ tw = 0 ∧ shM h pr one = 0 then one else -100
def fmM (h pr one l : Int) : Int := if shM h pr one = 0 then one else l
def fkM (K : Nat → Int) (h pr tw one : Int) : Nat → Int := uN (uN K 50 (shM h pr one)) 48 (fiM h pr tw one)
theorem MR2 {K : Nat → Int} (h : MR K) {a b : Int} : MR (uN (uN K 50 a) 48 b) := by
  unfold MR at *
  simp (disch := decide) only [uN_s, uN_n]
  exact h
set_option maxRecDepth 100000 in
set_option maxHeartbeats 4000000 in
theorem q_ft_129 {I N : Nat → Int} {F : Nat → Int → Int} {K : Nat → Int} {G : Nat → Int → Int} (hG : FR G) (hK : IR K) (hM : MR K) {n0 : Nat} {Z : XW → Option Value → Prop} {h n tw one : Int} (hh : 0 ≤ h ∧ h ≤ 1) (hn : 0 < n ∧ n ≤ 40) (htw : tw = 0 ∨ tw = 1) (ho : -2 ≤ one ∧ one ≤ 40) (hpr : 0 ≤ clM K G h 0 ∧ clM K G h 0 ≤ 2) (h49 : 0 ≤ K 49 ∧ K 49 < n) (h51 : K 51 = 0) (hz : ∀ (on by1 : Int → Int), (∀ i, -2147483648 ≤ on i ∧ on i < 2147483648) → (∀ i, -2147483648 ≤ by1 i ∧ by1 i < 2147483648) → rwM (fkM K h (clM K G h 0) tw one) G h n (opn h) (clM K G h 0) (fmM h (clM K G h 0) one (K 49)) (ftM K n) on by1 → Z (W2 I N F (uN (fkM K h (clM K G h 0) tw one) 51 (ftM K n)) (uN (uN G 52 on) 53 by1)) none) :  Vd (rm 1 24 0 0) [] mX9_fit n0 Z 0 0 129 [some (.ref 31), some (J h), some (J n), some (J tw), some (J one), none, none, none, none, none] [] (W2 I N F K G) := by
  have hM0 := hM
  unfold MR at hM
  have hor := opn_r h
  have hK2 : IR (fkM K h (clM K G h 0) tw one) := (hK.up (by unfold shM; omega)).up (by unfold fiM; omega)
  have hM2 : MR (fkM K h (clM K G h 0) tw one) := MR2 hM0
  have f217 : ∀ sh fi fm op : Int, sh = shM h (clM K G h 0) one → fi = fiM h (clM K G h 0) tw one → fm = (fmM h (clM K G h 0) one (K 49)) → op = opn h → Vd (rm 1 24 0 0) [] mX9_fit n0 Z 0 0 217 [some (.ref 31), some (J h), some (J n), some (J tw), some (J one), some (J op), some (J (clM K G h 0)), some (J fm), some (J 0), none] [] (W2 I N F (uN (uN K 50 sh) 48 fi) G) := by
    intro sh fi fm op e1 e2 e3 e4
    subst e1 e2 e3 e4
    have e51 : uN (fkM K h (clM K G h 0) tw one) 51 0 = (fkM K h (clM K G h 0) tw one) := by have h9 := uN_self (f := (fkM K h (clM K G h 0) tw one)) (k := 51); rw [show (fkM K h (clM K G h 0) tw one) 51 = 0 from h51] at h9; exact h9
    refine Vd_w (w' := W2 I N F (uN (fkM K h (clM K G h 0) tw one) 51 0) (uN (uN G 52 (G 52)) 53 (G 53))) (by rw [e51, uN_self, show uN G 53 (G 53) = G from uN_self]; rfl) ?_
    refine q_ft_loop hG hK2 hM2 hh hn hor hpr (by unfold fmM; omega) (show 0 ≤ K 49 ∧ K 49 < n from h49) (by unfold fkM fiM; rw [uN_s]; omega) (by show 0 ≤ shM h (clM K G h 0) one ∧ shM h (clM K G h 0) one ≤ 1; unfold shM; omega) ?_ n.toNat 0 (G 52) (G 53) (by omega) (by omega) (hG 52) (hG 53) (fun i a b => absurd b (by omega))
    intro on by1 q1 q2 q3
    have hGn : FR (uN (uN G 52 on) 53 by1) := (hG.up q1).up q2
    have hMn := MR51 hM2 (a := n) (by omega)
    have hKn : IR (uN (fkM K h (clM K G h 0) tw one) 51 n) := hK2.up (by omega)
    by_cases hl : K 49 = n - 1
    · have eM : ftM K n = n + 1 := by unfold ftM; rw [if_pos hl]
      rw [eM] at hz
      refine v_aload_n (dec_of DX9_fit 219 rfl) rfl ?_
      refine v_get fX9_246 (dec_of DX9_fit 220 rfl) rfl rfl ?_
      refine v_iload_n (dec_of DX9_fit 221 rfl) rfl ?_
      refine vi_const (dec_of DX9_fit 222 rfl) ?_
      refine vi_sub (dec_of DX9_fit 223 rfl) ?_
      refine vi_icmp_ne (tgt := 439) (dec_of DX9_fit 224 rfl) (by decide) (by first | omega | (show -2147483648 ≤ K 49 ∧ K 49 < 2147483648; omega)) (by first | omega | (show -2147483648 ≤ K 49 ∧ K 49 < 2147483648; omega)) (fun c422 => absurd c422 (by first | omega | (show ¬ ¬ K 49 = n - 1; omega))) (fun c422 => ?_)
      refine v_aload_n (dec_of DX9_fit 225 rfl) rfl ?_
      refine v_iload_n (dec_of DX9_fit 226 rfl) rfl ?_
      refine vi_const (dec_of DX9_fit 227 rfl) ?_
      refine vi_sub (dec_of DX9_fit 228 rfl) ?_
      refine v_aload_n (dec_of DX9_fit 229 rfl) rfl ?_
      refine v_iload_n (dec_of DX9_fit 230 rfl) rfl ?_
      refine vi_bi (dec_of DX9_fit 231 rfl) (by decide) ?_
      refine v_V2r (q_close hGn hKn hMn hh (by omega)) lX9_256 (dec_of DX9_fit 232 rfl) rfl rfl (by decide) (nle rfl) rfl ?_
      refine v_V2v (q_sing hGn hKn hMn (by rw [uN_s]; omega)) lX9_259 (dec_of DX9_fit 233 rfl) rfl rfl (by decide) (nle rfl) rfl ?_
      refine Vd_w (w' := W2 I N F (uN (fkM K h (clM K G h 0) tw one) 51 (n + 1)) (uN (uN G 52 (uI on n (n - 1))) 53 (uI by1 n (clM (fkM K h (clM K G h 0) tw one) G h 8)))) rfl ?_
      exact vi_vret (dec_of DX9_fit 234 rfl) rfl ⟨by decide, by decide⟩ (hz _ _ (uI_r q1 (by omega)) (uI_r q2 (hG 47 _)) (rwM_add q3 (by unfold onP; omega) (by rw [byN, if_pos (by omega)])))
    · have eM : ftM K n = n := by unfold ftM; rw [if_neg hl]
      rw [eM] at hz
      refine v_aload_n (dec_of DX9_fit 219 rfl) rfl ?_
      refine v_get fX9_246 (dec_of DX9_fit 220 rfl) rfl rfl ?_
      refine v_iload_n (dec_of DX9_fit 221 rfl) rfl ?_
      refine vi_const (dec_of DX9_fit 222 rfl) ?_
      refine vi_sub (dec_of DX9_fit 223 rfl) ?_
      refine vi_icmp_ne (tgt := 439) (dec_of DX9_fit 224 rfl) (by decide) (by first | omega | (show -2147483648 ≤ K 49 ∧ K 49 < 2147483648; omega)) (by first | omega | (show -2147483648 ≤ K 49 ∧ K 49 < 2147483648; omega)) (fun c422 => ?_) (fun c422 => absurd c422 (by first | omega | (show ¬ K 49 = n - 1; omega)))
      exact vi_vret (dec_of DX9_fit 234 rfl) rfl ⟨by decide, by decide⟩ (hz _ _ q1 q2 q3)
  refine v_iload_n (dec_of DX9_fit 72 rfl) rfl ?_
  refine vi_if_ne (tgt := 137) (dec_of DX9_fit 73 rfl) (by decide) (by first | omega | exact bnd_r _ _ | exact hG _ _ | exact hK _ | (simp (disch := decide) only [uN_s, uN_n]; omega)) (fun c130 => ?_) (fun c130 => ?_)
  · refine vi_const (dec_of DX9_fit 76 rfl) ?_
    refine v_istore (dec_of DX9_fit 77 rfl) (by decide) ?_
    dsimp only [List.set]
    refine v_aload_n (dec_of DX9_fit 78 rfl) rfl ?_
    refine v_iload_n (dec_of DX9_fit 79 rfl) rfl ?_
    refine vi_const (dec_of DX9_fit 80 rfl) ?_
    refine v_V2r (q_close hG hK hM0 hh (by omega)) lX9_256 (dec_of DX9_fit 81 rfl) rfl rfl (by decide) (nle rfl) rfl ?_
    try simp (disch := decide) only [uN_s, uN_n]
    refine v_istore (dec_of DX9_fit 82 rfl) (by decide) ?_
    dsimp only [List.set]
    refine v_aload_n (dec_of DX9_fit 83 rfl) rfl ?_
    refine v_iload (dec_of DX9_fit 84 rfl) rfl ?_
    refine vi_if_lt (tgt := 166) (dec_of DX9_fit 85 rfl) (by decide) (by first | omega | exact bnd_r _ _ | exact hG _ _ | exact hK _ | (simp (disch := decide) only [uN_s, uN_n]; omega)) (fun c151 => ?_) (fun c151 => ?_)
    · refine vi_const (dec_of DX9_fit 93 rfl) ?_
      refine v_goto (tgt := 171) (dec_of DX9_fit 94 rfl) (by decide) ?_
      refine mp_50 fX9_249 (dec_of DX9_fit 96 rfl) (by omega) ?_
      refine v_aload_n (dec_of DX9_fit 97 rfl) rfl ?_
      refine v_iload_n (dec_of DX9_fit 98 rfl) rfl ?_
      refine vi_if_eq (tgt := 191) (dec_of DX9_fit 99 rfl) (by decide) (by first | omega | exact bnd_r _ _ | exact hG _ _ | exact hK _ | (simp (disch := decide) only [uN_s, uN_n]; omega)) (fun c176 => ?_) (fun c176 => ?_)
      · refine vi_bi (dec_of DX9_fit 105 rfl) (by decide) ?_
        refine mp_48 fX9_243 (dec_of DX9_fit 106 rfl) ?_
        refine v_aload_n (dec_of DX9_fit 107 rfl) rfl ?_
        refine v_get fX9_249 (dec_of DX9_fit 108 rfl) rfl rfl ?_
        try simp (disch := decide) only [uN_s, uN_n]
        refine vi_if_eq (tgt := 210) (dec_of DX9_fit 109 rfl) (by decide) (by first | omega | exact bnd_r _ _ | exact hG _ _ | exact hK _ | (simp (disch := decide) only [uN_s, uN_n]; omega)) (fun c200 => ?_) (fun c200 => ?_)
        · refine v_iload (dec_of DX9_fit 113 rfl) rfl ?_
          refine v_istore (dec_of DX9_fit 114 rfl) (by decide) ?_
          dsimp only [List.set]
          refine vi_const (dec_of DX9_fit 115 rfl) ?_
          refine v_istore (dec_of DX9_fit 116 rfl) (by decide) ?_
          dsimp only [List.set]
          first | exact f217 _ _ _ _ (by unfold shM opn; omega) (by unfold fiM shM opn; omega) (by unfold fmM shM opn; omega) (by unfold opn; omega) | (exfalso; omega)
        · refine v_aload_n (dec_of DX9_fit 110 rfl) rfl ?_
          refine v_get fX9_246 (dec_of DX9_fit 111 rfl) rfl rfl ?_
          try simp (disch := decide) only [uN_s, uN_n]
          refine v_goto (tgt := 212) (dec_of DX9_fit 112 rfl) (by decide) ?_
          refine v_istore (dec_of DX9_fit 114 rfl) (by decide) ?_
          dsimp only [List.set]
          refine vi_const (dec_of DX9_fit 115 rfl) ?_
          refine v_istore (dec_of DX9_fit 116 rfl) (by decide) ?_
          dsimp only [List.set]
          first | exact f217 _ _ _ _ (by unfold shM opn; omega) (by unfold fiM shM opn; omega) (by unfold fmM shM opn; omega) (by unfold opn; omega) | (exfalso; omega)
      · refine v_aload_n (dec_of DX9_fit 100 rfl) rfl ?_
        refine v_get fX9_249 (dec_of DX9_fit 101 rfl) rfl rfl ?_
        try simp (disch := decide) only [uN_s, uN_n]
        refine vi_if_ne (tgt := 191) (dec_of DX9_fit 102 rfl) (by decide) (by first | omega | exact bnd_r _ _ | exact hG _ _ | exact hK _ | (simp (disch := decide) only [uN_s, uN_n]; omega)) (fun c183 => ?_) (fun c183 => ?_)
        · refine vi_bi (dec_of DX9_fit 105 rfl) (by decide) ?_
          refine mp_48 fX9_243 (dec_of DX9_fit 106 rfl) ?_
          refine v_aload_n (dec_of DX9_fit 107 rfl) rfl ?_
          refine v_get fX9_249 (dec_of DX9_fit 108 rfl) rfl rfl ?_
          try simp (disch := decide) only [uN_s, uN_n]
          refine vi_if_eq (tgt := 210) (dec_of DX9_fit 109 rfl) (by decide) (by first | omega | exact bnd_r _ _ | exact hG _ _ | exact hK _ | (simp (disch := decide) only [uN_s, uN_n]; omega)) (fun c200 => ?_) (fun c200 => ?_)
          · refine v_iload (dec_of DX9_fit 113 rfl) rfl ?_
            refine v_istore (dec_of DX9_fit 114 rfl) (by decide) ?_
            dsimp only [List.set]
            refine vi_const (dec_of DX9_fit 115 rfl) ?_
            refine v_istore (dec_of DX9_fit 116 rfl) (by decide) ?_
            dsimp only [List.set]
            first | exact f217 _ _ _ _ (by unfold shM opn; omega) (by unfold fiM shM opn; omega) (by unfold fmM shM opn; omega) (by unfold opn; omega) | (exfalso; omega)
          · refine v_aload_n (dec_of DX9_fit 110 rfl) rfl ?_
            refine v_get fX9_246 (dec_of DX9_fit 111 rfl) rfl rfl ?_
            try simp (disch := decide) only [uN_s, uN_n]
            refine v_goto (tgt := 212) (dec_of DX9_fit 112 rfl) (by decide) ?_
            refine v_istore (dec_of DX9_fit 114 rfl) (by decide) ?_
            dsimp only [List.set]
            refine vi_const (dec_of DX9_fit 115 rfl) ?_
            refine v_istore (dec_of DX9_fit 116 rfl) (by decide) ?_
            dsimp only [List.set]
            first | exact f217 _ _ _ _ (by unfold shM opn; omega) (by unfold fiM shM opn; omega) (by unfold fmM shM opn; omega) (by unfold opn; omega) | (exfalso; omega)
        · refine v_iload (dec_of DX9_fit 103 rfl) rfl ?_
          refine v_goto (tgt := 193) (dec_of DX9_fit 104 rfl) (by decide) ?_
          refine mp_48 fX9_243 (dec_of DX9_fit 106 rfl) ?_
          refine v_aload_n (dec_of DX9_fit 107 rfl) rfl ?_
          refine v_get fX9_249 (dec_of DX9_fit 108 rfl) rfl rfl ?_
          try simp (disch := decide) only [uN_s, uN_n]
          refine vi_if_eq (tgt := 210) (dec_of DX9_fit 109 rfl) (by decide) (by first | omega | exact bnd_r _ _ | exact hG _ _ | exact hK _ | (simp (disch := decide) only [uN_s, uN_n]; omega)) (fun c200 => ?_) (fun c200 => ?_)
          · refine v_iload (dec_of DX9_fit 113 rfl) rfl ?_
            refine v_istore (dec_of DX9_fit 114 rfl) (by decide) ?_
            dsimp only [List.set]
            refine vi_const (dec_of DX9_fit 115 rfl) ?_
            refine v_istore (dec_of DX9_fit 116 rfl) (by decide) ?_
            dsimp only [List.set]
            first | exact f217 _ _ _ _ (by unfold shM opn; omega) (by unfold fiM shM opn; omega) (by unfold fmM shM opn; omega) (by unfold opn; omega) | (exfalso; omega)
          · refine v_aload_n (dec_of DX9_fit 110 rfl) rfl ?_
            refine v_get fX9_246 (dec_of DX9_fit 111 rfl) rfl rfl ?_
            try simp (disch := decide) only [uN_s, uN_n]
            refine v_goto (tgt := 212) (dec_of DX9_fit 112 rfl) (by decide) ?_
            refine v_istore (dec_of DX9_fit 114 rfl) (by decide) ?_
            dsimp only [List.set]
            refine vi_const (dec_of DX9_fit 115 rfl) ?_
            refine v_istore (dec_of DX9_fit 116 rfl) (by decide) ?_
            dsimp only [List.set]
            first | exact f217 _ _ _ _ (by unfold shM opn; omega) (by unfold fiM shM opn; omega) (by unfold fmM shM opn; omega) (by unfold opn; omega) | (exfalso; omega)
    · refine v_iload (dec_of DX9_fit 86 rfl) rfl ?_
      refine v_iload (dec_of DX9_fit 87 rfl) rfl ?_
      refine v_iload (dec_of DX9_fit 88 rfl) rfl ?_
      refine vi_add (dec_of DX9_fit 89 rfl) ?_
      refine vi_const (dec_of DX9_fit 90 rfl) ?_
      refine vi_add (dec_of DX9_fit 91 rfl) ?_
      refine vi_icmp_ge (tgt := 170) (dec_of DX9_fit 92 rfl) (by decide) (by first | omega | exact bnd_r _ _ | exact hG _ _ | exact hK _ | (simp (disch := decide) only [uN_s, uN_n]; omega)) (by first | omega | exact bnd_r _ _ | exact hG _ _ | exact hK _ | (simp (disch := decide) only [uN_s, uN_n]; omega)) (fun c163 => ?_) (fun c163 => ?_)
      · refine vi_const (dec_of DX9_fit 95 rfl) ?_
        refine mp_50 fX9_249 (dec_of DX9_fit 96 rfl) (by omega) ?_
        refine v_aload_n (dec_of DX9_fit 97 rfl) rfl ?_
        refine v_iload_n (dec_of DX9_fit 98 rfl) rfl ?_
        refine vi_if_eq (tgt := 191) (dec_of DX9_fit 99 rfl) (by decide) (by first | omega | exact bnd_r _ _ | exact hG _ _ | exact hK _ | (simp (disch := decide) only [uN_s, uN_n]; omega)) (fun c176 => ?_) (fun c176 => ?_)
        · refine vi_bi (dec_of DX9_fit 105 rfl) (by decide) ?_
          refine mp_48 fX9_243 (dec_of DX9_fit 106 rfl) ?_
          refine v_aload_n (dec_of DX9_fit 107 rfl) rfl ?_
          refine v_get fX9_249 (dec_of DX9_fit 108 rfl) rfl rfl ?_
          try simp (disch := decide) only [uN_s, uN_n]
          refine vi_if_eq (tgt := 210) (dec_of DX9_fit 109 rfl) (by decide) (by first | omega | exact bnd_r _ _ | exact hG _ _ | exact hK _ | (simp (disch := decide) only [uN_s, uN_n]; omega)) (fun c200 => ?_) (fun c200 => ?_)
          · refine v_iload (dec_of DX9_fit 113 rfl) rfl ?_
            refine v_istore (dec_of DX9_fit 114 rfl) (by decide) ?_
            dsimp only [List.set]
            refine vi_const (dec_of DX9_fit 115 rfl) ?_
            refine v_istore (dec_of DX9_fit 116 rfl) (by decide) ?_
            dsimp only [List.set]
            first | exact f217 _ _ _ _ (by unfold shM opn; omega) (by unfold fiM shM opn; omega) (by unfold fmM shM opn; omega) (by unfold opn; omega) | (exfalso; omega)
          · refine v_aload_n (dec_of DX9_fit 110 rfl) rfl ?_
            refine v_get fX9_246 (dec_of DX9_fit 111 rfl) rfl rfl ?_
            try simp (disch := decide) only [uN_s, uN_n]
            refine v_goto (tgt := 212) (dec_of DX9_fit 112 rfl) (by decide) ?_
            refine v_istore (dec_of DX9_fit 114 rfl) (by decide) ?_
            dsimp only [List.set]
            refine vi_const (dec_of DX9_fit 115 rfl) ?_
            refine v_istore (dec_of DX9_fit 116 rfl) (by decide) ?_
            dsimp only [List.set]
            first | exact f217 _ _ _ _ (by unfold shM opn; omega) (by unfold fiM shM opn; omega) (by unfold fmM shM opn; omega) (by unfold opn; omega) | (exfalso; omega)
        · refine v_aload_n (dec_of DX9_fit 100 rfl) rfl ?_
          refine v_get fX9_249 (dec_of DX9_fit 101 rfl) rfl rfl ?_
          try simp (disch := decide) only [uN_s, uN_n]
          refine vi_if_ne (tgt := 191) (dec_of DX9_fit 102 rfl) (by decide) (by first | omega | exact bnd_r _ _ | exact hG _ _ | exact hK _ | (simp (disch := decide) only [uN_s, uN_n]; omega)) (fun c183 => ?_) (fun c183 => ?_)
          · refine vi_bi (dec_of DX9_fit 105 rfl) (by decide) ?_
            refine mp_48 fX9_243 (dec_of DX9_fit 106 rfl) ?_
            refine v_aload_n (dec_of DX9_fit 107 rfl) rfl ?_
            refine v_get fX9_249 (dec_of DX9_fit 108 rfl) rfl rfl ?_
            try simp (disch := decide) only [uN_s, uN_n]
            refine vi_if_eq (tgt := 210) (dec_of DX9_fit 109 rfl) (by decide) (by first | omega | exact bnd_r _ _ | exact hG _ _ | exact hK _ | (simp (disch := decide) only [uN_s, uN_n]; omega)) (fun c200 => ?_) (fun c200 => ?_)
            · refine v_iload (dec_of DX9_fit 113 rfl) rfl ?_
              refine v_istore (dec_of DX9_fit 114 rfl) (by decide) ?_
              dsimp only [List.set]
              refine vi_const (dec_of DX9_fit 115 rfl) ?_
              refine v_istore (dec_of DX9_fit 116 rfl) (by decide) ?_
              dsimp only [List.set]
              first | exact f217 _ _ _ _ (by unfold shM opn; omega) (by unfold fiM shM opn; omega) (by unfold fmM shM opn; omega) (by unfold opn; omega) | (exfalso; omega)
            · refine v_aload_n (dec_of DX9_fit 110 rfl) rfl ?_
              refine v_get fX9_246 (dec_of DX9_fit 111 rfl) rfl rfl ?_
              try simp (disch := decide) only [uN_s, uN_n]
              refine v_goto (tgt := 212) (dec_of DX9_fit 112 rfl) (by decide) ?_
              refine v_istore (dec_of DX9_fit 114 rfl) (by decide) ?_
              dsimp only [List.set]
              refine vi_const (dec_of DX9_fit 115 rfl) ?_
              refine v_istore (dec_of DX9_fit 116 rfl) (by decide) ?_
              dsimp only [List.set]
              first | exact f217 _ _ _ _ (by unfold shM opn; omega) (by unfold fiM shM opn; omega) (by unfold fmM shM opn; omega) (by unfold opn; omega) | (exfalso; omega)
          · refine v_iload (dec_of DX9_fit 103 rfl) rfl ?_
            refine v_goto (tgt := 193) (dec_of DX9_fit 104 rfl) (by decide) ?_
            refine mp_48 fX9_243 (dec_of DX9_fit 106 rfl) ?_
            refine v_aload_n (dec_of DX9_fit 107 rfl) rfl ?_
            refine v_get fX9_249 (dec_of DX9_fit 108 rfl) rfl rfl ?_
            try simp (disch := decide) only [uN_s, uN_n]
            refine vi_if_eq (tgt := 210) (dec_of DX9_fit 109 rfl) (by decide) (by first | omega | exact bnd_r _ _ | exact hG _ _ | exact hK _ | (simp (disch := decide) only [uN_s, uN_n]; omega)) (fun c200 => ?_) (fun c200 => ?_)
            · refine v_iload (dec_of DX9_fit 113 rfl) rfl ?_
              refine v_istore (dec_of DX9_fit 114 rfl) (by decide) ?_
              dsimp only [List.set]
              refine vi_const (dec_of DX9_fit 115 rfl) ?_
              refine v_istore (dec_of DX9_fit 116 rfl) (by decide) ?_
              dsimp only [List.set]
              first | exact f217 _ _ _ _ (by unfold shM opn; omega) (by unfold fiM shM opn; omega) (by unfold fmM shM opn; omega) (by unfold opn; omega) | (exfalso; omega)
            · refine v_aload_n (dec_of DX9_fit 110 rfl) rfl ?_
              refine v_get fX9_246 (dec_of DX9_fit 111 rfl) rfl rfl ?_
              try simp (disch := decide) only [uN_s, uN_n]
              refine v_goto (tgt := 212) (dec_of DX9_fit 112 rfl) (by decide) ?_
              refine v_istore (dec_of DX9_fit 114 rfl) (by decide) ?_
              dsimp only [List.set]
              refine vi_const (dec_of DX9_fit 115 rfl) ?_
              refine v_istore (dec_of DX9_fit 116 rfl) (by decide) ?_
              dsimp only [List.set]
              first | exact f217 _ _ _ _ (by unfold shM opn; omega) (by unfold fiM shM opn; omega) (by unfold fmM shM opn; omega) (by unfold opn; omega) | (exfalso; omega)
      · refine vi_const (dec_of DX9_fit 93 rfl) ?_
        refine v_goto (tgt := 171) (dec_of DX9_fit 94 rfl) (by decide) ?_
        refine mp_50 fX9_249 (dec_of DX9_fit 96 rfl) (by omega) ?_
        refine v_aload_n (dec_of DX9_fit 97 rfl) rfl ?_
        refine v_iload_n (dec_of DX9_fit 98 rfl) rfl ?_
        refine vi_if_eq (tgt := 191) (dec_of DX9_fit 99 rfl) (by decide) (by first | omega | exact bnd_r _ _ | exact hG _ _ | exact hK _ | (simp (disch := decide) only [uN_s, uN_n]; omega)) (fun c176 => ?_) (fun c176 => ?_)
        · refine vi_bi (dec_of DX9_fit 105 rfl) (by decide) ?_
          refine mp_48 fX9_243 (dec_of DX9_fit 106 rfl) ?_
          refine v_aload_n (dec_of DX9_fit 107 rfl) rfl ?_
          refine v_get fX9_249 (dec_of DX9_fit 108 rfl) rfl rfl ?_
          try simp (disch := decide) only [uN_s, uN_n]
          refine vi_if_eq (tgt := 210) (dec_of DX9_fit 109 rfl) (by decide) (by first | omega | exact bnd_r _ _ | exact hG _ _ | exact hK _ | (simp (disch := decide) only [uN_s, uN_n]; omega)) (fun c200 => ?_) (fun c200 => ?_)
          · refine v_iload (dec_of DX9_fit 113 rfl) rfl ?_
            refine v_istore (dec_of DX9_fit 114 rfl) (by decide) ?_
            dsimp only [List.set]
            refine vi_const (dec_of DX9_fit 115 rfl) ?_
            refine v_istore (dec_of DX9_fit 116 rfl) (by decide) ?_
            dsimp only [List.set]
            first | exact f217 _ _ _ _ (by unfold shM opn; omega) (by unfold fiM shM opn; omega) (by unfold fmM shM opn; omega) (by unfold opn; omega) | (exfalso; omega)
          · refine v_aload_n (dec_of DX9_fit 110 rfl) rfl ?_
            refine v_get fX9_246 (dec_of DX9_fit 111 rfl) rfl rfl ?_
            try simp (disch := decide) only [uN_s, uN_n]
            refine v_goto (tgt := 212) (dec_of DX9_fit 112 rfl) (by decide) ?_
            refine v_istore (dec_of DX9_fit 114 rfl) (by decide) ?_
            dsimp only [List.set]
            refine vi_const (dec_of DX9_fit 115 rfl) ?_
            refine v_istore (dec_of DX9_fit 116 rfl) (by decide) ?_
            dsimp only [List.set]
            first | exact f217 _ _ _ _ (by unfold shM opn; omega) (by unfold fiM shM opn; omega) (by unfold fmM shM opn; omega) (by unfold opn; omega) | (exfalso; omega)
        · refine v_aload_n (dec_of DX9_fit 100 rfl) rfl ?_
          refine v_get fX9_249 (dec_of DX9_fit 101 rfl) rfl rfl ?_
          try simp (disch := decide) only [uN_s, uN_n]
          refine vi_if_ne (tgt := 191) (dec_of DX9_fit 102 rfl) (by decide) (by first | omega | exact bnd_r _ _ | exact hG _ _ | exact hK _ | (simp (disch := decide) only [uN_s, uN_n]; omega)) (fun c183 => ?_) (fun c183 => ?_)
          · refine vi_bi (dec_of DX9_fit 105 rfl) (by decide) ?_
            refine mp_48 fX9_243 (dec_of DX9_fit 106 rfl) ?_
            refine v_aload_n (dec_of DX9_fit 107 rfl) rfl ?_
            refine v_get fX9_249 (dec_of DX9_fit 108 rfl) rfl rfl ?_
            try simp (disch := decide) only [uN_s, uN_n]
            refine vi_if_eq (tgt := 210) (dec_of DX9_fit 109 rfl) (by decide) (by first | omega | exact bnd_r _ _ | exact hG _ _ | exact hK _ | (simp (disch := decide) only [uN_s, uN_n]; omega)) (fun c200 => ?_) (fun c200 => ?_)
            · refine v_iload (dec_of DX9_fit 113 rfl) rfl ?_
              refine v_istore (dec_of DX9_fit 114 rfl) (by decide) ?_
              dsimp only [List.set]
              refine vi_const (dec_of DX9_fit 115 rfl) ?_
              refine v_istore (dec_of DX9_fit 116 rfl) (by decide) ?_
              dsimp only [List.set]
              first | exact f217 _ _ _ _ (by unfold shM opn; omega) (by unfold fiM shM opn; omega) (by unfold fmM shM opn; omega) (by unfold opn; omega) | (exfalso; omega)
            · refine v_aload_n (dec_of DX9_fit 110 rfl) rfl ?_
              refine v_get fX9_246 (dec_of DX9_fit 111 rfl) rfl rfl ?_
              try simp (disch := decide) only [uN_s, uN_n]
              refine v_goto (tgt := 212) (dec_of DX9_fit 112 rfl) (by decide) ?_
              refine v_istore (dec_of DX9_fit 114 rfl) (by decide) ?_
              dsimp only [List.set]
              refine vi_const (dec_of DX9_fit 115 rfl) ?_
              refine v_istore (dec_of DX9_fit 116 rfl) (by decide) ?_
              dsimp only [List.set]
              first | exact f217 _ _ _ _ (by unfold shM opn; omega) (by unfold fiM shM opn; omega) (by unfold fmM shM opn; omega) (by unfold opn; omega) | (exfalso; omega)
          · refine v_iload (dec_of DX9_fit 103 rfl) rfl ?_
            refine v_goto (tgt := 193) (dec_of DX9_fit 104 rfl) (by decide) ?_
            refine mp_48 fX9_243 (dec_of DX9_fit 106 rfl) ?_
            refine v_aload_n (dec_of DX9_fit 107 rfl) rfl ?_
            refine v_get fX9_249 (dec_of DX9_fit 108 rfl) rfl rfl ?_
            try simp (disch := decide) only [uN_s, uN_n]
            refine vi_if_eq (tgt := 210) (dec_of DX9_fit 109 rfl) (by decide) (by first | omega | exact bnd_r _ _ | exact hG _ _ | exact hK _ | (simp (disch := decide) only [uN_s, uN_n]; omega)) (fun c200 => ?_) (fun c200 => ?_)
            · refine v_iload (dec_of DX9_fit 113 rfl) rfl ?_
              refine v_istore (dec_of DX9_fit 114 rfl) (by decide) ?_
              dsimp only [List.set]
              refine vi_const (dec_of DX9_fit 115 rfl) ?_
              refine v_istore (dec_of DX9_fit 116 rfl) (by decide) ?_
              dsimp only [List.set]
              first | exact f217 _ _ _ _ (by unfold shM opn; omega) (by unfold fiM shM opn; omega) (by unfold fmM shM opn; omega) (by unfold opn; omega) | (exfalso; omega)
            · refine v_aload_n (dec_of DX9_fit 110 rfl) rfl ?_
              refine v_get fX9_246 (dec_of DX9_fit 111 rfl) rfl rfl ?_
              try simp (disch := decide) only [uN_s, uN_n]
              refine v_goto (tgt := 212) (dec_of DX9_fit 112 rfl) (by decide) ?_
              refine v_istore (dec_of DX9_fit 114 rfl) (by decide) ?_
              dsimp only [List.set]
              refine vi_const (dec_of DX9_fit 115 rfl) ?_
              refine v_istore (dec_of DX9_fit 116 rfl) (by decide) ?_
              dsimp only [List.set]
              first | exact f217 _ _ _ _ (by unfold shM opn; omega) (by unfold fiM shM opn; omega) (by unfold fmM shM opn; omega) (by unfold opn; omega) | (exfalso; omega)
  · refine vi_const (dec_of DX9_fit 74 rfl) ?_
    refine v_goto (tgt := 138) (dec_of DX9_fit 75 rfl) (by decide) ?_
    refine v_istore (dec_of DX9_fit 77 rfl) (by decide) ?_
    dsimp only [List.set]
    refine v_aload_n (dec_of DX9_fit 78 rfl) rfl ?_
    refine v_iload_n (dec_of DX9_fit 79 rfl) rfl ?_
    refine vi_const (dec_of DX9_fit 80 rfl) ?_
    refine v_V2r (q_close hG hK hM0 hh (by omega)) lX9_256 (dec_of DX9_fit 81 rfl) rfl rfl (by decide) (nle rfl) rfl ?_
    try simp (disch := decide) only [uN_s, uN_n]
    refine v_istore (dec_of DX9_fit 82 rfl) (by decide) ?_
    dsimp only [List.set]
    refine v_aload_n (dec_of DX9_fit 83 rfl) rfl ?_
    refine v_iload (dec_of DX9_fit 84 rfl) rfl ?_
    refine vi_if_lt (tgt := 166) (dec_of DX9_fit 85 rfl) (by decide) (by first | omega | exact bnd_r _ _ | exact hG _ _ | exact hK _ | (simp (disch := decide) only [uN_s, uN_n]; omega)) (fun c151 => ?_) (fun c151 => ?_)
    · refine vi_const (dec_of DX9_fit 93 rfl) ?_
      refine v_goto (tgt := 171) (dec_of DX9_fit 94 rfl) (by decide) ?_
      refine mp_50 fX9_249 (dec_of DX9_fit 96 rfl) (by omega) ?_
      refine v_aload_n (dec_of DX9_fit 97 rfl) rfl ?_
      refine v_iload_n (dec_of DX9_fit 98 rfl) rfl ?_
      refine vi_if_eq (tgt := 191) (dec_of DX9_fit 99 rfl) (by decide) (by first | omega | exact bnd_r _ _ | exact hG _ _ | exact hK _ | (simp (disch := decide) only [uN_s, uN_n]; omega)) (fun c176 => ?_) (fun c176 => ?_)
      · refine vi_bi (dec_of DX9_fit 105 rfl) (by decide) ?_
        refine mp_48 fX9_243 (dec_of DX9_fit 106 rfl) ?_
        refine v_aload_n (dec_of DX9_fit 107 rfl) rfl ?_
        refine v_get fX9_249 (dec_of DX9_fit 108 rfl) rfl rfl ?_
        try simp (disch := decide) only [uN_s, uN_n]
        refine vi_if_eq (tgt := 210) (dec_of DX9_fit 109 rfl) (by decide) (by first | omega | exact bnd_r _ _ | exact hG _ _ | exact hK _ | (simp (disch := decide) only [uN_s, uN_n]; omega)) (fun c200 => ?_) (fun c200 => ?_)
        · refine v_iload (dec_of DX9_fit 113 rfl) rfl ?_
          refine v_istore (dec_of DX9_fit 114 rfl) (by decide) ?_
          dsimp only [List.set]
          refine vi_const (dec_of DX9_fit 115 rfl) ?_
          refine v_istore (dec_of DX9_fit 116 rfl) (by decide) ?_
          dsimp only [List.set]
          first | exact f217 _ _ _ _ (by unfold shM opn; omega) (by unfold fiM shM opn; omega) (by unfold fmM shM opn; omega) (by unfold opn; omega) | (exfalso; omega)
        · refine v_aload_n (dec_of DX9_fit 110 rfl) rfl ?_
          refine v_get fX9_246 (dec_of DX9_fit 111 rfl) rfl rfl ?_
          try simp (disch := decide) only [uN_s, uN_n]
          refine v_goto (tgt := 212) (dec_of DX9_fit 112 rfl) (by decide) ?_
          refine v_istore (dec_of DX9_fit 114 rfl) (by decide) ?_
          dsimp only [List.set]
          refine vi_const (dec_of DX9_fit 115 rfl) ?_
          refine v_istore (dec_of DX9_fit 116 rfl) (by decide) ?_
          dsimp only [List.set]
          first | exact f217 _ _ _ _ (by unfold shM opn; omega) (by unfold fiM shM opn; omega) (by unfold fmM shM opn; omega) (by unfold opn; omega) | (exfalso; omega)
      · refine v_aload_n (dec_of DX9_fit 100 rfl) rfl ?_
        refine v_get fX9_249 (dec_of DX9_fit 101 rfl) rfl rfl ?_
        try simp (disch := decide) only [uN_s, uN_n]
        refine vi_if_ne (tgt := 191) (dec_of DX9_fit 102 rfl) (by decide) (by first | omega | exact bnd_r _ _ | exact hG _ _ | exact hK _ | (simp (disch := decide) only [uN_s, uN_n]; omega)) (fun c183 => ?_) (fun c183 => ?_)
        · refine vi_bi (dec_of DX9_fit 105 rfl) (by decide) ?_
          refine mp_48 fX9_243 (dec_of DX9_fit 106 rfl) ?_
          refine v_aload_n (dec_of DX9_fit 107 rfl) rfl ?_
          refine v_get fX9_249 (dec_of DX9_fit 108 rfl) rfl rfl ?_
          try simp (disch := decide) only [uN_s, uN_n]
          refine vi_if_eq (tgt := 210) (dec_of DX9_fit 109 rfl) (by decide) (by first | omega | exact bnd_r _ _ | exact hG _ _ | exact hK _ | (simp (disch := decide) only [uN_s, uN_n]; omega)) (fun c200 => ?_) (fun c200 => ?_)
          · refine v_iload (dec_of DX9_fit 113 rfl) rfl ?_
            refine v_istore (dec_of DX9_fit 114 rfl) (by decide) ?_
            dsimp only [List.set]
            refine vi_const (dec_of DX9_fit 115 rfl) ?_
            refine v_istore (dec_of DX9_fit 116 rfl) (by decide) ?_
            dsimp only [List.set]
            first | exact f217 _ _ _ _ (by unfold shM opn; omega) (by unfold fiM shM opn; omega) (by unfold fmM shM opn; omega) (by unfold opn; omega) | (exfalso; omega)
          · refine v_aload_n (dec_of DX9_fit 110 rfl) rfl ?_
            refine v_get fX9_246 (dec_of DX9_fit 111 rfl) rfl rfl ?_
            try simp (disch := decide) only [uN_s, uN_n]
            refine v_goto (tgt := 212) (dec_of DX9_fit 112 rfl) (by decide) ?_
            refine v_istore (dec_of DX9_fit 114 rfl) (by decide) ?_
            dsimp only [List.set]
            refine vi_const (dec_of DX9_fit 115 rfl) ?_
            refine v_istore (dec_of DX9_fit 116 rfl) (by decide) ?_
            dsimp only [List.set]
            first | exact f217 _ _ _ _ (by unfold shM opn; omega) (by unfold fiM shM opn; omega) (by unfold fmM shM opn; omega) (by unfold opn; omega) | (exfalso; omega)
        · refine v_iload (dec_of DX9_fit 103 rfl) rfl ?_
          refine v_goto (tgt := 193) (dec_of DX9_fit 104 rfl) (by decide) ?_
          refine mp_48 fX9_243 (dec_of DX9_fit 106 rfl) ?_
          refine v_aload_n (dec_of DX9_fit 107 rfl) rfl ?_
          refine v_get fX9_249 (dec_of DX9_fit 108 rfl) rfl rfl ?_
          try simp (disch := decide) only [uN_s, uN_n]
          refine vi_if_eq (tgt := 210) (dec_of DX9_fit 109 rfl) (by decide) (by first | omega | exact bnd_r _ _ | exact hG _ _ | exact hK _ | (simp (disch := decide) only [uN_s, uN_n]; omega)) (fun c200 => ?_) (fun c200 => ?_)
          · refine v_iload (dec_of DX9_fit 113 rfl) rfl ?_
            refine v_istore (dec_of DX9_fit 114 rfl) (by decide) ?_
            dsimp only [List.set]
            refine vi_const (dec_of DX9_fit 115 rfl) ?_
            refine v_istore (dec_of DX9_fit 116 rfl) (by decide) ?_
            dsimp only [List.set]
            first | exact f217 _ _ _ _ (by unfold shM opn; omega) (by unfold fiM shM opn; omega) (by unfold fmM shM opn; omega) (by unfold opn; omega) | (exfalso; omega)
          · refine v_aload_n (dec_of DX9_fit 110 rfl) rfl ?_
            refine v_get fX9_246 (dec_of DX9_fit 111 rfl) rfl rfl ?_
            try simp (disch := decide) only [uN_s, uN_n]
            refine v_goto (tgt := 212) (dec_of DX9_fit 112 rfl) (by decide) ?_
            refine v_istore (dec_of DX9_fit 114 rfl) (by decide) ?_
            dsimp only [List.set]
            refine vi_const (dec_of DX9_fit 115 rfl) ?_
            refine v_istore (dec_of DX9_fit 116 rfl) (by decide) ?_
            dsimp only [List.set]
            first | exact f217 _ _ _ _ (by unfold shM opn; omega) (by unfold fiM shM opn; omega) (by unfold fmM shM opn; omega) (by unfold opn; omega) | (exfalso; omega)
    · refine v_iload (dec_of DX9_fit 86 rfl) rfl ?_
      refine v_iload (dec_of DX9_fit 87 rfl) rfl ?_
      refine v_iload (dec_of DX9_fit 88 rfl) rfl ?_
      refine vi_add (dec_of DX9_fit 89 rfl) ?_
      refine vi_const (dec_of DX9_fit 90 rfl) ?_
      refine vi_add (dec_of DX9_fit 91 rfl) ?_
      refine vi_icmp_ge (tgt := 170) (dec_of DX9_fit 92 rfl) (by decide) (by first | omega | exact bnd_r _ _ | exact hG _ _ | exact hK _ | (simp (disch := decide) only [uN_s, uN_n]; omega)) (by first | omega | exact bnd_r _ _ | exact hG _ _ | exact hK _ | (simp (disch := decide) only [uN_s, uN_n]; omega)) (fun c163 => ?_) (fun c163 => ?_)
      · refine vi_const (dec_of DX9_fit 95 rfl) ?_
        refine mp_50 fX9_249 (dec_of DX9_fit 96 rfl) (by omega) ?_
        refine v_aload_n (dec_of DX9_fit 97 rfl) rfl ?_
        refine v_iload_n (dec_of DX9_fit 98 rfl) rfl ?_
        refine vi_if_eq (tgt := 191) (dec_of DX9_fit 99 rfl) (by decide) (by first | omega | exact bnd_r _ _ | exact hG _ _ | exact hK _ | (simp (disch := decide) only [uN_s, uN_n]; omega)) (fun c176 => ?_) (fun c176 => ?_)
        · refine vi_bi (dec_of DX9_fit 105 rfl) (by decide) ?_
          refine mp_48 fX9_243 (dec_of DX9_fit 106 rfl) ?_
          refine v_aload_n (dec_of DX9_fit 107 rfl) rfl ?_
          refine v_get fX9_249 (dec_of DX9_fit 108 rfl) rfl rfl ?_
          try simp (disch := decide) only [uN_s, uN_n]
          refine vi_if_eq (tgt := 210) (dec_of DX9_fit 109 rfl) (by decide) (by first | omega | exact bnd_r _ _ | exact hG _ _ | exact hK _ | (simp (disch := decide) only [uN_s, uN_n]; omega)) (fun c200 => ?_) (fun c200 => ?_)
          · refine v_iload (dec_of DX9_fit 113 rfl) rfl ?_
            refine v_istore (dec_of DX9_fit 114 rfl) (by decide) ?_
            dsimp only [List.set]
            refine vi_const (dec_of DX9_fit 115 rfl) ?_
            refine v_istore (dec_of DX9_fit 116 rfl) (by decide) ?_
            dsimp only [List.set]
            first | exact f217 _ _ _ _ (by unfold shM opn; omega) (by unfold fiM shM opn; omega) (by unfold fmM shM opn; omega) (by unfold opn; omega) | (exfalso; omega)
          · refine v_aload_n (dec_of DX9_fit 110 rfl) rfl ?_
            refine v_get fX9_246 (dec_of DX9_fit 111 rfl) rfl rfl ?_
            try simp (disch := decide) only [uN_s, uN_n]
            refine v_goto (tgt := 212) (dec_of DX9_fit 112 rfl) (by decide) ?_
            refine v_istore (dec_of DX9_fit 114 rfl) (by decide) ?_
            dsimp only [List.set]
            refine vi_const (dec_of DX9_fit 115 rfl) ?_
            refine v_istore (dec_of DX9_fit 116 rfl) (by decide) ?_
            dsimp only [List.set]
            first | exact f217 _ _ _ _ (by unfold shM opn; omega) (by unfold fiM shM opn; omega) (by unfold fmM shM opn; omega) (by unfold opn; omega) | (exfalso; omega)
        · refine v_aload_n (dec_of DX9_fit 100 rfl) rfl ?_
          refine v_get fX9_249 (dec_of DX9_fit 101 rfl) rfl rfl ?_
          try simp (disch := decide) only [uN_s, uN_n]
          refine vi_if_ne (tgt := 191) (dec_of DX9_fit 102 rfl) (by decide) (by first | omega | exact bnd_r _ _ | exact hG _ _ | exact hK _ | (simp (disch := decide) only [uN_s, uN_n]; omega)) (fun c183 => ?_) (fun c183 => ?_)
          · refine vi_bi (dec_of DX9_fit 105 rfl) (by decide) ?_
            refine mp_48 fX9_243 (dec_of DX9_fit 106 rfl) ?_
            refine v_aload_n (dec_of DX9_fit 107 rfl) rfl ?_
            refine v_get fX9_249 (dec_of DX9_fit 108 rfl) rfl rfl ?_
            try simp (disch := decide) only [uN_s, uN_n]
            refine vi_if_eq (tgt := 210) (dec_of DX9_fit 109 rfl) (by decide) (by first | omega | exact bnd_r _ _ | exact hG _ _ | exact hK _ | (simp (disch := decide) only [uN_s, uN_n]; omega)) (fun c200 => ?_) (fun c200 => ?_)
            · refine v_iload (dec_of DX9_fit 113 rfl) rfl ?_
              refine v_istore (dec_of DX9_fit 114 rfl) (by decide) ?_
              dsimp only [List.set]
              refine vi_const (dec_of DX9_fit 115 rfl) ?_
              refine v_istore (dec_of DX9_fit 116 rfl) (by decide) ?_
              dsimp only [List.set]
              first | exact f217 _ _ _ _ (by unfold shM opn; omega) (by unfold fiM shM opn; omega) (by unfold fmM shM opn; omega) (by unfold opn; omega) | (exfalso; omega)
            · refine v_aload_n (dec_of DX9_fit 110 rfl) rfl ?_
              refine v_get fX9_246 (dec_of DX9_fit 111 rfl) rfl rfl ?_
              try simp (disch := decide) only [uN_s, uN_n]
              refine v_goto (tgt := 212) (dec_of DX9_fit 112 rfl) (by decide) ?_
              refine v_istore (dec_of DX9_fit 114 rfl) (by decide) ?_
              dsimp only [List.set]
              refine vi_const (dec_of DX9_fit 115 rfl) ?_
              refine v_istore (dec_of DX9_fit 116 rfl) (by decide) ?_
              dsimp only [List.set]
              first | exact f217 _ _ _ _ (by unfold shM opn; omega) (by unfold fiM shM opn; omega) (by unfold fmM shM opn; omega) (by unfold opn; omega) | (exfalso; omega)
          · refine v_iload (dec_of DX9_fit 103 rfl) rfl ?_
            refine v_goto (tgt := 193) (dec_of DX9_fit 104 rfl) (by decide) ?_
            refine mp_48 fX9_243 (dec_of DX9_fit 106 rfl) ?_
            refine v_aload_n (dec_of DX9_fit 107 rfl) rfl ?_
            refine v_get fX9_249 (dec_of DX9_fit 108 rfl) rfl rfl ?_
            try simp (disch := decide) only [uN_s, uN_n]
            refine vi_if_eq (tgt := 210) (dec_of DX9_fit 109 rfl) (by decide) (by first | omega | exact bnd_r _ _ | exact hG _ _ | exact hK _ | (simp (disch := decide) only [uN_s, uN_n]; omega)) (fun c200 => ?_) (fun c200 => ?_)
            · refine v_iload (dec_of DX9_fit 113 rfl) rfl ?_
              refine v_istore (dec_of DX9_fit 114 rfl) (by decide) ?_
              dsimp only [List.set]
              refine vi_const (dec_of DX9_fit 115 rfl) ?_
              refine v_istore (dec_of DX9_fit 116 rfl) (by decide) ?_
              dsimp only [List.set]
              first | exact f217 _ _ _ _ (by unfold shM opn; omega) (by unfold fiM shM opn; omega) (by unfold fmM shM opn; omega) (by unfold opn; omega) | (exfalso; omega)
            · refine v_aload_n (dec_of DX9_fit 110 rfl) rfl ?_
              refine v_get fX9_246 (dec_of DX9_fit 111 rfl) rfl rfl ?_
              try simp (disch := decide) only [uN_s, uN_n]
              refine v_goto (tgt := 212) (dec_of DX9_fit 112 rfl) (by decide) ?_
              refine v_istore (dec_of DX9_fit 114 rfl) (by decide) ?_
              dsimp only [List.set]
              refine vi_const (dec_of DX9_fit 115 rfl) ?_
              refine v_istore (dec_of DX9_fit 116 rfl) (by decide) ?_
              dsimp only [List.set]
              first | exact f217 _ _ _ _ (by unfold shM opn; omega) (by unfold fiM shM opn; omega) (by unfold fmM shM opn; omega) (by unfold opn; omega) | (exfalso; omega)
      · refine vi_const (dec_of DX9_fit 93 rfl) ?_
        refine v_goto (tgt := 171) (dec_of DX9_fit 94 rfl) (by decide) ?_
        refine mp_50 fX9_249 (dec_of DX9_fit 96 rfl) (by omega) ?_
        refine v_aload_n (dec_of DX9_fit 97 rfl) rfl ?_
        refine v_iload_n (dec_of DX9_fit 98 rfl) rfl ?_
        refine vi_if_eq (tgt := 191) (dec_of DX9_fit 99 rfl) (by decide) (by first | omega | exact bnd_r _ _ | exact hG _ _ | exact hK _ | (simp (disch := decide) only [uN_s, uN_n]; omega)) (fun c176 => ?_) (fun c176 => ?_)
        · refine vi_bi (dec_of DX9_fit 105 rfl) (by decide) ?_
          refine mp_48 fX9_243 (dec_of DX9_fit 106 rfl) ?_
          refine v_aload_n (dec_of DX9_fit 107 rfl) rfl ?_
          refine v_get fX9_249 (dec_of DX9_fit 108 rfl) rfl rfl ?_
          try simp (disch := decide) only [uN_s, uN_n]
          refine vi_if_eq (tgt := 210) (dec_of DX9_fit 109 rfl) (by decide) (by first | omega | exact bnd_r _ _ | exact hG _ _ | exact hK _ | (simp (disch := decide) only [uN_s, uN_n]; omega)) (fun c200 => ?_) (fun c200 => ?_)
          · refine v_iload (dec_of DX9_fit 113 rfl) rfl ?_
            refine v_istore (dec_of DX9_fit 114 rfl) (by decide) ?_
            dsimp only [List.set]
            refine vi_const (dec_of DX9_fit 115 rfl) ?_
            refine v_istore (dec_of DX9_fit 116 rfl) (by decide) ?_
            dsimp only [List.set]
            first | exact f217 _ _ _ _ (by unfold shM opn; omega) (by unfold fiM shM opn; omega) (by unfold fmM shM opn; omega) (by unfold opn; omega) | (exfalso; omega)
          · refine v_aload_n (dec_of DX9_fit 110 rfl) rfl ?_
            refine v_get fX9_246 (dec_of DX9_fit 111 rfl) rfl rfl ?_
            try simp (disch := decide) only [uN_s, uN_n]
            refine v_goto (tgt := 212) (dec_of DX9_fit 112 rfl) (by decide) ?_
            refine v_istore (dec_of DX9_fit 114 rfl) (by decide) ?_
            dsimp only [List.set]
            refine vi_const (dec_of DX9_fit 115 rfl) ?_
            refine v_istore (dec_of DX9_fit 116 rfl) (by decide) ?_
            dsimp only [List.set]
            first | exact f217 _ _ _ _ (by unfold shM opn; omega) (by unfold fiM shM opn; omega) (by unfold fmM shM opn; omega) (by unfold opn; omega) | (exfalso; omega)
        · refine v_aload_n (dec_of DX9_fit 100 rfl) rfl ?_
          refine v_get fX9_249 (dec_of DX9_fit 101 rfl) rfl rfl ?_
          try simp (disch := decide) only [uN_s, uN_n]
          refine vi_if_ne (tgt := 191) (dec_of DX9_fit 102 rfl) (by decide) (by first | omega | exact bnd_r _ _ | exact hG _ _ | exact hK _ | (simp (disch := decide) only [uN_s, uN_n]; omega)) (fun c183 => ?_) (fun c183 => ?_)
          · refine vi_bi (dec_of DX9_fit 105 rfl) (by decide) ?_
            refine mp_48 fX9_243 (dec_of DX9_fit 106 rfl) ?_
            refine v_aload_n (dec_of DX9_fit 107 rfl) rfl ?_
            refine v_get fX9_249 (dec_of DX9_fit 108 rfl) rfl rfl ?_
            try simp (disch := decide) only [uN_s, uN_n]
            refine vi_if_eq (tgt := 210) (dec_of DX9_fit 109 rfl) (by decide) (by first | omega | exact bnd_r _ _ | exact hG _ _ | exact hK _ | (simp (disch := decide) only [uN_s, uN_n]; omega)) (fun c200 => ?_) (fun c200 => ?_)
            · refine v_iload (dec_of DX9_fit 113 rfl) rfl ?_
              refine v_istore (dec_of DX9_fit 114 rfl) (by decide) ?_
              dsimp only [List.set]
              refine vi_const (dec_of DX9_fit 115 rfl) ?_
              refine v_istore (dec_of DX9_fit 116 rfl) (by decide) ?_
              dsimp only [List.set]
              first | exact f217 _ _ _ _ (by unfold shM opn; omega) (by unfold fiM shM opn; omega) (by unfold fmM shM opn; omega) (by unfold opn; omega) | (exfalso; omega)
            · refine v_aload_n (dec_of DX9_fit 110 rfl) rfl ?_
              refine v_get fX9_246 (dec_of DX9_fit 111 rfl) rfl rfl ?_
              try simp (disch := decide) only [uN_s, uN_n]
              refine v_goto (tgt := 212) (dec_of DX9_fit 112 rfl) (by decide) ?_
              refine v_istore (dec_of DX9_fit 114 rfl) (by decide) ?_
              dsimp only [List.set]
              refine vi_const (dec_of DX9_fit 115 rfl) ?_
              refine v_istore (dec_of DX9_fit 116 rfl) (by decide) ?_
              dsimp only [List.set]
              first | exact f217 _ _ _ _ (by unfold shM opn; omega) (by unfold fiM shM opn; omega) (by unfold fmM shM opn; omega) (by unfold opn; omega) | (exfalso; omega)
          · refine v_iload (dec_of DX9_fit 103 rfl) rfl ?_
            refine v_goto (tgt := 193) (dec_of DX9_fit 104 rfl) (by decide) ?_
            refine mp_48 fX9_243 (dec_of DX9_fit 106 rfl) ?_
            refine v_aload_n (dec_of DX9_fit 107 rfl) rfl ?_
            refine v_get fX9_249 (dec_of DX9_fit 108 rfl) rfl rfl ?_
            try simp (disch := decide) only [uN_s, uN_n]
            refine vi_if_eq (tgt := 210) (dec_of DX9_fit 109 rfl) (by decide) (by first | omega | exact bnd_r _ _ | exact hG _ _ | exact hK _ | (simp (disch := decide) only [uN_s, uN_n]; omega)) (fun c200 => ?_) (fun c200 => ?_)
            · refine v_iload (dec_of DX9_fit 113 rfl) rfl ?_
              refine v_istore (dec_of DX9_fit 114 rfl) (by decide) ?_
              dsimp only [List.set]
              refine vi_const (dec_of DX9_fit 115 rfl) ?_
              refine v_istore (dec_of DX9_fit 116 rfl) (by decide) ?_
              dsimp only [List.set]
              first | exact f217 _ _ _ _ (by unfold shM opn; omega) (by unfold fiM shM opn; omega) (by unfold fmM shM opn; omega) (by unfold opn; omega) | (exfalso; omega)
            · refine v_aload_n (dec_of DX9_fit 110 rfl) rfl ?_
              refine v_get fX9_246 (dec_of DX9_fit 111 rfl) rfl rfl ?_
              try simp (disch := decide) only [uN_s, uN_n]
              refine v_goto (tgt := 212) (dec_of DX9_fit 112 rfl) (by decide) ?_
              refine v_istore (dec_of DX9_fit 114 rfl) (by decide) ?_
              dsimp only [List.set]
              refine vi_const (dec_of DX9_fit 115 rfl) ?_
              refine v_istore (dec_of DX9_fit 116 rfl) (by decide) ?_
              dsimp only [List.set]
              first | exact f217 _ _ _ _ (by unfold shM opn; omega) (by unfold fiM shM opn; omega) (by unfold fmM shM opn; omega) (by unfold opn; omega) | (exfalso; omega)
