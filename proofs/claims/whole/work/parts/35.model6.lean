/-! the reference: fit, half, sung (printed by wip/tools/gen_m6.py) -/
def k0M (K : Nat → Int) : Nat → Int := uN (uN (uN (uN K 51 0) 48 (-100)) 49 (-100)) 50 1
def lsP (f : Int → Int) (n : Int) : Int := if 0 ≤ accU f n.toNat then accU f n.toNat else if n = 1 then 0 else n - 2
def onM (f : Int → Int) (tw l : Int) : Int := if tw = 0 then l else if 0 ≤ accU f l.toNat then accU f l.toNat else l - 2
def twM (K : Nat → Int) (G : Nat → Int → Int) (h : Int) : Int := if clM K G h 3 = 2 then 1 else 0
theorem lsP_r {f : Int → Int} {n : Int} (hn : 0 < n) : 0 ≤ lsP f n ∧ lsP f n < n := by
  have := accU_r f n.toNat
  unfold lsP
  omega
theorem onM_r {f : Int → Int} {tw l : Int} (hl : 0 ≤ l ∧ l ≤ 40) : -2 ≤ onM f tw l ∧ onM f tw l ≤ 40 := by
  have := accU_r f l.toNat
  unfold onM
  omega
def lM (G : Nat → Int → Int) (h : Int) : Int := lsP (ptF G h) (G 45 h)
def oM (K : Nat → Int) (G : Nat → Int → Int) (h : Int) : Int := onM (ptF G h) (twM K G h) (lM G h)
/-- the reference's numbers behind fit -/
def fitK (K : Nat → Int) (G : Nat → Int → Int) (h : Int) : Nat → Int := fun k => if G 45 h = 0 then k0M K k else uN (fkM (uN (k0M K) 49 (lM G h)) h (clM K G h 0) (twM K G h) (oM K G h)) 51 (if lM G h = G 45 h - 1 then G 45 h + 1 else G 45 h) k
def fitR (K : Nat → Int) (G : Nat → Int → Int) (h : Int) (on by1 : Int → Int) : Prop := rwM (fitK K G h) G h (G 45 h) (opn h) (clM K G h 0) (fmM h (clM K G h 0) (oM K G h) (lM G h)) (fitK K G h 51) on by1 ∧ (∀ i, -2147483648 ≤ on i ∧ on i < 2147483648) ∧ (∀ i, -2147483648 ≤ by1 i ∧ by1 i < 2147483648)
theorem rwM_c {K K' : Nat → Int} {G : Nat → Int → Int} {h n op pr fm m : Int} {on by1 : Int → Int} (e49 : K' 49 = K 49) (e48 : K' 48 = K 48) (e50 : K' 50 = K 50) (e43 : K' 43 = K 43) (hr : rwM K G h n op pr fm m on by1) : rwM K' G h n op pr fm m on by1 := by
  intro i h0 h1
  have := hr i h0 h1
  unfold byN byM clM at *
  rw [e49, e48, e50, e43]
  exact this
set_option maxRecDepth 100000 in
set_option maxHeartbeats 4000000 in
theorem q_fit {I N : Nat → Int} {F : Nat → Int → Int} {K : Nat → Int} {G : Nat → Int → Int} (hG : FR G) (hK : IR K) (hM : MR K) {h : Int} (hh : 0 ≤ h ∧ h ≤ 1) (h45 : 0 ≤ G 45 h ∧ G 45 h ≤ 40) (hpr : 0 ≤ clM K G h 0 ∧ clM K G h 0 ≤ 2) : Sp (rm 1 24 0 0) mX9_fit [.ref 31, J h] (W2 I N F K G) (fun w r => r = none ∧ ∃ on by1 : Int → Int, w = W2 I N F (fitK K G h) (uN (uN G 52 on) 53 by1) ∧ fitR K G h on by1) := by
  have hM0 := hM
  unfold MR at hM
  refine sp_of (ls := [some (.ref 31), some (J h), none, none, none, none, none, none, none, none]) (by decide) (nle rfl) rfl rfl ?_
  by_cases hn : G 45 h = 0
  · have eK : fitK K G h = k0M K := by funext k; unfold fitK; rw [if_pos hn]
    refine v_aload_n (dec_of DX9_fit 0 rfl) rfl ?_
    refine v_get fX9_98 (dec_of DX9_fit 1 rfl) rfl rfl ?_
    refine v_iload_n (dec_of DX9_fit 2 rfl) rfl ?_
    refine vi_aload (dec_of DX9_fit 3 rfl) rfl (by first | omega | exact bnd_r _ _ | exact hG _ _ | exact hK _ | (simp (disch := decide) only [uN_s, uN_n]; omega)) (by decide) ?_
    refine v_istore_n (dec_of DX9_fit 4 rfl) (by decide) ?_
    dsimp only [List.set]
    refine v_aload_n (dec_of DX9_fit 5 rfl) rfl ?_
    refine vi_const (dec_of DX9_fit 6 rfl) ?_
    refine mp_51 fX9_240 (dec_of DX9_fit 7 rfl) ?_
    refine v_aload_n (dec_of DX9_fit 8 rfl) rfl ?_
    refine vi_bi (dec_of DX9_fit 9 rfl) (by decide) ?_
    refine mp_48 fX9_243 (dec_of DX9_fit 10 rfl) ?_
    refine v_aload_n (dec_of DX9_fit 11 rfl) rfl ?_
    refine vi_bi (dec_of DX9_fit 12 rfl) (by decide) ?_
    refine mp_49 fX9_246 (dec_of DX9_fit 13 rfl) ?_
    refine v_aload_n (dec_of DX9_fit 14 rfl) rfl ?_
    refine vi_const (dec_of DX9_fit 15 rfl) ?_
    refine mp_50 fX9_249 (dec_of DX9_fit 16 rfl) (by omega) ?_
    refine v_iload_n (dec_of DX9_fit 17 rfl) rfl ?_
    refine vi_if_ne (tgt := 34) (dec_of DX9_fit 18 rfl) (by decide) (by first | omega | exact bnd_r _ _ | exact hG _ _ | exact hK _ | (simp (disch := decide) only [uN_s, uN_n]; omega)) (fun c30 => absurd c30 (by omega)) (fun c30 => ?_)
    exact vi_vret (dec_of DX9_fit 19 rfl) rfl ⟨by decide, by decide⟩ (⟨rfl, G 52, G 53, by rw [eK, uN_self, show uN G 53 (G 53) = G from uN_self]; rfl, fun i a b => absurd b (by rw [eK]; show ¬ i < 0; omega), hG 52, hG 53⟩)
  · have eK : fitK K G h = uN (fkM (uN (k0M K) 49 (lM G h)) h (clM K G h 0) (twM K G h) (oM K G h)) 51 (if lM G h = G 45 h - 1 then G 45 h + 1 else G 45 h) := by funext k; unfold fitK; rw [if_neg hn]
    have hL : 0 ≤ lM G h ∧ lM G h < G 45 h := lsP_r (by omega)
    have hO : -2 ≤ oM K G h ∧ oM K G h ≤ 40 := onM_r (by omega)
    have hA := accU_r (ptF G h) (G 45 h).toNat
    have hA2 := accU_r (ptF G h) (lM G h).toNat
    have hKL : IR (uN (k0M K) 49 (lM G h)) := (((((hK.up (by omega)).up (by omega)).up (by omega)).up (by omega)) : IR (k0M K)).up (by omega)
    have hML : MR (uN (k0M K) 49 (lM G h)) := by unfold MR k0M; simp (disch := decide) only [uN_s, uN_n]; omega
    have hK0 : IR (k0M K) := (((hK.up (by omega)).up (by omega)).up (by omega)).up (by omega)
    have hM00 : MR (k0M K) := by unfold MR k0M; simp (disch := decide) only [uN_s, uN_n]; omega
    have f129 : ∀ tw one : Int, tw = twM K G h → one = oM K G h → Vd (rm 1 24 0 0) [] mX9_fit (W2 I N F K G).length (fun w r => r = none ∧ ∃ on by1 : Int → Int, w = W2 I N F (fitK K G h) (uN (uN G 52 on) 53 by1) ∧ fitR K G h on by1) 0 0 129 [some (.ref 31), some (J h), some (J (G 45 h)), some (J tw), some (J one), none, none, none, none, none] [] (W2 I N F (uN (k0M K) 49 (lM G h)) G) := by
      intro tw one e1 e2
      subst e1 e2
      refine q_ft_129 hG hKL hML hh (by omega) (by unfold twM; omega) hO hpr (by rw [uN_s]; exact hL) rfl ?_
      intro on by1 q1 q2 q3
      refine ⟨rfl, on, by1, by rw [eK]; rfl, ?_, q1, q2⟩
      rw [eK]
      exact rwM_c rfl rfl rfl rfl q3
    have f74 : Vd (rm 1 24 0 0) [] mX9_fit (W2 I N F K G).length (fun w r => r = none ∧ ∃ on by1 : Int → Int, w = W2 I N F (fitK K G h) (uN (uN G 52 on) 53 by1) ∧ fitR K G h on by1) 0 0 74 [some (.ref 31), some (J h), some (J (G 45 h)), none, none, none, none, none, none, none] [] (W2 I N F (uN (k0M K) 49 (lM G h)) G) := by
      refine v_aload_n (dec_of DX9_fit 42 rfl) rfl ?_
      refine v_iload_n (dec_of DX9_fit 43 rfl) rfl ?_
      refine vi_const (dec_of DX9_fit 44 rfl) ?_
      refine v_V2r (q_close hG hKL hML hh (by omega)) lX9_256 (dec_of DX9_fit 45 rfl) rfl rfl (by decide) (nle rfl) rfl ?_
      try simp (disch := decide) only [uN_s, uN_n]
      change Vd _ _ _ _ _ _ _ _ _ (J (clM K G h 3) :: _) _
      refine vi_const (dec_of DX9_fit 46 rfl) ?_
      refine vi_icmp_ne (tgt := 88) (dec_of DX9_fit 47 rfl) (by decide) (by first | omega | exact bnd_r _ _ | exact hG _ _ | exact hK _ | (simp (disch := decide) only [uN_s, uN_n]; omega)) (by first | omega | exact bnd_r _ _ | exact hG _ _ | exact hK _ | (simp (disch := decide) only [uN_s, uN_n]; omega)) (fun c81 => ?_) (fun c81 => ?_)
      · refine vi_const (dec_of DX9_fit 50 rfl) ?_
        refine v_istore_n (dec_of DX9_fit 51 rfl) (by decide) ?_
        dsimp only [List.set]
        refine v_aload_n (dec_of DX9_fit 52 rfl) rfl ?_
        refine v_get fX9_246 (dec_of DX9_fit 53 rfl) rfl rfl ?_
        try simp (disch := decide) only [uN_s, uN_n]
        refine v_istore (dec_of DX9_fit 54 rfl) (by decide) ?_
        dsimp only [List.set]
        refine v_iload_n (dec_of DX9_fit 55 rfl) rfl ?_
        refine vi_if_eq (tgt := 129) (dec_of DX9_fit 56 rfl) (by decide) (by first | omega | exact bnd_r _ _ | exact hG _ _ | exact hK _ | (simp (disch := decide) only [uN_s, uN_n]; omega)) (fun c97 => ?_) (fun c97 => ?_)
        · first | exact f129 _ _ (by unfold twM; omega) (by unfold oM onM twM; omega) | (exfalso; omega)
        · refine v_aload_n (dec_of DX9_fit 57 rfl) rfl ?_
          refine v_iload_n (dec_of DX9_fit 58 rfl) rfl ?_
          refine v_aload_n (dec_of DX9_fit 59 rfl) rfl ?_
          refine v_get fX9_246 (dec_of DX9_fit 60 rfl) rfl rfl ?_
          try simp (disch := decide) only [uN_s, uN_n]
          refine v_V2r (q_acc hG hKL hML hh (by omega)) lX9_253 (dec_of DX9_fit 61 rfl) rfl rfl (by decide) (nle rfl) rfl ?_
          try simp (disch := decide) only [uN_s, uN_n]
          refine v_istore (dec_of DX9_fit 62 rfl) (by decide) ?_
          dsimp only [List.set]
          refine v_iload (dec_of DX9_fit 63 rfl) rfl ?_
          refine vi_if_lt (tgt := 121) (dec_of DX9_fit 64 rfl) (by decide) (by first | omega | exact bnd_r _ _ | exact hG _ _ | exact hK _ | (simp (disch := decide) only [uN_s, uN_n]; omega)) (fun c113 => ?_) (fun c113 => ?_)
          · refine v_aload_n (dec_of DX9_fit 67 rfl) rfl ?_
            refine v_get fX9_246 (dec_of DX9_fit 68 rfl) rfl rfl ?_
            try simp (disch := decide) only [uN_s, uN_n]
            refine vi_const (dec_of DX9_fit 69 rfl) ?_
            refine vi_sub (dec_of DX9_fit 70 rfl) ?_
            refine v_istore (dec_of DX9_fit 71 rfl) (by decide) ?_
            dsimp only [List.set]
            first | exact f129 _ _ (by unfold twM; omega) (by unfold oM onM twM; omega) | (exfalso; omega)
          · refine v_iload (dec_of DX9_fit 65 rfl) rfl ?_
            refine v_goto (tgt := 127) (dec_of DX9_fit 66 rfl) (by decide) ?_
            refine v_istore (dec_of DX9_fit 71 rfl) (by decide) ?_
            dsimp only [List.set]
            first | exact f129 _ _ (by unfold twM; omega) (by unfold oM onM twM; omega) | (exfalso; omega)
      · refine vi_const (dec_of DX9_fit 48 rfl) ?_
        refine v_goto (tgt := 89) (dec_of DX9_fit 49 rfl) (by decide) ?_
        refine v_istore_n (dec_of DX9_fit 51 rfl) (by decide) ?_
        dsimp only [List.set]
        refine v_aload_n (dec_of DX9_fit 52 rfl) rfl ?_
        refine v_get fX9_246 (dec_of DX9_fit 53 rfl) rfl rfl ?_
        try simp (disch := decide) only [uN_s, uN_n]
        refine v_istore (dec_of DX9_fit 54 rfl) (by decide) ?_
        dsimp only [List.set]
        refine v_iload_n (dec_of DX9_fit 55 rfl) rfl ?_
        refine vi_if_eq (tgt := 129) (dec_of DX9_fit 56 rfl) (by decide) (by first | omega | exact bnd_r _ _ | exact hG _ _ | exact hK _ | (simp (disch := decide) only [uN_s, uN_n]; omega)) (fun c97 => ?_) (fun c97 => ?_)
        · first | exact f129 _ _ (by unfold twM; omega) (by unfold oM onM twM; omega) | (exfalso; omega)
        · refine v_aload_n (dec_of DX9_fit 57 rfl) rfl ?_
          refine v_iload_n (dec_of DX9_fit 58 rfl) rfl ?_
          refine v_aload_n (dec_of DX9_fit 59 rfl) rfl ?_
          refine v_get fX9_246 (dec_of DX9_fit 60 rfl) rfl rfl ?_
          try simp (disch := decide) only [uN_s, uN_n]
          refine v_V2r (q_acc hG hKL hML hh (by omega)) lX9_253 (dec_of DX9_fit 61 rfl) rfl rfl (by decide) (nle rfl) rfl ?_
          try simp (disch := decide) only [uN_s, uN_n]
          refine v_istore (dec_of DX9_fit 62 rfl) (by decide) ?_
          dsimp only [List.set]
          refine v_iload (dec_of DX9_fit 63 rfl) rfl ?_
          refine vi_if_lt (tgt := 121) (dec_of DX9_fit 64 rfl) (by decide) (by first | omega | exact bnd_r _ _ | exact hG _ _ | exact hK _ | (simp (disch := decide) only [uN_s, uN_n]; omega)) (fun c113 => ?_) (fun c113 => ?_)
          · refine v_aload_n (dec_of DX9_fit 67 rfl) rfl ?_
            refine v_get fX9_246 (dec_of DX9_fit 68 rfl) rfl rfl ?_
            try simp (disch := decide) only [uN_s, uN_n]
            refine vi_const (dec_of DX9_fit 69 rfl) ?_
            refine vi_sub (dec_of DX9_fit 70 rfl) ?_
            refine v_istore (dec_of DX9_fit 71 rfl) (by decide) ?_
            dsimp only [List.set]
            first | exact f129 _ _ (by unfold twM; omega) (by unfold oM onM twM; omega) | (exfalso; omega)
          · refine v_iload (dec_of DX9_fit 65 rfl) rfl ?_
            refine v_goto (tgt := 127) (dec_of DX9_fit 66 rfl) (by decide) ?_
            refine v_istore (dec_of DX9_fit 71 rfl) (by decide) ?_
            dsimp only [List.set]
            first | exact f129 _ _ (by unfold twM; omega) (by unfold oM onM twM; omega) | (exfalso; omega)
    refine v_aload_n (dec_of DX9_fit 0 rfl) rfl ?_
    refine v_get fX9_98 (dec_of DX9_fit 1 rfl) rfl rfl ?_
    try simp (disch := decide) only [uN_s, uN_n]
    refine v_iload_n (dec_of DX9_fit 2 rfl) rfl ?_
    refine vi_aload (dec_of DX9_fit 3 rfl) rfl (by first | omega | exact bnd_r _ _ | exact hG _ _ | exact hK _ | (simp (disch := decide) only [uN_s, uN_n]; omega)) (by decide) ?_
    try simp (disch := decide) only [uN_s, uN_n]
    refine v_istore_n (dec_of DX9_fit 4 rfl) (by decide) ?_
    dsimp only [List.set]
    refine v_aload_n (dec_of DX9_fit 5 rfl) rfl ?_
    refine vi_const (dec_of DX9_fit 6 rfl) ?_
    refine mp_51 fX9_240 (dec_of DX9_fit 7 rfl) ?_
    refine v_aload_n (dec_of DX9_fit 8 rfl) rfl ?_
    refine vi_bi (dec_of DX9_fit 9 rfl) (by decide) ?_
    refine mp_48 fX9_243 (dec_of DX9_fit 10 rfl) ?_
    refine v_aload_n (dec_of DX9_fit 11 rfl) rfl ?_
    refine vi_bi (dec_of DX9_fit 12 rfl) (by decide) ?_
    refine mp_49 fX9_246 (dec_of DX9_fit 13 rfl) ?_
    refine v_aload_n (dec_of DX9_fit 14 rfl) rfl ?_
    refine vi_const (dec_of DX9_fit 15 rfl) ?_
    refine mp_50 fX9_249 (dec_of DX9_fit 16 rfl) (by omega) ?_
    refine v_iload_n (dec_of DX9_fit 17 rfl) rfl ?_
    refine vi_if_ne (tgt := 34) (dec_of DX9_fit 18 rfl) (by decide) (by first | omega | exact bnd_r _ _ | exact hG _ _ | exact hK _ | (simp (disch := decide) only [uN_s, uN_n]; omega)) (fun c30 => ?_) (fun c30 => absurd c30 (by omega))
    refine v_aload_n (dec_of DX9_fit 20 rfl) rfl ?_
    refine v_aload_n (dec_of DX9_fit 21 rfl) rfl ?_
    refine v_iload_n (dec_of DX9_fit 22 rfl) rfl ?_
    refine v_iload_n (dec_of DX9_fit 23 rfl) rfl ?_
    refine Vd_w (w' := W2 I N F (k0M K) G) rfl ?_
    refine v_V2r (q_acc hG hK0 hM00 hh (by omega)) lX9_253 (dec_of DX9_fit 24 rfl) rfl rfl (by decide) (nle rfl) rfl ?_
    try simp (disch := decide) only [uN_s, uN_n]
    refine mp_49 fX9_246 (dec_of DX9_fit 25 rfl) ?_
    refine v_aload_n (dec_of DX9_fit 26 rfl) rfl ?_
    refine v_aload_n (dec_of DX9_fit 27 rfl) rfl ?_
    refine v_get fX9_246 (dec_of DX9_fit 28 rfl) rfl rfl ?_
    try simp (disch := decide) only [uN_s, uN_n]
    refine vi_if_lt (tgt := 59) (dec_of DX9_fit 29 rfl) (by decide) (by first | omega | exact bnd_r _ _ | exact hG _ _ | exact hK _ | (simp (disch := decide) only [uN_s, uN_n]; omega)) (fun c49 => ?_) (fun c49 => ?_)
    · refine v_iload_n (dec_of DX9_fit 33 rfl) rfl ?_
      refine vi_const (dec_of DX9_fit 34 rfl) ?_
      refine vi_icmp_ne (tgt := 68) (dec_of DX9_fit 35 rfl) (by decide) (by first | omega | exact bnd_r _ _ | exact hG _ _ | exact hK _ | (simp (disch := decide) only [uN_s, uN_n]; omega)) (by first | omega | exact bnd_r _ _ | exact hG _ _ | exact hK _ | (simp (disch := decide) only [uN_s, uN_n]; omega)) (fun c61 => ?_) (fun c61 => ?_)
      · refine v_iload_n (dec_of DX9_fit 38 rfl) rfl ?_
        refine vi_const (dec_of DX9_fit 39 rfl) ?_
        refine vi_sub (dec_of DX9_fit 40 rfl) ?_
        refine mp_49 fX9_246 (dec_of DX9_fit 41 rfl) ?_
        refine Vd_w (w' := W2 I N F (uN (k0M K) 49 (lM G h)) G) (by rw [uN_uu]; congr 3; unfold lM lsP; omega) ?_
        exact f74
      · refine vi_const (dec_of DX9_fit 36 rfl) ?_
        refine v_goto (tgt := 71) (dec_of DX9_fit 37 rfl) (by decide) ?_
        refine mp_49 fX9_246 (dec_of DX9_fit 41 rfl) ?_
        refine Vd_w (w' := W2 I N F (uN (k0M K) 49 (lM G h)) G) (by rw [uN_uu]; congr 3; unfold lM lsP; omega) ?_
        exact f74
    · refine v_aload_n (dec_of DX9_fit 30 rfl) rfl ?_
      refine v_get fX9_246 (dec_of DX9_fit 31 rfl) rfl rfl ?_
      try simp (disch := decide) only [uN_s, uN_n]
      refine v_goto (tgt := 71) (dec_of DX9_fit 32 rfl) (by decide) ?_
      refine mp_49 fX9_246 (dec_of DX9_fit 41 rfl) ?_
      refine Vd_w (w' := W2 I N F (uN (k0M K) 49 (lM G h)) G) (by rw [uN_uu]; congr 3; unfold lM lsP; omega) ?_
      exact f74
