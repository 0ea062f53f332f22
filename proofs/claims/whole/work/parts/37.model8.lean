/-! the reference: tellSign, write (printed by wip/tools/gen_m8.py) -/
theorem moG_n {K : Nat → Int} {G : Nat → Int → Int} {l : List Int} {t : Nat} (h : t ≠ 54) : moG K G l t = G t := uN_n h
theorem moN_n {K : Nat → Int} {l : List Int} {t : Nat} (h : t ≠ 55) : moN K l t = K t := uN_n h
theorem ipL_mo {K : Nat → Int} {G : Nat → Int → Int} {l : List Int} {k : Int} : ∀ (m : Nat) (j : Int), ipL (moG K G l) k m j = ipL G k m j := by
  intro m
  induction m with
  | zero => intro j; rfl
  | succ m ih =>
    intro j
    rw [ipL, ipL, ih, moG_n (by decide), moG_n (by decide), moG_n (by decide)]
set_option maxRecDepth 100000 in
set_option maxHeartbeats 4000000 in
theorem q_t2 {I N : Nat → Int} {F : Nat → Int → Int} {K : Nat → Int} {G : Nat → Int → Int} (hG : FR G) (hK : IR K) (hM : MR K) {k e : Int} (hk : 0 ≤ k ∧ k < 300) (he : 0 ≤ e ∧ e ≤ 300) (h11 : G 11 k = 2)  (hlen : K 55 + ((([97 + G 12 k] ++ [120])).length : Int) ≤ 1700) (hr : ∀ a ∈ ([97 + G 12 k] ++ [120]), -2147483648 ≤ a ∧ a < 2147483648) : Sd (rm 2 44 0 0) mX9_tellSign [.ref 31, J k, J e] (W2 I N F K G) (W2 I N F (moN K (([97 + G 12 k] ++ [120]))) (moG K G (([97 + G 12 k] ++ [120])))) (none) := by
  unfold Sd
  have hM0 := hM
  unfold MR at hM
  simp only [List.length_append, List.length_cons, List.length_nil] at hlen
  refine sp_of (ls := [some (.ref 31), some (J k), some (J e), none, none]) (by decide) (nle rfl) rfl rfl ?_
  refine v_aload_n (dec_of DX9_tellSign 0 rfl) rfl ?_
  refine v_get fX9_37 (dec_of DX9_tellSign 1 rfl) rfl rfl ?_
  try simp (disch := decide) only [uN_s, uN_n, moG_n, moN_n]
  refine v_iload_n (dec_of DX9_tellSign 2 rfl) rfl ?_
  refine vi_aload (dec_of DX9_tellSign 3 rfl) rfl (by first | omega | exact bnd_r _ _ | exact hG _ _ | exact hK _ | (simp (disch := decide) only [uN_s, uN_n]; omega)) (by decide) ?_
  try simp (disch := decide) only [uN_s, uN_n, moG_n, moN_n]
  refine v_istore_n (dec_of DX9_tellSign 4 rfl) (by decide) ?_
  dsimp only [List.set]
  refine v_aload_n (dec_of DX9_tellSign 5 rfl) rfl ?_
  refine v_get fX9_34 (dec_of DX9_tellSign 6 rfl) rfl rfl ?_
  try simp (disch := decide) only [uN_s, uN_n, moG_n, moN_n]
  refine v_iload_n (dec_of DX9_tellSign 7 rfl) rfl ?_
  refine vi_aload (dec_of DX9_tellSign 8 rfl) rfl (by first | omega | exact bnd_r _ _ | exact hG _ _ | exact hK _ | (simp (disch := decide) only [uN_s, uN_n]; omega)) (by decide) ?_
  try simp (disch := decide) only [uN_s, uN_n, moG_n, moN_n]
  rw [h11]
  refine vi_tabIn (tgt := 134) (dec_of DX9_tellSign 9 rfl) (by decide) (by decide) (by decide) rfl (by decide) ?_
  refine v_aload_n (dec_of DX9_tellSign 57 rfl) rfl ?_
  refine vi_bi (dec_of DX9_tellSign 58 rfl) (by decide) ?_
  refine v_iload_n (dec_of DX9_tellSign 59 rfl) rfl ?_
  refine vi_add (dec_of DX9_tellSign 60 rfl) ?_
  refine v_V1v (qw_tell hG hK hM0 (by omega)) lX9_269 (dec_of DX9_tellSign 61 rfl) rfl rfl (by decide) (nle rfl) rfl ?_
  try simp (disch := decide) only [uN_s, uN_n, moG_n, moN_n]
  refine v_aload_n (dec_of DX9_tellSign 62 rfl) rfl ?_
  refine v_aload_n (dec_of DX9_tellSign 63 rfl) rfl ?_
  refine v_get fX9_34 (dec_of DX9_tellSign 64 rfl) rfl rfl ?_
  try simp (disch := decide) only [uN_s, uN_n, moG_n, moN_n]
  refine v_iload_n (dec_of DX9_tellSign 65 rfl) rfl ?_
  refine vi_aload (dec_of DX9_tellSign 66 rfl) rfl (by first | omega | exact bnd_r _ _ | exact hG _ _ | exact hK _ | (simp (disch := decide) only [uN_s, uN_n]; omega)) (by decide) ?_
  try simp (disch := decide) only [uN_s, uN_n, moG_n, moN_n]
  refine vi_const (dec_of DX9_tellSign 67 rfl) ?_
  refine vi_icmp_ne (tgt := 158) (dec_of DX9_tellSign 68 rfl) (by decide) (by first | omega | exact bnd_r _ _ | exact hG _ _ | exact hK _ | (simp (disch := decide) only [uN_s, uN_n]; omega)) (by first | omega | exact bnd_r _ _ | exact hG _ _ | exact hK _ | (simp (disch := decide) only [uN_s, uN_n]; omega)) (fun c150 => absurd c150 (by omega)) (fun c150 => ?_)
  refine vi_bi (dec_of DX9_tellSign 69 rfl) (by decide) ?_
  refine v_goto (tgt := 160) (dec_of DX9_tellSign 70 rfl) (by decide) ?_
  refine v_V1v (qw_tell (FRmo hG (fun a h => hr a (List.mem_append_left _ (h)))) (IRmo hK hM0 (by simp only [List.length_append, List.length_cons, List.length_nil]; omega)) (MRmo hM0 (by simp only [List.length_append, List.length_cons, List.length_nil]; omega)) (by simp only [moN, uN_s, List.length_append, List.length_cons, List.length_nil]; omega)) lX9_269 (dec_of DX9_tellSign 72 rfl) rfl rfl (by decide) (nle rfl) rfl ?_
  try simp (disch := decide) only [uN_s, uN_n, moG_n, moN_n]
  refine Vd_w mo2 ?_
  refine v_goto (tgt := 282) (dec_of DX9_tellSign 73 rfl) (by decide) ?_
  exact vi_vret (dec_of DX9_tellSign 139 rfl) rfl ⟨by decide, by decide⟩ (⟨rfl, rfl⟩)
set_option maxRecDepth 100000 in
set_option maxHeartbeats 4000000 in
theorem q_t3 {I N : Nat → Int} {F : Nat → Int → Int} {K : Nat → Int} {G : Nat → Int → Int} (hG : FR G) (hK : IR K) (hM : MR K) {k e : Int} (hk : 0 ≤ k ∧ k < 300) (he : 0 ≤ e ∧ e ≤ 300) (h11 : G 11 k = 3)  (hlen : K 55 + ((([97 + G 12 k] ++ [121])).length : Int) ≤ 1700) (hr : ∀ a ∈ ([97 + G 12 k] ++ [121]), -2147483648 ≤ a ∧ a < 2147483648) : Sd (rm 2 44 0 0) mX9_tellSign [.ref 31, J k, J e] (W2 I N F K G) (W2 I N F (moN K (([97 + G 12 k] ++ [121]))) (moG K G (([97 + G 12 k] ++ [121])))) (none) := by
  unfold Sd
  have hM0 := hM
  unfold MR at hM
  simp only [List.length_append, List.length_cons, List.length_nil] at hlen
  refine sp_of (ls := [some (.ref 31), some (J k), some (J e), none, none]) (by decide) (nle rfl) rfl rfl ?_
  refine v_aload_n (dec_of DX9_tellSign 0 rfl) rfl ?_
  refine v_get fX9_37 (dec_of DX9_tellSign 1 rfl) rfl rfl ?_
  try simp (disch := decide) only [uN_s, uN_n, moG_n, moN_n]
  refine v_iload_n (dec_of DX9_tellSign 2 rfl) rfl ?_
  refine vi_aload (dec_of DX9_tellSign 3 rfl) rfl (by first | omega | exact bnd_r _ _ | exact hG _ _ | exact hK _ | (simp (disch := decide) only [uN_s, uN_n]; omega)) (by decide) ?_
  try simp (disch := decide) only [uN_s, uN_n, moG_n, moN_n]
  refine v_istore_n (dec_of DX9_tellSign 4 rfl) (by decide) ?_
  dsimp only [List.set]
  refine v_aload_n (dec_of DX9_tellSign 5 rfl) rfl ?_
  refine v_get fX9_34 (dec_of DX9_tellSign 6 rfl) rfl rfl ?_
  try simp (disch := decide) only [uN_s, uN_n, moG_n, moN_n]
  refine v_iload_n (dec_of DX9_tellSign 7 rfl) rfl ?_
  refine vi_aload (dec_of DX9_tellSign 8 rfl) rfl (by first | omega | exact bnd_r _ _ | exact hG _ _ | exact hK _ | (simp (disch := decide) only [uN_s, uN_n]; omega)) (by decide) ?_
  try simp (disch := decide) only [uN_s, uN_n, moG_n, moN_n]
  rw [h11]
  refine vi_tabIn (tgt := 134) (dec_of DX9_tellSign 9 rfl) (by decide) (by decide) (by decide) rfl (by decide) ?_
  refine v_aload_n (dec_of DX9_tellSign 57 rfl) rfl ?_
  refine vi_bi (dec_of DX9_tellSign 58 rfl) (by decide) ?_
  refine v_iload_n (dec_of DX9_tellSign 59 rfl) rfl ?_
  refine vi_add (dec_of DX9_tellSign 60 rfl) ?_
  refine v_V1v (qw_tell hG hK hM0 (by omega)) lX9_269 (dec_of DX9_tellSign 61 rfl) rfl rfl (by decide) (nle rfl) rfl ?_
  try simp (disch := decide) only [uN_s, uN_n, moG_n, moN_n]
  refine v_aload_n (dec_of DX9_tellSign 62 rfl) rfl ?_
  refine v_aload_n (dec_of DX9_tellSign 63 rfl) rfl ?_
  refine v_get fX9_34 (dec_of DX9_tellSign 64 rfl) rfl rfl ?_
  try simp (disch := decide) only [uN_s, uN_n, moG_n, moN_n]
  refine v_iload_n (dec_of DX9_tellSign 65 rfl) rfl ?_
  refine vi_aload (dec_of DX9_tellSign 66 rfl) rfl (by first | omega | exact bnd_r _ _ | exact hG _ _ | exact hK _ | (simp (disch := decide) only [uN_s, uN_n]; omega)) (by decide) ?_
  try simp (disch := decide) only [uN_s, uN_n, moG_n, moN_n]
  refine vi_const (dec_of DX9_tellSign 67 rfl) ?_
  refine vi_icmp_ne (tgt := 158) (dec_of DX9_tellSign 68 rfl) (by decide) (by first | omega | exact bnd_r _ _ | exact hG _ _ | exact hK _ | (simp (disch := decide) only [uN_s, uN_n]; omega)) (by first | omega | exact bnd_r _ _ | exact hG _ _ | exact hK _ | (simp (disch := decide) only [uN_s, uN_n]; omega)) (fun c150 => ?_) (fun c150 => absurd c150 (by omega))
  refine vi_bi (dec_of DX9_tellSign 71 rfl) (by decide) ?_
  refine v_V1v (qw_tell (FRmo hG (fun a h => hr a (List.mem_append_left _ (h)))) (IRmo hK hM0 (by simp only [List.length_append, List.length_cons, List.length_nil]; omega)) (MRmo hM0 (by simp only [List.length_append, List.length_cons, List.length_nil]; omega)) (by simp only [moN, uN_s, List.length_append, List.length_cons, List.length_nil]; omega)) lX9_269 (dec_of DX9_tellSign 72 rfl) rfl rfl (by decide) (nle rfl) rfl ?_
  try simp (disch := decide) only [uN_s, uN_n, moG_n, moN_n]
  refine Vd_w mo2 ?_
  refine v_goto (tgt := 282) (dec_of DX9_tellSign 73 rfl) (by decide) ?_
  exact vi_vret (dec_of DX9_tellSign 139 rfl) rfl ⟨by decide, by decide⟩ (⟨rfl, rfl⟩)
set_option maxRecDepth 100000 in
set_option maxHeartbeats 4000000 in
theorem q_t4f {I N : Nat → Int} {F : Nat → Int → Int} {K : Nat → Int} {G : Nat → Int → Int} (hG : FR G) (hK : IR K) (hM : MR K) {k e : Int} (hk : 0 ≤ k ∧ k < 300) (he : 0 ≤ e ∧ e ≤ 300) (h11 : G 11 k = 4) (hv : 9 < G 12 k) (hv0 : 0 ≤ G 12 k ∧ G 12 k ≤ 100) (hlen : K 55 + ((([102] ++ [48 + G 12 k % 10])).length : Int) ≤ 1700) (hr : ∀ a ∈ ([102] ++ [48 + G 12 k % 10]), -2147483648 ≤ a ∧ a < 2147483648) : Sd (rm 2 44 0 0) mX9_tellSign [.ref 31, J k, J e] (W2 I N F K G) (W2 I N F (moN K (([102] ++ [48 + G 12 k % 10]))) (moG K G (([102] ++ [48 + G 12 k % 10])))) (none) := by
  unfold Sd
  have hM0 := hM
  unfold MR at hM
  simp only [List.length_append, List.length_cons, List.length_nil] at hlen
  refine sp_of (ls := [some (.ref 31), some (J k), some (J e), none, none]) (by decide) (nle rfl) rfl rfl ?_
  refine v_aload_n (dec_of DX9_tellSign 0 rfl) rfl ?_
  refine v_get fX9_37 (dec_of DX9_tellSign 1 rfl) rfl rfl ?_
  try simp (disch := decide) only [uN_s, uN_n, moG_n, moN_n]
  refine v_iload_n (dec_of DX9_tellSign 2 rfl) rfl ?_
  refine vi_aload (dec_of DX9_tellSign 3 rfl) rfl (by first | omega | exact bnd_r _ _ | exact hG _ _ | exact hK _ | (simp (disch := decide) only [uN_s, uN_n]; omega)) (by decide) ?_
  try simp (disch := decide) only [uN_s, uN_n, moG_n, moN_n]
  refine v_istore_n (dec_of DX9_tellSign 4 rfl) (by decide) ?_
  dsimp only [List.set]
  refine v_aload_n (dec_of DX9_tellSign 5 rfl) rfl ?_
  refine v_get fX9_34 (dec_of DX9_tellSign 6 rfl) rfl rfl ?_
  try simp (disch := decide) only [uN_s, uN_n, moG_n, moN_n]
  refine v_iload_n (dec_of DX9_tellSign 7 rfl) rfl ?_
  refine vi_aload (dec_of DX9_tellSign 8 rfl) rfl (by first | omega | exact bnd_r _ _ | exact hG _ _ | exact hK _ | (simp (disch := decide) only [uN_s, uN_n]; omega)) (by decide) ?_
  try simp (disch := decide) only [uN_s, uN_n, moG_n, moN_n]
  rw [h11]
  refine vi_tabIn (tgt := 166) (dec_of DX9_tellSign 9 rfl) (by decide) (by decide) (by decide) rfl (by decide) ?_
  refine v_aload_n (dec_of DX9_tellSign 74 rfl) rfl ?_
  refine v_iload_n (dec_of DX9_tellSign 75 rfl) rfl ?_
  refine vi_bi (dec_of DX9_tellSign 76 rfl) (by decide) ?_
  refine vi_icmp_le (tgt := 178) (dec_of DX9_tellSign 77 rfl) (by decide) (by first | omega | exact bnd_r _ _ | exact hG _ _ | exact hK _ | (simp (disch := decide) only [uN_s, uN_n]; omega)) (by first | omega | exact bnd_r _ _ | exact hG _ _ | exact hK _ | (simp (disch := decide) only [uN_s, uN_n]; omega)) (fun c170 => absurd c170 (by omega)) (fun c170 => ?_)
  refine vi_bi (dec_of DX9_tellSign 78 rfl) (by decide) ?_
  refine v_goto (tgt := 180) (dec_of DX9_tellSign 79 rfl) (by decide) ?_
  refine v_V1v (qw_tell hG hK hM0 (by omega)) lX9_269 (dec_of DX9_tellSign 81 rfl) rfl rfl (by decide) (nle rfl) rfl ?_
  try simp (disch := decide) only [uN_s, uN_n, moG_n, moN_n]
  refine v_aload_n (dec_of DX9_tellSign 82 rfl) rfl ?_
  refine vi_bi (dec_of DX9_tellSign 83 rfl) (by decide) ?_
  refine v_iload_n (dec_of DX9_tellSign 84 rfl) rfl ?_
  refine vi_bi (dec_of DX9_tellSign 85 rfl) (by decide) ?_
  refine vi_rem (by first | omega | exact bnd_r _ _ | exact hG _ _ | exact hK _ | (simp (disch := decide) only [uN_s, uN_n]; omega)) (by first | omega | exact bnd_r _ _ | exact hG _ _ | exact hK _ | (simp (disch := decide) only [uN_s, uN_n]; omega)) (dec_of DX9_tellSign 86 rfl) ?_
  rw [Int.tmod_eq_emod_of_nonneg hv0.1]
  refine vi_add (dec_of DX9_tellSign 87 rfl) ?_
  refine v_V1v (qw_tell (FRmo hG (fun a h => hr a (List.mem_append_left _ (h)))) (IRmo hK hM0 (by simp only [List.length_append, List.length_cons, List.length_nil]; omega)) (MRmo hM0 (by simp only [List.length_append, List.length_cons, List.length_nil]; omega)) (by simp only [moN, uN_s, List.length_append, List.length_cons, List.length_nil]; omega)) lX9_269 (dec_of DX9_tellSign 88 rfl) rfl rfl (by decide) (nle rfl) rfl ?_
  try simp (disch := decide) only [uN_s, uN_n, moG_n, moN_n]
  refine Vd_w mo2 ?_
  refine v_goto (tgt := 282) (dec_of DX9_tellSign 89 rfl) (by decide) ?_
  exact vi_vret (dec_of DX9_tellSign 139 rfl) rfl ⟨by decide, by decide⟩ (⟨rfl, rfl⟩)
set_option maxRecDepth 100000 in
set_option maxHeartbeats 4000000 in
theorem q_t4c {I N : Nat → Int} {F : Nat → Int → Int} {K : Nat → Int} {G : Nat → Int → Int} (hG : FR G) (hK : IR K) (hM : MR K) {k e : Int} (hk : 0 ≤ k ∧ k < 300) (he : 0 ≤ e ∧ e ≤ 300) (h11 : G 11 k = 4) (hv : ¬ 9 < G 12 k) (hv0 : 0 ≤ G 12 k ∧ G 12 k ≤ 100) (hlen : K 55 + ((([99] ++ [48 + G 12 k % 10])).length : Int) ≤ 1700) (hr : ∀ a ∈ ([99] ++ [48 + G 12 k % 10]), -2147483648 ≤ a ∧ a < 2147483648) : Sd (rm 2 44 0 0) mX9_tellSign [.ref 31, J k, J e] (W2 I N F K G) (W2 I N F (moN K (([99] ++ [48 + G 12 k % 10]))) (moG K G (([99] ++ [48 + G 12 k % 10])))) (none) := by
  unfold Sd
  have hM0 := hM
  unfold MR at hM
  simp only [List.length_append, List.length_cons, List.length_nil] at hlen
  refine sp_of (ls := [some (.ref 31), some (J k), some (J e), none, none]) (by decide) (nle rfl) rfl rfl ?_
  refine v_aload_n (dec_of DX9_tellSign 0 rfl) rfl ?_
  refine v_get fX9_37 (dec_of DX9_tellSign 1 rfl) rfl rfl ?_
  try simp (disch := decide) only [uN_s, uN_n, moG_n, moN_n]
  refine v_iload_n (dec_of DX9_tellSign 2 rfl) rfl ?_
  refine vi_aload (dec_of DX9_tellSign 3 rfl) rfl (by first | omega | exact bnd_r _ _ | exact hG _ _ | exact hK _ | (simp (disch := decide) only [uN_s, uN_n]; omega)) (by decide) ?_
  try simp (disch := decide) only [uN_s, uN_n, moG_n, moN_n]
  refine v_istore_n (dec_of DX9_tellSign 4 rfl) (by decide) ?_
  dsimp only [List.set]
  refine v_aload_n (dec_of DX9_tellSign 5 rfl) rfl ?_
  refine v_get fX9_34 (dec_of DX9_tellSign 6 rfl) rfl rfl ?_
  try simp (disch := decide) only [uN_s, uN_n, moG_n, moN_n]
  refine v_iload_n (dec_of DX9_tellSign 7 rfl) rfl ?_
  refine vi_aload (dec_of DX9_tellSign 8 rfl) rfl (by first | omega | exact bnd_r _ _ | exact hG _ _ | exact hK _ | (simp (disch := decide) only [uN_s, uN_n]; omega)) (by decide) ?_
  try simp (disch := decide) only [uN_s, uN_n, moG_n, moN_n]
  rw [h11]
  refine vi_tabIn (tgt := 166) (dec_of DX9_tellSign 9 rfl) (by decide) (by decide) (by decide) rfl (by decide) ?_
  refine v_aload_n (dec_of DX9_tellSign 74 rfl) rfl ?_
  refine v_iload_n (dec_of DX9_tellSign 75 rfl) rfl ?_
  refine vi_bi (dec_of DX9_tellSign 76 rfl) (by decide) ?_
  refine vi_icmp_le (tgt := 178) (dec_of DX9_tellSign 77 rfl) (by decide) (by first | omega | exact bnd_r _ _ | exact hG _ _ | exact hK _ | (simp (disch := decide) only [uN_s, uN_n]; omega)) (by first | omega | exact bnd_r _ _ | exact hG _ _ | exact hK _ | (simp (disch := decide) only [uN_s, uN_n]; omega)) (fun c170 => ?_) (fun c170 => absurd c170 (by omega))
  refine vi_bi (dec_of DX9_tellSign 80 rfl) (by decide) ?_
  refine v_V1v (qw_tell hG hK hM0 (by omega)) lX9_269 (dec_of DX9_tellSign 81 rfl) rfl rfl (by decide) (nle rfl) rfl ?_
  try simp (disch := decide) only [uN_s, uN_n, moG_n, moN_n]
  refine v_aload_n (dec_of DX9_tellSign 82 rfl) rfl ?_
  refine vi_bi (dec_of DX9_tellSign 83 rfl) (by decide) ?_
  refine v_iload_n (dec_of DX9_tellSign 84 rfl) rfl ?_
  refine vi_bi (dec_of DX9_tellSign 85 rfl) (by decide) ?_
  refine vi_rem (by first | omega | exact bnd_r _ _ | exact hG _ _ | exact hK _ | (simp (disch := decide) only [uN_s, uN_n]; omega)) (by first | omega | exact bnd_r _ _ | exact hG _ _ | exact hK _ | (simp (disch := decide) only [uN_s, uN_n]; omega)) (dec_of DX9_tellSign 86 rfl) ?_
  rw [Int.tmod_eq_emod_of_nonneg hv0.1]
  refine vi_add (dec_of DX9_tellSign 87 rfl) ?_
  refine v_V1v (qw_tell (FRmo hG (fun a h => hr a (List.mem_append_left _ (h)))) (IRmo hK hM0 (by simp only [List.length_append, List.length_cons, List.length_nil]; omega)) (MRmo hM0 (by simp only [List.length_append, List.length_cons, List.length_nil]; omega)) (by simp only [moN, uN_s, List.length_append, List.length_cons, List.length_nil]; omega)) lX9_269 (dec_of DX9_tellSign 88 rfl) rfl rfl (by decide) (nle rfl) rfl ?_
  try simp (disch := decide) only [uN_s, uN_n, moG_n, moN_n]
  refine Vd_w mo2 ?_
  refine v_goto (tgt := 282) (dec_of DX9_tellSign 89 rfl) (by decide) ?_
  exact vi_vret (dec_of DX9_tellSign 139 rfl) rfl ⟨by decide, by decide⟩ (⟨rfl, rfl⟩)
set_option maxRecDepth 100000 in
set_option maxHeartbeats 4000000 in
theorem q_t6 {I N : Nat → Int} {F : Nat → Int → Int} {K : Nat → Int} {G : Nat → Int → Int} (hG : FR G) (hK : IR K) (hM : MR K) {k e : Int} (hk : 0 ≤ k ∧ k < 300) (he : 0 ≤ e ∧ e ≤ 300) (h11 : ¬ (1 ≤ G 11 k ∧ G 11 k ≤ 5))  (hlen : K 55 + (([122]).length : Int) ≤ 1700) (hr : ∀ a ∈ [122], -2147483648 ≤ a ∧ a < 2147483648) : Sd (rm 2 44 0 0) mX9_tellSign [.ref 31, J k, J e] (W2 I N F K G) (W2 I N F (moN K ([122])) (moG K G ([122]))) (none) := by
  unfold Sd
  have hM0 := hM
  unfold MR at hM
  simp only [List.length_append, List.length_cons, List.length_nil] at hlen
  refine sp_of (ls := [some (.ref 31), some (J k), some (J e), none, none]) (by decide) (nle rfl) rfl rfl ?_
  refine v_aload_n (dec_of DX9_tellSign 0 rfl) rfl ?_
  refine v_get fX9_37 (dec_of DX9_tellSign 1 rfl) rfl rfl ?_
  try simp (disch := decide) only [uN_s, uN_n, moG_n, moN_n]
  refine v_iload_n (dec_of DX9_tellSign 2 rfl) rfl ?_
  refine vi_aload (dec_of DX9_tellSign 3 rfl) rfl (by first | omega | exact bnd_r _ _ | exact hG _ _ | exact hK _ | (simp (disch := decide) only [uN_s, uN_n]; omega)) (by decide) ?_
  try simp (disch := decide) only [uN_s, uN_n, moG_n, moN_n]
  refine v_istore_n (dec_of DX9_tellSign 4 rfl) (by decide) ?_
  dsimp only [List.set]
  refine v_aload_n (dec_of DX9_tellSign 5 rfl) rfl ?_
  refine v_get fX9_34 (dec_of DX9_tellSign 6 rfl) rfl rfl ?_
  try simp (disch := decide) only [uN_s, uN_n, moG_n, moN_n]
  refine v_iload_n (dec_of DX9_tellSign 7 rfl) rfl ?_
  refine vi_aload (dec_of DX9_tellSign 8 rfl) rfl (by first | omega | exact bnd_r _ _ | exact hG _ _ | exact hK _ | (simp (disch := decide) only [uN_s, uN_n]; omega)) (by decide) ?_
  try simp (disch := decide) only [uN_s, uN_n, moG_n, moN_n]
  refine vi_tabOut (tgt := 276) (dec_of DX9_tellSign 9 rfl) (hG _ _) (by omega) (by decide) ?_
  refine v_aload_n (dec_of DX9_tellSign 136 rfl) rfl ?_
  refine vi_bi (dec_of DX9_tellSign 137 rfl) (by decide) ?_
  refine v_V1v (qw_tell hG hK hM0 (by omega)) lX9_269 (dec_of DX9_tellSign 138 rfl) rfl rfl (by decide) (nle rfl) rfl ?_
  try simp (disch := decide) only [uN_s, uN_n, moG_n, moN_n]
  exact vi_vret (dec_of DX9_tellSign 139 rfl) rfl ⟨by decide, by decide⟩ (⟨rfl, rfl⟩)
set_option maxRecDepth 100000 in
set_option maxHeartbeats 4000000 in
theorem q_t5_1 {I N : Nat → Int} {F : Nat → Int → Int} {K : Nat → Int} {G : Nat → Int → Int} (hG : FR G) (hK : IR K) (hM : MR K) {k e : Int} (hk : 0 ≤ k ∧ k < 300) (he : 0 ≤ e ∧ e ≤ 300) (h11 : G 11 k = 5) (hv : G 12 k = 1) (hs : ¬ (G 12 k = 3 ∧ k + 1 < e ∧ G 11 (k + 1) = 5 ∧ 3 ≤ G 12 (k + 1))) (hlen : K 55 + ((([44] ++ wMk (G 12 k) 58 4)).length : Int) ≤ 1700) (hr : ∀ a ∈ ([44] ++ wMk (G 12 k) 58 4), -2147483648 ≤ a ∧ a < 2147483648) : Sd (rm 2 44 0 0) mX9_tellSign [.ref 31, J k, J e] (W2 I N F K G) (W2 I N F (moN K (([44] ++ wMk (G 12 k) 58 4))) (moG K G (([44] ++ wMk (G 12 k) 58 4)))) (none) := by
  unfold Sd
  have hM0 := hM
  unfold MR at hM
  simp only [List.length_append, List.length_cons, List.length_nil] at hlen
  refine sp_of (ls := [some (.ref 31), some (J k), some (J e), none, none]) (by decide) (nle rfl) rfl rfl ?_
  refine v_aload_n (dec_of DX9_tellSign 0 rfl) rfl ?_
  refine v_get fX9_37 (dec_of DX9_tellSign 1 rfl) rfl rfl ?_
  try simp (disch := decide) only [uN_s, uN_n, moG_n, moN_n]
  refine v_iload_n (dec_of DX9_tellSign 2 rfl) rfl ?_
  refine vi_aload (dec_of DX9_tellSign 3 rfl) rfl (by first | omega | exact bnd_r _ _ | exact hG _ _ | exact hK _ | (simp (disch := decide) only [uN_s, uN_n]; omega)) (by decide) ?_
  try simp (disch := decide) only [uN_s, uN_n, moG_n, moN_n]
  refine v_istore_n (dec_of DX9_tellSign 4 rfl) (by decide) ?_
  dsimp only [List.set]
  refine v_aload_n (dec_of DX9_tellSign 5 rfl) rfl ?_
  refine v_get fX9_34 (dec_of DX9_tellSign 6 rfl) rfl rfl ?_
  try simp (disch := decide) only [uN_s, uN_n, moG_n, moN_n]
  refine v_iload_n (dec_of DX9_tellSign 7 rfl) rfl ?_
  refine vi_aload (dec_of DX9_tellSign 8 rfl) rfl (by first | omega | exact bnd_r _ _ | exact hG _ _ | exact hK _ | (simp (disch := decide) only [uN_s, uN_n]; omega)) (by decide) ?_
  try simp (disch := decide) only [uN_s, uN_n, moG_n, moN_n]
  rw [h11]
  refine vi_tabIn (tgt := 197) (dec_of DX9_tellSign 9 rfl) (by decide) (by decide) (by decide) rfl (by decide) ?_
  refine v_aload_n (dec_of DX9_tellSign 90 rfl) rfl ?_
  refine v_iload_n (dec_of DX9_tellSign 91 rfl) rfl ?_
  refine vi_const (dec_of DX9_tellSign 92 rfl) ?_
  refine vi_icmp_ne (tgt := 208) (dec_of DX9_tellSign 93 rfl) (by decide) (by first | omega | exact bnd_r _ _ | exact hG _ _ | exact hK _ | (simp (disch := decide) only [uN_s, uN_n]; omega)) (by first | omega | exact bnd_r _ _ | exact hG _ _ | exact hK _ | (simp (disch := decide) only [uN_s, uN_n]; omega)) (fun c200 => absurd c200 (by omega)) (fun c200 => ?_)
  refine vi_bi (dec_of DX9_tellSign 94 rfl) (by decide) ?_
  refine v_goto (tgt := 220) (dec_of DX9_tellSign 95 rfl) (by decide) ?_
  refine v_V1v (qw_tell hG hK hM0 (by omega)) lX9_269 (dec_of DX9_tellSign 102 rfl) rfl rfl (by decide) (nle rfl) rfl ?_
  try simp (disch := decide) only [uN_s, uN_n, moG_n, moN_n]
  refine v_aload_n (dec_of DX9_tellSign 103 rfl) rfl ?_
  refine vi_bi (dec_of DX9_tellSign 104 rfl) (by decide) ?_
  refine v_iload_n (dec_of DX9_tellSign 105 rfl) rfl ?_
  refine vi_const (dec_of DX9_tellSign 106 rfl) ?_
  refine v_V3v (q_tellIf (K := (moN K ([44]))) (G := (moG K G ([44]))) (m := G 12 k) (c := 58) (b := 4) (FRmo hG (fun a h => hr a (List.mem_append_left _ (h)))) (IRmo hK hM0 (by simp only [List.length_append, List.length_cons, List.length_nil]; omega)) (MRmo hM0 (by simp only [List.length_append, List.length_cons, List.length_nil]; omega)) (by simp only [moN, uN_s, List.length_append, List.length_cons, List.length_nil]; omega) (fun a h => hr a (List.mem_append_right _ h))) lX9_272 (dec_of DX9_tellSign 107 rfl) rfl rfl (by decide) (nle rfl) rfl ?_
  try simp (disch := decide) only [uN_s, uN_n, moG_n, moN_n]
  refine Vd_w mo2 ?_
  refine v_iload_n (dec_of DX9_tellSign 108 rfl) rfl ?_
  refine vi_const (dec_of DX9_tellSign 109 rfl) ?_
  refine vi_icmp_ne (tgt := 282) (dec_of DX9_tellSign 110 rfl) (by decide) (by first | omega | exact bnd_r _ _ | exact hG _ _ | exact hK _ | (simp (disch := decide) only [uN_s, uN_n]; omega)) (by first | omega | exact bnd_r _ _ | exact hG _ _ | exact hK _ | (simp (disch := decide) only [uN_s, uN_n]; omega)) (fun c233 => ?_) (fun c233 => ?_)
  · exact vi_vret (dec_of DX9_tellSign 139 rfl) rfl ⟨by decide, by decide⟩ (⟨rfl, rfl⟩)
  · refine v_iload_n (dec_of DX9_tellSign 111 rfl) rfl ?_
    refine vi_const (dec_of DX9_tellSign 112 rfl) ?_
    refine vi_add (dec_of DX9_tellSign 113 rfl) ?_
    refine v_iload_n (dec_of DX9_tellSign 114 rfl) rfl ?_
    refine vi_icmp_ge (tgt := 282) (dec_of DX9_tellSign 115 rfl) (by decide) (by first | omega | exact bnd_r _ _ | exact hG _ _ | exact hK _ | (simp (disch := decide) only [uN_s, uN_n]; omega)) (by first | omega | exact bnd_r _ _ | exact hG _ _ | exact hK _ | (simp (disch := decide) only [uN_s, uN_n]; omega)) (fun c240 => ?_) (fun c240 => ?_)
    · exact vi_vret (dec_of DX9_tellSign 139 rfl) rfl ⟨by decide, by decide⟩ (⟨rfl, rfl⟩)
    · refine v_aload_n (dec_of DX9_tellSign 116 rfl) rfl ?_
      refine v_get fX9_34 (dec_of DX9_tellSign 117 rfl) rfl rfl ?_
      try simp (disch := decide) only [uN_s, uN_n, moG_n, moN_n]
      refine v_iload_n (dec_of DX9_tellSign 118 rfl) rfl ?_
      refine vi_const (dec_of DX9_tellSign 119 rfl) ?_
      refine vi_add (dec_of DX9_tellSign 120 rfl) ?_
      refine vi_aload (dec_of DX9_tellSign 121 rfl) rfl (by first | omega | exact bnd_r _ _ | exact hG _ _ | exact hK _ | (simp (disch := decide) only [uN_s, uN_n]; omega)) (by decide) ?_
      try simp (disch := decide) only [uN_s, uN_n, moG_n, moN_n]
      refine vi_const (dec_of DX9_tellSign 122 rfl) ?_
      refine vi_icmp_ne (tgt := 282) (dec_of DX9_tellSign 123 rfl) (by decide) (by first | omega | exact bnd_r _ _ | exact hG _ _ | exact hK _ | (simp (disch := decide) only [uN_s, uN_n]; omega)) (by first | omega | exact bnd_r _ _ | exact hG _ _ | exact hK _ | (simp (disch := decide) only [uN_s, uN_n]; omega)) (fun c252 => ?_) (fun c252 => ?_)
      · exact vi_vret (dec_of DX9_tellSign 139 rfl) rfl ⟨by decide, by decide⟩ (⟨rfl, rfl⟩)
      · refine v_aload_n (dec_of DX9_tellSign 124 rfl) rfl ?_
        refine v_get fX9_37 (dec_of DX9_tellSign 125 rfl) rfl rfl ?_
        try simp (disch := decide) only [uN_s, uN_n, moG_n, moN_n]
        refine v_iload_n (dec_of DX9_tellSign 126 rfl) rfl ?_
        refine vi_const (dec_of DX9_tellSign 127 rfl) ?_
        refine vi_add (dec_of DX9_tellSign 128 rfl) ?_
        refine vi_aload (dec_of DX9_tellSign 129 rfl) rfl (by first | omega | exact bnd_r _ _ | exact hG _ _ | exact hK _ | (simp (disch := decide) only [uN_s, uN_n]; omega)) (by decide) ?_
        try simp (disch := decide) only [uN_s, uN_n, moG_n, moN_n]
        refine vi_const (dec_of DX9_tellSign 130 rfl) ?_
        refine vi_icmp_lt (tgt := 282) (dec_of DX9_tellSign 131 rfl) (by decide) (by first | omega | exact bnd_r _ _ | exact hG _ _ | exact hK _ | (simp (disch := decide) only [uN_s, uN_n]; omega)) (by first | omega | exact bnd_r _ _ | exact hG _ _ | exact hK _ | (simp (disch := decide) only [uN_s, uN_n]; omega)) (fun c264 => ?_) (fun c264 => ?_)
        · exact vi_vret (dec_of DX9_tellSign 139 rfl) rfl ⟨by decide, by decide⟩ (⟨rfl, rfl⟩)
        · exact absurd (by omega) hs
set_option maxRecDepth 100000 in
set_option maxHeartbeats 4000000 in
theorem q_t5_2 {I N : Nat → Int} {F : Nat → Int → Int} {K : Nat → Int} {G : Nat → Int → Int} (hG : FR G) (hK : IR K) (hM : MR K) {k e : Int} (hk : 0 ≤ k ∧ k < 300) (he : 0 ≤ e ∧ e ≤ 300) (h11 : G 11 k = 5) (hv : G 12 k = 2) (hs : ¬ (G 12 k = 3 ∧ k + 1 < e ∧ G 11 (k + 1) = 5 ∧ 3 ≤ G 12 (k + 1))) (hlen : K 55 + ((([59] ++ wMk (G 12 k) 58 4)).length : Int) ≤ 1700) (hr : ∀ a ∈ ([59] ++ wMk (G 12 k) 58 4), -2147483648 ≤ a ∧ a < 2147483648) : Sd (rm 2 44 0 0) mX9_tellSign [.ref 31, J k, J e] (W2 I N F K G) (W2 I N F (moN K (([59] ++ wMk (G 12 k) 58 4))) (moG K G (([59] ++ wMk (G 12 k) 58 4)))) (none) := by
  unfold Sd
  have hM0 := hM
  unfold MR at hM
  simp only [List.length_append, List.length_cons, List.length_nil] at hlen
  refine sp_of (ls := [some (.ref 31), some (J k), some (J e), none, none]) (by decide) (nle rfl) rfl rfl ?_
  refine v_aload_n (dec_of DX9_tellSign 0 rfl) rfl ?_
  refine v_get fX9_37 (dec_of DX9_tellSign 1 rfl) rfl rfl ?_
  try simp (disch := decide) only [uN_s, uN_n, moG_n, moN_n]
  refine v_iload_n (dec_of DX9_tellSign 2 rfl) rfl ?_
  refine vi_aload (dec_of DX9_tellSign 3 rfl) rfl (by first | omega | exact bnd_r _ _ | exact hG _ _ | exact hK _ | (simp (disch := decide) only [uN_s, uN_n]; omega)) (by decide) ?_
  try simp (disch := decide) only [uN_s, uN_n, moG_n, moN_n]
  refine v_istore_n (dec_of DX9_tellSign 4 rfl) (by decide) ?_
  dsimp only [List.set]
  refine v_aload_n (dec_of DX9_tellSign 5 rfl) rfl ?_
  refine v_get fX9_34 (dec_of DX9_tellSign 6 rfl) rfl rfl ?_
  try simp (disch := decide) only [uN_s, uN_n, moG_n, moN_n]
  refine v_iload_n (dec_of DX9_tellSign 7 rfl) rfl ?_
  refine vi_aload (dec_of DX9_tellSign 8 rfl) rfl (by first | omega | exact bnd_r _ _ | exact hG _ _ | exact hK _ | (simp (disch := decide) only [uN_s, uN_n]; omega)) (by decide) ?_
  try simp (disch := decide) only [uN_s, uN_n, moG_n, moN_n]
  rw [h11]
  refine vi_tabIn (tgt := 197) (dec_of DX9_tellSign 9 rfl) (by decide) (by decide) (by decide) rfl (by decide) ?_
  refine v_aload_n (dec_of DX9_tellSign 90 rfl) rfl ?_
  refine v_iload_n (dec_of DX9_tellSign 91 rfl) rfl ?_
  refine vi_const (dec_of DX9_tellSign 92 rfl) ?_
  refine vi_icmp_ne (tgt := 208) (dec_of DX9_tellSign 93 rfl) (by decide) (by first | omega | exact bnd_r _ _ | exact hG _ _ | exact hK _ | (simp (disch := decide) only [uN_s, uN_n]; omega)) (by first | omega | exact bnd_r _ _ | exact hG _ _ | exact hK _ | (simp (disch := decide) only [uN_s, uN_n]; omega)) (fun c200 => ?_) (fun c200 => absurd c200 (by omega))
  refine v_iload_n (dec_of DX9_tellSign 96 rfl) rfl ?_
  refine vi_const (dec_of DX9_tellSign 97 rfl) ?_
  refine vi_icmp_ne (tgt := 218) (dec_of DX9_tellSign 98 rfl) (by decide) (by first | omega | exact bnd_r _ _ | exact hG _ _ | exact hK _ | (simp (disch := decide) only [uN_s, uN_n]; omega)) (by first | omega | exact bnd_r _ _ | exact hG _ _ | exact hK _ | (simp (disch := decide) only [uN_s, uN_n]; omega)) (fun c210 => absurd c210 (by omega)) (fun c210 => ?_)
  refine vi_bi (dec_of DX9_tellSign 99 rfl) (by decide) ?_
  refine v_goto (tgt := 220) (dec_of DX9_tellSign 100 rfl) (by decide) ?_
  refine v_V1v (qw_tell hG hK hM0 (by omega)) lX9_269 (dec_of DX9_tellSign 102 rfl) rfl rfl (by decide) (nle rfl) rfl ?_
  try simp (disch := decide) only [uN_s, uN_n, moG_n, moN_n]
  refine v_aload_n (dec_of DX9_tellSign 103 rfl) rfl ?_
  refine vi_bi (dec_of DX9_tellSign 104 rfl) (by decide) ?_
  refine v_iload_n (dec_of DX9_tellSign 105 rfl) rfl ?_
  refine vi_const (dec_of DX9_tellSign 106 rfl) ?_
  refine v_V3v (q_tellIf (K := (moN K ([59]))) (G := (moG K G ([59]))) (m := G 12 k) (c := 58) (b := 4) (FRmo hG (fun a h => hr a (List.mem_append_left _ (h)))) (IRmo hK hM0 (by simp only [List.length_append, List.length_cons, List.length_nil]; omega)) (MRmo hM0 (by simp only [List.length_append, List.length_cons, List.length_nil]; omega)) (by simp only [moN, uN_s, List.length_append, List.length_cons, List.length_nil]; omega) (fun a h => hr a (List.mem_append_right _ h))) lX9_272 (dec_of DX9_tellSign 107 rfl) rfl rfl (by decide) (nle rfl) rfl ?_
  try simp (disch := decide) only [uN_s, uN_n, moG_n, moN_n]
  refine Vd_w mo2 ?_
  refine v_iload_n (dec_of DX9_tellSign 108 rfl) rfl ?_
  refine vi_const (dec_of DX9_tellSign 109 rfl) ?_
  refine vi_icmp_ne (tgt := 282) (dec_of DX9_tellSign 110 rfl) (by decide) (by first | omega | exact bnd_r _ _ | exact hG _ _ | exact hK _ | (simp (disch := decide) only [uN_s, uN_n]; omega)) (by first | omega | exact bnd_r _ _ | exact hG _ _ | exact hK _ | (simp (disch := decide) only [uN_s, uN_n]; omega)) (fun c233 => ?_) (fun c233 => ?_)
  · exact vi_vret (dec_of DX9_tellSign 139 rfl) rfl ⟨by decide, by decide⟩ (⟨rfl, rfl⟩)
  · refine v_iload_n (dec_of DX9_tellSign 111 rfl) rfl ?_
    refine vi_const (dec_of DX9_tellSign 112 rfl) ?_
    refine vi_add (dec_of DX9_tellSign 113 rfl) ?_
    refine v_iload_n (dec_of DX9_tellSign 114 rfl) rfl ?_
    refine vi_icmp_ge (tgt := 282) (dec_of DX9_tellSign 115 rfl) (by decide) (by first | omega | exact bnd_r _ _ | exact hG _ _ | exact hK _ | (simp (disch := decide) only [uN_s, uN_n]; omega)) (by first | omega | exact bnd_r _ _ | exact hG _ _ | exact hK _ | (simp (disch := decide) only [uN_s, uN_n]; omega)) (fun c240 => ?_) (fun c240 => ?_)
    · exact vi_vret (dec_of DX9_tellSign 139 rfl) rfl ⟨by decide, by decide⟩ (⟨rfl, rfl⟩)
    · refine v_aload_n (dec_of DX9_tellSign 116 rfl) rfl ?_
      refine v_get fX9_34 (dec_of DX9_tellSign 117 rfl) rfl rfl ?_
      try simp (disch := decide) only [uN_s, uN_n, moG_n, moN_n]
      refine v_iload_n (dec_of DX9_tellSign 118 rfl) rfl ?_
      refine vi_const (dec_of DX9_tellSign 119 rfl) ?_
      refine vi_add (dec_of DX9_tellSign 120 rfl) ?_
      refine vi_aload (dec_of DX9_tellSign 121 rfl) rfl (by first | omega | exact bnd_r _ _ | exact hG _ _ | exact hK _ | (simp (disch := decide) only [uN_s, uN_n]; omega)) (by decide) ?_
      try simp (disch := decide) only [uN_s, uN_n, moG_n, moN_n]
      refine vi_const (dec_of DX9_tellSign 122 rfl) ?_
      refine vi_icmp_ne (tgt := 282) (dec_of DX9_tellSign 123 rfl) (by decide) (by first | omega | exact bnd_r _ _ | exact hG _ _ | exact hK _ | (simp (disch := decide) only [uN_s, uN_n]; omega)) (by first | omega | exact bnd_r _ _ | exact hG _ _ | exact hK _ | (simp (disch := decide) only [uN_s, uN_n]; omega)) (fun c252 => ?_) (fun c252 => ?_)
      · exact vi_vret (dec_of DX9_tellSign 139 rfl) rfl ⟨by decide, by decide⟩ (⟨rfl, rfl⟩)
      · refine v_aload_n (dec_of DX9_tellSign 124 rfl) rfl ?_
        refine v_get fX9_37 (dec_of DX9_tellSign 125 rfl) rfl rfl ?_
        try simp (disch := decide) only [uN_s, uN_n, moG_n, moN_n]
        refine v_iload_n (dec_of DX9_tellSign 126 rfl) rfl ?_
        refine vi_const (dec_of DX9_tellSign 127 rfl) ?_
        refine vi_add (dec_of DX9_tellSign 128 rfl) ?_
        refine vi_aload (dec_of DX9_tellSign 129 rfl) rfl (by first | omega | exact bnd_r _ _ | exact hG _ _ | exact hK _ | (simp (disch := decide) only [uN_s, uN_n]; omega)) (by decide) ?_
        try simp (disch := decide) only [uN_s, uN_n, moG_n, moN_n]
        refine vi_const (dec_of DX9_tellSign 130 rfl) ?_
        refine vi_icmp_lt (tgt := 282) (dec_of DX9_tellSign 131 rfl) (by decide) (by first | omega | exact bnd_r _ _ | exact hG _ _ | exact hK _ | (simp (disch := decide) only [uN_s, uN_n]; omega)) (by first | omega | exact bnd_r _ _ | exact hG _ _ | exact hK _ | (simp (disch := decide) only [uN_s, uN_n]; omega)) (fun c264 => ?_) (fun c264 => ?_)
        · exact vi_vret (dec_of DX9_tellSign 139 rfl) rfl ⟨by decide, by decide⟩ (⟨rfl, rfl⟩)
        · exact absurd (by omega) hs
set_option maxRecDepth 100000 in
set_option maxHeartbeats 4000000 in
theorem q_t5_3 {I N : Nat → Int} {F : Nat → Int → Int} {K : Nat → Int} {G : Nat → Int → Int} (hG : FR G) (hK : IR K) (hM : MR K) {k e : Int} (hk : 0 ≤ k ∧ k < 300) (he : 0 ≤ e ∧ e ≤ 300) (h11 : G 11 k = 5) (hv : G 12 k = 3) (hs : ¬ (G 12 k = 3 ∧ k + 1 < e ∧ G 11 (k + 1) = 5 ∧ 3 ≤ G 12 (k + 1))) (hlen : K 55 + ((([58] ++ wMk (G 12 k) 58 4)).length : Int) ≤ 1700) (hr : ∀ a ∈ ([58] ++ wMk (G 12 k) 58 4), -2147483648 ≤ a ∧ a < 2147483648) : Sd (rm 2 44 0 0) mX9_tellSign [.ref 31, J k, J e] (W2 I N F K G) (W2 I N F (moN K (([58] ++ wMk (G 12 k) 58 4))) (moG K G (([58] ++ wMk (G 12 k) 58 4)))) (none) := by
  unfold Sd
  have hM0 := hM
  unfold MR at hM
  simp only [List.length_append, List.length_cons, List.length_nil] at hlen
  refine sp_of (ls := [some (.ref 31), some (J k), some (J e), none, none]) (by decide) (nle rfl) rfl rfl ?_
  refine v_aload_n (dec_of DX9_tellSign 0 rfl) rfl ?_
  refine v_get fX9_37 (dec_of DX9_tellSign 1 rfl) rfl rfl ?_
  try simp (disch := decide) only [uN_s, uN_n, moG_n, moN_n]
  refine v_iload_n (dec_of DX9_tellSign 2 rfl) rfl ?_
  refine vi_aload (dec_of DX9_tellSign 3 rfl) rfl (by first | omega | exact bnd_r _ _ | exact hG _ _ | exact hK _ | (simp (disch := decide) only [uN_s, uN_n]; omega)) (by decide) ?_
  try simp (disch := decide) only [uN_s, uN_n, moG_n, moN_n]
  refine v_istore_n (dec_of DX9_tellSign 4 rfl) (by decide) ?_
  dsimp only [List.set]
  refine v_aload_n (dec_of DX9_tellSign 5 rfl) rfl ?_
  refine v_get fX9_34 (dec_of DX9_tellSign 6 rfl) rfl rfl ?_
  try simp (disch := decide) only [uN_s, uN_n, moG_n, moN_n]
  refine v_iload_n (dec_of DX9_tellSign 7 rfl) rfl ?_
  refine vi_aload (dec_of DX9_tellSign 8 rfl) rfl (by first | omega | exact bnd_r _ _ | exact hG _ _ | exact hK _ | (simp (disch := decide) only [uN_s, uN_n]; omega)) (by decide) ?_
  try simp (disch := decide) only [uN_s, uN_n, moG_n, moN_n]
  rw [h11]
  refine vi_tabIn (tgt := 197) (dec_of DX9_tellSign 9 rfl) (by decide) (by decide) (by decide) rfl (by decide) ?_
  refine v_aload_n (dec_of DX9_tellSign 90 rfl) rfl ?_
  refine v_iload_n (dec_of DX9_tellSign 91 rfl) rfl ?_
  refine vi_const (dec_of DX9_tellSign 92 rfl) ?_
  refine vi_icmp_ne (tgt := 208) (dec_of DX9_tellSign 93 rfl) (by decide) (by first | omega | exact bnd_r _ _ | exact hG _ _ | exact hK _ | (simp (disch := decide) only [uN_s, uN_n]; omega)) (by first | omega | exact bnd_r _ _ | exact hG _ _ | exact hK _ | (simp (disch := decide) only [uN_s, uN_n]; omega)) (fun c200 => ?_) (fun c200 => absurd c200 (by omega))
  refine v_iload_n (dec_of DX9_tellSign 96 rfl) rfl ?_
  refine vi_const (dec_of DX9_tellSign 97 rfl) ?_
  refine vi_icmp_ne (tgt := 218) (dec_of DX9_tellSign 98 rfl) (by decide) (by first | omega | exact bnd_r _ _ | exact hG _ _ | exact hK _ | (simp (disch := decide) only [uN_s, uN_n]; omega)) (by first | omega | exact bnd_r _ _ | exact hG _ _ | exact hK _ | (simp (disch := decide) only [uN_s, uN_n]; omega)) (fun c210 => ?_) (fun c210 => absurd c210 (by omega))
  refine vi_bi (dec_of DX9_tellSign 101 rfl) (by decide) ?_
  refine v_V1v (qw_tell hG hK hM0 (by omega)) lX9_269 (dec_of DX9_tellSign 102 rfl) rfl rfl (by decide) (nle rfl) rfl ?_
  try simp (disch := decide) only [uN_s, uN_n, moG_n, moN_n]
  refine v_aload_n (dec_of DX9_tellSign 103 rfl) rfl ?_
  refine vi_bi (dec_of DX9_tellSign 104 rfl) (by decide) ?_
  refine v_iload_n (dec_of DX9_tellSign 105 rfl) rfl ?_
  refine vi_const (dec_of DX9_tellSign 106 rfl) ?_
  refine v_V3v (q_tellIf (K := (moN K ([58]))) (G := (moG K G ([58]))) (m := G 12 k) (c := 58) (b := 4) (FRmo hG (fun a h => hr a (List.mem_append_left _ (h)))) (IRmo hK hM0 (by simp only [List.length_append, List.length_cons, List.length_nil]; omega)) (MRmo hM0 (by simp only [List.length_append, List.length_cons, List.length_nil]; omega)) (by simp only [moN, uN_s, List.length_append, List.length_cons, List.length_nil]; omega) (fun a h => hr a (List.mem_append_right _ h))) lX9_272 (dec_of DX9_tellSign 107 rfl) rfl rfl (by decide) (nle rfl) rfl ?_
  try simp (disch := decide) only [uN_s, uN_n, moG_n, moN_n]
  refine Vd_w mo2 ?_
  refine v_iload_n (dec_of DX9_tellSign 108 rfl) rfl ?_
  refine vi_const (dec_of DX9_tellSign 109 rfl) ?_
  refine vi_icmp_ne (tgt := 282) (dec_of DX9_tellSign 110 rfl) (by decide) (by first | omega | exact bnd_r _ _ | exact hG _ _ | exact hK _ | (simp (disch := decide) only [uN_s, uN_n]; omega)) (by first | omega | exact bnd_r _ _ | exact hG _ _ | exact hK _ | (simp (disch := decide) only [uN_s, uN_n]; omega)) (fun c233 => ?_) (fun c233 => ?_)
  · exact vi_vret (dec_of DX9_tellSign 139 rfl) rfl ⟨by decide, by decide⟩ (⟨rfl, rfl⟩)
  · refine v_iload_n (dec_of DX9_tellSign 111 rfl) rfl ?_
    refine vi_const (dec_of DX9_tellSign 112 rfl) ?_
    refine vi_add (dec_of DX9_tellSign 113 rfl) ?_
    refine v_iload_n (dec_of DX9_tellSign 114 rfl) rfl ?_
    refine vi_icmp_ge (tgt := 282) (dec_of DX9_tellSign 115 rfl) (by decide) (by first | omega | exact bnd_r _ _ | exact hG _ _ | exact hK _ | (simp (disch := decide) only [uN_s, uN_n]; omega)) (by first | omega | exact bnd_r _ _ | exact hG _ _ | exact hK _ | (simp (disch := decide) only [uN_s, uN_n]; omega)) (fun c240 => ?_) (fun c240 => ?_)
    · exact vi_vret (dec_of DX9_tellSign 139 rfl) rfl ⟨by decide, by decide⟩ (⟨rfl, rfl⟩)
    · refine v_aload_n (dec_of DX9_tellSign 116 rfl) rfl ?_
      refine v_get fX9_34 (dec_of DX9_tellSign 117 rfl) rfl rfl ?_
      try simp (disch := decide) only [uN_s, uN_n, moG_n, moN_n]
      refine v_iload_n (dec_of DX9_tellSign 118 rfl) rfl ?_
      refine vi_const (dec_of DX9_tellSign 119 rfl) ?_
      refine vi_add (dec_of DX9_tellSign 120 rfl) ?_
      refine vi_aload (dec_of DX9_tellSign 121 rfl) rfl (by first | omega | exact bnd_r _ _ | exact hG _ _ | exact hK _ | (simp (disch := decide) only [uN_s, uN_n]; omega)) (by decide) ?_
      try simp (disch := decide) only [uN_s, uN_n, moG_n, moN_n]
      refine vi_const (dec_of DX9_tellSign 122 rfl) ?_
      refine vi_icmp_ne (tgt := 282) (dec_of DX9_tellSign 123 rfl) (by decide) (by first | omega | exact bnd_r _ _ | exact hG _ _ | exact hK _ | (simp (disch := decide) only [uN_s, uN_n]; omega)) (by first | omega | exact bnd_r _ _ | exact hG _ _ | exact hK _ | (simp (disch := decide) only [uN_s, uN_n]; omega)) (fun c252 => ?_) (fun c252 => ?_)
      · exact vi_vret (dec_of DX9_tellSign 139 rfl) rfl ⟨by decide, by decide⟩ (⟨rfl, rfl⟩)
      · refine v_aload_n (dec_of DX9_tellSign 124 rfl) rfl ?_
        refine v_get fX9_37 (dec_of DX9_tellSign 125 rfl) rfl rfl ?_
        try simp (disch := decide) only [uN_s, uN_n, moG_n, moN_n]
        refine v_iload_n (dec_of DX9_tellSign 126 rfl) rfl ?_
        refine vi_const (dec_of DX9_tellSign 127 rfl) ?_
        refine vi_add (dec_of DX9_tellSign 128 rfl) ?_
        refine vi_aload (dec_of DX9_tellSign 129 rfl) rfl (by first | omega | exact bnd_r _ _ | exact hG _ _ | exact hK _ | (simp (disch := decide) only [uN_s, uN_n]; omega)) (by decide) ?_
        try simp (disch := decide) only [uN_s, uN_n, moG_n, moN_n]
        refine vi_const (dec_of DX9_tellSign 130 rfl) ?_
        refine vi_icmp_lt (tgt := 282) (dec_of DX9_tellSign 131 rfl) (by decide) (by first | omega | exact bnd_r _ _ | exact hG _ _ | exact hK _ | (simp (disch := decide) only [uN_s, uN_n]; omega)) (by first | omega | exact bnd_r _ _ | exact hG _ _ | exact hK _ | (simp (disch := decide) only [uN_s, uN_n]; omega)) (fun c264 => ?_) (fun c264 => ?_)
        · exact vi_vret (dec_of DX9_tellSign 139 rfl) rfl ⟨by decide, by decide⟩ (⟨rfl, rfl⟩)
        · exact absurd (by omega) hs
set_option maxRecDepth 100000 in
set_option maxHeartbeats 4000000 in
theorem q_t5_3s {I N : Nat → Int} {F : Nat → Int → Int} {K : Nat → Int} {G : Nat → Int → Int} (hG : FR G) (hK : IR K) (hM : MR K) {k e : Int} (hk : 0 ≤ k ∧ k < 300) (he : 0 ≤ e ∧ e ≤ 300) (h11 : G 11 k = 5) (hv : G 12 k = 3) (hs : G 12 k = 3 ∧ k + 1 < e ∧ G 11 (k + 1) = 5 ∧ 3 ≤ G 12 (k + 1)) (hlen : K 55 + (((([58] ++ wMk (G 12 k) 58 4) ++ [47])).length : Int) ≤ 1700) (hr : ∀ a ∈ (([58] ++ wMk (G 12 k) 58 4) ++ [47]), -2147483648 ≤ a ∧ a < 2147483648) : Sd (rm 2 44 0 0) mX9_tellSign [.ref 31, J k, J e] (W2 I N F K G) (W2 I N F (moN K ((([58] ++ wMk (G 12 k) 58 4) ++ [47]))) (moG K G ((([58] ++ wMk (G 12 k) 58 4) ++ [47])))) (none) := by
  unfold Sd
  have hM0 := hM
  unfold MR at hM
  simp only [List.length_append, List.length_cons, List.length_nil] at hlen
  refine sp_of (ls := [some (.ref 31), some (J k), some (J e), none, none]) (by decide) (nle rfl) rfl rfl ?_
  refine v_aload_n (dec_of DX9_tellSign 0 rfl) rfl ?_
  refine v_get fX9_37 (dec_of DX9_tellSign 1 rfl) rfl rfl ?_
  try simp (disch := decide) only [uN_s, uN_n, moG_n, moN_n]
  refine v_iload_n (dec_of DX9_tellSign 2 rfl) rfl ?_
  refine vi_aload (dec_of DX9_tellSign 3 rfl) rfl (by first | omega | exact bnd_r _ _ | exact hG _ _ | exact hK _ | (simp (disch := decide) only [uN_s, uN_n]; omega)) (by decide) ?_
  try simp (disch := decide) only [uN_s, uN_n, moG_n, moN_n]
  refine v_istore_n (dec_of DX9_tellSign 4 rfl) (by decide) ?_
  dsimp only [List.set]
  refine v_aload_n (dec_of DX9_tellSign 5 rfl) rfl ?_
  refine v_get fX9_34 (dec_of DX9_tellSign 6 rfl) rfl rfl ?_
  try simp (disch := decide) only [uN_s, uN_n, moG_n, moN_n]
  refine v_iload_n (dec_of DX9_tellSign 7 rfl) rfl ?_
  refine vi_aload (dec_of DX9_tellSign 8 rfl) rfl (by first | omega | exact bnd_r _ _ | exact hG _ _ | exact hK _ | (simp (disch := decide) only [uN_s, uN_n]; omega)) (by decide) ?_
  try simp (disch := decide) only [uN_s, uN_n, moG_n, moN_n]
  rw [h11]
  refine vi_tabIn (tgt := 197) (dec_of DX9_tellSign 9 rfl) (by decide) (by decide) (by decide) rfl (by decide) ?_
  refine v_aload_n (dec_of DX9_tellSign 90 rfl) rfl ?_
  refine v_iload_n (dec_of DX9_tellSign 91 rfl) rfl ?_
  refine vi_const (dec_of DX9_tellSign 92 rfl) ?_
  refine vi_icmp_ne (tgt := 208) (dec_of DX9_tellSign 93 rfl) (by decide) (by first | omega | exact bnd_r _ _ | exact hG _ _ | exact hK _ | (simp (disch := decide) only [uN_s, uN_n]; omega)) (by first | omega | exact bnd_r _ _ | exact hG _ _ | exact hK _ | (simp (disch := decide) only [uN_s, uN_n]; omega)) (fun c200 => ?_) (fun c200 => absurd c200 (by omega))
  refine v_iload_n (dec_of DX9_tellSign 96 rfl) rfl ?_
  refine vi_const (dec_of DX9_tellSign 97 rfl) ?_
  refine vi_icmp_ne (tgt := 218) (dec_of DX9_tellSign 98 rfl) (by decide) (by first | omega | exact bnd_r _ _ | exact hG _ _ | exact hK _ | (simp (disch := decide) only [uN_s, uN_n]; omega)) (by first | omega | exact bnd_r _ _ | exact hG _ _ | exact hK _ | (simp (disch := decide) only [uN_s, uN_n]; omega)) (fun c210 => ?_) (fun c210 => absurd c210 (by omega))
  refine vi_bi (dec_of DX9_tellSign 101 rfl) (by decide) ?_
  refine v_V1v (qw_tell hG hK hM0 (by omega)) lX9_269 (dec_of DX9_tellSign 102 rfl) rfl rfl (by decide) (nle rfl) rfl ?_
  try simp (disch := decide) only [uN_s, uN_n, moG_n, moN_n]
  refine v_aload_n (dec_of DX9_tellSign 103 rfl) rfl ?_
  refine vi_bi (dec_of DX9_tellSign 104 rfl) (by decide) ?_
  refine v_iload_n (dec_of DX9_tellSign 105 rfl) rfl ?_
  refine vi_const (dec_of DX9_tellSign 106 rfl) ?_
  refine v_V3v (q_tellIf (K := (moN K ([58]))) (G := (moG K G ([58]))) (m := G 12 k) (c := 58) (b := 4) (FRmo hG (fun a h => hr a (List.mem_append_left _ (List.mem_append_left _ (h))))) (IRmo hK hM0 (by simp only [List.length_append, List.length_cons, List.length_nil]; omega)) (MRmo hM0 (by simp only [List.length_append, List.length_cons, List.length_nil]; omega)) (by simp only [moN, uN_s, List.length_append, List.length_cons, List.length_nil]; omega) (fun a h => hr a (List.mem_append_left _ (List.mem_append_right _ h)))) lX9_272 (dec_of DX9_tellSign 107 rfl) rfl rfl (by decide) (nle rfl) rfl ?_
  try simp (disch := decide) only [uN_s, uN_n, moG_n, moN_n]
  refine Vd_w mo2 ?_
  refine v_iload_n (dec_of DX9_tellSign 108 rfl) rfl ?_
  refine vi_const (dec_of DX9_tellSign 109 rfl) ?_
  refine vi_icmp_ne (tgt := 282) (dec_of DX9_tellSign 110 rfl) (by decide) (by first | omega | exact bnd_r _ _ | exact hG _ _ | exact hK _ | (simp (disch := decide) only [uN_s, uN_n]; omega)) (by first | omega | exact bnd_r _ _ | exact hG _ _ | exact hK _ | (simp (disch := decide) only [uN_s, uN_n]; omega)) (fun c233 => absurd c233 (by omega)) (fun c233 => ?_)
  refine v_iload_n (dec_of DX9_tellSign 111 rfl) rfl ?_
  refine vi_const (dec_of DX9_tellSign 112 rfl) ?_
  refine vi_add (dec_of DX9_tellSign 113 rfl) ?_
  refine v_iload_n (dec_of DX9_tellSign 114 rfl) rfl ?_
  refine vi_icmp_ge (tgt := 282) (dec_of DX9_tellSign 115 rfl) (by decide) (by first | omega | exact bnd_r _ _ | exact hG _ _ | exact hK _ | (simp (disch := decide) only [uN_s, uN_n]; omega)) (by first | omega | exact bnd_r _ _ | exact hG _ _ | exact hK _ | (simp (disch := decide) only [uN_s, uN_n]; omega)) (fun c240 => absurd c240 (by omega)) (fun c240 => ?_)
  refine v_aload_n (dec_of DX9_tellSign 116 rfl) rfl ?_
  refine v_get fX9_34 (dec_of DX9_tellSign 117 rfl) rfl rfl ?_
  try simp (disch := decide) only [uN_s, uN_n, moG_n, moN_n]
  refine v_iload_n (dec_of DX9_tellSign 118 rfl) rfl ?_
  refine vi_const (dec_of DX9_tellSign 119 rfl) ?_
  refine vi_add (dec_of DX9_tellSign 120 rfl) ?_
  refine vi_aload (dec_of DX9_tellSign 121 rfl) rfl (by first | omega | exact bnd_r _ _ | exact hG _ _ | exact hK _ | (simp (disch := decide) only [uN_s, uN_n]; omega)) (by decide) ?_
  try simp (disch := decide) only [uN_s, uN_n, moG_n, moN_n]
  refine vi_const (dec_of DX9_tellSign 122 rfl) ?_
  refine vi_icmp_ne (tgt := 282) (dec_of DX9_tellSign 123 rfl) (by decide) (by first | omega | exact bnd_r _ _ | exact hG _ _ | exact hK _ | (simp (disch := decide) only [uN_s, uN_n]; omega)) (by first | omega | exact bnd_r _ _ | exact hG _ _ | exact hK _ | (simp (disch := decide) only [uN_s, uN_n]; omega)) (fun c252 => absurd c252 (by omega)) (fun c252 => ?_)
  refine v_aload_n (dec_of DX9_tellSign 124 rfl) rfl ?_
  refine v_get fX9_37 (dec_of DX9_tellSign 125 rfl) rfl rfl ?_
  try simp (disch := decide) only [uN_s, uN_n, moG_n, moN_n]
  refine v_iload_n (dec_of DX9_tellSign 126 rfl) rfl ?_
  refine vi_const (dec_of DX9_tellSign 127 rfl) ?_
  refine vi_add (dec_of DX9_tellSign 128 rfl) ?_
  refine vi_aload (dec_of DX9_tellSign 129 rfl) rfl (by first | omega | exact bnd_r _ _ | exact hG _ _ | exact hK _ | (simp (disch := decide) only [uN_s, uN_n]; omega)) (by decide) ?_
  try simp (disch := decide) only [uN_s, uN_n, moG_n, moN_n]
  refine vi_const (dec_of DX9_tellSign 130 rfl) ?_
  refine vi_icmp_lt (tgt := 282) (dec_of DX9_tellSign 131 rfl) (by decide) (by first | omega | exact bnd_r _ _ | exact hG _ _ | exact hK _ | (simp (disch := decide) only [uN_s, uN_n]; omega)) (by first | omega | exact bnd_r _ _ | exact hG _ _ | exact hK _ | (simp (disch := decide) only [uN_s, uN_n]; omega)) (fun c264 => absurd c264 (by omega)) (fun c264 => ?_)
  refine v_aload_n (dec_of DX9_tellSign 132 rfl) rfl ?_
  refine vi_bi (dec_of DX9_tellSign 133 rfl) (by decide) ?_
  refine v_V1v (qw_tell (FRmo hG (fun a h => hr a (List.mem_append_left _ (h)))) (IRmo hK hM0 (by simp only [List.length_append, List.length_cons, List.length_nil]; omega)) (MRmo hM0 (by simp only [List.length_append, List.length_cons, List.length_nil]; omega)) (by simp only [moN, uN_s, List.length_append, List.length_cons, List.length_nil]; omega)) lX9_269 (dec_of DX9_tellSign 134 rfl) rfl rfl (by decide) (nle rfl) rfl ?_
  try simp (disch := decide) only [uN_s, uN_n, moG_n, moN_n]
  refine Vd_w mo2 ?_
  refine v_goto (tgt := 282) (dec_of DX9_tellSign 135 rfl) (by decide) ?_
  exact vi_vret (dec_of DX9_tellSign 139 rfl) rfl ⟨by decide, by decide⟩ (⟨rfl, rfl⟩)
set_option maxRecDepth 100000 in
set_option maxHeartbeats 4000000 in
theorem q_t5_4 {I N : Nat → Int} {F : Nat → Int → Int} {K : Nat → Int} {G : Nat → Int → Int} (hG : FR G) (hK : IR K) (hM : MR K) {k e : Int} (hk : 0 ≤ k ∧ k < 300) (he : 0 ≤ e ∧ e ≤ 300) (h11 : G 11 k = 5) (hv : G 12 k = 4) (hs : ¬ (G 12 k = 3 ∧ k + 1 < e ∧ G 11 (k + 1) = 5 ∧ 3 ≤ G 12 (k + 1))) (hlen : K 55 + ((([58] ++ wMk (G 12 k) 58 4)).length : Int) ≤ 1700) (hr : ∀ a ∈ ([58] ++ wMk (G 12 k) 58 4), -2147483648 ≤ a ∧ a < 2147483648) : Sd (rm 2 44 0 0) mX9_tellSign [.ref 31, J k, J e] (W2 I N F K G) (W2 I N F (moN K (([58] ++ wMk (G 12 k) 58 4))) (moG K G (([58] ++ wMk (G 12 k) 58 4)))) (none) := by
  unfold Sd
  have hM0 := hM
  unfold MR at hM
  simp only [List.length_append, List.length_cons, List.length_nil] at hlen
  refine sp_of (ls := [some (.ref 31), some (J k), some (J e), none, none]) (by decide) (nle rfl) rfl rfl ?_
  refine v_aload_n (dec_of DX9_tellSign 0 rfl) rfl ?_
  refine v_get fX9_37 (dec_of DX9_tellSign 1 rfl) rfl rfl ?_
  try simp (disch := decide) only [uN_s, uN_n, moG_n, moN_n]
  refine v_iload_n (dec_of DX9_tellSign 2 rfl) rfl ?_
  refine vi_aload (dec_of DX9_tellSign 3 rfl) rfl (by first | omega | exact bnd_r _ _ | exact hG _ _ | exact hK _ | (simp (disch := decide) only [uN_s, uN_n]; omega)) (by decide) ?_
  try simp (disch := decide) only [uN_s, uN_n, moG_n, moN_n]
  refine v_istore_n (dec_of DX9_tellSign 4 rfl) (by decide) ?_
  dsimp only [List.set]
  refine v_aload_n (dec_of DX9_tellSign 5 rfl) rfl ?_
  refine v_get fX9_34 (dec_of DX9_tellSign 6 rfl) rfl rfl ?_
  try simp (disch := decide) only [uN_s, uN_n, moG_n, moN_n]
  refine v_iload_n (dec_of DX9_tellSign 7 rfl) rfl ?_
  refine vi_aload (dec_of DX9_tellSign 8 rfl) rfl (by first | omega | exact bnd_r _ _ | exact hG _ _ | exact hK _ | (simp (disch := decide) only [uN_s, uN_n]; omega)) (by decide) ?_
  try simp (disch := decide) only [uN_s, uN_n, moG_n, moN_n]
  rw [h11]
  refine vi_tabIn (tgt := 197) (dec_of DX9_tellSign 9 rfl) (by decide) (by decide) (by decide) rfl (by decide) ?_
  refine v_aload_n (dec_of DX9_tellSign 90 rfl) rfl ?_
  refine v_iload_n (dec_of DX9_tellSign 91 rfl) rfl ?_
  refine vi_const (dec_of DX9_tellSign 92 rfl) ?_
  refine vi_icmp_ne (tgt := 208) (dec_of DX9_tellSign 93 rfl) (by decide) (by first | omega | exact bnd_r _ _ | exact hG _ _ | exact hK _ | (simp (disch := decide) only [uN_s, uN_n]; omega)) (by first | omega | exact bnd_r _ _ | exact hG _ _ | exact hK _ | (simp (disch := decide) only [uN_s, uN_n]; omega)) (fun c200 => ?_) (fun c200 => absurd c200 (by omega))
  refine v_iload_n (dec_of DX9_tellSign 96 rfl) rfl ?_
  refine vi_const (dec_of DX9_tellSign 97 rfl) ?_
  refine vi_icmp_ne (tgt := 218) (dec_of DX9_tellSign 98 rfl) (by decide) (by first | omega | exact bnd_r _ _ | exact hG _ _ | exact hK _ | (simp (disch := decide) only [uN_s, uN_n]; omega)) (by first | omega | exact bnd_r _ _ | exact hG _ _ | exact hK _ | (simp (disch := decide) only [uN_s, uN_n]; omega)) (fun c210 => ?_) (fun c210 => absurd c210 (by omega))
  refine vi_bi (dec_of DX9_tellSign 101 rfl) (by decide) ?_
  refine v_V1v (qw_tell hG hK hM0 (by omega)) lX9_269 (dec_of DX9_tellSign 102 rfl) rfl rfl (by decide) (nle rfl) rfl ?_
  try simp (disch := decide) only [uN_s, uN_n, moG_n, moN_n]
  refine v_aload_n (dec_of DX9_tellSign 103 rfl) rfl ?_
  refine vi_bi (dec_of DX9_tellSign 104 rfl) (by decide) ?_
  refine v_iload_n (dec_of DX9_tellSign 105 rfl) rfl ?_
  refine vi_const (dec_of DX9_tellSign 106 rfl) ?_
  refine v_V3v (q_tellIf (K := (moN K ([58]))) (G := (moG K G ([58]))) (m := G 12 k) (c := 58) (b := 4) (FRmo hG (fun a h => hr a (List.mem_append_left _ (h)))) (IRmo hK hM0 (by simp only [List.length_append, List.length_cons, List.length_nil]; omega)) (MRmo hM0 (by simp only [List.length_append, List.length_cons, List.length_nil]; omega)) (by simp only [moN, uN_s, List.length_append, List.length_cons, List.length_nil]; omega) (fun a h => hr a (List.mem_append_right _ h))) lX9_272 (dec_of DX9_tellSign 107 rfl) rfl rfl (by decide) (nle rfl) rfl ?_
  try simp (disch := decide) only [uN_s, uN_n, moG_n, moN_n]
  refine Vd_w mo2 ?_
  refine v_iload_n (dec_of DX9_tellSign 108 rfl) rfl ?_
  refine vi_const (dec_of DX9_tellSign 109 rfl) ?_
  refine vi_icmp_ne (tgt := 282) (dec_of DX9_tellSign 110 rfl) (by decide) (by first | omega | exact bnd_r _ _ | exact hG _ _ | exact hK _ | (simp (disch := decide) only [uN_s, uN_n]; omega)) (by first | omega | exact bnd_r _ _ | exact hG _ _ | exact hK _ | (simp (disch := decide) only [uN_s, uN_n]; omega)) (fun c233 => ?_) (fun c233 => ?_)
  · exact vi_vret (dec_of DX9_tellSign 139 rfl) rfl ⟨by decide, by decide⟩ (⟨rfl, rfl⟩)
  · refine v_iload_n (dec_of DX9_tellSign 111 rfl) rfl ?_
    refine vi_const (dec_of DX9_tellSign 112 rfl) ?_
    refine vi_add (dec_of DX9_tellSign 113 rfl) ?_
    refine v_iload_n (dec_of DX9_tellSign 114 rfl) rfl ?_
    refine vi_icmp_ge (tgt := 282) (dec_of DX9_tellSign 115 rfl) (by decide) (by first | omega | exact bnd_r _ _ | exact hG _ _ | exact hK _ | (simp (disch := decide) only [uN_s, uN_n]; omega)) (by first | omega | exact bnd_r _ _ | exact hG _ _ | exact hK _ | (simp (disch := decide) only [uN_s, uN_n]; omega)) (fun c240 => ?_) (fun c240 => ?_)
    · exact vi_vret (dec_of DX9_tellSign 139 rfl) rfl ⟨by decide, by decide⟩ (⟨rfl, rfl⟩)
    · refine v_aload_n (dec_of DX9_tellSign 116 rfl) rfl ?_
      refine v_get fX9_34 (dec_of DX9_tellSign 117 rfl) rfl rfl ?_
      try simp (disch := decide) only [uN_s, uN_n, moG_n, moN_n]
      refine v_iload_n (dec_of DX9_tellSign 118 rfl) rfl ?_
      refine vi_const (dec_of DX9_tellSign 119 rfl) ?_
      refine vi_add (dec_of DX9_tellSign 120 rfl) ?_
      refine vi_aload (dec_of DX9_tellSign 121 rfl) rfl (by first | omega | exact bnd_r _ _ | exact hG _ _ | exact hK _ | (simp (disch := decide) only [uN_s, uN_n]; omega)) (by decide) ?_
      try simp (disch := decide) only [uN_s, uN_n, moG_n, moN_n]
      refine vi_const (dec_of DX9_tellSign 122 rfl) ?_
      refine vi_icmp_ne (tgt := 282) (dec_of DX9_tellSign 123 rfl) (by decide) (by first | omega | exact bnd_r _ _ | exact hG _ _ | exact hK _ | (simp (disch := decide) only [uN_s, uN_n]; omega)) (by first | omega | exact bnd_r _ _ | exact hG _ _ | exact hK _ | (simp (disch := decide) only [uN_s, uN_n]; omega)) (fun c252 => ?_) (fun c252 => ?_)
      · exact vi_vret (dec_of DX9_tellSign 139 rfl) rfl ⟨by decide, by decide⟩ (⟨rfl, rfl⟩)
      · refine v_aload_n (dec_of DX9_tellSign 124 rfl) rfl ?_
        refine v_get fX9_37 (dec_of DX9_tellSign 125 rfl) rfl rfl ?_
        try simp (disch := decide) only [uN_s, uN_n, moG_n, moN_n]
        refine v_iload_n (dec_of DX9_tellSign 126 rfl) rfl ?_
        refine vi_const (dec_of DX9_tellSign 127 rfl) ?_
        refine vi_add (dec_of DX9_tellSign 128 rfl) ?_
        refine vi_aload (dec_of DX9_tellSign 129 rfl) rfl (by first | omega | exact bnd_r _ _ | exact hG _ _ | exact hK _ | (simp (disch := decide) only [uN_s, uN_n]; omega)) (by decide) ?_
        try simp (disch := decide) only [uN_s, uN_n, moG_n, moN_n]
        refine vi_const (dec_of DX9_tellSign 130 rfl) ?_
        refine vi_icmp_lt (tgt := 282) (dec_of DX9_tellSign 131 rfl) (by decide) (by first | omega | exact bnd_r _ _ | exact hG _ _ | exact hK _ | (simp (disch := decide) only [uN_s, uN_n]; omega)) (by first | omega | exact bnd_r _ _ | exact hG _ _ | exact hK _ | (simp (disch := decide) only [uN_s, uN_n]; omega)) (fun c264 => ?_) (fun c264 => ?_)
        · exact vi_vret (dec_of DX9_tellSign 139 rfl) rfl ⟨by decide, by decide⟩ (⟨rfl, rfl⟩)
        · exact absurd (by omega) hs
set_option maxRecDepth 100000 in
set_option maxHeartbeats 4000000 in
theorem q_t1_0 {I N : Nat → Int} {F : Nat → Int → Int} {K : Nat → Int} {G : Nat → Int → Int} (hG : FR G) (hK : IR K) (hM : MR K) {k e : Int} (hk : 0 ≤ k ∧ k < 300) (he : 0 ≤ e ∧ e ≤ 300) (h11 : G 11 k = 1) (ha : 0 ≤ G 13 k ∧ G 13 k < 150) (hs : ∀ j : Int, 0 ≤ j → j < e → sgM K G j) (hp : ipL G k (e - (k + 1)).toNat (k + 1) = 0) (hlen : K 55 + ((((((([97 + G 12 k] ++ wMk (G 17 (G 13 k)) 46 1) ++ wMk (G 17 (G 13 k)) 95 2) ++ wMk (G 17 (G 13 k)) 118 4) ++ wMk (G 17 (G 13 k)) 119 8) ++ wMk (G 17 (G 13 k)) 126 16)).length : Int) ≤ 1700) (hr : ∀ a ∈ ((((([97 + G 12 k] ++ wMk (G 17 (G 13 k)) 46 1) ++ wMk (G 17 (G 13 k)) 95 2) ++ wMk (G 17 (G 13 k)) 118 4) ++ wMk (G 17 (G 13 k)) 119 8) ++ wMk (G 17 (G 13 k)) 126 16), -2147483648 ≤ a ∧ a < 2147483648) : Sd (rm 2 44 0 0) mX9_tellSign [.ref 31, J k, J e] (W2 I N F K G) (W2 I N F (moN K (((((([97 + G 12 k] ++ wMk (G 17 (G 13 k)) 46 1) ++ wMk (G 17 (G 13 k)) 95 2) ++ wMk (G 17 (G 13 k)) 118 4) ++ wMk (G 17 (G 13 k)) 119 8) ++ wMk (G 17 (G 13 k)) 126 16))) (moG K G (((((([97 + G 12 k] ++ wMk (G 17 (G 13 k)) 46 1) ++ wMk (G 17 (G 13 k)) 95 2) ++ wMk (G 17 (G 13 k)) 118 4) ++ wMk (G 17 (G 13 k)) 119 8) ++ wMk (G 17 (G 13 k)) 126 16)))) (none) := by
  unfold Sd
  have hM0 := hM
  unfold MR at hM
  simp only [List.length_append, List.length_cons, List.length_nil] at hlen
  refine sp_of (ls := [some (.ref 31), some (J k), some (J e), none, none]) (by decide) (nle rfl) rfl rfl ?_
  refine v_aload_n (dec_of DX9_tellSign 0 rfl) rfl ?_
  refine v_get fX9_37 (dec_of DX9_tellSign 1 rfl) rfl rfl ?_
  try simp (disch := decide) only [uN_s, uN_n, moG_n, moN_n]
  refine v_iload_n (dec_of DX9_tellSign 2 rfl) rfl ?_
  refine vi_aload (dec_of DX9_tellSign 3 rfl) rfl (by first | omega | exact bnd_r _ _ | exact hG _ _ | exact hK _ | (simp (disch := decide) only [uN_s, uN_n]; omega)) (by decide) ?_
  try simp (disch := decide) only [uN_s, uN_n, moG_n, moN_n]
  refine v_istore_n (dec_of DX9_tellSign 4 rfl) (by decide) ?_
  dsimp only [List.set]
  refine v_aload_n (dec_of DX9_tellSign 5 rfl) rfl ?_
  refine v_get fX9_34 (dec_of DX9_tellSign 6 rfl) rfl rfl ?_
  try simp (disch := decide) only [uN_s, uN_n, moG_n, moN_n]
  refine v_iload_n (dec_of DX9_tellSign 7 rfl) rfl ?_
  refine vi_aload (dec_of DX9_tellSign 8 rfl) rfl (by first | omega | exact bnd_r _ _ | exact hG _ _ | exact hK _ | (simp (disch := decide) only [uN_s, uN_n]; omega)) (by decide) ?_
  try simp (disch := decide) only [uN_s, uN_n, moG_n, moN_n]
  rw [h11]
  refine vi_tabIn (tgt := 48) (dec_of DX9_tellSign 9 rfl) (by decide) (by decide) (by decide) rfl (by decide) ?_
  refine v_aload_n (dec_of DX9_tellSign 10 rfl) rfl ?_
  refine vi_bi (dec_of DX9_tellSign 11 rfl) (by decide) ?_
  refine v_iload_n (dec_of DX9_tellSign 12 rfl) rfl ?_
  refine vi_add (dec_of DX9_tellSign 13 rfl) ?_
  refine v_V1v (qw_tell hG hK hM0 (by omega)) lX9_269 (dec_of DX9_tellSign 14 rfl) rfl rfl (by decide) (nle rfl) rfl ?_
  try simp (disch := decide) only [uN_s, uN_n, moG_n, moN_n]
  refine v_aload_n (dec_of DX9_tellSign 15 rfl) rfl ?_
  refine v_get fX9_46 (dec_of DX9_tellSign 16 rfl) rfl rfl ?_
  try simp (disch := decide) only [uN_s, uN_n, moG_n, moN_n]
  refine v_aload_n (dec_of DX9_tellSign 17 rfl) rfl ?_
  refine v_get fX9_40 (dec_of DX9_tellSign 18 rfl) rfl rfl ?_
  try simp (disch := decide) only [uN_s, uN_n, moG_n, moN_n]
  refine v_iload_n (dec_of DX9_tellSign 19 rfl) rfl ?_
  refine vi_aload (dec_of DX9_tellSign 20 rfl) rfl (by first | omega | exact bnd_r _ _ | exact hG _ _ | exact hK _ | (simp (disch := decide) only [uN_s, uN_n]; omega)) (by decide) ?_
  try simp (disch := decide) only [uN_s, uN_n, moG_n, moN_n]
  refine vi_aload (dec_of DX9_tellSign 21 rfl) rfl (by first | omega | exact bnd_r _ _ | exact hG _ _ | exact hK _ | (simp (disch := decide) only [uN_s, uN_n]; omega)) (by decide) ?_
  try simp (disch := decide) only [uN_s, uN_n, moG_n, moN_n]
  refine v_istore (dec_of DX9_tellSign 22 rfl) (by decide) ?_
  dsimp only [List.set]
  refine v_aload_n (dec_of DX9_tellSign 23 rfl) rfl ?_
  refine vi_bi (dec_of DX9_tellSign 24 rfl) (by decide) ?_
  refine v_iload (dec_of DX9_tellSign 25 rfl) rfl ?_
  refine vi_const (dec_of DX9_tellSign 26 rfl) ?_
  refine v_V3v (q_tellIf (K := (moN K ([97 + G 12 k]))) (G := (moG K G ([97 + G 12 k]))) (m := G 17 (G 13 k)) (c := 46) (b := 1) (FRmo hG (fun a h => hr a (List.mem_append_left _ (List.mem_append_left _ (List.mem_append_left _ (List.mem_append_left _ (List.mem_append_left _ (h)))))))) (IRmo hK hM0 (by simp only [List.length_append, List.length_cons, List.length_nil]; omega)) (MRmo hM0 (by simp only [List.length_append, List.length_cons, List.length_nil]; omega)) (by simp only [moN, uN_s, List.length_append, List.length_cons, List.length_nil]; omega) (fun a h => hr a (List.mem_append_left _ (List.mem_append_left _ (List.mem_append_left _ (List.mem_append_left _ (List.mem_append_right _ h))))))) lX9_272 (dec_of DX9_tellSign 27 rfl) rfl rfl (by decide) (nle rfl) rfl ?_
  try simp (disch := decide) only [uN_s, uN_n, moG_n, moN_n]
  refine Vd_w mo2 ?_
  refine v_aload_n (dec_of DX9_tellSign 28 rfl) rfl ?_
  refine vi_bi (dec_of DX9_tellSign 29 rfl) (by decide) ?_
  refine v_iload (dec_of DX9_tellSign 30 rfl) rfl ?_
  refine vi_const (dec_of DX9_tellSign 31 rfl) ?_
  refine v_V3v (q_tellIf (K := (moN K (([97 + G 12 k] ++ wMk (G 17 (G 13 k)) 46 1)))) (G := (moG K G (([97 + G 12 k] ++ wMk (G 17 (G 13 k)) 46 1)))) (m := G 17 (G 13 k)) (c := 95) (b := 2) (FRmo hG (fun a h => hr a (List.mem_append_left _ (List.mem_append_left _ (List.mem_append_left _ (List.mem_append_left _ (h))))))) (IRmo hK hM0 (by simp only [List.length_append, List.length_cons, List.length_nil]; omega)) (MRmo hM0 (by simp only [List.length_append, List.length_cons, List.length_nil]; omega)) (by simp only [moN, uN_s, List.length_append, List.length_cons, List.length_nil]; omega) (fun a h => hr a (List.mem_append_left _ (List.mem_append_left _ (List.mem_append_left _ (List.mem_append_right _ h)))))) lX9_272 (dec_of DX9_tellSign 32 rfl) rfl rfl (by decide) (nle rfl) rfl ?_
  try simp (disch := decide) only [uN_s, uN_n, moG_n, moN_n]
  refine Vd_w mo2 ?_
  refine v_aload_n (dec_of DX9_tellSign 33 rfl) rfl ?_
  refine vi_bi (dec_of DX9_tellSign 34 rfl) (by decide) ?_
  refine v_iload (dec_of DX9_tellSign 35 rfl) rfl ?_
  refine vi_const (dec_of DX9_tellSign 36 rfl) ?_
  refine v_V3v (q_tellIf (K := (moN K ((([97 + G 12 k] ++ wMk (G 17 (G 13 k)) 46 1) ++ wMk (G 17 (G 13 k)) 95 2)))) (G := (moG K G ((([97 + G 12 k] ++ wMk (G 17 (G 13 k)) 46 1) ++ wMk (G 17 (G 13 k)) 95 2)))) (m := G 17 (G 13 k)) (c := 118) (b := 4) (FRmo hG (fun a h => hr a (List.mem_append_left _ (List.mem_append_left _ (List.mem_append_left _ (h)))))) (IRmo hK hM0 (by simp only [List.length_append, List.length_cons, List.length_nil]; omega)) (MRmo hM0 (by simp only [List.length_append, List.length_cons, List.length_nil]; omega)) (by simp only [moN, uN_s, List.length_append, List.length_cons, List.length_nil]; omega) (fun a h => hr a (List.mem_append_left _ (List.mem_append_left _ (List.mem_append_right _ h))))) lX9_272 (dec_of DX9_tellSign 37 rfl) rfl rfl (by decide) (nle rfl) rfl ?_
  try simp (disch := decide) only [uN_s, uN_n, moG_n, moN_n]
  refine Vd_w mo2 ?_
  refine v_aload_n (dec_of DX9_tellSign 38 rfl) rfl ?_
  refine vi_bi (dec_of DX9_tellSign 39 rfl) (by decide) ?_
  refine v_iload (dec_of DX9_tellSign 40 rfl) rfl ?_
  refine vi_bi (dec_of DX9_tellSign 41 rfl) (by decide) ?_
  refine v_V3v (q_tellIf (K := (moN K (((([97 + G 12 k] ++ wMk (G 17 (G 13 k)) 46 1) ++ wMk (G 17 (G 13 k)) 95 2) ++ wMk (G 17 (G 13 k)) 118 4)))) (G := (moG K G (((([97 + G 12 k] ++ wMk (G 17 (G 13 k)) 46 1) ++ wMk (G 17 (G 13 k)) 95 2) ++ wMk (G 17 (G 13 k)) 118 4)))) (m := G 17 (G 13 k)) (c := 119) (b := 8) (FRmo hG (fun a h => hr a (List.mem_append_left _ (List.mem_append_left _ (h))))) (IRmo hK hM0 (by simp only [List.length_append, List.length_cons, List.length_nil]; omega)) (MRmo hM0 (by simp only [List.length_append, List.length_cons, List.length_nil]; omega)) (by simp only [moN, uN_s, List.length_append, List.length_cons, List.length_nil]; omega) (fun a h => hr a (List.mem_append_left _ (List.mem_append_right _ h)))) lX9_272 (dec_of DX9_tellSign 42 rfl) rfl rfl (by decide) (nle rfl) rfl ?_
  try simp (disch := decide) only [uN_s, uN_n, moG_n, moN_n]
  refine Vd_w mo2 ?_
  refine v_aload_n (dec_of DX9_tellSign 43 rfl) rfl ?_
  refine vi_bi (dec_of DX9_tellSign 44 rfl) (by decide) ?_
  refine v_iload (dec_of DX9_tellSign 45 rfl) rfl ?_
  refine vi_bi (dec_of DX9_tellSign 46 rfl) (by decide) ?_
  refine v_V3v (q_tellIf (K := (moN K ((((([97 + G 12 k] ++ wMk (G 17 (G 13 k)) 46 1) ++ wMk (G 17 (G 13 k)) 95 2) ++ wMk (G 17 (G 13 k)) 118 4) ++ wMk (G 17 (G 13 k)) 119 8)))) (G := (moG K G ((((([97 + G 12 k] ++ wMk (G 17 (G 13 k)) 46 1) ++ wMk (G 17 (G 13 k)) 95 2) ++ wMk (G 17 (G 13 k)) 118 4) ++ wMk (G 17 (G 13 k)) 119 8)))) (m := G 17 (G 13 k)) (c := 126) (b := 16) (FRmo hG (fun a h => hr a (List.mem_append_left _ (h)))) (IRmo hK hM0 (by simp only [List.length_append, List.length_cons, List.length_nil]; omega)) (MRmo hM0 (by simp only [List.length_append, List.length_cons, List.length_nil]; omega)) (by simp only [moN, uN_s, List.length_append, List.length_cons, List.length_nil]; omega) (fun a h => hr a (List.mem_append_right _ h))) lX9_272 (dec_of DX9_tellSign 47 rfl) rfl rfl (by decide) (nle rfl) rfl ?_
  try simp (disch := decide) only [uN_s, uN_n, moG_n, moN_n]
  refine Vd_w mo2 ?_
  refine v_aload_n (dec_of DX9_tellSign 48 rfl) rfl ?_
  refine v_iload_n (dec_of DX9_tellSign 49 rfl) rfl ?_
  refine v_iload_n (dec_of DX9_tellSign 50 rfl) rfl ?_
  refine v_V2r (q_ip (FRmo hG hr) (IRmo hK hM0 (by simp only [List.length_append, List.length_cons, List.length_nil]; omega)) (MRmo hM0 (by simp only [List.length_append, List.length_cons, List.length_nil]; omega)) (k := k) (e := e) he hk (fun j a b => hs j a b) ha) lX9_276 (dec_of DX9_tellSign 51 rfl) rfl rfl (by decide) (nle rfl) rfl ?_
  try simp (disch := decide) only [uN_s, uN_n, moG_n, moN_n]
  rw [ipL_mo]
  have hip := ipL_r G k (e - (k + 1)).toNat (k + 1)
  refine vi_if_eq (tgt := 282) (dec_of DX9_tellSign 52 rfl) (by decide) (by first | omega | exact bnd_r _ _ | exact hG _ _ | exact hK _ | (simp (disch := decide) only [uN_s, uN_n]; omega)) (fun c122 => ?_) (fun c122 => absurd c122 (by first | omega | exact hp | exact fun q => hp q | exact fun q => q hp))
  exact vi_vret (dec_of DX9_tellSign 139 rfl) rfl ⟨by decide, by decide⟩ (⟨rfl, rfl⟩)
set_option maxRecDepth 100000 in
set_option maxHeartbeats 4000000 in
theorem q_t1_1 {I N : Nat → Int} {F : Nat → Int → Int} {K : Nat → Int} {G : Nat → Int → Int} (hG : FR G) (hK : IR K) (hM : MR K) {k e : Int} (hk : 0 ≤ k ∧ k < 300) (he : 0 ≤ e ∧ e ≤ 300) (h11 : G 11 k = 1) (ha : 0 ≤ G 13 k ∧ G 13 k < 150) (hs : ∀ j : Int, 0 ≤ j → j < e → sgM K G j) (hp : ¬ ipL G k (e - (k + 1)).toNat (k + 1) = 0) (hlen : K 55 + (((((((([97 + G 12 k] ++ wMk (G 17 (G 13 k)) 46 1) ++ wMk (G 17 (G 13 k)) 95 2) ++ wMk (G 17 (G 13 k)) 118 4) ++ wMk (G 17 (G 13 k)) 119 8) ++ wMk (G 17 (G 13 k)) 126 16) ++ [47])).length : Int) ≤ 1700) (hr : ∀ a ∈ (((((([97 + G 12 k] ++ wMk (G 17 (G 13 k)) 46 1) ++ wMk (G 17 (G 13 k)) 95 2) ++ wMk (G 17 (G 13 k)) 118 4) ++ wMk (G 17 (G 13 k)) 119 8) ++ wMk (G 17 (G 13 k)) 126 16) ++ [47]), -2147483648 ≤ a ∧ a < 2147483648) : Sd (rm 2 44 0 0) mX9_tellSign [.ref 31, J k, J e] (W2 I N F K G) (W2 I N F (moN K ((((((([97 + G 12 k] ++ wMk (G 17 (G 13 k)) 46 1) ++ wMk (G 17 (G 13 k)) 95 2) ++ wMk (G 17 (G 13 k)) 118 4) ++ wMk (G 17 (G 13 k)) 119 8) ++ wMk (G 17 (G 13 k)) 126 16) ++ [47]))) (moG K G ((((((([97 + G 12 k] ++ wMk (G 17 (G 13 k)) 46 1) ++ wMk (G 17 (G 13 k)) 95 2) ++ wMk (G 17 (G 13 k)) 118 4) ++ wMk (G 17 (G 13 k)) 119 8) ++ wMk (G 17 (G 13 k)) 126 16) ++ [47])))) (none) := by
  unfold Sd
  have hM0 := hM
  unfold MR at hM
  simp only [List.length_append, List.length_cons, List.length_nil] at hlen
  refine sp_of (ls := [some (.ref 31), some (J k), some (J e), none, none]) (by decide) (nle rfl) rfl rfl ?_
  refine v_aload_n (dec_of DX9_tellSign 0 rfl) rfl ?_
  refine v_get fX9_37 (dec_of DX9_tellSign 1 rfl) rfl rfl ?_
  try simp (disch := decide) only [uN_s, uN_n, moG_n, moN_n]
  refine v_iload_n (dec_of DX9_tellSign 2 rfl) rfl ?_
  refine vi_aload (dec_of DX9_tellSign 3 rfl) rfl (by first | omega | exact bnd_r _ _ | exact hG _ _ | exact hK _ | (simp (disch := decide) only [uN_s, uN_n]; omega)) (by decide) ?_
  try simp (disch := decide) only [uN_s, uN_n, moG_n, moN_n]
  refine v_istore_n (dec_of DX9_tellSign 4 rfl) (by decide) ?_
  dsimp only [List.set]
  refine v_aload_n (dec_of DX9_tellSign 5 rfl) rfl ?_
  refine v_get fX9_34 (dec_of DX9_tellSign 6 rfl) rfl rfl ?_
  try simp (disch := decide) only [uN_s, uN_n, moG_n, moN_n]
  refine v_iload_n (dec_of DX9_tellSign 7 rfl) rfl ?_
  refine vi_aload (dec_of DX9_tellSign 8 rfl) rfl (by first | omega | exact bnd_r _ _ | exact hG _ _ | exact hK _ | (simp (disch := decide) only [uN_s, uN_n]; omega)) (by decide) ?_
  try simp (disch := decide) only [uN_s, uN_n, moG_n, moN_n]
  rw [h11]
  refine vi_tabIn (tgt := 48) (dec_of DX9_tellSign 9 rfl) (by decide) (by decide) (by decide) rfl (by decide) ?_
  refine v_aload_n (dec_of DX9_tellSign 10 rfl) rfl ?_
  refine vi_bi (dec_of DX9_tellSign 11 rfl) (by decide) ?_
  refine v_iload_n (dec_of DX9_tellSign 12 rfl) rfl ?_
  refine vi_add (dec_of DX9_tellSign 13 rfl) ?_
  refine v_V1v (qw_tell hG hK hM0 (by omega)) lX9_269 (dec_of DX9_tellSign 14 rfl) rfl rfl (by decide) (nle rfl) rfl ?_
  try simp (disch := decide) only [uN_s, uN_n, moG_n, moN_n]
  refine v_aload_n (dec_of DX9_tellSign 15 rfl) rfl ?_
  refine v_get fX9_46 (dec_of DX9_tellSign 16 rfl) rfl rfl ?_
  try simp (disch := decide) only [uN_s, uN_n, moG_n, moN_n]
  refine v_aload_n (dec_of DX9_tellSign 17 rfl) rfl ?_
  refine v_get fX9_40 (dec_of DX9_tellSign 18 rfl) rfl rfl ?_
  try simp (disch := decide) only [uN_s, uN_n, moG_n, moN_n]
  refine v_iload_n (dec_of DX9_tellSign 19 rfl) rfl ?_
  refine vi_aload (dec_of DX9_tellSign 20 rfl) rfl (by first | omega | exact bnd_r _ _ | exact hG _ _ | exact hK _ | (simp (disch := decide) only [uN_s, uN_n]; omega)) (by decide) ?_
  try simp (disch := decide) only [uN_s, uN_n, moG_n, moN_n]
  refine vi_aload (dec_of DX9_tellSign 21 rfl) rfl (by first | omega | exact bnd_r _ _ | exact hG _ _ | exact hK _ | (simp (disch := decide) only [uN_s, uN_n]; omega)) (by decide) ?_
  try simp (disch := decide) only [uN_s, uN_n, moG_n, moN_n]
  refine v_istore (dec_of DX9_tellSign 22 rfl) (by decide) ?_
  dsimp only [List.set]
  refine v_aload_n (dec_of DX9_tellSign 23 rfl) rfl ?_
  refine vi_bi (dec_of DX9_tellSign 24 rfl) (by decide) ?_
  refine v_iload (dec_of DX9_tellSign 25 rfl) rfl ?_
  refine vi_const (dec_of DX9_tellSign 26 rfl) ?_
  refine v_V3v (q_tellIf (K := (moN K ([97 + G 12 k]))) (G := (moG K G ([97 + G 12 k]))) (m := G 17 (G 13 k)) (c := 46) (b := 1) (FRmo hG (fun a h => hr a (List.mem_append_left _ (List.mem_append_left _ (List.mem_append_left _ (List.mem_append_left _ (List.mem_append_left _ (List.mem_append_left _ (h))))))))) (IRmo hK hM0 (by simp only [List.length_append, List.length_cons, List.length_nil]; omega)) (MRmo hM0 (by simp only [List.length_append, List.length_cons, List.length_nil]; omega)) (by simp only [moN, uN_s, List.length_append, List.length_cons, List.length_nil]; omega) (fun a h => hr a (List.mem_append_left _ (List.mem_append_left _ (List.mem_append_left _ (List.mem_append_left _ (List.mem_append_left _ (List.mem_append_right _ h)))))))) lX9_272 (dec_of DX9_tellSign 27 rfl) rfl rfl (by decide) (nle rfl) rfl ?_
  try simp (disch := decide) only [uN_s, uN_n, moG_n, moN_n]
  refine Vd_w mo2 ?_
  refine v_aload_n (dec_of DX9_tellSign 28 rfl) rfl ?_
  refine vi_bi (dec_of DX9_tellSign 29 rfl) (by decide) ?_
  refine v_iload (dec_of DX9_tellSign 30 rfl) rfl ?_
  refine vi_const (dec_of DX9_tellSign 31 rfl) ?_
  refine v_V3v (q_tellIf (K := (moN K (([97 + G 12 k] ++ wMk (G 17 (G 13 k)) 46 1)))) (G := (moG K G (([97 + G 12 k] ++ wMk (G 17 (G 13 k)) 46 1)))) (m := G 17 (G 13 k)) (c := 95) (b := 2) (FRmo hG (fun a h => hr a (List.mem_append_left _ (List.mem_append_left _ (List.mem_append_left _ (List.mem_append_left _ (List.mem_append_left _ (h)))))))) (IRmo hK hM0 (by simp only [List.length_append, List.length_cons, List.length_nil]; omega)) (MRmo hM0 (by simp only [List.length_append, List.length_cons, List.length_nil]; omega)) (by simp only [moN, uN_s, List.length_append, List.length_cons, List.length_nil]; omega) (fun a h => hr a (List.mem_append_left _ (List.mem_append_left _ (List.mem_append_left _ (List.mem_append_left _ (List.mem_append_right _ h))))))) lX9_272 (dec_of DX9_tellSign 32 rfl) rfl rfl (by decide) (nle rfl) rfl ?_
  try simp (disch := decide) only [uN_s, uN_n, moG_n, moN_n]
  refine Vd_w mo2 ?_
  refine v_aload_n (dec_of DX9_tellSign 33 rfl) rfl ?_
  refine vi_bi (dec_of DX9_tellSign 34 rfl) (by decide) ?_
  refine v_iload (dec_of DX9_tellSign 35 rfl) rfl ?_
  refine vi_const (dec_of DX9_tellSign 36 rfl) ?_
  refine v_V3v (q_tellIf (K := (moN K ((([97 + G 12 k] ++ wMk (G 17 (G 13 k)) 46 1) ++ wMk (G 17 (G 13 k)) 95 2)))) (G := (moG K G ((([97 + G 12 k] ++ wMk (G 17 (G 13 k)) 46 1) ++ wMk (G 17 (G 13 k)) 95 2)))) (m := G 17 (G 13 k)) (c := 118) (b := 4) (FRmo hG (fun a h => hr a (List.mem_append_left _ (List.mem_append_left _ (List.mem_append_left _ (List.mem_append_left _ (h))))))) (IRmo hK hM0 (by simp only [List.length_append, List.length_cons, List.length_nil]; omega)) (MRmo hM0 (by simp only [List.length_append, List.length_cons, List.length_nil]; omega)) (by simp only [moN, uN_s, List.length_append, List.length_cons, List.length_nil]; omega) (fun a h => hr a (List.mem_append_left _ (List.mem_append_left _ (List.mem_append_left _ (List.mem_append_right _ h)))))) lX9_272 (dec_of DX9_tellSign 37 rfl) rfl rfl (by decide) (nle rfl) rfl ?_
  try simp (disch := decide) only [uN_s, uN_n, moG_n, moN_n]
  refine Vd_w mo2 ?_
  refine v_aload_n (dec_of DX9_tellSign 38 rfl) rfl ?_
  refine vi_bi (dec_of DX9_tellSign 39 rfl) (by decide) ?_
  refine v_iload (dec_of DX9_tellSign 40 rfl) rfl ?_
  refine vi_bi (dec_of DX9_tellSign 41 rfl) (by decide) ?_
  refine v_V3v (q_tellIf (K := (moN K (((([97 + G 12 k] ++ wMk (G 17 (G 13 k)) 46 1) ++ wMk (G 17 (G 13 k)) 95 2) ++ wMk (G 17 (G 13 k)) 118 4)))) (G := (moG K G (((([97 + G 12 k] ++ wMk (G 17 (G 13 k)) 46 1) ++ wMk (G 17 (G 13 k)) 95 2) ++ wMk (G 17 (G 13 k)) 118 4)))) (m := G 17 (G 13 k)) (c := 119) (b := 8) (FRmo hG (fun a h => hr a (List.mem_append_left _ (List.mem_append_left _ (List.mem_append_left _ (h)))))) (IRmo hK hM0 (by simp only [List.length_append, List.length_cons, List.length_nil]; omega)) (MRmo hM0 (by simp only [List.length_append, List.length_cons, List.length_nil]; omega)) (by simp only [moN, uN_s, List.length_append, List.length_cons, List.length_nil]; omega) (fun a h => hr a (List.mem_append_left _ (List.mem_append_left _ (List.mem_append_right _ h))))) lX9_272 (dec_of DX9_tellSign 42 rfl) rfl rfl (by decide) (nle rfl) rfl ?_
  try simp (disch := decide) only [uN_s, uN_n, moG_n, moN_n]
  refine Vd_w mo2 ?_
  refine v_aload_n (dec_of DX9_tellSign 43 rfl) rfl ?_
  refine vi_bi (dec_of DX9_tellSign 44 rfl) (by decide) ?_
  refine v_iload (dec_of DX9_tellSign 45 rfl) rfl ?_
  refine vi_bi (dec_of DX9_tellSign 46 rfl) (by decide) ?_
  refine v_V3v (q_tellIf (K := (moN K ((((([97 + G 12 k] ++ wMk (G 17 (G 13 k)) 46 1) ++ wMk (G 17 (G 13 k)) 95 2) ++ wMk (G 17 (G 13 k)) 118 4) ++ wMk (G 17 (G 13 k)) 119 8)))) (G := (moG K G ((((([97 + G 12 k] ++ wMk (G 17 (G 13 k)) 46 1) ++ wMk (G 17 (G 13 k)) 95 2) ++ wMk (G 17 (G 13 k)) 118 4) ++ wMk (G 17 (G 13 k)) 119 8)))) (m := G 17 (G 13 k)) (c := 126) (b := 16) (FRmo hG (fun a h => hr a (List.mem_append_left _ (List.mem_append_left _ (h))))) (IRmo hK hM0 (by simp only [List.length_append, List.length_cons, List.length_nil]; omega)) (MRmo hM0 (by simp only [List.length_append, List.length_cons, List.length_nil]; omega)) (by simp only [moN, uN_s, List.length_append, List.length_cons, List.length_nil]; omega) (fun a h => hr a (List.mem_append_left _ (List.mem_append_right _ h)))) lX9_272 (dec_of DX9_tellSign 47 rfl) rfl rfl (by decide) (nle rfl) rfl ?_
  try simp (disch := decide) only [uN_s, uN_n, moG_n, moN_n]
  refine Vd_w mo2 ?_
  refine v_aload_n (dec_of DX9_tellSign 48 rfl) rfl ?_
  refine v_iload_n (dec_of DX9_tellSign 49 rfl) rfl ?_
  refine v_iload_n (dec_of DX9_tellSign 50 rfl) rfl ?_
  refine v_V2r (q_ip (FRmo hG (fun a h => hr a (List.mem_append_left _ (h)))) (IRmo hK hM0 (by simp only [List.length_append, List.length_cons, List.length_nil]; omega)) (MRmo hM0 (by simp only [List.length_append, List.length_cons, List.length_nil]; omega)) (k := k) (e := e) he hk (fun j a b => hs j a b) ha) lX9_276 (dec_of DX9_tellSign 51 rfl) rfl rfl (by decide) (nle rfl) rfl ?_
  try simp (disch := decide) only [uN_s, uN_n, moG_n, moN_n]
  rw [ipL_mo]
  have hip := ipL_r G k (e - (k + 1)).toNat (k + 1)
  refine vi_if_eq (tgt := 282) (dec_of DX9_tellSign 52 rfl) (by decide) (by first | omega | exact bnd_r _ _ | exact hG _ _ | exact hK _ | (simp (disch := decide) only [uN_s, uN_n]; omega)) (fun c122 => absurd c122 (by first | omega | exact hp | exact fun q => hp q | exact fun q => q hp)) (fun c122 => ?_)
  refine v_aload_n (dec_of DX9_tellSign 53 rfl) rfl ?_
  refine vi_bi (dec_of DX9_tellSign 54 rfl) (by decide) ?_
  refine v_V1v (qw_tell (FRmo hG (fun a h => hr a (List.mem_append_left _ (h)))) (IRmo hK hM0 (by simp only [List.length_append, List.length_cons, List.length_nil]; omega)) (MRmo hM0 (by simp only [List.length_append, List.length_cons, List.length_nil]; omega)) (by simp only [moN, uN_s, List.length_append, List.length_cons, List.length_nil]; omega)) lX9_269 (dec_of DX9_tellSign 55 rfl) rfl rfl (by decide) (nle rfl) rfl ?_
  try simp (disch := decide) only [uN_s, uN_n, moG_n, moN_n]
  refine Vd_w mo2 ?_
  refine v_goto (tgt := 282) (dec_of DX9_tellSign 56 rfl) (by decide) ?_
  exact vi_vret (dec_of DX9_tellSign 139 rfl) rfl ⟨by decide, by decide⟩ (⟨rfl, rfl⟩)
