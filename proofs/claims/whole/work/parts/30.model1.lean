/-! the reference: small methods (printed by wip/tools/gen_m1.py) -/
def MR (K : Nat → Int) : Prop := (0 ≤ K 1 ∧ K 1 ≤ 1500) ∧ (0 ≤ K 3 ∧ K 3 ≤ 60) ∧ (0 ≤ K 10 ∧ K 10 ≤ 300) ∧ (0 ≤ K 15 ∧ K 15 ≤ 150) ∧ (0 ≤ K 35 ∧ K 35 ≤ 150) ∧ (0 ≤ K 21 ∧ K 21 ≤ 30) ∧ (0 ≤ K 22 ∧ K 22 ≤ 20) ∧ (0 ≤ K 28 ∧ K 28 ≤ 1500) ∧ (0 ≤ K 51 ∧ K 51 ≤ 41) ∧ (0 ≤ K 55 ∧ K 55 ≤ 1700) ∧ (1 ≤ K 43 ∧ K 43 ≤ 8)
def byB (K : Nat → Int) (G : Nat → Int → Int) (k : Int) : Int := if k < K 28 then G 2 k else -1
set_option maxRecDepth 100000 in
set_option maxHeartbeats 4000000 in
theorem q_in {w : XW} {a b c : Int} (ha : -2147483648 ≤ a ∧ a < 2147483648) (hb : -2147483648 ≤ b ∧ b < 2147483648) (hc : -2147483648 ≤ c ∧ c < 2147483648) : Sd (rm 0 0 0 0) mX9_in [J a, J b, J c] (w) (w) (some (J (if b ≤ a ∧ a ≤ c then 1 else 0))) := by
  unfold Sd
  refine sp_of (ls := [some (J a), some (J b), some (J c)]) (by decide) (nle rfl) rfl rfl ?_
  refine v_iload_n (dec_of DX9_in 0 rfl) rfl ?_
  refine v_iload_n (dec_of DX9_in 1 rfl) rfl ?_
  refine vi_icmp_lt (tgt := 14) (dec_of DX9_in 2 rfl) (by decide) (by first | omega | exact bnd_r _ _ | exact hF _ _ | exact hI _ | exact hG _ _ | exact hK _ | (simp [uN] <;> omega)) (by first | omega | exact bnd_r _ _ | exact hF _ _ | exact hI _ | exact hG _ _ | exact hK _ | (simp [uN] <;> omega)) (fun c2 => ?_) (fun c2 => ?_)
  · rw [if_neg (by omega)]
    refine vi_const (dec_of DX9_in 8 rfl) ?_
    exact vi_retz (dec_of DX9_in 9 rfl) rfl (by first | omega | exact bnd_r _ _ | exact hF _ _ | exact hI _ | exact hG _ _ | exact hK _ | (simp [uN] <;> omega)) ⟨by decide, by decide⟩ (⟨rfl, rfl⟩)
  · refine v_iload_n (dec_of DX9_in 3 rfl) rfl ?_
    refine v_iload_n (dec_of DX9_in 4 rfl) rfl ?_
    refine vi_icmp_gt (tgt := 14) (dec_of DX9_in 5 rfl) (by decide) (by first | omega | exact bnd_r _ _ | exact hF _ _ | exact hI _ | exact hG _ _ | exact hK _ | (simp [uN] <;> omega)) (by first | omega | exact bnd_r _ _ | exact hF _ _ | exact hI _ | exact hG _ _ | exact hK _ | (simp [uN] <;> omega)) (fun c7 => ?_) (fun c7 => ?_)
    · rw [if_neg (by omega)]
      refine vi_const (dec_of DX9_in 8 rfl) ?_
      exact vi_retz (dec_of DX9_in 9 rfl) rfl (by first | omega | exact bnd_r _ _ | exact hF _ _ | exact hI _ | exact hG _ _ | exact hK _ | (simp [uN] <;> omega)) ⟨by decide, by decide⟩ (⟨rfl, rfl⟩)
    · rw [if_pos (by omega)]
      refine vi_const (dec_of DX9_in 6 rfl) ?_
      refine v_goto (tgt := 15) (dec_of DX9_in 7 rfl) (by decide) ?_
      exact vi_retz (dec_of DX9_in 9 rfl) rfl (by first | omega | exact bnd_r _ _ | exact hF _ _ | exact hI _ | exact hG _ _ | exact hK _ | (simp [uN] <;> omega)) ⟨by decide, by decide⟩ (⟨rfl, rfl⟩)
set_option maxRecDepth 100000 in
set_option maxHeartbeats 4000000 in
theorem q_floor {w : XW} {a : Int} (ha : -1000000 < a ∧ a < 1000000) : Sd (rm 0 0 0 0) mX9_floor [J a, J 7] (w) (w) (some (J (a / 7))) := by
  unfold Sd
  refine sp_of (ls := [some (J a), some (J 7), none]) (by decide) (nle rfl) rfl rfl ?_
  refine v_iload_n (dec_of DX9_floor 0 rfl) rfl ?_
  refine v_iload_n (dec_of DX9_floor 1 rfl) rfl ?_
  refine vi_div (by first | omega | (have := td7 a; omega)) (by first | omega | (have := td7 a; omega)) (dec_of DX9_floor 2 rfl) ?_
  refine v_istore_n (dec_of DX9_floor 3 rfl) (by decide) ?_
  dsimp only [List.set]
  refine v_iload_n (dec_of DX9_floor 4 rfl) rfl ?_
  refine v_iload_n (dec_of DX9_floor 5 rfl) rfl ?_
  refine vi_mul (dec_of DX9_floor 6 rfl) ?_
  refine v_iload_n (dec_of DX9_floor 7 rfl) rfl ?_
  refine vi_icmp_le (tgt := 17) (dec_of DX9_floor 8 rfl) (by decide) (by first | omega | (have := td7 a; omega)) (by first | omega | (have := td7 a; omega)) (fun c8 => ?_) (fun c8 => ?_)
  · refine v_iload_n (dec_of DX9_floor 13 rfl) rfl ?_
    exact vi_ret (dec_of DX9_floor 14 rfl) rfl ⟨by decide, by decide⟩ (⟨rfl, Jc (by have := td7 a; omega)⟩)
  · refine v_iload_n (dec_of DX9_floor 9 rfl) rfl ?_
    refine vi_const (dec_of DX9_floor 10 rfl) ?_
    refine vi_sub (dec_of DX9_floor 11 rfl) ?_
    refine v_goto (tgt := 18) (dec_of DX9_floor 12 rfl) (by decide) ?_
    exact vi_ret (dec_of DX9_floor 14 rfl) rfl ⟨by decide, by decide⟩ (⟨rfl, Jc (by have := td7 a; omega)⟩)
set_option maxRecDepth 100000 in
set_option maxHeartbeats 4000000 in
theorem q_mod {w : XW} {a : Int} (ha : -1000000 < a ∧ a < 1000000) : Sd (rm 1 22 0 0) mX9_mod [J a, J 7] (w) (w) (some (J (a % 7))) := by
  unfold Sd
  refine sp_of (ls := [some (J a), some (J 7)]) (by decide) (nle rfl) rfl rfl ?_
  refine v_iload_n (dec_of DX9_mod 0 rfl) rfl ?_
  refine v_iload_n (dec_of DX9_mod 1 rfl) rfl ?_
  refine v_iload_n (dec_of DX9_mod 2 rfl) rfl ?_
  refine v_S2r (q_floor ha) lX9_119 (dec_of DX9_mod 3 rfl) (by decide) (nle rfl) rfl ?_
  refine v_iload_n (dec_of DX9_mod 4 rfl) rfl ?_
  refine vi_mul (dec_of DX9_mod 5 rfl) ?_
  refine vi_sub (dec_of DX9_mod 6 rfl) ?_
  exact vi_ret (dec_of DX9_mod 7 rfl) rfl ⟨by decide, by decide⟩ (⟨rfl, Jc (by omega)⟩)
set_option maxRecDepth 100000 in
set_option maxHeartbeats 4000000 in
theorem q_isBlank {w : XW} {b : Int} (hb : -2147483648 ≤ b ∧ b < 2147483648) : Sd (rm 0 0 0 0) mX9_isBlank [J b] (w) (w) (some (J (if b = 32 ∨ b = 10 then 1 else 0))) := by
  unfold Sd
  refine sp_of (ls := [some (J b)]) (by decide) (nle rfl) rfl rfl ?_
  refine v_iload_n (dec_of DX9_isBlank 0 rfl) rfl ?_
  refine vi_bi (dec_of DX9_isBlank 1 rfl) (by decide) ?_
  refine vi_icmp_eq (tgt := 12) (dec_of DX9_isBlank 2 rfl) (by decide) (by first | omega | exact bnd_r _ _ | exact hF _ _ | exact hI _ | exact hG _ _ | exact hK _ | (simp [uN] <;> omega)) (by first | omega | exact bnd_r _ _ | exact hF _ _ | exact hI _ | exact hG _ _ | exact hK _ | (simp [uN] <;> omega)) (fun c3 => ?_) (fun c3 => ?_)
  · rw [if_pos (by omega)]
    refine vi_const (dec_of DX9_isBlank 6 rfl) ?_
    refine v_goto (tgt := 17) (dec_of DX9_isBlank 7 rfl) (by decide) ?_
    exact vi_retz (dec_of DX9_isBlank 9 rfl) rfl (by first | omega | exact bnd_r _ _ | exact hF _ _ | exact hI _ | exact hG _ _ | exact hK _ | (simp [uN] <;> omega)) ⟨by decide, by decide⟩ (⟨rfl, rfl⟩)
  · refine v_iload_n (dec_of DX9_isBlank 3 rfl) rfl ?_
    refine vi_bi (dec_of DX9_isBlank 4 rfl) (by decide) ?_
    refine vi_icmp_ne (tgt := 16) (dec_of DX9_isBlank 5 rfl) (by decide) (by first | omega | exact bnd_r _ _ | exact hF _ _ | exact hI _ | exact hG _ _ | exact hK _ | (simp [uN] <;> omega)) (by first | omega | exact bnd_r _ _ | exact hF _ _ | exact hI _ | exact hG _ _ | exact hK _ | (simp [uN] <;> omega)) (fun c9 => ?_) (fun c9 => ?_)
    · rw [if_neg (by omega)]
      refine vi_const (dec_of DX9_isBlank 8 rfl) ?_
      exact vi_retz (dec_of DX9_isBlank 9 rfl) rfl (by first | omega | exact bnd_r _ _ | exact hF _ _ | exact hI _ | exact hG _ _ | exact hK _ | (simp [uN] <;> omega)) ⟨by decide, by decide⟩ (⟨rfl, rfl⟩)
    · rw [if_pos (by omega)]
      refine vi_const (dec_of DX9_isBlank 6 rfl) ?_
      refine v_goto (tgt := 17) (dec_of DX9_isBlank 7 rfl) (by decide) ?_
      exact vi_retz (dec_of DX9_isBlank 9 rfl) rfl (by first | omega | exact bnd_r _ _ | exact hF _ _ | exact hI _ | exact hG _ _ | exact hK _ | (simp [uN] <;> omega)) ⟨by decide, by decide⟩ (⟨rfl, rfl⟩)
set_option maxRecDepth 100000 in
set_option maxHeartbeats 4000000 in
theorem q_isLetter {w : XW} {b : Int} (hb : -2147483648 ≤ b ∧ b < 2147483648) : Sd (rm 0 0 0 0) mX9_isLetter [J b] (w) (w) (some (J (if (97 ≤ b ∧ b ≤ 122) ∨ (65 ≤ b ∧ b ≤ 90) ∨ b = 39 then 1 else 0))) := by
  unfold Sd
  refine sp_of (ls := [some (J b)]) (by decide) (nle rfl) rfl rfl ?_
  refine v_iload_n (dec_of DX9_isLetter 0 rfl) rfl ?_
  refine vi_bi (dec_of DX9_isLetter 1 rfl) (by decide) ?_
  refine vi_icmp_lt (tgt := 12) (dec_of DX9_isLetter 2 rfl) (by decide) (by first | omega | exact bnd_r _ _ | exact hF _ _ | exact hI _ | exact hG _ _ | exact hK _ | (simp [uN] <;> omega)) (by first | omega | exact bnd_r _ _ | exact hF _ _ | exact hI _ | exact hG _ _ | exact hK _ | (simp [uN] <;> omega)) (fun c3 => ?_) (fun c3 => ?_)
  · refine v_iload_n (dec_of DX9_isLetter 6 rfl) rfl ?_
    refine vi_bi (dec_of DX9_isLetter 7 rfl) (by decide) ?_
    refine vi_icmp_lt (tgt := 24) (dec_of DX9_isLetter 8 rfl) (by decide) (by first | omega | exact bnd_r _ _ | exact hF _ _ | exact hI _ | exact hG _ _ | exact hK _ | (simp [uN] <;> omega)) (by first | omega | exact bnd_r _ _ | exact hF _ _ | exact hI _ | exact hG _ _ | exact hK _ | (simp [uN] <;> omega)) (fun c15 => ?_) (fun c15 => ?_)
    · refine v_iload_n (dec_of DX9_isLetter 12 rfl) rfl ?_
      refine vi_bi (dec_of DX9_isLetter 13 rfl) (by decide) ?_
      refine vi_icmp_ne (tgt := 34) (dec_of DX9_isLetter 14 rfl) (by decide) (by first | omega | exact bnd_r _ _ | exact hF _ _ | exact hI _ | exact hG _ _ | exact hK _ | (simp [uN] <;> omega)) (by first | omega | exact bnd_r _ _ | exact hF _ _ | exact hI _ | exact hG _ _ | exact hK _ | (simp [uN] <;> omega)) (fun c27 => ?_) (fun c27 => ?_)
      · rw [if_neg (by omega)]
        refine vi_const (dec_of DX9_isLetter 17 rfl) ?_
        exact vi_retz (dec_of DX9_isLetter 18 rfl) rfl (by first | omega | exact bnd_r _ _ | exact hF _ _ | exact hI _ | exact hG _ _ | exact hK _ | (simp [uN] <;> omega)) ⟨by decide, by decide⟩ (⟨rfl, rfl⟩)
      · rw [if_pos (by omega)]
        refine vi_const (dec_of DX9_isLetter 15 rfl) ?_
        refine v_goto (tgt := 35) (dec_of DX9_isLetter 16 rfl) (by decide) ?_
        exact vi_retz (dec_of DX9_isLetter 18 rfl) rfl (by first | omega | exact bnd_r _ _ | exact hF _ _ | exact hI _ | exact hG _ _ | exact hK _ | (simp [uN] <;> omega)) ⟨by decide, by decide⟩ (⟨rfl, rfl⟩)
    · refine v_iload_n (dec_of DX9_isLetter 9 rfl) rfl ?_
      refine vi_bi (dec_of DX9_isLetter 10 rfl) (by decide) ?_
      refine vi_icmp_le (tgt := 30) (dec_of DX9_isLetter 11 rfl) (by decide) (by first | omega | exact bnd_r _ _ | exact hF _ _ | exact hI _ | exact hG _ _ | exact hK _ | (simp [uN] <;> omega)) (by first | omega | exact bnd_r _ _ | exact hF _ _ | exact hI _ | exact hG _ _ | exact hK _ | (simp [uN] <;> omega)) (fun c21 => ?_) (fun c21 => ?_)
      · rw [if_pos (by omega)]
        refine vi_const (dec_of DX9_isLetter 15 rfl) ?_
        refine v_goto (tgt := 35) (dec_of DX9_isLetter 16 rfl) (by decide) ?_
        exact vi_retz (dec_of DX9_isLetter 18 rfl) rfl (by first | omega | exact bnd_r _ _ | exact hF _ _ | exact hI _ | exact hG _ _ | exact hK _ | (simp [uN] <;> omega)) ⟨by decide, by decide⟩ (⟨rfl, rfl⟩)
      · refine v_iload_n (dec_of DX9_isLetter 12 rfl) rfl ?_
        refine vi_bi (dec_of DX9_isLetter 13 rfl) (by decide) ?_
        refine vi_icmp_ne (tgt := 34) (dec_of DX9_isLetter 14 rfl) (by decide) (by first | omega | exact bnd_r _ _ | exact hF _ _ | exact hI _ | exact hG _ _ | exact hK _ | (simp [uN] <;> omega)) (by first | omega | exact bnd_r _ _ | exact hF _ _ | exact hI _ | exact hG _ _ | exact hK _ | (simp [uN] <;> omega)) (fun c27 => ?_) (fun c27 => ?_)
        · rw [if_neg (by omega)]
          refine vi_const (dec_of DX9_isLetter 17 rfl) ?_
          exact vi_retz (dec_of DX9_isLetter 18 rfl) rfl (by first | omega | exact bnd_r _ _ | exact hF _ _ | exact hI _ | exact hG _ _ | exact hK _ | (simp [uN] <;> omega)) ⟨by decide, by decide⟩ (⟨rfl, rfl⟩)
        · rw [if_pos (by omega)]
          refine vi_const (dec_of DX9_isLetter 15 rfl) ?_
          refine v_goto (tgt := 35) (dec_of DX9_isLetter 16 rfl) (by decide) ?_
          exact vi_retz (dec_of DX9_isLetter 18 rfl) rfl (by first | omega | exact bnd_r _ _ | exact hF _ _ | exact hI _ | exact hG _ _ | exact hK _ | (simp [uN] <;> omega)) ⟨by decide, by decide⟩ (⟨rfl, rfl⟩)
  · refine v_iload_n (dec_of DX9_isLetter 3 rfl) rfl ?_
    refine vi_bi (dec_of DX9_isLetter 4 rfl) (by decide) ?_
    refine vi_icmp_le (tgt := 30) (dec_of DX9_isLetter 5 rfl) (by decide) (by first | omega | exact bnd_r _ _ | exact hF _ _ | exact hI _ | exact hG _ _ | exact hK _ | (simp [uN] <;> omega)) (by first | omega | exact bnd_r _ _ | exact hF _ _ | exact hI _ | exact hG _ _ | exact hK _ | (simp [uN] <;> omega)) (fun c9 => ?_) (fun c9 => ?_)
    · rw [if_pos (by omega)]
      refine vi_const (dec_of DX9_isLetter 15 rfl) ?_
      refine v_goto (tgt := 35) (dec_of DX9_isLetter 16 rfl) (by decide) ?_
      exact vi_retz (dec_of DX9_isLetter 18 rfl) rfl (by first | omega | exact bnd_r _ _ | exact hF _ _ | exact hI _ | exact hG _ _ | exact hK _ | (simp [uN] <;> omega)) ⟨by decide, by decide⟩ (⟨rfl, rfl⟩)
    · refine v_iload_n (dec_of DX9_isLetter 6 rfl) rfl ?_
      refine vi_bi (dec_of DX9_isLetter 7 rfl) (by decide) ?_
      refine vi_icmp_lt (tgt := 24) (dec_of DX9_isLetter 8 rfl) (by decide) (by first | omega | exact bnd_r _ _ | exact hF _ _ | exact hI _ | exact hG _ _ | exact hK _ | (simp [uN] <;> omega)) (by first | omega | exact bnd_r _ _ | exact hF _ _ | exact hI _ | exact hG _ _ | exact hK _ | (simp [uN] <;> omega)) (fun c15 => ?_) (fun c15 => ?_)
      · refine v_iload_n (dec_of DX9_isLetter 12 rfl) rfl ?_
        refine vi_bi (dec_of DX9_isLetter 13 rfl) (by decide) ?_
        refine vi_icmp_ne (tgt := 34) (dec_of DX9_isLetter 14 rfl) (by decide) (by first | omega | exact bnd_r _ _ | exact hF _ _ | exact hI _ | exact hG _ _ | exact hK _ | (simp [uN] <;> omega)) (by first | omega | exact bnd_r _ _ | exact hF _ _ | exact hI _ | exact hG _ _ | exact hK _ | (simp [uN] <;> omega)) (fun c27 => ?_) (fun c27 => ?_)
        · rw [if_neg (by omega)]
          refine vi_const (dec_of DX9_isLetter 17 rfl) ?_
          exact vi_retz (dec_of DX9_isLetter 18 rfl) rfl (by first | omega | exact bnd_r _ _ | exact hF _ _ | exact hI _ | exact hG _ _ | exact hK _ | (simp [uN] <;> omega)) ⟨by decide, by decide⟩ (⟨rfl, rfl⟩)
        · rw [if_pos (by omega)]
          refine vi_const (dec_of DX9_isLetter 15 rfl) ?_
          refine v_goto (tgt := 35) (dec_of DX9_isLetter 16 rfl) (by decide) ?_
          exact vi_retz (dec_of DX9_isLetter 18 rfl) rfl (by first | omega | exact bnd_r _ _ | exact hF _ _ | exact hI _ | exact hG _ _ | exact hK _ | (simp [uN] <;> omega)) ⟨by decide, by decide⟩ (⟨rfl, rfl⟩)
      · refine v_iload_n (dec_of DX9_isLetter 9 rfl) rfl ?_
        refine vi_bi (dec_of DX9_isLetter 10 rfl) (by decide) ?_
        refine vi_icmp_le (tgt := 30) (dec_of DX9_isLetter 11 rfl) (by decide) (by first | omega | exact bnd_r _ _ | exact hF _ _ | exact hI _ | exact hG _ _ | exact hK _ | (simp [uN] <;> omega)) (by first | omega | exact bnd_r _ _ | exact hF _ _ | exact hI _ | exact hG _ _ | exact hK _ | (simp [uN] <;> omega)) (fun c21 => ?_) (fun c21 => ?_)
        · rw [if_pos (by omega)]
          refine vi_const (dec_of DX9_isLetter 15 rfl) ?_
          refine v_goto (tgt := 35) (dec_of DX9_isLetter 16 rfl) (by decide) ?_
          exact vi_retz (dec_of DX9_isLetter 18 rfl) rfl (by first | omega | exact bnd_r _ _ | exact hF _ _ | exact hI _ | exact hG _ _ | exact hK _ | (simp [uN] <;> omega)) ⟨by decide, by decide⟩ (⟨rfl, rfl⟩)
        · refine v_iload_n (dec_of DX9_isLetter 12 rfl) rfl ?_
          refine vi_bi (dec_of DX9_isLetter 13 rfl) (by decide) ?_
          refine vi_icmp_ne (tgt := 34) (dec_of DX9_isLetter 14 rfl) (by decide) (by first | omega | exact bnd_r _ _ | exact hF _ _ | exact hI _ | exact hG _ _ | exact hK _ | (simp [uN] <;> omega)) (by first | omega | exact bnd_r _ _ | exact hF _ _ | exact hI _ | exact hG _ _ | exact hK _ | (simp [uN] <;> omega)) (fun c27 => ?_) (fun c27 => ?_)
          · rw [if_neg (by omega)]
            refine vi_const (dec_of DX9_isLetter 17 rfl) ?_
            exact vi_retz (dec_of DX9_isLetter 18 rfl) rfl (by first | omega | exact bnd_r _ _ | exact hF _ _ | exact hI _ | exact hG _ _ | exact hK _ | (simp [uN] <;> omega)) ⟨by decide, by decide⟩ (⟨rfl, rfl⟩)
          · rw [if_pos (by omega)]
            refine vi_const (dec_of DX9_isLetter 15 rfl) ?_
            refine v_goto (tgt := 35) (dec_of DX9_isLetter 16 rfl) (by decide) ?_
            exact vi_retz (dec_of DX9_isLetter 18 rfl) rfl (by first | omega | exact bnd_r _ _ | exact hF _ _ | exact hI _ | exact hG _ _ | exact hK _ | (simp [uN] <;> omega)) ⟨by decide, by decide⟩ (⟨rfl, rfl⟩)
set_option maxRecDepth 100000 in
set_option maxHeartbeats 4000000 in
theorem q_stepOf {w : XW} {a c : Int} (hc : 0 ≤ c ∧ c ≤ 1000) : Sd (rm 0 0 0 0) mX9_stepOf [J a, J c] (w) (w) (some (J (a - (2 * (c % 10) + 1) - (if 9 < c then 4 else 0)))) := by
  unfold Sd
  refine sp_of (ls := [some (J a), some (J c), none]) (by decide) (nle rfl) rfl rfl ?_
  refine v_iload_n (dec_of DX9_stepOf 0 rfl) rfl ?_
  refine vi_bi (dec_of DX9_stepOf 1 rfl) (by decide) ?_
  refine vi_rem (by first | omega | exact bnd_r _ _ | exact hF _ _ | exact hI _ | exact hG _ _ | exact hK _ | (simp [uN] <;> omega)) (by first | omega | exact bnd_r _ _ | exact hF _ _ | exact hI _ | exact hG _ _ | exact hK _ | (simp [uN] <;> omega)) (dec_of DX9_stepOf 2 rfl) ?_
  refine v_istore_n (dec_of DX9_stepOf 3 rfl) (by decide) ?_
  dsimp only [List.set]
  refine v_iload_n (dec_of DX9_stepOf 4 rfl) rfl ?_
  refine vi_const (dec_of DX9_stepOf 5 rfl) ?_
  refine v_iload_n (dec_of DX9_stepOf 6 rfl) rfl ?_
  refine vi_mul (dec_of DX9_stepOf 7 rfl) ?_
  refine vi_const (dec_of DX9_stepOf 8 rfl) ?_
  refine vi_add (dec_of DX9_stepOf 9 rfl) ?_
  refine vi_sub (dec_of DX9_stepOf 10 rfl) ?_
  refine v_iload_n (dec_of DX9_stepOf 11 rfl) rfl ?_
  refine vi_bi (dec_of DX9_stepOf 12 rfl) (by decide) ?_
  refine vi_icmp_le (tgt := 22) (dec_of DX9_stepOf 13 rfl) (by decide) (by first | omega | exact bnd_r _ _ | exact hF _ _ | exact hI _ | exact hG _ _ | exact hK _ | (simp [uN] <;> omega)) (by first | omega | exact bnd_r _ _ | exact hF _ _ | exact hI _ | exact hG _ _ | exact hK _ | (simp [uN] <;> omega)) (fun c15 => ?_) (fun c15 => ?_)
  · refine vi_const (dec_of DX9_stepOf 16 rfl) ?_
    refine vi_sub (dec_of DX9_stepOf 17 rfl) ?_
    exact vi_ret (dec_of DX9_stepOf 18 rfl) rfl ⟨by decide, by decide⟩ (⟨rfl, Jc (by rw [Int.tmod_eq_emod_of_nonneg hc.1]; omega)⟩)
  · refine vi_const (dec_of DX9_stepOf 14 rfl) ?_
    refine v_goto (tgt := 23) (dec_of DX9_stepOf 15 rfl) (by decide) ?_
    refine vi_sub (dec_of DX9_stepOf 17 rfl) ?_
    exact vi_ret (dec_of DX9_stepOf 18 rfl) rfl ⟨by decide, by decide⟩ (⟨rfl, Jc (by rw [Int.tmod_eq_emod_of_nonneg hc.1]; omega)⟩)
set_option maxRecDepth 100000 in
set_option maxHeartbeats 4000000 in
theorem q_guideBy {w : XW} {a c : Int} (ha : -10000 ≤ a ∧ a ≤ 10000) (hc : 0 ≤ c ∧ c ≤ 1000) : Sd (rm 1 22 0 0) mX9_guideBy [J a, J c] (w) (w) (some (J (if 0 ≤ a + 2 * (c % 10) + 1 + (if 9 < c then 4 else 0) ∧ a + 2 * (c % 10) + 1 + (if 9 < c then 4 else 0) ≤ 12 then a + 2 * (c % 10) + 1 + (if 9 < c then 4 else 0) else -100))) := by
  unfold Sd
  refine sp_of (ls := [some (J a), some (J c), none]) (by decide) (nle rfl) rfl rfl ?_
  refine v_iload_n (dec_of DX9_guideBy 0 rfl) rfl ?_
  refine vi_const (dec_of DX9_guideBy 1 rfl) ?_
  refine v_iload_n (dec_of DX9_guideBy 2 rfl) rfl ?_
  refine vi_bi (dec_of DX9_guideBy 3 rfl) (by decide) ?_
  refine vi_rem (by first | omega | exact bnd_r _ _ | exact hF _ _ | exact hI _ | exact hG _ _ | exact hK _ | (simp [uN] <;> omega)) (by first | omega | exact bnd_r _ _ | exact hF _ _ | exact hI _ | exact hG _ _ | exact hK _ | (simp [uN] <;> omega)) (dec_of DX9_guideBy 4 rfl) ?_
  rw [Int.tmod_eq_emod_of_nonneg hc.1]
  refine vi_mul (dec_of DX9_guideBy 5 rfl) ?_
  refine vi_add (dec_of DX9_guideBy 6 rfl) ?_
  refine vi_const (dec_of DX9_guideBy 7 rfl) ?_
  refine vi_add (dec_of DX9_guideBy 8 rfl) ?_
  refine v_iload_n (dec_of DX9_guideBy 9 rfl) rfl ?_
  refine vi_bi (dec_of DX9_guideBy 10 rfl) (by decide) ?_
  refine vi_icmp_le (tgt := 20) (dec_of DX9_guideBy 11 rfl) (by decide) (by first | omega | exact bnd_r _ _ | exact hF _ _ | exact hI _ | exact hG _ _ | exact hK _ | (simp [uN] <;> omega)) (by first | omega | exact bnd_r _ _ | exact hF _ _ | exact hI _ | exact hG _ _ | exact hK _ | (simp [uN] <;> omega)) (fun c13 => ?_) (fun c13 => ?_)
  · refine vi_const (dec_of DX9_guideBy 14 rfl) ?_
    refine vi_add (dec_of DX9_guideBy 15 rfl) ?_
    refine v_istore_n (dec_of DX9_guideBy 16 rfl) (by decide) ?_
    dsimp only [List.set]
    refine v_iload_n (dec_of DX9_guideBy 17 rfl) rfl ?_
    refine vi_const (dec_of DX9_guideBy 18 rfl) ?_
    refine vi_bi (dec_of DX9_guideBy 19 rfl) (by decide) ?_
    refine v_S3r (q_in (by omega) (by omega) (by omega)) lX9_126 (dec_of DX9_guideBy 20 rfl) (by decide) (nle rfl) rfl ?_
    refine vi_if_eq (tgt := 37) (dec_of DX9_guideBy 21 rfl) (by decide) (by first | omega | exact bnd_r _ _ | exact hF _ _ | exact hI _ | exact hG _ _ | exact hK _ | (simp [uN] <;> omega)) (fun c30 => ?_) (fun c30 => ?_)
    · refine vi_bi (dec_of DX9_guideBy 24 rfl) (by decide) ?_
      exact vi_ret (dec_of DX9_guideBy 25 rfl) rfl ⟨by decide, by decide⟩ (⟨rfl, Jc (by omega)⟩)
    · refine v_iload_n (dec_of DX9_guideBy 22 rfl) rfl ?_
      refine v_goto (tgt := 39) (dec_of DX9_guideBy 23 rfl) (by decide) ?_
      exact vi_ret (dec_of DX9_guideBy 25 rfl) rfl ⟨by decide, by decide⟩ (⟨rfl, Jc (by omega)⟩)
  · refine vi_const (dec_of DX9_guideBy 12 rfl) ?_
    refine v_goto (tgt := 21) (dec_of DX9_guideBy 13 rfl) (by decide) ?_
    refine vi_add (dec_of DX9_guideBy 15 rfl) ?_
    refine v_istore_n (dec_of DX9_guideBy 16 rfl) (by decide) ?_
    dsimp only [List.set]
    refine v_iload_n (dec_of DX9_guideBy 17 rfl) rfl ?_
    refine vi_const (dec_of DX9_guideBy 18 rfl) ?_
    refine vi_bi (dec_of DX9_guideBy 19 rfl) (by decide) ?_
    refine v_S3r (q_in (by omega) (by omega) (by omega)) lX9_126 (dec_of DX9_guideBy 20 rfl) (by decide) (nle rfl) rfl ?_
    refine vi_if_eq (tgt := 37) (dec_of DX9_guideBy 21 rfl) (by decide) (by first | omega | exact bnd_r _ _ | exact hF _ _ | exact hI _ | exact hG _ _ | exact hK _ | (simp [uN] <;> omega)) (fun c30 => ?_) (fun c30 => ?_)
    · refine vi_bi (dec_of DX9_guideBy 24 rfl) (by decide) ?_
      exact vi_ret (dec_of DX9_guideBy 25 rfl) rfl ⟨by decide, by decide⟩ (⟨rfl, Jc (by omega)⟩)
    · refine v_iload_n (dec_of DX9_guideBy 22 rfl) rfl ?_
      refine v_goto (tgt := 39) (dec_of DX9_guideBy 23 rfl) (by decide) ?_
      exact vi_ret (dec_of DX9_guideBy 25 rfl) rfl ⟨by decide, by decide⟩ (⟨rfl, Jc (by omega)⟩)
set_option maxRecDepth 100000 in
set_option maxHeartbeats 4000000 in
theorem q_end_ok {I N : Nat → Int} {F : Nat → Int → Int} {K : Nat → Int} {G : Nat → Int → Int} (hG : FR G) (hK : IR K) (hM : MR K) {a : Int} (h : 0 ≤ a ∧ a ≤ K 1) : Sd (rm 1 22 0 0) mX9_end [.ref 31, J a] (W2 I N F K G) (W2 I N F (uN K 1 a) G) (some (J a)) := by
  unfold Sd
  unfold MR at hM
  refine sp_of (ls := [some (.ref 31), some (J a)]) (by decide) (nle rfl) rfl rfl ?_
  refine v_iload_n (dec_of DX9_end 0 rfl) rfl ?_
  refine vi_const (dec_of DX9_end 1 rfl) ?_
  refine v_aload_n (dec_of DX9_end 2 rfl) rfl ?_
  refine v_get fX9_123 (dec_of DX9_end 3 rfl) rfl rfl ?_
  refine v_S3r (q_in (by omega) (by omega) (by omega)) lX9_126 (dec_of DX9_end 4 rfl) (by decide) (nle rfl) rfl ?_
  refine vi_if_ne (tgt := 15) (dec_of DX9_end 5 rfl) (by decide) (by first | omega | exact bnd_r _ _ | exact hG _ _ | exact hK _ | (simp (disch := decide) only [uN_s, uN_n]; omega)) (fun c9 => ?_) (fun c9 => absurd c9 (by omega))
  refine v_aload_n (dec_of DX9_end 8 rfl) rfl ?_
  refine v_iload_n (dec_of DX9_end 9 rfl) rfl ?_
  refine mp_1 fX9_123 (dec_of DX9_end 10 rfl) ?_
  refine v_iload_n (dec_of DX9_end 11 rfl) rfl ?_
  exact vi_ret (dec_of DX9_end 12 rfl) rfl ⟨by decide, by decide⟩ (⟨rfl, rfl⟩)
set_option maxRecDepth 100000 in
set_option maxHeartbeats 4000000 in
theorem q_end_out {I N : Nat → Int} {F : Nat → Int → Int} {K : Nat → Int} {G : Nat → Int → Int} (hG : FR G) (hK : IR K) (hM : MR K) {a : Int} (ha : -2147483648 ≤ a ∧ a < 2147483648) (h : ¬ (0 ≤ a ∧ a ≤ K 1)) : Sd (rm 1 22 0 0) mX9_end [.ref 31, J a] (W2 I N F K G) (W2 I N F K G) (some (J (-102))) := by
  unfold Sd
  unfold MR at hM
  refine sp_of (ls := [some (.ref 31), some (J a)]) (by decide) (nle rfl) rfl rfl ?_
  refine v_iload_n (dec_of DX9_end 0 rfl) rfl ?_
  refine vi_const (dec_of DX9_end 1 rfl) ?_
  refine v_aload_n (dec_of DX9_end 2 rfl) rfl ?_
  refine v_get fX9_123 (dec_of DX9_end 3 rfl) rfl rfl ?_
  refine v_S3r (q_in (by omega) (by omega) (by omega)) lX9_126 (dec_of DX9_end 4 rfl) (by decide) (nle rfl) rfl ?_
  refine vi_if_ne (tgt := 15) (dec_of DX9_end 5 rfl) (by decide) (by first | omega | exact bnd_r _ _ | exact hG _ _ | exact hK _ | (simp (disch := decide) only [uN_s, uN_n]; omega)) (fun c9 => absurd c9 (by omega)) (fun c9 => ?_)
  refine vi_bi (dec_of DX9_end 6 rfl) (by decide) ?_
  exact vi_ret (dec_of DX9_end 7 rfl) rfl ⟨by decide, by decide⟩ (⟨rfl, rfl⟩)
def noK (K : Nat → Int) : Nat → Int := uN (uN (uN (uN (uN (uN (uN (uN (uN (uN (uN K 3 0) 10 0) 14 0) 15 0) 20 0) 21 0) 22 0) 23 0) 24 0) 25 0) 35 0
set_option maxRecDepth 100000 in
set_option maxHeartbeats 4000000 in
theorem q_nothing {I N : Nat → Int} {F : Nat → Int → Int} {K : Nat → Int} {G : Nat → Int → Int} (hG : FR G) (hK : IR K) (hM : MR K)  : Sd (rm 0 0 0 0) mX9_nothing [.ref 31] (W2 I N F K G) (W2 I N F (noK K) G) (none) := by
  unfold Sd
  unfold MR at hM
  refine sp_of (ls := [some (.ref 31)]) (by decide) (nle rfl) rfl rfl ?_
  refine v_aload_n (dec_of DX9_nothing 0 rfl) rfl ?_
  refine vi_const (dec_of DX9_nothing 1 rfl) ?_
  refine mp_3 fX9_133 (dec_of DX9_nothing 2 rfl) ?_
  refine v_aload_n (dec_of DX9_nothing 3 rfl) rfl ?_
  refine vi_const (dec_of DX9_nothing 4 rfl) ?_
  refine mp_10 fX9_136 (dec_of DX9_nothing 5 rfl) ?_
  refine v_aload_n (dec_of DX9_nothing 6 rfl) rfl ?_
  refine vi_const (dec_of DX9_nothing 7 rfl) ?_
  refine mp_14 fX9_139 (dec_of DX9_nothing 8 rfl) ?_
  refine v_aload_n (dec_of DX9_nothing 9 rfl) rfl ?_
  refine vi_const (dec_of DX9_nothing 10 rfl) ?_
  refine mp_15 fX9_142 (dec_of DX9_nothing 11 rfl) ?_
  refine v_aload_n (dec_of DX9_nothing 12 rfl) rfl ?_
  refine vi_const (dec_of DX9_nothing 13 rfl) ?_
  refine mp_20 fX9_145 (dec_of DX9_nothing 14 rfl) ?_
  refine v_aload_n (dec_of DX9_nothing 15 rfl) rfl ?_
  refine vi_const (dec_of DX9_nothing 16 rfl) ?_
  refine mp_21 fX9_148 (dec_of DX9_nothing 17 rfl) ?_
  refine v_aload_n (dec_of DX9_nothing 18 rfl) rfl ?_
  refine vi_const (dec_of DX9_nothing 19 rfl) ?_
  refine mp_22 fX9_151 (dec_of DX9_nothing 20 rfl) ?_
  refine v_aload_n (dec_of DX9_nothing 21 rfl) rfl ?_
  refine vi_const (dec_of DX9_nothing 22 rfl) ?_
  refine mp_23 fX9_154 (dec_of DX9_nothing 23 rfl) ?_
  refine v_aload_n (dec_of DX9_nothing 24 rfl) rfl ?_
  refine vi_const (dec_of DX9_nothing 25 rfl) ?_
  refine mp_24 fX9_157 (dec_of DX9_nothing 26 rfl) ?_
  refine v_aload_n (dec_of DX9_nothing 27 rfl) rfl ?_
  refine vi_const (dec_of DX9_nothing 28 rfl) ?_
  refine mp_25 fX9_160 (dec_of DX9_nothing 29 rfl) ?_
  refine v_aload_n (dec_of DX9_nothing 30 rfl) rfl ?_
  refine vi_const (dec_of DX9_nothing 31 rfl) ?_
  refine mp_35 fX9_163 (dec_of DX9_nothing 32 rfl) ?_
  exact vi_vret (dec_of DX9_nothing 33 rfl) rfl ⟨by decide, by decide⟩ (⟨rfl, rfl⟩)
set_option maxRecDepth 100000 in
set_option maxHeartbeats 4000000 in
theorem q_wrong0 {I N : Nat → Int} {F : Nat → Int → Int} {K : Nat → Int} {G : Nat → Int → Int} (hG : FR G) (hK : IR K) (hM : MR K) {a b : Int} (h : K 26 = 0) : Sd (rm 0 0 0 0) mX9_wrong [.ref 31, J a, J b] (W2 I N F K G) (W2 I N F (uN (uN K 26 a) 27 b) G) (none) := by
  unfold Sd
  unfold MR at hM
  refine sp_of (ls := [some (.ref 31), some (J a), some (J b)]) (by decide) (nle rfl) rfl rfl ?_
  refine v_aload_n (dec_of DX9_wrong 0 rfl) rfl ?_
  refine v_get fX9_130 (dec_of DX9_wrong 1 rfl) rfl rfl ?_
  refine vi_if_ne (tgt := 17) (dec_of DX9_wrong 2 rfl) (by decide) (by first | omega | exact bnd_r _ _ | exact hG _ _ | exact hK _ | (simp (disch := decide) only [uN_s, uN_n]; omega)) (fun c4 => absurd c4 (by omega)) (fun c4 => ?_)
  refine v_aload_n (dec_of DX9_wrong 3 rfl) rfl ?_
  refine v_iload_n (dec_of DX9_wrong 4 rfl) rfl ?_
  refine mp_26 fX9_130 (dec_of DX9_wrong 5 rfl) ?_
  refine v_aload_n (dec_of DX9_wrong 6 rfl) rfl ?_
  refine v_iload_n (dec_of DX9_wrong 7 rfl) rfl ?_
  refine mp_27 fX9_55 (dec_of DX9_wrong 8 rfl) ?_
  exact vi_vret (dec_of DX9_wrong 9 rfl) rfl ⟨by decide, by decide⟩ (⟨rfl, rfl⟩)
set_option maxRecDepth 100000 in
set_option maxHeartbeats 4000000 in
theorem q_wrong1 {I N : Nat → Int} {F : Nat → Int → Int} {K : Nat → Int} {G : Nat → Int → Int} (hG : FR G) (hK : IR K) (hM : MR K) {a b : Int} (h : ¬ K 26 = 0) : Sd (rm 0 0 0 0) mX9_wrong [.ref 31, J a, J b] (W2 I N F K G) (W2 I N F K G) (none) := by
  unfold Sd
  unfold MR at hM
  refine sp_of (ls := [some (.ref 31), some (J a), some (J b)]) (by decide) (nle rfl) rfl rfl ?_
  refine v_aload_n (dec_of DX9_wrong 0 rfl) rfl ?_
  refine v_get fX9_130 (dec_of DX9_wrong 1 rfl) rfl rfl ?_
  refine vi_if_ne (tgt := 17) (dec_of DX9_wrong 2 rfl) (by decide) (by first | omega | exact bnd_r _ _ | exact hG _ _ | exact hK _ | (simp (disch := decide) only [uN_s, uN_n]; omega)) (fun c4 => ?_) (fun c4 => absurd c4 (by omega))
  exact vi_vret (dec_of DX9_wrong 9 rfl) rfl ⟨by decide, by decide⟩ (⟨rfl, rfl⟩)
set_option maxRecDepth 100000 in
set_option maxHeartbeats 4000000 in
theorem q_byteAt {I N : Nat → Int} {F : Nat → Int → Int} {K : Nat → Int} {G : Nat → Int → Int} (hG : FR G) (hK : IR K) (hM : MR K) {a : Int} (ha : 0 ≤ a ∧ a ≤ 100000) : Sd (rm 0 0 0 0) mX9_byteAt [.ref 31, J a] (W2 I N F K G) (W2 I N F K G) (some (J (byB K G a))) := by
  unfold Sd
  unfold MR at hM
  refine sp_of (ls := [some (.ref 31), some (J a)]) (by decide) (nle rfl) rfl rfl ?_
  refine v_iload_n (dec_of DX9_byteAt 0 rfl) rfl ?_
  refine v_aload_n (dec_of DX9_byteAt 1 rfl) rfl ?_
  refine v_get fX9_166 (dec_of DX9_byteAt 2 rfl) rfl rfl ?_
  refine vi_icmp_ge (tgt := 17) (dec_of DX9_byteAt 3 rfl) (by decide) (by first | omega | exact bnd_r _ _ | exact hG _ _ | exact hK _ | (simp (disch := decide) only [uN_s, uN_n]; omega)) (by first | omega | exact bnd_r _ _ | exact hG _ _ | exact hK _ | (simp (disch := decide) only [uN_s, uN_n]; omega)) (fun c5 => ?_) (fun c5 => ?_)
  · rw [byB, if_neg (by omega)]
    refine vi_const (dec_of DX9_byteAt 9 rfl) ?_
    exact vi_ret (dec_of DX9_byteAt 10 rfl) rfl ⟨by decide, by decide⟩ (⟨rfl, rfl⟩)
  · rw [byB, if_pos (by omega)]
    refine v_aload_n (dec_of DX9_byteAt 4 rfl) rfl ?_
    refine v_get fX9_13 (dec_of DX9_byteAt 5 rfl) rfl rfl ?_
    refine v_iload_n (dec_of DX9_byteAt 6 rfl) rfl ?_
    refine vi_aload (dec_of DX9_byteAt 7 rfl) rfl (by first | omega | exact bnd_r _ _ | exact hG _ _ | exact hK _ | (simp (disch := decide) only [uN_s, uN_n]; omega)) (by decide) ?_
    refine v_goto (tgt := 18) (dec_of DX9_byteAt 8 rfl) (by decide) ?_
    exact vi_ret (dec_of DX9_byteAt 10 rfl) rfl ⟨by decide, by decide⟩ (⟨rfl, rfl⟩)
set_option maxRecDepth 100000 in
set_option maxHeartbeats 4000000 in
theorem q_markAt {I N : Nat → Int} {F : Nat → Int → Int} {K : Nat → Int} {G : Nat → Int → Int} (hG : FR G) (hK : IR K) (hM : MR K) {a : Int} (ha : 0 ≤ a ∧ a ≤ 100000) : Sd (rm 1 21 0 0) mX9_markAt [.ref 31, J a] (W2 I N F K G) (W2 I N F K G) (some (J (mkOf (byB K G a)))) := by
  unfold Sd
  unfold MR at hM
  have hbr : -2147483648 ≤ byB K G a ∧ byB K G a < 2147483648 := by unfold byB; have := hG 2 a; omega
  refine sp_of (ls := [some (.ref 31), some (J a), none]) (by decide) (nle rfl) rfl rfl ?_
  refine v_aload_n (dec_of DX9_markAt 0 rfl) rfl ?_
  refine v_iload_n (dec_of DX9_markAt 1 rfl) rfl ?_
  refine v_V1r (q_byteAt hG hK (by unfold MR; exact hM) ha) lX9_193 (dec_of DX9_markAt 2 rfl) rfl rfl (by decide) (nle rfl) rfl ?_
  refine v_istore_n (dec_of DX9_markAt 3 rfl) (by decide) ?_
  dsimp only [List.set]
  refine v_iload_n (dec_of DX9_markAt 4 rfl) rfl ?_
  refine vi_bi (dec_of DX9_markAt 5 rfl) (by decide) ?_
  refine vi_icmp_ne (tgt := 16) (dec_of DX9_markAt 6 rfl) (by decide) (by first | omega | exact hbr) (by first | omega | exact hbr) (fun c9 => ?_) (fun c9 => ?_)
  · refine v_iload_n (dec_of DX9_markAt 9 rfl) rfl ?_
    refine vi_bi (dec_of DX9_markAt 10 rfl) (by decide) ?_
    refine vi_icmp_ne (tgt := 26) (dec_of DX9_markAt 11 rfl) (by decide) (by first | omega | exact hbr) (by first | omega | exact hbr) (fun c19 => ?_) (fun c19 => ?_)
    · refine v_iload_n (dec_of DX9_markAt 14 rfl) rfl ?_
      refine vi_bi (dec_of DX9_markAt 15 rfl) (by decide) ?_
      refine vi_icmp_ne (tgt := 36) (dec_of DX9_markAt 16 rfl) (by decide) (by first | omega | exact hbr) (by first | omega | exact hbr) (fun c29 => ?_) (fun c29 => ?_)
      · refine v_iload_n (dec_of DX9_markAt 19 rfl) rfl ?_
        refine vi_bi (dec_of DX9_markAt 20 rfl) (by decide) ?_
        refine vi_icmp_ne (tgt := 47) (dec_of DX9_markAt 21 rfl) (by decide) (by first | omega | exact hbr) (by first | omega | exact hbr) (fun c39 => ?_) (fun c39 => ?_)
        · refine v_iload_n (dec_of DX9_markAt 24 rfl) rfl ?_
          refine vi_bi (dec_of DX9_markAt 25 rfl) (by decide) ?_
          refine vi_icmp_ne (tgt := 58) (dec_of DX9_markAt 26 rfl) (by decide) (by first | omega | exact hbr) (by first | omega | exact hbr) (fun c50 => ?_) (fun c50 => ?_)
          · rw [mkOf, if_neg c9, if_neg c19, if_neg c29, if_neg c39, if_neg c50]
            refine vi_const (dec_of DX9_markAt 29 rfl) ?_
            exact vi_ret (dec_of DX9_markAt 30 rfl) rfl ⟨by decide, by decide⟩ (⟨rfl, rfl⟩)
          · rw [mkOf, if_neg c9, if_neg c19, if_neg c29, if_neg c39, if_pos c50]
            refine vi_bi (dec_of DX9_markAt 27 rfl) (by decide) ?_
            refine v_goto (tgt := 59) (dec_of DX9_markAt 28 rfl) (by decide) ?_
            exact vi_ret (dec_of DX9_markAt 30 rfl) rfl ⟨by decide, by decide⟩ (⟨rfl, rfl⟩)
        · rw [mkOf, if_neg c9, if_neg c19, if_neg c29, if_pos c39]
          refine vi_bi (dec_of DX9_markAt 22 rfl) (by decide) ?_
          refine v_goto (tgt := 59) (dec_of DX9_markAt 23 rfl) (by decide) ?_
          exact vi_ret (dec_of DX9_markAt 30 rfl) rfl ⟨by decide, by decide⟩ (⟨rfl, rfl⟩)
      · rw [mkOf, if_neg c9, if_neg c19, if_pos c29]
        refine vi_const (dec_of DX9_markAt 17 rfl) ?_
        refine v_goto (tgt := 59) (dec_of DX9_markAt 18 rfl) (by decide) ?_
        exact vi_ret (dec_of DX9_markAt 30 rfl) rfl ⟨by decide, by decide⟩ (⟨rfl, rfl⟩)
    · rw [mkOf, if_neg c9, if_pos c19]
      refine vi_const (dec_of DX9_markAt 12 rfl) ?_
      refine v_goto (tgt := 59) (dec_of DX9_markAt 13 rfl) (by decide) ?_
      exact vi_ret (dec_of DX9_markAt 30 rfl) rfl ⟨by decide, by decide⟩ (⟨rfl, rfl⟩)
  · rw [mkOf, if_pos c9]
    refine vi_const (dec_of DX9_markAt 7 rfl) ?_
    refine v_goto (tgt := 59) (dec_of DX9_markAt 8 rfl) (by decide) ?_
    exact vi_ret (dec_of DX9_markAt 30 rfl) rfl ⟨by decide, by decide⟩ (⟨rfl, rfl⟩)
set_option maxRecDepth 100000 in
set_option maxHeartbeats 4000000 in
theorem q_place {I N : Nat → Int} {F : Nat → Int → Int} {K : Nat → Int} {G : Nat → Int → Int} (hG : FR G) (hK : IR K) (hM : MR K)  : Sd (rm 0 0 0 0) mX9_place [.ref 31] (W2 I N F K G) (W2 I N F K G) (some (J (K 27))) := by
  unfold Sd
  unfold MR at hM
  refine sp_of (ls := [some (.ref 31)]) (by decide) (nle rfl) rfl rfl ?_
  refine v_aload_n (dec_of DX9_place 0 rfl) rfl ?_
  refine v_get fX9_55 (dec_of DX9_place 1 rfl) rfl rfl ?_
  exact vi_ret (dec_of DX9_place 2 rfl) rfl ⟨by decide, by decide⟩ (⟨rfl, rfl⟩)
set_option maxRecDepth 100000 in
set_option maxHeartbeats 4000000 in
theorem q_guide {I N : Nat → Int} {F : Nat → Int → Int} {K : Nat → Int} {G : Nat → Int → Int} (hG : FR G) (hK : IR K) (hM : MR K) {a : Int} (ha : -2147483648 ≤ a ∧ a < 2147483648) : Sd (rm 1 22 0 0) mX9_guide [.ref 31, J a] (W2 I N F K G) (W2 I N F K G) (some (J (if 0 ≤ a ∧ a < K 22 then G 32 a else -101))) := by
  unfold Sd
  unfold MR at hM
  refine sp_of (ls := [some (.ref 31), some (J a)]) (by decide) (nle rfl) rfl rfl ?_
  refine v_iload_n (dec_of DX9_guide 0 rfl) rfl ?_
  refine vi_const (dec_of DX9_guide 1 rfl) ?_
  refine v_aload_n (dec_of DX9_guide 2 rfl) rfl ?_
  refine v_get fX9_151 (dec_of DX9_guide 3 rfl) rfl rfl ?_
  refine vi_const (dec_of DX9_guide 4 rfl) ?_
  refine vi_sub (dec_of DX9_guide 5 rfl) ?_
  refine v_S3r (q_in (by omega) (by omega) (by omega)) lX9_126 (dec_of DX9_guide 6 rfl) (by decide) (nle rfl) rfl ?_
  refine vi_if_eq (tgt := 23) (dec_of DX9_guide 7 rfl) (by decide) (by first | omega | exact bnd_r _ _ | exact hG _ _ | exact hK _ | (simp (disch := decide) only [uN_s, uN_n]; omega)) (fun c11 => ?_) (fun c11 => ?_)
  · refine vi_bi (dec_of DX9_guide 13 rfl) (by decide) ?_
    exact vi_ret (dec_of DX9_guide 14 rfl) rfl ⟨by decide, by decide⟩ (⟨rfl, Jc (by omega)⟩)
  · refine v_aload_n (dec_of DX9_guide 8 rfl) rfl ?_
    refine v_get fX9_65 (dec_of DX9_guide 9 rfl) rfl rfl ?_
    refine v_iload_n (dec_of DX9_guide 10 rfl) rfl ?_
    refine vi_aload (dec_of DX9_guide 11 rfl) rfl (by first | omega | exact bnd_r _ _ | exact hG _ _ | exact hK _ | (simp (disch := decide) only [uN_s, uN_n]; omega)) (by decide) ?_
    refine v_goto (tgt := 25) (dec_of DX9_guide 12 rfl) (by decide) ?_
    exact vi_ret (dec_of DX9_guide 14 rfl) rfl ⟨by decide, by decide⟩ (⟨rfl, Jc (by omega)⟩)
set_option maxRecDepth 100000 in
set_option maxHeartbeats 4000000 in
theorem q_at {I N : Nat → Int} {F : Nat → Int → Int} {K : Nat → Int} {G : Nat → Int → Int} (hG : FR G) (hK : IR K) (hM : MR K) {a : Int} (ha : -2147483648 ≤ a ∧ a < 2147483648) : Sd (rm 1 22 0 0) mX9_at [.ref 31, J a] (W2 I N F K G) (W2 I N F K G) (some (J (if 0 ≤ a ∧ a < K 55 then G 54 a else -100))) := by
  unfold Sd
  unfold MR at hM
  refine sp_of (ls := [some (.ref 31), some (J a)]) (by decide) (nle rfl) rfl rfl ?_
  refine v_iload_n (dec_of DX9_at 0 rfl) rfl ?_
  refine vi_const (dec_of DX9_at 1 rfl) ?_
  refine v_aload_n (dec_of DX9_at 2 rfl) rfl ?_
  refine v_get fX9_266 (dec_of DX9_at 3 rfl) rfl rfl ?_
  refine vi_const (dec_of DX9_at 4 rfl) ?_
  refine vi_sub (dec_of DX9_at 5 rfl) ?_
  refine v_S3r (q_in (by omega) (by omega) (by omega)) lX9_126 (dec_of DX9_at 6 rfl) (by decide) (nle rfl) rfl ?_
  refine vi_if_eq (tgt := 23) (dec_of DX9_at 7 rfl) (by decide) (by first | omega | exact bnd_r _ _ | exact hG _ _ | exact hK _ | (simp (disch := decide) only [uN_s, uN_n]; omega)) (fun c11 => ?_) (fun c11 => ?_)
  · refine vi_bi (dec_of DX9_at 13 rfl) (by decide) ?_
    exact vi_ret (dec_of DX9_at 14 rfl) rfl ⟨by decide, by decide⟩ (⟨rfl, Jc (by omega)⟩)
  · refine v_aload_n (dec_of DX9_at 8 rfl) rfl ?_
    refine v_get fX9_113 (dec_of DX9_at 9 rfl) rfl rfl ?_
    refine v_iload_n (dec_of DX9_at 10 rfl) rfl ?_
    refine vi_aload (dec_of DX9_at 11 rfl) rfl (by first | omega | exact bnd_r _ _ | exact hG _ _ | exact hK _ | (simp (disch := decide) only [uN_s, uN_n]; omega)) (by decide) ?_
    refine v_goto (tgt := 25) (dec_of DX9_at 12 rfl) (by decide) ?_
    exact vi_ret (dec_of DX9_at 14 rfl) rfl ⟨by decide, by decide⟩ (⟨rfl, Jc (by omega)⟩)
set_option maxRecDepth 100000 in
set_option maxHeartbeats 4000000 in
theorem q_tone_ok {I N : Nat → Int} {F : Nat → Int → Int} {K : Nat → Int} {G : Nat → Int → Int} (hG : FR G) (hK : IR K) (hM : MR K) {a : Int} (h : 1 ≤ a ∧ a ≤ 8) : Sd (rm 1 22 0 0) mX9_tone [.ref 31, J a] (W2 I N F K G) (W2 I N F (uN K 43 a) G) (some (J (K 43))) := by
  unfold Sd
  unfold MR at hM
  refine sp_of (ls := [some (.ref 31), some (J a), none]) (by decide) (nle rfl) rfl rfl ?_
  refine v_iload_n (dec_of DX9_tone 0 rfl) rfl ?_
  refine vi_const (dec_of DX9_tone 1 rfl) ?_
  refine vi_bi (dec_of DX9_tone 2 rfl) (by decide) ?_
  refine v_S3r (q_in (by omega) (by omega) (by omega)) lX9_126 (dec_of DX9_tone 3 rfl) (by decide) (nle rfl) rfl ?_
  refine vi_if_ne (tgt := 13) (dec_of DX9_tone 4 rfl) (by decide) (by first | omega | exact bnd_r _ _ | exact hG _ _ | exact hK _ | (simp (disch := decide) only [uN_s, uN_n]; omega)) (fun c7 => ?_) (fun c7 => absurd c7 (by omega))
  refine v_aload_n (dec_of DX9_tone 7 rfl) rfl ?_
  refine v_get fX9_116 (dec_of DX9_tone 8 rfl) rfl rfl ?_
  refine v_istore_n (dec_of DX9_tone 9 rfl) (by decide) ?_
  dsimp only [List.set]
  refine v_aload_n (dec_of DX9_tone 10 rfl) rfl ?_
  refine v_iload_n (dec_of DX9_tone 11 rfl) rfl ?_
  refine mp_43 fX9_116 (dec_of DX9_tone 12 rfl) ?_
  refine v_iload_n (dec_of DX9_tone 13 rfl) rfl ?_
  exact vi_ret (dec_of DX9_tone 14 rfl) rfl ⟨by decide, by decide⟩ (⟨rfl, rfl⟩)
set_option maxRecDepth 100000 in
set_option maxHeartbeats 4000000 in
theorem q_tone_out {I N : Nat → Int} {F : Nat → Int → Int} {K : Nat → Int} {G : Nat → Int → Int} (hG : FR G) (hK : IR K) (hM : MR K) {a : Int} (ha : -2147483648 ≤ a ∧ a < 2147483648) (h : ¬ (1 ≤ a ∧ a ≤ 8)) : Sd (rm 1 22 0 0) mX9_tone [.ref 31, J a] (W2 I N F K G) (W2 I N F K G) (some (J (-102))) := by
  unfold Sd
  unfold MR at hM
  refine sp_of (ls := [some (.ref 31), some (J a), none]) (by decide) (nle rfl) rfl rfl ?_
  refine v_iload_n (dec_of DX9_tone 0 rfl) rfl ?_
  refine vi_const (dec_of DX9_tone 1 rfl) ?_
  refine vi_bi (dec_of DX9_tone 2 rfl) (by decide) ?_
  refine v_S3r (q_in (by omega) (by omega) (by omega)) lX9_126 (dec_of DX9_tone 3 rfl) (by decide) (nle rfl) rfl ?_
  refine vi_if_ne (tgt := 13) (dec_of DX9_tone 4 rfl) (by decide) (by first | omega | exact bnd_r _ _ | exact hG _ _ | exact hK _ | (simp (disch := decide) only [uN_s, uN_n]; omega)) (fun c7 => absurd c7 (by omega)) (fun c7 => ?_)
  refine vi_bi (dec_of DX9_tone 5 rfl) (by decide) ?_
  exact vi_ret (dec_of DX9_tone 6 rfl) rfl ⟨by decide, by decide⟩ (⟨rfl, rfl⟩)
set_option maxRecDepth 100000 in
set_option maxHeartbeats 4000000 in
theorem q_point {I N : Nat → Int} {F : Nat → Int → Int} {K : Nat → Int} {G : Nat → Int → Int} (hG : FR G) (hK : IR K) (hM : MR K) {a b : Int} (ha : a = 0 ∨ a = 1) (hb : b = 0 ∨ b = 1) (hp : 0 ≤ G 45 a ∧ G 45 a ≤ 40) (hf : G 45 a < 40) : Sd (rm 1 22 0 0) mX9_point [.ref 31, J a, J b] (W2 I N F K G) (W2 I N F K (uN (uN G 44 (uI (G 44) (40 * a + G 45 a) b)) 45 (uI (G 45) a (G 45 a + 1)))) (some (J (G 45 a + 1))) := by
  unfold Sd
  unfold MR at hM
  refine sp_of (ls := [some (.ref 31), some (J a), some (J b)]) (by decide) (nle rfl) rfl rfl ?_
  refine v_iload_n (dec_of DX9_point 0 rfl) rfl ?_
  refine vi_const (dec_of DX9_point 1 rfl) ?_
  refine vi_const (dec_of DX9_point 2 rfl) ?_
  refine v_S3r (q_in (by omega) (by omega) (by omega)) lX9_126 (dec_of DX9_point 3 rfl) (by decide) (nle rfl) rfl ?_
  refine vi_if_ne (tgt := 12) (dec_of DX9_point 4 rfl) (by decide) (by first | omega | exact bnd_r _ _ | exact hG _ _ | exact hK _ | (simp (disch := decide) only [uN_s, uN_n]; omega)) (fun c6 => ?_) (fun c6 => absurd c6 (by omega))
  refine v_aload_n (dec_of DX9_point 7 rfl) rfl ?_
  refine v_get fX9_98 (dec_of DX9_point 8 rfl) rfl rfl ?_
  refine v_iload_n (dec_of DX9_point 9 rfl) rfl ?_
  refine vi_aload (dec_of DX9_point 10 rfl) rfl (by first | omega | exact bnd_r _ _ | exact hG _ _ | exact hK _ | (simp (disch := decide) only [uN_s, uN_n]; omega)) (by decide) ?_
  refine vi_bi (dec_of DX9_point 11 rfl) (by decide) ?_
  refine vi_icmp_ne (tgt := 26) (dec_of DX9_point 12 rfl) (by decide) (by first | omega | exact bnd_r _ _ | exact hG _ _ | exact hK _ | (simp (disch := decide) only [uN_s, uN_n]; omega)) (by first | omega | exact bnd_r _ _ | exact hG _ _ | exact hK _ | (simp (disch := decide) only [uN_s, uN_n]; omega)) (fun c20 => ?_) (fun c20 => absurd c20 (by omega))
  refine v_aload_n (dec_of DX9_point 15 rfl) rfl ?_
  refine v_get fX9_95 (dec_of DX9_point 16 rfl) rfl rfl ?_
  refine vi_bi (dec_of DX9_point 17 rfl) (by decide) ?_
  refine v_iload_n (dec_of DX9_point 18 rfl) rfl ?_
  refine vi_mul (dec_of DX9_point 19 rfl) ?_
  refine v_aload_n (dec_of DX9_point 20 rfl) rfl ?_
  refine v_get fX9_98 (dec_of DX9_point 21 rfl) rfl rfl ?_
  refine v_iload_n (dec_of DX9_point 22 rfl) rfl ?_
  refine vi_aload (dec_of DX9_point 23 rfl) rfl (by first | omega | exact bnd_r _ _ | exact hG _ _ | exact hK _ | (simp (disch := decide) only [uN_s, uN_n]; omega)) (by decide) ?_
  refine vi_add (dec_of DX9_point 24 rfl) ?_
  refine v_iload_n (dec_of DX9_point 25 rfl) rfl ?_
  refine vi_if_eq (tgt := 49) (dec_of DX9_point 26 rfl) (by decide) (by first | omega | exact bnd_r _ _ | exact hG _ _ | exact hK _ | (simp (disch := decide) only [uN_s, uN_n]; omega)) (fun c42 => ?_) (fun c42 => ?_)
  · obtain rfl : b = 0 := by omega
    refine vi_const (dec_of DX9_point 29 rfl) ?_
    refine ms_44 (dec_of DX9_point 30 rfl) (by first | omega | exact bnd_r _ _ | exact hG _ _ | exact hK _ | (simp (disch := decide) only [uN_s, uN_n]; omega)) ?_
    refine v_aload_n (dec_of DX9_point 31 rfl) rfl ?_
    refine v_get fX9_98 (dec_of DX9_point 32 rfl) rfl rfl ?_
    refine v_iload_n (dec_of DX9_point 33 rfl) rfl ?_
    refine v_dup2 (dec_of DX9_point 34 rfl) rfl rfl ?_
    refine vi_aload (dec_of DX9_point 35 rfl) rfl (by first | omega | exact bnd_r _ _ | exact hG _ _ | exact hK _ | (simp (disch := decide) only [uN_s, uN_n]; omega)) (by decide) ?_
    refine vi_const (dec_of DX9_point 36 rfl) ?_
    refine vi_add (dec_of DX9_point 37 rfl) ?_
    refine ms_45 (dec_of DX9_point 38 rfl) (by first | omega | exact bnd_r _ _ | exact hG _ _ | exact hK _ | (simp (disch := decide) only [uN_s, uN_n]; omega)) ?_
    refine v_aload_n (dec_of DX9_point 39 rfl) rfl ?_
    refine v_get fX9_98 (dec_of DX9_point 40 rfl) rfl rfl ?_
    refine v_iload_n (dec_of DX9_point 41 rfl) rfl ?_
    refine vi_aload (dec_of DX9_point 42 rfl) rfl (by first | omega | exact bnd_r _ _ | exact hG _ _ | exact hK _ | (simp (disch := decide) only [uN_s, uN_n]; omega)) (by decide) ?_
    exact vi_ret (dec_of DX9_point 43 rfl) rfl ⟨by decide, by decide⟩ (⟨rfl, Jc (by simp (disch := decide) only [uN_s, uN_n, uI_s])⟩)
  · obtain rfl : b = 1 := by omega
    refine vi_const (dec_of DX9_point 27 rfl) ?_
    refine v_goto (tgt := 50) (dec_of DX9_point 28 rfl) (by decide) ?_
    refine ms_44 (dec_of DX9_point 30 rfl) (by first | omega | exact bnd_r _ _ | exact hG _ _ | exact hK _ | (simp (disch := decide) only [uN_s, uN_n]; omega)) ?_
    refine v_aload_n (dec_of DX9_point 31 rfl) rfl ?_
    refine v_get fX9_98 (dec_of DX9_point 32 rfl) rfl rfl ?_
    refine v_iload_n (dec_of DX9_point 33 rfl) rfl ?_
    refine v_dup2 (dec_of DX9_point 34 rfl) rfl rfl ?_
    refine vi_aload (dec_of DX9_point 35 rfl) rfl (by first | omega | exact bnd_r _ _ | exact hG _ _ | exact hK _ | (simp (disch := decide) only [uN_s, uN_n]; omega)) (by decide) ?_
    refine vi_const (dec_of DX9_point 36 rfl) ?_
    refine vi_add (dec_of DX9_point 37 rfl) ?_
    refine ms_45 (dec_of DX9_point 38 rfl) (by first | omega | exact bnd_r _ _ | exact hG _ _ | exact hK _ | (simp (disch := decide) only [uN_s, uN_n]; omega)) ?_
    refine v_aload_n (dec_of DX9_point 39 rfl) rfl ?_
    refine v_get fX9_98 (dec_of DX9_point 40 rfl) rfl rfl ?_
    refine v_iload_n (dec_of DX9_point 41 rfl) rfl ?_
    refine vi_aload (dec_of DX9_point 42 rfl) rfl (by first | omega | exact bnd_r _ _ | exact hG _ _ | exact hK _ | (simp (disch := decide) only [uN_s, uN_n]; omega)) (by decide) ?_
    exact vi_ret (dec_of DX9_point 43 rfl) rfl ⟨by decide, by decide⟩ (⟨rfl, Jc (by simp (disch := decide) only [uN_s, uN_n, uI_s])⟩)
set_option maxRecDepth 100000 in
set_option maxHeartbeats 4000000 in
theorem q_point_full {I N : Nat → Int} {F : Nat → Int → Int} {K : Nat → Int} {G : Nat → Int → Int} (hG : FR G) (hK : IR K) (hM : MR K) {a b : Int} (ha : a = 0 ∨ a = 1) (hf : G 45 a = 40) : Sd (rm 1 22 0 0) mX9_point [.ref 31, J a, J b] (W2 I N F K G) (W2 I N F K G) (some (J (-104))) := by
  unfold Sd
  unfold MR at hM
  refine sp_of (ls := [some (.ref 31), some (J a), some (J b)]) (by decide) (nle rfl) rfl rfl ?_
  refine v_iload_n (dec_of DX9_point 0 rfl) rfl ?_
  refine vi_const (dec_of DX9_point 1 rfl) ?_
  refine vi_const (dec_of DX9_point 2 rfl) ?_
  refine v_S3r (q_in (by omega) (by omega) (by omega)) lX9_126 (dec_of DX9_point 3 rfl) (by decide) (nle rfl) rfl ?_
  refine vi_if_ne (tgt := 12) (dec_of DX9_point 4 rfl) (by decide) (by first | omega | exact bnd_r _ _ | exact hG _ _ | exact hK _ | (simp (disch := decide) only [uN_s, uN_n]; omega)) (fun c6 => ?_) (fun c6 => absurd c6 (by omega))
  refine v_aload_n (dec_of DX9_point 7 rfl) rfl ?_
  refine v_get fX9_98 (dec_of DX9_point 8 rfl) rfl rfl ?_
  refine v_iload_n (dec_of DX9_point 9 rfl) rfl ?_
  refine vi_aload (dec_of DX9_point 10 rfl) rfl (by first | omega | exact bnd_r _ _ | exact hG _ _ | exact hK _ | (simp (disch := decide) only [uN_s, uN_n]; omega)) (by decide) ?_
  refine vi_bi (dec_of DX9_point 11 rfl) (by decide) ?_
  refine vi_icmp_ne (tgt := 26) (dec_of DX9_point 12 rfl) (by decide) (by first | omega | exact bnd_r _ _ | exact hG _ _ | exact hK _ | (simp (disch := decide) only [uN_s, uN_n]; omega)) (by first | omega | exact bnd_r _ _ | exact hG _ _ | exact hK _ | (simp (disch := decide) only [uN_s, uN_n]; omega)) (fun c20 => absurd c20 (by omega)) (fun c20 => ?_)
  refine vi_bi (dec_of DX9_point 13 rfl) (by decide) ?_
  exact vi_ret (dec_of DX9_point 14 rfl) rfl ⟨by decide, by decide⟩ (⟨rfl, rfl⟩)
set_option maxRecDepth 100000 in
set_option maxHeartbeats 4000000 in
theorem q_point_out {I N : Nat → Int} {F : Nat → Int → Int} {K : Nat → Int} {G : Nat → Int → Int} (hG : FR G) (hK : IR K) (hM : MR K) {a b : Int} (ha : -2147483648 ≤ a ∧ a < 2147483648) (h : ¬ (a = 0 ∨ a = 1)) : Sd (rm 1 22 0 0) mX9_point [.ref 31, J a, J b] (W2 I N F K G) (W2 I N F K G) (some (J (-102))) := by
  unfold Sd
  unfold MR at hM
  refine sp_of (ls := [some (.ref 31), some (J a), some (J b)]) (by decide) (nle rfl) rfl rfl ?_
  refine v_iload_n (dec_of DX9_point 0 rfl) rfl ?_
  refine vi_const (dec_of DX9_point 1 rfl) ?_
  refine vi_const (dec_of DX9_point 2 rfl) ?_
  refine v_S3r (q_in (by omega) (by omega) (by omega)) lX9_126 (dec_of DX9_point 3 rfl) (by decide) (nle rfl) rfl ?_
  refine vi_if_ne (tgt := 12) (dec_of DX9_point 4 rfl) (by decide) (by first | omega | exact bnd_r _ _ | exact hG _ _ | exact hK _ | (simp (disch := decide) only [uN_s, uN_n]; omega)) (fun c6 => absurd c6 (by omega)) (fun c6 => ?_)
  refine vi_bi (dec_of DX9_point 5 rfl) (by decide) ?_
  exact vi_ret (dec_of DX9_point 6 rfl) rfl ⟨by decide, by decide⟩ (⟨rfl, rfl⟩)
set_option maxRecDepth 100000 in
set_option maxHeartbeats 4000000 in
theorem q_fresh {I N : Nat → Int} {F : Nat → Int → Int} {K : Nat → Int} {G : Nat → Int → Int} (hG : FR G) (hK : IR K) (hM : MR K)  : Sd (rm 0 0 0 0) mX9_fresh [.ref 31] (W2 I N F K G) (W2 I N F K (uN G 45 (uI (uI (G 45) 0 0) 1 0))) (some (J (G 45 0 + G 45 1))) := by
  unfold Sd
  unfold MR at hM
  refine sp_of (ls := [some (.ref 31), none]) (by decide) (nle rfl) rfl rfl ?_
  refine v_aload_n (dec_of DX9_fresh 0 rfl) rfl ?_
  refine v_get fX9_98 (dec_of DX9_fresh 1 rfl) rfl rfl ?_
  refine vi_const (dec_of DX9_fresh 2 rfl) ?_
  refine vi_aload (dec_of DX9_fresh 3 rfl) rfl (by first | omega | exact bnd_r _ _ | exact hG _ _ | exact hK _ | (simp (disch := decide) only [uN_s, uN_n]; omega)) (by decide) ?_
  refine v_aload_n (dec_of DX9_fresh 4 rfl) rfl ?_
  refine v_get fX9_98 (dec_of DX9_fresh 5 rfl) rfl rfl ?_
  refine vi_const (dec_of DX9_fresh 6 rfl) ?_
  refine vi_aload (dec_of DX9_fresh 7 rfl) rfl (by first | omega | exact bnd_r _ _ | exact hG _ _ | exact hK _ | (simp (disch := decide) only [uN_s, uN_n]; omega)) (by decide) ?_
  refine vi_add (dec_of DX9_fresh 8 rfl) ?_
  refine v_istore_n (dec_of DX9_fresh 9 rfl) (by decide) ?_
  dsimp only [List.set]
  refine v_aload_n (dec_of DX9_fresh 10 rfl) rfl ?_
  refine v_get fX9_98 (dec_of DX9_fresh 11 rfl) rfl rfl ?_
  refine vi_const (dec_of DX9_fresh 12 rfl) ?_
  refine vi_const (dec_of DX9_fresh 13 rfl) ?_
  refine ms_45 (dec_of DX9_fresh 14 rfl) (by first | omega | exact bnd_r _ _ | exact hG _ _ | exact hK _ | (simp (disch := decide) only [uN_s, uN_n]; omega)) ?_
  refine v_aload_n (dec_of DX9_fresh 15 rfl) rfl ?_
  refine v_get fX9_98 (dec_of DX9_fresh 16 rfl) rfl rfl ?_
  refine vi_const (dec_of DX9_fresh 17 rfl) ?_
  refine vi_const (dec_of DX9_fresh 18 rfl) ?_
  refine ms_45 (dec_of DX9_fresh 19 rfl) (by first | omega | exact bnd_r _ _ | exact hG _ _ | exact hK _ | (simp (disch := decide) only [uN_s, uN_n]; omega)) ?_
  refine v_iload_n (dec_of DX9_fresh 20 rfl) rfl ?_
  exact vi_ret (dec_of DX9_fresh 21 rfl) rfl ⟨by decide, by decide⟩ (⟨rfl, rfl⟩)
def clM (K : Nat → Int) (G : Nat → Int → Int) (h i : Int) : Int := G 47 (18 * (K 43 - 1) + 9 * h + i)
set_option maxRecDepth 100000 in
set_option maxHeartbeats 4000000 in
theorem q_close {I N : Nat → Int} {F : Nat → Int → Int} {K : Nat → Int} {G : Nat → Int → Int} (hG : FR G) (hK : IR K) (hM : MR K) {a b : Int} (ha : 0 ≤ a ∧ a ≤ 1) (hb : 0 ≤ b ∧ b ≤ 8) : Sd (rm 0 0 0 0) mX9_close [.ref 31, J a, J b] (W2 I N F K G) (W2 I N F K G) (some (J (clM K G a b))) := by
  unfold Sd
  unfold MR at hM
  refine sp_of (ls := [some (.ref 31), some (J a), some (J b)]) (by decide) (nle rfl) rfl rfl ?_
  refine v_aload_n (dec_of DX9_close 0 rfl) rfl ?_
  refine v_get fX9_104 (dec_of DX9_close 1 rfl) rfl rfl ?_
  refine vi_bi (dec_of DX9_close 2 rfl) (by decide) ?_
  refine v_aload_n (dec_of DX9_close 3 rfl) rfl ?_
  refine v_get fX9_116 (dec_of DX9_close 4 rfl) rfl rfl ?_
  refine vi_const (dec_of DX9_close 5 rfl) ?_
  refine vi_sub (dec_of DX9_close 6 rfl) ?_
  refine vi_mul (dec_of DX9_close 7 rfl) ?_
  refine vi_bi (dec_of DX9_close 8 rfl) (by decide) ?_
  refine v_iload_n (dec_of DX9_close 9 rfl) rfl ?_
  refine vi_mul (dec_of DX9_close 10 rfl) ?_
  refine vi_add (dec_of DX9_close 11 rfl) ?_
  refine v_iload_n (dec_of DX9_close 12 rfl) rfl ?_
  refine vi_add (dec_of DX9_close 13 rfl) ?_
  refine vi_aload (dec_of DX9_close 14 rfl) rfl (by first | omega | exact bnd_r _ _ | exact hG _ _ | exact hK _ | (simp (disch := decide) only [uN_s, uN_n]; omega)) (by decide) ?_
  exact vi_ret (dec_of DX9_close 15 rfl) rfl ⟨by decide, by decide⟩ (⟨rfl, rfl⟩)
set_option maxRecDepth 100000 in
set_option maxHeartbeats 4000000 in
theorem q_sing {I N : Nat → Int} {F : Nat → Int → Int} {K : Nat → Int} {G : Nat → Int → Int} (hG : FR G) (hK : IR K) (hM : MR K) {a b : Int} (h : K 51 < 41) : Sd (rm 0 0 0 0) mX9_sing [.ref 31, J a, J b] (W2 I N F K G) (W2 I N F (uN K 51 (K 51 + 1)) (uN (uN G 52 (uI (G 52) (K 51) a)) 53 (uI (G 53) (K 51) b))) (none) := by
  unfold Sd
  unfold MR at hM
  refine sp_of (ls := [some (.ref 31), some (J a), some (J b)]) (by decide) (nle rfl) rfl rfl ?_
  refine v_aload_n (dec_of DX9_sing 0 rfl) rfl ?_
  refine v_get fX9_107 (dec_of DX9_sing 1 rfl) rfl rfl ?_
  refine v_aload_n (dec_of DX9_sing 2 rfl) rfl ?_
  refine v_get fX9_240 (dec_of DX9_sing 3 rfl) rfl rfl ?_
  refine v_iload_n (dec_of DX9_sing 4 rfl) rfl ?_
  refine ms_52 (dec_of DX9_sing 5 rfl) (by first | omega | exact bnd_r _ _ | exact hG _ _ | exact hK _ | (simp (disch := decide) only [uN_s, uN_n]; omega)) ?_
  refine v_aload_n (dec_of DX9_sing 6 rfl) rfl ?_
  refine v_get fX9_110 (dec_of DX9_sing 7 rfl) rfl rfl ?_
  refine v_aload_n (dec_of DX9_sing 8 rfl) rfl ?_
  refine v_get fX9_240 (dec_of DX9_sing 9 rfl) rfl rfl ?_
  refine v_iload_n (dec_of DX9_sing 10 rfl) rfl ?_
  refine ms_53 (dec_of DX9_sing 11 rfl) (by first | omega | exact bnd_r _ _ | exact hG _ _ | exact hK _ | (simp (disch := decide) only [uN_s, uN_n]; omega)) ?_
  refine v_aload_n (dec_of DX9_sing 12 rfl) rfl ?_
  refine v_dup (dec_of DX9_sing 13 rfl) rfl ?_
  refine v_get fX9_240 (dec_of DX9_sing 14 rfl) rfl rfl ?_
  refine vi_const (dec_of DX9_sing 15 rfl) ?_
  refine vi_add (dec_of DX9_sing 16 rfl) ?_
  refine mp_51 fX9_240 (dec_of DX9_sing 17 rfl) ?_
  exact vi_vret (dec_of DX9_sing 18 rfl) rfl ⟨by decide, by decide⟩ (⟨rfl, rfl⟩)
set_option maxRecDepth 100000 in
set_option maxHeartbeats 4000000 in
theorem q_tell {I N : Nat → Int} {F : Nat → Int → Int} {K : Nat → Int} {G : Nat → Int → Int} (hG : FR G) (hK : IR K) (hM : MR K) {a : Int} (h : K 55 < 1700) : Sd (rm 0 0 0 0) mX9_tell [.ref 31, J a] (W2 I N F K G) (W2 I N F (uN K 55 (K 55 + 1)) (uN G 54 (uI (G 54) (K 55) a))) (none) := by
  unfold Sd
  unfold MR at hM
  refine sp_of (ls := [some (.ref 31), some (J a)]) (by decide) (nle rfl) rfl rfl ?_
  refine v_aload_n (dec_of DX9_tell 0 rfl) rfl ?_
  refine v_get fX9_113 (dec_of DX9_tell 1 rfl) rfl rfl ?_
  refine v_aload_n (dec_of DX9_tell 2 rfl) rfl ?_
  refine v_get fX9_266 (dec_of DX9_tell 3 rfl) rfl rfl ?_
  refine v_iload_n (dec_of DX9_tell 4 rfl) rfl ?_
  refine ms_54 (dec_of DX9_tell 5 rfl) (by first | omega | exact bnd_r _ _ | exact hG _ _ | exact hK _ | (simp (disch := decide) only [uN_s, uN_n]; omega)) ?_
  refine v_aload_n (dec_of DX9_tell 6 rfl) rfl ?_
  refine v_dup (dec_of DX9_tell 7 rfl) rfl ?_
  refine v_get fX9_266 (dec_of DX9_tell 8 rfl) rfl rfl ?_
  refine vi_const (dec_of DX9_tell 9 rfl) ?_
  refine vi_add (dec_of DX9_tell 10 rfl) ?_
  refine mp_55 fX9_266 (dec_of DX9_tell 11 rfl) ?_
  exact vi_vret (dec_of DX9_tell 12 rfl) rfl ⟨by decide, by decide⟩ (⟨rfl, rfl⟩)
def lnM (K : Nat → Int) (G : Nat → Int → Int) (n : Int) : Int := 2 + (if bnd (G 17 n) 1 = 0 then 0 else 2) + (if bnd (G 17 n) 2 = 0 then 0 else 1) - (if bnd (G 17 n) 16 = 0 then 0 else 1) + (if n + 1 < K 15 ∧ G 19 (n + 1) = G 19 n ∧ ¬ bnd (G 17 (n + 1)) 8 = 0 then 1 else 0)
def wyM (G : Nat → Int → Int) (n : Int) : Int := if G 16 n < G 16 (n + 1) then 1 else if G 16 (n + 1) < G 16 n then 2 else 3
set_option maxRecDepth 100000 in
set_option maxHeartbeats 4000000 in
theorem q_lengthOf {I N : Nat → Int} {F : Nat → Int → Int} {K : Nat → Int} {G : Nat → Int → Int} (hG : FR G) (hK : IR K) (hM : MR K) {n : Int} (hn : 0 ≤ n ∧ n < K 15) : Sd (rm 0 0 0 0) mX9_lengthOf [.ref 31, J n] (W2 I N F K G) (W2 I N F K G) (some (J (lnM K G n))) := by
  unfold Sd
  unfold MR at hM
  refine sp_of (ls := [some (.ref 31), some (J n), none]) (by decide) (nle rfl) rfl rfl ?_
  refine vi_const (dec_of DX9_lengthOf 0 rfl) ?_
  refine v_aload_n (dec_of DX9_lengthOf 1 rfl) rfl ?_
  refine v_get fX9_46 (dec_of DX9_lengthOf 2 rfl) rfl rfl ?_
  refine v_iload_n (dec_of DX9_lengthOf 3 rfl) rfl ?_
  refine vi_aload (dec_of DX9_lengthOf 4 rfl) rfl (by first | omega | exact bnd_r _ _ | exact hG _ _ | exact hK _ | (simp (disch := decide) only [uN_s, uN_n]; omega)) (by decide) ?_
  refine vi_const (dec_of DX9_lengthOf 5 rfl) ?_
  refine vi_and (dec_of DX9_lengthOf 6 rfl) ?_
  refine vi_if_eq (tgt := 16) (dec_of DX9_lengthOf 7 rfl) (by decide) (by first | omega | exact bnd_r _ _ | exact hG _ _ | exact hK _ | (simp (disch := decide) only [uN_s, uN_n]; omega)) (fun c9 => ?_) (fun c9 => ?_)
  · refine vi_const (dec_of DX9_lengthOf 10 rfl) ?_
    refine vi_add (dec_of DX9_lengthOf 11 rfl) ?_
    refine v_aload_n (dec_of DX9_lengthOf 12 rfl) rfl ?_
    refine v_get fX9_46 (dec_of DX9_lengthOf 13 rfl) rfl rfl ?_
    refine v_iload_n (dec_of DX9_lengthOf 14 rfl) rfl ?_
    refine vi_aload (dec_of DX9_lengthOf 15 rfl) rfl (by first | omega | exact bnd_r _ _ | exact hG _ _ | exact hK _ | (simp (disch := decide) only [uN_s, uN_n]; omega)) (by decide) ?_
    refine vi_const (dec_of DX9_lengthOf 16 rfl) ?_
    refine vi_and (dec_of DX9_lengthOf 17 rfl) ?_
    refine vi_if_eq (tgt := 33) (dec_of DX9_lengthOf 18 rfl) (by decide) (by first | omega | exact bnd_r _ _ | exact hG _ _ | exact hK _ | (simp (disch := decide) only [uN_s, uN_n]; omega)) (fun c26 => ?_) (fun c26 => ?_)
    · refine vi_const (dec_of DX9_lengthOf 21 rfl) ?_
      refine vi_add (dec_of DX9_lengthOf 22 rfl) ?_
      refine v_aload_n (dec_of DX9_lengthOf 23 rfl) rfl ?_
      refine v_get fX9_46 (dec_of DX9_lengthOf 24 rfl) rfl rfl ?_
      refine v_iload_n (dec_of DX9_lengthOf 25 rfl) rfl ?_
      refine vi_aload (dec_of DX9_lengthOf 26 rfl) rfl (by first | omega | exact bnd_r _ _ | exact hG _ _ | exact hK _ | (simp (disch := decide) only [uN_s, uN_n]; omega)) (by decide) ?_
      refine vi_bi (dec_of DX9_lengthOf 27 rfl) (by decide) ?_
      refine vi_and (dec_of DX9_lengthOf 28 rfl) ?_
      refine vi_if_eq (tgt := 51) (dec_of DX9_lengthOf 29 rfl) (by decide) (by first | omega | exact bnd_r _ _ | exact hG _ _ | exact hK _ | (simp (disch := decide) only [uN_s, uN_n]; omega)) (fun c44 => ?_) (fun c44 => ?_)
      · refine vi_const (dec_of DX9_lengthOf 32 rfl) ?_
        refine vi_sub (dec_of DX9_lengthOf 33 rfl) ?_
        refine v_istore_n (dec_of DX9_lengthOf 34 rfl) (by decide) ?_
        dsimp only [List.set]
        refine v_iload_n (dec_of DX9_lengthOf 35 rfl) rfl ?_
        refine v_iload_n (dec_of DX9_lengthOf 36 rfl) rfl ?_
        refine vi_const (dec_of DX9_lengthOf 37 rfl) ?_
        refine vi_add (dec_of DX9_lengthOf 38 rfl) ?_
        refine v_aload_n (dec_of DX9_lengthOf 39 rfl) rfl ?_
        refine v_get fX9_142 (dec_of DX9_lengthOf 40 rfl) rfl rfl ?_
        refine vi_icmp_ge (tgt := 100) (dec_of DX9_lengthOf 41 rfl) (by decide) (by first | omega | exact bnd_r _ _ | exact hG _ _ | exact hK _ | (simp (disch := decide) only [uN_s, uN_n]; omega)) (by first | omega | exact bnd_r _ _ | exact hG _ _ | exact hK _ | (simp (disch := decide) only [uN_s, uN_n]; omega)) (fun c62 => ?_) (fun c62 => ?_)
        · refine vi_const (dec_of DX9_lengthOf 64 rfl) ?_
          refine vi_add (dec_of DX9_lengthOf 65 rfl) ?_
          exact vi_ret (dec_of DX9_lengthOf 66 rfl) rfl ⟨by decide, by decide⟩ (⟨rfl, Jc (by unfold lnM; omega)⟩)
        · refine v_aload_n (dec_of DX9_lengthOf 42 rfl) rfl ?_
          refine v_get fX9_52 (dec_of DX9_lengthOf 43 rfl) rfl rfl ?_
          refine v_iload_n (dec_of DX9_lengthOf 44 rfl) rfl ?_
          refine vi_const (dec_of DX9_lengthOf 45 rfl) ?_
          refine vi_add (dec_of DX9_lengthOf 46 rfl) ?_
          refine vi_aload (dec_of DX9_lengthOf 47 rfl) rfl (by first | omega | exact bnd_r _ _ | exact hG _ _ | exact hK _ | (simp (disch := decide) only [uN_s, uN_n]; omega)) (by decide) ?_
          refine v_aload_n (dec_of DX9_lengthOf 48 rfl) rfl ?_
          refine v_get fX9_52 (dec_of DX9_lengthOf 49 rfl) rfl rfl ?_
          refine v_iload_n (dec_of DX9_lengthOf 50 rfl) rfl ?_
          refine vi_aload (dec_of DX9_lengthOf 51 rfl) rfl (by first | omega | exact bnd_r _ _ | exact hG _ _ | exact hK _ | (simp (disch := decide) only [uN_s, uN_n]; omega)) (by decide) ?_
          refine vi_icmp_ne (tgt := 100) (dec_of DX9_lengthOf 52 rfl) (by decide) (by first | omega | exact bnd_r _ _ | exact hG _ _ | exact hK _ | (simp (disch := decide) only [uN_s, uN_n]; omega)) (by first | omega | exact bnd_r _ _ | exact hG _ _ | exact hK _ | (simp (disch := decide) only [uN_s, uN_n]; omega)) (fun c79 => ?_) (fun c79 => ?_)
          · refine vi_const (dec_of DX9_lengthOf 64 rfl) ?_
            refine vi_add (dec_of DX9_lengthOf 65 rfl) ?_
            exact vi_ret (dec_of DX9_lengthOf 66 rfl) rfl ⟨by decide, by decide⟩ (⟨rfl, Jc (by unfold lnM; omega)⟩)
          · refine v_aload_n (dec_of DX9_lengthOf 53 rfl) rfl ?_
            refine v_get fX9_46 (dec_of DX9_lengthOf 54 rfl) rfl rfl ?_
            refine v_iload_n (dec_of DX9_lengthOf 55 rfl) rfl ?_
            refine vi_const (dec_of DX9_lengthOf 56 rfl) ?_
            refine vi_add (dec_of DX9_lengthOf 57 rfl) ?_
            refine vi_aload (dec_of DX9_lengthOf 58 rfl) rfl (by first | omega | exact bnd_r _ _ | exact hG _ _ | exact hK _ | (simp (disch := decide) only [uN_s, uN_n]; omega)) (by decide) ?_
            refine vi_bi (dec_of DX9_lengthOf 59 rfl) (by decide) ?_
            refine vi_and (dec_of DX9_lengthOf 60 rfl) ?_
            refine vi_if_eq (tgt := 100) (dec_of DX9_lengthOf 61 rfl) (by decide) (by first | omega | exact bnd_r _ _ | exact hG _ _ | exact hK _ | (simp (disch := decide) only [uN_s, uN_n]; omega)) (fun c93 => ?_) (fun c93 => ?_)
            · refine vi_const (dec_of DX9_lengthOf 64 rfl) ?_
              refine vi_add (dec_of DX9_lengthOf 65 rfl) ?_
              exact vi_ret (dec_of DX9_lengthOf 66 rfl) rfl ⟨by decide, by decide⟩ (⟨rfl, Jc (by unfold lnM; omega)⟩)
            · refine vi_const (dec_of DX9_lengthOf 62 rfl) ?_
              refine v_goto (tgt := 101) (dec_of DX9_lengthOf 63 rfl) (by decide) ?_
              refine vi_add (dec_of DX9_lengthOf 65 rfl) ?_
              exact vi_ret (dec_of DX9_lengthOf 66 rfl) rfl ⟨by decide, by decide⟩ (⟨rfl, Jc (by unfold lnM; omega)⟩)
      · refine vi_const (dec_of DX9_lengthOf 30 rfl) ?_
        refine v_goto (tgt := 52) (dec_of DX9_lengthOf 31 rfl) (by decide) ?_
        refine vi_sub (dec_of DX9_lengthOf 33 rfl) ?_
        refine v_istore_n (dec_of DX9_lengthOf 34 rfl) (by decide) ?_
        dsimp only [List.set]
        refine v_iload_n (dec_of DX9_lengthOf 35 rfl) rfl ?_
        refine v_iload_n (dec_of DX9_lengthOf 36 rfl) rfl ?_
        refine vi_const (dec_of DX9_lengthOf 37 rfl) ?_
        refine vi_add (dec_of DX9_lengthOf 38 rfl) ?_
        refine v_aload_n (dec_of DX9_lengthOf 39 rfl) rfl ?_
        refine v_get fX9_142 (dec_of DX9_lengthOf 40 rfl) rfl rfl ?_
        refine vi_icmp_ge (tgt := 100) (dec_of DX9_lengthOf 41 rfl) (by decide) (by first | omega | exact bnd_r _ _ | exact hG _ _ | exact hK _ | (simp (disch := decide) only [uN_s, uN_n]; omega)) (by first | omega | exact bnd_r _ _ | exact hG _ _ | exact hK _ | (simp (disch := decide) only [uN_s, uN_n]; omega)) (fun c62 => ?_) (fun c62 => ?_)
        · refine vi_const (dec_of DX9_lengthOf 64 rfl) ?_
          refine vi_add (dec_of DX9_lengthOf 65 rfl) ?_
          exact vi_ret (dec_of DX9_lengthOf 66 rfl) rfl ⟨by decide, by decide⟩ (⟨rfl, Jc (by unfold lnM; omega)⟩)
        · refine v_aload_n (dec_of DX9_lengthOf 42 rfl) rfl ?_
          refine v_get fX9_52 (dec_of DX9_lengthOf 43 rfl) rfl rfl ?_
          refine v_iload_n (dec_of DX9_lengthOf 44 rfl) rfl ?_
          refine vi_const (dec_of DX9_lengthOf 45 rfl) ?_
          refine vi_add (dec_of DX9_lengthOf 46 rfl) ?_
          refine vi_aload (dec_of DX9_lengthOf 47 rfl) rfl (by first | omega | exact bnd_r _ _ | exact hG _ _ | exact hK _ | (simp (disch := decide) only [uN_s, uN_n]; omega)) (by decide) ?_
          refine v_aload_n (dec_of DX9_lengthOf 48 rfl) rfl ?_
          refine v_get fX9_52 (dec_of DX9_lengthOf 49 rfl) rfl rfl ?_
          refine v_iload_n (dec_of DX9_lengthOf 50 rfl) rfl ?_
          refine vi_aload (dec_of DX9_lengthOf 51 rfl) rfl (by first | omega | exact bnd_r _ _ | exact hG _ _ | exact hK _ | (simp (disch := decide) only [uN_s, uN_n]; omega)) (by decide) ?_
          refine vi_icmp_ne (tgt := 100) (dec_of DX9_lengthOf 52 rfl) (by decide) (by first | omega | exact bnd_r _ _ | exact hG _ _ | exact hK _ | (simp (disch := decide) only [uN_s, uN_n]; omega)) (by first | omega | exact bnd_r _ _ | exact hG _ _ | exact hK _ | (simp (disch := decide) only [uN_s, uN_n]; omega)) (fun c79 => ?_) (fun c79 => ?_)
          · refine vi_const (dec_of DX9_lengthOf 64 rfl) ?_
            refine vi_add (dec_of DX9_lengthOf 65 rfl) ?_
            exact vi_ret (dec_of DX9_lengthOf 66 rfl) rfl ⟨by decide, by decide⟩ (⟨rfl, Jc (by unfold lnM; omega)⟩)
          · refine v_aload_n (dec_of DX9_lengthOf 53 rfl) rfl ?_
            refine v_get fX9_46 (dec_of DX9_lengthOf 54 rfl) rfl rfl ?_
            refine v_iload_n (dec_of DX9_lengthOf 55 rfl) rfl ?_
            refine vi_const (dec_of DX9_lengthOf 56 rfl) ?_
            refine vi_add (dec_of DX9_lengthOf 57 rfl) ?_
            refine vi_aload (dec_of DX9_lengthOf 58 rfl) rfl (by first | omega | exact bnd_r _ _ | exact hG _ _ | exact hK _ | (simp (disch := decide) only [uN_s, uN_n]; omega)) (by decide) ?_
            refine vi_bi (dec_of DX9_lengthOf 59 rfl) (by decide) ?_
            refine vi_and (dec_of DX9_lengthOf 60 rfl) ?_
            refine vi_if_eq (tgt := 100) (dec_of DX9_lengthOf 61 rfl) (by decide) (by first | omega | exact bnd_r _ _ | exact hG _ _ | exact hK _ | (simp (disch := decide) only [uN_s, uN_n]; omega)) (fun c93 => ?_) (fun c93 => ?_)
            · refine vi_const (dec_of DX9_lengthOf 64 rfl) ?_
              refine vi_add (dec_of DX9_lengthOf 65 rfl) ?_
              exact vi_ret (dec_of DX9_lengthOf 66 rfl) rfl ⟨by decide, by decide⟩ (⟨rfl, Jc (by unfold lnM; omega)⟩)
            · refine vi_const (dec_of DX9_lengthOf 62 rfl) ?_
              refine v_goto (tgt := 101) (dec_of DX9_lengthOf 63 rfl) (by decide) ?_
              refine vi_add (dec_of DX9_lengthOf 65 rfl) ?_
              exact vi_ret (dec_of DX9_lengthOf 66 rfl) rfl ⟨by decide, by decide⟩ (⟨rfl, Jc (by unfold lnM; omega)⟩)
    · refine vi_const (dec_of DX9_lengthOf 19 rfl) ?_
      refine v_goto (tgt := 34) (dec_of DX9_lengthOf 20 rfl) (by decide) ?_
      refine vi_add (dec_of DX9_lengthOf 22 rfl) ?_
      refine v_aload_n (dec_of DX9_lengthOf 23 rfl) rfl ?_
      refine v_get fX9_46 (dec_of DX9_lengthOf 24 rfl) rfl rfl ?_
      refine v_iload_n (dec_of DX9_lengthOf 25 rfl) rfl ?_
      refine vi_aload (dec_of DX9_lengthOf 26 rfl) rfl (by first | omega | exact bnd_r _ _ | exact hG _ _ | exact hK _ | (simp (disch := decide) only [uN_s, uN_n]; omega)) (by decide) ?_
      refine vi_bi (dec_of DX9_lengthOf 27 rfl) (by decide) ?_
      refine vi_and (dec_of DX9_lengthOf 28 rfl) ?_
      refine vi_if_eq (tgt := 51) (dec_of DX9_lengthOf 29 rfl) (by decide) (by first | omega | exact bnd_r _ _ | exact hG _ _ | exact hK _ | (simp (disch := decide) only [uN_s, uN_n]; omega)) (fun c44 => ?_) (fun c44 => ?_)
      · refine vi_const (dec_of DX9_lengthOf 32 rfl) ?_
        refine vi_sub (dec_of DX9_lengthOf 33 rfl) ?_
        refine v_istore_n (dec_of DX9_lengthOf 34 rfl) (by decide) ?_
        dsimp only [List.set]
        refine v_iload_n (dec_of DX9_lengthOf 35 rfl) rfl ?_
        refine v_iload_n (dec_of DX9_lengthOf 36 rfl) rfl ?_
        refine vi_const (dec_of DX9_lengthOf 37 rfl) ?_
        refine vi_add (dec_of DX9_lengthOf 38 rfl) ?_
        refine v_aload_n (dec_of DX9_lengthOf 39 rfl) rfl ?_
        refine v_get fX9_142 (dec_of DX9_lengthOf 40 rfl) rfl rfl ?_
        refine vi_icmp_ge (tgt := 100) (dec_of DX9_lengthOf 41 rfl) (by decide) (by first | omega | exact bnd_r _ _ | exact hG _ _ | exact hK _ | (simp (disch := decide) only [uN_s, uN_n]; omega)) (by first | omega | exact bnd_r _ _ | exact hG _ _ | exact hK _ | (simp (disch := decide) only [uN_s, uN_n]; omega)) (fun c62 => ?_) (fun c62 => ?_)
        · refine vi_const (dec_of DX9_lengthOf 64 rfl) ?_
          refine vi_add (dec_of DX9_lengthOf 65 rfl) ?_
          exact vi_ret (dec_of DX9_lengthOf 66 rfl) rfl ⟨by decide, by decide⟩ (⟨rfl, Jc (by unfold lnM; omega)⟩)
        · refine v_aload_n (dec_of DX9_lengthOf 42 rfl) rfl ?_
          refine v_get fX9_52 (dec_of DX9_lengthOf 43 rfl) rfl rfl ?_
          refine v_iload_n (dec_of DX9_lengthOf 44 rfl) rfl ?_
          refine vi_const (dec_of DX9_lengthOf 45 rfl) ?_
          refine vi_add (dec_of DX9_lengthOf 46 rfl) ?_
          refine vi_aload (dec_of DX9_lengthOf 47 rfl) rfl (by first | omega | exact bnd_r _ _ | exact hG _ _ | exact hK _ | (simp (disch := decide) only [uN_s, uN_n]; omega)) (by decide) ?_
          refine v_aload_n (dec_of DX9_lengthOf 48 rfl) rfl ?_
          refine v_get fX9_52 (dec_of DX9_lengthOf 49 rfl) rfl rfl ?_
          refine v_iload_n (dec_of DX9_lengthOf 50 rfl) rfl ?_
          refine vi_aload (dec_of DX9_lengthOf 51 rfl) rfl (by first | omega | exact bnd_r _ _ | exact hG _ _ | exact hK _ | (simp (disch := decide) only [uN_s, uN_n]; omega)) (by decide) ?_
          refine vi_icmp_ne (tgt := 100) (dec_of DX9_lengthOf 52 rfl) (by decide) (by first | omega | exact bnd_r _ _ | exact hG _ _ | exact hK _ | (simp (disch := decide) only [uN_s, uN_n]; omega)) (by first | omega | exact bnd_r _ _ | exact hG _ _ | exact hK _ | (simp (disch := decide) only [uN_s, uN_n]; omega)) (fun c79 => ?_) (fun c79 => ?_)
          · refine vi_const (dec_of DX9_lengthOf 64 rfl) ?_
            refine vi_add (dec_of DX9_lengthOf 65 rfl) ?_
            exact vi_ret (dec_of DX9_lengthOf 66 rfl) rfl ⟨by decide, by decide⟩ (⟨rfl, Jc (by unfold lnM; omega)⟩)
          · refine v_aload_n (dec_of DX9_lengthOf 53 rfl) rfl ?_
            refine v_get fX9_46 (dec_of DX9_lengthOf 54 rfl) rfl rfl ?_
            refine v_iload_n (dec_of DX9_lengthOf 55 rfl) rfl ?_
            refine vi_const (dec_of DX9_lengthOf 56 rfl) ?_
            refine vi_add (dec_of DX9_lengthOf 57 rfl) ?_
            refine vi_aload (dec_of DX9_lengthOf 58 rfl) rfl (by first | omega | exact bnd_r _ _ | exact hG _ _ | exact hK _ | (simp (disch := decide) only [uN_s, uN_n]; omega)) (by decide) ?_
            refine vi_bi (dec_of DX9_lengthOf 59 rfl) (by decide) ?_
            refine vi_and (dec_of DX9_lengthOf 60 rfl) ?_
            refine vi_if_eq (tgt := 100) (dec_of DX9_lengthOf 61 rfl) (by decide) (by first | omega | exact bnd_r _ _ | exact hG _ _ | exact hK _ | (simp (disch := decide) only [uN_s, uN_n]; omega)) (fun c93 => ?_) (fun c93 => ?_)
            · refine vi_const (dec_of DX9_lengthOf 64 rfl) ?_
              refine vi_add (dec_of DX9_lengthOf 65 rfl) ?_
              exact vi_ret (dec_of DX9_lengthOf 66 rfl) rfl ⟨by decide, by decide⟩ (⟨rfl, Jc (by unfold lnM; omega)⟩)
            · refine vi_const (dec_of DX9_lengthOf 62 rfl) ?_
              refine v_goto (tgt := 101) (dec_of DX9_lengthOf 63 rfl) (by decide) ?_
              refine vi_add (dec_of DX9_lengthOf 65 rfl) ?_
              exact vi_ret (dec_of DX9_lengthOf 66 rfl) rfl ⟨by decide, by decide⟩ (⟨rfl, Jc (by unfold lnM; omega)⟩)
      · refine vi_const (dec_of DX9_lengthOf 30 rfl) ?_
        refine v_goto (tgt := 52) (dec_of DX9_lengthOf 31 rfl) (by decide) ?_
        refine vi_sub (dec_of DX9_lengthOf 33 rfl) ?_
        refine v_istore_n (dec_of DX9_lengthOf 34 rfl) (by decide) ?_
        dsimp only [List.set]
        refine v_iload_n (dec_of DX9_lengthOf 35 rfl) rfl ?_
        refine v_iload_n (dec_of DX9_lengthOf 36 rfl) rfl ?_
        refine vi_const (dec_of DX9_lengthOf 37 rfl) ?_
        refine vi_add (dec_of DX9_lengthOf 38 rfl) ?_
        refine v_aload_n (dec_of DX9_lengthOf 39 rfl) rfl ?_
        refine v_get fX9_142 (dec_of DX9_lengthOf 40 rfl) rfl rfl ?_
        refine vi_icmp_ge (tgt := 100) (dec_of DX9_lengthOf 41 rfl) (by decide) (by first | omega | exact bnd_r _ _ | exact hG _ _ | exact hK _ | (simp (disch := decide) only [uN_s, uN_n]; omega)) (by first | omega | exact bnd_r _ _ | exact hG _ _ | exact hK _ | (simp (disch := decide) only [uN_s, uN_n]; omega)) (fun c62 => ?_) (fun c62 => ?_)
        · refine vi_const (dec_of DX9_lengthOf 64 rfl) ?_
          refine vi_add (dec_of DX9_lengthOf 65 rfl) ?_
          exact vi_ret (dec_of DX9_lengthOf 66 rfl) rfl ⟨by decide, by decide⟩ (⟨rfl, Jc (by unfold lnM; omega)⟩)
        · refine v_aload_n (dec_of DX9_lengthOf 42 rfl) rfl ?_
          refine v_get fX9_52 (dec_of DX9_lengthOf 43 rfl) rfl rfl ?_
          refine v_iload_n (dec_of DX9_lengthOf 44 rfl) rfl ?_
          refine vi_const (dec_of DX9_lengthOf 45 rfl) ?_
          refine vi_add (dec_of DX9_lengthOf 46 rfl) ?_
          refine vi_aload (dec_of DX9_lengthOf 47 rfl) rfl (by first | omega | exact bnd_r _ _ | exact hG _ _ | exact hK _ | (simp (disch := decide) only [uN_s, uN_n]; omega)) (by decide) ?_
          refine v_aload_n (dec_of DX9_lengthOf 48 rfl) rfl ?_
          refine v_get fX9_52 (dec_of DX9_lengthOf 49 rfl) rfl rfl ?_
          refine v_iload_n (dec_of DX9_lengthOf 50 rfl) rfl ?_
          refine vi_aload (dec_of DX9_lengthOf 51 rfl) rfl (by first | omega | exact bnd_r _ _ | exact hG _ _ | exact hK _ | (simp (disch := decide) only [uN_s, uN_n]; omega)) (by decide) ?_
          refine vi_icmp_ne (tgt := 100) (dec_of DX9_lengthOf 52 rfl) (by decide) (by first | omega | exact bnd_r _ _ | exact hG _ _ | exact hK _ | (simp (disch := decide) only [uN_s, uN_n]; omega)) (by first | omega | exact bnd_r _ _ | exact hG _ _ | exact hK _ | (simp (disch := decide) only [uN_s, uN_n]; omega)) (fun c79 => ?_) (fun c79 => ?_)
          · refine vi_const (dec_of DX9_lengthOf 64 rfl) ?_
            refine vi_add (dec_of DX9_lengthOf 65 rfl) ?_
            exact vi_ret (dec_of DX9_lengthOf 66 rfl) rfl ⟨by decide, by decide⟩ (⟨rfl, Jc (by unfold lnM; omega)⟩)
          · refine v_aload_n (dec_of DX9_lengthOf 53 rfl) rfl ?_
            refine v_get fX9_46 (dec_of DX9_lengthOf 54 rfl) rfl rfl ?_
            refine v_iload_n (dec_of DX9_lengthOf 55 rfl) rfl ?_
            refine vi_const (dec_of DX9_lengthOf 56 rfl) ?_
            refine vi_add (dec_of DX9_lengthOf 57 rfl) ?_
            refine vi_aload (dec_of DX9_lengthOf 58 rfl) rfl (by first | omega | exact bnd_r _ _ | exact hG _ _ | exact hK _ | (simp (disch := decide) only [uN_s, uN_n]; omega)) (by decide) ?_
            refine vi_bi (dec_of DX9_lengthOf 59 rfl) (by decide) ?_
            refine vi_and (dec_of DX9_lengthOf 60 rfl) ?_
            refine vi_if_eq (tgt := 100) (dec_of DX9_lengthOf 61 rfl) (by decide) (by first | omega | exact bnd_r _ _ | exact hG _ _ | exact hK _ | (simp (disch := decide) only [uN_s, uN_n]; omega)) (fun c93 => ?_) (fun c93 => ?_)
            · refine vi_const (dec_of DX9_lengthOf 64 rfl) ?_
              refine vi_add (dec_of DX9_lengthOf 65 rfl) ?_
              exact vi_ret (dec_of DX9_lengthOf 66 rfl) rfl ⟨by decide, by decide⟩ (⟨rfl, Jc (by unfold lnM; omega)⟩)
            · refine vi_const (dec_of DX9_lengthOf 62 rfl) ?_
              refine v_goto (tgt := 101) (dec_of DX9_lengthOf 63 rfl) (by decide) ?_
              refine vi_add (dec_of DX9_lengthOf 65 rfl) ?_
              exact vi_ret (dec_of DX9_lengthOf 66 rfl) rfl ⟨by decide, by decide⟩ (⟨rfl, Jc (by unfold lnM; omega)⟩)
  · refine vi_const (dec_of DX9_lengthOf 8 rfl) ?_
    refine v_goto (tgt := 17) (dec_of DX9_lengthOf 9 rfl) (by decide) ?_
    refine vi_add (dec_of DX9_lengthOf 11 rfl) ?_
    refine v_aload_n (dec_of DX9_lengthOf 12 rfl) rfl ?_
    refine v_get fX9_46 (dec_of DX9_lengthOf 13 rfl) rfl rfl ?_
    refine v_iload_n (dec_of DX9_lengthOf 14 rfl) rfl ?_
    refine vi_aload (dec_of DX9_lengthOf 15 rfl) rfl (by first | omega | exact bnd_r _ _ | exact hG _ _ | exact hK _ | (simp (disch := decide) only [uN_s, uN_n]; omega)) (by decide) ?_
    refine vi_const (dec_of DX9_lengthOf 16 rfl) ?_
    refine vi_and (dec_of DX9_lengthOf 17 rfl) ?_
    refine vi_if_eq (tgt := 33) (dec_of DX9_lengthOf 18 rfl) (by decide) (by first | omega | exact bnd_r _ _ | exact hG _ _ | exact hK _ | (simp (disch := decide) only [uN_s, uN_n]; omega)) (fun c26 => ?_) (fun c26 => ?_)
    · refine vi_const (dec_of DX9_lengthOf 21 rfl) ?_
      refine vi_add (dec_of DX9_lengthOf 22 rfl) ?_
      refine v_aload_n (dec_of DX9_lengthOf 23 rfl) rfl ?_
      refine v_get fX9_46 (dec_of DX9_lengthOf 24 rfl) rfl rfl ?_
      refine v_iload_n (dec_of DX9_lengthOf 25 rfl) rfl ?_
      refine vi_aload (dec_of DX9_lengthOf 26 rfl) rfl (by first | omega | exact bnd_r _ _ | exact hG _ _ | exact hK _ | (simp (disch := decide) only [uN_s, uN_n]; omega)) (by decide) ?_
      refine vi_bi (dec_of DX9_lengthOf 27 rfl) (by decide) ?_
      refine vi_and (dec_of DX9_lengthOf 28 rfl) ?_
      refine vi_if_eq (tgt := 51) (dec_of DX9_lengthOf 29 rfl) (by decide) (by first | omega | exact bnd_r _ _ | exact hG _ _ | exact hK _ | (simp (disch := decide) only [uN_s, uN_n]; omega)) (fun c44 => ?_) (fun c44 => ?_)
      · refine vi_const (dec_of DX9_lengthOf 32 rfl) ?_
        refine vi_sub (dec_of DX9_lengthOf 33 rfl) ?_
        refine v_istore_n (dec_of DX9_lengthOf 34 rfl) (by decide) ?_
        dsimp only [List.set]
        refine v_iload_n (dec_of DX9_lengthOf 35 rfl) rfl ?_
        refine v_iload_n (dec_of DX9_lengthOf 36 rfl) rfl ?_
        refine vi_const (dec_of DX9_lengthOf 37 rfl) ?_
        refine vi_add (dec_of DX9_lengthOf 38 rfl) ?_
        refine v_aload_n (dec_of DX9_lengthOf 39 rfl) rfl ?_
        refine v_get fX9_142 (dec_of DX9_lengthOf 40 rfl) rfl rfl ?_
        refine vi_icmp_ge (tgt := 100) (dec_of DX9_lengthOf 41 rfl) (by decide) (by first | omega | exact bnd_r _ _ | exact hG _ _ | exact hK _ | (simp (disch := decide) only [uN_s, uN_n]; omega)) (by first | omega | exact bnd_r _ _ | exact hG _ _ | exact hK _ | (simp (disch := decide) only [uN_s, uN_n]; omega)) (fun c62 => ?_) (fun c62 => ?_)
        · refine vi_const (dec_of DX9_lengthOf 64 rfl) ?_
          refine vi_add (dec_of DX9_lengthOf 65 rfl) ?_
          exact vi_ret (dec_of DX9_lengthOf 66 rfl) rfl ⟨by decide, by decide⟩ (⟨rfl, Jc (by unfold lnM; omega)⟩)
        · refine v_aload_n (dec_of DX9_lengthOf 42 rfl) rfl ?_
          refine v_get fX9_52 (dec_of DX9_lengthOf 43 rfl) rfl rfl ?_
          refine v_iload_n (dec_of DX9_lengthOf 44 rfl) rfl ?_
          refine vi_const (dec_of DX9_lengthOf 45 rfl) ?_
          refine vi_add (dec_of DX9_lengthOf 46 rfl) ?_
          refine vi_aload (dec_of DX9_lengthOf 47 rfl) rfl (by first | omega | exact bnd_r _ _ | exact hG _ _ | exact hK _ | (simp (disch := decide) only [uN_s, uN_n]; omega)) (by decide) ?_
          refine v_aload_n (dec_of DX9_lengthOf 48 rfl) rfl ?_
          refine v_get fX9_52 (dec_of DX9_lengthOf 49 rfl) rfl rfl ?_
          refine v_iload_n (dec_of DX9_lengthOf 50 rfl) rfl ?_
          refine vi_aload (dec_of DX9_lengthOf 51 rfl) rfl (by first | omega | exact bnd_r _ _ | exact hG _ _ | exact hK _ | (simp (disch := decide) only [uN_s, uN_n]; omega)) (by decide) ?_
          refine vi_icmp_ne (tgt := 100) (dec_of DX9_lengthOf 52 rfl) (by decide) (by first | omega | exact bnd_r _ _ | exact hG _ _ | exact hK _ | (simp (disch := decide) only [uN_s, uN_n]; omega)) (by first | omega | exact bnd_r _ _ | exact hG _ _ | exact hK _ | (simp (disch := decide) only [uN_s, uN_n]; omega)) (fun c79 => ?_) (fun c79 => ?_)
          · refine vi_const (dec_of DX9_lengthOf 64 rfl) ?_
            refine vi_add (dec_of DX9_lengthOf 65 rfl) ?_
            exact vi_ret (dec_of DX9_lengthOf 66 rfl) rfl ⟨by decide, by decide⟩ (⟨rfl, Jc (by unfold lnM; omega)⟩)
          · refine v_aload_n (dec_of DX9_lengthOf 53 rfl) rfl ?_
            refine v_get fX9_46 (dec_of DX9_lengthOf 54 rfl) rfl rfl ?_
            refine v_iload_n (dec_of DX9_lengthOf 55 rfl) rfl ?_
            refine vi_const (dec_of DX9_lengthOf 56 rfl) ?_
            refine vi_add (dec_of DX9_lengthOf 57 rfl) ?_
            refine vi_aload (dec_of DX9_lengthOf 58 rfl) rfl (by first | omega | exact bnd_r _ _ | exact hG _ _ | exact hK _ | (simp (disch := decide) only [uN_s, uN_n]; omega)) (by decide) ?_
            refine vi_bi (dec_of DX9_lengthOf 59 rfl) (by decide) ?_
            refine vi_and (dec_of DX9_lengthOf 60 rfl) ?_
            refine vi_if_eq (tgt := 100) (dec_of DX9_lengthOf 61 rfl) (by decide) (by first | omega | exact bnd_r _ _ | exact hG _ _ | exact hK _ | (simp (disch := decide) only [uN_s, uN_n]; omega)) (fun c93 => ?_) (fun c93 => ?_)
            · refine vi_const (dec_of DX9_lengthOf 64 rfl) ?_
              refine vi_add (dec_of DX9_lengthOf 65 rfl) ?_
              exact vi_ret (dec_of DX9_lengthOf 66 rfl) rfl ⟨by decide, by decide⟩ (⟨rfl, Jc (by unfold lnM; omega)⟩)
            · refine vi_const (dec_of DX9_lengthOf 62 rfl) ?_
              refine v_goto (tgt := 101) (dec_of DX9_lengthOf 63 rfl) (by decide) ?_
              refine vi_add (dec_of DX9_lengthOf 65 rfl) ?_
              exact vi_ret (dec_of DX9_lengthOf 66 rfl) rfl ⟨by decide, by decide⟩ (⟨rfl, Jc (by unfold lnM; omega)⟩)
      · refine vi_const (dec_of DX9_lengthOf 30 rfl) ?_
        refine v_goto (tgt := 52) (dec_of DX9_lengthOf 31 rfl) (by decide) ?_
        refine vi_sub (dec_of DX9_lengthOf 33 rfl) ?_
        refine v_istore_n (dec_of DX9_lengthOf 34 rfl) (by decide) ?_
        dsimp only [List.set]
        refine v_iload_n (dec_of DX9_lengthOf 35 rfl) rfl ?_
        refine v_iload_n (dec_of DX9_lengthOf 36 rfl) rfl ?_
        refine vi_const (dec_of DX9_lengthOf 37 rfl) ?_
        refine vi_add (dec_of DX9_lengthOf 38 rfl) ?_
        refine v_aload_n (dec_of DX9_lengthOf 39 rfl) rfl ?_
        refine v_get fX9_142 (dec_of DX9_lengthOf 40 rfl) rfl rfl ?_
        refine vi_icmp_ge (tgt := 100) (dec_of DX9_lengthOf 41 rfl) (by decide) (by first | omega | exact bnd_r _ _ | exact hG _ _ | exact hK _ | (simp (disch := decide) only [uN_s, uN_n]; omega)) (by first | omega | exact bnd_r _ _ | exact hG _ _ | exact hK _ | (simp (disch := decide) only [uN_s, uN_n]; omega)) (fun c62 => ?_) (fun c62 => ?_)
        · refine vi_const (dec_of DX9_lengthOf 64 rfl) ?_
          refine vi_add (dec_of DX9_lengthOf 65 rfl) ?_
          exact vi_ret (dec_of DX9_lengthOf 66 rfl) rfl ⟨by decide, by decide⟩ (⟨rfl, Jc (by unfold lnM; omega)⟩)
        · refine v_aload_n (dec_of DX9_lengthOf 42 rfl) rfl ?_
          refine v_get fX9_52 (dec_of DX9_lengthOf 43 rfl) rfl rfl ?_
          refine v_iload_n (dec_of DX9_lengthOf 44 rfl) rfl ?_
          refine vi_const (dec_of DX9_lengthOf 45 rfl) ?_
          refine vi_add (dec_of DX9_lengthOf 46 rfl) ?_
          refine vi_aload (dec_of DX9_lengthOf 47 rfl) rfl (by first | omega | exact bnd_r _ _ | exact hG _ _ | exact hK _ | (simp (disch := decide) only [uN_s, uN_n]; omega)) (by decide) ?_
          refine v_aload_n (dec_of DX9_lengthOf 48 rfl) rfl ?_
          refine v_get fX9_52 (dec_of DX9_lengthOf 49 rfl) rfl rfl ?_
          refine v_iload_n (dec_of DX9_lengthOf 50 rfl) rfl ?_
          refine vi_aload (dec_of DX9_lengthOf 51 rfl) rfl (by first | omega | exact bnd_r _ _ | exact hG _ _ | exact hK _ | (simp (disch := decide) only [uN_s, uN_n]; omega)) (by decide) ?_
          refine vi_icmp_ne (tgt := 100) (dec_of DX9_lengthOf 52 rfl) (by decide) (by first | omega | exact bnd_r _ _ | exact hG _ _ | exact hK _ | (simp (disch := decide) only [uN_s, uN_n]; omega)) (by first | omega | exact bnd_r _ _ | exact hG _ _ | exact hK _ | (simp (disch := decide) only [uN_s, uN_n]; omega)) (fun c79 => ?_) (fun c79 => ?_)
          · refine vi_const (dec_of DX9_lengthOf 64 rfl) ?_
            refine vi_add (dec_of DX9_lengthOf 65 rfl) ?_
            exact vi_ret (dec_of DX9_lengthOf 66 rfl) rfl ⟨by decide, by decide⟩ (⟨rfl, Jc (by unfold lnM; omega)⟩)
          · refine v_aload_n (dec_of DX9_lengthOf 53 rfl) rfl ?_
            refine v_get fX9_46 (dec_of DX9_lengthOf 54 rfl) rfl rfl ?_
            refine v_iload_n (dec_of DX9_lengthOf 55 rfl) rfl ?_
            refine vi_const (dec_of DX9_lengthOf 56 rfl) ?_
            refine vi_add (dec_of DX9_lengthOf 57 rfl) ?_
            refine vi_aload (dec_of DX9_lengthOf 58 rfl) rfl (by first | omega | exact bnd_r _ _ | exact hG _ _ | exact hK _ | (simp (disch := decide) only [uN_s, uN_n]; omega)) (by decide) ?_
            refine vi_bi (dec_of DX9_lengthOf 59 rfl) (by decide) ?_
            refine vi_and (dec_of DX9_lengthOf 60 rfl) ?_
            refine vi_if_eq (tgt := 100) (dec_of DX9_lengthOf 61 rfl) (by decide) (by first | omega | exact bnd_r _ _ | exact hG _ _ | exact hK _ | (simp (disch := decide) only [uN_s, uN_n]; omega)) (fun c93 => ?_) (fun c93 => ?_)
            · refine vi_const (dec_of DX9_lengthOf 64 rfl) ?_
              refine vi_add (dec_of DX9_lengthOf 65 rfl) ?_
              exact vi_ret (dec_of DX9_lengthOf 66 rfl) rfl ⟨by decide, by decide⟩ (⟨rfl, Jc (by unfold lnM; omega)⟩)
            · refine vi_const (dec_of DX9_lengthOf 62 rfl) ?_
              refine v_goto (tgt := 101) (dec_of DX9_lengthOf 63 rfl) (by decide) ?_
              refine vi_add (dec_of DX9_lengthOf 65 rfl) ?_
              exact vi_ret (dec_of DX9_lengthOf 66 rfl) rfl ⟨by decide, by decide⟩ (⟨rfl, Jc (by unfold lnM; omega)⟩)
    · refine vi_const (dec_of DX9_lengthOf 19 rfl) ?_
      refine v_goto (tgt := 34) (dec_of DX9_lengthOf 20 rfl) (by decide) ?_
      refine vi_add (dec_of DX9_lengthOf 22 rfl) ?_
      refine v_aload_n (dec_of DX9_lengthOf 23 rfl) rfl ?_
      refine v_get fX9_46 (dec_of DX9_lengthOf 24 rfl) rfl rfl ?_
      refine v_iload_n (dec_of DX9_lengthOf 25 rfl) rfl ?_
      refine vi_aload (dec_of DX9_lengthOf 26 rfl) rfl (by first | omega | exact bnd_r _ _ | exact hG _ _ | exact hK _ | (simp (disch := decide) only [uN_s, uN_n]; omega)) (by decide) ?_
      refine vi_bi (dec_of DX9_lengthOf 27 rfl) (by decide) ?_
      refine vi_and (dec_of DX9_lengthOf 28 rfl) ?_
      refine vi_if_eq (tgt := 51) (dec_of DX9_lengthOf 29 rfl) (by decide) (by first | omega | exact bnd_r _ _ | exact hG _ _ | exact hK _ | (simp (disch := decide) only [uN_s, uN_n]; omega)) (fun c44 => ?_) (fun c44 => ?_)
      · refine vi_const (dec_of DX9_lengthOf 32 rfl) ?_
        refine vi_sub (dec_of DX9_lengthOf 33 rfl) ?_
        refine v_istore_n (dec_of DX9_lengthOf 34 rfl) (by decide) ?_
        dsimp only [List.set]
        refine v_iload_n (dec_of DX9_lengthOf 35 rfl) rfl ?_
        refine v_iload_n (dec_of DX9_lengthOf 36 rfl) rfl ?_
        refine vi_const (dec_of DX9_lengthOf 37 rfl) ?_
        refine vi_add (dec_of DX9_lengthOf 38 rfl) ?_
        refine v_aload_n (dec_of DX9_lengthOf 39 rfl) rfl ?_
        refine v_get fX9_142 (dec_of DX9_lengthOf 40 rfl) rfl rfl ?_
        refine vi_icmp_ge (tgt := 100) (dec_of DX9_lengthOf 41 rfl) (by decide) (by first | omega | exact bnd_r _ _ | exact hG _ _ | exact hK _ | (simp (disch := decide) only [uN_s, uN_n]; omega)) (by first | omega | exact bnd_r _ _ | exact hG _ _ | exact hK _ | (simp (disch := decide) only [uN_s, uN_n]; omega)) (fun c62 => ?_) (fun c62 => ?_)
        · refine vi_const (dec_of DX9_lengthOf 64 rfl) ?_
          refine vi_add (dec_of DX9_lengthOf 65 rfl) ?_
          exact vi_ret (dec_of DX9_lengthOf 66 rfl) rfl ⟨by decide, by decide⟩ (⟨rfl, Jc (by unfold lnM; omega)⟩)
        · refine v_aload_n (dec_of DX9_lengthOf 42 rfl) rfl ?_
          refine v_get fX9_52 (dec_of DX9_lengthOf 43 rfl) rfl rfl ?_
          refine v_iload_n (dec_of DX9_lengthOf 44 rfl) rfl ?_
          refine vi_const (dec_of DX9_lengthOf 45 rfl) ?_
          refine vi_add (dec_of DX9_lengthOf 46 rfl) ?_
          refine vi_aload (dec_of DX9_lengthOf 47 rfl) rfl (by first | omega | exact bnd_r _ _ | exact hG _ _ | exact hK _ | (simp (disch := decide) only [uN_s, uN_n]; omega)) (by decide) ?_
          refine v_aload_n (dec_of DX9_lengthOf 48 rfl) rfl ?_
          refine v_get fX9_52 (dec_of DX9_lengthOf 49 rfl) rfl rfl ?_
          refine v_iload_n (dec_of DX9_lengthOf 50 rfl) rfl ?_
          refine vi_aload (dec_of DX9_lengthOf 51 rfl) rfl (by first | omega | exact bnd_r _ _ | exact hG _ _ | exact hK _ | (simp (disch := decide) only [uN_s, uN_n]; omega)) (by decide) ?_
          refine vi_icmp_ne (tgt := 100) (dec_of DX9_lengthOf 52 rfl) (by decide) (by first | omega | exact bnd_r _ _ | exact hG _ _ | exact hK _ | (simp (disch := decide) only [uN_s, uN_n]; omega)) (by first | omega | exact bnd_r _ _ | exact hG _ _ | exact hK _ | (simp (disch := decide) only [uN_s, uN_n]; omega)) (fun c79 => ?_) (fun c79 => ?_)
          · refine vi_const (dec_of DX9_lengthOf 64 rfl) ?_
            refine vi_add (dec_of DX9_lengthOf 65 rfl) ?_
            exact vi_ret (dec_of DX9_lengthOf 66 rfl) rfl ⟨by decide, by decide⟩ (⟨rfl, Jc (by unfold lnM; omega)⟩)
          · refine v_aload_n (dec_of DX9_lengthOf 53 rfl) rfl ?_
            refine v_get fX9_46 (dec_of DX9_lengthOf 54 rfl) rfl rfl ?_
            refine v_iload_n (dec_of DX9_lengthOf 55 rfl) rfl ?_
            refine vi_const (dec_of DX9_lengthOf 56 rfl) ?_
            refine vi_add (dec_of DX9_lengthOf 57 rfl) ?_
            refine vi_aload (dec_of DX9_lengthOf 58 rfl) rfl (by first | omega | exact bnd_r _ _ | exact hG _ _ | exact hK _ | (simp (disch := decide) only [uN_s, uN_n]; omega)) (by decide) ?_
            refine vi_bi (dec_of DX9_lengthOf 59 rfl) (by decide) ?_
            refine vi_and (dec_of DX9_lengthOf 60 rfl) ?_
            refine vi_if_eq (tgt := 100) (dec_of DX9_lengthOf 61 rfl) (by decide) (by first | omega | exact bnd_r _ _ | exact hG _ _ | exact hK _ | (simp (disch := decide) only [uN_s, uN_n]; omega)) (fun c93 => ?_) (fun c93 => ?_)
            · refine vi_const (dec_of DX9_lengthOf 64 rfl) ?_
              refine vi_add (dec_of DX9_lengthOf 65 rfl) ?_
              exact vi_ret (dec_of DX9_lengthOf 66 rfl) rfl ⟨by decide, by decide⟩ (⟨rfl, Jc (by unfold lnM; omega)⟩)
            · refine vi_const (dec_of DX9_lengthOf 62 rfl) ?_
              refine v_goto (tgt := 101) (dec_of DX9_lengthOf 63 rfl) (by decide) ?_
              refine vi_add (dec_of DX9_lengthOf 65 rfl) ?_
              exact vi_ret (dec_of DX9_lengthOf 66 rfl) rfl ⟨by decide, by decide⟩ (⟨rfl, Jc (by unfold lnM; omega)⟩)
      · refine vi_const (dec_of DX9_lengthOf 30 rfl) ?_
        refine v_goto (tgt := 52) (dec_of DX9_lengthOf 31 rfl) (by decide) ?_
        refine vi_sub (dec_of DX9_lengthOf 33 rfl) ?_
        refine v_istore_n (dec_of DX9_lengthOf 34 rfl) (by decide) ?_
        dsimp only [List.set]
        refine v_iload_n (dec_of DX9_lengthOf 35 rfl) rfl ?_
        refine v_iload_n (dec_of DX9_lengthOf 36 rfl) rfl ?_
        refine vi_const (dec_of DX9_lengthOf 37 rfl) ?_
        refine vi_add (dec_of DX9_lengthOf 38 rfl) ?_
        refine v_aload_n (dec_of DX9_lengthOf 39 rfl) rfl ?_
        refine v_get fX9_142 (dec_of DX9_lengthOf 40 rfl) rfl rfl ?_
        refine vi_icmp_ge (tgt := 100) (dec_of DX9_lengthOf 41 rfl) (by decide) (by first | omega | exact bnd_r _ _ | exact hG _ _ | exact hK _ | (simp (disch := decide) only [uN_s, uN_n]; omega)) (by first | omega | exact bnd_r _ _ | exact hG _ _ | exact hK _ | (simp (disch := decide) only [uN_s, uN_n]; omega)) (fun c62 => ?_) (fun c62 => ?_)
        · refine vi_const (dec_of DX9_lengthOf 64 rfl) ?_
          refine vi_add (dec_of DX9_lengthOf 65 rfl) ?_
          exact vi_ret (dec_of DX9_lengthOf 66 rfl) rfl ⟨by decide, by decide⟩ (⟨rfl, Jc (by unfold lnM; omega)⟩)
        · refine v_aload_n (dec_of DX9_lengthOf 42 rfl) rfl ?_
          refine v_get fX9_52 (dec_of DX9_lengthOf 43 rfl) rfl rfl ?_
          refine v_iload_n (dec_of DX9_lengthOf 44 rfl) rfl ?_
          refine vi_const (dec_of DX9_lengthOf 45 rfl) ?_
          refine vi_add (dec_of DX9_lengthOf 46 rfl) ?_
          refine vi_aload (dec_of DX9_lengthOf 47 rfl) rfl (by first | omega | exact bnd_r _ _ | exact hG _ _ | exact hK _ | (simp (disch := decide) only [uN_s, uN_n]; omega)) (by decide) ?_
          refine v_aload_n (dec_of DX9_lengthOf 48 rfl) rfl ?_
          refine v_get fX9_52 (dec_of DX9_lengthOf 49 rfl) rfl rfl ?_
          refine v_iload_n (dec_of DX9_lengthOf 50 rfl) rfl ?_
          refine vi_aload (dec_of DX9_lengthOf 51 rfl) rfl (by first | omega | exact bnd_r _ _ | exact hG _ _ | exact hK _ | (simp (disch := decide) only [uN_s, uN_n]; omega)) (by decide) ?_
          refine vi_icmp_ne (tgt := 100) (dec_of DX9_lengthOf 52 rfl) (by decide) (by first | omega | exact bnd_r _ _ | exact hG _ _ | exact hK _ | (simp (disch := decide) only [uN_s, uN_n]; omega)) (by first | omega | exact bnd_r _ _ | exact hG _ _ | exact hK _ | (simp (disch := decide) only [uN_s, uN_n]; omega)) (fun c79 => ?_) (fun c79 => ?_)
          · refine vi_const (dec_of DX9_lengthOf 64 rfl) ?_
            refine vi_add (dec_of DX9_lengthOf 65 rfl) ?_
            exact vi_ret (dec_of DX9_lengthOf 66 rfl) rfl ⟨by decide, by decide⟩ (⟨rfl, Jc (by unfold lnM; omega)⟩)
          · refine v_aload_n (dec_of DX9_lengthOf 53 rfl) rfl ?_
            refine v_get fX9_46 (dec_of DX9_lengthOf 54 rfl) rfl rfl ?_
            refine v_iload_n (dec_of DX9_lengthOf 55 rfl) rfl ?_
            refine vi_const (dec_of DX9_lengthOf 56 rfl) ?_
            refine vi_add (dec_of DX9_lengthOf 57 rfl) ?_
            refine vi_aload (dec_of DX9_lengthOf 58 rfl) rfl (by first | omega | exact bnd_r _ _ | exact hG _ _ | exact hK _ | (simp (disch := decide) only [uN_s, uN_n]; omega)) (by decide) ?_
            refine vi_bi (dec_of DX9_lengthOf 59 rfl) (by decide) ?_
            refine vi_and (dec_of DX9_lengthOf 60 rfl) ?_
            refine vi_if_eq (tgt := 100) (dec_of DX9_lengthOf 61 rfl) (by decide) (by first | omega | exact bnd_r _ _ | exact hG _ _ | exact hK _ | (simp (disch := decide) only [uN_s, uN_n]; omega)) (fun c93 => ?_) (fun c93 => ?_)
            · refine vi_const (dec_of DX9_lengthOf 64 rfl) ?_
              refine vi_add (dec_of DX9_lengthOf 65 rfl) ?_
              exact vi_ret (dec_of DX9_lengthOf 66 rfl) rfl ⟨by decide, by decide⟩ (⟨rfl, Jc (by unfold lnM; omega)⟩)
            · refine vi_const (dec_of DX9_lengthOf 62 rfl) ?_
              refine v_goto (tgt := 101) (dec_of DX9_lengthOf 63 rfl) (by decide) ?_
              refine vi_add (dec_of DX9_lengthOf 65 rfl) ?_
              exact vi_ret (dec_of DX9_lengthOf 66 rfl) rfl ⟨by decide, by decide⟩ (⟨rfl, Jc (by unfold lnM; omega)⟩)
set_option maxRecDepth 100000 in
set_option maxHeartbeats 4000000 in
theorem q_wayOf {I N : Nat → Int} {F : Nat → Int → Int} {K : Nat → Int} {G : Nat → Int → Int} (hG : FR G) (hK : IR K) (hM : MR K) {n : Int} (hn : 0 ≤ n ∧ n + 1 < K 15) : Sd (rm 0 0 0 0) mX9_wayOf [.ref 31, J n] (W2 I N F K G) (W2 I N F K G) (some (J (wyM G n))) := by
  unfold Sd
  unfold MR at hM
  refine sp_of (ls := [some (.ref 31), some (J n)]) (by decide) (nle rfl) rfl rfl ?_
  refine v_aload_n (dec_of DX9_wayOf 0 rfl) rfl ?_
  refine v_get fX9_43 (dec_of DX9_wayOf 1 rfl) rfl rfl ?_
  refine v_iload_n (dec_of DX9_wayOf 2 rfl) rfl ?_
  refine vi_const (dec_of DX9_wayOf 3 rfl) ?_
  refine vi_add (dec_of DX9_wayOf 4 rfl) ?_
  refine vi_aload (dec_of DX9_wayOf 5 rfl) rfl (by first | omega | exact bnd_r _ _ | exact hG _ _ | exact hK _ | (simp (disch := decide) only [uN_s, uN_n]; omega)) (by decide) ?_
  refine v_aload_n (dec_of DX9_wayOf 6 rfl) rfl ?_
  refine v_get fX9_43 (dec_of DX9_wayOf 7 rfl) rfl rfl ?_
  refine v_iload_n (dec_of DX9_wayOf 8 rfl) rfl ?_
  refine vi_aload (dec_of DX9_wayOf 9 rfl) rfl (by first | omega | exact bnd_r _ _ | exact hG _ _ | exact hK _ | (simp (disch := decide) only [uN_s, uN_n]; omega)) (by decide) ?_
  refine vi_icmp_le (tgt := 21) (dec_of DX9_wayOf 10 rfl) (by decide) (by first | omega | exact bnd_r _ _ | exact hG _ _ | exact hK _ | (simp (disch := decide) only [uN_s, uN_n]; omega)) (by first | omega | exact bnd_r _ _ | exact hG _ _ | exact hK _ | (simp (disch := decide) only [uN_s, uN_n]; omega)) (fun c14 => ?_) (fun c14 => ?_)
  · refine v_aload_n (dec_of DX9_wayOf 13 rfl) rfl ?_
    refine v_get fX9_43 (dec_of DX9_wayOf 14 rfl) rfl rfl ?_
    refine v_iload_n (dec_of DX9_wayOf 15 rfl) rfl ?_
    refine vi_const (dec_of DX9_wayOf 16 rfl) ?_
    refine vi_add (dec_of DX9_wayOf 17 rfl) ?_
    refine vi_aload (dec_of DX9_wayOf 18 rfl) rfl (by first | omega | exact bnd_r _ _ | exact hG _ _ | exact hK _ | (simp (disch := decide) only [uN_s, uN_n]; omega)) (by decide) ?_
    refine v_aload_n (dec_of DX9_wayOf 19 rfl) rfl ?_
    refine v_get fX9_43 (dec_of DX9_wayOf 20 rfl) rfl rfl ?_
    refine v_iload_n (dec_of DX9_wayOf 21 rfl) rfl ?_
    refine vi_aload (dec_of DX9_wayOf 22 rfl) rfl (by first | omega | exact bnd_r _ _ | exact hG _ _ | exact hK _ | (simp (disch := decide) only [uN_s, uN_n]; omega)) (by decide) ?_
    refine vi_icmp_ge (tgt := 42) (dec_of DX9_wayOf 23 rfl) (by decide) (by first | omega | exact bnd_r _ _ | exact hG _ _ | exact hK _ | (simp (disch := decide) only [uN_s, uN_n]; omega)) (by first | omega | exact bnd_r _ _ | exact hG _ _ | exact hK _ | (simp (disch := decide) only [uN_s, uN_n]; omega)) (fun c35 => ?_) (fun c35 => ?_)
    · refine vi_const (dec_of DX9_wayOf 26 rfl) ?_
      exact vi_ret (dec_of DX9_wayOf 27 rfl) rfl ⟨by decide, by decide⟩ (⟨rfl, Jc (by unfold wyM; omega)⟩)
    · refine vi_const (dec_of DX9_wayOf 24 rfl) ?_
      refine v_goto (tgt := 43) (dec_of DX9_wayOf 25 rfl) (by decide) ?_
      exact vi_ret (dec_of DX9_wayOf 27 rfl) rfl ⟨by decide, by decide⟩ (⟨rfl, Jc (by unfold wyM; omega)⟩)
  · refine vi_const (dec_of DX9_wayOf 11 rfl) ?_
    refine v_goto (tgt := 43) (dec_of DX9_wayOf 12 rfl) (by decide) ?_
    exact vi_ret (dec_of DX9_wayOf 27 rfl) rfl ⟨by decide, by decide⟩ (⟨rfl, Jc (by unfold wyM; omega)⟩)
