/-! the law (printed by wip/tools/gen_c19.py) -/
abbrev mLaw (nm : String) : MI := (⟨RL, nm, "([I)Z"⟩, cL_law, 4, some .boolean)
abbrev RM : Room := rm 9 336 600000 7302250
theorem b31 (a : Int) : 0 ≤ bnd a 31 ∧ bnd a 31 ≤ 31 := by
  unfold bnd
  have e : (iI a &&& iI 31).toInt = ((iI a).toBitVec &&& 31#32).toInt := by
    show (iI a &&& iI 31).toBitVec.toInt = _
    rw [Int32.toBitVec_and]
    rfl
  have l : ((iI a).toBitVec &&& 31#32).toNat ≤ 31 := by
    rw [BitVec.toNat_and]
    exact Nat.and_le_right
  rw [e, BitVec.toInt_eq_toNat_of_lt (by omega)]
  omega
def sx (xs : Nat → Int32) (k : Int) : Int := (xs k.toNat).toInt
theorem sx_r (xs : Nat → Int32) (k : Int) : -2147483648 ≤ sx xs k ∧ sx xs k < 2147483648 := r32 _
theorem sx_e (xs : Nat → Int32) (k : Int) : xs k.toNat = iI (sx xs k) := iI_of _
set_option maxRecDepth 100000 in
set_option maxHeartbeats 4000000 in
theorem law_feed {nm : String} {L : Nat} {xs : Nat → Int32} (hL : L ≤ 3072) {n0 : Nat} {Z : XW → Option Value → Prop} {ca sl : Nat} (hc : ca ≤ 600000) (hs : sl ≤ 7302250) {i : Int} (h0 : 0 ≤ i) (h6 : i ≤ (L : Int) - 6) (nxt : ∀ (I N : Nat → Int) (F : Nat → Int → Int) (K : Nat → Int) (G : Nat → Int → Int), GI I N F K G → Vd RM [(L, xs)] (mLaw nm) n0 Z ca sl 630 [some (.ref (SB + 4)), some (.ref 0), some (.ref 31), some (J i)] [] (W2 I N F K G)) {I N : Nat → Int} {F : Nat → Int → Int} {K : Nat → Int} {G : Nat → Int → Int} (hg : GI I N F K G) : Vd RM [(L, xs)] (mLaw nm) n0 Z ca sl 120 [some (.ref (SB + 4)), some (.ref 0), some (.ref 31), some (J i)] [] (W2 I N F K G) := by
  refine v_aload_n (dec_of DL_law 22 rfl) rfl ?_
  refine v_aload_n (dec_of DL_law 23 rfl) rfl ?_
  refine v_iload_n (dec_of DL_law 24 rfl) rfl ?_
  refine vi_const (dec_of DL_law 25 rfl) ?_
  refine vi_add (dec_of DL_law 26 rfl) ?_
  refine vi_sald (N := L) (f := xs) (dec_of DL_law 27 rfl) rfl ⟨by omega, by omega⟩ (by omega) (sx_e xs _) ?_
  refine v_aload_n (dec_of DL_law 28 rfl) rfl ?_
  refine v_iload_n (dec_of DL_law 29 rfl) rfl ?_
  refine vi_const (dec_of DL_law 30 rfl) ?_
  refine vi_add (dec_of DL_law 31 rfl) ?_
  refine vi_sald (N := L) (f := xs) (dec_of DL_law 32 rfl) rfl ⟨by omega, by omega⟩ (by omega) (sx_e xs _) ?_
  refine v_aload_n (dec_of DL_law 33 rfl) rfl ?_
  refine v_iload_n (dec_of DL_law 34 rfl) rfl ?_
  refine vi_const (dec_of DL_law 35 rfl) ?_
  refine vi_add (dec_of DL_law 36 rfl) ?_
  refine vi_sald (N := L) (f := xs) (dec_of DL_law 37 rfl) rfl ⟨by omega, by omega⟩ (by omega) (sx_e xs _) ?_
  refine v_aload_n (dec_of DL_law 38 rfl) rfl ?_
  refine v_iload_n (dec_of DL_law 39 rfl) rfl ?_
  refine vi_const (dec_of DL_law 40 rfl) ?_
  refine vi_add (dec_of DL_law 41 rfl) ?_
  refine vi_sald (N := L) (f := xs) (dec_of DL_law 42 rfl) rfl ⟨by omega, by omega⟩ (by omega) (sx_e xs _) ?_
  refine v_aload_n (dec_of DL_law 43 rfl) rfl ?_
  refine v_iload_n (dec_of DL_law 44 rfl) rfl ?_
  refine vi_const (dec_of DL_law 45 rfl) ?_
  refine vi_add (dec_of DL_law 46 rfl) ?_
  refine vi_sald (N := L) (f := xs) (dec_of DL_law 47 rfl) rfl ⟨by omega, by omega⟩ (by omega) (sx_e xs _) ?_
  refine v_V5p (pr_feed hg) lL_13 (dec_of DL_law 48 rfl) rfl rfl ⟨by decide, by decide, hc, hs⟩ (nle rfl) rfl ?_
  intro w1 r1 q1
  obtain ⟨I', N', F', v, rfl, rfl, hv, q2⟩ := q1
  refine Vd_n (st' := [J v]) rfl rfl ?_
  refine v_aload_n (dec_of DL_law 49 rfl) rfl ?_
  refine v_aload_n (dec_of DL_law 50 rfl) rfl ?_
  refine v_iload_n (dec_of DL_law 51 rfl) rfl ?_
  refine vi_const (dec_of DL_law 52 rfl) ?_
  refine vi_add (dec_of DL_law 53 rfl) ?_
  refine vi_sald (N := L) (f := xs) (dec_of DL_law 54 rfl) rfl ⟨by omega, by omega⟩ (by omega) (sx_e xs _) ?_
  refine v_aload_n (dec_of DL_law 55 rfl) rfl ?_
  refine v_iload_n (dec_of DL_law 56 rfl) rfl ?_
  refine vi_const (dec_of DL_law 57 rfl) ?_
  refine vi_add (dec_of DL_law 58 rfl) ?_
  refine vi_sald (N := L) (f := xs) (dec_of DL_law 59 rfl) rfl ⟨by omega, by omega⟩ (by omega) (sx_e xs _) ?_
  refine v_aload_n (dec_of DL_law 60 rfl) rfl ?_
  refine v_iload_n (dec_of DL_law 61 rfl) rfl ?_
  refine vi_const (dec_of DL_law 62 rfl) ?_
  refine vi_add (dec_of DL_law 63 rfl) ?_
  refine vi_sald (N := L) (f := xs) (dec_of DL_law 64 rfl) rfl ⟨by omega, by omega⟩ (by omega) (sx_e xs _) ?_
  refine v_aload_n (dec_of DL_law 65 rfl) rfl ?_
  refine v_iload_n (dec_of DL_law 66 rfl) rfl ?_
  refine vi_const (dec_of DL_law 67 rfl) ?_
  refine vi_add (dec_of DL_law 68 rfl) ?_
  refine vi_sald (N := L) (f := xs) (dec_of DL_law 69 rfl) rfl ⟨by omega, by omega⟩ (by omega) (sx_e xs _) ?_
  refine v_aload_n (dec_of DL_law 70 rfl) rfl ?_
  refine v_iload_n (dec_of DL_law 71 rfl) rfl ?_
  refine vi_const (dec_of DL_law 72 rfl) ?_
  refine vi_add (dec_of DL_law 73 rfl) ?_
  refine vi_sald (N := L) (f := xs) (dec_of DL_law 74 rfl) rfl ⟨by omega, by omega⟩ (by omega) (sx_e xs _) ?_
  refine v_V5p q2 lL_17 (dec_of DL_law 75 rfl) rfl rfl ⟨by decide, by decide, hc, hs⟩ (nle rfl) rfl ?_
  intro w2 r2 q3
  obtain ⟨rfl, K', G', rfl, hg'⟩ := q3
  refine Vd_n (st' := [J v, J v]) rfl rfl ?_
  exact vi_icmp_eq (tgt := 630) (dec_of DL_law 76 rfl) (by decide) hv hv (fun _ => nxt _ _ _ _ _ hg') (fun z => absurd rfl z)
set_option maxRecDepth 100000 in
set_option maxHeartbeats 4000000 in
theorem law_end {nm : String} {L : Nat} {xs : Nat → Int32} (hL : L ≤ 3072) {n0 : Nat} {Z : XW → Option Value → Prop} {ca sl : Nat} (hc : ca ≤ 600000) (hs : sl ≤ 7302250) {i : Int} (h0 : 0 ≤ i) (h6 : i ≤ (L : Int) - 6) (nxt : ∀ (I N : Nat → Int) (F : Nat → Int → Int) (K : Nat → Int) (G : Nat → Int → Int), GI I N F K G → Vd RM [(L, xs)] (mLaw nm) n0 Z ca sl 630 [some (.ref (SB + 4)), some (.ref 0), some (.ref 31), some (J i)] [] (W2 I N F K G)) {I N : Nat → Int} {F : Nat → Int → Int} {K : Nat → Int} {G : Nat → Int → Int} (hg : GI I N F K G) : Vd RM [(L, xs)] (mLaw nm) n0 Z ca sl 183 [some (.ref (SB + 4)), some (.ref 0), some (.ref 31), some (J i)] [] (W2 I N F K G) := by
  refine v_aload_n (dec_of DL_law 79 rfl) rfl ?_
  refine v_aload_n (dec_of DL_law 80 rfl) rfl ?_
  refine v_iload_n (dec_of DL_law 81 rfl) rfl ?_
  refine vi_const (dec_of DL_law 82 rfl) ?_
  refine vi_add (dec_of DL_law 83 rfl) ?_
  refine vi_sald (N := L) (f := xs) (dec_of DL_law 84 rfl) rfl ⟨by omega, by omega⟩ (by omega) (sx_e xs _) ?_
  refine v_V1p (pr_end hg (sx_r _ _)) lL_18 (dec_of DL_law 85 rfl) rfl rfl ⟨by decide, by decide, hc, hs⟩ (nle rfl) rfl ?_
  intro w1 r1 q1
  obtain ⟨I', N', F', v, rfl, rfl, hv, q2⟩ := q1
  refine Vd_n (st' := [J v]) rfl rfl ?_
  refine v_aload_n (dec_of DL_law 86 rfl) rfl ?_
  refine v_aload_n (dec_of DL_law 87 rfl) rfl ?_
  refine v_iload_n (dec_of DL_law 88 rfl) rfl ?_
  refine vi_const (dec_of DL_law 89 rfl) ?_
  refine vi_add (dec_of DL_law 90 rfl) ?_
  refine vi_sald (N := L) (f := xs) (dec_of DL_law 91 rfl) rfl ⟨by omega, by omega⟩ (by omega) (sx_e xs _) ?_
  refine v_V1p q2 lL_22 (dec_of DL_law 92 rfl) rfl rfl ⟨by decide, by decide, hc, hs⟩ (nle rfl) rfl ?_
  intro w2 r2 q3
  obtain ⟨rfl, K', G', rfl, hg'⟩ := q3
  refine Vd_n (st' := [J v, J v]) rfl rfl ?_
  exact vi_icmp_eq (tgt := 630) (dec_of DL_law 93 rfl) (by decide) hv hv (fun _ => nxt _ _ _ _ _ hg') (fun z => absurd rfl z)
set_option maxRecDepth 100000 in
set_option maxHeartbeats 4000000 in
theorem law_read {nm : String} {L : Nat} {xs : Nat → Int32} (hL : L ≤ 3072) {n0 : Nat} {Z : XW → Option Value → Prop} {ca sl : Nat} (hc : ca ≤ 600000) (hs : sl ≤ 7302250) {i : Int} (h0 : 0 ≤ i) (h6 : i ≤ (L : Int) - 6) (nxt : ∀ (I N : Nat → Int) (F : Nat → Int → Int) (K : Nat → Int) (G : Nat → Int → Int), GI I N F K G → Vd RM [(L, xs)] (mLaw nm) n0 Z ca sl 630 [some (.ref (SB + 4)), some (.ref 0), some (.ref 31), some (J i)] [] (W2 I N F K G)) {I N : Nat → Int} {F : Nat → Int → Int} {K : Nat → Int} {G : Nat → Int → Int} (hg : GI I N F K G) : Vd RM [(L, xs)] (mLaw nm) n0 Z ca sl 206 [some (.ref (SB + 4)), some (.ref 0), some (.ref 31), some (J i)] [] (W2 I N F K G) := by
  refine v_aload_n (dec_of DL_law 96 rfl) rfl ?_
  refine v_V0p (pr_read hg) lL_23 (dec_of DL_law 97 rfl) rfl rfl ⟨by decide, by decide, hc, hs⟩ (nle rfl) rfl ?_
  intro w1 r1 q1
  obtain ⟨I', N', F', v, rfl, rfl, hv, q2⟩ := q1
  refine Vd_n (st' := [J v]) rfl rfl ?_
  refine v_aload_n (dec_of DL_law 98 rfl) rfl ?_
  refine v_V0p q2 lL_27 (dec_of DL_law 99 rfl) rfl rfl ⟨by decide, by decide, hc, hs⟩ (nle rfl) rfl ?_
  intro w2 r2 q3
  obtain ⟨rfl, K', G', rfl, hg'⟩ := q3
  refine Vd_n (st' := [J v, J v]) rfl rfl ?_
  exact vi_icmp_eq (tgt := 630) (dec_of DL_law 100 rfl) (by decide) hv hv (fun _ => nxt _ _ _ _ _ hg') (fun z => absurd rfl z)
set_option maxRecDepth 100000 in
set_option maxHeartbeats 4000000 in
theorem law_place {nm : String} {L : Nat} {xs : Nat → Int32} (hL : L ≤ 3072) {n0 : Nat} {Z : XW → Option Value → Prop} {ca sl : Nat} (hc : ca ≤ 600000) (hs : sl ≤ 7302250) {i : Int} (h0 : 0 ≤ i) (h6 : i ≤ (L : Int) - 6) (nxt : ∀ (I N : Nat → Int) (F : Nat → Int → Int) (K : Nat → Int) (G : Nat → Int → Int), GI I N F K G → Vd RM [(L, xs)] (mLaw nm) n0 Z ca sl 630 [some (.ref (SB + 4)), some (.ref 0), some (.ref 31), some (J i)] [] (W2 I N F K G)) {I N : Nat → Int} {F : Nat → Int → Int} {K : Nat → Int} {G : Nat → Int → Int} (hg : GI I N F K G) : Vd RM [(L, xs)] (mLaw nm) n0 Z ca sl 219 [some (.ref (SB + 4)), some (.ref 0), some (.ref 31), some (J i)] [] (W2 I N F K G) := by
  refine v_aload_n (dec_of DL_law 103 rfl) rfl ?_
  refine v_V0p (pr_place hg) lL_28 (dec_of DL_law 104 rfl) rfl rfl ⟨by decide, by decide, hc, hs⟩ (nle rfl) rfl ?_
  intro w1 r1 q1
  obtain ⟨I', N', F', v, rfl, rfl, hv, q2⟩ := q1
  refine Vd_n (st' := [J v]) rfl rfl ?_
  refine v_aload_n (dec_of DL_law 105 rfl) rfl ?_
  refine v_V0p q2 lL_31 (dec_of DL_law 106 rfl) rfl rfl ⟨by decide, by decide, hc, hs⟩ (nle rfl) rfl ?_
  intro w2 r2 q3
  obtain ⟨rfl, K', G', rfl, hg'⟩ := q3
  refine Vd_n (st' := [J v, J v]) rfl rfl ?_
  exact vi_icmp_eq (tgt := 630) (dec_of DL_law 107 rfl) (by decide) hv hv (fun _ => nxt _ _ _ _ _ hg') (fun z => absurd rfl z)
set_option maxRecDepth 100000 in
set_option maxHeartbeats 4000000 in
theorem law_syllable {nm : String} {L : Nat} {xs : Nat → Int32} (hL : L ≤ 3072) {n0 : Nat} {Z : XW → Option Value → Prop} {ca sl : Nat} (hc : ca ≤ 600000) (hs : sl ≤ 7302250) {i : Int} (h0 : 0 ≤ i) (h6 : i ≤ (L : Int) - 6) (nxt : ∀ (I N : Nat → Int) (F : Nat → Int → Int) (K : Nat → Int) (G : Nat → Int → Int), GI I N F K G → Vd RM [(L, xs)] (mLaw nm) n0 Z ca sl 630 [some (.ref (SB + 4)), some (.ref 0), some (.ref 31), some (J i)] [] (W2 I N F K G)) {I N : Nat → Int} {F : Nat → Int → Int} {K : Nat → Int} {G : Nat → Int → Int} (hg : GI I N F K G) : Vd RM [(L, xs)] (mLaw nm) n0 Z ca sl 232 [some (.ref (SB + 4)), some (.ref 0), some (.ref 31), some (J i)] [] (W2 I N F K G) := by
  refine v_aload_n (dec_of DL_law 110 rfl) rfl ?_
  refine v_aload_n (dec_of DL_law 111 rfl) rfl ?_
  refine v_iload_n (dec_of DL_law 112 rfl) rfl ?_
  refine vi_const (dec_of DL_law 113 rfl) ?_
  refine vi_add (dec_of DL_law 114 rfl) ?_
  refine vi_sald (N := L) (f := xs) (dec_of DL_law 115 rfl) rfl ⟨by omega, by omega⟩ (by omega) (sx_e xs _) ?_
  refine v_aload_n (dec_of DL_law 116 rfl) rfl ?_
  refine v_iload_n (dec_of DL_law 117 rfl) rfl ?_
  refine vi_const (dec_of DL_law 118 rfl) ?_
  refine vi_add (dec_of DL_law 119 rfl) ?_
  refine vi_sald (N := L) (f := xs) (dec_of DL_law 120 rfl) rfl ⟨by omega, by omega⟩ (by omega) (sx_e xs _) ?_
  refine v_V2p (pr_syllable hg (sx_r _ _) (sx_r _ _)) lL_32 (dec_of DL_law 121 rfl) rfl rfl ⟨by decide, by decide, hc, hs⟩ (nle rfl) rfl ?_
  intro w1 r1 q1
  obtain ⟨I', N', F', v, rfl, rfl, hv, q2⟩ := q1
  refine Vd_n (st' := [J v]) rfl rfl ?_
  refine v_aload_n (dec_of DL_law 122 rfl) rfl ?_
  refine v_aload_n (dec_of DL_law 123 rfl) rfl ?_
  refine v_iload_n (dec_of DL_law 124 rfl) rfl ?_
  refine vi_const (dec_of DL_law 125 rfl) ?_
  refine vi_add (dec_of DL_law 126 rfl) ?_
  refine vi_sald (N := L) (f := xs) (dec_of DL_law 127 rfl) rfl ⟨by omega, by omega⟩ (by omega) (sx_e xs _) ?_
  refine v_aload_n (dec_of DL_law 128 rfl) rfl ?_
  refine v_iload_n (dec_of DL_law 129 rfl) rfl ?_
  refine vi_const (dec_of DL_law 130 rfl) ?_
  refine vi_add (dec_of DL_law 131 rfl) ?_
  refine vi_sald (N := L) (f := xs) (dec_of DL_law 132 rfl) rfl ⟨by omega, by omega⟩ (by omega) (sx_e xs _) ?_
  refine v_V2p q2 lL_36 (dec_of DL_law 133 rfl) rfl rfl ⟨by decide, by decide, hc, hs⟩ (nle rfl) rfl ?_
  intro w2 r2 q3
  obtain ⟨rfl, K', G', rfl, hg'⟩ := q3
  refine Vd_n (st' := [J v, J v]) rfl rfl ?_
  exact vi_icmp_eq (tgt := 630) (dec_of DL_law 134 rfl) (by decide) hv hv (fun _ => nxt _ _ _ _ _ hg') (fun z => absurd rfl z)
set_option maxRecDepth 100000 in
set_option maxHeartbeats 4000000 in
theorem law_note {nm : String} {L : Nat} {xs : Nat → Int32} (hL : L ≤ 3072) {n0 : Nat} {Z : XW → Option Value → Prop} {ca sl : Nat} (hc : ca ≤ 600000) (hs : sl ≤ 7302250) {i : Int} (h0 : 0 ≤ i) (h6 : i ≤ (L : Int) - 6) (nxt : ∀ (I N : Nat → Int) (F : Nat → Int → Int) (K : Nat → Int) (G : Nat → Int → Int), GI I N F K G → Vd RM [(L, xs)] (mLaw nm) n0 Z ca sl 630 [some (.ref (SB + 4)), some (.ref 0), some (.ref 31), some (J i)] [] (W2 I N F K G)) {I N : Nat → Int} {F : Nat → Int → Int} {K : Nat → Int} {G : Nat → Int → Int} (hg : GI I N F K G) : Vd RM [(L, xs)] (mLaw nm) n0 Z ca sl 265 [some (.ref (SB + 4)), some (.ref 0), some (.ref 31), some (J i)] [] (W2 I N F K G) := by
  refine v_aload_n (dec_of DL_law 137 rfl) rfl ?_
  refine v_aload_n (dec_of DL_law 138 rfl) rfl ?_
  refine v_iload_n (dec_of DL_law 139 rfl) rfl ?_
  refine vi_const (dec_of DL_law 140 rfl) ?_
  refine vi_add (dec_of DL_law 141 rfl) ?_
  refine vi_sald (N := L) (f := xs) (dec_of DL_law 142 rfl) rfl ⟨by omega, by omega⟩ (by omega) (sx_e xs _) ?_
  refine v_aload_n (dec_of DL_law 143 rfl) rfl ?_
  refine v_iload_n (dec_of DL_law 144 rfl) rfl ?_
  refine vi_const (dec_of DL_law 145 rfl) ?_
  refine vi_add (dec_of DL_law 146 rfl) ?_
  refine vi_sald (N := L) (f := xs) (dec_of DL_law 147 rfl) rfl ⟨by omega, by omega⟩ (by omega) (sx_e xs _) ?_
  refine v_V2p (pr_note hg (sx_r _ _) (sx_r _ _)) lL_37 (dec_of DL_law 148 rfl) rfl rfl ⟨by decide, by decide, hc, hs⟩ (nle rfl) rfl ?_
  intro w1 r1 q1
  obtain ⟨I', N', F', v, rfl, rfl, hv, q2⟩ := q1
  refine Vd_n (st' := [J v]) rfl rfl ?_
  refine v_aload_n (dec_of DL_law 149 rfl) rfl ?_
  refine v_aload_n (dec_of DL_law 150 rfl) rfl ?_
  refine v_iload_n (dec_of DL_law 151 rfl) rfl ?_
  refine vi_const (dec_of DL_law 152 rfl) ?_
  refine vi_add (dec_of DL_law 153 rfl) ?_
  refine vi_sald (N := L) (f := xs) (dec_of DL_law 154 rfl) rfl ⟨by omega, by omega⟩ (by omega) (sx_e xs _) ?_
  refine v_aload_n (dec_of DL_law 155 rfl) rfl ?_
  refine v_iload_n (dec_of DL_law 156 rfl) rfl ?_
  refine vi_const (dec_of DL_law 157 rfl) ?_
  refine vi_add (dec_of DL_law 158 rfl) ?_
  refine vi_sald (N := L) (f := xs) (dec_of DL_law 159 rfl) rfl ⟨by omega, by omega⟩ (by omega) (sx_e xs _) ?_
  refine v_V2p q2 lL_40 (dec_of DL_law 160 rfl) rfl rfl ⟨by decide, by decide, hc, hs⟩ (nle rfl) rfl ?_
  intro w2 r2 q3
  obtain ⟨rfl, K', G', rfl, hg'⟩ := q3
  refine Vd_n (st' := [J v, J v]) rfl rfl ?_
  exact vi_icmp_eq (tgt := 630) (dec_of DL_law 161 rfl) (by decide) hv hv (fun _ => nxt _ _ _ _ _ hg') (fun z => absurd rfl z)
set_option maxRecDepth 100000 in
set_option maxHeartbeats 4000000 in
theorem law_neume {nm : String} {L : Nat} {xs : Nat → Int32} (hL : L ≤ 3072) {n0 : Nat} {Z : XW → Option Value → Prop} {ca sl : Nat} (hc : ca ≤ 600000) (hs : sl ≤ 7302250) {i : Int} (h0 : 0 ≤ i) (h6 : i ≤ (L : Int) - 6) (nxt : ∀ (I N : Nat → Int) (F : Nat → Int → Int) (K : Nat → Int) (G : Nat → Int → Int), GI I N F K G → Vd RM [(L, xs)] (mLaw nm) n0 Z ca sl 630 [some (.ref (SB + 4)), some (.ref 0), some (.ref 31), some (J i)] [] (W2 I N F K G)) {I N : Nat → Int} {F : Nat → Int → Int} {K : Nat → Int} {G : Nat → Int → Int} (hg : GI I N F K G) : Vd RM [(L, xs)] (mLaw nm) n0 Z ca sl 298 [some (.ref (SB + 4)), some (.ref 0), some (.ref 31), some (J i)] [] (W2 I N F K G) := by
  refine v_aload_n (dec_of DL_law 164 rfl) rfl ?_
  refine v_aload_n (dec_of DL_law 165 rfl) rfl ?_
  refine v_iload_n (dec_of DL_law 166 rfl) rfl ?_
  refine vi_const (dec_of DL_law 167 rfl) ?_
  refine vi_add (dec_of DL_law 168 rfl) ?_
  refine vi_sald (N := L) (f := xs) (dec_of DL_law 169 rfl) rfl ⟨by omega, by omega⟩ (by omega) (sx_e xs _) ?_
  refine v_aload_n (dec_of DL_law 170 rfl) rfl ?_
  refine v_iload_n (dec_of DL_law 171 rfl) rfl ?_
  refine vi_const (dec_of DL_law 172 rfl) ?_
  refine vi_add (dec_of DL_law 173 rfl) ?_
  refine vi_sald (N := L) (f := xs) (dec_of DL_law 174 rfl) rfl ⟨by omega, by omega⟩ (by omega) (sx_e xs _) ?_
  refine v_V2p (pr_neume hg (sx_r _ _) (sx_r _ _)) lL_41 (dec_of DL_law 175 rfl) rfl rfl ⟨by decide, by decide, hc, hs⟩ (nle rfl) rfl ?_
  intro w1 r1 q1
  obtain ⟨I', N', F', v, rfl, rfl, hv, q2⟩ := q1
  refine Vd_n (st' := [J v]) rfl rfl ?_
  refine v_aload_n (dec_of DL_law 176 rfl) rfl ?_
  refine v_aload_n (dec_of DL_law 177 rfl) rfl ?_
  refine v_iload_n (dec_of DL_law 178 rfl) rfl ?_
  refine vi_const (dec_of DL_law 179 rfl) ?_
  refine vi_add (dec_of DL_law 180 rfl) ?_
  refine vi_sald (N := L) (f := xs) (dec_of DL_law 181 rfl) rfl ⟨by omega, by omega⟩ (by omega) (sx_e xs _) ?_
  refine v_aload_n (dec_of DL_law 182 rfl) rfl ?_
  refine v_iload_n (dec_of DL_law 183 rfl) rfl ?_
  refine vi_const (dec_of DL_law 184 rfl) ?_
  refine vi_add (dec_of DL_law 185 rfl) ?_
  refine vi_sald (N := L) (f := xs) (dec_of DL_law 186 rfl) rfl ⟨by omega, by omega⟩ (by omega) (sx_e xs _) ?_
  refine v_V2p q2 lL_44 (dec_of DL_law 187 rfl) rfl rfl ⟨by decide, by decide, hc, hs⟩ (nle rfl) rfl ?_
  intro w2 r2 q3
  obtain ⟨rfl, K', G', rfl, hg'⟩ := q3
  refine Vd_n (st' := [J v, J v]) rfl rfl ?_
  exact vi_icmp_eq (tgt := 630) (dec_of DL_law 188 rfl) (by decide) hv hv (fun _ => nxt _ _ _ _ _ hg') (fun z => absurd rfl z)
set_option maxRecDepth 100000 in
set_option maxHeartbeats 4000000 in
theorem law_bar {nm : String} {L : Nat} {xs : Nat → Int32} (hL : L ≤ 3072) {n0 : Nat} {Z : XW → Option Value → Prop} {ca sl : Nat} (hc : ca ≤ 600000) (hs : sl ≤ 7302250) {i : Int} (h0 : 0 ≤ i) (h6 : i ≤ (L : Int) - 6) (nxt : ∀ (I N : Nat → Int) (F : Nat → Int → Int) (K : Nat → Int) (G : Nat → Int → Int), GI I N F K G → Vd RM [(L, xs)] (mLaw nm) n0 Z ca sl 630 [some (.ref (SB + 4)), some (.ref 0), some (.ref 31), some (J i)] [] (W2 I N F K G)) {I N : Nat → Int} {F : Nat → Int → Int} {K : Nat → Int} {G : Nat → Int → Int} (hg : GI I N F K G) : Vd RM [(L, xs)] (mLaw nm) n0 Z ca sl 331 [some (.ref (SB + 4)), some (.ref 0), some (.ref 31), some (J i)] [] (W2 I N F K G) := by
  refine v_aload_n (dec_of DL_law 191 rfl) rfl ?_
  refine v_aload_n (dec_of DL_law 192 rfl) rfl ?_
  refine v_iload_n (dec_of DL_law 193 rfl) rfl ?_
  refine vi_const (dec_of DL_law 194 rfl) ?_
  refine vi_add (dec_of DL_law 195 rfl) ?_
  refine vi_sald (N := L) (f := xs) (dec_of DL_law 196 rfl) rfl ⟨by omega, by omega⟩ (by omega) (sx_e xs _) ?_
  refine v_aload_n (dec_of DL_law 197 rfl) rfl ?_
  refine v_iload_n (dec_of DL_law 198 rfl) rfl ?_
  refine vi_const (dec_of DL_law 199 rfl) ?_
  refine vi_add (dec_of DL_law 200 rfl) ?_
  refine vi_sald (N := L) (f := xs) (dec_of DL_law 201 rfl) rfl ⟨by omega, by omega⟩ (by omega) (sx_e xs _) ?_
  refine v_V2p (pr_bar hg (sx_r _ _) (sx_r _ _)) lL_45 (dec_of DL_law 202 rfl) rfl rfl ⟨by decide, by decide, hc, hs⟩ (nle rfl) rfl ?_
  intro w1 r1 q1
  obtain ⟨I', N', F', v, rfl, rfl, hv, q2⟩ := q1
  refine Vd_n (st' := [J v]) rfl rfl ?_
  refine v_aload_n (dec_of DL_law 203 rfl) rfl ?_
  refine v_aload_n (dec_of DL_law 204 rfl) rfl ?_
  refine v_iload_n (dec_of DL_law 205 rfl) rfl ?_
  refine vi_const (dec_of DL_law 206 rfl) ?_
  refine vi_add (dec_of DL_law 207 rfl) ?_
  refine vi_sald (N := L) (f := xs) (dec_of DL_law 208 rfl) rfl ⟨by omega, by omega⟩ (by omega) (sx_e xs _) ?_
  refine v_aload_n (dec_of DL_law 209 rfl) rfl ?_
  refine v_iload_n (dec_of DL_law 210 rfl) rfl ?_
  refine vi_const (dec_of DL_law 211 rfl) ?_
  refine vi_add (dec_of DL_law 212 rfl) ?_
  refine vi_sald (N := L) (f := xs) (dec_of DL_law 213 rfl) rfl ⟨by omega, by omega⟩ (by omega) (sx_e xs _) ?_
  refine v_V2p q2 lL_48 (dec_of DL_law 214 rfl) rfl rfl ⟨by decide, by decide, hc, hs⟩ (nle rfl) rfl ?_
  intro w2 r2 q3
  obtain ⟨rfl, K', G', rfl, hg'⟩ := q3
  refine Vd_n (st' := [J v, J v]) rfl rfl ?_
  exact vi_icmp_eq (tgt := 630) (dec_of DL_law 215 rfl) (by decide) hv hv (fun _ => nxt _ _ _ _ _ hg') (fun z => absurd rfl z)
set_option maxRecDepth 100000 in
set_option maxHeartbeats 4000000 in
theorem law_guide {nm : String} {L : Nat} {xs : Nat → Int32} (hL : L ≤ 3072) {n0 : Nat} {Z : XW → Option Value → Prop} {ca sl : Nat} (hc : ca ≤ 600000) (hs : sl ≤ 7302250) {i : Int} (h0 : 0 ≤ i) (h6 : i ≤ (L : Int) - 6) (nxt : ∀ (I N : Nat → Int) (F : Nat → Int → Int) (K : Nat → Int) (G : Nat → Int → Int), GI I N F K G → Vd RM [(L, xs)] (mLaw nm) n0 Z ca sl 630 [some (.ref (SB + 4)), some (.ref 0), some (.ref 31), some (J i)] [] (W2 I N F K G)) {I N : Nat → Int} {F : Nat → Int → Int} {K : Nat → Int} {G : Nat → Int → Int} (hg : GI I N F K G) : Vd RM [(L, xs)] (mLaw nm) n0 Z ca sl 364 [some (.ref (SB + 4)), some (.ref 0), some (.ref 31), some (J i)] [] (W2 I N F K G) := by
  refine v_aload_n (dec_of DL_law 218 rfl) rfl ?_
  refine v_aload_n (dec_of DL_law 219 rfl) rfl ?_
  refine v_iload_n (dec_of DL_law 220 rfl) rfl ?_
  refine vi_const (dec_of DL_law 221 rfl) ?_
  refine vi_add (dec_of DL_law 222 rfl) ?_
  refine vi_sald (N := L) (f := xs) (dec_of DL_law 223 rfl) rfl ⟨by omega, by omega⟩ (by omega) (sx_e xs _) ?_
  refine v_V1p (pr_guide hg (sx_r _ _)) lL_49 (dec_of DL_law 224 rfl) rfl rfl ⟨by decide, by decide, hc, hs⟩ (nle rfl) rfl ?_
  intro w1 r1 q1
  obtain ⟨I', N', F', v, rfl, rfl, hv, q2⟩ := q1
  refine Vd_n (st' := [J v]) rfl rfl ?_
  refine v_aload_n (dec_of DL_law 225 rfl) rfl ?_
  refine v_aload_n (dec_of DL_law 226 rfl) rfl ?_
  refine v_iload_n (dec_of DL_law 227 rfl) rfl ?_
  refine vi_const (dec_of DL_law 228 rfl) ?_
  refine vi_add (dec_of DL_law 229 rfl) ?_
  refine vi_sald (N := L) (f := xs) (dec_of DL_law 230 rfl) rfl ⟨by omega, by omega⟩ (by omega) (sx_e xs _) ?_
  refine v_V1p q2 lL_52 (dec_of DL_law 231 rfl) rfl rfl ⟨by decide, by decide, hc, hs⟩ (nle rfl) rfl ?_
  intro w2 r2 q3
  obtain ⟨rfl, K', G', rfl, hg'⟩ := q3
  refine Vd_n (st' := [J v, J v]) rfl rfl ?_
  exact vi_icmp_eq (tgt := 630) (dec_of DL_law 232 rfl) (by decide) hv hv (fun _ => nxt _ _ _ _ _ hg') (fun z => absurd rfl z)
set_option maxRecDepth 100000 in
set_option maxHeartbeats 4000000 in
theorem law_mode {nm : String} {L : Nat} {xs : Nat → Int32} (hL : L ≤ 3072) {n0 : Nat} {Z : XW → Option Value → Prop} {ca sl : Nat} (hc : ca ≤ 600000) (hs : sl ≤ 7302250) {i : Int} (h0 : 0 ≤ i) (h6 : i ≤ (L : Int) - 6) (nxt : ∀ (I N : Nat → Int) (F : Nat → Int → Int) (K : Nat → Int) (G : Nat → Int → Int), GI I N F K G → Vd RM [(L, xs)] (mLaw nm) n0 Z ca sl 630 [some (.ref (SB + 4)), some (.ref 0), some (.ref 31), some (J i)] [] (W2 I N F K G)) {I N : Nat → Int} {F : Nat → Int → Int} {K : Nat → Int} {G : Nat → Int → Int} (hg : GI I N F K G) : Vd RM [(L, xs)] (mLaw nm) n0 Z ca sl 387 [some (.ref (SB + 4)), some (.ref 0), some (.ref 31), some (J i)] [] (W2 I N F K G) := by
  refine v_aload_n (dec_of DL_law 235 rfl) rfl ?_
  refine v_aload_n (dec_of DL_law 236 rfl) rfl ?_
  refine v_iload_n (dec_of DL_law 237 rfl) rfl ?_
  refine vi_const (dec_of DL_law 238 rfl) ?_
  refine vi_add (dec_of DL_law 239 rfl) ?_
  refine vi_sald (N := L) (f := xs) (dec_of DL_law 240 rfl) rfl ⟨by omega, by omega⟩ (by omega) (sx_e xs _) ?_
  refine v_V1p (pr_mode hg (sx_r _ _)) lL_53 (dec_of DL_law 241 rfl) rfl rfl ⟨by decide, by decide, hc, hs⟩ (nle rfl) rfl ?_
  intro w1 r1 q1
  obtain ⟨I', N', F', v, rfl, rfl, hv, q2⟩ := q1
  refine Vd_n (st' := [J v]) rfl rfl ?_
  refine v_aload_n (dec_of DL_law 242 rfl) rfl ?_
  refine v_aload_n (dec_of DL_law 243 rfl) rfl ?_
  refine v_iload_n (dec_of DL_law 244 rfl) rfl ?_
  refine vi_const (dec_of DL_law 245 rfl) ?_
  refine vi_add (dec_of DL_law 246 rfl) ?_
  refine vi_sald (N := L) (f := xs) (dec_of DL_law 247 rfl) rfl ⟨by omega, by omega⟩ (by omega) (sx_e xs _) ?_
  refine v_V1p q2 lL_56 (dec_of DL_law 248 rfl) rfl rfl ⟨by decide, by decide, hc, hs⟩ (nle rfl) rfl ?_
  intro w2 r2 q3
  obtain ⟨rfl, K', G', rfl, hg'⟩ := q3
  refine Vd_n (st' := [J v, J v]) rfl rfl ?_
  exact vi_icmp_eq (tgt := 630) (dec_of DL_law 249 rfl) (by decide) hv hv (fun _ => nxt _ _ _ _ _ hg') (fun z => absurd rfl z)
set_option maxRecDepth 100000 in
set_option maxHeartbeats 4000000 in
theorem law_tone {nm : String} {L : Nat} {xs : Nat → Int32} (hL : L ≤ 3072) {n0 : Nat} {Z : XW → Option Value → Prop} {ca sl : Nat} (hc : ca ≤ 600000) (hs : sl ≤ 7302250) {i : Int} (h0 : 0 ≤ i) (h6 : i ≤ (L : Int) - 6) (nxt : ∀ (I N : Nat → Int) (F : Nat → Int → Int) (K : Nat → Int) (G : Nat → Int → Int), GI I N F K G → Vd RM [(L, xs)] (mLaw nm) n0 Z ca sl 630 [some (.ref (SB + 4)), some (.ref 0), some (.ref 31), some (J i)] [] (W2 I N F K G)) {I N : Nat → Int} {F : Nat → Int → Int} {K : Nat → Int} {G : Nat → Int → Int} (hg : GI I N F K G) : Vd RM [(L, xs)] (mLaw nm) n0 Z ca sl 410 [some (.ref (SB + 4)), some (.ref 0), some (.ref 31), some (J i)] [] (W2 I N F K G) := by
  refine v_aload_n (dec_of DL_law 252 rfl) rfl ?_
  refine v_aload_n (dec_of DL_law 253 rfl) rfl ?_
  refine v_iload_n (dec_of DL_law 254 rfl) rfl ?_
  refine vi_const (dec_of DL_law 255 rfl) ?_
  refine vi_add (dec_of DL_law 256 rfl) ?_
  refine vi_sald (N := L) (f := xs) (dec_of DL_law 257 rfl) rfl ⟨by omega, by omega⟩ (by omega) (sx_e xs _) ?_
  refine v_V1p (pr_tone hg (sx_r _ _)) lL_57 (dec_of DL_law 258 rfl) rfl rfl ⟨by decide, by decide, hc, hs⟩ (nle rfl) rfl ?_
  intro w1 r1 q1
  obtain ⟨I', N', F', v, rfl, rfl, hv, q2⟩ := q1
  refine Vd_n (st' := [J v]) rfl rfl ?_
  refine v_aload_n (dec_of DL_law 259 rfl) rfl ?_
  refine v_aload_n (dec_of DL_law 260 rfl) rfl ?_
  refine v_iload_n (dec_of DL_law 261 rfl) rfl ?_
  refine vi_const (dec_of DL_law 262 rfl) ?_
  refine vi_add (dec_of DL_law 263 rfl) ?_
  refine vi_sald (N := L) (f := xs) (dec_of DL_law 264 rfl) rfl ⟨by omega, by omega⟩ (by omega) (sx_e xs _) ?_
  refine v_V1p q2 lL_60 (dec_of DL_law 265 rfl) rfl rfl ⟨by decide, by decide, hc, hs⟩ (nle rfl) rfl ?_
  intro w2 r2 q3
  obtain ⟨rfl, K', G', rfl, hg'⟩ := q3
  refine Vd_n (st' := [J v, J v]) rfl rfl ?_
  exact vi_icmp_eq (tgt := 630) (dec_of DL_law 266 rfl) (by decide) hv hv (fun _ => nxt _ _ _ _ _ hg') (fun z => absurd rfl z)
set_option maxRecDepth 100000 in
set_option maxHeartbeats 4000000 in
theorem law_point {nm : String} {L : Nat} {xs : Nat → Int32} (hL : L ≤ 3072) {n0 : Nat} {Z : XW → Option Value → Prop} {ca sl : Nat} (hc : ca ≤ 600000) (hs : sl ≤ 7302250) {i : Int} (h0 : 0 ≤ i) (h6 : i ≤ (L : Int) - 6) (nxt : ∀ (I N : Nat → Int) (F : Nat → Int → Int) (K : Nat → Int) (G : Nat → Int → Int), GI I N F K G → Vd RM [(L, xs)] (mLaw nm) n0 Z ca sl 630 [some (.ref (SB + 4)), some (.ref 0), some (.ref 31), some (J i)] [] (W2 I N F K G)) {I N : Nat → Int} {F : Nat → Int → Int} {K : Nat → Int} {G : Nat → Int → Int} (hg : GI I N F K G) : Vd RM [(L, xs)] (mLaw nm) n0 Z ca sl 433 [some (.ref (SB + 4)), some (.ref 0), some (.ref 31), some (J i)] [] (W2 I N F K G) := by
  by_cases hb : sx xs (i + 2) = 0
  · refine v_aload_n (dec_of DL_law 269 rfl) rfl ?_
    refine v_aload_n (dec_of DL_law 270 rfl) rfl ?_
    refine v_iload_n (dec_of DL_law 271 rfl) rfl ?_
    refine vi_const (dec_of DL_law 272 rfl) ?_
    refine vi_add (dec_of DL_law 273 rfl) ?_
    refine vi_sald (N := L) (f := xs) (dec_of DL_law 274 rfl) rfl ⟨by omega, by omega⟩ (by omega) (sx_e xs _) ?_
    refine v_aload_n (dec_of DL_law 275 rfl) rfl ?_
    refine v_iload_n (dec_of DL_law 276 rfl) rfl ?_
    refine vi_const (dec_of DL_law 277 rfl) ?_
    refine vi_add (dec_of DL_law 278 rfl) ?_
    refine vi_sald (N := L) (f := xs) (dec_of DL_law 279 rfl) rfl ⟨by omega, by omega⟩ (by omega) (sx_e xs _) ?_
    refine vi_if_eq (tgt := 451) (dec_of DL_law 280 rfl) (by decide) (sx_r _ _) (fun _ => ?_) (fun z => absurd hb z)
    refine vi_const (dec_of DL_law 283 rfl) ?_
    refine v_V2p (pr_point hg (sx_r _ _) (Or.inl rfl)) lL_61 (dec_of DL_law 284 rfl) rfl rfl ⟨by decide, by decide, hc, hs⟩ (nle rfl) rfl ?_
    intro w1 r1 q1
    obtain ⟨I', N', F', v, rfl, rfl, hv, q2⟩ := q1
    refine Vd_n (st' := [J v]) rfl rfl ?_
    refine v_aload_n (dec_of DL_law 285 rfl) rfl ?_
    refine v_aload_n (dec_of DL_law 286 rfl) rfl ?_
    refine v_iload_n (dec_of DL_law 287 rfl) rfl ?_
    refine vi_const (dec_of DL_law 288 rfl) ?_
    refine vi_add (dec_of DL_law 289 rfl) ?_
    refine vi_sald (N := L) (f := xs) (dec_of DL_law 290 rfl) rfl ⟨by omega, by omega⟩ (by omega) (sx_e xs _) ?_
    refine v_aload_n (dec_of DL_law 291 rfl) rfl ?_
    refine v_iload_n (dec_of DL_law 292 rfl) rfl ?_
    refine vi_const (dec_of DL_law 293 rfl) ?_
    refine vi_add (dec_of DL_law 294 rfl) ?_
    refine vi_sald (N := L) (f := xs) (dec_of DL_law 295 rfl) rfl ⟨by omega, by omega⟩ (by omega) (sx_e xs _) ?_
    refine vi_if_eq (tgt := 473) (dec_of DL_law 296 rfl) (by decide) (sx_r _ _) (fun _ => ?_) (fun z => absurd hb z)
    refine vi_const (dec_of DL_law 299 rfl) ?_
    refine v_V2p q2 lL_65 (dec_of DL_law 300 rfl) rfl rfl ⟨by decide, by decide, hc, hs⟩ (nle rfl) rfl ?_
    intro w2 r2 q3
    obtain ⟨rfl, K', G', rfl, hg'⟩ := q3
    refine Vd_n (st' := [J v, J v]) rfl rfl ?_
    exact vi_icmp_eq (tgt := 630) (dec_of DL_law 301 rfl) (by decide) hv hv (fun _ => nxt _ _ _ _ _ hg') (fun z => absurd rfl z)
  · refine v_aload_n (dec_of DL_law 269 rfl) rfl ?_
    refine v_aload_n (dec_of DL_law 270 rfl) rfl ?_
    refine v_iload_n (dec_of DL_law 271 rfl) rfl ?_
    refine vi_const (dec_of DL_law 272 rfl) ?_
    refine vi_add (dec_of DL_law 273 rfl) ?_
    refine vi_sald (N := L) (f := xs) (dec_of DL_law 274 rfl) rfl ⟨by omega, by omega⟩ (by omega) (sx_e xs _) ?_
    refine v_aload_n (dec_of DL_law 275 rfl) rfl ?_
    refine v_iload_n (dec_of DL_law 276 rfl) rfl ?_
    refine vi_const (dec_of DL_law 277 rfl) ?_
    refine vi_add (dec_of DL_law 278 rfl) ?_
    refine vi_sald (N := L) (f := xs) (dec_of DL_law 279 rfl) rfl ⟨by omega, by omega⟩ (by omega) (sx_e xs _) ?_
    refine vi_if_eq (tgt := 451) (dec_of DL_law 280 rfl) (by decide) (sx_r _ _) (fun z => absurd z hb) (fun _ => ?_)
    refine vi_const (dec_of DL_law 281 rfl) ?_
    refine v_goto (tgt := 452) (dec_of DL_law 282 rfl) (by decide) ?_
    refine v_V2p (pr_point hg (sx_r _ _) (Or.inr rfl)) lL_61 (dec_of DL_law 284 rfl) rfl rfl ⟨by decide, by decide, hc, hs⟩ (nle rfl) rfl ?_
    intro w1 r1 q1
    obtain ⟨I', N', F', v, rfl, rfl, hv, q2⟩ := q1
    refine Vd_n (st' := [J v]) rfl rfl ?_
    refine v_aload_n (dec_of DL_law 285 rfl) rfl ?_
    refine v_aload_n (dec_of DL_law 286 rfl) rfl ?_
    refine v_iload_n (dec_of DL_law 287 rfl) rfl ?_
    refine vi_const (dec_of DL_law 288 rfl) ?_
    refine vi_add (dec_of DL_law 289 rfl) ?_
    refine vi_sald (N := L) (f := xs) (dec_of DL_law 290 rfl) rfl ⟨by omega, by omega⟩ (by omega) (sx_e xs _) ?_
    refine v_aload_n (dec_of DL_law 291 rfl) rfl ?_
    refine v_iload_n (dec_of DL_law 292 rfl) rfl ?_
    refine vi_const (dec_of DL_law 293 rfl) ?_
    refine vi_add (dec_of DL_law 294 rfl) ?_
    refine vi_sald (N := L) (f := xs) (dec_of DL_law 295 rfl) rfl ⟨by omega, by omega⟩ (by omega) (sx_e xs _) ?_
    refine vi_if_eq (tgt := 473) (dec_of DL_law 296 rfl) (by decide) (sx_r _ _) (fun z => absurd z hb) (fun _ => ?_)
    refine vi_const (dec_of DL_law 297 rfl) ?_
    refine v_goto (tgt := 474) (dec_of DL_law 298 rfl) (by decide) ?_
    refine v_V2p q2 lL_65 (dec_of DL_law 300 rfl) rfl rfl ⟨by decide, by decide, hc, hs⟩ (nle rfl) rfl ?_
    intro w2 r2 q3
    obtain ⟨rfl, K', G', rfl, hg'⟩ := q3
    refine Vd_n (st' := [J v, J v]) rfl rfl ?_
    exact vi_icmp_eq (tgt := 630) (dec_of DL_law 301 rfl) (by decide) hv hv (fun _ => nxt _ _ _ _ _ hg') (fun z => absurd rfl z)
set_option maxRecDepth 100000 in
set_option maxHeartbeats 4000000 in
theorem law_fresh {nm : String} {L : Nat} {xs : Nat → Int32} (hL : L ≤ 3072) {n0 : Nat} {Z : XW → Option Value → Prop} {ca sl : Nat} (hc : ca ≤ 600000) (hs : sl ≤ 7302250) {i : Int} (h0 : 0 ≤ i) (h6 : i ≤ (L : Int) - 6) (nxt : ∀ (I N : Nat → Int) (F : Nat → Int → Int) (K : Nat → Int) (G : Nat → Int → Int), GI I N F K G → Vd RM [(L, xs)] (mLaw nm) n0 Z ca sl 630 [some (.ref (SB + 4)), some (.ref 0), some (.ref 31), some (J i)] [] (W2 I N F K G)) {I N : Nat → Int} {F : Nat → Int → Int} {K : Nat → Int} {G : Nat → Int → Int} (hg : GI I N F K G) : Vd RM [(L, xs)] (mLaw nm) n0 Z ca sl 482 [some (.ref (SB + 4)), some (.ref 0), some (.ref 31), some (J i)] [] (W2 I N F K G) := by
  refine v_aload_n (dec_of DL_law 304 rfl) rfl ?_
  refine v_V0p (pr_fresh hg) lL_66 (dec_of DL_law 305 rfl) rfl rfl ⟨by decide, by decide, hc, hs⟩ (nle rfl) rfl ?_
  intro w1 r1 q1
  obtain ⟨I', N', F', v, rfl, rfl, hv, q2⟩ := q1
  refine Vd_n (st' := [J v]) rfl rfl ?_
  refine v_aload_n (dec_of DL_law 306 rfl) rfl ?_
  refine v_V0p q2 lL_69 (dec_of DL_law 307 rfl) rfl rfl ⟨by decide, by decide, hc, hs⟩ (nle rfl) rfl ?_
  intro w2 r2 q3
  obtain ⟨rfl, K', G', rfl, hg'⟩ := q3
  refine Vd_n (st' := [J v, J v]) rfl rfl ?_
  exact vi_icmp_eq (tgt := 630) (dec_of DL_law 308 rfl) (by decide) hv hv (fun _ => nxt _ _ _ _ _ hg') (fun z => absurd rfl z)
set_option maxRecDepth 100000 in
set_option maxHeartbeats 4000000 in
theorem law_half {nm : String} {L : Nat} {xs : Nat → Int32} (hL : L ≤ 3072) {n0 : Nat} {Z : XW → Option Value → Prop} {ca sl : Nat} (hc : ca ≤ 600000) (hs : sl ≤ 7302250) {i : Int} (h0 : 0 ≤ i) (h6 : i ≤ (L : Int) - 6) (nxt : ∀ (I N : Nat → Int) (F : Nat → Int → Int) (K : Nat → Int) (G : Nat → Int → Int), GI I N F K G → Vd RM [(L, xs)] (mLaw nm) n0 Z ca sl 630 [some (.ref (SB + 4)), some (.ref 0), some (.ref 31), some (J i)] [] (W2 I N F K G)) {I N : Nat → Int} {F : Nat → Int → Int} {K : Nat → Int} {G : Nat → Int → Int} (hg : GI I N F K G) : Vd RM [(L, xs)] (mLaw nm) n0 Z ca sl 495 [some (.ref (SB + 4)), some (.ref 0), some (.ref 31), some (J i)] [] (W2 I N F K G) := by
  refine v_aload_n (dec_of DL_law 311 rfl) rfl ?_
  refine v_aload_n (dec_of DL_law 312 rfl) rfl ?_
  refine v_iload_n (dec_of DL_law 313 rfl) rfl ?_
  refine vi_const (dec_of DL_law 314 rfl) ?_
  refine vi_add (dec_of DL_law 315 rfl) ?_
  refine vi_sald (N := L) (f := xs) (dec_of DL_law 316 rfl) rfl ⟨by omega, by omega⟩ (by omega) (sx_e xs _) ?_
  refine v_aload_n (dec_of DL_law 317 rfl) rfl ?_
  refine v_iload_n (dec_of DL_law 318 rfl) rfl ?_
  refine vi_const (dec_of DL_law 319 rfl) ?_
  refine vi_add (dec_of DL_law 320 rfl) ?_
  refine vi_sald (N := L) (f := xs) (dec_of DL_law 321 rfl) rfl ⟨by omega, by omega⟩ (by omega) (sx_e xs _) ?_
  refine v_V2p (pr_half hg (sx_r _ _) (sx_r _ _)) lL_70 (dec_of DL_law 322 rfl) rfl rfl ⟨by decide, by decide, hc, hs⟩ (nle rfl) rfl ?_
  intro w1 r1 q1
  obtain ⟨I', N', F', v, rfl, rfl, hv, q2⟩ := q1
  refine Vd_n (st' := [J v]) rfl rfl ?_
  refine v_aload_n (dec_of DL_law 323 rfl) rfl ?_
  refine v_aload_n (dec_of DL_law 324 rfl) rfl ?_
  refine v_iload_n (dec_of DL_law 325 rfl) rfl ?_
  refine vi_const (dec_of DL_law 326 rfl) ?_
  refine vi_add (dec_of DL_law 327 rfl) ?_
  refine vi_sald (N := L) (f := xs) (dec_of DL_law 328 rfl) rfl ⟨by omega, by omega⟩ (by omega) (sx_e xs _) ?_
  refine v_aload_n (dec_of DL_law 329 rfl) rfl ?_
  refine v_iload_n (dec_of DL_law 330 rfl) rfl ?_
  refine vi_const (dec_of DL_law 331 rfl) ?_
  refine vi_add (dec_of DL_law 332 rfl) ?_
  refine vi_sald (N := L) (f := xs) (dec_of DL_law 333 rfl) rfl ⟨by omega, by omega⟩ (by omega) (sx_e xs _) ?_
  refine v_V2p q2 lL_73 (dec_of DL_law 334 rfl) rfl rfl ⟨by decide, by decide, hc, hs⟩ (nle rfl) rfl ?_
  intro w2 r2 q3
  obtain ⟨rfl, K', G', rfl, hg'⟩ := q3
  refine Vd_n (st' := [J v, J v]) rfl rfl ?_
  exact vi_icmp_eq (tgt := 630) (dec_of DL_law 335 rfl) (by decide) hv hv (fun _ => nxt _ _ _ _ _ hg') (fun z => absurd rfl z)
set_option maxRecDepth 100000 in
set_option maxHeartbeats 4000000 in
theorem law_sung {nm : String} {L : Nat} {xs : Nat → Int32} (hL : L ≤ 3072) {n0 : Nat} {Z : XW → Option Value → Prop} {ca sl : Nat} (hc : ca ≤ 600000) (hs : sl ≤ 7302250) {i : Int} (h0 : 0 ≤ i) (h6 : i ≤ (L : Int) - 6) (nxt : ∀ (I N : Nat → Int) (F : Nat → Int → Int) (K : Nat → Int) (G : Nat → Int → Int), GI I N F K G → Vd RM [(L, xs)] (mLaw nm) n0 Z ca sl 630 [some (.ref (SB + 4)), some (.ref 0), some (.ref 31), some (J i)] [] (W2 I N F K G)) {I N : Nat → Int} {F : Nat → Int → Int} {K : Nat → Int} {G : Nat → Int → Int} (hg : GI I N F K G) : Vd RM [(L, xs)] (mLaw nm) n0 Z ca sl 528 [some (.ref (SB + 4)), some (.ref 0), some (.ref 31), some (J i)] [] (W2 I N F K G) := by
  refine v_aload_n (dec_of DL_law 338 rfl) rfl ?_
  refine v_aload_n (dec_of DL_law 339 rfl) rfl ?_
  refine v_iload_n (dec_of DL_law 340 rfl) rfl ?_
  refine vi_const (dec_of DL_law 341 rfl) ?_
  refine vi_add (dec_of DL_law 342 rfl) ?_
  refine vi_sald (N := L) (f := xs) (dec_of DL_law 343 rfl) rfl ⟨by omega, by omega⟩ (by omega) (sx_e xs _) ?_
  refine v_aload_n (dec_of DL_law 344 rfl) rfl ?_
  refine v_iload_n (dec_of DL_law 345 rfl) rfl ?_
  refine vi_const (dec_of DL_law 346 rfl) ?_
  refine vi_add (dec_of DL_law 347 rfl) ?_
  refine vi_sald (N := L) (f := xs) (dec_of DL_law 348 rfl) rfl ⟨by omega, by omega⟩ (by omega) (sx_e xs _) ?_
  refine v_aload_n (dec_of DL_law 349 rfl) rfl ?_
  refine v_iload_n (dec_of DL_law 350 rfl) rfl ?_
  refine vi_const (dec_of DL_law 351 rfl) ?_
  refine vi_add (dec_of DL_law 352 rfl) ?_
  refine vi_sald (N := L) (f := xs) (dec_of DL_law 353 rfl) rfl ⟨by omega, by omega⟩ (by omega) (sx_e xs _) ?_
  refine v_V3p (pr_sung hg (sx_r _ _) (sx_r _ _) (sx_r _ _)) lL_74 (dec_of DL_law 354 rfl) rfl rfl ⟨by decide, by decide, hc, hs⟩ (nle rfl) rfl ?_
  intro w1 r1 q1
  obtain ⟨I', N', F', v, rfl, rfl, hv, q2⟩ := q1
  refine Vd_n (st' := [J v]) rfl rfl ?_
  refine v_aload_n (dec_of DL_law 355 rfl) rfl ?_
  refine v_aload_n (dec_of DL_law 356 rfl) rfl ?_
  refine v_iload_n (dec_of DL_law 357 rfl) rfl ?_
  refine vi_const (dec_of DL_law 358 rfl) ?_
  refine vi_add (dec_of DL_law 359 rfl) ?_
  refine vi_sald (N := L) (f := xs) (dec_of DL_law 360 rfl) rfl ⟨by omega, by omega⟩ (by omega) (sx_e xs _) ?_
  refine v_aload_n (dec_of DL_law 361 rfl) rfl ?_
  refine v_iload_n (dec_of DL_law 362 rfl) rfl ?_
  refine vi_const (dec_of DL_law 363 rfl) ?_
  refine vi_add (dec_of DL_law 364 rfl) ?_
  refine vi_sald (N := L) (f := xs) (dec_of DL_law 365 rfl) rfl ⟨by omega, by omega⟩ (by omega) (sx_e xs _) ?_
  refine v_aload_n (dec_of DL_law 366 rfl) rfl ?_
  refine v_iload_n (dec_of DL_law 367 rfl) rfl ?_
  refine vi_const (dec_of DL_law 368 rfl) ?_
  refine vi_add (dec_of DL_law 369 rfl) ?_
  refine vi_sald (N := L) (f := xs) (dec_of DL_law 370 rfl) rfl ⟨by omega, by omega⟩ (by omega) (sx_e xs _) ?_
  refine v_V3p q2 lL_78 (dec_of DL_law 371 rfl) rfl rfl ⟨by decide, by decide, hc, hs⟩ (nle rfl) rfl ?_
  intro w2 r2 q3
  obtain ⟨rfl, K', G', rfl, hg'⟩ := q3
  refine Vd_n (st' := [J v, J v]) rfl rfl ?_
  exact vi_icmp_eq (tgt := 630) (dec_of DL_law 372 rfl) (by decide) hv hv (fun _ => nxt _ _ _ _ _ hg') (fun z => absurd rfl z)
set_option maxRecDepth 100000 in
set_option maxHeartbeats 4000000 in
theorem law_write {nm : String} {L : Nat} {xs : Nat → Int32} (hL : L ≤ 3072) {n0 : Nat} {Z : XW → Option Value → Prop} {ca sl : Nat} (hc : ca ≤ 600000) (hs : sl ≤ 7302250) {i : Int} (h0 : 0 ≤ i) (h6 : i ≤ (L : Int) - 6) (nxt : ∀ (I N : Nat → Int) (F : Nat → Int → Int) (K : Nat → Int) (G : Nat → Int → Int), GI I N F K G → Vd RM [(L, xs)] (mLaw nm) n0 Z ca sl 630 [some (.ref (SB + 4)), some (.ref 0), some (.ref 31), some (J i)] [] (W2 I N F K G)) {I N : Nat → Int} {F : Nat → Int → Int} {K : Nat → Int} {G : Nat → Int → Int} (hg : GI I N F K G) : Vd RM [(L, xs)] (mLaw nm) n0 Z ca sl 571 [some (.ref (SB + 4)), some (.ref 0), some (.ref 31), some (J i)] [] (W2 I N F K G) := by
  refine v_aload_n (dec_of DL_law 375 rfl) rfl ?_
  refine v_V0p (pr_write hg) lL_79 (dec_of DL_law 376 rfl) rfl rfl ⟨by decide, by decide, hc, hs⟩ (nle rfl) rfl ?_
  intro w1 r1 q1
  obtain ⟨I', N', F', v, rfl, rfl, hv, q2⟩ := q1
  refine Vd_n (st' := [J v]) rfl rfl ?_
  refine v_aload_n (dec_of DL_law 377 rfl) rfl ?_
  refine v_V0p q2 lL_82 (dec_of DL_law 378 rfl) rfl rfl ⟨by decide, by decide, hc, hs⟩ (nle rfl) rfl ?_
  intro w2 r2 q3
  obtain ⟨rfl, K', G', rfl, hg'⟩ := q3
  refine Vd_n (st' := [J v, J v]) rfl rfl ?_
  exact vi_icmp_eq (tgt := 630) (dec_of DL_law 379 rfl) (by decide) hv hv (fun _ => nxt _ _ _ _ _ hg') (fun z => absurd rfl z)
set_option maxRecDepth 100000 in
set_option maxHeartbeats 4000000 in
theorem law_at {nm : String} {L : Nat} {xs : Nat → Int32} (hL : L ≤ 3072) {n0 : Nat} {Z : XW → Option Value → Prop} {ca sl : Nat} (hc : ca ≤ 600000) (hs : sl ≤ 7302250) {i : Int} (h0 : 0 ≤ i) (h6 : i ≤ (L : Int) - 6) (nxt : ∀ (I N : Nat → Int) (F : Nat → Int → Int) (K : Nat → Int) (G : Nat → Int → Int), GI I N F K G → Vd RM [(L, xs)] (mLaw nm) n0 Z ca sl 630 [some (.ref (SB + 4)), some (.ref 0), some (.ref 31), some (J i)] [] (W2 I N F K G)) {I N : Nat → Int} {F : Nat → Int → Int} {K : Nat → Int} {G : Nat → Int → Int} (hg : GI I N F K G) : Vd RM [(L, xs)] (mLaw nm) n0 Z ca sl 584 [some (.ref (SB + 4)), some (.ref 0), some (.ref 31), some (J i)] [] (W2 I N F K G) := by
  refine v_aload_n (dec_of DL_law 382 rfl) rfl ?_
  refine v_aload_n (dec_of DL_law 383 rfl) rfl ?_
  refine v_iload_n (dec_of DL_law 384 rfl) rfl ?_
  refine vi_const (dec_of DL_law 385 rfl) ?_
  refine vi_add (dec_of DL_law 386 rfl) ?_
  refine vi_sald (N := L) (f := xs) (dec_of DL_law 387 rfl) rfl ⟨by omega, by omega⟩ (by omega) (sx_e xs _) ?_
  refine v_V1p (pr_at hg (sx_r _ _)) lL_83 (dec_of DL_law 388 rfl) rfl rfl ⟨by decide, by decide, hc, hs⟩ (nle rfl) rfl ?_
  intro w1 r1 q1
  obtain ⟨I', N', F', v, rfl, rfl, hv, q2⟩ := q1
  refine Vd_n (st' := [J v]) rfl rfl ?_
  refine v_aload_n (dec_of DL_law 389 rfl) rfl ?_
  refine v_aload_n (dec_of DL_law 390 rfl) rfl ?_
  refine v_iload_n (dec_of DL_law 391 rfl) rfl ?_
  refine vi_const (dec_of DL_law 392 rfl) ?_
  refine vi_add (dec_of DL_law 393 rfl) ?_
  refine vi_sald (N := L) (f := xs) (dec_of DL_law 394 rfl) rfl ⟨by omega, by omega⟩ (by omega) (sx_e xs _) ?_
  refine v_V1p q2 lL_86 (dec_of DL_law 395 rfl) rfl rfl ⟨by decide, by decide, hc, hs⟩ (nle rfl) rfl ?_
  intro w2 r2 q3
  obtain ⟨rfl, K', G', rfl, hg'⟩ := q3
  refine Vd_n (st' := [J v, J v]) rfl rfl ?_
  exact vi_icmp_eq (tgt := 630) (dec_of DL_law 396 rfl) (by decide) hv hv (fun _ => nxt _ _ _ _ _ hg') (fun z => absurd rfl z)
set_option maxRecDepth 100000 in
set_option maxHeartbeats 4000000 in
theorem law_count {nm : String} {L : Nat} {xs : Nat → Int32} (hL : L ≤ 3072) {n0 : Nat} {Z : XW → Option Value → Prop} {ca sl : Nat} (hc : ca ≤ 600000) (hs : sl ≤ 7302250) {i : Int} (h0 : 0 ≤ i) (h6 : i ≤ (L : Int) - 6) (nxt : ∀ (I N : Nat → Int) (F : Nat → Int → Int) (K : Nat → Int) (G : Nat → Int → Int), GI I N F K G → Vd RM [(L, xs)] (mLaw nm) n0 Z ca sl 630 [some (.ref (SB + 4)), some (.ref 0), some (.ref 31), some (J i)] [] (W2 I N F K G)) {I N : Nat → Int} {F : Nat → Int → Int} {K : Nat → Int} {G : Nat → Int → Int} (hg : GI I N F K G) : Vd RM [(L, xs)] (mLaw nm) n0 Z ca sl 607 [some (.ref (SB + 4)), some (.ref 0), some (.ref 31), some (J i)] [] (W2 I N F K G) := by
  refine v_aload_n (dec_of DL_law 399 rfl) rfl ?_
  refine v_aload_n (dec_of DL_law 400 rfl) rfl ?_
  refine v_iload_n (dec_of DL_law 401 rfl) rfl ?_
  refine vi_const (dec_of DL_law 402 rfl) ?_
  refine vi_add (dec_of DL_law 403 rfl) ?_
  refine vi_sald (N := L) (f := xs) (dec_of DL_law 404 rfl) rfl ⟨by omega, by omega⟩ (by omega) (sx_e xs _) ?_
  refine v_V1p (pr_count hg (sx_r _ _)) lL_87 (dec_of DL_law 405 rfl) rfl rfl ⟨by decide, by decide, hc, hs⟩ (nle rfl) rfl ?_
  intro w1 r1 q1
  obtain ⟨I', N', F', v, rfl, rfl, hv, q2⟩ := q1
  refine Vd_n (st' := [J v]) rfl rfl ?_
  refine v_aload_n (dec_of DL_law 406 rfl) rfl ?_
  refine v_aload_n (dec_of DL_law 407 rfl) rfl ?_
  refine v_iload_n (dec_of DL_law 408 rfl) rfl ?_
  refine vi_const (dec_of DL_law 409 rfl) ?_
  refine vi_add (dec_of DL_law 410 rfl) ?_
  refine vi_sald (N := L) (f := xs) (dec_of DL_law 411 rfl) rfl ⟨by omega, by omega⟩ (by omega) (sx_e xs _) ?_
  refine v_V1p q2 lL_90 (dec_of DL_law 412 rfl) rfl rfl ⟨by decide, by decide, hc, hs⟩ (nle rfl) rfl ?_
  intro w2 r2 q3
  obtain ⟨rfl, K', G', rfl, hg'⟩ := q3
  refine Vd_n (st' := [J v, J v]) rfl rfl ?_
  exact vi_icmp_eq (tgt := 630) (dec_of DL_law 413 rfl) (by decide) hv hv (fun _ => nxt _ _ _ _ _ hg') (fun z => absurd rfl z)
set_option maxRecDepth 100000 in
set_option maxHeartbeats 4000000 in
theorem law_switch {nm : String} {L : Nat} {xs : Nat → Int32} (hL : L ≤ 3072) {n0 : Nat} {Z : XW → Option Value → Prop} {ca sl : Nat} (hc : ca ≤ 600000) (hs : sl ≤ 7302250) {i : Int} (h0 : 0 ≤ i) (h6 : i ≤ (L : Int) - 6) (nxt : ∀ (I N : Nat → Int) (F : Nat → Int → Int) (K : Nat → Int) (G : Nat → Int → Int), GI I N F K G → Vd RM [(L, xs)] (mLaw nm) n0 Z ca sl 630 [some (.ref (SB + 4)), some (.ref 0), some (.ref 31), some (J i)] [] (W2 I N F K G)) {I N : Nat → Int} {F : Nat → Int → Int} {K : Nat → Int} {G : Nat → Int → Int} (hg : GI I N F K G) {t : Int} (ht : 0 ≤ t ∧ t ≤ 31) : Vd RM [(L, xs)] (mLaw nm) n0 Z ca sl 33 [some (.ref (SB + 4)), some (.ref 0), some (.ref 31), some (J i)] [J t] (W2 I N F K G) := by
  by_cases t0 : t = 0
  · subst t0
    exact v_tableIn (off := 87) (tgt := 120) (dec_of DL_law 21 rfl) (by decide) (by decide) rfl (by decide) (law_feed hL hc hs h0 h6 nxt hg)
  by_cases t1 : t = 1
  · subst t1
    exact v_tableIn (off := 150) (tgt := 183) (dec_of DL_law 21 rfl) (by decide) (by decide) rfl (by decide) (law_end hL hc hs h0 h6 nxt hg)
  by_cases t2 : t = 2
  · subst t2
    exact v_tableIn (off := 173) (tgt := 206) (dec_of DL_law 21 rfl) (by decide) (by decide) rfl (by decide) (law_read hL hc hs h0 h6 nxt hg)
  by_cases t3 : t = 3
  · subst t3
    exact v_tableIn (off := 186) (tgt := 219) (dec_of DL_law 21 rfl) (by decide) (by decide) rfl (by decide) (law_place hL hc hs h0 h6 nxt hg)
  by_cases t4 : t = 4
  · subst t4
    exact v_tableIn (off := 199) (tgt := 232) (dec_of DL_law 21 rfl) (by decide) (by decide) rfl (by decide) (law_syllable hL hc hs h0 h6 nxt hg)
  by_cases t5 : t = 5
  · subst t5
    exact v_tableIn (off := 232) (tgt := 265) (dec_of DL_law 21 rfl) (by decide) (by decide) rfl (by decide) (law_note hL hc hs h0 h6 nxt hg)
  by_cases t6 : t = 6
  · subst t6
    exact v_tableIn (off := 265) (tgt := 298) (dec_of DL_law 21 rfl) (by decide) (by decide) rfl (by decide) (law_neume hL hc hs h0 h6 nxt hg)
  by_cases t7 : t = 7
  · subst t7
    exact v_tableIn (off := 298) (tgt := 331) (dec_of DL_law 21 rfl) (by decide) (by decide) rfl (by decide) (law_bar hL hc hs h0 h6 nxt hg)
  by_cases t8 : t = 8
  · subst t8
    exact v_tableIn (off := 331) (tgt := 364) (dec_of DL_law 21 rfl) (by decide) (by decide) rfl (by decide) (law_guide hL hc hs h0 h6 nxt hg)
  by_cases t9 : t = 9
  · subst t9
    exact v_tableIn (off := 354) (tgt := 387) (dec_of DL_law 21 rfl) (by decide) (by decide) rfl (by decide) (law_mode hL hc hs h0 h6 nxt hg)
  by_cases t10 : t = 10
  · subst t10
    exact v_tableIn (off := 377) (tgt := 410) (dec_of DL_law 21 rfl) (by decide) (by decide) rfl (by decide) (law_tone hL hc hs h0 h6 nxt hg)
  by_cases t11 : t = 11
  · subst t11
    exact v_tableIn (off := 400) (tgt := 433) (dec_of DL_law 21 rfl) (by decide) (by decide) rfl (by decide) (law_point hL hc hs h0 h6 nxt hg)
  by_cases t12 : t = 12
  · subst t12
    exact v_tableIn (off := 449) (tgt := 482) (dec_of DL_law 21 rfl) (by decide) (by decide) rfl (by decide) (law_fresh hL hc hs h0 h6 nxt hg)
  by_cases t13 : t = 13
  · subst t13
    exact v_tableIn (off := 462) (tgt := 495) (dec_of DL_law 21 rfl) (by decide) (by decide) rfl (by decide) (law_half hL hc hs h0 h6 nxt hg)
  by_cases t14 : t = 14
  · subst t14
    exact v_tableIn (off := 495) (tgt := 528) (dec_of DL_law 21 rfl) (by decide) (by decide) rfl (by decide) (law_sung hL hc hs h0 h6 nxt hg)
  by_cases t15 : t = 15
  · subst t15
    exact v_tableIn (off := 538) (tgt := 571) (dec_of DL_law 21 rfl) (by decide) (by decide) rfl (by decide) (law_write hL hc hs h0 h6 nxt hg)
  by_cases t16 : t = 16
  · subst t16
    exact v_tableIn (off := 551) (tgt := 584) (dec_of DL_law 21 rfl) (by decide) (by decide) rfl (by decide) (law_at hL hc hs h0 h6 nxt hg)
  by_cases t17 : t = 17
  · subst t17
    exact v_tableIn (off := 574) (tgt := 607) (dec_of DL_law 21 rfl) (by decide) (by decide) rfl (by decide) (law_count hL hc hs h0 h6 nxt hg)
  refine v_tableOut (tgt := 630) (dec_of DL_law 21 rfl) (by rw [iI_toInt (by omega)]; omega) (by decide) (nxt _ _ _ _ _ hg)
set_option maxRecDepth 100000 in
set_option maxHeartbeats 4000000 in
theorem law_loop {nm : String} {L : Nat} {xs : Nat → Int32} (hL : L ≤ 3072) {n0 : Nat} {Z : XW → Option Value → Prop} (hz : ∀ w : XW, Z w (some (J 1))) {ca sl : Nat} (hc : ca ≤ 600000) (hs : sl ≤ 7302250) : ∀ (m : Nat) (i : Int) (I N : Nat → Int) (F : Nat → Int → Int) (K : Nat → Int) (G : Nat → Int → Int), (L : Int) - i ≤ m → 0 ≤ i → i ≤ 4000 → GI I N F K G → Vd RM [(L, xs)] (mLaw nm) n0 Z ca sl 18 [some (.ref (SB + 4)), some (.ref 0), some (.ref 31), some (J i)] [] (W2 I N F K G) := by
  intro m
  induction m with
  | zero =>
    intro i I N F K G hm h0 h4 hg
    refine v_iload_n (dec_of DL_law 10 rfl) rfl ?_
    refine v_aload_n (dec_of DL_law 11 rfl) rfl ?_
    refine vi_slen (N := L) (f := xs) (dec_of DL_law 12 rfl) rfl ?_
    refine vi_bi (dec_of DL_law 13 rfl) (by decide) ?_
    refine vi_sub (dec_of DL_law 14 rfl) ?_
    refine vi_icmp_gt (tgt := 636) (dec_of DL_law 15 rfl) (by decide) (by omega) (by omega) (fun _ => ?_) (fun z => absurd z (by omega))
    refine vi_const (dec_of DL_law 418 rfl) ?_
    exact vi_retz (dec_of DL_law 419 rfl) rfl (Or.inr rfl) ⟨hc, hs⟩ (hz _)
  | succ m ih =>
    intro i I N F K G hm h0 h4 hg
    refine v_iload_n (dec_of DL_law 10 rfl) rfl ?_
    refine v_aload_n (dec_of DL_law 11 rfl) rfl ?_
    refine vi_slen (N := L) (f := xs) (dec_of DL_law 12 rfl) rfl ?_
    refine vi_bi (dec_of DL_law 13 rfl) (by decide) ?_
    refine vi_sub (dec_of DL_law 14 rfl) ?_
    refine vi_icmp_gt (tgt := 636) (dec_of DL_law 15 rfl) (by decide) (by omega) (by omega) (fun _ => ?_) (fun c24 => ?_)
    · refine vi_const (dec_of DL_law 418 rfl) ?_
      exact vi_retz (dec_of DL_law 419 rfl) rfl (Or.inr rfl) ⟨hc, hs⟩ (hz _)
    · have nxt : ∀ (I N : Nat → Int) (F : Nat → Int → Int) (K : Nat → Int) (G : Nat → Int → Int), GI I N F K G → Vd RM [(L, xs)] (mLaw nm) n0 Z ca sl 630 [some (.ref (SB + 4)), some (.ref 0), some (.ref 31), some (J i)] [] (W2 I N F K G) := by
        intro I N F K G hg
        refine vi_inc (dec_of DL_law 416 rfl) rfl (by show 3 < 4; decide) ?_
        dsimp only [List.set]
        refine v_goto (tgt := 18) (dec_of DL_law 417 rfl) (by decide) ?_
        exact ih (i + 6) I N F K G (by omega) (by omega) (by omega) hg
      refine v_aload_n (dec_of DL_law 16 rfl) rfl ?_
      refine v_iload_n (dec_of DL_law 17 rfl) rfl ?_
      refine vi_sald (N := L) (f := xs) (dec_of DL_law 18 rfl) rfl ⟨by omega, by omega⟩ (by omega) (sx_e xs _) ?_
      refine vi_bi (dec_of DL_law 19 rfl) (by decide) ?_
      refine vi_and (dec_of DL_law 20 rfl) ?_
      exact law_switch hL hc hs h0 (by omega) nxt hg (b31 _)
set_option maxRecDepth 100000 in
set_option maxHeartbeats 4000000 in
theorem law_body {nm : String} {L : Nat} {xs : Nat → Int32} (hL : L ≤ 3072) {Z : XW → Option Value → Prop} (hz : ∀ w : XW, Z w (some (J 1))) (hg : GI I00 N00 F00 K00 G00) : Vd RM [(L, xs)] (mLaw nm) 0 Z 0 0 0 [some (.ref (SB + 4)), none, none, none] [] [] := by
  refine v_new (fs := [.null, .null, .null, .null, .null, J 0]) nL_7 (dec_of DL_law 0 rfl) dfX8 (fun _ => rfl) rfl (by decide) ⟨by decide, by decide⟩ rfl ?_
  refine Vd_n (st' := [.ref 0]) (w' := [.inr (5, [.null, .null, .null, .null, .null, J 0])]) rfl rfl ?_
  refine v_dup (dec_of DL_law 1 rfl) rfl ?_
  refine v_callI (As := []) lL_9 (dec_of DL_law 2 rfl) rfl c_cn rfl rfl ⟨by decide, by decide, by decide, by decide⟩ (nle rfl) rfl ?_
  intro w' r' q _
  obtain ⟨rfl, rfl⟩ := q
  refine Vd_n (st' := [.ref 0]) (w' := cls I00 N00 F00) rfl rfl ?_
  refine v_astore_n (dec_of DL_law 3 rfl) (by show 1 < 4; decide) ?_
  dsimp only [List.set]
  refine v_new (fs := [.null, J 0, .null, J 0, .null, .null, .null, .null, .null, .null, J 0, .null, .null, .null, J 0, J 0, .null, .null, .null, .null, J 0, J 0, J 0, J 0, J 0, J 0, J 0, J 0, J 0, J 0, .null, .null, .null, .null, .null, J 0, .null, .null, .null, .null, .null, .null, .null, J 0, .null, .null, .null, .null, J 0, J 0, J 0, J 0, .null, .null, .null, J 0]) nL_10 (dec_of DL_law 4 rfl) dfX9 (fun _ => rfl) rfl (by decide) ⟨by decide, by decide⟩ rfl ?_
  refine Vd_n (st' := [.ref 31]) (w' := cls I00 N00 F00 ++ [.inr (6, [.null, J 0, .null, J 0, .null, .null, .null, .null, .null, .null, J 0, .null, .null, .null, J 0, J 0, .null, .null, .null, .null, J 0, J 0, J 0, J 0, J 0, J 0, J 0, J 0, J 0, J 0, .null, .null, .null, .null, .null, J 0, .null, .null, .null, .null, .null, .null, .null, J 0, .null, .null, .null, .null, J 0, J 0, J 0, J 0, .null, .null, .null, J 0])]) rfl rfl ?_
  refine v_dup (dec_of DL_law 5 rfl) rfl ?_
  refine v_callI (As := []) lL_12 (dec_of DL_law 6 rfl) rfl c_md rfl rfl ⟨by decide, by decide, by decide, by decide⟩ (nle rfl) rfl ?_
  intro w' r' q _
  obtain ⟨rfl, rfl⟩ := q
  refine Vd_n (st' := [.ref 31]) (w' := W2 I00 N00 F00 K00 G00) rfl rfl ?_
  refine v_astore_n (dec_of DL_law 7 rfl) (by show 2 < 4; decide) ?_
  dsimp only [List.set]
  refine vi_const (dec_of DL_law 8 rfl) ?_
  refine v_istore_n (dec_of DL_law 9 rfl) (by show 3 < 4; decide) ?_
  dsimp only [List.set]
  exact law_loop hL hz (by decide) (by decide) L 0 _ _ _ _ _ (by omega) (Int.le_refl 0) (by decide) hg
