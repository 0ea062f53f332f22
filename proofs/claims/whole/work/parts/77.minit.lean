/-! the reference's constructor (printed by wip/tools/gen_c18.py) -/
def tabF (t : List Int) (j : Nat) : Nat → Int32 := fun k => if k < j then iI (t.getD k 0) else 0
theorem tabF_0 (t : List Int) : (fun _ => 0 : Nat → Int32) = tabF t 0 := by
  funext k
  unfold tabF
  rw [if_neg (by omega)]
theorem tabF_u (t : List Int) (j : Nat) : upd (tabF t j) j (iI (t.getD j 0)) = tabF t (j + 1) := by
  funext k
  unfold upd tabF
  by_cases c : k = j
  · subst c
    simp
  · by_cases d : k < j
    · simp [c, d, show k < j + 1 by omega]
    · simp [c, d, show ¬ k < j + 1 by omega]
theorem tabF_e (t : List Int) : tabF t t.length = ia (tI t) := by
  funext k
  unfold tabF ia tI
  by_cases c : k < t.length
  · rw [if_pos c]
    simp
  · rw [if_neg c]
    have e : t.getD (k : Int).toNat 0 = 0 := by
      rw [List.getD_eq_getElem?_getD, List.getElem?_eq_none (by simp; omega)]
      rfl
    rw [e]
    rfl
theorem v_tab {R : Room} {ex : List (Nat × (Nat → Int32))} {M : MI} {n0 : Nat} {Z : XW → Option Value → Prop} {ca sl pc pc' : Nat} {ls : List (Option Value)} {st : List Value} {pre : XW} {N : Nat} {x : Int} (t : List Int) (j : Nat) (hd : DcAt M.2.1 pc .iastore 1 pc') (hj : j < N) (hN : N < 10000) (hx : x = t.getD j 0) (k : Vd R ex M n0 Z ca sl pc' ls st (pre ++ [.inl (N, tabF t (j + 1))])) : Vd R ex M n0 Z ca sl pc ls (J x :: J (j : Int) :: .ref pre.length :: st) (pre ++ [.inl (N, tabF t j)]) := by
  subst hx
  have e : (iI (j : Int)).toNatClampNeg = j := by rw [iI_clamp (by omega)]; omega
  refine v_iastore hd at_l (iI_in (by omega) (by omega)) ?_
  refine Vd_w ?_ k
  rw [e, tabF_u]
  exact set_l
set_option maxRecDepth 100000 in
set_option maxHeartbeats 4000000 in
theorem run34_0 {R : Room} {ex : List (Nat × (Nat → Int32))} {n0 : Nat} {Z : XW → Option Value → Prop} {ca sl : Nat} {ls : List (Option Value)} {st : List Value} {pre : XW} (k : Vd R ex mX9_init n0 Z ca sl 210 ls (.ref pre.length :: st) (pre ++ [.inl (7, tabF tab34 7)])) : Vd R ex mX9_init n0 Z ca sl 178 ls (.ref pre.length :: st) (pre ++ [.inl (7, tabF tab34 0)]) := by
  refine v_dup (dec_of DX9_init 84 rfl) rfl ?_
  refine vi_const (dec_of DX9_init 85 rfl) ?_
  refine vi_const (dec_of DX9_init 86 rfl) ?_
  refine v_tab tab34 0 (dec_of DX9_init 87 rfl) (by decide) (by decide) rfl ?_
  refine v_dup (dec_of DX9_init 88 rfl) rfl ?_
  refine vi_const (dec_of DX9_init 89 rfl) ?_
  refine vi_const (dec_of DX9_init 90 rfl) ?_
  refine v_tab tab34 1 (dec_of DX9_init 91 rfl) (by decide) (by decide) rfl ?_
  refine v_dup (dec_of DX9_init 92 rfl) rfl ?_
  refine vi_const (dec_of DX9_init 93 rfl) ?_
  refine vi_const (dec_of DX9_init 94 rfl) ?_
  refine v_tab tab34 2 (dec_of DX9_init 95 rfl) (by decide) (by decide) rfl ?_
  refine v_dup (dec_of DX9_init 96 rfl) rfl ?_
  refine vi_const (dec_of DX9_init 97 rfl) ?_
  refine vi_const (dec_of DX9_init 98 rfl) ?_
  refine v_tab tab34 3 (dec_of DX9_init 99 rfl) (by decide) (by decide) rfl ?_
  refine v_dup (dec_of DX9_init 100 rfl) rfl ?_
  refine vi_const (dec_of DX9_init 101 rfl) ?_
  refine vi_bi (dec_of DX9_init 102 rfl) (by decide) ?_
  refine v_tab tab34 4 (dec_of DX9_init 103 rfl) (by decide) (by decide) rfl ?_
  refine v_dup (dec_of DX9_init 104 rfl) rfl ?_
  refine vi_const (dec_of DX9_init 105 rfl) ?_
  refine vi_bi (dec_of DX9_init 106 rfl) (by decide) ?_
  refine v_tab tab34 5 (dec_of DX9_init 107 rfl) (by decide) (by decide) rfl ?_
  refine v_dup (dec_of DX9_init 108 rfl) rfl ?_
  refine vi_bi (dec_of DX9_init 109 rfl) (by decide) ?_
  refine vi_bi (dec_of DX9_init 110 rfl) (by decide) ?_
  refine v_tab tab34 6 (dec_of DX9_init 111 rfl) (by decide) (by decide) rfl ?_
  exact k
theorem run34 {R : Room} {ex : List (Nat × (Nat → Int32))} {n0 : Nat} {Z : XW → Option Value → Prop} {ca sl : Nat} {ls : List (Option Value)} {st : List Value} {pre : XW} (k : Vd R ex mX9_init n0 Z ca sl 210 ls (.ref pre.length :: st) (pre ++ [.inl (7, ia (tI tab34))])) : Vd R ex mX9_init n0 Z ca sl 178 ls (.ref pre.length :: st) (pre ++ [.inl (7, fun _ => 0)]) := by
  rw [tabF_0 tab34]
  refine run34_0 ?_
  have e : tabF tab34 7 = ia (tI tab34) := tabF_e tab34
  rw [e]
  exact k
set_option maxRecDepth 100000 in
set_option maxHeartbeats 4000000 in
theorem run40_0 {R : Room} {ex : List (Nat × (Nat → Int32))} {n0 : Nat} {Z : XW → Option Value → Prop} {ca sl : Nat} {ls : List (Option Value)} {st : List Value} {pre : XW} (k : Vd R ex mX9_init n0 Z ca sl 339 ls (.ref pre.length :: st) (pre ++ [.inl (15, tabF tab40 15)])) : Vd R ex mX9_init n0 Z ca sl 254 ls (.ref pre.length :: st) (pre ++ [.inl (15, tabF tab40 0)]) := by
  refine v_dup (dec_of DX9_init 132 rfl) rfl ?_
  refine vi_const (dec_of DX9_init 133 rfl) ?_
  refine vi_const (dec_of DX9_init 134 rfl) ?_
  refine v_tab tab40 0 (dec_of DX9_init 135 rfl) (by decide) (by decide) rfl ?_
  refine v_dup (dec_of DX9_init 136 rfl) rfl ?_
  refine vi_const (dec_of DX9_init 137 rfl) ?_
  refine vi_const (dec_of DX9_init 138 rfl) ?_
  refine v_tab tab40 1 (dec_of DX9_init 139 rfl) (by decide) (by decide) rfl ?_
  refine v_dup (dec_of DX9_init 140 rfl) rfl ?_
  refine vi_const (dec_of DX9_init 141 rfl) ?_
  refine vi_const (dec_of DX9_init 142 rfl) ?_
  refine v_tab tab40 2 (dec_of DX9_init 143 rfl) (by decide) (by decide) rfl ?_
  refine v_dup (dec_of DX9_init 144 rfl) rfl ?_
  refine vi_const (dec_of DX9_init 145 rfl) ?_
  refine vi_bi (dec_of DX9_init 146 rfl) (by decide) ?_
  refine v_tab tab40 3 (dec_of DX9_init 147 rfl) (by decide) (by decide) rfl ?_
  refine v_dup (dec_of DX9_init 148 rfl) rfl ?_
  refine vi_const (dec_of DX9_init 149 rfl) ?_
  refine vi_bi (dec_of DX9_init 150 rfl) (by decide) ?_
  refine v_tab tab40 4 (dec_of DX9_init 151 rfl) (by decide) (by decide) rfl ?_
  refine v_dup (dec_of DX9_init 152 rfl) rfl ?_
  refine vi_const (dec_of DX9_init 153 rfl) ?_
  refine vi_bi (dec_of DX9_init 154 rfl) (by decide) ?_
  refine v_tab tab40 5 (dec_of DX9_init 155 rfl) (by decide) (by decide) rfl ?_
  refine v_dup (dec_of DX9_init 156 rfl) rfl ?_
  refine vi_bi (dec_of DX9_init 157 rfl) (by decide) ?_
  refine vi_bi (dec_of DX9_init 158 rfl) (by decide) ?_
  refine v_tab tab40 6 (dec_of DX9_init 159 rfl) (by decide) (by decide) rfl ?_
  refine v_dup (dec_of DX9_init 160 rfl) rfl ?_
  refine vi_bi (dec_of DX9_init 161 rfl) (by decide) ?_
  refine vi_bi (dec_of DX9_init 162 rfl) (by decide) ?_
  refine v_tab tab40 7 (dec_of DX9_init 163 rfl) (by decide) (by decide) rfl ?_
  refine v_dup (dec_of DX9_init 164 rfl) rfl ?_
  refine vi_bi (dec_of DX9_init 165 rfl) (by decide) ?_
  refine vi_bi (dec_of DX9_init 166 rfl) (by decide) ?_
  refine v_tab tab40 8 (dec_of DX9_init 167 rfl) (by decide) (by decide) rfl ?_
  refine v_dup (dec_of DX9_init 168 rfl) rfl ?_
  refine vi_bi (dec_of DX9_init 169 rfl) (by decide) ?_
  refine vi_si (dec_of DX9_init 170 rfl) (by decide) ?_
  refine v_tab tab40 9 (dec_of DX9_init 171 rfl) (by decide) (by decide) rfl ?_
  refine v_dup (dec_of DX9_init 172 rfl) rfl ?_
  refine vi_bi (dec_of DX9_init 173 rfl) (by decide) ?_
  refine vi_bi (dec_of DX9_init 174 rfl) (by decide) ?_
  refine v_tab tab40 10 (dec_of DX9_init 175 rfl) (by decide) (by decide) rfl ?_
  refine v_dup (dec_of DX9_init 176 rfl) rfl ?_
  refine vi_bi (dec_of DX9_init 177 rfl) (by decide) ?_
  refine vi_si (dec_of DX9_init 178 rfl) (by decide) ?_
  refine v_tab tab40 11 (dec_of DX9_init 179 rfl) (by decide) (by decide) rfl ?_
  refine v_dup (dec_of DX9_init 180 rfl) rfl ?_
  refine vi_bi (dec_of DX9_init 181 rfl) (by decide) ?_
  refine vi_bi (dec_of DX9_init 182 rfl) (by decide) ?_
  refine v_tab tab40 12 (dec_of DX9_init 183 rfl) (by decide) (by decide) rfl ?_
  refine v_dup (dec_of DX9_init 184 rfl) rfl ?_
  refine vi_bi (dec_of DX9_init 185 rfl) (by decide) ?_
  refine vi_si (dec_of DX9_init 186 rfl) (by decide) ?_
  refine v_tab tab40 13 (dec_of DX9_init 187 rfl) (by decide) (by decide) rfl ?_
  refine v_dup (dec_of DX9_init 188 rfl) rfl ?_
  refine vi_bi (dec_of DX9_init 189 rfl) (by decide) ?_
  refine vi_si (dec_of DX9_init 190 rfl) (by decide) ?_
  refine v_tab tab40 14 (dec_of DX9_init 191 rfl) (by decide) (by decide) rfl ?_
  exact k
theorem run40 {R : Room} {ex : List (Nat × (Nat → Int32))} {n0 : Nat} {Z : XW → Option Value → Prop} {ca sl : Nat} {ls : List (Option Value)} {st : List Value} {pre : XW} (k : Vd R ex mX9_init n0 Z ca sl 339 ls (.ref pre.length :: st) (pre ++ [.inl (15, ia (tI tab40))])) : Vd R ex mX9_init n0 Z ca sl 254 ls (.ref pre.length :: st) (pre ++ [.inl (15, fun _ => 0)]) := by
  rw [tabF_0 tab40]
  refine run40_0 ?_
  have e : tabF tab40 15 = ia (tI tab40) := tabF_e tab40
  rw [e]
  exact k
set_option maxRecDepth 100000 in
set_option maxHeartbeats 4000000 in
theorem run41_0 {R : Room} {ex : List (Nat × (Nat → Int32))} {n0 : Nat} {Z : XW → Option Value → Prop} {ca sl : Nat} {ls : List (Option Value)} {st : List Value} {pre : XW} (k : Vd R ex mX9_init n0 Z ca sl 377 ls (.ref pre.length :: st) (pre ++ [.inl (7, tabF tab41 7)])) : Vd R ex mX9_init n0 Z ca sl 347 ls (.ref pre.length :: st) (pre ++ [.inl (7, tabF tab41 0)]) := by
  refine v_dup (dec_of DX9_init 196 rfl) rfl ?_
  refine vi_const (dec_of DX9_init 197 rfl) ?_
  refine vi_const (dec_of DX9_init 198 rfl) ?_
  refine v_tab tab41 0 (dec_of DX9_init 199 rfl) (by decide) (by decide) rfl ?_
  refine v_dup (dec_of DX9_init 200 rfl) rfl ?_
  refine vi_const (dec_of DX9_init 201 rfl) ?_
  refine vi_const (dec_of DX9_init 202 rfl) ?_
  refine v_tab tab41 1 (dec_of DX9_init 203 rfl) (by decide) (by decide) rfl ?_
  refine v_dup (dec_of DX9_init 204 rfl) rfl ?_
  refine vi_const (dec_of DX9_init 205 rfl) ?_
  refine vi_const (dec_of DX9_init 206 rfl) ?_
  refine v_tab tab41 2 (dec_of DX9_init 207 rfl) (by decide) (by decide) rfl ?_
  refine v_dup (dec_of DX9_init 208 rfl) rfl ?_
  refine vi_const (dec_of DX9_init 209 rfl) ?_
  refine vi_const (dec_of DX9_init 210 rfl) ?_
  refine v_tab tab41 3 (dec_of DX9_init 211 rfl) (by decide) (by decide) rfl ?_
  refine v_dup (dec_of DX9_init 212 rfl) rfl ?_
  refine vi_const (dec_of DX9_init 213 rfl) ?_
  refine vi_bi (dec_of DX9_init 214 rfl) (by decide) ?_
  refine v_tab tab41 4 (dec_of DX9_init 215 rfl) (by decide) (by decide) rfl ?_
  refine v_dup (dec_of DX9_init 216 rfl) rfl ?_
  refine vi_const (dec_of DX9_init 217 rfl) ?_
  refine vi_const (dec_of DX9_init 218 rfl) ?_
  refine v_tab tab41 5 (dec_of DX9_init 219 rfl) (by decide) (by decide) rfl ?_
  refine v_dup (dec_of DX9_init 220 rfl) rfl ?_
  refine vi_bi (dec_of DX9_init 221 rfl) (by decide) ?_
  refine vi_const (dec_of DX9_init 222 rfl) ?_
  refine v_tab tab41 6 (dec_of DX9_init 223 rfl) (by decide) (by decide) rfl ?_
  exact k
theorem run41 {R : Room} {ex : List (Nat × (Nat → Int32))} {n0 : Nat} {Z : XW → Option Value → Prop} {ca sl : Nat} {ls : List (Option Value)} {st : List Value} {pre : XW} (k : Vd R ex mX9_init n0 Z ca sl 377 ls (.ref pre.length :: st) (pre ++ [.inl (7, ia (tI tab41))])) : Vd R ex mX9_init n0 Z ca sl 347 ls (.ref pre.length :: st) (pre ++ [.inl (7, fun _ => 0)]) := by
  rw [tabF_0 tab41]
  refine run41_0 ?_
  have e : tabF tab41 7 = ia (tI tab41) := tabF_e tab41
  rw [e]
  exact k
set_option maxRecDepth 100000 in
set_option maxHeartbeats 4000000 in
theorem run42_0 {R : Room} {ex : List (Nat × (Nat → Int32))} {n0 : Nat} {Z : XW → Option Value → Prop} {ca sl : Nat} {ls : List (Option Value)} {st : List Value} {pre : XW} (k : Vd R ex mX9_init n0 Z ca sl 424 ls (.ref pre.length :: st) (pre ++ [.inl (9, tabF tab42 9)])) : Vd R ex mX9_init n0 Z ca sl 385 ls (.ref pre.length :: st) (pre ++ [.inl (9, tabF tab42 0)]) := by
  refine v_dup (dec_of DX9_init 228 rfl) rfl ?_
  refine vi_const (dec_of DX9_init 229 rfl) ?_
  refine vi_const (dec_of DX9_init 230 rfl) ?_
  refine v_tab tab42 0 (dec_of DX9_init 231 rfl) (by decide) (by decide) rfl ?_
  refine v_dup (dec_of DX9_init 232 rfl) rfl ?_
  refine vi_const (dec_of DX9_init 233 rfl) ?_
  refine vi_const (dec_of DX9_init 234 rfl) ?_
  refine v_tab tab42 1 (dec_of DX9_init 235 rfl) (by decide) (by decide) rfl ?_
  refine v_dup (dec_of DX9_init 236 rfl) rfl ?_
  refine vi_const (dec_of DX9_init 237 rfl) ?_
  refine vi_const (dec_of DX9_init 238 rfl) ?_
  refine v_tab tab42 2 (dec_of DX9_init 239 rfl) (by decide) (by decide) rfl ?_
  refine v_dup (dec_of DX9_init 240 rfl) rfl ?_
  refine vi_const (dec_of DX9_init 241 rfl) ?_
  refine vi_const (dec_of DX9_init 242 rfl) ?_
  refine v_tab tab42 3 (dec_of DX9_init 243 rfl) (by decide) (by decide) rfl ?_
  refine v_dup (dec_of DX9_init 244 rfl) rfl ?_
  refine vi_const (dec_of DX9_init 245 rfl) ?_
  refine vi_const (dec_of DX9_init 246 rfl) ?_
  refine v_tab tab42 4 (dec_of DX9_init 247 rfl) (by decide) (by decide) rfl ?_
  refine v_dup (dec_of DX9_init 248 rfl) rfl ?_
  refine vi_const (dec_of DX9_init 249 rfl) ?_
  refine vi_const (dec_of DX9_init 250 rfl) ?_
  refine v_tab tab42 5 (dec_of DX9_init 251 rfl) (by decide) (by decide) rfl ?_
  refine v_dup (dec_of DX9_init 252 rfl) rfl ?_
  refine vi_bi (dec_of DX9_init 253 rfl) (by decide) ?_
  refine vi_const (dec_of DX9_init 254 rfl) ?_
  refine v_tab tab42 6 (dec_of DX9_init 255 rfl) (by decide) (by decide) rfl ?_
  refine v_dup (dec_of DX9_init 256 rfl) rfl ?_
  refine vi_bi (dec_of DX9_init 257 rfl) (by decide) ?_
  refine vi_const (dec_of DX9_init 258 rfl) ?_
  refine v_tab tab42 7 (dec_of DX9_init 259 rfl) (by decide) (by decide) rfl ?_
  refine v_dup (dec_of DX9_init 260 rfl) rfl ?_
  refine vi_bi (dec_of DX9_init 261 rfl) (by decide) ?_
  refine vi_const (dec_of DX9_init 262 rfl) ?_
  refine v_tab tab42 8 (dec_of DX9_init 263 rfl) (by decide) (by decide) rfl ?_
  exact k
theorem run42 {R : Room} {ex : List (Nat × (Nat → Int32))} {n0 : Nat} {Z : XW → Option Value → Prop} {ca sl : Nat} {ls : List (Option Value)} {st : List Value} {pre : XW} (k : Vd R ex mX9_init n0 Z ca sl 424 ls (.ref pre.length :: st) (pre ++ [.inl (9, ia (tI tab42))])) : Vd R ex mX9_init n0 Z ca sl 385 ls (.ref pre.length :: st) (pre ++ [.inl (9, fun _ => 0)]) := by
  rw [tabF_0 tab42]
  refine run42_0 ?_
  have e : tabF tab42 9 = ia (tI tab42) := tabF_e tab42
  rw [e]
  exact k
set_option maxRecDepth 100000 in
set_option maxHeartbeats 4000000 in
theorem run46_0 {R : Room} {ex : List (Nat × (Nat → Int32))} {n0 : Nat} {Z : XW → Option Value → Prop} {ca sl : Nat} {ls : List (Option Value)} {st : List Value} {pre : XW} (k : Vd R ex mX9_init n0 Z ca sl 531 ls (.ref pre.length :: st) (pre ++ [.inl (16, tabF tab46 16)])) : Vd R ex mX9_init n0 Z ca sl 447 ls (.ref pre.length :: st) (pre ++ [.inl (16, tabF tab46 0)]) := by
  refine v_dup (dec_of DX9_init 276 rfl) rfl ?_
  refine vi_const (dec_of DX9_init 277 rfl) ?_
  refine vi_bi (dec_of DX9_init 278 rfl) (by decide) ?_
  refine v_tab tab46 0 (dec_of DX9_init 279 rfl) (by decide) (by decide) rfl ?_
  refine v_dup (dec_of DX9_init 280 rfl) rfl ?_
  refine vi_const (dec_of DX9_init 281 rfl) ?_
  refine vi_const (dec_of DX9_init 282 rfl) ?_
  refine v_tab tab46 1 (dec_of DX9_init 283 rfl) (by decide) (by decide) rfl ?_
  refine v_dup (dec_of DX9_init 284 rfl) rfl ?_
  refine vi_const (dec_of DX9_init 285 rfl) ?_
  refine vi_bi (dec_of DX9_init 286 rfl) (by decide) ?_
  refine v_tab tab46 2 (dec_of DX9_init 287 rfl) (by decide) (by decide) rfl ?_
  refine v_dup (dec_of DX9_init 288 rfl) rfl ?_
  refine vi_const (dec_of DX9_init 289 rfl) ?_
  refine vi_const (dec_of DX9_init 290 rfl) ?_
  refine v_tab tab46 3 (dec_of DX9_init 291 rfl) (by decide) (by decide) rfl ?_
  refine v_dup (dec_of DX9_init 292 rfl) rfl ?_
  refine vi_const (dec_of DX9_init 293 rfl) ?_
  refine vi_bi (dec_of DX9_init 294 rfl) (by decide) ?_
  refine v_tab tab46 4 (dec_of DX9_init 295 rfl) (by decide) (by decide) rfl ?_
  refine v_dup (dec_of DX9_init 296 rfl) rfl ?_
  refine vi_const (dec_of DX9_init 297 rfl) ?_
  refine vi_const (dec_of DX9_init 298 rfl) ?_
  refine v_tab tab46 5 (dec_of DX9_init 299 rfl) (by decide) (by decide) rfl ?_
  refine v_dup (dec_of DX9_init 300 rfl) rfl ?_
  refine vi_bi (dec_of DX9_init 301 rfl) (by decide) ?_
  refine vi_const (dec_of DX9_init 302 rfl) ?_
  refine v_tab tab46 6 (dec_of DX9_init 303 rfl) (by decide) (by decide) rfl ?_
  refine v_dup (dec_of DX9_init 304 rfl) rfl ?_
  refine vi_bi (dec_of DX9_init 305 rfl) (by decide) ?_
  refine vi_bi (dec_of DX9_init 306 rfl) (by decide) ?_
  refine v_tab tab46 7 (dec_of DX9_init 307 rfl) (by decide) (by decide) rfl ?_
  refine v_dup (dec_of DX9_init 308 rfl) rfl ?_
  refine vi_bi (dec_of DX9_init 309 rfl) (by decide) ?_
  refine vi_bi (dec_of DX9_init 310 rfl) (by decide) ?_
  refine v_tab tab46 8 (dec_of DX9_init 311 rfl) (by decide) (by decide) rfl ?_
  refine v_dup (dec_of DX9_init 312 rfl) rfl ?_
  refine vi_bi (dec_of DX9_init 313 rfl) (by decide) ?_
  refine vi_bi (dec_of DX9_init 314 rfl) (by decide) ?_
  refine v_tab tab46 9 (dec_of DX9_init 315 rfl) (by decide) (by decide) rfl ?_
  refine v_dup (dec_of DX9_init 316 rfl) rfl ?_
  refine vi_bi (dec_of DX9_init 317 rfl) (by decide) ?_
  refine vi_bi (dec_of DX9_init 318 rfl) (by decide) ?_
  refine v_tab tab46 10 (dec_of DX9_init 319 rfl) (by decide) (by decide) rfl ?_
  refine v_dup (dec_of DX9_init 320 rfl) rfl ?_
  refine vi_bi (dec_of DX9_init 321 rfl) (by decide) ?_
  refine vi_const (dec_of DX9_init 322 rfl) ?_
  refine v_tab tab46 11 (dec_of DX9_init 323 rfl) (by decide) (by decide) rfl ?_
  refine v_dup (dec_of DX9_init 324 rfl) rfl ?_
  refine vi_bi (dec_of DX9_init 325 rfl) (by decide) ?_
  refine vi_const (dec_of DX9_init 326 rfl) ?_
  refine v_tab tab46 12 (dec_of DX9_init 327 rfl) (by decide) (by decide) rfl ?_
  refine v_dup (dec_of DX9_init 328 rfl) rfl ?_
  refine vi_bi (dec_of DX9_init 329 rfl) (by decide) ?_
  refine vi_bi (dec_of DX9_init 330 rfl) (by decide) ?_
  refine v_tab tab46 13 (dec_of DX9_init 331 rfl) (by decide) (by decide) rfl ?_
  refine v_dup (dec_of DX9_init 332 rfl) rfl ?_
  refine vi_bi (dec_of DX9_init 333 rfl) (by decide) ?_
  refine vi_bi (dec_of DX9_init 334 rfl) (by decide) ?_
  refine v_tab tab46 14 (dec_of DX9_init 335 rfl) (by decide) (by decide) rfl ?_
  refine v_dup (dec_of DX9_init 336 rfl) rfl ?_
  refine vi_bi (dec_of DX9_init 337 rfl) (by decide) ?_
  refine vi_bi (dec_of DX9_init 338 rfl) (by decide) ?_
  refine v_tab tab46 15 (dec_of DX9_init 339 rfl) (by decide) (by decide) rfl ?_
  exact k
theorem run46 {R : Room} {ex : List (Nat × (Nat → Int32))} {n0 : Nat} {Z : XW → Option Value → Prop} {ca sl : Nat} {ls : List (Option Value)} {st : List Value} {pre : XW} (k : Vd R ex mX9_init n0 Z ca sl 531 ls (.ref pre.length :: st) (pre ++ [.inl (16, ia (tI tab46))])) : Vd R ex mX9_init n0 Z ca sl 447 ls (.ref pre.length :: st) (pre ++ [.inl (16, fun _ => 0)]) := by
  rw [tabF_0 tab46]
  refine run46_0 ?_
  have e : tabF tab46 16 = ia (tI tab46) := tabF_e tab46
  rw [e]
  exact k
set_option maxRecDepth 100000 in
set_option maxHeartbeats 4000000 in
theorem run47_0 {R : Room} {ex : List (Nat × (Nat → Int32))} {n0 : Nat} {Z : XW → Option Value → Prop} {ca sl : Nat} {ls : List (Option Value)} {st : List Value} {pre : XW} (k : Vd R ex mX9_init n0 Z ca sl 739 ls (.ref pre.length :: st) (pre ++ [.inl (144, tabF tab47 40)])) : Vd R ex mX9_init n0 Z ca sl 540 ls (.ref pre.length :: st) (pre ++ [.inl (144, tabF tab47 0)]) := by
  refine v_dup (dec_of DX9_init 344 rfl) rfl ?_
  refine vi_const (dec_of DX9_init 345 rfl) ?_
  refine vi_const (dec_of DX9_init 346 rfl) ?_
  refine v_tab tab47 0 (dec_of DX9_init 347 rfl) (by decide) (by decide) rfl ?_
  refine v_dup (dec_of DX9_init 348 rfl) rfl ?_
  refine vi_const (dec_of DX9_init 349 rfl) ?_
  refine vi_const (dec_of DX9_init 350 rfl) ?_
  refine v_tab tab47 1 (dec_of DX9_init 351 rfl) (by decide) (by decide) rfl ?_
  refine v_dup (dec_of DX9_init 352 rfl) rfl ?_
  refine vi_const (dec_of DX9_init 353 rfl) ?_
  refine vi_const (dec_of DX9_init 354 rfl) ?_
  refine v_tab tab47 2 (dec_of DX9_init 355 rfl) (by decide) (by decide) rfl ?_
  refine v_dup (dec_of DX9_init 356 rfl) rfl ?_
  refine vi_const (dec_of DX9_init 357 rfl) ?_
  refine vi_const (dec_of DX9_init 358 rfl) ?_
  refine v_tab tab47 3 (dec_of DX9_init 359 rfl) (by decide) (by decide) rfl ?_
  refine v_dup (dec_of DX9_init 360 rfl) rfl ?_
  refine vi_const (dec_of DX9_init 361 rfl) ?_
  refine vi_const (dec_of DX9_init 362 rfl) ?_
  refine v_tab tab47 4 (dec_of DX9_init 363 rfl) (by decide) (by decide) rfl ?_
  refine v_dup (dec_of DX9_init 364 rfl) rfl ?_
  refine vi_const (dec_of DX9_init 365 rfl) ?_
  refine vi_const (dec_of DX9_init 366 rfl) ?_
  refine v_tab tab47 5 (dec_of DX9_init 367 rfl) (by decide) (by decide) rfl ?_
  refine v_dup (dec_of DX9_init 368 rfl) rfl ?_
  refine vi_bi (dec_of DX9_init 369 rfl) (by decide) ?_
  refine vi_const (dec_of DX9_init 370 rfl) ?_
  refine v_tab tab47 6 (dec_of DX9_init 371 rfl) (by decide) (by decide) rfl ?_
  refine v_dup (dec_of DX9_init 372 rfl) rfl ?_
  refine vi_bi (dec_of DX9_init 373 rfl) (by decide) ?_
  refine vi_const (dec_of DX9_init 374 rfl) ?_
  refine v_tab tab47 7 (dec_of DX9_init 375 rfl) (by decide) (by decide) rfl ?_
  refine v_dup (dec_of DX9_init 376 rfl) rfl ?_
  refine vi_bi (dec_of DX9_init 377 rfl) (by decide) ?_
  refine vi_const (dec_of DX9_init 378 rfl) ?_
  refine v_tab tab47 8 (dec_of DX9_init 379 rfl) (by decide) (by decide) rfl ?_
  refine v_dup (dec_of DX9_init 380 rfl) rfl ?_
  refine vi_bi (dec_of DX9_init 381 rfl) (by decide) ?_
  refine vi_const (dec_of DX9_init 382 rfl) ?_
  refine v_tab tab47 9 (dec_of DX9_init 383 rfl) (by decide) (by decide) rfl ?_
  refine v_dup (dec_of DX9_init 384 rfl) rfl ?_
  refine vi_bi (dec_of DX9_init 385 rfl) (by decide) ?_
  refine vi_const (dec_of DX9_init 386 rfl) ?_
  refine v_tab tab47 10 (dec_of DX9_init 387 rfl) (by decide) (by decide) rfl ?_
  refine v_dup (dec_of DX9_init 388 rfl) rfl ?_
  refine vi_bi (dec_of DX9_init 389 rfl) (by decide) ?_
  refine vi_bi (dec_of DX9_init 390 rfl) (by decide) ?_
  refine v_tab tab47 11 (dec_of DX9_init 391 rfl) (by decide) (by decide) rfl ?_
  refine v_dup (dec_of DX9_init 392 rfl) rfl ?_
  refine vi_bi (dec_of DX9_init 393 rfl) (by decide) ?_
  refine vi_const (dec_of DX9_init 394 rfl) ?_
  refine v_tab tab47 12 (dec_of DX9_init 395 rfl) (by decide) (by decide) rfl ?_
  refine v_dup (dec_of DX9_init 396 rfl) rfl ?_
  refine vi_bi (dec_of DX9_init 397 rfl) (by decide) ?_
  refine vi_const (dec_of DX9_init 398 rfl) ?_
  refine v_tab tab47 13 (dec_of DX9_init 399 rfl) (by decide) (by decide) rfl ?_
  refine v_dup (dec_of DX9_init 400 rfl) rfl ?_
  refine vi_bi (dec_of DX9_init 401 rfl) (by decide) ?_
  refine vi_const (dec_of DX9_init 402 rfl) ?_
  refine v_tab tab47 14 (dec_of DX9_init 403 rfl) (by decide) (by decide) rfl ?_
  refine v_dup (dec_of DX9_init 404 rfl) rfl ?_
  refine vi_bi (dec_of DX9_init 405 rfl) (by decide) ?_
  refine vi_const (dec_of DX9_init 406 rfl) ?_
  refine v_tab tab47 15 (dec_of DX9_init 407 rfl) (by decide) (by decide) rfl ?_
  refine v_dup (dec_of DX9_init 408 rfl) rfl ?_
  refine vi_bi (dec_of DX9_init 409 rfl) (by decide) ?_
  refine vi_const (dec_of DX9_init 410 rfl) ?_
  refine v_tab tab47 16 (dec_of DX9_init 411 rfl) (by decide) (by decide) rfl ?_
  refine v_dup (dec_of DX9_init 412 rfl) rfl ?_
  refine vi_bi (dec_of DX9_init 413 rfl) (by decide) ?_
  refine vi_bi (dec_of DX9_init 414 rfl) (by decide) ?_
  refine v_tab tab47 17 (dec_of DX9_init 415 rfl) (by decide) (by decide) rfl ?_
  refine v_dup (dec_of DX9_init 416 rfl) rfl ?_
  refine vi_bi (dec_of DX9_init 417 rfl) (by decide) ?_
  refine vi_const (dec_of DX9_init 418 rfl) ?_
  refine v_tab tab47 18 (dec_of DX9_init 419 rfl) (by decide) (by decide) rfl ?_
  refine v_dup (dec_of DX9_init 420 rfl) rfl ?_
  refine vi_bi (dec_of DX9_init 421 rfl) (by decide) ?_
  refine vi_const (dec_of DX9_init 422 rfl) ?_
  refine v_tab tab47 19 (dec_of DX9_init 423 rfl) (by decide) (by decide) rfl ?_
  refine v_dup (dec_of DX9_init 424 rfl) rfl ?_
  refine vi_bi (dec_of DX9_init 425 rfl) (by decide) ?_
  refine vi_const (dec_of DX9_init 426 rfl) ?_
  refine v_tab tab47 20 (dec_of DX9_init 427 rfl) (by decide) (by decide) rfl ?_
  refine v_dup (dec_of DX9_init 428 rfl) rfl ?_
  refine vi_bi (dec_of DX9_init 429 rfl) (by decide) ?_
  refine vi_const (dec_of DX9_init 430 rfl) ?_
  refine v_tab tab47 21 (dec_of DX9_init 431 rfl) (by decide) (by decide) rfl ?_
  refine v_dup (dec_of DX9_init 432 rfl) rfl ?_
  refine vi_bi (dec_of DX9_init 433 rfl) (by decide) ?_
  refine vi_const (dec_of DX9_init 434 rfl) ?_
  refine v_tab tab47 22 (dec_of DX9_init 435 rfl) (by decide) (by decide) rfl ?_
  refine v_dup (dec_of DX9_init 436 rfl) rfl ?_
  refine vi_bi (dec_of DX9_init 437 rfl) (by decide) ?_
  refine vi_const (dec_of DX9_init 438 rfl) ?_
  refine v_tab tab47 23 (dec_of DX9_init 439 rfl) (by decide) (by decide) rfl ?_
  refine v_dup (dec_of DX9_init 440 rfl) rfl ?_
  refine vi_bi (dec_of DX9_init 441 rfl) (by decide) ?_
  refine vi_const (dec_of DX9_init 442 rfl) ?_
  refine v_tab tab47 24 (dec_of DX9_init 443 rfl) (by decide) (by decide) rfl ?_
  refine v_dup (dec_of DX9_init 444 rfl) rfl ?_
  refine vi_bi (dec_of DX9_init 445 rfl) (by decide) ?_
  refine vi_const (dec_of DX9_init 446 rfl) ?_
  refine v_tab tab47 25 (dec_of DX9_init 447 rfl) (by decide) (by decide) rfl ?_
  refine v_dup (dec_of DX9_init 448 rfl) rfl ?_
  refine vi_bi (dec_of DX9_init 449 rfl) (by decide) ?_
  refine vi_const (dec_of DX9_init 450 rfl) ?_
  refine v_tab tab47 26 (dec_of DX9_init 451 rfl) (by decide) (by decide) rfl ?_
  refine v_dup (dec_of DX9_init 452 rfl) rfl ?_
  refine vi_bi (dec_of DX9_init 453 rfl) (by decide) ?_
  refine vi_const (dec_of DX9_init 454 rfl) ?_
  refine v_tab tab47 27 (dec_of DX9_init 455 rfl) (by decide) (by decide) rfl ?_
  refine v_dup (dec_of DX9_init 456 rfl) rfl ?_
  refine vi_bi (dec_of DX9_init 457 rfl) (by decide) ?_
  refine vi_const (dec_of DX9_init 458 rfl) ?_
  refine v_tab tab47 28 (dec_of DX9_init 459 rfl) (by decide) (by decide) rfl ?_
  refine v_dup (dec_of DX9_init 460 rfl) rfl ?_
  refine vi_bi (dec_of DX9_init 461 rfl) (by decide) ?_
  refine vi_const (dec_of DX9_init 462 rfl) ?_
  refine v_tab tab47 29 (dec_of DX9_init 463 rfl) (by decide) (by decide) rfl ?_
  refine v_dup (dec_of DX9_init 464 rfl) rfl ?_
  refine vi_bi (dec_of DX9_init 465 rfl) (by decide) ?_
  refine vi_const (dec_of DX9_init 466 rfl) ?_
  refine v_tab tab47 30 (dec_of DX9_init 467 rfl) (by decide) (by decide) rfl ?_
  refine v_dup (dec_of DX9_init 468 rfl) rfl ?_
  refine vi_bi (dec_of DX9_init 469 rfl) (by decide) ?_
  refine vi_const (dec_of DX9_init 470 rfl) ?_
  refine v_tab tab47 31 (dec_of DX9_init 471 rfl) (by decide) (by decide) rfl ?_
  refine v_dup (dec_of DX9_init 472 rfl) rfl ?_
  refine vi_bi (dec_of DX9_init 473 rfl) (by decide) ?_
  refine vi_const (dec_of DX9_init 474 rfl) ?_
  refine v_tab tab47 32 (dec_of DX9_init 475 rfl) (by decide) (by decide) rfl ?_
  refine v_dup (dec_of DX9_init 476 rfl) rfl ?_
  refine vi_bi (dec_of DX9_init 477 rfl) (by decide) ?_
  refine vi_bi (dec_of DX9_init 478 rfl) (by decide) ?_
  refine v_tab tab47 33 (dec_of DX9_init 479 rfl) (by decide) (by decide) rfl ?_
  refine v_dup (dec_of DX9_init 480 rfl) rfl ?_
  refine vi_bi (dec_of DX9_init 481 rfl) (by decide) ?_
  refine vi_bi (dec_of DX9_init 482 rfl) (by decide) ?_
  refine v_tab tab47 34 (dec_of DX9_init 483 rfl) (by decide) (by decide) rfl ?_
  refine v_dup (dec_of DX9_init 484 rfl) rfl ?_
  refine vi_bi (dec_of DX9_init 485 rfl) (by decide) ?_
  refine vi_bi (dec_of DX9_init 486 rfl) (by decide) ?_
  refine v_tab tab47 35 (dec_of DX9_init 487 rfl) (by decide) (by decide) rfl ?_
  refine v_dup (dec_of DX9_init 488 rfl) rfl ?_
  refine vi_bi (dec_of DX9_init 489 rfl) (by decide) ?_
  refine vi_const (dec_of DX9_init 490 rfl) ?_
  refine v_tab tab47 36 (dec_of DX9_init 491 rfl) (by decide) (by decide) rfl ?_
  refine v_dup (dec_of DX9_init 492 rfl) rfl ?_
  refine vi_bi (dec_of DX9_init 493 rfl) (by decide) ?_
  refine vi_const (dec_of DX9_init 494 rfl) ?_
  refine v_tab tab47 37 (dec_of DX9_init 495 rfl) (by decide) (by decide) rfl ?_
  refine v_dup (dec_of DX9_init 496 rfl) rfl ?_
  refine vi_bi (dec_of DX9_init 497 rfl) (by decide) ?_
  refine vi_const (dec_of DX9_init 498 rfl) ?_
  refine v_tab tab47 38 (dec_of DX9_init 499 rfl) (by decide) (by decide) rfl ?_
  refine v_dup (dec_of DX9_init 500 rfl) rfl ?_
  refine vi_bi (dec_of DX9_init 501 rfl) (by decide) ?_
  refine vi_const (dec_of DX9_init 502 rfl) ?_
  refine v_tab tab47 39 (dec_of DX9_init 503 rfl) (by decide) (by decide) rfl ?_
  exact k
set_option maxRecDepth 100000 in
set_option maxHeartbeats 4000000 in
theorem run47_1 {R : Room} {ex : List (Nat × (Nat → Int32))} {n0 : Nat} {Z : XW → Option Value → Prop} {ca sl : Nat} {ls : List (Option Value)} {st : List Value} {pre : XW} (k : Vd R ex mX9_init n0 Z ca sl 942 ls (.ref pre.length :: st) (pre ++ [.inl (144, tabF tab47 80)])) : Vd R ex mX9_init n0 Z ca sl 739 ls (.ref pre.length :: st) (pre ++ [.inl (144, tabF tab47 40)]) := by
  refine v_dup (dec_of DX9_init 504 rfl) rfl ?_
  refine vi_bi (dec_of DX9_init 505 rfl) (by decide) ?_
  refine vi_const (dec_of DX9_init 506 rfl) ?_
  refine v_tab tab47 40 (dec_of DX9_init 507 rfl) (by decide) (by decide) rfl ?_
  refine v_dup (dec_of DX9_init 508 rfl) rfl ?_
  refine vi_bi (dec_of DX9_init 509 rfl) (by decide) ?_
  refine vi_const (dec_of DX9_init 510 rfl) ?_
  refine v_tab tab47 41 (dec_of DX9_init 511 rfl) (by decide) (by decide) rfl ?_
  refine v_dup (dec_of DX9_init 512 rfl) rfl ?_
  refine vi_bi (dec_of DX9_init 513 rfl) (by decide) ?_
  refine vi_const (dec_of DX9_init 514 rfl) ?_
  refine v_tab tab47 42 (dec_of DX9_init 515 rfl) (by decide) (by decide) rfl ?_
  refine v_dup (dec_of DX9_init 516 rfl) rfl ?_
  refine vi_bi (dec_of DX9_init 517 rfl) (by decide) ?_
  refine vi_const (dec_of DX9_init 518 rfl) ?_
  refine v_tab tab47 43 (dec_of DX9_init 519 rfl) (by decide) (by decide) rfl ?_
  refine v_dup (dec_of DX9_init 520 rfl) rfl ?_
  refine vi_bi (dec_of DX9_init 521 rfl) (by decide) ?_
  refine vi_const (dec_of DX9_init 522 rfl) ?_
  refine v_tab tab47 44 (dec_of DX9_init 523 rfl) (by decide) (by decide) rfl ?_
  refine v_dup (dec_of DX9_init 524 rfl) rfl ?_
  refine vi_bi (dec_of DX9_init 525 rfl) (by decide) ?_
  refine vi_const (dec_of DX9_init 526 rfl) ?_
  refine v_tab tab47 45 (dec_of DX9_init 527 rfl) (by decide) (by decide) rfl ?_
  refine v_dup (dec_of DX9_init 528 rfl) rfl ?_
  refine vi_bi (dec_of DX9_init 529 rfl) (by decide) ?_
  refine vi_const (dec_of DX9_init 530 rfl) ?_
  refine v_tab tab47 46 (dec_of DX9_init 531 rfl) (by decide) (by decide) rfl ?_
  refine v_dup (dec_of DX9_init 532 rfl) rfl ?_
  refine vi_bi (dec_of DX9_init 533 rfl) (by decide) ?_
  refine vi_const (dec_of DX9_init 534 rfl) ?_
  refine v_tab tab47 47 (dec_of DX9_init 535 rfl) (by decide) (by decide) rfl ?_
  refine v_dup (dec_of DX9_init 536 rfl) rfl ?_
  refine vi_bi (dec_of DX9_init 537 rfl) (by decide) ?_
  refine vi_const (dec_of DX9_init 538 rfl) ?_
  refine v_tab tab47 48 (dec_of DX9_init 539 rfl) (by decide) (by decide) rfl ?_
  refine v_dup (dec_of DX9_init 540 rfl) rfl ?_
  refine vi_bi (dec_of DX9_init 541 rfl) (by decide) ?_
  refine vi_const (dec_of DX9_init 542 rfl) ?_
  refine v_tab tab47 49 (dec_of DX9_init 543 rfl) (by decide) (by decide) rfl ?_
  refine v_dup (dec_of DX9_init 544 rfl) rfl ?_
  refine vi_bi (dec_of DX9_init 545 rfl) (by decide) ?_
  refine vi_const (dec_of DX9_init 546 rfl) ?_
  refine v_tab tab47 50 (dec_of DX9_init 547 rfl) (by decide) (by decide) rfl ?_
  refine v_dup (dec_of DX9_init 548 rfl) rfl ?_
  refine vi_bi (dec_of DX9_init 549 rfl) (by decide) ?_
  refine vi_bi (dec_of DX9_init 550 rfl) (by decide) ?_
  refine v_tab tab47 51 (dec_of DX9_init 551 rfl) (by decide) (by decide) rfl ?_
  refine v_dup (dec_of DX9_init 552 rfl) rfl ?_
  refine vi_bi (dec_of DX9_init 553 rfl) (by decide) ?_
  refine vi_bi (dec_of DX9_init 554 rfl) (by decide) ?_
  refine v_tab tab47 52 (dec_of DX9_init 555 rfl) (by decide) (by decide) rfl ?_
  refine v_dup (dec_of DX9_init 556 rfl) rfl ?_
  refine vi_bi (dec_of DX9_init 557 rfl) (by decide) ?_
  refine vi_const (dec_of DX9_init 558 rfl) ?_
  refine v_tab tab47 53 (dec_of DX9_init 559 rfl) (by decide) (by decide) rfl ?_
  refine v_dup (dec_of DX9_init 560 rfl) rfl ?_
  refine vi_bi (dec_of DX9_init 561 rfl) (by decide) ?_
  refine vi_const (dec_of DX9_init 562 rfl) ?_
  refine v_tab tab47 54 (dec_of DX9_init 563 rfl) (by decide) (by decide) rfl ?_
  refine v_dup (dec_of DX9_init 564 rfl) rfl ?_
  refine vi_bi (dec_of DX9_init 565 rfl) (by decide) ?_
  refine vi_const (dec_of DX9_init 566 rfl) ?_
  refine v_tab tab47 55 (dec_of DX9_init 567 rfl) (by decide) (by decide) rfl ?_
  refine v_dup (dec_of DX9_init 568 rfl) rfl ?_
  refine vi_bi (dec_of DX9_init 569 rfl) (by decide) ?_
  refine vi_const (dec_of DX9_init 570 rfl) ?_
  refine v_tab tab47 56 (dec_of DX9_init 571 rfl) (by decide) (by decide) rfl ?_
  refine v_dup (dec_of DX9_init 572 rfl) rfl ?_
  refine vi_bi (dec_of DX9_init 573 rfl) (by decide) ?_
  refine vi_const (dec_of DX9_init 574 rfl) ?_
  refine v_tab tab47 57 (dec_of DX9_init 575 rfl) (by decide) (by decide) rfl ?_
  refine v_dup (dec_of DX9_init 576 rfl) rfl ?_
  refine vi_bi (dec_of DX9_init 577 rfl) (by decide) ?_
  refine vi_const (dec_of DX9_init 578 rfl) ?_
  refine v_tab tab47 58 (dec_of DX9_init 579 rfl) (by decide) (by decide) rfl ?_
  refine v_dup (dec_of DX9_init 580 rfl) rfl ?_
  refine vi_bi (dec_of DX9_init 581 rfl) (by decide) ?_
  refine vi_const (dec_of DX9_init 582 rfl) ?_
  refine v_tab tab47 59 (dec_of DX9_init 583 rfl) (by decide) (by decide) rfl ?_
  refine v_dup (dec_of DX9_init 584 rfl) rfl ?_
  refine vi_bi (dec_of DX9_init 585 rfl) (by decide) ?_
  refine vi_const (dec_of DX9_init 586 rfl) ?_
  refine v_tab tab47 60 (dec_of DX9_init 587 rfl) (by decide) (by decide) rfl ?_
  refine v_dup (dec_of DX9_init 588 rfl) rfl ?_
  refine vi_bi (dec_of DX9_init 589 rfl) (by decide) ?_
  refine vi_const (dec_of DX9_init 590 rfl) ?_
  refine v_tab tab47 61 (dec_of DX9_init 591 rfl) (by decide) (by decide) rfl ?_
  refine v_dup (dec_of DX9_init 592 rfl) rfl ?_
  refine vi_bi (dec_of DX9_init 593 rfl) (by decide) ?_
  refine vi_const (dec_of DX9_init 594 rfl) ?_
  refine v_tab tab47 62 (dec_of DX9_init 595 rfl) (by decide) (by decide) rfl ?_
  refine v_dup (dec_of DX9_init 596 rfl) rfl ?_
  refine vi_bi (dec_of DX9_init 597 rfl) (by decide) ?_
  refine vi_const (dec_of DX9_init 598 rfl) ?_
  refine v_tab tab47 63 (dec_of DX9_init 599 rfl) (by decide) (by decide) rfl ?_
  refine v_dup (dec_of DX9_init 600 rfl) rfl ?_
  refine vi_bi (dec_of DX9_init 601 rfl) (by decide) ?_
  refine vi_const (dec_of DX9_init 602 rfl) ?_
  refine v_tab tab47 64 (dec_of DX9_init 603 rfl) (by decide) (by decide) rfl ?_
  refine v_dup (dec_of DX9_init 604 rfl) rfl ?_
  refine vi_bi (dec_of DX9_init 605 rfl) (by decide) ?_
  refine vi_const (dec_of DX9_init 606 rfl) ?_
  refine v_tab tab47 65 (dec_of DX9_init 607 rfl) (by decide) (by decide) rfl ?_
  refine v_dup (dec_of DX9_init 608 rfl) rfl ?_
  refine vi_bi (dec_of DX9_init 609 rfl) (by decide) ?_
  refine vi_const (dec_of DX9_init 610 rfl) ?_
  refine v_tab tab47 66 (dec_of DX9_init 611 rfl) (by decide) (by decide) rfl ?_
  refine v_dup (dec_of DX9_init 612 rfl) rfl ?_
  refine vi_bi (dec_of DX9_init 613 rfl) (by decide) ?_
  refine vi_const (dec_of DX9_init 614 rfl) ?_
  refine v_tab tab47 67 (dec_of DX9_init 615 rfl) (by decide) (by decide) rfl ?_
  refine v_dup (dec_of DX9_init 616 rfl) rfl ?_
  refine vi_bi (dec_of DX9_init 617 rfl) (by decide) ?_
  refine vi_const (dec_of DX9_init 618 rfl) ?_
  refine v_tab tab47 68 (dec_of DX9_init 619 rfl) (by decide) (by decide) rfl ?_
  refine v_dup (dec_of DX9_init 620 rfl) rfl ?_
  refine vi_bi (dec_of DX9_init 621 rfl) (by decide) ?_
  refine vi_const (dec_of DX9_init 622 rfl) ?_
  refine v_tab tab47 69 (dec_of DX9_init 623 rfl) (by decide) (by decide) rfl ?_
  refine v_dup (dec_of DX9_init 624 rfl) rfl ?_
  refine vi_bi (dec_of DX9_init 625 rfl) (by decide) ?_
  refine vi_const (dec_of DX9_init 626 rfl) ?_
  refine v_tab tab47 70 (dec_of DX9_init 627 rfl) (by decide) (by decide) rfl ?_
  refine v_dup (dec_of DX9_init 628 rfl) rfl ?_
  refine vi_bi (dec_of DX9_init 629 rfl) (by decide) ?_
  refine vi_bi (dec_of DX9_init 630 rfl) (by decide) ?_
  refine v_tab tab47 71 (dec_of DX9_init 631 rfl) (by decide) (by decide) rfl ?_
  refine v_dup (dec_of DX9_init 632 rfl) rfl ?_
  refine vi_bi (dec_of DX9_init 633 rfl) (by decide) ?_
  refine vi_const (dec_of DX9_init 634 rfl) ?_
  refine v_tab tab47 72 (dec_of DX9_init 635 rfl) (by decide) (by decide) rfl ?_
  refine v_dup (dec_of DX9_init 636 rfl) rfl ?_
  refine vi_bi (dec_of DX9_init 637 rfl) (by decide) ?_
  refine vi_const (dec_of DX9_init 638 rfl) ?_
  refine v_tab tab47 73 (dec_of DX9_init 639 rfl) (by decide) (by decide) rfl ?_
  refine v_dup (dec_of DX9_init 640 rfl) rfl ?_
  refine vi_bi (dec_of DX9_init 641 rfl) (by decide) ?_
  refine vi_const (dec_of DX9_init 642 rfl) ?_
  refine v_tab tab47 74 (dec_of DX9_init 643 rfl) (by decide) (by decide) rfl ?_
  refine v_dup (dec_of DX9_init 644 rfl) rfl ?_
  refine vi_bi (dec_of DX9_init 645 rfl) (by decide) ?_
  refine vi_const (dec_of DX9_init 646 rfl) ?_
  refine v_tab tab47 75 (dec_of DX9_init 647 rfl) (by decide) (by decide) rfl ?_
  refine v_dup (dec_of DX9_init 648 rfl) rfl ?_
  refine vi_bi (dec_of DX9_init 649 rfl) (by decide) ?_
  refine vi_const (dec_of DX9_init 650 rfl) ?_
  refine v_tab tab47 76 (dec_of DX9_init 651 rfl) (by decide) (by decide) rfl ?_
  refine v_dup (dec_of DX9_init 652 rfl) rfl ?_
  refine vi_bi (dec_of DX9_init 653 rfl) (by decide) ?_
  refine vi_const (dec_of DX9_init 654 rfl) ?_
  refine v_tab tab47 77 (dec_of DX9_init 655 rfl) (by decide) (by decide) rfl ?_
  refine v_dup (dec_of DX9_init 656 rfl) rfl ?_
  refine vi_bi (dec_of DX9_init 657 rfl) (by decide) ?_
  refine vi_const (dec_of DX9_init 658 rfl) ?_
  refine v_tab tab47 78 (dec_of DX9_init 659 rfl) (by decide) (by decide) rfl ?_
  refine v_dup (dec_of DX9_init 660 rfl) rfl ?_
  refine vi_bi (dec_of DX9_init 661 rfl) (by decide) ?_
  refine vi_const (dec_of DX9_init 662 rfl) ?_
  refine v_tab tab47 79 (dec_of DX9_init 663 rfl) (by decide) (by decide) rfl ?_
  exact k
set_option maxRecDepth 100000 in
set_option maxHeartbeats 4000000 in
theorem run47_2 {R : Room} {ex : List (Nat × (Nat → Int32))} {n0 : Nat} {Z : XW → Option Value → Prop} {ca sl : Nat} {ls : List (Option Value)} {st : List Value} {pre : XW} (k : Vd R ex mX9_init n0 Z ca sl 1145 ls (.ref pre.length :: st) (pre ++ [.inl (144, tabF tab47 120)])) : Vd R ex mX9_init n0 Z ca sl 942 ls (.ref pre.length :: st) (pre ++ [.inl (144, tabF tab47 80)]) := by
  refine v_dup (dec_of DX9_init 664 rfl) rfl ?_
  refine vi_bi (dec_of DX9_init 665 rfl) (by decide) ?_
  refine vi_const (dec_of DX9_init 666 rfl) ?_
  refine v_tab tab47 80 (dec_of DX9_init 667 rfl) (by decide) (by decide) rfl ?_
  refine v_dup (dec_of DX9_init 668 rfl) rfl ?_
  refine vi_bi (dec_of DX9_init 669 rfl) (by decide) ?_
  refine vi_const (dec_of DX9_init 670 rfl) ?_
  refine v_tab tab47 81 (dec_of DX9_init 671 rfl) (by decide) (by decide) rfl ?_
  refine v_dup (dec_of DX9_init 672 rfl) rfl ?_
  refine vi_bi (dec_of DX9_init 673 rfl) (by decide) ?_
  refine vi_const (dec_of DX9_init 674 rfl) ?_
  refine v_tab tab47 82 (dec_of DX9_init 675 rfl) (by decide) (by decide) rfl ?_
  refine v_dup (dec_of DX9_init 676 rfl) rfl ?_
  refine vi_bi (dec_of DX9_init 677 rfl) (by decide) ?_
  refine vi_const (dec_of DX9_init 678 rfl) ?_
  refine v_tab tab47 83 (dec_of DX9_init 679 rfl) (by decide) (by decide) rfl ?_
  refine v_dup (dec_of DX9_init 680 rfl) rfl ?_
  refine vi_bi (dec_of DX9_init 681 rfl) (by decide) ?_
  refine vi_const (dec_of DX9_init 682 rfl) ?_
  refine v_tab tab47 84 (dec_of DX9_init 683 rfl) (by decide) (by decide) rfl ?_
  refine v_dup (dec_of DX9_init 684 rfl) rfl ?_
  refine vi_bi (dec_of DX9_init 685 rfl) (by decide) ?_
  refine vi_const (dec_of DX9_init 686 rfl) ?_
  refine v_tab tab47 85 (dec_of DX9_init 687 rfl) (by decide) (by decide) rfl ?_
  refine v_dup (dec_of DX9_init 688 rfl) rfl ?_
  refine vi_bi (dec_of DX9_init 689 rfl) (by decide) ?_
  refine vi_const (dec_of DX9_init 690 rfl) ?_
  refine v_tab tab47 86 (dec_of DX9_init 691 rfl) (by decide) (by decide) rfl ?_
  refine v_dup (dec_of DX9_init 692 rfl) rfl ?_
  refine vi_bi (dec_of DX9_init 693 rfl) (by decide) ?_
  refine vi_const (dec_of DX9_init 694 rfl) ?_
  refine v_tab tab47 87 (dec_of DX9_init 695 rfl) (by decide) (by decide) rfl ?_
  refine v_dup (dec_of DX9_init 696 rfl) rfl ?_
  refine vi_bi (dec_of DX9_init 697 rfl) (by decide) ?_
  refine vi_const (dec_of DX9_init 698 rfl) ?_
  refine v_tab tab47 88 (dec_of DX9_init 699 rfl) (by decide) (by decide) rfl ?_
  refine v_dup (dec_of DX9_init 700 rfl) rfl ?_
  refine vi_bi (dec_of DX9_init 701 rfl) (by decide) ?_
  refine vi_bi (dec_of DX9_init 702 rfl) (by decide) ?_
  refine v_tab tab47 89 (dec_of DX9_init 703 rfl) (by decide) (by decide) rfl ?_
  refine v_dup (dec_of DX9_init 704 rfl) rfl ?_
  refine vi_bi (dec_of DX9_init 705 rfl) (by decide) ?_
  refine vi_const (dec_of DX9_init 706 rfl) ?_
  refine v_tab tab47 90 (dec_of DX9_init 707 rfl) (by decide) (by decide) rfl ?_
  refine v_dup (dec_of DX9_init 708 rfl) rfl ?_
  refine vi_bi (dec_of DX9_init 709 rfl) (by decide) ?_
  refine vi_const (dec_of DX9_init 710 rfl) ?_
  refine v_tab tab47 91 (dec_of DX9_init 711 rfl) (by decide) (by decide) rfl ?_
  refine v_dup (dec_of DX9_init 712 rfl) rfl ?_
  refine vi_bi (dec_of DX9_init 713 rfl) (by decide) ?_
  refine vi_const (dec_of DX9_init 714 rfl) ?_
  refine v_tab tab47 92 (dec_of DX9_init 715 rfl) (by decide) (by decide) rfl ?_
  refine v_dup (dec_of DX9_init 716 rfl) rfl ?_
  refine vi_bi (dec_of DX9_init 717 rfl) (by decide) ?_
  refine vi_const (dec_of DX9_init 718 rfl) ?_
  refine v_tab tab47 93 (dec_of DX9_init 719 rfl) (by decide) (by decide) rfl ?_
  refine v_dup (dec_of DX9_init 720 rfl) rfl ?_
  refine vi_bi (dec_of DX9_init 721 rfl) (by decide) ?_
  refine vi_const (dec_of DX9_init 722 rfl) ?_
  refine v_tab tab47 94 (dec_of DX9_init 723 rfl) (by decide) (by decide) rfl ?_
  refine v_dup (dec_of DX9_init 724 rfl) rfl ?_
  refine vi_bi (dec_of DX9_init 725 rfl) (by decide) ?_
  refine vi_const (dec_of DX9_init 726 rfl) ?_
  refine v_tab tab47 95 (dec_of DX9_init 727 rfl) (by decide) (by decide) rfl ?_
  refine v_dup (dec_of DX9_init 728 rfl) rfl ?_
  refine vi_bi (dec_of DX9_init 729 rfl) (by decide) ?_
  refine vi_const (dec_of DX9_init 730 rfl) ?_
  refine v_tab tab47 96 (dec_of DX9_init 731 rfl) (by decide) (by decide) rfl ?_
  refine v_dup (dec_of DX9_init 732 rfl) rfl ?_
  refine vi_bi (dec_of DX9_init 733 rfl) (by decide) ?_
  refine vi_const (dec_of DX9_init 734 rfl) ?_
  refine v_tab tab47 97 (dec_of DX9_init 735 rfl) (by decide) (by decide) rfl ?_
  refine v_dup (dec_of DX9_init 736 rfl) rfl ?_
  refine vi_bi (dec_of DX9_init 737 rfl) (by decide) ?_
  refine vi_const (dec_of DX9_init 738 rfl) ?_
  refine v_tab tab47 98 (dec_of DX9_init 739 rfl) (by decide) (by decide) rfl ?_
  refine v_dup (dec_of DX9_init 740 rfl) rfl ?_
  refine vi_bi (dec_of DX9_init 741 rfl) (by decide) ?_
  refine vi_const (dec_of DX9_init 742 rfl) ?_
  refine v_tab tab47 99 (dec_of DX9_init 743 rfl) (by decide) (by decide) rfl ?_
  refine v_dup (dec_of DX9_init 744 rfl) rfl ?_
  refine vi_bi (dec_of DX9_init 745 rfl) (by decide) ?_
  refine vi_bi (dec_of DX9_init 746 rfl) (by decide) ?_
  refine v_tab tab47 100 (dec_of DX9_init 747 rfl) (by decide) (by decide) rfl ?_
  refine v_dup (dec_of DX9_init 748 rfl) rfl ?_
  refine vi_bi (dec_of DX9_init 749 rfl) (by decide) ?_
  refine vi_const (dec_of DX9_init 750 rfl) ?_
  refine v_tab tab47 101 (dec_of DX9_init 751 rfl) (by decide) (by decide) rfl ?_
  refine v_dup (dec_of DX9_init 752 rfl) rfl ?_
  refine vi_bi (dec_of DX9_init 753 rfl) (by decide) ?_
  refine vi_const (dec_of DX9_init 754 rfl) ?_
  refine v_tab tab47 102 (dec_of DX9_init 755 rfl) (by decide) (by decide) rfl ?_
  refine v_dup (dec_of DX9_init 756 rfl) rfl ?_
  refine vi_bi (dec_of DX9_init 757 rfl) (by decide) ?_
  refine vi_const (dec_of DX9_init 758 rfl) ?_
  refine v_tab tab47 103 (dec_of DX9_init 759 rfl) (by decide) (by decide) rfl ?_
  refine v_dup (dec_of DX9_init 760 rfl) rfl ?_
  refine vi_bi (dec_of DX9_init 761 rfl) (by decide) ?_
  refine vi_const (dec_of DX9_init 762 rfl) ?_
  refine v_tab tab47 104 (dec_of DX9_init 763 rfl) (by decide) (by decide) rfl ?_
  refine v_dup (dec_of DX9_init 764 rfl) rfl ?_
  refine vi_bi (dec_of DX9_init 765 rfl) (by decide) ?_
  refine vi_const (dec_of DX9_init 766 rfl) ?_
  refine v_tab tab47 105 (dec_of DX9_init 767 rfl) (by decide) (by decide) rfl ?_
  refine v_dup (dec_of DX9_init 768 rfl) rfl ?_
  refine vi_bi (dec_of DX9_init 769 rfl) (by decide) ?_
  refine vi_const (dec_of DX9_init 770 rfl) ?_
  refine v_tab tab47 106 (dec_of DX9_init 771 rfl) (by decide) (by decide) rfl ?_
  refine v_dup (dec_of DX9_init 772 rfl) rfl ?_
  refine vi_bi (dec_of DX9_init 773 rfl) (by decide) ?_
  refine vi_bi (dec_of DX9_init 774 rfl) (by decide) ?_
  refine v_tab tab47 107 (dec_of DX9_init 775 rfl) (by decide) (by decide) rfl ?_
  refine v_dup (dec_of DX9_init 776 rfl) rfl ?_
  refine vi_bi (dec_of DX9_init 777 rfl) (by decide) ?_
  refine vi_const (dec_of DX9_init 778 rfl) ?_
  refine v_tab tab47 108 (dec_of DX9_init 779 rfl) (by decide) (by decide) rfl ?_
  refine v_dup (dec_of DX9_init 780 rfl) rfl ?_
  refine vi_bi (dec_of DX9_init 781 rfl) (by decide) ?_
  refine vi_const (dec_of DX9_init 782 rfl) ?_
  refine v_tab tab47 109 (dec_of DX9_init 783 rfl) (by decide) (by decide) rfl ?_
  refine v_dup (dec_of DX9_init 784 rfl) rfl ?_
  refine vi_bi (dec_of DX9_init 785 rfl) (by decide) ?_
  refine vi_const (dec_of DX9_init 786 rfl) ?_
  refine v_tab tab47 110 (dec_of DX9_init 787 rfl) (by decide) (by decide) rfl ?_
  refine v_dup (dec_of DX9_init 788 rfl) rfl ?_
  refine vi_bi (dec_of DX9_init 789 rfl) (by decide) ?_
  refine vi_const (dec_of DX9_init 790 rfl) ?_
  refine v_tab tab47 111 (dec_of DX9_init 791 rfl) (by decide) (by decide) rfl ?_
  refine v_dup (dec_of DX9_init 792 rfl) rfl ?_
  refine vi_bi (dec_of DX9_init 793 rfl) (by decide) ?_
  refine vi_const (dec_of DX9_init 794 rfl) ?_
  refine v_tab tab47 112 (dec_of DX9_init 795 rfl) (by decide) (by decide) rfl ?_
  refine v_dup (dec_of DX9_init 796 rfl) rfl ?_
  refine vi_bi (dec_of DX9_init 797 rfl) (by decide) ?_
  refine vi_const (dec_of DX9_init 798 rfl) ?_
  refine v_tab tab47 113 (dec_of DX9_init 799 rfl) (by decide) (by decide) rfl ?_
  refine v_dup (dec_of DX9_init 800 rfl) rfl ?_
  refine vi_bi (dec_of DX9_init 801 rfl) (by decide) ?_
  refine vi_const (dec_of DX9_init 802 rfl) ?_
  refine v_tab tab47 114 (dec_of DX9_init 803 rfl) (by decide) (by decide) rfl ?_
  refine v_dup (dec_of DX9_init 804 rfl) rfl ?_
  refine vi_bi (dec_of DX9_init 805 rfl) (by decide) ?_
  refine vi_const (dec_of DX9_init 806 rfl) ?_
  refine v_tab tab47 115 (dec_of DX9_init 807 rfl) (by decide) (by decide) rfl ?_
  refine v_dup (dec_of DX9_init 808 rfl) rfl ?_
  refine vi_bi (dec_of DX9_init 809 rfl) (by decide) ?_
  refine vi_const (dec_of DX9_init 810 rfl) ?_
  refine v_tab tab47 116 (dec_of DX9_init 811 rfl) (by decide) (by decide) rfl ?_
  refine v_dup (dec_of DX9_init 812 rfl) rfl ?_
  refine vi_bi (dec_of DX9_init 813 rfl) (by decide) ?_
  refine vi_const (dec_of DX9_init 814 rfl) ?_
  refine v_tab tab47 117 (dec_of DX9_init 815 rfl) (by decide) (by decide) rfl ?_
  refine v_dup (dec_of DX9_init 816 rfl) rfl ?_
  refine vi_bi (dec_of DX9_init 817 rfl) (by decide) ?_
  refine vi_const (dec_of DX9_init 818 rfl) ?_
  refine v_tab tab47 118 (dec_of DX9_init 819 rfl) (by decide) (by decide) rfl ?_
  refine v_dup (dec_of DX9_init 820 rfl) rfl ?_
  refine vi_bi (dec_of DX9_init 821 rfl) (by decide) ?_
  refine vi_const (dec_of DX9_init 822 rfl) ?_
  refine v_tab tab47 119 (dec_of DX9_init 823 rfl) (by decide) (by decide) rfl ?_
  exact k
set_option maxRecDepth 100000 in
set_option maxHeartbeats 4000000 in
theorem run47_3 {R : Room} {ex : List (Nat × (Nat → Int32))} {n0 : Nat} {Z : XW → Option Value → Prop} {ca sl : Nat} {ls : List (Option Value)} {st : List Value} {pre : XW} (k : Vd R ex mX9_init n0 Z ca sl 1283 ls (.ref pre.length :: st) (pre ++ [.inl (144, tabF tab47 144)])) : Vd R ex mX9_init n0 Z ca sl 1145 ls (.ref pre.length :: st) (pre ++ [.inl (144, tabF tab47 120)]) := by
  refine v_dup (dec_of DX9_init 824 rfl) rfl ?_
  refine vi_bi (dec_of DX9_init 825 rfl) (by decide) ?_
  refine vi_const (dec_of DX9_init 826 rfl) ?_
  refine v_tab tab47 120 (dec_of DX9_init 827 rfl) (by decide) (by decide) rfl ?_
  refine v_dup (dec_of DX9_init 828 rfl) rfl ?_
  refine vi_bi (dec_of DX9_init 829 rfl) (by decide) ?_
  refine vi_const (dec_of DX9_init 830 rfl) ?_
  refine v_tab tab47 121 (dec_of DX9_init 831 rfl) (by decide) (by decide) rfl ?_
  refine v_dup (dec_of DX9_init 832 rfl) rfl ?_
  refine vi_bi (dec_of DX9_init 833 rfl) (by decide) ?_
  refine vi_const (dec_of DX9_init 834 rfl) ?_
  refine v_tab tab47 122 (dec_of DX9_init 835 rfl) (by decide) (by decide) rfl ?_
  refine v_dup (dec_of DX9_init 836 rfl) rfl ?_
  refine vi_bi (dec_of DX9_init 837 rfl) (by decide) ?_
  refine vi_const (dec_of DX9_init 838 rfl) ?_
  refine v_tab tab47 123 (dec_of DX9_init 839 rfl) (by decide) (by decide) rfl ?_
  refine v_dup (dec_of DX9_init 840 rfl) rfl ?_
  refine vi_bi (dec_of DX9_init 841 rfl) (by decide) ?_
  refine vi_const (dec_of DX9_init 842 rfl) ?_
  refine v_tab tab47 124 (dec_of DX9_init 843 rfl) (by decide) (by decide) rfl ?_
  refine v_dup (dec_of DX9_init 844 rfl) rfl ?_
  refine vi_bi (dec_of DX9_init 845 rfl) (by decide) ?_
  refine vi_bi (dec_of DX9_init 846 rfl) (by decide) ?_
  refine v_tab tab47 125 (dec_of DX9_init 847 rfl) (by decide) (by decide) rfl ?_
  refine v_dup (dec_of DX9_init 848 rfl) rfl ?_
  refine vi_bi (dec_of DX9_init 849 rfl) (by decide) ?_
  refine vi_const (dec_of DX9_init 850 rfl) ?_
  refine v_tab tab47 126 (dec_of DX9_init 851 rfl) (by decide) (by decide) rfl ?_
  refine v_dup (dec_of DX9_init 852 rfl) rfl ?_
  refine vi_bi (dec_of DX9_init 853 rfl) (by decide) ?_
  refine vi_const (dec_of DX9_init 854 rfl) ?_
  refine v_tab tab47 127 (dec_of DX9_init 855 rfl) (by decide) (by decide) rfl ?_
  refine v_dup (dec_of DX9_init 856 rfl) rfl ?_
  refine vi_si (dec_of DX9_init 857 rfl) (by decide) ?_
  refine vi_const (dec_of DX9_init 858 rfl) ?_
  refine v_tab tab47 128 (dec_of DX9_init 859 rfl) (by decide) (by decide) rfl ?_
  refine v_dup (dec_of DX9_init 860 rfl) rfl ?_
  refine vi_si (dec_of DX9_init 861 rfl) (by decide) ?_
  refine vi_const (dec_of DX9_init 862 rfl) ?_
  refine v_tab tab47 129 (dec_of DX9_init 863 rfl) (by decide) (by decide) rfl ?_
  refine v_dup (dec_of DX9_init 864 rfl) rfl ?_
  refine vi_si (dec_of DX9_init 865 rfl) (by decide) ?_
  refine vi_const (dec_of DX9_init 866 rfl) ?_
  refine v_tab tab47 130 (dec_of DX9_init 867 rfl) (by decide) (by decide) rfl ?_
  refine v_dup (dec_of DX9_init 868 rfl) rfl ?_
  refine vi_si (dec_of DX9_init 869 rfl) (by decide) ?_
  refine vi_const (dec_of DX9_init 870 rfl) ?_
  refine v_tab tab47 131 (dec_of DX9_init 871 rfl) (by decide) (by decide) rfl ?_
  refine v_dup (dec_of DX9_init 872 rfl) rfl ?_
  refine vi_si (dec_of DX9_init 873 rfl) (by decide) ?_
  refine vi_const (dec_of DX9_init 874 rfl) ?_
  refine v_tab tab47 132 (dec_of DX9_init 875 rfl) (by decide) (by decide) rfl ?_
  refine v_dup (dec_of DX9_init 876 rfl) rfl ?_
  refine vi_si (dec_of DX9_init 877 rfl) (by decide) ?_
  refine vi_const (dec_of DX9_init 878 rfl) ?_
  refine v_tab tab47 133 (dec_of DX9_init 879 rfl) (by decide) (by decide) rfl ?_
  refine v_dup (dec_of DX9_init 880 rfl) rfl ?_
  refine vi_si (dec_of DX9_init 881 rfl) (by decide) ?_
  refine vi_const (dec_of DX9_init 882 rfl) ?_
  refine v_tab tab47 134 (dec_of DX9_init 883 rfl) (by decide) (by decide) rfl ?_
  refine v_dup (dec_of DX9_init 884 rfl) rfl ?_
  refine vi_si (dec_of DX9_init 885 rfl) (by decide) ?_
  refine vi_const (dec_of DX9_init 886 rfl) ?_
  refine v_tab tab47 135 (dec_of DX9_init 887 rfl) (by decide) (by decide) rfl ?_
  refine v_dup (dec_of DX9_init 888 rfl) rfl ?_
  refine vi_si (dec_of DX9_init 889 rfl) (by decide) ?_
  refine vi_const (dec_of DX9_init 890 rfl) ?_
  refine v_tab tab47 136 (dec_of DX9_init 891 rfl) (by decide) (by decide) rfl ?_
  refine v_dup (dec_of DX9_init 892 rfl) rfl ?_
  refine vi_si (dec_of DX9_init 893 rfl) (by decide) ?_
  refine vi_const (dec_of DX9_init 894 rfl) ?_
  refine v_tab tab47 137 (dec_of DX9_init 895 rfl) (by decide) (by decide) rfl ?_
  refine v_dup (dec_of DX9_init 896 rfl) rfl ?_
  refine vi_si (dec_of DX9_init 897 rfl) (by decide) ?_
  refine vi_const (dec_of DX9_init 898 rfl) ?_
  refine v_tab tab47 138 (dec_of DX9_init 899 rfl) (by decide) (by decide) rfl ?_
  refine v_dup (dec_of DX9_init 900 rfl) rfl ?_
  refine vi_si (dec_of DX9_init 901 rfl) (by decide) ?_
  refine vi_const (dec_of DX9_init 902 rfl) ?_
  refine v_tab tab47 139 (dec_of DX9_init 903 rfl) (by decide) (by decide) rfl ?_
  refine v_dup (dec_of DX9_init 904 rfl) rfl ?_
  refine vi_si (dec_of DX9_init 905 rfl) (by decide) ?_
  refine vi_const (dec_of DX9_init 906 rfl) ?_
  refine v_tab tab47 140 (dec_of DX9_init 907 rfl) (by decide) (by decide) rfl ?_
  refine v_dup (dec_of DX9_init 908 rfl) rfl ?_
  refine vi_si (dec_of DX9_init 909 rfl) (by decide) ?_
  refine vi_const (dec_of DX9_init 910 rfl) ?_
  refine v_tab tab47 141 (dec_of DX9_init 911 rfl) (by decide) (by decide) rfl ?_
  refine v_dup (dec_of DX9_init 912 rfl) rfl ?_
  refine vi_si (dec_of DX9_init 913 rfl) (by decide) ?_
  refine vi_const (dec_of DX9_init 914 rfl) ?_
  refine v_tab tab47 142 (dec_of DX9_init 915 rfl) (by decide) (by decide) rfl ?_
  refine v_dup (dec_of DX9_init 916 rfl) rfl ?_
  refine vi_si (dec_of DX9_init 917 rfl) (by decide) ?_
  refine vi_bi (dec_of DX9_init 918 rfl) (by decide) ?_
  refine v_tab tab47 143 (dec_of DX9_init 919 rfl) (by decide) (by decide) rfl ?_
  exact k
theorem run47 {R : Room} {ex : List (Nat × (Nat → Int32))} {n0 : Nat} {Z : XW → Option Value → Prop} {ca sl : Nat} {ls : List (Option Value)} {st : List Value} {pre : XW} (k : Vd R ex mX9_init n0 Z ca sl 1283 ls (.ref pre.length :: st) (pre ++ [.inl (144, ia (tI tab47))])) : Vd R ex mX9_init n0 Z ca sl 540 ls (.ref pre.length :: st) (pre ++ [.inl (144, fun _ => 0)]) := by
  rw [tabF_0 tab47]
  refine run47_0 ?_
  refine run47_1 ?_
  refine run47_2 ?_
  refine run47_3 ?_
  have e : tabF tab47 144 = ia (tI tab47) := tabF_e tab47
  rw [e]
  exact k
theorem dfX9 : ∀ j, j < 56 → defaultValue (tyX9 j) = vp_V [.null, J 0, .null, J 0, .null, .null, .null, .null, .null, .null, J 0, .null, .null, .null, J 0, J 0, .null, .null, .null, .null, J 0, J 0, J 0, J 0, J 0, J 0, J 0, J 0, J 0, J 0, .null, .null, .null, .null, .null, J 0, .null, .null, .null, .null, .null, .null, .null, J 0, .null, .null, .null, .null, J 0, J 0, J 0, J 0, .null, .null, .null, J 0] j := fun j h => by
  match j, h with
  | 0, _ => rfl
  | 1, _ => rfl
  | 2, _ => rfl
  | 3, _ => rfl
  | 4, _ => rfl
  | 5, _ => rfl
  | 6, _ => rfl
  | 7, _ => rfl
  | 8, _ => rfl
  | 9, _ => rfl
  | 10, _ => rfl
  | 11, _ => rfl
  | 12, _ => rfl
  | 13, _ => rfl
  | 14, _ => rfl
  | 15, _ => rfl
  | 16, _ => rfl
  | 17, _ => rfl
  | 18, _ => rfl
  | 19, _ => rfl
  | 20, _ => rfl
  | 21, _ => rfl
  | 22, _ => rfl
  | 23, _ => rfl
  | 24, _ => rfl
  | 25, _ => rfl
  | 26, _ => rfl
  | 27, _ => rfl
  | 28, _ => rfl
  | 29, _ => rfl
  | 30, _ => rfl
  | 31, _ => rfl
  | 32, _ => rfl
  | 33, _ => rfl
  | 34, _ => rfl
  | 35, _ => rfl
  | 36, _ => rfl
  | 37, _ => rfl
  | 38, _ => rfl
  | 39, _ => rfl
  | 40, _ => rfl
  | 41, _ => rfl
  | 42, _ => rfl
  | 43, _ => rfl
  | 44, _ => rfl
  | 45, _ => rfl
  | 46, _ => rfl
  | 47, _ => rfl
  | 48, _ => rfl
  | 49, _ => rfl
  | 50, _ => rfl
  | 51, _ => rfl
  | 52, _ => rfl
  | 53, _ => rfl
  | 54, _ => rfl
  | 55, _ => rfl
  | k + 56, h => omega
def K00 : Nat → Int := fun k => if k = 27 then -100 else if k = 43 then 1 else 0
def G00 : Nat → Int → Int := fun t => if t = 34 then tI tab34 else if t = 40 then tI tab40 else if t = 41 then tI tab41 else if t = 42 then tI tab42 else if t = 46 then tI tab46 else if t = 47 then tI tab47 else fun _ => 0
set_option maxRecDepth 100000 in
set_option maxHeartbeats 8000000 in
theorem c_md : Sd (rm 1 20 34 7856) mX9_init [.ref 31] (cls I00 N00 F00 ++ [.inr (6, [.null, J 0, .null, J 0, .null, .null, .null, .null, .null, .null, J 0, .null, .null, .null, J 0, J 0, .null, .null, .null, .null, J 0, J 0, J 0, J 0, J 0, J 0, J 0, J 0, J 0, J 0, .null, .null, .null, .null, .null, J 0, .null, .null, .null, .null, .null, .null, .null, J 0, .null, .null, .null, .null, J 0, J 0, J 0, J 0, .null, .null, .null, J 0])]) (W2 I00 N00 F00 K00 G00) none := by
  unfold Sd
  refine sp_of (ls := [some (.ref 31)]) (by decide) (nle rfl) rfl rfl ?_
  refine v_aload_n (dec_of DX9_init 0 rfl) rfl ?_
  refine v_objInit (dec_of DX9_init 1 rfl) oX9_1 ⟨by decide, by decide⟩ (nle rfl) ?_
  refine v_aload_n (dec_of DX9_init 2 rfl) rfl ?_
  refine vi_si (dec_of DX9_init 3 rfl) (by decide) ?_
  refine v_newa (n := iI 1500) (N := 1500) (dec_of DX9_init 4 rfl) (by decide) (by decide) (by decide) rfl (by decide) ⟨by decide, by decide⟩ rfl ?_
  refine Vd_n (st' := [.ref 32, .ref 31]) (w' := cls I00 N00 F00 ++ [.inr (6, [.null, J 0, .null, J 0, .null, .null, .null, .null, .null, .null, J 0, .null, .null, .null, J 0, J 0, .null, .null, .null, .null, J 0, J 0, J 0, J 0, J 0, J 0, J 0, J 0, J 0, J 0, .null, .null, .null, .null, .null, J 0, .null, .null, .null, .null, .null, .null, .null, J 0, .null, .null, .null, .null, J 0, J 0, J 0, J 0, .null, .null, .null, J 0]), .inl (1500, fun _ => 0)]) rfl rfl ?_
  refine v_putF fX9_7 (fun q h => by cases h; rfl) rfl (dec_of DX9_init 5 rfl) rfl (by decide) (fun _ => rfl) (fun _ => rfl) ?_
  refine Vd_n (st' := []) (w' := cls I00 N00 F00 ++ [.inr (6, [.ref 32, J 0, .null, J 0, .null, .null, .null, .null, .null, .null, J 0, .null, .null, .null, J 0, J 0, .null, .null, .null, .null, J 0, J 0, J 0, J 0, J 0, J 0, J 0, J 0, J 0, J 0, .null, .null, .null, .null, .null, J 0, .null, .null, .null, .null, .null, .null, .null, J 0, .null, .null, .null, .null, J 0, J 0, J 0, J 0, .null, .null, .null, J 0]), .inl (1500, fun _ => 0)]) rfl rfl ?_
  refine v_aload_n (dec_of DX9_init 6 rfl) rfl ?_
  refine vi_si (dec_of DX9_init 7 rfl) (by decide) ?_
  refine v_newa (n := iI 1500) (N := 1500) (dec_of DX9_init 8 rfl) (by decide) (by decide) (by decide) rfl (by decide) ⟨by decide, by decide⟩ rfl ?_
  refine Vd_n (st' := [.ref 33, .ref 31]) (w' := cls I00 N00 F00 ++ [.inr (6, [.ref 32, J 0, .null, J 0, .null, .null, .null, .null, .null, .null, J 0, .null, .null, .null, J 0, J 0, .null, .null, .null, .null, J 0, J 0, J 0, J 0, J 0, J 0, J 0, J 0, J 0, J 0, .null, .null, .null, .null, .null, J 0, .null, .null, .null, .null, .null, .null, .null, J 0, .null, .null, .null, .null, J 0, J 0, J 0, J 0, .null, .null, .null, J 0]), .inl (1500, fun _ => 0), .inl (1500, fun _ => 0)]) rfl rfl ?_
  refine v_putF fX9_13 (fun q h => by cases h; rfl) rfl (dec_of DX9_init 9 rfl) rfl (by decide) (fun _ => rfl) (fun _ => rfl) ?_
  refine Vd_n (st' := []) (w' := cls I00 N00 F00 ++ [.inr (6, [.ref 32, J 0, .ref 33, J 0, .null, .null, .null, .null, .null, .null, J 0, .null, .null, .null, J 0, J 0, .null, .null, .null, .null, J 0, J 0, J 0, J 0, J 0, J 0, J 0, J 0, J 0, J 0, .null, .null, .null, .null, .null, J 0, .null, .null, .null, .null, .null, .null, .null, J 0, .null, .null, .null, .null, J 0, J 0, J 0, J 0, .null, .null, .null, J 0]), .inl (1500, fun _ => 0), .inl (1500, fun _ => 0)]) rfl rfl ?_
  refine v_aload_n (dec_of DX9_init 10 rfl) rfl ?_
  refine vi_bi (dec_of DX9_init 11 rfl) (by decide) ?_
  refine v_newa (n := iI 60) (N := 60) (dec_of DX9_init 12 rfl) (by decide) (by decide) (by decide) rfl (by decide) ⟨by decide, by decide⟩ rfl ?_
  refine Vd_n (st' := [.ref 34, .ref 31]) (w' := cls I00 N00 F00 ++ [.inr (6, [.ref 32, J 0, .ref 33, J 0, .null, .null, .null, .null, .null, .null, J 0, .null, .null, .null, J 0, J 0, .null, .null, .null, .null, J 0, J 0, J 0, J 0, J 0, J 0, J 0, J 0, J 0, J 0, .null, .null, .null, .null, .null, J 0, .null, .null, .null, .null, .null, .null, .null, J 0, .null, .null, .null, .null, J 0, J 0, J 0, J 0, .null, .null, .null, J 0]), .inl (1500, fun _ => 0), .inl (1500, fun _ => 0), .inl (60, fun _ => 0)]) rfl rfl ?_
  refine v_putF fX9_16 (fun q h => by cases h; rfl) rfl (dec_of DX9_init 13 rfl) rfl (by decide) (fun _ => rfl) (fun _ => rfl) ?_
  refine Vd_n (st' := []) (w' := cls I00 N00 F00 ++ [.inr (6, [.ref 32, J 0, .ref 33, J 0, .ref 34, .null, .null, .null, .null, .null, J 0, .null, .null, .null, J 0, J 0, .null, .null, .null, .null, J 0, J 0, J 0, J 0, J 0, J 0, J 0, J 0, J 0, J 0, .null, .null, .null, .null, .null, J 0, .null, .null, .null, .null, .null, .null, .null, J 0, .null, .null, .null, .null, J 0, J 0, J 0, J 0, .null, .null, .null, J 0]), .inl (1500, fun _ => 0), .inl (1500, fun _ => 0), .inl (60, fun _ => 0)]) rfl rfl ?_
  refine v_aload_n (dec_of DX9_init 14 rfl) rfl ?_
  refine vi_bi (dec_of DX9_init 15 rfl) (by decide) ?_
  refine v_newa (n := iI 60) (N := 60) (dec_of DX9_init 16 rfl) (by decide) (by decide) (by decide) rfl (by decide) ⟨by decide, by decide⟩ rfl ?_
  refine Vd_n (st' := [.ref 35, .ref 31]) (w' := cls I00 N00 F00 ++ [.inr (6, [.ref 32, J 0, .ref 33, J 0, .ref 34, .null, .null, .null, .null, .null, J 0, .null, .null, .null, J 0, J 0, .null, .null, .null, .null, J 0, J 0, J 0, J 0, J 0, J 0, J 0, J 0, J 0, J 0, .null, .null, .null, .null, .null, J 0, .null, .null, .null, .null, .null, .null, .null, J 0, .null, .null, .null, .null, J 0, J 0, J 0, J 0, .null, .null, .null, J 0]), .inl (1500, fun _ => 0), .inl (1500, fun _ => 0), .inl (60, fun _ => 0), .inl (60, fun _ => 0)]) rfl rfl ?_
  refine v_putF fX9_19 (fun q h => by cases h; rfl) rfl (dec_of DX9_init 17 rfl) rfl (by decide) (fun _ => rfl) (fun _ => rfl) ?_
  refine Vd_n (st' := []) (w' := cls I00 N00 F00 ++ [.inr (6, [.ref 32, J 0, .ref 33, J 0, .ref 34, .ref 35, .null, .null, .null, .null, J 0, .null, .null, .null, J 0, J 0, .null, .null, .null, .null, J 0, J 0, J 0, J 0, J 0, J 0, J 0, J 0, J 0, J 0, .null, .null, .null, .null, .null, J 0, .null, .null, .null, .null, .null, .null, .null, J 0, .null, .null, .null, .null, J 0, J 0, J 0, J 0, .null, .null, .null, J 0]), .inl (1500, fun _ => 0), .inl (1500, fun _ => 0), .inl (60, fun _ => 0), .inl (60, fun _ => 0)]) rfl rfl ?_
  refine v_aload_n (dec_of DX9_init 18 rfl) rfl ?_
  refine vi_bi (dec_of DX9_init 19 rfl) (by decide) ?_
  refine v_newa (n := iI 60) (N := 60) (dec_of DX9_init 20 rfl) (by decide) (by decide) (by decide) rfl (by decide) ⟨by decide, by decide⟩ rfl ?_
  refine Vd_n (st' := [.ref 36, .ref 31]) (w' := cls I00 N00 F00 ++ [.inr (6, [.ref 32, J 0, .ref 33, J 0, .ref 34, .ref 35, .null, .null, .null, .null, J 0, .null, .null, .null, J 0, J 0, .null, .null, .null, .null, J 0, J 0, J 0, J 0, J 0, J 0, J 0, J 0, J 0, J 0, .null, .null, .null, .null, .null, J 0, .null, .null, .null, .null, .null, .null, .null, J 0, .null, .null, .null, .null, J 0, J 0, J 0, J 0, .null, .null, .null, J 0]), .inl (1500, fun _ => 0), .inl (1500, fun _ => 0), .inl (60, fun _ => 0), .inl (60, fun _ => 0), .inl (60, fun _ => 0)]) rfl rfl ?_
  refine v_putF fX9_22 (fun q h => by cases h; rfl) rfl (dec_of DX9_init 21 rfl) rfl (by decide) (fun _ => rfl) (fun _ => rfl) ?_
  refine Vd_n (st' := []) (w' := cls I00 N00 F00 ++ [.inr (6, [.ref 32, J 0, .ref 33, J 0, .ref 34, .ref 35, .ref 36, .null, .null, .null, J 0, .null, .null, .null, J 0, J 0, .null, .null, .null, .null, J 0, J 0, J 0, J 0, J 0, J 0, J 0, J 0, J 0, J 0, .null, .null, .null, .null, .null, J 0, .null, .null, .null, .null, .null, .null, .null, J 0, .null, .null, .null, .null, J 0, J 0, J 0, J 0, .null, .null, .null, J 0]), .inl (1500, fun _ => 0), .inl (1500, fun _ => 0), .inl (60, fun _ => 0), .inl (60, fun _ => 0), .inl (60, fun _ => 0)]) rfl rfl ?_
  refine v_aload_n (dec_of DX9_init 22 rfl) rfl ?_
  refine vi_bi (dec_of DX9_init 23 rfl) (by decide) ?_
  refine v_newa (n := iI 60) (N := 60) (dec_of DX9_init 24 rfl) (by decide) (by decide) (by decide) rfl (by decide) ⟨by decide, by decide⟩ rfl ?_
  refine Vd_n (st' := [.ref 37, .ref 31]) (w' := cls I00 N00 F00 ++ [.inr (6, [.ref 32, J 0, .ref 33, J 0, .ref 34, .ref 35, .ref 36, .null, .null, .null, J 0, .null, .null, .null, J 0, J 0, .null, .null, .null, .null, J 0, J 0, J 0, J 0, J 0, J 0, J 0, J 0, J 0, J 0, .null, .null, .null, .null, .null, J 0, .null, .null, .null, .null, .null, .null, .null, J 0, .null, .null, .null, .null, J 0, J 0, J 0, J 0, .null, .null, .null, J 0]), .inl (1500, fun _ => 0), .inl (1500, fun _ => 0), .inl (60, fun _ => 0), .inl (60, fun _ => 0), .inl (60, fun _ => 0), .inl (60, fun _ => 0)]) rfl rfl ?_
  refine v_putF fX9_25 (fun q h => by cases h; rfl) rfl (dec_of DX9_init 25 rfl) rfl (by decide) (fun _ => rfl) (fun _ => rfl) ?_
  refine Vd_n (st' := []) (w' := cls I00 N00 F00 ++ [.inr (6, [.ref 32, J 0, .ref 33, J 0, .ref 34, .ref 35, .ref 36, .ref 37, .null, .null, J 0, .null, .null, .null, J 0, J 0, .null, .null, .null, .null, J 0, J 0, J 0, J 0, J 0, J 0, J 0, J 0, J 0, J 0, .null, .null, .null, .null, .null, J 0, .null, .null, .null, .null, .null, .null, .null, J 0, .null, .null, .null, .null, J 0, J 0, J 0, J 0, .null, .null, .null, J 0]), .inl (1500, fun _ => 0), .inl (1500, fun _ => 0), .inl (60, fun _ => 0), .inl (60, fun _ => 0), .inl (60, fun _ => 0), .inl (60, fun _ => 0)]) rfl rfl ?_
  refine v_aload_n (dec_of DX9_init 26 rfl) rfl ?_
  refine vi_bi (dec_of DX9_init 27 rfl) (by decide) ?_
  refine v_newa (n := iI 60) (N := 60) (dec_of DX9_init 28 rfl) (by decide) (by decide) (by decide) rfl (by decide) ⟨by decide, by decide⟩ rfl ?_
  refine Vd_n (st' := [.ref 38, .ref 31]) (w' := cls I00 N00 F00 ++ [.inr (6, [.ref 32, J 0, .ref 33, J 0, .ref 34, .ref 35, .ref 36, .ref 37, .null, .null, J 0, .null, .null, .null, J 0, J 0, .null, .null, .null, .null, J 0, J 0, J 0, J 0, J 0, J 0, J 0, J 0, J 0, J 0, .null, .null, .null, .null, .null, J 0, .null, .null, .null, .null, .null, .null, .null, J 0, .null, .null, .null, .null, J 0, J 0, J 0, J 0, .null, .null, .null, J 0]), .inl (1500, fun _ => 0), .inl (1500, fun _ => 0), .inl (60, fun _ => 0), .inl (60, fun _ => 0), .inl (60, fun _ => 0), .inl (60, fun _ => 0), .inl (60, fun _ => 0)]) rfl rfl ?_
  refine v_putF fX9_28 (fun q h => by cases h; rfl) rfl (dec_of DX9_init 29 rfl) rfl (by decide) (fun _ => rfl) (fun _ => rfl) ?_
  refine Vd_n (st' := []) (w' := cls I00 N00 F00 ++ [.inr (6, [.ref 32, J 0, .ref 33, J 0, .ref 34, .ref 35, .ref 36, .ref 37, .ref 38, .null, J 0, .null, .null, .null, J 0, J 0, .null, .null, .null, .null, J 0, J 0, J 0, J 0, J 0, J 0, J 0, J 0, J 0, J 0, .null, .null, .null, .null, .null, J 0, .null, .null, .null, .null, .null, .null, .null, J 0, .null, .null, .null, .null, J 0, J 0, J 0, J 0, .null, .null, .null, J 0]), .inl (1500, fun _ => 0), .inl (1500, fun _ => 0), .inl (60, fun _ => 0), .inl (60, fun _ => 0), .inl (60, fun _ => 0), .inl (60, fun _ => 0), .inl (60, fun _ => 0)]) rfl rfl ?_
  refine v_aload_n (dec_of DX9_init 30 rfl) rfl ?_
  refine vi_bi (dec_of DX9_init 31 rfl) (by decide) ?_
  refine v_newa (n := iI 61) (N := 61) (dec_of DX9_init 32 rfl) (by decide) (by decide) (by decide) rfl (by decide) ⟨by decide, by decide⟩ rfl ?_
  refine Vd_n (st' := [.ref 39, .ref 31]) (w' := cls I00 N00 F00 ++ [.inr (6, [.ref 32, J 0, .ref 33, J 0, .ref 34, .ref 35, .ref 36, .ref 37, .ref 38, .null, J 0, .null, .null, .null, J 0, J 0, .null, .null, .null, .null, J 0, J 0, J 0, J 0, J 0, J 0, J 0, J 0, J 0, J 0, .null, .null, .null, .null, .null, J 0, .null, .null, .null, .null, .null, .null, .null, J 0, .null, .null, .null, .null, J 0, J 0, J 0, J 0, .null, .null, .null, J 0]), .inl (1500, fun _ => 0), .inl (1500, fun _ => 0), .inl (60, fun _ => 0), .inl (60, fun _ => 0), .inl (60, fun _ => 0), .inl (60, fun _ => 0), .inl (60, fun _ => 0), .inl (61, fun _ => 0)]) rfl rfl ?_
  refine v_putF fX9_31 (fun q h => by cases h; rfl) rfl (dec_of DX9_init 33 rfl) rfl (by decide) (fun _ => rfl) (fun _ => rfl) ?_
  refine Vd_n (st' := []) (w' := cls I00 N00 F00 ++ [.inr (6, [.ref 32, J 0, .ref 33, J 0, .ref 34, .ref 35, .ref 36, .ref 37, .ref 38, .ref 39, J 0, .null, .null, .null, J 0, J 0, .null, .null, .null, .null, J 0, J 0, J 0, J 0, J 0, J 0, J 0, J 0, J 0, J 0, .null, .null, .null, .null, .null, J 0, .null, .null, .null, .null, .null, .null, .null, J 0, .null, .null, .null, .null, J 0, J 0, J 0, J 0, .null, .null, .null, J 0]), .inl (1500, fun _ => 0), .inl (1500, fun _ => 0), .inl (60, fun _ => 0), .inl (60, fun _ => 0), .inl (60, fun _ => 0), .inl (60, fun _ => 0), .inl (60, fun _ => 0), .inl (61, fun _ => 0)]) rfl rfl ?_
  refine v_aload_n (dec_of DX9_init 34 rfl) rfl ?_
  refine vi_si (dec_of DX9_init 35 rfl) (by decide) ?_
  refine v_newa (n := iI 300) (N := 300) (dec_of DX9_init 36 rfl) (by decide) (by decide) (by decide) rfl (by decide) ⟨by decide, by decide⟩ rfl ?_
  refine Vd_n (st' := [.ref 40, .ref 31]) (w' := cls I00 N00 F00 ++ [.inr (6, [.ref 32, J 0, .ref 33, J 0, .ref 34, .ref 35, .ref 36, .ref 37, .ref 38, .ref 39, J 0, .null, .null, .null, J 0, J 0, .null, .null, .null, .null, J 0, J 0, J 0, J 0, J 0, J 0, J 0, J 0, J 0, J 0, .null, .null, .null, .null, .null, J 0, .null, .null, .null, .null, .null, .null, .null, J 0, .null, .null, .null, .null, J 0, J 0, J 0, J 0, .null, .null, .null, J 0]), .inl (1500, fun _ => 0), .inl (1500, fun _ => 0), .inl (60, fun _ => 0), .inl (60, fun _ => 0), .inl (60, fun _ => 0), .inl (60, fun _ => 0), .inl (60, fun _ => 0), .inl (61, fun _ => 0), .inl (300, fun _ => 0)]) rfl rfl ?_
  refine v_putF fX9_34 (fun q h => by cases h; rfl) rfl (dec_of DX9_init 37 rfl) rfl (by decide) (fun _ => rfl) (fun _ => rfl) ?_
  refine Vd_n (st' := []) (w' := cls I00 N00 F00 ++ [.inr (6, [.ref 32, J 0, .ref 33, J 0, .ref 34, .ref 35, .ref 36, .ref 37, .ref 38, .ref 39, J 0, .ref 40, .null, .null, J 0, J 0, .null, .null, .null, .null, J 0, J 0, J 0, J 0, J 0, J 0, J 0, J 0, J 0, J 0, .null, .null, .null, .null, .null, J 0, .null, .null, .null, .null, .null, .null, .null, J 0, .null, .null, .null, .null, J 0, J 0, J 0, J 0, .null, .null, .null, J 0]), .inl (1500, fun _ => 0), .inl (1500, fun _ => 0), .inl (60, fun _ => 0), .inl (60, fun _ => 0), .inl (60, fun _ => 0), .inl (60, fun _ => 0), .inl (60, fun _ => 0), .inl (61, fun _ => 0), .inl (300, fun _ => 0)]) rfl rfl ?_
  refine v_aload_n (dec_of DX9_init 38 rfl) rfl ?_
  refine vi_si (dec_of DX9_init 39 rfl) (by decide) ?_
  refine v_newa (n := iI 300) (N := 300) (dec_of DX9_init 40 rfl) (by decide) (by decide) (by decide) rfl (by decide) ⟨by decide, by decide⟩ rfl ?_
  refine Vd_n (st' := [.ref 41, .ref 31]) (w' := cls I00 N00 F00 ++ [.inr (6, [.ref 32, J 0, .ref 33, J 0, .ref 34, .ref 35, .ref 36, .ref 37, .ref 38, .ref 39, J 0, .ref 40, .null, .null, J 0, J 0, .null, .null, .null, .null, J 0, J 0, J 0, J 0, J 0, J 0, J 0, J 0, J 0, J 0, .null, .null, .null, .null, .null, J 0, .null, .null, .null, .null, .null, .null, .null, J 0, .null, .null, .null, .null, J 0, J 0, J 0, J 0, .null, .null, .null, J 0]), .inl (1500, fun _ => 0), .inl (1500, fun _ => 0), .inl (60, fun _ => 0), .inl (60, fun _ => 0), .inl (60, fun _ => 0), .inl (60, fun _ => 0), .inl (60, fun _ => 0), .inl (61, fun _ => 0), .inl (300, fun _ => 0), .inl (300, fun _ => 0)]) rfl rfl ?_
  refine v_putF fX9_37 (fun q h => by cases h; rfl) rfl (dec_of DX9_init 41 rfl) rfl (by decide) (fun _ => rfl) (fun _ => rfl) ?_
  refine Vd_n (st' := []) (w' := cls I00 N00 F00 ++ [.inr (6, [.ref 32, J 0, .ref 33, J 0, .ref 34, .ref 35, .ref 36, .ref 37, .ref 38, .ref 39, J 0, .ref 40, .ref 41, .null, J 0, J 0, .null, .null, .null, .null, J 0, J 0, J 0, J 0, J 0, J 0, J 0, J 0, J 0, J 0, .null, .null, .null, .null, .null, J 0, .null, .null, .null, .null, .null, .null, .null, J 0, .null, .null, .null, .null, J 0, J 0, J 0, J 0, .null, .null, .null, J 0]), .inl (1500, fun _ => 0), .inl (1500, fun _ => 0), .inl (60, fun _ => 0), .inl (60, fun _ => 0), .inl (60, fun _ => 0), .inl (60, fun _ => 0), .inl (60, fun _ => 0), .inl (61, fun _ => 0), .inl (300, fun _ => 0), .inl (300, fun _ => 0)]) rfl rfl ?_
  refine v_aload_n (dec_of DX9_init 42 rfl) rfl ?_
  refine vi_si (dec_of DX9_init 43 rfl) (by decide) ?_
  refine v_newa (n := iI 300) (N := 300) (dec_of DX9_init 44 rfl) (by decide) (by decide) (by decide) rfl (by decide) ⟨by decide, by decide⟩ rfl ?_
  refine Vd_n (st' := [.ref 42, .ref 31]) (w' := cls I00 N00 F00 ++ [.inr (6, [.ref 32, J 0, .ref 33, J 0, .ref 34, .ref 35, .ref 36, .ref 37, .ref 38, .ref 39, J 0, .ref 40, .ref 41, .null, J 0, J 0, .null, .null, .null, .null, J 0, J 0, J 0, J 0, J 0, J 0, J 0, J 0, J 0, J 0, .null, .null, .null, .null, .null, J 0, .null, .null, .null, .null, .null, .null, .null, J 0, .null, .null, .null, .null, J 0, J 0, J 0, J 0, .null, .null, .null, J 0]), .inl (1500, fun _ => 0), .inl (1500, fun _ => 0), .inl (60, fun _ => 0), .inl (60, fun _ => 0), .inl (60, fun _ => 0), .inl (60, fun _ => 0), .inl (60, fun _ => 0), .inl (61, fun _ => 0), .inl (300, fun _ => 0), .inl (300, fun _ => 0), .inl (300, fun _ => 0)]) rfl rfl ?_
  refine v_putF fX9_40 (fun q h => by cases h; rfl) rfl (dec_of DX9_init 45 rfl) rfl (by decide) (fun _ => rfl) (fun _ => rfl) ?_
  refine Vd_n (st' := []) (w' := cls I00 N00 F00 ++ [.inr (6, [.ref 32, J 0, .ref 33, J 0, .ref 34, .ref 35, .ref 36, .ref 37, .ref 38, .ref 39, J 0, .ref 40, .ref 41, .ref 42, J 0, J 0, .null, .null, .null, .null, J 0, J 0, J 0, J 0, J 0, J 0, J 0, J 0, J 0, J 0, .null, .null, .null, .null, .null, J 0, .null, .null, .null, .null, .null, .null, .null, J 0, .null, .null, .null, .null, J 0, J 0, J 0, J 0, .null, .null, .null, J 0]), .inl (1500, fun _ => 0), .inl (1500, fun _ => 0), .inl (60, fun _ => 0), .inl (60, fun _ => 0), .inl (60, fun _ => 0), .inl (60, fun _ => 0), .inl (60, fun _ => 0), .inl (61, fun _ => 0), .inl (300, fun _ => 0), .inl (300, fun _ => 0), .inl (300, fun _ => 0)]) rfl rfl ?_
  refine v_aload_n (dec_of DX9_init 46 rfl) rfl ?_
  refine vi_si (dec_of DX9_init 47 rfl) (by decide) ?_
  refine v_newa (n := iI 150) (N := 150) (dec_of DX9_init 48 rfl) (by decide) (by decide) (by decide) rfl (by decide) ⟨by decide, by decide⟩ rfl ?_
  refine Vd_n (st' := [.ref 43, .ref 31]) (w' := cls I00 N00 F00 ++ [.inr (6, [.ref 32, J 0, .ref 33, J 0, .ref 34, .ref 35, .ref 36, .ref 37, .ref 38, .ref 39, J 0, .ref 40, .ref 41, .ref 42, J 0, J 0, .null, .null, .null, .null, J 0, J 0, J 0, J 0, J 0, J 0, J 0, J 0, J 0, J 0, .null, .null, .null, .null, .null, J 0, .null, .null, .null, .null, .null, .null, .null, J 0, .null, .null, .null, .null, J 0, J 0, J 0, J 0, .null, .null, .null, J 0]), .inl (1500, fun _ => 0), .inl (1500, fun _ => 0), .inl (60, fun _ => 0), .inl (60, fun _ => 0), .inl (60, fun _ => 0), .inl (60, fun _ => 0), .inl (60, fun _ => 0), .inl (61, fun _ => 0), .inl (300, fun _ => 0), .inl (300, fun _ => 0), .inl (300, fun _ => 0), .inl (150, fun _ => 0)]) rfl rfl ?_
  refine v_putF fX9_43 (fun q h => by cases h; rfl) rfl (dec_of DX9_init 49 rfl) rfl (by decide) (fun _ => rfl) (fun _ => rfl) ?_
  refine Vd_n (st' := []) (w' := cls I00 N00 F00 ++ [.inr (6, [.ref 32, J 0, .ref 33, J 0, .ref 34, .ref 35, .ref 36, .ref 37, .ref 38, .ref 39, J 0, .ref 40, .ref 41, .ref 42, J 0, J 0, .ref 43, .null, .null, .null, J 0, J 0, J 0, J 0, J 0, J 0, J 0, J 0, J 0, J 0, .null, .null, .null, .null, .null, J 0, .null, .null, .null, .null, .null, .null, .null, J 0, .null, .null, .null, .null, J 0, J 0, J 0, J 0, .null, .null, .null, J 0]), .inl (1500, fun _ => 0), .inl (1500, fun _ => 0), .inl (60, fun _ => 0), .inl (60, fun _ => 0), .inl (60, fun _ => 0), .inl (60, fun _ => 0), .inl (60, fun _ => 0), .inl (61, fun _ => 0), .inl (300, fun _ => 0), .inl (300, fun _ => 0), .inl (300, fun _ => 0), .inl (150, fun _ => 0)]) rfl rfl ?_
  refine v_aload_n (dec_of DX9_init 50 rfl) rfl ?_
  refine vi_si (dec_of DX9_init 51 rfl) (by decide) ?_
  refine v_newa (n := iI 150) (N := 150) (dec_of DX9_init 52 rfl) (by decide) (by decide) (by decide) rfl (by decide) ⟨by decide, by decide⟩ rfl ?_
  refine Vd_n (st' := [.ref 44, .ref 31]) (w' := cls I00 N00 F00 ++ [.inr (6, [.ref 32, J 0, .ref 33, J 0, .ref 34, .ref 35, .ref 36, .ref 37, .ref 38, .ref 39, J 0, .ref 40, .ref 41, .ref 42, J 0, J 0, .ref 43, .null, .null, .null, J 0, J 0, J 0, J 0, J 0, J 0, J 0, J 0, J 0, J 0, .null, .null, .null, .null, .null, J 0, .null, .null, .null, .null, .null, .null, .null, J 0, .null, .null, .null, .null, J 0, J 0, J 0, J 0, .null, .null, .null, J 0]), .inl (1500, fun _ => 0), .inl (1500, fun _ => 0), .inl (60, fun _ => 0), .inl (60, fun _ => 0), .inl (60, fun _ => 0), .inl (60, fun _ => 0), .inl (60, fun _ => 0), .inl (61, fun _ => 0), .inl (300, fun _ => 0), .inl (300, fun _ => 0), .inl (300, fun _ => 0), .inl (150, fun _ => 0), .inl (150, fun _ => 0)]) rfl rfl ?_
  refine v_putF fX9_46 (fun q h => by cases h; rfl) rfl (dec_of DX9_init 53 rfl) rfl (by decide) (fun _ => rfl) (fun _ => rfl) ?_
  refine Vd_n (st' := []) (w' := cls I00 N00 F00 ++ [.inr (6, [.ref 32, J 0, .ref 33, J 0, .ref 34, .ref 35, .ref 36, .ref 37, .ref 38, .ref 39, J 0, .ref 40, .ref 41, .ref 42, J 0, J 0, .ref 43, .ref 44, .null, .null, J 0, J 0, J 0, J 0, J 0, J 0, J 0, J 0, J 0, J 0, .null, .null, .null, .null, .null, J 0, .null, .null, .null, .null, .null, .null, .null, J 0, .null, .null, .null, .null, J 0, J 0, J 0, J 0, .null, .null, .null, J 0]), .inl (1500, fun _ => 0), .inl (1500, fun _ => 0), .inl (60, fun _ => 0), .inl (60, fun _ => 0), .inl (60, fun _ => 0), .inl (60, fun _ => 0), .inl (60, fun _ => 0), .inl (61, fun _ => 0), .inl (300, fun _ => 0), .inl (300, fun _ => 0), .inl (300, fun _ => 0), .inl (150, fun _ => 0), .inl (150, fun _ => 0)]) rfl rfl ?_
  refine v_aload_n (dec_of DX9_init 54 rfl) rfl ?_
  refine vi_si (dec_of DX9_init 55 rfl) (by decide) ?_
  refine v_newa (n := iI 150) (N := 150) (dec_of DX9_init 56 rfl) (by decide) (by decide) (by decide) rfl (by decide) ⟨by decide, by decide⟩ rfl ?_
  refine Vd_n (st' := [.ref 45, .ref 31]) (w' := cls I00 N00 F00 ++ [.inr (6, [.ref 32, J 0, .ref 33, J 0, .ref 34, .ref 35, .ref 36, .ref 37, .ref 38, .ref 39, J 0, .ref 40, .ref 41, .ref 42, J 0, J 0, .ref 43, .ref 44, .null, .null, J 0, J 0, J 0, J 0, J 0, J 0, J 0, J 0, J 0, J 0, .null, .null, .null, .null, .null, J 0, .null, .null, .null, .null, .null, .null, .null, J 0, .null, .null, .null, .null, J 0, J 0, J 0, J 0, .null, .null, .null, J 0]), .inl (1500, fun _ => 0), .inl (1500, fun _ => 0), .inl (60, fun _ => 0), .inl (60, fun _ => 0), .inl (60, fun _ => 0), .inl (60, fun _ => 0), .inl (60, fun _ => 0), .inl (61, fun _ => 0), .inl (300, fun _ => 0), .inl (300, fun _ => 0), .inl (300, fun _ => 0), .inl (150, fun _ => 0), .inl (150, fun _ => 0), .inl (150, fun _ => 0)]) rfl rfl ?_
  refine v_putF fX9_49 (fun q h => by cases h; rfl) rfl (dec_of DX9_init 57 rfl) rfl (by decide) (fun _ => rfl) (fun _ => rfl) ?_
  refine Vd_n (st' := []) (w' := cls I00 N00 F00 ++ [.inr (6, [.ref 32, J 0, .ref 33, J 0, .ref 34, .ref 35, .ref 36, .ref 37, .ref 38, .ref 39, J 0, .ref 40, .ref 41, .ref 42, J 0, J 0, .ref 43, .ref 44, .ref 45, .null, J 0, J 0, J 0, J 0, J 0, J 0, J 0, J 0, J 0, J 0, .null, .null, .null, .null, .null, J 0, .null, .null, .null, .null, .null, .null, .null, J 0, .null, .null, .null, .null, J 0, J 0, J 0, J 0, .null, .null, .null, J 0]), .inl (1500, fun _ => 0), .inl (1500, fun _ => 0), .inl (60, fun _ => 0), .inl (60, fun _ => 0), .inl (60, fun _ => 0), .inl (60, fun _ => 0), .inl (60, fun _ => 0), .inl (61, fun _ => 0), .inl (300, fun _ => 0), .inl (300, fun _ => 0), .inl (300, fun _ => 0), .inl (150, fun _ => 0), .inl (150, fun _ => 0), .inl (150, fun _ => 0)]) rfl rfl ?_
  refine v_aload_n (dec_of DX9_init 58 rfl) rfl ?_
  refine vi_si (dec_of DX9_init 59 rfl) (by decide) ?_
  refine v_newa (n := iI 150) (N := 150) (dec_of DX9_init 60 rfl) (by decide) (by decide) (by decide) rfl (by decide) ⟨by decide, by decide⟩ rfl ?_
  refine Vd_n (st' := [.ref 46, .ref 31]) (w' := cls I00 N00 F00 ++ [.inr (6, [.ref 32, J 0, .ref 33, J 0, .ref 34, .ref 35, .ref 36, .ref 37, .ref 38, .ref 39, J 0, .ref 40, .ref 41, .ref 42, J 0, J 0, .ref 43, .ref 44, .ref 45, .null, J 0, J 0, J 0, J 0, J 0, J 0, J 0, J 0, J 0, J 0, .null, .null, .null, .null, .null, J 0, .null, .null, .null, .null, .null, .null, .null, J 0, .null, .null, .null, .null, J 0, J 0, J 0, J 0, .null, .null, .null, J 0]), .inl (1500, fun _ => 0), .inl (1500, fun _ => 0), .inl (60, fun _ => 0), .inl (60, fun _ => 0), .inl (60, fun _ => 0), .inl (60, fun _ => 0), .inl (60, fun _ => 0), .inl (61, fun _ => 0), .inl (300, fun _ => 0), .inl (300, fun _ => 0), .inl (300, fun _ => 0), .inl (150, fun _ => 0), .inl (150, fun _ => 0), .inl (150, fun _ => 0), .inl (150, fun _ => 0)]) rfl rfl ?_
  refine v_putF fX9_52 (fun q h => by cases h; rfl) rfl (dec_of DX9_init 61 rfl) rfl (by decide) (fun _ => rfl) (fun _ => rfl) ?_
  refine Vd_n (st' := []) (w' := cls I00 N00 F00 ++ [.inr (6, [.ref 32, J 0, .ref 33, J 0, .ref 34, .ref 35, .ref 36, .ref 37, .ref 38, .ref 39, J 0, .ref 40, .ref 41, .ref 42, J 0, J 0, .ref 43, .ref 44, .ref 45, .ref 46, J 0, J 0, J 0, J 0, J 0, J 0, J 0, J 0, J 0, J 0, .null, .null, .null, .null, .null, J 0, .null, .null, .null, .null, .null, .null, .null, J 0, .null, .null, .null, .null, J 0, J 0, J 0, J 0, .null, .null, .null, J 0]), .inl (1500, fun _ => 0), .inl (1500, fun _ => 0), .inl (60, fun _ => 0), .inl (60, fun _ => 0), .inl (60, fun _ => 0), .inl (60, fun _ => 0), .inl (60, fun _ => 0), .inl (61, fun _ => 0), .inl (300, fun _ => 0), .inl (300, fun _ => 0), .inl (300, fun _ => 0), .inl (150, fun _ => 0), .inl (150, fun _ => 0), .inl (150, fun _ => 0), .inl (150, fun _ => 0)]) rfl rfl ?_
  refine v_aload_n (dec_of DX9_init 62 rfl) rfl ?_
  refine vi_bi (dec_of DX9_init 63 rfl) (by decide) ?_
  refine vi_put fX9_55 (dec_of DX9_init 64 rfl) rfl (by decide) ?_
  refine Vd_n (st' := []) (w' := cls I00 N00 F00 ++ [.inr (6, [.ref 32, J 0, .ref 33, J 0, .ref 34, .ref 35, .ref 36, .ref 37, .ref 38, .ref 39, J 0, .ref 40, .ref 41, .ref 42, J 0, J 0, .ref 43, .ref 44, .ref 45, .ref 46, J 0, J 0, J 0, J 0, J 0, J 0, J 0, J (-100), J 0, J 0, .null, .null, .null, .null, .null, J 0, .null, .null, .null, .null, .null, .null, .null, J 0, .null, .null, .null, .null, J 0, J 0, J 0, J 0, .null, .null, .null, J 0]), .inl (1500, fun _ => 0), .inl (1500, fun _ => 0), .inl (60, fun _ => 0), .inl (60, fun _ => 0), .inl (60, fun _ => 0), .inl (60, fun _ => 0), .inl (60, fun _ => 0), .inl (61, fun _ => 0), .inl (300, fun _ => 0), .inl (300, fun _ => 0), .inl (300, fun _ => 0), .inl (150, fun _ => 0), .inl (150, fun _ => 0), .inl (150, fun _ => 0), .inl (150, fun _ => 0)]) rfl rfl ?_
  refine v_aload_n (dec_of DX9_init 65 rfl) rfl ?_
  refine vi_si (dec_of DX9_init 66 rfl) (by decide) ?_
  refine v_newa (n := iI 150) (N := 150) (dec_of DX9_init 67 rfl) (by decide) (by decide) (by decide) rfl (by decide) ⟨by decide, by decide⟩ rfl ?_
  refine Vd_n (st' := [.ref 47, .ref 31]) (w' := cls I00 N00 F00 ++ [.inr (6, [.ref 32, J 0, .ref 33, J 0, .ref 34, .ref 35, .ref 36, .ref 37, .ref 38, .ref 39, J 0, .ref 40, .ref 41, .ref 42, J 0, J 0, .ref 43, .ref 44, .ref 45, .ref 46, J 0, J 0, J 0, J 0, J 0, J 0, J 0, J (-100), J 0, J 0, .null, .null, .null, .null, .null, J 0, .null, .null, .null, .null, .null, .null, .null, J 0, .null, .null, .null, .null, J 0, J 0, J 0, J 0, .null, .null, .null, J 0]), .inl (1500, fun _ => 0), .inl (1500, fun _ => 0), .inl (60, fun _ => 0), .inl (60, fun _ => 0), .inl (60, fun _ => 0), .inl (60, fun _ => 0), .inl (60, fun _ => 0), .inl (61, fun _ => 0), .inl (300, fun _ => 0), .inl (300, fun _ => 0), .inl (300, fun _ => 0), .inl (150, fun _ => 0), .inl (150, fun _ => 0), .inl (150, fun _ => 0), .inl (150, fun _ => 0), .inl (150, fun _ => 0)]) rfl rfl ?_
  refine v_putF fX9_59 (fun q h => by cases h; rfl) rfl (dec_of DX9_init 68 rfl) rfl (by decide) (fun _ => rfl) (fun _ => rfl) ?_
  refine Vd_n (st' := []) (w' := cls I00 N00 F00 ++ [.inr (6, [.ref 32, J 0, .ref 33, J 0, .ref 34, .ref 35, .ref 36, .ref 37, .ref 38, .ref 39, J 0, .ref 40, .ref 41, .ref 42, J 0, J 0, .ref 43, .ref 44, .ref 45, .ref 46, J 0, J 0, J 0, J 0, J 0, J 0, J 0, J (-100), J 0, J 0, .ref 47, .null, .null, .null, .null, J 0, .null, .null, .null, .null, .null, .null, .null, J 0, .null, .null, .null, .null, J 0, J 0, J 0, J 0, .null, .null, .null, J 0]), .inl (1500, fun _ => 0), .inl (1500, fun _ => 0), .inl (60, fun _ => 0), .inl (60, fun _ => 0), .inl (60, fun _ => 0), .inl (60, fun _ => 0), .inl (60, fun _ => 0), .inl (61, fun _ => 0), .inl (300, fun _ => 0), .inl (300, fun _ => 0), .inl (300, fun _ => 0), .inl (150, fun _ => 0), .inl (150, fun _ => 0), .inl (150, fun _ => 0), .inl (150, fun _ => 0), .inl (150, fun _ => 0)]) rfl rfl ?_
  refine v_aload_n (dec_of DX9_init 69 rfl) rfl ?_
  refine vi_si (dec_of DX9_init 70 rfl) (by decide) ?_
  refine v_newa (n := iI 150) (N := 150) (dec_of DX9_init 71 rfl) (by decide) (by decide) (by decide) rfl (by decide) ⟨by decide, by decide⟩ rfl ?_
  refine Vd_n (st' := [.ref 48, .ref 31]) (w' := cls I00 N00 F00 ++ [.inr (6, [.ref 32, J 0, .ref 33, J 0, .ref 34, .ref 35, .ref 36, .ref 37, .ref 38, .ref 39, J 0, .ref 40, .ref 41, .ref 42, J 0, J 0, .ref 43, .ref 44, .ref 45, .ref 46, J 0, J 0, J 0, J 0, J 0, J 0, J 0, J (-100), J 0, J 0, .ref 47, .null, .null, .null, .null, J 0, .null, .null, .null, .null, .null, .null, .null, J 0, .null, .null, .null, .null, J 0, J 0, J 0, J 0, .null, .null, .null, J 0]), .inl (1500, fun _ => 0), .inl (1500, fun _ => 0), .inl (60, fun _ => 0), .inl (60, fun _ => 0), .inl (60, fun _ => 0), .inl (60, fun _ => 0), .inl (60, fun _ => 0), .inl (61, fun _ => 0), .inl (300, fun _ => 0), .inl (300, fun _ => 0), .inl (300, fun _ => 0), .inl (150, fun _ => 0), .inl (150, fun _ => 0), .inl (150, fun _ => 0), .inl (150, fun _ => 0), .inl (150, fun _ => 0), .inl (150, fun _ => 0)]) rfl rfl ?_
  refine v_putF fX9_62 (fun q h => by cases h; rfl) rfl (dec_of DX9_init 72 rfl) rfl (by decide) (fun _ => rfl) (fun _ => rfl) ?_
  refine Vd_n (st' := []) (w' := cls I00 N00 F00 ++ [.inr (6, [.ref 32, J 0, .ref 33, J 0, .ref 34, .ref 35, .ref 36, .ref 37, .ref 38, .ref 39, J 0, .ref 40, .ref 41, .ref 42, J 0, J 0, .ref 43, .ref 44, .ref 45, .ref 46, J 0, J 0, J 0, J 0, J 0, J 0, J 0, J (-100), J 0, J 0, .ref 47, .ref 48, .null, .null, .null, J 0, .null, .null, .null, .null, .null, .null, .null, J 0, .null, .null, .null, .null, J 0, J 0, J 0, J 0, .null, .null, .null, J 0]), .inl (1500, fun _ => 0), .inl (1500, fun _ => 0), .inl (60, fun _ => 0), .inl (60, fun _ => 0), .inl (60, fun _ => 0), .inl (60, fun _ => 0), .inl (60, fun _ => 0), .inl (61, fun _ => 0), .inl (300, fun _ => 0), .inl (300, fun _ => 0), .inl (300, fun _ => 0), .inl (150, fun _ => 0), .inl (150, fun _ => 0), .inl (150, fun _ => 0), .inl (150, fun _ => 0), .inl (150, fun _ => 0), .inl (150, fun _ => 0)]) rfl rfl ?_
  refine v_aload_n (dec_of DX9_init 73 rfl) rfl ?_
  refine vi_bi (dec_of DX9_init 74 rfl) (by decide) ?_
  refine v_newa (n := iI 20) (N := 20) (dec_of DX9_init 75 rfl) (by decide) (by decide) (by decide) rfl (by decide) ⟨by decide, by decide⟩ rfl ?_
  refine Vd_n (st' := [.ref 49, .ref 31]) (w' := cls I00 N00 F00 ++ [.inr (6, [.ref 32, J 0, .ref 33, J 0, .ref 34, .ref 35, .ref 36, .ref 37, .ref 38, .ref 39, J 0, .ref 40, .ref 41, .ref 42, J 0, J 0, .ref 43, .ref 44, .ref 45, .ref 46, J 0, J 0, J 0, J 0, J 0, J 0, J 0, J (-100), J 0, J 0, .ref 47, .ref 48, .null, .null, .null, J 0, .null, .null, .null, .null, .null, .null, .null, J 0, .null, .null, .null, .null, J 0, J 0, J 0, J 0, .null, .null, .null, J 0]), .inl (1500, fun _ => 0), .inl (1500, fun _ => 0), .inl (60, fun _ => 0), .inl (60, fun _ => 0), .inl (60, fun _ => 0), .inl (60, fun _ => 0), .inl (60, fun _ => 0), .inl (61, fun _ => 0), .inl (300, fun _ => 0), .inl (300, fun _ => 0), .inl (300, fun _ => 0), .inl (150, fun _ => 0), .inl (150, fun _ => 0), .inl (150, fun _ => 0), .inl (150, fun _ => 0), .inl (150, fun _ => 0), .inl (150, fun _ => 0), .inl (20, fun _ => 0)]) rfl rfl ?_
  refine v_putF fX9_65 (fun q h => by cases h; rfl) rfl (dec_of DX9_init 76 rfl) rfl (by decide) (fun _ => rfl) (fun _ => rfl) ?_
  refine Vd_n (st' := []) (w' := cls I00 N00 F00 ++ [.inr (6, [.ref 32, J 0, .ref 33, J 0, .ref 34, .ref 35, .ref 36, .ref 37, .ref 38, .ref 39, J 0, .ref 40, .ref 41, .ref 42, J 0, J 0, .ref 43, .ref 44, .ref 45, .ref 46, J 0, J 0, J 0, J 0, J 0, J 0, J 0, J (-100), J 0, J 0, .ref 47, .ref 48, .ref 49, .null, .null, J 0, .null, .null, .null, .null, .null, .null, .null, J 0, .null, .null, .null, .null, J 0, J 0, J 0, J 0, .null, .null, .null, J 0]), .inl (1500, fun _ => 0), .inl (1500, fun _ => 0), .inl (60, fun _ => 0), .inl (60, fun _ => 0), .inl (60, fun _ => 0), .inl (60, fun _ => 0), .inl (60, fun _ => 0), .inl (61, fun _ => 0), .inl (300, fun _ => 0), .inl (300, fun _ => 0), .inl (300, fun _ => 0), .inl (150, fun _ => 0), .inl (150, fun _ => 0), .inl (150, fun _ => 0), .inl (150, fun _ => 0), .inl (150, fun _ => 0), .inl (150, fun _ => 0), .inl (20, fun _ => 0)]) rfl rfl ?_
  refine v_aload_n (dec_of DX9_init 77 rfl) rfl ?_
  refine vi_bi (dec_of DX9_init 78 rfl) (by decide) ?_
  refine v_newa (n := iI 13) (N := 13) (dec_of DX9_init 79 rfl) (by decide) (by decide) (by decide) rfl (by decide) ⟨by decide, by decide⟩ rfl ?_
  refine Vd_n (st' := [.ref 50, .ref 31]) (w' := cls I00 N00 F00 ++ [.inr (6, [.ref 32, J 0, .ref 33, J 0, .ref 34, .ref 35, .ref 36, .ref 37, .ref 38, .ref 39, J 0, .ref 40, .ref 41, .ref 42, J 0, J 0, .ref 43, .ref 44, .ref 45, .ref 46, J 0, J 0, J 0, J 0, J 0, J 0, J 0, J (-100), J 0, J 0, .ref 47, .ref 48, .ref 49, .null, .null, J 0, .null, .null, .null, .null, .null, .null, .null, J 0, .null, .null, .null, .null, J 0, J 0, J 0, J 0, .null, .null, .null, J 0]), .inl (1500, fun _ => 0), .inl (1500, fun _ => 0), .inl (60, fun _ => 0), .inl (60, fun _ => 0), .inl (60, fun _ => 0), .inl (60, fun _ => 0), .inl (60, fun _ => 0), .inl (61, fun _ => 0), .inl (300, fun _ => 0), .inl (300, fun _ => 0), .inl (300, fun _ => 0), .inl (150, fun _ => 0), .inl (150, fun _ => 0), .inl (150, fun _ => 0), .inl (150, fun _ => 0), .inl (150, fun _ => 0), .inl (150, fun _ => 0), .inl (20, fun _ => 0), .inl (13, fun _ => 0)]) rfl rfl ?_
  refine v_putF fX9_68 (fun q h => by cases h; rfl) rfl (dec_of DX9_init 80 rfl) rfl (by decide) (fun _ => rfl) (fun _ => rfl) ?_
  refine Vd_n (st' := []) (w' := cls I00 N00 F00 ++ [.inr (6, [.ref 32, J 0, .ref 33, J 0, .ref 34, .ref 35, .ref 36, .ref 37, .ref 38, .ref 39, J 0, .ref 40, .ref 41, .ref 42, J 0, J 0, .ref 43, .ref 44, .ref 45, .ref 46, J 0, J 0, J 0, J 0, J 0, J 0, J 0, J (-100), J 0, J 0, .ref 47, .ref 48, .ref 49, .ref 50, .null, J 0, .null, .null, .null, .null, .null, .null, .null, J 0, .null, .null, .null, .null, J 0, J 0, J 0, J 0, .null, .null, .null, J 0]), .inl (1500, fun _ => 0), .inl (1500, fun _ => 0), .inl (60, fun _ => 0), .inl (60, fun _ => 0), .inl (60, fun _ => 0), .inl (60, fun _ => 0), .inl (60, fun _ => 0), .inl (61, fun _ => 0), .inl (300, fun _ => 0), .inl (300, fun _ => 0), .inl (300, fun _ => 0), .inl (150, fun _ => 0), .inl (150, fun _ => 0), .inl (150, fun _ => 0), .inl (150, fun _ => 0), .inl (150, fun _ => 0), .inl (150, fun _ => 0), .inl (20, fun _ => 0), .inl (13, fun _ => 0)]) rfl rfl ?_
  refine v_aload_n (dec_of DX9_init 81 rfl) rfl ?_
  refine vi_bi (dec_of DX9_init 82 rfl) (by decide) ?_
  refine v_newa (n := iI 7) (N := 7) (dec_of DX9_init 83 rfl) (by decide) (by decide) (by decide) rfl (by decide) ⟨by decide, by decide⟩ rfl ?_
  refine Vd_n (st' := [.ref 51, .ref 31]) (w' := cls I00 N00 F00 ++ [.inr (6, [.ref 32, J 0, .ref 33, J 0, .ref 34, .ref 35, .ref 36, .ref 37, .ref 38, .ref 39, J 0, .ref 40, .ref 41, .ref 42, J 0, J 0, .ref 43, .ref 44, .ref 45, .ref 46, J 0, J 0, J 0, J 0, J 0, J 0, J 0, J (-100), J 0, J 0, .ref 47, .ref 48, .ref 49, .ref 50, .null, J 0, .null, .null, .null, .null, .null, .null, .null, J 0, .null, .null, .null, .null, J 0, J 0, J 0, J 0, .null, .null, .null, J 0]), .inl (1500, fun _ => 0), .inl (1500, fun _ => 0), .inl (60, fun _ => 0), .inl (60, fun _ => 0), .inl (60, fun _ => 0), .inl (60, fun _ => 0), .inl (60, fun _ => 0), .inl (61, fun _ => 0), .inl (300, fun _ => 0), .inl (300, fun _ => 0), .inl (300, fun _ => 0), .inl (150, fun _ => 0), .inl (150, fun _ => 0), .inl (150, fun _ => 0), .inl (150, fun _ => 0), .inl (150, fun _ => 0), .inl (150, fun _ => 0), .inl (20, fun _ => 0), .inl (13, fun _ => 0), .inl (7, fun _ => 0)]) rfl rfl ?_
  refine run34 (pre := cls I00 N00 F00 ++ [.inr (6, [.ref 32, J 0, .ref 33, J 0, .ref 34, .ref 35, .ref 36, .ref 37, .ref 38, .ref 39, J 0, .ref 40, .ref 41, .ref 42, J 0, J 0, .ref 43, .ref 44, .ref 45, .ref 46, J 0, J 0, J 0, J 0, J 0, J 0, J 0, J (-100), J 0, J 0, .ref 47, .ref 48, .ref 49, .ref 50, .null, J 0, .null, .null, .null, .null, .null, .null, .null, J 0, .null, .null, .null, .null, J 0, J 0, J 0, J 0, .null, .null, .null, J 0]), .inl (1500, fun _ => 0), .inl (1500, fun _ => 0), .inl (60, fun _ => 0), .inl (60, fun _ => 0), .inl (60, fun _ => 0), .inl (60, fun _ => 0), .inl (60, fun _ => 0), .inl (61, fun _ => 0), .inl (300, fun _ => 0), .inl (300, fun _ => 0), .inl (300, fun _ => 0), .inl (150, fun _ => 0), .inl (150, fun _ => 0), .inl (150, fun _ => 0), .inl (150, fun _ => 0), .inl (150, fun _ => 0), .inl (150, fun _ => 0), .inl (20, fun _ => 0), .inl (13, fun _ => 0)]) (st := [.ref 31]) ?_
  refine Vd_n (st' := [.ref 51, .ref 31]) (w' := cls I00 N00 F00 ++ [.inr (6, [.ref 32, J 0, .ref 33, J 0, .ref 34, .ref 35, .ref 36, .ref 37, .ref 38, .ref 39, J 0, .ref 40, .ref 41, .ref 42, J 0, J 0, .ref 43, .ref 44, .ref 45, .ref 46, J 0, J 0, J 0, J 0, J 0, J 0, J 0, J (-100), J 0, J 0, .ref 47, .ref 48, .ref 49, .ref 50, .null, J 0, .null, .null, .null, .null, .null, .null, .null, J 0, .null, .null, .null, .null, J 0, J 0, J 0, J 0, .null, .null, .null, J 0]), .inl (1500, fun _ => 0), .inl (1500, fun _ => 0), .inl (60, fun _ => 0), .inl (60, fun _ => 0), .inl (60, fun _ => 0), .inl (60, fun _ => 0), .inl (60, fun _ => 0), .inl (61, fun _ => 0), .inl (300, fun _ => 0), .inl (300, fun _ => 0), .inl (300, fun _ => 0), .inl (150, fun _ => 0), .inl (150, fun _ => 0), .inl (150, fun _ => 0), .inl (150, fun _ => 0), .inl (150, fun _ => 0), .inl (150, fun _ => 0), .inl (20, fun _ => 0), .inl (13, fun _ => 0), .inl (7, ia (tI tab34))]) rfl rfl ?_
  refine v_putF fX9_71 (fun q h => by cases h; rfl) rfl (dec_of DX9_init 112 rfl) rfl (by decide) (fun _ => rfl) (fun _ => rfl) ?_
  refine Vd_n (st' := []) (w' := cls I00 N00 F00 ++ [.inr (6, [.ref 32, J 0, .ref 33, J 0, .ref 34, .ref 35, .ref 36, .ref 37, .ref 38, .ref 39, J 0, .ref 40, .ref 41, .ref 42, J 0, J 0, .ref 43, .ref 44, .ref 45, .ref 46, J 0, J 0, J 0, J 0, J 0, J 0, J 0, J (-100), J 0, J 0, .ref 47, .ref 48, .ref 49, .ref 50, .ref 51, J 0, .null, .null, .null, .null, .null, .null, .null, J 0, .null, .null, .null, .null, J 0, J 0, J 0, J 0, .null, .null, .null, J 0]), .inl (1500, fun _ => 0), .inl (1500, fun _ => 0), .inl (60, fun _ => 0), .inl (60, fun _ => 0), .inl (60, fun _ => 0), .inl (60, fun _ => 0), .inl (60, fun _ => 0), .inl (61, fun _ => 0), .inl (300, fun _ => 0), .inl (300, fun _ => 0), .inl (300, fun _ => 0), .inl (150, fun _ => 0), .inl (150, fun _ => 0), .inl (150, fun _ => 0), .inl (150, fun _ => 0), .inl (150, fun _ => 0), .inl (150, fun _ => 0), .inl (20, fun _ => 0), .inl (13, fun _ => 0), .inl (7, ia (tI tab34))]) rfl rfl ?_
  refine v_aload_n (dec_of DX9_init 113 rfl) rfl ?_
  refine vi_si (dec_of DX9_init 114 rfl) (by decide) ?_
  refine v_newa (n := iI 150) (N := 150) (dec_of DX9_init 115 rfl) (by decide) (by decide) (by decide) rfl (by decide) ⟨by decide, by decide⟩ rfl ?_
  refine Vd_n (st' := [.ref 52, .ref 31]) (w' := cls I00 N00 F00 ++ [.inr (6, [.ref 32, J 0, .ref 33, J 0, .ref 34, .ref 35, .ref 36, .ref 37, .ref 38, .ref 39, J 0, .ref 40, .ref 41, .ref 42, J 0, J 0, .ref 43, .ref 44, .ref 45, .ref 46, J 0, J 0, J 0, J 0, J 0, J 0, J 0, J (-100), J 0, J 0, .ref 47, .ref 48, .ref 49, .ref 50, .ref 51, J 0, .null, .null, .null, .null, .null, .null, .null, J 0, .null, .null, .null, .null, J 0, J 0, J 0, J 0, .null, .null, .null, J 0]), .inl (1500, fun _ => 0), .inl (1500, fun _ => 0), .inl (60, fun _ => 0), .inl (60, fun _ => 0), .inl (60, fun _ => 0), .inl (60, fun _ => 0), .inl (60, fun _ => 0), .inl (61, fun _ => 0), .inl (300, fun _ => 0), .inl (300, fun _ => 0), .inl (300, fun _ => 0), .inl (150, fun _ => 0), .inl (150, fun _ => 0), .inl (150, fun _ => 0), .inl (150, fun _ => 0), .inl (150, fun _ => 0), .inl (150, fun _ => 0), .inl (20, fun _ => 0), .inl (13, fun _ => 0), .inl (7, ia (tI tab34)), .inl (150, fun _ => 0)]) rfl rfl ?_
  refine v_putF fX9_74 (fun q h => by cases h; rfl) rfl (dec_of DX9_init 116 rfl) rfl (by decide) (fun _ => rfl) (fun _ => rfl) ?_
  refine Vd_n (st' := []) (w' := cls I00 N00 F00 ++ [.inr (6, [.ref 32, J 0, .ref 33, J 0, .ref 34, .ref 35, .ref 36, .ref 37, .ref 38, .ref 39, J 0, .ref 40, .ref 41, .ref 42, J 0, J 0, .ref 43, .ref 44, .ref 45, .ref 46, J 0, J 0, J 0, J 0, J 0, J 0, J 0, J (-100), J 0, J 0, .ref 47, .ref 48, .ref 49, .ref 50, .ref 51, J 0, .ref 52, .null, .null, .null, .null, .null, .null, J 0, .null, .null, .null, .null, J 0, J 0, J 0, J 0, .null, .null, .null, J 0]), .inl (1500, fun _ => 0), .inl (1500, fun _ => 0), .inl (60, fun _ => 0), .inl (60, fun _ => 0), .inl (60, fun _ => 0), .inl (60, fun _ => 0), .inl (60, fun _ => 0), .inl (61, fun _ => 0), .inl (300, fun _ => 0), .inl (300, fun _ => 0), .inl (300, fun _ => 0), .inl (150, fun _ => 0), .inl (150, fun _ => 0), .inl (150, fun _ => 0), .inl (150, fun _ => 0), .inl (150, fun _ => 0), .inl (150, fun _ => 0), .inl (20, fun _ => 0), .inl (13, fun _ => 0), .inl (7, ia (tI tab34)), .inl (150, fun _ => 0)]) rfl rfl ?_
  refine v_aload_n (dec_of DX9_init 117 rfl) rfl ?_
  refine vi_si (dec_of DX9_init 118 rfl) (by decide) ?_
  refine v_newa (n := iI 150) (N := 150) (dec_of DX9_init 119 rfl) (by decide) (by decide) (by decide) rfl (by decide) ⟨by decide, by decide⟩ rfl ?_
  refine Vd_n (st' := [.ref 53, .ref 31]) (w' := cls I00 N00 F00 ++ [.inr (6, [.ref 32, J 0, .ref 33, J 0, .ref 34, .ref 35, .ref 36, .ref 37, .ref 38, .ref 39, J 0, .ref 40, .ref 41, .ref 42, J 0, J 0, .ref 43, .ref 44, .ref 45, .ref 46, J 0, J 0, J 0, J 0, J 0, J 0, J 0, J (-100), J 0, J 0, .ref 47, .ref 48, .ref 49, .ref 50, .ref 51, J 0, .ref 52, .null, .null, .null, .null, .null, .null, J 0, .null, .null, .null, .null, J 0, J 0, J 0, J 0, .null, .null, .null, J 0]), .inl (1500, fun _ => 0), .inl (1500, fun _ => 0), .inl (60, fun _ => 0), .inl (60, fun _ => 0), .inl (60, fun _ => 0), .inl (60, fun _ => 0), .inl (60, fun _ => 0), .inl (61, fun _ => 0), .inl (300, fun _ => 0), .inl (300, fun _ => 0), .inl (300, fun _ => 0), .inl (150, fun _ => 0), .inl (150, fun _ => 0), .inl (150, fun _ => 0), .inl (150, fun _ => 0), .inl (150, fun _ => 0), .inl (150, fun _ => 0), .inl (20, fun _ => 0), .inl (13, fun _ => 0), .inl (7, ia (tI tab34)), .inl (150, fun _ => 0), .inl (150, fun _ => 0)]) rfl rfl ?_
  refine v_putF fX9_77 (fun q h => by cases h; rfl) rfl (dec_of DX9_init 120 rfl) rfl (by decide) (fun _ => rfl) (fun _ => rfl) ?_
  refine Vd_n (st' := []) (w' := cls I00 N00 F00 ++ [.inr (6, [.ref 32, J 0, .ref 33, J 0, .ref 34, .ref 35, .ref 36, .ref 37, .ref 38, .ref 39, J 0, .ref 40, .ref 41, .ref 42, J 0, J 0, .ref 43, .ref 44, .ref 45, .ref 46, J 0, J 0, J 0, J 0, J 0, J 0, J 0, J (-100), J 0, J 0, .ref 47, .ref 48, .ref 49, .ref 50, .ref 51, J 0, .ref 52, .ref 53, .null, .null, .null, .null, .null, J 0, .null, .null, .null, .null, J 0, J 0, J 0, J 0, .null, .null, .null, J 0]), .inl (1500, fun _ => 0), .inl (1500, fun _ => 0), .inl (60, fun _ => 0), .inl (60, fun _ => 0), .inl (60, fun _ => 0), .inl (60, fun _ => 0), .inl (60, fun _ => 0), .inl (61, fun _ => 0), .inl (300, fun _ => 0), .inl (300, fun _ => 0), .inl (300, fun _ => 0), .inl (150, fun _ => 0), .inl (150, fun _ => 0), .inl (150, fun _ => 0), .inl (150, fun _ => 0), .inl (150, fun _ => 0), .inl (150, fun _ => 0), .inl (20, fun _ => 0), .inl (13, fun _ => 0), .inl (7, ia (tI tab34)), .inl (150, fun _ => 0), .inl (150, fun _ => 0)]) rfl rfl ?_
  refine v_aload_n (dec_of DX9_init 121 rfl) rfl ?_
  refine vi_si (dec_of DX9_init 122 rfl) (by decide) ?_
  refine v_newa (n := iI 150) (N := 150) (dec_of DX9_init 123 rfl) (by decide) (by decide) (by decide) rfl (by decide) ⟨by decide, by decide⟩ rfl ?_
  refine Vd_n (st' := [.ref 54, .ref 31]) (w' := cls I00 N00 F00 ++ [.inr (6, [.ref 32, J 0, .ref 33, J 0, .ref 34, .ref 35, .ref 36, .ref 37, .ref 38, .ref 39, J 0, .ref 40, .ref 41, .ref 42, J 0, J 0, .ref 43, .ref 44, .ref 45, .ref 46, J 0, J 0, J 0, J 0, J 0, J 0, J 0, J (-100), J 0, J 0, .ref 47, .ref 48, .ref 49, .ref 50, .ref 51, J 0, .ref 52, .ref 53, .null, .null, .null, .null, .null, J 0, .null, .null, .null, .null, J 0, J 0, J 0, J 0, .null, .null, .null, J 0]), .inl (1500, fun _ => 0), .inl (1500, fun _ => 0), .inl (60, fun _ => 0), .inl (60, fun _ => 0), .inl (60, fun _ => 0), .inl (60, fun _ => 0), .inl (60, fun _ => 0), .inl (61, fun _ => 0), .inl (300, fun _ => 0), .inl (300, fun _ => 0), .inl (300, fun _ => 0), .inl (150, fun _ => 0), .inl (150, fun _ => 0), .inl (150, fun _ => 0), .inl (150, fun _ => 0), .inl (150, fun _ => 0), .inl (150, fun _ => 0), .inl (20, fun _ => 0), .inl (13, fun _ => 0), .inl (7, ia (tI tab34)), .inl (150, fun _ => 0), .inl (150, fun _ => 0), .inl (150, fun _ => 0)]) rfl rfl ?_
  refine v_putF fX9_80 (fun q h => by cases h; rfl) rfl (dec_of DX9_init 124 rfl) rfl (by decide) (fun _ => rfl) (fun _ => rfl) ?_
  refine Vd_n (st' := []) (w' := cls I00 N00 F00 ++ [.inr (6, [.ref 32, J 0, .ref 33, J 0, .ref 34, .ref 35, .ref 36, .ref 37, .ref 38, .ref 39, J 0, .ref 40, .ref 41, .ref 42, J 0, J 0, .ref 43, .ref 44, .ref 45, .ref 46, J 0, J 0, J 0, J 0, J 0, J 0, J 0, J (-100), J 0, J 0, .ref 47, .ref 48, .ref 49, .ref 50, .ref 51, J 0, .ref 52, .ref 53, .ref 54, .null, .null, .null, .null, J 0, .null, .null, .null, .null, J 0, J 0, J 0, J 0, .null, .null, .null, J 0]), .inl (1500, fun _ => 0), .inl (1500, fun _ => 0), .inl (60, fun _ => 0), .inl (60, fun _ => 0), .inl (60, fun _ => 0), .inl (60, fun _ => 0), .inl (60, fun _ => 0), .inl (61, fun _ => 0), .inl (300, fun _ => 0), .inl (300, fun _ => 0), .inl (300, fun _ => 0), .inl (150, fun _ => 0), .inl (150, fun _ => 0), .inl (150, fun _ => 0), .inl (150, fun _ => 0), .inl (150, fun _ => 0), .inl (150, fun _ => 0), .inl (20, fun _ => 0), .inl (13, fun _ => 0), .inl (7, ia (tI tab34)), .inl (150, fun _ => 0), .inl (150, fun _ => 0), .inl (150, fun _ => 0)]) rfl rfl ?_
  refine v_aload_n (dec_of DX9_init 125 rfl) rfl ?_
  refine vi_si (dec_of DX9_init 126 rfl) (by decide) ?_
  refine v_newa (n := iI 150) (N := 150) (dec_of DX9_init 127 rfl) (by decide) (by decide) (by decide) rfl (by decide) ⟨by decide, by decide⟩ rfl ?_
  refine Vd_n (st' := [.ref 55, .ref 31]) (w' := cls I00 N00 F00 ++ [.inr (6, [.ref 32, J 0, .ref 33, J 0, .ref 34, .ref 35, .ref 36, .ref 37, .ref 38, .ref 39, J 0, .ref 40, .ref 41, .ref 42, J 0, J 0, .ref 43, .ref 44, .ref 45, .ref 46, J 0, J 0, J 0, J 0, J 0, J 0, J 0, J (-100), J 0, J 0, .ref 47, .ref 48, .ref 49, .ref 50, .ref 51, J 0, .ref 52, .ref 53, .ref 54, .null, .null, .null, .null, J 0, .null, .null, .null, .null, J 0, J 0, J 0, J 0, .null, .null, .null, J 0]), .inl (1500, fun _ => 0), .inl (1500, fun _ => 0), .inl (60, fun _ => 0), .inl (60, fun _ => 0), .inl (60, fun _ => 0), .inl (60, fun _ => 0), .inl (60, fun _ => 0), .inl (61, fun _ => 0), .inl (300, fun _ => 0), .inl (300, fun _ => 0), .inl (300, fun _ => 0), .inl (150, fun _ => 0), .inl (150, fun _ => 0), .inl (150, fun _ => 0), .inl (150, fun _ => 0), .inl (150, fun _ => 0), .inl (150, fun _ => 0), .inl (20, fun _ => 0), .inl (13, fun _ => 0), .inl (7, ia (tI tab34)), .inl (150, fun _ => 0), .inl (150, fun _ => 0), .inl (150, fun _ => 0), .inl (150, fun _ => 0)]) rfl rfl ?_
  refine v_putF fX9_83 (fun q h => by cases h; rfl) rfl (dec_of DX9_init 128 rfl) rfl (by decide) (fun _ => rfl) (fun _ => rfl) ?_
  refine Vd_n (st' := []) (w' := cls I00 N00 F00 ++ [.inr (6, [.ref 32, J 0, .ref 33, J 0, .ref 34, .ref 35, .ref 36, .ref 37, .ref 38, .ref 39, J 0, .ref 40, .ref 41, .ref 42, J 0, J 0, .ref 43, .ref 44, .ref 45, .ref 46, J 0, J 0, J 0, J 0, J 0, J 0, J 0, J (-100), J 0, J 0, .ref 47, .ref 48, .ref 49, .ref 50, .ref 51, J 0, .ref 52, .ref 53, .ref 54, .ref 55, .null, .null, .null, J 0, .null, .null, .null, .null, J 0, J 0, J 0, J 0, .null, .null, .null, J 0]), .inl (1500, fun _ => 0), .inl (1500, fun _ => 0), .inl (60, fun _ => 0), .inl (60, fun _ => 0), .inl (60, fun _ => 0), .inl (60, fun _ => 0), .inl (60, fun _ => 0), .inl (61, fun _ => 0), .inl (300, fun _ => 0), .inl (300, fun _ => 0), .inl (300, fun _ => 0), .inl (150, fun _ => 0), .inl (150, fun _ => 0), .inl (150, fun _ => 0), .inl (150, fun _ => 0), .inl (150, fun _ => 0), .inl (150, fun _ => 0), .inl (20, fun _ => 0), .inl (13, fun _ => 0), .inl (7, ia (tI tab34)), .inl (150, fun _ => 0), .inl (150, fun _ => 0), .inl (150, fun _ => 0), .inl (150, fun _ => 0)]) rfl rfl ?_
  refine v_aload_n (dec_of DX9_init 129 rfl) rfl ?_
  refine vi_bi (dec_of DX9_init 130 rfl) (by decide) ?_
  refine v_newa (n := iI 15) (N := 15) (dec_of DX9_init 131 rfl) (by decide) (by decide) (by decide) rfl (by decide) ⟨by decide, by decide⟩ rfl ?_
  refine Vd_n (st' := [.ref 56, .ref 31]) (w' := cls I00 N00 F00 ++ [.inr (6, [.ref 32, J 0, .ref 33, J 0, .ref 34, .ref 35, .ref 36, .ref 37, .ref 38, .ref 39, J 0, .ref 40, .ref 41, .ref 42, J 0, J 0, .ref 43, .ref 44, .ref 45, .ref 46, J 0, J 0, J 0, J 0, J 0, J 0, J 0, J (-100), J 0, J 0, .ref 47, .ref 48, .ref 49, .ref 50, .ref 51, J 0, .ref 52, .ref 53, .ref 54, .ref 55, .null, .null, .null, J 0, .null, .null, .null, .null, J 0, J 0, J 0, J 0, .null, .null, .null, J 0]), .inl (1500, fun _ => 0), .inl (1500, fun _ => 0), .inl (60, fun _ => 0), .inl (60, fun _ => 0), .inl (60, fun _ => 0), .inl (60, fun _ => 0), .inl (60, fun _ => 0), .inl (61, fun _ => 0), .inl (300, fun _ => 0), .inl (300, fun _ => 0), .inl (300, fun _ => 0), .inl (150, fun _ => 0), .inl (150, fun _ => 0), .inl (150, fun _ => 0), .inl (150, fun _ => 0), .inl (150, fun _ => 0), .inl (150, fun _ => 0), .inl (20, fun _ => 0), .inl (13, fun _ => 0), .inl (7, ia (tI tab34)), .inl (150, fun _ => 0), .inl (150, fun _ => 0), .inl (150, fun _ => 0), .inl (150, fun _ => 0), .inl (15, fun _ => 0)]) rfl rfl ?_
  refine run40 (pre := cls I00 N00 F00 ++ [.inr (6, [.ref 32, J 0, .ref 33, J 0, .ref 34, .ref 35, .ref 36, .ref 37, .ref 38, .ref 39, J 0, .ref 40, .ref 41, .ref 42, J 0, J 0, .ref 43, .ref 44, .ref 45, .ref 46, J 0, J 0, J 0, J 0, J 0, J 0, J 0, J (-100), J 0, J 0, .ref 47, .ref 48, .ref 49, .ref 50, .ref 51, J 0, .ref 52, .ref 53, .ref 54, .ref 55, .null, .null, .null, J 0, .null, .null, .null, .null, J 0, J 0, J 0, J 0, .null, .null, .null, J 0]), .inl (1500, fun _ => 0), .inl (1500, fun _ => 0), .inl (60, fun _ => 0), .inl (60, fun _ => 0), .inl (60, fun _ => 0), .inl (60, fun _ => 0), .inl (60, fun _ => 0), .inl (61, fun _ => 0), .inl (300, fun _ => 0), .inl (300, fun _ => 0), .inl (300, fun _ => 0), .inl (150, fun _ => 0), .inl (150, fun _ => 0), .inl (150, fun _ => 0), .inl (150, fun _ => 0), .inl (150, fun _ => 0), .inl (150, fun _ => 0), .inl (20, fun _ => 0), .inl (13, fun _ => 0), .inl (7, ia (tI tab34)), .inl (150, fun _ => 0), .inl (150, fun _ => 0), .inl (150, fun _ => 0), .inl (150, fun _ => 0)]) (st := [.ref 31]) ?_
  refine Vd_n (st' := [.ref 56, .ref 31]) (w' := cls I00 N00 F00 ++ [.inr (6, [.ref 32, J 0, .ref 33, J 0, .ref 34, .ref 35, .ref 36, .ref 37, .ref 38, .ref 39, J 0, .ref 40, .ref 41, .ref 42, J 0, J 0, .ref 43, .ref 44, .ref 45, .ref 46, J 0, J 0, J 0, J 0, J 0, J 0, J 0, J (-100), J 0, J 0, .ref 47, .ref 48, .ref 49, .ref 50, .ref 51, J 0, .ref 52, .ref 53, .ref 54, .ref 55, .null, .null, .null, J 0, .null, .null, .null, .null, J 0, J 0, J 0, J 0, .null, .null, .null, J 0]), .inl (1500, fun _ => 0), .inl (1500, fun _ => 0), .inl (60, fun _ => 0), .inl (60, fun _ => 0), .inl (60, fun _ => 0), .inl (60, fun _ => 0), .inl (60, fun _ => 0), .inl (61, fun _ => 0), .inl (300, fun _ => 0), .inl (300, fun _ => 0), .inl (300, fun _ => 0), .inl (150, fun _ => 0), .inl (150, fun _ => 0), .inl (150, fun _ => 0), .inl (150, fun _ => 0), .inl (150, fun _ => 0), .inl (150, fun _ => 0), .inl (20, fun _ => 0), .inl (13, fun _ => 0), .inl (7, ia (tI tab34)), .inl (150, fun _ => 0), .inl (150, fun _ => 0), .inl (150, fun _ => 0), .inl (150, fun _ => 0), .inl (15, ia (tI tab40))]) rfl rfl ?_
  refine v_putF fX9_86 (fun q h => by cases h; rfl) rfl (dec_of DX9_init 192 rfl) rfl (by decide) (fun _ => rfl) (fun _ => rfl) ?_
  refine Vd_n (st' := []) (w' := cls I00 N00 F00 ++ [.inr (6, [.ref 32, J 0, .ref 33, J 0, .ref 34, .ref 35, .ref 36, .ref 37, .ref 38, .ref 39, J 0, .ref 40, .ref 41, .ref 42, J 0, J 0, .ref 43, .ref 44, .ref 45, .ref 46, J 0, J 0, J 0, J 0, J 0, J 0, J 0, J (-100), J 0, J 0, .ref 47, .ref 48, .ref 49, .ref 50, .ref 51, J 0, .ref 52, .ref 53, .ref 54, .ref 55, .ref 56, .null, .null, J 0, .null, .null, .null, .null, J 0, J 0, J 0, J 0, .null, .null, .null, J 0]), .inl (1500, fun _ => 0), .inl (1500, fun _ => 0), .inl (60, fun _ => 0), .inl (60, fun _ => 0), .inl (60, fun _ => 0), .inl (60, fun _ => 0), .inl (60, fun _ => 0), .inl (61, fun _ => 0), .inl (300, fun _ => 0), .inl (300, fun _ => 0), .inl (300, fun _ => 0), .inl (150, fun _ => 0), .inl (150, fun _ => 0), .inl (150, fun _ => 0), .inl (150, fun _ => 0), .inl (150, fun _ => 0), .inl (150, fun _ => 0), .inl (20, fun _ => 0), .inl (13, fun _ => 0), .inl (7, ia (tI tab34)), .inl (150, fun _ => 0), .inl (150, fun _ => 0), .inl (150, fun _ => 0), .inl (150, fun _ => 0), .inl (15, ia (tI tab40))]) rfl rfl ?_
  refine v_aload_n (dec_of DX9_init 193 rfl) rfl ?_
  refine vi_bi (dec_of DX9_init 194 rfl) (by decide) ?_
  refine v_newa (n := iI 7) (N := 7) (dec_of DX9_init 195 rfl) (by decide) (by decide) (by decide) rfl (by decide) ⟨by decide, by decide⟩ rfl ?_
  refine Vd_n (st' := [.ref 57, .ref 31]) (w' := cls I00 N00 F00 ++ [.inr (6, [.ref 32, J 0, .ref 33, J 0, .ref 34, .ref 35, .ref 36, .ref 37, .ref 38, .ref 39, J 0, .ref 40, .ref 41, .ref 42, J 0, J 0, .ref 43, .ref 44, .ref 45, .ref 46, J 0, J 0, J 0, J 0, J 0, J 0, J 0, J (-100), J 0, J 0, .ref 47, .ref 48, .ref 49, .ref 50, .ref 51, J 0, .ref 52, .ref 53, .ref 54, .ref 55, .ref 56, .null, .null, J 0, .null, .null, .null, .null, J 0, J 0, J 0, J 0, .null, .null, .null, J 0]), .inl (1500, fun _ => 0), .inl (1500, fun _ => 0), .inl (60, fun _ => 0), .inl (60, fun _ => 0), .inl (60, fun _ => 0), .inl (60, fun _ => 0), .inl (60, fun _ => 0), .inl (61, fun _ => 0), .inl (300, fun _ => 0), .inl (300, fun _ => 0), .inl (300, fun _ => 0), .inl (150, fun _ => 0), .inl (150, fun _ => 0), .inl (150, fun _ => 0), .inl (150, fun _ => 0), .inl (150, fun _ => 0), .inl (150, fun _ => 0), .inl (20, fun _ => 0), .inl (13, fun _ => 0), .inl (7, ia (tI tab34)), .inl (150, fun _ => 0), .inl (150, fun _ => 0), .inl (150, fun _ => 0), .inl (150, fun _ => 0), .inl (15, ia (tI tab40)), .inl (7, fun _ => 0)]) rfl rfl ?_
  refine run41 (pre := cls I00 N00 F00 ++ [.inr (6, [.ref 32, J 0, .ref 33, J 0, .ref 34, .ref 35, .ref 36, .ref 37, .ref 38, .ref 39, J 0, .ref 40, .ref 41, .ref 42, J 0, J 0, .ref 43, .ref 44, .ref 45, .ref 46, J 0, J 0, J 0, J 0, J 0, J 0, J 0, J (-100), J 0, J 0, .ref 47, .ref 48, .ref 49, .ref 50, .ref 51, J 0, .ref 52, .ref 53, .ref 54, .ref 55, .ref 56, .null, .null, J 0, .null, .null, .null, .null, J 0, J 0, J 0, J 0, .null, .null, .null, J 0]), .inl (1500, fun _ => 0), .inl (1500, fun _ => 0), .inl (60, fun _ => 0), .inl (60, fun _ => 0), .inl (60, fun _ => 0), .inl (60, fun _ => 0), .inl (60, fun _ => 0), .inl (61, fun _ => 0), .inl (300, fun _ => 0), .inl (300, fun _ => 0), .inl (300, fun _ => 0), .inl (150, fun _ => 0), .inl (150, fun _ => 0), .inl (150, fun _ => 0), .inl (150, fun _ => 0), .inl (150, fun _ => 0), .inl (150, fun _ => 0), .inl (20, fun _ => 0), .inl (13, fun _ => 0), .inl (7, ia (tI tab34)), .inl (150, fun _ => 0), .inl (150, fun _ => 0), .inl (150, fun _ => 0), .inl (150, fun _ => 0), .inl (15, ia (tI tab40))]) (st := [.ref 31]) ?_
  refine Vd_n (st' := [.ref 57, .ref 31]) (w' := cls I00 N00 F00 ++ [.inr (6, [.ref 32, J 0, .ref 33, J 0, .ref 34, .ref 35, .ref 36, .ref 37, .ref 38, .ref 39, J 0, .ref 40, .ref 41, .ref 42, J 0, J 0, .ref 43, .ref 44, .ref 45, .ref 46, J 0, J 0, J 0, J 0, J 0, J 0, J 0, J (-100), J 0, J 0, .ref 47, .ref 48, .ref 49, .ref 50, .ref 51, J 0, .ref 52, .ref 53, .ref 54, .ref 55, .ref 56, .null, .null, J 0, .null, .null, .null, .null, J 0, J 0, J 0, J 0, .null, .null, .null, J 0]), .inl (1500, fun _ => 0), .inl (1500, fun _ => 0), .inl (60, fun _ => 0), .inl (60, fun _ => 0), .inl (60, fun _ => 0), .inl (60, fun _ => 0), .inl (60, fun _ => 0), .inl (61, fun _ => 0), .inl (300, fun _ => 0), .inl (300, fun _ => 0), .inl (300, fun _ => 0), .inl (150, fun _ => 0), .inl (150, fun _ => 0), .inl (150, fun _ => 0), .inl (150, fun _ => 0), .inl (150, fun _ => 0), .inl (150, fun _ => 0), .inl (20, fun _ => 0), .inl (13, fun _ => 0), .inl (7, ia (tI tab34)), .inl (150, fun _ => 0), .inl (150, fun _ => 0), .inl (150, fun _ => 0), .inl (150, fun _ => 0), .inl (15, ia (tI tab40)), .inl (7, ia (tI tab41))]) rfl rfl ?_
  refine v_putF fX9_89 (fun q h => by cases h; rfl) rfl (dec_of DX9_init 224 rfl) rfl (by decide) (fun _ => rfl) (fun _ => rfl) ?_
  refine Vd_n (st' := []) (w' := cls I00 N00 F00 ++ [.inr (6, [.ref 32, J 0, .ref 33, J 0, .ref 34, .ref 35, .ref 36, .ref 37, .ref 38, .ref 39, J 0, .ref 40, .ref 41, .ref 42, J 0, J 0, .ref 43, .ref 44, .ref 45, .ref 46, J 0, J 0, J 0, J 0, J 0, J 0, J 0, J (-100), J 0, J 0, .ref 47, .ref 48, .ref 49, .ref 50, .ref 51, J 0, .ref 52, .ref 53, .ref 54, .ref 55, .ref 56, .ref 57, .null, J 0, .null, .null, .null, .null, J 0, J 0, J 0, J 0, .null, .null, .null, J 0]), .inl (1500, fun _ => 0), .inl (1500, fun _ => 0), .inl (60, fun _ => 0), .inl (60, fun _ => 0), .inl (60, fun _ => 0), .inl (60, fun _ => 0), .inl (60, fun _ => 0), .inl (61, fun _ => 0), .inl (300, fun _ => 0), .inl (300, fun _ => 0), .inl (300, fun _ => 0), .inl (150, fun _ => 0), .inl (150, fun _ => 0), .inl (150, fun _ => 0), .inl (150, fun _ => 0), .inl (150, fun _ => 0), .inl (150, fun _ => 0), .inl (20, fun _ => 0), .inl (13, fun _ => 0), .inl (7, ia (tI tab34)), .inl (150, fun _ => 0), .inl (150, fun _ => 0), .inl (150, fun _ => 0), .inl (150, fun _ => 0), .inl (15, ia (tI tab40)), .inl (7, ia (tI tab41))]) rfl rfl ?_
  refine v_aload_n (dec_of DX9_init 225 rfl) rfl ?_
  refine vi_bi (dec_of DX9_init 226 rfl) (by decide) ?_
  refine v_newa (n := iI 9) (N := 9) (dec_of DX9_init 227 rfl) (by decide) (by decide) (by decide) rfl (by decide) ⟨by decide, by decide⟩ rfl ?_
  refine Vd_n (st' := [.ref 58, .ref 31]) (w' := cls I00 N00 F00 ++ [.inr (6, [.ref 32, J 0, .ref 33, J 0, .ref 34, .ref 35, .ref 36, .ref 37, .ref 38, .ref 39, J 0, .ref 40, .ref 41, .ref 42, J 0, J 0, .ref 43, .ref 44, .ref 45, .ref 46, J 0, J 0, J 0, J 0, J 0, J 0, J 0, J (-100), J 0, J 0, .ref 47, .ref 48, .ref 49, .ref 50, .ref 51, J 0, .ref 52, .ref 53, .ref 54, .ref 55, .ref 56, .ref 57, .null, J 0, .null, .null, .null, .null, J 0, J 0, J 0, J 0, .null, .null, .null, J 0]), .inl (1500, fun _ => 0), .inl (1500, fun _ => 0), .inl (60, fun _ => 0), .inl (60, fun _ => 0), .inl (60, fun _ => 0), .inl (60, fun _ => 0), .inl (60, fun _ => 0), .inl (61, fun _ => 0), .inl (300, fun _ => 0), .inl (300, fun _ => 0), .inl (300, fun _ => 0), .inl (150, fun _ => 0), .inl (150, fun _ => 0), .inl (150, fun _ => 0), .inl (150, fun _ => 0), .inl (150, fun _ => 0), .inl (150, fun _ => 0), .inl (20, fun _ => 0), .inl (13, fun _ => 0), .inl (7, ia (tI tab34)), .inl (150, fun _ => 0), .inl (150, fun _ => 0), .inl (150, fun _ => 0), .inl (150, fun _ => 0), .inl (15, ia (tI tab40)), .inl (7, ia (tI tab41)), .inl (9, fun _ => 0)]) rfl rfl ?_
  refine run42 (pre := cls I00 N00 F00 ++ [.inr (6, [.ref 32, J 0, .ref 33, J 0, .ref 34, .ref 35, .ref 36, .ref 37, .ref 38, .ref 39, J 0, .ref 40, .ref 41, .ref 42, J 0, J 0, .ref 43, .ref 44, .ref 45, .ref 46, J 0, J 0, J 0, J 0, J 0, J 0, J 0, J (-100), J 0, J 0, .ref 47, .ref 48, .ref 49, .ref 50, .ref 51, J 0, .ref 52, .ref 53, .ref 54, .ref 55, .ref 56, .ref 57, .null, J 0, .null, .null, .null, .null, J 0, J 0, J 0, J 0, .null, .null, .null, J 0]), .inl (1500, fun _ => 0), .inl (1500, fun _ => 0), .inl (60, fun _ => 0), .inl (60, fun _ => 0), .inl (60, fun _ => 0), .inl (60, fun _ => 0), .inl (60, fun _ => 0), .inl (61, fun _ => 0), .inl (300, fun _ => 0), .inl (300, fun _ => 0), .inl (300, fun _ => 0), .inl (150, fun _ => 0), .inl (150, fun _ => 0), .inl (150, fun _ => 0), .inl (150, fun _ => 0), .inl (150, fun _ => 0), .inl (150, fun _ => 0), .inl (20, fun _ => 0), .inl (13, fun _ => 0), .inl (7, ia (tI tab34)), .inl (150, fun _ => 0), .inl (150, fun _ => 0), .inl (150, fun _ => 0), .inl (150, fun _ => 0), .inl (15, ia (tI tab40)), .inl (7, ia (tI tab41))]) (st := [.ref 31]) ?_
  refine Vd_n (st' := [.ref 58, .ref 31]) (w' := cls I00 N00 F00 ++ [.inr (6, [.ref 32, J 0, .ref 33, J 0, .ref 34, .ref 35, .ref 36, .ref 37, .ref 38, .ref 39, J 0, .ref 40, .ref 41, .ref 42, J 0, J 0, .ref 43, .ref 44, .ref 45, .ref 46, J 0, J 0, J 0, J 0, J 0, J 0, J 0, J (-100), J 0, J 0, .ref 47, .ref 48, .ref 49, .ref 50, .ref 51, J 0, .ref 52, .ref 53, .ref 54, .ref 55, .ref 56, .ref 57, .null, J 0, .null, .null, .null, .null, J 0, J 0, J 0, J 0, .null, .null, .null, J 0]), .inl (1500, fun _ => 0), .inl (1500, fun _ => 0), .inl (60, fun _ => 0), .inl (60, fun _ => 0), .inl (60, fun _ => 0), .inl (60, fun _ => 0), .inl (60, fun _ => 0), .inl (61, fun _ => 0), .inl (300, fun _ => 0), .inl (300, fun _ => 0), .inl (300, fun _ => 0), .inl (150, fun _ => 0), .inl (150, fun _ => 0), .inl (150, fun _ => 0), .inl (150, fun _ => 0), .inl (150, fun _ => 0), .inl (150, fun _ => 0), .inl (20, fun _ => 0), .inl (13, fun _ => 0), .inl (7, ia (tI tab34)), .inl (150, fun _ => 0), .inl (150, fun _ => 0), .inl (150, fun _ => 0), .inl (150, fun _ => 0), .inl (15, ia (tI tab40)), .inl (7, ia (tI tab41)), .inl (9, ia (tI tab42))]) rfl rfl ?_
  refine v_putF fX9_92 (fun q h => by cases h; rfl) rfl (dec_of DX9_init 264 rfl) rfl (by decide) (fun _ => rfl) (fun _ => rfl) ?_
  refine Vd_n (st' := []) (w' := cls I00 N00 F00 ++ [.inr (6, [.ref 32, J 0, .ref 33, J 0, .ref 34, .ref 35, .ref 36, .ref 37, .ref 38, .ref 39, J 0, .ref 40, .ref 41, .ref 42, J 0, J 0, .ref 43, .ref 44, .ref 45, .ref 46, J 0, J 0, J 0, J 0, J 0, J 0, J 0, J (-100), J 0, J 0, .ref 47, .ref 48, .ref 49, .ref 50, .ref 51, J 0, .ref 52, .ref 53, .ref 54, .ref 55, .ref 56, .ref 57, .ref 58, J 0, .null, .null, .null, .null, J 0, J 0, J 0, J 0, .null, .null, .null, J 0]), .inl (1500, fun _ => 0), .inl (1500, fun _ => 0), .inl (60, fun _ => 0), .inl (60, fun _ => 0), .inl (60, fun _ => 0), .inl (60, fun _ => 0), .inl (60, fun _ => 0), .inl (61, fun _ => 0), .inl (300, fun _ => 0), .inl (300, fun _ => 0), .inl (300, fun _ => 0), .inl (150, fun _ => 0), .inl (150, fun _ => 0), .inl (150, fun _ => 0), .inl (150, fun _ => 0), .inl (150, fun _ => 0), .inl (150, fun _ => 0), .inl (20, fun _ => 0), .inl (13, fun _ => 0), .inl (7, ia (tI tab34)), .inl (150, fun _ => 0), .inl (150, fun _ => 0), .inl (150, fun _ => 0), .inl (150, fun _ => 0), .inl (15, ia (tI tab40)), .inl (7, ia (tI tab41)), .inl (9, ia (tI tab42))]) rfl rfl ?_
  refine v_aload_n (dec_of DX9_init 265 rfl) rfl ?_
  refine vi_bi (dec_of DX9_init 266 rfl) (by decide) ?_
  refine v_newa (n := iI 80) (N := 80) (dec_of DX9_init 267 rfl) (by decide) (by decide) (by decide) rfl (by decide) ⟨by decide, by decide⟩ rfl ?_
  refine Vd_n (st' := [.ref 59, .ref 31]) (w' := cls I00 N00 F00 ++ [.inr (6, [.ref 32, J 0, .ref 33, J 0, .ref 34, .ref 35, .ref 36, .ref 37, .ref 38, .ref 39, J 0, .ref 40, .ref 41, .ref 42, J 0, J 0, .ref 43, .ref 44, .ref 45, .ref 46, J 0, J 0, J 0, J 0, J 0, J 0, J 0, J (-100), J 0, J 0, .ref 47, .ref 48, .ref 49, .ref 50, .ref 51, J 0, .ref 52, .ref 53, .ref 54, .ref 55, .ref 56, .ref 57, .ref 58, J 0, .null, .null, .null, .null, J 0, J 0, J 0, J 0, .null, .null, .null, J 0]), .inl (1500, fun _ => 0), .inl (1500, fun _ => 0), .inl (60, fun _ => 0), .inl (60, fun _ => 0), .inl (60, fun _ => 0), .inl (60, fun _ => 0), .inl (60, fun _ => 0), .inl (61, fun _ => 0), .inl (300, fun _ => 0), .inl (300, fun _ => 0), .inl (300, fun _ => 0), .inl (150, fun _ => 0), .inl (150, fun _ => 0), .inl (150, fun _ => 0), .inl (150, fun _ => 0), .inl (150, fun _ => 0), .inl (150, fun _ => 0), .inl (20, fun _ => 0), .inl (13, fun _ => 0), .inl (7, ia (tI tab34)), .inl (150, fun _ => 0), .inl (150, fun _ => 0), .inl (150, fun _ => 0), .inl (150, fun _ => 0), .inl (15, ia (tI tab40)), .inl (7, ia (tI tab41)), .inl (9, ia (tI tab42)), .inl (80, fun _ => 0)]) rfl rfl ?_
  refine v_putF fX9_95 (fun q h => by cases h; rfl) rfl (dec_of DX9_init 268 rfl) rfl (by decide) (fun _ => rfl) (fun _ => rfl) ?_
  refine Vd_n (st' := []) (w' := cls I00 N00 F00 ++ [.inr (6, [.ref 32, J 0, .ref 33, J 0, .ref 34, .ref 35, .ref 36, .ref 37, .ref 38, .ref 39, J 0, .ref 40, .ref 41, .ref 42, J 0, J 0, .ref 43, .ref 44, .ref 45, .ref 46, J 0, J 0, J 0, J 0, J 0, J 0, J 0, J (-100), J 0, J 0, .ref 47, .ref 48, .ref 49, .ref 50, .ref 51, J 0, .ref 52, .ref 53, .ref 54, .ref 55, .ref 56, .ref 57, .ref 58, J 0, .ref 59, .null, .null, .null, J 0, J 0, J 0, J 0, .null, .null, .null, J 0]), .inl (1500, fun _ => 0), .inl (1500, fun _ => 0), .inl (60, fun _ => 0), .inl (60, fun _ => 0), .inl (60, fun _ => 0), .inl (60, fun _ => 0), .inl (60, fun _ => 0), .inl (61, fun _ => 0), .inl (300, fun _ => 0), .inl (300, fun _ => 0), .inl (300, fun _ => 0), .inl (150, fun _ => 0), .inl (150, fun _ => 0), .inl (150, fun _ => 0), .inl (150, fun _ => 0), .inl (150, fun _ => 0), .inl (150, fun _ => 0), .inl (20, fun _ => 0), .inl (13, fun _ => 0), .inl (7, ia (tI tab34)), .inl (150, fun _ => 0), .inl (150, fun _ => 0), .inl (150, fun _ => 0), .inl (150, fun _ => 0), .inl (15, ia (tI tab40)), .inl (7, ia (tI tab41)), .inl (9, ia (tI tab42)), .inl (80, fun _ => 0)]) rfl rfl ?_
  refine v_aload_n (dec_of DX9_init 269 rfl) rfl ?_
  refine vi_const (dec_of DX9_init 270 rfl) ?_
  refine v_newa (n := iI 2) (N := 2) (dec_of DX9_init 271 rfl) (by decide) (by decide) (by decide) rfl (by decide) ⟨by decide, by decide⟩ rfl ?_
  refine Vd_n (st' := [.ref 60, .ref 31]) (w' := cls I00 N00 F00 ++ [.inr (6, [.ref 32, J 0, .ref 33, J 0, .ref 34, .ref 35, .ref 36, .ref 37, .ref 38, .ref 39, J 0, .ref 40, .ref 41, .ref 42, J 0, J 0, .ref 43, .ref 44, .ref 45, .ref 46, J 0, J 0, J 0, J 0, J 0, J 0, J 0, J (-100), J 0, J 0, .ref 47, .ref 48, .ref 49, .ref 50, .ref 51, J 0, .ref 52, .ref 53, .ref 54, .ref 55, .ref 56, .ref 57, .ref 58, J 0, .ref 59, .null, .null, .null, J 0, J 0, J 0, J 0, .null, .null, .null, J 0]), .inl (1500, fun _ => 0), .inl (1500, fun _ => 0), .inl (60, fun _ => 0), .inl (60, fun _ => 0), .inl (60, fun _ => 0), .inl (60, fun _ => 0), .inl (60, fun _ => 0), .inl (61, fun _ => 0), .inl (300, fun _ => 0), .inl (300, fun _ => 0), .inl (300, fun _ => 0), .inl (150, fun _ => 0), .inl (150, fun _ => 0), .inl (150, fun _ => 0), .inl (150, fun _ => 0), .inl (150, fun _ => 0), .inl (150, fun _ => 0), .inl (20, fun _ => 0), .inl (13, fun _ => 0), .inl (7, ia (tI tab34)), .inl (150, fun _ => 0), .inl (150, fun _ => 0), .inl (150, fun _ => 0), .inl (150, fun _ => 0), .inl (15, ia (tI tab40)), .inl (7, ia (tI tab41)), .inl (9, ia (tI tab42)), .inl (80, fun _ => 0), .inl (2, fun _ => 0)]) rfl rfl ?_
  refine v_putF fX9_98 (fun q h => by cases h; rfl) rfl (dec_of DX9_init 272 rfl) rfl (by decide) (fun _ => rfl) (fun _ => rfl) ?_
  refine Vd_n (st' := []) (w' := cls I00 N00 F00 ++ [.inr (6, [.ref 32, J 0, .ref 33, J 0, .ref 34, .ref 35, .ref 36, .ref 37, .ref 38, .ref 39, J 0, .ref 40, .ref 41, .ref 42, J 0, J 0, .ref 43, .ref 44, .ref 45, .ref 46, J 0, J 0, J 0, J 0, J 0, J 0, J 0, J (-100), J 0, J 0, .ref 47, .ref 48, .ref 49, .ref 50, .ref 51, J 0, .ref 52, .ref 53, .ref 54, .ref 55, .ref 56, .ref 57, .ref 58, J 0, .ref 59, .ref 60, .null, .null, J 0, J 0, J 0, J 0, .null, .null, .null, J 0]), .inl (1500, fun _ => 0), .inl (1500, fun _ => 0), .inl (60, fun _ => 0), .inl (60, fun _ => 0), .inl (60, fun _ => 0), .inl (60, fun _ => 0), .inl (60, fun _ => 0), .inl (61, fun _ => 0), .inl (300, fun _ => 0), .inl (300, fun _ => 0), .inl (300, fun _ => 0), .inl (150, fun _ => 0), .inl (150, fun _ => 0), .inl (150, fun _ => 0), .inl (150, fun _ => 0), .inl (150, fun _ => 0), .inl (150, fun _ => 0), .inl (20, fun _ => 0), .inl (13, fun _ => 0), .inl (7, ia (tI tab34)), .inl (150, fun _ => 0), .inl (150, fun _ => 0), .inl (150, fun _ => 0), .inl (150, fun _ => 0), .inl (15, ia (tI tab40)), .inl (7, ia (tI tab41)), .inl (9, ia (tI tab42)), .inl (80, fun _ => 0), .inl (2, fun _ => 0)]) rfl rfl ?_
  refine v_aload_n (dec_of DX9_init 273 rfl) rfl ?_
  refine vi_bi (dec_of DX9_init 274 rfl) (by decide) ?_
  refine v_newa (n := iI 16) (N := 16) (dec_of DX9_init 275 rfl) (by decide) (by decide) (by decide) rfl (by decide) ⟨by decide, by decide⟩ rfl ?_
  refine Vd_n (st' := [.ref 61, .ref 31]) (w' := cls I00 N00 F00 ++ [.inr (6, [.ref 32, J 0, .ref 33, J 0, .ref 34, .ref 35, .ref 36, .ref 37, .ref 38, .ref 39, J 0, .ref 40, .ref 41, .ref 42, J 0, J 0, .ref 43, .ref 44, .ref 45, .ref 46, J 0, J 0, J 0, J 0, J 0, J 0, J 0, J (-100), J 0, J 0, .ref 47, .ref 48, .ref 49, .ref 50, .ref 51, J 0, .ref 52, .ref 53, .ref 54, .ref 55, .ref 56, .ref 57, .ref 58, J 0, .ref 59, .ref 60, .null, .null, J 0, J 0, J 0, J 0, .null, .null, .null, J 0]), .inl (1500, fun _ => 0), .inl (1500, fun _ => 0), .inl (60, fun _ => 0), .inl (60, fun _ => 0), .inl (60, fun _ => 0), .inl (60, fun _ => 0), .inl (60, fun _ => 0), .inl (61, fun _ => 0), .inl (300, fun _ => 0), .inl (300, fun _ => 0), .inl (300, fun _ => 0), .inl (150, fun _ => 0), .inl (150, fun _ => 0), .inl (150, fun _ => 0), .inl (150, fun _ => 0), .inl (150, fun _ => 0), .inl (150, fun _ => 0), .inl (20, fun _ => 0), .inl (13, fun _ => 0), .inl (7, ia (tI tab34)), .inl (150, fun _ => 0), .inl (150, fun _ => 0), .inl (150, fun _ => 0), .inl (150, fun _ => 0), .inl (15, ia (tI tab40)), .inl (7, ia (tI tab41)), .inl (9, ia (tI tab42)), .inl (80, fun _ => 0), .inl (2, fun _ => 0), .inl (16, fun _ => 0)]) rfl rfl ?_
  refine run46 (pre := cls I00 N00 F00 ++ [.inr (6, [.ref 32, J 0, .ref 33, J 0, .ref 34, .ref 35, .ref 36, .ref 37, .ref 38, .ref 39, J 0, .ref 40, .ref 41, .ref 42, J 0, J 0, .ref 43, .ref 44, .ref 45, .ref 46, J 0, J 0, J 0, J 0, J 0, J 0, J 0, J (-100), J 0, J 0, .ref 47, .ref 48, .ref 49, .ref 50, .ref 51, J 0, .ref 52, .ref 53, .ref 54, .ref 55, .ref 56, .ref 57, .ref 58, J 0, .ref 59, .ref 60, .null, .null, J 0, J 0, J 0, J 0, .null, .null, .null, J 0]), .inl (1500, fun _ => 0), .inl (1500, fun _ => 0), .inl (60, fun _ => 0), .inl (60, fun _ => 0), .inl (60, fun _ => 0), .inl (60, fun _ => 0), .inl (60, fun _ => 0), .inl (61, fun _ => 0), .inl (300, fun _ => 0), .inl (300, fun _ => 0), .inl (300, fun _ => 0), .inl (150, fun _ => 0), .inl (150, fun _ => 0), .inl (150, fun _ => 0), .inl (150, fun _ => 0), .inl (150, fun _ => 0), .inl (150, fun _ => 0), .inl (20, fun _ => 0), .inl (13, fun _ => 0), .inl (7, ia (tI tab34)), .inl (150, fun _ => 0), .inl (150, fun _ => 0), .inl (150, fun _ => 0), .inl (150, fun _ => 0), .inl (15, ia (tI tab40)), .inl (7, ia (tI tab41)), .inl (9, ia (tI tab42)), .inl (80, fun _ => 0), .inl (2, fun _ => 0)]) (st := [.ref 31]) ?_
  refine Vd_n (st' := [.ref 61, .ref 31]) (w' := cls I00 N00 F00 ++ [.inr (6, [.ref 32, J 0, .ref 33, J 0, .ref 34, .ref 35, .ref 36, .ref 37, .ref 38, .ref 39, J 0, .ref 40, .ref 41, .ref 42, J 0, J 0, .ref 43, .ref 44, .ref 45, .ref 46, J 0, J 0, J 0, J 0, J 0, J 0, J 0, J (-100), J 0, J 0, .ref 47, .ref 48, .ref 49, .ref 50, .ref 51, J 0, .ref 52, .ref 53, .ref 54, .ref 55, .ref 56, .ref 57, .ref 58, J 0, .ref 59, .ref 60, .null, .null, J 0, J 0, J 0, J 0, .null, .null, .null, J 0]), .inl (1500, fun _ => 0), .inl (1500, fun _ => 0), .inl (60, fun _ => 0), .inl (60, fun _ => 0), .inl (60, fun _ => 0), .inl (60, fun _ => 0), .inl (60, fun _ => 0), .inl (61, fun _ => 0), .inl (300, fun _ => 0), .inl (300, fun _ => 0), .inl (300, fun _ => 0), .inl (150, fun _ => 0), .inl (150, fun _ => 0), .inl (150, fun _ => 0), .inl (150, fun _ => 0), .inl (150, fun _ => 0), .inl (150, fun _ => 0), .inl (20, fun _ => 0), .inl (13, fun _ => 0), .inl (7, ia (tI tab34)), .inl (150, fun _ => 0), .inl (150, fun _ => 0), .inl (150, fun _ => 0), .inl (150, fun _ => 0), .inl (15, ia (tI tab40)), .inl (7, ia (tI tab41)), .inl (9, ia (tI tab42)), .inl (80, fun _ => 0), .inl (2, fun _ => 0), .inl (16, ia (tI tab46))]) rfl rfl ?_
  refine v_putF fX9_101 (fun q h => by cases h; rfl) rfl (dec_of DX9_init 340 rfl) rfl (by decide) (fun _ => rfl) (fun _ => rfl) ?_
  refine Vd_n (st' := []) (w' := cls I00 N00 F00 ++ [.inr (6, [.ref 32, J 0, .ref 33, J 0, .ref 34, .ref 35, .ref 36, .ref 37, .ref 38, .ref 39, J 0, .ref 40, .ref 41, .ref 42, J 0, J 0, .ref 43, .ref 44, .ref 45, .ref 46, J 0, J 0, J 0, J 0, J 0, J 0, J 0, J (-100), J 0, J 0, .ref 47, .ref 48, .ref 49, .ref 50, .ref 51, J 0, .ref 52, .ref 53, .ref 54, .ref 55, .ref 56, .ref 57, .ref 58, J 0, .ref 59, .ref 60, .ref 61, .null, J 0, J 0, J 0, J 0, .null, .null, .null, J 0]), .inl (1500, fun _ => 0), .inl (1500, fun _ => 0), .inl (60, fun _ => 0), .inl (60, fun _ => 0), .inl (60, fun _ => 0), .inl (60, fun _ => 0), .inl (60, fun _ => 0), .inl (61, fun _ => 0), .inl (300, fun _ => 0), .inl (300, fun _ => 0), .inl (300, fun _ => 0), .inl (150, fun _ => 0), .inl (150, fun _ => 0), .inl (150, fun _ => 0), .inl (150, fun _ => 0), .inl (150, fun _ => 0), .inl (150, fun _ => 0), .inl (20, fun _ => 0), .inl (13, fun _ => 0), .inl (7, ia (tI tab34)), .inl (150, fun _ => 0), .inl (150, fun _ => 0), .inl (150, fun _ => 0), .inl (150, fun _ => 0), .inl (15, ia (tI tab40)), .inl (7, ia (tI tab41)), .inl (9, ia (tI tab42)), .inl (80, fun _ => 0), .inl (2, fun _ => 0), .inl (16, ia (tI tab46))]) rfl rfl ?_
  refine v_aload_n (dec_of DX9_init 341 rfl) rfl ?_
  refine vi_si (dec_of DX9_init 342 rfl) (by decide) ?_
  refine v_newa (n := iI 144) (N := 144) (dec_of DX9_init 343 rfl) (by decide) (by decide) (by decide) rfl (by decide) ⟨by decide, by decide⟩ rfl ?_
  refine Vd_n (st' := [.ref 62, .ref 31]) (w' := cls I00 N00 F00 ++ [.inr (6, [.ref 32, J 0, .ref 33, J 0, .ref 34, .ref 35, .ref 36, .ref 37, .ref 38, .ref 39, J 0, .ref 40, .ref 41, .ref 42, J 0, J 0, .ref 43, .ref 44, .ref 45, .ref 46, J 0, J 0, J 0, J 0, J 0, J 0, J 0, J (-100), J 0, J 0, .ref 47, .ref 48, .ref 49, .ref 50, .ref 51, J 0, .ref 52, .ref 53, .ref 54, .ref 55, .ref 56, .ref 57, .ref 58, J 0, .ref 59, .ref 60, .ref 61, .null, J 0, J 0, J 0, J 0, .null, .null, .null, J 0]), .inl (1500, fun _ => 0), .inl (1500, fun _ => 0), .inl (60, fun _ => 0), .inl (60, fun _ => 0), .inl (60, fun _ => 0), .inl (60, fun _ => 0), .inl (60, fun _ => 0), .inl (61, fun _ => 0), .inl (300, fun _ => 0), .inl (300, fun _ => 0), .inl (300, fun _ => 0), .inl (150, fun _ => 0), .inl (150, fun _ => 0), .inl (150, fun _ => 0), .inl (150, fun _ => 0), .inl (150, fun _ => 0), .inl (150, fun _ => 0), .inl (20, fun _ => 0), .inl (13, fun _ => 0), .inl (7, ia (tI tab34)), .inl (150, fun _ => 0), .inl (150, fun _ => 0), .inl (150, fun _ => 0), .inl (150, fun _ => 0), .inl (15, ia (tI tab40)), .inl (7, ia (tI tab41)), .inl (9, ia (tI tab42)), .inl (80, fun _ => 0), .inl (2, fun _ => 0), .inl (16, ia (tI tab46)), .inl (144, fun _ => 0)]) rfl rfl ?_
  refine run47 (pre := cls I00 N00 F00 ++ [.inr (6, [.ref 32, J 0, .ref 33, J 0, .ref 34, .ref 35, .ref 36, .ref 37, .ref 38, .ref 39, J 0, .ref 40, .ref 41, .ref 42, J 0, J 0, .ref 43, .ref 44, .ref 45, .ref 46, J 0, J 0, J 0, J 0, J 0, J 0, J 0, J (-100), J 0, J 0, .ref 47, .ref 48, .ref 49, .ref 50, .ref 51, J 0, .ref 52, .ref 53, .ref 54, .ref 55, .ref 56, .ref 57, .ref 58, J 0, .ref 59, .ref 60, .ref 61, .null, J 0, J 0, J 0, J 0, .null, .null, .null, J 0]), .inl (1500, fun _ => 0), .inl (1500, fun _ => 0), .inl (60, fun _ => 0), .inl (60, fun _ => 0), .inl (60, fun _ => 0), .inl (60, fun _ => 0), .inl (60, fun _ => 0), .inl (61, fun _ => 0), .inl (300, fun _ => 0), .inl (300, fun _ => 0), .inl (300, fun _ => 0), .inl (150, fun _ => 0), .inl (150, fun _ => 0), .inl (150, fun _ => 0), .inl (150, fun _ => 0), .inl (150, fun _ => 0), .inl (150, fun _ => 0), .inl (20, fun _ => 0), .inl (13, fun _ => 0), .inl (7, ia (tI tab34)), .inl (150, fun _ => 0), .inl (150, fun _ => 0), .inl (150, fun _ => 0), .inl (150, fun _ => 0), .inl (15, ia (tI tab40)), .inl (7, ia (tI tab41)), .inl (9, ia (tI tab42)), .inl (80, fun _ => 0), .inl (2, fun _ => 0), .inl (16, ia (tI tab46))]) (st := [.ref 31]) ?_
  refine Vd_n (st' := [.ref 62, .ref 31]) (w' := cls I00 N00 F00 ++ [.inr (6, [.ref 32, J 0, .ref 33, J 0, .ref 34, .ref 35, .ref 36, .ref 37, .ref 38, .ref 39, J 0, .ref 40, .ref 41, .ref 42, J 0, J 0, .ref 43, .ref 44, .ref 45, .ref 46, J 0, J 0, J 0, J 0, J 0, J 0, J 0, J (-100), J 0, J 0, .ref 47, .ref 48, .ref 49, .ref 50, .ref 51, J 0, .ref 52, .ref 53, .ref 54, .ref 55, .ref 56, .ref 57, .ref 58, J 0, .ref 59, .ref 60, .ref 61, .null, J 0, J 0, J 0, J 0, .null, .null, .null, J 0]), .inl (1500, fun _ => 0), .inl (1500, fun _ => 0), .inl (60, fun _ => 0), .inl (60, fun _ => 0), .inl (60, fun _ => 0), .inl (60, fun _ => 0), .inl (60, fun _ => 0), .inl (61, fun _ => 0), .inl (300, fun _ => 0), .inl (300, fun _ => 0), .inl (300, fun _ => 0), .inl (150, fun _ => 0), .inl (150, fun _ => 0), .inl (150, fun _ => 0), .inl (150, fun _ => 0), .inl (150, fun _ => 0), .inl (150, fun _ => 0), .inl (20, fun _ => 0), .inl (13, fun _ => 0), .inl (7, ia (tI tab34)), .inl (150, fun _ => 0), .inl (150, fun _ => 0), .inl (150, fun _ => 0), .inl (150, fun _ => 0), .inl (15, ia (tI tab40)), .inl (7, ia (tI tab41)), .inl (9, ia (tI tab42)), .inl (80, fun _ => 0), .inl (2, fun _ => 0), .inl (16, ia (tI tab46)), .inl (144, ia (tI tab47))]) rfl rfl ?_
  refine v_putF fX9_104 (fun q h => by cases h; rfl) rfl (dec_of DX9_init 920 rfl) rfl (by decide) (fun _ => rfl) (fun _ => rfl) ?_
  refine Vd_n (st' := []) (w' := cls I00 N00 F00 ++ [.inr (6, [.ref 32, J 0, .ref 33, J 0, .ref 34, .ref 35, .ref 36, .ref 37, .ref 38, .ref 39, J 0, .ref 40, .ref 41, .ref 42, J 0, J 0, .ref 43, .ref 44, .ref 45, .ref 46, J 0, J 0, J 0, J 0, J 0, J 0, J 0, J (-100), J 0, J 0, .ref 47, .ref 48, .ref 49, .ref 50, .ref 51, J 0, .ref 52, .ref 53, .ref 54, .ref 55, .ref 56, .ref 57, .ref 58, J 0, .ref 59, .ref 60, .ref 61, .ref 62, J 0, J 0, J 0, J 0, .null, .null, .null, J 0]), .inl (1500, fun _ => 0), .inl (1500, fun _ => 0), .inl (60, fun _ => 0), .inl (60, fun _ => 0), .inl (60, fun _ => 0), .inl (60, fun _ => 0), .inl (60, fun _ => 0), .inl (61, fun _ => 0), .inl (300, fun _ => 0), .inl (300, fun _ => 0), .inl (300, fun _ => 0), .inl (150, fun _ => 0), .inl (150, fun _ => 0), .inl (150, fun _ => 0), .inl (150, fun _ => 0), .inl (150, fun _ => 0), .inl (150, fun _ => 0), .inl (20, fun _ => 0), .inl (13, fun _ => 0), .inl (7, ia (tI tab34)), .inl (150, fun _ => 0), .inl (150, fun _ => 0), .inl (150, fun _ => 0), .inl (150, fun _ => 0), .inl (15, ia (tI tab40)), .inl (7, ia (tI tab41)), .inl (9, ia (tI tab42)), .inl (80, fun _ => 0), .inl (2, fun _ => 0), .inl (16, ia (tI tab46)), .inl (144, ia (tI tab47))]) rfl rfl ?_
  refine v_aload_n (dec_of DX9_init 921 rfl) rfl ?_
  refine vi_bi (dec_of DX9_init 922 rfl) (by decide) ?_
  refine v_newa (n := iI 41) (N := 41) (dec_of DX9_init 923 rfl) (by decide) (by decide) (by decide) rfl (by decide) ⟨by decide, by decide⟩ rfl ?_
  refine Vd_n (st' := [.ref 63, .ref 31]) (w' := cls I00 N00 F00 ++ [.inr (6, [.ref 32, J 0, .ref 33, J 0, .ref 34, .ref 35, .ref 36, .ref 37, .ref 38, .ref 39, J 0, .ref 40, .ref 41, .ref 42, J 0, J 0, .ref 43, .ref 44, .ref 45, .ref 46, J 0, J 0, J 0, J 0, J 0, J 0, J 0, J (-100), J 0, J 0, .ref 47, .ref 48, .ref 49, .ref 50, .ref 51, J 0, .ref 52, .ref 53, .ref 54, .ref 55, .ref 56, .ref 57, .ref 58, J 0, .ref 59, .ref 60, .ref 61, .ref 62, J 0, J 0, J 0, J 0, .null, .null, .null, J 0]), .inl (1500, fun _ => 0), .inl (1500, fun _ => 0), .inl (60, fun _ => 0), .inl (60, fun _ => 0), .inl (60, fun _ => 0), .inl (60, fun _ => 0), .inl (60, fun _ => 0), .inl (61, fun _ => 0), .inl (300, fun _ => 0), .inl (300, fun _ => 0), .inl (300, fun _ => 0), .inl (150, fun _ => 0), .inl (150, fun _ => 0), .inl (150, fun _ => 0), .inl (150, fun _ => 0), .inl (150, fun _ => 0), .inl (150, fun _ => 0), .inl (20, fun _ => 0), .inl (13, fun _ => 0), .inl (7, ia (tI tab34)), .inl (150, fun _ => 0), .inl (150, fun _ => 0), .inl (150, fun _ => 0), .inl (150, fun _ => 0), .inl (15, ia (tI tab40)), .inl (7, ia (tI tab41)), .inl (9, ia (tI tab42)), .inl (80, fun _ => 0), .inl (2, fun _ => 0), .inl (16, ia (tI tab46)), .inl (144, ia (tI tab47)), .inl (41, fun _ => 0)]) rfl rfl ?_
  refine v_putF fX9_107 (fun q h => by cases h; rfl) rfl (dec_of DX9_init 924 rfl) rfl (by decide) (fun _ => rfl) (fun _ => rfl) ?_
  refine Vd_n (st' := []) (w' := cls I00 N00 F00 ++ [.inr (6, [.ref 32, J 0, .ref 33, J 0, .ref 34, .ref 35, .ref 36, .ref 37, .ref 38, .ref 39, J 0, .ref 40, .ref 41, .ref 42, J 0, J 0, .ref 43, .ref 44, .ref 45, .ref 46, J 0, J 0, J 0, J 0, J 0, J 0, J 0, J (-100), J 0, J 0, .ref 47, .ref 48, .ref 49, .ref 50, .ref 51, J 0, .ref 52, .ref 53, .ref 54, .ref 55, .ref 56, .ref 57, .ref 58, J 0, .ref 59, .ref 60, .ref 61, .ref 62, J 0, J 0, J 0, J 0, .ref 63, .null, .null, J 0]), .inl (1500, fun _ => 0), .inl (1500, fun _ => 0), .inl (60, fun _ => 0), .inl (60, fun _ => 0), .inl (60, fun _ => 0), .inl (60, fun _ => 0), .inl (60, fun _ => 0), .inl (61, fun _ => 0), .inl (300, fun _ => 0), .inl (300, fun _ => 0), .inl (300, fun _ => 0), .inl (150, fun _ => 0), .inl (150, fun _ => 0), .inl (150, fun _ => 0), .inl (150, fun _ => 0), .inl (150, fun _ => 0), .inl (150, fun _ => 0), .inl (20, fun _ => 0), .inl (13, fun _ => 0), .inl (7, ia (tI tab34)), .inl (150, fun _ => 0), .inl (150, fun _ => 0), .inl (150, fun _ => 0), .inl (150, fun _ => 0), .inl (15, ia (tI tab40)), .inl (7, ia (tI tab41)), .inl (9, ia (tI tab42)), .inl (80, fun _ => 0), .inl (2, fun _ => 0), .inl (16, ia (tI tab46)), .inl (144, ia (tI tab47)), .inl (41, fun _ => 0)]) rfl rfl ?_
  refine v_aload_n (dec_of DX9_init 925 rfl) rfl ?_
  refine vi_bi (dec_of DX9_init 926 rfl) (by decide) ?_
  refine v_newa (n := iI 41) (N := 41) (dec_of DX9_init 927 rfl) (by decide) (by decide) (by decide) rfl (by decide) ⟨by decide, by decide⟩ rfl ?_
  refine Vd_n (st' := [.ref 64, .ref 31]) (w' := cls I00 N00 F00 ++ [.inr (6, [.ref 32, J 0, .ref 33, J 0, .ref 34, .ref 35, .ref 36, .ref 37, .ref 38, .ref 39, J 0, .ref 40, .ref 41, .ref 42, J 0, J 0, .ref 43, .ref 44, .ref 45, .ref 46, J 0, J 0, J 0, J 0, J 0, J 0, J 0, J (-100), J 0, J 0, .ref 47, .ref 48, .ref 49, .ref 50, .ref 51, J 0, .ref 52, .ref 53, .ref 54, .ref 55, .ref 56, .ref 57, .ref 58, J 0, .ref 59, .ref 60, .ref 61, .ref 62, J 0, J 0, J 0, J 0, .ref 63, .null, .null, J 0]), .inl (1500, fun _ => 0), .inl (1500, fun _ => 0), .inl (60, fun _ => 0), .inl (60, fun _ => 0), .inl (60, fun _ => 0), .inl (60, fun _ => 0), .inl (60, fun _ => 0), .inl (61, fun _ => 0), .inl (300, fun _ => 0), .inl (300, fun _ => 0), .inl (300, fun _ => 0), .inl (150, fun _ => 0), .inl (150, fun _ => 0), .inl (150, fun _ => 0), .inl (150, fun _ => 0), .inl (150, fun _ => 0), .inl (150, fun _ => 0), .inl (20, fun _ => 0), .inl (13, fun _ => 0), .inl (7, ia (tI tab34)), .inl (150, fun _ => 0), .inl (150, fun _ => 0), .inl (150, fun _ => 0), .inl (150, fun _ => 0), .inl (15, ia (tI tab40)), .inl (7, ia (tI tab41)), .inl (9, ia (tI tab42)), .inl (80, fun _ => 0), .inl (2, fun _ => 0), .inl (16, ia (tI tab46)), .inl (144, ia (tI tab47)), .inl (41, fun _ => 0), .inl (41, fun _ => 0)]) rfl rfl ?_
  refine v_putF fX9_110 (fun q h => by cases h; rfl) rfl (dec_of DX9_init 928 rfl) rfl (by decide) (fun _ => rfl) (fun _ => rfl) ?_
  refine Vd_n (st' := []) (w' := cls I00 N00 F00 ++ [.inr (6, [.ref 32, J 0, .ref 33, J 0, .ref 34, .ref 35, .ref 36, .ref 37, .ref 38, .ref 39, J 0, .ref 40, .ref 41, .ref 42, J 0, J 0, .ref 43, .ref 44, .ref 45, .ref 46, J 0, J 0, J 0, J 0, J 0, J 0, J 0, J (-100), J 0, J 0, .ref 47, .ref 48, .ref 49, .ref 50, .ref 51, J 0, .ref 52, .ref 53, .ref 54, .ref 55, .ref 56, .ref 57, .ref 58, J 0, .ref 59, .ref 60, .ref 61, .ref 62, J 0, J 0, J 0, J 0, .ref 63, .ref 64, .null, J 0]), .inl (1500, fun _ => 0), .inl (1500, fun _ => 0), .inl (60, fun _ => 0), .inl (60, fun _ => 0), .inl (60, fun _ => 0), .inl (60, fun _ => 0), .inl (60, fun _ => 0), .inl (61, fun _ => 0), .inl (300, fun _ => 0), .inl (300, fun _ => 0), .inl (300, fun _ => 0), .inl (150, fun _ => 0), .inl (150, fun _ => 0), .inl (150, fun _ => 0), .inl (150, fun _ => 0), .inl (150, fun _ => 0), .inl (150, fun _ => 0), .inl (20, fun _ => 0), .inl (13, fun _ => 0), .inl (7, ia (tI tab34)), .inl (150, fun _ => 0), .inl (150, fun _ => 0), .inl (150, fun _ => 0), .inl (150, fun _ => 0), .inl (15, ia (tI tab40)), .inl (7, ia (tI tab41)), .inl (9, ia (tI tab42)), .inl (80, fun _ => 0), .inl (2, fun _ => 0), .inl (16, ia (tI tab46)), .inl (144, ia (tI tab47)), .inl (41, fun _ => 0), .inl (41, fun _ => 0)]) rfl rfl ?_
  refine v_aload_n (dec_of DX9_init 929 rfl) rfl ?_
  refine vi_si (dec_of DX9_init 930 rfl) (by decide) ?_
  refine v_newa (n := iI 1700) (N := 1700) (dec_of DX9_init 931 rfl) (by decide) (by decide) (by decide) rfl (by decide) ⟨by decide, by decide⟩ rfl ?_
  refine Vd_n (st' := [.ref 65, .ref 31]) (w' := cls I00 N00 F00 ++ [.inr (6, [.ref 32, J 0, .ref 33, J 0, .ref 34, .ref 35, .ref 36, .ref 37, .ref 38, .ref 39, J 0, .ref 40, .ref 41, .ref 42, J 0, J 0, .ref 43, .ref 44, .ref 45, .ref 46, J 0, J 0, J 0, J 0, J 0, J 0, J 0, J (-100), J 0, J 0, .ref 47, .ref 48, .ref 49, .ref 50, .ref 51, J 0, .ref 52, .ref 53, .ref 54, .ref 55, .ref 56, .ref 57, .ref 58, J 0, .ref 59, .ref 60, .ref 61, .ref 62, J 0, J 0, J 0, J 0, .ref 63, .ref 64, .null, J 0]), .inl (1500, fun _ => 0), .inl (1500, fun _ => 0), .inl (60, fun _ => 0), .inl (60, fun _ => 0), .inl (60, fun _ => 0), .inl (60, fun _ => 0), .inl (60, fun _ => 0), .inl (61, fun _ => 0), .inl (300, fun _ => 0), .inl (300, fun _ => 0), .inl (300, fun _ => 0), .inl (150, fun _ => 0), .inl (150, fun _ => 0), .inl (150, fun _ => 0), .inl (150, fun _ => 0), .inl (150, fun _ => 0), .inl (150, fun _ => 0), .inl (20, fun _ => 0), .inl (13, fun _ => 0), .inl (7, ia (tI tab34)), .inl (150, fun _ => 0), .inl (150, fun _ => 0), .inl (150, fun _ => 0), .inl (150, fun _ => 0), .inl (15, ia (tI tab40)), .inl (7, ia (tI tab41)), .inl (9, ia (tI tab42)), .inl (80, fun _ => 0), .inl (2, fun _ => 0), .inl (16, ia (tI tab46)), .inl (144, ia (tI tab47)), .inl (41, fun _ => 0), .inl (41, fun _ => 0), .inl (1700, fun _ => 0)]) rfl rfl ?_
  refine v_putF fX9_113 (fun q h => by cases h; rfl) rfl (dec_of DX9_init 932 rfl) rfl (by decide) (fun _ => rfl) (fun _ => rfl) ?_
  refine Vd_n (st' := []) (w' := cls I00 N00 F00 ++ [.inr (6, [.ref 32, J 0, .ref 33, J 0, .ref 34, .ref 35, .ref 36, .ref 37, .ref 38, .ref 39, J 0, .ref 40, .ref 41, .ref 42, J 0, J 0, .ref 43, .ref 44, .ref 45, .ref 46, J 0, J 0, J 0, J 0, J 0, J 0, J 0, J (-100), J 0, J 0, .ref 47, .ref 48, .ref 49, .ref 50, .ref 51, J 0, .ref 52, .ref 53, .ref 54, .ref 55, .ref 56, .ref 57, .ref 58, J 0, .ref 59, .ref 60, .ref 61, .ref 62, J 0, J 0, J 0, J 0, .ref 63, .ref 64, .ref 65, J 0]), .inl (1500, fun _ => 0), .inl (1500, fun _ => 0), .inl (60, fun _ => 0), .inl (60, fun _ => 0), .inl (60, fun _ => 0), .inl (60, fun _ => 0), .inl (60, fun _ => 0), .inl (61, fun _ => 0), .inl (300, fun _ => 0), .inl (300, fun _ => 0), .inl (300, fun _ => 0), .inl (150, fun _ => 0), .inl (150, fun _ => 0), .inl (150, fun _ => 0), .inl (150, fun _ => 0), .inl (150, fun _ => 0), .inl (150, fun _ => 0), .inl (20, fun _ => 0), .inl (13, fun _ => 0), .inl (7, ia (tI tab34)), .inl (150, fun _ => 0), .inl (150, fun _ => 0), .inl (150, fun _ => 0), .inl (150, fun _ => 0), .inl (15, ia (tI tab40)), .inl (7, ia (tI tab41)), .inl (9, ia (tI tab42)), .inl (80, fun _ => 0), .inl (2, fun _ => 0), .inl (16, ia (tI tab46)), .inl (144, ia (tI tab47)), .inl (41, fun _ => 0), .inl (41, fun _ => 0), .inl (1700, fun _ => 0)]) rfl rfl ?_
  refine v_aload_n (dec_of DX9_init 933 rfl) rfl ?_
  refine vi_const (dec_of DX9_init 934 rfl) ?_
  refine vi_put fX9_116 (dec_of DX9_init 935 rfl) rfl (by decide) ?_
  refine Vd_n (st' := []) (w' := cls I00 N00 F00 ++ [.inr (6, [.ref 32, J 0, .ref 33, J 0, .ref 34, .ref 35, .ref 36, .ref 37, .ref 38, .ref 39, J 0, .ref 40, .ref 41, .ref 42, J 0, J 0, .ref 43, .ref 44, .ref 45, .ref 46, J 0, J 0, J 0, J 0, J 0, J 0, J 0, J (-100), J 0, J 0, .ref 47, .ref 48, .ref 49, .ref 50, .ref 51, J 0, .ref 52, .ref 53, .ref 54, .ref 55, .ref 56, .ref 57, .ref 58, J 1, .ref 59, .ref 60, .ref 61, .ref 62, J 0, J 0, J 0, J 0, .ref 63, .ref 64, .ref 65, J 0]), .inl (1500, fun _ => 0), .inl (1500, fun _ => 0), .inl (60, fun _ => 0), .inl (60, fun _ => 0), .inl (60, fun _ => 0), .inl (60, fun _ => 0), .inl (60, fun _ => 0), .inl (61, fun _ => 0), .inl (300, fun _ => 0), .inl (300, fun _ => 0), .inl (300, fun _ => 0), .inl (150, fun _ => 0), .inl (150, fun _ => 0), .inl (150, fun _ => 0), .inl (150, fun _ => 0), .inl (150, fun _ => 0), .inl (150, fun _ => 0), .inl (20, fun _ => 0), .inl (13, fun _ => 0), .inl (7, ia (tI tab34)), .inl (150, fun _ => 0), .inl (150, fun _ => 0), .inl (150, fun _ => 0), .inl (150, fun _ => 0), .inl (15, ia (tI tab40)), .inl (7, ia (tI tab41)), .inl (9, ia (tI tab42)), .inl (80, fun _ => 0), .inl (2, fun _ => 0), .inl (16, ia (tI tab46)), .inl (144, ia (tI tab47)), .inl (41, fun _ => 0), .inl (41, fun _ => 0), .inl (1700, fun _ => 0)]) rfl rfl ?_
  exact vi_vret (dec_of DX9_init 936 rfl) rfl ⟨by decide, by decide⟩ ⟨rfl, rfl⟩
