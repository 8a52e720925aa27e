/-! THE LAW'S LOOP -/
theorem kx_tabIn {own : String} {cc : ByteArray} {nL dp : Nat} {F : kx_F} (C : kx_Ru own cc nL dp F) {pc : Nat} {L : List (Option Value)} {S : List Value} {h : kx_H} {dflt lo hi : Int} {offs : Array Int} {len : Nat} {x : Int32} {off : Int} (tgt : Nat) (d : decode cc pc = .ok (.tableswitch dflt lo hi offs, len)) (h1 : ¬ x.toInt < lo) (h2 : ¬ hi < x.toInt) (ho : offs[(x.toInt - lo).toNat]? = some off) (ht : (pc : Int) + off = (tgt : Int)) (k : F tgt L S h) : F pc L (.int x :: S) h := by
  obtain ⟨p, l, e, R, s, m, args, below, meth, c, cells, slots, Q, D, ad, cA, A, ⟨hx, hb, hml, hown, hts⟩, hN, hK, hJ, hA, hR, rfl⟩ := C
  intro H locs ls hP hS hl
  exact lv_tableIn hx hb d h1 h2 ho ht (k H locs ls hP hS hl)
theorem kx_tabOut {own : String} {cc : ByteArray} {nL dp : Nat} {F : kx_F} (C : kx_Ru own cc nL dp F) {pc : Nat} {L : List (Option Value)} {S : List Value} {h : kx_H} {dflt lo hi : Int} {offs : Array Int} {len : Nat} {x : Int32} (tgt : Nat) (d : decode cc pc = .ok (.tableswitch dflt lo hi offs, len)) (h1 : x.toInt < lo ∨ hi < x.toInt) (ht : (pc : Int) + dflt = (tgt : Int)) (k : F tgt L S h) : F pc L (.int x :: S) h := by
  obtain ⟨p, l, e, R, s, m, args, below, meth, c, cells, slots, Q, D, ad, cA, A, ⟨hx, hb, hml, hown, hts⟩, hN, hK, hJ, hA, hR, rfl⟩ := C
  intro H locs ls hP hS hl
  exact lv_tableOut hx hb d h1 ht (k H locs ls hP hS hl)
theorem lw_31 (x : Int32) : ∃ j : Nat, j < 32 ∧ x &&& nI 31 = nI j := by
  refine ⟨(x.toBitVec &&& 31#32).toNat, ?_, ?_⟩
  · rw [BitVec.toNat_and]
    exact Nat.lt_of_le_of_lt Nat.and_le_right (by decide)
  · show x &&& Int32.ofNat 31 = Int32.ofNat _
    apply Int32.toBitVec_inj.mp
    rw [Int32.toBitVec_and, Int32.toBitVec_ofNat', Int32.toBitVec_ofNat', BitVec.ofNat_toNat, BitVec.setWidth_eq]
abbrev lw_J (x y : Int32) : Int64 := (x.toInt64 <<< ((nI 32).toInt64 &&& 63)) ||| (y.toInt64 &&& 4294967295)
/-- the script's rows, at the layer -/
def lw_SL (F : kx_F) (N : Nat) (xs : Nat → Int32) : Prop := ∀ {pc : Nat} {L : List (Option Value)} {S : List Value} {h : kx_H} {j : Nat}, j < N → decode cL_law pc = .ok (.iaload, 1) → F (pc + 1) L (.int (xs j) :: S) h → F pc L (.int (nI j) :: .ref 142 :: S) h
def lw_SZ (F : kx_F) (N : Nat) : Prop := ∀ {pc : Nat} {L : List (Option Value)} {S : List Value} {h : kx_H}, decode cL_law pc = .ok (.arraylength, 1) → F (pc + 1) L (.int (nI N) :: S) h → F pc L (.ref 142 :: S) h
def lw_L (i : Nat) : List (Option Value) := [some (.ref 142), some (.ref 0), some (.ref 127), some (.int (nI i))]
set_option maxHeartbeats 1000000 in
set_option maxRecDepth 20000 in
theorem lc_type {F : kx_F} (C : kx_Ru RL cL_law 4 14 F) {N : Nat} {xs : Nat → Int32} (hsl : lw_SL F N xs) {i : Nat} (hi : i + 8 ≤ N) {h : kx_H} (hI : iv_I h) (k : ∀ h2, iv_I h2 → F 1311 [some (.ref 142), some (.ref 0), some (.ref 127), some (.int (nI i))] [] h2) : F 156 [some (.ref 142), some (.ref 0), some (.ref 127), some (.int (nI i))] [] h := by
  obtain ⟨dp8, Q8, r0, hd8, hM8, hk⟩ := lk_type (lw_J (xs (i + 1)) (xs (i + 2))) (xs (i + 3)) hI
  refine kx_ald1 (pc := 156) C dL_law_156 ?_
  refine kx_ald0 (pc := 157) C dL_law_157 ?_
  refine kx_ild3 (pc := 158) C dL_law_158 ?_
  refine kx_iconst (pc := 159) C (v := nI 1) dL_law_159 (by decide) ?_
  refine kx_iaddN (pc := 160) C dL_law_160 ?_
  refine hsl (pc := 161) (by omega) dL_law_161 ?_
  refine kx_i2l (pc := 162) C dL_law_162 ?_
  refine kx_bipush (pc := 163) C (v := nI 32) dL_law_163 (by decide) ?_
  refine kx_lshl (pc := 165) C dL_law_165 ?_
  refine kx_ald0 (pc := 166) C dL_law_166 ?_
  refine kx_ild3 (pc := 167) C dL_law_167 ?_
  refine kx_iconst (pc := 168) C (v := nI 2) dL_law_168 (by decide) ?_
  refine kx_iaddN (pc := 169) C dL_law_169 ?_
  refine hsl (pc := 170) (by omega) dL_law_170 ?_
  refine kx_i2l (pc := 171) C dL_law_171 ?_
  refine kx_ldc2 (pc := 172) C dL_law_172 cn_L_13 ?_
  refine kx_land (pc := 175) C dL_law_175 ?_
  refine kx_lor (pc := 176) C dL_law_176 ?_
  refine kx_ald0 (pc := 177) C dL_law_177 ?_
  refine kx_ild3 (pc := 178) C dL_law_178 ?_
  refine kx_iconst (pc := 179) C (v := nI 3) dL_law_179 (by decide) ?_
  refine kx_iaddN (pc := 180) C dL_law_180 ?_
  refine hsl (pc := 181) (by omega) dL_law_181 ?_
  refine kx_callVI2 (pc := 182) C cs_L_15 ob_0 hM8 (by omega) dL_law_182 (Nat.le_of_ble_eq_true rfl) (fun r h1 q => ?_)
  obtain ⟨e8, dp9, Q9, hd9, hM9, hk9⟩ := hk r h1 q
  subst e8
  refine kx_ald2 (pc := 185) C dL_law_185 ?_
  refine kx_ald0 (pc := 186) C dL_law_186 ?_
  refine kx_ild3 (pc := 187) C dL_law_187 ?_
  refine kx_iconst (pc := 188) C (v := nI 1) dL_law_188 (by decide) ?_
  refine kx_iaddN (pc := 189) C dL_law_189 ?_
  refine hsl (pc := 190) (by omega) dL_law_190 ?_
  refine kx_i2l (pc := 191) C dL_law_191 ?_
  refine kx_bipush (pc := 192) C (v := nI 32) dL_law_192 (by decide) ?_
  refine kx_lshl (pc := 194) C dL_law_194 ?_
  refine kx_ald0 (pc := 195) C dL_law_195 ?_
  refine kx_ild3 (pc := 196) C dL_law_196 ?_
  refine kx_iconst (pc := 197) C (v := nI 2) dL_law_197 (by decide) ?_
  refine kx_iaddN (pc := 198) C dL_law_198 ?_
  refine hsl (pc := 199) (by omega) dL_law_199 ?_
  refine kx_i2l (pc := 200) C dL_law_200 ?_
  refine kx_ldc2 (pc := 201) C dL_law_201 cn_L_13 ?_
  refine kx_land (pc := 204) C dL_law_204 ?_
  refine kx_lor (pc := 205) C dL_law_205 ?_
  refine kx_ald0 (pc := 206) C dL_law_206 ?_
  refine kx_ild3 (pc := 207) C dL_law_207 ?_
  refine kx_iconst (pc := 208) C (v := nI 3) dL_law_208 (by decide) ?_
  refine kx_iaddN (pc := 209) C dL_law_209 ?_
  refine hsl (pc := 210) (by omega) dL_law_210 ?_
  refine kx_callVI2 (pc := 211) C cs_L_19 ob_127 hM9 (by omega) dL_law_211 (Nat.le_of_ble_eq_true rfl) (fun r2 h2 q2 => ?_)
  obtain ⟨e9, hI2⟩ := hk9 r2 h2 q2
  subst e9
  exact kx_icmp_eq (pc := 214) C 1311 dL_law_214 (by decide) (fun _ => k h2 hI2) (fun z => absurd rfl z)
set_option maxHeartbeats 1000000 in
set_option maxRecDepth 20000 in
theorem lc_tale {F : kx_F} (C : kx_Ru RL cL_law 4 14 F) {N : Nat} {xs : Nat → Int32} (hsl : lw_SL F N xs) {i : Nat} (hi : i + 8 ≤ N) {h : kx_H} (hI : iv_I h) (k : ∀ h2, iv_I h2 → F 1311 [some (.ref 142), some (.ref 0), some (.ref 127), some (.int (nI i))] [] h2) : F 219 [some (.ref 142), some (.ref 0), some (.ref 127), some (.int (nI i))] [] h := by
  obtain ⟨dp8, Q8, r0, hd8, hM8, hk⟩ := lk_tale hI
  refine kx_ald1 (pc := 219) C dL_law_219 ?_
  refine kx_callVI0 (pc := 220) C cs_L_20 ob_0 hM8 (by omega) dL_law_220 (Nat.le_of_ble_eq_true rfl) (fun r h1 q => ?_)
  obtain ⟨e8, dp9, Q9, hd9, hM9, hk9⟩ := hk r h1 q
  subst e8
  refine kx_ald2 (pc := 223) C dL_law_223 ?_
  refine kx_callVI0 (pc := 224) C cs_L_24 ob_127 hM9 (by omega) dL_law_224 (Nat.le_of_ble_eq_true rfl) (fun r2 h2 q2 => ?_)
  obtain ⟨e9, hI2⟩ := hk9 r2 h2 q2
  subst e9
  exact kx_icmp_eq (pc := 227) C 1311 dL_law_227 (by decide) (fun _ => k h2 hI2) (fun z => absurd rfl z)
set_option maxHeartbeats 1000000 in
set_option maxRecDepth 20000 in
theorem lc_change {F : kx_F} (C : kx_Ru RL cL_law 4 14 F) {N : Nat} {xs : Nat → Int32} (hsl : lw_SL F N xs) {i : Nat} (hi : i + 8 ≤ N) {h : kx_H} (hI : iv_I h) (k : ∀ h2, iv_I h2 → F 1311 [some (.ref 142), some (.ref 0), some (.ref 127), some (.int (nI i))] [] h2) : F 232 [some (.ref 142), some (.ref 0), some (.ref 127), some (.int (nI i))] [] h := by
  obtain ⟨dp8, Q8, r0, hd8, hM8, hk⟩ := lk_change (xs (i + 1)) (xs (i + 2)) (xs (i + 3)) hI
  refine kx_ald1 (pc := 232) C dL_law_232 ?_
  refine kx_ald0 (pc := 233) C dL_law_233 ?_
  refine kx_ild3 (pc := 234) C dL_law_234 ?_
  refine kx_iconst (pc := 235) C (v := nI 1) dL_law_235 (by decide) ?_
  refine kx_iaddN (pc := 236) C dL_law_236 ?_
  refine hsl (pc := 237) (by omega) dL_law_237 ?_
  refine kx_ald0 (pc := 238) C dL_law_238 ?_
  refine kx_ild3 (pc := 239) C dL_law_239 ?_
  refine kx_iconst (pc := 240) C (v := nI 2) dL_law_240 (by decide) ?_
  refine kx_iaddN (pc := 241) C dL_law_241 ?_
  refine hsl (pc := 242) (by omega) dL_law_242 ?_
  refine kx_ald0 (pc := 243) C dL_law_243 ?_
  refine kx_ild3 (pc := 244) C dL_law_244 ?_
  refine kx_iconst (pc := 245) C (v := nI 3) dL_law_245 (by decide) ?_
  refine kx_iaddN (pc := 246) C dL_law_246 ?_
  refine hsl (pc := 247) (by omega) dL_law_247 ?_
  refine kx_callVI3 (pc := 248) C cs_L_25 ob_0 hM8 (by omega) dL_law_248 (Nat.le_of_ble_eq_true rfl) (fun r h1 q => ?_)
  obtain ⟨e8, dp9, Q9, hd9, hM9, hk9⟩ := hk r h1 q
  subst e8
  refine kx_ald2 (pc := 251) C dL_law_251 ?_
  refine kx_ald0 (pc := 252) C dL_law_252 ?_
  refine kx_ild3 (pc := 253) C dL_law_253 ?_
  refine kx_iconst (pc := 254) C (v := nI 1) dL_law_254 (by decide) ?_
  refine kx_iaddN (pc := 255) C dL_law_255 ?_
  refine hsl (pc := 256) (by omega) dL_law_256 ?_
  refine kx_ald0 (pc := 257) C dL_law_257 ?_
  refine kx_ild3 (pc := 258) C dL_law_258 ?_
  refine kx_iconst (pc := 259) C (v := nI 2) dL_law_259 (by decide) ?_
  refine kx_iaddN (pc := 260) C dL_law_260 ?_
  refine hsl (pc := 261) (by omega) dL_law_261 ?_
  refine kx_ald0 (pc := 262) C dL_law_262 ?_
  refine kx_ild3 (pc := 263) C dL_law_263 ?_
  refine kx_iconst (pc := 264) C (v := nI 3) dL_law_264 (by decide) ?_
  refine kx_iaddN (pc := 265) C dL_law_265 ?_
  refine hsl (pc := 266) (by omega) dL_law_266 ?_
  refine kx_callVI3 (pc := 267) C cs_L_29 ob_127 hM9 (by omega) dL_law_267 (Nat.le_of_ble_eq_true rfl) (fun r2 h2 q2 => ?_)
  obtain ⟨e9, hI2⟩ := hk9 r2 h2 q2
  subst e9
  exact kx_icmp_eq (pc := 270) C 1311 dL_law_270 (by decide) (fun _ => k h2 hI2) (fun z => absurd rfl z)
set_option maxHeartbeats 1000000 in
set_option maxRecDepth 20000 in
theorem lc_teller {F : kx_F} (C : kx_Ru RL cL_law 4 14 F) {N : Nat} {xs : Nat → Int32} (hsl : lw_SL F N xs) {i : Nat} (hi : i + 8 ≤ N) {h : kx_H} (hI : iv_I h) (k : ∀ h2, iv_I h2 → F 1311 [some (.ref 142), some (.ref 0), some (.ref 127), some (.int (nI i))] [] h2) : F 275 [some (.ref 142), some (.ref 0), some (.ref 127), some (.int (nI i))] [] h := by
  obtain ⟨dp8, Q8, r0, hd8, hM8, hk⟩ := lk_teller (xs (i + 1)) hI
  refine kx_ald1 (pc := 275) C dL_law_275 ?_
  refine kx_ald0 (pc := 276) C dL_law_276 ?_
  refine kx_ild3 (pc := 277) C dL_law_277 ?_
  refine kx_iconst (pc := 278) C (v := nI 1) dL_law_278 (by decide) ?_
  refine kx_iaddN (pc := 279) C dL_law_279 ?_
  refine hsl (pc := 280) (by omega) dL_law_280 ?_
  refine kx_callVI1 (pc := 281) C cs_L_30 ob_0 hM8 (by omega) dL_law_281 (Nat.le_of_ble_eq_true rfl) (fun r h1 q => ?_)
  obtain ⟨e8, dp9, Q9, hd9, hM9, hk9⟩ := hk r h1 q
  subst e8
  refine kx_ald2 (pc := 284) C dL_law_284 ?_
  refine kx_ald0 (pc := 285) C dL_law_285 ?_
  refine kx_ild3 (pc := 286) C dL_law_286 ?_
  refine kx_iconst (pc := 287) C (v := nI 1) dL_law_287 (by decide) ?_
  refine kx_iaddN (pc := 288) C dL_law_288 ?_
  refine hsl (pc := 289) (by omega) dL_law_289 ?_
  refine kx_callVI1 (pc := 290) C cs_L_34 ob_127 hM9 (by omega) dL_law_290 (Nat.le_of_ble_eq_true rfl) (fun r2 h2 q2 => ?_)
  obtain ⟨e9, hI2⟩ := hk9 r2 h2 q2
  subst e9
  exact kx_icmp_eq (pc := 293) C 1311 dL_law_293 (by decide) (fun _ => k h2 hI2) (fun z => absurd rfl z)
set_option maxHeartbeats 1000000 in
set_option maxRecDepth 20000 in
theorem lc_spinner {F : kx_F} (C : kx_Ru RL cL_law 4 14 F) {N : Nat} {xs : Nat → Int32} (hsl : lw_SL F N xs) {i : Nat} (hi : i + 8 ≤ N) {h : kx_H} (hI : iv_I h) (k : ∀ h2, iv_I h2 → F 1311 [some (.ref 142), some (.ref 0), some (.ref 127), some (.int (nI i))] [] h2) : F 298 [some (.ref 142), some (.ref 0), some (.ref 127), some (.int (nI i))] [] h := by
  obtain ⟨dp8, Q8, r0, hd8, hM8, hk⟩ := lk_spinner hI
  refine kx_ald1 (pc := 298) C dL_law_298 ?_
  refine kx_callVI0 (pc := 299) C cs_L_35 ob_0 hM8 (by omega) dL_law_299 (Nat.le_of_ble_eq_true rfl) (fun r h1 q => ?_)
  obtain ⟨e8, dp9, Q9, hd9, hM9, hk9⟩ := hk r h1 q
  subst e8
  refine kx_ald2 (pc := 302) C dL_law_302 ?_
  refine kx_callVI0 (pc := 303) C cs_L_38 ob_127 hM9 (by omega) dL_law_303 (Nat.le_of_ble_eq_true rfl) (fun r2 h2 q2 => ?_)
  obtain ⟨e9, hI2⟩ := hk9 r2 h2 q2
  subst e9
  exact kx_icmp_eq (pc := 306) C 1311 dL_law_306 (by decide) (fun _ => k h2 hI2) (fun z => absurd rfl z)
set_option maxHeartbeats 1000000 in
set_option maxRecDepth 20000 in
theorem lc_memory {F : kx_F} (C : kx_Ru RL cL_law 4 14 F) {N : Nat} {xs : Nat → Int32} (hsl : lw_SL F N xs) {i : Nat} (hi : i + 8 ≤ N) {h : kx_H} (hI : iv_I h) (k : ∀ h2, iv_I h2 → F 1311 [some (.ref 142), some (.ref 0), some (.ref 127), some (.int (nI i))] [] h2) : F 311 [some (.ref 142), some (.ref 0), some (.ref 127), some (.int (nI i))] [] h := by
  obtain ⟨dp8, Q8, r0, hd8, hM8, hk⟩ := lk_memory (xs (i + 1)) hI
  refine kx_ald1 (pc := 311) C dL_law_311 ?_
  refine kx_ald0 (pc := 312) C dL_law_312 ?_
  refine kx_ild3 (pc := 313) C dL_law_313 ?_
  refine kx_iconst (pc := 314) C (v := nI 1) dL_law_314 (by decide) ?_
  refine kx_iaddN (pc := 315) C dL_law_315 ?_
  refine hsl (pc := 316) (by omega) dL_law_316 ?_
  refine kx_callVI1 (pc := 317) C cs_L_39 ob_0 hM8 (by omega) dL_law_317 (Nat.le_of_ble_eq_true rfl) (fun r h1 q => ?_)
  obtain ⟨e8, dp9, Q9, hd9, hM9, hk9⟩ := hk r h1 q
  subst e8
  refine kx_ald2 (pc := 320) C dL_law_320 ?_
  refine kx_ald0 (pc := 321) C dL_law_321 ?_
  refine kx_ild3 (pc := 322) C dL_law_322 ?_
  refine kx_iconst (pc := 323) C (v := nI 1) dL_law_323 (by decide) ?_
  refine kx_iaddN (pc := 324) C dL_law_324 ?_
  refine hsl (pc := 325) (by omega) dL_law_325 ?_
  refine kx_callVI1 (pc := 326) C cs_L_42 ob_127 hM9 (by omega) dL_law_326 (Nat.le_of_ble_eq_true rfl) (fun r2 h2 q2 => ?_)
  obtain ⟨e9, hI2⟩ := hk9 r2 h2 q2
  subst e9
  exact kx_icmp_eq (pc := 329) C 1311 dL_law_329 (by decide) (fun _ => k h2 hI2) (fun z => absurd rfl z)
set_option maxHeartbeats 1000000 in
set_option maxRecDepth 20000 in
theorem lc_told {F : kx_F} (C : kx_Ru RL cL_law 4 14 F) {N : Nat} {xs : Nat → Int32} (hsl : lw_SL F N xs) {i : Nat} (hi : i + 8 ≤ N) {h : kx_H} (hI : iv_I h) (k : ∀ h2, iv_I h2 → F 1311 [some (.ref 142), some (.ref 0), some (.ref 127), some (.int (nI i))] [] h2) : F 334 [some (.ref 142), some (.ref 0), some (.ref 127), some (.int (nI i))] [] h := by
  obtain ⟨dp8, Q8, r0, hd8, hM8, hk⟩ := lk_told (xs (i + 1)) (xs (i + 2)) hI
  refine kx_ald1 (pc := 334) C dL_law_334 ?_
  refine kx_ald0 (pc := 335) C dL_law_335 ?_
  refine kx_ild3 (pc := 336) C dL_law_336 ?_
  refine kx_iconst (pc := 337) C (v := nI 1) dL_law_337 (by decide) ?_
  refine kx_iaddN (pc := 338) C dL_law_338 ?_
  refine hsl (pc := 339) (by omega) dL_law_339 ?_
  refine kx_ald0 (pc := 340) C dL_law_340 ?_
  refine kx_ild3 (pc := 341) C dL_law_341 ?_
  refine kx_iconst (pc := 342) C (v := nI 2) dL_law_342 (by decide) ?_
  refine kx_iaddN (pc := 343) C dL_law_343 ?_
  refine hsl (pc := 344) (by omega) dL_law_344 ?_
  refine kx_callVI2 (pc := 345) C cs_L_43 ob_0 hM8 (by omega) dL_law_345 (Nat.le_of_ble_eq_true rfl) (fun r h1 q => ?_)
  obtain ⟨e8, dp9, Q9, hd9, hM9, hk9⟩ := hk r h1 q
  subst e8
  refine kx_ald2 (pc := 348) C dL_law_348 ?_
  refine kx_ald0 (pc := 349) C dL_law_349 ?_
  refine kx_ild3 (pc := 350) C dL_law_350 ?_
  refine kx_iconst (pc := 351) C (v := nI 1) dL_law_351 (by decide) ?_
  refine kx_iaddN (pc := 352) C dL_law_352 ?_
  refine hsl (pc := 353) (by omega) dL_law_353 ?_
  refine kx_ald0 (pc := 354) C dL_law_354 ?_
  refine kx_ild3 (pc := 355) C dL_law_355 ?_
  refine kx_iconst (pc := 356) C (v := nI 2) dL_law_356 (by decide) ?_
  refine kx_iaddN (pc := 357) C dL_law_357 ?_
  refine hsl (pc := 358) (by omega) dL_law_358 ?_
  refine kx_callVI2 (pc := 359) C cs_L_47 ob_127 hM9 (by omega) dL_law_359 (Nat.le_of_ble_eq_true rfl) (fun r2 h2 q2 => ?_)
  obtain ⟨e9, hI2⟩ := hk9 r2 h2 q2
  subst e9
  exact kx_icmp_eq (pc := 362) C 1311 dL_law_362 (by decide) (fun _ => k h2 hI2) (fun z => absurd rfl z)
set_option maxHeartbeats 1000000 in
set_option maxRecDepth 20000 in
theorem lc_tells {F : kx_F} (C : kx_Ru RL cL_law 4 14 F) {N : Nat} {xs : Nat → Int32} (hsl : lw_SL F N xs) {i : Nat} (hi : i + 8 ≤ N) {h : kx_H} (hI : iv_I h) (k : ∀ h2, iv_I h2 → F 1311 [some (.ref 142), some (.ref 0), some (.ref 127), some (.int (nI i))] [] h2) : F 367 [some (.ref 142), some (.ref 0), some (.ref 127), some (.int (nI i))] [] h := by
  obtain ⟨dp8, Q8, r0, hd8, hM8, hk⟩ := lk_tells (xs (i + 1)) (xs (i + 2)) (xs (i + 3)) hI
  refine kx_ald1 (pc := 367) C dL_law_367 ?_
  refine kx_ald0 (pc := 368) C dL_law_368 ?_
  refine kx_ild3 (pc := 369) C dL_law_369 ?_
  refine kx_iconst (pc := 370) C (v := nI 1) dL_law_370 (by decide) ?_
  refine kx_iaddN (pc := 371) C dL_law_371 ?_
  refine hsl (pc := 372) (by omega) dL_law_372 ?_
  refine kx_ald0 (pc := 373) C dL_law_373 ?_
  refine kx_ild3 (pc := 374) C dL_law_374 ?_
  refine kx_iconst (pc := 375) C (v := nI 2) dL_law_375 (by decide) ?_
  refine kx_iaddN (pc := 376) C dL_law_376 ?_
  refine hsl (pc := 377) (by omega) dL_law_377 ?_
  refine kx_ald0 (pc := 378) C dL_law_378 ?_
  refine kx_ild3 (pc := 379) C dL_law_379 ?_
  refine kx_iconst (pc := 380) C (v := nI 3) dL_law_380 (by decide) ?_
  refine kx_iaddN (pc := 381) C dL_law_381 ?_
  refine hsl (pc := 382) (by omega) dL_law_382 ?_
  refine kx_callVI3 (pc := 383) C cs_L_48 ob_0 hM8 (by omega) dL_law_383 (Nat.le_of_ble_eq_true rfl) (fun r h1 q => ?_)
  obtain ⟨e8, dp9, Q9, hd9, hM9, hk9⟩ := hk r h1 q
  subst e8
  refine kx_ald2 (pc := 386) C dL_law_386 ?_
  refine kx_ald0 (pc := 387) C dL_law_387 ?_
  refine kx_ild3 (pc := 388) C dL_law_388 ?_
  refine kx_iconst (pc := 389) C (v := nI 1) dL_law_389 (by decide) ?_
  refine kx_iaddN (pc := 390) C dL_law_390 ?_
  refine hsl (pc := 391) (by omega) dL_law_391 ?_
  refine kx_ald0 (pc := 392) C dL_law_392 ?_
  refine kx_ild3 (pc := 393) C dL_law_393 ?_
  refine kx_iconst (pc := 394) C (v := nI 2) dL_law_394 (by decide) ?_
  refine kx_iaddN (pc := 395) C dL_law_395 ?_
  refine hsl (pc := 396) (by omega) dL_law_396 ?_
  refine kx_ald0 (pc := 397) C dL_law_397 ?_
  refine kx_ild3 (pc := 398) C dL_law_398 ?_
  refine kx_iconst (pc := 399) C (v := nI 3) dL_law_399 (by decide) ?_
  refine kx_iaddN (pc := 400) C dL_law_400 ?_
  refine hsl (pc := 401) (by omega) dL_law_401 ?_
  refine kx_callVI3 (pc := 402) C cs_L_51 ob_127 hM9 (by omega) dL_law_402 (Nat.le_of_ble_eq_true rfl) (fun r2 h2 q2 => ?_)
  obtain ⟨e9, hI2⟩ := hk9 r2 h2 q2
  subst e9
  exact kx_icmp_eq (pc := 405) C 1311 dL_law_405 (by decide) (fun _ => k h2 hI2) (fun z => absurd rfl z)
set_option maxHeartbeats 1000000 in
set_option maxRecDepth 20000 in
theorem lc_yards {F : kx_F} (C : kx_Ru RL cL_law 4 14 F) {N : Nat} {xs : Nat → Int32} (hsl : lw_SL F N xs) {i : Nat} (hi : i + 8 ≤ N) {h : kx_H} (hI : iv_I h) (k : ∀ h2, iv_I h2 → F 1311 [some (.ref 142), some (.ref 0), some (.ref 127), some (.int (nI i))] [] h2) : F 410 [some (.ref 142), some (.ref 0), some (.ref 127), some (.int (nI i))] [] h := by
  obtain ⟨dp8, Q8, r0, hd8, hM8, hk⟩ := lk_yards (xs (i + 1)) (xs (i + 2)) hI
  refine kx_ald1 (pc := 410) C dL_law_410 ?_
  refine kx_ald0 (pc := 411) C dL_law_411 ?_
  refine kx_ild3 (pc := 412) C dL_law_412 ?_
  refine kx_iconst (pc := 413) C (v := nI 1) dL_law_413 (by decide) ?_
  refine kx_iaddN (pc := 414) C dL_law_414 ?_
  refine hsl (pc := 415) (by omega) dL_law_415 ?_
  refine kx_ald0 (pc := 416) C dL_law_416 ?_
  refine kx_ild3 (pc := 417) C dL_law_417 ?_
  refine kx_iconst (pc := 418) C (v := nI 2) dL_law_418 (by decide) ?_
  refine kx_iaddN (pc := 419) C dL_law_419 ?_
  refine hsl (pc := 420) (by omega) dL_law_420 ?_
  refine kx_callVI2 (pc := 421) C cs_L_52 ob_0 hM8 (by omega) dL_law_421 (Nat.le_of_ble_eq_true rfl) (fun r h1 q => ?_)
  obtain ⟨e8, dp9, Q9, hd9, hM9, hk9⟩ := hk r h1 q
  subst e8
  refine kx_ald2 (pc := 424) C dL_law_424 ?_
  refine kx_ald0 (pc := 425) C dL_law_425 ?_
  refine kx_ild3 (pc := 426) C dL_law_426 ?_
  refine kx_iconst (pc := 427) C (v := nI 1) dL_law_427 (by decide) ?_
  refine kx_iaddN (pc := 428) C dL_law_428 ?_
  refine hsl (pc := 429) (by omega) dL_law_429 ?_
  refine kx_ald0 (pc := 430) C dL_law_430 ?_
  refine kx_ild3 (pc := 431) C dL_law_431 ?_
  refine kx_iconst (pc := 432) C (v := nI 2) dL_law_432 (by decide) ?_
  refine kx_iaddN (pc := 433) C dL_law_433 ?_
  refine hsl (pc := 434) (by omega) dL_law_434 ?_
  refine kx_callVI2 (pc := 435) C cs_L_55 ob_127 hM9 (by omega) dL_law_435 (Nat.le_of_ble_eq_true rfl) (fun r2 h2 q2 => ?_)
  obtain ⟨e9, hI2⟩ := hk9 r2 h2 q2
  subst e9
  exact kx_icmp_eq (pc := 438) C 1311 dL_law_438 (by decide) (fun _ => k h2 hI2) (fun z => absurd rfl z)
set_option maxHeartbeats 1000000 in
set_option maxRecDepth 20000 in
theorem lc_use {F : kx_F} (C : kx_Ru RL cL_law 4 14 F) {N : Nat} {xs : Nat → Int32} (hsl : lw_SL F N xs) {i : Nat} (hi : i + 8 ≤ N) {h : kx_H} (hI : iv_I h) (k : ∀ h2, iv_I h2 → F 1311 [some (.ref 142), some (.ref 0), some (.ref 127), some (.int (nI i))] [] h2) : F 443 [some (.ref 142), some (.ref 0), some (.ref 127), some (.int (nI i))] [] h := by
  obtain ⟨dp8, Q8, r0, hd8, hM8, hk⟩ := lk_use (xs (i + 1)) (xs (i + 2)) (xs (i + 3)) hI
  refine kx_ald1 (pc := 443) C dL_law_443 ?_
  refine kx_ald0 (pc := 444) C dL_law_444 ?_
  refine kx_ild3 (pc := 445) C dL_law_445 ?_
  refine kx_iconst (pc := 446) C (v := nI 1) dL_law_446 (by decide) ?_
  refine kx_iaddN (pc := 447) C dL_law_447 ?_
  refine hsl (pc := 448) (by omega) dL_law_448 ?_
  refine kx_ald0 (pc := 449) C dL_law_449 ?_
  refine kx_ild3 (pc := 450) C dL_law_450 ?_
  refine kx_iconst (pc := 451) C (v := nI 2) dL_law_451 (by decide) ?_
  refine kx_iaddN (pc := 452) C dL_law_452 ?_
  refine hsl (pc := 453) (by omega) dL_law_453 ?_
  refine kx_ald0 (pc := 454) C dL_law_454 ?_
  refine kx_ild3 (pc := 455) C dL_law_455 ?_
  refine kx_iconst (pc := 456) C (v := nI 3) dL_law_456 (by decide) ?_
  refine kx_iaddN (pc := 457) C dL_law_457 ?_
  refine hsl (pc := 458) (by omega) dL_law_458 ?_
  refine kx_callVI3 (pc := 459) C cs_L_56 ob_0 hM8 (by omega) dL_law_459 (Nat.le_of_ble_eq_true rfl) (fun r h1 q => ?_)
  obtain ⟨e8, dp9, Q9, hd9, hM9, hk9⟩ := hk r h1 q
  subst e8
  refine kx_ald2 (pc := 462) C dL_law_462 ?_
  refine kx_ald0 (pc := 463) C dL_law_463 ?_
  refine kx_ild3 (pc := 464) C dL_law_464 ?_
  refine kx_iconst (pc := 465) C (v := nI 1) dL_law_465 (by decide) ?_
  refine kx_iaddN (pc := 466) C dL_law_466 ?_
  refine hsl (pc := 467) (by omega) dL_law_467 ?_
  refine kx_ald0 (pc := 468) C dL_law_468 ?_
  refine kx_ild3 (pc := 469) C dL_law_469 ?_
  refine kx_iconst (pc := 470) C (v := nI 2) dL_law_470 (by decide) ?_
  refine kx_iaddN (pc := 471) C dL_law_471 ?_
  refine hsl (pc := 472) (by omega) dL_law_472 ?_
  refine kx_ald0 (pc := 473) C dL_law_473 ?_
  refine kx_ild3 (pc := 474) C dL_law_474 ?_
  refine kx_iconst (pc := 475) C (v := nI 3) dL_law_475 (by decide) ?_
  refine kx_iaddN (pc := 476) C dL_law_476 ?_
  refine hsl (pc := 477) (by omega) dL_law_477 ?_
  refine kx_callVI3 (pc := 478) C cs_L_59 ob_127 hM9 (by omega) dL_law_478 (Nat.le_of_ble_eq_true rfl) (fun r2 h2 q2 => ?_)
  obtain ⟨e9, hI2⟩ := hk9 r2 h2 q2
  subst e9
  exact kx_icmp_eq (pc := 481) C 1311 dL_law_481 (by decide) (fun _ => k h2 hI2) (fun z => absurd rfl z)
set_option maxHeartbeats 1000000 in
set_option maxRecDepth 20000 in
theorem lc_mind {F : kx_F} (C : kx_Ru RL cL_law 4 14 F) {N : Nat} {xs : Nat → Int32} (hsl : lw_SL F N xs) {i : Nat} (hi : i + 8 ≤ N) {h : kx_H} (hI : iv_I h) (k : ∀ h2, iv_I h2 → F 1311 [some (.ref 142), some (.ref 0), some (.ref 127), some (.int (nI i))] [] h2) : F 486 [some (.ref 142), some (.ref 0), some (.ref 127), some (.int (nI i))] [] h := by
  obtain ⟨dp8, Q8, r0, hd8, hM8, hk⟩ := lk_mind (xs (i + 1)) hI
  refine kx_ald1 (pc := 486) C dL_law_486 ?_
  refine kx_ald0 (pc := 487) C dL_law_487 ?_
  refine kx_ild3 (pc := 488) C dL_law_488 ?_
  refine kx_iconst (pc := 489) C (v := nI 1) dL_law_489 (by decide) ?_
  refine kx_iaddN (pc := 490) C dL_law_490 ?_
  refine hsl (pc := 491) (by omega) dL_law_491 ?_
  refine kx_callVI1 (pc := 492) C cs_L_60 ob_0 hM8 (by omega) dL_law_492 (Nat.le_of_ble_eq_true rfl) (fun r h1 q => ?_)
  obtain ⟨e8, dp9, Q9, hd9, hM9, hk9⟩ := hk r h1 q
  subst e8
  refine kx_ald2 (pc := 495) C dL_law_495 ?_
  refine kx_ald0 (pc := 496) C dL_law_496 ?_
  refine kx_ild3 (pc := 497) C dL_law_497 ?_
  refine kx_iconst (pc := 498) C (v := nI 1) dL_law_498 (by decide) ?_
  refine kx_iaddN (pc := 499) C dL_law_499 ?_
  refine hsl (pc := 500) (by omega) dL_law_500 ?_
  refine kx_callVI1 (pc := 501) C cs_L_63 ob_127 hM9 (by omega) dL_law_501 (Nat.le_of_ble_eq_true rfl) (fun r2 h2 q2 => ?_)
  obtain ⟨e9, hI2⟩ := hk9 r2 h2 q2
  subst e9
  exact kx_icmp_eq (pc := 504) C 1311 dL_law_504 (by decide) (fun _ => k h2 hI2) (fun z => absurd rfl z)
set_option maxHeartbeats 1000000 in
set_option maxRecDepth 20000 in
theorem lc_count {F : kx_F} (C : kx_Ru RL cL_law 4 14 F) {N : Nat} {xs : Nat → Int32} (hsl : lw_SL F N xs) {i : Nat} (hi : i + 8 ≤ N) {h : kx_H} (hI : iv_I h) (k : ∀ h2, iv_I h2 → F 1311 [some (.ref 142), some (.ref 0), some (.ref 127), some (.int (nI i))] [] h2) : F 509 [some (.ref 142), some (.ref 0), some (.ref 127), some (.int (nI i))] [] h := by
  obtain ⟨dp8, Q8, r0, hd8, hM8, hk⟩ := lk_count (xs (i + 1)) hI
  refine kx_ald1 (pc := 509) C dL_law_509 ?_
  refine kx_ald0 (pc := 510) C dL_law_510 ?_
  refine kx_ild3 (pc := 511) C dL_law_511 ?_
  refine kx_iconst (pc := 512) C (v := nI 1) dL_law_512 (by decide) ?_
  refine kx_iaddN (pc := 513) C dL_law_513 ?_
  refine hsl (pc := 514) (by omega) dL_law_514 ?_
  refine kx_callVI1 (pc := 515) C cs_L_64 ob_0 hM8 (by omega) dL_law_515 (Nat.le_of_ble_eq_true rfl) (fun r h1 q => ?_)
  obtain ⟨e8, dp9, Q9, hd9, hM9, hk9⟩ := hk r h1 q
  subst e8
  refine kx_ald2 (pc := 518) C dL_law_518 ?_
  refine kx_ald0 (pc := 519) C dL_law_519 ?_
  refine kx_ild3 (pc := 520) C dL_law_520 ?_
  refine kx_iconst (pc := 521) C (v := nI 1) dL_law_521 (by decide) ?_
  refine kx_iaddN (pc := 522) C dL_law_522 ?_
  refine hsl (pc := 523) (by omega) dL_law_523 ?_
  refine kx_callVI1 (pc := 524) C cs_L_67 ob_127 hM9 (by omega) dL_law_524 (Nat.le_of_ble_eq_true rfl) (fun r2 h2 q2 => ?_)
  obtain ⟨e9, hI2⟩ := hk9 r2 h2 q2
  subst e9
  exact kx_icmp_eq (pc := 527) C 1311 dL_law_527 (by decide) (fun _ => k h2 hI2) (fun z => absurd rfl z)
set_option maxHeartbeats 1000000 in
set_option maxRecDepth 20000 in
theorem lc_evening {F : kx_F} (C : kx_Ru RL cL_law 4 14 F) {N : Nat} {xs : Nat → Int32} (hsl : lw_SL F N xs) {i : Nat} (hi : i + 8 ≤ N) {h : kx_H} (hI : iv_I h) (k : ∀ h2, iv_I h2 → F 1311 [some (.ref 142), some (.ref 0), some (.ref 127), some (.int (nI i))] [] h2) : F 532 [some (.ref 142), some (.ref 0), some (.ref 127), some (.int (nI i))] [] h := by
  obtain ⟨dp8, Q8, r0, hd8, hM8, hk⟩ := lk_evening (xs (i + 1)) (xs (i + 2)) (xs (i + 3)) (xs (i + 4)) hI
  refine kx_ald1 (pc := 532) C dL_law_532 ?_
  refine kx_ald0 (pc := 533) C dL_law_533 ?_
  refine kx_ild3 (pc := 534) C dL_law_534 ?_
  refine kx_iconst (pc := 535) C (v := nI 1) dL_law_535 (by decide) ?_
  refine kx_iaddN (pc := 536) C dL_law_536 ?_
  refine hsl (pc := 537) (by omega) dL_law_537 ?_
  refine kx_ald0 (pc := 538) C dL_law_538 ?_
  refine kx_ild3 (pc := 539) C dL_law_539 ?_
  refine kx_iconst (pc := 540) C (v := nI 2) dL_law_540 (by decide) ?_
  refine kx_iaddN (pc := 541) C dL_law_541 ?_
  refine hsl (pc := 542) (by omega) dL_law_542 ?_
  refine kx_ald0 (pc := 543) C dL_law_543 ?_
  refine kx_ild3 (pc := 544) C dL_law_544 ?_
  refine kx_iconst (pc := 545) C (v := nI 3) dL_law_545 (by decide) ?_
  refine kx_iaddN (pc := 546) C dL_law_546 ?_
  refine hsl (pc := 547) (by omega) dL_law_547 ?_
  refine kx_ald0 (pc := 548) C dL_law_548 ?_
  refine kx_ild3 (pc := 549) C dL_law_549 ?_
  refine kx_iconst (pc := 550) C (v := nI 4) dL_law_550 (by decide) ?_
  refine kx_iaddN (pc := 551) C dL_law_551 ?_
  refine hsl (pc := 552) (by omega) dL_law_552 ?_
  refine kx_callVI4 (pc := 553) C cs_L_68 ob_0 hM8 (by omega) dL_law_553 (Nat.le_of_ble_eq_true rfl) (fun r h1 q => ?_)
  obtain ⟨e8, dp9, Q9, hd9, hM9, hk9⟩ := hk r h1 q
  subst e8
  refine kx_ald2 (pc := 556) C dL_law_556 ?_
  refine kx_ald0 (pc := 557) C dL_law_557 ?_
  refine kx_ild3 (pc := 558) C dL_law_558 ?_
  refine kx_iconst (pc := 559) C (v := nI 1) dL_law_559 (by decide) ?_
  refine kx_iaddN (pc := 560) C dL_law_560 ?_
  refine hsl (pc := 561) (by omega) dL_law_561 ?_
  refine kx_ald0 (pc := 562) C dL_law_562 ?_
  refine kx_ild3 (pc := 563) C dL_law_563 ?_
  refine kx_iconst (pc := 564) C (v := nI 2) dL_law_564 (by decide) ?_
  refine kx_iaddN (pc := 565) C dL_law_565 ?_
  refine hsl (pc := 566) (by omega) dL_law_566 ?_
  refine kx_ald0 (pc := 567) C dL_law_567 ?_
  refine kx_ild3 (pc := 568) C dL_law_568 ?_
  refine kx_iconst (pc := 569) C (v := nI 3) dL_law_569 (by decide) ?_
  refine kx_iaddN (pc := 570) C dL_law_570 ?_
  refine hsl (pc := 571) (by omega) dL_law_571 ?_
  refine kx_ald0 (pc := 572) C dL_law_572 ?_
  refine kx_ild3 (pc := 573) C dL_law_573 ?_
  refine kx_iconst (pc := 574) C (v := nI 4) dL_law_574 (by decide) ?_
  refine kx_iaddN (pc := 575) C dL_law_575 ?_
  refine hsl (pc := 576) (by omega) dL_law_576 ?_
  refine kx_callVI4 (pc := 577) C cs_L_72 ob_127 hM9 (by omega) dL_law_577 (Nat.le_of_ble_eq_true rfl) (fun r2 h2 q2 => ?_)
  obtain ⟨e9, hI2⟩ := hk9 r2 h2 q2
  subst e9
  exact kx_icmp_eq (pc := 580) C 1311 dL_law_580 (by decide) (fun _ => k h2 hI2) (fun z => absurd rfl z)
set_option maxHeartbeats 1000000 in
set_option maxRecDepth 20000 in
theorem lc_store {F : kx_F} (C : kx_Ru RL cL_law 4 14 F) {N : Nat} {xs : Nat → Int32} (hsl : lw_SL F N xs) {i : Nat} (hi : i + 8 ≤ N) {h : kx_H} (hI : iv_I h) (k : ∀ h2, iv_I h2 → F 1311 [some (.ref 142), some (.ref 0), some (.ref 127), some (.int (nI i))] [] h2) : F 585 [some (.ref 142), some (.ref 0), some (.ref 127), some (.int (nI i))] [] h := by
  obtain ⟨dp8, Q8, r0, hd8, hM8, hk⟩ := lk_store (xs (i + 1)) (xs (i + 2)) (xs (i + 3)) hI
  refine kx_ald1 (pc := 585) C dL_law_585 ?_
  refine kx_ald0 (pc := 586) C dL_law_586 ?_
  refine kx_ild3 (pc := 587) C dL_law_587 ?_
  refine kx_iconst (pc := 588) C (v := nI 1) dL_law_588 (by decide) ?_
  refine kx_iaddN (pc := 589) C dL_law_589 ?_
  refine hsl (pc := 590) (by omega) dL_law_590 ?_
  refine kx_ald0 (pc := 591) C dL_law_591 ?_
  refine kx_ild3 (pc := 592) C dL_law_592 ?_
  refine kx_iconst (pc := 593) C (v := nI 2) dL_law_593 (by decide) ?_
  refine kx_iaddN (pc := 594) C dL_law_594 ?_
  refine hsl (pc := 595) (by omega) dL_law_595 ?_
  refine kx_ald0 (pc := 596) C dL_law_596 ?_
  refine kx_ild3 (pc := 597) C dL_law_597 ?_
  refine kx_iconst (pc := 598) C (v := nI 3) dL_law_598 (by decide) ?_
  refine kx_iaddN (pc := 599) C dL_law_599 ?_
  refine hsl (pc := 600) (by omega) dL_law_600 ?_
  refine kx_callVI3 (pc := 601) C cs_L_73 ob_0 hM8 (by omega) dL_law_601 (Nat.le_of_ble_eq_true rfl) (fun r h1 q => ?_)
  obtain ⟨e8, dp9, Q9, hd9, hM9, hk9⟩ := hk r h1 q
  subst e8
  refine kx_ald2 (pc := 604) C dL_law_604 ?_
  refine kx_ald0 (pc := 605) C dL_law_605 ?_
  refine kx_ild3 (pc := 606) C dL_law_606 ?_
  refine kx_iconst (pc := 607) C (v := nI 1) dL_law_607 (by decide) ?_
  refine kx_iaddN (pc := 608) C dL_law_608 ?_
  refine hsl (pc := 609) (by omega) dL_law_609 ?_
  refine kx_ald0 (pc := 610) C dL_law_610 ?_
  refine kx_ild3 (pc := 611) C dL_law_611 ?_
  refine kx_iconst (pc := 612) C (v := nI 2) dL_law_612 (by decide) ?_
  refine kx_iaddN (pc := 613) C dL_law_613 ?_
  refine hsl (pc := 614) (by omega) dL_law_614 ?_
  refine kx_ald0 (pc := 615) C dL_law_615 ?_
  refine kx_ild3 (pc := 616) C dL_law_616 ?_
  refine kx_iconst (pc := 617) C (v := nI 3) dL_law_617 (by decide) ?_
  refine kx_iaddN (pc := 618) C dL_law_618 ?_
  refine hsl (pc := 619) (by omega) dL_law_619 ?_
  refine kx_callVI3 (pc := 620) C cs_L_76 ob_127 hM9 (by omega) dL_law_620 (Nat.le_of_ble_eq_true rfl) (fun r2 h2 q2 => ?_)
  obtain ⟨e9, hI2⟩ := hk9 r2 h2 q2
  subst e9
  exact kx_icmp_eq (pc := 623) C 1311 dL_law_623 (by decide) (fun _ => k h2 hI2) (fun z => absurd rfl z)
set_option maxHeartbeats 1000000 in
set_option maxRecDepth 20000 in
theorem lc_play {F : kx_F} (C : kx_Ru RL cL_law 4 14 F) {N : Nat} {xs : Nat → Int32} (hsl : lw_SL F N xs) {i : Nat} (hi : i + 8 ≤ N) {h : kx_H} (hI : iv_I h) (k : ∀ h2, iv_I h2 → F 1311 [some (.ref 142), some (.ref 0), some (.ref 127), some (.int (nI i))] [] h2) : F 628 [some (.ref 142), some (.ref 0), some (.ref 127), some (.int (nI i))] [] h := by
  obtain ⟨dp8, Q8, r0, hd8, hM8, hk⟩ := lk_play (xs (i + 1)) (xs (i + 2)) (xs (i + 3)) (xs (i + 4)) (xs (i + 5)) hI
  refine kx_ald1 (pc := 628) C dL_law_628 ?_
  refine kx_ald0 (pc := 629) C dL_law_629 ?_
  refine kx_ild3 (pc := 630) C dL_law_630 ?_
  refine kx_iconst (pc := 631) C (v := nI 1) dL_law_631 (by decide) ?_
  refine kx_iaddN (pc := 632) C dL_law_632 ?_
  refine hsl (pc := 633) (by omega) dL_law_633 ?_
  refine kx_ald0 (pc := 634) C dL_law_634 ?_
  refine kx_ild3 (pc := 635) C dL_law_635 ?_
  refine kx_iconst (pc := 636) C (v := nI 2) dL_law_636 (by decide) ?_
  refine kx_iaddN (pc := 637) C dL_law_637 ?_
  refine hsl (pc := 638) (by omega) dL_law_638 ?_
  refine kx_ald0 (pc := 639) C dL_law_639 ?_
  refine kx_ild3 (pc := 640) C dL_law_640 ?_
  refine kx_iconst (pc := 641) C (v := nI 3) dL_law_641 (by decide) ?_
  refine kx_iaddN (pc := 642) C dL_law_642 ?_
  refine hsl (pc := 643) (by omega) dL_law_643 ?_
  refine kx_ald0 (pc := 644) C dL_law_644 ?_
  refine kx_ild3 (pc := 645) C dL_law_645 ?_
  refine kx_iconst (pc := 646) C (v := nI 4) dL_law_646 (by decide) ?_
  refine kx_iaddN (pc := 647) C dL_law_647 ?_
  refine hsl (pc := 648) (by omega) dL_law_648 ?_
  refine kx_ald0 (pc := 649) C dL_law_649 ?_
  refine kx_ild3 (pc := 650) C dL_law_650 ?_
  refine kx_iconst (pc := 651) C (v := nI 5) dL_law_651 (by decide) ?_
  refine kx_iaddN (pc := 652) C dL_law_652 ?_
  refine hsl (pc := 653) (by omega) dL_law_653 ?_
  refine kx_callVI5 (pc := 654) C cs_L_77 ob_0 hM8 (by omega) dL_law_654 (Nat.le_of_ble_eq_true rfl) (fun r h1 q => ?_)
  obtain ⟨e8, dp9, Q9, hd9, hM9, hk9⟩ := hk r h1 q
  subst e8
  refine kx_ald2 (pc := 657) C dL_law_657 ?_
  refine kx_ald0 (pc := 658) C dL_law_658 ?_
  refine kx_ild3 (pc := 659) C dL_law_659 ?_
  refine kx_iconst (pc := 660) C (v := nI 1) dL_law_660 (by decide) ?_
  refine kx_iaddN (pc := 661) C dL_law_661 ?_
  refine hsl (pc := 662) (by omega) dL_law_662 ?_
  refine kx_ald0 (pc := 663) C dL_law_663 ?_
  refine kx_ild3 (pc := 664) C dL_law_664 ?_
  refine kx_iconst (pc := 665) C (v := nI 2) dL_law_665 (by decide) ?_
  refine kx_iaddN (pc := 666) C dL_law_666 ?_
  refine hsl (pc := 667) (by omega) dL_law_667 ?_
  refine kx_ald0 (pc := 668) C dL_law_668 ?_
  refine kx_ild3 (pc := 669) C dL_law_669 ?_
  refine kx_iconst (pc := 670) C (v := nI 3) dL_law_670 (by decide) ?_
  refine kx_iaddN (pc := 671) C dL_law_671 ?_
  refine hsl (pc := 672) (by omega) dL_law_672 ?_
  refine kx_ald0 (pc := 673) C dL_law_673 ?_
  refine kx_ild3 (pc := 674) C dL_law_674 ?_
  refine kx_iconst (pc := 675) C (v := nI 4) dL_law_675 (by decide) ?_
  refine kx_iaddN (pc := 676) C dL_law_676 ?_
  refine hsl (pc := 677) (by omega) dL_law_677 ?_
  refine kx_ald0 (pc := 678) C dL_law_678 ?_
  refine kx_ild3 (pc := 679) C dL_law_679 ?_
  refine kx_iconst (pc := 680) C (v := nI 5) dL_law_680 (by decide) ?_
  refine kx_iaddN (pc := 681) C dL_law_681 ?_
  refine hsl (pc := 682) (by omega) dL_law_682 ?_
  refine kx_callVI5 (pc := 683) C cs_L_81 ob_127 hM9 (by omega) dL_law_683 (Nat.le_of_ble_eq_true rfl) (fun r2 h2 q2 => ?_)
  obtain ⟨e9, hI2⟩ := hk9 r2 h2 q2
  subst e9
  exact kx_icmp_eq (pc := 686) C 1311 dL_law_686 (by decide) (fun _ => k h2 hI2) (fun z => absurd rfl z)
set_option maxHeartbeats 1000000 in
set_option maxRecDepth 20000 in
theorem lc_rests {F : kx_F} (C : kx_Ru RL cL_law 4 14 F) {N : Nat} {xs : Nat → Int32} (hsl : lw_SL F N xs) {i : Nat} (hi : i + 8 ≤ N) {h : kx_H} (hI : iv_I h) (k : ∀ h2, iv_I h2 → F 1311 [some (.ref 142), some (.ref 0), some (.ref 127), some (.int (nI i))] [] h2) : F 691 [some (.ref 142), some (.ref 0), some (.ref 127), some (.int (nI i))] [] h := by
  obtain ⟨dp8, Q8, r0, hd8, hM8, hk⟩ := lk_rests (xs (i + 1)) (xs (i + 2)) (xs (i + 3)) hI
  refine kx_ald1 (pc := 691) C dL_law_691 ?_
  refine kx_ald0 (pc := 692) C dL_law_692 ?_
  refine kx_ild3 (pc := 693) C dL_law_693 ?_
  refine kx_iconst (pc := 694) C (v := nI 1) dL_law_694 (by decide) ?_
  refine kx_iaddN (pc := 695) C dL_law_695 ?_
  refine hsl (pc := 696) (by omega) dL_law_696 ?_
  refine kx_ald0 (pc := 697) C dL_law_697 ?_
  refine kx_ild3 (pc := 698) C dL_law_698 ?_
  refine kx_iconst (pc := 699) C (v := nI 2) dL_law_699 (by decide) ?_
  refine kx_iaddN (pc := 700) C dL_law_700 ?_
  refine hsl (pc := 701) (by omega) dL_law_701 ?_
  refine kx_ald0 (pc := 702) C dL_law_702 ?_
  refine kx_ild3 (pc := 703) C dL_law_703 ?_
  refine kx_iconst (pc := 704) C (v := nI 3) dL_law_704 (by decide) ?_
  refine kx_iaddN (pc := 705) C dL_law_705 ?_
  refine hsl (pc := 706) (by omega) dL_law_706 ?_
  refine kx_callVI3 (pc := 707) C cs_L_82 ob_0 hM8 (by omega) dL_law_707 (Nat.le_of_ble_eq_true rfl) (fun r h1 q => ?_)
  obtain ⟨e8, dp9, Q9, hd9, hM9, hk9⟩ := hk r h1 q
  subst e8
  refine kx_ald2 (pc := 710) C dL_law_710 ?_
  refine kx_ald0 (pc := 711) C dL_law_711 ?_
  refine kx_ild3 (pc := 712) C dL_law_712 ?_
  refine kx_iconst (pc := 713) C (v := nI 1) dL_law_713 (by decide) ?_
  refine kx_iaddN (pc := 714) C dL_law_714 ?_
  refine hsl (pc := 715) (by omega) dL_law_715 ?_
  refine kx_ald0 (pc := 716) C dL_law_716 ?_
  refine kx_ild3 (pc := 717) C dL_law_717 ?_
  refine kx_iconst (pc := 718) C (v := nI 2) dL_law_718 (by decide) ?_
  refine kx_iaddN (pc := 719) C dL_law_719 ?_
  refine hsl (pc := 720) (by omega) dL_law_720 ?_
  refine kx_ald0 (pc := 721) C dL_law_721 ?_
  refine kx_ild3 (pc := 722) C dL_law_722 ?_
  refine kx_iconst (pc := 723) C (v := nI 3) dL_law_723 (by decide) ?_
  refine kx_iaddN (pc := 724) C dL_law_724 ?_
  refine hsl (pc := 725) (by omega) dL_law_725 ?_
  refine kx_callVI3 (pc := 726) C cs_L_85 ob_127 hM9 (by omega) dL_law_726 (Nat.le_of_ble_eq_true rfl) (fun r2 h2 q2 => ?_)
  obtain ⟨e9, hI2⟩ := hk9 r2 h2 q2
  subst e9
  exact kx_icmp_eq (pc := 729) C 1311 dL_law_729 (by decide) (fun _ => k h2 hI2) (fun z => absurd rfl z)
set_option maxHeartbeats 1000000 in
set_option maxRecDepth 20000 in
theorem lc_image {F : kx_F} (C : kx_Ru RL cL_law 4 14 F) {N : Nat} {xs : Nat → Int32} (hsl : lw_SL F N xs) {i : Nat} (hi : i + 8 ≤ N) {h : kx_H} (hI : iv_I h) (k : ∀ h2, iv_I h2 → F 1311 [some (.ref 142), some (.ref 0), some (.ref 127), some (.int (nI i))] [] h2) : F 734 [some (.ref 142), some (.ref 0), some (.ref 127), some (.int (nI i))] [] h := by
  obtain ⟨dp8, Q8, r0, hd8, hM8, hk⟩ := lk_image hI
  refine kx_ald1 (pc := 734) C dL_law_734 ?_
  refine kx_callVI0 (pc := 735) C cs_L_86 ob_0 hM8 (by omega) dL_law_735 (Nat.le_of_ble_eq_true rfl) (fun r h1 q => ?_)
  obtain ⟨e8, dp9, Q9, hd9, hM9, hk9⟩ := hk r h1 q
  subst e8
  refine kx_ald2 (pc := 738) C dL_law_738 ?_
  refine kx_callVI0 (pc := 739) C cs_L_89 ob_127 hM9 (by omega) dL_law_739 (Nat.le_of_ble_eq_true rfl) (fun r2 h2 q2 => ?_)
  obtain ⟨e9, hI2⟩ := hk9 r2 h2 q2
  subst e9
  exact kx_icmp_eq (pc := 742) C 1311 dL_law_742 (by decide) (fun _ => k h2 hI2) (fun z => absurd rfl z)
set_option maxHeartbeats 1000000 in
set_option maxRecDepth 20000 in
theorem lc_restore {F : kx_F} (C : kx_Ru RL cL_law 4 14 F) {N : Nat} {xs : Nat → Int32} (hsl : lw_SL F N xs) {i : Nat} (hi : i + 8 ≤ N) {h : kx_H} (hI : iv_I h) (k : ∀ h2, iv_I h2 → F 1311 [some (.ref 142), some (.ref 0), some (.ref 127), some (.int (nI i))] [] h2) : F 747 [some (.ref 142), some (.ref 0), some (.ref 127), some (.int (nI i))] [] h := by
  obtain ⟨dp8, Q8, r0, hd8, hM8, hk⟩ := lk_restore hI
  refine kx_ald1 (pc := 747) C dL_law_747 ?_
  refine kx_callVI0 (pc := 748) C cs_L_90 ob_0 hM8 (by omega) dL_law_748 (Nat.le_of_ble_eq_true rfl) (fun r h1 q => ?_)
  obtain ⟨e8, dp9, Q9, hd9, hM9, hk9⟩ := hk r h1 q
  subst e8
  refine kx_ald2 (pc := 751) C dL_law_751 ?_
  refine kx_callVI0 (pc := 752) C cs_L_93 ob_127 hM9 (by omega) dL_law_752 (Nat.le_of_ble_eq_true rfl) (fun r2 h2 q2 => ?_)
  obtain ⟨e9, hI2⟩ := hk9 r2 h2 q2
  subst e9
  exact kx_icmp_eq (pc := 755) C 1311 dL_law_755 (by decide) (fun _ => k h2 hI2) (fun z => absurd rfl z)
set_option maxHeartbeats 1000000 in
set_option maxRecDepth 20000 in
theorem lc_coat {F : kx_F} (C : kx_Ru RL cL_law 4 14 F) {N : Nat} {xs : Nat → Int32} (hsl : lw_SL F N xs) {i : Nat} (hi : i + 8 ≤ N) {h : kx_H} (hI : iv_I h) (k : ∀ h2, iv_I h2 → F 1311 [some (.ref 142), some (.ref 0), some (.ref 127), some (.int (nI i))] [] h2) : F 760 [some (.ref 142), some (.ref 0), some (.ref 127), some (.int (nI i))] [] h := by
  obtain ⟨dp8, Q8, r0, hd8, hM8, hk⟩ := lk_coat (xs (i + 1)) (xs (i + 2)) (xs (i + 3)) (xs (i + 4)) (xs (i + 5)) hI
  refine kx_ald1 (pc := 760) C dL_law_760 ?_
  refine kx_ald0 (pc := 761) C dL_law_761 ?_
  refine kx_ild3 (pc := 762) C dL_law_762 ?_
  refine kx_iconst (pc := 763) C (v := nI 1) dL_law_763 (by decide) ?_
  refine kx_iaddN (pc := 764) C dL_law_764 ?_
  refine hsl (pc := 765) (by omega) dL_law_765 ?_
  refine kx_ald0 (pc := 766) C dL_law_766 ?_
  refine kx_ild3 (pc := 767) C dL_law_767 ?_
  refine kx_iconst (pc := 768) C (v := nI 2) dL_law_768 (by decide) ?_
  refine kx_iaddN (pc := 769) C dL_law_769 ?_
  refine hsl (pc := 770) (by omega) dL_law_770 ?_
  refine kx_ald0 (pc := 771) C dL_law_771 ?_
  refine kx_ild3 (pc := 772) C dL_law_772 ?_
  refine kx_iconst (pc := 773) C (v := nI 3) dL_law_773 (by decide) ?_
  refine kx_iaddN (pc := 774) C dL_law_774 ?_
  refine hsl (pc := 775) (by omega) dL_law_775 ?_
  refine kx_ald0 (pc := 776) C dL_law_776 ?_
  refine kx_ild3 (pc := 777) C dL_law_777 ?_
  refine kx_iconst (pc := 778) C (v := nI 4) dL_law_778 (by decide) ?_
  refine kx_iaddN (pc := 779) C dL_law_779 ?_
  refine hsl (pc := 780) (by omega) dL_law_780 ?_
  refine kx_ald0 (pc := 781) C dL_law_781 ?_
  refine kx_ild3 (pc := 782) C dL_law_782 ?_
  refine kx_iconst (pc := 783) C (v := nI 5) dL_law_783 (by decide) ?_
  refine kx_iaddN (pc := 784) C dL_law_784 ?_
  refine hsl (pc := 785) (by omega) dL_law_785 ?_
  refine kx_callVI5 (pc := 786) C cs_L_94 ob_0 hM8 (by omega) dL_law_786 (Nat.le_of_ble_eq_true rfl) (fun r h1 q => ?_)
  obtain ⟨e8, dp9, Q9, hd9, hM9, hk9⟩ := hk r h1 q
  subst e8
  refine kx_ald2 (pc := 789) C dL_law_789 ?_
  refine kx_ald0 (pc := 790) C dL_law_790 ?_
  refine kx_ild3 (pc := 791) C dL_law_791 ?_
  refine kx_iconst (pc := 792) C (v := nI 1) dL_law_792 (by decide) ?_
  refine kx_iaddN (pc := 793) C dL_law_793 ?_
  refine hsl (pc := 794) (by omega) dL_law_794 ?_
  refine kx_ald0 (pc := 795) C dL_law_795 ?_
  refine kx_ild3 (pc := 796) C dL_law_796 ?_
  refine kx_iconst (pc := 797) C (v := nI 2) dL_law_797 (by decide) ?_
  refine kx_iaddN (pc := 798) C dL_law_798 ?_
  refine hsl (pc := 799) (by omega) dL_law_799 ?_
  refine kx_ald0 (pc := 800) C dL_law_800 ?_
  refine kx_ild3 (pc := 801) C dL_law_801 ?_
  refine kx_iconst (pc := 802) C (v := nI 3) dL_law_802 (by decide) ?_
  refine kx_iaddN (pc := 803) C dL_law_803 ?_
  refine hsl (pc := 804) (by omega) dL_law_804 ?_
  refine kx_ald0 (pc := 805) C dL_law_805 ?_
  refine kx_ild3 (pc := 806) C dL_law_806 ?_
  refine kx_iconst (pc := 807) C (v := nI 4) dL_law_807 (by decide) ?_
  refine kx_iaddN (pc := 808) C dL_law_808 ?_
  refine hsl (pc := 809) (by omega) dL_law_809 ?_
  refine kx_ald0 (pc := 810) C dL_law_810 ?_
  refine kx_ild3 (pc := 811) C dL_law_811 ?_
  refine kx_iconst (pc := 812) C (v := nI 5) dL_law_812 (by decide) ?_
  refine kx_iaddN (pc := 813) C dL_law_813 ?_
  refine hsl (pc := 814) (by omega) dL_law_814 ?_
  refine kx_callVI5 (pc := 815) C cs_L_97 ob_127 hM9 (by omega) dL_law_815 (Nat.le_of_ble_eq_true rfl) (fun r2 h2 q2 => ?_)
  obtain ⟨e9, hI2⟩ := hk9 r2 h2 q2
  subst e9
  exact kx_icmp_eq (pc := 818) C 1311 dL_law_818 (by decide) (fun _ => k h2 hI2) (fun z => absurd rfl z)
set_option maxHeartbeats 1000000 in
set_option maxRecDepth 20000 in
theorem lc_read {F : kx_F} (C : kx_Ru RL cL_law 4 14 F) {N : Nat} {xs : Nat → Int32} (hsl : lw_SL F N xs) {i : Nat} (hi : i + 8 ≤ N) {h : kx_H} (hI : iv_I h) (k : ∀ h2, iv_I h2 → F 1311 [some (.ref 142), some (.ref 0), some (.ref 127), some (.int (nI i))] [] h2) : F 823 [some (.ref 142), some (.ref 0), some (.ref 127), some (.int (nI i))] [] h := by
  obtain ⟨dp8, Q8, r0, hd8, hM8, hk⟩ := lk_read (xs (i + 1)) (xs (i + 2)) (xs (i + 3)) (xs (i + 4)) (xs (i + 5)) hI
  refine kx_ald1 (pc := 823) C dL_law_823 ?_
  refine kx_ald0 (pc := 824) C dL_law_824 ?_
  refine kx_ild3 (pc := 825) C dL_law_825 ?_
  refine kx_iconst (pc := 826) C (v := nI 1) dL_law_826 (by decide) ?_
  refine kx_iaddN (pc := 827) C dL_law_827 ?_
  refine hsl (pc := 828) (by omega) dL_law_828 ?_
  refine kx_ald0 (pc := 829) C dL_law_829 ?_
  refine kx_ild3 (pc := 830) C dL_law_830 ?_
  refine kx_iconst (pc := 831) C (v := nI 2) dL_law_831 (by decide) ?_
  refine kx_iaddN (pc := 832) C dL_law_832 ?_
  refine hsl (pc := 833) (by omega) dL_law_833 ?_
  refine kx_ald0 (pc := 834) C dL_law_834 ?_
  refine kx_ild3 (pc := 835) C dL_law_835 ?_
  refine kx_iconst (pc := 836) C (v := nI 3) dL_law_836 (by decide) ?_
  refine kx_iaddN (pc := 837) C dL_law_837 ?_
  refine hsl (pc := 838) (by omega) dL_law_838 ?_
  refine kx_ald0 (pc := 839) C dL_law_839 ?_
  refine kx_ild3 (pc := 840) C dL_law_840 ?_
  refine kx_iconst (pc := 841) C (v := nI 4) dL_law_841 (by decide) ?_
  refine kx_iaddN (pc := 842) C dL_law_842 ?_
  refine hsl (pc := 843) (by omega) dL_law_843 ?_
  refine kx_ald0 (pc := 844) C dL_law_844 ?_
  refine kx_ild3 (pc := 845) C dL_law_845 ?_
  refine kx_iconst (pc := 846) C (v := nI 5) dL_law_846 (by decide) ?_
  refine kx_iaddN (pc := 847) C dL_law_847 ?_
  refine hsl (pc := 848) (by omega) dL_law_848 ?_
  refine kx_callVI5 (pc := 849) C cs_L_98 ob_0 hM8 (by omega) dL_law_849 (Nat.le_of_ble_eq_true rfl) (fun r h1 q => ?_)
  obtain ⟨e8, dp9, Q9, hd9, hM9, hk9⟩ := hk r h1 q
  subst e8
  refine kx_ald2 (pc := 852) C dL_law_852 ?_
  refine kx_ald0 (pc := 853) C dL_law_853 ?_
  refine kx_ild3 (pc := 854) C dL_law_854 ?_
  refine kx_iconst (pc := 855) C (v := nI 1) dL_law_855 (by decide) ?_
  refine kx_iaddN (pc := 856) C dL_law_856 ?_
  refine hsl (pc := 857) (by omega) dL_law_857 ?_
  refine kx_ald0 (pc := 858) C dL_law_858 ?_
  refine kx_ild3 (pc := 859) C dL_law_859 ?_
  refine kx_iconst (pc := 860) C (v := nI 2) dL_law_860 (by decide) ?_
  refine kx_iaddN (pc := 861) C dL_law_861 ?_
  refine hsl (pc := 862) (by omega) dL_law_862 ?_
  refine kx_ald0 (pc := 863) C dL_law_863 ?_
  refine kx_ild3 (pc := 864) C dL_law_864 ?_
  refine kx_iconst (pc := 865) C (v := nI 3) dL_law_865 (by decide) ?_
  refine kx_iaddN (pc := 866) C dL_law_866 ?_
  refine hsl (pc := 867) (by omega) dL_law_867 ?_
  refine kx_ald0 (pc := 868) C dL_law_868 ?_
  refine kx_ild3 (pc := 869) C dL_law_869 ?_
  refine kx_iconst (pc := 870) C (v := nI 4) dL_law_870 (by decide) ?_
  refine kx_iaddN (pc := 871) C dL_law_871 ?_
  refine hsl (pc := 872) (by omega) dL_law_872 ?_
  refine kx_ald0 (pc := 873) C dL_law_873 ?_
  refine kx_ild3 (pc := 874) C dL_law_874 ?_
  refine kx_iconst (pc := 875) C (v := nI 5) dL_law_875 (by decide) ?_
  refine kx_iaddN (pc := 876) C dL_law_876 ?_
  refine hsl (pc := 877) (by omega) dL_law_877 ?_
  refine kx_callVI5 (pc := 878) C cs_L_101 ob_127 hM9 (by omega) dL_law_878 (Nat.le_of_ble_eq_true rfl) (fun r2 h2 q2 => ?_)
  obtain ⟨e9, hI2⟩ := hk9 r2 h2 q2
  subst e9
  exact kx_icmp_eq (pc := 881) C 1311 dL_law_881 (by decide) (fun _ => k h2 hI2) (fun z => absurd rfl z)
set_option maxHeartbeats 1000000 in
set_option maxRecDepth 20000 in
theorem lc_untangle {F : kx_F} (C : kx_Ru RL cL_law 4 14 F) {N : Nat} {xs : Nat → Int32} (hsl : lw_SL F N xs) {i : Nat} (hi : i + 8 ≤ N) {h : kx_H} (hI : iv_I h) (k : ∀ h2, iv_I h2 → F 1311 [some (.ref 142), some (.ref 0), some (.ref 127), some (.int (nI i))] [] h2) : F 886 [some (.ref 142), some (.ref 0), some (.ref 127), some (.int (nI i))] [] h := by
  obtain ⟨dp8, Q8, r0, hd8, hM8, hk⟩ := lk_untangle (xs (i + 1)) (xs (i + 2)) (xs (i + 3)) (xs (i + 4)) (xs (i + 5)) hI
  refine kx_ald1 (pc := 886) C dL_law_886 ?_
  refine kx_ald0 (pc := 887) C dL_law_887 ?_
  refine kx_ild3 (pc := 888) C dL_law_888 ?_
  refine kx_iconst (pc := 889) C (v := nI 1) dL_law_889 (by decide) ?_
  refine kx_iaddN (pc := 890) C dL_law_890 ?_
  refine hsl (pc := 891) (by omega) dL_law_891 ?_
  refine kx_ald0 (pc := 892) C dL_law_892 ?_
  refine kx_ild3 (pc := 893) C dL_law_893 ?_
  refine kx_iconst (pc := 894) C (v := nI 2) dL_law_894 (by decide) ?_
  refine kx_iaddN (pc := 895) C dL_law_895 ?_
  refine hsl (pc := 896) (by omega) dL_law_896 ?_
  refine kx_ald0 (pc := 897) C dL_law_897 ?_
  refine kx_ild3 (pc := 898) C dL_law_898 ?_
  refine kx_iconst (pc := 899) C (v := nI 3) dL_law_899 (by decide) ?_
  refine kx_iaddN (pc := 900) C dL_law_900 ?_
  refine hsl (pc := 901) (by omega) dL_law_901 ?_
  refine kx_ald0 (pc := 902) C dL_law_902 ?_
  refine kx_ild3 (pc := 903) C dL_law_903 ?_
  refine kx_iconst (pc := 904) C (v := nI 4) dL_law_904 (by decide) ?_
  refine kx_iaddN (pc := 905) C dL_law_905 ?_
  refine hsl (pc := 906) (by omega) dL_law_906 ?_
  refine kx_ald0 (pc := 907) C dL_law_907 ?_
  refine kx_ild3 (pc := 908) C dL_law_908 ?_
  refine kx_iconst (pc := 909) C (v := nI 5) dL_law_909 (by decide) ?_
  refine kx_iaddN (pc := 910) C dL_law_910 ?_
  refine hsl (pc := 911) (by omega) dL_law_911 ?_
  refine kx_callVI5 (pc := 912) C cs_L_102 ob_0 hM8 (by omega) dL_law_912 (Nat.le_of_ble_eq_true rfl) (fun r h1 q => ?_)
  obtain ⟨e8, dp9, Q9, hd9, hM9, hk9⟩ := hk r h1 q
  subst e8
  refine kx_ald2 (pc := 915) C dL_law_915 ?_
  refine kx_ald0 (pc := 916) C dL_law_916 ?_
  refine kx_ild3 (pc := 917) C dL_law_917 ?_
  refine kx_iconst (pc := 918) C (v := nI 1) dL_law_918 (by decide) ?_
  refine kx_iaddN (pc := 919) C dL_law_919 ?_
  refine hsl (pc := 920) (by omega) dL_law_920 ?_
  refine kx_ald0 (pc := 921) C dL_law_921 ?_
  refine kx_ild3 (pc := 922) C dL_law_922 ?_
  refine kx_iconst (pc := 923) C (v := nI 2) dL_law_923 (by decide) ?_
  refine kx_iaddN (pc := 924) C dL_law_924 ?_
  refine hsl (pc := 925) (by omega) dL_law_925 ?_
  refine kx_ald0 (pc := 926) C dL_law_926 ?_
  refine kx_ild3 (pc := 927) C dL_law_927 ?_
  refine kx_iconst (pc := 928) C (v := nI 3) dL_law_928 (by decide) ?_
  refine kx_iaddN (pc := 929) C dL_law_929 ?_
  refine hsl (pc := 930) (by omega) dL_law_930 ?_
  refine kx_ald0 (pc := 931) C dL_law_931 ?_
  refine kx_ild3 (pc := 932) C dL_law_932 ?_
  refine kx_iconst (pc := 933) C (v := nI 4) dL_law_933 (by decide) ?_
  refine kx_iaddN (pc := 934) C dL_law_934 ?_
  refine hsl (pc := 935) (by omega) dL_law_935 ?_
  refine kx_ald0 (pc := 936) C dL_law_936 ?_
  refine kx_ild3 (pc := 937) C dL_law_937 ?_
  refine kx_iconst (pc := 938) C (v := nI 5) dL_law_938 (by decide) ?_
  refine kx_iaddN (pc := 939) C dL_law_939 ?_
  refine hsl (pc := 940) (by omega) dL_law_940 ?_
  refine kx_callVI5 (pc := 941) C cs_L_105 ob_127 hM9 (by omega) dL_law_941 (Nat.le_of_ble_eq_true rfl) (fun r2 h2 q2 => ?_)
  obtain ⟨e9, hI2⟩ := hk9 r2 h2 q2
  subst e9
  exact kx_icmp_eq (pc := 944) C 1311 dL_law_944 (by decide) (fun _ => k h2 hI2) (fun z => absurd rfl z)
set_option maxHeartbeats 1000000 in
set_option maxRecDepth 20000 in
theorem lc_tangle {F : kx_F} (C : kx_Ru RL cL_law 4 14 F) {N : Nat} {xs : Nat → Int32} (hsl : lw_SL F N xs) {i : Nat} (hi : i + 8 ≤ N) {h : kx_H} (hI : iv_I h) (k : ∀ h2, iv_I h2 → F 1311 [some (.ref 142), some (.ref 0), some (.ref 127), some (.int (nI i))] [] h2) : F 949 [some (.ref 142), some (.ref 0), some (.ref 127), some (.int (nI i))] [] h := by
  obtain ⟨dp8, Q8, r0, hd8, hM8, hk⟩ := lk_tangle (xs (i + 1)) (xs (i + 2)) (xs (i + 3)) (xs (i + 4)) (xs (i + 5)) hI
  refine kx_ald1 (pc := 949) C dL_law_949 ?_
  refine kx_ald0 (pc := 950) C dL_law_950 ?_
  refine kx_ild3 (pc := 951) C dL_law_951 ?_
  refine kx_iconst (pc := 952) C (v := nI 1) dL_law_952 (by decide) ?_
  refine kx_iaddN (pc := 953) C dL_law_953 ?_
  refine hsl (pc := 954) (by omega) dL_law_954 ?_
  refine kx_ald0 (pc := 955) C dL_law_955 ?_
  refine kx_ild3 (pc := 956) C dL_law_956 ?_
  refine kx_iconst (pc := 957) C (v := nI 2) dL_law_957 (by decide) ?_
  refine kx_iaddN (pc := 958) C dL_law_958 ?_
  refine hsl (pc := 959) (by omega) dL_law_959 ?_
  refine kx_ald0 (pc := 960) C dL_law_960 ?_
  refine kx_ild3 (pc := 961) C dL_law_961 ?_
  refine kx_iconst (pc := 962) C (v := nI 3) dL_law_962 (by decide) ?_
  refine kx_iaddN (pc := 963) C dL_law_963 ?_
  refine hsl (pc := 964) (by omega) dL_law_964 ?_
  refine kx_ald0 (pc := 965) C dL_law_965 ?_
  refine kx_ild3 (pc := 966) C dL_law_966 ?_
  refine kx_iconst (pc := 967) C (v := nI 4) dL_law_967 (by decide) ?_
  refine kx_iaddN (pc := 968) C dL_law_968 ?_
  refine hsl (pc := 969) (by omega) dL_law_969 ?_
  refine kx_ald0 (pc := 970) C dL_law_970 ?_
  refine kx_ild3 (pc := 971) C dL_law_971 ?_
  refine kx_iconst (pc := 972) C (v := nI 5) dL_law_972 (by decide) ?_
  refine kx_iaddN (pc := 973) C dL_law_973 ?_
  refine hsl (pc := 974) (by omega) dL_law_974 ?_
  refine kx_callVI5 (pc := 975) C cs_L_106 ob_0 hM8 (by omega) dL_law_975 (Nat.le_of_ble_eq_true rfl) (fun r h1 q => ?_)
  obtain ⟨e8, dp9, Q9, hd9, hM9, hk9⟩ := hk r h1 q
  subst e8
  refine kx_ald2 (pc := 978) C dL_law_978 ?_
  refine kx_ald0 (pc := 979) C dL_law_979 ?_
  refine kx_ild3 (pc := 980) C dL_law_980 ?_
  refine kx_iconst (pc := 981) C (v := nI 1) dL_law_981 (by decide) ?_
  refine kx_iaddN (pc := 982) C dL_law_982 ?_
  refine hsl (pc := 983) (by omega) dL_law_983 ?_
  refine kx_ald0 (pc := 984) C dL_law_984 ?_
  refine kx_ild3 (pc := 985) C dL_law_985 ?_
  refine kx_iconst (pc := 986) C (v := nI 2) dL_law_986 (by decide) ?_
  refine kx_iaddN (pc := 987) C dL_law_987 ?_
  refine hsl (pc := 988) (by omega) dL_law_988 ?_
  refine kx_ald0 (pc := 989) C dL_law_989 ?_
  refine kx_ild3 (pc := 990) C dL_law_990 ?_
  refine kx_iconst (pc := 991) C (v := nI 3) dL_law_991 (by decide) ?_
  refine kx_iaddN (pc := 992) C dL_law_992 ?_
  refine hsl (pc := 993) (by omega) dL_law_993 ?_
  refine kx_ald0 (pc := 994) C dL_law_994 ?_
  refine kx_ild3 (pc := 995) C dL_law_995 ?_
  refine kx_iconst (pc := 996) C (v := nI 4) dL_law_996 (by decide) ?_
  refine kx_iaddN (pc := 997) C dL_law_997 ?_
  refine hsl (pc := 998) (by omega) dL_law_998 ?_
  refine kx_ald0 (pc := 999) C dL_law_999 ?_
  refine kx_ild3 (pc := 1000) C dL_law_1000 ?_
  refine kx_iconst (pc := 1001) C (v := nI 5) dL_law_1001 (by decide) ?_
  refine kx_iaddN (pc := 1002) C dL_law_1002 ?_
  refine hsl (pc := 1003) (by omega) dL_law_1003 ?_
  refine kx_callVI5 (pc := 1004) C cs_L_109 ob_127 hM9 (by omega) dL_law_1004 (Nat.le_of_ble_eq_true rfl) (fun r2 h2 q2 => ?_)
  obtain ⟨e9, hI2⟩ := hk9 r2 h2 q2
  subst e9
  exact kx_icmp_eq (pc := 1007) C 1311 dL_law_1007 (by decide) (fun _ => k h2 hI2) (fun z => absurd rfl z)
set_option maxHeartbeats 1000000 in
set_option maxRecDepth 20000 in
theorem lc_passed {F : kx_F} (C : kx_Ru RL cL_law 4 14 F) {N : Nat} {xs : Nat → Int32} (hsl : lw_SL F N xs) {i : Nat} (hi : i + 8 ≤ N) {h : kx_H} (hI : iv_I h) (k : ∀ h2, iv_I h2 → F 1311 [some (.ref 142), some (.ref 0), some (.ref 127), some (.int (nI i))] [] h2) : F 1012 [some (.ref 142), some (.ref 0), some (.ref 127), some (.int (nI i))] [] h := by
  obtain ⟨dp8, Q8, r0, hd8, hM8, hk⟩ := lk_passed (xs (i + 1)) (xs (i + 2)) (xs (i + 3)) (xs (i + 4)) (xs (i + 5)) (xs (i + 6)) (xs (i + 7)) hI
  refine kx_ald1 (pc := 1012) C dL_law_1012 ?_
  refine kx_ald0 (pc := 1013) C dL_law_1013 ?_
  refine kx_ild3 (pc := 1014) C dL_law_1014 ?_
  refine kx_iconst (pc := 1015) C (v := nI 1) dL_law_1015 (by decide) ?_
  refine kx_iaddN (pc := 1016) C dL_law_1016 ?_
  refine hsl (pc := 1017) (by omega) dL_law_1017 ?_
  refine kx_ald0 (pc := 1018) C dL_law_1018 ?_
  refine kx_ild3 (pc := 1019) C dL_law_1019 ?_
  refine kx_iconst (pc := 1020) C (v := nI 2) dL_law_1020 (by decide) ?_
  refine kx_iaddN (pc := 1021) C dL_law_1021 ?_
  refine hsl (pc := 1022) (by omega) dL_law_1022 ?_
  refine kx_ald0 (pc := 1023) C dL_law_1023 ?_
  refine kx_ild3 (pc := 1024) C dL_law_1024 ?_
  refine kx_iconst (pc := 1025) C (v := nI 3) dL_law_1025 (by decide) ?_
  refine kx_iaddN (pc := 1026) C dL_law_1026 ?_
  refine hsl (pc := 1027) (by omega) dL_law_1027 ?_
  refine kx_ald0 (pc := 1028) C dL_law_1028 ?_
  refine kx_ild3 (pc := 1029) C dL_law_1029 ?_
  refine kx_iconst (pc := 1030) C (v := nI 4) dL_law_1030 (by decide) ?_
  refine kx_iaddN (pc := 1031) C dL_law_1031 ?_
  refine hsl (pc := 1032) (by omega) dL_law_1032 ?_
  refine kx_ald0 (pc := 1033) C dL_law_1033 ?_
  refine kx_ild3 (pc := 1034) C dL_law_1034 ?_
  refine kx_iconst (pc := 1035) C (v := nI 5) dL_law_1035 (by decide) ?_
  refine kx_iaddN (pc := 1036) C dL_law_1036 ?_
  refine hsl (pc := 1037) (by omega) dL_law_1037 ?_
  refine kx_ald0 (pc := 1038) C dL_law_1038 ?_
  refine kx_ild3 (pc := 1039) C dL_law_1039 ?_
  refine kx_bipush (pc := 1040) C (v := nI 6) dL_law_1040 (by decide) ?_
  refine kx_iaddN (pc := 1042) C dL_law_1042 ?_
  refine hsl (pc := 1043) (by omega) dL_law_1043 ?_
  refine kx_ald0 (pc := 1044) C dL_law_1044 ?_
  refine kx_ild3 (pc := 1045) C dL_law_1045 ?_
  refine kx_bipush (pc := 1046) C (v := nI 7) dL_law_1046 (by decide) ?_
  refine kx_iaddN (pc := 1048) C dL_law_1048 ?_
  refine hsl (pc := 1049) (by omega) dL_law_1049 ?_
  refine kx_callVI7 (pc := 1050) C cs_L_110 ob_0 hM8 (by omega) dL_law_1050 (Nat.le_of_ble_eq_true rfl) (fun r h1 q => ?_)
  obtain ⟨e8, dp9, Q9, hd9, hM9, hk9⟩ := hk r h1 q
  subst e8
  refine kx_ald2 (pc := 1053) C dL_law_1053 ?_
  refine kx_ald0 (pc := 1054) C dL_law_1054 ?_
  refine kx_ild3 (pc := 1055) C dL_law_1055 ?_
  refine kx_iconst (pc := 1056) C (v := nI 1) dL_law_1056 (by decide) ?_
  refine kx_iaddN (pc := 1057) C dL_law_1057 ?_
  refine hsl (pc := 1058) (by omega) dL_law_1058 ?_
  refine kx_ald0 (pc := 1059) C dL_law_1059 ?_
  refine kx_ild3 (pc := 1060) C dL_law_1060 ?_
  refine kx_iconst (pc := 1061) C (v := nI 2) dL_law_1061 (by decide) ?_
  refine kx_iaddN (pc := 1062) C dL_law_1062 ?_
  refine hsl (pc := 1063) (by omega) dL_law_1063 ?_
  refine kx_ald0 (pc := 1064) C dL_law_1064 ?_
  refine kx_ild3 (pc := 1065) C dL_law_1065 ?_
  refine kx_iconst (pc := 1066) C (v := nI 3) dL_law_1066 (by decide) ?_
  refine kx_iaddN (pc := 1067) C dL_law_1067 ?_
  refine hsl (pc := 1068) (by omega) dL_law_1068 ?_
  refine kx_ald0 (pc := 1069) C dL_law_1069 ?_
  refine kx_ild3 (pc := 1070) C dL_law_1070 ?_
  refine kx_iconst (pc := 1071) C (v := nI 4) dL_law_1071 (by decide) ?_
  refine kx_iaddN (pc := 1072) C dL_law_1072 ?_
  refine hsl (pc := 1073) (by omega) dL_law_1073 ?_
  refine kx_ald0 (pc := 1074) C dL_law_1074 ?_
  refine kx_ild3 (pc := 1075) C dL_law_1075 ?_
  refine kx_iconst (pc := 1076) C (v := nI 5) dL_law_1076 (by decide) ?_
  refine kx_iaddN (pc := 1077) C dL_law_1077 ?_
  refine hsl (pc := 1078) (by omega) dL_law_1078 ?_
  refine kx_ald0 (pc := 1079) C dL_law_1079 ?_
  refine kx_ild3 (pc := 1080) C dL_law_1080 ?_
  refine kx_bipush (pc := 1081) C (v := nI 6) dL_law_1081 (by decide) ?_
  refine kx_iaddN (pc := 1083) C dL_law_1083 ?_
  refine hsl (pc := 1084) (by omega) dL_law_1084 ?_
  refine kx_ald0 (pc := 1085) C dL_law_1085 ?_
  refine kx_ild3 (pc := 1086) C dL_law_1086 ?_
  refine kx_bipush (pc := 1087) C (v := nI 7) dL_law_1087 (by decide) ?_
  refine kx_iaddN (pc := 1089) C dL_law_1089 ?_
  refine hsl (pc := 1090) (by omega) dL_law_1090 ?_
  refine kx_callVI7 (pc := 1091) C cs_L_114 ob_127 hM9 (by omega) dL_law_1091 (Nat.le_of_ble_eq_true rfl) (fun r2 h2 q2 => ?_)
  obtain ⟨e9, hI2⟩ := hk9 r2 h2 q2
  subst e9
  exact kx_icmp_eq (pc := 1094) C 1311 dL_law_1094 (by decide) (fun _ => k h2 hI2) (fun z => absurd rfl z)
set_option maxHeartbeats 1000000 in
set_option maxRecDepth 20000 in
theorem lc_sheet {F : kx_F} (C : kx_Ru RL cL_law 4 14 F) {N : Nat} {xs : Nat → Int32} (hsl : lw_SL F N xs) {i : Nat} (hi : i + 8 ≤ N) {h : kx_H} (hI : iv_I h) (k : ∀ h2, iv_I h2 → F 1311 [some (.ref 142), some (.ref 0), some (.ref 127), some (.int (nI i))] [] h2) : F 1099 [some (.ref 142), some (.ref 0), some (.ref 127), some (.int (nI i))] [] h := by
  obtain ⟨dp8, Q8, r0, hd8, hM8, hk⟩ := lk_sheet (xs (i + 1)) (xs (i + 2)) (xs (i + 3)) hI
  refine kx_ald1 (pc := 1099) C dL_law_1099 ?_
  refine kx_ald0 (pc := 1100) C dL_law_1100 ?_
  refine kx_ild3 (pc := 1101) C dL_law_1101 ?_
  refine kx_iconst (pc := 1102) C (v := nI 1) dL_law_1102 (by decide) ?_
  refine kx_iaddN (pc := 1103) C dL_law_1103 ?_
  refine hsl (pc := 1104) (by omega) dL_law_1104 ?_
  refine kx_ald0 (pc := 1105) C dL_law_1105 ?_
  refine kx_ild3 (pc := 1106) C dL_law_1106 ?_
  refine kx_iconst (pc := 1107) C (v := nI 2) dL_law_1107 (by decide) ?_
  refine kx_iaddN (pc := 1108) C dL_law_1108 ?_
  refine hsl (pc := 1109) (by omega) dL_law_1109 ?_
  refine kx_ald0 (pc := 1110) C dL_law_1110 ?_
  refine kx_ild3 (pc := 1111) C dL_law_1111 ?_
  refine kx_iconst (pc := 1112) C (v := nI 3) dL_law_1112 (by decide) ?_
  refine kx_iaddN (pc := 1113) C dL_law_1113 ?_
  refine hsl (pc := 1114) (by omega) dL_law_1114 ?_
  refine kx_callVI3 (pc := 1115) C cs_L_115 ob_0 hM8 (by omega) dL_law_1115 (Nat.le_of_ble_eq_true rfl) (fun r h1 q => ?_)
  obtain ⟨e8, dp9, Q9, hd9, hM9, hk9⟩ := hk r h1 q
  subst e8
  refine kx_ald2 (pc := 1118) C dL_law_1118 ?_
  refine kx_ald0 (pc := 1119) C dL_law_1119 ?_
  refine kx_ild3 (pc := 1120) C dL_law_1120 ?_
  refine kx_iconst (pc := 1121) C (v := nI 1) dL_law_1121 (by decide) ?_
  refine kx_iaddN (pc := 1122) C dL_law_1122 ?_
  refine hsl (pc := 1123) (by omega) dL_law_1123 ?_
  refine kx_ald0 (pc := 1124) C dL_law_1124 ?_
  refine kx_ild3 (pc := 1125) C dL_law_1125 ?_
  refine kx_iconst (pc := 1126) C (v := nI 2) dL_law_1126 (by decide) ?_
  refine kx_iaddN (pc := 1127) C dL_law_1127 ?_
  refine hsl (pc := 1128) (by omega) dL_law_1128 ?_
  refine kx_ald0 (pc := 1129) C dL_law_1129 ?_
  refine kx_ild3 (pc := 1130) C dL_law_1130 ?_
  refine kx_iconst (pc := 1131) C (v := nI 3) dL_law_1131 (by decide) ?_
  refine kx_iaddN (pc := 1132) C dL_law_1132 ?_
  refine hsl (pc := 1133) (by omega) dL_law_1133 ?_
  refine kx_callVI3 (pc := 1134) C cs_L_118 ob_127 hM9 (by omega) dL_law_1134 (Nat.le_of_ble_eq_true rfl) (fun r2 h2 q2 => ?_)
  obtain ⟨e9, hI2⟩ := hk9 r2 h2 q2
  subst e9
  exact kx_icmp_eq (pc := 1137) C 1311 dL_law_1137 (by decide) (fun _ => k h2 hI2) (fun z => absurd rfl z)
set_option maxHeartbeats 1000000 in
set_option maxRecDepth 20000 in
theorem lc_drop {F : kx_F} (C : kx_Ru RL cL_law 4 14 F) {N : Nat} {xs : Nat → Int32} (hsl : lw_SL F N xs) {i : Nat} (hi : i + 8 ≤ N) {h : kx_H} (hI : iv_I h) (k : ∀ h2, iv_I h2 → F 1311 [some (.ref 142), some (.ref 0), some (.ref 127), some (.int (nI i))] [] h2) : F 1142 [some (.ref 142), some (.ref 0), some (.ref 127), some (.int (nI i))] [] h := by
  obtain ⟨dp8, Q8, r0, hd8, hM8, hk⟩ := lk_drop (xs (i + 1)) hI
  refine kx_ald1 (pc := 1142) C dL_law_1142 ?_
  refine kx_ald0 (pc := 1143) C dL_law_1143 ?_
  refine kx_ild3 (pc := 1144) C dL_law_1144 ?_
  refine kx_iconst (pc := 1145) C (v := nI 1) dL_law_1145 (by decide) ?_
  refine kx_iaddN (pc := 1146) C dL_law_1146 ?_
  refine hsl (pc := 1147) (by omega) dL_law_1147 ?_
  refine kx_callVI1 (pc := 1148) C cs_L_119 ob_0 hM8 (by omega) dL_law_1148 (Nat.le_of_ble_eq_true rfl) (fun r h1 q => ?_)
  obtain ⟨e8, dp9, Q9, hd9, hM9, hk9⟩ := hk r h1 q
  subst e8
  refine kx_ald2 (pc := 1151) C dL_law_1151 ?_
  refine kx_ald0 (pc := 1152) C dL_law_1152 ?_
  refine kx_ild3 (pc := 1153) C dL_law_1153 ?_
  refine kx_iconst (pc := 1154) C (v := nI 1) dL_law_1154 (by decide) ?_
  refine kx_iaddN (pc := 1155) C dL_law_1155 ?_
  refine hsl (pc := 1156) (by omega) dL_law_1156 ?_
  refine kx_callVI1 (pc := 1157) C cs_L_122 ob_127 hM9 (by omega) dL_law_1157 (Nat.le_of_ble_eq_true rfl) (fun r2 h2 q2 => ?_)
  obtain ⟨e9, hI2⟩ := hk9 r2 h2 q2
  subst e9
  exact kx_icmp_eq (pc := 1160) C 1311 dL_law_1160 (by decide) (fun _ => k h2 hI2) (fun z => absurd rfl z)
set_option maxHeartbeats 1000000 in
set_option maxRecDepth 20000 in
theorem lc_item {F : kx_F} (C : kx_Ru RL cL_law 4 14 F) {N : Nat} {xs : Nat → Int32} (hsl : lw_SL F N xs) {i : Nat} (hi : i + 8 ≤ N) {h : kx_H} (hI : iv_I h) (k : ∀ h2, iv_I h2 → F 1311 [some (.ref 142), some (.ref 0), some (.ref 127), some (.int (nI i))] [] h2) : F 1165 [some (.ref 142), some (.ref 0), some (.ref 127), some (.int (nI i))] [] h := by
  obtain ⟨dp8, Q8, r0, hd8, hM8, hk⟩ := lk_item (xs (i + 1)) (xs (i + 2)) (xs (i + 3)) (lw_J (xs (i + 4)) (xs (i + 5))) hI
  refine kx_ald1 (pc := 1165) C dL_law_1165 ?_
  refine kx_ald0 (pc := 1166) C dL_law_1166 ?_
  refine kx_ild3 (pc := 1167) C dL_law_1167 ?_
  refine kx_iconst (pc := 1168) C (v := nI 1) dL_law_1168 (by decide) ?_
  refine kx_iaddN (pc := 1169) C dL_law_1169 ?_
  refine hsl (pc := 1170) (by omega) dL_law_1170 ?_
  refine kx_ald0 (pc := 1171) C dL_law_1171 ?_
  refine kx_ild3 (pc := 1172) C dL_law_1172 ?_
  refine kx_iconst (pc := 1173) C (v := nI 2) dL_law_1173 (by decide) ?_
  refine kx_iaddN (pc := 1174) C dL_law_1174 ?_
  refine hsl (pc := 1175) (by omega) dL_law_1175 ?_
  refine kx_ald0 (pc := 1176) C dL_law_1176 ?_
  refine kx_ild3 (pc := 1177) C dL_law_1177 ?_
  refine kx_iconst (pc := 1178) C (v := nI 3) dL_law_1178 (by decide) ?_
  refine kx_iaddN (pc := 1179) C dL_law_1179 ?_
  refine hsl (pc := 1180) (by omega) dL_law_1180 ?_
  refine kx_ald0 (pc := 1181) C dL_law_1181 ?_
  refine kx_ild3 (pc := 1182) C dL_law_1182 ?_
  refine kx_iconst (pc := 1183) C (v := nI 4) dL_law_1183 (by decide) ?_
  refine kx_iaddN (pc := 1184) C dL_law_1184 ?_
  refine hsl (pc := 1185) (by omega) dL_law_1185 ?_
  refine kx_i2l (pc := 1186) C dL_law_1186 ?_
  refine kx_bipush (pc := 1187) C (v := nI 32) dL_law_1187 (by decide) ?_
  refine kx_lshl (pc := 1189) C dL_law_1189 ?_
  refine kx_ald0 (pc := 1190) C dL_law_1190 ?_
  refine kx_ild3 (pc := 1191) C dL_law_1191 ?_
  refine kx_iconst (pc := 1192) C (v := nI 5) dL_law_1192 (by decide) ?_
  refine kx_iaddN (pc := 1193) C dL_law_1193 ?_
  refine hsl (pc := 1194) (by omega) dL_law_1194 ?_
  refine kx_i2l (pc := 1195) C dL_law_1195 ?_
  refine kx_ldc2 (pc := 1196) C dL_law_1196 cn_L_13 ?_
  refine kx_land (pc := 1199) C dL_law_1199 ?_
  refine kx_lor (pc := 1200) C dL_law_1200 ?_
  refine kx_callVI4 (pc := 1201) C cs_L_123 ob_0 hM8 (by omega) dL_law_1201 (Nat.le_of_ble_eq_true rfl) (fun r h1 q => ?_)
  obtain ⟨e8, dp9, Q9, hd9, hM9, hk9⟩ := hk r h1 q
  subst e8
  refine kx_ald2 (pc := 1204) C dL_law_1204 ?_
  refine kx_ald0 (pc := 1205) C dL_law_1205 ?_
  refine kx_ild3 (pc := 1206) C dL_law_1206 ?_
  refine kx_iconst (pc := 1207) C (v := nI 1) dL_law_1207 (by decide) ?_
  refine kx_iaddN (pc := 1208) C dL_law_1208 ?_
  refine hsl (pc := 1209) (by omega) dL_law_1209 ?_
  refine kx_ald0 (pc := 1210) C dL_law_1210 ?_
  refine kx_ild3 (pc := 1211) C dL_law_1211 ?_
  refine kx_iconst (pc := 1212) C (v := nI 2) dL_law_1212 (by decide) ?_
  refine kx_iaddN (pc := 1213) C dL_law_1213 ?_
  refine hsl (pc := 1214) (by omega) dL_law_1214 ?_
  refine kx_ald0 (pc := 1215) C dL_law_1215 ?_
  refine kx_ild3 (pc := 1216) C dL_law_1216 ?_
  refine kx_iconst (pc := 1217) C (v := nI 3) dL_law_1217 (by decide) ?_
  refine kx_iaddN (pc := 1218) C dL_law_1218 ?_
  refine hsl (pc := 1219) (by omega) dL_law_1219 ?_
  refine kx_ald0 (pc := 1220) C dL_law_1220 ?_
  refine kx_ild3 (pc := 1221) C dL_law_1221 ?_
  refine kx_iconst (pc := 1222) C (v := nI 4) dL_law_1222 (by decide) ?_
  refine kx_iaddN (pc := 1223) C dL_law_1223 ?_
  refine hsl (pc := 1224) (by omega) dL_law_1224 ?_
  refine kx_i2l (pc := 1225) C dL_law_1225 ?_
  refine kx_bipush (pc := 1226) C (v := nI 32) dL_law_1226 (by decide) ?_
  refine kx_lshl (pc := 1228) C dL_law_1228 ?_
  refine kx_ald0 (pc := 1229) C dL_law_1229 ?_
  refine kx_ild3 (pc := 1230) C dL_law_1230 ?_
  refine kx_iconst (pc := 1231) C (v := nI 5) dL_law_1231 (by decide) ?_
  refine kx_iaddN (pc := 1232) C dL_law_1232 ?_
  refine hsl (pc := 1233) (by omega) dL_law_1233 ?_
  refine kx_i2l (pc := 1234) C dL_law_1234 ?_
  refine kx_ldc2 (pc := 1235) C dL_law_1235 cn_L_13 ?_
  refine kx_land (pc := 1238) C dL_law_1238 ?_
  refine kx_lor (pc := 1239) C dL_law_1239 ?_
  refine kx_callVI4 (pc := 1240) C cs_L_127 ob_127 hM9 (by omega) dL_law_1240 (Nat.le_of_ble_eq_true rfl) (fun r2 h2 q2 => ?_)
  obtain ⟨e9, hI2⟩ := hk9 r2 h2 q2
  subst e9
  exact kx_icmp_eq (pc := 1243) C 1311 dL_law_1243 (by decide) (fun _ => k h2 hI2) (fun z => absurd rfl z)
set_option maxHeartbeats 1000000 in
set_option maxRecDepth 20000 in
theorem lc_copy {F : kx_F} (C : kx_Ru RL cL_law 4 14 F) {N : Nat} {xs : Nat → Int32} (hsl : lw_SL F N xs) {i : Nat} (hi : i + 8 ≤ N) {h : kx_H} (hI : iv_I h) (k : ∀ h2, iv_I h2 → F 1311 [some (.ref 142), some (.ref 0), some (.ref 127), some (.int (nI i))] [] h2) : F 1248 [some (.ref 142), some (.ref 0), some (.ref 127), some (.int (nI i))] [] h := by
  obtain ⟨dp8, Q8, r0, hd8, hM8, hk⟩ := lk_copy (xs (i + 1)) (xs (i + 2)) (xs (i + 3)) (xs (i + 4)) (xs (i + 5)) hI
  refine kx_ald1 (pc := 1248) C dL_law_1248 ?_
  refine kx_ald0 (pc := 1249) C dL_law_1249 ?_
  refine kx_ild3 (pc := 1250) C dL_law_1250 ?_
  refine kx_iconst (pc := 1251) C (v := nI 1) dL_law_1251 (by decide) ?_
  refine kx_iaddN (pc := 1252) C dL_law_1252 ?_
  refine hsl (pc := 1253) (by omega) dL_law_1253 ?_
  refine kx_ald0 (pc := 1254) C dL_law_1254 ?_
  refine kx_ild3 (pc := 1255) C dL_law_1255 ?_
  refine kx_iconst (pc := 1256) C (v := nI 2) dL_law_1256 (by decide) ?_
  refine kx_iaddN (pc := 1257) C dL_law_1257 ?_
  refine hsl (pc := 1258) (by omega) dL_law_1258 ?_
  refine kx_ald0 (pc := 1259) C dL_law_1259 ?_
  refine kx_ild3 (pc := 1260) C dL_law_1260 ?_
  refine kx_iconst (pc := 1261) C (v := nI 3) dL_law_1261 (by decide) ?_
  refine kx_iaddN (pc := 1262) C dL_law_1262 ?_
  refine hsl (pc := 1263) (by omega) dL_law_1263 ?_
  refine kx_ald0 (pc := 1264) C dL_law_1264 ?_
  refine kx_ild3 (pc := 1265) C dL_law_1265 ?_
  refine kx_iconst (pc := 1266) C (v := nI 4) dL_law_1266 (by decide) ?_
  refine kx_iaddN (pc := 1267) C dL_law_1267 ?_
  refine hsl (pc := 1268) (by omega) dL_law_1268 ?_
  refine kx_ald0 (pc := 1269) C dL_law_1269 ?_
  refine kx_ild3 (pc := 1270) C dL_law_1270 ?_
  refine kx_iconst (pc := 1271) C (v := nI 5) dL_law_1271 (by decide) ?_
  refine kx_iaddN (pc := 1272) C dL_law_1272 ?_
  refine hsl (pc := 1273) (by omega) dL_law_1273 ?_
  refine kx_callVI5 (pc := 1274) C cs_L_128 ob_0 hM8 (by omega) dL_law_1274 (Nat.le_of_ble_eq_true rfl) (fun r h1 q => ?_)
  obtain ⟨e8, dp9, Q9, hd9, hM9, hk9⟩ := hk r h1 q
  subst e8
  refine kx_ald2 (pc := 1277) C dL_law_1277 ?_
  refine kx_ald0 (pc := 1278) C dL_law_1278 ?_
  refine kx_ild3 (pc := 1279) C dL_law_1279 ?_
  refine kx_iconst (pc := 1280) C (v := nI 1) dL_law_1280 (by decide) ?_
  refine kx_iaddN (pc := 1281) C dL_law_1281 ?_
  refine hsl (pc := 1282) (by omega) dL_law_1282 ?_
  refine kx_ald0 (pc := 1283) C dL_law_1283 ?_
  refine kx_ild3 (pc := 1284) C dL_law_1284 ?_
  refine kx_iconst (pc := 1285) C (v := nI 2) dL_law_1285 (by decide) ?_
  refine kx_iaddN (pc := 1286) C dL_law_1286 ?_
  refine hsl (pc := 1287) (by omega) dL_law_1287 ?_
  refine kx_ald0 (pc := 1288) C dL_law_1288 ?_
  refine kx_ild3 (pc := 1289) C dL_law_1289 ?_
  refine kx_iconst (pc := 1290) C (v := nI 3) dL_law_1290 (by decide) ?_
  refine kx_iaddN (pc := 1291) C dL_law_1291 ?_
  refine hsl (pc := 1292) (by omega) dL_law_1292 ?_
  refine kx_ald0 (pc := 1293) C dL_law_1293 ?_
  refine kx_ild3 (pc := 1294) C dL_law_1294 ?_
  refine kx_iconst (pc := 1295) C (v := nI 4) dL_law_1295 (by decide) ?_
  refine kx_iaddN (pc := 1296) C dL_law_1296 ?_
  refine hsl (pc := 1297) (by omega) dL_law_1297 ?_
  refine kx_ald0 (pc := 1298) C dL_law_1298 ?_
  refine kx_ild3 (pc := 1299) C dL_law_1299 ?_
  refine kx_iconst (pc := 1300) C (v := nI 5) dL_law_1300 (by decide) ?_
  refine kx_iaddN (pc := 1301) C dL_law_1301 ?_
  refine hsl (pc := 1302) (by omega) dL_law_1302 ?_
  refine kx_callVI5 (pc := 1303) C cs_L_131 ob_127 hM9 (by omega) dL_law_1303 (Nat.le_of_ble_eq_true rfl) (fun r2 h2 q2 => ?_)
  obtain ⟨e9, hI2⟩ := hk9 r2 h2 q2
  subst e9
  exact kx_icmp_eq (pc := 1306) C 1311 dL_law_1306 (by decide) (fun _ => k h2 hI2) (fun z => absurd rfl z)
set_option maxHeartbeats 4000000 in
set_option maxRecDepth 20000 in
theorem lw_loop {F : kx_F} (C : kx_Ru RL cL_law 4 14 F) {N : Nat} {xs : Nat → Int32} (hN : N ≤ 4096) (hsl : lw_SL F N xs) (hsz : lw_SZ F N) (hend : ∀ (i : Nat) (h : kx_H), F 1317 [some (.ref 142), some (.ref 0), some (.ref 127), some (.int (nI i))] [] h) : ∀ (q i : Nat) (h : kx_H), N - i ≤ q → i ≤ N + 8 → iv_I h → F 18 [some (.ref 142), some (.ref 0), some (.ref 127), some (.int (nI i))] [] h := by
  intro q
  induction q with
  | zero =>
    intro i h hq hi hI
    refine kx_ild3 (pc := 18) C dL_law_18 ?_
    refine kx_ald0 (pc := 19) C dL_law_19 ?_
    refine hsz (pc := 20) dL_law_20 ?_
    refine kx_bipush (pc := 21) C (v := nI 8) dL_law_21 (by decide) ?_
    refine kx_isub (pc := 23) C dL_law_23 ?_
    refine kx_icmp_gtI (pc := 24) C 1317 dL_law_24 (by decide) (fun c24 => hend i h) (fun c24 => ?_)
    rw [kx_Ts (by omega) (by omega), kx_T (by omega)] at c24
    omega
  | succ q ih =>
    intro i h hq hi hI
    refine kx_ild3 (pc := 18) C dL_law_18 ?_
    refine kx_ald0 (pc := 19) C dL_law_19 ?_
    refine hsz (pc := 20) dL_law_20 ?_
    refine kx_bipush (pc := 21) C (v := nI 8) dL_law_21 (by decide) ?_
    refine kx_isub (pc := 23) C dL_law_23 ?_
    refine kx_icmp_gtI (pc := 24) C 1317 dL_law_24 (by decide) (fun c24 => hend i h) (fun c24 => ?_)
    rw [kx_Ts (by omega) (by omega), kx_T (by omega)] at c24
    refine kx_ald0 (pc := 27) C dL_law_27 ?_
    refine kx_ild3 (pc := 28) C dL_law_28 ?_
    refine hsl (pc := 29) (by omega) dL_law_29 ?_
    refine kx_bipush (pc := 30) C (v := nI 31) dL_law_30 (by decide) ?_
    refine kx_iand (pc := 32) C dL_law_32 ?_
    have nxt : ∀ h2, iv_I h2 → F 1311 [some (.ref 142), some (.ref 0), some (.ref 127), some (.int (nI i))] [] h2 := by
      intro h2 hI2
      refine kx_inc3 (pc := 1311) C (v := nI (i + 8)) dL_law_1311 (by decide) rfl (show nI i + nI 8 = nI (i + 8) from (nI_add i 8)) ?_
      refine kx_goto (pc := 1314) C 18 dL_law_1314 (by decide) ?_
      exact ih (i + 8) h2 (by omega) (by omega) hI2
    obtain ⟨j, hj, ej⟩ := lw_31 (xs i)
    rw [ej]
    rcases (show j = 0 ∨ j = 1 ∨ j = 2 ∨ j = 3 ∨ j = 4 ∨ j = 5 ∨ j = 6 ∨ j = 7 ∨ j = 8 ∨ j = 9 ∨ j = 10 ∨ j = 11 ∨ j = 12 ∨ j = 13 ∨ j = 14 ∨ j = 15 ∨ j = 16 ∨ j = 17 ∨ j = 18 ∨ j = 19 ∨ j = 20 ∨ j = 21 ∨ j = 22 ∨ j = 23 ∨ j = 24 ∨ j = 25 ∨ j = 26 ∨ 27 ≤ j by omega) with rfl | rfl | rfl | rfl | rfl | rfl | rfl | rfl | rfl | rfl | rfl | rfl | rfl | rfl | rfl | rfl | rfl | rfl | rfl | rfl | rfl | rfl | rfl | rfl | rfl | rfl | rfl | hj2
    · exact kx_tabIn (pc := 33) C 156 dL_law_33 (by decide) (by decide) (off := 123) (by decide +kernel) (by decide) (lc_type C hsl (by omega) hI nxt)
    · exact kx_tabIn (pc := 33) C 219 dL_law_33 (by decide) (by decide) (off := 186) (by decide +kernel) (by decide) (lc_tale C hsl (by omega) hI nxt)
    · exact kx_tabIn (pc := 33) C 232 dL_law_33 (by decide) (by decide) (off := 199) (by decide +kernel) (by decide) (lc_change C hsl (by omega) hI nxt)
    · exact kx_tabIn (pc := 33) C 275 dL_law_33 (by decide) (by decide) (off := 242) (by decide +kernel) (by decide) (lc_teller C hsl (by omega) hI nxt)
    · exact kx_tabIn (pc := 33) C 298 dL_law_33 (by decide) (by decide) (off := 265) (by decide +kernel) (by decide) (lc_spinner C hsl (by omega) hI nxt)
    · exact kx_tabIn (pc := 33) C 311 dL_law_33 (by decide) (by decide) (off := 278) (by decide +kernel) (by decide) (lc_memory C hsl (by omega) hI nxt)
    · exact kx_tabIn (pc := 33) C 334 dL_law_33 (by decide) (by decide) (off := 301) (by decide +kernel) (by decide) (lc_told C hsl (by omega) hI nxt)
    · exact kx_tabIn (pc := 33) C 367 dL_law_33 (by decide) (by decide) (off := 334) (by decide +kernel) (by decide) (lc_tells C hsl (by omega) hI nxt)
    · exact kx_tabIn (pc := 33) C 410 dL_law_33 (by decide) (by decide) (off := 377) (by decide +kernel) (by decide) (lc_yards C hsl (by omega) hI nxt)
    · exact kx_tabIn (pc := 33) C 443 dL_law_33 (by decide) (by decide) (off := 410) (by decide +kernel) (by decide) (lc_use C hsl (by omega) hI nxt)
    · exact kx_tabIn (pc := 33) C 486 dL_law_33 (by decide) (by decide) (off := 453) (by decide +kernel) (by decide) (lc_mind C hsl (by omega) hI nxt)
    · exact kx_tabIn (pc := 33) C 509 dL_law_33 (by decide) (by decide) (off := 476) (by decide +kernel) (by decide) (lc_count C hsl (by omega) hI nxt)
    · exact kx_tabIn (pc := 33) C 532 dL_law_33 (by decide) (by decide) (off := 499) (by decide +kernel) (by decide) (lc_evening C hsl (by omega) hI nxt)
    · exact kx_tabIn (pc := 33) C 585 dL_law_33 (by decide) (by decide) (off := 552) (by decide +kernel) (by decide) (lc_store C hsl (by omega) hI nxt)
    · exact kx_tabIn (pc := 33) C 628 dL_law_33 (by decide) (by decide) (off := 595) (by decide +kernel) (by decide) (lc_play C hsl (by omega) hI nxt)
    · exact kx_tabIn (pc := 33) C 691 dL_law_33 (by decide) (by decide) (off := 658) (by decide +kernel) (by decide) (lc_rests C hsl (by omega) hI nxt)
    · exact kx_tabIn (pc := 33) C 734 dL_law_33 (by decide) (by decide) (off := 701) (by decide +kernel) (by decide) (lc_image C hsl (by omega) hI nxt)
    · exact kx_tabIn (pc := 33) C 747 dL_law_33 (by decide) (by decide) (off := 714) (by decide +kernel) (by decide) (lc_restore C hsl (by omega) hI nxt)
    · exact kx_tabIn (pc := 33) C 760 dL_law_33 (by decide) (by decide) (off := 727) (by decide +kernel) (by decide) (lc_coat C hsl (by omega) hI nxt)
    · exact kx_tabIn (pc := 33) C 823 dL_law_33 (by decide) (by decide) (off := 790) (by decide +kernel) (by decide) (lc_read C hsl (by omega) hI nxt)
    · exact kx_tabIn (pc := 33) C 886 dL_law_33 (by decide) (by decide) (off := 853) (by decide +kernel) (by decide) (lc_untangle C hsl (by omega) hI nxt)
    · exact kx_tabIn (pc := 33) C 949 dL_law_33 (by decide) (by decide) (off := 916) (by decide +kernel) (by decide) (lc_tangle C hsl (by omega) hI nxt)
    · exact kx_tabIn (pc := 33) C 1012 dL_law_33 (by decide) (by decide) (off := 979) (by decide +kernel) (by decide) (lc_passed C hsl (by omega) hI nxt)
    · exact kx_tabIn (pc := 33) C 1099 dL_law_33 (by decide) (by decide) (off := 1066) (by decide +kernel) (by decide) (lc_sheet C hsl (by omega) hI nxt)
    · exact kx_tabIn (pc := 33) C 1142 dL_law_33 (by decide) (by decide) (off := 1109) (by decide +kernel) (by decide) (lc_drop C hsl (by omega) hI nxt)
    · exact kx_tabIn (pc := 33) C 1165 dL_law_33 (by decide) (by decide) (off := 1132) (by decide +kernel) (by decide) (lc_item C hsl (by omega) hI nxt)
    · exact kx_tabIn (pc := 33) C 1248 dL_law_33 (by decide) (by decide) (off := 1215) (by decide +kernel) (by decide) (lc_copy C hsl (by omega) hI nxt)
    · exact kx_tabOut (pc := 33) C 1311 dL_law_33 (Or.inr (by rw [kx_T (by omega)]; omega)) (by decide) (nxt _ hI)
