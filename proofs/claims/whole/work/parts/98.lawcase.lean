/-! the law's cases: a call of the class, the same call of the reference -/
def lI (G : gV) (g r ou : Nat) (σ : sA) (M : gMem) : Prop := ∃ (MV MR : gMem) (f : Nat → Int64) (e : Int32), M = pU (pU MV (mO G ou f)) MR ∧ MV ou = none ∧ (∀ a, pU MV (mO G ou f) a ≠ none → MR a = none) ∧ isGV G MV g σ ∧ isRF G MR r e σ
theorem pU_dc {M1 M2 : gMem} (h : ∀ a, M1 a ≠ none → M2 a = none) : ∀ a, M2 a ≠ none → M1 a = none := fun a ha => by
  cases e : M1 a with
  | none => rfl
  | some x => exact absurd (h a (by rw [e]; exact fun z => by cases z)) ha
theorem pU_ds {M1 M2 : gMem} (h : ∀ a, M1 a ≠ none → M2 a = none) {a : Nat} {e : va_E} (he : M2 a = some e) : M1 a = none := pU_dc h a (by rw [he]; exact fun z => by cases z)
theorem isRF.ob {G : gV} {M : gMem} {r : Nat} {e : Int32} {σ : sA} (h : isRF G M r e σ) : ∃ fs0, M r = some (oB 13 fs0) := by
  obtain ⟨vA, nA, pA, plA, dg, dla, dha, dva, dza, dvf, dzf, vf, nf, pf, tk, su, le, gr, hB⟩ := h
  exact ⟨_, hB.1⟩
theorem rfP_n {G : gV} {r : Nat} {mp : String → Int32} {z : Option Value} {o : oc} {v : Option Value} {M : gMem} (ho : o.1 = none) (h : rfP G r mp z o v M) : v = o.2.1 ∧ isRF G M r 0 o.2.2 := by
  unfold rfP at h; rw [ho] at h; exact h
theorem rfP_s {G : gV} {r : Nat} {mp : String → Int32} {z : Option Value} {o : oc} {v : Option Value} {M : gMem} {E : String} (ho : o.1 = some E) (h : rfP G r mp z o v M) : v = z ∧ isRF G M r (mp E) o.2.2 := by
  unfold rfP at h; rw [ho] at h; exact h
theorem cOp_ne (E : String) : ¬ cOp E = 0 := by
  unfold cOp; split
  · decide
  · split <;> decide
theorem cOne_ne (E : String) : ¬ cOne E = 0 := by unfold cOne; decide
theorem cBe_ne (E : String) : ¬ cBe E = 0 := by unfold cBe; split <;> decide
theorem cAl_ne (E : String) : ¬ cAl E = 0 := by unfold cAl; split <;> decide

set_option maxRecDepth 20000 in
theorem lc_begin {G : gV} {F : gF} {Q : State → Prop} {M : gMem} {b L t g r ou rc rs : Nat} {σ : sA} {xs : Nat → Int32} (X : qX G F cL_law 8 RL 202) (hl : (fl F).stackTraces = false) (hX : sX F b L xs) (h8 : 8 * t + 8 ≤ L) (hI : lI G g r ou σ M) (kk : ∀ M2 : gMem, lI G g r ou (sp_begin σ (xs (8 * t + 1)) (xs (8 * t + 2)) (xs (8 * t + 3)) (xs (8 * t + 4)) (xs (8 * t + 5)) (xs (8 * t + 6)) (xs (8 * t + 7))).2.2 M2 → qJ G F Q 8 M2 rc rs 2066 [(0, .ref b), (1, .ref g), (2, .ref r), (3, .ref ou), (4, .int (nI (8 * t)))] []) : qJ G F Q 8 M (rc + 220) (rs + 35808) 152 [(0, .ref b), (1, .ref g), (2, .ref r), (3, .ref ou), (4, .int (nI (8 * t)))] [] := by
  obtain ⟨MV, MR, f0, e0, rfl, hou, hd, hV, hR⟩ := hI
  have hW := hV.w
  have h4k := hX.2.2.2
  refine q_aload_n X dL_law_152 1 rfl ?_
  refine q_aload_n X dL_law_153 0 rfl ?_
  refine q_iload X dL_law_154 4 rfl ?_
  refine q_iconst (v := 1) X dL_law_156 (by decide) ?_
  refine q_iadd X dL_law_157 ?_
  refine q_sld X hX (8 * t + 1) (nI_add _ 1) (by omega) dL_law_158 ?_
  refine q_aload_n X dL_law_159 0 rfl ?_
  refine q_iload X dL_law_160 4 rfl ?_
  refine q_iconst (v := 2) X dL_law_162 (by decide) ?_
  refine q_iadd X dL_law_163 ?_
  refine q_sld X hX (8 * t + 2) (nI_add _ 2) (by omega) dL_law_164 ?_
  refine q_aload_n X dL_law_165 0 rfl ?_
  refine q_iload X dL_law_166 4 rfl ?_
  refine q_iconst (v := 3) X dL_law_168 (by decide) ?_
  refine q_iadd X dL_law_169 ?_
  refine q_sld X hX (8 * t + 3) (nI_add _ 3) (by omega) dL_law_170 ?_
  refine q_aload_n X dL_law_171 0 rfl ?_
  refine q_iload X dL_law_172 4 rfl ?_
  refine q_iconst (v := 4) X dL_law_174 (by decide) ?_
  refine q_iadd X dL_law_175 ?_
  refine q_sld X hX (8 * t + 4) (nI_add _ 4) (by omega) dL_law_176 ?_
  refine q_aload_n X dL_law_177 0 rfl ?_
  refine q_iload X dL_law_178 4 rfl ?_
  refine q_iconst (v := 5) X dL_law_180 (by decide) ?_
  refine q_iadd X dL_law_181 ?_
  refine q_sld X hX (8 * t + 5) (nI_add _ 5) (by omega) dL_law_182 ?_
  refine q_aload_n X dL_law_183 0 rfl ?_
  refine q_iload X dL_law_184 4 rfl ?_
  refine q_bipush (v := 6) X dL_law_186 (by decide) ?_
  refine q_iadd X dL_law_188 ?_
  refine q_sld X hX (8 * t + 6) (nI_add _ 6) (by omega) dL_law_189 ?_
  refine q_aload_n X dL_law_190 0 rfl ?_
  refine q_iload X dL_law_191 4 rfl ?_
  refine q_bipush (v := 7) X dL_law_193 (by decide) ?_
  refine q_iadd X dL_law_195 ?_
  refine q_sld X hX (8 * t + 7) (nI_add _ 7) (by omega) dL_law_196 ?_
  refine q_callW X (Mc := pU MV (mO G ou f0)) (n := 8) (h_begin hl hV hou) pU_l tw_301 tw_0 ⟨by decide, by decide, by decide +kernel⟩ (by decide) tw_299 tw_300 (by omega) rfl rfl (Nat.le_of_ble_eq_true rfl) (rc' := rc + 10) (rs' := rs + 16408) (by omega) (by omega) dL_law_197 (fun v M9 hp hm => ?_)
  obtain ⟨MV2, f2, rfl, hou2, hV2, hcase⟩ := hp
  obtain ⟨eM, hd2⟩ := mJ_pU hd hm
  rw [eM]
  clear eM hm
  rcases hcase with ⟨ho, rfl, hv⟩ | ⟨E, ho, rfl⟩
  · show qJ G F _ 8 (pU (pU MV2 (mO G ou f2)) MR) (rc + 10) (rs + 16408) 200 [(0, .ref b), (1, .ref g), (2, .ref r), (3, .ref ou), (4, .int (nI (8 * t)))] [.int 0]
    refine q_istore (lv' := [(5, .int 0), (0, .ref b), (1, .ref g), (2, .ref r), (3, .ref ou), (4, .int (nI (8 * t)))]) X dL_law_200 (by decide) rfl ?_
    refine q_aload_n X dL_law_202 3 rfl ?_
    refine q_aload_n X dL_law_203 1 rfl ?_
    refine q_iload X dL_law_204 5 rfl ?_
    refine q_iconst (v := 1) X dL_law_206 (by decide) ?_
    refine q_iadd X dL_law_207 ?_
    refine q_sld X hX (8 * t + 1) (nI_add _ 1) (by omega) dL_law_208 ?_
    refine q_aload_n X dL_law_209 1 rfl ?_
    refine q_iload X dL_law_210 5 rfl ?_
    refine q_iconst (v := 2) X dL_law_212 (by decide) ?_
    refine q_iadd X dL_law_213 ?_
    refine q_sld X hX (8 * t + 2) (nI_add _ 2) (by omega) dL_law_214 ?_
    refine q_aload_n X dL_law_215 1 rfl ?_
    refine q_iload X dL_law_216 5 rfl ?_
    refine q_iconst (v := 3) X dL_law_218 (by decide) ?_
    refine q_iadd X dL_law_219 ?_
    refine q_sld X hX (8 * t + 3) (nI_add _ 3) (by omega) dL_law_220 ?_
    refine q_aload_n X dL_law_221 1 rfl ?_
    refine q_iload X dL_law_222 5 rfl ?_
    refine q_iconst (v := 4) X dL_law_224 (by decide) ?_
    refine q_iadd X dL_law_225 ?_
    refine q_sld X hX (8 * t + 4) (nI_add _ 4) (by omega) dL_law_226 ?_
    refine q_aload_n X dL_law_227 1 rfl ?_
    refine q_iload X dL_law_228 5 rfl ?_
    refine q_iconst (v := 5) X dL_law_230 (by decide) ?_
    refine q_iadd X dL_law_231 ?_
    refine q_sld X hX (8 * t + 5) (nI_add _ 5) (by omega) dL_law_232 ?_
    refine q_aload_n X dL_law_233 1 rfl ?_
    refine q_iload X dL_law_234 5 rfl ?_
    refine q_bipush (v := 6) X dL_law_236 (by decide) ?_
    refine q_iadd X dL_law_238 ?_
    refine q_sld X hX (8 * t + 6) (nI_add _ 6) (by omega) dL_law_239 ?_
    refine q_aload_n X dL_law_240 1 rfl ?_
    refine q_iload X dL_law_241 5 rfl ?_
    refine q_bipush (v := 7) X dL_law_243 (by decide) ?_
    refine q_iadd X dL_law_245 ?_
    refine q_sld X hX (8 * t + 7) (nI_add _ 7) (by omega) dL_law_246 ?_
    rw [pU_cm hd2]
    obtain ⟨fr0, hr0⟩ : ∃ fs0, MR r = some (oB 13 fs0) := isRF.ob hR
    refine q_callVF X (Mc := MR) (r_begin hW hR) pU_l Y_X13_begin tw_1242 tw_1243 tw_1244 (pU_l _ _ hr0) rfl (by omega) rfl rfl (Nat.le_of_ble_eq_true rfl) (rc' := rc) (rs' := rs) (by omega) (by omega) dL_law_247 (fun v M8 hp hm => ?_)
    obtain ⟨eM, hd3⟩ := mJ_pU (pU_dc hd2) hm
    rw [eM]
    clear eM hm
    obtain ⟨hv8, hR2⟩ := rfP_n ho hp
    have hv9 : v = none := hv8.trans (vn_begin ho)
    subst hv9
    obtain ⟨vA, nA, pA, plA, dg, dla, dha, dva, dza, dvf, dzf, vf, nf, pf, tk, su, le, gr, hB2⟩ := id hR2
    show qJ G F _ 8 (pU M8 (pU MV2 (mO G ou f2))) rc rs 250 [(5, .int 0), (0, .ref b), (1, .ref g), (2, .ref r), (3, .ref ou), (4, .int (nI (8 * t)))] []
    refine q_aload_n X dL_law_250 3 rfl ?_
    refine q_callVp X (c_thrown (pU_l _ _ hB2.1)) Y_X13_thrown tw_1238 tw_1239 tw_1240 (pU_l _ _ hB2.1) rfl (by omega) rfl rfl (Nat.le_of_ble_eq_true rfl) dL_law_251 ?_
    refine q_iload X dL_law_254 0 rfl ?_
    refine q_icmp_eq X 261 dL_law_256 (by decide) (fun c_1 => ?_) (fun c_1 => absurd rfl c_1)
    refine q_goto X 2066 dL_law_261 (by decide) ?_
    refine q_sub [1, 2, 3, 4, 5] rfl ?_
    exact kk _ ⟨MV2, M8, f2, _, pU_cm hd3, hou2, pU_dc hd3, hV2, hR2⟩
  · show qJ G F _ 8 (pU (pU MV2 (mO G ou f2)) MR) (rc + 10) (rs + 16408) 200 [(0, .ref b), (1, .ref g), (2, .ref r), (3, .ref ou), (4, .int (nI (8 * t)))] [.int (cBe E)]
    refine q_istore (lv' := [(5, .int (cBe E)), (0, .ref b), (1, .ref g), (2, .ref r), (3, .ref ou), (4, .int (nI (8 * t)))]) X dL_law_200 (by decide) rfl ?_
    refine q_aload_n X dL_law_202 3 rfl ?_
    refine q_aload_n X dL_law_203 1 rfl ?_
    refine q_iload X dL_law_204 5 rfl ?_
    refine q_iconst (v := 1) X dL_law_206 (by decide) ?_
    refine q_iadd X dL_law_207 ?_
    refine q_sld X hX (8 * t + 1) (nI_add _ 1) (by omega) dL_law_208 ?_
    refine q_aload_n X dL_law_209 1 rfl ?_
    refine q_iload X dL_law_210 5 rfl ?_
    refine q_iconst (v := 2) X dL_law_212 (by decide) ?_
    refine q_iadd X dL_law_213 ?_
    refine q_sld X hX (8 * t + 2) (nI_add _ 2) (by omega) dL_law_214 ?_
    refine q_aload_n X dL_law_215 1 rfl ?_
    refine q_iload X dL_law_216 5 rfl ?_
    refine q_iconst (v := 3) X dL_law_218 (by decide) ?_
    refine q_iadd X dL_law_219 ?_
    refine q_sld X hX (8 * t + 3) (nI_add _ 3) (by omega) dL_law_220 ?_
    refine q_aload_n X dL_law_221 1 rfl ?_
    refine q_iload X dL_law_222 5 rfl ?_
    refine q_iconst (v := 4) X dL_law_224 (by decide) ?_
    refine q_iadd X dL_law_225 ?_
    refine q_sld X hX (8 * t + 4) (nI_add _ 4) (by omega) dL_law_226 ?_
    refine q_aload_n X dL_law_227 1 rfl ?_
    refine q_iload X dL_law_228 5 rfl ?_
    refine q_iconst (v := 5) X dL_law_230 (by decide) ?_
    refine q_iadd X dL_law_231 ?_
    refine q_sld X hX (8 * t + 5) (nI_add _ 5) (by omega) dL_law_232 ?_
    refine q_aload_n X dL_law_233 1 rfl ?_
    refine q_iload X dL_law_234 5 rfl ?_
    refine q_bipush (v := 6) X dL_law_236 (by decide) ?_
    refine q_iadd X dL_law_238 ?_
    refine q_sld X hX (8 * t + 6) (nI_add _ 6) (by omega) dL_law_239 ?_
    refine q_aload_n X dL_law_240 1 rfl ?_
    refine q_iload X dL_law_241 5 rfl ?_
    refine q_bipush (v := 7) X dL_law_243 (by decide) ?_
    refine q_iadd X dL_law_245 ?_
    refine q_sld X hX (8 * t + 7) (nI_add _ 7) (by omega) dL_law_246 ?_
    rw [pU_cm hd2]
    obtain ⟨fr0, hr0⟩ : ∃ fs0, MR r = some (oB 13 fs0) := isRF.ob hR
    refine q_callVF X (Mc := MR) (r_begin hW hR) pU_l Y_X13_begin tw_1242 tw_1243 tw_1244 (pU_l _ _ hr0) rfl (by omega) rfl rfl (Nat.le_of_ble_eq_true rfl) (rc' := rc) (rs' := rs) (by omega) (by omega) dL_law_247 (fun v M8 hp hm => ?_)
    obtain ⟨eM, hd3⟩ := mJ_pU (pU_dc hd2) hm
    rw [eM]
    clear eM hm
    obtain ⟨hv8, hR2⟩ := rfP_s ho hp
    subst hv8
    obtain ⟨vA, nA, pA, plA, dg, dla, dha, dva, dza, dvf, dzf, vf, nf, pf, tk, su, le, gr, hB2⟩ := id hR2
    show qJ G F _ 8 (pU M8 (pU MV2 (mO G ou f2))) rc rs 250 [(5, .int (cBe E)), (0, .ref b), (1, .ref g), (2, .ref r), (3, .ref ou), (4, .int (nI (8 * t)))] []
    refine q_aload_n X dL_law_250 3 rfl ?_
    refine q_callVp X (c_thrown (pU_l _ _ hB2.1)) Y_X13_thrown tw_1238 tw_1239 tw_1240 (pU_l _ _ hB2.1) rfl (by omega) rfl rfl (Nat.le_of_ble_eq_true rfl) dL_law_251 ?_
    refine q_iload X dL_law_254 0 rfl ?_
    refine q_icmp_eq X 261 dL_law_256 (by decide) (fun c_2 => ?_) (fun c_2 => absurd rfl c_2)
    refine q_goto X 2066 dL_law_261 (by decide) ?_
    refine q_sub [1, 2, 3, 4, 5] rfl ?_
    exact kk _ ⟨MV2, M8, f2, _, pU_cm hd3, hou2, pU_dc hd3, hV2, hR2⟩

set_option maxRecDepth 20000 in
theorem lc_put {G : gV} {F : gF} {Q : State → Prop} {M : gMem} {b L t g r ou rc rs : Nat} {σ : sA} {xs : Nat → Int32} (X : qX G F cL_law 8 RL 202) (hl : (fl F).stackTraces = false) (hX : sX F b L xs) (h8 : 8 * t + 8 ≤ L) (hI : lI G g r ou σ M) (kk : ∀ M2 : gMem, lI G g r ou (sp_put σ (xs (8 * t + 1)) (xs (8 * t + 2)) (xs (8 * t + 3)) (((xs (8 * t + 4)).toInt64 <<< ((32 : Int32).toInt64 &&& 63)) ||| ((xs (8 * t + 5)).toInt64 &&& 4294967295))).2.2 M2 → qJ G F Q 8 M2 rc rs 2066 [(0, .ref b), (1, .ref g), (2, .ref r), (3, .ref ou), (4, .int (nI (8 * t)))] []) : qJ G F Q 8 M (rc + 1) (rs + 6) 264 [(0, .ref b), (1, .ref g), (2, .ref r), (3, .ref ou), (4, .int (nI (8 * t)))] [] := by
  obtain ⟨MV, MR, f0, e0, rfl, hou, hd, hV, hR⟩ := hI
  have hW := hV.w
  have h4k := hX.2.2.2
  refine q_aload_n X dL_law_264 1 rfl ?_
  refine q_aload_n X dL_law_265 0 rfl ?_
  refine q_iload X dL_law_266 4 rfl ?_
  refine q_iconst (v := 1) X dL_law_268 (by decide) ?_
  refine q_iadd X dL_law_269 ?_
  refine q_sld X hX (8 * t + 1) (nI_add _ 1) (by omega) dL_law_270 ?_
  refine q_aload_n X dL_law_271 0 rfl ?_
  refine q_iload X dL_law_272 4 rfl ?_
  refine q_iconst (v := 2) X dL_law_274 (by decide) ?_
  refine q_iadd X dL_law_275 ?_
  refine q_sld X hX (8 * t + 2) (nI_add _ 2) (by omega) dL_law_276 ?_
  refine q_aload_n X dL_law_277 0 rfl ?_
  refine q_iload X dL_law_278 4 rfl ?_
  refine q_iconst (v := 3) X dL_law_280 (by decide) ?_
  refine q_iadd X dL_law_281 ?_
  refine q_sld X hX (8 * t + 3) (nI_add _ 3) (by omega) dL_law_282 ?_
  refine q_aload_n X dL_law_283 0 rfl ?_
  refine q_iload X dL_law_284 4 rfl ?_
  refine q_iconst (v := 4) X dL_law_286 (by decide) ?_
  refine q_iadd X dL_law_287 ?_
  refine q_sld X hX (8 * t + 4) (nI_add _ 4) (by omega) dL_law_288 ?_
  refine q_i2l X dL_law_289 ?_
  refine q_bipush (v := 32) X dL_law_290 (by decide) ?_
  refine q_lshl X dL_law_292 ?_
  refine q_aload_n X dL_law_293 0 rfl ?_
  refine q_iload X dL_law_294 4 rfl ?_
  refine q_iconst (v := 5) X dL_law_296 (by decide) ?_
  refine q_iadd X dL_law_297 ?_
  refine q_sld X hX (8 * t + 5) (nI_add _ 5) (by omega) dL_law_298 ?_
  refine q_i2l X dL_law_299 ?_
  refine q_ldc2 (v := 4294967295) X dL_law_300 tw_1454 ?_
  refine q_land X dL_law_303 ?_
  refine q_lor X dL_law_304 ?_
  refine q_callW X (Mc := pU MV (mO G ou f0)) (n := 5) (h_put hl hV hou) pU_l tw_401 tw_0 ⟨by decide, by decide, by decide +kernel⟩ (by decide) tw_399 tw_400 (by omega) rfl rfl (Nat.le_of_ble_eq_true rfl) (rc' := rc + 0) (rs' := rs + 0) (by omega) (by omega) dL_law_305 (fun v M9 hp hm => ?_)
  obtain ⟨MV2, f2, rfl, hou2, hV2, hcase⟩ := hp
  obtain ⟨eM, hd2⟩ := mJ_pU hd hm
  rw [eM]
  clear eM hm
  rcases hcase with ⟨ho, rfl, hv⟩ | ⟨E, ho, rfl⟩
  · show qJ G F _ 8 (pU (pU MV2 (mO G ou f2)) MR) (rc + 0) (rs + 0) 308 [(0, .ref b), (1, .ref g), (2, .ref r), (3, .ref ou), (4, .int (nI (8 * t)))] [.int 0]
    refine q_istore (lv' := [(5, .int 0), (0, .ref b), (1, .ref g), (2, .ref r), (3, .ref ou), (4, .int (nI (8 * t)))]) X dL_law_308 (by decide) rfl ?_
    refine q_aload_n X dL_law_310 3 rfl ?_
    refine q_aload_n X dL_law_311 1 rfl ?_
    refine q_iload X dL_law_312 5 rfl ?_
    refine q_iconst (v := 1) X dL_law_314 (by decide) ?_
    refine q_iadd X dL_law_315 ?_
    refine q_sld X hX (8 * t + 1) (nI_add _ 1) (by omega) dL_law_316 ?_
    refine q_aload_n X dL_law_317 1 rfl ?_
    refine q_iload X dL_law_318 5 rfl ?_
    refine q_iconst (v := 2) X dL_law_320 (by decide) ?_
    refine q_iadd X dL_law_321 ?_
    refine q_sld X hX (8 * t + 2) (nI_add _ 2) (by omega) dL_law_322 ?_
    refine q_aload_n X dL_law_323 1 rfl ?_
    refine q_iload X dL_law_324 5 rfl ?_
    refine q_iconst (v := 3) X dL_law_326 (by decide) ?_
    refine q_iadd X dL_law_327 ?_
    refine q_sld X hX (8 * t + 3) (nI_add _ 3) (by omega) dL_law_328 ?_
    refine q_aload_n X dL_law_329 1 rfl ?_
    refine q_iload X dL_law_330 5 rfl ?_
    refine q_iconst (v := 4) X dL_law_332 (by decide) ?_
    refine q_iadd X dL_law_333 ?_
    refine q_sld X hX (8 * t + 4) (nI_add _ 4) (by omega) dL_law_334 ?_
    refine q_i2l X dL_law_335 ?_
    refine q_bipush (v := 32) X dL_law_336 (by decide) ?_
    refine q_lshl X dL_law_338 ?_
    refine q_aload_n X dL_law_339 1 rfl ?_
    refine q_iload X dL_law_340 5 rfl ?_
    refine q_iconst (v := 5) X dL_law_342 (by decide) ?_
    refine q_iadd X dL_law_343 ?_
    refine q_sld X hX (8 * t + 5) (nI_add _ 5) (by omega) dL_law_344 ?_
    refine q_i2l X dL_law_345 ?_
    refine q_ldc2 (v := 4294967295) X dL_law_346 tw_1454 ?_
    refine q_land X dL_law_349 ?_
    refine q_lor X dL_law_350 ?_
    rw [pU_cm hd2]
    obtain ⟨fr0, hr0⟩ : ∃ fs0, MR r = some (oB 13 fs0) := isRF.ob hR
    refine q_callVF X (Mc := MR) (r_put hW hR) pU_l Y_X13_put tw_1253 tw_1254 tw_1255 (pU_l _ _ hr0) rfl (by omega) rfl rfl (Nat.le_of_ble_eq_true rfl) (rc' := rc) (rs' := rs) (by omega) (by omega) dL_law_351 (fun v M8 hp hm => ?_)
    obtain ⟨eM, hd3⟩ := mJ_pU (pU_dc hd2) hm
    rw [eM]
    clear eM hm
    obtain ⟨hv8, hR2⟩ := rfP_n ho hp
    have hv9 : v = none := hv8.trans (vn_put ho)
    subst hv9
    obtain ⟨vA, nA, pA, plA, dg, dla, dha, dva, dza, dvf, dzf, vf, nf, pf, tk, su, le, gr, hB2⟩ := id hR2
    show qJ G F _ 8 (pU M8 (pU MV2 (mO G ou f2))) rc rs 354 [(5, .int 0), (0, .ref b), (1, .ref g), (2, .ref r), (3, .ref ou), (4, .int (nI (8 * t)))] []
    refine q_aload_n X dL_law_354 3 rfl ?_
    refine q_callVp X (c_thrown (pU_l _ _ hB2.1)) Y_X13_thrown tw_1238 tw_1239 tw_1240 (pU_l _ _ hB2.1) rfl (by omega) rfl rfl (Nat.le_of_ble_eq_true rfl) dL_law_355 ?_
    refine q_iload X dL_law_358 0 rfl ?_
    refine q_icmp_eq X 365 dL_law_360 (by decide) (fun c_1 => ?_) (fun c_1 => absurd rfl c_1)
    refine q_goto X 2066 dL_law_365 (by decide) ?_
    refine q_sub [1, 2, 3, 4, 5] rfl ?_
    exact kk _ ⟨MV2, M8, f2, _, pU_cm hd3, hou2, pU_dc hd3, hV2, hR2⟩
  · show qJ G F _ 8 (pU (pU MV2 (mO G ou f2)) MR) (rc + 0) (rs + 0) 308 [(0, .ref b), (1, .ref g), (2, .ref r), (3, .ref ou), (4, .int (nI (8 * t)))] [.int (cOne E)]
    refine q_istore (lv' := [(5, .int (cOne E)), (0, .ref b), (1, .ref g), (2, .ref r), (3, .ref ou), (4, .int (nI (8 * t)))]) X dL_law_308 (by decide) rfl ?_
    refine q_aload_n X dL_law_310 3 rfl ?_
    refine q_aload_n X dL_law_311 1 rfl ?_
    refine q_iload X dL_law_312 5 rfl ?_
    refine q_iconst (v := 1) X dL_law_314 (by decide) ?_
    refine q_iadd X dL_law_315 ?_
    refine q_sld X hX (8 * t + 1) (nI_add _ 1) (by omega) dL_law_316 ?_
    refine q_aload_n X dL_law_317 1 rfl ?_
    refine q_iload X dL_law_318 5 rfl ?_
    refine q_iconst (v := 2) X dL_law_320 (by decide) ?_
    refine q_iadd X dL_law_321 ?_
    refine q_sld X hX (8 * t + 2) (nI_add _ 2) (by omega) dL_law_322 ?_
    refine q_aload_n X dL_law_323 1 rfl ?_
    refine q_iload X dL_law_324 5 rfl ?_
    refine q_iconst (v := 3) X dL_law_326 (by decide) ?_
    refine q_iadd X dL_law_327 ?_
    refine q_sld X hX (8 * t + 3) (nI_add _ 3) (by omega) dL_law_328 ?_
    refine q_aload_n X dL_law_329 1 rfl ?_
    refine q_iload X dL_law_330 5 rfl ?_
    refine q_iconst (v := 4) X dL_law_332 (by decide) ?_
    refine q_iadd X dL_law_333 ?_
    refine q_sld X hX (8 * t + 4) (nI_add _ 4) (by omega) dL_law_334 ?_
    refine q_i2l X dL_law_335 ?_
    refine q_bipush (v := 32) X dL_law_336 (by decide) ?_
    refine q_lshl X dL_law_338 ?_
    refine q_aload_n X dL_law_339 1 rfl ?_
    refine q_iload X dL_law_340 5 rfl ?_
    refine q_iconst (v := 5) X dL_law_342 (by decide) ?_
    refine q_iadd X dL_law_343 ?_
    refine q_sld X hX (8 * t + 5) (nI_add _ 5) (by omega) dL_law_344 ?_
    refine q_i2l X dL_law_345 ?_
    refine q_ldc2 (v := 4294967295) X dL_law_346 tw_1454 ?_
    refine q_land X dL_law_349 ?_
    refine q_lor X dL_law_350 ?_
    rw [pU_cm hd2]
    obtain ⟨fr0, hr0⟩ : ∃ fs0, MR r = some (oB 13 fs0) := isRF.ob hR
    refine q_callVF X (Mc := MR) (r_put hW hR) pU_l Y_X13_put tw_1253 tw_1254 tw_1255 (pU_l _ _ hr0) rfl (by omega) rfl rfl (Nat.le_of_ble_eq_true rfl) (rc' := rc) (rs' := rs) (by omega) (by omega) dL_law_351 (fun v M8 hp hm => ?_)
    obtain ⟨eM, hd3⟩ := mJ_pU (pU_dc hd2) hm
    rw [eM]
    clear eM hm
    obtain ⟨hv8, hR2⟩ := rfP_s ho hp
    subst hv8
    obtain ⟨vA, nA, pA, plA, dg, dla, dha, dva, dza, dvf, dzf, vf, nf, pf, tk, su, le, gr, hB2⟩ := id hR2
    show qJ G F _ 8 (pU M8 (pU MV2 (mO G ou f2))) rc rs 354 [(5, .int (cOne E)), (0, .ref b), (1, .ref g), (2, .ref r), (3, .ref ou), (4, .int (nI (8 * t)))] []
    refine q_aload_n X dL_law_354 3 rfl ?_
    refine q_callVp X (c_thrown (pU_l _ _ hB2.1)) Y_X13_thrown tw_1238 tw_1239 tw_1240 (pU_l _ _ hB2.1) rfl (by omega) rfl rfl (Nat.le_of_ble_eq_true rfl) dL_law_355 ?_
    refine q_iload X dL_law_358 0 rfl ?_
    refine q_icmp_eq X 365 dL_law_360 (by decide) (fun c_2 => ?_) (fun c_2 => absurd rfl c_2)
    refine q_goto X 2066 dL_law_365 (by decide) ?_
    refine q_sub [1, 2, 3, 4, 5] rfl ?_
    exact kk _ ⟨MV2, M8, f2, _, pU_cm hd3, hou2, pU_dc hd3, hV2, hR2⟩

set_option maxRecDepth 20000 in
theorem lc_erase {G : gV} {F : gF} {Q : State → Prop} {M : gMem} {b L t g r ou rc rs : Nat} {σ : sA} {xs : Nat → Int32} (X : qX G F cL_law 8 RL 202) (hl : (fl F).stackTraces = false) (hX : sX F b L xs) (h8 : 8 * t + 8 ≤ L) (hI : lI G g r ou σ M) (kk : ∀ M2 : gMem, lI G g r ou (sp_erase σ (xs (8 * t + 1)) (xs (8 * t + 2)) (xs (8 * t + 3))).2.2 M2 → qJ G F Q 8 M2 rc rs 2066 [(0, .ref b), (1, .ref g), (2, .ref r), (3, .ref ou), (4, .int (nI (8 * t)))] []) : qJ G F Q 8 M (rc + 1) (rs + 6) 368 [(0, .ref b), (1, .ref g), (2, .ref r), (3, .ref ou), (4, .int (nI (8 * t)))] [] := by
  obtain ⟨MV, MR, f0, e0, rfl, hou, hd, hV, hR⟩ := hI
  have hW := hV.w
  have h4k := hX.2.2.2
  refine q_aload_n X dL_law_368 1 rfl ?_
  refine q_aload_n X dL_law_369 0 rfl ?_
  refine q_iload X dL_law_370 4 rfl ?_
  refine q_iconst (v := 1) X dL_law_372 (by decide) ?_
  refine q_iadd X dL_law_373 ?_
  refine q_sld X hX (8 * t + 1) (nI_add _ 1) (by omega) dL_law_374 ?_
  refine q_aload_n X dL_law_375 0 rfl ?_
  refine q_iload X dL_law_376 4 rfl ?_
  refine q_iconst (v := 2) X dL_law_378 (by decide) ?_
  refine q_iadd X dL_law_379 ?_
  refine q_sld X hX (8 * t + 2) (nI_add _ 2) (by omega) dL_law_380 ?_
  refine q_aload_n X dL_law_381 0 rfl ?_
  refine q_iload X dL_law_382 4 rfl ?_
  refine q_iconst (v := 3) X dL_law_384 (by decide) ?_
  refine q_iadd X dL_law_385 ?_
  refine q_sld X hX (8 * t + 3) (nI_add _ 3) (by omega) dL_law_386 ?_
  refine q_callW X (Mc := pU MV (mO G ou f0)) (n := 4) (h_erase hl hV hou) pU_l tw_438 tw_0 ⟨by decide, by decide, by decide +kernel⟩ (by decide) tw_436 tw_437 (by omega) rfl rfl (Nat.le_of_ble_eq_true rfl) (rc' := rc + 0) (rs' := rs + 0) (by omega) (by omega) dL_law_387 (fun v M9 hp hm => ?_)
  obtain ⟨MV2, f2, rfl, hou2, hV2, hcase⟩ := hp
  obtain ⟨eM, hd2⟩ := mJ_pU hd hm
  rw [eM]
  clear eM hm
  rcases hcase with ⟨ho, rfl, hv⟩ | ⟨E, ho, rfl⟩
  · show qJ G F _ 8 (pU (pU MV2 (mO G ou f2)) MR) (rc + 0) (rs + 0) 390 [(0, .ref b), (1, .ref g), (2, .ref r), (3, .ref ou), (4, .int (nI (8 * t)))] [.int 0]
    refine q_istore (lv' := [(5, .int 0), (0, .ref b), (1, .ref g), (2, .ref r), (3, .ref ou), (4, .int (nI (8 * t)))]) X dL_law_390 (by decide) rfl ?_
    refine q_aload_n X dL_law_392 3 rfl ?_
    refine q_aload_n X dL_law_393 1 rfl ?_
    refine q_iload X dL_law_394 5 rfl ?_
    refine q_iconst (v := 1) X dL_law_396 (by decide) ?_
    refine q_iadd X dL_law_397 ?_
    refine q_sld X hX (8 * t + 1) (nI_add _ 1) (by omega) dL_law_398 ?_
    refine q_aload_n X dL_law_399 1 rfl ?_
    refine q_iload X dL_law_400 5 rfl ?_
    refine q_iconst (v := 2) X dL_law_402 (by decide) ?_
    refine q_iadd X dL_law_403 ?_
    refine q_sld X hX (8 * t + 2) (nI_add _ 2) (by omega) dL_law_404 ?_
    refine q_aload_n X dL_law_405 1 rfl ?_
    refine q_iload X dL_law_406 5 rfl ?_
    refine q_iconst (v := 3) X dL_law_408 (by decide) ?_
    refine q_iadd X dL_law_409 ?_
    refine q_sld X hX (8 * t + 3) (nI_add _ 3) (by omega) dL_law_410 ?_
    rw [pU_cm hd2]
    obtain ⟨fr0, hr0⟩ : ∃ fs0, MR r = some (oB 13 fs0) := isRF.ob hR
    refine q_callVF X (Mc := MR) (r_erase hW hR) pU_l Y_X13_erase tw_1273 tw_1274 tw_1275 (pU_l _ _ hr0) rfl (by omega) rfl rfl (Nat.le_of_ble_eq_true rfl) (rc' := rc) (rs' := rs) (by omega) (by omega) dL_law_411 (fun v M8 hp hm => ?_)
    obtain ⟨eM, hd3⟩ := mJ_pU (pU_dc hd2) hm
    rw [eM]
    clear eM hm
    obtain ⟨hv8, hR2⟩ := rfP_n ho hp
    have hv9 : v = none := hv8.trans (vn_erase ho)
    subst hv9
    obtain ⟨vA, nA, pA, plA, dg, dla, dha, dva, dza, dvf, dzf, vf, nf, pf, tk, su, le, gr, hB2⟩ := id hR2
    show qJ G F _ 8 (pU M8 (pU MV2 (mO G ou f2))) rc rs 414 [(5, .int 0), (0, .ref b), (1, .ref g), (2, .ref r), (3, .ref ou), (4, .int (nI (8 * t)))] []
    refine q_aload_n X dL_law_414 3 rfl ?_
    refine q_callVp X (c_thrown (pU_l _ _ hB2.1)) Y_X13_thrown tw_1238 tw_1239 tw_1240 (pU_l _ _ hB2.1) rfl (by omega) rfl rfl (Nat.le_of_ble_eq_true rfl) dL_law_415 ?_
    refine q_iload X dL_law_418 0 rfl ?_
    refine q_icmp_eq X 425 dL_law_420 (by decide) (fun c_1 => ?_) (fun c_1 => absurd rfl c_1)
    refine q_goto X 2066 dL_law_425 (by decide) ?_
    refine q_sub [1, 2, 3, 4, 5] rfl ?_
    exact kk _ ⟨MV2, M8, f2, _, pU_cm hd3, hou2, pU_dc hd3, hV2, hR2⟩
  · show qJ G F _ 8 (pU (pU MV2 (mO G ou f2)) MR) (rc + 0) (rs + 0) 390 [(0, .ref b), (1, .ref g), (2, .ref r), (3, .ref ou), (4, .int (nI (8 * t)))] [.int (cOne E)]
    refine q_istore (lv' := [(5, .int (cOne E)), (0, .ref b), (1, .ref g), (2, .ref r), (3, .ref ou), (4, .int (nI (8 * t)))]) X dL_law_390 (by decide) rfl ?_
    refine q_aload_n X dL_law_392 3 rfl ?_
    refine q_aload_n X dL_law_393 1 rfl ?_
    refine q_iload X dL_law_394 5 rfl ?_
    refine q_iconst (v := 1) X dL_law_396 (by decide) ?_
    refine q_iadd X dL_law_397 ?_
    refine q_sld X hX (8 * t + 1) (nI_add _ 1) (by omega) dL_law_398 ?_
    refine q_aload_n X dL_law_399 1 rfl ?_
    refine q_iload X dL_law_400 5 rfl ?_
    refine q_iconst (v := 2) X dL_law_402 (by decide) ?_
    refine q_iadd X dL_law_403 ?_
    refine q_sld X hX (8 * t + 2) (nI_add _ 2) (by omega) dL_law_404 ?_
    refine q_aload_n X dL_law_405 1 rfl ?_
    refine q_iload X dL_law_406 5 rfl ?_
    refine q_iconst (v := 3) X dL_law_408 (by decide) ?_
    refine q_iadd X dL_law_409 ?_
    refine q_sld X hX (8 * t + 3) (nI_add _ 3) (by omega) dL_law_410 ?_
    rw [pU_cm hd2]
    obtain ⟨fr0, hr0⟩ : ∃ fs0, MR r = some (oB 13 fs0) := isRF.ob hR
    refine q_callVF X (Mc := MR) (r_erase hW hR) pU_l Y_X13_erase tw_1273 tw_1274 tw_1275 (pU_l _ _ hr0) rfl (by omega) rfl rfl (Nat.le_of_ble_eq_true rfl) (rc' := rc) (rs' := rs) (by omega) (by omega) dL_law_411 (fun v M8 hp hm => ?_)
    obtain ⟨eM, hd3⟩ := mJ_pU (pU_dc hd2) hm
    rw [eM]
    clear eM hm
    obtain ⟨hv8, hR2⟩ := rfP_s ho hp
    subst hv8
    obtain ⟨vA, nA, pA, plA, dg, dla, dha, dva, dza, dvf, dzf, vf, nf, pf, tk, su, le, gr, hB2⟩ := id hR2
    show qJ G F _ 8 (pU M8 (pU MV2 (mO G ou f2))) rc rs 414 [(5, .int (cOne E)), (0, .ref b), (1, .ref g), (2, .ref r), (3, .ref ou), (4, .int (nI (8 * t)))] []
    refine q_aload_n X dL_law_414 3 rfl ?_
    refine q_callVp X (c_thrown (pU_l _ _ hB2.1)) Y_X13_thrown tw_1238 tw_1239 tw_1240 (pU_l _ _ hB2.1) rfl (by omega) rfl rfl (Nat.le_of_ble_eq_true rfl) dL_law_415 ?_
    refine q_iload X dL_law_418 0 rfl ?_
    refine q_icmp_eq X 425 dL_law_420 (by decide) (fun c_2 => ?_) (fun c_2 => absurd rfl c_2)
    refine q_goto X 2066 dL_law_425 (by decide) ?_
    refine q_sub [1, 2, 3, 4, 5] rfl ?_
    exact kk _ ⟨MV2, M8, f2, _, pU_cm hd3, hou2, pU_dc hd3, hV2, hR2⟩

set_option maxRecDepth 20000 in
theorem lc_fill {G : gV} {F : gF} {Q : State → Prop} {M : gMem} {b L t g r ou rc rs : Nat} {σ : sA} {xs : Nat → Int32} (X : qX G F cL_law 8 RL 202) (hl : (fl F).stackTraces = false) (hX : sX F b L xs) (h8 : 8 * t + 8 ≤ L) (hI : lI G g r ou σ M) (kk : ∀ M2 : gMem, lI G g r ou (sp_fill σ (xs (8 * t + 1)) (xs (8 * t + 2)) (xs (8 * t + 3)) (((xs (8 * t + 4)).toInt64 <<< ((32 : Int32).toInt64 &&& 63)) ||| ((xs (8 * t + 5)).toInt64 &&& 4294967295))).2.2 M2 → qJ G F Q 8 M2 rc rs 2066 [(0, .ref b), (1, .ref g), (2, .ref r), (3, .ref ou), (4, .int (nI (8 * t)))] []) : qJ G F Q 8 M (rc + 1) (rs + 6) 428 [(0, .ref b), (1, .ref g), (2, .ref r), (3, .ref ou), (4, .int (nI (8 * t)))] [] := by
  obtain ⟨MV, MR, f0, e0, rfl, hou, hd, hV, hR⟩ := hI
  have hW := hV.w
  have h4k := hX.2.2.2
  refine q_aload_n X dL_law_428 1 rfl ?_
  refine q_aload_n X dL_law_429 0 rfl ?_
  refine q_iload X dL_law_430 4 rfl ?_
  refine q_iconst (v := 1) X dL_law_432 (by decide) ?_
  refine q_iadd X dL_law_433 ?_
  refine q_sld X hX (8 * t + 1) (nI_add _ 1) (by omega) dL_law_434 ?_
  refine q_aload_n X dL_law_435 0 rfl ?_
  refine q_iload X dL_law_436 4 rfl ?_
  refine q_iconst (v := 2) X dL_law_438 (by decide) ?_
  refine q_iadd X dL_law_439 ?_
  refine q_sld X hX (8 * t + 2) (nI_add _ 2) (by omega) dL_law_440 ?_
  refine q_aload_n X dL_law_441 0 rfl ?_
  refine q_iload X dL_law_442 4 rfl ?_
  refine q_iconst (v := 3) X dL_law_444 (by decide) ?_
  refine q_iadd X dL_law_445 ?_
  refine q_sld X hX (8 * t + 3) (nI_add _ 3) (by omega) dL_law_446 ?_
  refine q_aload_n X dL_law_447 0 rfl ?_
  refine q_iload X dL_law_448 4 rfl ?_
  refine q_iconst (v := 4) X dL_law_450 (by decide) ?_
  refine q_iadd X dL_law_451 ?_
  refine q_sld X hX (8 * t + 4) (nI_add _ 4) (by omega) dL_law_452 ?_
  refine q_i2l X dL_law_453 ?_
  refine q_bipush (v := 32) X dL_law_454 (by decide) ?_
  refine q_lshl X dL_law_456 ?_
  refine q_aload_n X dL_law_457 0 rfl ?_
  refine q_iload X dL_law_458 4 rfl ?_
  refine q_iconst (v := 5) X dL_law_460 (by decide) ?_
  refine q_iadd X dL_law_461 ?_
  refine q_sld X hX (8 * t + 5) (nI_add _ 5) (by omega) dL_law_462 ?_
  refine q_i2l X dL_law_463 ?_
  refine q_ldc2 (v := 4294967295) X dL_law_464 tw_1454 ?_
  refine q_land X dL_law_467 ?_
  refine q_lor X dL_law_468 ?_
  refine q_callW X (Mc := pU MV (mO G ou f0)) (n := 5) (h_fill hl hV hou) pU_l tw_450 tw_0 ⟨by decide, by decide, by decide +kernel⟩ (by decide) tw_448 tw_449 (by omega) rfl rfl (Nat.le_of_ble_eq_true rfl) (rc' := rc + 0) (rs' := rs + 0) (by omega) (by omega) dL_law_469 (fun v M9 hp hm => ?_)
  obtain ⟨MV2, f2, rfl, hou2, hV2, hcase⟩ := hp
  obtain ⟨eM, hd2⟩ := mJ_pU hd hm
  rw [eM]
  clear eM hm
  rcases hcase with ⟨ho, rfl, hv⟩ | ⟨E, ho, rfl⟩
  · show qJ G F _ 8 (pU (pU MV2 (mO G ou f2)) MR) (rc + 0) (rs + 0) 472 [(0, .ref b), (1, .ref g), (2, .ref r), (3, .ref ou), (4, .int (nI (8 * t)))] [.int 0]
    refine q_istore (lv' := [(5, .int 0), (0, .ref b), (1, .ref g), (2, .ref r), (3, .ref ou), (4, .int (nI (8 * t)))]) X dL_law_472 (by decide) rfl ?_
    refine q_aload_n X dL_law_474 3 rfl ?_
    refine q_aload_n X dL_law_475 1 rfl ?_
    refine q_iload X dL_law_476 5 rfl ?_
    refine q_iconst (v := 1) X dL_law_478 (by decide) ?_
    refine q_iadd X dL_law_479 ?_
    refine q_sld X hX (8 * t + 1) (nI_add _ 1) (by omega) dL_law_480 ?_
    refine q_aload_n X dL_law_481 1 rfl ?_
    refine q_iload X dL_law_482 5 rfl ?_
    refine q_iconst (v := 2) X dL_law_484 (by decide) ?_
    refine q_iadd X dL_law_485 ?_
    refine q_sld X hX (8 * t + 2) (nI_add _ 2) (by omega) dL_law_486 ?_
    refine q_aload_n X dL_law_487 1 rfl ?_
    refine q_iload X dL_law_488 5 rfl ?_
    refine q_iconst (v := 3) X dL_law_490 (by decide) ?_
    refine q_iadd X dL_law_491 ?_
    refine q_sld X hX (8 * t + 3) (nI_add _ 3) (by omega) dL_law_492 ?_
    refine q_aload_n X dL_law_493 1 rfl ?_
    refine q_iload X dL_law_494 5 rfl ?_
    refine q_iconst (v := 4) X dL_law_496 (by decide) ?_
    refine q_iadd X dL_law_497 ?_
    refine q_sld X hX (8 * t + 4) (nI_add _ 4) (by omega) dL_law_498 ?_
    refine q_i2l X dL_law_499 ?_
    refine q_bipush (v := 32) X dL_law_500 (by decide) ?_
    refine q_lshl X dL_law_502 ?_
    refine q_aload_n X dL_law_503 1 rfl ?_
    refine q_iload X dL_law_504 5 rfl ?_
    refine q_iconst (v := 5) X dL_law_506 (by decide) ?_
    refine q_iadd X dL_law_507 ?_
    refine q_sld X hX (8 * t + 5) (nI_add _ 5) (by omega) dL_law_508 ?_
    refine q_i2l X dL_law_509 ?_
    refine q_ldc2 (v := 4294967295) X dL_law_510 tw_1454 ?_
    refine q_land X dL_law_513 ?_
    refine q_lor X dL_law_514 ?_
    rw [pU_cm hd2]
    obtain ⟨fr0, hr0⟩ : ∃ fs0, MR r = some (oB 13 fs0) := isRF.ob hR
    refine q_callVF X (Mc := MR) (r_fill hW hR) pU_l Y_X13_fill tw_1277 tw_1278 tw_1279 (pU_l _ _ hr0) rfl (by omega) rfl rfl (Nat.le_of_ble_eq_true rfl) (rc' := rc) (rs' := rs) (by omega) (by omega) dL_law_515 (fun v M8 hp hm => ?_)
    obtain ⟨eM, hd3⟩ := mJ_pU (pU_dc hd2) hm
    rw [eM]
    clear eM hm
    obtain ⟨hv8, hR2⟩ := rfP_n ho hp
    have hv9 : v = none := hv8.trans (vn_fill ho)
    subst hv9
    obtain ⟨vA, nA, pA, plA, dg, dla, dha, dva, dza, dvf, dzf, vf, nf, pf, tk, su, le, gr, hB2⟩ := id hR2
    show qJ G F _ 8 (pU M8 (pU MV2 (mO G ou f2))) rc rs 518 [(5, .int 0), (0, .ref b), (1, .ref g), (2, .ref r), (3, .ref ou), (4, .int (nI (8 * t)))] []
    refine q_aload_n X dL_law_518 3 rfl ?_
    refine q_callVp X (c_thrown (pU_l _ _ hB2.1)) Y_X13_thrown tw_1238 tw_1239 tw_1240 (pU_l _ _ hB2.1) rfl (by omega) rfl rfl (Nat.le_of_ble_eq_true rfl) dL_law_519 ?_
    refine q_iload X dL_law_522 0 rfl ?_
    refine q_icmp_eq X 529 dL_law_524 (by decide) (fun c_1 => ?_) (fun c_1 => absurd rfl c_1)
    refine q_goto X 2066 dL_law_529 (by decide) ?_
    refine q_sub [1, 2, 3, 4, 5] rfl ?_
    exact kk _ ⟨MV2, M8, f2, _, pU_cm hd3, hou2, pU_dc hd3, hV2, hR2⟩
  · show qJ G F _ 8 (pU (pU MV2 (mO G ou f2)) MR) (rc + 0) (rs + 0) 472 [(0, .ref b), (1, .ref g), (2, .ref r), (3, .ref ou), (4, .int (nI (8 * t)))] [.int (cOne E)]
    refine q_istore (lv' := [(5, .int (cOne E)), (0, .ref b), (1, .ref g), (2, .ref r), (3, .ref ou), (4, .int (nI (8 * t)))]) X dL_law_472 (by decide) rfl ?_
    refine q_aload_n X dL_law_474 3 rfl ?_
    refine q_aload_n X dL_law_475 1 rfl ?_
    refine q_iload X dL_law_476 5 rfl ?_
    refine q_iconst (v := 1) X dL_law_478 (by decide) ?_
    refine q_iadd X dL_law_479 ?_
    refine q_sld X hX (8 * t + 1) (nI_add _ 1) (by omega) dL_law_480 ?_
    refine q_aload_n X dL_law_481 1 rfl ?_
    refine q_iload X dL_law_482 5 rfl ?_
    refine q_iconst (v := 2) X dL_law_484 (by decide) ?_
    refine q_iadd X dL_law_485 ?_
    refine q_sld X hX (8 * t + 2) (nI_add _ 2) (by omega) dL_law_486 ?_
    refine q_aload_n X dL_law_487 1 rfl ?_
    refine q_iload X dL_law_488 5 rfl ?_
    refine q_iconst (v := 3) X dL_law_490 (by decide) ?_
    refine q_iadd X dL_law_491 ?_
    refine q_sld X hX (8 * t + 3) (nI_add _ 3) (by omega) dL_law_492 ?_
    refine q_aload_n X dL_law_493 1 rfl ?_
    refine q_iload X dL_law_494 5 rfl ?_
    refine q_iconst (v := 4) X dL_law_496 (by decide) ?_
    refine q_iadd X dL_law_497 ?_
    refine q_sld X hX (8 * t + 4) (nI_add _ 4) (by omega) dL_law_498 ?_
    refine q_i2l X dL_law_499 ?_
    refine q_bipush (v := 32) X dL_law_500 (by decide) ?_
    refine q_lshl X dL_law_502 ?_
    refine q_aload_n X dL_law_503 1 rfl ?_
    refine q_iload X dL_law_504 5 rfl ?_
    refine q_iconst (v := 5) X dL_law_506 (by decide) ?_
    refine q_iadd X dL_law_507 ?_
    refine q_sld X hX (8 * t + 5) (nI_add _ 5) (by omega) dL_law_508 ?_
    refine q_i2l X dL_law_509 ?_
    refine q_ldc2 (v := 4294967295) X dL_law_510 tw_1454 ?_
    refine q_land X dL_law_513 ?_
    refine q_lor X dL_law_514 ?_
    rw [pU_cm hd2]
    obtain ⟨fr0, hr0⟩ : ∃ fs0, MR r = some (oB 13 fs0) := isRF.ob hR
    refine q_callVF X (Mc := MR) (r_fill hW hR) pU_l Y_X13_fill tw_1277 tw_1278 tw_1279 (pU_l _ _ hr0) rfl (by omega) rfl rfl (Nat.le_of_ble_eq_true rfl) (rc' := rc) (rs' := rs) (by omega) (by omega) dL_law_515 (fun v M8 hp hm => ?_)
    obtain ⟨eM, hd3⟩ := mJ_pU (pU_dc hd2) hm
    rw [eM]
    clear eM hm
    obtain ⟨hv8, hR2⟩ := rfP_s ho hp
    subst hv8
    obtain ⟨vA, nA, pA, plA, dg, dla, dha, dva, dza, dvf, dzf, vf, nf, pf, tk, su, le, gr, hB2⟩ := id hR2
    show qJ G F _ 8 (pU M8 (pU MV2 (mO G ou f2))) rc rs 518 [(5, .int (cOne E)), (0, .ref b), (1, .ref g), (2, .ref r), (3, .ref ou), (4, .int (nI (8 * t)))] []
    refine q_aload_n X dL_law_518 3 rfl ?_
    refine q_callVp X (c_thrown (pU_l _ _ hB2.1)) Y_X13_thrown tw_1238 tw_1239 tw_1240 (pU_l _ _ hB2.1) rfl (by omega) rfl rfl (Nat.le_of_ble_eq_true rfl) dL_law_519 ?_
    refine q_iload X dL_law_522 0 rfl ?_
    refine q_icmp_eq X 529 dL_law_524 (by decide) (fun c_2 => ?_) (fun c_2 => absurd rfl c_2)
    refine q_goto X 2066 dL_law_529 (by decide) ?_
    refine q_sub [1, 2, 3, 4, 5] rfl ?_
    exact kk _ ⟨MV2, M8, f2, _, pU_cm hd3, hou2, pU_dc hd3, hV2, hR2⟩

set_option maxRecDepth 20000 in
theorem lc_commit {G : gV} {F : gF} {Q : State → Prop} {M : gMem} {b L t g r ou rc rs : Nat} {σ : sA} {xs : Nat → Int32} (X : qX G F cL_law 8 RL 202) (hl : (fl F).stackTraces = false) (hX : sX F b L xs) (h8 : 8 * t + 8 ≤ L) (hI : lI G g r ou σ M) (kk : ∀ M2 : gMem, lI G g r ou (sp_commit σ).2.2 M2 → qJ G F Q 8 M2 rc rs 2066 [(0, .ref b), (1, .ref g), (2, .ref r), (3, .ref ou), (4, .int (nI (8 * t)))] []) : qJ G F Q 8 M (rc + 13) (rs + 12604) 532 [(0, .ref b), (1, .ref g), (2, .ref r), (3, .ref ou), (4, .int (nI (8 * t)))] [] := by
  obtain ⟨MV, MR, f0, e0, rfl, hou, hd, hV, hR⟩ := hI
  have hW := hV.w
  have h4k := hX.2.2.2
  refine q_aload_n X dL_law_532 1 rfl ?_
  refine q_aload_n X dL_law_533 3 rfl ?_
  refine q_callW X (Mc := pU MV (mO G ou f0)) (n := 2) (h_commit hl hV hou) pU_l tw_465 tw_0 ⟨by decide, by decide, by decide +kernel⟩ (by decide) tw_463 tw_464 (by omega) rfl rfl (Nat.le_of_ble_eq_true rfl) (rc' := rc + 5) (rs' := rs + 8204) (by omega) (by omega) dL_law_534 (fun v M9 hp hm => ?_)
  obtain ⟨MV2, f2, rfl, hou2, hV2, hcase⟩ := hp
  obtain ⟨eM, hd2⟩ := mJ_pU hd hm
  rw [eM]
  clear eM hm
  rcases hcase with ⟨ho, rfl, hv⟩ | ⟨E, ho, rfl⟩
  · show qJ G F _ 8 (pU (pU MV2 (mO G ou f2)) MR) (rc + 5) (rs + 8204) 537 [(0, .ref b), (1, .ref g), (2, .ref r), (3, .ref ou), (4, .int (nI (8 * t)))] [.int 0]
    refine q_istore (lv' := [(5, .int 0), (0, .ref b), (1, .ref g), (2, .ref r), (3, .ref ou), (4, .int (nI (8 * t)))]) X dL_law_537 (by decide) rfl ?_
    refine q_aload_n X dL_law_539 3 rfl ?_
    rw [pU_cm hd2]
    obtain ⟨fr0, hr0⟩ : ∃ fs0, MR r = some (oB 13 fs0) := isRF.ob hR
    refine q_callVF X (Mc := MR) (r_commit hW hR) pU_l Y_X13_commit tw_1284 tw_1285 tw_1286 (pU_l _ _ hr0) rfl (by omega) rfl rfl (Nat.le_of_ble_eq_true rfl) (rc' := rc) (rs' := rs) (by omega) (by omega) dL_law_540 (fun v M8 hp hm => ?_)
    obtain ⟨eM, hd3⟩ := mJ_pU (pU_dc hd2) hm
    rw [eM]
    clear eM hm
    obtain ⟨hv8, hR2⟩ := rfP_n ho hp
    obtain ⟨n9, hn9, hf9⟩ := hv
    rw [hn9] at hv8
    subst hv8
    obtain ⟨vA, nA, pA, plA, dg, dla, dha, dva, dza, dvf, dzf, vf, nf, pf, tk, su, le, gr, hB2⟩ := id hR2
    show qJ G F _ 8 (pU M8 (pU MV2 (mO G ou f2))) rc rs 543 [(5, .int 0), (0, .ref b), (1, .ref g), (2, .ref r), (3, .ref ou), (4, .int (nI (8 * t)))] [.int n9]
    refine q_istore (lv' := [(6, .int n9), (5, .int 0), (0, .ref b), (1, .ref g), (2, .ref r), (3, .ref ou), (4, .int (nI (8 * t)))]) X dL_law_543 (by decide) rfl ?_
    refine q_aload_n X dL_law_545 4 rfl ?_
    refine q_callVp X (c_thrown (pU_l _ _ hB2.1)) Y_X13_thrown tw_1238 tw_1239 tw_1240 (pU_l _ _ hB2.1) rfl (by omega) rfl rfl (Nat.le_of_ble_eq_true rfl) dL_law_546 ?_
    refine q_iload X dL_law_549 1 rfl ?_
    refine q_icmp_eq X 556 dL_law_551 (by decide) (fun c_1 => ?_) (fun c_1 => absurd rfl c_1)
    refine q_iload X dL_law_556 1 rfl ?_
    refine q_if_ne X 573 dL_law_558 (by decide) (fun c_2 => absurd rfl c_2) (fun c_2 => ?_)
    refine q_aload_n X dL_law_561 5 rfl ?_
    refine q_iconst (v := 0) X dL_law_562 (by decide) ?_
    refine q_laldN X 0 ((pU_r (pU_ds hd3 (pU_ou hou2))).trans (pU_ou hou2)) (rfl) (by decide) (by decide) dL_law_563 ?_
    refine q_iload X dL_law_564 0 rfl ?_
    refine q_i2l X dL_law_566 ?_
    refine q_lcmp X dL_law_567 ?_
    refine q_if_eq X 573 dL_law_568 (by decide) (fun c_3 => ?_) (fun c_3 => absurd ((lg_cmp_eq _ _).mpr hf9) c_3)
    refine q_goto X 2066 dL_law_573 (by decide) ?_
    refine q_sub [2, 3, 4, 5, 6] rfl ?_
    exact kk _ ⟨MV2, M8, f2, _, pU_cm hd3, hou2, pU_dc hd3, hV2, hR2⟩
  · show qJ G F _ 8 (pU (pU MV2 (mO G ou f2)) MR) (rc + 5) (rs + 8204) 537 [(0, .ref b), (1, .ref g), (2, .ref r), (3, .ref ou), (4, .int (nI (8 * t)))] [.int (cOne E)]
    refine q_istore (lv' := [(5, .int (cOne E)), (0, .ref b), (1, .ref g), (2, .ref r), (3, .ref ou), (4, .int (nI (8 * t)))]) X dL_law_537 (by decide) rfl ?_
    refine q_aload_n X dL_law_539 3 rfl ?_
    rw [pU_cm hd2]
    obtain ⟨fr0, hr0⟩ : ∃ fs0, MR r = some (oB 13 fs0) := isRF.ob hR
    refine q_callVF X (Mc := MR) (r_commit hW hR) pU_l Y_X13_commit tw_1284 tw_1285 tw_1286 (pU_l _ _ hr0) rfl (by omega) rfl rfl (Nat.le_of_ble_eq_true rfl) (rc' := rc) (rs' := rs) (by omega) (by omega) dL_law_540 (fun v M8 hp hm => ?_)
    obtain ⟨eM, hd3⟩ := mJ_pU (pU_dc hd2) hm
    rw [eM]
    clear eM hm
    obtain ⟨hv8, hR2⟩ := rfP_s ho hp
    subst hv8
    obtain ⟨vA, nA, pA, plA, dg, dla, dha, dva, dza, dvf, dzf, vf, nf, pf, tk, su, le, gr, hB2⟩ := id hR2
    show qJ G F _ 8 (pU M8 (pU MV2 (mO G ou f2))) rc rs 543 [(5, .int (cOne E)), (0, .ref b), (1, .ref g), (2, .ref r), (3, .ref ou), (4, .int (nI (8 * t)))] [.int 0]
    refine q_istore (lv' := [(6, .int 0), (5, .int (cOne E)), (0, .ref b), (1, .ref g), (2, .ref r), (3, .ref ou), (4, .int (nI (8 * t)))]) X dL_law_543 (by decide) rfl ?_
    refine q_aload_n X dL_law_545 4 rfl ?_
    refine q_callVp X (c_thrown (pU_l _ _ hB2.1)) Y_X13_thrown tw_1238 tw_1239 tw_1240 (pU_l _ _ hB2.1) rfl (by omega) rfl rfl (Nat.le_of_ble_eq_true rfl) dL_law_546 ?_
    refine q_iload X dL_law_549 1 rfl ?_
    refine q_icmp_eq X 556 dL_law_551 (by decide) (fun c_4 => ?_) (fun c_4 => absurd rfl c_4)
    refine q_iload X dL_law_556 1 rfl ?_
    refine q_if_ne X 573 dL_law_558 (by decide) (fun c_5 => ?_) (fun c_5 => absurd c_5 (cOne_ne E))
    refine q_goto X 2066 dL_law_573 (by decide) ?_
    refine q_sub [2, 3, 4, 5, 6] rfl ?_
    exact kk _ ⟨MV2, M8, f2, _, pU_cm hd3, hou2, pU_dc hd3, hV2, hR2⟩

set_option maxRecDepth 20000 in
theorem lc_open {G : gV} {F : gF} {Q : State → Prop} {M : gMem} {b L t g r ou rc rs : Nat} {σ : sA} {xs : Nat → Int32} (X : qX G F cL_law 8 RL 202) (hl : (fl F).stackTraces = false) (hX : sX F b L xs) (h8 : 8 * t + 8 ≤ L) (hI : lI G g r ou σ M) (kk : ∀ M2 : gMem, lI G g r ou (sp_open σ (xs (8 * t + 1))).2.2 M2 → qJ G F Q 8 M2 rc rs 2066 [(0, .ref b), (1, .ref g), (2, .ref r), (3, .ref ou), (4, .int (nI (8 * t)))] []) : qJ G F Q 8 M (rc + 1) (rs + 6) 576 [(0, .ref b), (1, .ref g), (2, .ref r), (3, .ref ou), (4, .int (nI (8 * t)))] [] := by
  obtain ⟨MV, MR, f0, e0, rfl, hou, hd, hV, hR⟩ := hI
  have hW := hV.w
  have h4k := hX.2.2.2
  refine q_aload_n X dL_law_576 1 rfl ?_
  refine q_aload_n X dL_law_577 0 rfl ?_
  refine q_iload X dL_law_578 4 rfl ?_
  refine q_iconst (v := 1) X dL_law_580 (by decide) ?_
  refine q_iadd X dL_law_581 ?_
  refine q_sld X hX (8 * t + 1) (nI_add _ 1) (by omega) dL_law_582 ?_
  refine q_callW X (Mc := pU MV (mO G ou f0)) (n := 2) (h_open hl hV hou) pU_l tw_550 tw_0 ⟨by decide, by decide, by decide +kernel⟩ (by decide) tw_548 tw_549 (by omega) rfl rfl (Nat.le_of_ble_eq_true rfl) (rc' := rc + 0) (rs' := rs + 0) (by omega) (by omega) dL_law_583 (fun v M9 hp hm => ?_)
  obtain ⟨MV2, f2, rfl, hou2, hV2, hcase⟩ := hp
  obtain ⟨eM, hd2⟩ := mJ_pU hd hm
  rw [eM]
  clear eM hm
  rcases hcase with ⟨ho, rfl, hv⟩ | ⟨E, ho, rfl⟩
  · show qJ G F _ 8 (pU (pU MV2 (mO G ou f2)) MR) (rc + 0) (rs + 0) 586 [(0, .ref b), (1, .ref g), (2, .ref r), (3, .ref ou), (4, .int (nI (8 * t)))] [.int 0]
    refine q_istore (lv' := [(5, .int 0), (0, .ref b), (1, .ref g), (2, .ref r), (3, .ref ou), (4, .int (nI (8 * t)))]) X dL_law_586 (by decide) rfl ?_
    refine q_aload_n X dL_law_588 3 rfl ?_
    refine q_aload_n X dL_law_589 1 rfl ?_
    refine q_iload X dL_law_590 5 rfl ?_
    refine q_iconst (v := 1) X dL_law_592 (by decide) ?_
    refine q_iadd X dL_law_593 ?_
    refine q_sld X hX (8 * t + 1) (nI_add _ 1) (by omega) dL_law_594 ?_
    rw [pU_cm hd2]
    obtain ⟨fr0, hr0⟩ : ∃ fs0, MR r = some (oB 13 fs0) := isRF.ob hR
    refine q_callVF X (Mc := MR) (r_open hW hR) pU_l Y_X13_open tw_1288 tw_1289 tw_1290 (pU_l _ _ hr0) rfl (by omega) rfl rfl (Nat.le_of_ble_eq_true rfl) (rc' := rc) (rs' := rs) (by omega) (by omega) dL_law_595 (fun v M8 hp hm => ?_)
    obtain ⟨eM, hd3⟩ := mJ_pU (pU_dc hd2) hm
    rw [eM]
    clear eM hm
    obtain ⟨hv8, hR2⟩ := rfP_n ho hp
    have hv9 : v = none := hv8.trans (vn_open ho)
    subst hv9
    obtain ⟨vA, nA, pA, plA, dg, dla, dha, dva, dza, dvf, dzf, vf, nf, pf, tk, su, le, gr, hB2⟩ := id hR2
    show qJ G F _ 8 (pU M8 (pU MV2 (mO G ou f2))) rc rs 598 [(5, .int 0), (0, .ref b), (1, .ref g), (2, .ref r), (3, .ref ou), (4, .int (nI (8 * t)))] []
    refine q_aload_n X dL_law_598 3 rfl ?_
    refine q_callVp X (c_thrown (pU_l _ _ hB2.1)) Y_X13_thrown tw_1238 tw_1239 tw_1240 (pU_l _ _ hB2.1) rfl (by omega) rfl rfl (Nat.le_of_ble_eq_true rfl) dL_law_599 ?_
    refine q_iload X dL_law_602 0 rfl ?_
    refine q_icmp_eq X 609 dL_law_604 (by decide) (fun c_1 => ?_) (fun c_1 => absurd rfl c_1)
    refine q_goto X 2066 dL_law_609 (by decide) ?_
    refine q_sub [1, 2, 3, 4, 5] rfl ?_
    exact kk _ ⟨MV2, M8, f2, _, pU_cm hd3, hou2, pU_dc hd3, hV2, hR2⟩
  · show qJ G F _ 8 (pU (pU MV2 (mO G ou f2)) MR) (rc + 0) (rs + 0) 586 [(0, .ref b), (1, .ref g), (2, .ref r), (3, .ref ou), (4, .int (nI (8 * t)))] [.int (cOne E)]
    refine q_istore (lv' := [(5, .int (cOne E)), (0, .ref b), (1, .ref g), (2, .ref r), (3, .ref ou), (4, .int (nI (8 * t)))]) X dL_law_586 (by decide) rfl ?_
    refine q_aload_n X dL_law_588 3 rfl ?_
    refine q_aload_n X dL_law_589 1 rfl ?_
    refine q_iload X dL_law_590 5 rfl ?_
    refine q_iconst (v := 1) X dL_law_592 (by decide) ?_
    refine q_iadd X dL_law_593 ?_
    refine q_sld X hX (8 * t + 1) (nI_add _ 1) (by omega) dL_law_594 ?_
    rw [pU_cm hd2]
    obtain ⟨fr0, hr0⟩ : ∃ fs0, MR r = some (oB 13 fs0) := isRF.ob hR
    refine q_callVF X (Mc := MR) (r_open hW hR) pU_l Y_X13_open tw_1288 tw_1289 tw_1290 (pU_l _ _ hr0) rfl (by omega) rfl rfl (Nat.le_of_ble_eq_true rfl) (rc' := rc) (rs' := rs) (by omega) (by omega) dL_law_595 (fun v M8 hp hm => ?_)
    obtain ⟨eM, hd3⟩ := mJ_pU (pU_dc hd2) hm
    rw [eM]
    clear eM hm
    obtain ⟨hv8, hR2⟩ := rfP_s ho hp
    subst hv8
    obtain ⟨vA, nA, pA, plA, dg, dla, dha, dva, dza, dvf, dzf, vf, nf, pf, tk, su, le, gr, hB2⟩ := id hR2
    show qJ G F _ 8 (pU M8 (pU MV2 (mO G ou f2))) rc rs 598 [(5, .int (cOne E)), (0, .ref b), (1, .ref g), (2, .ref r), (3, .ref ou), (4, .int (nI (8 * t)))] []
    refine q_aload_n X dL_law_598 3 rfl ?_
    refine q_callVp X (c_thrown (pU_l _ _ hB2.1)) Y_X13_thrown tw_1238 tw_1239 tw_1240 (pU_l _ _ hB2.1) rfl (by omega) rfl rfl (Nat.le_of_ble_eq_true rfl) dL_law_599 ?_
    refine q_iload X dL_law_602 0 rfl ?_
    refine q_icmp_eq X 609 dL_law_604 (by decide) (fun c_2 => ?_) (fun c_2 => absurd rfl c_2)
    refine q_goto X 2066 dL_law_609 (by decide) ?_
    refine q_sub [1, 2, 3, 4, 5] rfl ?_
    exact kk _ ⟨MV2, M8, f2, _, pU_cm hd3, hou2, pU_dc hd3, hV2, hR2⟩

set_option maxRecDepth 20000 in
theorem lc_version {G : gV} {F : gF} {Q : State → Prop} {M : gMem} {b L t g r ou rc rs : Nat} {σ : sA} {xs : Nat → Int32} (X : qX G F cL_law 8 RL 202) (hl : (fl F).stackTraces = false) (hX : sX F b L xs) (h8 : 8 * t + 8 ≤ L) (hI : lI G g r ou σ M) (kk : ∀ M2 : gMem, lI G g r ou (sp_version σ (xs (8 * t + 1)) (xs (8 * t + 2))).2.2 M2 → qJ G F Q 8 M2 rc rs 2066 [(0, .ref b), (1, .ref g), (2, .ref r), (3, .ref ou), (4, .int (nI (8 * t)))] []) : qJ G F Q 8 M (rc + 2) (rs + 12) 612 [(0, .ref b), (1, .ref g), (2, .ref r), (3, .ref ou), (4, .int (nI (8 * t)))] [] := by
  obtain ⟨MV, MR, f0, e0, rfl, hou, hd, hV, hR⟩ := hI
  have hW := hV.w
  have h4k := hX.2.2.2
  refine q_aload_n X dL_law_612 1 rfl ?_
  refine q_aload_n X dL_law_613 0 rfl ?_
  refine q_iload X dL_law_614 4 rfl ?_
  refine q_iconst (v := 1) X dL_law_616 (by decide) ?_
  refine q_iadd X dL_law_617 ?_
  refine q_sld X hX (8 * t + 1) (nI_add _ 1) (by omega) dL_law_618 ?_
  refine q_aload_n X dL_law_619 0 rfl ?_
  refine q_iload X dL_law_620 4 rfl ?_
  refine q_iconst (v := 2) X dL_law_622 (by decide) ?_
  refine q_iadd X dL_law_623 ?_
  refine q_sld X hX (8 * t + 2) (nI_add _ 2) (by omega) dL_law_624 ?_
  refine q_aload_n X dL_law_625 3 rfl ?_
  refine q_callW X (Mc := pU MV (mO G ou f0)) (n := 4) (h_version hl hV hou) pU_l tw_559 tw_0 ⟨by decide, by decide, by decide +kernel⟩ (by decide) tw_557 tw_558 (by omega) rfl rfl (Nat.le_of_ble_eq_true rfl) (rc' := rc + 0) (rs' := rs + 0) (by omega) (by omega) dL_law_626 (fun v M9 hp hm => ?_)
  obtain ⟨MV2, f2, rfl, hou2, hV2, hcase⟩ := hp
  obtain ⟨eM, hd2⟩ := mJ_pU hd hm
  rw [eM]
  clear eM hm
  rcases hcase with ⟨ho, rfl, hv⟩ | ⟨E, ho, rfl⟩
  · show qJ G F _ 8 (pU (pU MV2 (mO G ou f2)) MR) (rc + 0) (rs + 0) 629 [(0, .ref b), (1, .ref g), (2, .ref r), (3, .ref ou), (4, .int (nI (8 * t)))] [.int 0]
    refine q_istore (lv' := [(5, .int 0), (0, .ref b), (1, .ref g), (2, .ref r), (3, .ref ou), (4, .int (nI (8 * t)))]) X dL_law_629 (by decide) rfl ?_
    refine q_aload_n X dL_law_631 3 rfl ?_
    refine q_aload_n X dL_law_632 1 rfl ?_
    refine q_iload X dL_law_633 5 rfl ?_
    refine q_iconst (v := 1) X dL_law_635 (by decide) ?_
    refine q_iadd X dL_law_636 ?_
    refine q_sld X hX (8 * t + 1) (nI_add _ 1) (by omega) dL_law_637 ?_
    refine q_aload_n X dL_law_638 1 rfl ?_
    refine q_iload X dL_law_639 5 rfl ?_
    refine q_iconst (v := 2) X dL_law_641 (by decide) ?_
    refine q_iadd X dL_law_642 ?_
    refine q_sld X hX (8 * t + 2) (nI_add _ 2) (by omega) dL_law_643 ?_
    rw [pU_cm hd2]
    obtain ⟨fr0, hr0⟩ : ∃ fs0, MR r = some (oB 13 fs0) := isRF.ob hR
    refine q_callVF X (Mc := MR) (r_version hW hR) pU_l Y_X13_version tw_1306 tw_1307 tw_1308 (pU_l _ _ hr0) rfl (by omega) rfl rfl (Nat.le_of_ble_eq_true rfl) (rc' := rc) (rs' := rs) (by omega) (by omega) dL_law_644 (fun v M8 hp hm => ?_)
    obtain ⟨eM, hd3⟩ := mJ_pU (pU_dc hd2) hm
    rw [eM]
    clear eM hm
    obtain ⟨hv8, hR2⟩ := rfP_n ho hp
    obtain ⟨n9, hn9, hf9⟩ := hv
    rw [hn9] at hv8
    subst hv8
    obtain ⟨vA, nA, pA, plA, dg, dla, dha, dva, dza, dvf, dzf, vf, nf, pf, tk, su, le, gr, hB2⟩ := id hR2
    show qJ G F _ 8 (pU M8 (pU MV2 (mO G ou f2))) rc rs 647 [(5, .int 0), (0, .ref b), (1, .ref g), (2, .ref r), (3, .ref ou), (4, .int (nI (8 * t)))] [.int n9]
    refine q_istore (lv' := [(6, .int n9), (5, .int 0), (0, .ref b), (1, .ref g), (2, .ref r), (3, .ref ou), (4, .int (nI (8 * t)))]) X dL_law_647 (by decide) rfl ?_
    refine q_aload_n X dL_law_649 4 rfl ?_
    refine q_callVp X (c_thrown (pU_l _ _ hB2.1)) Y_X13_thrown tw_1238 tw_1239 tw_1240 (pU_l _ _ hB2.1) rfl (by omega) rfl rfl (Nat.le_of_ble_eq_true rfl) dL_law_650 ?_
    refine q_iload X dL_law_653 1 rfl ?_
    refine q_icmp_eq X 660 dL_law_655 (by decide) (fun c_1 => ?_) (fun c_1 => absurd rfl c_1)
    refine q_iload X dL_law_660 1 rfl ?_
    refine q_if_ne X 677 dL_law_662 (by decide) (fun c_2 => absurd rfl c_2) (fun c_2 => ?_)
    refine q_aload_n X dL_law_665 5 rfl ?_
    refine q_iconst (v := 0) X dL_law_666 (by decide) ?_
    refine q_laldN X 0 ((pU_r (pU_ds hd3 (pU_ou hou2))).trans (pU_ou hou2)) (rfl) (by decide) (by decide) dL_law_667 ?_
    refine q_iload X dL_law_668 0 rfl ?_
    refine q_i2l X dL_law_670 ?_
    refine q_lcmp X dL_law_671 ?_
    refine q_if_eq X 677 dL_law_672 (by decide) (fun c_3 => ?_) (fun c_3 => absurd ((lg_cmp_eq _ _).mpr hf9) c_3)
    refine q_goto X 2066 dL_law_677 (by decide) ?_
    refine q_sub [2, 3, 4, 5, 6] rfl ?_
    exact kk _ ⟨MV2, M8, f2, _, pU_cm hd3, hou2, pU_dc hd3, hV2, hR2⟩
  · show qJ G F _ 8 (pU (pU MV2 (mO G ou f2)) MR) (rc + 0) (rs + 0) 629 [(0, .ref b), (1, .ref g), (2, .ref r), (3, .ref ou), (4, .int (nI (8 * t)))] [.int (cOne E)]
    refine q_istore (lv' := [(5, .int (cOne E)), (0, .ref b), (1, .ref g), (2, .ref r), (3, .ref ou), (4, .int (nI (8 * t)))]) X dL_law_629 (by decide) rfl ?_
    refine q_aload_n X dL_law_631 3 rfl ?_
    refine q_aload_n X dL_law_632 1 rfl ?_
    refine q_iload X dL_law_633 5 rfl ?_
    refine q_iconst (v := 1) X dL_law_635 (by decide) ?_
    refine q_iadd X dL_law_636 ?_
    refine q_sld X hX (8 * t + 1) (nI_add _ 1) (by omega) dL_law_637 ?_
    refine q_aload_n X dL_law_638 1 rfl ?_
    refine q_iload X dL_law_639 5 rfl ?_
    refine q_iconst (v := 2) X dL_law_641 (by decide) ?_
    refine q_iadd X dL_law_642 ?_
    refine q_sld X hX (8 * t + 2) (nI_add _ 2) (by omega) dL_law_643 ?_
    rw [pU_cm hd2]
    obtain ⟨fr0, hr0⟩ : ∃ fs0, MR r = some (oB 13 fs0) := isRF.ob hR
    refine q_callVF X (Mc := MR) (r_version hW hR) pU_l Y_X13_version tw_1306 tw_1307 tw_1308 (pU_l _ _ hr0) rfl (by omega) rfl rfl (Nat.le_of_ble_eq_true rfl) (rc' := rc) (rs' := rs) (by omega) (by omega) dL_law_644 (fun v M8 hp hm => ?_)
    obtain ⟨eM, hd3⟩ := mJ_pU (pU_dc hd2) hm
    rw [eM]
    clear eM hm
    obtain ⟨hv8, hR2⟩ := rfP_s ho hp
    subst hv8
    obtain ⟨vA, nA, pA, plA, dg, dla, dha, dva, dza, dvf, dzf, vf, nf, pf, tk, su, le, gr, hB2⟩ := id hR2
    show qJ G F _ 8 (pU M8 (pU MV2 (mO G ou f2))) rc rs 647 [(5, .int (cOne E)), (0, .ref b), (1, .ref g), (2, .ref r), (3, .ref ou), (4, .int (nI (8 * t)))] [.int 0]
    refine q_istore (lv' := [(6, .int 0), (5, .int (cOne E)), (0, .ref b), (1, .ref g), (2, .ref r), (3, .ref ou), (4, .int (nI (8 * t)))]) X dL_law_647 (by decide) rfl ?_
    refine q_aload_n X dL_law_649 4 rfl ?_
    refine q_callVp X (c_thrown (pU_l _ _ hB2.1)) Y_X13_thrown tw_1238 tw_1239 tw_1240 (pU_l _ _ hB2.1) rfl (by omega) rfl rfl (Nat.le_of_ble_eq_true rfl) dL_law_650 ?_
    refine q_iload X dL_law_653 1 rfl ?_
    refine q_icmp_eq X 660 dL_law_655 (by decide) (fun c_4 => ?_) (fun c_4 => absurd rfl c_4)
    refine q_iload X dL_law_660 1 rfl ?_
    refine q_if_ne X 677 dL_law_662 (by decide) (fun c_5 => ?_) (fun c_5 => absurd c_5 (cOne_ne E))
    refine q_goto X 2066 dL_law_677 (by decide) ?_
    refine q_sub [2, 3, 4, 5, 6] rfl ?_
    exact kk _ ⟨MV2, M8, f2, _, pU_cm hd3, hou2, pU_dc hd3, hV2, hR2⟩

set_option maxRecDepth 20000 in
theorem lc_differ {G : gV} {F : gF} {Q : State → Prop} {M : gMem} {b L t g r ou rc rs : Nat} {σ : sA} {xs : Nat → Int32} (X : qX G F cL_law 8 RL 202) (hl : (fl F).stackTraces = false) (hX : sX F b L xs) (h8 : 8 * t + 8 ≤ L) (hI : lI G g r ou σ M) (kk : ∀ M2 : gMem, lI G g r ou (sp_differ σ (xs (8 * t + 1)) (xs (8 * t + 2))).2.2 M2 → qJ G F Q 8 M2 rc rs 2066 [(0, .ref b), (1, .ref g), (2, .ref r), (3, .ref ou), (4, .int (nI (8 * t)))] []) : qJ G F Q 8 M (rc + 2) (rs + 12) 680 [(0, .ref b), (1, .ref g), (2, .ref r), (3, .ref ou), (4, .int (nI (8 * t)))] [] := by
  obtain ⟨MV, MR, f0, e0, rfl, hou, hd, hV, hR⟩ := hI
  have hW := hV.w
  have h4k := hX.2.2.2
  refine q_aload_n X dL_law_680 1 rfl ?_
  refine q_aload_n X dL_law_681 0 rfl ?_
  refine q_iload X dL_law_682 4 rfl ?_
  refine q_iconst (v := 1) X dL_law_684 (by decide) ?_
  refine q_iadd X dL_law_685 ?_
  refine q_sld X hX (8 * t + 1) (nI_add _ 1) (by omega) dL_law_686 ?_
  refine q_aload_n X dL_law_687 0 rfl ?_
  refine q_iload X dL_law_688 4 rfl ?_
  refine q_iconst (v := 2) X dL_law_690 (by decide) ?_
  refine q_iadd X dL_law_691 ?_
  refine q_sld X hX (8 * t + 2) (nI_add _ 2) (by omega) dL_law_692 ?_
  refine q_aload_n X dL_law_693 3 rfl ?_
  refine q_callW X (Mc := pU MV (mO G ou f0)) (n := 4) (h_differ hl hV hou) pU_l tw_589 tw_0 ⟨by decide, by decide, by decide +kernel⟩ (by decide) tw_587 tw_588 (by omega) rfl rfl (Nat.le_of_ble_eq_true rfl) (rc' := rc + 0) (rs' := rs + 0) (by omega) (by omega) dL_law_694 (fun v M9 hp hm => ?_)
  obtain ⟨MV2, f2, rfl, hou2, hV2, hcase⟩ := hp
  obtain ⟨eM, hd2⟩ := mJ_pU hd hm
  rw [eM]
  clear eM hm
  rcases hcase with ⟨ho, rfl, hv⟩ | ⟨E, ho, rfl⟩
  · show qJ G F _ 8 (pU (pU MV2 (mO G ou f2)) MR) (rc + 0) (rs + 0) 697 [(0, .ref b), (1, .ref g), (2, .ref r), (3, .ref ou), (4, .int (nI (8 * t)))] [.int 0]
    refine q_istore (lv' := [(5, .int 0), (0, .ref b), (1, .ref g), (2, .ref r), (3, .ref ou), (4, .int (nI (8 * t)))]) X dL_law_697 (by decide) rfl ?_
    refine q_aload_n X dL_law_699 3 rfl ?_
    refine q_aload_n X dL_law_700 1 rfl ?_
    refine q_iload X dL_law_701 5 rfl ?_
    refine q_iconst (v := 1) X dL_law_703 (by decide) ?_
    refine q_iadd X dL_law_704 ?_
    refine q_sld X hX (8 * t + 1) (nI_add _ 1) (by omega) dL_law_705 ?_
    refine q_aload_n X dL_law_706 1 rfl ?_
    refine q_iload X dL_law_707 5 rfl ?_
    refine q_iconst (v := 2) X dL_law_709 (by decide) ?_
    refine q_iadd X dL_law_710 ?_
    refine q_sld X hX (8 * t + 2) (nI_add _ 2) (by omega) dL_law_711 ?_
    rw [pU_cm hd2]
    obtain ⟨fr0, hr0⟩ : ∃ fs0, MR r = some (oB 13 fs0) := isRF.ob hR
    refine q_callVF X (Mc := MR) (r_differ hW hR) pU_l Y_X13_differ tw_1296 tw_1297 tw_1298 (pU_l _ _ hr0) rfl (by omega) rfl rfl (Nat.le_of_ble_eq_true rfl) (rc' := rc) (rs' := rs) (by omega) (by omega) dL_law_712 (fun v M8 hp hm => ?_)
    obtain ⟨eM, hd3⟩ := mJ_pU (pU_dc hd2) hm
    rw [eM]
    clear eM hm
    obtain ⟨hv8, hR2⟩ := rfP_n ho hp
    obtain ⟨n9, hn9, hf9⟩ := hv
    rw [hn9] at hv8
    subst hv8
    obtain ⟨vA, nA, pA, plA, dg, dla, dha, dva, dza, dvf, dzf, vf, nf, pf, tk, su, le, gr, hB2⟩ := id hR2
    show qJ G F _ 8 (pU M8 (pU MV2 (mO G ou f2))) rc rs 715 [(5, .int 0), (0, .ref b), (1, .ref g), (2, .ref r), (3, .ref ou), (4, .int (nI (8 * t)))] [.int n9]
    refine q_istore (lv' := [(6, .int n9), (5, .int 0), (0, .ref b), (1, .ref g), (2, .ref r), (3, .ref ou), (4, .int (nI (8 * t)))]) X dL_law_715 (by decide) rfl ?_
    refine q_aload_n X dL_law_717 4 rfl ?_
    refine q_callVp X (c_thrown (pU_l _ _ hB2.1)) Y_X13_thrown tw_1238 tw_1239 tw_1240 (pU_l _ _ hB2.1) rfl (by omega) rfl rfl (Nat.le_of_ble_eq_true rfl) dL_law_718 ?_
    refine q_iload X dL_law_721 1 rfl ?_
    refine q_icmp_eq X 728 dL_law_723 (by decide) (fun c_1 => ?_) (fun c_1 => absurd rfl c_1)
    refine q_iload X dL_law_728 1 rfl ?_
    refine q_if_ne X 745 dL_law_730 (by decide) (fun c_2 => absurd rfl c_2) (fun c_2 => ?_)
    refine q_aload_n X dL_law_733 5 rfl ?_
    refine q_iconst (v := 0) X dL_law_734 (by decide) ?_
    refine q_laldN X 0 ((pU_r (pU_ds hd3 (pU_ou hou2))).trans (pU_ou hou2)) (rfl) (by decide) (by decide) dL_law_735 ?_
    refine q_iload X dL_law_736 0 rfl ?_
    refine q_i2l X dL_law_738 ?_
    refine q_lcmp X dL_law_739 ?_
    refine q_if_eq X 745 dL_law_740 (by decide) (fun c_3 => ?_) (fun c_3 => absurd ((lg_cmp_eq _ _).mpr hf9) c_3)
    refine q_goto X 2066 dL_law_745 (by decide) ?_
    refine q_sub [2, 3, 4, 5, 6] rfl ?_
    exact kk _ ⟨MV2, M8, f2, _, pU_cm hd3, hou2, pU_dc hd3, hV2, hR2⟩
  · show qJ G F _ 8 (pU (pU MV2 (mO G ou f2)) MR) (rc + 0) (rs + 0) 697 [(0, .ref b), (1, .ref g), (2, .ref r), (3, .ref ou), (4, .int (nI (8 * t)))] [.int (cOne E)]
    refine q_istore (lv' := [(5, .int (cOne E)), (0, .ref b), (1, .ref g), (2, .ref r), (3, .ref ou), (4, .int (nI (8 * t)))]) X dL_law_697 (by decide) rfl ?_
    refine q_aload_n X dL_law_699 3 rfl ?_
    refine q_aload_n X dL_law_700 1 rfl ?_
    refine q_iload X dL_law_701 5 rfl ?_
    refine q_iconst (v := 1) X dL_law_703 (by decide) ?_
    refine q_iadd X dL_law_704 ?_
    refine q_sld X hX (8 * t + 1) (nI_add _ 1) (by omega) dL_law_705 ?_
    refine q_aload_n X dL_law_706 1 rfl ?_
    refine q_iload X dL_law_707 5 rfl ?_
    refine q_iconst (v := 2) X dL_law_709 (by decide) ?_
    refine q_iadd X dL_law_710 ?_
    refine q_sld X hX (8 * t + 2) (nI_add _ 2) (by omega) dL_law_711 ?_
    rw [pU_cm hd2]
    obtain ⟨fr0, hr0⟩ : ∃ fs0, MR r = some (oB 13 fs0) := isRF.ob hR
    refine q_callVF X (Mc := MR) (r_differ hW hR) pU_l Y_X13_differ tw_1296 tw_1297 tw_1298 (pU_l _ _ hr0) rfl (by omega) rfl rfl (Nat.le_of_ble_eq_true rfl) (rc' := rc) (rs' := rs) (by omega) (by omega) dL_law_712 (fun v M8 hp hm => ?_)
    obtain ⟨eM, hd3⟩ := mJ_pU (pU_dc hd2) hm
    rw [eM]
    clear eM hm
    obtain ⟨hv8, hR2⟩ := rfP_s ho hp
    subst hv8
    obtain ⟨vA, nA, pA, plA, dg, dla, dha, dva, dza, dvf, dzf, vf, nf, pf, tk, su, le, gr, hB2⟩ := id hR2
    show qJ G F _ 8 (pU M8 (pU MV2 (mO G ou f2))) rc rs 715 [(5, .int (cOne E)), (0, .ref b), (1, .ref g), (2, .ref r), (3, .ref ou), (4, .int (nI (8 * t)))] [.int 0]
    refine q_istore (lv' := [(6, .int 0), (5, .int (cOne E)), (0, .ref b), (1, .ref g), (2, .ref r), (3, .ref ou), (4, .int (nI (8 * t)))]) X dL_law_715 (by decide) rfl ?_
    refine q_aload_n X dL_law_717 4 rfl ?_
    refine q_callVp X (c_thrown (pU_l _ _ hB2.1)) Y_X13_thrown tw_1238 tw_1239 tw_1240 (pU_l _ _ hB2.1) rfl (by omega) rfl rfl (Nat.le_of_ble_eq_true rfl) dL_law_718 ?_
    refine q_iload X dL_law_721 1 rfl ?_
    refine q_icmp_eq X 728 dL_law_723 (by decide) (fun c_4 => ?_) (fun c_4 => absurd rfl c_4)
    refine q_iload X dL_law_728 1 rfl ?_
    refine q_if_ne X 745 dL_law_730 (by decide) (fun c_5 => ?_) (fun c_5 => absurd c_5 (cOne_ne E))
    refine q_goto X 2066 dL_law_745 (by decide) ?_
    refine q_sub [2, 3, 4, 5, 6] rfl ?_
    exact kk _ ⟨MV2, M8, f2, _, pU_cm hd3, hou2, pU_dc hd3, hV2, hR2⟩

set_option maxRecDepth 20000 in
theorem lc_read {G : gV} {F : gF} {Q : State → Prop} {M : gMem} {b L t g r ou rc rs : Nat} {σ : sA} {xs : Nat → Int32} (X : qX G F cL_law 8 RL 202) (hl : (fl F).stackTraces = false) (hX : sX F b L xs) (h8 : 8 * t + 8 ≤ L) (hI : lI G g r ou σ M) (kk : ∀ M2 : gMem, lI G g r ou (sp_read σ (xs (8 * t + 1))).2.2 M2 → qJ G F Q 8 M2 rc rs 2066 [(0, .ref b), (1, .ref g), (2, .ref r), (3, .ref ou), (4, .int (nI (8 * t)))] []) : qJ G F Q 8 M (rc + 7) (rs + 262) 748 [(0, .ref b), (1, .ref g), (2, .ref r), (3, .ref ou), (4, .int (nI (8 * t)))] [] := by
  obtain ⟨MV, MR, f0, e0, rfl, hou, hd, hV, hR⟩ := hI
  have hW := hV.w
  have h4k := hX.2.2.2
  refine q_aload_n X dL_law_748 1 rfl ?_
  refine q_aload_n X dL_law_749 0 rfl ?_
  refine q_iload X dL_law_750 4 rfl ?_
  refine q_iconst (v := 1) X dL_law_752 (by decide) ?_
  refine q_iadd X dL_law_753 ?_
  refine q_sld X hX (8 * t + 1) (nI_add _ 1) (by omega) dL_law_754 ?_
  refine q_aload_n X dL_law_755 3 rfl ?_
  refine q_callW X (Mc := pU MV (mO G ou f0)) (n := 3) (h_read hl hV hou) pU_l tw_601 tw_0 ⟨by decide, by decide, by decide +kernel⟩ (by decide) tw_599 tw_600 (by omega) rfl rfl (Nat.le_of_ble_eq_true rfl) (rc' := rc + 3) (rs' := rs + 12) (by omega) (by omega) dL_law_756 (fun v M9 hp hm => ?_)
  obtain ⟨MV2, f2, rfl, hou2, hV2, hcase⟩ := hp
  obtain ⟨eM, hd2⟩ := mJ_pU hd hm
  rw [eM]
  clear eM hm
  rcases hcase with ⟨ho, rfl, hv⟩ | ⟨E, ho, rfl⟩
  · show qJ G F _ 8 (pU (pU MV2 (mO G ou f2)) MR) (rc + 3) (rs + 12) 759 [(0, .ref b), (1, .ref g), (2, .ref r), (3, .ref ou), (4, .int (nI (8 * t)))] [.int 0]
    refine q_istore (lv' := [(5, .int 0), (0, .ref b), (1, .ref g), (2, .ref r), (3, .ref ou), (4, .int (nI (8 * t)))]) X dL_law_759 (by decide) rfl ?_
    refine q_aload_n X dL_law_761 3 rfl ?_
    refine q_aload_n X dL_law_762 1 rfl ?_
    refine q_iload X dL_law_763 5 rfl ?_
    refine q_iconst (v := 1) X dL_law_765 (by decide) ?_
    refine q_iadd X dL_law_766 ?_
    refine q_sld X hX (8 * t + 1) (nI_add _ 1) (by omega) dL_law_767 ?_
    rw [pU_cm hd2]
    obtain ⟨fr0, hr0⟩ : ∃ fs0, MR r = some (oB 13 fs0) := isRF.ob hR
    refine q_callVF X (Mc := MR) (r_read hW hR) pU_l Y_X13_read tw_1328 tw_1329 tw_1330 (pU_l _ _ hr0) rfl (by omega) rfl rfl (Nat.le_of_ble_eq_true rfl) (rc' := rc) (rs' := rs) (by omega) (by omega) dL_law_768 (fun v M8 hp hm => ?_)
    obtain ⟨eM, hd3⟩ := mJ_pU (pU_dc hd2) hm
    rw [eM]
    clear eM hm
    obtain ⟨hv8, hR2⟩ := rfP_n ho hp
    obtain ⟨n9, hn9, hf9⟩ := hv
    rw [hn9] at hv8
    subst hv8
    obtain ⟨vA, nA, pA, plA, dg, dla, dha, dva, dza, dvf, dzf, vf, nf, pf, tk, su, le, gr, hB2⟩ := id hR2
    show qJ G F _ 8 (pU M8 (pU MV2 (mO G ou f2))) rc rs 771 [(5, .int 0), (0, .ref b), (1, .ref g), (2, .ref r), (3, .ref ou), (4, .int (nI (8 * t)))] [.int n9]
    refine q_istore (lv' := [(6, .int n9), (5, .int 0), (0, .ref b), (1, .ref g), (2, .ref r), (3, .ref ou), (4, .int (nI (8 * t)))]) X dL_law_771 (by decide) rfl ?_
    refine q_aload_n X dL_law_773 4 rfl ?_
    refine q_callVp X (c_thrown (pU_l _ _ hB2.1)) Y_X13_thrown tw_1238 tw_1239 tw_1240 (pU_l _ _ hB2.1) rfl (by omega) rfl rfl (Nat.le_of_ble_eq_true rfl) dL_law_774 ?_
    refine q_iload X dL_law_777 1 rfl ?_
    refine q_icmp_eq X 784 dL_law_779 (by decide) (fun c_1 => ?_) (fun c_1 => absurd rfl c_1)
    refine q_iload X dL_law_784 1 rfl ?_
    refine q_if_ne X 801 dL_law_786 (by decide) (fun c_2 => absurd rfl c_2) (fun c_2 => ?_)
    refine q_aload_n X dL_law_789 5 rfl ?_
    refine q_iconst (v := 0) X dL_law_790 (by decide) ?_
    refine q_laldN X 0 ((pU_r (pU_ds hd3 (pU_ou hou2))).trans (pU_ou hou2)) (rfl) (by decide) (by decide) dL_law_791 ?_
    refine q_iload X dL_law_792 0 rfl ?_
    refine q_i2l X dL_law_794 ?_
    refine q_lcmp X dL_law_795 ?_
    refine q_if_eq X 801 dL_law_796 (by decide) (fun c_3 => ?_) (fun c_3 => absurd ((lg_cmp_eq _ _).mpr hf9) c_3)
    refine q_goto X 2066 dL_law_801 (by decide) ?_
    refine q_sub [2, 3, 4, 5, 6] rfl ?_
    exact kk _ ⟨MV2, M8, f2, _, pU_cm hd3, hou2, pU_dc hd3, hV2, hR2⟩
  · show qJ G F _ 8 (pU (pU MV2 (mO G ou f2)) MR) (rc + 3) (rs + 12) 759 [(0, .ref b), (1, .ref g), (2, .ref r), (3, .ref ou), (4, .int (nI (8 * t)))] [.int (cOp E)]
    refine q_istore (lv' := [(5, .int (cOp E)), (0, .ref b), (1, .ref g), (2, .ref r), (3, .ref ou), (4, .int (nI (8 * t)))]) X dL_law_759 (by decide) rfl ?_
    refine q_aload_n X dL_law_761 3 rfl ?_
    refine q_aload_n X dL_law_762 1 rfl ?_
    refine q_iload X dL_law_763 5 rfl ?_
    refine q_iconst (v := 1) X dL_law_765 (by decide) ?_
    refine q_iadd X dL_law_766 ?_
    refine q_sld X hX (8 * t + 1) (nI_add _ 1) (by omega) dL_law_767 ?_
    rw [pU_cm hd2]
    obtain ⟨fr0, hr0⟩ : ∃ fs0, MR r = some (oB 13 fs0) := isRF.ob hR
    refine q_callVF X (Mc := MR) (r_read hW hR) pU_l Y_X13_read tw_1328 tw_1329 tw_1330 (pU_l _ _ hr0) rfl (by omega) rfl rfl (Nat.le_of_ble_eq_true rfl) (rc' := rc) (rs' := rs) (by omega) (by omega) dL_law_768 (fun v M8 hp hm => ?_)
    obtain ⟨eM, hd3⟩ := mJ_pU (pU_dc hd2) hm
    rw [eM]
    clear eM hm
    obtain ⟨hv8, hR2⟩ := rfP_s ho hp
    subst hv8
    obtain ⟨vA, nA, pA, plA, dg, dla, dha, dva, dza, dvf, dzf, vf, nf, pf, tk, su, le, gr, hB2⟩ := id hR2
    show qJ G F _ 8 (pU M8 (pU MV2 (mO G ou f2))) rc rs 771 [(5, .int (cOp E)), (0, .ref b), (1, .ref g), (2, .ref r), (3, .ref ou), (4, .int (nI (8 * t)))] [.int 0]
    refine q_istore (lv' := [(6, .int 0), (5, .int (cOp E)), (0, .ref b), (1, .ref g), (2, .ref r), (3, .ref ou), (4, .int (nI (8 * t)))]) X dL_law_771 (by decide) rfl ?_
    refine q_aload_n X dL_law_773 4 rfl ?_
    refine q_callVp X (c_thrown (pU_l _ _ hB2.1)) Y_X13_thrown tw_1238 tw_1239 tw_1240 (pU_l _ _ hB2.1) rfl (by omega) rfl rfl (Nat.le_of_ble_eq_true rfl) dL_law_774 ?_
    refine q_iload X dL_law_777 1 rfl ?_
    refine q_icmp_eq X 784 dL_law_779 (by decide) (fun c_4 => ?_) (fun c_4 => absurd rfl c_4)
    refine q_iload X dL_law_784 1 rfl ?_
    refine q_if_ne X 801 dL_law_786 (by decide) (fun c_5 => ?_) (fun c_5 => absurd c_5 (cOp_ne E))
    refine q_goto X 2066 dL_law_801 (by decide) ?_
    refine q_sub [2, 3, 4, 5, 6] rfl ?_
    exact kk _ ⟨MV2, M8, f2, _, pU_cm hd3, hou2, pU_dc hd3, hV2, hR2⟩

set_option maxRecDepth 20000 in
theorem lc_sub {G : gV} {F : gF} {Q : State → Prop} {M : gMem} {b L t g r ou rc rs : Nat} {σ : sA} {xs : Nat → Int32} (X : qX G F cL_law 8 RL 202) (hl : (fl F).stackTraces = false) (hX : sX F b L xs) (h8 : 8 * t + 8 ≤ L) (hI : lI G g r ou σ M) (kk : ∀ M2 : gMem, lI G g r ou (sp_sub σ (xs (8 * t + 1)) (xs (8 * t + 2)) (xs (8 * t + 3)) (xs (8 * t + 4))).2.2 M2 → qJ G F Q 8 M2 rc rs 2066 [(0, .ref b), (1, .ref g), (2, .ref r), (3, .ref ou), (4, .int (nI (8 * t)))] []) : qJ G F Q 8 M (rc + 21) (rs + 6518) 804 [(0, .ref b), (1, .ref g), (2, .ref r), (3, .ref ou), (4, .int (nI (8 * t)))] [] := by
  obtain ⟨MV, MR, f0, e0, rfl, hou, hd, hV, hR⟩ := hI
  have hW := hV.w
  have h4k := hX.2.2.2
  refine q_aload_n X dL_law_804 1 rfl ?_
  refine q_aload_n X dL_law_805 0 rfl ?_
  refine q_iload X dL_law_806 4 rfl ?_
  refine q_iconst (v := 1) X dL_law_808 (by decide) ?_
  refine q_iadd X dL_law_809 ?_
  refine q_sld X hX (8 * t + 1) (nI_add _ 1) (by omega) dL_law_810 ?_
  refine q_aload_n X dL_law_811 0 rfl ?_
  refine q_iload X dL_law_812 4 rfl ?_
  refine q_iconst (v := 2) X dL_law_814 (by decide) ?_
  refine q_iadd X dL_law_815 ?_
  refine q_sld X hX (8 * t + 2) (nI_add _ 2) (by omega) dL_law_816 ?_
  refine q_aload_n X dL_law_817 0 rfl ?_
  refine q_iload X dL_law_818 4 rfl ?_
  refine q_iconst (v := 3) X dL_law_820 (by decide) ?_
  refine q_iadd X dL_law_821 ?_
  refine q_sld X hX (8 * t + 3) (nI_add _ 3) (by omega) dL_law_822 ?_
  refine q_aload_n X dL_law_823 0 rfl ?_
  refine q_iload X dL_law_824 4 rfl ?_
  refine q_iconst (v := 4) X dL_law_826 (by decide) ?_
  refine q_iadd X dL_law_827 ?_
  refine q_sld X hX (8 * t + 4) (nI_add _ 4) (by omega) dL_law_828 ?_
  refine q_aload_n X dL_law_829 3 rfl ?_
  refine q_callW X (Mc := pU MV (mO G ou f0)) (n := 6) (h_sub hl hV hou) pU_l tw_617 tw_0 ⟨by decide, by decide, by decide +kernel⟩ (by decide) tw_615 tw_616 (by omega) rfl rfl (Nat.le_of_ble_eq_true rfl) (rc' := rc + 5) (rs' := rs + 4108) (by omega) (by omega) dL_law_830 (fun v M9 hp hm => ?_)
  obtain ⟨MV2, f2, rfl, hou2, hV2, hcase⟩ := hp
  obtain ⟨eM, hd2⟩ := mJ_pU hd hm
  rw [eM]
  clear eM hm
  rcases hcase with ⟨ho, rfl, hv⟩ | ⟨E, ho, rfl⟩
  · show qJ G F _ 8 (pU (pU MV2 (mO G ou f2)) MR) (rc + 5) (rs + 4108) 833 [(0, .ref b), (1, .ref g), (2, .ref r), (3, .ref ou), (4, .int (nI (8 * t)))] [.int 0]
    refine q_istore (lv' := [(5, .int 0), (0, .ref b), (1, .ref g), (2, .ref r), (3, .ref ou), (4, .int (nI (8 * t)))]) X dL_law_833 (by decide) rfl ?_
    refine q_aload_n X dL_law_835 3 rfl ?_
    refine q_aload_n X dL_law_836 1 rfl ?_
    refine q_iload X dL_law_837 5 rfl ?_
    refine q_iconst (v := 1) X dL_law_839 (by decide) ?_
    refine q_iadd X dL_law_840 ?_
    refine q_sld X hX (8 * t + 1) (nI_add _ 1) (by omega) dL_law_841 ?_
    refine q_aload_n X dL_law_842 1 rfl ?_
    refine q_iload X dL_law_843 5 rfl ?_
    refine q_iconst (v := 2) X dL_law_845 (by decide) ?_
    refine q_iadd X dL_law_846 ?_
    refine q_sld X hX (8 * t + 2) (nI_add _ 2) (by omega) dL_law_847 ?_
    refine q_aload_n X dL_law_848 1 rfl ?_
    refine q_iload X dL_law_849 5 rfl ?_
    refine q_iconst (v := 3) X dL_law_851 (by decide) ?_
    refine q_iadd X dL_law_852 ?_
    refine q_sld X hX (8 * t + 3) (nI_add _ 3) (by omega) dL_law_853 ?_
    refine q_aload_n X dL_law_854 1 rfl ?_
    refine q_iload X dL_law_855 5 rfl ?_
    refine q_iconst (v := 4) X dL_law_857 (by decide) ?_
    refine q_iadd X dL_law_858 ?_
    refine q_sld X hX (8 * t + 4) (nI_add _ 4) (by omega) dL_law_859 ?_
    rw [pU_cm hd2]
    obtain ⟨fr0, hr0⟩ : ∃ fs0, MR r = some (oB 13 fs0) := isRF.ob hR
    refine q_callVF X (Mc := MR) (r_sub hW hR) pU_l Y_X13_sub tw_1343 tw_1344 tw_1345 (pU_l _ _ hr0) rfl (by omega) rfl rfl (Nat.le_of_ble_eq_true rfl) (rc' := rc) (rs' := rs) (by omega) (by omega) dL_law_860 (fun v M8 hp hm => ?_)
    obtain ⟨eM, hd3⟩ := mJ_pU (pU_dc hd2) hm
    rw [eM]
    clear eM hm
    obtain ⟨hv8, hR2⟩ := rfP_n ho hp
    obtain ⟨n9, hn9, hf9⟩ := hv
    rw [hn9] at hv8
    subst hv8
    obtain ⟨vA, nA, pA, plA, dg, dla, dha, dva, dza, dvf, dzf, vf, nf, pf, tk, su, le, gr, hB2⟩ := id hR2
    show qJ G F _ 8 (pU M8 (pU MV2 (mO G ou f2))) rc rs 863 [(5, .int 0), (0, .ref b), (1, .ref g), (2, .ref r), (3, .ref ou), (4, .int (nI (8 * t)))] [.int n9]
    refine q_istore (lv' := [(6, .int n9), (5, .int 0), (0, .ref b), (1, .ref g), (2, .ref r), (3, .ref ou), (4, .int (nI (8 * t)))]) X dL_law_863 (by decide) rfl ?_
    refine q_aload_n X dL_law_865 4 rfl ?_
    refine q_callVp X (c_thrown (pU_l _ _ hB2.1)) Y_X13_thrown tw_1238 tw_1239 tw_1240 (pU_l _ _ hB2.1) rfl (by omega) rfl rfl (Nat.le_of_ble_eq_true rfl) dL_law_866 ?_
    refine q_iload X dL_law_869 1 rfl ?_
    refine q_icmp_eq X 876 dL_law_871 (by decide) (fun c_1 => ?_) (fun c_1 => absurd rfl c_1)
    refine q_iload X dL_law_876 1 rfl ?_
    refine q_if_ne X 893 dL_law_878 (by decide) (fun c_2 => absurd rfl c_2) (fun c_2 => ?_)
    refine q_aload_n X dL_law_881 5 rfl ?_
    refine q_iconst (v := 0) X dL_law_882 (by decide) ?_
    refine q_laldN X 0 ((pU_r (pU_ds hd3 (pU_ou hou2))).trans (pU_ou hou2)) (rfl) (by decide) (by decide) dL_law_883 ?_
    refine q_iload X dL_law_884 0 rfl ?_
    refine q_i2l X dL_law_886 ?_
    refine q_lcmp X dL_law_887 ?_
    refine q_if_eq X 893 dL_law_888 (by decide) (fun c_3 => ?_) (fun c_3 => absurd ((lg_cmp_eq _ _).mpr hf9) c_3)
    refine q_goto X 2066 dL_law_893 (by decide) ?_
    refine q_sub [2, 3, 4, 5, 6] rfl ?_
    exact kk _ ⟨MV2, M8, f2, _, pU_cm hd3, hou2, pU_dc hd3, hV2, hR2⟩
  · show qJ G F _ 8 (pU (pU MV2 (mO G ou f2)) MR) (rc + 5) (rs + 4108) 833 [(0, .ref b), (1, .ref g), (2, .ref r), (3, .ref ou), (4, .int (nI (8 * t)))] [.int (cOp E)]
    refine q_istore (lv' := [(5, .int (cOp E)), (0, .ref b), (1, .ref g), (2, .ref r), (3, .ref ou), (4, .int (nI (8 * t)))]) X dL_law_833 (by decide) rfl ?_
    refine q_aload_n X dL_law_835 3 rfl ?_
    refine q_aload_n X dL_law_836 1 rfl ?_
    refine q_iload X dL_law_837 5 rfl ?_
    refine q_iconst (v := 1) X dL_law_839 (by decide) ?_
    refine q_iadd X dL_law_840 ?_
    refine q_sld X hX (8 * t + 1) (nI_add _ 1) (by omega) dL_law_841 ?_
    refine q_aload_n X dL_law_842 1 rfl ?_
    refine q_iload X dL_law_843 5 rfl ?_
    refine q_iconst (v := 2) X dL_law_845 (by decide) ?_
    refine q_iadd X dL_law_846 ?_
    refine q_sld X hX (8 * t + 2) (nI_add _ 2) (by omega) dL_law_847 ?_
    refine q_aload_n X dL_law_848 1 rfl ?_
    refine q_iload X dL_law_849 5 rfl ?_
    refine q_iconst (v := 3) X dL_law_851 (by decide) ?_
    refine q_iadd X dL_law_852 ?_
    refine q_sld X hX (8 * t + 3) (nI_add _ 3) (by omega) dL_law_853 ?_
    refine q_aload_n X dL_law_854 1 rfl ?_
    refine q_iload X dL_law_855 5 rfl ?_
    refine q_iconst (v := 4) X dL_law_857 (by decide) ?_
    refine q_iadd X dL_law_858 ?_
    refine q_sld X hX (8 * t + 4) (nI_add _ 4) (by omega) dL_law_859 ?_
    rw [pU_cm hd2]
    obtain ⟨fr0, hr0⟩ : ∃ fs0, MR r = some (oB 13 fs0) := isRF.ob hR
    refine q_callVF X (Mc := MR) (r_sub hW hR) pU_l Y_X13_sub tw_1343 tw_1344 tw_1345 (pU_l _ _ hr0) rfl (by omega) rfl rfl (Nat.le_of_ble_eq_true rfl) (rc' := rc) (rs' := rs) (by omega) (by omega) dL_law_860 (fun v M8 hp hm => ?_)
    obtain ⟨eM, hd3⟩ := mJ_pU (pU_dc hd2) hm
    rw [eM]
    clear eM hm
    obtain ⟨hv8, hR2⟩ := rfP_s ho hp
    subst hv8
    obtain ⟨vA, nA, pA, plA, dg, dla, dha, dva, dza, dvf, dzf, vf, nf, pf, tk, su, le, gr, hB2⟩ := id hR2
    show qJ G F _ 8 (pU M8 (pU MV2 (mO G ou f2))) rc rs 863 [(5, .int (cOp E)), (0, .ref b), (1, .ref g), (2, .ref r), (3, .ref ou), (4, .int (nI (8 * t)))] [.int 0]
    refine q_istore (lv' := [(6, .int 0), (5, .int (cOp E)), (0, .ref b), (1, .ref g), (2, .ref r), (3, .ref ou), (4, .int (nI (8 * t)))]) X dL_law_863 (by decide) rfl ?_
    refine q_aload_n X dL_law_865 4 rfl ?_
    refine q_callVp X (c_thrown (pU_l _ _ hB2.1)) Y_X13_thrown tw_1238 tw_1239 tw_1240 (pU_l _ _ hB2.1) rfl (by omega) rfl rfl (Nat.le_of_ble_eq_true rfl) dL_law_866 ?_
    refine q_iload X dL_law_869 1 rfl ?_
    refine q_icmp_eq X 876 dL_law_871 (by decide) (fun c_4 => ?_) (fun c_4 => absurd rfl c_4)
    refine q_iload X dL_law_876 1 rfl ?_
    refine q_if_ne X 893 dL_law_878 (by decide) (fun c_5 => ?_) (fun c_5 => absurd c_5 (cOp_ne E))
    refine q_goto X 2066 dL_law_893 (by decide) ?_
    refine q_sub [2, 3, 4, 5, 6] rfl ?_
    exact kk _ ⟨MV2, M8, f2, _, pU_cm hd3, hou2, pU_dc hd3, hV2, hR2⟩

set_option maxRecDepth 20000 in
theorem lc_slice {G : gV} {F : gF} {Q : State → Prop} {M : gMem} {b L t g r ou rc rs : Nat} {σ : sA} {xs : Nat → Int32} (X : qX G F cL_law 8 RL 202) (hl : (fl F).stackTraces = false) (hX : sX F b L xs) (h8 : 8 * t + 8 ≤ L) (hI : lI G g r ou σ M) (kk : ∀ M2 : gMem, lI G g r ou (sp_slice σ (xs (8 * t + 1)) (xs (8 * t + 2)) (xs (8 * t + 3))).2.2 M2 → qJ G F Q 8 M2 rc rs 2066 [(0, .ref b), (1, .ref g), (2, .ref r), (3, .ref ou), (4, .int (nI (8 * t)))] []) : qJ G F Q 8 M (rc + 31) (rs + 6548) 896 [(0, .ref b), (1, .ref g), (2, .ref r), (3, .ref ou), (4, .int (nI (8 * t)))] [] := by
  obtain ⟨MV, MR, f0, e0, rfl, hou, hd, hV, hR⟩ := hI
  have hW := hV.w
  have h4k := hX.2.2.2
  refine q_aload_n X dL_law_896 1 rfl ?_
  refine q_aload_n X dL_law_897 0 rfl ?_
  refine q_iload X dL_law_898 4 rfl ?_
  refine q_iconst (v := 1) X dL_law_900 (by decide) ?_
  refine q_iadd X dL_law_901 ?_
  refine q_sld X hX (8 * t + 1) (nI_add _ 1) (by omega) dL_law_902 ?_
  refine q_aload_n X dL_law_903 0 rfl ?_
  refine q_iload X dL_law_904 4 rfl ?_
  refine q_iconst (v := 2) X dL_law_906 (by decide) ?_
  refine q_iadd X dL_law_907 ?_
  refine q_sld X hX (8 * t + 2) (nI_add _ 2) (by omega) dL_law_908 ?_
  refine q_aload_n X dL_law_909 0 rfl ?_
  refine q_iload X dL_law_910 4 rfl ?_
  refine q_iconst (v := 3) X dL_law_912 (by decide) ?_
  refine q_iadd X dL_law_913 ?_
  refine q_sld X hX (8 * t + 3) (nI_add _ 3) (by omega) dL_law_914 ?_
  refine q_aload_n X dL_law_915 3 rfl ?_
  refine q_callW X (Mc := pU MV (mO G ou f0)) (n := 5) (h_slice hl hV hou) pU_l tw_717 tw_0 ⟨by decide, by decide, by decide +kernel⟩ (by decide) tw_715 tw_716 (by omega) rfl rfl (Nat.le_of_ble_eq_true rfl) (rc' := rc + 5) (rs' := rs + 4108) (by omega) (by omega) dL_law_916 (fun v M9 hp hm => ?_)
  obtain ⟨MV2, f2, rfl, hou2, hV2, hcase⟩ := hp
  obtain ⟨eM, hd2⟩ := mJ_pU hd hm
  rw [eM]
  clear eM hm
  rcases hcase with ⟨ho, rfl, hv⟩ | ⟨E, ho, rfl⟩
  · show qJ G F _ 8 (pU (pU MV2 (mO G ou f2)) MR) (rc + 5) (rs + 4108) 919 [(0, .ref b), (1, .ref g), (2, .ref r), (3, .ref ou), (4, .int (nI (8 * t)))] [.int 0]
    refine q_istore (lv' := [(5, .int 0), (0, .ref b), (1, .ref g), (2, .ref r), (3, .ref ou), (4, .int (nI (8 * t)))]) X dL_law_919 (by decide) rfl ?_
    refine q_aload_n X dL_law_921 3 rfl ?_
    refine q_aload_n X dL_law_922 1 rfl ?_
    refine q_iload X dL_law_923 5 rfl ?_
    refine q_iconst (v := 1) X dL_law_925 (by decide) ?_
    refine q_iadd X dL_law_926 ?_
    refine q_sld X hX (8 * t + 1) (nI_add _ 1) (by omega) dL_law_927 ?_
    refine q_aload_n X dL_law_928 1 rfl ?_
    refine q_iload X dL_law_929 5 rfl ?_
    refine q_iconst (v := 2) X dL_law_931 (by decide) ?_
    refine q_iadd X dL_law_932 ?_
    refine q_sld X hX (8 * t + 2) (nI_add _ 2) (by omega) dL_law_933 ?_
    refine q_aload_n X dL_law_934 1 rfl ?_
    refine q_iload X dL_law_935 5 rfl ?_
    refine q_iconst (v := 3) X dL_law_937 (by decide) ?_
    refine q_iadd X dL_law_938 ?_
    refine q_sld X hX (8 * t + 3) (nI_add _ 3) (by omega) dL_law_939 ?_
    rw [pU_cm hd2]
    obtain ⟨fr0, hr0⟩ : ∃ fs0, MR r = some (oB 13 fs0) := isRF.ob hR
    refine q_callVF X (Mc := MR) (r_slice hW hR) pU_l Y_X13_slice tw_1371 tw_1372 tw_1373 (pU_l _ _ hr0) rfl (by omega) rfl rfl (Nat.le_of_ble_eq_true rfl) (rc' := rc) (rs' := rs) (by omega) (by omega) dL_law_940 (fun v M8 hp hm => ?_)
    obtain ⟨eM, hd3⟩ := mJ_pU (pU_dc hd2) hm
    rw [eM]
    clear eM hm
    obtain ⟨hv8, hR2⟩ := rfP_n ho hp
    obtain ⟨n9, hn9, hf9⟩ := hv
    rw [hn9] at hv8
    subst hv8
    obtain ⟨vA, nA, pA, plA, dg, dla, dha, dva, dza, dvf, dzf, vf, nf, pf, tk, su, le, gr, hB2⟩ := id hR2
    show qJ G F _ 8 (pU M8 (pU MV2 (mO G ou f2))) rc rs 943 [(5, .int 0), (0, .ref b), (1, .ref g), (2, .ref r), (3, .ref ou), (4, .int (nI (8 * t)))] [.int n9]
    refine q_istore (lv' := [(6, .int n9), (5, .int 0), (0, .ref b), (1, .ref g), (2, .ref r), (3, .ref ou), (4, .int (nI (8 * t)))]) X dL_law_943 (by decide) rfl ?_
    refine q_aload_n X dL_law_945 4 rfl ?_
    refine q_callVp X (c_thrown (pU_l _ _ hB2.1)) Y_X13_thrown tw_1238 tw_1239 tw_1240 (pU_l _ _ hB2.1) rfl (by omega) rfl rfl (Nat.le_of_ble_eq_true rfl) dL_law_946 ?_
    refine q_iload X dL_law_949 1 rfl ?_
    refine q_icmp_eq X 956 dL_law_951 (by decide) (fun c_1 => ?_) (fun c_1 => absurd rfl c_1)
    refine q_iload X dL_law_956 1 rfl ?_
    refine q_if_ne X 973 dL_law_958 (by decide) (fun c_2 => absurd rfl c_2) (fun c_2 => ?_)
    refine q_aload_n X dL_law_961 5 rfl ?_
    refine q_iconst (v := 0) X dL_law_962 (by decide) ?_
    refine q_laldN X 0 ((pU_r (pU_ds hd3 (pU_ou hou2))).trans (pU_ou hou2)) (rfl) (by decide) (by decide) dL_law_963 ?_
    refine q_iload X dL_law_964 0 rfl ?_
    refine q_i2l X dL_law_966 ?_
    refine q_lcmp X dL_law_967 ?_
    refine q_if_eq X 973 dL_law_968 (by decide) (fun c_3 => ?_) (fun c_3 => absurd ((lg_cmp_eq _ _).mpr hf9) c_3)
    refine q_goto X 2066 dL_law_973 (by decide) ?_
    refine q_sub [2, 3, 4, 5, 6] rfl ?_
    exact kk _ ⟨MV2, M8, f2, _, pU_cm hd3, hou2, pU_dc hd3, hV2, hR2⟩
  · show qJ G F _ 8 (pU (pU MV2 (mO G ou f2)) MR) (rc + 5) (rs + 4108) 919 [(0, .ref b), (1, .ref g), (2, .ref r), (3, .ref ou), (4, .int (nI (8 * t)))] [.int (cOp E)]
    refine q_istore (lv' := [(5, .int (cOp E)), (0, .ref b), (1, .ref g), (2, .ref r), (3, .ref ou), (4, .int (nI (8 * t)))]) X dL_law_919 (by decide) rfl ?_
    refine q_aload_n X dL_law_921 3 rfl ?_
    refine q_aload_n X dL_law_922 1 rfl ?_
    refine q_iload X dL_law_923 5 rfl ?_
    refine q_iconst (v := 1) X dL_law_925 (by decide) ?_
    refine q_iadd X dL_law_926 ?_
    refine q_sld X hX (8 * t + 1) (nI_add _ 1) (by omega) dL_law_927 ?_
    refine q_aload_n X dL_law_928 1 rfl ?_
    refine q_iload X dL_law_929 5 rfl ?_
    refine q_iconst (v := 2) X dL_law_931 (by decide) ?_
    refine q_iadd X dL_law_932 ?_
    refine q_sld X hX (8 * t + 2) (nI_add _ 2) (by omega) dL_law_933 ?_
    refine q_aload_n X dL_law_934 1 rfl ?_
    refine q_iload X dL_law_935 5 rfl ?_
    refine q_iconst (v := 3) X dL_law_937 (by decide) ?_
    refine q_iadd X dL_law_938 ?_
    refine q_sld X hX (8 * t + 3) (nI_add _ 3) (by omega) dL_law_939 ?_
    rw [pU_cm hd2]
    obtain ⟨fr0, hr0⟩ : ∃ fs0, MR r = some (oB 13 fs0) := isRF.ob hR
    refine q_callVF X (Mc := MR) (r_slice hW hR) pU_l Y_X13_slice tw_1371 tw_1372 tw_1373 (pU_l _ _ hr0) rfl (by omega) rfl rfl (Nat.le_of_ble_eq_true rfl) (rc' := rc) (rs' := rs) (by omega) (by omega) dL_law_940 (fun v M8 hp hm => ?_)
    obtain ⟨eM, hd3⟩ := mJ_pU (pU_dc hd2) hm
    rw [eM]
    clear eM hm
    obtain ⟨hv8, hR2⟩ := rfP_s ho hp
    subst hv8
    obtain ⟨vA, nA, pA, plA, dg, dla, dha, dva, dza, dvf, dzf, vf, nf, pf, tk, su, le, gr, hB2⟩ := id hR2
    show qJ G F _ 8 (pU M8 (pU MV2 (mO G ou f2))) rc rs 943 [(5, .int (cOp E)), (0, .ref b), (1, .ref g), (2, .ref r), (3, .ref ou), (4, .int (nI (8 * t)))] [.int 0]
    refine q_istore (lv' := [(6, .int 0), (5, .int (cOp E)), (0, .ref b), (1, .ref g), (2, .ref r), (3, .ref ou), (4, .int (nI (8 * t)))]) X dL_law_943 (by decide) rfl ?_
    refine q_aload_n X dL_law_945 4 rfl ?_
    refine q_callVp X (c_thrown (pU_l _ _ hB2.1)) Y_X13_thrown tw_1238 tw_1239 tw_1240 (pU_l _ _ hB2.1) rfl (by omega) rfl rfl (Nat.le_of_ble_eq_true rfl) dL_law_946 ?_
    refine q_iload X dL_law_949 1 rfl ?_
    refine q_icmp_eq X 956 dL_law_951 (by decide) (fun c_4 => ?_) (fun c_4 => absurd rfl c_4)
    refine q_iload X dL_law_956 1 rfl ?_
    refine q_if_ne X 973 dL_law_958 (by decide) (fun c_5 => ?_) (fun c_5 => absurd c_5 (cOp_ne E))
    refine q_goto X 2066 dL_law_973 (by decide) ?_
    refine q_sub [2, 3, 4, 5, 6] rfl ?_
    exact kk _ ⟨MV2, M8, f2, _, pU_cm hd3, hou2, pU_dc hd3, hV2, hR2⟩

set_option maxRecDepth 20000 in
theorem lc_extend {G : gV} {F : gF} {Q : State → Prop} {M : gMem} {b L t g r ou rc rs : Nat} {σ : sA} {xs : Nat → Int32} (X : qX G F cL_law 8 RL 202) (hl : (fl F).stackTraces = false) (hX : sX F b L xs) (h8 : 8 * t + 8 ≤ L) (hI : lI G g r ou σ M) (kk : ∀ M2 : gMem, lI G g r ou (sp_extend σ (xs (8 * t + 1)) (xs (8 * t + 2)) (xs (8 * t + 3)) (xs (8 * t + 4))).2.2 M2 → qJ G F Q 8 M2 rc rs 2066 [(0, .ref b), (1, .ref g), (2, .ref r), (3, .ref ou), (4, .int (nI (8 * t)))] []) : qJ G F Q 8 M (rc + 21) (rs + 6518) 976 [(0, .ref b), (1, .ref g), (2, .ref r), (3, .ref ou), (4, .int (nI (8 * t)))] [] := by
  obtain ⟨MV, MR, f0, e0, rfl, hou, hd, hV, hR⟩ := hI
  have hW := hV.w
  have h4k := hX.2.2.2
  refine q_aload_n X dL_law_976 1 rfl ?_
  refine q_aload_n X dL_law_977 0 rfl ?_
  refine q_iload X dL_law_978 4 rfl ?_
  refine q_iconst (v := 1) X dL_law_980 (by decide) ?_
  refine q_iadd X dL_law_981 ?_
  refine q_sld X hX (8 * t + 1) (nI_add _ 1) (by omega) dL_law_982 ?_
  refine q_aload_n X dL_law_983 0 rfl ?_
  refine q_iload X dL_law_984 4 rfl ?_
  refine q_iconst (v := 2) X dL_law_986 (by decide) ?_
  refine q_iadd X dL_law_987 ?_
  refine q_sld X hX (8 * t + 2) (nI_add _ 2) (by omega) dL_law_988 ?_
  refine q_aload_n X dL_law_989 0 rfl ?_
  refine q_iload X dL_law_990 4 rfl ?_
  refine q_iconst (v := 3) X dL_law_992 (by decide) ?_
  refine q_iadd X dL_law_993 ?_
  refine q_sld X hX (8 * t + 3) (nI_add _ 3) (by omega) dL_law_994 ?_
  refine q_aload_n X dL_law_995 0 rfl ?_
  refine q_iload X dL_law_996 4 rfl ?_
  refine q_iconst (v := 4) X dL_law_998 (by decide) ?_
  refine q_iadd X dL_law_999 ?_
  refine q_sld X hX (8 * t + 4) (nI_add _ 4) (by omega) dL_law_1000 ?_
  refine q_aload_n X dL_law_1001 3 rfl ?_
  refine q_callW X (Mc := pU MV (mO G ou f0)) (n := 6) (h_extend hl hV hou) pU_l tw_740 tw_0 ⟨by decide, by decide, by decide +kernel⟩ (by decide) tw_738 tw_739 (by omega) rfl rfl (Nat.le_of_ble_eq_true rfl) (rc' := rc + 5) (rs' := rs + 4108) (by omega) (by omega) dL_law_1002 (fun v M9 hp hm => ?_)
  obtain ⟨MV2, f2, rfl, hou2, hV2, hcase⟩ := hp
  obtain ⟨eM, hd2⟩ := mJ_pU hd hm
  rw [eM]
  clear eM hm
  rcases hcase with ⟨ho, rfl, hv⟩ | ⟨E, ho, rfl⟩
  · show qJ G F _ 8 (pU (pU MV2 (mO G ou f2)) MR) (rc + 5) (rs + 4108) 1005 [(0, .ref b), (1, .ref g), (2, .ref r), (3, .ref ou), (4, .int (nI (8 * t)))] [.int 0]
    refine q_istore (lv' := [(5, .int 0), (0, .ref b), (1, .ref g), (2, .ref r), (3, .ref ou), (4, .int (nI (8 * t)))]) X dL_law_1005 (by decide) rfl ?_
    refine q_aload_n X dL_law_1007 3 rfl ?_
    refine q_aload_n X dL_law_1008 1 rfl ?_
    refine q_iload X dL_law_1009 5 rfl ?_
    refine q_iconst (v := 1) X dL_law_1011 (by decide) ?_
    refine q_iadd X dL_law_1012 ?_
    refine q_sld X hX (8 * t + 1) (nI_add _ 1) (by omega) dL_law_1013 ?_
    refine q_aload_n X dL_law_1014 1 rfl ?_
    refine q_iload X dL_law_1015 5 rfl ?_
    refine q_iconst (v := 2) X dL_law_1017 (by decide) ?_
    refine q_iadd X dL_law_1018 ?_
    refine q_sld X hX (8 * t + 2) (nI_add _ 2) (by omega) dL_law_1019 ?_
    refine q_aload_n X dL_law_1020 1 rfl ?_
    refine q_iload X dL_law_1021 5 rfl ?_
    refine q_iconst (v := 3) X dL_law_1023 (by decide) ?_
    refine q_iadd X dL_law_1024 ?_
    refine q_sld X hX (8 * t + 3) (nI_add _ 3) (by omega) dL_law_1025 ?_
    refine q_aload_n X dL_law_1026 1 rfl ?_
    refine q_iload X dL_law_1027 5 rfl ?_
    refine q_iconst (v := 4) X dL_law_1029 (by decide) ?_
    refine q_iadd X dL_law_1030 ?_
    refine q_sld X hX (8 * t + 4) (nI_add _ 4) (by omega) dL_law_1031 ?_
    rw [pU_cm hd2]
    obtain ⟨fr0, hr0⟩ : ∃ fs0, MR r = some (oB 13 fs0) := isRF.ob hR
    refine q_callVF X (Mc := MR) (r_extend hW hR) pU_l Y_X13_extend tw_1367 tw_1368 tw_1369 (pU_l _ _ hr0) rfl (by omega) rfl rfl (Nat.le_of_ble_eq_true rfl) (rc' := rc) (rs' := rs) (by omega) (by omega) dL_law_1032 (fun v M8 hp hm => ?_)
    obtain ⟨eM, hd3⟩ := mJ_pU (pU_dc hd2) hm
    rw [eM]
    clear eM hm
    obtain ⟨hv8, hR2⟩ := rfP_n ho hp
    obtain ⟨n9, hn9, hf9⟩ := hv
    rw [hn9] at hv8
    subst hv8
    obtain ⟨vA, nA, pA, plA, dg, dla, dha, dva, dza, dvf, dzf, vf, nf, pf, tk, su, le, gr, hB2⟩ := id hR2
    show qJ G F _ 8 (pU M8 (pU MV2 (mO G ou f2))) rc rs 1035 [(5, .int 0), (0, .ref b), (1, .ref g), (2, .ref r), (3, .ref ou), (4, .int (nI (8 * t)))] [.int n9]
    refine q_istore (lv' := [(6, .int n9), (5, .int 0), (0, .ref b), (1, .ref g), (2, .ref r), (3, .ref ou), (4, .int (nI (8 * t)))]) X dL_law_1035 (by decide) rfl ?_
    refine q_aload_n X dL_law_1037 4 rfl ?_
    refine q_callVp X (c_thrown (pU_l _ _ hB2.1)) Y_X13_thrown tw_1238 tw_1239 tw_1240 (pU_l _ _ hB2.1) rfl (by omega) rfl rfl (Nat.le_of_ble_eq_true rfl) dL_law_1038 ?_
    refine q_iload X dL_law_1041 1 rfl ?_
    refine q_icmp_eq X 1048 dL_law_1043 (by decide) (fun c_1 => ?_) (fun c_1 => absurd rfl c_1)
    refine q_iload X dL_law_1048 1 rfl ?_
    refine q_if_ne X 1065 dL_law_1050 (by decide) (fun c_2 => absurd rfl c_2) (fun c_2 => ?_)
    refine q_aload_n X dL_law_1053 5 rfl ?_
    refine q_iconst (v := 0) X dL_law_1054 (by decide) ?_
    refine q_laldN X 0 ((pU_r (pU_ds hd3 (pU_ou hou2))).trans (pU_ou hou2)) (rfl) (by decide) (by decide) dL_law_1055 ?_
    refine q_iload X dL_law_1056 0 rfl ?_
    refine q_i2l X dL_law_1058 ?_
    refine q_lcmp X dL_law_1059 ?_
    refine q_if_eq X 1065 dL_law_1060 (by decide) (fun c_3 => ?_) (fun c_3 => absurd ((lg_cmp_eq _ _).mpr hf9) c_3)
    refine q_goto X 2066 dL_law_1065 (by decide) ?_
    refine q_sub [2, 3, 4, 5, 6] rfl ?_
    exact kk _ ⟨MV2, M8, f2, _, pU_cm hd3, hou2, pU_dc hd3, hV2, hR2⟩
  · show qJ G F _ 8 (pU (pU MV2 (mO G ou f2)) MR) (rc + 5) (rs + 4108) 1005 [(0, .ref b), (1, .ref g), (2, .ref r), (3, .ref ou), (4, .int (nI (8 * t)))] [.int (cOp E)]
    refine q_istore (lv' := [(5, .int (cOp E)), (0, .ref b), (1, .ref g), (2, .ref r), (3, .ref ou), (4, .int (nI (8 * t)))]) X dL_law_1005 (by decide) rfl ?_
    refine q_aload_n X dL_law_1007 3 rfl ?_
    refine q_aload_n X dL_law_1008 1 rfl ?_
    refine q_iload X dL_law_1009 5 rfl ?_
    refine q_iconst (v := 1) X dL_law_1011 (by decide) ?_
    refine q_iadd X dL_law_1012 ?_
    refine q_sld X hX (8 * t + 1) (nI_add _ 1) (by omega) dL_law_1013 ?_
    refine q_aload_n X dL_law_1014 1 rfl ?_
    refine q_iload X dL_law_1015 5 rfl ?_
    refine q_iconst (v := 2) X dL_law_1017 (by decide) ?_
    refine q_iadd X dL_law_1018 ?_
    refine q_sld X hX (8 * t + 2) (nI_add _ 2) (by omega) dL_law_1019 ?_
    refine q_aload_n X dL_law_1020 1 rfl ?_
    refine q_iload X dL_law_1021 5 rfl ?_
    refine q_iconst (v := 3) X dL_law_1023 (by decide) ?_
    refine q_iadd X dL_law_1024 ?_
    refine q_sld X hX (8 * t + 3) (nI_add _ 3) (by omega) dL_law_1025 ?_
    refine q_aload_n X dL_law_1026 1 rfl ?_
    refine q_iload X dL_law_1027 5 rfl ?_
    refine q_iconst (v := 4) X dL_law_1029 (by decide) ?_
    refine q_iadd X dL_law_1030 ?_
    refine q_sld X hX (8 * t + 4) (nI_add _ 4) (by omega) dL_law_1031 ?_
    rw [pU_cm hd2]
    obtain ⟨fr0, hr0⟩ : ∃ fs0, MR r = some (oB 13 fs0) := isRF.ob hR
    refine q_callVF X (Mc := MR) (r_extend hW hR) pU_l Y_X13_extend tw_1367 tw_1368 tw_1369 (pU_l _ _ hr0) rfl (by omega) rfl rfl (Nat.le_of_ble_eq_true rfl) (rc' := rc) (rs' := rs) (by omega) (by omega) dL_law_1032 (fun v M8 hp hm => ?_)
    obtain ⟨eM, hd3⟩ := mJ_pU (pU_dc hd2) hm
    rw [eM]
    clear eM hm
    obtain ⟨hv8, hR2⟩ := rfP_s ho hp
    subst hv8
    obtain ⟨vA, nA, pA, plA, dg, dla, dha, dva, dza, dvf, dzf, vf, nf, pf, tk, su, le, gr, hB2⟩ := id hR2
    show qJ G F _ 8 (pU M8 (pU MV2 (mO G ou f2))) rc rs 1035 [(5, .int (cOp E)), (0, .ref b), (1, .ref g), (2, .ref r), (3, .ref ou), (4, .int (nI (8 * t)))] [.int 0]
    refine q_istore (lv' := [(6, .int 0), (5, .int (cOp E)), (0, .ref b), (1, .ref g), (2, .ref r), (3, .ref ou), (4, .int (nI (8 * t)))]) X dL_law_1035 (by decide) rfl ?_
    refine q_aload_n X dL_law_1037 4 rfl ?_
    refine q_callVp X (c_thrown (pU_l _ _ hB2.1)) Y_X13_thrown tw_1238 tw_1239 tw_1240 (pU_l _ _ hB2.1) rfl (by omega) rfl rfl (Nat.le_of_ble_eq_true rfl) dL_law_1038 ?_
    refine q_iload X dL_law_1041 1 rfl ?_
    refine q_icmp_eq X 1048 dL_law_1043 (by decide) (fun c_4 => ?_) (fun c_4 => absurd rfl c_4)
    refine q_iload X dL_law_1048 1 rfl ?_
    refine q_if_ne X 1065 dL_law_1050 (by decide) (fun c_5 => ?_) (fun c_5 => absurd c_5 (cOp_ne E))
    refine q_goto X 2066 dL_law_1065 (by decide) ?_
    refine q_sub [2, 3, 4, 5, 6] rfl ?_
    exact kk _ ⟨MV2, M8, f2, _, pU_cm hd3, hou2, pU_dc hd3, hV2, hR2⟩

set_option maxRecDepth 20000 in
theorem lc_apply {G : gV} {F : gF} {Q : State → Prop} {M : gMem} {b L t g r ou rc rs : Nat} {σ : sA} {xs : Nat → Int32} (X : qX G F cL_law 8 RL 202) (hl : (fl F).stackTraces = false) (hX : sX F b L xs) (h8 : 8 * t + 8 ≤ L) (hI : lI G g r ou σ M) (kk : ∀ M2 : gMem, lI G g r ou (sp_apply σ (xs (8 * t + 1)) (xs (8 * t + 2)) (((xs (8 * t + 3)).toInt64 <<< ((32 : Int32).toInt64 &&& 63)) ||| ((xs (8 * t + 4)).toInt64 &&& 4294967295))).2.2 M2 → qJ G F Q 8 M2 rc rs 2066 [(0, .ref b), (1, .ref g), (2, .ref r), (3, .ref ou), (4, .int (nI (8 * t)))] []) : qJ G F Q 8 M (rc + 16) (rs + 6508) 1068 [(0, .ref b), (1, .ref g), (2, .ref r), (3, .ref ou), (4, .int (nI (8 * t)))] [] := by
  obtain ⟨MV, MR, f0, e0, rfl, hou, hd, hV, hR⟩ := hI
  have hW := hV.w
  have h4k := hX.2.2.2
  refine q_aload_n X dL_law_1068 1 rfl ?_
  refine q_aload_n X dL_law_1069 0 rfl ?_
  refine q_iload X dL_law_1070 4 rfl ?_
  refine q_iconst (v := 1) X dL_law_1072 (by decide) ?_
  refine q_iadd X dL_law_1073 ?_
  refine q_sld X hX (8 * t + 1) (nI_add _ 1) (by omega) dL_law_1074 ?_
  refine q_aload_n X dL_law_1075 0 rfl ?_
  refine q_iload X dL_law_1076 4 rfl ?_
  refine q_iconst (v := 2) X dL_law_1078 (by decide) ?_
  refine q_iadd X dL_law_1079 ?_
  refine q_sld X hX (8 * t + 2) (nI_add _ 2) (by omega) dL_law_1080 ?_
  refine q_aload_n X dL_law_1081 0 rfl ?_
  refine q_iload X dL_law_1082 4 rfl ?_
  refine q_iconst (v := 3) X dL_law_1084 (by decide) ?_
  refine q_iadd X dL_law_1085 ?_
  refine q_sld X hX (8 * t + 3) (nI_add _ 3) (by omega) dL_law_1086 ?_
  refine q_i2l X dL_law_1087 ?_
  refine q_bipush (v := 32) X dL_law_1088 (by decide) ?_
  refine q_lshl X dL_law_1090 ?_
  refine q_aload_n X dL_law_1091 0 rfl ?_
  refine q_iload X dL_law_1092 4 rfl ?_
  refine q_iconst (v := 4) X dL_law_1094 (by decide) ?_
  refine q_iadd X dL_law_1095 ?_
  refine q_sld X hX (8 * t + 4) (nI_add _ 4) (by omega) dL_law_1096 ?_
  refine q_i2l X dL_law_1097 ?_
  refine q_ldc2 (v := 4294967295) X dL_law_1098 tw_1454 ?_
  refine q_land X dL_law_1101 ?_
  refine q_lor X dL_law_1102 ?_
  refine q_aload_n X dL_law_1103 3 rfl ?_
  refine q_callW X (Mc := pU MV (mO G ou f0)) (n := 5) (h_apply hl hV hou) pU_l tw_748 tw_0 ⟨by decide, by decide, by decide +kernel⟩ (by decide) tw_746 tw_747 (by omega) rfl rfl (Nat.le_of_ble_eq_true rfl) (rc' := rc + 5) (rs' := rs + 4108) (by omega) (by omega) dL_law_1104 (fun v M9 hp hm => ?_)
  obtain ⟨MV2, f2, rfl, hou2, hV2, hcase⟩ := hp
  obtain ⟨eM, hd2⟩ := mJ_pU hd hm
  rw [eM]
  clear eM hm
  rcases hcase with ⟨ho, rfl, hv⟩ | ⟨E, ho, rfl⟩
  · show qJ G F _ 8 (pU (pU MV2 (mO G ou f2)) MR) (rc + 5) (rs + 4108) 1107 [(0, .ref b), (1, .ref g), (2, .ref r), (3, .ref ou), (4, .int (nI (8 * t)))] [.int 0]
    refine q_istore (lv' := [(5, .int 0), (0, .ref b), (1, .ref g), (2, .ref r), (3, .ref ou), (4, .int (nI (8 * t)))]) X dL_law_1107 (by decide) rfl ?_
    refine q_aload_n X dL_law_1109 3 rfl ?_
    refine q_aload_n X dL_law_1110 1 rfl ?_
    refine q_iload X dL_law_1111 5 rfl ?_
    refine q_iconst (v := 1) X dL_law_1113 (by decide) ?_
    refine q_iadd X dL_law_1114 ?_
    refine q_sld X hX (8 * t + 1) (nI_add _ 1) (by omega) dL_law_1115 ?_
    refine q_aload_n X dL_law_1116 1 rfl ?_
    refine q_iload X dL_law_1117 5 rfl ?_
    refine q_iconst (v := 2) X dL_law_1119 (by decide) ?_
    refine q_iadd X dL_law_1120 ?_
    refine q_sld X hX (8 * t + 2) (nI_add _ 2) (by omega) dL_law_1121 ?_
    refine q_aload_n X dL_law_1122 1 rfl ?_
    refine q_iload X dL_law_1123 5 rfl ?_
    refine q_iconst (v := 3) X dL_law_1125 (by decide) ?_
    refine q_iadd X dL_law_1126 ?_
    refine q_sld X hX (8 * t + 3) (nI_add _ 3) (by omega) dL_law_1127 ?_
    refine q_i2l X dL_law_1128 ?_
    refine q_bipush (v := 32) X dL_law_1129 (by decide) ?_
    refine q_lshl X dL_law_1131 ?_
    refine q_aload_n X dL_law_1132 1 rfl ?_
    refine q_iload X dL_law_1133 5 rfl ?_
    refine q_iconst (v := 4) X dL_law_1135 (by decide) ?_
    refine q_iadd X dL_law_1136 ?_
    refine q_sld X hX (8 * t + 4) (nI_add _ 4) (by omega) dL_law_1137 ?_
    refine q_i2l X dL_law_1138 ?_
    refine q_ldc2 (v := 4294967295) X dL_law_1139 tw_1454 ?_
    refine q_land X dL_law_1142 ?_
    refine q_lor X dL_law_1143 ?_
    rw [pU_cm hd2]
    obtain ⟨fr0, hr0⟩ : ∃ fs0, MR r = some (oB 13 fs0) := isRF.ob hR
    refine q_callVF X (Mc := MR) (r_apply hW hR) pU_l Y_X13_apply tw_1382 tw_1383 tw_1384 (pU_l _ _ hr0) rfl (by omega) rfl rfl (Nat.le_of_ble_eq_true rfl) (rc' := rc) (rs' := rs) (by omega) (by omega) dL_law_1144 (fun v M8 hp hm => ?_)
    obtain ⟨eM, hd3⟩ := mJ_pU (pU_dc hd2) hm
    rw [eM]
    clear eM hm
    obtain ⟨hv8, hR2⟩ := rfP_n ho hp
    obtain ⟨n9, hn9, hf9⟩ := hv
    rw [hn9] at hv8
    subst hv8
    obtain ⟨vA, nA, pA, plA, dg, dla, dha, dva, dza, dvf, dzf, vf, nf, pf, tk, su, le, gr, hB2⟩ := id hR2
    show qJ G F _ 8 (pU M8 (pU MV2 (mO G ou f2))) rc rs 1147 [(5, .int 0), (0, .ref b), (1, .ref g), (2, .ref r), (3, .ref ou), (4, .int (nI (8 * t)))] [.int n9]
    refine q_istore (lv' := [(6, .int n9), (5, .int 0), (0, .ref b), (1, .ref g), (2, .ref r), (3, .ref ou), (4, .int (nI (8 * t)))]) X dL_law_1147 (by decide) rfl ?_
    refine q_aload_n X dL_law_1149 4 rfl ?_
    refine q_callVp X (c_thrown (pU_l _ _ hB2.1)) Y_X13_thrown tw_1238 tw_1239 tw_1240 (pU_l _ _ hB2.1) rfl (by omega) rfl rfl (Nat.le_of_ble_eq_true rfl) dL_law_1150 ?_
    refine q_iload X dL_law_1153 1 rfl ?_
    refine q_icmp_eq X 1160 dL_law_1155 (by decide) (fun c_1 => ?_) (fun c_1 => absurd rfl c_1)
    refine q_iload X dL_law_1160 1 rfl ?_
    refine q_if_ne X 1177 dL_law_1162 (by decide) (fun c_2 => absurd rfl c_2) (fun c_2 => ?_)
    refine q_aload_n X dL_law_1165 5 rfl ?_
    refine q_iconst (v := 0) X dL_law_1166 (by decide) ?_
    refine q_laldN X 0 ((pU_r (pU_ds hd3 (pU_ou hou2))).trans (pU_ou hou2)) (rfl) (by decide) (by decide) dL_law_1167 ?_
    refine q_iload X dL_law_1168 0 rfl ?_
    refine q_i2l X dL_law_1170 ?_
    refine q_lcmp X dL_law_1171 ?_
    refine q_if_eq X 1177 dL_law_1172 (by decide) (fun c_3 => ?_) (fun c_3 => absurd ((lg_cmp_eq _ _).mpr hf9) c_3)
    refine q_goto X 2066 dL_law_1177 (by decide) ?_
    refine q_sub [2, 3, 4, 5, 6] rfl ?_
    exact kk _ ⟨MV2, M8, f2, _, pU_cm hd3, hou2, pU_dc hd3, hV2, hR2⟩
  · show qJ G F _ 8 (pU (pU MV2 (mO G ou f2)) MR) (rc + 5) (rs + 4108) 1107 [(0, .ref b), (1, .ref g), (2, .ref r), (3, .ref ou), (4, .int (nI (8 * t)))] [.int (cOp E)]
    refine q_istore (lv' := [(5, .int (cOp E)), (0, .ref b), (1, .ref g), (2, .ref r), (3, .ref ou), (4, .int (nI (8 * t)))]) X dL_law_1107 (by decide) rfl ?_
    refine q_aload_n X dL_law_1109 3 rfl ?_
    refine q_aload_n X dL_law_1110 1 rfl ?_
    refine q_iload X dL_law_1111 5 rfl ?_
    refine q_iconst (v := 1) X dL_law_1113 (by decide) ?_
    refine q_iadd X dL_law_1114 ?_
    refine q_sld X hX (8 * t + 1) (nI_add _ 1) (by omega) dL_law_1115 ?_
    refine q_aload_n X dL_law_1116 1 rfl ?_
    refine q_iload X dL_law_1117 5 rfl ?_
    refine q_iconst (v := 2) X dL_law_1119 (by decide) ?_
    refine q_iadd X dL_law_1120 ?_
    refine q_sld X hX (8 * t + 2) (nI_add _ 2) (by omega) dL_law_1121 ?_
    refine q_aload_n X dL_law_1122 1 rfl ?_
    refine q_iload X dL_law_1123 5 rfl ?_
    refine q_iconst (v := 3) X dL_law_1125 (by decide) ?_
    refine q_iadd X dL_law_1126 ?_
    refine q_sld X hX (8 * t + 3) (nI_add _ 3) (by omega) dL_law_1127 ?_
    refine q_i2l X dL_law_1128 ?_
    refine q_bipush (v := 32) X dL_law_1129 (by decide) ?_
    refine q_lshl X dL_law_1131 ?_
    refine q_aload_n X dL_law_1132 1 rfl ?_
    refine q_iload X dL_law_1133 5 rfl ?_
    refine q_iconst (v := 4) X dL_law_1135 (by decide) ?_
    refine q_iadd X dL_law_1136 ?_
    refine q_sld X hX (8 * t + 4) (nI_add _ 4) (by omega) dL_law_1137 ?_
    refine q_i2l X dL_law_1138 ?_
    refine q_ldc2 (v := 4294967295) X dL_law_1139 tw_1454 ?_
    refine q_land X dL_law_1142 ?_
    refine q_lor X dL_law_1143 ?_
    rw [pU_cm hd2]
    obtain ⟨fr0, hr0⟩ : ∃ fs0, MR r = some (oB 13 fs0) := isRF.ob hR
    refine q_callVF X (Mc := MR) (r_apply hW hR) pU_l Y_X13_apply tw_1382 tw_1383 tw_1384 (pU_l _ _ hr0) rfl (by omega) rfl rfl (Nat.le_of_ble_eq_true rfl) (rc' := rc) (rs' := rs) (by omega) (by omega) dL_law_1144 (fun v M8 hp hm => ?_)
    obtain ⟨eM, hd3⟩ := mJ_pU (pU_dc hd2) hm
    rw [eM]
    clear eM hm
    obtain ⟨hv8, hR2⟩ := rfP_s ho hp
    subst hv8
    obtain ⟨vA, nA, pA, plA, dg, dla, dha, dva, dza, dvf, dzf, vf, nf, pf, tk, su, le, gr, hB2⟩ := id hR2
    show qJ G F _ 8 (pU M8 (pU MV2 (mO G ou f2))) rc rs 1147 [(5, .int (cOp E)), (0, .ref b), (1, .ref g), (2, .ref r), (3, .ref ou), (4, .int (nI (8 * t)))] [.int 0]
    refine q_istore (lv' := [(6, .int 0), (5, .int (cOp E)), (0, .ref b), (1, .ref g), (2, .ref r), (3, .ref ou), (4, .int (nI (8 * t)))]) X dL_law_1147 (by decide) rfl ?_
    refine q_aload_n X dL_law_1149 4 rfl ?_
    refine q_callVp X (c_thrown (pU_l _ _ hB2.1)) Y_X13_thrown tw_1238 tw_1239 tw_1240 (pU_l _ _ hB2.1) rfl (by omega) rfl rfl (Nat.le_of_ble_eq_true rfl) dL_law_1150 ?_
    refine q_iload X dL_law_1153 1 rfl ?_
    refine q_icmp_eq X 1160 dL_law_1155 (by decide) (fun c_4 => ?_) (fun c_4 => absurd rfl c_4)
    refine q_iload X dL_law_1160 1 rfl ?_
    refine q_if_ne X 1177 dL_law_1162 (by decide) (fun c_5 => ?_) (fun c_5 => absurd c_5 (cOp_ne E))
    refine q_goto X 2066 dL_law_1177 (by decide) ?_
    refine q_sub [2, 3, 4, 5, 6] rfl ?_
    exact kk _ ⟨MV2, M8, f2, _, pU_cm hd3, hou2, pU_dc hd3, hV2, hR2⟩

set_option maxRecDepth 20000 in
theorem lc_filter {G : gV} {F : gF} {Q : State → Prop} {M : gMem} {b L t g r ou rc rs : Nat} {σ : sA} {xs : Nat → Int32} (X : qX G F cL_law 8 RL 202) (hl : (fl F).stackTraces = false) (hX : sX F b L xs) (h8 : 8 * t + 8 ≤ L) (hI : lI G g r ou σ M) (kk : ∀ M2 : gMem, lI G g r ou (sp_filter σ (xs (8 * t + 1)) (xs (8 * t + 2)) (((xs (8 * t + 3)).toInt64 <<< ((32 : Int32).toInt64 &&& 63)) ||| ((xs (8 * t + 4)).toInt64 &&& 4294967295))).2.2 M2 → qJ G F Q 8 M2 rc rs 2066 [(0, .ref b), (1, .ref g), (2, .ref r), (3, .ref ou), (4, .int (nI (8 * t)))] []) : qJ G F Q 8 M (rc + 16) (rs + 6508) 1180 [(0, .ref b), (1, .ref g), (2, .ref r), (3, .ref ou), (4, .int (nI (8 * t)))] [] := by
  obtain ⟨MV, MR, f0, e0, rfl, hou, hd, hV, hR⟩ := hI
  have hW := hV.w
  have h4k := hX.2.2.2
  refine q_aload_n X dL_law_1180 1 rfl ?_
  refine q_aload_n X dL_law_1181 0 rfl ?_
  refine q_iload X dL_law_1182 4 rfl ?_
  refine q_iconst (v := 1) X dL_law_1184 (by decide) ?_
  refine q_iadd X dL_law_1185 ?_
  refine q_sld X hX (8 * t + 1) (nI_add _ 1) (by omega) dL_law_1186 ?_
  refine q_aload_n X dL_law_1187 0 rfl ?_
  refine q_iload X dL_law_1188 4 rfl ?_
  refine q_iconst (v := 2) X dL_law_1190 (by decide) ?_
  refine q_iadd X dL_law_1191 ?_
  refine q_sld X hX (8 * t + 2) (nI_add _ 2) (by omega) dL_law_1192 ?_
  refine q_aload_n X dL_law_1193 0 rfl ?_
  refine q_iload X dL_law_1194 4 rfl ?_
  refine q_iconst (v := 3) X dL_law_1196 (by decide) ?_
  refine q_iadd X dL_law_1197 ?_
  refine q_sld X hX (8 * t + 3) (nI_add _ 3) (by omega) dL_law_1198 ?_
  refine q_i2l X dL_law_1199 ?_
  refine q_bipush (v := 32) X dL_law_1200 (by decide) ?_
  refine q_lshl X dL_law_1202 ?_
  refine q_aload_n X dL_law_1203 0 rfl ?_
  refine q_iload X dL_law_1204 4 rfl ?_
  refine q_iconst (v := 4) X dL_law_1206 (by decide) ?_
  refine q_iadd X dL_law_1207 ?_
  refine q_sld X hX (8 * t + 4) (nI_add _ 4) (by omega) dL_law_1208 ?_
  refine q_i2l X dL_law_1209 ?_
  refine q_ldc2 (v := 4294967295) X dL_law_1210 tw_1454 ?_
  refine q_land X dL_law_1213 ?_
  refine q_lor X dL_law_1214 ?_
  refine q_aload_n X dL_law_1215 3 rfl ?_
  refine q_callW X (Mc := pU MV (mO G ou f0)) (n := 5) (h_filter hl hV hou) pU_l tw_777 tw_0 ⟨by decide, by decide, by decide +kernel⟩ (by decide) tw_775 tw_776 (by omega) rfl rfl (Nat.le_of_ble_eq_true rfl) (rc' := rc + 5) (rs' := rs + 4108) (by omega) (by omega) dL_law_1216 (fun v M9 hp hm => ?_)
  obtain ⟨MV2, f2, rfl, hou2, hV2, hcase⟩ := hp
  obtain ⟨eM, hd2⟩ := mJ_pU hd hm
  rw [eM]
  clear eM hm
  rcases hcase with ⟨ho, rfl, hv⟩ | ⟨E, ho, rfl⟩
  · show qJ G F _ 8 (pU (pU MV2 (mO G ou f2)) MR) (rc + 5) (rs + 4108) 1219 [(0, .ref b), (1, .ref g), (2, .ref r), (3, .ref ou), (4, .int (nI (8 * t)))] [.int 0]
    refine q_istore (lv' := [(5, .int 0), (0, .ref b), (1, .ref g), (2, .ref r), (3, .ref ou), (4, .int (nI (8 * t)))]) X dL_law_1219 (by decide) rfl ?_
    refine q_aload_n X dL_law_1221 3 rfl ?_
    refine q_aload_n X dL_law_1222 1 rfl ?_
    refine q_iload X dL_law_1223 5 rfl ?_
    refine q_iconst (v := 1) X dL_law_1225 (by decide) ?_
    refine q_iadd X dL_law_1226 ?_
    refine q_sld X hX (8 * t + 1) (nI_add _ 1) (by omega) dL_law_1227 ?_
    refine q_aload_n X dL_law_1228 1 rfl ?_
    refine q_iload X dL_law_1229 5 rfl ?_
    refine q_iconst (v := 2) X dL_law_1231 (by decide) ?_
    refine q_iadd X dL_law_1232 ?_
    refine q_sld X hX (8 * t + 2) (nI_add _ 2) (by omega) dL_law_1233 ?_
    refine q_aload_n X dL_law_1234 1 rfl ?_
    refine q_iload X dL_law_1235 5 rfl ?_
    refine q_iconst (v := 3) X dL_law_1237 (by decide) ?_
    refine q_iadd X dL_law_1238 ?_
    refine q_sld X hX (8 * t + 3) (nI_add _ 3) (by omega) dL_law_1239 ?_
    refine q_i2l X dL_law_1240 ?_
    refine q_bipush (v := 32) X dL_law_1241 (by decide) ?_
    refine q_lshl X dL_law_1243 ?_
    refine q_aload_n X dL_law_1244 1 rfl ?_
    refine q_iload X dL_law_1245 5 rfl ?_
    refine q_iconst (v := 4) X dL_law_1247 (by decide) ?_
    refine q_iadd X dL_law_1248 ?_
    refine q_sld X hX (8 * t + 4) (nI_add _ 4) (by omega) dL_law_1249 ?_
    refine q_i2l X dL_law_1250 ?_
    refine q_ldc2 (v := 4294967295) X dL_law_1251 tw_1454 ?_
    refine q_land X dL_law_1254 ?_
    refine q_lor X dL_law_1255 ?_
    rw [pU_cm hd2]
    obtain ⟨fr0, hr0⟩ : ∃ fs0, MR r = some (oB 13 fs0) := isRF.ob hR
    refine q_callVF X (Mc := MR) (r_filter hW hR) pU_l Y_X13_filter tw_1386 tw_1387 tw_1388 (pU_l _ _ hr0) rfl (by omega) rfl rfl (Nat.le_of_ble_eq_true rfl) (rc' := rc) (rs' := rs) (by omega) (by omega) dL_law_1256 (fun v M8 hp hm => ?_)
    obtain ⟨eM, hd3⟩ := mJ_pU (pU_dc hd2) hm
    rw [eM]
    clear eM hm
    obtain ⟨hv8, hR2⟩ := rfP_n ho hp
    obtain ⟨n9, hn9, hf9⟩ := hv
    rw [hn9] at hv8
    subst hv8
    obtain ⟨vA, nA, pA, plA, dg, dla, dha, dva, dza, dvf, dzf, vf, nf, pf, tk, su, le, gr, hB2⟩ := id hR2
    show qJ G F _ 8 (pU M8 (pU MV2 (mO G ou f2))) rc rs 1259 [(5, .int 0), (0, .ref b), (1, .ref g), (2, .ref r), (3, .ref ou), (4, .int (nI (8 * t)))] [.int n9]
    refine q_istore (lv' := [(6, .int n9), (5, .int 0), (0, .ref b), (1, .ref g), (2, .ref r), (3, .ref ou), (4, .int (nI (8 * t)))]) X dL_law_1259 (by decide) rfl ?_
    refine q_aload_n X dL_law_1261 4 rfl ?_
    refine q_callVp X (c_thrown (pU_l _ _ hB2.1)) Y_X13_thrown tw_1238 tw_1239 tw_1240 (pU_l _ _ hB2.1) rfl (by omega) rfl rfl (Nat.le_of_ble_eq_true rfl) dL_law_1262 ?_
    refine q_iload X dL_law_1265 1 rfl ?_
    refine q_icmp_eq X 1272 dL_law_1267 (by decide) (fun c_1 => ?_) (fun c_1 => absurd rfl c_1)
    refine q_iload X dL_law_1272 1 rfl ?_
    refine q_if_ne X 1289 dL_law_1274 (by decide) (fun c_2 => absurd rfl c_2) (fun c_2 => ?_)
    refine q_aload_n X dL_law_1277 5 rfl ?_
    refine q_iconst (v := 0) X dL_law_1278 (by decide) ?_
    refine q_laldN X 0 ((pU_r (pU_ds hd3 (pU_ou hou2))).trans (pU_ou hou2)) (rfl) (by decide) (by decide) dL_law_1279 ?_
    refine q_iload X dL_law_1280 0 rfl ?_
    refine q_i2l X dL_law_1282 ?_
    refine q_lcmp X dL_law_1283 ?_
    refine q_if_eq X 1289 dL_law_1284 (by decide) (fun c_3 => ?_) (fun c_3 => absurd ((lg_cmp_eq _ _).mpr hf9) c_3)
    refine q_goto X 2066 dL_law_1289 (by decide) ?_
    refine q_sub [2, 3, 4, 5, 6] rfl ?_
    exact kk _ ⟨MV2, M8, f2, _, pU_cm hd3, hou2, pU_dc hd3, hV2, hR2⟩
  · show qJ G F _ 8 (pU (pU MV2 (mO G ou f2)) MR) (rc + 5) (rs + 4108) 1219 [(0, .ref b), (1, .ref g), (2, .ref r), (3, .ref ou), (4, .int (nI (8 * t)))] [.int (cOp E)]
    refine q_istore (lv' := [(5, .int (cOp E)), (0, .ref b), (1, .ref g), (2, .ref r), (3, .ref ou), (4, .int (nI (8 * t)))]) X dL_law_1219 (by decide) rfl ?_
    refine q_aload_n X dL_law_1221 3 rfl ?_
    refine q_aload_n X dL_law_1222 1 rfl ?_
    refine q_iload X dL_law_1223 5 rfl ?_
    refine q_iconst (v := 1) X dL_law_1225 (by decide) ?_
    refine q_iadd X dL_law_1226 ?_
    refine q_sld X hX (8 * t + 1) (nI_add _ 1) (by omega) dL_law_1227 ?_
    refine q_aload_n X dL_law_1228 1 rfl ?_
    refine q_iload X dL_law_1229 5 rfl ?_
    refine q_iconst (v := 2) X dL_law_1231 (by decide) ?_
    refine q_iadd X dL_law_1232 ?_
    refine q_sld X hX (8 * t + 2) (nI_add _ 2) (by omega) dL_law_1233 ?_
    refine q_aload_n X dL_law_1234 1 rfl ?_
    refine q_iload X dL_law_1235 5 rfl ?_
    refine q_iconst (v := 3) X dL_law_1237 (by decide) ?_
    refine q_iadd X dL_law_1238 ?_
    refine q_sld X hX (8 * t + 3) (nI_add _ 3) (by omega) dL_law_1239 ?_
    refine q_i2l X dL_law_1240 ?_
    refine q_bipush (v := 32) X dL_law_1241 (by decide) ?_
    refine q_lshl X dL_law_1243 ?_
    refine q_aload_n X dL_law_1244 1 rfl ?_
    refine q_iload X dL_law_1245 5 rfl ?_
    refine q_iconst (v := 4) X dL_law_1247 (by decide) ?_
    refine q_iadd X dL_law_1248 ?_
    refine q_sld X hX (8 * t + 4) (nI_add _ 4) (by omega) dL_law_1249 ?_
    refine q_i2l X dL_law_1250 ?_
    refine q_ldc2 (v := 4294967295) X dL_law_1251 tw_1454 ?_
    refine q_land X dL_law_1254 ?_
    refine q_lor X dL_law_1255 ?_
    rw [pU_cm hd2]
    obtain ⟨fr0, hr0⟩ : ∃ fs0, MR r = some (oB 13 fs0) := isRF.ob hR
    refine q_callVF X (Mc := MR) (r_filter hW hR) pU_l Y_X13_filter tw_1386 tw_1387 tw_1388 (pU_l _ _ hr0) rfl (by omega) rfl rfl (Nat.le_of_ble_eq_true rfl) (rc' := rc) (rs' := rs) (by omega) (by omega) dL_law_1256 (fun v M8 hp hm => ?_)
    obtain ⟨eM, hd3⟩ := mJ_pU (pU_dc hd2) hm
    rw [eM]
    clear eM hm
    obtain ⟨hv8, hR2⟩ := rfP_s ho hp
    subst hv8
    obtain ⟨vA, nA, pA, plA, dg, dla, dha, dva, dza, dvf, dzf, vf, nf, pf, tk, su, le, gr, hB2⟩ := id hR2
    show qJ G F _ 8 (pU M8 (pU MV2 (mO G ou f2))) rc rs 1259 [(5, .int (cOp E)), (0, .ref b), (1, .ref g), (2, .ref r), (3, .ref ou), (4, .int (nI (8 * t)))] [.int 0]
    refine q_istore (lv' := [(6, .int 0), (5, .int (cOp E)), (0, .ref b), (1, .ref g), (2, .ref r), (3, .ref ou), (4, .int (nI (8 * t)))]) X dL_law_1259 (by decide) rfl ?_
    refine q_aload_n X dL_law_1261 4 rfl ?_
    refine q_callVp X (c_thrown (pU_l _ _ hB2.1)) Y_X13_thrown tw_1238 tw_1239 tw_1240 (pU_l _ _ hB2.1) rfl (by omega) rfl rfl (Nat.le_of_ble_eq_true rfl) dL_law_1262 ?_
    refine q_iload X dL_law_1265 1 rfl ?_
    refine q_icmp_eq X 1272 dL_law_1267 (by decide) (fun c_4 => ?_) (fun c_4 => absurd rfl c_4)
    refine q_iload X dL_law_1272 1 rfl ?_
    refine q_if_ne X 1289 dL_law_1274 (by decide) (fun c_5 => ?_) (fun c_5 => absurd c_5 (cOp_ne E))
    refine q_goto X 2066 dL_law_1289 (by decide) ?_
    refine q_sub [2, 3, 4, 5, 6] rfl ?_
    exact kk _ ⟨MV2, M8, f2, _, pU_cm hd3, hou2, pU_dc hd3, hV2, hR2⟩

set_option maxRecDepth 20000 in
theorem lc_join {G : gV} {F : gF} {Q : State → Prop} {M : gMem} {b L t g r ou rc rs : Nat} {σ : sA} {xs : Nat → Int32} (X : qX G F cL_law 8 RL 202) (hl : (fl F).stackTraces = false) (hX : sX F b L xs) (h8 : 8 * t + 8 ≤ L) (hI : lI G g r ou σ M) (kk : ∀ M2 : gMem, lI G g r ou (sp_join σ (xs (8 * t + 1)) (xs (8 * t + 2)) (xs (8 * t + 3))).2.2 M2 → qJ G F Q 8 M2 rc rs 2066 [(0, .ref b), (1, .ref g), (2, .ref r), (3, .ref ou), (4, .int (nI (8 * t)))] []) : qJ G F Q 8 M (rc + 24) (rs + 6548) 1292 [(0, .ref b), (1, .ref g), (2, .ref r), (3, .ref ou), (4, .int (nI (8 * t)))] [] := by
  obtain ⟨MV, MR, f0, e0, rfl, hou, hd, hV, hR⟩ := hI
  have hW := hV.w
  have h4k := hX.2.2.2
  refine q_aload_n X dL_law_1292 1 rfl ?_
  refine q_aload_n X dL_law_1293 0 rfl ?_
  refine q_iload X dL_law_1294 4 rfl ?_
  refine q_iconst (v := 1) X dL_law_1296 (by decide) ?_
  refine q_iadd X dL_law_1297 ?_
  refine q_sld X hX (8 * t + 1) (nI_add _ 1) (by omega) dL_law_1298 ?_
  refine q_aload_n X dL_law_1299 0 rfl ?_
  refine q_iload X dL_law_1300 4 rfl ?_
  refine q_iconst (v := 2) X dL_law_1302 (by decide) ?_
  refine q_iadd X dL_law_1303 ?_
  refine q_sld X hX (8 * t + 2) (nI_add _ 2) (by omega) dL_law_1304 ?_
  refine q_aload_n X dL_law_1305 0 rfl ?_
  refine q_iload X dL_law_1306 4 rfl ?_
  refine q_iconst (v := 3) X dL_law_1308 (by decide) ?_
  refine q_iadd X dL_law_1309 ?_
  refine q_sld X hX (8 * t + 3) (nI_add _ 3) (by omega) dL_law_1310 ?_
  refine q_aload_n X dL_law_1311 3 rfl ?_
  refine q_callW X (Mc := pU MV (mO G ou f0)) (n := 5) (h_join hl hV hou) pU_l tw_784 tw_0 ⟨by decide, by decide, by decide +kernel⟩ (by decide) tw_782 tw_783 (by omega) rfl rfl (Nat.le_of_ble_eq_true rfl) (rc' := rc + 5) (rs' := rs + 4108) (by omega) (by omega) dL_law_1312 (fun v M9 hp hm => ?_)
  obtain ⟨MV2, f2, rfl, hou2, hV2, hcase⟩ := hp
  obtain ⟨eM, hd2⟩ := mJ_pU hd hm
  rw [eM]
  clear eM hm
  rcases hcase with ⟨ho, rfl, hv⟩ | ⟨E, ho, rfl⟩
  · show qJ G F _ 8 (pU (pU MV2 (mO G ou f2)) MR) (rc + 5) (rs + 4108) 1315 [(0, .ref b), (1, .ref g), (2, .ref r), (3, .ref ou), (4, .int (nI (8 * t)))] [.int 0]
    refine q_istore (lv' := [(5, .int 0), (0, .ref b), (1, .ref g), (2, .ref r), (3, .ref ou), (4, .int (nI (8 * t)))]) X dL_law_1315 (by decide) rfl ?_
    refine q_aload_n X dL_law_1317 3 rfl ?_
    refine q_aload_n X dL_law_1318 1 rfl ?_
    refine q_iload X dL_law_1319 5 rfl ?_
    refine q_iconst (v := 1) X dL_law_1321 (by decide) ?_
    refine q_iadd X dL_law_1322 ?_
    refine q_sld X hX (8 * t + 1) (nI_add _ 1) (by omega) dL_law_1323 ?_
    refine q_aload_n X dL_law_1324 1 rfl ?_
    refine q_iload X dL_law_1325 5 rfl ?_
    refine q_iconst (v := 2) X dL_law_1327 (by decide) ?_
    refine q_iadd X dL_law_1328 ?_
    refine q_sld X hX (8 * t + 2) (nI_add _ 2) (by omega) dL_law_1329 ?_
    refine q_aload_n X dL_law_1330 1 rfl ?_
    refine q_iload X dL_law_1331 5 rfl ?_
    refine q_iconst (v := 3) X dL_law_1333 (by decide) ?_
    refine q_iadd X dL_law_1334 ?_
    refine q_sld X hX (8 * t + 3) (nI_add _ 3) (by omega) dL_law_1335 ?_
    rw [pU_cm hd2]
    obtain ⟨fr0, hr0⟩ : ∃ fs0, MR r = some (oB 13 fs0) := isRF.ob hR
    refine q_callVF X (Mc := MR) (r_join hW hR) pU_l Y_X13_join tw_1390 tw_1391 tw_1392 (pU_l _ _ hr0) rfl (by omega) rfl rfl (Nat.le_of_ble_eq_true rfl) (rc' := rc) (rs' := rs) (by omega) (by omega) dL_law_1336 (fun v M8 hp hm => ?_)
    obtain ⟨eM, hd3⟩ := mJ_pU (pU_dc hd2) hm
    rw [eM]
    clear eM hm
    obtain ⟨hv8, hR2⟩ := rfP_n ho hp
    obtain ⟨n9, hn9, hf9⟩ := hv
    rw [hn9] at hv8
    subst hv8
    obtain ⟨vA, nA, pA, plA, dg, dla, dha, dva, dza, dvf, dzf, vf, nf, pf, tk, su, le, gr, hB2⟩ := id hR2
    show qJ G F _ 8 (pU M8 (pU MV2 (mO G ou f2))) rc rs 1339 [(5, .int 0), (0, .ref b), (1, .ref g), (2, .ref r), (3, .ref ou), (4, .int (nI (8 * t)))] [.int n9]
    refine q_istore (lv' := [(6, .int n9), (5, .int 0), (0, .ref b), (1, .ref g), (2, .ref r), (3, .ref ou), (4, .int (nI (8 * t)))]) X dL_law_1339 (by decide) rfl ?_
    refine q_aload_n X dL_law_1341 4 rfl ?_
    refine q_callVp X (c_thrown (pU_l _ _ hB2.1)) Y_X13_thrown tw_1238 tw_1239 tw_1240 (pU_l _ _ hB2.1) rfl (by omega) rfl rfl (Nat.le_of_ble_eq_true rfl) dL_law_1342 ?_
    refine q_iload X dL_law_1345 1 rfl ?_
    refine q_icmp_eq X 1352 dL_law_1347 (by decide) (fun c_1 => ?_) (fun c_1 => absurd rfl c_1)
    refine q_iload X dL_law_1352 1 rfl ?_
    refine q_if_ne X 1369 dL_law_1354 (by decide) (fun c_2 => absurd rfl c_2) (fun c_2 => ?_)
    refine q_aload_n X dL_law_1357 5 rfl ?_
    refine q_iconst (v := 0) X dL_law_1358 (by decide) ?_
    refine q_laldN X 0 ((pU_r (pU_ds hd3 (pU_ou hou2))).trans (pU_ou hou2)) (rfl) (by decide) (by decide) dL_law_1359 ?_
    refine q_iload X dL_law_1360 0 rfl ?_
    refine q_i2l X dL_law_1362 ?_
    refine q_lcmp X dL_law_1363 ?_
    refine q_if_eq X 1369 dL_law_1364 (by decide) (fun c_3 => ?_) (fun c_3 => absurd ((lg_cmp_eq _ _).mpr hf9) c_3)
    refine q_goto X 2066 dL_law_1369 (by decide) ?_
    refine q_sub [2, 3, 4, 5, 6] rfl ?_
    exact kk _ ⟨MV2, M8, f2, _, pU_cm hd3, hou2, pU_dc hd3, hV2, hR2⟩
  · show qJ G F _ 8 (pU (pU MV2 (mO G ou f2)) MR) (rc + 5) (rs + 4108) 1315 [(0, .ref b), (1, .ref g), (2, .ref r), (3, .ref ou), (4, .int (nI (8 * t)))] [.int (cOp E)]
    refine q_istore (lv' := [(5, .int (cOp E)), (0, .ref b), (1, .ref g), (2, .ref r), (3, .ref ou), (4, .int (nI (8 * t)))]) X dL_law_1315 (by decide) rfl ?_
    refine q_aload_n X dL_law_1317 3 rfl ?_
    refine q_aload_n X dL_law_1318 1 rfl ?_
    refine q_iload X dL_law_1319 5 rfl ?_
    refine q_iconst (v := 1) X dL_law_1321 (by decide) ?_
    refine q_iadd X dL_law_1322 ?_
    refine q_sld X hX (8 * t + 1) (nI_add _ 1) (by omega) dL_law_1323 ?_
    refine q_aload_n X dL_law_1324 1 rfl ?_
    refine q_iload X dL_law_1325 5 rfl ?_
    refine q_iconst (v := 2) X dL_law_1327 (by decide) ?_
    refine q_iadd X dL_law_1328 ?_
    refine q_sld X hX (8 * t + 2) (nI_add _ 2) (by omega) dL_law_1329 ?_
    refine q_aload_n X dL_law_1330 1 rfl ?_
    refine q_iload X dL_law_1331 5 rfl ?_
    refine q_iconst (v := 3) X dL_law_1333 (by decide) ?_
    refine q_iadd X dL_law_1334 ?_
    refine q_sld X hX (8 * t + 3) (nI_add _ 3) (by omega) dL_law_1335 ?_
    rw [pU_cm hd2]
    obtain ⟨fr0, hr0⟩ : ∃ fs0, MR r = some (oB 13 fs0) := isRF.ob hR
    refine q_callVF X (Mc := MR) (r_join hW hR) pU_l Y_X13_join tw_1390 tw_1391 tw_1392 (pU_l _ _ hr0) rfl (by omega) rfl rfl (Nat.le_of_ble_eq_true rfl) (rc' := rc) (rs' := rs) (by omega) (by omega) dL_law_1336 (fun v M8 hp hm => ?_)
    obtain ⟨eM, hd3⟩ := mJ_pU (pU_dc hd2) hm
    rw [eM]
    clear eM hm
    obtain ⟨hv8, hR2⟩ := rfP_s ho hp
    subst hv8
    obtain ⟨vA, nA, pA, plA, dg, dla, dha, dva, dza, dvf, dzf, vf, nf, pf, tk, su, le, gr, hB2⟩ := id hR2
    show qJ G F _ 8 (pU M8 (pU MV2 (mO G ou f2))) rc rs 1339 [(5, .int (cOp E)), (0, .ref b), (1, .ref g), (2, .ref r), (3, .ref ou), (4, .int (nI (8 * t)))] [.int 0]
    refine q_istore (lv' := [(6, .int 0), (5, .int (cOp E)), (0, .ref b), (1, .ref g), (2, .ref r), (3, .ref ou), (4, .int (nI (8 * t)))]) X dL_law_1339 (by decide) rfl ?_
    refine q_aload_n X dL_law_1341 4 rfl ?_
    refine q_callVp X (c_thrown (pU_l _ _ hB2.1)) Y_X13_thrown tw_1238 tw_1239 tw_1240 (pU_l _ _ hB2.1) rfl (by omega) rfl rfl (Nat.le_of_ble_eq_true rfl) dL_law_1342 ?_
    refine q_iload X dL_law_1345 1 rfl ?_
    refine q_icmp_eq X 1352 dL_law_1347 (by decide) (fun c_4 => ?_) (fun c_4 => absurd rfl c_4)
    refine q_iload X dL_law_1352 1 rfl ?_
    refine q_if_ne X 1369 dL_law_1354 (by decide) (fun c_5 => ?_) (fun c_5 => absurd c_5 (cOp_ne E))
    refine q_goto X 2066 dL_law_1369 (by decide) ?_
    refine q_sub [2, 3, 4, 5, 6] rfl ?_
    exact kk _ ⟨MV2, M8, f2, _, pU_cm hd3, hou2, pU_dc hd3, hV2, hR2⟩

set_option maxRecDepth 20000 in
theorem lc_gather {G : gV} {F : gF} {Q : State → Prop} {M : gMem} {b L t g r ou rc rs : Nat} {σ : sA} {xs : Nat → Int32} (X : qX G F cL_law 8 RL 202) (hl : (fl F).stackTraces = false) (hX : sX F b L xs) (h8 : 8 * t + 8 ≤ L) (hI : lI G g r ou σ M) (kk : ∀ M2 : gMem, lI G g r ou (sp_gather σ (xs (8 * t + 1)) (xs (8 * t + 2)) (xs (8 * t + 3))).2.2 M2 → qJ G F Q 8 M2 rc rs 2066 [(0, .ref b), (1, .ref g), (2, .ref r), (3, .ref ou), (4, .int (nI (8 * t)))] []) : qJ G F Q 8 M (rc + 22) (rs + 6548) 1372 [(0, .ref b), (1, .ref g), (2, .ref r), (3, .ref ou), (4, .int (nI (8 * t)))] [] := by
  obtain ⟨MV, MR, f0, e0, rfl, hou, hd, hV, hR⟩ := hI
  have hW := hV.w
  have h4k := hX.2.2.2
  refine q_aload_n X dL_law_1372 1 rfl ?_
  refine q_aload_n X dL_law_1373 0 rfl ?_
  refine q_iload X dL_law_1374 4 rfl ?_
  refine q_iconst (v := 1) X dL_law_1376 (by decide) ?_
  refine q_iadd X dL_law_1377 ?_
  refine q_sld X hX (8 * t + 1) (nI_add _ 1) (by omega) dL_law_1378 ?_
  refine q_aload_n X dL_law_1379 0 rfl ?_
  refine q_iload X dL_law_1380 4 rfl ?_
  refine q_iconst (v := 2) X dL_law_1382 (by decide) ?_
  refine q_iadd X dL_law_1383 ?_
  refine q_sld X hX (8 * t + 2) (nI_add _ 2) (by omega) dL_law_1384 ?_
  refine q_aload_n X dL_law_1385 0 rfl ?_
  refine q_iload X dL_law_1386 4 rfl ?_
  refine q_iconst (v := 3) X dL_law_1388 (by decide) ?_
  refine q_iadd X dL_law_1389 ?_
  refine q_sld X hX (8 * t + 3) (nI_add _ 3) (by omega) dL_law_1390 ?_
  refine q_aload_n X dL_law_1391 3 rfl ?_
  refine q_callW X (Mc := pU MV (mO G ou f0)) (n := 5) (h_gather hl hV hou) pU_l tw_823 tw_0 ⟨by decide, by decide, by decide +kernel⟩ (by decide) tw_821 tw_822 (by omega) rfl rfl (Nat.le_of_ble_eq_true rfl) (rc' := rc + 5) (rs' := rs + 4108) (by omega) (by omega) dL_law_1392 (fun v M9 hp hm => ?_)
  obtain ⟨MV2, f2, rfl, hou2, hV2, hcase⟩ := hp
  obtain ⟨eM, hd2⟩ := mJ_pU hd hm
  rw [eM]
  clear eM hm
  rcases hcase with ⟨ho, rfl, hv⟩ | ⟨E, ho, rfl⟩
  · show qJ G F _ 8 (pU (pU MV2 (mO G ou f2)) MR) (rc + 5) (rs + 4108) 1395 [(0, .ref b), (1, .ref g), (2, .ref r), (3, .ref ou), (4, .int (nI (8 * t)))] [.int 0]
    refine q_istore (lv' := [(5, .int 0), (0, .ref b), (1, .ref g), (2, .ref r), (3, .ref ou), (4, .int (nI (8 * t)))]) X dL_law_1395 (by decide) rfl ?_
    refine q_aload_n X dL_law_1397 3 rfl ?_
    refine q_aload_n X dL_law_1398 1 rfl ?_
    refine q_iload X dL_law_1399 5 rfl ?_
    refine q_iconst (v := 1) X dL_law_1401 (by decide) ?_
    refine q_iadd X dL_law_1402 ?_
    refine q_sld X hX (8 * t + 1) (nI_add _ 1) (by omega) dL_law_1403 ?_
    refine q_aload_n X dL_law_1404 1 rfl ?_
    refine q_iload X dL_law_1405 5 rfl ?_
    refine q_iconst (v := 2) X dL_law_1407 (by decide) ?_
    refine q_iadd X dL_law_1408 ?_
    refine q_sld X hX (8 * t + 2) (nI_add _ 2) (by omega) dL_law_1409 ?_
    refine q_aload_n X dL_law_1410 1 rfl ?_
    refine q_iload X dL_law_1411 5 rfl ?_
    refine q_iconst (v := 3) X dL_law_1413 (by decide) ?_
    refine q_iadd X dL_law_1414 ?_
    refine q_sld X hX (8 * t + 3) (nI_add _ 3) (by omega) dL_law_1415 ?_
    rw [pU_cm hd2]
    obtain ⟨fr0, hr0⟩ : ∃ fs0, MR r = some (oB 13 fs0) := isRF.ob hR
    refine q_callVF X (Mc := MR) (r_gather hW hR) pU_l Y_X13_gather tw_1405 tw_1406 tw_1407 (pU_l _ _ hr0) rfl (by omega) rfl rfl (Nat.le_of_ble_eq_true rfl) (rc' := rc) (rs' := rs) (by omega) (by omega) dL_law_1416 (fun v M8 hp hm => ?_)
    obtain ⟨eM, hd3⟩ := mJ_pU (pU_dc hd2) hm
    rw [eM]
    clear eM hm
    obtain ⟨hv8, hR2⟩ := rfP_n ho hp
    obtain ⟨n9, hn9, hf9⟩ := hv
    rw [hn9] at hv8
    subst hv8
    obtain ⟨vA, nA, pA, plA, dg, dla, dha, dva, dza, dvf, dzf, vf, nf, pf, tk, su, le, gr, hB2⟩ := id hR2
    show qJ G F _ 8 (pU M8 (pU MV2 (mO G ou f2))) rc rs 1419 [(5, .int 0), (0, .ref b), (1, .ref g), (2, .ref r), (3, .ref ou), (4, .int (nI (8 * t)))] [.int n9]
    refine q_istore (lv' := [(6, .int n9), (5, .int 0), (0, .ref b), (1, .ref g), (2, .ref r), (3, .ref ou), (4, .int (nI (8 * t)))]) X dL_law_1419 (by decide) rfl ?_
    refine q_aload_n X dL_law_1421 4 rfl ?_
    refine q_callVp X (c_thrown (pU_l _ _ hB2.1)) Y_X13_thrown tw_1238 tw_1239 tw_1240 (pU_l _ _ hB2.1) rfl (by omega) rfl rfl (Nat.le_of_ble_eq_true rfl) dL_law_1422 ?_
    refine q_iload X dL_law_1425 1 rfl ?_
    refine q_icmp_eq X 1432 dL_law_1427 (by decide) (fun c_1 => ?_) (fun c_1 => absurd rfl c_1)
    refine q_iload X dL_law_1432 1 rfl ?_
    refine q_if_ne X 1449 dL_law_1434 (by decide) (fun c_2 => absurd rfl c_2) (fun c_2 => ?_)
    refine q_aload_n X dL_law_1437 5 rfl ?_
    refine q_iconst (v := 0) X dL_law_1438 (by decide) ?_
    refine q_laldN X 0 ((pU_r (pU_ds hd3 (pU_ou hou2))).trans (pU_ou hou2)) (rfl) (by decide) (by decide) dL_law_1439 ?_
    refine q_iload X dL_law_1440 0 rfl ?_
    refine q_i2l X dL_law_1442 ?_
    refine q_lcmp X dL_law_1443 ?_
    refine q_if_eq X 1449 dL_law_1444 (by decide) (fun c_3 => ?_) (fun c_3 => absurd ((lg_cmp_eq _ _).mpr hf9) c_3)
    refine q_goto X 2066 dL_law_1449 (by decide) ?_
    refine q_sub [2, 3, 4, 5, 6] rfl ?_
    exact kk _ ⟨MV2, M8, f2, _, pU_cm hd3, hou2, pU_dc hd3, hV2, hR2⟩
  · show qJ G F _ 8 (pU (pU MV2 (mO G ou f2)) MR) (rc + 5) (rs + 4108) 1395 [(0, .ref b), (1, .ref g), (2, .ref r), (3, .ref ou), (4, .int (nI (8 * t)))] [.int (cOp E)]
    refine q_istore (lv' := [(5, .int (cOp E)), (0, .ref b), (1, .ref g), (2, .ref r), (3, .ref ou), (4, .int (nI (8 * t)))]) X dL_law_1395 (by decide) rfl ?_
    refine q_aload_n X dL_law_1397 3 rfl ?_
    refine q_aload_n X dL_law_1398 1 rfl ?_
    refine q_iload X dL_law_1399 5 rfl ?_
    refine q_iconst (v := 1) X dL_law_1401 (by decide) ?_
    refine q_iadd X dL_law_1402 ?_
    refine q_sld X hX (8 * t + 1) (nI_add _ 1) (by omega) dL_law_1403 ?_
    refine q_aload_n X dL_law_1404 1 rfl ?_
    refine q_iload X dL_law_1405 5 rfl ?_
    refine q_iconst (v := 2) X dL_law_1407 (by decide) ?_
    refine q_iadd X dL_law_1408 ?_
    refine q_sld X hX (8 * t + 2) (nI_add _ 2) (by omega) dL_law_1409 ?_
    refine q_aload_n X dL_law_1410 1 rfl ?_
    refine q_iload X dL_law_1411 5 rfl ?_
    refine q_iconst (v := 3) X dL_law_1413 (by decide) ?_
    refine q_iadd X dL_law_1414 ?_
    refine q_sld X hX (8 * t + 3) (nI_add _ 3) (by omega) dL_law_1415 ?_
    rw [pU_cm hd2]
    obtain ⟨fr0, hr0⟩ : ∃ fs0, MR r = some (oB 13 fs0) := isRF.ob hR
    refine q_callVF X (Mc := MR) (r_gather hW hR) pU_l Y_X13_gather tw_1405 tw_1406 tw_1407 (pU_l _ _ hr0) rfl (by omega) rfl rfl (Nat.le_of_ble_eq_true rfl) (rc' := rc) (rs' := rs) (by omega) (by omega) dL_law_1416 (fun v M8 hp hm => ?_)
    obtain ⟨eM, hd3⟩ := mJ_pU (pU_dc hd2) hm
    rw [eM]
    clear eM hm
    obtain ⟨hv8, hR2⟩ := rfP_s ho hp
    subst hv8
    obtain ⟨vA, nA, pA, plA, dg, dla, dha, dva, dza, dvf, dzf, vf, nf, pf, tk, su, le, gr, hB2⟩ := id hR2
    show qJ G F _ 8 (pU M8 (pU MV2 (mO G ou f2))) rc rs 1419 [(5, .int (cOp E)), (0, .ref b), (1, .ref g), (2, .ref r), (3, .ref ou), (4, .int (nI (8 * t)))] [.int 0]
    refine q_istore (lv' := [(6, .int 0), (5, .int (cOp E)), (0, .ref b), (1, .ref g), (2, .ref r), (3, .ref ou), (4, .int (nI (8 * t)))]) X dL_law_1419 (by decide) rfl ?_
    refine q_aload_n X dL_law_1421 4 rfl ?_
    refine q_callVp X (c_thrown (pU_l _ _ hB2.1)) Y_X13_thrown tw_1238 tw_1239 tw_1240 (pU_l _ _ hB2.1) rfl (by omega) rfl rfl (Nat.le_of_ble_eq_true rfl) dL_law_1422 ?_
    refine q_iload X dL_law_1425 1 rfl ?_
    refine q_icmp_eq X 1432 dL_law_1427 (by decide) (fun c_4 => ?_) (fun c_4 => absurd rfl c_4)
    refine q_iload X dL_law_1432 1 rfl ?_
    refine q_if_ne X 1449 dL_law_1434 (by decide) (fun c_5 => ?_) (fun c_5 => absurd c_5 (cOp_ne E))
    refine q_goto X 2066 dL_law_1449 (by decide) ?_
    refine q_sub [2, 3, 4, 5, 6] rfl ?_
    exact kk _ ⟨MV2, M8, f2, _, pU_cm hd3, hou2, pU_dc hd3, hV2, hR2⟩

set_option maxRecDepth 20000 in
theorem lc_regrid {G : gV} {F : gF} {Q : State → Prop} {M : gMem} {b L t g r ou rc rs : Nat} {σ : sA} {xs : Nat → Int32} (X : qX G F cL_law 8 RL 202) (hl : (fl F).stackTraces = false) (hX : sX F b L xs) (h8 : 8 * t + 8 ≤ L) (hI : lI G g r ou σ M) (kk : ∀ M2 : gMem, lI G g r ou (sp_regrid σ (xs (8 * t + 1)) (xs (8 * t + 2)) (xs (8 * t + 3)) (xs (8 * t + 4))).2.2 M2 → qJ G F Q 8 M2 rc rs 2066 [(0, .ref b), (1, .ref g), (2, .ref r), (3, .ref ou), (4, .int (nI (8 * t)))] []) : qJ G F Q 8 M (rc + 22) (rs + 6548) 1452 [(0, .ref b), (1, .ref g), (2, .ref r), (3, .ref ou), (4, .int (nI (8 * t)))] [] := by
  obtain ⟨MV, MR, f0, e0, rfl, hou, hd, hV, hR⟩ := hI
  have hW := hV.w
  have h4k := hX.2.2.2
  refine q_aload_n X dL_law_1452 1 rfl ?_
  refine q_aload_n X dL_law_1453 0 rfl ?_
  refine q_iload X dL_law_1454 4 rfl ?_
  refine q_iconst (v := 1) X dL_law_1456 (by decide) ?_
  refine q_iadd X dL_law_1457 ?_
  refine q_sld X hX (8 * t + 1) (nI_add _ 1) (by omega) dL_law_1458 ?_
  refine q_aload_n X dL_law_1459 0 rfl ?_
  refine q_iload X dL_law_1460 4 rfl ?_
  refine q_iconst (v := 2) X dL_law_1462 (by decide) ?_
  refine q_iadd X dL_law_1463 ?_
  refine q_sld X hX (8 * t + 2) (nI_add _ 2) (by omega) dL_law_1464 ?_
  refine q_aload_n X dL_law_1465 0 rfl ?_
  refine q_iload X dL_law_1466 4 rfl ?_
  refine q_iconst (v := 3) X dL_law_1468 (by decide) ?_
  refine q_iadd X dL_law_1469 ?_
  refine q_sld X hX (8 * t + 3) (nI_add _ 3) (by omega) dL_law_1470 ?_
  refine q_aload_n X dL_law_1471 0 rfl ?_
  refine q_iload X dL_law_1472 4 rfl ?_
  refine q_iconst (v := 4) X dL_law_1474 (by decide) ?_
  refine q_iadd X dL_law_1475 ?_
  refine q_sld X hX (8 * t + 4) (nI_add _ 4) (by omega) dL_law_1476 ?_
  refine q_aload_n X dL_law_1477 3 rfl ?_
  refine q_callW X (Mc := pU MV (mO G ou f0)) (n := 6) (h_regrid hl hV hou) pU_l tw_880 tw_0 ⟨by decide, by decide, by decide +kernel⟩ (by decide) tw_878 tw_879 (by omega) rfl rfl (Nat.le_of_ble_eq_true rfl) (rc' := rc + 5) (rs' := rs + 4108) (by omega) (by omega) dL_law_1478 (fun v M9 hp hm => ?_)
  obtain ⟨MV2, f2, rfl, hou2, hV2, hcase⟩ := hp
  obtain ⟨eM, hd2⟩ := mJ_pU hd hm
  rw [eM]
  clear eM hm
  rcases hcase with ⟨ho, rfl, hv⟩ | ⟨E, ho, rfl⟩
  · show qJ G F _ 8 (pU (pU MV2 (mO G ou f2)) MR) (rc + 5) (rs + 4108) 1481 [(0, .ref b), (1, .ref g), (2, .ref r), (3, .ref ou), (4, .int (nI (8 * t)))] [.int 0]
    refine q_istore (lv' := [(5, .int 0), (0, .ref b), (1, .ref g), (2, .ref r), (3, .ref ou), (4, .int (nI (8 * t)))]) X dL_law_1481 (by decide) rfl ?_
    refine q_aload_n X dL_law_1483 3 rfl ?_
    refine q_aload_n X dL_law_1484 1 rfl ?_
    refine q_iload X dL_law_1485 5 rfl ?_
    refine q_iconst (v := 1) X dL_law_1487 (by decide) ?_
    refine q_iadd X dL_law_1488 ?_
    refine q_sld X hX (8 * t + 1) (nI_add _ 1) (by omega) dL_law_1489 ?_
    refine q_aload_n X dL_law_1490 1 rfl ?_
    refine q_iload X dL_law_1491 5 rfl ?_
    refine q_iconst (v := 2) X dL_law_1493 (by decide) ?_
    refine q_iadd X dL_law_1494 ?_
    refine q_sld X hX (8 * t + 2) (nI_add _ 2) (by omega) dL_law_1495 ?_
    refine q_aload_n X dL_law_1496 1 rfl ?_
    refine q_iload X dL_law_1497 5 rfl ?_
    refine q_iconst (v := 3) X dL_law_1499 (by decide) ?_
    refine q_iadd X dL_law_1500 ?_
    refine q_sld X hX (8 * t + 3) (nI_add _ 3) (by omega) dL_law_1501 ?_
    refine q_aload_n X dL_law_1502 1 rfl ?_
    refine q_iload X dL_law_1503 5 rfl ?_
    refine q_iconst (v := 4) X dL_law_1505 (by decide) ?_
    refine q_iadd X dL_law_1506 ?_
    refine q_sld X hX (8 * t + 4) (nI_add _ 4) (by omega) dL_law_1507 ?_
    rw [pU_cm hd2]
    obtain ⟨fr0, hr0⟩ : ∃ fs0, MR r = some (oB 13 fs0) := isRF.ob hR
    refine q_callVF X (Mc := MR) (r_regrid hW hR) pU_l Y_X13_regrid tw_1425 tw_1426 tw_1427 (pU_l _ _ hr0) rfl (by omega) rfl rfl (Nat.le_of_ble_eq_true rfl) (rc' := rc) (rs' := rs) (by omega) (by omega) dL_law_1508 (fun v M8 hp hm => ?_)
    obtain ⟨eM, hd3⟩ := mJ_pU (pU_dc hd2) hm
    rw [eM]
    clear eM hm
    obtain ⟨hv8, hR2⟩ := rfP_n ho hp
    obtain ⟨n9, hn9, hf9⟩ := hv
    rw [hn9] at hv8
    subst hv8
    obtain ⟨vA, nA, pA, plA, dg, dla, dha, dva, dza, dvf, dzf, vf, nf, pf, tk, su, le, gr, hB2⟩ := id hR2
    show qJ G F _ 8 (pU M8 (pU MV2 (mO G ou f2))) rc rs 1511 [(5, .int 0), (0, .ref b), (1, .ref g), (2, .ref r), (3, .ref ou), (4, .int (nI (8 * t)))] [.int n9]
    refine q_istore (lv' := [(6, .int n9), (5, .int 0), (0, .ref b), (1, .ref g), (2, .ref r), (3, .ref ou), (4, .int (nI (8 * t)))]) X dL_law_1511 (by decide) rfl ?_
    refine q_aload_n X dL_law_1513 4 rfl ?_
    refine q_callVp X (c_thrown (pU_l _ _ hB2.1)) Y_X13_thrown tw_1238 tw_1239 tw_1240 (pU_l _ _ hB2.1) rfl (by omega) rfl rfl (Nat.le_of_ble_eq_true rfl) dL_law_1514 ?_
    refine q_iload X dL_law_1517 1 rfl ?_
    refine q_icmp_eq X 1524 dL_law_1519 (by decide) (fun c_1 => ?_) (fun c_1 => absurd rfl c_1)
    refine q_iload X dL_law_1524 1 rfl ?_
    refine q_if_ne X 1541 dL_law_1526 (by decide) (fun c_2 => absurd rfl c_2) (fun c_2 => ?_)
    refine q_aload_n X dL_law_1529 5 rfl ?_
    refine q_iconst (v := 0) X dL_law_1530 (by decide) ?_
    refine q_laldN X 0 ((pU_r (pU_ds hd3 (pU_ou hou2))).trans (pU_ou hou2)) (rfl) (by decide) (by decide) dL_law_1531 ?_
    refine q_iload X dL_law_1532 0 rfl ?_
    refine q_i2l X dL_law_1534 ?_
    refine q_lcmp X dL_law_1535 ?_
    refine q_if_eq X 1541 dL_law_1536 (by decide) (fun c_3 => ?_) (fun c_3 => absurd ((lg_cmp_eq _ _).mpr hf9) c_3)
    refine q_goto X 2066 dL_law_1541 (by decide) ?_
    refine q_sub [2, 3, 4, 5, 6] rfl ?_
    exact kk _ ⟨MV2, M8, f2, _, pU_cm hd3, hou2, pU_dc hd3, hV2, hR2⟩
  · show qJ G F _ 8 (pU (pU MV2 (mO G ou f2)) MR) (rc + 5) (rs + 4108) 1481 [(0, .ref b), (1, .ref g), (2, .ref r), (3, .ref ou), (4, .int (nI (8 * t)))] [.int (cOp E)]
    refine q_istore (lv' := [(5, .int (cOp E)), (0, .ref b), (1, .ref g), (2, .ref r), (3, .ref ou), (4, .int (nI (8 * t)))]) X dL_law_1481 (by decide) rfl ?_
    refine q_aload_n X dL_law_1483 3 rfl ?_
    refine q_aload_n X dL_law_1484 1 rfl ?_
    refine q_iload X dL_law_1485 5 rfl ?_
    refine q_iconst (v := 1) X dL_law_1487 (by decide) ?_
    refine q_iadd X dL_law_1488 ?_
    refine q_sld X hX (8 * t + 1) (nI_add _ 1) (by omega) dL_law_1489 ?_
    refine q_aload_n X dL_law_1490 1 rfl ?_
    refine q_iload X dL_law_1491 5 rfl ?_
    refine q_iconst (v := 2) X dL_law_1493 (by decide) ?_
    refine q_iadd X dL_law_1494 ?_
    refine q_sld X hX (8 * t + 2) (nI_add _ 2) (by omega) dL_law_1495 ?_
    refine q_aload_n X dL_law_1496 1 rfl ?_
    refine q_iload X dL_law_1497 5 rfl ?_
    refine q_iconst (v := 3) X dL_law_1499 (by decide) ?_
    refine q_iadd X dL_law_1500 ?_
    refine q_sld X hX (8 * t + 3) (nI_add _ 3) (by omega) dL_law_1501 ?_
    refine q_aload_n X dL_law_1502 1 rfl ?_
    refine q_iload X dL_law_1503 5 rfl ?_
    refine q_iconst (v := 4) X dL_law_1505 (by decide) ?_
    refine q_iadd X dL_law_1506 ?_
    refine q_sld X hX (8 * t + 4) (nI_add _ 4) (by omega) dL_law_1507 ?_
    rw [pU_cm hd2]
    obtain ⟨fr0, hr0⟩ : ∃ fs0, MR r = some (oB 13 fs0) := isRF.ob hR
    refine q_callVF X (Mc := MR) (r_regrid hW hR) pU_l Y_X13_regrid tw_1425 tw_1426 tw_1427 (pU_l _ _ hr0) rfl (by omega) rfl rfl (Nat.le_of_ble_eq_true rfl) (rc' := rc) (rs' := rs) (by omega) (by omega) dL_law_1508 (fun v M8 hp hm => ?_)
    obtain ⟨eM, hd3⟩ := mJ_pU (pU_dc hd2) hm
    rw [eM]
    clear eM hm
    obtain ⟨hv8, hR2⟩ := rfP_s ho hp
    subst hv8
    obtain ⟨vA, nA, pA, plA, dg, dla, dha, dva, dza, dvf, dzf, vf, nf, pf, tk, su, le, gr, hB2⟩ := id hR2
    show qJ G F _ 8 (pU M8 (pU MV2 (mO G ou f2))) rc rs 1511 [(5, .int (cOp E)), (0, .ref b), (1, .ref g), (2, .ref r), (3, .ref ou), (4, .int (nI (8 * t)))] [.int 0]
    refine q_istore (lv' := [(6, .int 0), (5, .int (cOp E)), (0, .ref b), (1, .ref g), (2, .ref r), (3, .ref ou), (4, .int (nI (8 * t)))]) X dL_law_1511 (by decide) rfl ?_
    refine q_aload_n X dL_law_1513 4 rfl ?_
    refine q_callVp X (c_thrown (pU_l _ _ hB2.1)) Y_X13_thrown tw_1238 tw_1239 tw_1240 (pU_l _ _ hB2.1) rfl (by omega) rfl rfl (Nat.le_of_ble_eq_true rfl) dL_law_1514 ?_
    refine q_iload X dL_law_1517 1 rfl ?_
    refine q_icmp_eq X 1524 dL_law_1519 (by decide) (fun c_4 => ?_) (fun c_4 => absurd rfl c_4)
    refine q_iload X dL_law_1524 1 rfl ?_
    refine q_if_ne X 1541 dL_law_1526 (by decide) (fun c_5 => ?_) (fun c_5 => absurd c_5 (cOp_ne E))
    refine q_goto X 2066 dL_law_1541 (by decide) ?_
    refine q_sub [2, 3, 4, 5, 6] rfl ?_
    exact kk _ ⟨MV2, M8, f2, _, pU_cm hd3, hou2, pU_dc hd3, hV2, hR2⟩

set_option maxRecDepth 20000 in
theorem lc_window {G : gV} {F : gF} {Q : State → Prop} {M : gMem} {b L t g r ou rc rs : Nat} {σ : sA} {xs : Nat → Int32} (X : qX G F cL_law 8 RL 202) (hl : (fl F).stackTraces = false) (hX : sX F b L xs) (h8 : 8 * t + 8 ≤ L) (hI : lI G g r ou σ M) (kk : ∀ M2 : gMem, lI G g r ou (sp_window σ (xs (8 * t + 1)) (xs (8 * t + 2)) (xs (8 * t + 3)) (xs (8 * t + 4))).2.2 M2 → qJ G F Q 8 M2 rc rs 2066 [(0, .ref b), (1, .ref g), (2, .ref r), (3, .ref ou), (4, .int (nI (8 * t)))] []) : qJ G F Q 8 M (rc + 17) (rs + 6528) 1544 [(0, .ref b), (1, .ref g), (2, .ref r), (3, .ref ou), (4, .int (nI (8 * t)))] [] := by
  obtain ⟨MV, MR, f0, e0, rfl, hou, hd, hV, hR⟩ := hI
  have hW := hV.w
  have h4k := hX.2.2.2
  refine q_aload_n X dL_law_1544 1 rfl ?_
  refine q_aload_n X dL_law_1545 0 rfl ?_
  refine q_iload X dL_law_1546 4 rfl ?_
  refine q_iconst (v := 1) X dL_law_1548 (by decide) ?_
  refine q_iadd X dL_law_1549 ?_
  refine q_sld X hX (8 * t + 1) (nI_add _ 1) (by omega) dL_law_1550 ?_
  refine q_aload_n X dL_law_1551 0 rfl ?_
  refine q_iload X dL_law_1552 4 rfl ?_
  refine q_iconst (v := 2) X dL_law_1554 (by decide) ?_
  refine q_iadd X dL_law_1555 ?_
  refine q_sld X hX (8 * t + 2) (nI_add _ 2) (by omega) dL_law_1556 ?_
  refine q_aload_n X dL_law_1557 0 rfl ?_
  refine q_iload X dL_law_1558 4 rfl ?_
  refine q_iconst (v := 3) X dL_law_1560 (by decide) ?_
  refine q_iadd X dL_law_1561 ?_
  refine q_sld X hX (8 * t + 3) (nI_add _ 3) (by omega) dL_law_1562 ?_
  refine q_aload_n X dL_law_1563 0 rfl ?_
  refine q_iload X dL_law_1564 4 rfl ?_
  refine q_iconst (v := 4) X dL_law_1566 (by decide) ?_
  refine q_iadd X dL_law_1567 ?_
  refine q_sld X hX (8 * t + 4) (nI_add _ 4) (by omega) dL_law_1568 ?_
  refine q_aload_n X dL_law_1569 3 rfl ?_
  refine q_callW X (Mc := pU MV (mO G ou f0)) (n := 6) (h_window hl hV hou) pU_l tw_890 tw_0 ⟨by decide, by decide, by decide +kernel⟩ (by decide) tw_888 tw_889 (by omega) rfl rfl (Nat.le_of_ble_eq_true rfl) (rc' := rc + 5) (rs' := rs + 4108) (by omega) (by omega) dL_law_1570 (fun v M9 hp hm => ?_)
  obtain ⟨MV2, f2, rfl, hou2, hV2, hcase⟩ := hp
  obtain ⟨eM, hd2⟩ := mJ_pU hd hm
  rw [eM]
  clear eM hm
  rcases hcase with ⟨ho, rfl, hv⟩ | ⟨E, ho, rfl⟩
  · show qJ G F _ 8 (pU (pU MV2 (mO G ou f2)) MR) (rc + 5) (rs + 4108) 1573 [(0, .ref b), (1, .ref g), (2, .ref r), (3, .ref ou), (4, .int (nI (8 * t)))] [.int 0]
    refine q_istore (lv' := [(5, .int 0), (0, .ref b), (1, .ref g), (2, .ref r), (3, .ref ou), (4, .int (nI (8 * t)))]) X dL_law_1573 (by decide) rfl ?_
    refine q_aload_n X dL_law_1575 3 rfl ?_
    refine q_aload_n X dL_law_1576 1 rfl ?_
    refine q_iload X dL_law_1577 5 rfl ?_
    refine q_iconst (v := 1) X dL_law_1579 (by decide) ?_
    refine q_iadd X dL_law_1580 ?_
    refine q_sld X hX (8 * t + 1) (nI_add _ 1) (by omega) dL_law_1581 ?_
    refine q_aload_n X dL_law_1582 1 rfl ?_
    refine q_iload X dL_law_1583 5 rfl ?_
    refine q_iconst (v := 2) X dL_law_1585 (by decide) ?_
    refine q_iadd X dL_law_1586 ?_
    refine q_sld X hX (8 * t + 2) (nI_add _ 2) (by omega) dL_law_1587 ?_
    refine q_aload_n X dL_law_1588 1 rfl ?_
    refine q_iload X dL_law_1589 5 rfl ?_
    refine q_iconst (v := 3) X dL_law_1591 (by decide) ?_
    refine q_iadd X dL_law_1592 ?_
    refine q_sld X hX (8 * t + 3) (nI_add _ 3) (by omega) dL_law_1593 ?_
    refine q_aload_n X dL_law_1594 1 rfl ?_
    refine q_iload X dL_law_1595 5 rfl ?_
    refine q_iconst (v := 4) X dL_law_1597 (by decide) ?_
    refine q_iadd X dL_law_1598 ?_
    refine q_sld X hX (8 * t + 4) (nI_add _ 4) (by omega) dL_law_1599 ?_
    rw [pU_cm hd2]
    obtain ⟨fr0, hr0⟩ : ∃ fs0, MR r = some (oB 13 fs0) := isRF.ob hR
    refine q_callVF X (Mc := MR) (r_window hW hR) pU_l Y_X13_window tw_1434 tw_1435 tw_1436 (pU_l _ _ hr0) rfl (by omega) rfl rfl (Nat.le_of_ble_eq_true rfl) (rc' := rc) (rs' := rs) (by omega) (by omega) dL_law_1600 (fun v M8 hp hm => ?_)
    obtain ⟨eM, hd3⟩ := mJ_pU (pU_dc hd2) hm
    rw [eM]
    clear eM hm
    obtain ⟨hv8, hR2⟩ := rfP_n ho hp
    obtain ⟨n9, hn9, hf9⟩ := hv
    rw [hn9] at hv8
    subst hv8
    obtain ⟨vA, nA, pA, plA, dg, dla, dha, dva, dza, dvf, dzf, vf, nf, pf, tk, su, le, gr, hB2⟩ := id hR2
    show qJ G F _ 8 (pU M8 (pU MV2 (mO G ou f2))) rc rs 1603 [(5, .int 0), (0, .ref b), (1, .ref g), (2, .ref r), (3, .ref ou), (4, .int (nI (8 * t)))] [.int n9]
    refine q_istore (lv' := [(6, .int n9), (5, .int 0), (0, .ref b), (1, .ref g), (2, .ref r), (3, .ref ou), (4, .int (nI (8 * t)))]) X dL_law_1603 (by decide) rfl ?_
    refine q_aload_n X dL_law_1605 4 rfl ?_
    refine q_callVp X (c_thrown (pU_l _ _ hB2.1)) Y_X13_thrown tw_1238 tw_1239 tw_1240 (pU_l _ _ hB2.1) rfl (by omega) rfl rfl (Nat.le_of_ble_eq_true rfl) dL_law_1606 ?_
    refine q_iload X dL_law_1609 1 rfl ?_
    refine q_icmp_eq X 1616 dL_law_1611 (by decide) (fun c_1 => ?_) (fun c_1 => absurd rfl c_1)
    refine q_iload X dL_law_1616 1 rfl ?_
    refine q_if_ne X 1633 dL_law_1618 (by decide) (fun c_2 => absurd rfl c_2) (fun c_2 => ?_)
    refine q_aload_n X dL_law_1621 5 rfl ?_
    refine q_iconst (v := 0) X dL_law_1622 (by decide) ?_
    refine q_laldN X 0 ((pU_r (pU_ds hd3 (pU_ou hou2))).trans (pU_ou hou2)) (rfl) (by decide) (by decide) dL_law_1623 ?_
    refine q_iload X dL_law_1624 0 rfl ?_
    refine q_i2l X dL_law_1626 ?_
    refine q_lcmp X dL_law_1627 ?_
    refine q_if_eq X 1633 dL_law_1628 (by decide) (fun c_3 => ?_) (fun c_3 => absurd ((lg_cmp_eq _ _).mpr hf9) c_3)
    refine q_goto X 2066 dL_law_1633 (by decide) ?_
    refine q_sub [2, 3, 4, 5, 6] rfl ?_
    exact kk _ ⟨MV2, M8, f2, _, pU_cm hd3, hou2, pU_dc hd3, hV2, hR2⟩
  · show qJ G F _ 8 (pU (pU MV2 (mO G ou f2)) MR) (rc + 5) (rs + 4108) 1573 [(0, .ref b), (1, .ref g), (2, .ref r), (3, .ref ou), (4, .int (nI (8 * t)))] [.int (cOp E)]
    refine q_istore (lv' := [(5, .int (cOp E)), (0, .ref b), (1, .ref g), (2, .ref r), (3, .ref ou), (4, .int (nI (8 * t)))]) X dL_law_1573 (by decide) rfl ?_
    refine q_aload_n X dL_law_1575 3 rfl ?_
    refine q_aload_n X dL_law_1576 1 rfl ?_
    refine q_iload X dL_law_1577 5 rfl ?_
    refine q_iconst (v := 1) X dL_law_1579 (by decide) ?_
    refine q_iadd X dL_law_1580 ?_
    refine q_sld X hX (8 * t + 1) (nI_add _ 1) (by omega) dL_law_1581 ?_
    refine q_aload_n X dL_law_1582 1 rfl ?_
    refine q_iload X dL_law_1583 5 rfl ?_
    refine q_iconst (v := 2) X dL_law_1585 (by decide) ?_
    refine q_iadd X dL_law_1586 ?_
    refine q_sld X hX (8 * t + 2) (nI_add _ 2) (by omega) dL_law_1587 ?_
    refine q_aload_n X dL_law_1588 1 rfl ?_
    refine q_iload X dL_law_1589 5 rfl ?_
    refine q_iconst (v := 3) X dL_law_1591 (by decide) ?_
    refine q_iadd X dL_law_1592 ?_
    refine q_sld X hX (8 * t + 3) (nI_add _ 3) (by omega) dL_law_1593 ?_
    refine q_aload_n X dL_law_1594 1 rfl ?_
    refine q_iload X dL_law_1595 5 rfl ?_
    refine q_iconst (v := 4) X dL_law_1597 (by decide) ?_
    refine q_iadd X dL_law_1598 ?_
    refine q_sld X hX (8 * t + 4) (nI_add _ 4) (by omega) dL_law_1599 ?_
    rw [pU_cm hd2]
    obtain ⟨fr0, hr0⟩ : ∃ fs0, MR r = some (oB 13 fs0) := isRF.ob hR
    refine q_callVF X (Mc := MR) (r_window hW hR) pU_l Y_X13_window tw_1434 tw_1435 tw_1436 (pU_l _ _ hr0) rfl (by omega) rfl rfl (Nat.le_of_ble_eq_true rfl) (rc' := rc) (rs' := rs) (by omega) (by omega) dL_law_1600 (fun v M8 hp hm => ?_)
    obtain ⟨eM, hd3⟩ := mJ_pU (pU_dc hd2) hm
    rw [eM]
    clear eM hm
    obtain ⟨hv8, hR2⟩ := rfP_s ho hp
    subst hv8
    obtain ⟨vA, nA, pA, plA, dg, dla, dha, dva, dza, dvf, dzf, vf, nf, pf, tk, su, le, gr, hB2⟩ := id hR2
    show qJ G F _ 8 (pU M8 (pU MV2 (mO G ou f2))) rc rs 1603 [(5, .int (cOp E)), (0, .ref b), (1, .ref g), (2, .ref r), (3, .ref ou), (4, .int (nI (8 * t)))] [.int 0]
    refine q_istore (lv' := [(6, .int 0), (5, .int (cOp E)), (0, .ref b), (1, .ref g), (2, .ref r), (3, .ref ou), (4, .int (nI (8 * t)))]) X dL_law_1603 (by decide) rfl ?_
    refine q_aload_n X dL_law_1605 4 rfl ?_
    refine q_callVp X (c_thrown (pU_l _ _ hB2.1)) Y_X13_thrown tw_1238 tw_1239 tw_1240 (pU_l _ _ hB2.1) rfl (by omega) rfl rfl (Nat.le_of_ble_eq_true rfl) dL_law_1606 ?_
    refine q_iload X dL_law_1609 1 rfl ?_
    refine q_icmp_eq X 1616 dL_law_1611 (by decide) (fun c_4 => ?_) (fun c_4 => absurd rfl c_4)
    refine q_iload X dL_law_1616 1 rfl ?_
    refine q_if_ne X 1633 dL_law_1618 (by decide) (fun c_5 => ?_) (fun c_5 => absurd c_5 (cOp_ne E))
    refine q_goto X 2066 dL_law_1633 (by decide) ?_
    refine q_sub [2, 3, 4, 5, 6] rfl ?_
    exact kk _ ⟨MV2, M8, f2, _, pU_cm hd3, hou2, pU_dc hd3, hV2, hR2⟩

set_option maxRecDepth 20000 in
theorem lc_swap {G : gV} {F : gF} {Q : State → Prop} {M : gMem} {b L t g r ou rc rs : Nat} {σ : sA} {xs : Nat → Int32} (X : qX G F cL_law 8 RL 202) (hl : (fl F).stackTraces = false) (hX : sX F b L xs) (h8 : 8 * t + 8 ≤ L) (hI : lI G g r ou σ M) (kk : ∀ M2 : gMem, lI G g r ou (sp_swap σ (xs (8 * t + 1)) (xs (8 * t + 2)) (xs (8 * t + 3))).2.2 M2 → qJ G F Q 8 M2 rc rs 2066 [(0, .ref b), (1, .ref g), (2, .ref r), (3, .ref ou), (4, .int (nI (8 * t)))] []) : qJ G F Q 8 M (rc + 31) (rs + 6548) 1636 [(0, .ref b), (1, .ref g), (2, .ref r), (3, .ref ou), (4, .int (nI (8 * t)))] [] := by
  obtain ⟨MV, MR, f0, e0, rfl, hou, hd, hV, hR⟩ := hI
  have hW := hV.w
  have h4k := hX.2.2.2
  refine q_aload_n X dL_law_1636 1 rfl ?_
  refine q_aload_n X dL_law_1637 0 rfl ?_
  refine q_iload X dL_law_1638 4 rfl ?_
  refine q_iconst (v := 1) X dL_law_1640 (by decide) ?_
  refine q_iadd X dL_law_1641 ?_
  refine q_sld X hX (8 * t + 1) (nI_add _ 1) (by omega) dL_law_1642 ?_
  refine q_aload_n X dL_law_1643 0 rfl ?_
  refine q_iload X dL_law_1644 4 rfl ?_
  refine q_iconst (v := 2) X dL_law_1646 (by decide) ?_
  refine q_iadd X dL_law_1647 ?_
  refine q_sld X hX (8 * t + 2) (nI_add _ 2) (by omega) dL_law_1648 ?_
  refine q_aload_n X dL_law_1649 0 rfl ?_
  refine q_iload X dL_law_1650 4 rfl ?_
  refine q_iconst (v := 3) X dL_law_1652 (by decide) ?_
  refine q_iadd X dL_law_1653 ?_
  refine q_sld X hX (8 * t + 3) (nI_add _ 3) (by omega) dL_law_1654 ?_
  refine q_aload_n X dL_law_1655 3 rfl ?_
  refine q_callW X (Mc := pU MV (mO G ou f0)) (n := 5) (h_swap hl hV hou) pU_l tw_897 tw_0 ⟨by decide, by decide, by decide +kernel⟩ (by decide) tw_895 tw_896 (by omega) rfl rfl (Nat.le_of_ble_eq_true rfl) (rc' := rc + 5) (rs' := rs + 4108) (by omega) (by omega) dL_law_1656 (fun v M9 hp hm => ?_)
  obtain ⟨MV2, f2, rfl, hou2, hV2, hcase⟩ := hp
  obtain ⟨eM, hd2⟩ := mJ_pU hd hm
  rw [eM]
  clear eM hm
  rcases hcase with ⟨ho, rfl, hv⟩ | ⟨E, ho, rfl⟩
  · show qJ G F _ 8 (pU (pU MV2 (mO G ou f2)) MR) (rc + 5) (rs + 4108) 1659 [(0, .ref b), (1, .ref g), (2, .ref r), (3, .ref ou), (4, .int (nI (8 * t)))] [.int 0]
    refine q_istore (lv' := [(5, .int 0), (0, .ref b), (1, .ref g), (2, .ref r), (3, .ref ou), (4, .int (nI (8 * t)))]) X dL_law_1659 (by decide) rfl ?_
    refine q_aload_n X dL_law_1661 3 rfl ?_
    refine q_aload_n X dL_law_1662 1 rfl ?_
    refine q_iload X dL_law_1663 5 rfl ?_
    refine q_iconst (v := 1) X dL_law_1665 (by decide) ?_
    refine q_iadd X dL_law_1666 ?_
    refine q_sld X hX (8 * t + 1) (nI_add _ 1) (by omega) dL_law_1667 ?_
    refine q_aload_n X dL_law_1668 1 rfl ?_
    refine q_iload X dL_law_1669 5 rfl ?_
    refine q_iconst (v := 2) X dL_law_1671 (by decide) ?_
    refine q_iadd X dL_law_1672 ?_
    refine q_sld X hX (8 * t + 2) (nI_add _ 2) (by omega) dL_law_1673 ?_
    refine q_aload_n X dL_law_1674 1 rfl ?_
    refine q_iload X dL_law_1675 5 rfl ?_
    refine q_iconst (v := 3) X dL_law_1677 (by decide) ?_
    refine q_iadd X dL_law_1678 ?_
    refine q_sld X hX (8 * t + 3) (nI_add _ 3) (by omega) dL_law_1679 ?_
    rw [pU_cm hd2]
    obtain ⟨fr0, hr0⟩ : ∃ fs0, MR r = some (oB 13 fs0) := isRF.ob hR
    refine q_callVF X (Mc := MR) (r_swap hW hR) pU_l Y_X13_swap tw_1397 tw_1398 tw_1399 (pU_l _ _ hr0) rfl (by omega) rfl rfl (Nat.le_of_ble_eq_true rfl) (rc' := rc) (rs' := rs) (by omega) (by omega) dL_law_1680 (fun v M8 hp hm => ?_)
    obtain ⟨eM, hd3⟩ := mJ_pU (pU_dc hd2) hm
    rw [eM]
    clear eM hm
    obtain ⟨hv8, hR2⟩ := rfP_n ho hp
    obtain ⟨n9, hn9, hf9⟩ := hv
    rw [hn9] at hv8
    subst hv8
    obtain ⟨vA, nA, pA, plA, dg, dla, dha, dva, dza, dvf, dzf, vf, nf, pf, tk, su, le, gr, hB2⟩ := id hR2
    show qJ G F _ 8 (pU M8 (pU MV2 (mO G ou f2))) rc rs 1683 [(5, .int 0), (0, .ref b), (1, .ref g), (2, .ref r), (3, .ref ou), (4, .int (nI (8 * t)))] [.int n9]
    refine q_istore (lv' := [(6, .int n9), (5, .int 0), (0, .ref b), (1, .ref g), (2, .ref r), (3, .ref ou), (4, .int (nI (8 * t)))]) X dL_law_1683 (by decide) rfl ?_
    refine q_aload_n X dL_law_1685 4 rfl ?_
    refine q_callVp X (c_thrown (pU_l _ _ hB2.1)) Y_X13_thrown tw_1238 tw_1239 tw_1240 (pU_l _ _ hB2.1) rfl (by omega) rfl rfl (Nat.le_of_ble_eq_true rfl) dL_law_1686 ?_
    refine q_iload X dL_law_1689 1 rfl ?_
    refine q_icmp_eq X 1696 dL_law_1691 (by decide) (fun c_1 => ?_) (fun c_1 => absurd rfl c_1)
    refine q_iload X dL_law_1696 1 rfl ?_
    refine q_if_ne X 1713 dL_law_1698 (by decide) (fun c_2 => absurd rfl c_2) (fun c_2 => ?_)
    refine q_aload_n X dL_law_1701 5 rfl ?_
    refine q_iconst (v := 0) X dL_law_1702 (by decide) ?_
    refine q_laldN X 0 ((pU_r (pU_ds hd3 (pU_ou hou2))).trans (pU_ou hou2)) (rfl) (by decide) (by decide) dL_law_1703 ?_
    refine q_iload X dL_law_1704 0 rfl ?_
    refine q_i2l X dL_law_1706 ?_
    refine q_lcmp X dL_law_1707 ?_
    refine q_if_eq X 1713 dL_law_1708 (by decide) (fun c_3 => ?_) (fun c_3 => absurd ((lg_cmp_eq _ _).mpr hf9) c_3)
    refine q_goto X 2066 dL_law_1713 (by decide) ?_
    refine q_sub [2, 3, 4, 5, 6] rfl ?_
    exact kk _ ⟨MV2, M8, f2, _, pU_cm hd3, hou2, pU_dc hd3, hV2, hR2⟩
  · show qJ G F _ 8 (pU (pU MV2 (mO G ou f2)) MR) (rc + 5) (rs + 4108) 1659 [(0, .ref b), (1, .ref g), (2, .ref r), (3, .ref ou), (4, .int (nI (8 * t)))] [.int (cOp E)]
    refine q_istore (lv' := [(5, .int (cOp E)), (0, .ref b), (1, .ref g), (2, .ref r), (3, .ref ou), (4, .int (nI (8 * t)))]) X dL_law_1659 (by decide) rfl ?_
    refine q_aload_n X dL_law_1661 3 rfl ?_
    refine q_aload_n X dL_law_1662 1 rfl ?_
    refine q_iload X dL_law_1663 5 rfl ?_
    refine q_iconst (v := 1) X dL_law_1665 (by decide) ?_
    refine q_iadd X dL_law_1666 ?_
    refine q_sld X hX (8 * t + 1) (nI_add _ 1) (by omega) dL_law_1667 ?_
    refine q_aload_n X dL_law_1668 1 rfl ?_
    refine q_iload X dL_law_1669 5 rfl ?_
    refine q_iconst (v := 2) X dL_law_1671 (by decide) ?_
    refine q_iadd X dL_law_1672 ?_
    refine q_sld X hX (8 * t + 2) (nI_add _ 2) (by omega) dL_law_1673 ?_
    refine q_aload_n X dL_law_1674 1 rfl ?_
    refine q_iload X dL_law_1675 5 rfl ?_
    refine q_iconst (v := 3) X dL_law_1677 (by decide) ?_
    refine q_iadd X dL_law_1678 ?_
    refine q_sld X hX (8 * t + 3) (nI_add _ 3) (by omega) dL_law_1679 ?_
    rw [pU_cm hd2]
    obtain ⟨fr0, hr0⟩ : ∃ fs0, MR r = some (oB 13 fs0) := isRF.ob hR
    refine q_callVF X (Mc := MR) (r_swap hW hR) pU_l Y_X13_swap tw_1397 tw_1398 tw_1399 (pU_l _ _ hr0) rfl (by omega) rfl rfl (Nat.le_of_ble_eq_true rfl) (rc' := rc) (rs' := rs) (by omega) (by omega) dL_law_1680 (fun v M8 hp hm => ?_)
    obtain ⟨eM, hd3⟩ := mJ_pU (pU_dc hd2) hm
    rw [eM]
    clear eM hm
    obtain ⟨hv8, hR2⟩ := rfP_s ho hp
    subst hv8
    obtain ⟨vA, nA, pA, plA, dg, dla, dha, dva, dza, dvf, dzf, vf, nf, pf, tk, su, le, gr, hB2⟩ := id hR2
    show qJ G F _ 8 (pU M8 (pU MV2 (mO G ou f2))) rc rs 1683 [(5, .int (cOp E)), (0, .ref b), (1, .ref g), (2, .ref r), (3, .ref ou), (4, .int (nI (8 * t)))] [.int 0]
    refine q_istore (lv' := [(6, .int 0), (5, .int (cOp E)), (0, .ref b), (1, .ref g), (2, .ref r), (3, .ref ou), (4, .int (nI (8 * t)))]) X dL_law_1683 (by decide) rfl ?_
    refine q_aload_n X dL_law_1685 4 rfl ?_
    refine q_callVp X (c_thrown (pU_l _ _ hB2.1)) Y_X13_thrown tw_1238 tw_1239 tw_1240 (pU_l _ _ hB2.1) rfl (by omega) rfl rfl (Nat.le_of_ble_eq_true rfl) dL_law_1686 ?_
    refine q_iload X dL_law_1689 1 rfl ?_
    refine q_icmp_eq X 1696 dL_law_1691 (by decide) (fun c_4 => ?_) (fun c_4 => absurd rfl c_4)
    refine q_iload X dL_law_1696 1 rfl ?_
    refine q_if_ne X 1713 dL_law_1698 (by decide) (fun c_5 => ?_) (fun c_5 => absurd c_5 (cOp_ne E))
    refine q_goto X 2066 dL_law_1713 (by decide) ?_
    refine q_sub [2, 3, 4, 5, 6] rfl ?_
    exact kk _ ⟨MV2, M8, f2, _, pU_cm hd3, hou2, pU_dc hd3, hV2, hR2⟩

set_option maxRecDepth 20000 in
theorem lc_product {G : gV} {F : gF} {Q : State → Prop} {M : gMem} {b L t g r ou rc rs : Nat} {σ : sA} {xs : Nat → Int32} (X : qX G F cL_law 8 RL 202) (hl : (fl F).stackTraces = false) (hX : sX F b L xs) (h8 : 8 * t + 8 ≤ L) (hI : lI G g r ou σ M) (kk : ∀ M2 : gMem, lI G g r ou (sp_product σ (xs (8 * t + 1)) (xs (8 * t + 2))).2.2 M2 → qJ G F Q 8 M2 rc rs 2066 [(0, .ref b), (1, .ref g), (2, .ref r), (3, .ref ou), (4, .int (nI (8 * t)))] []) : qJ G F Q 8 M (rc + 24) (rs + 6548) 1716 [(0, .ref b), (1, .ref g), (2, .ref r), (3, .ref ou), (4, .int (nI (8 * t)))] [] := by
  obtain ⟨MV, MR, f0, e0, rfl, hou, hd, hV, hR⟩ := hI
  have hW := hV.w
  have h4k := hX.2.2.2
  refine q_aload_n X dL_law_1716 1 rfl ?_
  refine q_aload_n X dL_law_1717 0 rfl ?_
  refine q_iload X dL_law_1718 4 rfl ?_
  refine q_iconst (v := 1) X dL_law_1720 (by decide) ?_
  refine q_iadd X dL_law_1721 ?_
  refine q_sld X hX (8 * t + 1) (nI_add _ 1) (by omega) dL_law_1722 ?_
  refine q_aload_n X dL_law_1723 0 rfl ?_
  refine q_iload X dL_law_1724 4 rfl ?_
  refine q_iconst (v := 2) X dL_law_1726 (by decide) ?_
  refine q_iadd X dL_law_1727 ?_
  refine q_sld X hX (8 * t + 2) (nI_add _ 2) (by omega) dL_law_1728 ?_
  refine q_aload_n X dL_law_1729 3 rfl ?_
  refine q_callW X (Mc := pU MV (mO G ou f0)) (n := 4) (h_product hl hV hou) pU_l tw_912 tw_0 ⟨by decide, by decide, by decide +kernel⟩ (by decide) tw_910 tw_911 (by omega) rfl rfl (Nat.le_of_ble_eq_true rfl) (rc' := rc + 5) (rs' := rs + 4108) (by omega) (by omega) dL_law_1730 (fun v M9 hp hm => ?_)
  obtain ⟨MV2, f2, rfl, hou2, hV2, hcase⟩ := hp
  obtain ⟨eM, hd2⟩ := mJ_pU hd hm
  rw [eM]
  clear eM hm
  rcases hcase with ⟨ho, rfl, hv⟩ | ⟨E, ho, rfl⟩
  · show qJ G F _ 8 (pU (pU MV2 (mO G ou f2)) MR) (rc + 5) (rs + 4108) 1733 [(0, .ref b), (1, .ref g), (2, .ref r), (3, .ref ou), (4, .int (nI (8 * t)))] [.int 0]
    refine q_istore (lv' := [(5, .int 0), (0, .ref b), (1, .ref g), (2, .ref r), (3, .ref ou), (4, .int (nI (8 * t)))]) X dL_law_1733 (by decide) rfl ?_
    refine q_aload_n X dL_law_1735 3 rfl ?_
    refine q_aload_n X dL_law_1736 1 rfl ?_
    refine q_iload X dL_law_1737 5 rfl ?_
    refine q_iconst (v := 1) X dL_law_1739 (by decide) ?_
    refine q_iadd X dL_law_1740 ?_
    refine q_sld X hX (8 * t + 1) (nI_add _ 1) (by omega) dL_law_1741 ?_
    refine q_aload_n X dL_law_1742 1 rfl ?_
    refine q_iload X dL_law_1743 5 rfl ?_
    refine q_iconst (v := 2) X dL_law_1745 (by decide) ?_
    refine q_iadd X dL_law_1746 ?_
    refine q_sld X hX (8 * t + 2) (nI_add _ 2) (by omega) dL_law_1747 ?_
    rw [pU_cm hd2]
    obtain ⟨fr0, hr0⟩ : ∃ fs0, MR r = some (oB 13 fs0) := isRF.ob hR
    refine q_callVF X (Mc := MR) (r_product hW hR) pU_l Y_X13_product tw_1401 tw_1402 tw_1403 (pU_l _ _ hr0) rfl (by omega) rfl rfl (Nat.le_of_ble_eq_true rfl) (rc' := rc) (rs' := rs) (by omega) (by omega) dL_law_1748 (fun v M8 hp hm => ?_)
    obtain ⟨eM, hd3⟩ := mJ_pU (pU_dc hd2) hm
    rw [eM]
    clear eM hm
    obtain ⟨hv8, hR2⟩ := rfP_n ho hp
    obtain ⟨n9, hn9, hf9⟩ := hv
    rw [hn9] at hv8
    subst hv8
    obtain ⟨vA, nA, pA, plA, dg, dla, dha, dva, dza, dvf, dzf, vf, nf, pf, tk, su, le, gr, hB2⟩ := id hR2
    show qJ G F _ 8 (pU M8 (pU MV2 (mO G ou f2))) rc rs 1751 [(5, .int 0), (0, .ref b), (1, .ref g), (2, .ref r), (3, .ref ou), (4, .int (nI (8 * t)))] [.int n9]
    refine q_istore (lv' := [(6, .int n9), (5, .int 0), (0, .ref b), (1, .ref g), (2, .ref r), (3, .ref ou), (4, .int (nI (8 * t)))]) X dL_law_1751 (by decide) rfl ?_
    refine q_aload_n X dL_law_1753 4 rfl ?_
    refine q_callVp X (c_thrown (pU_l _ _ hB2.1)) Y_X13_thrown tw_1238 tw_1239 tw_1240 (pU_l _ _ hB2.1) rfl (by omega) rfl rfl (Nat.le_of_ble_eq_true rfl) dL_law_1754 ?_
    refine q_iload X dL_law_1757 1 rfl ?_
    refine q_icmp_eq X 1764 dL_law_1759 (by decide) (fun c_1 => ?_) (fun c_1 => absurd rfl c_1)
    refine q_iload X dL_law_1764 1 rfl ?_
    refine q_if_ne X 1781 dL_law_1766 (by decide) (fun c_2 => absurd rfl c_2) (fun c_2 => ?_)
    refine q_aload_n X dL_law_1769 5 rfl ?_
    refine q_iconst (v := 0) X dL_law_1770 (by decide) ?_
    refine q_laldN X 0 ((pU_r (pU_ds hd3 (pU_ou hou2))).trans (pU_ou hou2)) (rfl) (by decide) (by decide) dL_law_1771 ?_
    refine q_iload X dL_law_1772 0 rfl ?_
    refine q_i2l X dL_law_1774 ?_
    refine q_lcmp X dL_law_1775 ?_
    refine q_if_eq X 1781 dL_law_1776 (by decide) (fun c_3 => ?_) (fun c_3 => absurd ((lg_cmp_eq _ _).mpr hf9) c_3)
    refine q_goto X 2066 dL_law_1781 (by decide) ?_
    refine q_sub [2, 3, 4, 5, 6] rfl ?_
    exact kk _ ⟨MV2, M8, f2, _, pU_cm hd3, hou2, pU_dc hd3, hV2, hR2⟩
  · show qJ G F _ 8 (pU (pU MV2 (mO G ou f2)) MR) (rc + 5) (rs + 4108) 1733 [(0, .ref b), (1, .ref g), (2, .ref r), (3, .ref ou), (4, .int (nI (8 * t)))] [.int (cOp E)]
    refine q_istore (lv' := [(5, .int (cOp E)), (0, .ref b), (1, .ref g), (2, .ref r), (3, .ref ou), (4, .int (nI (8 * t)))]) X dL_law_1733 (by decide) rfl ?_
    refine q_aload_n X dL_law_1735 3 rfl ?_
    refine q_aload_n X dL_law_1736 1 rfl ?_
    refine q_iload X dL_law_1737 5 rfl ?_
    refine q_iconst (v := 1) X dL_law_1739 (by decide) ?_
    refine q_iadd X dL_law_1740 ?_
    refine q_sld X hX (8 * t + 1) (nI_add _ 1) (by omega) dL_law_1741 ?_
    refine q_aload_n X dL_law_1742 1 rfl ?_
    refine q_iload X dL_law_1743 5 rfl ?_
    refine q_iconst (v := 2) X dL_law_1745 (by decide) ?_
    refine q_iadd X dL_law_1746 ?_
    refine q_sld X hX (8 * t + 2) (nI_add _ 2) (by omega) dL_law_1747 ?_
    rw [pU_cm hd2]
    obtain ⟨fr0, hr0⟩ : ∃ fs0, MR r = some (oB 13 fs0) := isRF.ob hR
    refine q_callVF X (Mc := MR) (r_product hW hR) pU_l Y_X13_product tw_1401 tw_1402 tw_1403 (pU_l _ _ hr0) rfl (by omega) rfl rfl (Nat.le_of_ble_eq_true rfl) (rc' := rc) (rs' := rs) (by omega) (by omega) dL_law_1748 (fun v M8 hp hm => ?_)
    obtain ⟨eM, hd3⟩ := mJ_pU (pU_dc hd2) hm
    rw [eM]
    clear eM hm
    obtain ⟨hv8, hR2⟩ := rfP_s ho hp
    subst hv8
    obtain ⟨vA, nA, pA, plA, dg, dla, dha, dva, dza, dvf, dzf, vf, nf, pf, tk, su, le, gr, hB2⟩ := id hR2
    show qJ G F _ 8 (pU M8 (pU MV2 (mO G ou f2))) rc rs 1751 [(5, .int (cOp E)), (0, .ref b), (1, .ref g), (2, .ref r), (3, .ref ou), (4, .int (nI (8 * t)))] [.int 0]
    refine q_istore (lv' := [(6, .int 0), (5, .int (cOp E)), (0, .ref b), (1, .ref g), (2, .ref r), (3, .ref ou), (4, .int (nI (8 * t)))]) X dL_law_1751 (by decide) rfl ?_
    refine q_aload_n X dL_law_1753 4 rfl ?_
    refine q_callVp X (c_thrown (pU_l _ _ hB2.1)) Y_X13_thrown tw_1238 tw_1239 tw_1240 (pU_l _ _ hB2.1) rfl (by omega) rfl rfl (Nat.le_of_ble_eq_true rfl) dL_law_1754 ?_
    refine q_iload X dL_law_1757 1 rfl ?_
    refine q_icmp_eq X 1764 dL_law_1759 (by decide) (fun c_4 => ?_) (fun c_4 => absurd rfl c_4)
    refine q_iload X dL_law_1764 1 rfl ?_
    refine q_if_ne X 1781 dL_law_1766 (by decide) (fun c_5 => ?_) (fun c_5 => absurd c_5 (cOp_ne E))
    refine q_goto X 2066 dL_law_1781 (by decide) ?_
    refine q_sub [2, 3, 4, 5, 6] rfl ?_
    exact kk _ ⟨MV2, M8, f2, _, pU_cm hd3, hou2, pU_dc hd3, hV2, hR2⟩

set_option maxRecDepth 20000 in
theorem lc_shape {G : gV} {F : gF} {Q : State → Prop} {M : gMem} {b L t g r ou rc rs : Nat} {σ : sA} {xs : Nat → Int32} (X : qX G F cL_law 8 RL 202) (hl : (fl F).stackTraces = false) (hX : sX F b L xs) (h8 : 8 * t + 8 ≤ L) (hI : lI G g r ou σ M) (kk : ∀ M2 : gMem, lI G g r ou (sp_shape σ (xs (8 * t + 1)) (xs (8 * t + 2))).2.2 M2 → qJ G F Q 8 M2 rc rs 2066 [(0, .ref b), (1, .ref g), (2, .ref r), (3, .ref ou), (4, .int (nI (8 * t)))] []) : qJ G F Q 8 M (rc + 2) (rs + 12) 1784 [(0, .ref b), (1, .ref g), (2, .ref r), (3, .ref ou), (4, .int (nI (8 * t)))] [] := by
  obtain ⟨MV, MR, f0, e0, rfl, hou, hd, hV, hR⟩ := hI
  have hW := hV.w
  have h4k := hX.2.2.2
  refine q_aload_n X dL_law_1784 1 rfl ?_
  refine q_aload_n X dL_law_1785 0 rfl ?_
  refine q_iload X dL_law_1786 4 rfl ?_
  refine q_iconst (v := 1) X dL_law_1788 (by decide) ?_
  refine q_iadd X dL_law_1789 ?_
  refine q_sld X hX (8 * t + 1) (nI_add _ 1) (by omega) dL_law_1790 ?_
  refine q_aload_n X dL_law_1791 0 rfl ?_
  refine q_iload X dL_law_1792 4 rfl ?_
  refine q_iconst (v := 2) X dL_law_1794 (by decide) ?_
  refine q_iadd X dL_law_1795 ?_
  refine q_sld X hX (8 * t + 2) (nI_add _ 2) (by omega) dL_law_1796 ?_
  refine q_aload_n X dL_law_1797 3 rfl ?_
  refine q_callW X (Mc := pU MV (mO G ou f0)) (n := 4) (h_shape hl hV hou) pU_l tw_938 tw_0 ⟨by decide, by decide, by decide +kernel⟩ (by decide) tw_936 tw_937 (by omega) rfl rfl (Nat.le_of_ble_eq_true rfl) (rc' := rc + 0) (rs' := rs + 0) (by omega) (by omega) dL_law_1798 (fun v M9 hp hm => ?_)
  obtain ⟨MV2, f2, rfl, hou2, hV2, hcase⟩ := hp
  obtain ⟨eM, hd2⟩ := mJ_pU hd hm
  rw [eM]
  clear eM hm
  rcases hcase with ⟨ho, rfl, hv⟩ | ⟨E, ho, rfl⟩
  · show qJ G F _ 8 (pU (pU MV2 (mO G ou f2)) MR) (rc + 0) (rs + 0) 1801 [(0, .ref b), (1, .ref g), (2, .ref r), (3, .ref ou), (4, .int (nI (8 * t)))] [.int 0]
    refine q_istore (lv' := [(5, .int 0), (0, .ref b), (1, .ref g), (2, .ref r), (3, .ref ou), (4, .int (nI (8 * t)))]) X dL_law_1801 (by decide) rfl ?_
    refine q_aload_n X dL_law_1803 3 rfl ?_
    refine q_aload_n X dL_law_1804 1 rfl ?_
    refine q_iload X dL_law_1805 5 rfl ?_
    refine q_iconst (v := 1) X dL_law_1807 (by decide) ?_
    refine q_iadd X dL_law_1808 ?_
    refine q_sld X hX (8 * t + 1) (nI_add _ 1) (by omega) dL_law_1809 ?_
    refine q_aload_n X dL_law_1810 1 rfl ?_
    refine q_iload X dL_law_1811 5 rfl ?_
    refine q_iconst (v := 2) X dL_law_1813 (by decide) ?_
    refine q_iadd X dL_law_1814 ?_
    refine q_sld X hX (8 * t + 2) (nI_add _ 2) (by omega) dL_law_1815 ?_
    rw [pU_cm hd2]
    obtain ⟨fr0, hr0⟩ : ∃ fs0, MR r = some (oB 13 fs0) := isRF.ob hR
    refine q_callVF X (Mc := MR) (r_shape hW hR) pU_l Y_X13_shape tw_1438 tw_1439 tw_1440 (pU_l _ _ hr0) rfl (by omega) rfl rfl (Nat.le_of_ble_eq_true rfl) (rc' := rc) (rs' := rs) (by omega) (by omega) dL_law_1816 (fun v M8 hp hm => ?_)
    obtain ⟨eM, hd3⟩ := mJ_pU (pU_dc hd2) hm
    rw [eM]
    clear eM hm
    obtain ⟨hv8, hR2⟩ := rfP_n ho hp
    obtain ⟨n9, hn9, hf9⟩ := hv
    rw [hn9] at hv8
    subst hv8
    obtain ⟨vA, nA, pA, plA, dg, dla, dha, dva, dza, dvf, dzf, vf, nf, pf, tk, su, le, gr, hB2⟩ := id hR2
    show qJ G F _ 8 (pU M8 (pU MV2 (mO G ou f2))) rc rs 1819 [(5, .int 0), (0, .ref b), (1, .ref g), (2, .ref r), (3, .ref ou), (4, .int (nI (8 * t)))] [.int n9]
    refine q_istore (lv' := [(6, .int n9), (5, .int 0), (0, .ref b), (1, .ref g), (2, .ref r), (3, .ref ou), (4, .int (nI (8 * t)))]) X dL_law_1819 (by decide) rfl ?_
    refine q_aload_n X dL_law_1821 4 rfl ?_
    refine q_callVp X (c_thrown (pU_l _ _ hB2.1)) Y_X13_thrown tw_1238 tw_1239 tw_1240 (pU_l _ _ hB2.1) rfl (by omega) rfl rfl (Nat.le_of_ble_eq_true rfl) dL_law_1822 ?_
    refine q_iload X dL_law_1825 1 rfl ?_
    refine q_icmp_eq X 1832 dL_law_1827 (by decide) (fun c_1 => ?_) (fun c_1 => absurd rfl c_1)
    refine q_iload X dL_law_1832 1 rfl ?_
    refine q_if_ne X 1849 dL_law_1834 (by decide) (fun c_2 => absurd rfl c_2) (fun c_2 => ?_)
    refine q_aload_n X dL_law_1837 5 rfl ?_
    refine q_iconst (v := 0) X dL_law_1838 (by decide) ?_
    refine q_laldN X 0 ((pU_r (pU_ds hd3 (pU_ou hou2))).trans (pU_ou hou2)) (rfl) (by decide) (by decide) dL_law_1839 ?_
    refine q_iload X dL_law_1840 0 rfl ?_
    refine q_i2l X dL_law_1842 ?_
    refine q_lcmp X dL_law_1843 ?_
    refine q_if_eq X 1849 dL_law_1844 (by decide) (fun c_3 => ?_) (fun c_3 => absurd ((lg_cmp_eq _ _).mpr hf9) c_3)
    refine q_goto X 2066 dL_law_1849 (by decide) ?_
    refine q_sub [2, 3, 4, 5, 6] rfl ?_
    exact kk _ ⟨MV2, M8, f2, _, pU_cm hd3, hou2, pU_dc hd3, hV2, hR2⟩
  · show qJ G F _ 8 (pU (pU MV2 (mO G ou f2)) MR) (rc + 0) (rs + 0) 1801 [(0, .ref b), (1, .ref g), (2, .ref r), (3, .ref ou), (4, .int (nI (8 * t)))] [.int (cOne E)]
    refine q_istore (lv' := [(5, .int (cOne E)), (0, .ref b), (1, .ref g), (2, .ref r), (3, .ref ou), (4, .int (nI (8 * t)))]) X dL_law_1801 (by decide) rfl ?_
    refine q_aload_n X dL_law_1803 3 rfl ?_
    refine q_aload_n X dL_law_1804 1 rfl ?_
    refine q_iload X dL_law_1805 5 rfl ?_
    refine q_iconst (v := 1) X dL_law_1807 (by decide) ?_
    refine q_iadd X dL_law_1808 ?_
    refine q_sld X hX (8 * t + 1) (nI_add _ 1) (by omega) dL_law_1809 ?_
    refine q_aload_n X dL_law_1810 1 rfl ?_
    refine q_iload X dL_law_1811 5 rfl ?_
    refine q_iconst (v := 2) X dL_law_1813 (by decide) ?_
    refine q_iadd X dL_law_1814 ?_
    refine q_sld X hX (8 * t + 2) (nI_add _ 2) (by omega) dL_law_1815 ?_
    rw [pU_cm hd2]
    obtain ⟨fr0, hr0⟩ : ∃ fs0, MR r = some (oB 13 fs0) := isRF.ob hR
    refine q_callVF X (Mc := MR) (r_shape hW hR) pU_l Y_X13_shape tw_1438 tw_1439 tw_1440 (pU_l _ _ hr0) rfl (by omega) rfl rfl (Nat.le_of_ble_eq_true rfl) (rc' := rc) (rs' := rs) (by omega) (by omega) dL_law_1816 (fun v M8 hp hm => ?_)
    obtain ⟨eM, hd3⟩ := mJ_pU (pU_dc hd2) hm
    rw [eM]
    clear eM hm
    obtain ⟨hv8, hR2⟩ := rfP_s ho hp
    subst hv8
    obtain ⟨vA, nA, pA, plA, dg, dla, dha, dva, dza, dvf, dzf, vf, nf, pf, tk, su, le, gr, hB2⟩ := id hR2
    show qJ G F _ 8 (pU M8 (pU MV2 (mO G ou f2))) rc rs 1819 [(5, .int (cOne E)), (0, .ref b), (1, .ref g), (2, .ref r), (3, .ref ou), (4, .int (nI (8 * t)))] [.int 0]
    refine q_istore (lv' := [(6, .int 0), (5, .int (cOne E)), (0, .ref b), (1, .ref g), (2, .ref r), (3, .ref ou), (4, .int (nI (8 * t)))]) X dL_law_1819 (by decide) rfl ?_
    refine q_aload_n X dL_law_1821 4 rfl ?_
    refine q_callVp X (c_thrown (pU_l _ _ hB2.1)) Y_X13_thrown tw_1238 tw_1239 tw_1240 (pU_l _ _ hB2.1) rfl (by omega) rfl rfl (Nat.le_of_ble_eq_true rfl) dL_law_1822 ?_
    refine q_iload X dL_law_1825 1 rfl ?_
    refine q_icmp_eq X 1832 dL_law_1827 (by decide) (fun c_4 => ?_) (fun c_4 => absurd rfl c_4)
    refine q_iload X dL_law_1832 1 rfl ?_
    refine q_if_ne X 1849 dL_law_1834 (by decide) (fun c_5 => ?_) (fun c_5 => absurd c_5 (cOne_ne E))
    refine q_goto X 2066 dL_law_1849 (by decide) ?_
    refine q_sub [2, 3, 4, 5, 6] rfl ?_
    exact kk _ ⟨MV2, M8, f2, _, pU_cm hd3, hou2, pU_dc hd3, hV2, hR2⟩

set_option maxRecDepth 20000 in
theorem lc_cell {G : gV} {F : gF} {Q : State → Prop} {M : gMem} {b L t g r ou rc rs : Nat} {σ : sA} {xs : Nat → Int32} (X : qX G F cL_law 8 RL 202) (hl : (fl F).stackTraces = false) (hX : sX F b L xs) (h8 : 8 * t + 8 ≤ L) (hI : lI G g r ou σ M) (kk : ∀ M2 : gMem, lI G g r ou (sp_cell σ (xs (8 * t + 1)) (xs (8 * t + 2)) (xs (8 * t + 3)) (xs (8 * t + 4))).2.2 M2 → qJ G F Q 8 M2 rc rs 2066 [(0, .ref b), (1, .ref g), (2, .ref r), (3, .ref ou), (4, .int (nI (8 * t)))] []) : qJ G F Q 8 M (rc + 2) (rs + 12) 1852 [(0, .ref b), (1, .ref g), (2, .ref r), (3, .ref ou), (4, .int (nI (8 * t)))] [] := by
  obtain ⟨MV, MR, f0, e0, rfl, hou, hd, hV, hR⟩ := hI
  have hW := hV.w
  have h4k := hX.2.2.2
  refine q_aload_n X dL_law_1852 1 rfl ?_
  refine q_aload_n X dL_law_1853 0 rfl ?_
  refine q_iload X dL_law_1854 4 rfl ?_
  refine q_iconst (v := 1) X dL_law_1856 (by decide) ?_
  refine q_iadd X dL_law_1857 ?_
  refine q_sld X hX (8 * t + 1) (nI_add _ 1) (by omega) dL_law_1858 ?_
  refine q_aload_n X dL_law_1859 0 rfl ?_
  refine q_iload X dL_law_1860 4 rfl ?_
  refine q_iconst (v := 2) X dL_law_1862 (by decide) ?_
  refine q_iadd X dL_law_1863 ?_
  refine q_sld X hX (8 * t + 2) (nI_add _ 2) (by omega) dL_law_1864 ?_
  refine q_aload_n X dL_law_1865 0 rfl ?_
  refine q_iload X dL_law_1866 4 rfl ?_
  refine q_iconst (v := 3) X dL_law_1868 (by decide) ?_
  refine q_iadd X dL_law_1869 ?_
  refine q_sld X hX (8 * t + 3) (nI_add _ 3) (by omega) dL_law_1870 ?_
  refine q_aload_n X dL_law_1871 0 rfl ?_
  refine q_iload X dL_law_1872 4 rfl ?_
  refine q_iconst (v := 4) X dL_law_1874 (by decide) ?_
  refine q_iadd X dL_law_1875 ?_
  refine q_sld X hX (8 * t + 4) (nI_add _ 4) (by omega) dL_law_1876 ?_
  refine q_aload_n X dL_law_1877 3 rfl ?_
  refine q_callW X (Mc := pU MV (mO G ou f0)) (n := 6) (h_cell hl hV hou) pU_l tw_1113 tw_0 ⟨by decide, by decide, by decide +kernel⟩ (by decide) tw_1111 tw_1112 (by omega) rfl rfl (Nat.le_of_ble_eq_true rfl) (rc' := rc + 0) (rs' := rs + 0) (by omega) (by omega) dL_law_1878 (fun v M9 hp hm => ?_)
  obtain ⟨MV2, f2, rfl, hou2, hV2, hcase⟩ := hp
  obtain ⟨eM, hd2⟩ := mJ_pU hd hm
  rw [eM]
  clear eM hm
  rcases hcase with ⟨ho, rfl, hv⟩ | ⟨E, ho, rfl⟩
  · show qJ G F _ 8 (pU (pU MV2 (mO G ou f2)) MR) (rc + 0) (rs + 0) 1881 [(0, .ref b), (1, .ref g), (2, .ref r), (3, .ref ou), (4, .int (nI (8 * t)))] [.int 0]
    refine q_istore (lv' := [(5, .int 0), (0, .ref b), (1, .ref g), (2, .ref r), (3, .ref ou), (4, .int (nI (8 * t)))]) X dL_law_1881 (by decide) rfl ?_
    refine q_aload_n X dL_law_1883 3 rfl ?_
    refine q_aload_n X dL_law_1884 1 rfl ?_
    refine q_iload X dL_law_1885 5 rfl ?_
    refine q_iconst (v := 1) X dL_law_1887 (by decide) ?_
    refine q_iadd X dL_law_1888 ?_
    refine q_sld X hX (8 * t + 1) (nI_add _ 1) (by omega) dL_law_1889 ?_
    refine q_aload_n X dL_law_1890 1 rfl ?_
    refine q_iload X dL_law_1891 5 rfl ?_
    refine q_iconst (v := 2) X dL_law_1893 (by decide) ?_
    refine q_iadd X dL_law_1894 ?_
    refine q_sld X hX (8 * t + 2) (nI_add _ 2) (by omega) dL_law_1895 ?_
    refine q_aload_n X dL_law_1896 1 rfl ?_
    refine q_iload X dL_law_1897 5 rfl ?_
    refine q_iconst (v := 3) X dL_law_1899 (by decide) ?_
    refine q_iadd X dL_law_1900 ?_
    refine q_sld X hX (8 * t + 3) (nI_add _ 3) (by omega) dL_law_1901 ?_
    refine q_aload_n X dL_law_1902 1 rfl ?_
    refine q_iload X dL_law_1903 5 rfl ?_
    refine q_iconst (v := 4) X dL_law_1905 (by decide) ?_
    refine q_iadd X dL_law_1906 ?_
    refine q_sld X hX (8 * t + 4) (nI_add _ 4) (by omega) dL_law_1907 ?_
    rw [pU_cm hd2]
    obtain ⟨fr0, hr0⟩ : ∃ fs0, MR r = some (oB 13 fs0) := isRF.ob hR
    refine q_callVF X (Mc := MR) (r_cell hW hR) pU_l Y_X13_cell tw_1442 tw_1443 tw_1444 (pU_l _ _ hr0) rfl (by omega) rfl rfl (Nat.le_of_ble_eq_true rfl) (rc' := rc) (rs' := rs) (by omega) (by omega) dL_law_1908 (fun v M8 hp hm => ?_)
    obtain ⟨eM, hd3⟩ := mJ_pU (pU_dc hd2) hm
    rw [eM]
    clear eM hm
    obtain ⟨hv8, hR2⟩ := rfP_n ho hp
    obtain ⟨n9, hn9, hf9⟩ := hv
    rw [hn9] at hv8
    subst hv8
    obtain ⟨vA, nA, pA, plA, dg, dla, dha, dva, dza, dvf, dzf, vf, nf, pf, tk, su, le, gr, hB2⟩ := id hR2
    show qJ G F _ 8 (pU M8 (pU MV2 (mO G ou f2))) rc rs 1911 [(5, .int 0), (0, .ref b), (1, .ref g), (2, .ref r), (3, .ref ou), (4, .int (nI (8 * t)))] [.long n9]
    refine q_lstore (lv' := [(6, .long n9), (5, .int 0), (0, .ref b), (1, .ref g), (2, .ref r), (3, .ref ou), (4, .int (nI (8 * t)))]) X dL_law_1911 (by decide) rfl ?_
    refine q_aload_n X dL_law_1913 4 rfl ?_
    refine q_callVp X (c_thrown (pU_l _ _ hB2.1)) Y_X13_thrown tw_1238 tw_1239 tw_1240 (pU_l _ _ hB2.1) rfl (by omega) rfl rfl (Nat.le_of_ble_eq_true rfl) dL_law_1914 ?_
    refine q_iload X dL_law_1917 1 rfl ?_
    refine q_icmp_eq X 1924 dL_law_1919 (by decide) (fun c_1 => ?_) (fun c_1 => absurd rfl c_1)
    refine q_iload X dL_law_1924 1 rfl ?_
    refine q_if_ne X 1940 dL_law_1926 (by decide) (fun c_2 => absurd rfl c_2) (fun c_2 => ?_)
    refine q_aload_n X dL_law_1929 5 rfl ?_
    refine q_iconst (v := 0) X dL_law_1930 (by decide) ?_
    refine q_laldN X 0 ((pU_r (pU_ds hd3 (pU_ou hou2))).trans (pU_ou hou2)) (rfl) (by decide) (by decide) dL_law_1931 ?_
    refine q_lload X dL_law_1932 0 rfl ?_
    refine q_lcmp X dL_law_1934 ?_
    refine q_if_eq X 1940 dL_law_1935 (by decide) (fun c_3 => ?_) (fun c_3 => absurd ((lg_cmp_eq _ _).mpr hf9) c_3)
    refine q_goto X 2066 dL_law_1940 (by decide) ?_
    refine q_sub [2, 3, 4, 5, 6] rfl ?_
    exact kk _ ⟨MV2, M8, f2, _, pU_cm hd3, hou2, pU_dc hd3, hV2, hR2⟩
  · show qJ G F _ 8 (pU (pU MV2 (mO G ou f2)) MR) (rc + 0) (rs + 0) 1881 [(0, .ref b), (1, .ref g), (2, .ref r), (3, .ref ou), (4, .int (nI (8 * t)))] [.int (cOp E)]
    refine q_istore (lv' := [(5, .int (cOp E)), (0, .ref b), (1, .ref g), (2, .ref r), (3, .ref ou), (4, .int (nI (8 * t)))]) X dL_law_1881 (by decide) rfl ?_
    refine q_aload_n X dL_law_1883 3 rfl ?_
    refine q_aload_n X dL_law_1884 1 rfl ?_
    refine q_iload X dL_law_1885 5 rfl ?_
    refine q_iconst (v := 1) X dL_law_1887 (by decide) ?_
    refine q_iadd X dL_law_1888 ?_
    refine q_sld X hX (8 * t + 1) (nI_add _ 1) (by omega) dL_law_1889 ?_
    refine q_aload_n X dL_law_1890 1 rfl ?_
    refine q_iload X dL_law_1891 5 rfl ?_
    refine q_iconst (v := 2) X dL_law_1893 (by decide) ?_
    refine q_iadd X dL_law_1894 ?_
    refine q_sld X hX (8 * t + 2) (nI_add _ 2) (by omega) dL_law_1895 ?_
    refine q_aload_n X dL_law_1896 1 rfl ?_
    refine q_iload X dL_law_1897 5 rfl ?_
    refine q_iconst (v := 3) X dL_law_1899 (by decide) ?_
    refine q_iadd X dL_law_1900 ?_
    refine q_sld X hX (8 * t + 3) (nI_add _ 3) (by omega) dL_law_1901 ?_
    refine q_aload_n X dL_law_1902 1 rfl ?_
    refine q_iload X dL_law_1903 5 rfl ?_
    refine q_iconst (v := 4) X dL_law_1905 (by decide) ?_
    refine q_iadd X dL_law_1906 ?_
    refine q_sld X hX (8 * t + 4) (nI_add _ 4) (by omega) dL_law_1907 ?_
    rw [pU_cm hd2]
    obtain ⟨fr0, hr0⟩ : ∃ fs0, MR r = some (oB 13 fs0) := isRF.ob hR
    refine q_callVF X (Mc := MR) (r_cell hW hR) pU_l Y_X13_cell tw_1442 tw_1443 tw_1444 (pU_l _ _ hr0) rfl (by omega) rfl rfl (Nat.le_of_ble_eq_true rfl) (rc' := rc) (rs' := rs) (by omega) (by omega) dL_law_1908 (fun v M8 hp hm => ?_)
    obtain ⟨eM, hd3⟩ := mJ_pU (pU_dc hd2) hm
    rw [eM]
    clear eM hm
    obtain ⟨hv8, hR2⟩ := rfP_s ho hp
    subst hv8
    obtain ⟨vA, nA, pA, plA, dg, dla, dha, dva, dza, dvf, dzf, vf, nf, pf, tk, su, le, gr, hB2⟩ := id hR2
    show qJ G F _ 8 (pU M8 (pU MV2 (mO G ou f2))) rc rs 1911 [(5, .int (cOp E)), (0, .ref b), (1, .ref g), (2, .ref r), (3, .ref ou), (4, .int (nI (8 * t)))] [.long 0]
    refine q_lstore (lv' := [(6, .long 0), (5, .int (cOp E)), (0, .ref b), (1, .ref g), (2, .ref r), (3, .ref ou), (4, .int (nI (8 * t)))]) X dL_law_1911 (by decide) rfl ?_
    refine q_aload_n X dL_law_1913 4 rfl ?_
    refine q_callVp X (c_thrown (pU_l _ _ hB2.1)) Y_X13_thrown tw_1238 tw_1239 tw_1240 (pU_l _ _ hB2.1) rfl (by omega) rfl rfl (Nat.le_of_ble_eq_true rfl) dL_law_1914 ?_
    refine q_iload X dL_law_1917 1 rfl ?_
    refine q_icmp_eq X 1924 dL_law_1919 (by decide) (fun c_4 => ?_) (fun c_4 => absurd rfl c_4)
    refine q_iload X dL_law_1924 1 rfl ?_
    refine q_if_ne X 1940 dL_law_1926 (by decide) (fun c_5 => ?_) (fun c_5 => absurd c_5 (cOp_ne E))
    refine q_goto X 2066 dL_law_1940 (by decide) ?_
    refine q_sub [2, 3, 4, 5, 6] rfl ?_
    exact kk _ ⟨MV2, M8, f2, _, pU_cm hd3, hou2, pU_dc hd3, hV2, hR2⟩

set_option maxRecDepth 20000 in
theorem lc_all {G : gV} {F : gF} {Q : State → Prop} {M : gMem} {b L t g r ou rc rs : Nat} {σ : sA} {xs : Nat → Int32} (X : qX G F cL_law 8 RL 202) (hl : (fl F).stackTraces = false) (hX : sX F b L xs) (h8 : 8 * t + 8 ≤ L) (hI : lI G g r ou σ M) (kk : ∀ M2 : gMem, lI G g r ou (sp_all σ (xs (8 * t + 1)) (xs (8 * t + 2))).2.2 M2 → qJ G F Q 8 M2 rc rs 2066 [(0, .ref b), (1, .ref g), (2, .ref r), (3, .ref ou), (4, .int (nI (8 * t)))] []) : qJ G F Q 8 M (rc + 4) (rs + 21) 1943 [(0, .ref b), (1, .ref g), (2, .ref r), (3, .ref ou), (4, .int (nI (8 * t)))] [] := by
  obtain ⟨MV, MR, f0, e0, rfl, hou, hd, hV, hR⟩ := hI
  have hW := hV.w
  have h4k := hX.2.2.2
  refine q_aload_n X dL_law_1943 1 rfl ?_
  refine q_aload_n X dL_law_1944 0 rfl ?_
  refine q_iload X dL_law_1945 4 rfl ?_
  refine q_iconst (v := 1) X dL_law_1947 (by decide) ?_
  refine q_iadd X dL_law_1948 ?_
  refine q_sld X hX (8 * t + 1) (nI_add _ 1) (by omega) dL_law_1949 ?_
  refine q_aload_n X dL_law_1950 0 rfl ?_
  refine q_iload X dL_law_1951 4 rfl ?_
  refine q_iconst (v := 2) X dL_law_1953 (by decide) ?_
  refine q_iadd X dL_law_1954 ?_
  refine q_sld X hX (8 * t + 2) (nI_add _ 2) (by omega) dL_law_1955 ?_
  refine q_aload_n X dL_law_1956 3 rfl ?_
  refine q_callW X (Mc := pU MV (mO G ou f0)) (n := 4) (h_all hl hV hou) pU_l tw_1123 tw_0 ⟨by decide, by decide, by decide +kernel⟩ (by decide) tw_1121 tw_1122 (by omega) rfl rfl (Nat.le_of_ble_eq_true rfl) (rc' := rc + 0) (rs' := rs + 0) (by omega) (by omega) dL_law_1957 (fun v M9 hp hm => ?_)
  obtain ⟨MV2, f2, rfl, hou2, hV2, hcase⟩ := hp
  obtain ⟨eM, hd2⟩ := mJ_pU hd hm
  rw [eM]
  clear eM hm
  rcases hcase with ⟨ho, rfl, hv⟩ | ⟨E, ho, rfl⟩
  · show qJ G F _ 8 (pU (pU MV2 (mO G ou f2)) MR) (rc + 0) (rs + 0) 1960 [(0, .ref b), (1, .ref g), (2, .ref r), (3, .ref ou), (4, .int (nI (8 * t)))] [.int 0]
    refine q_istore (lv' := [(5, .int 0), (0, .ref b), (1, .ref g), (2, .ref r), (3, .ref ou), (4, .int (nI (8 * t)))]) X dL_law_1960 (by decide) rfl ?_
    refine q_aload_n X dL_law_1962 3 rfl ?_
    refine q_aload_n X dL_law_1963 1 rfl ?_
    refine q_iload X dL_law_1964 5 rfl ?_
    refine q_iconst (v := 1) X dL_law_1966 (by decide) ?_
    refine q_iadd X dL_law_1967 ?_
    refine q_sld X hX (8 * t + 1) (nI_add _ 1) (by omega) dL_law_1968 ?_
    refine q_aload_n X dL_law_1969 1 rfl ?_
    refine q_iload X dL_law_1970 5 rfl ?_
    refine q_iconst (v := 2) X dL_law_1972 (by decide) ?_
    refine q_iadd X dL_law_1973 ?_
    refine q_sld X hX (8 * t + 2) (nI_add _ 2) (by omega) dL_law_1974 ?_
    rw [pU_cm hd2]
    obtain ⟨fr0, hr0⟩ : ∃ fs0, MR r = some (oB 13 fs0) := isRF.ob hR
    refine q_callVF X (Mc := MR) (r_all hW hR) pU_l Y_X13_all tw_1446 tw_1447 tw_1448 (pU_l _ _ hr0) rfl (by omega) rfl rfl (Nat.le_of_ble_eq_true rfl) (rc' := rc) (rs' := rs) (by omega) (by omega) dL_law_1975 (fun v M8 hp hm => ?_)
    obtain ⟨eM, hd3⟩ := mJ_pU (pU_dc hd2) hm
    rw [eM]
    clear eM hm
    obtain ⟨hv8, hR2⟩ := rfP_n ho hp
    obtain ⟨n9, hn9, hf9⟩ := hv
    rw [hn9] at hv8
    subst hv8
    obtain ⟨vA, nA, pA, plA, dg, dla, dha, dva, dza, dvf, dzf, vf, nf, pf, tk, su, le, gr, hB2⟩ := id hR2
    show qJ G F _ 8 (pU M8 (pU MV2 (mO G ou f2))) rc rs 1978 [(5, .int 0), (0, .ref b), (1, .ref g), (2, .ref r), (3, .ref ou), (4, .int (nI (8 * t)))] [.long n9]
    refine q_lstore (lv' := [(6, .long n9), (5, .int 0), (0, .ref b), (1, .ref g), (2, .ref r), (3, .ref ou), (4, .int (nI (8 * t)))]) X dL_law_1978 (by decide) rfl ?_
    refine q_aload_n X dL_law_1980 4 rfl ?_
    refine q_callVp X (c_thrown (pU_l _ _ hB2.1)) Y_X13_thrown tw_1238 tw_1239 tw_1240 (pU_l _ _ hB2.1) rfl (by omega) rfl rfl (Nat.le_of_ble_eq_true rfl) dL_law_1981 ?_
    refine q_iload X dL_law_1984 1 rfl ?_
    refine q_icmp_eq X 1991 dL_law_1986 (by decide) (fun c_1 => ?_) (fun c_1 => absurd rfl c_1)
    refine q_iload X dL_law_1991 1 rfl ?_
    refine q_if_ne X 2007 dL_law_1993 (by decide) (fun c_2 => absurd rfl c_2) (fun c_2 => ?_)
    refine q_aload_n X dL_law_1996 5 rfl ?_
    refine q_iconst (v := 0) X dL_law_1997 (by decide) ?_
    refine q_laldN X 0 ((pU_r (pU_ds hd3 (pU_ou hou2))).trans (pU_ou hou2)) (rfl) (by decide) (by decide) dL_law_1998 ?_
    refine q_lload X dL_law_1999 0 rfl ?_
    refine q_lcmp X dL_law_2001 ?_
    refine q_if_eq X 2007 dL_law_2002 (by decide) (fun c_3 => ?_) (fun c_3 => absurd ((lg_cmp_eq _ _).mpr hf9) c_3)
    refine q_goto X 2066 dL_law_2007 (by decide) ?_
    refine q_sub [2, 3, 4, 5, 6] rfl ?_
    exact kk _ ⟨MV2, M8, f2, _, pU_cm hd3, hou2, pU_dc hd3, hV2, hR2⟩
  · show qJ G F _ 8 (pU (pU MV2 (mO G ou f2)) MR) (rc + 0) (rs + 0) 1960 [(0, .ref b), (1, .ref g), (2, .ref r), (3, .ref ou), (4, .int (nI (8 * t)))] [.int (cAl E)]
    refine q_istore (lv' := [(5, .int (cAl E)), (0, .ref b), (1, .ref g), (2, .ref r), (3, .ref ou), (4, .int (nI (8 * t)))]) X dL_law_1960 (by decide) rfl ?_
    refine q_aload_n X dL_law_1962 3 rfl ?_
    refine q_aload_n X dL_law_1963 1 rfl ?_
    refine q_iload X dL_law_1964 5 rfl ?_
    refine q_iconst (v := 1) X dL_law_1966 (by decide) ?_
    refine q_iadd X dL_law_1967 ?_
    refine q_sld X hX (8 * t + 1) (nI_add _ 1) (by omega) dL_law_1968 ?_
    refine q_aload_n X dL_law_1969 1 rfl ?_
    refine q_iload X dL_law_1970 5 rfl ?_
    refine q_iconst (v := 2) X dL_law_1972 (by decide) ?_
    refine q_iadd X dL_law_1973 ?_
    refine q_sld X hX (8 * t + 2) (nI_add _ 2) (by omega) dL_law_1974 ?_
    rw [pU_cm hd2]
    obtain ⟨fr0, hr0⟩ : ∃ fs0, MR r = some (oB 13 fs0) := isRF.ob hR
    refine q_callVF X (Mc := MR) (r_all hW hR) pU_l Y_X13_all tw_1446 tw_1447 tw_1448 (pU_l _ _ hr0) rfl (by omega) rfl rfl (Nat.le_of_ble_eq_true rfl) (rc' := rc) (rs' := rs) (by omega) (by omega) dL_law_1975 (fun v M8 hp hm => ?_)
    obtain ⟨eM, hd3⟩ := mJ_pU (pU_dc hd2) hm
    rw [eM]
    clear eM hm
    obtain ⟨hv8, hR2⟩ := rfP_s ho hp
    subst hv8
    obtain ⟨vA, nA, pA, plA, dg, dla, dha, dva, dza, dvf, dzf, vf, nf, pf, tk, su, le, gr, hB2⟩ := id hR2
    show qJ G F _ 8 (pU M8 (pU MV2 (mO G ou f2))) rc rs 1978 [(5, .int (cAl E)), (0, .ref b), (1, .ref g), (2, .ref r), (3, .ref ou), (4, .int (nI (8 * t)))] [.long 0]
    refine q_lstore (lv' := [(6, .long 0), (5, .int (cAl E)), (0, .ref b), (1, .ref g), (2, .ref r), (3, .ref ou), (4, .int (nI (8 * t)))]) X dL_law_1978 (by decide) rfl ?_
    refine q_aload_n X dL_law_1980 4 rfl ?_
    refine q_callVp X (c_thrown (pU_l _ _ hB2.1)) Y_X13_thrown tw_1238 tw_1239 tw_1240 (pU_l _ _ hB2.1) rfl (by omega) rfl rfl (Nat.le_of_ble_eq_true rfl) dL_law_1981 ?_
    refine q_iload X dL_law_1984 1 rfl ?_
    refine q_icmp_eq X 1991 dL_law_1986 (by decide) (fun c_4 => ?_) (fun c_4 => absurd rfl c_4)
    refine q_iload X dL_law_1991 1 rfl ?_
    refine q_if_ne X 2007 dL_law_1993 (by decide) (fun c_5 => ?_) (fun c_5 => absurd c_5 (cAl_ne E))
    refine q_goto X 2066 dL_law_2007 (by decide) ?_
    refine q_sub [2, 3, 4, 5, 6] rfl ?_
    exact kk _ ⟨MV2, M8, f2, _, pU_cm hd3, hou2, pU_dc hd3, hV2, hR2⟩

set_option maxRecDepth 20000 in
theorem lc_count {G : gV} {F : gF} {Q : State → Prop} {M : gMem} {b L t g r ou rc rs : Nat} {σ : sA} {xs : Nat → Int32} (X : qX G F cL_law 8 RL 202) (hl : (fl F).stackTraces = false) (hX : sX F b L xs) (h8 : 8 * t + 8 ≤ L) (hI : lI G g r ou σ M) (kk : ∀ M2 : gMem, lI G g r ou (sp_count σ (xs (8 * t + 1))).2.2 M2 → qJ G F Q 8 M2 rc rs 2066 [(0, .ref b), (1, .ref g), (2, .ref r), (3, .ref ou), (4, .int (nI (8 * t)))] []) : qJ G F Q 8 M (rc + 2) (rs + 12) 2010 [(0, .ref b), (1, .ref g), (2, .ref r), (3, .ref ou), (4, .int (nI (8 * t)))] [] := by
  obtain ⟨MV, MR, f0, e0, rfl, hou, hd, hV, hR⟩ := hI
  have hW := hV.w
  have h4k := hX.2.2.2
  refine q_aload_n X dL_law_2010 1 rfl ?_
  refine q_aload_n X dL_law_2011 0 rfl ?_
  refine q_iload X dL_law_2012 4 rfl ?_
  refine q_iconst (v := 1) X dL_law_2014 (by decide) ?_
  refine q_iadd X dL_law_2015 ?_
  refine q_sld X hX (8 * t + 1) (nI_add _ 1) (by omega) dL_law_2016 ?_
  refine q_aload_n X dL_law_2017 3 rfl ?_
  refine q_callW X (Mc := pU MV (mO G ou f0)) (n := 3) (h_count hl hV hou) pU_l tw_1134 tw_0 ⟨by decide, by decide, by decide +kernel⟩ (by decide) tw_1132 tw_1133 (by omega) rfl rfl (Nat.le_of_ble_eq_true rfl) (rc' := rc + 0) (rs' := rs + 0) (by omega) (by omega) dL_law_2018 (fun v M9 hp hm => ?_)
  obtain ⟨MV2, f2, rfl, hou2, hV2, hcase⟩ := hp
  obtain ⟨eM, hd2⟩ := mJ_pU hd hm
  rw [eM]
  clear eM hm
  rcases hcase with ⟨ho, rfl, hv⟩ | ⟨E, ho, rfl⟩
  · show qJ G F _ 8 (pU (pU MV2 (mO G ou f2)) MR) (rc + 0) (rs + 0) 2021 [(0, .ref b), (1, .ref g), (2, .ref r), (3, .ref ou), (4, .int (nI (8 * t)))] [.int 0]
    refine q_istore (lv' := [(5, .int 0), (0, .ref b), (1, .ref g), (2, .ref r), (3, .ref ou), (4, .int (nI (8 * t)))]) X dL_law_2021 (by decide) rfl ?_
    refine q_aload_n X dL_law_2023 3 rfl ?_
    refine q_aload_n X dL_law_2024 1 rfl ?_
    refine q_iload X dL_law_2025 5 rfl ?_
    refine q_iconst (v := 1) X dL_law_2027 (by decide) ?_
    refine q_iadd X dL_law_2028 ?_
    refine q_sld X hX (8 * t + 1) (nI_add _ 1) (by omega) dL_law_2029 ?_
    rw [pU_cm hd2]
    obtain ⟨fr0, hr0⟩ : ∃ fs0, MR r = some (oB 13 fs0) := isRF.ob hR
    refine q_callVF X (Mc := MR) (r_count hW hR) pU_l Y_X13_count tw_1450 tw_1451 tw_1452 (pU_l _ _ hr0) rfl (by omega) rfl rfl (Nat.le_of_ble_eq_true rfl) (rc' := rc) (rs' := rs) (by omega) (by omega) dL_law_2030 (fun v M8 hp hm => ?_)
    obtain ⟨eM, hd3⟩ := mJ_pU (pU_dc hd2) hm
    rw [eM]
    clear eM hm
    obtain ⟨hv8, hR2⟩ := rfP_n ho hp
    obtain ⟨n9, hn9, hf9⟩ := hv
    rw [hn9] at hv8
    subst hv8
    obtain ⟨vA, nA, pA, plA, dg, dla, dha, dva, dza, dvf, dzf, vf, nf, pf, tk, su, le, gr, hB2⟩ := id hR2
    show qJ G F _ 8 (pU M8 (pU MV2 (mO G ou f2))) rc rs 2033 [(5, .int 0), (0, .ref b), (1, .ref g), (2, .ref r), (3, .ref ou), (4, .int (nI (8 * t)))] [.int n9]
    refine q_istore (lv' := [(6, .int n9), (5, .int 0), (0, .ref b), (1, .ref g), (2, .ref r), (3, .ref ou), (4, .int (nI (8 * t)))]) X dL_law_2033 (by decide) rfl ?_
    refine q_aload_n X dL_law_2035 4 rfl ?_
    refine q_callVp X (c_thrown (pU_l _ _ hB2.1)) Y_X13_thrown tw_1238 tw_1239 tw_1240 (pU_l _ _ hB2.1) rfl (by omega) rfl rfl (Nat.le_of_ble_eq_true rfl) dL_law_2036 ?_
    refine q_iload X dL_law_2039 1 rfl ?_
    refine q_icmp_eq X 2046 dL_law_2041 (by decide) (fun c_1 => ?_) (fun c_1 => absurd rfl c_1)
    refine q_iload X dL_law_2046 1 rfl ?_
    refine q_if_ne X 2063 dL_law_2048 (by decide) (fun c_2 => absurd rfl c_2) (fun c_2 => ?_)
    refine q_aload_n X dL_law_2051 5 rfl ?_
    refine q_iconst (v := 0) X dL_law_2052 (by decide) ?_
    refine q_laldN X 0 ((pU_r (pU_ds hd3 (pU_ou hou2))).trans (pU_ou hou2)) (rfl) (by decide) (by decide) dL_law_2053 ?_
    refine q_iload X dL_law_2054 0 rfl ?_
    refine q_i2l X dL_law_2056 ?_
    refine q_lcmp X dL_law_2057 ?_
    refine q_if_eq X 2063 dL_law_2058 (by decide) (fun c_3 => ?_) (fun c_3 => absurd ((lg_cmp_eq _ _).mpr hf9) c_3)
    refine q_goto X 2066 dL_law_2063 (by decide) ?_
    refine q_sub [2, 3, 4, 5, 6] rfl ?_
    exact kk _ ⟨MV2, M8, f2, _, pU_cm hd3, hou2, pU_dc hd3, hV2, hR2⟩
  · show qJ G F _ 8 (pU (pU MV2 (mO G ou f2)) MR) (rc + 0) (rs + 0) 2021 [(0, .ref b), (1, .ref g), (2, .ref r), (3, .ref ou), (4, .int (nI (8 * t)))] [.int (cOne E)]
    refine q_istore (lv' := [(5, .int (cOne E)), (0, .ref b), (1, .ref g), (2, .ref r), (3, .ref ou), (4, .int (nI (8 * t)))]) X dL_law_2021 (by decide) rfl ?_
    refine q_aload_n X dL_law_2023 3 rfl ?_
    refine q_aload_n X dL_law_2024 1 rfl ?_
    refine q_iload X dL_law_2025 5 rfl ?_
    refine q_iconst (v := 1) X dL_law_2027 (by decide) ?_
    refine q_iadd X dL_law_2028 ?_
    refine q_sld X hX (8 * t + 1) (nI_add _ 1) (by omega) dL_law_2029 ?_
    rw [pU_cm hd2]
    obtain ⟨fr0, hr0⟩ : ∃ fs0, MR r = some (oB 13 fs0) := isRF.ob hR
    refine q_callVF X (Mc := MR) (r_count hW hR) pU_l Y_X13_count tw_1450 tw_1451 tw_1452 (pU_l _ _ hr0) rfl (by omega) rfl rfl (Nat.le_of_ble_eq_true rfl) (rc' := rc) (rs' := rs) (by omega) (by omega) dL_law_2030 (fun v M8 hp hm => ?_)
    obtain ⟨eM, hd3⟩ := mJ_pU (pU_dc hd2) hm
    rw [eM]
    clear eM hm
    obtain ⟨hv8, hR2⟩ := rfP_s ho hp
    subst hv8
    obtain ⟨vA, nA, pA, plA, dg, dla, dha, dva, dza, dvf, dzf, vf, nf, pf, tk, su, le, gr, hB2⟩ := id hR2
    show qJ G F _ 8 (pU M8 (pU MV2 (mO G ou f2))) rc rs 2033 [(5, .int (cOne E)), (0, .ref b), (1, .ref g), (2, .ref r), (3, .ref ou), (4, .int (nI (8 * t)))] [.int 0]
    refine q_istore (lv' := [(6, .int 0), (5, .int (cOne E)), (0, .ref b), (1, .ref g), (2, .ref r), (3, .ref ou), (4, .int (nI (8 * t)))]) X dL_law_2033 (by decide) rfl ?_
    refine q_aload_n X dL_law_2035 4 rfl ?_
    refine q_callVp X (c_thrown (pU_l _ _ hB2.1)) Y_X13_thrown tw_1238 tw_1239 tw_1240 (pU_l _ _ hB2.1) rfl (by omega) rfl rfl (Nat.le_of_ble_eq_true rfl) dL_law_2036 ?_
    refine q_iload X dL_law_2039 1 rfl ?_
    refine q_icmp_eq X 2046 dL_law_2041 (by decide) (fun c_4 => ?_) (fun c_4 => absurd rfl c_4)
    refine q_iload X dL_law_2046 1 rfl ?_
    refine q_if_ne X 2063 dL_law_2048 (by decide) (fun c_5 => ?_) (fun c_5 => absurd c_5 (cOne_ne E))
    refine q_goto X 2066 dL_law_2063 (by decide) ?_
    refine q_sub [2, 3, 4, 5, 6] rfl ?_
    exact kk _ ⟨MV2, M8, f2, _, pU_cm hd3, hou2, pU_dc hd3, hV2, hR2⟩

set_option maxRecDepth 20000 in
theorem lc_commit_n {G : gV} {F : gF} {Q : State → Prop} {M : gMem} {b L t g r ou rc rs : Nat} {σ : sA} {xs : Nat → Int32} (X : qX G F cL_law 8 RL 202) (hl : (fl F).stackTraces = false) (hX : sX F b L xs) (h8 : 8 * t + 8 ≤ L) (hI : lI G g r ou σ M) (h41 : ¬ (aV σ).length < 41) (kk : ∀ M2 : gMem, lI G g r ou (sp_commit σ).2.2 M2 → qJ G F Q 8 M2 rc rs 2066 [(0, .ref b), (1, .ref g), (2, .ref r), (3, .ref ou), (4, .int (nI (8 * t)))] []) : qJ G F Q 8 M (rc + 1) (rs + 6) 532 [(0, .ref b), (1, .ref g), (2, .ref r), (3, .ref ou), (4, .int (nI (8 * t)))] [] := by
  obtain ⟨MV, MR, f0, e0, rfl, hou, hd, hV, hR⟩ := hI
  have hW := hV.w
  have h4k := hX.2.2.2
  refine q_aload_n X dL_law_532 1 rfl ?_
  refine q_aload_n X dL_law_533 3 rfl ?_
  refine q_callW X (Mc := pU MV (mO G ou f0)) (n := 2) (h_commit_n hl hV hou h41) pU_l tw_465 tw_0 ⟨by decide, by decide, by decide +kernel⟩ (by decide) tw_463 tw_464 (by omega) rfl rfl (Nat.le_of_ble_eq_true rfl) (rc' := rc + 0) (rs' := rs + 0) (by omega) (by omega) dL_law_534 (fun v M9 hp hm => ?_)
  obtain ⟨MV2, f2, rfl, hou2, hV2, hcase⟩ := hp
  obtain ⟨eM, hd2⟩ := mJ_pU hd hm
  rw [eM]
  clear eM hm
  rcases hcase with ⟨ho, rfl, hv⟩ | ⟨E, ho, rfl⟩
  · show qJ G F _ 8 (pU (pU MV2 (mO G ou f2)) MR) (rc + 0) (rs + 0) 537 [(0, .ref b), (1, .ref g), (2, .ref r), (3, .ref ou), (4, .int (nI (8 * t)))] [.int 0]
    refine q_istore (lv' := [(5, .int 0), (0, .ref b), (1, .ref g), (2, .ref r), (3, .ref ou), (4, .int (nI (8 * t)))]) X dL_law_537 (by decide) rfl ?_
    refine q_aload_n X dL_law_539 3 rfl ?_
    rw [pU_cm hd2]
    obtain ⟨fr0, hr0⟩ : ∃ fs0, MR r = some (oB 13 fs0) := isRF.ob hR
    refine q_callVF X (Mc := MR) (r_commit_n hW hR h41) pU_l Y_X13_commit tw_1284 tw_1285 tw_1286 (pU_l _ _ hr0) rfl (by omega) rfl rfl (Nat.le_of_ble_eq_true rfl) (rc' := rc) (rs' := rs) (by omega) (by omega) dL_law_540 (fun v M8 hp hm => ?_)
    obtain ⟨eM, hd3⟩ := mJ_pU (pU_dc hd2) hm
    rw [eM]
    clear eM hm
    obtain ⟨hv8, hR2⟩ := rfP_n ho hp
    obtain ⟨n9, hn9, hf9⟩ := hv
    rw [hn9] at hv8
    subst hv8
    obtain ⟨vA, nA, pA, plA, dg, dla, dha, dva, dza, dvf, dzf, vf, nf, pf, tk, su, le, gr, hB2⟩ := id hR2
    show qJ G F _ 8 (pU M8 (pU MV2 (mO G ou f2))) rc rs 543 [(5, .int 0), (0, .ref b), (1, .ref g), (2, .ref r), (3, .ref ou), (4, .int (nI (8 * t)))] [.int n9]
    refine q_istore (lv' := [(6, .int n9), (5, .int 0), (0, .ref b), (1, .ref g), (2, .ref r), (3, .ref ou), (4, .int (nI (8 * t)))]) X dL_law_543 (by decide) rfl ?_
    refine q_aload_n X dL_law_545 4 rfl ?_
    refine q_callVp X (c_thrown (pU_l _ _ hB2.1)) Y_X13_thrown tw_1238 tw_1239 tw_1240 (pU_l _ _ hB2.1) rfl (by omega) rfl rfl (Nat.le_of_ble_eq_true rfl) dL_law_546 ?_
    refine q_iload X dL_law_549 1 rfl ?_
    refine q_icmp_eq X 556 dL_law_551 (by decide) (fun c_1 => ?_) (fun c_1 => absurd rfl c_1)
    refine q_iload X dL_law_556 1 rfl ?_
    refine q_if_ne X 573 dL_law_558 (by decide) (fun c_2 => absurd rfl c_2) (fun c_2 => ?_)
    refine q_aload_n X dL_law_561 5 rfl ?_
    refine q_iconst (v := 0) X dL_law_562 (by decide) ?_
    refine q_laldN X 0 ((pU_r (pU_ds hd3 (pU_ou hou2))).trans (pU_ou hou2)) (rfl) (by decide) (by decide) dL_law_563 ?_
    refine q_iload X dL_law_564 0 rfl ?_
    refine q_i2l X dL_law_566 ?_
    refine q_lcmp X dL_law_567 ?_
    refine q_if_eq X 573 dL_law_568 (by decide) (fun c_3 => ?_) (fun c_3 => absurd ((lg_cmp_eq _ _).mpr hf9) c_3)
    refine q_goto X 2066 dL_law_573 (by decide) ?_
    refine q_sub [2, 3, 4, 5, 6] rfl ?_
    exact kk _ ⟨MV2, M8, f2, _, pU_cm hd3, hou2, pU_dc hd3, hV2, hR2⟩
  · show qJ G F _ 8 (pU (pU MV2 (mO G ou f2)) MR) (rc + 0) (rs + 0) 537 [(0, .ref b), (1, .ref g), (2, .ref r), (3, .ref ou), (4, .int (nI (8 * t)))] [.int (cOne E)]
    refine q_istore (lv' := [(5, .int (cOne E)), (0, .ref b), (1, .ref g), (2, .ref r), (3, .ref ou), (4, .int (nI (8 * t)))]) X dL_law_537 (by decide) rfl ?_
    refine q_aload_n X dL_law_539 3 rfl ?_
    rw [pU_cm hd2]
    obtain ⟨fr0, hr0⟩ : ∃ fs0, MR r = some (oB 13 fs0) := isRF.ob hR
    refine q_callVF X (Mc := MR) (r_commit_n hW hR h41) pU_l Y_X13_commit tw_1284 tw_1285 tw_1286 (pU_l _ _ hr0) rfl (by omega) rfl rfl (Nat.le_of_ble_eq_true rfl) (rc' := rc) (rs' := rs) (by omega) (by omega) dL_law_540 (fun v M8 hp hm => ?_)
    obtain ⟨eM, hd3⟩ := mJ_pU (pU_dc hd2) hm
    rw [eM]
    clear eM hm
    obtain ⟨hv8, hR2⟩ := rfP_s ho hp
    subst hv8
    obtain ⟨vA, nA, pA, plA, dg, dla, dha, dva, dza, dvf, dzf, vf, nf, pf, tk, su, le, gr, hB2⟩ := id hR2
    show qJ G F _ 8 (pU M8 (pU MV2 (mO G ou f2))) rc rs 543 [(5, .int (cOne E)), (0, .ref b), (1, .ref g), (2, .ref r), (3, .ref ou), (4, .int (nI (8 * t)))] [.int 0]
    refine q_istore (lv' := [(6, .int 0), (5, .int (cOne E)), (0, .ref b), (1, .ref g), (2, .ref r), (3, .ref ou), (4, .int (nI (8 * t)))]) X dL_law_543 (by decide) rfl ?_
    refine q_aload_n X dL_law_545 4 rfl ?_
    refine q_callVp X (c_thrown (pU_l _ _ hB2.1)) Y_X13_thrown tw_1238 tw_1239 tw_1240 (pU_l _ _ hB2.1) rfl (by omega) rfl rfl (Nat.le_of_ble_eq_true rfl) dL_law_546 ?_
    refine q_iload X dL_law_549 1 rfl ?_
    refine q_icmp_eq X 556 dL_law_551 (by decide) (fun c_4 => ?_) (fun c_4 => absurd rfl c_4)
    refine q_iload X dL_law_556 1 rfl ?_
    refine q_if_ne X 573 dL_law_558 (by decide) (fun c_5 => ?_) (fun c_5 => absurd c_5 (cOne_ne E))
    refine q_goto X 2066 dL_law_573 (by decide) ?_
    refine q_sub [2, 3, 4, 5, 6] rfl ?_
    exact kk _ ⟨MV2, M8, f2, _, pU_cm hd3, hou2, pU_dc hd3, hV2, hR2⟩

set_option maxRecDepth 20000 in
theorem lc_begin_n {G : gV} {F : gF} {Q : State → Prop} {M : gMem} {b L t g r ou rc rs : Nat} {σ : sA} {xs : Nat → Int32} (X : qX G F cL_law 8 RL 202) (hl : (fl F).stackTraces = false) (hX : sX F b L xs) (h8 : 8 * t + 8 ≤ L) (hI : lI G g r ou σ M) (hf : (sp_begin σ (xs (8 * t + 1)) (xs (8 * t + 2)) (xs (8 * t + 3)) (xs (8 * t + 4)) (xs (8 * t + 5)) (xs (8 * t + 6)) (xs (8 * t + 7))).1 ≠ none) (kk : ∀ M2 : gMem, lI G g r ou (sp_begin σ (xs (8 * t + 1)) (xs (8 * t + 2)) (xs (8 * t + 3)) (xs (8 * t + 4)) (xs (8 * t + 5)) (xs (8 * t + 6)) (xs (8 * t + 7))).2.2 M2 → qJ G F Q 8 M2 rc rs 2066 [(0, .ref b), (1, .ref g), (2, .ref r), (3, .ref ou), (4, .int (nI (8 * t)))] []) : qJ G F Q 8 M (rc + 3) (rs + 18) 152 [(0, .ref b), (1, .ref g), (2, .ref r), (3, .ref ou), (4, .int (nI (8 * t)))] [] := by
  obtain ⟨MV, MR, f0, e0, rfl, hou, hd, hV, hR⟩ := hI
  have hW := hV.w
  have h4k := hX.2.2.2
  refine q_aload_n X dL_law_152 1 rfl ?_
  refine q_aload_n X dL_law_153 0 rfl ?_
  refine q_iload X dL_law_154 4 rfl ?_
  refine q_iconst (v := 1) X dL_law_156 (by decide) ?_
  refine q_iadd X dL_law_157 ?_
  refine q_sld X hX (8 * t + 1) (nI_add _ 1) (by omega) dL_law_158 ?_
  refine q_aload_n X dL_law_159 0 rfl ?_
  refine q_iload X dL_law_160 4 rfl ?_
  refine q_iconst (v := 2) X dL_law_162 (by decide) ?_
  refine q_iadd X dL_law_163 ?_
  refine q_sld X hX (8 * t + 2) (nI_add _ 2) (by omega) dL_law_164 ?_
  refine q_aload_n X dL_law_165 0 rfl ?_
  refine q_iload X dL_law_166 4 rfl ?_
  refine q_iconst (v := 3) X dL_law_168 (by decide) ?_
  refine q_iadd X dL_law_169 ?_
  refine q_sld X hX (8 * t + 3) (nI_add _ 3) (by omega) dL_law_170 ?_
  refine q_aload_n X dL_law_171 0 rfl ?_
  refine q_iload X dL_law_172 4 rfl ?_
  refine q_iconst (v := 4) X dL_law_174 (by decide) ?_
  refine q_iadd X dL_law_175 ?_
  refine q_sld X hX (8 * t + 4) (nI_add _ 4) (by omega) dL_law_176 ?_
  refine q_aload_n X dL_law_177 0 rfl ?_
  refine q_iload X dL_law_178 4 rfl ?_
  refine q_iconst (v := 5) X dL_law_180 (by decide) ?_
  refine q_iadd X dL_law_181 ?_
  refine q_sld X hX (8 * t + 5) (nI_add _ 5) (by omega) dL_law_182 ?_
  refine q_aload_n X dL_law_183 0 rfl ?_
  refine q_iload X dL_law_184 4 rfl ?_
  refine q_bipush (v := 6) X dL_law_186 (by decide) ?_
  refine q_iadd X dL_law_188 ?_
  refine q_sld X hX (8 * t + 6) (nI_add _ 6) (by omega) dL_law_189 ?_
  refine q_aload_n X dL_law_190 0 rfl ?_
  refine q_iload X dL_law_191 4 rfl ?_
  refine q_bipush (v := 7) X dL_law_193 (by decide) ?_
  refine q_iadd X dL_law_195 ?_
  refine q_sld X hX (8 * t + 7) (nI_add _ 7) (by omega) dL_law_196 ?_
  refine q_callW X (Mc := pU MV (mO G ou f0)) (n := 8) (h_begin_n hl hV hou hf) pU_l tw_301 tw_0 ⟨by decide, by decide, by decide +kernel⟩ (by decide) tw_299 tw_300 (by omega) rfl rfl (Nat.le_of_ble_eq_true rfl) (rc' := rc + 0) (rs' := rs + 0) (by omega) (by omega) dL_law_197 (fun v M9 hp hm => ?_)
  obtain ⟨MV2, f2, rfl, hou2, hV2, hcase⟩ := hp
  obtain ⟨eM, hd2⟩ := mJ_pU hd hm
  rw [eM]
  clear eM hm
  rcases hcase with ⟨ho, rfl, hv⟩ | ⟨E, ho, rfl⟩
  · show qJ G F _ 8 (pU (pU MV2 (mO G ou f2)) MR) (rc + 0) (rs + 0) 200 [(0, .ref b), (1, .ref g), (2, .ref r), (3, .ref ou), (4, .int (nI (8 * t)))] [.int 0]
    refine q_istore (lv' := [(5, .int 0), (0, .ref b), (1, .ref g), (2, .ref r), (3, .ref ou), (4, .int (nI (8 * t)))]) X dL_law_200 (by decide) rfl ?_
    refine q_aload_n X dL_law_202 3 rfl ?_
    refine q_aload_n X dL_law_203 1 rfl ?_
    refine q_iload X dL_law_204 5 rfl ?_
    refine q_iconst (v := 1) X dL_law_206 (by decide) ?_
    refine q_iadd X dL_law_207 ?_
    refine q_sld X hX (8 * t + 1) (nI_add _ 1) (by omega) dL_law_208 ?_
    refine q_aload_n X dL_law_209 1 rfl ?_
    refine q_iload X dL_law_210 5 rfl ?_
    refine q_iconst (v := 2) X dL_law_212 (by decide) ?_
    refine q_iadd X dL_law_213 ?_
    refine q_sld X hX (8 * t + 2) (nI_add _ 2) (by omega) dL_law_214 ?_
    refine q_aload_n X dL_law_215 1 rfl ?_
    refine q_iload X dL_law_216 5 rfl ?_
    refine q_iconst (v := 3) X dL_law_218 (by decide) ?_
    refine q_iadd X dL_law_219 ?_
    refine q_sld X hX (8 * t + 3) (nI_add _ 3) (by omega) dL_law_220 ?_
    refine q_aload_n X dL_law_221 1 rfl ?_
    refine q_iload X dL_law_222 5 rfl ?_
    refine q_iconst (v := 4) X dL_law_224 (by decide) ?_
    refine q_iadd X dL_law_225 ?_
    refine q_sld X hX (8 * t + 4) (nI_add _ 4) (by omega) dL_law_226 ?_
    refine q_aload_n X dL_law_227 1 rfl ?_
    refine q_iload X dL_law_228 5 rfl ?_
    refine q_iconst (v := 5) X dL_law_230 (by decide) ?_
    refine q_iadd X dL_law_231 ?_
    refine q_sld X hX (8 * t + 5) (nI_add _ 5) (by omega) dL_law_232 ?_
    refine q_aload_n X dL_law_233 1 rfl ?_
    refine q_iload X dL_law_234 5 rfl ?_
    refine q_bipush (v := 6) X dL_law_236 (by decide) ?_
    refine q_iadd X dL_law_238 ?_
    refine q_sld X hX (8 * t + 6) (nI_add _ 6) (by omega) dL_law_239 ?_
    refine q_aload_n X dL_law_240 1 rfl ?_
    refine q_iload X dL_law_241 5 rfl ?_
    refine q_bipush (v := 7) X dL_law_243 (by decide) ?_
    refine q_iadd X dL_law_245 ?_
    refine q_sld X hX (8 * t + 7) (nI_add _ 7) (by omega) dL_law_246 ?_
    rw [pU_cm hd2]
    obtain ⟨fr0, hr0⟩ : ∃ fs0, MR r = some (oB 13 fs0) := isRF.ob hR
    refine q_callVF X (Mc := MR) (r_begin_n hW hR hf) pU_l Y_X13_begin tw_1242 tw_1243 tw_1244 (pU_l _ _ hr0) rfl (by omega) rfl rfl (Nat.le_of_ble_eq_true rfl) (rc' := rc) (rs' := rs) (by omega) (by omega) dL_law_247 (fun v M8 hp hm => ?_)
    obtain ⟨eM, hd3⟩ := mJ_pU (pU_dc hd2) hm
    rw [eM]
    clear eM hm
    obtain ⟨hv8, hR2⟩ := rfP_n ho hp
    have hv9 : v = none := hv8.trans (vn_begin ho)
    subst hv9
    obtain ⟨vA, nA, pA, plA, dg, dla, dha, dva, dza, dvf, dzf, vf, nf, pf, tk, su, le, gr, hB2⟩ := id hR2
    show qJ G F _ 8 (pU M8 (pU MV2 (mO G ou f2))) rc rs 250 [(5, .int 0), (0, .ref b), (1, .ref g), (2, .ref r), (3, .ref ou), (4, .int (nI (8 * t)))] []
    refine q_aload_n X dL_law_250 3 rfl ?_
    refine q_callVp X (c_thrown (pU_l _ _ hB2.1)) Y_X13_thrown tw_1238 tw_1239 tw_1240 (pU_l _ _ hB2.1) rfl (by omega) rfl rfl (Nat.le_of_ble_eq_true rfl) dL_law_251 ?_
    refine q_iload X dL_law_254 0 rfl ?_
    refine q_icmp_eq X 261 dL_law_256 (by decide) (fun c_1 => ?_) (fun c_1 => absurd rfl c_1)
    refine q_goto X 2066 dL_law_261 (by decide) ?_
    refine q_sub [1, 2, 3, 4, 5] rfl ?_
    exact kk _ ⟨MV2, M8, f2, _, pU_cm hd3, hou2, pU_dc hd3, hV2, hR2⟩
  · show qJ G F _ 8 (pU (pU MV2 (mO G ou f2)) MR) (rc + 0) (rs + 0) 200 [(0, .ref b), (1, .ref g), (2, .ref r), (3, .ref ou), (4, .int (nI (8 * t)))] [.int (cBe E)]
    refine q_istore (lv' := [(5, .int (cBe E)), (0, .ref b), (1, .ref g), (2, .ref r), (3, .ref ou), (4, .int (nI (8 * t)))]) X dL_law_200 (by decide) rfl ?_
    refine q_aload_n X dL_law_202 3 rfl ?_
    refine q_aload_n X dL_law_203 1 rfl ?_
    refine q_iload X dL_law_204 5 rfl ?_
    refine q_iconst (v := 1) X dL_law_206 (by decide) ?_
    refine q_iadd X dL_law_207 ?_
    refine q_sld X hX (8 * t + 1) (nI_add _ 1) (by omega) dL_law_208 ?_
    refine q_aload_n X dL_law_209 1 rfl ?_
    refine q_iload X dL_law_210 5 rfl ?_
    refine q_iconst (v := 2) X dL_law_212 (by decide) ?_
    refine q_iadd X dL_law_213 ?_
    refine q_sld X hX (8 * t + 2) (nI_add _ 2) (by omega) dL_law_214 ?_
    refine q_aload_n X dL_law_215 1 rfl ?_
    refine q_iload X dL_law_216 5 rfl ?_
    refine q_iconst (v := 3) X dL_law_218 (by decide) ?_
    refine q_iadd X dL_law_219 ?_
    refine q_sld X hX (8 * t + 3) (nI_add _ 3) (by omega) dL_law_220 ?_
    refine q_aload_n X dL_law_221 1 rfl ?_
    refine q_iload X dL_law_222 5 rfl ?_
    refine q_iconst (v := 4) X dL_law_224 (by decide) ?_
    refine q_iadd X dL_law_225 ?_
    refine q_sld X hX (8 * t + 4) (nI_add _ 4) (by omega) dL_law_226 ?_
    refine q_aload_n X dL_law_227 1 rfl ?_
    refine q_iload X dL_law_228 5 rfl ?_
    refine q_iconst (v := 5) X dL_law_230 (by decide) ?_
    refine q_iadd X dL_law_231 ?_
    refine q_sld X hX (8 * t + 5) (nI_add _ 5) (by omega) dL_law_232 ?_
    refine q_aload_n X dL_law_233 1 rfl ?_
    refine q_iload X dL_law_234 5 rfl ?_
    refine q_bipush (v := 6) X dL_law_236 (by decide) ?_
    refine q_iadd X dL_law_238 ?_
    refine q_sld X hX (8 * t + 6) (nI_add _ 6) (by omega) dL_law_239 ?_
    refine q_aload_n X dL_law_240 1 rfl ?_
    refine q_iload X dL_law_241 5 rfl ?_
    refine q_bipush (v := 7) X dL_law_243 (by decide) ?_
    refine q_iadd X dL_law_245 ?_
    refine q_sld X hX (8 * t + 7) (nI_add _ 7) (by omega) dL_law_246 ?_
    rw [pU_cm hd2]
    obtain ⟨fr0, hr0⟩ : ∃ fs0, MR r = some (oB 13 fs0) := isRF.ob hR
    refine q_callVF X (Mc := MR) (r_begin_n hW hR hf) pU_l Y_X13_begin tw_1242 tw_1243 tw_1244 (pU_l _ _ hr0) rfl (by omega) rfl rfl (Nat.le_of_ble_eq_true rfl) (rc' := rc) (rs' := rs) (by omega) (by omega) dL_law_247 (fun v M8 hp hm => ?_)
    obtain ⟨eM, hd3⟩ := mJ_pU (pU_dc hd2) hm
    rw [eM]
    clear eM hm
    obtain ⟨hv8, hR2⟩ := rfP_s ho hp
    subst hv8
    obtain ⟨vA, nA, pA, plA, dg, dla, dha, dva, dza, dvf, dzf, vf, nf, pf, tk, su, le, gr, hB2⟩ := id hR2
    show qJ G F _ 8 (pU M8 (pU MV2 (mO G ou f2))) rc rs 250 [(5, .int (cBe E)), (0, .ref b), (1, .ref g), (2, .ref r), (3, .ref ou), (4, .int (nI (8 * t)))] []
    refine q_aload_n X dL_law_250 3 rfl ?_
    refine q_callVp X (c_thrown (pU_l _ _ hB2.1)) Y_X13_thrown tw_1238 tw_1239 tw_1240 (pU_l _ _ hB2.1) rfl (by omega) rfl rfl (Nat.le_of_ble_eq_true rfl) dL_law_251 ?_
    refine q_iload X dL_law_254 0 rfl ?_
    refine q_icmp_eq X 261 dL_law_256 (by decide) (fun c_2 => ?_) (fun c_2 => absurd rfl c_2)
    refine q_goto X 2066 dL_law_261 (by decide) ?_
    refine q_sub [1, 2, 3, 4, 5] rfl ?_
    exact kk _ ⟨MV2, M8, f2, _, pU_cm hd3, hou2, pU_dc hd3, hV2, hR2⟩
