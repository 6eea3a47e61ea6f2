/-! THE LAW: its questions -/
def qLaw : Qt := fun r _ _ _ _ => r = some (.int 1)
theorem lgc {x : Int64} : lg_cmp x x = 0 := by
  unfold lg_cmp
  rw [if_neg (fun h : x > x => Int64.lt_irrefl h), if_pos rfl]
section LAWQ
variable {g : GS} {l : Launch} {Γ : Sh} {iv : IV} {rv : RV} {lv : LV}
theorem rn_sst {M : MI} {R : Room} {Q : Qt} {k n pc : Nat} {ls st : List Value} {v : Value} (kk : Rn g l M R Q k n pc ls (v :: st) Γ iv rv lv) : Rn g l M R Q k n pc ls ((some v).toList ++ st) Γ iv rv lv := kk
def KK (g : GS) (l : Launch) (x : Int32) (i : Nat) : Prop := ∀ (j : Jt) (Γ : Sh) (iv : IV) (rv : RV) (lv : LV) (k s : Nat), JG j → CI j Γ iv rv → MI_ j Γ iv rv → k ≤ 1005 + 5 * i → s ≤ 10212 + 212 * i → Rn g l mL_law room_1 qLaw k s 1099 [.ref 1, .ref 14, .ref 75, .int x] [] Γ iv rv lv
set_option maxRecDepth 4000 in
theorem lq_ground {i k s : Nat} {x : Int32} {j : Jt} (hx : x = nI i) (hi : i + 6 ≤ g.oln 1) (hL : g.oln 1 ≤ 384) (hj : JG j) (hc : CI j Γ iv rv) (hm : MI_ j Γ iv rv) (hk : k ≤ 1000 + 5 * i) (hs : s ≤ 10000 + 212 * i) (kk : KK g l x i) : Rn g l mL_law room_1 qLaw k s 168 [.ref 1, .ref 14, .ref 75, .int x] [] Γ iv rv lv := by
  have hL31 : g.oln 1 < 2 ^ 31 := by omega
  refine r_aload1 dL_law_168 ?_
  refine r_aload0 dL_law_169 ?_
  refine r_iload3 dL_law_170 ?_
  refine rn_iconst (1) dL_law_171 (by decide) ?_
  refine rn_iadd dL_law_172 ?_
  refine rn_sald (i + 1) dL_law_173 (by rw [hx, show (1 : Int32) = nI 1 by decide, nI_add]) (by omega) hL31 ?_
  refine r_aload0 dL_law_174 ?_
  refine r_iload3 dL_law_175 ?_
  refine rn_iconst (2) dL_law_176 (by decide) ?_
  refine rn_iadd dL_law_177 ?_
  refine rn_sald (i + 2) dL_law_178 (by rw [hx, show (2 : Int32) = nI 2 by decide, nI_add]) (by omega) hL31 ?_
  refine r_aload0 dL_law_179 ?_
  refine r_iload3 dL_law_180 ?_
  refine rn_iconst (3) dL_law_181 (by decide) ?_
  refine rn_iadd dL_law_182 ?_
  refine rn_sald (i + 3) dL_law_183 (by rw [hx, show (3 : Int32) = nI 3 by decide, nI_add]) (by omega) hL31 ?_
  refine rn_callV (As := [.int (g.oiv 1 (i + 1)), .int (g.oiv 1 (i + 2)), .int (g.oiv 1 (i + 3))]) (mc := 0) (ms := 0) dL_law_184 ov_X6_ground ml_L_13 hc.sh.1 rfl rfl (Nat.zero_le _) (Nat.le_of_ble_eq_true rfl) (Nat.le_of_ble_eq_true rfl) (by show _ ≤ 600000; omega) (by show _ ≤ 7302249; omega) (lc_ground 0 (g.oiv 1 (i + 1)) (g.oiv 1 (i + 2)) (g.oiv 1 (i + 3)) hj hc hm) (fun r1 Γ1 iv1 rv1 lv1 h1 => ?_)
  obtain ⟨rfl, hc, hm⟩ := h1
  refine rn_sst ?_
  refine r_aload2 dL_law_187 ?_
  refine r_aload0 dL_law_188 ?_
  refine r_iload3 dL_law_189 ?_
  refine rn_iconst (1) dL_law_190 (by decide) ?_
  refine rn_iadd dL_law_191 ?_
  refine rn_sald (i + 1) dL_law_192 (by rw [hx, show (1 : Int32) = nI 1 by decide, nI_add]) (by omega) hL31 ?_
  refine r_aload0 dL_law_193 ?_
  refine r_iload3 dL_law_194 ?_
  refine rn_iconst (2) dL_law_195 (by decide) ?_
  refine rn_iadd dL_law_196 ?_
  refine rn_sald (i + 2) dL_law_197 (by rw [hx, show (2 : Int32) = nI 2 by decide, nI_add]) (by omega) hL31 ?_
  refine r_aload0 dL_law_198 ?_
  refine r_iload3 dL_law_199 ?_
  refine rn_iconst (3) dL_law_200 (by decide) ?_
  refine rn_iadd dL_law_201 ?_
  refine rn_sald (i + 3) dL_law_202 (by rw [hx, show (3 : Int32) = nI 3 by decide, nI_add]) (by omega) hL31 ?_
  refine rn_callV (As := [.int (g.oiv 1 (i + 1)), .int (g.oiv 1 (i + 2)), .int (g.oiv 1 (i + 3))]) (mc := 0) (ms := 0) dL_law_203 ov_X7_ground ml_L_17 hm.sh.1 rfl rfl (Nat.le_of_ble_eq_true rfl) (Nat.le_of_ble_eq_true rfl) (Nat.le_of_ble_eq_true rfl) (by show _ ≤ 600000; omega) (by show _ ≤ 7302249; omega) (lm_ground 0 (g.oiv 1 (i + 1)) (g.oiv 1 (i + 2)) (g.oiv 1 (i + 3)) hj hc hm) (fun r2 Γ2 iv2 rv2 lv2 h2 => ?_)
  obtain ⟨rfl, hc, hm⟩ := h2
  refine rn_sst ?_
  refine rn_icmp_eq 1099 dL_law_206 rfl (fun _ => ?_) (fun h => absurd rfl h)
  exact kk _ _ _ _ _ _ _ (hj.rd (gq_ground hj.gq)) hc hm (by omega) (by omega)
set_option maxRecDepth 4000 in
theorem lq_yard {i k s : Nat} {x : Int32} {j : Jt} (hx : x = nI i) (hi : i + 6 ≤ g.oln 1) (hL : g.oln 1 ≤ 384) (hj : JG j) (hc : CI j Γ iv rv) (hm : MI_ j Γ iv rv) (hk : k ≤ 1000 + 5 * i) (hs : s ≤ 10000 + 212 * i) (kk : KK g l x i) : Rn g l mL_law room_1 qLaw k s 211 [.ref 1, .ref 14, .ref 75, .int x] [] Γ iv rv lv := by
  have hL31 : g.oln 1 < 2 ^ 31 := by omega
  refine r_aload1 dL_law_211 ?_
  refine r_aload0 dL_law_212 ?_
  refine r_iload3 dL_law_213 ?_
  refine rn_iconst (1) dL_law_214 (by decide) ?_
  refine rn_iadd dL_law_215 ?_
  refine rn_sald (i + 1) dL_law_216 (by rw [hx, show (1 : Int32) = nI 1 by decide, nI_add]) (by omega) hL31 ?_
  refine r_aload0 dL_law_217 ?_
  refine r_iload3 dL_law_218 ?_
  refine rn_iconst (2) dL_law_219 (by decide) ?_
  refine rn_iadd dL_law_220 ?_
  refine rn_sald (i + 2) dL_law_221 (by rw [hx, show (2 : Int32) = nI 2 by decide, nI_add]) (by omega) hL31 ?_
  refine rn_callV (As := [.int (g.oiv 1 (i + 1)), .int (g.oiv 1 (i + 2))]) (mc := 0) (ms := 0) dL_law_222 ov_X6_yard ml_L_18 hc.sh.1 rfl rfl (Nat.zero_le _) (Nat.le_of_ble_eq_true rfl) (Nat.le_of_ble_eq_true rfl) (by show _ ≤ 600000; omega) (by show _ ≤ 7302249; omega) (lc_yard 0 (g.oiv 1 (i + 1)) (g.oiv 1 (i + 2)) hj hc hm) (fun r1 Γ1 iv1 rv1 lv1 h1 => ?_)
  obtain ⟨rfl, hc, hm⟩ := h1
  refine rn_sst ?_
  refine r_aload2 dL_law_225 ?_
  refine r_aload0 dL_law_226 ?_
  refine r_iload3 dL_law_227 ?_
  refine rn_iconst (1) dL_law_228 (by decide) ?_
  refine rn_iadd dL_law_229 ?_
  refine rn_sald (i + 1) dL_law_230 (by rw [hx, show (1 : Int32) = nI 1 by decide, nI_add]) (by omega) hL31 ?_
  refine r_aload0 dL_law_231 ?_
  refine r_iload3 dL_law_232 ?_
  refine rn_iconst (2) dL_law_233 (by decide) ?_
  refine rn_iadd dL_law_234 ?_
  refine rn_sald (i + 2) dL_law_235 (by rw [hx, show (2 : Int32) = nI 2 by decide, nI_add]) (by omega) hL31 ?_
  refine rn_callV (As := [.int (g.oiv 1 (i + 1)), .int (g.oiv 1 (i + 2))]) (mc := 0) (ms := 0) dL_law_236 ov_X7_yard ml_L_22 hm.sh.1 rfl rfl (Nat.le_of_ble_eq_true rfl) (Nat.le_of_ble_eq_true rfl) (Nat.le_of_ble_eq_true rfl) (by show _ ≤ 600000; omega) (by show _ ≤ 7302249; omega) (lm_yard 0 (g.oiv 1 (i + 1)) (g.oiv 1 (i + 2)) hj hc hm) (fun r2 Γ2 iv2 rv2 lv2 h2 => ?_)
  obtain ⟨rfl, hc, hm⟩ := h2
  refine rn_sst ?_
  refine rn_icmp_eq 1099 dL_law_239 rfl (fun _ => ?_) (fun h => absurd rfl h)
  exact kk _ _ _ _ _ _ _ hj hc hm (by omega) (by omega)
set_option maxRecDepth 4000 in
theorem lq_gang {i k s : Nat} {x : Int32} {j : Jt} (hx : x = nI i) (hi : i + 6 ≤ g.oln 1) (hL : g.oln 1 ≤ 384) (hj : JG j) (hc : CI j Γ iv rv) (hm : MI_ j Γ iv rv) (hk : k ≤ 1000 + 5 * i) (hs : s ≤ 10000 + 212 * i) (kk : KK g l x i) : Rn g l mL_law room_1 qLaw k s 244 [.ref 1, .ref 14, .ref 75, .int x] [] Γ iv rv lv := by
  have hL31 : g.oln 1 < 2 ^ 31 := by omega
  refine r_aload1 dL_law_244 ?_
  refine r_aload0 dL_law_245 ?_
  refine r_iload3 dL_law_246 ?_
  refine rn_iconst (1) dL_law_247 (by decide) ?_
  refine rn_iadd dL_law_248 ?_
  refine rn_sald (i + 1) dL_law_249 (by rw [hx, show (1 : Int32) = nI 1 by decide, nI_add]) (by omega) hL31 ?_
  refine r_aload0 dL_law_250 ?_
  refine r_iload3 dL_law_251 ?_
  refine rn_iconst (2) dL_law_252 (by decide) ?_
  refine rn_iadd dL_law_253 ?_
  refine rn_sald (i + 2) dL_law_254 (by rw [hx, show (2 : Int32) = nI 2 by decide, nI_add]) (by omega) hL31 ?_
  refine r_aload0 dL_law_255 ?_
  refine r_iload3 dL_law_256 ?_
  refine rn_iconst (3) dL_law_257 (by decide) ?_
  refine rn_iadd dL_law_258 ?_
  refine rn_sald (i + 3) dL_law_259 (by rw [hx, show (3 : Int32) = nI 3 by decide, nI_add]) (by omega) hL31 ?_
  refine rn_callV (As := [.int (g.oiv 1 (i + 1)), .int (g.oiv 1 (i + 2)), .int (g.oiv 1 (i + 3))]) (mc := 0) (ms := 0) dL_law_260 ov_X6_gang ml_L_23 hc.sh.1 rfl rfl (Nat.zero_le _) (Nat.le_of_ble_eq_true rfl) (Nat.le_of_ble_eq_true rfl) (by show _ ≤ 600000; omega) (by show _ ≤ 7302249; omega) (lc_gang 0 (g.oiv 1 (i + 1)) (g.oiv 1 (i + 2)) (g.oiv 1 (i + 3)) hj hc hm) (fun r1 Γ1 iv1 rv1 lv1 h1 => ?_)
  obtain ⟨rfl, hc, hm⟩ := h1
  refine rn_sst ?_
  refine r_aload2 dL_law_263 ?_
  refine r_aload0 dL_law_264 ?_
  refine r_iload3 dL_law_265 ?_
  refine rn_iconst (1) dL_law_266 (by decide) ?_
  refine rn_iadd dL_law_267 ?_
  refine rn_sald (i + 1) dL_law_268 (by rw [hx, show (1 : Int32) = nI 1 by decide, nI_add]) (by omega) hL31 ?_
  refine r_aload0 dL_law_269 ?_
  refine r_iload3 dL_law_270 ?_
  refine rn_iconst (2) dL_law_271 (by decide) ?_
  refine rn_iadd dL_law_272 ?_
  refine rn_sald (i + 2) dL_law_273 (by rw [hx, show (2 : Int32) = nI 2 by decide, nI_add]) (by omega) hL31 ?_
  refine r_aload0 dL_law_274 ?_
  refine r_iload3 dL_law_275 ?_
  refine rn_iconst (3) dL_law_276 (by decide) ?_
  refine rn_iadd dL_law_277 ?_
  refine rn_sald (i + 3) dL_law_278 (by rw [hx, show (3 : Int32) = nI 3 by decide, nI_add]) (by omega) hL31 ?_
  refine rn_callV (As := [.int (g.oiv 1 (i + 1)), .int (g.oiv 1 (i + 2)), .int (g.oiv 1 (i + 3))]) (mc := 0) (ms := 0) dL_law_279 ov_X7_gang ml_L_26 hm.sh.1 rfl rfl (Nat.le_of_ble_eq_true rfl) (Nat.le_of_ble_eq_true rfl) (Nat.le_of_ble_eq_true rfl) (by show _ ≤ 600000; omega) (by show _ ≤ 7302249; omega) (lm_gang 0 (g.oiv 1 (i + 1)) (g.oiv 1 (i + 2)) (g.oiv 1 (i + 3)) hj hc hm) (fun r2 Γ2 iv2 rv2 lv2 h2 => ?_)
  obtain ⟨rfl, hc, hm⟩ := h2
  refine rn_sst ?_
  refine rn_icmp_eq 1099 dL_law_282 rfl (fun _ => ?_) (fun h => absurd rfl h)
  exact kk _ _ _ _ _ _ _ (hj.rd (gq_gang hj.gq)) hc hm (by omega) (by omega)
set_option maxRecDepth 4000 in
theorem lq_set {i k s : Nat} {x : Int32} {j : Jt} (hx : x = nI i) (hi : i + 6 ≤ g.oln 1) (hL : g.oln 1 ≤ 384) (hj : JG j) (hc : CI j Γ iv rv) (hm : MI_ j Γ iv rv) (hk : k ≤ 1000 + 5 * i) (hs : s ≤ 10000 + 212 * i) (kk : KK g l x i) : Rn g l mL_law room_1 qLaw k s 287 [.ref 1, .ref 14, .ref 75, .int x] [] Γ iv rv lv := by
  have hL31 : g.oln 1 < 2 ^ 31 := by omega
  refine r_aload1 dL_law_287 ?_
  refine r_aload0 dL_law_288 ?_
  refine r_iload3 dL_law_289 ?_
  refine rn_iconst (1) dL_law_290 (by decide) ?_
  refine rn_iadd dL_law_291 ?_
  refine rn_sald (i + 1) dL_law_292 (by rw [hx, show (1 : Int32) = nI 1 by decide, nI_add]) (by omega) hL31 ?_
  refine r_aload0 dL_law_293 ?_
  refine r_iload3 dL_law_294 ?_
  refine rn_iconst (2) dL_law_295 (by decide) ?_
  refine rn_iadd dL_law_296 ?_
  refine rn_sald (i + 2) dL_law_297 (by rw [hx, show (2 : Int32) = nI 2 by decide, nI_add]) (by omega) hL31 ?_
  refine rn_callV (As := [.int (g.oiv 1 (i + 1)), .int (g.oiv 1 (i + 2))]) (mc := 0) (ms := 0) dL_law_298 ov_X6_set ml_L_27 hc.sh.1 rfl rfl (Nat.zero_le _) (Nat.le_of_ble_eq_true rfl) (Nat.le_of_ble_eq_true rfl) (by show _ ≤ 600000; omega) (by show _ ≤ 7302249; omega) (lc_set 0 (g.oiv 1 (i + 1)) (g.oiv 1 (i + 2)) hj hc hm) (fun r1 Γ1 iv1 rv1 lv1 h1 => ?_)
  obtain ⟨rfl, hc, hm⟩ := h1
  refine rn_sst ?_
  refine r_aload2 dL_law_301 ?_
  refine r_aload0 dL_law_302 ?_
  refine r_iload3 dL_law_303 ?_
  refine rn_iconst (1) dL_law_304 (by decide) ?_
  refine rn_iadd dL_law_305 ?_
  refine rn_sald (i + 1) dL_law_306 (by rw [hx, show (1 : Int32) = nI 1 by decide, nI_add]) (by omega) hL31 ?_
  refine r_aload0 dL_law_307 ?_
  refine r_iload3 dL_law_308 ?_
  refine rn_iconst (2) dL_law_309 (by decide) ?_
  refine rn_iadd dL_law_310 ?_
  refine rn_sald (i + 2) dL_law_311 (by rw [hx, show (2 : Int32) = nI 2 by decide, nI_add]) (by omega) hL31 ?_
  refine rn_callV (As := [.int (g.oiv 1 (i + 1)), .int (g.oiv 1 (i + 2))]) (mc := 0) (ms := 0) dL_law_312 ov_X7_set ml_L_30 hm.sh.1 rfl rfl (Nat.le_of_ble_eq_true rfl) (Nat.le_of_ble_eq_true rfl) (Nat.le_of_ble_eq_true rfl) (by show _ ≤ 600000; omega) (by show _ ≤ 7302249; omega) (lm_set 0 (g.oiv 1 (i + 1)) (g.oiv 1 (i + 2)) hj hc hm) (fun r2 Γ2 iv2 rv2 lv2 h2 => ?_)
  obtain ⟨rfl, hc, hm⟩ := h2
  refine rn_sst ?_
  refine rn_icmp_eq 1099 dL_law_315 rfl (fun _ => ?_) (fun h => absurd rfl h)
  exact kk _ _ _ _ _ _ _ (hj.rd (gq_set hj.gq)) hc hm (by omega) (by omega)
set_option maxRecDepth 4000 in
theorem lq_told {i k s : Nat} {x : Int32} {j : Jt} (hx : x = nI i) (hi : i + 6 ≤ g.oln 1) (hL : g.oln 1 ≤ 384) (hj : JG j) (hc : CI j Γ iv rv) (hm : MI_ j Γ iv rv) (hk : k ≤ 1000 + 5 * i) (hs : s ≤ 10000 + 212 * i) (kk : KK g l x i) : Rn g l mL_law room_1 qLaw k s 320 [.ref 1, .ref 14, .ref 75, .int x] [] Γ iv rv lv := by
  have hL31 : g.oln 1 < 2 ^ 31 := by omega
  refine r_aload1 dL_law_320 ?_
  refine r_aload0 dL_law_321 ?_
  refine r_iload3 dL_law_322 ?_
  refine rn_iconst (1) dL_law_323 (by decide) ?_
  refine rn_iadd dL_law_324 ?_
  refine rn_sald (i + 1) dL_law_325 (by rw [hx, show (1 : Int32) = nI 1 by decide, nI_add]) (by omega) hL31 ?_
  refine r_aload0 dL_law_326 ?_
  refine r_iload3 dL_law_327 ?_
  refine rn_iconst (2) dL_law_328 (by decide) ?_
  refine rn_iadd dL_law_329 ?_
  refine rn_sald (i + 2) dL_law_330 (by rw [hx, show (2 : Int32) = nI 2 by decide, nI_add]) (by omega) hL31 ?_
  refine rn_callV (As := [.int (g.oiv 1 (i + 1)), .int (g.oiv 1 (i + 2))]) (mc := 0) (ms := 0) dL_law_331 ov_X6_told ml_L_31 hc.sh.1 rfl rfl (Nat.zero_le _) (Nat.le_of_ble_eq_true rfl) (Nat.le_of_ble_eq_true rfl) (by show _ ≤ 600000; omega) (by show _ ≤ 7302249; omega) (lc_told 0 (g.oiv 1 (i + 1)) (g.oiv 1 (i + 2)) hj hc hm) (fun r1 Γ1 iv1 rv1 lv1 h1 => ?_)
  obtain ⟨rfl, hc, hm⟩ := h1
  refine rn_sst ?_
  refine r_aload2 dL_law_334 ?_
  refine r_aload0 dL_law_335 ?_
  refine r_iload3 dL_law_336 ?_
  refine rn_iconst (1) dL_law_337 (by decide) ?_
  refine rn_iadd dL_law_338 ?_
  refine rn_sald (i + 1) dL_law_339 (by rw [hx, show (1 : Int32) = nI 1 by decide, nI_add]) (by omega) hL31 ?_
  refine r_aload0 dL_law_340 ?_
  refine r_iload3 dL_law_341 ?_
  refine rn_iconst (2) dL_law_342 (by decide) ?_
  refine rn_iadd dL_law_343 ?_
  refine rn_sald (i + 2) dL_law_344 (by rw [hx, show (2 : Int32) = nI 2 by decide, nI_add]) (by omega) hL31 ?_
  refine rn_callV (As := [.int (g.oiv 1 (i + 1)), .int (g.oiv 1 (i + 2))]) (mc := 0) (ms := 0) dL_law_345 ov_X7_told ml_L_34 hm.sh.1 rfl rfl (Nat.le_of_ble_eq_true rfl) (Nat.le_of_ble_eq_true rfl) (Nat.le_of_ble_eq_true rfl) (by show _ ≤ 600000; omega) (by show _ ≤ 7302249; omega) (lm_told 0 (g.oiv 1 (i + 1)) (g.oiv 1 (i + 2)) hj hc hm) (fun r2 Γ2 iv2 rv2 lv2 h2 => ?_)
  obtain ⟨rfl, hc, hm⟩ := h2
  refine rn_sst ?_
  refine rn_icmp_eq 1099 dL_law_348 rfl (fun _ => ?_) (fun h => absurd rfl h)
  exact kk _ _ _ _ _ _ _ hj hc hm (by omega) (by omega)
set_option maxRecDepth 4000 in
theorem lq_feed {i k s : Nat} {x : Int32} {j : Jt} (hx : x = nI i) (hi : i + 6 ≤ g.oln 1) (hL : g.oln 1 ≤ 384) (hj : JG j) (hc : CI j Γ iv rv) (hm : MI_ j Γ iv rv) (hk : k ≤ 1000 + 5 * i) (hs : s ≤ 10000 + 212 * i) (kk : KK g l x i) : Rn g l mL_law room_1 qLaw k s 353 [.ref 1, .ref 14, .ref 75, .int x] [] Γ iv rv lv := by
  have hL31 : g.oln 1 < 2 ^ 31 := by omega
  refine r_aload1 dL_law_353 ?_
  refine r_aload0 dL_law_354 ?_
  refine r_iload3 dL_law_355 ?_
  refine rn_iconst (1) dL_law_356 (by decide) ?_
  refine rn_iadd dL_law_357 ?_
  refine rn_sald (i + 1) dL_law_358 (by rw [hx, show (1 : Int32) = nI 1 by decide, nI_add]) (by omega) hL31 ?_
  refine rn_callV (As := [.int (g.oiv 1 (i + 1))]) (mc := 0) (ms := 0) dL_law_359 ov_X6_feed ml_L_35 hc.sh.1 rfl rfl (Nat.zero_le _) (Nat.le_of_ble_eq_true rfl) (Nat.le_of_ble_eq_true rfl) (by show _ ≤ 600000; omega) (by show _ ≤ 7302249; omega) (lc_feed 0 (g.oiv 1 (i + 1)) hj hc hm) (fun r1 Γ1 iv1 rv1 lv1 h1 => ?_)
  obtain ⟨rfl, hc, hm⟩ := h1
  refine rn_sst ?_
  refine r_aload2 dL_law_362 ?_
  refine r_aload0 dL_law_363 ?_
  refine r_iload3 dL_law_364 ?_
  refine rn_iconst (1) dL_law_365 (by decide) ?_
  refine rn_iadd dL_law_366 ?_
  refine rn_sald (i + 1) dL_law_367 (by rw [hx, show (1 : Int32) = nI 1 by decide, nI_add]) (by omega) hL31 ?_
  refine rn_callV (As := [.int (g.oiv 1 (i + 1))]) (mc := 0) (ms := 0) dL_law_368 ov_X7_feed ml_L_39 hm.sh.1 rfl rfl (Nat.le_of_ble_eq_true rfl) (Nat.le_of_ble_eq_true rfl) (Nat.le_of_ble_eq_true rfl) (by show _ ≤ 600000; omega) (by show _ ≤ 7302249; omega) (lm_feed 0 (g.oiv 1 (i + 1)) hj hc hm) (fun r2 Γ2 iv2 rv2 lv2 h2 => ?_)
  obtain ⟨rfl, hc, hm⟩ := h2
  refine rn_sst ?_
  refine rn_icmp_eq 1099 dL_law_371 rfl (fun _ => ?_) (fun h => absurd rfl h)
  exact kk _ _ _ _ _ _ _ (hj.fd _) hc hm (by omega) (by omega)
set_option maxRecDepth 4000 in
theorem lq_text {i k s : Nat} {x : Int32} {j : Jt} (hx : x = nI i) (hi : i + 6 ≤ g.oln 1) (hL : g.oln 1 ≤ 384) (hj : JG j) (hc : CI j Γ iv rv) (hm : MI_ j Γ iv rv) (hk : k ≤ 1000 + 5 * i) (hs : s ≤ 10000 + 212 * i) (kk : KK g l x i) : Rn g l mL_law room_1 qLaw k s 376 [.ref 1, .ref 14, .ref 75, .int x] [] Γ iv rv lv := by
  have hL31 : g.oln 1 < 2 ^ 31 := by omega
  refine r_aload1 dL_law_376 ?_
  refine rn_callV (As := []) (mc := 5) (ms := 212) dL_law_377 ov_X6_text ml_L_40 hc.sh.1 rfl rfl (Nat.zero_le _) (Nat.le_of_ble_eq_true rfl) (Nat.le_of_ble_eq_true rfl) (by show _ ≤ 600000; omega) (by show _ ≤ 7302249; omega) (lc_text 0  hj hc hm) (fun r1 Γ1 iv1 rv1 lv1 h1 => ?_)
  obtain ⟨rfl, hc, hm⟩ := h1
  refine rn_sst ?_
  refine r_aload2 dL_law_380 ?_
  refine rn_callV (As := []) (mc := 0) (ms := 0) dL_law_381 ov_X7_text ml_L_44 hm.sh.1 rfl rfl (Nat.le_of_ble_eq_true rfl) (Nat.le_of_ble_eq_true rfl) (Nat.le_of_ble_eq_true rfl) (by show _ ≤ 600000; omega) (by show _ ≤ 7302249; omega) (lm_text 0  hj hc hm) (fun r2 Γ2 iv2 rv2 lv2 h2 => ?_)
  obtain ⟨rfl, hc, hm⟩ := h2
  refine rn_sst ?_
  refine rn_icmp_eq 1099 dL_law_384 rfl (fun _ => ?_) (fun h => absurd rfl h)
  exact kk _ _ _ _ _ _ _ hj.tx hc hm (by omega) (by omega)
set_option maxRecDepth 4000 in
theorem lq_force {i k s : Nat} {x : Int32} {j : Jt} (hx : x = nI i) (hi : i + 6 ≤ g.oln 1) (hL : g.oln 1 ≤ 384) (hj : JG j) (hc : CI j Γ iv rv) (hm : MI_ j Γ iv rv) (hk : k ≤ 1000 + 5 * i) (hs : s ≤ 10000 + 212 * i) (kk : KK g l x i) : Rn g l mL_law room_1 qLaw k s 389 [.ref 1, .ref 14, .ref 75, .int x] [] Γ iv rv lv := by
  have hL31 : g.oln 1 < 2 ^ 31 := by omega
  refine r_aload1 dL_law_389 ?_
  refine r_aload0 dL_law_390 ?_
  refine r_iload3 dL_law_391 ?_
  refine rn_iconst (1) dL_law_392 (by decide) ?_
  refine rn_iadd dL_law_393 ?_
  refine rn_sald (i + 1) dL_law_394 (by rw [hx, show (1 : Int32) = nI 1 by decide, nI_add]) (by omega) hL31 ?_
  refine rn_callV (As := [.int (g.oiv 1 (i + 1))]) (mc := 0) (ms := 0) dL_law_395 ov_X6_force ml_L_45 hc.sh.1 rfl rfl (Nat.zero_le _) (Nat.le_of_ble_eq_true rfl) (Nat.le_of_ble_eq_true rfl) (by show _ ≤ 600000; omega) (by show _ ≤ 7302249; omega) (lc_force 0 (g.oiv 1 (i + 1)) hj hc hm) (fun r1 Γ1 iv1 rv1 lv1 h1 => ?_)
  obtain ⟨rfl, hc, hm⟩ := h1
  refine rn_sst ?_
  refine r_aload2 dL_law_398 ?_
  refine r_aload0 dL_law_399 ?_
  refine r_iload3 dL_law_400 ?_
  refine rn_iconst (1) dL_law_401 (by decide) ?_
  refine rn_iadd dL_law_402 ?_
  refine rn_sald (i + 1) dL_law_403 (by rw [hx, show (1 : Int32) = nI 1 by decide, nI_add]) (by omega) hL31 ?_
  refine rn_callV (As := [.int (g.oiv 1 (i + 1))]) (mc := 0) (ms := 0) dL_law_404 ov_X7_force ml_L_48 hm.sh.1 rfl rfl (Nat.le_of_ble_eq_true rfl) (Nat.le_of_ble_eq_true rfl) (Nat.le_of_ble_eq_true rfl) (by show _ ≤ 600000; omega) (by show _ ≤ 7302249; omega) (lm_force 0 (g.oiv 1 (i + 1)) hj hc hm) (fun r2 Γ2 iv2 rv2 lv2 h2 => ?_)
  obtain ⟨rfl, hc, hm⟩ := h2
  refine rn_sst ?_
  refine rn_icmp_eq 1099 dL_law_407 rfl (fun _ => ?_) (fun h => absurd rfl h)
  exact kk _ _ _ _ _ _ _ (hj.rd (gq_force hj.gq hj.t1 hj.t6)) hc hm (by omega) (by omega)
set_option maxRecDepth 4000 in
theorem lq_day {i k s : Nat} {x : Int32} {j : Jt} (hx : x = nI i) (hi : i + 6 ≤ g.oln 1) (hL : g.oln 1 ≤ 384) (hj : JG j) (hc : CI j Γ iv rv) (hm : MI_ j Γ iv rv) (hk : k ≤ 1000 + 5 * i) (hs : s ≤ 10000 + 212 * i) (kk : KK g l x i) : Rn g l mL_law room_1 qLaw k s 412 [.ref 1, .ref 14, .ref 75, .int x] [] Γ iv rv lv := by
  have hL31 : g.oln 1 < 2 ^ 31 := by omega
  refine r_aload1 dL_law_412 ?_
  refine rn_callV (As := []) (mc := 0) (ms := 0) dL_law_413 ov_X6_day ml_L_49 hc.sh.1 rfl rfl (Nat.zero_le _) (Nat.le_of_ble_eq_true rfl) (Nat.le_of_ble_eq_true rfl) (by show _ ≤ 600000; omega) (by show _ ≤ 7302249; omega) (lc_day 0  hj hc hm) (fun r1 Γ1 iv1 rv1 lv1 h1 => ?_)
  obtain ⟨rfl, hc, hm⟩ := h1
  refine rn_sst ?_
  refine r_aload2 dL_law_416 ?_
  refine rn_callV (As := []) (mc := 0) (ms := 0) dL_law_417 ov_X7_day ml_L_52 hm.sh.1 rfl rfl (Nat.le_of_ble_eq_true rfl) (Nat.le_of_ble_eq_true rfl) (Nat.le_of_ble_eq_true rfl) (by show _ ≤ 600000; omega) (by show _ ≤ 7302249; omega) (lm_day 0  hj hc hm) (fun r2 Γ2 iv2 rv2 lv2 h2 => ?_)
  obtain ⟨rfl, hc, hm⟩ := h2
  refine rn_sst ?_
  refine rn_icmp_eq 1099 dL_law_420 rfl (fun _ => ?_) (fun h => absurd rfl h)
  exact kk _ _ _ _ _ _ _ (hj.rd (gq_pass hj.gq)) hc hm (by omega) (by omega)
set_option maxRecDepth 4000 in
theorem lq_run {i k s : Nat} {x : Int32} {j : Jt} (hx : x = nI i) (hi : i + 6 ≤ g.oln 1) (hL : g.oln 1 ≤ 384) (hj : JG j) (hc : CI j Γ iv rv) (hm : MI_ j Γ iv rv) (hk : k ≤ 1000 + 5 * i) (hs : s ≤ 10000 + 212 * i) (kk : KK g l x i) : Rn g l mL_law room_1 qLaw k s 425 [.ref 1, .ref 14, .ref 75, .int x] [] Γ iv rv lv := by
  have hL31 : g.oln 1 < 2 ^ 31 := by omega
  refine r_aload1 dL_law_425 ?_
  refine r_aload0 dL_law_426 ?_
  refine r_iload3 dL_law_427 ?_
  refine rn_iconst (1) dL_law_428 (by decide) ?_
  refine rn_iadd dL_law_429 ?_
  refine rn_sald (i + 1) dL_law_430 (by rw [hx, show (1 : Int32) = nI 1 by decide, nI_add]) (by omega) hL31 ?_
  refine rn_callV (As := [.int (g.oiv 1 (i + 1))]) (mc := 0) (ms := 0) dL_law_431 ov_X6_run ml_L_53 hc.sh.1 rfl rfl (Nat.zero_le _) (Nat.le_of_ble_eq_true rfl) (Nat.le_of_ble_eq_true rfl) (by show _ ≤ 600000; omega) (by show _ ≤ 7302249; omega) (lc_run 0 (g.oiv 1 (i + 1)) hj hc hm) (fun r1 Γ1 iv1 rv1 lv1 h1 => ?_)
  obtain ⟨rfl, hc, hm⟩ := h1
  refine rn_sst ?_
  refine r_aload2 dL_law_434 ?_
  refine r_aload0 dL_law_435 ?_
  refine r_iload3 dL_law_436 ?_
  refine rn_iconst (1) dL_law_437 (by decide) ?_
  refine rn_iadd dL_law_438 ?_
  refine rn_sald (i + 1) dL_law_439 (by rw [hx, show (1 : Int32) = nI 1 by decide, nI_add]) (by omega) hL31 ?_
  refine rn_callV (As := [.int (g.oiv 1 (i + 1))]) (mc := 0) (ms := 0) dL_law_440 ov_X7_run ml_L_56 hm.sh.1 rfl rfl (Nat.le_of_ble_eq_true rfl) (Nat.le_of_ble_eq_true rfl) (Nat.le_of_ble_eq_true rfl) (by show _ ≤ 600000; omega) (by show _ ≤ 7302249; omega) (lm_run 0 (g.oiv 1 (i + 1)) hj hc hm) (fun r2 Γ2 iv2 rv2 lv2 h2 => ?_)
  obtain ⟨rfl, hc, hm⟩ := h2
  refine rn_sst ?_
  refine rn_icmp_eq 1099 dL_law_443 rfl (fun _ => ?_) (fun h => absurd rfl h)
  exact kk _ _ _ _ _ _ _ hj hc hm (by omega) (by omega)
set_option maxRecDepth 4000 in
theorem lq_done {i k s : Nat} {x : Int32} {j : Jt} (hx : x = nI i) (hi : i + 6 ≤ g.oln 1) (hL : g.oln 1 ≤ 384) (hj : JG j) (hc : CI j Γ iv rv) (hm : MI_ j Γ iv rv) (hk : k ≤ 1000 + 5 * i) (hs : s ≤ 10000 + 212 * i) (kk : KK g l x i) : Rn g l mL_law room_1 qLaw k s 448 [.ref 1, .ref 14, .ref 75, .int x] [] Γ iv rv lv := by
  have hL31 : g.oln 1 < 2 ^ 31 := by omega
  refine r_aload1 dL_law_448 ?_
  refine r_aload0 dL_law_449 ?_
  refine r_iload3 dL_law_450 ?_
  refine rn_iconst (1) dL_law_451 (by decide) ?_
  refine rn_iadd dL_law_452 ?_
  refine rn_sald (i + 1) dL_law_453 (by rw [hx, show (1 : Int32) = nI 1 by decide, nI_add]) (by omega) hL31 ?_
  refine r_aload0 dL_law_454 ?_
  refine r_iload3 dL_law_455 ?_
  refine rn_iconst (2) dL_law_456 (by decide) ?_
  refine rn_iadd dL_law_457 ?_
  refine rn_sald (i + 2) dL_law_458 (by rw [hx, show (2 : Int32) = nI 2 by decide, nI_add]) (by omega) hL31 ?_
  refine rn_callV (As := [.int (g.oiv 1 (i + 1)), .int (g.oiv 1 (i + 2))]) (mc := 0) (ms := 0) dL_law_459 ov_X6_done ml_L_57 hc.sh.1 rfl rfl (Nat.zero_le _) (Nat.le_of_ble_eq_true rfl) (Nat.le_of_ble_eq_true rfl) (by show _ ≤ 600000; omega) (by show _ ≤ 7302249; omega) (lc_done 0 (g.oiv 1 (i + 1)) (g.oiv 1 (i + 2)) hj hc hm) (fun r1 Γ1 iv1 rv1 lv1 h1 => ?_)
  obtain ⟨rfl, hc, hm⟩ := h1
  refine rn_sst ?_
  refine r_aload2 dL_law_462 ?_
  refine r_aload0 dL_law_463 ?_
  refine r_iload3 dL_law_464 ?_
  refine rn_iconst (1) dL_law_465 (by decide) ?_
  refine rn_iadd dL_law_466 ?_
  refine rn_sald (i + 1) dL_law_467 (by rw [hx, show (1 : Int32) = nI 1 by decide, nI_add]) (by omega) hL31 ?_
  refine r_aload0 dL_law_468 ?_
  refine r_iload3 dL_law_469 ?_
  refine rn_iconst (2) dL_law_470 (by decide) ?_
  refine rn_iadd dL_law_471 ?_
  refine rn_sald (i + 2) dL_law_472 (by rw [hx, show (2 : Int32) = nI 2 by decide, nI_add]) (by omega) hL31 ?_
  refine rn_callV (As := [.int (g.oiv 1 (i + 1)), .int (g.oiv 1 (i + 2))]) (mc := 0) (ms := 0) dL_law_473 ov_X7_done ml_L_60 hm.sh.1 rfl rfl (Nat.le_of_ble_eq_true rfl) (Nat.le_of_ble_eq_true rfl) (Nat.le_of_ble_eq_true rfl) (by show _ ≤ 600000; omega) (by show _ ≤ 7302249; omega) (lm_done 0 (g.oiv 1 (i + 1)) (g.oiv 1 (i + 2)) hj hc hm) (fun r2 Γ2 iv2 rv2 lv2 h2 => ?_)
  obtain ⟨rfl, hc, hm⟩ := h2
  refine rn_sst ?_
  refine rn_icmp_eq 1099 dL_law_476 rfl (fun _ => ?_) (fun h => absurd rfl h)
  exact kk _ _ _ _ _ _ _ hj hc hm (by omega) (by omega)
set_option maxRecDepth 4000 in
theorem lq_ease {i k s : Nat} {x : Int32} {j : Jt} (hx : x = nI i) (hi : i + 6 ≤ g.oln 1) (hL : g.oln 1 ≤ 384) (hj : JG j) (hc : CI j Γ iv rv) (hm : MI_ j Γ iv rv) (hk : k ≤ 1000 + 5 * i) (hs : s ≤ 10000 + 212 * i) (kk : KK g l x i) : Rn g l mL_law room_1 qLaw k s 481 [.ref 1, .ref 14, .ref 75, .int x] [] Γ iv rv lv := by
  have hL31 : g.oln 1 < 2 ^ 31 := by omega
  refine r_aload1 dL_law_481 ?_
  refine r_aload0 dL_law_482 ?_
  refine r_iload3 dL_law_483 ?_
  refine rn_iconst (1) dL_law_484 (by decide) ?_
  refine rn_iadd dL_law_485 ?_
  refine rn_sald (i + 1) dL_law_486 (by rw [hx, show (1 : Int32) = nI 1 by decide, nI_add]) (by omega) hL31 ?_
  refine r_aload0 dL_law_487 ?_
  refine r_iload3 dL_law_488 ?_
  refine rn_iconst (2) dL_law_489 (by decide) ?_
  refine rn_iadd dL_law_490 ?_
  refine rn_sald (i + 2) dL_law_491 (by rw [hx, show (2 : Int32) = nI 2 by decide, nI_add]) (by omega) hL31 ?_
  refine rn_callV (As := [.int (g.oiv 1 (i + 1)), .int (g.oiv 1 (i + 2))]) (mc := 0) (ms := 0) dL_law_492 ov_X6_ease ml_L_61 hc.sh.1 rfl rfl (Nat.zero_le _) (Nat.le_of_ble_eq_true rfl) (Nat.le_of_ble_eq_true rfl) (by show _ ≤ 600000; omega) (by show _ ≤ 7302249; omega) (lc_ease 0 (g.oiv 1 (i + 1)) (g.oiv 1 (i + 2)) hj hc hm) (fun r1 Γ1 iv1 rv1 lv1 h1 => ?_)
  obtain ⟨rfl, hc, hm⟩ := h1
  refine rn_sst ?_
  refine r_aload2 dL_law_495 ?_
  refine r_aload0 dL_law_496 ?_
  refine r_iload3 dL_law_497 ?_
  refine rn_iconst (1) dL_law_498 (by decide) ?_
  refine rn_iadd dL_law_499 ?_
  refine rn_sald (i + 1) dL_law_500 (by rw [hx, show (1 : Int32) = nI 1 by decide, nI_add]) (by omega) hL31 ?_
  refine r_aload0 dL_law_501 ?_
  refine r_iload3 dL_law_502 ?_
  refine rn_iconst (2) dL_law_503 (by decide) ?_
  refine rn_iadd dL_law_504 ?_
  refine rn_sald (i + 2) dL_law_505 (by rw [hx, show (2 : Int32) = nI 2 by decide, nI_add]) (by omega) hL31 ?_
  refine rn_callV (As := [.int (g.oiv 1 (i + 1)), .int (g.oiv 1 (i + 2))]) (mc := 0) (ms := 0) dL_law_506 ov_X7_ease ml_L_64 hm.sh.1 rfl rfl (Nat.le_of_ble_eq_true rfl) (Nat.le_of_ble_eq_true rfl) (Nat.le_of_ble_eq_true rfl) (by show _ ≤ 600000; omega) (by show _ ≤ 7302249; omega) (lm_ease 0 (g.oiv 1 (i + 1)) (g.oiv 1 (i + 2)) hj hc hm) (fun r2 Γ2 iv2 rv2 lv2 h2 => ?_)
  obtain ⟨rfl, hc, hm⟩ := h2
  refine rn_sst ?_
  refine rn_icmp_eq 1099 dL_law_509 rfl (fun _ => ?_) (fun h => absurd rfl h)
  exact kk _ _ _ _ _ _ _ hj hc hm (by omega) (by omega)
set_option maxRecDepth 4000 in
theorem lq_men {i k s : Nat} {x : Int32} {j : Jt} (hx : x = nI i) (hi : i + 6 ≤ g.oln 1) (hL : g.oln 1 ≤ 384) (hj : JG j) (hc : CI j Γ iv rv) (hm : MI_ j Γ iv rv) (hk : k ≤ 1000 + 5 * i) (hs : s ≤ 10000 + 212 * i) (kk : KK g l x i) : Rn g l mL_law room_1 qLaw k s 514 [.ref 1, .ref 14, .ref 75, .int x] [] Γ iv rv lv := by
  have hL31 : g.oln 1 < 2 ^ 31 := by omega
  refine r_aload1 dL_law_514 ?_
  refine r_aload0 dL_law_515 ?_
  refine r_iload3 dL_law_516 ?_
  refine rn_iconst (1) dL_law_517 (by decide) ?_
  refine rn_iadd dL_law_518 ?_
  refine rn_sald (i + 1) dL_law_519 (by rw [hx, show (1 : Int32) = nI 1 by decide, nI_add]) (by omega) hL31 ?_
  refine r_aload0 dL_law_520 ?_
  refine r_iload3 dL_law_521 ?_
  refine rn_iconst (2) dL_law_522 (by decide) ?_
  refine rn_iadd dL_law_523 ?_
  refine rn_sald (i + 2) dL_law_524 (by rw [hx, show (2 : Int32) = nI 2 by decide, nI_add]) (by omega) hL31 ?_
  refine rn_callV (As := [.int (g.oiv 1 (i + 1)), .int (g.oiv 1 (i + 2))]) (mc := 0) (ms := 0) dL_law_525 ov_X6_men ml_L_65 hc.sh.1 rfl rfl (Nat.zero_le _) (Nat.le_of_ble_eq_true rfl) (Nat.le_of_ble_eq_true rfl) (by show _ ≤ 600000; omega) (by show _ ≤ 7302249; omega) (lc_men 0 (g.oiv 1 (i + 1)) (g.oiv 1 (i + 2)) hj hc hm) (fun r1 Γ1 iv1 rv1 lv1 h1 => ?_)
  obtain ⟨rfl, hc, hm⟩ := h1
  refine rn_sst ?_
  refine r_aload2 dL_law_528 ?_
  refine r_aload0 dL_law_529 ?_
  refine r_iload3 dL_law_530 ?_
  refine rn_iconst (1) dL_law_531 (by decide) ?_
  refine rn_iadd dL_law_532 ?_
  refine rn_sald (i + 1) dL_law_533 (by rw [hx, show (1 : Int32) = nI 1 by decide, nI_add]) (by omega) hL31 ?_
  refine r_aload0 dL_law_534 ?_
  refine r_iload3 dL_law_535 ?_
  refine rn_iconst (2) dL_law_536 (by decide) ?_
  refine rn_iadd dL_law_537 ?_
  refine rn_sald (i + 2) dL_law_538 (by rw [hx, show (2 : Int32) = nI 2 by decide, nI_add]) (by omega) hL31 ?_
  refine rn_callV (As := [.int (g.oiv 1 (i + 1)), .int (g.oiv 1 (i + 2))]) (mc := 0) (ms := 0) dL_law_539 ov_X7_men ml_L_68 hm.sh.1 rfl rfl (Nat.le_of_ble_eq_true rfl) (Nat.le_of_ble_eq_true rfl) (Nat.le_of_ble_eq_true rfl) (by show _ ≤ 600000; omega) (by show _ ≤ 7302249; omega) (lm_men 0 (g.oiv 1 (i + 1)) (g.oiv 1 (i + 2)) hj hc hm) (fun r2 Γ2 iv2 rv2 lv2 h2 => ?_)
  obtain ⟨rfl, hc, hm⟩ := h2
  refine rn_sst ?_
  refine rn_icmp_eq 1099 dL_law_542 rfl (fun _ => ?_) (fun h => absurd rfl h)
  exact kk _ _ _ _ _ _ _ hj hc hm (by omega) (by omega)
set_option maxRecDepth 4000 in
theorem lq_quarrel {i k s : Nat} {x : Int32} {j : Jt} (hx : x = nI i) (hi : i + 6 ≤ g.oln 1) (hL : g.oln 1 ≤ 384) (hj : JG j) (hc : CI j Γ iv rv) (hm : MI_ j Γ iv rv) (hk : k ≤ 1000 + 5 * i) (hs : s ≤ 10000 + 212 * i) (kk : KK g l x i) : Rn g l mL_law room_1 qLaw k s 547 [.ref 1, .ref 14, .ref 75, .int x] [] Γ iv rv lv := by
  have hL31 : g.oln 1 < 2 ^ 31 := by omega
  refine r_aload1 dL_law_547 ?_
  refine r_aload0 dL_law_548 ?_
  refine r_iload3 dL_law_549 ?_
  refine rn_iconst (1) dL_law_550 (by decide) ?_
  refine rn_iadd dL_law_551 ?_
  refine rn_sald (i + 1) dL_law_552 (by rw [hx, show (1 : Int32) = nI 1 by decide, nI_add]) (by omega) hL31 ?_
  refine rn_callV (As := [.int (g.oiv 1 (i + 1))]) (mc := 0) (ms := 0) dL_law_553 ov_X6_quarrel ml_L_69 hc.sh.1 rfl rfl (Nat.zero_le _) (Nat.le_of_ble_eq_true rfl) (Nat.le_of_ble_eq_true rfl) (by show _ ≤ 600000; omega) (by show _ ≤ 7302249; omega) (lc_quarrel 0 (g.oiv 1 (i + 1)) hj hc hm) (fun r1 Γ1 iv1 rv1 lv1 h1 => ?_)
  obtain ⟨rfl, hc, hm⟩ := h1
  refine rn_sst ?_
  refine r_aload2 dL_law_556 ?_
  refine r_aload0 dL_law_557 ?_
  refine r_iload3 dL_law_558 ?_
  refine rn_iconst (1) dL_law_559 (by decide) ?_
  refine rn_iadd dL_law_560 ?_
  refine rn_sald (i + 1) dL_law_561 (by rw [hx, show (1 : Int32) = nI 1 by decide, nI_add]) (by omega) hL31 ?_
  refine rn_callV (As := [.int (g.oiv 1 (i + 1))]) (mc := 0) (ms := 0) dL_law_562 ov_X7_quarrel ml_L_72 hm.sh.1 rfl rfl (Nat.le_of_ble_eq_true rfl) (Nat.le_of_ble_eq_true rfl) (Nat.le_of_ble_eq_true rfl) (by show _ ≤ 600000; omega) (by show _ ≤ 7302249; omega) (lm_quarrel 0 (g.oiv 1 (i + 1)) hj hc hm) (fun r2 Γ2 iv2 rv2 lv2 h2 => ?_)
  obtain ⟨rfl, hc, hm⟩ := h2
  refine rn_sst ?_
  refine rn_icmp_eq 1099 dL_law_565 rfl (fun _ => ?_) (fun h => absurd rfl h)
  exact kk _ _ _ _ _ _ _ hj hc hm (by omega) (by omega)
set_option maxRecDepth 4000 in
theorem lq_bore {i k s : Nat} {x : Int32} {j : Jt} (hx : x = nI i) (hi : i + 6 ≤ g.oln 1) (hL : g.oln 1 ≤ 384) (hj : JG j) (hc : CI j Γ iv rv) (hm : MI_ j Γ iv rv) (hk : k ≤ 1000 + 5 * i) (hs : s ≤ 10000 + 212 * i) (kk : KK g l x i) : Rn g l mL_law room_1 qLaw k s 570 [.ref 1, .ref 14, .ref 75, .int x] [] Γ iv rv lv := by
  have hL31 : g.oln 1 < 2 ^ 31 := by omega
  refine r_aload1 dL_law_570 ?_
  refine r_aload0 dL_law_571 ?_
  refine r_iload3 dL_law_572 ?_
  refine rn_iconst (1) dL_law_573 (by decide) ?_
  refine rn_iadd dL_law_574 ?_
  refine rn_sald (i + 1) dL_law_575 (by rw [hx, show (1 : Int32) = nI 1 by decide, nI_add]) (by omega) hL31 ?_
  refine r_aload0 dL_law_576 ?_
  refine r_iload3 dL_law_577 ?_
  refine rn_iconst (2) dL_law_578 (by decide) ?_
  refine rn_iadd dL_law_579 ?_
  refine rn_sald (i + 2) dL_law_580 (by rw [hx, show (2 : Int32) = nI 2 by decide, nI_add]) (by omega) hL31 ?_
  refine rn_callV (As := [.int (g.oiv 1 (i + 1)), .int (g.oiv 1 (i + 2))]) (mc := 0) (ms := 0) dL_law_581 ov_X6_bore ml_L_73 hc.sh.1 rfl rfl (Nat.zero_le _) (Nat.le_of_ble_eq_true rfl) (Nat.le_of_ble_eq_true rfl) (by show _ ≤ 600000; omega) (by show _ ≤ 7302249; omega) (lc_bore 0 (g.oiv 1 (i + 1)) (g.oiv 1 (i + 2)) hj hc hm) (fun r1 Γ1 iv1 rv1 lv1 h1 => ?_)
  obtain ⟨rfl, hc, hm⟩ := h1
  refine rn_sst ?_
  refine r_aload2 dL_law_584 ?_
  refine r_aload0 dL_law_585 ?_
  refine r_iload3 dL_law_586 ?_
  refine rn_iconst (1) dL_law_587 (by decide) ?_
  refine rn_iadd dL_law_588 ?_
  refine rn_sald (i + 1) dL_law_589 (by rw [hx, show (1 : Int32) = nI 1 by decide, nI_add]) (by omega) hL31 ?_
  refine r_aload0 dL_law_590 ?_
  refine r_iload3 dL_law_591 ?_
  refine rn_iconst (2) dL_law_592 (by decide) ?_
  refine rn_iadd dL_law_593 ?_
  refine rn_sald (i + 2) dL_law_594 (by rw [hx, show (2 : Int32) = nI 2 by decide, nI_add]) (by omega) hL31 ?_
  refine rn_callV (As := [.int (g.oiv 1 (i + 1)), .int (g.oiv 1 (i + 2))]) (mc := 0) (ms := 0) dL_law_595 ov_X7_bore ml_L_76 hm.sh.1 rfl rfl (Nat.le_of_ble_eq_true rfl) (Nat.le_of_ble_eq_true rfl) (Nat.le_of_ble_eq_true rfl) (by show _ ≤ 600000; omega) (by show _ ≤ 7302249; omega) (lm_bore 0 (g.oiv 1 (i + 1)) (g.oiv 1 (i + 2)) hj hc hm) (fun r2 Γ2 iv2 rv2 lv2 h2 => ?_)
  obtain ⟨rfl, hc, hm⟩ := h2
  refine rn_sst ?_
  refine rn_icmp_eq 1099 dL_law_598 rfl (fun _ => ?_) (fun h => absurd rfl h)
  exact kk _ _ _ _ _ _ _ (hj.rd (gq_bore hj.gq)) hc hm (by omega) (by omega)
set_option maxRecDepth 4000 in
theorem lq_well {i k s : Nat} {x : Int32} {j : Jt} (hx : x = nI i) (hi : i + 6 ≤ g.oln 1) (hL : g.oln 1 ≤ 384) (hj : JG j) (hc : CI j Γ iv rv) (hm : MI_ j Γ iv rv) (hk : k ≤ 1000 + 5 * i) (hs : s ≤ 10000 + 212 * i) (kk : KK g l x i) : Rn g l mL_law room_1 qLaw k s 603 [.ref 1, .ref 14, .ref 75, .int x] [] Γ iv rv lv := by
  have hL31 : g.oln 1 < 2 ^ 31 := by omega
  refine r_aload1 dL_law_603 ?_
  refine r_aload0 dL_law_604 ?_
  refine r_iload3 dL_law_605 ?_
  refine rn_iconst (1) dL_law_606 (by decide) ?_
  refine rn_iadd dL_law_607 ?_
  refine rn_sald (i + 1) dL_law_608 (by rw [hx, show (1 : Int32) = nI 1 by decide, nI_add]) (by omega) hL31 ?_
  refine rn_callV (As := [.int (g.oiv 1 (i + 1))]) (mc := 0) (ms := 0) dL_law_609 ov_X6_well ml_L_77 hc.sh.1 rfl rfl (Nat.zero_le _) (Nat.le_of_ble_eq_true rfl) (Nat.le_of_ble_eq_true rfl) (by show _ ≤ 600000; omega) (by show _ ≤ 7302249; omega) (lc_well 0 (g.oiv 1 (i + 1)) hj hc hm) (fun r1 Γ1 iv1 rv1 lv1 h1 => ?_)
  obtain ⟨rfl, hc, hm⟩ := h1
  refine rn_sst ?_
  refine r_aload2 dL_law_612 ?_
  refine r_aload0 dL_law_613 ?_
  refine r_iload3 dL_law_614 ?_
  refine rn_iconst (1) dL_law_615 (by decide) ?_
  refine rn_iadd dL_law_616 ?_
  refine rn_sald (i + 1) dL_law_617 (by rw [hx, show (1 : Int32) = nI 1 by decide, nI_add]) (by omega) hL31 ?_
  refine rn_callV (As := [.int (g.oiv 1 (i + 1))]) (mc := 0) (ms := 0) dL_law_618 ov_X7_well ml_L_80 hm.sh.1 rfl rfl (Nat.le_of_ble_eq_true rfl) (Nat.le_of_ble_eq_true rfl) (Nat.le_of_ble_eq_true rfl) (by show _ ≤ 600000; omega) (by show _ ≤ 7302249; omega) (lm_well 0 (g.oiv 1 (i + 1)) hj hc hm) (fun r2 Γ2 iv2 rv2 lv2 h2 => ?_)
  obtain ⟨rfl, hc, hm⟩ := h2
  refine rn_sst ?_
  refine rn_icmp_eq 1099 dL_law_621 rfl (fun _ => ?_) (fun h => absurd rfl h)
  exact kk _ _ _ _ _ _ _ hj hc hm (by omega) (by omega)
set_option maxRecDepth 4000 in
theorem lq_slowed {i k s : Nat} {x : Int32} {j : Jt} (hx : x = nI i) (hi : i + 6 ≤ g.oln 1) (hL : g.oln 1 ≤ 384) (hj : JG j) (hc : CI j Γ iv rv) (hm : MI_ j Γ iv rv) (hk : k ≤ 1000 + 5 * i) (hs : s ≤ 10000 + 212 * i) (kk : KK g l x i) : Rn g l mL_law room_1 qLaw k s 626 [.ref 1, .ref 14, .ref 75, .int x] [] Γ iv rv lv := by
  have hL31 : g.oln 1 < 2 ^ 31 := by omega
  refine r_aload1 dL_law_626 ?_
  refine r_aload0 dL_law_627 ?_
  refine r_iload3 dL_law_628 ?_
  refine rn_iconst (1) dL_law_629 (by decide) ?_
  refine rn_iadd dL_law_630 ?_
  refine rn_sald (i + 1) dL_law_631 (by rw [hx, show (1 : Int32) = nI 1 by decide, nI_add]) (by omega) hL31 ?_
  refine r_aload0 dL_law_632 ?_
  refine r_iload3 dL_law_633 ?_
  refine rn_iconst (2) dL_law_634 (by decide) ?_
  refine rn_iadd dL_law_635 ?_
  refine rn_sald (i + 2) dL_law_636 (by rw [hx, show (2 : Int32) = nI 2 by decide, nI_add]) (by omega) hL31 ?_
  refine rn_callV (As := [.int (g.oiv 1 (i + 1)), .int (g.oiv 1 (i + 2))]) (mc := 0) (ms := 0) dL_law_637 ov_X6_slowed ml_L_81 hc.sh.1 rfl rfl (Nat.zero_le _) (Nat.le_of_ble_eq_true rfl) (Nat.le_of_ble_eq_true rfl) (by show _ ≤ 600000; omega) (by show _ ≤ 7302249; omega) (lc_slowed 0 (g.oiv 1 (i + 1)) (g.oiv 1 (i + 2)) hj hc hm) (fun r1 Γ1 iv1 rv1 lv1 h1 => ?_)
  obtain ⟨rfl, hc, hm⟩ := h1
  refine rn_sst ?_
  refine r_aload2 dL_law_640 ?_
  refine r_aload0 dL_law_641 ?_
  refine r_iload3 dL_law_642 ?_
  refine rn_iconst (1) dL_law_643 (by decide) ?_
  refine rn_iadd dL_law_644 ?_
  refine rn_sald (i + 1) dL_law_645 (by rw [hx, show (1 : Int32) = nI 1 by decide, nI_add]) (by omega) hL31 ?_
  refine r_aload0 dL_law_646 ?_
  refine r_iload3 dL_law_647 ?_
  refine rn_iconst (2) dL_law_648 (by decide) ?_
  refine rn_iadd dL_law_649 ?_
  refine rn_sald (i + 2) dL_law_650 (by rw [hx, show (2 : Int32) = nI 2 by decide, nI_add]) (by omega) hL31 ?_
  refine rn_callV (As := [.int (g.oiv 1 (i + 1)), .int (g.oiv 1 (i + 2))]) (mc := 0) (ms := 0) dL_law_651 ov_X7_slowed ml_L_84 hm.sh.1 rfl rfl (Nat.le_of_ble_eq_true rfl) (Nat.le_of_ble_eq_true rfl) (Nat.le_of_ble_eq_true rfl) (by show _ ≤ 600000; omega) (by show _ ≤ 7302249; omega) (lm_slowed 0 (g.oiv 1 (i + 1)) (g.oiv 1 (i + 2)) hj hc hm) (fun r2 Γ2 iv2 rv2 lv2 h2 => ?_)
  obtain ⟨rfl, hc, hm⟩ := h2
  refine rn_sst ?_
  refine rn_icmp_eq 1099 dL_law_654 rfl (fun _ => ?_) (fun h => absurd rfl h)
  exact kk _ _ _ _ _ _ _ hj hc hm (by omega) (by omega)
set_option maxRecDepth 4000 in
theorem lq_bet {i k s : Nat} {x : Int32} {j : Jt} (hx : x = nI i) (hi : i + 6 ≤ g.oln 1) (hL : g.oln 1 ≤ 384) (hj : JG j) (hc : CI j Γ iv rv) (hm : MI_ j Γ iv rv) (hk : k ≤ 1000 + 5 * i) (hs : s ≤ 10000 + 212 * i) (kk : KK g l x i) : Rn g l mL_law room_1 qLaw k s 659 [.ref 1, .ref 14, .ref 75, .int x] [] Γ iv rv lv := by
  have hL31 : g.oln 1 < 2 ^ 31 := by omega
  refine r_aload1 dL_law_659 ?_
  refine r_aload0 dL_law_660 ?_
  refine r_iload3 dL_law_661 ?_
  refine rn_iconst (1) dL_law_662 (by decide) ?_
  refine rn_iadd dL_law_663 ?_
  refine rn_sald (i + 1) dL_law_664 (by rw [hx, show (1 : Int32) = nI 1 by decide, nI_add]) (by omega) hL31 ?_
  refine r_aload0 dL_law_665 ?_
  refine r_iload3 dL_law_666 ?_
  refine rn_iconst (2) dL_law_667 (by decide) ?_
  refine rn_iadd dL_law_668 ?_
  refine rn_sald (i + 2) dL_law_669 (by rw [hx, show (2 : Int32) = nI 2 by decide, nI_add]) (by omega) hL31 ?_
  refine r_aload0 dL_law_670 ?_
  refine r_iload3 dL_law_671 ?_
  refine rn_iconst (3) dL_law_672 (by decide) ?_
  refine rn_iadd dL_law_673 ?_
  refine rn_sald (i + 3) dL_law_674 (by rw [hx, show (3 : Int32) = nI 3 by decide, nI_add]) (by omega) hL31 ?_
  refine rn_callV (As := [.int (g.oiv 1 (i + 1)), .int (g.oiv 1 (i + 2)), .int (g.oiv 1 (i + 3))]) (mc := 0) (ms := 0) dL_law_675 ov_X6_bet ml_L_85 hc.sh.1 rfl rfl (Nat.zero_le _) (Nat.le_of_ble_eq_true rfl) (Nat.le_of_ble_eq_true rfl) (by show _ ≤ 600000; omega) (by show _ ≤ 7302249; omega) (lc_bet 0 (g.oiv 1 (i + 1)) (g.oiv 1 (i + 2)) (g.oiv 1 (i + 3)) hj hc hm) (fun r1 Γ1 iv1 rv1 lv1 h1 => ?_)
  obtain ⟨rfl, hc, hm⟩ := h1
  refine rn_sst ?_
  refine r_aload2 dL_law_678 ?_
  refine r_aload0 dL_law_679 ?_
  refine r_iload3 dL_law_680 ?_
  refine rn_iconst (1) dL_law_681 (by decide) ?_
  refine rn_iadd dL_law_682 ?_
  refine rn_sald (i + 1) dL_law_683 (by rw [hx, show (1 : Int32) = nI 1 by decide, nI_add]) (by omega) hL31 ?_
  refine r_aload0 dL_law_684 ?_
  refine r_iload3 dL_law_685 ?_
  refine rn_iconst (2) dL_law_686 (by decide) ?_
  refine rn_iadd dL_law_687 ?_
  refine rn_sald (i + 2) dL_law_688 (by rw [hx, show (2 : Int32) = nI 2 by decide, nI_add]) (by omega) hL31 ?_
  refine r_aload0 dL_law_689 ?_
  refine r_iload3 dL_law_690 ?_
  refine rn_iconst (3) dL_law_691 (by decide) ?_
  refine rn_iadd dL_law_692 ?_
  refine rn_sald (i + 3) dL_law_693 (by rw [hx, show (3 : Int32) = nI 3 by decide, nI_add]) (by omega) hL31 ?_
  refine rn_callV (As := [.int (g.oiv 1 (i + 1)), .int (g.oiv 1 (i + 2)), .int (g.oiv 1 (i + 3))]) (mc := 0) (ms := 0) dL_law_694 ov_X7_bet ml_L_88 hm.sh.1 rfl rfl (Nat.le_of_ble_eq_true rfl) (Nat.le_of_ble_eq_true rfl) (Nat.le_of_ble_eq_true rfl) (by show _ ≤ 600000; omega) (by show _ ≤ 7302249; omega) (lm_bet 0 (g.oiv 1 (i + 1)) (g.oiv 1 (i + 2)) (g.oiv 1 (i + 3)) hj hc hm) (fun r2 Γ2 iv2 rv2 lv2 h2 => ?_)
  obtain ⟨rfl, hc, hm⟩ := h2
  refine rn_sst ?_
  refine rn_icmp_eq 1099 dL_law_697 rfl (fun _ => ?_) (fun h => absurd rfl h)
  exact kk _ _ _ _ _ _ _ hj hc hm (by omega) (by omega)
set_option maxRecDepth 4000 in
theorem lq_soonest {i k s : Nat} {x : Int32} {j : Jt} (hx : x = nI i) (hi : i + 6 ≤ g.oln 1) (hL : g.oln 1 ≤ 384) (hj : JG j) (hc : CI j Γ iv rv) (hm : MI_ j Γ iv rv) (hk : k ≤ 1000 + 5 * i) (hs : s ≤ 10000 + 212 * i) (kk : KK g l x i) : Rn g l mL_law room_1 qLaw k s 702 [.ref 1, .ref 14, .ref 75, .int x] [] Γ iv rv lv := by
  have hL31 : g.oln 1 < 2 ^ 31 := by omega
  refine r_aload1 dL_law_702 ?_
  refine r_aload0 dL_law_703 ?_
  refine r_iload3 dL_law_704 ?_
  refine rn_iconst (1) dL_law_705 (by decide) ?_
  refine rn_iadd dL_law_706 ?_
  refine rn_sald (i + 1) dL_law_707 (by rw [hx, show (1 : Int32) = nI 1 by decide, nI_add]) (by omega) hL31 ?_
  refine rn_callV (As := [.int (g.oiv 1 (i + 1))]) (mc := 0) (ms := 0) dL_law_708 ov_X6_soonest ml_L_89 hc.sh.1 rfl rfl (Nat.zero_le _) (Nat.le_of_ble_eq_true rfl) (Nat.le_of_ble_eq_true rfl) (by show _ ≤ 600000; omega) (by show _ ≤ 7302249; omega) (lc_soonest 0 (g.oiv 1 (i + 1)) hj hc hm) (fun r1 Γ1 iv1 rv1 lv1 h1 => ?_)
  obtain ⟨rfl, hc, hm⟩ := h1
  refine rn_sst ?_
  refine r_aload2 dL_law_711 ?_
  refine r_aload0 dL_law_712 ?_
  refine r_iload3 dL_law_713 ?_
  refine rn_iconst (1) dL_law_714 (by decide) ?_
  refine rn_iadd dL_law_715 ?_
  refine rn_sald (i + 1) dL_law_716 (by rw [hx, show (1 : Int32) = nI 1 by decide, nI_add]) (by omega) hL31 ?_
  refine rn_callV (As := [.int (g.oiv 1 (i + 1))]) (mc := 0) (ms := 0) dL_law_717 ov_X7_soonest ml_L_92 hm.sh.1 rfl rfl (Nat.le_of_ble_eq_true rfl) (Nat.le_of_ble_eq_true rfl) (Nat.le_of_ble_eq_true rfl) (by show _ ≤ 600000; omega) (by show _ ≤ 7302249; omega) (lm_soonest 0 (g.oiv 1 (i + 1)) hj hc hm) (fun r2 Γ2 iv2 rv2 lv2 h2 => ?_)
  obtain ⟨rfl, hc, hm⟩ := h2
  refine rn_sst ?_
  refine rn_icmp_eq 1099 dL_law_720 rfl (fun _ => ?_) (fun h => absurd rfl h)
  exact kk _ _ _ _ _ _ _ hj hc hm (by omega) (by omega)
set_option maxRecDepth 4000 in
theorem lq_cheapest {i k s : Nat} {x : Int32} {j : Jt} (hx : x = nI i) (hi : i + 6 ≤ g.oln 1) (hL : g.oln 1 ≤ 384) (hj : JG j) (hc : CI j Γ iv rv) (hm : MI_ j Γ iv rv) (hk : k ≤ 1000 + 5 * i) (hs : s ≤ 10000 + 212 * i) (kk : KK g l x i) : Rn g l mL_law room_1 qLaw k s 725 [.ref 1, .ref 14, .ref 75, .int x] [] Γ iv rv lv := by
  have hL31 : g.oln 1 < 2 ^ 31 := by omega
  refine r_aload1 dL_law_725 ?_
  refine rn_callV (As := []) (mc := 0) (ms := 0) dL_law_726 ov_X6_cheapest ml_L_93 hc.sh.1 rfl rfl (Nat.zero_le _) (Nat.le_of_ble_eq_true rfl) (Nat.le_of_ble_eq_true rfl) (by show _ ≤ 600000; omega) (by show _ ≤ 7302249; omega) (lc_cheapest 0  hj hc hm) (fun r1 Γ1 iv1 rv1 lv1 h1 => ?_)
  obtain ⟨rfl, hc, hm⟩ := h1
  refine rn_sst ?_
  refine r_aload2 dL_law_729 ?_
  refine rn_callV (As := []) (mc := 0) (ms := 0) dL_law_730 ov_X7_cheapest ml_L_96 hm.sh.1 rfl rfl (Nat.le_of_ble_eq_true rfl) (Nat.le_of_ble_eq_true rfl) (Nat.le_of_ble_eq_true rfl) (by show _ ≤ 600000; omega) (by show _ ≤ 7302249; omega) (lm_cheapest 0  hj hc hm) (fun r2 Γ2 iv2 rv2 lv2 h2 => ?_)
  obtain ⟨rfl, hc, hm⟩ := h2
  refine rn_sst ?_
  refine rn_icmp_eq 1099 dL_law_733 rfl (fun _ => ?_) (fun h => absurd rfl h)
  exact kk _ _ _ _ _ _ _ hj hc hm (by omega) (by omega)
set_option maxRecDepth 4000 in
theorem lq_drawn {i k s : Nat} {x : Int32} {j : Jt} (hx : x = nI i) (hi : i + 6 ≤ g.oln 1) (hL : g.oln 1 ≤ 384) (hj : JG j) (hc : CI j Γ iv rv) (hm : MI_ j Γ iv rv) (hk : k ≤ 1000 + 5 * i) (hs : s ≤ 10000 + 212 * i) (kk : KK g l x i) : Rn g l mL_law room_1 qLaw k s 738 [.ref 1, .ref 14, .ref 75, .int x] [] Γ iv rv lv := by
  have hL31 : g.oln 1 < 2 ^ 31 := by omega
  refine r_aload1 dL_law_738 ?_
  refine r_aload0 dL_law_739 ?_
  refine r_iload3 dL_law_740 ?_
  refine rn_iconst (1) dL_law_741 (by decide) ?_
  refine rn_iadd dL_law_742 ?_
  refine rn_sald (i + 1) dL_law_743 (by rw [hx, show (1 : Int32) = nI 1 by decide, nI_add]) (by omega) hL31 ?_
  refine rn_callV (As := [.int (g.oiv 1 (i + 1))]) (mc := 0) (ms := 0) dL_law_744 ov_X6_drawn ml_L_97 hc.sh.1 rfl rfl (Nat.zero_le _) (Nat.le_of_ble_eq_true rfl) (Nat.le_of_ble_eq_true rfl) (by show _ ≤ 600000; omega) (by show _ ≤ 7302249; omega) (lc_drawn 0 (g.oiv 1 (i + 1)) hj hc hm) (fun r1 Γ1 iv1 rv1 lv1 h1 => ?_)
  obtain ⟨rfl, hc, hm⟩ := h1
  refine rn_sst ?_
  refine r_aload2 dL_law_747 ?_
  refine r_aload0 dL_law_748 ?_
  refine r_iload3 dL_law_749 ?_
  refine rn_iconst (1) dL_law_750 (by decide) ?_
  refine rn_iadd dL_law_751 ?_
  refine rn_sald (i + 1) dL_law_752 (by rw [hx, show (1 : Int32) = nI 1 by decide, nI_add]) (by omega) hL31 ?_
  refine rn_callV (As := [.int (g.oiv 1 (i + 1))]) (mc := 0) (ms := 0) dL_law_753 ov_X7_drawn ml_L_100 hm.sh.1 rfl rfl (Nat.le_of_ble_eq_true rfl) (Nat.le_of_ble_eq_true rfl) (Nat.le_of_ble_eq_true rfl) (by show _ ≤ 600000; omega) (by show _ ≤ 7302249; omega) (lm_drawn 0 (g.oiv 1 (i + 1)) hj hc hm) (fun r2 Γ2 iv2 rv2 lv2 h2 => ?_)
  obtain ⟨rfl, hc, hm⟩ := h2
  refine rn_sst ?_
  refine rn_icmp_eq 1099 dL_law_756 rfl (fun _ => ?_) (fun h => absurd rfl h)
  exact kk _ _ _ _ _ _ _ hj hc hm (by omega) (by omega)
set_option maxRecDepth 4000 in
theorem lq_chance {i k s : Nat} {x : Int32} {j : Jt} (hx : x = nI i) (hi : i + 6 ≤ g.oln 1) (hL : g.oln 1 ≤ 384) (hj : JG j) (hc : CI j Γ iv rv) (hm : MI_ j Γ iv rv) (hk : k ≤ 1000 + 5 * i) (hs : s ≤ 10000 + 212 * i) (kk : KK g l x i) : Rn g l mL_law room_1 qLaw k s 761 [.ref 1, .ref 14, .ref 75, .int x] [] Γ iv rv lv := by
  have hL31 : g.oln 1 < 2 ^ 31 := by omega
  refine r_aload1 dL_law_761 ?_
  refine r_aload0 dL_law_762 ?_
  refine r_iload3 dL_law_763 ?_
  refine rn_iconst (1) dL_law_764 (by decide) ?_
  refine rn_iadd dL_law_765 ?_
  refine rn_sald (i + 1) dL_law_766 (by rw [hx, show (1 : Int32) = nI 1 by decide, nI_add]) (by omega) hL31 ?_
  refine r_aload0 dL_law_767 ?_
  refine r_iload3 dL_law_768 ?_
  refine rn_iconst (2) dL_law_769 (by decide) ?_
  refine rn_iadd dL_law_770 ?_
  refine rn_sald (i + 2) dL_law_771 (by rw [hx, show (2 : Int32) = nI 2 by decide, nI_add]) (by omega) hL31 ?_
  refine r_aload0 dL_law_772 ?_
  refine r_iload3 dL_law_773 ?_
  refine rn_iconst (3) dL_law_774 (by decide) ?_
  refine rn_iadd dL_law_775 ?_
  refine rn_sald (i + 3) dL_law_776 (by rw [hx, show (3 : Int32) = nI 3 by decide, nI_add]) (by omega) hL31 ?_
  refine r_aload0 dL_law_777 ?_
  refine r_iload3 dL_law_778 ?_
  refine rn_iconst (4) dL_law_779 (by decide) ?_
  refine rn_iadd dL_law_780 ?_
  refine rn_sald (i + 4) dL_law_781 (by rw [hx, show (4 : Int32) = nI 4 by decide, nI_add]) (by omega) hL31 ?_
  refine rn_callV (As := [.int (g.oiv 1 (i + 1)), .int (g.oiv 1 (i + 2)), .int (g.oiv 1 (i + 3)), .int (g.oiv 1 (i + 4))]) (mc := 0) (ms := 0) dL_law_782 ov_X6_chance ml_L_101 hc.sh.1 rfl rfl (Nat.zero_le _) (Nat.le_of_ble_eq_true rfl) (Nat.le_of_ble_eq_true rfl) (by show _ ≤ 600000; omega) (by show _ ≤ 7302249; omega) (lc_chance 0 (g.oiv 1 (i + 1)) (g.oiv 1 (i + 2)) (g.oiv 1 (i + 3)) (g.oiv 1 (i + 4)) hj hc hm) (fun r1 Γ1 iv1 rv1 lv1 h1 => ?_)
  obtain ⟨rfl, hc, hm⟩ := h1
  refine rn_sst ?_
  refine r_aload2 dL_law_785 ?_
  refine r_aload0 dL_law_786 ?_
  refine r_iload3 dL_law_787 ?_
  refine rn_iconst (1) dL_law_788 (by decide) ?_
  refine rn_iadd dL_law_789 ?_
  refine rn_sald (i + 1) dL_law_790 (by rw [hx, show (1 : Int32) = nI 1 by decide, nI_add]) (by omega) hL31 ?_
  refine r_aload0 dL_law_791 ?_
  refine r_iload3 dL_law_792 ?_
  refine rn_iconst (2) dL_law_793 (by decide) ?_
  refine rn_iadd dL_law_794 ?_
  refine rn_sald (i + 2) dL_law_795 (by rw [hx, show (2 : Int32) = nI 2 by decide, nI_add]) (by omega) hL31 ?_
  refine r_aload0 dL_law_796 ?_
  refine r_iload3 dL_law_797 ?_
  refine rn_iconst (3) dL_law_798 (by decide) ?_
  refine rn_iadd dL_law_799 ?_
  refine rn_sald (i + 3) dL_law_800 (by rw [hx, show (3 : Int32) = nI 3 by decide, nI_add]) (by omega) hL31 ?_
  refine r_aload0 dL_law_801 ?_
  refine r_iload3 dL_law_802 ?_
  refine rn_iconst (4) dL_law_803 (by decide) ?_
  refine rn_iadd dL_law_804 ?_
  refine rn_sald (i + 4) dL_law_805 (by rw [hx, show (4 : Int32) = nI 4 by decide, nI_add]) (by omega) hL31 ?_
  refine rn_callV (As := [.int (g.oiv 1 (i + 1)), .int (g.oiv 1 (i + 2)), .int (g.oiv 1 (i + 3)), .int (g.oiv 1 (i + 4))]) (mc := 0) (ms := 0) dL_law_806 ov_X7_chance ml_L_105 hm.sh.1 rfl rfl (Nat.le_of_ble_eq_true rfl) (Nat.le_of_ble_eq_true rfl) (Nat.le_of_ble_eq_true rfl) (by show _ ≤ 600000; omega) (by show _ ≤ 7302249; omega) (lm_chance 0 (g.oiv 1 (i + 1)) (g.oiv 1 (i + 2)) (g.oiv 1 (i + 3)) (g.oiv 1 (i + 4)) hj hc hm) (fun r2 Γ2 iv2 rv2 lv2 h2 => ?_)
  obtain ⟨rfl, hc, hm⟩ := h2
  refine rn_sst ?_
  refine rn_lcmp dL_law_809 ?_
  refine rn_if_eq 1099 dL_law_810 rfl (fun _ => ?_) (fun h => absurd lgc h)
  exact kk _ _ _ _ _ _ _ hj hc hm (by omega) (by omega)
set_option maxRecDepth 4000 in
theorem lq_image {i k s : Nat} {x : Int32} {j : Jt} (hx : x = nI i) (hi : i + 6 ≤ g.oln 1) (hL : g.oln 1 ≤ 384) (hj : JG j) (hc : CI j Γ iv rv) (hm : MI_ j Γ iv rv) (hk : k ≤ 1000 + 5 * i) (hs : s ≤ 10000 + 212 * i) (kk : KK g l x i) : Rn g l mL_law room_1 qLaw k s 815 [.ref 1, .ref 14, .ref 75, .int x] [] Γ iv rv lv := by
  have hL31 : g.oln 1 < 2 ^ 31 := by omega
  refine r_aload1 dL_law_815 ?_
  refine rn_callV (As := []) (mc := 0) (ms := 0) dL_law_816 ov_X6_image ml_L_106 hc.sh.1 rfl rfl (Nat.zero_le _) (Nat.le_of_ble_eq_true rfl) (Nat.le_of_ble_eq_true rfl) (by show _ ≤ 600000; omega) (by show _ ≤ 7302249; omega) (lc_image 0  hj hc hm) (fun r1 Γ1 iv1 rv1 lv1 h1 => ?_)
  obtain ⟨rfl, hc, hm⟩ := h1
  refine rn_sst ?_
  refine r_aload2 dL_law_819 ?_
  refine rn_callV (As := []) (mc := 0) (ms := 0) dL_law_820 ov_X7_image ml_L_109 hm.sh.1 rfl rfl (Nat.le_of_ble_eq_true rfl) (Nat.le_of_ble_eq_true rfl) (Nat.le_of_ble_eq_true rfl) (by show _ ≤ 600000; omega) (by show _ ≤ 7302249; omega) (lm_image 0  hj hc hm) (fun r2 Γ2 iv2 rv2 lv2 h2 => ?_)
  obtain ⟨rfl, hc, hm⟩ := h2
  refine rn_sst ?_
  refine rn_icmp_eq 1099 dL_law_823 rfl (fun _ => ?_) (fun h => absurd rfl h)
  exact kk _ _ _ _ _ _ _ hj.im hc hm (by omega) (by omega)
set_option maxRecDepth 4000 in
theorem lq_back {i k s : Nat} {x : Int32} {j : Jt} (hx : x = nI i) (hi : i + 6 ≤ g.oln 1) (hL : g.oln 1 ≤ 384) (hj : JG j) (hc : CI j Γ iv rv) (hm : MI_ j Γ iv rv) (hk : k ≤ 1000 + 5 * i) (hs : s ≤ 10000 + 212 * i) (kk : KK g l x i) : Rn g l mL_law room_1 qLaw k s 828 [.ref 1, .ref 14, .ref 75, .int x] [] Γ iv rv lv := by
  have hL31 : g.oln 1 < 2 ^ 31 := by omega
  refine r_aload1 dL_law_828 ?_
  refine rn_callV (As := []) (mc := 0) (ms := 0) dL_law_829 ov_X6_back ml_L_110 hc.sh.1 rfl rfl (Nat.zero_le _) (Nat.le_of_ble_eq_true rfl) (Nat.le_of_ble_eq_true rfl) (by show _ ≤ 600000; omega) (by show _ ≤ 7302249; omega) (lc_back 0  hj hc hm) (fun r1 Γ1 iv1 rv1 lv1 h1 => ?_)
  obtain ⟨rfl, hc, hm⟩ := h1
  refine rn_sst ?_
  refine r_aload2 dL_law_832 ?_
  refine rn_callV (As := []) (mc := 0) (ms := 0) dL_law_833 ov_X7_back ml_L_113 hm.sh.1 rfl rfl (Nat.le_of_ble_eq_true rfl) (Nat.le_of_ble_eq_true rfl) (Nat.le_of_ble_eq_true rfl) (by show _ ≤ 600000; omega) (by show _ ≤ 7302249; omega) (lm_back 0  hj hc hm) (fun r2 Γ2 iv2 rv2 lv2 h2 => ?_)
  obtain ⟨rfl, hc, hm⟩ := h2
  refine rn_sst ?_
  refine rn_icmp_eq 1099 dL_law_836 rfl (fun _ => ?_) (fun h => absurd rfl h)
  exact kk _ _ _ _ _ _ _ hj.back hc hm (by omega) (by omega)
set_option maxRecDepth 4000 in
theorem lq_count {i k s : Nat} {x : Int32} {j : Jt} (hx : x = nI i) (hi : i + 6 ≤ g.oln 1) (hL : g.oln 1 ≤ 384) (hj : JG j) (hc : CI j Γ iv rv) (hm : MI_ j Γ iv rv) (hk : k ≤ 1000 + 5 * i) (hs : s ≤ 10000 + 212 * i) (kk : KK g l x i) : Rn g l mL_law room_1 qLaw k s 841 [.ref 1, .ref 14, .ref 75, .int x] [] Γ iv rv lv := by
  have hL31 : g.oln 1 < 2 ^ 31 := by omega
  refine r_aload1 dL_law_841 ?_
  refine r_aload0 dL_law_842 ?_
  refine r_iload3 dL_law_843 ?_
  refine rn_iconst (1) dL_law_844 (by decide) ?_
  refine rn_iadd dL_law_845 ?_
  refine rn_sald (i + 1) dL_law_846 (by rw [hx, show (1 : Int32) = nI 1 by decide, nI_add]) (by omega) hL31 ?_
  refine rn_callV (As := [.int (g.oiv 1 (i + 1))]) (mc := 0) (ms := 0) dL_law_847 ov_X6_count ml_L_114 hc.sh.1 rfl rfl (Nat.zero_le _) (Nat.le_of_ble_eq_true rfl) (Nat.le_of_ble_eq_true rfl) (by show _ ≤ 600000; omega) (by show _ ≤ 7302249; omega) (lc_count 0 (g.oiv 1 (i + 1)) hj hc hm) (fun r1 Γ1 iv1 rv1 lv1 h1 => ?_)
  obtain ⟨rfl, hc, hm⟩ := h1
  refine rn_sst ?_
  refine r_aload2 dL_law_850 ?_
  refine r_aload0 dL_law_851 ?_
  refine r_iload3 dL_law_852 ?_
  refine rn_iconst (1) dL_law_853 (by decide) ?_
  refine rn_iadd dL_law_854 ?_
  refine rn_sald (i + 1) dL_law_855 (by rw [hx, show (1 : Int32) = nI 1 by decide, nI_add]) (by omega) hL31 ?_
  refine rn_callV (As := [.int (g.oiv 1 (i + 1))]) (mc := 0) (ms := 0) dL_law_856 ov_X7_count ml_L_117 hm.sh.1 rfl rfl (Nat.le_of_ble_eq_true rfl) (Nat.le_of_ble_eq_true rfl) (Nat.le_of_ble_eq_true rfl) (by show _ ≤ 600000; omega) (by show _ ≤ 7302249; omega) (lm_count 0 (g.oiv 1 (i + 1)) hj hc hm) (fun r2 Γ2 iv2 rv2 lv2 h2 => ?_)
  obtain ⟨rfl, hc, hm⟩ := h2
  refine rn_sst ?_
  refine rn_icmp_eq 1099 dL_law_859 rfl (fun _ => ?_) (fun h => absurd rfl h)
  exact kk _ _ _ _ _ _ _ hj hc hm (by omega) (by omega)
set_option maxRecDepth 4000 in
theorem lq_sheet {i k s : Nat} {x : Int32} {j : Jt} (hx : x = nI i) (hi : i + 6 ≤ g.oln 1) (hL : g.oln 1 ≤ 384) (hj : JG j) (hc : CI j Γ iv rv) (hm : MI_ j Γ iv rv) (hk : k ≤ 1000 + 5 * i) (hs : s ≤ 10000 + 212 * i) (kk : KK g l x i) : Rn g l mL_law room_1 qLaw k s 864 [.ref 1, .ref 14, .ref 75, .int x] [] Γ iv rv lv := by
  have hL31 : g.oln 1 < 2 ^ 31 := by omega
  refine r_aload1 dL_law_864 ?_
  refine r_aload0 dL_law_865 ?_
  refine r_iload3 dL_law_866 ?_
  refine rn_iconst (1) dL_law_867 (by decide) ?_
  refine rn_iadd dL_law_868 ?_
  refine rn_sald (i + 1) dL_law_869 (by rw [hx, show (1 : Int32) = nI 1 by decide, nI_add]) (by omega) hL31 ?_
  refine r_aload0 dL_law_870 ?_
  refine r_iload3 dL_law_871 ?_
  refine rn_iconst (2) dL_law_872 (by decide) ?_
  refine rn_iadd dL_law_873 ?_
  refine rn_sald (i + 2) dL_law_874 (by rw [hx, show (2 : Int32) = nI 2 by decide, nI_add]) (by omega) hL31 ?_
  refine r_aload0 dL_law_875 ?_
  refine r_iload3 dL_law_876 ?_
  refine rn_iconst (3) dL_law_877 (by decide) ?_
  refine rn_iadd dL_law_878 ?_
  refine rn_sald (i + 3) dL_law_879 (by rw [hx, show (3 : Int32) = nI 3 by decide, nI_add]) (by omega) hL31 ?_
  refine rn_callV (As := [.int (g.oiv 1 (i + 1)), .int (g.oiv 1 (i + 2)), .int (g.oiv 1 (i + 3))]) (mc := 0) (ms := 0) dL_law_880 ov_X6_sheet ml_L_118 hc.sh.1 rfl rfl (Nat.zero_le _) (Nat.le_of_ble_eq_true rfl) (Nat.le_of_ble_eq_true rfl) (by show _ ≤ 600000; omega) (by show _ ≤ 7302249; omega) (lc_sheet 0 (g.oiv 1 (i + 1)) (g.oiv 1 (i + 2)) (g.oiv 1 (i + 3)) hj hc hm) (fun r1 Γ1 iv1 rv1 lv1 h1 => ?_)
  obtain ⟨rfl, hc, hm⟩ := h1
  refine rn_sst ?_
  refine r_aload2 dL_law_883 ?_
  refine r_aload0 dL_law_884 ?_
  refine r_iload3 dL_law_885 ?_
  refine rn_iconst (1) dL_law_886 (by decide) ?_
  refine rn_iadd dL_law_887 ?_
  refine rn_sald (i + 1) dL_law_888 (by rw [hx, show (1 : Int32) = nI 1 by decide, nI_add]) (by omega) hL31 ?_
  refine r_aload0 dL_law_889 ?_
  refine r_iload3 dL_law_890 ?_
  refine rn_iconst (2) dL_law_891 (by decide) ?_
  refine rn_iadd dL_law_892 ?_
  refine rn_sald (i + 2) dL_law_893 (by rw [hx, show (2 : Int32) = nI 2 by decide, nI_add]) (by omega) hL31 ?_
  refine r_aload0 dL_law_894 ?_
  refine r_iload3 dL_law_895 ?_
  refine rn_iconst (3) dL_law_896 (by decide) ?_
  refine rn_iadd dL_law_897 ?_
  refine rn_sald (i + 3) dL_law_898 (by rw [hx, show (3 : Int32) = nI 3 by decide, nI_add]) (by omega) hL31 ?_
  refine rn_callV (As := [.int (g.oiv 1 (i + 1)), .int (g.oiv 1 (i + 2)), .int (g.oiv 1 (i + 3))]) (mc := 0) (ms := 0) dL_law_899 ov_X7_sheet ml_L_121 hm.sh.1 rfl rfl (Nat.le_of_ble_eq_true rfl) (Nat.le_of_ble_eq_true rfl) (Nat.le_of_ble_eq_true rfl) (by show _ ≤ 600000; omega) (by show _ ≤ 7302249; omega) (lm_sheet 0 (g.oiv 1 (i + 1)) (g.oiv 1 (i + 2)) (g.oiv 1 (i + 3)) hj hc hm) (fun r2 Γ2 iv2 rv2 lv2 h2 => ?_)
  obtain ⟨rfl, hc, hm⟩ := h2
  refine rn_sst ?_
  refine rn_icmp_eq 1099 dL_law_902 rfl (fun _ => ?_) (fun h => absurd rfl h)
  exact kk _ _ _ _ _ _ _ (hj.ts hj.n6 hj.bb (gs_sheet hj.gs)) hc hm (by omega) (by omega)
set_option maxRecDepth 4000 in
theorem lq_cell {i k s : Nat} {x : Int32} {j : Jt} (hx : x = nI i) (hi : i + 6 ≤ g.oln 1) (hL : g.oln 1 ≤ 384) (hj : JG j) (hc : CI j Γ iv rv) (hm : MI_ j Γ iv rv) (hk : k ≤ 1000 + 5 * i) (hs : s ≤ 10000 + 212 * i) (kk : KK g l x i) : Rn g l mL_law room_1 qLaw k s 907 [.ref 1, .ref 14, .ref 75, .int x] [] Γ iv rv lv := by
  have hL31 : g.oln 1 < 2 ^ 31 := by omega
  refine r_aload1 dL_law_907 ?_
  refine r_aload0 dL_law_908 ?_
  refine r_iload3 dL_law_909 ?_
  refine rn_iconst (1) dL_law_910 (by decide) ?_
  refine rn_iadd dL_law_911 ?_
  refine rn_sald (i + 1) dL_law_912 (by rw [hx, show (1 : Int32) = nI 1 by decide, nI_add]) (by omega) hL31 ?_
  refine r_aload0 dL_law_913 ?_
  refine r_iload3 dL_law_914 ?_
  refine rn_iconst (2) dL_law_915 (by decide) ?_
  refine rn_iadd dL_law_916 ?_
  refine rn_sald (i + 2) dL_law_917 (by rw [hx, show (2 : Int32) = nI 2 by decide, nI_add]) (by omega) hL31 ?_
  refine r_aload0 dL_law_918 ?_
  refine r_iload3 dL_law_919 ?_
  refine rn_iconst (3) dL_law_920 (by decide) ?_
  refine rn_iadd dL_law_921 ?_
  refine rn_sald (i + 3) dL_law_922 (by rw [hx, show (3 : Int32) = nI 3 by decide, nI_add]) (by omega) hL31 ?_
  refine rn_callV (As := [.int (g.oiv 1 (i + 1)), .int (g.oiv 1 (i + 2)), .int (g.oiv 1 (i + 3))]) (mc := 0) (ms := 0) dL_law_923 ov_X6_cell ml_L_122 hc.sh.1 rfl rfl (Nat.zero_le _) (Nat.le_of_ble_eq_true rfl) (Nat.le_of_ble_eq_true rfl) (by show _ ≤ 600000; omega) (by show _ ≤ 7302249; omega) (lc_cell 0 (g.oiv 1 (i + 1)) (g.oiv 1 (i + 2)) (g.oiv 1 (i + 3)) hj hc hm) (fun r1 Γ1 iv1 rv1 lv1 h1 => ?_)
  obtain ⟨rfl, hc, hm⟩ := h1
  refine rn_sst ?_
  refine r_aload2 dL_law_926 ?_
  refine r_aload0 dL_law_927 ?_
  refine r_iload3 dL_law_928 ?_
  refine rn_iconst (1) dL_law_929 (by decide) ?_
  refine rn_iadd dL_law_930 ?_
  refine rn_sald (i + 1) dL_law_931 (by rw [hx, show (1 : Int32) = nI 1 by decide, nI_add]) (by omega) hL31 ?_
  refine r_aload0 dL_law_932 ?_
  refine r_iload3 dL_law_933 ?_
  refine rn_iconst (2) dL_law_934 (by decide) ?_
  refine rn_iadd dL_law_935 ?_
  refine rn_sald (i + 2) dL_law_936 (by rw [hx, show (2 : Int32) = nI 2 by decide, nI_add]) (by omega) hL31 ?_
  refine r_aload0 dL_law_937 ?_
  refine r_iload3 dL_law_938 ?_
  refine rn_iconst (3) dL_law_939 (by decide) ?_
  refine rn_iadd dL_law_940 ?_
  refine rn_sald (i + 3) dL_law_941 (by rw [hx, show (3 : Int32) = nI 3 by decide, nI_add]) (by omega) hL31 ?_
  refine rn_callV (As := [.int (g.oiv 1 (i + 1)), .int (g.oiv 1 (i + 2)), .int (g.oiv 1 (i + 3))]) (mc := 0) (ms := 0) dL_law_942 ov_X7_cell ml_L_125 hm.sh.1 rfl rfl (Nat.le_of_ble_eq_true rfl) (Nat.le_of_ble_eq_true rfl) (Nat.le_of_ble_eq_true rfl) (by show _ ≤ 600000; omega) (by show _ ≤ 7302249; omega) (lm_cell 0 (g.oiv 1 (i + 1)) (g.oiv 1 (i + 2)) (g.oiv 1 (i + 3)) hj hc hm) (fun r2 Γ2 iv2 rv2 lv2 h2 => ?_)
  obtain ⟨rfl, hc, hm⟩ := h2
  refine rn_sst ?_
  refine rn_icmp_eq 1099 dL_law_945 rfl (fun _ => ?_) (fun h => absurd rfl h)
  exact kk _ _ _ _ _ _ _ (hj.ts hj.n6 hj.bb (gs_cell hj.gs)) hc hm (by omega) (by omega)
set_option maxRecDepth 4000 in
theorem lq_copy {i k s : Nat} {x : Int32} {j : Jt} (hx : x = nI i) (hi : i + 6 ≤ g.oln 1) (hL : g.oln 1 ≤ 384) (hj : JG j) (hc : CI j Γ iv rv) (hm : MI_ j Γ iv rv) (hk : k ≤ 1000 + 5 * i) (hs : s ≤ 10000 + 212 * i) (kk : KK g l x i) : Rn g l mL_law room_1 qLaw k s 950 [.ref 1, .ref 14, .ref 75, .int x] [] Γ iv rv lv := by
  have hL31 : g.oln 1 < 2 ^ 31 := by omega
  refine r_aload1 dL_law_950 ?_
  refine r_aload0 dL_law_951 ?_
  refine r_iload3 dL_law_952 ?_
  refine rn_iconst (1) dL_law_953 (by decide) ?_
  refine rn_iadd dL_law_954 ?_
  refine rn_sald (i + 1) dL_law_955 (by rw [hx, show (1 : Int32) = nI 1 by decide, nI_add]) (by omega) hL31 ?_
  refine r_aload0 dL_law_956 ?_
  refine r_iload3 dL_law_957 ?_
  refine rn_iconst (2) dL_law_958 (by decide) ?_
  refine rn_iadd dL_law_959 ?_
  refine rn_sald (i + 2) dL_law_960 (by rw [hx, show (2 : Int32) = nI 2 by decide, nI_add]) (by omega) hL31 ?_
  refine r_aload0 dL_law_961 ?_
  refine r_iload3 dL_law_962 ?_
  refine rn_iconst (3) dL_law_963 (by decide) ?_
  refine rn_iadd dL_law_964 ?_
  refine rn_sald (i + 3) dL_law_965 (by rw [hx, show (3 : Int32) = nI 3 by decide, nI_add]) (by omega) hL31 ?_
  refine r_aload0 dL_law_966 ?_
  refine r_iload3 dL_law_967 ?_
  refine rn_iconst (4) dL_law_968 (by decide) ?_
  refine rn_iadd dL_law_969 ?_
  refine rn_sald (i + 4) dL_law_970 (by rw [hx, show (4 : Int32) = nI 4 by decide, nI_add]) (by omega) hL31 ?_
  refine r_aload0 dL_law_971 ?_
  refine r_iload3 dL_law_972 ?_
  refine rn_iconst (5) dL_law_973 (by decide) ?_
  refine rn_iadd dL_law_974 ?_
  refine rn_sald (i + 5) dL_law_975 (by rw [hx, show (5 : Int32) = nI 5 by decide, nI_add]) (by omega) hL31 ?_
  refine rn_callV (As := [.int (g.oiv 1 (i + 1)), .int (g.oiv 1 (i + 2)), .int (g.oiv 1 (i + 3)), .int (g.oiv 1 (i + 4)), .int (g.oiv 1 (i + 5))]) (mc := 0) (ms := 0) dL_law_976 ov_X6_copy ml_L_126 hc.sh.1 rfl rfl (Nat.zero_le _) (Nat.le_of_ble_eq_true rfl) (Nat.le_of_ble_eq_true rfl) (by show _ ≤ 600000; omega) (by show _ ≤ 7302249; omega) (lc_copy 0 (g.oiv 1 (i + 1)) (g.oiv 1 (i + 2)) (g.oiv 1 (i + 3)) (g.oiv 1 (i + 4)) (g.oiv 1 (i + 5)) hj hc hm) (fun r1 Γ1 iv1 rv1 lv1 h1 => ?_)
  obtain ⟨rfl, hc, hm⟩ := h1
  refine rn_sst ?_
  refine r_aload2 dL_law_979 ?_
  refine r_aload0 dL_law_980 ?_
  refine r_iload3 dL_law_981 ?_
  refine rn_iconst (1) dL_law_982 (by decide) ?_
  refine rn_iadd dL_law_983 ?_
  refine rn_sald (i + 1) dL_law_984 (by rw [hx, show (1 : Int32) = nI 1 by decide, nI_add]) (by omega) hL31 ?_
  refine r_aload0 dL_law_985 ?_
  refine r_iload3 dL_law_986 ?_
  refine rn_iconst (2) dL_law_987 (by decide) ?_
  refine rn_iadd dL_law_988 ?_
  refine rn_sald (i + 2) dL_law_989 (by rw [hx, show (2 : Int32) = nI 2 by decide, nI_add]) (by omega) hL31 ?_
  refine r_aload0 dL_law_990 ?_
  refine r_iload3 dL_law_991 ?_
  refine rn_iconst (3) dL_law_992 (by decide) ?_
  refine rn_iadd dL_law_993 ?_
  refine rn_sald (i + 3) dL_law_994 (by rw [hx, show (3 : Int32) = nI 3 by decide, nI_add]) (by omega) hL31 ?_
  refine r_aload0 dL_law_995 ?_
  refine r_iload3 dL_law_996 ?_
  refine rn_iconst (4) dL_law_997 (by decide) ?_
  refine rn_iadd dL_law_998 ?_
  refine rn_sald (i + 4) dL_law_999 (by rw [hx, show (4 : Int32) = nI 4 by decide, nI_add]) (by omega) hL31 ?_
  refine r_aload0 dL_law_1000 ?_
  refine r_iload3 dL_law_1001 ?_
  refine rn_iconst (5) dL_law_1002 (by decide) ?_
  refine rn_iadd dL_law_1003 ?_
  refine rn_sald (i + 5) dL_law_1004 (by rw [hx, show (5 : Int32) = nI 5 by decide, nI_add]) (by omega) hL31 ?_
  refine rn_callV (As := [.int (g.oiv 1 (i + 1)), .int (g.oiv 1 (i + 2)), .int (g.oiv 1 (i + 3)), .int (g.oiv 1 (i + 4)), .int (g.oiv 1 (i + 5))]) (mc := 0) (ms := 0) dL_law_1005 ov_X7_copy ml_L_130 hm.sh.1 rfl rfl (Nat.le_of_ble_eq_true rfl) (Nat.le_of_ble_eq_true rfl) (Nat.le_of_ble_eq_true rfl) (by show _ ≤ 600000; omega) (by show _ ≤ 7302249; omega) (lm_copy 0 (g.oiv 1 (i + 1)) (g.oiv 1 (i + 2)) (g.oiv 1 (i + 3)) (g.oiv 1 (i + 4)) (g.oiv 1 (i + 5)) hj hc hm) (fun r2 Γ2 iv2 rv2 lv2 h2 => ?_)
  obtain ⟨rfl, hc, hm⟩ := h2
  refine rn_sst ?_
  refine rn_icmp_eq 1099 dL_law_1008 rfl (fun _ => ?_) (fun h => absurd rfl h)
  exact kk _ _ _ _ _ _ _ (hj.ts hj.n6 hj.bb (gs_copy hj.gs)) hc hm (by omega) (by omega)
set_option maxRecDepth 4000 in
theorem lq_grounds {i k s : Nat} {x : Int32} {j : Jt} (hx : x = nI i) (hi : i + 6 ≤ g.oln 1) (hL : g.oln 1 ≤ 384) (hj : JG j) (hc : CI j Γ iv rv) (hm : MI_ j Γ iv rv) (hk : k ≤ 1000 + 5 * i) (hs : s ≤ 10000 + 212 * i) (kk : KK g l x i) : Rn g l mL_law room_1 qLaw k s 1013 [.ref 1, .ref 14, .ref 75, .int x] [] Γ iv rv lv := by
  have hL31 : g.oln 1 < 2 ^ 31 := by omega
  refine r_aload1 dL_law_1013 ?_
  refine r_aload0 dL_law_1014 ?_
  refine r_iload3 dL_law_1015 ?_
  refine rn_iconst (1) dL_law_1016 (by decide) ?_
  refine rn_iadd dL_law_1017 ?_
  refine rn_sald (i + 1) dL_law_1018 (by rw [hx, show (1 : Int32) = nI 1 by decide, nI_add]) (by omega) hL31 ?_
  refine r_aload0 dL_law_1019 ?_
  refine r_iload3 dL_law_1020 ?_
  refine rn_iconst (2) dL_law_1021 (by decide) ?_
  refine rn_iadd dL_law_1022 ?_
  refine rn_sald (i + 2) dL_law_1023 (by rw [hx, show (2 : Int32) = nI 2 by decide, nI_add]) (by omega) hL31 ?_
  refine r_aload0 dL_law_1024 ?_
  refine r_iload3 dL_law_1025 ?_
  refine rn_iconst (3) dL_law_1026 (by decide) ?_
  refine rn_iadd dL_law_1027 ?_
  refine rn_sald (i + 3) dL_law_1028 (by rw [hx, show (3 : Int32) = nI 3 by decide, nI_add]) (by omega) hL31 ?_
  refine r_aload0 dL_law_1029 ?_
  refine r_iload3 dL_law_1030 ?_
  refine rn_iconst (4) dL_law_1031 (by decide) ?_
  refine rn_iadd dL_law_1032 ?_
  refine rn_sald (i + 4) dL_law_1033 (by rw [hx, show (4 : Int32) = nI 4 by decide, nI_add]) (by omega) hL31 ?_
  refine rn_callV (As := [.int (g.oiv 1 (i + 1)), .int (g.oiv 1 (i + 2)), .int (g.oiv 1 (i + 3)), .int (g.oiv 1 (i + 4))]) (mc := 0) (ms := 0) dL_law_1034 ov_X6_grounds ml_L_131 hc.sh.1 rfl rfl (Nat.zero_le _) (Nat.le_of_ble_eq_true rfl) (Nat.le_of_ble_eq_true rfl) (by show _ ≤ 600000; omega) (by show _ ≤ 7302249; omega) (lc_grounds 0 (g.oiv 1 (i + 1)) (g.oiv 1 (i + 2)) (g.oiv 1 (i + 3)) (g.oiv 1 (i + 4)) hj hc hm) (fun r1 Γ1 iv1 rv1 lv1 h1 => ?_)
  obtain ⟨rfl, hc, hm⟩ := h1
  refine rn_sst ?_
  refine r_aload2 dL_law_1037 ?_
  refine r_aload0 dL_law_1038 ?_
  refine r_iload3 dL_law_1039 ?_
  refine rn_iconst (1) dL_law_1040 (by decide) ?_
  refine rn_iadd dL_law_1041 ?_
  refine rn_sald (i + 1) dL_law_1042 (by rw [hx, show (1 : Int32) = nI 1 by decide, nI_add]) (by omega) hL31 ?_
  refine r_aload0 dL_law_1043 ?_
  refine r_iload3 dL_law_1044 ?_
  refine rn_iconst (2) dL_law_1045 (by decide) ?_
  refine rn_iadd dL_law_1046 ?_
  refine rn_sald (i + 2) dL_law_1047 (by rw [hx, show (2 : Int32) = nI 2 by decide, nI_add]) (by omega) hL31 ?_
  refine r_aload0 dL_law_1048 ?_
  refine r_iload3 dL_law_1049 ?_
  refine rn_iconst (3) dL_law_1050 (by decide) ?_
  refine rn_iadd dL_law_1051 ?_
  refine rn_sald (i + 3) dL_law_1052 (by rw [hx, show (3 : Int32) = nI 3 by decide, nI_add]) (by omega) hL31 ?_
  refine r_aload0 dL_law_1053 ?_
  refine r_iload3 dL_law_1054 ?_
  refine rn_iconst (4) dL_law_1055 (by decide) ?_
  refine rn_iadd dL_law_1056 ?_
  refine rn_sald (i + 4) dL_law_1057 (by rw [hx, show (4 : Int32) = nI 4 by decide, nI_add]) (by omega) hL31 ?_
  refine rn_callV (As := [.int (g.oiv 1 (i + 1)), .int (g.oiv 1 (i + 2)), .int (g.oiv 1 (i + 3)), .int (g.oiv 1 (i + 4))]) (mc := 0) (ms := 0) dL_law_1058 ov_X7_grounds ml_L_135 hm.sh.1 rfl rfl (Nat.le_of_ble_eq_true rfl) (Nat.le_of_ble_eq_true rfl) (Nat.le_of_ble_eq_true rfl) (by show _ ≤ 600000; omega) (by show _ ≤ 7302249; omega) (lm_grounds 0 (g.oiv 1 (i + 1)) (g.oiv 1 (i + 2)) (g.oiv 1 (i + 3)) (g.oiv 1 (i + 4)) hj hc hm) (fun r2 Γ2 iv2 rv2 lv2 h2 => ?_)
  obtain ⟨rfl, hc, hm⟩ := h2
  refine rn_sst ?_
  refine rn_icmp_eq 1099 dL_law_1061 rfl (fun _ => ?_) (fun h => absurd rfl h)
  exact kk _ _ _ _ _ _ _ (hj.rd (gq_grounds hj.gq)) hc hm (by omega) (by omega)
set_option maxRecDepth 4000 in
theorem lq_taken {i k s : Nat} {x : Int32} {j : Jt} (hx : x = nI i) (hi : i + 6 ≤ g.oln 1) (hL : g.oln 1 ≤ 384) (hj : JG j) (hc : CI j Γ iv rv) (hm : MI_ j Γ iv rv) (hk : k ≤ 1000 + 5 * i) (hs : s ≤ 10000 + 212 * i) (kk : KK g l x i) : Rn g l mL_law room_1 qLaw k s 1066 [.ref 1, .ref 14, .ref 75, .int x] [] Γ iv rv lv := by
  have hL31 : g.oln 1 < 2 ^ 31 := by omega
  refine r_aload1 dL_law_1066 ?_
  refine r_aload0 dL_law_1067 ?_
  refine r_iload3 dL_law_1068 ?_
  refine rn_iconst (1) dL_law_1069 (by decide) ?_
  refine rn_iadd dL_law_1070 ?_
  refine rn_sald (i + 1) dL_law_1071 (by rw [hx, show (1 : Int32) = nI 1 by decide, nI_add]) (by omega) hL31 ?_
  refine r_aload0 dL_law_1072 ?_
  refine r_iload3 dL_law_1073 ?_
  refine rn_iconst (2) dL_law_1074 (by decide) ?_
  refine rn_iadd dL_law_1075 ?_
  refine rn_sald (i + 2) dL_law_1076 (by rw [hx, show (2 : Int32) = nI 2 by decide, nI_add]) (by omega) hL31 ?_
  refine rn_callV (As := [.int (g.oiv 1 (i + 1)), .int (g.oiv 1 (i + 2))]) (mc := 0) (ms := 0) dL_law_1077 ov_X6_taken ml_L_136 hc.sh.1 rfl rfl (Nat.zero_le _) (Nat.le_of_ble_eq_true rfl) (Nat.le_of_ble_eq_true rfl) (by show _ ≤ 600000; omega) (by show _ ≤ 7302249; omega) (lc_taken 0 (g.oiv 1 (i + 1)) (g.oiv 1 (i + 2)) hj hc hm) (fun r1 Γ1 iv1 rv1 lv1 h1 => ?_)
  obtain ⟨rfl, hc, hm⟩ := h1
  refine rn_sst ?_
  refine r_aload2 dL_law_1080 ?_
  refine r_aload0 dL_law_1081 ?_
  refine r_iload3 dL_law_1082 ?_
  refine rn_iconst (1) dL_law_1083 (by decide) ?_
  refine rn_iadd dL_law_1084 ?_
  refine rn_sald (i + 1) dL_law_1085 (by rw [hx, show (1 : Int32) = nI 1 by decide, nI_add]) (by omega) hL31 ?_
  refine r_aload0 dL_law_1086 ?_
  refine r_iload3 dL_law_1087 ?_
  refine rn_iconst (2) dL_law_1088 (by decide) ?_
  refine rn_iadd dL_law_1089 ?_
  refine rn_sald (i + 2) dL_law_1090 (by rw [hx, show (2 : Int32) = nI 2 by decide, nI_add]) (by omega) hL31 ?_
  refine rn_callV (As := [.int (g.oiv 1 (i + 1)), .int (g.oiv 1 (i + 2))]) (mc := 0) (ms := 0) dL_law_1091 ov_X7_taken ml_L_139 hm.sh.1 rfl rfl (Nat.le_of_ble_eq_true rfl) (Nat.le_of_ble_eq_true rfl) (Nat.le_of_ble_eq_true rfl) (by show _ ≤ 600000; omega) (by show _ ≤ 7302249; omega) (lm_taken 0 (g.oiv 1 (i + 1)) (g.oiv 1 (i + 2)) hj hc hm) (fun r2 Γ2 iv2 rv2 lv2 h2 => ?_)
  obtain ⟨rfl, hc, hm⟩ := h2
  refine rn_sst ?_
  refine rn_icmp_eq 1099 dL_law_1094 rfl (fun _ => ?_) (fun h => absurd rfl h)
  exact kk _ _ _ _ _ _ _ hj hc hm (by omega) (by omega)
end LAWQ
