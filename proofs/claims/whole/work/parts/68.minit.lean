/-! THE REFERENCE: its constructor -/
/-- so many of its rows are made -/
def Mk (Γ0 : Sh) (iv0 : IV) (rv0 : RV) (j : Nat) (v : Nat → Int32) (Γ : Sh) (iv : IV) (rv : RV) : Prop := Γ.1 = 76 + j ∧ ShLe 76 Γ0 Γ ∧ (∀ q ∈ mA.take j, rv 75 q.1 = q.2.1 ∧ IsA Γ q.2.1 q.2.2.1 q.2.2.2) ∧ (∀ a b, 76 ≤ a → a < 76 + j → iv a b = 0) ∧ Lo 75 iv0 iv ∧ Lo 75 rv0 rv ∧ ∀ b, iv 75 b = v b
theorem Mk.row {Γ0 Γ : Sh} {iv0 iv : IV} {rv0 rv : RV} {j : Nat} {v : Nat → Int32} (h : Mk Γ0 iv0 rv0 j v Γ iv rv) (f c len : Nat) (ht : mA.take (j + 1) = mA.take j ++ [(f, 76 + j, c, len)]) (hf : ∀ p ∈ mA.take j, p.1 ≠ f ∧ p.2.1 < 76 + j) : Mk Γ0 iv0 rv0 (j + 1) v (alo Γ c len) (clr iv (76 + j) 0) (up (clr rv (76 + j) 0) 75 f (76 + j)) := by
  obtain ⟨h1, h2, h3, h4, h5, h6, h7⟩ := h
  refine ⟨by rw [alo_1]; omega, h2.alo, fun q hq => ?_, fun a b ha hb => ?_, h5.trans (lo_clr (by omega)), (h6.trans (lo_clr (by omega))).trans (lo_up (by omega)), fun b => (clr_ne (by omega)).trans (h7 b)⟩
  · rw [ht] at hq
    rcases List.mem_append.mp hq with hq | hq
    · obtain ⟨z1, z2⟩ := hf q hq
      exact ⟨((up_ne2 z1).trans (clr_ne (by omega))).trans (h3 q hq).1, isA_alo (h3 q hq).2⟩
    · obtain rfl := List.mem_singleton.mp hq
      exact ⟨up_same _ _ _ _, isA_newN h1 (show 14 ≤ 76 + j by omega)⟩
  · by_cases e : a = 76 + j
    · subst e; exact clr_same _ _ _ _
    · exact (clr_ne e).trans (h4 a b ha (by omega))
theorem Mk.num {Γ0 Γ : Sh} {iv0 iv : IV} {rv0 rv : RV} {j : Nat} {v : Nat → Int32} (h : Mk Γ0 iv0 rv0 j v Γ iv rv) (f : Nat) (x : Int32) : Mk Γ0 iv0 rv0 j (fun b => if b = f then x else v b) Γ (up iv 75 f x) rv := by
  obtain ⟨h1, h2, h3, h4, h5, h6, h7⟩ := h
  refine ⟨h1, h2, h3, fun a b ha hb => (up_ne1 (by omega)).trans (h4 a b ha hb), h5.trans (lo_up (by omega)), h6, fun b => ?_⟩
  by_cases e : b = f
  · subst e; exact (up_same _ _ _ _).trans (if_pos rfl).symm
  · exact ((up_ne2 e).trans (h7 b)).trans (if_neg e).symm
/-- so many words of its first text stand -/
def Wd (iv0 : IV) (c : Nat) (v : Nat → Int32) (iv : IV) : Prop := (∀ j, j < 8 * c → iv 76 j = oiv0 8 j) ∧ Lo 75 iv0 iv ∧ (∀ a b, 77 ≤ a → a < 98 → iv a b = 0) ∧ ∀ b, iv 75 b = v b
def Spl (k : Nat) (L : List Int32) (iv iv' : IV) : Prop := Off (fun a b => a = 76 ∧ k ≤ b ∧ b < k + 8) iv iv' ∧ ∀ j, j < 8 → iv' 76 (k + j) = L.getD j 0
theorem Wd.word {iv0 iv iv' : IV} {c : Nat} {v : Nat → Int32} (h : Wd iv0 c v iv) {k : Nat} {L : List Int32} (hs : Spl k L iv iv') (hk : k = 8 * c) (hL : ∀ j, j < 8 → L.getD j 0 = oiv0 8 (8 * c + j)) : Wd iv0 (c + 1) v iv' := by
  subst hk
  obtain ⟨h1, h2, h3, h4⟩ := h
  refine ⟨fun j hj => ?_, fun a b ha => (hs.1 a b (by omega)).trans (h2 a b ha), fun a b ha hb => (hs.1 a b (by omega)).trans (h3 a b ha hb), fun b => (hs.1 75 b (by omega)).trans (h4 b)⟩
  by_cases e : j < 8 * c
  · exact (hs.1 76 j (by omega)).trans (h1 j e)
  · have := (hs.2 (j - 8 * c) (by omega)).trans (hL (j - 8 * c) (by omega))
    rw [show 8 * c + (j - 8 * c) = j by omega] at this
    exact this
section MINIT
variable {g : GS} {l : Launch} {Γ : Sh} {iv : IV} {rv : RV} {lv : LV}
set_option maxRecDepth 4000 in
theorem ct_spell (d : Nat) (hM : ShM Γ rv) {x v1 v2 v3 v4 v5 v6 v7 v8 : Int32} (k : Nat) (hx : x = nI k) (hk : k + 8 ≤ 960) : Ct g l mX7_spell (d) 0 0 [.ref 75, .int x, .int v1, .int v2, .int v3, .int v4, .int v5, .int v6, .int v7, .int v8] Γ iv rv lv (qCV Γ rv lv (Spl k [v1, v2, v3, v4, v5, v6, v7, v8] iv)) := by
  refine Ct.of (by decide +kernel) (Nat.le_of_ble_eq_true rfl) (Nat.le_of_ble_eq_true rfl) ?_
  refine r_aload0 dX7_spell_0 ?_
  refine gf_X7_13 dX7_spell_1 rfl hM.1 (sm_texts hM).1 ?_
  refine r_iload1 dX7_spell_4 ?_
  refine r_iload2 dX7_spell_5 ?_
  refine rn_iast k dX7_spell_6 (sm_texts hM).2 hx (by omega) (by decide) ?_
  refine r_aload0 dX7_spell_7 ?_
  refine gf_X7_13 dX7_spell_8 rfl hM.1 (sm_texts hM).1 ?_
  refine r_iload1 dX7_spell_11 ?_
  refine rn_iconst (1) dX7_spell_12 (by decide) ?_
  refine rn_iadd dX7_spell_13 ?_
  refine r_iload3 dX7_spell_14 ?_
  refine rn_iast (k + 1) dX7_spell_15 (sm_texts hM).2 (by rw [hx, show (1 : Int32) = nI 1 by decide, nI_add]) (by omega) (by decide) ?_
  refine r_aload0 dX7_spell_16 ?_
  refine gf_X7_13 dX7_spell_17 rfl hM.1 (sm_texts hM).1 ?_
  refine r_iload1 dX7_spell_20 ?_
  refine rn_iconst (2) dX7_spell_21 (by decide) ?_
  refine rn_iadd dX7_spell_22 ?_
  refine r_iload4 dX7_spell_23 ?_
  refine rn_iast (k + 2) dX7_spell_25 (sm_texts hM).2 (by rw [hx, show (2 : Int32) = nI 2 by decide, nI_add]) (by omega) (by decide) ?_
  refine r_aload0 dX7_spell_26 ?_
  refine gf_X7_13 dX7_spell_27 rfl hM.1 (sm_texts hM).1 ?_
  refine r_iload1 dX7_spell_30 ?_
  refine rn_iconst (3) dX7_spell_31 (by decide) ?_
  refine rn_iadd dX7_spell_32 ?_
  refine r_iload5 dX7_spell_33 ?_
  refine rn_iast (k + 3) dX7_spell_35 (sm_texts hM).2 (by rw [hx, show (3 : Int32) = nI 3 by decide, nI_add]) (by omega) (by decide) ?_
  refine r_aload0 dX7_spell_36 ?_
  refine gf_X7_13 dX7_spell_37 rfl hM.1 (sm_texts hM).1 ?_
  refine r_iload1 dX7_spell_40 ?_
  refine rn_iconst (4) dX7_spell_41 (by decide) ?_
  refine rn_iadd dX7_spell_42 ?_
  refine r_iload6 dX7_spell_43 ?_
  refine rn_iast (k + 4) dX7_spell_45 (sm_texts hM).2 (by rw [hx, show (4 : Int32) = nI 4 by decide, nI_add]) (by omega) (by decide) ?_
  refine r_aload0 dX7_spell_46 ?_
  refine gf_X7_13 dX7_spell_47 rfl hM.1 (sm_texts hM).1 ?_
  refine r_iload1 dX7_spell_50 ?_
  refine rn_iconst (5) dX7_spell_51 (by decide) ?_
  refine rn_iadd dX7_spell_52 ?_
  refine r_iload7 dX7_spell_53 ?_
  refine rn_iast (k + 5) dX7_spell_55 (sm_texts hM).2 (by rw [hx, show (5 : Int32) = nI 5 by decide, nI_add]) (by omega) (by decide) ?_
  refine r_aload0 dX7_spell_56 ?_
  refine gf_X7_13 dX7_spell_57 rfl hM.1 (sm_texts hM).1 ?_
  refine r_iload1 dX7_spell_60 ?_
  refine rn_bipush (6) dX7_spell_61 (by decide) ?_
  refine rn_iadd dX7_spell_63 ?_
  refine r_iload8 dX7_spell_64 ?_
  refine rn_iast (k + 6) dX7_spell_66 (sm_texts hM).2 (by rw [hx, show (6 : Int32) = nI 6 by decide, nI_add]) (by omega) (by decide) ?_
  refine r_aload0 dX7_spell_67 ?_
  refine gf_X7_13 dX7_spell_68 rfl hM.1 (sm_texts hM).1 ?_
  refine r_iload1 dX7_spell_71 ?_
  refine rn_bipush (7) dX7_spell_72 (by decide) ?_
  refine rn_iadd dX7_spell_74 ?_
  refine r_iload9 dX7_spell_75 ?_
  refine rn_iast (k + 7) dX7_spell_77 (sm_texts hM).2 (by rw [hx, show (7 : Int32) = nI 7 by decide, nI_add]) (by omega) (by decide) ?_
  refine rn_vret dX7_spell_78 rfl (Nat.zero_le _) (Nat.zero_le _) ?_
  refine ⟨rfl, rfl, rfl, rfl, fun a b z => ?_, fun j hj => match j, hj with
    | 0, _ => by rw [show k + 0 = k from rfl, up_ne2 (by omega), up_ne2 (by omega), up_ne2 (by omega), up_ne2 (by omega), up_ne2 (by omega), up_ne2 (by omega), up_ne2 (by omega), up_same]; rfl
    | 1, _ => by rw [up_ne2 (by omega), up_ne2 (by omega), up_ne2 (by omega), up_ne2 (by omega), up_ne2 (by omega), up_ne2 (by omega), up_same]; rfl
    | 2, _ => by rw [up_ne2 (by omega), up_ne2 (by omega), up_ne2 (by omega), up_ne2 (by omega), up_ne2 (by omega), up_same]; rfl
    | 3, _ => by rw [up_ne2 (by omega), up_ne2 (by omega), up_ne2 (by omega), up_ne2 (by omega), up_same]; rfl
    | 4, _ => by rw [up_ne2 (by omega), up_ne2 (by omega), up_ne2 (by omega), up_same]; rfl
    | 5, _ => by rw [up_ne2 (by omega), up_ne2 (by omega), up_same]; rfl
    | 6, _ => by rw [up_ne2 (by omega), up_same]; rfl
    | 7, _ => by rw [up_same]; rfl⟩
  rw [up_ne (by omega), up_ne (by omega), up_ne (by omega), up_ne (by omega), up_ne (by omega), up_ne (by omega), up_ne (by omega), up_ne (by omega)]
/-- the reference is made -/
def qMI (Γ : Sh) (iv : IV) (rv : RV) : Qt := fun r Γ' iv' rv' _ => r = none ∧ Γ'.1 = 98 ∧ ShLe 76 Γ Γ' ∧ Lo 75 iv iv' ∧ Lo 75 rv rv' ∧ ShM Γ' rv' ∧ RM iv' ro0 ∧ iv' 75 3 = 1 ∧ iv' 75 6 = 0 ∧ iv' 75 45 = 0 ∧ TextsM iv' 1 S00 ∧ ∀ s, s < 4 → iv' 94 s = 0
def vM (b : Nat) : Int32 := if b = 19 then 3 else if b = 17 then 50 else 0
set_option maxRecDepth 4000 in
theorem xm_words {D : Nat} {Γ0 : Sh} {iv0 : IV} {rv0 : RV} (hm : Γ.1 = 98) (hl : ShLe 76 Γ0 Γ) (hr : Lo 75 rv0 rv) (hM : ShM Γ rv) (hW : Wd iv0 0 vM iv) : Rn g l mX7_init (rmA (D + 1) 22 1476) (qMI Γ0 iv0 rv0) 22 1476 184 [.ref 75] [] Γ iv rv lv := by
  refine r_aload0 dX7_init_184 ?_
  refine rn_iconst (0) dX7_init_185 (by decide) ?_
  refine rn_bipush (114) dX7_init_186 (by decide) ?_
  refine rn_bipush (97) dX7_init_188 (by decide) ?_
  refine rn_bipush (116) dX7_init_190 (by decide) ?_
  refine rn_bipush (101) dX7_init_192 (by decide) ?_
  refine rn_bipush (32) dX7_init_194 (by decide) ?_
  refine rn_bipush (109) dX7_init_196 (by decide) ?_
  refine rn_bipush (101) dX7_init_198 (by decide) ?_
  refine rn_bipush (110) dX7_init_200 (by decide) ?_
  refine ccvV9 dX7_init_202 ov_X7_spell rfl ml_X7_87 hM.1 rfl (Nat.zero_le _) (by show _ ≤ 22; omega) (by show _ ≤ 1476; omega) (ct_spell _ hM 0 (by decide) (by decide)) (fun iv h202 => ?_)
  have hW := hW.word (k := 0) h202 rfl (by decide +kernel)
  refine r_aload0 dX7_init_205 ?_
  refine rn_bipush (8) dX7_init_206 (by decide) ?_
  refine rn_bipush (32) dX7_init_208 (by decide) ?_
  refine rn_bipush (42) dX7_init_210 (by decide) ?_
  refine rn_bipush (32) dX7_init_212 (by decide) ?_
  refine rn_bipush (52) dX7_init_214 (by decide) ?_
  refine rn_bipush (32) dX7_init_216 (by decide) ?_
  refine rn_bipush (59) dX7_init_218 (by decide) ?_
  refine rn_bipush (32) dX7_init_220 (by decide) ?_
  refine rn_bipush (110) dX7_init_222 (by decide) ?_
  refine ccvV9 dX7_init_224 ov_X7_spell rfl ml_X7_87 hM.1 rfl (Nat.zero_le _) (by show _ ≤ 22; omega) (by show _ ≤ 1476; omega) (ct_spell _ hM 8 (by decide) (by decide)) (fun iv h224 => ?_)
  have hW := hW.word (k := 8) h224 rfl (by decide +kernel)
  refine r_aload0 dX7_init_227 ?_
  refine rn_bipush (16) dX7_init_228 (by decide) ?_
  refine rn_bipush (101) dX7_init_230 (by decide) ?_
  refine rn_bipush (101) dX7_init_232 (by decide) ?_
  refine rn_bipush (100) dX7_init_234 (by decide) ?_
  refine rn_bipush (32) dX7_init_236 (by decide) ?_
  refine rn_bipush (51) dX7_init_238 (by decide) ?_
  refine rn_bipush (48) dX7_init_240 (by decide) ?_
  refine rn_bipush (32) dX7_init_242 (by decide) ?_
  refine rn_bipush (43) dX7_init_244 (by decide) ?_
  refine ccvV9 dX7_init_246 ov_X7_spell rfl ml_X7_87 hM.1 rfl (Nat.zero_le _) (by show _ ≤ 22; omega) (by show _ ≤ 1476; omega) (ct_spell _ hM 16 (by decide) (by decide)) (fun iv h246 => ?_)
  have hW := hW.word (k := 16) h246 rfl (by decide +kernel)
  refine r_aload0 dX7_init_249 ?_
  refine rn_bipush (24) dX7_init_250 (by decide) ?_
  refine rn_bipush (32) dX7_init_252 (by decide) ?_
  refine rn_bipush (103) dX7_init_254 (by decide) ?_
  refine rn_bipush (114) dX7_init_256 (by decide) ?_
  refine rn_bipush (111) dX7_init_258 (by decide) ?_
  refine rn_bipush (117) dX7_init_260 (by decide) ?_
  refine rn_bipush (110) dX7_init_262 (by decide) ?_
  refine rn_bipush (100) dX7_init_264 (by decide) ?_
  refine rn_bipush (32) dX7_init_266 (by decide) ?_
  refine ccvV9 dX7_init_268 ov_X7_spell rfl ml_X7_87 hM.1 rfl (Nat.zero_le _) (by show _ ≤ 22; omega) (by show _ ≤ 1476; omega) (ct_spell _ hM 24 (by decide) (by decide)) (fun iv h268 => ?_)
  have hW := hW.word (k := 24) h268 rfl (by decide +kernel)
  refine r_aload0 dX7_init_271 ?_
  refine rn_bipush (32) dX7_init_272 (by decide) ?_
  refine rn_bipush (42) dX7_init_274 (by decide) ?_
  refine rn_bipush (32) dX7_init_276 (by decide) ?_
  refine rn_bipush (50) dX7_init_278 (by decide) ?_
  refine rn_bipush (53) dX7_init_280 (by decide) ?_
  refine rn_bipush (32) dX7_init_282 (by decide) ?_
  refine rn_bipush (59) dX7_init_284 (by decide) ?_
  refine rn_bipush (32) dX7_init_286 (by decide) ?_
  refine rn_bipush (119) dX7_init_288 (by decide) ?_
  refine ccvV9 dX7_init_290 ov_X7_spell rfl ml_X7_87 hM.1 rfl (Nat.zero_le _) (by show _ ≤ 22; omega) (by show _ ≤ 1476; omega) (ct_spell _ hM 32 (by decide) (by decide)) (fun iv h290 => ?_)
  have hW := hW.word (k := 32) h290 rfl (by decide +kernel)
  refine r_aload0 dX7_init_293 ?_
  refine rn_bipush (40) dX7_init_294 (by decide) ?_
  refine rn_bipush (111) dX7_init_296 (by decide) ?_
  refine rn_bipush (114) dX7_init_298 (by decide) ?_
  refine rn_bipush (116) dX7_init_300 (by decide) ?_
  refine rn_bipush (104) dX7_init_302 (by decide) ?_
  refine rn_bipush (32) dX7_init_304 (by decide) ?_
  refine rn_bipush (48) dX7_init_306 (by decide) ?_
  refine rn_bipush (32) dX7_init_308 (by decide) ?_
  refine rn_bipush (59) dX7_init_310 (by decide) ?_
  refine ccvV9 dX7_init_312 ov_X7_spell rfl ml_X7_87 hM.1 rfl (Nat.zero_le _) (by show _ ≤ 22; omega) (by show _ ≤ 1476; omega) (ct_spell _ hM 40 (by decide) (by decide)) (fun iv h312 => ?_)
  have hW := hW.word (k := 40) h312 rfl (by decide +kernel)
  refine r_aload0 dX7_init_315 ?_
  refine gf_X7_17 dX7_init_316 rfl hM.1 (sm_textSize hM).1 ?_
  refine rn_iconst (0) dX7_init_319 (by decide) ?_
  refine rn_bipush (48) dX7_init_320 (by decide) ?_
  refine rn_iast 0 dX7_init_322 (sm_textSize hM).2 (by decide) (by decide) (by decide) ?_
  refine r_aload0 dX7_init_323 ?_
  refine rn_iconst (1) dX7_init_324 (by decide) ?_
  refine pf_X7_91 dX7_init_325 rfl hM.1 ?_
  refine r_aload0 dX7_init_328 ?_
  refine gf_X7_35 dX7_init_329 rfl hM.1 (sm_men hM).1 ?_
  refine rn_iconst (0) dX7_init_332 (by decide) ?_
  refine rn_bipush (10) dX7_init_333 (by decide) ?_
  refine rn_iast 0 dX7_init_335 (sm_men hM).2 (by decide) (by decide) (by decide) ?_
  refine r_aload0 dX7_init_336 ?_
  refine gf_X7_35 dX7_init_337 rfl hM.1 (sm_men hM).1 ?_
  refine rn_iconst (1) dX7_init_340 (by decide) ?_
  refine rn_bipush (10) dX7_init_341 (by decide) ?_
  refine rn_iast 1 dX7_init_343 (sm_men hM).2 (by decide) (by decide) (by decide) ?_
  refine rn_vret dX7_init_344 rfl (by show _ ≤ 22; omega) (by show _ ≤ 1476; omega) ?_
  obtain ⟨w1, w2, w3, w4⟩ := hW
  refine ⟨rfl, hm, hl, (((w2.trans (lo_up (by decide))).trans (lo_up (by decide))).trans (lo_up (by decide))).trans (lo_up (by decide)), hr, hM, ⟨fun y hy => ⟨?_, ?_⟩, fun k γ a1 a2 a3 => ?_, fun k a1 a2 => ?_, ?_⟩, ?_, ?_, ?_, fun t ht => ?_, fun s hs => ?_⟩
  · rw [up_ne1 (by decide), up_ne1 (by decide), up_ne1 (by decide), up_ne1 (by decide), w3 _ _ (by decide) (by decide)]; rfl
  · rw [up_ne1 (by decide), up_ne1 (by decide), up_ne1 (by decide), up_ne1 (by decide), w3 _ _ (by decide) (by decide)]; rfl
  · by_cases e : k = 3
    · subst e
      rcases (show γ = 0 ∨ γ = 1 by omega) with rfl | rfl
      · rw [up_ne2 (by decide), up_same]; rfl
      · rw [up_same]; rfl
    · rw [up_ne1 (by omega), up_ne1 (by omega), up_ne1 (by omega), up_ne1 (by omega), w3 _ _ (by omega) (by omega)]
      unfold ro0
      rw [if_neg (by omega), if_neg (by omega)]
  · rw [up_ne1 (by decide), up_ne1 (by decide), up_ne2 (by omega), up_ne1 (by decide), w4]
    match k, a1, a2 with
    | 4, _, _ => rfl
    | 5, _, _ => rfl
    | 6, _, _ => rfl
    | 7, _, _ => rfl
  · rw [up_ne1 (by decide), up_ne1 (by decide), up_ne2 (by decide), up_ne1 (by decide), w4]; rfl
  · rw [up_ne1 (by decide), up_ne1 (by decide), up_same]
  · rw [up_ne1 (by decide), up_ne1 (by decide), up_ne2 (by decide), up_ne1 (by decide), w4]; rfl
  · rw [up_ne1 (by decide), up_ne1 (by decide), up_ne2 (by decide), up_ne1 (by decide), w4]; rfl
  · obtain rfl : t = 0 := by omega
    refine ⟨oiv0 8, 48, ?_, by decide, fun j hj => ?_, b00, tx00⟩
    · rw [up_ne1 (by decide), up_ne1 (by decide), up_ne1 (by decide), up_same]; decide
    · rw [up_ne1 (by decide), up_ne1 (by decide), up_ne1 (by decide), up_ne1 (by decide), show 160 * 0 + j = j by omega]; exact w1 j hj
  · rw [up_ne1 (by decide), up_ne1 (by decide), up_ne1 (by decide), up_ne1 (by decide), w3 _ _ (by decide) (by decide)]
set_option maxRecDepth 4000 in
theorem ct_modelI (D : Nat) {Γ : Sh} {iv : IV} {rv : RV} {lv : LV} (hK : IsK Γ 75 7) (hm : Γ.1 = 76) (hz : ∀ b, iv 75 b = 0) : Ct g l mX7_init (D + 1) 22 1476 [.ref 75] Γ iv rv lv (qMI Γ iv rv) := by
  refine Ct.of (by decide +kernel) (Nat.le_of_ble_eq_true rfl) (Nat.le_of_ble_eq_true rfl) ?_
  have hS : Mk Γ iv rv 0 (fun _ => 0) Γ iv rv := ⟨hm, hm ▸ ShLe.refl, fun q hq => absurd hq List.not_mem_nil, fun a b h1 h2 => by omega, Lo.refl, Lo.refl, hz⟩
  refine r_aload0 dX7_init_0 ?_
  refine rn_objInit dX7_init_1 ml_X7_7 oin_1 oin_2 (by decide) (Nat.zero_le _) (Nat.le_add_left _ _) (by show 20 ≤ 100 * _; omega) ?_
  refine r_aload0 dX7_init_4 ?_
  refine rn_sipush (960) dX7_init_5 (by decide) ?_
  refine rn_newaN (c := 20) (960) (76) hS.1 dX7_init_8 (Or.inl rfl) rfl ac_int (by decide) (by omega) (by show _ ≤ 22; omega) (by show _ ≤ 1476; omega) (fun hz8 => ?_)
  have hn8 := isA_newN (c := 20) (len := 960) hS.1 hz8
  have hK := isK_alo (c' := 20) (len := 960) hK
  refine pf_X7_13 dX7_init_10 rfl rfl hK ?_
  have hS := hS.row 1 20 960 (by decide) (by decide)
  refine r_aload0 dX7_init_13 ?_
  refine rn_bipush (6) dX7_init_14 (by decide) ?_
  refine rn_newaN (c := 20) (6) (77) hS.1 dX7_init_16 (Or.inl rfl) rfl ac_int (by decide) (by omega) (by show _ ≤ 22; omega) (by show _ ≤ 1476; omega) (fun hz16 => ?_)
  have hn16 := isA_newN (c := 20) (len := 6) hS.1 hz16
  have hK := isK_alo (c' := 20) (len := 6) hK
  refine pf_X7_17 dX7_init_18 rfl rfl hK ?_
  have hS := hS.row 2 20 6 (by decide) (by decide)
  refine r_aload0 dX7_init_21 ?_
  refine rn_sipush (160) dX7_init_22 (by decide) ?_
  refine rn_newaN (c := 20) (160) (78) hS.1 dX7_init_25 (Or.inl rfl) rfl ac_int (by decide) (by omega) (by show _ ≤ 22; omega) (by show _ ≤ 1476; omega) (fun hz25 => ?_)
  have hn25 := isA_newN (c := 20) (len := 160) hS.1 hz25
  have hK := isK_alo (c' := 20) (len := 160) hK
  refine pf_X7_20 dX7_init_27 rfl rfl hK ?_
  have hS := hS.row 5 20 160 (by decide) (by decide)
  refine r_aload0 dX7_init_30 ?_
  refine rn_bipush (24) dX7_init_31 (by decide) ?_
  refine rn_newaN (c := 20) (24) (79) hS.1 dX7_init_33 (Or.inl rfl) rfl ac_int (by decide) (by omega) (by show _ ≤ 22; omega) (by show _ ≤ 1476; omega) (fun hz33 => ?_)
  have hn33 := isA_newN (c := 20) (len := 24) hS.1 hz33
  have hK := isK_alo (c' := 20) (len := 24) hK
  refine pf_X7_23 dX7_init_35 rfl rfl hK ?_
  have hS := hS.row 7 20 24 (by decide) (by decide)
  refine r_aload0 dX7_init_38 ?_
  refine rn_bipush (24) dX7_init_39 (by decide) ?_
  refine rn_newaN (c := 20) (24) (80) hS.1 dX7_init_41 (Or.inl rfl) rfl ac_int (by decide) (by omega) (by show _ ≤ 22; omega) (by show _ ≤ 1476; omega) (fun hz41 => ?_)
  have hn41 := isA_newN (c := 20) (len := 24) hS.1 hz41
  have hK := isK_alo (c' := 20) (len := 24) hK
  refine pf_X7_26 dX7_init_43 rfl rfl hK ?_
  have hS := hS.row 8 20 24 (by decide) (by decide)
  refine r_aload0 dX7_init_46 ?_
  refine rn_iconst (2) dX7_init_47 (by decide) ?_
  refine rn_newaN (c := 20) (2) (81) hS.1 dX7_init_48 (Or.inl rfl) rfl ac_int (by decide) (by omega) (by show _ ≤ 22; omega) (by show _ ≤ 1476; omega) (fun hz48 => ?_)
  have hn48 := isA_newN (c := 20) (len := 2) hS.1 hz48
  have hK := isK_alo (c' := 20) (len := 2) hK
  refine pf_X7_29 dX7_init_50 rfl rfl hK ?_
  have hS := hS.row 9 20 2 (by decide) (by decide)
  refine r_aload0 dX7_init_53 ?_
  refine rn_iconst (2) dX7_init_54 (by decide) ?_
  refine rn_newaN (c := 20) (2) (82) hS.1 dX7_init_55 (Or.inl rfl) rfl ac_int (by decide) (by omega) (by show _ ≤ 22; omega) (by show _ ≤ 1476; omega) (fun hz55 => ?_)
  have hn55 := isA_newN (c := 20) (len := 2) hS.1 hz55
  have hK := isK_alo (c' := 20) (len := 2) hK
  refine pf_X7_32 dX7_init_57 rfl rfl hK ?_
  have hS := hS.row 10 20 2 (by decide) (by decide)
  refine r_aload0 dX7_init_60 ?_
  refine rn_iconst (2) dX7_init_61 (by decide) ?_
  refine rn_newaN (c := 20) (2) (83) hS.1 dX7_init_62 (Or.inl rfl) rfl ac_int (by decide) (by omega) (by show _ ≤ 22; omega) (by show _ ≤ 1476; omega) (fun hz62 => ?_)
  have hn62 := isA_newN (c := 20) (len := 2) hS.1 hz62
  have hK := isK_alo (c' := 20) (len := 2) hK
  refine pf_X7_35 dX7_init_64 rfl rfl hK ?_
  have hS := hS.row 11 20 2 (by decide) (by decide)
  refine r_aload0 dX7_init_67 ?_
  refine rn_iconst (2) dX7_init_68 (by decide) ?_
  refine rn_newaN (c := 20) (2) (84) hS.1 dX7_init_69 (Or.inl rfl) rfl ac_int (by decide) (by omega) (by show _ ≤ 22; omega) (by show _ ≤ 1476; omega) (fun hz69 => ?_)
  have hn69 := isA_newN (c := 20) (len := 2) hS.1 hz69
  have hK := isK_alo (c' := 20) (len := 2) hK
  refine pf_X7_38 dX7_init_71 rfl rfl hK ?_
  have hS := hS.row 12 20 2 (by decide) (by decide)
  refine r_aload0 dX7_init_74 ?_
  refine rn_iconst (2) dX7_init_75 (by decide) ?_
  refine rn_newaN (c := 20) (2) (85) hS.1 dX7_init_76 (Or.inl rfl) rfl ac_int (by decide) (by omega) (by show _ ≤ 22; omega) (by show _ ≤ 1476; omega) (fun hz76 => ?_)
  have hn76 := isA_newN (c := 20) (len := 2) hS.1 hz76
  have hK := isK_alo (c' := 20) (len := 2) hK
  refine pf_X7_41 dX7_init_78 rfl rfl hK ?_
  have hS := hS.row 13 20 2 (by decide) (by decide)
  refine r_aload0 dX7_init_81 ?_
  refine rn_iconst (2) dX7_init_82 (by decide) ?_
  refine rn_newaN (c := 20) (2) (86) hS.1 dX7_init_83 (Or.inl rfl) rfl ac_int (by decide) (by omega) (by show _ ≤ 22; omega) (by show _ ≤ 1476; omega) (fun hz83 => ?_)
  have hn83 := isA_newN (c := 20) (len := 2) hS.1 hz83
  have hK := isK_alo (c' := 20) (len := 2) hK
  refine pf_X7_44 dX7_init_85 rfl rfl hK ?_
  have hS := hS.row 14 20 2 (by decide) (by decide)
  refine r_aload0 dX7_init_88 ?_
  refine rn_iconst (2) dX7_init_89 (by decide) ?_
  refine rn_newaN (c := 20) (2) (87) hS.1 dX7_init_90 (Or.inl rfl) rfl ac_int (by decide) (by omega) (by show _ ≤ 22; omega) (by show _ ≤ 1476; omega) (fun hz90 => ?_)
  have hn90 := isA_newN (c := 20) (len := 2) hS.1 hz90
  have hK := isK_alo (c' := 20) (len := 2) hK
  refine pf_X7_47 dX7_init_92 rfl rfl hK ?_
  have hS := hS.row 15 20 2 (by decide) (by decide)
  refine r_aload0 dX7_init_95 ?_
  refine rn_bipush (50) dX7_init_96 (by decide) ?_
  refine pf_X7_50 dX7_init_98 rfl hK ?_
  have hS := hS.num 17 50
  refine r_aload0 dX7_init_101 ?_
  refine rn_iconst (3) dX7_init_102 (by decide) ?_
  refine pf_X7_53 dX7_init_103 rfl hK ?_
  have hS := hS.num 19 3
  refine r_aload0 dX7_init_106 ?_
  refine rn_bipush (24) dX7_init_107 (by decide) ?_
  refine rn_newaN (c := 20) (24) (88) hS.1 dX7_init_109 (Or.inl rfl) rfl ac_int (by decide) (by omega) (by show _ ≤ 22; omega) (by show _ ≤ 1476; omega) (fun hz109 => ?_)
  have hn109 := isA_newN (c := 20) (len := 24) hS.1 hz109
  have hK := isK_alo (c' := 20) (len := 24) hK
  refine pf_X7_56 dX7_init_111 rfl rfl hK ?_
  have hS := hS.row 35 20 24 (by decide) (by decide)
  refine r_aload0 dX7_init_114 ?_
  refine rn_bipush (24) dX7_init_115 (by decide) ?_
  refine rn_newaN (c := 20) (24) (89) hS.1 dX7_init_117 (Or.inl rfl) rfl ac_int (by decide) (by omega) (by show _ ≤ 22; omega) (by show _ ≤ 1476; omega) (fun hz117 => ?_)
  have hn117 := isA_newN (c := 20) (len := 24) hS.1 hz117
  have hK := isK_alo (c' := 20) (len := 24) hK
  refine pf_X7_59 dX7_init_119 rfl rfl hK ?_
  have hS := hS.row 36 20 24 (by decide) (by decide)
  refine r_aload0 dX7_init_122 ?_
  refine rn_bipush (10) dX7_init_123 (by decide) ?_
  refine rn_newaN (c := 20) (10) (90) hS.1 dX7_init_125 (Or.inl rfl) rfl ac_int (by decide) (by omega) (by show _ ≤ 22; omega) (by show _ ≤ 1476; omega) (fun hz125 => ?_)
  have hn125 := isA_newN (c := 20) (len := 10) hS.1 hz125
  have hK := isK_alo (c' := 20) (len := 10) hK
  refine pf_X7_62 dX7_init_127 rfl rfl hK ?_
  have hS := hS.row 37 20 10 (by decide) (by decide)
  refine r_aload0 dX7_init_130 ?_
  refine rn_bipush (24) dX7_init_131 (by decide) ?_
  refine rn_newaN (c := 20) (24) (91) hS.1 dX7_init_133 (Or.inl rfl) rfl ac_int (by decide) (by omega) (by show _ ≤ 22; omega) (by show _ ≤ 1476; omega) (fun hz133 => ?_)
  have hn133 := isA_newN (c := 20) (len := 24) hS.1 hz133
  have hK := isK_alo (c' := 20) (len := 24) hK
  refine pf_X7_65 dX7_init_135 rfl rfl hK ?_
  have hS := hS.row 42 20 24 (by decide) (by decide)
  refine r_aload0 dX7_init_138 ?_
  refine rn_bipush (24) dX7_init_139 (by decide) ?_
  refine rn_newaN (c := 20) (24) (92) hS.1 dX7_init_141 (Or.inl rfl) rfl ac_int (by decide) (by omega) (by show _ ≤ 22; omega) (by show _ ≤ 1476; omega) (fun hz141 => ?_)
  have hn141 := isA_newN (c := 20) (len := 24) hS.1 hz141
  have hK := isK_alo (c' := 20) (len := 24) hK
  refine pf_X7_68 dX7_init_143 rfl rfl hK ?_
  have hS := hS.row 43 20 24 (by decide) (by decide)
  refine r_aload0 dX7_init_146 ?_
  refine rn_bipush (10) dX7_init_147 (by decide) ?_
  refine rn_newaN (c := 20) (10) (93) hS.1 dX7_init_149 (Or.inl rfl) rfl ac_int (by decide) (by omega) (by show _ ≤ 22; omega) (by show _ ≤ 1476; omega) (fun hz149 => ?_)
  have hn149 := isA_newN (c := 20) (len := 10) hS.1 hz149
  have hK := isK_alo (c' := 20) (len := 10) hK
  refine pf_X7_71 dX7_init_151 rfl rfl hK ?_
  have hS := hS.row 44 20 10 (by decide) (by decide)
  refine r_aload0 dX7_init_154 ?_
  refine rn_iconst (4) dX7_init_155 (by decide) ?_
  refine rn_newaN (c := 21) (4) (94) hS.1 dX7_init_156 (Or.inr rfl) rfl ac_boolean (by decide) (by omega) (by show _ ≤ 22; omega) (by show _ ≤ 1476; omega) (fun hz156 => ?_)
  have hn156 := isA_newN (c := 21) (len := 4) hS.1 hz156
  have hK := isK_alo (c' := 21) (len := 4) hK
  refine pf_X7_74 dX7_init_158 rfl rfl hK ?_
  have hS := hS.row 51 21 4 (by decide) (by decide)
  refine r_aload0 dX7_init_161 ?_
  refine rn_iconst (4) dX7_init_162 (by decide) ?_
  refine rn_newaN (c := 20) (4) (95) hS.1 dX7_init_163 (Or.inl rfl) rfl ac_int (by decide) (by omega) (by show _ ≤ 22; omega) (by show _ ≤ 1476; omega) (fun hz163 => ?_)
  have hn163 := isA_newN (c := 20) (len := 4) hS.1 hz163
  have hK := isK_alo (c' := 20) (len := 4) hK
  refine pf_X7_78 dX7_init_165 rfl rfl hK ?_
  have hS := hS.row 52 20 4 (by decide) (by decide)
  refine r_aload0 dX7_init_168 ?_
  refine rn_iconst (4) dX7_init_169 (by decide) ?_
  refine rn_newaN (c := 20) (4) (96) hS.1 dX7_init_170 (Or.inl rfl) rfl ac_int (by decide) (by omega) (by show _ ≤ 22; omega) (by show _ ≤ 1476; omega) (fun hz170 => ?_)
  have hn170 := isA_newN (c := 20) (len := 4) hS.1 hz170
  have hK := isK_alo (c' := 20) (len := 4) hK
  refine pf_X7_81 dX7_init_172 rfl rfl hK ?_
  have hS := hS.row 53 20 4 (by decide) (by decide)
  refine r_aload0 dX7_init_175 ?_
  refine rn_sipush (160) dX7_init_176 (by decide) ?_
  refine rn_newaN (c := 20) (160) (97) hS.1 dX7_init_179 (Or.inl rfl) rfl ac_int (by decide) (by omega) (by show _ ≤ 22; omega) (by show _ ≤ 1476; omega) (fun hz179 => ?_)
  have hn179 := isA_newN (c := 20) (len := 160) hS.1 hz179
  have hK := isK_alo (c' := 20) (len := 160) hK
  refine pf_X7_84 dX7_init_181 rfl rfl hK ?_
  have hS := hS.row 54 20 160 (by decide) (by decide)
  exact xm_words (D := D) hS.1 hS.2.1 hS.2.2.2.2.2.1 ⟨hK, hS.2.2.1⟩ ⟨fun j hj => absurd hj (Nat.not_lt_zero _), hS.2.2.2.2.1, fun a b h1 h2 => hS.2.2.2.1 a b (by omega) h2, hS.2.2.2.2.2.2⟩
end MINIT
