/-! THE LAW: its loop, its beginning -/
def j00 : Jt := (ro0, ro0, 0, 1, S00, fun _ => 0, 0, fun _ _ => -1)
theorem gq_00 : GQ ro0 1 := by
  refine ⟨⟨by decide, by decide, by decide, fun γ hγ => ?_, ⟨0, by decide, by decide⟩, fun y _ => Or.inl rfl, ⟨0, by decide, by decide⟩⟩, fun γ hγ => ?_, ⟨0, by decide, by decide⟩⟩
  · rcases (show γ = 0 ∨ γ = 1 by omega) with rfl | rfl
    · exact ⟨⟨0, by decide, by decide⟩, ⟨0, by decide, by decide⟩⟩
    · exact ⟨⟨0, by decide, by decide⟩, ⟨0, by decide, by decide⟩⟩
  · rcases (show γ = 0 ∨ γ = 1 by omega) with rfl | rfl
    · exact ⟨10, by decide, by decide, by decide⟩
    · exact ⟨10, by decide, by decide, by decide⟩
theorem jg_00 : JG j00 := ⟨gq_00, fun h => absurd rfl h, by decide, by decide, by decide, fun q hq => absurd hq (Nat.not_lt_zero _), fun s _ => Or.inl rfl⟩
theorem ci_00 {Γ : Sh} {iv : IV} {rv : RV} (h : St2 Γ iv rv 4 4) (hg : Γ.1 = 98) : CI j00 Γ iv rv := by
  obtain ⟨⟨a1, a2, a3, a4, a5, a6, a7, a8⟩, b1, b2, b3, b4, b5⟩ := h
  have c0 := b4 0 (by decide)
  have c1 := b4 1 (by decide)
  have c2 := b4 2 (by decide)
  have c3 := b4 3 (by decide)
  refine ⟨⟨a1, ⟨c0.1, c0.2.1⟩, ⟨c1.1, c1.2.1⟩, ⟨c2.1, c2.2.1⟩, ⟨c3.1, c3.2.1⟩, a2, a3, a4, a5, fun s hs => (b5 s hs).1⟩, c0.2.2.1, ⟨0, by decide, by decide, c0.2.2.2⟩, c2.2.2.1.gu, c3.2.2.1.gu, fun t ht => ?_, a6, a7, ⟨ro0, c1.2.2.1, fun z => absurd rfl z⟩, ⟨b1, by decide, fun q hq => absurd hq (Nat.not_lt_zero _), fun q hq => absurd hq (Nat.not_lt_zero _)⟩, a8, fun s hs => ⟨(b5 s hs).2, fun z => absurd rfl z⟩, hg⟩
  have ht' : t < 1 := ht
  obtain rfl : t = 0 := by omega
  exact ⟨b2, b3⟩
theorem sub6 {L i : Nat} (hL : L ≤ 384) (hi : i ≤ 400) : nI L - 6 < nI i ↔ ¬ i + 6 ≤ L := by
  have e : (nI L - 6).toInt = (L : Int) - 6 := by
    rw [Int32.toInt_sub, nI_toInt (by omega), show (6 : Int32).toInt = 6 from by decide]
    exact Int.bmod_eq_of_le (by omega) (by omega)
  rw [Int32.lt_iff_toInt_lt, e, nI_toInt (by omega)]
  omega
section LAWL
variable {g : GS} {l : Launch} {Γ : Sh} {iv : IV} {rv : RV} {lv : LV}
set_option maxRecDepth 4000 in
theorem law_loop (hL : g.oln 1 ≤ 384) : ∀ (n i : Nat) (x : Int32) (k s : Nat) (j : Jt) (Γ : Sh) (iv : IV) (rv : RV) (lv : LV), g.oln 1 < i + 6 * n → i ≤ 400 → x = nI i → JG j → CI j Γ iv rv → MI_ j Γ iv rv → k ≤ 1000 + 5 * i → s ≤ 10000 + 212 * i → Rn g l mL_law room_1 qLaw k s 18 [.ref 1, .ref 14, .ref 75, .int x] [] Γ iv rv lv := by
  have hL31 : g.oln 1 < 2 ^ 31 := by omega
  intro n
  induction n with
  | zero =>
    intro i x k s j Γ iv rv lv hn hi4 hx hj hc hm hk hs
    refine r_iload3 dL_law_18 ?_
    refine r_aload0 dL_law_19 ?_
    refine rn_slen _ dL_law_20 rfl ?_
    refine rn_bipush (6) dL_law_21 (by decide) ?_
    refine rn_isub dL_law_23 ?_
    refine rn_icmp_gt 1105 dL_law_24 rfl (fun _ => ?_) (fun h => absurd (by rw [hx]; exact (sub6 hL hi4).mpr (by omega)) h)
    refine rn_iconst (1) dL_law_1105 (by decide) ?_
    refine rn_zret dL_law_1106 rfl (by first | decide | exact nar_bI) (by show _ ≤ 600000; omega) (by show _ ≤ 7302249; omega) ?_
    exact rfl
  | succ n ih =>
    intro i x k s j Γ iv rv lv hn hi4 hx hj hc hm hk hs
    refine r_iload3 dL_law_18 ?_
    refine r_aload0 dL_law_19 ?_
    refine rn_slen _ dL_law_20 rfl ?_
    refine rn_bipush (6) dL_law_21 (by decide) ?_
    refine rn_isub dL_law_23 ?_
    refine rn_icmp_gt 1105 dL_law_24 rfl (fun c24 => ?_) (fun c24 => ?_)
    · refine rn_iconst (1) dL_law_1105 (by decide) ?_
      refine rn_zret dL_law_1106 rfl (by first | decide | exact nar_bI) (by show _ ≤ 600000; omega) (by show _ ≤ 7302249; omega) ?_
      exact rfl
    · have hi : i + 6 ≤ g.oln 1 := Decidable.of_not_not (fun z => c24 (by rw [hx]; exact (sub6 hL hi4).mpr z))
      have kk : KK g l x i := by
        intro j Γ iv rv lv k s hj hc hm hk hs
        refine r_iinc3 (nI (i + 6)) dL_law_1099 (by rw [hx, show Int32.ofInt 6 = nI 6 by decide, nI_add]) rfl ?_
        refine rn_goto 18 dL_law_1102 rfl ?_
        exact ih (i + 6) _ k s j Γ iv rv lv (by omega) (by omega) rfl hj hc hm (by omega) (by omega)
      refine r_aload0 dL_law_27 ?_
      refine r_iload3 dL_law_28 ?_
      refine rn_sald i dL_law_29 hx (by omega) hL31 ?_
      refine rn_bipush (31) dL_law_30 (by decide) ?_
      refine rn_iand dL_law_32 ?_
      refine rn_topi (fun x33 ex33 => ?_)
      by_cases e33_0 : x33 = 0
      · subst e33_0
        refine rn_tableIn 168 dL_law_33 (by decide) (by decide) rfl rfl ?_
        exact lq_ground hx hi hL hj hc hm hk hs kk
      by_cases e33_1 : x33 = 1
      · subst e33_1
        refine rn_tableIn 211 dL_law_33 (by decide) (by decide) rfl rfl ?_
        exact lq_yard hx hi hL hj hc hm hk hs kk
      by_cases e33_2 : x33 = 2
      · subst e33_2
        refine rn_tableIn 244 dL_law_33 (by decide) (by decide) rfl rfl ?_
        exact lq_gang hx hi hL hj hc hm hk hs kk
      by_cases e33_3 : x33 = 3
      · subst e33_3
        refine rn_tableIn 287 dL_law_33 (by decide) (by decide) rfl rfl ?_
        exact lq_set hx hi hL hj hc hm hk hs kk
      by_cases e33_4 : x33 = 4
      · subst e33_4
        refine rn_tableIn 320 dL_law_33 (by decide) (by decide) rfl rfl ?_
        exact lq_told hx hi hL hj hc hm hk hs kk
      by_cases e33_5 : x33 = 5
      · subst e33_5
        refine rn_tableIn 353 dL_law_33 (by decide) (by decide) rfl rfl ?_
        exact lq_feed hx hi hL hj hc hm hk hs kk
      by_cases e33_6 : x33 = 6
      · subst e33_6
        refine rn_tableIn 376 dL_law_33 (by decide) (by decide) rfl rfl ?_
        exact lq_text hx hi hL hj hc hm hk hs kk
      by_cases e33_7 : x33 = 7
      · subst e33_7
        refine rn_tableIn 389 dL_law_33 (by decide) (by decide) rfl rfl ?_
        exact lq_force hx hi hL hj hc hm hk hs kk
      by_cases e33_8 : x33 = 8
      · subst e33_8
        refine rn_tableIn 412 dL_law_33 (by decide) (by decide) rfl rfl ?_
        exact lq_day hx hi hL hj hc hm hk hs kk
      by_cases e33_9 : x33 = 9
      · subst e33_9
        refine rn_tableIn 425 dL_law_33 (by decide) (by decide) rfl rfl ?_
        exact lq_run hx hi hL hj hc hm hk hs kk
      by_cases e33_10 : x33 = 10
      · subst e33_10
        refine rn_tableIn 448 dL_law_33 (by decide) (by decide) rfl rfl ?_
        exact lq_done hx hi hL hj hc hm hk hs kk
      by_cases e33_11 : x33 = 11
      · subst e33_11
        refine rn_tableIn 481 dL_law_33 (by decide) (by decide) rfl rfl ?_
        exact lq_ease hx hi hL hj hc hm hk hs kk
      by_cases e33_12 : x33 = 12
      · subst e33_12
        refine rn_tableIn 514 dL_law_33 (by decide) (by decide) rfl rfl ?_
        exact lq_men hx hi hL hj hc hm hk hs kk
      by_cases e33_13 : x33 = 13
      · subst e33_13
        refine rn_tableIn 547 dL_law_33 (by decide) (by decide) rfl rfl ?_
        exact lq_quarrel hx hi hL hj hc hm hk hs kk
      by_cases e33_14 : x33 = 14
      · subst e33_14
        refine rn_tableIn 570 dL_law_33 (by decide) (by decide) rfl rfl ?_
        exact lq_bore hx hi hL hj hc hm hk hs kk
      by_cases e33_15 : x33 = 15
      · subst e33_15
        refine rn_tableIn 603 dL_law_33 (by decide) (by decide) rfl rfl ?_
        exact lq_well hx hi hL hj hc hm hk hs kk
      by_cases e33_16 : x33 = 16
      · subst e33_16
        refine rn_tableIn 626 dL_law_33 (by decide) (by decide) rfl rfl ?_
        exact lq_slowed hx hi hL hj hc hm hk hs kk
      by_cases e33_17 : x33 = 17
      · subst e33_17
        refine rn_tableIn 659 dL_law_33 (by decide) (by decide) rfl rfl ?_
        exact lq_bet hx hi hL hj hc hm hk hs kk
      by_cases e33_18 : x33 = 18
      · subst e33_18
        refine rn_tableIn 702 dL_law_33 (by decide) (by decide) rfl rfl ?_
        exact lq_soonest hx hi hL hj hc hm hk hs kk
      by_cases e33_19 : x33 = 19
      · subst e33_19
        refine rn_tableIn 725 dL_law_33 (by decide) (by decide) rfl rfl ?_
        exact lq_cheapest hx hi hL hj hc hm hk hs kk
      by_cases e33_20 : x33 = 20
      · subst e33_20
        refine rn_tableIn 738 dL_law_33 (by decide) (by decide) rfl rfl ?_
        exact lq_drawn hx hi hL hj hc hm hk hs kk
      by_cases e33_21 : x33 = 21
      · subst e33_21
        refine rn_tableIn 761 dL_law_33 (by decide) (by decide) rfl rfl ?_
        exact lq_chance hx hi hL hj hc hm hk hs kk
      by_cases e33_22 : x33 = 22
      · subst e33_22
        refine rn_tableIn 815 dL_law_33 (by decide) (by decide) rfl rfl ?_
        exact lq_image hx hi hL hj hc hm hk hs kk
      by_cases e33_23 : x33 = 23
      · subst e33_23
        refine rn_tableIn 828 dL_law_33 (by decide) (by decide) rfl rfl ?_
        exact lq_back hx hi hL hj hc hm hk hs kk
      by_cases e33_24 : x33 = 24
      · subst e33_24
        refine rn_tableIn 841 dL_law_33 (by decide) (by decide) rfl rfl ?_
        exact lq_count hx hi hL hj hc hm hk hs kk
      by_cases e33_25 : x33 = 25
      · subst e33_25
        refine rn_tableIn 864 dL_law_33 (by decide) (by decide) rfl rfl ?_
        exact lq_sheet hx hi hL hj hc hm hk hs kk
      by_cases e33_26 : x33 = 26
      · subst e33_26
        refine rn_tableIn 907 dL_law_33 (by decide) (by decide) rfl rfl ?_
        exact lq_cell hx hi hL hj hc hm hk hs kk
      by_cases e33_27 : x33 = 27
      · subst e33_27
        refine rn_tableIn 950 dL_law_33 (by decide) (by decide) rfl rfl ?_
        exact lq_copy hx hi hL hj hc hm hk hs kk
      by_cases e33_28 : x33 = 28
      · subst e33_28
        refine rn_tableIn 1013 dL_law_33 (by decide) (by decide) rfl rfl ?_
        exact lq_grounds hx hi hL hj hc hm hk hs kk
      by_cases e33_29 : x33 = 29
      · subst e33_29
        refine rn_tableIn 1066 dL_law_33 (by decide) (by decide) rfl rfl ?_
        exact lq_taken hx hi hL hj hc hm hk hs kk
      refine rn_tableOut 1099 dL_law_33 (by have z0 := lv_neT e33_0 (by decide : (0 : Int32).toInt = 0); have z1 := lv_neT e33_1 (by decide : (1 : Int32).toInt = 1); have z2 := lv_neT e33_2 (by decide : (2 : Int32).toInt = 2); have z3 := lv_neT e33_3 (by decide : (3 : Int32).toInt = 3); have z4 := lv_neT e33_4 (by decide : (4 : Int32).toInt = 4); have z5 := lv_neT e33_5 (by decide : (5 : Int32).toInt = 5); have z6 := lv_neT e33_6 (by decide : (6 : Int32).toInt = 6); have z7 := lv_neT e33_7 (by decide : (7 : Int32).toInt = 7); have z8 := lv_neT e33_8 (by decide : (8 : Int32).toInt = 8); have z9 := lv_neT e33_9 (by decide : (9 : Int32).toInt = 9); have z10 := lv_neT e33_10 (by decide : (10 : Int32).toInt = 10); have z11 := lv_neT e33_11 (by decide : (11 : Int32).toInt = 11); have z12 := lv_neT e33_12 (by decide : (12 : Int32).toInt = 12); have z13 := lv_neT e33_13 (by decide : (13 : Int32).toInt = 13); have z14 := lv_neT e33_14 (by decide : (14 : Int32).toInt = 14); have z15 := lv_neT e33_15 (by decide : (15 : Int32).toInt = 15); have z16 := lv_neT e33_16 (by decide : (16 : Int32).toInt = 16); have z17 := lv_neT e33_17 (by decide : (17 : Int32).toInt = 17); have z18 := lv_neT e33_18 (by decide : (18 : Int32).toInt = 18); have z19 := lv_neT e33_19 (by decide : (19 : Int32).toInt = 19); have z20 := lv_neT e33_20 (by decide : (20 : Int32).toInt = 20); have z21 := lv_neT e33_21 (by decide : (21 : Int32).toInt = 21); have z22 := lv_neT e33_22 (by decide : (22 : Int32).toInt = 22); have z23 := lv_neT e33_23 (by decide : (23 : Int32).toInt = 23); have z24 := lv_neT e33_24 (by decide : (24 : Int32).toInt = 24); have z25 := lv_neT e33_25 (by decide : (25 : Int32).toInt = 25); have z26 := lv_neT e33_26 (by decide : (26 : Int32).toInt = 26); have z27 := lv_neT e33_27 (by decide : (27 : Int32).toInt = 27); have z28 := lv_neT e33_28 (by decide : (28 : Int32).toInt = 28); have z29 := lv_neT e33_29 (by decide : (29 : Int32).toInt = 29); omega) rfl ?_
      exact kk _ _ _ _ _ _ _ hj hc hm (by omega) (by omega)
set_option maxRecDepth 4000 in
theorem law_rn (hL : g.oln 1 ≤ 384) : Rn g l mL_law room_1 qLaw 0 0 0 [.ref 1, .retAddr 0, .retAddr 0, .retAddr 0] [] (14, fun _ => 0, fun _ => 0) (fun _ _ => 0) (fun _ _ => 0) (fun _ _ => 0) := by
  refine rn_newN (ci := 6) (14) (show (((14, fun _ => 0, fun _ => 0) : Sh)).1 = 14 from rfl) dL_law_0 rfl uw_X6 tyX6_ok te_X6 cc_L_7 ins_X6 ini_X6 (by show _ ≤ 600000; omega) (by show _ ≤ 7302249; omega) (fun hz0 => ?_)
  have hn0 := isK_newN (c := 6) (len := 0) (show (((14, fun _ => 0, fun _ => 0) : Sh)).1 = 14 from rfl) hz0
  refine rn_dup dL_law_3 rfl ?_
  refine rn_callI (As := []) (mc := 60) (ms := 1099) dL_law_4 oi_X6_init ml_L_9 hn0 rfl (Nat.le_of_ble_eq_true rfl) (Nat.le_of_ble_eq_true rfl) (Nat.le_of_ble_eq_true rfl) (by show _ ≤ 600000; omega) (by show _ ≤ 7302249; omega) (ct_classI 0 hn0 rfl) (fun r4 Γ4 iv4 rv4 lv4 h => ?_)
  obtain ⟨rfl, hG, hS⟩ := h
  refine rn_nst ?_
  refine r_astore1 dL_law_7 rfl ?_
  refine rn_newN (ci := 7) (75) hG dL_law_8 rfl uw_X7 tyX7_ok te_X7 cc_L_10 ins_X7 ini_X7 (by show _ ≤ 600000; omega) (by show _ ≤ 7302249; omega) (fun hz8 => ?_)
  have hn8 := isK_newN (c := 7) (len := 0) hG hz8
  refine rn_dup dL_law_11 rfl ?_
  refine rn_callI (As := []) (mc := 22) (ms := 1476) dL_law_12 oi_X7_init ml_L_12 hn8 rfl (Nat.le_of_ble_eq_true rfl) (Nat.le_of_ble_eq_true rfl) (Nat.le_of_ble_eq_true rfl) (by show _ ≤ 600000; omega) (by show _ ≤ 7302249; omega) (ct_modelI 0 hn8 (by rw [alo_1, hG]) (fun b => clr_same _ _ _ _)) (fun r12 Γ12 iv12 rv12 lv12 h => ?_)
  obtain ⟨rfl, m1, m2, m3, m4, m5, m6, m7, m8, m9, m10, m11⟩ := h
  have hS := (hS.lift (m := 75) (Γ' := alo Γ4 7 0) ((hG ▸ ShLe.refl (Γ := Γ4)).alo) (lo_clr (x := 0) (i := 75) (Nat.le_refl _)) (lo_clr (x := 0) (i := 75) (Nat.le_refl _)) (by decide) (Or.inr (by decide))).lift (m := 75) (m2.low (by decide)) m3 m4 (by decide) (Or.inr (by decide))
  refine rn_nst ?_
  refine r_astore2 dL_law_15 rfl ?_
  refine rn_iconst (0) dL_law_16 (by decide) ?_
  refine r_istore3 dL_law_17 rfl ?_
  exact law_loop hL 65 0 _ _ _ j00 _ _ _ _ (by omega) (by decide) rfl jg_00 (ci_00 hS m1) ⟨m5, m6, m9, fun z => absurd rfl z, m10, m7, m8, fun q hq => absurd hq (Nat.not_lt_zero _), fun s hs => ⟨m11 s hs, fun z => absurd rfl z, fun z => absurd rfl z⟩⟩ (by decide) (by decide)
end LAWL
