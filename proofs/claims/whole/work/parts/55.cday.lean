/-! THE CLASS: takeTurn, passDay, runOut -/
theorem half_th {S : Nat → Nat → List Int32} {ρ : IV} {γ : Nat} {idl : Int32} (h : ¬ idl = nI γ) : half1 S ρ γ idl = thS S ρ γ := by
  unfold half1 thS
  by_cases h2 : 0 < aheadS ρ
  · rw [if_pos ⟨h2, h⟩, if_pos h2]
  · rw [if_neg (fun z => h2 z.1), if_neg h2]
theorem half_no {S : Nat → Nat → List Int32} {ρ : IV} {γ : Nat} {idl : Int32} (h : idl = nI γ) : half1 S ρ γ idl = ρ := by
  unfold half1; rw [if_neg (fun z => z.2 h)]
theorem day_no {ρ : IV} (h : ¬ ρ 4 4 < 999) : dayS ρ = ρ := by
  unfold dayS
  rw [if_neg h]
  funext a b
  by_cases e : a = 4 ∧ b = 4
  · obtain ⟨rfl, rfl⟩ := e; rw [up_same]
  · rw [up_ne e]
theorem Same.refl {ρ : IV} : Same ρ ρ := ⟨fun _ => ⟨rfl, rfl⟩, rfl, rfl, rfl, rfl, rfl⟩
theorem same_t2 {ρ : IV} {γ : Nat} (hγ : γ < 2) : Same ρ (turn2 ρ γ) := by
  unfold turn2; split
  · exact same_up (by omega)
  · exact Same.refl
theorem gr_t2 {ρ : IV} {γ : Nat} (hγ : γ < 2) (h : GR ρ) : GR (turn2 ρ γ) := by
  unfold turn2; split
  · exact h.upd (by omega) (by omega) (by omega) (by omega)
  · exact h
section CDAY
variable {g : GS} {l : Launch} {Γ : Sh} {iv : IV} {rv : RV} {lv : LV}
set_option maxRecDepth 4000 in
theorem ct_takeTurn (D : Nat) {r : Nat} (hS : ShRd Γ rv r) (hr : 27 ≤ r ∧ r ≤ 57) {ρ : IV} (hR : RC iv r ρ) {S : Nat → Nat → List Int32} {t : Nat} (hrl : rv r 8 = rq t) (ht : ρ 4 8 = nI t) (ht6 : t < 6) (hU : RuC Γ iv rv t S) (hg : GR ρ) (hM : Mm iv r ρ S) {γ : Nat} (hγ : γ < 2) : Ct g l mX3_takeTurn (D + 3) 0 0 [.ref r, .ref (r + 3 + 3 * γ)] Γ iv rv lv (qCV Γ rv lv (fun iv' => Off (Own r) iv iv' ∧ RC iv' r (thS S ρ γ) ∧ Mm iv' r (thS S ρ γ) S)) := by
  refine Ct.of (by decide +kernel) (Nat.le_of_ble_eq_true rfl) (Nat.le_of_ble_eq_true rfl) ?_
  refine r_aload0 dX3_takeTurn_0 ?_
  refine cpiV0 dX3_takeTurn_1 ov_X3_ahead rfl ml_X3_73 hS.1 rfl (Nat.zero_le _) (Nat.zero_le _) (Nat.zero_le _) (ct_ahead _ hS hR) ?_
  refine rn_if_ne 8 dX3_takeTurn_4 rfl (fun c4 => ?_) (fun c4 => ?_)
  · have hlt := hlt_of hg c4
    have hpos := (ahead_pos hg).mpr hlt
    have hnx := next_lt (γ := γ) hlt
    refine r_aload1 dX3_takeTurn_8 ?_
    refine rn_dup dX3_takeTurn_9 rfl ?_
    refine gf_X3_112 dX3_takeTurn_10 rfl (hS.gang hγ).1 ?_
    refine rn_eqi (ρ (2 + γ) 5) (hR.gang 5 (by decide) (by decide) hγ) ?_
    refine r_aload1 dX3_takeTurn_13 ?_
    refine r_aload0 dX3_takeTurn_14 ?_
    refine r_aload1 dX3_takeTurn_15 ?_
    refine cpiV0 dX3_takeTurn_16 ov_X1_nextYard rfl ml_X3_106 (hS.gang hγ).1 rfl (Nat.le_of_ble_eq_true rfl) (Nat.zero_le _) (Nat.zero_le _) (ct_nextYard _ (hS.gang hγ)) ?_
    refine rn_eqi (nI (nextN ρ γ)) (hR.next hg hlt hγ) ?_
    refine cpiV1 dX3_takeTurn_19 ov_X3_groundOf rfl ml_X3_115 hS.1 rfl (Nat.le_of_ble_eq_true rfl) (Nat.zero_le _) (Nat.zero_le _) (ct_groundOf _ hS hR rfl hnx) ?_
    refine r_aload0 dX3_takeTurn_22 ?_
    refine gf_X3_30 dX3_takeTurn_23 rfl hS.1 ?_
    refine rn_eqi (ρ 4 4) (hR.2.2.1 4 (by decide) (by decide)) ?_
    refine r_aload0 dX3_takeTurn_26 ?_
    refine rn_iconst (0) dX3_takeTurn_27 (by decide) ?_
    refine r_aload1 dX3_takeTurn_28 ?_
    refine cciV2 dX3_takeTurn_29 ov_X3_askOfNext rfl ml_X3_119 hS.1 rfl (Nat.le_of_ble_eq_true rfl) (Nat.zero_le _) (Nat.zero_le _) (ct_askN D hS hr hR hrl ht ht6 hU (p := 0) hg hlt hM (by decide) (by decide) hγ) (fun x29 iv h29 => ?_)
    obtain ⟨rt, hrt, hrte⟩ := ask_nn (S := S) (ρ := ρ) (y := nextN ρ γ) (m := ρ (2 + γ) 3)
    obtain ⟨⟨ki, ki1, ki2⟩, mi, mi1, mi2⟩ := hg.2.2.2.1 γ hγ
    have hR2 := hR.aq h29.2.1 hr
    refine rn_eqi (nI rt) (h29.1.trans hrte) ?_
    refine cpiV3 dX3_takeTurn_32 ov_X1_does rfl ml_X3_123 (hS.gang hγ).1 rfl (Nat.le_of_ble_eq_true rfl) (Nat.zero_le _) (Nat.zero_le _) (ct_cdoes _ (hS.gang hγ) ((hR2.gang 1 (by decide) (by decide) hγ).trans ki2) ki1 ((hR2.gang 2 (by decide) (by decide) hγ).trans mi2) mi1 _ _ hrt) ?_
    refine rn_eqi (doesS (ρ (2 + γ) 1) (ρ (2 + γ) 2) (ρ 4 4) (ρ 0 (nextN ρ γ)) (askS S ρ 0 (nextN ρ γ) (ρ (2 + γ) 3))) (by rw [ki2, mi2, hrte]) ?_
    refine rn_iadd dX3_takeTurn_35 ?_
    refine pf_X3_112 dX3_takeTurn_36 rfl (hS.gang hγ).1 ?_
    refine rn_iconst (0) dX3_takeTurn_39 (by decide) ?_
    refine r_istore2 dX3_takeTurn_40 rfl ?_
    have hR1 := hR2.upg 5 (γ := γ) (x := ρ (2 + γ) 5 + doesS (ρ (2 + γ) 1) (ρ (2 + γ) 2) (ρ 4 4) (ρ 0 (nextN ρ γ)) (askS S ρ 0 (nextN ρ γ) (ρ (2 + γ) 3))) (by decide) (by decide) hγ
    have hg0 : GR (up ρ (2 + γ) 5 (ρ (2 + γ) 5 + doesS (ρ (2 + γ) 1) (ρ (2 + γ) 2) (ρ 4 4) (ρ 0 (nextN ρ γ)) (askS S ρ 0 (nextN ρ γ) (ρ (2 + γ) 3)))) := hg.upd (by omega) (by omega) (by omega) (by omega)
    have hg1 : GR (turn1 S ρ γ) := gr_ylp hγ 24 _ hg0
    refine ctn_loop (D := D) hS hr hrl ht6 hγ 24 0 _ (up ρ (2 + γ) 5 (ρ (2 + γ) 5 + doesS (ρ (2 + γ) 1) (ρ (2 + γ) 2) (ρ 4 4) (ρ 0 (nextN ρ γ)) (askS S ρ 0 (nextN ρ γ) (ρ (2 + γ) 3)))) _ _ (by decide) rfl rfl rfl hR1 (h29.2.2.to (fun δ z h1 h2 => ⟨up_ne1 (by omega), up_ne1 (by omega)⟩) (same_up (by omega))) hg0 ((up_ne1 (by omega)).trans ht) ((hU.own hr (aq_own h29.2.1)).own hr (off_up (by omega))) (fun iv3 v2 v3 v4 k2 k3 k4 ho3 hR3 hM3 => ?_)
    have hR3 : RC iv3 r (turn1 S ρ γ) := hR3
    have hM3 : Mm iv3 r (turn1 S ρ γ) S := hM3
    refine r_aload0 dX3_takeTurn_133 ?_
    refine cpiV0 dX3_takeTurn_134 ov_X3_ahead rfl ml_X3_73 hS.1 rfl (Nat.zero_le _) (Nat.zero_le _) (Nat.zero_le _) (ct_ahead _ hS hR3) ?_
    refine rn_if_ne 145 dX3_takeTurn_137 rfl (fun c137 => ?_) (fun c137 => ?_)
    · have e2 : (turn2 (turn1 S ρ γ) γ) = turn1 S ρ γ := by unfold turn2; rw [if_neg c137]
      have hR4 : RC iv3 r (turn2 (turn1 S ρ γ) γ) := by rw [e2]; exact hR3
      have ho4 : Off (Own r) iv3 iv3 := Off.refl
      have hM4 : Mm iv3 r (turn2 (turn1 S ρ γ) γ) S := hM3.to (fun δ z h1 h2 => ⟨rfl, rfl⟩) (same_t2 hγ)
      have hg4 : GR (turn2 (turn1 S ρ γ) γ) := gr_t2 hγ hg1
      obtain ⟨⟨kj, kj1, kj2⟩, mj, mj1, mj2⟩ := hg4.2.2.2.1 γ hγ
      generalize he2 : (turn2 (turn1 S ρ γ) γ) = τ at hR4 hM4 hg4 kj2 mj2
      have hth : thS S ρ γ = turn3 τ γ := by unfold thS; rw [if_pos hpos, turnS_def, he2]
      refine r_aload1 dX3_takeTurn_145 ?_
      refine rn_dup dX3_takeTurn_146 rfl ?_
      refine gf_X3_126 dX3_takeTurn_147 rfl (hS.gang hγ).1 ?_
      refine rn_eqi (τ (2 + γ) 7) (hR4.gang 7 (by decide) (by decide) hγ) ?_
      refine r_aload1 dX3_takeTurn_150 ?_
      refine gf_X3_62 dX3_takeTurn_151 rfl (hS.gang hγ).1 ?_
      refine rn_eqi (τ (2 + γ) 3) (hR4.gang 3 (by decide) (by decide) hγ) ?_
      refine r_aload0 dX3_takeTurn_154 ?_
      refine gf_X3_40 dX3_takeTurn_155 rfl hS.1 ?_
      refine rn_eqi (τ 4 7) (hR4.2.2.1 7 (by decide) (by decide)) ?_
      refine rn_imul dX3_takeTurn_158 ?_
      refine r_aload1 dX3_takeTurn_159 ?_
      refine cpiV0 dX3_takeTurn_160 ov_X1_costs rfl ml_X3_129 (hS.gang hγ).1 rfl (Nat.le_of_ble_eq_true rfl) (Nat.zero_le _) (Nat.zero_le _) (ct_ccosts _ (hS.gang hγ) ((hR4.gang 1 (by decide) (by decide) hγ).trans kj2) kj1 ((hR4.gang 2 (by decide) (by decide) hγ).trans mj2) mj1) ?_
      refine rn_eqi (costsS (τ (2 + γ) 1) (τ (2 + γ) 2)) (by rw [kj2, mj2]) ?_
      refine rn_iadd dX3_takeTurn_163 ?_
      refine rn_iadd dX3_takeTurn_164 ?_
      refine pf_X3_126 dX3_takeTurn_165 rfl (hS.gang hγ).1 ?_
      refine r_aload1 dX3_takeTurn_168 ?_
      refine rn_dup dX3_takeTurn_169 rfl ?_
      refine gf_X3_59 dX3_takeTurn_170 rfl (hS.gang hγ).1 ?_
      refine rn_eqi (τ (2 + γ) 6) ((up_ne2 (by decide)).trans (hR4.gang 6 (by decide) (by decide) hγ)) ?_
      refine r_aload0 dX3_takeTurn_173 ?_
      refine gf_X3_37 dX3_takeTurn_174 rfl hS.1 ?_
      refine rn_eqi (τ 4 6) ((up_ne1 (by omega)).trans (hR4.2.2.1 6 (by decide) (by decide))) ?_
      refine rn_iadd dX3_takeTurn_177 ?_
      refine pf_X3_59 dX3_takeTurn_178 rfl (hS.gang hγ).1 ?_
      refine rn_vret dX3_takeTurn_181 rfl (Nat.zero_le _) (Nat.zero_le _) ?_
      refine ⟨rfl, rfl, rfl, rfl, ?_, ?_, ?_⟩
      · exact (((((aq_own h29.2.1).trans (off_up (by omega))).trans ho3).trans ho4).trans (off_up (by omega))).trans (off_up (by omega))
      · rw [hth]; exact (hR4.upg 7 (by decide) (by decide) hγ).upg 6 (by decide) (by decide) hγ
      · rw [hth]
        exact (hM4.to (fun δ z h1 h2 => ⟨up_ne (by omega), up_ne (by omega)⟩) (same_up (by omega))).to (fun δ z h1 h2 => ⟨up_ne (by omega), up_ne (by omega)⟩) (same_up (by omega))
    · refine r_aload1 dX3_takeTurn_140 ?_
      refine rn_iconst (0) dX3_takeTurn_141 (by decide) ?_
      refine pf_X3_112 dX3_takeTurn_142 rfl (hS.gang hγ).1 ?_
      have e2 : (turn2 (turn1 S ρ γ) γ) = up (turn1 S ρ γ) (2 + γ) 5 0 := by unfold turn2; rw [if_pos c137]
      have hR4 : RC (up iv3 (r + 3 + 3 * γ) 5 0) r (turn2 (turn1 S ρ γ) γ) := by rw [e2]; exact hR3.upg 5 (by decide) (by decide) hγ
      have ho4 : Off (Own r) iv3 (up iv3 (r + 3 + 3 * γ) 5 0) := off_up (by omega)
      have hM4 : Mm (up iv3 (r + 3 + 3 * γ) 5 0) r (turn2 (turn1 S ρ γ) γ) S := hM3.to (fun δ z h1 h2 => ⟨up_ne (by omega), up_ne (by omega)⟩) (same_t2 hγ)
      have hg4 : GR (turn2 (turn1 S ρ γ) γ) := gr_t2 hγ hg1
      obtain ⟨⟨kj, kj1, kj2⟩, mj, mj1, mj2⟩ := hg4.2.2.2.1 γ hγ
      generalize he2 : (turn2 (turn1 S ρ γ) γ) = τ at hR4 hM4 hg4 kj2 mj2
      have hth : thS S ρ γ = turn3 τ γ := by unfold thS; rw [if_pos hpos, turnS_def, he2]
      refine r_aload1 dX3_takeTurn_145 ?_
      refine rn_dup dX3_takeTurn_146 rfl ?_
      refine gf_X3_126 dX3_takeTurn_147 rfl (hS.gang hγ).1 ?_
      refine rn_eqi (τ (2 + γ) 7) (hR4.gang 7 (by decide) (by decide) hγ) ?_
      refine r_aload1 dX3_takeTurn_150 ?_
      refine gf_X3_62 dX3_takeTurn_151 rfl (hS.gang hγ).1 ?_
      refine rn_eqi (τ (2 + γ) 3) (hR4.gang 3 (by decide) (by decide) hγ) ?_
      refine r_aload0 dX3_takeTurn_154 ?_
      refine gf_X3_40 dX3_takeTurn_155 rfl hS.1 ?_
      refine rn_eqi (τ 4 7) (hR4.2.2.1 7 (by decide) (by decide)) ?_
      refine rn_imul dX3_takeTurn_158 ?_
      refine r_aload1 dX3_takeTurn_159 ?_
      refine cpiV0 dX3_takeTurn_160 ov_X1_costs rfl ml_X3_129 (hS.gang hγ).1 rfl (Nat.le_of_ble_eq_true rfl) (Nat.zero_le _) (Nat.zero_le _) (ct_ccosts _ (hS.gang hγ) ((hR4.gang 1 (by decide) (by decide) hγ).trans kj2) kj1 ((hR4.gang 2 (by decide) (by decide) hγ).trans mj2) mj1) ?_
      refine rn_eqi (costsS (τ (2 + γ) 1) (τ (2 + γ) 2)) (by rw [kj2, mj2]) ?_
      refine rn_iadd dX3_takeTurn_163 ?_
      refine rn_iadd dX3_takeTurn_164 ?_
      refine pf_X3_126 dX3_takeTurn_165 rfl (hS.gang hγ).1 ?_
      refine r_aload1 dX3_takeTurn_168 ?_
      refine rn_dup dX3_takeTurn_169 rfl ?_
      refine gf_X3_59 dX3_takeTurn_170 rfl (hS.gang hγ).1 ?_
      refine rn_eqi (τ (2 + γ) 6) ((up_ne2 (by decide)).trans (hR4.gang 6 (by decide) (by decide) hγ)) ?_
      refine r_aload0 dX3_takeTurn_173 ?_
      refine gf_X3_37 dX3_takeTurn_174 rfl hS.1 ?_
      refine rn_eqi (τ 4 6) ((up_ne1 (by omega)).trans (hR4.2.2.1 6 (by decide) (by decide))) ?_
      refine rn_iadd dX3_takeTurn_177 ?_
      refine pf_X3_59 dX3_takeTurn_178 rfl (hS.gang hγ).1 ?_
      refine rn_vret dX3_takeTurn_181 rfl (Nat.zero_le _) (Nat.zero_le _) ?_
      refine ⟨rfl, rfl, rfl, rfl, ?_, ?_, ?_⟩
      · exact (((((aq_own h29.2.1).trans (off_up (by omega))).trans ho3).trans ho4).trans (off_up (by omega))).trans (off_up (by omega))
      · rw [hth]; exact (hR4.upg 7 (by decide) (by decide) hγ).upg 6 (by decide) (by decide) hγ
      · rw [hth]
        exact (hM4.to (fun δ z h1 h2 => ⟨up_ne (by omega), up_ne (by omega)⟩) (same_up (by omega))).to (fun δ z h1 h2 => ⟨up_ne (by omega), up_ne (by omega)⟩) (same_up (by omega))
  · refine rn_vret dX3_takeTurn_7 rfl (Nat.zero_le _) (Nat.zero_le _) ?_
    have hz : ¬ 0 < aheadS ρ := by rw [c4]; decide
    have hth : thS S ρ γ = ρ := by unfold thS; rw [if_neg hz]
    exact ⟨rfl, rfl, rfl, rfl, Off.refl, by rw [hth]; exact hR, by rw [hth]; exact hM⟩
set_option maxRecDepth 4000 in
theorem ct_passDay (D : Nat) {r : Nat} (hS : ShRd Γ rv r) (hr : 27 ≤ r ∧ r ≤ 57) {ρ : IV} (hR : RC iv r ρ) {S : Nat → Nat → List Int32} {t : Nat} (hrl : rv r 8 = rq t) (ht : ρ 4 8 = nI t) (ht6 : t < 6) (hU : RuC Γ iv rv t S) (hg : GR ρ) (hM : Mm iv r ρ S) (idl : Int32) : Ct g l mX3_passDay (D + 4) 0 0 [.ref r, .int idl] Γ iv rv lv (qCV Γ rv lv (fun iv' => Off (Own r) iv iv' ∧ RC iv' r (passS S ρ idl) ∧ Mm iv' r (passS S ρ idl) S)) := by
  refine Ct.of (by decide +kernel) (Nat.le_of_ble_eq_true rfl) (Nat.le_of_ble_eq_true rfl) ?_
  refine r_iload1 dX3_passDay_0 ?_
  refine rn_if_eq 12 dX3_passDay_1 rfl (fun c1 => ?_) (fun c1 => ?_)
  · have e1 : half1 S ρ 0 idl = ρ := half_no c1
    have hR1 : RC iv r (half1 S ρ 0 idl) := by rw [e1]; exact hR
    have hM1 : Mm iv r (half1 S ρ 0 idl) S := by rw [e1]; exact hM
    have hU1 := hU
    have ho1 := Off.refl (S := Own r) (iv := iv)
    have hg1 : GR (half1 S ρ 0 idl) := gr_half (by decide) hg
    have ht1 := (rule_half (S := S) (ρ := ρ) (γ := 0) (idl := idl) (by decide)).trans ht
    refine r_iload1 dX3_passDay_12 ?_
    refine rn_iconst (1) dX3_passDay_13 (by decide) ?_
    refine rn_icmp_eq 25 dX3_passDay_14 rfl (fun c14 => ?_) (fun c14 => ?_)
    · have e2 : half1 S (half1 S ρ 0 idl) 1 idl = (half1 S ρ 0 idl) := half_no c14
      have hR2 : RC iv r (half1 S (half1 S ρ 0 idl) 1 idl) := by rw [e2]; exact hR1
      have hM2 : Mm iv r (half1 S (half1 S ρ 0 idl) 1 idl) S := by rw [e2]; exact hM1
      have hU2 := hU1
      have ho2 := ho1
      have hg2 : GR (half1 S (half1 S ρ 0 idl) 1 idl) := gr_half (by decide) hg1
      have ht2 := (rule_half (S := S) (ρ := (half1 S ρ 0 idl)) (γ := 1) (idl := idl) (by decide)).trans ht1
      refine r_aload0 dX3_passDay_25 ?_
      refine gf_X3_30 dX3_passDay_26 rfl hS.1 ?_
      refine rn_eqi ((half1 S (half1 S ρ 0 idl) 1 idl) 4 4) (hR2.2.2.1 4 (by decide) (by decide)) ?_
      refine rn_sipush (999) dX3_passDay_29 (by decide) ?_
      refine rn_icmp_ge 45 dX3_passDay_32 rfl (fun c32 => ?_) (fun c32 => ?_)
      · refine rn_vret dX3_passDay_45 rfl (Nat.zero_le _) (Nat.zero_le _) ?_
        have e3 : passS S ρ idl = (half1 S (half1 S ρ 0 idl) 1 idl) := day_no (Int32.not_lt.mpr c32)
        exact ⟨rfl, rfl, rfl, rfl, ho2, by rw [e3]; exact hR2, by rw [e3]; exact hM2⟩
      · refine r_aload0 dX3_passDay_35 ?_
        refine rn_dup dX3_passDay_36 rfl ?_
        refine gf_X3_30 dX3_passDay_37 rfl hS.1 ?_
        refine rn_eqi ((half1 S (half1 S ρ 0 idl) 1 idl) 4 4) (hR2.2.2.1 4 (by decide) (by decide)) ?_
        refine rn_iconst (1) dX3_passDay_40 (by decide) ?_
        refine rn_iadd dX3_passDay_41 ?_
        refine pf_X3_30 dX3_passDay_42 rfl hS.1 ?_
        refine rn_vret dX3_passDay_45 rfl (Nat.zero_le _) (Nat.zero_le _) ?_
        have e3 : passS S ρ idl = up (half1 S (half1 S ρ 0 idl) 1 idl) 4 4 ((half1 S (half1 S ρ 0 idl) 1 idl) 4 4 + 1) := by unfold passS dayS; rw [if_pos (Int32.not_le.mp c32)]
        exact ⟨rfl, rfl, rfl, rfl, ho2.trans (off_up (by omega)), by rw [e3]; exact hR2.ups 4 (by decide) (by decide), by rw [e3]; exact hM2.to (fun δ z h1 h2 => ⟨up_ne1 (by omega), up_ne1 (by omega)⟩) (same_up (by omega))⟩
    · refine r_aload0 dX3_passDay_17 ?_
      refine r_aload0 dX3_passDay_18 ?_
      refine gf_X3_27 dX3_passDay_19 rfl hS.1 hS.2.2.2.2.1.1 ?_
      refine ccvV1 dX3_passDay_22 ov_X3_takeTurn rfl ml_X3_132 hS.1 rfl (Nat.zero_le _) (Nat.zero_le _) (Nat.zero_le _) (ct_takeTurn (γ := 1) D hS hr hR1 hrl ht1 ht6 hU1 hg1 hM1 (by decide)) (fun iv h22 => ?_)
      have e2 : half1 S (half1 S ρ 0 idl) 1 idl = thS S (half1 S ρ 0 idl) 1 := half_th c14
      have hR2 : RC iv r (half1 S (half1 S ρ 0 idl) 1 idl) := by rw [e2]; exact h22.2.1
      have hM2 : Mm iv r (half1 S (half1 S ρ 0 idl) 1 idl) S := by rw [e2]; exact h22.2.2
      have hU2 := RuC.own hU1 hr h22.1
      have ho2 := (ho1).trans h22.1
      have hg2 : GR (half1 S (half1 S ρ 0 idl) 1 idl) := gr_half (by decide) hg1
      have ht2 := (rule_half (S := S) (ρ := (half1 S ρ 0 idl)) (γ := 1) (idl := idl) (by decide)).trans ht1
      refine r_aload0 dX3_passDay_25 ?_
      refine gf_X3_30 dX3_passDay_26 rfl hS.1 ?_
      refine rn_eqi ((half1 S (half1 S ρ 0 idl) 1 idl) 4 4) (hR2.2.2.1 4 (by decide) (by decide)) ?_
      refine rn_sipush (999) dX3_passDay_29 (by decide) ?_
      refine rn_icmp_ge 45 dX3_passDay_32 rfl (fun c32 => ?_) (fun c32 => ?_)
      · refine rn_vret dX3_passDay_45 rfl (Nat.zero_le _) (Nat.zero_le _) ?_
        have e3 : passS S ρ idl = (half1 S (half1 S ρ 0 idl) 1 idl) := day_no (Int32.not_lt.mpr c32)
        exact ⟨rfl, rfl, rfl, rfl, ho2, by rw [e3]; exact hR2, by rw [e3]; exact hM2⟩
      · refine r_aload0 dX3_passDay_35 ?_
        refine rn_dup dX3_passDay_36 rfl ?_
        refine gf_X3_30 dX3_passDay_37 rfl hS.1 ?_
        refine rn_eqi ((half1 S (half1 S ρ 0 idl) 1 idl) 4 4) (hR2.2.2.1 4 (by decide) (by decide)) ?_
        refine rn_iconst (1) dX3_passDay_40 (by decide) ?_
        refine rn_iadd dX3_passDay_41 ?_
        refine pf_X3_30 dX3_passDay_42 rfl hS.1 ?_
        refine rn_vret dX3_passDay_45 rfl (Nat.zero_le _) (Nat.zero_le _) ?_
        have e3 : passS S ρ idl = up (half1 S (half1 S ρ 0 idl) 1 idl) 4 4 ((half1 S (half1 S ρ 0 idl) 1 idl) 4 4 + 1) := by unfold passS dayS; rw [if_pos (Int32.not_le.mp c32)]
        exact ⟨rfl, rfl, rfl, rfl, ho2.trans (off_up (by omega)), by rw [e3]; exact hR2.ups 4 (by decide) (by decide), by rw [e3]; exact hM2.to (fun δ z h1 h2 => ⟨up_ne1 (by omega), up_ne1 (by omega)⟩) (same_up (by omega))⟩
  · refine r_aload0 dX3_passDay_4 ?_
    refine r_aload0 dX3_passDay_5 ?_
    refine gf_X3_23 dX3_passDay_6 rfl hS.1 hS.2.2.2.1.1 ?_
    refine ccvV1 dX3_passDay_9 ov_X3_takeTurn rfl ml_X3_132 hS.1 rfl (Nat.zero_le _) (Nat.zero_le _) (Nat.zero_le _) (ct_takeTurn (γ := 0) D hS hr hR hrl ht ht6 hU hg hM (by decide)) (fun iv h9 => ?_)
    have e1 : half1 S ρ 0 idl = thS S ρ 0 := half_th c1
    have hR1 : RC iv r (half1 S ρ 0 idl) := by rw [e1]; exact h9.2.1
    have hM1 : Mm iv r (half1 S ρ 0 idl) S := by rw [e1]; exact h9.2.2
    have hU1 := RuC.own hU hr h9.1
    have ho1 := h9.1
    have hg1 : GR (half1 S ρ 0 idl) := gr_half (by decide) hg
    have ht1 := (rule_half (S := S) (ρ := ρ) (γ := 0) (idl := idl) (by decide)).trans ht
    refine r_iload1 dX3_passDay_12 ?_
    refine rn_iconst (1) dX3_passDay_13 (by decide) ?_
    refine rn_icmp_eq 25 dX3_passDay_14 rfl (fun c14 => ?_) (fun c14 => ?_)
    · have e2 : half1 S (half1 S ρ 0 idl) 1 idl = (half1 S ρ 0 idl) := half_no c14
      have hR2 : RC iv r (half1 S (half1 S ρ 0 idl) 1 idl) := by rw [e2]; exact hR1
      have hM2 : Mm iv r (half1 S (half1 S ρ 0 idl) 1 idl) S := by rw [e2]; exact hM1
      have hU2 := hU1
      have ho2 := ho1
      have hg2 : GR (half1 S (half1 S ρ 0 idl) 1 idl) := gr_half (by decide) hg1
      have ht2 := (rule_half (S := S) (ρ := (half1 S ρ 0 idl)) (γ := 1) (idl := idl) (by decide)).trans ht1
      refine r_aload0 dX3_passDay_25 ?_
      refine gf_X3_30 dX3_passDay_26 rfl hS.1 ?_
      refine rn_eqi ((half1 S (half1 S ρ 0 idl) 1 idl) 4 4) (hR2.2.2.1 4 (by decide) (by decide)) ?_
      refine rn_sipush (999) dX3_passDay_29 (by decide) ?_
      refine rn_icmp_ge 45 dX3_passDay_32 rfl (fun c32 => ?_) (fun c32 => ?_)
      · refine rn_vret dX3_passDay_45 rfl (Nat.zero_le _) (Nat.zero_le _) ?_
        have e3 : passS S ρ idl = (half1 S (half1 S ρ 0 idl) 1 idl) := day_no (Int32.not_lt.mpr c32)
        exact ⟨rfl, rfl, rfl, rfl, ho2, by rw [e3]; exact hR2, by rw [e3]; exact hM2⟩
      · refine r_aload0 dX3_passDay_35 ?_
        refine rn_dup dX3_passDay_36 rfl ?_
        refine gf_X3_30 dX3_passDay_37 rfl hS.1 ?_
        refine rn_eqi ((half1 S (half1 S ρ 0 idl) 1 idl) 4 4) (hR2.2.2.1 4 (by decide) (by decide)) ?_
        refine rn_iconst (1) dX3_passDay_40 (by decide) ?_
        refine rn_iadd dX3_passDay_41 ?_
        refine pf_X3_30 dX3_passDay_42 rfl hS.1 ?_
        refine rn_vret dX3_passDay_45 rfl (Nat.zero_le _) (Nat.zero_le _) ?_
        have e3 : passS S ρ idl = up (half1 S (half1 S ρ 0 idl) 1 idl) 4 4 ((half1 S (half1 S ρ 0 idl) 1 idl) 4 4 + 1) := by unfold passS dayS; rw [if_pos (Int32.not_le.mp c32)]
        exact ⟨rfl, rfl, rfl, rfl, ho2.trans (off_up (by omega)), by rw [e3]; exact hR2.ups 4 (by decide) (by decide), by rw [e3]; exact hM2.to (fun δ z h1 h2 => ⟨up_ne1 (by omega), up_ne1 (by omega)⟩) (same_up (by omega))⟩
    · refine r_aload0 dX3_passDay_17 ?_
      refine r_aload0 dX3_passDay_18 ?_
      refine gf_X3_27 dX3_passDay_19 rfl hS.1 hS.2.2.2.2.1.1 ?_
      refine ccvV1 dX3_passDay_22 ov_X3_takeTurn rfl ml_X3_132 hS.1 rfl (Nat.zero_le _) (Nat.zero_le _) (Nat.zero_le _) (ct_takeTurn (γ := 1) D hS hr hR1 hrl ht1 ht6 hU1 hg1 hM1 (by decide)) (fun iv h22 => ?_)
      have e2 : half1 S (half1 S ρ 0 idl) 1 idl = thS S (half1 S ρ 0 idl) 1 := half_th c14
      have hR2 : RC iv r (half1 S (half1 S ρ 0 idl) 1 idl) := by rw [e2]; exact h22.2.1
      have hM2 : Mm iv r (half1 S (half1 S ρ 0 idl) 1 idl) S := by rw [e2]; exact h22.2.2
      have hU2 := RuC.own hU1 hr h22.1
      have ho2 := (ho1).trans h22.1
      have hg2 : GR (half1 S (half1 S ρ 0 idl) 1 idl) := gr_half (by decide) hg1
      have ht2 := (rule_half (S := S) (ρ := (half1 S ρ 0 idl)) (γ := 1) (idl := idl) (by decide)).trans ht1
      refine r_aload0 dX3_passDay_25 ?_
      refine gf_X3_30 dX3_passDay_26 rfl hS.1 ?_
      refine rn_eqi ((half1 S (half1 S ρ 0 idl) 1 idl) 4 4) (hR2.2.2.1 4 (by decide) (by decide)) ?_
      refine rn_sipush (999) dX3_passDay_29 (by decide) ?_
      refine rn_icmp_ge 45 dX3_passDay_32 rfl (fun c32 => ?_) (fun c32 => ?_)
      · refine rn_vret dX3_passDay_45 rfl (Nat.zero_le _) (Nat.zero_le _) ?_
        have e3 : passS S ρ idl = (half1 S (half1 S ρ 0 idl) 1 idl) := day_no (Int32.not_lt.mpr c32)
        exact ⟨rfl, rfl, rfl, rfl, ho2, by rw [e3]; exact hR2, by rw [e3]; exact hM2⟩
      · refine r_aload0 dX3_passDay_35 ?_
        refine rn_dup dX3_passDay_36 rfl ?_
        refine gf_X3_30 dX3_passDay_37 rfl hS.1 ?_
        refine rn_eqi ((half1 S (half1 S ρ 0 idl) 1 idl) 4 4) (hR2.2.2.1 4 (by decide) (by decide)) ?_
        refine rn_iconst (1) dX3_passDay_40 (by decide) ?_
        refine rn_iadd dX3_passDay_41 ?_
        refine pf_X3_30 dX3_passDay_42 rfl hS.1 ?_
        refine rn_vret dX3_passDay_45 rfl (Nat.zero_le _) (Nat.zero_le _) ?_
        have e3 : passS S ρ idl = up (half1 S (half1 S ρ 0 idl) 1 idl) 4 4 ((half1 S (half1 S ρ 0 idl) 1 idl) 4 4 + 1) := by unfold passS dayS; rw [if_pos (Int32.not_le.mp c32)]
        exact ⟨rfl, rfl, rfl, rfl, ho2.trans (off_up (by omega)), by rw [e3]; exact hR2.ups 4 (by decide) (by decide), by rw [e3]; exact hM2.to (fun δ z h1 h2 => ⟨up_ne1 (by omega), up_ne1 (by omega)⟩) (same_up (by omega))⟩
set_option maxRecDepth 4000 in
theorem cru_loop {D : Nat} {Q : Qt} {r : Nat} (hS : ShRd Γ rv r) (hr : 27 ≤ r ∧ r ≤ 57) {S : Nat → Nat → List Int32} {t : Nat} (hrl : rv r 8 = rq t) (ht6 : t < 6) {idl idle : Int32} : ∀ (n k : Nat) (iv ρ : IV) {x : Int32}, k + n = 300 → x = nI k → RC iv r ρ → Mm iv r ρ S → GR ρ → ρ 4 8 = nI t → RuC Γ iv rv t S →
    (∀ (iv' : IV) (x : Int32), x = nI (runS S idl idle n k ρ).1 → Off (Own r) iv iv' → RC iv' r (runS S idl idle n k ρ).2 → Rn g l mX3_runOut (rmA (D + 5) 0 0) Q 0 0 36 [.ref r, .int idl, .int idle, .int x] [] Γ iv' rv lv) → Rn g l mX3_runOut (rmA (D + 5) 0 0) Q 0 0 2 [.ref r, .int idl, .int idle, .int x] [] Γ iv rv lv := by
  intro n
  induction n with
  | zero =>
    intro k iv ρ x hn hx hR hM hg ht hU kk
    refine r_iload3 dX3_runOut_2 ?_
    refine rn_sipush (300) dX3_runOut_3 (by decide) ?_
    refine rn_icmp_ge 36 dX3_runOut_6 rfl (fun _ => ?_) (fun h => absurd (by rw [hx, show k = 300 by omega]; decide) h)
    exact kk _ _ hx Off.refl hR
  | succ n ih =>
    intro k iv ρ x hn hx hR hM hg ht hU kk
    refine r_iload3 dX3_runOut_2 ?_
    refine rn_sipush (300) dX3_runOut_3 (by decide) ?_
    refine rn_icmp_ge 36 dX3_runOut_6 rfl (fun h => absurd h (fun z => by rw [hx, show (300 : Int32) = nI 300 by decide, nI_leI (by decide) (by omega)] at z; omega)) (fun _ => ?_)
    refine r_aload0 dX3_runOut_9 ?_
    refine cpiV0 dX3_runOut_10 ov_X3_ahead rfl ml_X3_73 hS.1 rfl (Nat.zero_le _) (Nat.zero_le _) (Nat.zero_le _) (ct_ahead _ hS hR) ?_
    refine rn_if_le 36 dX3_runOut_13 rfl (fun c13 => ?_) (fun c13 => ?_)
    · rw [run_stop (Int32.not_lt.mpr c13)] at kk
      exact kk _ _ hx Off.refl hR
    · refine r_aload0 dX3_runOut_16 ?_
      refine r_iload3 dX3_runOut_17 ?_
      refine r_iload2 dX3_runOut_18 ?_
      refine rn_icmp_ge 26 dX3_runOut_19 rfl (fun c19 => ?_) (fun c19 => ?_)
      · refine rn_iconst (-1) dX3_runOut_26 (by decide) ?_
        refine ccvV1 dX3_runOut_27 ov_X3_passDay rfl ml_X3_136 hS.1 rfl (Nat.zero_le _) (Nat.zero_le _) (Nat.zero_le _) (ct_passDay D hS hr hR hrl ht ht6 hU hg hM _) (fun iv h27 => ?_)
        refine r_iinc3 _ dX3_runOut_30 rfl rfl ?_
        refine rn_goto 2 dX3_runOut_33 rfl ?_
        have ei : (if nI k < idle then idl else -1) = -1 := if_neg (Int32.not_lt.mpr (by rw [← hx]; exact c19))
        have ee : runS S idl idle (n + 1) k ρ = runS S idl idle n (k + 1) (passS S ρ (-1)) := by rw [run_go (Int32.not_le.mp c13), ei]
        rw [ee] at kk
        exact ih (k + 1) _ _ (by omega) (by rw [hx]; exact nI_1 k) h27.2.1 h27.2.2 (gr_pass hg) (rule_pass.trans ht) (hU.own hr h27.1) (fun iv2 x2 hx2 ho hR2 => kk iv2 x2 hx2 (h27.1.trans ho) hR2)
      · refine r_iload1 dX3_runOut_22 ?_
        refine rn_goto 27 dX3_runOut_23 rfl ?_
        refine ccvV1 dX3_runOut_27 ov_X3_passDay rfl ml_X3_136 hS.1 rfl (Nat.zero_le _) (Nat.zero_le _) (Nat.zero_le _) (ct_passDay D hS hr hR hrl ht ht6 hU hg hM _) (fun iv h27 => ?_)
        refine r_iinc3 _ dX3_runOut_30 rfl rfl ?_
        refine rn_goto 2 dX3_runOut_33 rfl ?_
        have ei : (if nI k < idle then idl else -1) = idl := if_pos (by rw [← hx]; exact Int32.not_le.mp c19)
        have ee : runS S idl idle (n + 1) k ρ = runS S idl idle n (k + 1) (passS S ρ idl) := by rw [run_go (Int32.not_le.mp c13), ei]
        rw [ee] at kk
        exact ih (k + 1) _ _ (by omega) (by rw [hx]; exact nI_1 k) h27.2.1 h27.2.2 (gr_pass hg) (rule_pass.trans ht) (hU.own hr h27.1) (fun iv2 x2 hx2 ho hR2 => kk iv2 x2 hx2 (h27.1.trans ho) hR2)
set_option maxRecDepth 4000 in
theorem ct_runOut (D : Nat) {r : Nat} (hS : ShRd Γ rv r) (hr : 27 ≤ r ∧ r ≤ 57) {ρ : IV} (hR : RC iv r ρ) {S : Nat → Nat → List Int32} {t : Nat} (hrl : rv r 8 = rq t) (ht : ρ 4 8 = nI t) (ht6 : t < 6) (hU : RuC Γ iv rv t S) (hg : GR ρ) (hM : Mm iv r ρ S) (idl idle : Int32) : Ct g l mX3_runOut (D + 5) 0 0 [.ref r, .int idl, .int idle] Γ iv rv lv (qCI Γ rv lv (fun x iv' => x = nI (runS S idl idle 300 0 ρ).1 ∧ Off (Own r) iv iv' ∧ RC iv' r (runS S idl idle 300 0 ρ).2)) := by
  refine Ct.of (by decide +kernel) (Nat.le_of_ble_eq_true rfl) (Nat.le_of_ble_eq_true rfl) ?_
  refine rn_iconst (0) dX3_runOut_0 (by decide) ?_
  refine r_istore3 dX3_runOut_1 rfl ?_
  refine cru_loop (D := D) hS hr hrl ht6 300 0 iv ρ (by decide) rfl hR hM hg ht hU (fun iv2 x hx ho hR2 => ?_)
  refine r_iload3 dX3_runOut_36 ?_
  refine rn_iret dX3_runOut_37 rfl (Nat.zero_le _) (Nat.zero_le _) ?_
  exact ⟨_, rfl, rfl, rfl, rfl, hx, ho, hR2⟩
end CDAY
