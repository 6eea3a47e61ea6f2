/-! THE REFERENCE: says, needs, does, costs -/
/-- the reference's road is ρ -/
def RM (iv ρ : IV) : Prop := (∀ y, y < 24 → iv 79 y = ρ 0 y ∧ iv 80 y = ρ 1 y) ∧ (∀ k γ, 1 ≤ k → k ≤ 7 → γ < 2 → iv (80 + k) γ = ρ (2 + γ) k) ∧ (∀ k, 4 ≤ k → k ≤ 7 → iv 75 (12 + k) = ρ 4 k) ∧ iv 75 4 = ρ 4 8
/-- its texts -/
def TextsM (iv : IV) (T : Nat) (S : Nat → Nat → List Int32) : Prop := ∀ t, t < T → ∃ b n, iv 77 t = nI n ∧ n ≤ 160 ∧ (∀ j, j < n → iv 76 (160 * t + j) = b j) ∧ (∀ j, j < n → 0 ≤ b j ∧ b j ≤ 255) ∧ txS b n = some (.inr (S t 0, S t 1, S t 2))
abbrev Sy (a b : Nat) : Prop := a = 75 ∧ 20 ≤ b ∧ b ≤ 34
abbrev Tn (a b : Nat) : Prop := (a = 75 ∧ 20 ≤ b ∧ b ≤ 34) ∨ a = 80 ∨ (84 ≤ a ∧ a ≤ 87)
theorem RM.off {iv iv' ρ : IV} (h : RM iv ρ) (ho : Off Sy iv iv') : RM iv' ρ :=
  ⟨fun y hy => ⟨(ho 79 y (by omega)).trans (h.1 y hy).1, (ho 80 y (by omega)).trans (h.1 y hy).2⟩, fun k γ h1 h2 h3 => (ho _ _ (by omega)).trans (h.2.1 k γ h1 h2 h3), fun k h1 h2 => (ho _ _ (by omega)).trans (h.2.2.1 k h1 h2), (ho _ _ (by decide)).trans h.2.2.2⟩
theorem TextsM.off {iv iv' : IV} {T : Nat} {S : Nat → Nat → List Int32} {P : Nat → Nat → Prop} (h : TextsM iv T S) (ho : Off P iv iv') (hp : ∀ b, ¬ P 76 b ∧ ¬ P 77 b) : TextsM iv' T S := by
  intro t ht
  obtain ⟨b, n, h1, h2, h3, h4, h5⟩ := h t ht
  exact ⟨b, n, (ho _ _ (hp _).2).trans h1, h2, fun j hj => (ho _ _ (hp _).1).trans (h3 j hj), h4, h5⟩
theorem TextsM.sy {iv iv' : IV} {T : Nat} {S : Nat → Nat → List Int32} (h : TextsM iv T S) (ho : Off Sy iv iv') : TextsM iv' T S := h.off ho (fun b => ⟨by omega, by omega⟩)
theorem TextsM.tn {iv iv' : IV} {T : Nat} {S : Nat → Nat → List Int32} (h : TextsM iv T S) (ho : Off Tn iv iv') : TextsM iv' T S := h.off ho (fun b => ⟨by omega, by omega⟩)
theorem sy_tn {iv iv' : IV} (h : Off Sy iv iv') : Off Tn iv iv' := h.mono (fun a b z => Or.inl z)
theorem RM.gang {iv ρ : IV} (h : RM iv ρ) (k : Nat) {γ : Nat} (h1 : 1 ≤ k) (h2 : k ≤ 7) (hγ : γ < 2) : iv (80 + k) γ = ρ (2 + γ) k := h.2.1 k γ h1 h2 hγ
theorem RM.left {iv ρ : IV} (h : RM iv ρ) : 24 - iv 84 0 - iv 84 1 = aheadS ρ := by
  have h1 : iv 84 0 = ρ 2 4 := h.2.1 4 0 (by decide) (by decide) (by decide)
  have h2 : iv 84 1 = ρ 3 4 := h.2.1 4 1 (by decide) (by decide) (by decide)
  rw [h1, h2]; rfl
theorem RM.next {iv ρ : IV} (h : RM iv ρ) (hg : GR ρ) (hlt : uO ρ + vO ρ < 24) {γ : Nat} (hγ : γ < 2) {G : Int32} (hG : G = nI γ) : (if G = 0 then iv 84 0 else 23 - iv 84 1) = nI (nextN ρ γ) := by
  have h1 : iv 84 0 = ρ 2 4 := h.2.1 4 0 (by decide) (by decide) (by decide)
  have h2 : iv 84 1 = ρ 3 4 := h.2.1 4 1 (by decide) (by decide) (by decide)
  rw [h1, h2, hG]
  unfold nextN
  rcases (show γ = 0 ∨ γ = 1 by omega) with rfl | rfl
  · rw [if_pos (by decide), if_pos rfl]; exact hg.1
  · rw [if_neg (by decide), if_neg (by decide), hg.2.1, show (23 : Int32) = nI 23 by decide, pk_sub (by omega)]
section MROAD
variable {g : GS} {l : Launch} {Γ : Sh} {iv : IV} {rv : RV} {lv : LV}
set_option maxRecDepth 4000 in
theorem ct_says (D : Nat) (hM : ShM Γ rv) {ρ : IV} {S : Nat → Nat → List Int32} {T : Nat} (hR : RM iv ρ) (hX : TextsM iv T S) (hT6 : T ≤ 6) {t : Nat} (ht : ρ 4 8 = nI t) (htT : t < T) {y γ : Nat} {Y G : Int32} (w : Int32) (hY : Y = nI y) (hy : y < 24) (hG : G = nI γ) (hγ : γ < 2) : Ct g l mX7_says (D + 47) 0 0 [.ref 75, .int w, .int Y, .int G] Γ iv rv lv (qLI Γ rv (fun x iv' lv' => Off Sy iv iv' ∧ x = vl (envS ρ y (ρ (2 + γ) 3)) (if w = 0 then S t 0 else if w = 1 then S t 1 else S t 2))) := by
  refine Ct.of (by decide +kernel) (Nat.le_of_ble_eq_true rfl) (Nat.le_of_ble_eq_true rfl) ?_
  obtain ⟨b, n, x1, x2, x3, x4, x5⟩ := hX t htT
  have he : ∀ j, j < 6 → (up (up (up (up (up (up iv 75 20 (iv 79 y)) 75 21 (iv 83 γ)) 75 22 Y) 75 23 (24 - iv 84 0 - iv 84 1)) 75 24 (iv 75 16)) 75 25 (iv 80 y)) 75 (20 + j) = envS ρ y (ρ (2 + γ) 3) j := fun j hj => match j, hj with
    | 0, _ => (hR.1 y hy).1
    | 1, _ => hR.gang 3 (by decide) (by decide) hγ
    | 2, _ => hY
    | 3, _ => hR.left
    | 4, _ => hR.2.2.1 4 (by decide) (by decide)
    | 5, _ => (hR.1 y hy).2
  have hb5 : Off Sy iv (up (up (up (up (up (up iv 75 20 (iv 79 y)) 75 21 (iv 83 γ)) 75 22 Y) 75 23 (24 - iv 84 0 - iv 84 1)) 75 24 (iv 75 16)) 75 25 (iv 80 y)) := (((((off_up (by decide)).trans (off_up (by decide))).trans (off_up (by decide))).trans (off_up (by decide))).trans (off_up (by decide))).trans (off_up (by decide))
  refine r_aload0 dX7_says_0 ?_
  refine r_aload0 dX7_says_1 ?_
  refine gf_X7_23 dX7_says_2 rfl hM.1 (sm_grounds hM).1 ?_
  refine r_iload2 dX7_says_5 ?_
  refine rn_iald y dX7_says_6 (sm_grounds hM).2 hY hy (by decide) ?_
  refine pf_X7_205 dX7_says_7 rfl hM.1 ?_
  refine r_aload0 dX7_says_10 ?_
  refine r_aload0 dX7_says_11 ?_
  refine gf_X7_35 dX7_says_12 rfl hM.1 (sm_men hM).1 ?_
  refine r_iload3 dX7_says_15 ?_
  refine rn_iald γ dX7_says_16 (sm_men hM).2 hG hγ (by decide) ?_
  refine pf_X7_208 dX7_says_17 rfl hM.1 ?_
  refine r_aload0 dX7_says_20 ?_
  refine r_iload2 dX7_says_21 ?_
  refine pf_X7_211 dX7_says_22 rfl hM.1 ?_
  refine r_aload0 dX7_says_25 ?_
  refine r_aload0 dX7_says_26 ?_
  refine cpiV0 dX7_says_27 ov_X7_left rfl ml_X7_137 hM.1 rfl (Nat.le_of_ble_eq_true rfl) (Nat.zero_le _) (Nat.zero_le _) (ct_left _ hM) ?_
  refine pf_X7_214 dX7_says_30 rfl hM.1 ?_
  refine r_aload0 dX7_says_33 ?_
  refine r_aload0 dX7_says_34 ?_
  refine gf_X7_265 dX7_says_35 rfl hM.1 ?_
  refine pf_X7_217 dX7_says_38 rfl hM.1 ?_
  refine r_aload0 dX7_says_41 ?_
  refine r_aload0 dX7_says_42 ?_
  refine gf_X7_26 dX7_says_43 rfl hM.1 (sm_known hM).1 ?_
  refine r_iload2 dX7_says_46 ?_
  refine rn_iald y dX7_says_47 (sm_known hM).2 hY hy (by decide) ?_
  refine pf_X7_220 dX7_says_48 rfl hM.1 ?_
  refine r_aload0 dX7_says_51 ?_
  refine r_aload0 dX7_says_52 ?_
  refine gf_X7_262 dX7_says_53 rfl hM.1 ?_
  refine r_iload1 dX7_says_56 ?_
  refine cliV2 dX7_says_57 ov_X7_read rfl ml_X7_259 hM.1 rfl (Nat.zero_le _) (Nat.zero_le _) (Nat.zero_le _) (ct_read (iv := (up (up (up (up (up (up iv 75 20 (iv 79 y)) 75 21 (iv 83 γ)) 75 22 Y) 75 23 (24 - iv 84 0 - iv 84 1)) 75 24 (iv 75 16)) 75 25 (iv 80 y))) D hM (hR.2.2.2.trans ht) (by omega) x1 x2 x3 x4 he w x5) (fun x57 iv lv h57 => ?_)
  refine rn_iret dX7_says_60 rfl (Nat.zero_le _) (Nat.zero_le _) ?_
  exact ⟨_, rfl, rfl, rfl, hb5.trans (h57.1.mono (fun a b z => ⟨z.1, by omega, z.2.2⟩)), h57.2.2⟩
theorem askS_of {ρ : IV} {S : Nat → Nat → List Int32} {t : Nat} (ht : ρ 4 8 = nI t) (h6 : t < 6) {p y : Nat} {men : Int32} : askS S ρ p y men = clampS p (vl (envS ρ y men) (S t p)) := by
  unfold askS; rw [ht, nI_clamp (by omega)]
set_option maxRecDepth 4000 in
theorem ct_needs (D : Nat) (hM : ShM Γ rv) {ρ : IV} {S : Nat → Nat → List Int32} {T : Nat} (hR : RM iv ρ) (hX : TextsM iv T S) (hT6 : T ≤ 6) {t : Nat} (ht : ρ 4 8 = nI t) (htT : t < T) {y γ : Nat} {Y G : Int32} (hY : Y = nI y) (hy : y < 24) (hG : G = nI γ) (hγ : γ < 2) : Ct g l mX7_needs (D + 48) 0 0 [.ref 75, .int Y, .int G] Γ iv rv lv (qLI Γ rv (fun x iv' lv' => Off Sy iv iv' ∧ x = askS S ρ 1 y (ρ (2 + γ) 3))) := by
  refine Ct.of (by decide +kernel) (Nat.le_of_ble_eq_true rfl) (Nat.le_of_ble_eq_true rfl) ?_
  refine r_aload0 dX7_needs_0 ?_
  refine rn_iconst (1) dX7_needs_1 (by decide) ?_
  refine r_iload1 dX7_needs_2 ?_
  refine r_iload2 dX7_needs_3 ?_
  refine cliV3 dX7_needs_4 ov_X7_says rfl ml_X7_268 hM.1 rfl (Nat.zero_le _) (Nat.zero_le _) (Nat.zero_le _) (ct_says D hM hR hX hT6 ht htT 1 hY hy hG hγ) (fun x4 iv lv h4 => ?_)
  refine rn_iconst (1) dX7_needs_7 (by decide) ?_
  refine rn_sipush (999) dX7_needs_8 (by decide) ?_
  refine cpiS3 dX7_needs_11 os_X7_within rfl ml_X7_272 (Nat.zero_le _) (Nat.zero_le _) (Nat.zero_le _) (ct_mwithin _ _ _ _) ?_
  refine rn_iret dX7_needs_14 rfl (Nat.zero_le _) (Nat.zero_le _) ?_
  exact ⟨_, rfl, rfl, rfl, h4.1, by rw [h4.2, askS_of ht (by omega)]; rfl⟩
def nn (x : Int32) : Int32 := if x < 0 then 0 else x
theorem d_01 : ((0 : Int32) = 1) = False := by decide
theorem d_02 : ((0 : Int32) = 2) = False := by decide
theorem d_03 : ((0 : Int32) = 3) = False := by decide
theorem d_04 : ((0 : Int32) = 4) = False := by decide
theorem d_05 : ((0 : Int32) = 5) = False := by decide
theorem d_10 : ((1 : Int32) = 0) = False := by decide
theorem d_12 : ((1 : Int32) = 2) = False := by decide
theorem d_13 : ((1 : Int32) = 3) = False := by decide
theorem d_14 : ((1 : Int32) = 4) = False := by decide
theorem d_15 : ((1 : Int32) = 5) = False := by decide
theorem d_20 : ((2 : Int32) = 0) = False := by decide
theorem d_21 : ((2 : Int32) = 1) = False := by decide
theorem d_23 : ((2 : Int32) = 3) = False := by decide
theorem d_24 : ((2 : Int32) = 4) = False := by decide
theorem d_25 : ((2 : Int32) = 5) = False := by decide
theorem d_30 : ((3 : Int32) = 0) = False := by decide
theorem d_31 : ((3 : Int32) = 1) = False := by decide
theorem d_32 : ((3 : Int32) = 2) = False := by decide
theorem d_34 : ((3 : Int32) = 4) = False := by decide
theorem d_35 : ((3 : Int32) = 5) = False := by decide
theorem d_40 : ((4 : Int32) = 0) = False := by decide
theorem d_41 : ((4 : Int32) = 1) = False := by decide
theorem d_42 : ((4 : Int32) = 2) = False := by decide
theorem d_43 : ((4 : Int32) = 3) = False := by decide
theorem d_45 : ((4 : Int32) = 5) = False := by decide
theorem d_50 : ((5 : Int32) = 0) = False := by decide
theorem d_51 : ((5 : Int32) = 1) = False := by decide
theorem d_52 : ((5 : Int32) = 2) = False := by decide
theorem d_53 : ((5 : Int32) = 3) = False := by decide
theorem d_54 : ((5 : Int32) = 4) = False := by decide
theorem does_0 {m d gr rate : Int32} : doesS 0 m d gr rate = nn rate := by
  simp only [doesS, nn, d_01, d_02, d_03, d_04, d_05, d_10, d_12, d_13, d_14, d_15, d_20, d_21, d_23, d_24, d_25, d_30, d_31, d_32, d_34, d_35, d_40, d_41, d_42, d_43, d_45, d_50, d_51, d_52, d_53, d_54, if_true, if_false, true_or, or_true, true_and, and_true, false_and, and_false, false_or, or_false, not_true, not_false, or_self]
theorem costs_0 {m : Int32} : costsS 0 m = 0 := by
  simp only [costsS, nn, d_01, d_02, d_03, d_04, d_05, d_10, d_12, d_13, d_14, d_15, d_20, d_21, d_23, d_24, d_25, d_30, d_31, d_32, d_34, d_35, d_40, d_41, d_42, d_43, d_45, d_50, d_51, d_52, d_53, d_54, if_true, if_false, true_or, or_true, true_and, and_true, false_and, and_false, false_or, or_false, not_true, not_false, or_self]
theorem does_1 {m d gr rate : Int32} : doesS 1 m d gr rate = nn (rate / 2 + 10) := by
  simp only [doesS, nn, d_01, d_02, d_03, d_04, d_05, d_10, d_12, d_13, d_14, d_15, d_20, d_21, d_23, d_24, d_25, d_30, d_31, d_32, d_34, d_35, d_40, d_41, d_42, d_43, d_45, d_50, d_51, d_52, d_53, d_54, if_true, if_false, true_or, or_true, true_and, and_true, false_and, and_false, false_or, or_false, not_true, not_false, or_self]
theorem costs_1 {m : Int32} : costsS 1 m = nn m := by
  simp only [costsS, nn, d_01, d_02, d_03, d_04, d_05, d_10, d_12, d_13, d_14, d_15, d_20, d_21, d_23, d_24, d_25, d_30, d_31, d_32, d_34, d_35, d_40, d_41, d_42, d_43, d_45, d_50, d_51, d_52, d_53, d_54, if_true, if_false, true_or, or_true, true_and, and_true, false_and, and_false, false_or, or_false, not_true, not_false, or_self]
theorem does_2 {m d gr rate : Int32} : doesS 2 m d gr rate = nn (if gr = remS m 4 ∧ remS d 2 = 1 then 0 else rate) := by
  simp only [doesS, nn, d_01, d_02, d_03, d_04, d_05, d_10, d_12, d_13, d_14, d_15, d_20, d_21, d_23, d_24, d_25, d_30, d_31, d_32, d_34, d_35, d_40, d_41, d_42, d_43, d_45, d_50, d_51, d_52, d_53, d_54, if_true, if_false, true_or, or_true, true_and, and_true, false_and, and_false, false_or, or_false, not_true, not_false, or_self]
theorem costs_2 {m : Int32} : costsS 2 m = 0 := by
  simp only [costsS, nn, d_01, d_02, d_03, d_04, d_05, d_10, d_12, d_13, d_14, d_15, d_20, d_21, d_23, d_24, d_25, d_30, d_31, d_32, d_34, d_35, d_40, d_41, d_42, d_43, d_45, d_50, d_51, d_52, d_53, d_54, if_true, if_false, true_or, or_true, true_and, and_true, false_and, and_false, false_or, or_false, not_true, not_false, or_self]
theorem does_3 {m d gr rate : Int32} : doesS 3 m d gr rate = nn (if remS d (m + 2) = 0 then (rate / 2 + 10) * 2 else rate / 2 + 10) := by
  simp only [doesS, nn, d_01, d_02, d_03, d_04, d_05, d_10, d_12, d_13, d_14, d_15, d_20, d_21, d_23, d_24, d_25, d_30, d_31, d_32, d_34, d_35, d_40, d_41, d_42, d_43, d_45, d_50, d_51, d_52, d_53, d_54, if_true, if_false, true_or, or_true, true_and, and_true, false_and, and_false, false_or, or_false, not_true, not_false, or_self]
theorem costs_3 {m : Int32} : costsS 3 m = nn (2 * m + 5) := by
  simp only [costsS, nn, d_01, d_02, d_03, d_04, d_05, d_10, d_12, d_13, d_14, d_15, d_20, d_21, d_23, d_24, d_25, d_30, d_31, d_32, d_34, d_35, d_40, d_41, d_42, d_43, d_45, d_50, d_51, d_52, d_53, d_54, if_true, if_false, true_or, or_true, true_and, and_true, false_and, and_false, false_or, or_false, not_true, not_false, or_self]
theorem does_4 {m d gr rate : Int32} : doesS 4 m d gr rate = nn ((if gr = remS m 4 ∧ remS d 2 = 1 then 0 else rate) - 3 * gr) := by
  simp only [doesS, nn, d_01, d_02, d_03, d_04, d_05, d_10, d_12, d_13, d_14, d_15, d_20, d_21, d_23, d_24, d_25, d_30, d_31, d_32, d_34, d_35, d_40, d_41, d_42, d_43, d_45, d_50, d_51, d_52, d_53, d_54, if_true, if_false, true_or, or_true, true_and, and_true, false_and, and_false, false_or, or_false, not_true, not_false, or_self]
theorem costs_4 {m : Int32} : costsS 4 m = 1 := by
  simp only [costsS, nn, d_01, d_02, d_03, d_04, d_05, d_10, d_12, d_13, d_14, d_15, d_20, d_21, d_23, d_24, d_25, d_30, d_31, d_32, d_34, d_35, d_40, d_41, d_42, d_43, d_45, d_50, d_51, d_52, d_53, d_54, if_true, if_false, true_or, or_true, true_and, and_true, false_and, and_false, false_or, or_false, not_true, not_false, or_self]
theorem does_5 {m d gr rate : Int32} : doesS 5 m d gr rate = nn (if gr = 3 then rate / 2 + 10 + m else rate / 2 + 10) := by
  simp only [doesS, nn, d_01, d_02, d_03, d_04, d_05, d_10, d_12, d_13, d_14, d_15, d_20, d_21, d_23, d_24, d_25, d_30, d_31, d_32, d_34, d_35, d_40, d_41, d_42, d_43, d_45, d_50, d_51, d_52, d_53, d_54, if_true, if_false, true_or, or_true, true_and, and_true, false_and, and_false, false_or, or_false, not_true, not_false, or_self]
theorem costs_5 {m : Int32} : costsS 5 m = nn (m - 10) := by
  simp only [costsS, nn, d_01, d_02, d_03, d_04, d_05, d_10, d_12, d_13, d_14, d_15, d_20, d_21, d_23, d_24, d_25, d_30, d_31, d_32, d_34, d_35, d_40, d_41, d_42, d_43, d_45, d_50, d_51, d_52, d_53, d_54, if_true, if_false, true_or, or_true, true_and, and_true, false_and, and_false, false_or, or_false, not_true, not_false, or_self]
set_option maxRecDepth 4000 in
theorem ct_mdoes (D : Nat) (hM : ShM Γ rv) {ρ : IV} {S : Nat → Nat → List Int32} {T : Nat} (hR : RM iv ρ) (hX : TextsM iv T S) (hT6 : T ≤ 6) {t : Nat} (ht : ρ 4 8 = nI t) (htT : t < T) (hg : GR ρ) (hlt : uO ρ + vO ρ < 24) {γ : Nat} {G : Int32} (hG : G = nI γ) (hγ : γ < 2) : Ct g l mX7_does (D + 48) 0 0 [.ref 75, .int G] Γ iv rv lv (qLI Γ rv (fun x iv' lv' => Off Sy iv iv' ∧ x = doesS (ρ (2 + γ) 1) (ρ (2 + γ) 2) (ρ 4 4) (ρ 0 (nextN ρ γ)) (askS S ρ 0 (nextN ρ γ) (ρ (2 + γ) 3)))) := by
  refine Ct.of (by decide +kernel) (Nat.le_of_ble_eq_true rfl) (Nat.le_of_ble_eq_true rfl) ?_
  have hy := next_lt (γ := γ) hlt
  obtain ⟨nm, nm1, nm2⟩ := (hg.2.2.2.1 γ hγ).2
  refine r_aload0 dX7_does_0 ?_
  refine r_iload1 dX7_does_1 ?_
  refine cpiV1 dX7_does_2 ov_X7_nextOf rfl ml_X7_275 hM.1 rfl (Nat.zero_le _) (Nat.zero_le _) (Nat.zero_le _) (ct_nextOf _ hM _) ?_
  refine rn_eqi _ (hR.next hg hlt hγ hG) ?_
  refine r_istore2 dX7_does_5 rfl ?_
  refine r_aload0 dX7_does_6 ?_
  refine gf_X7_29 dX7_does_7 rfl hM.1 (sm_kinds hM).1 ?_
  refine r_iload1 dX7_does_10 ?_
  refine rn_iald γ dX7_does_11 (sm_kinds hM).2 hG hγ (by decide) ?_
  refine rn_eqi _ (hR.gang 1 (by decide) (by decide) hγ) ?_
  obtain ⟨⟨ki, ki1, ki2⟩, -⟩ := hg.2.2.2.1 γ hγ
  rw [ki2]
  match ki, ki1 with
  | 0, _ =>
    refine rn_eqi 0 (by decide) ?_
    refine r_istore3 dX7_does_12 rfl ?_
    refine r_aload0 dX7_does_13 ?_
    refine rn_iconst (0) dX7_does_14 (by decide) ?_
    refine r_iload2 dX7_does_15 ?_
    refine r_iload1 dX7_does_16 ?_
    refine cliV3 dX7_does_17 ov_X7_says rfl ml_X7_268 hM.1 rfl (Nat.zero_le _) (Nat.zero_le _) (Nat.zero_le _) (ct_says D hM hR hX hT6 ht htT 0 rfl hy hG hγ) (fun x17 iv lv h17 => ?_)
    have hR1 := hR.off h17.1
    refine rn_iconst (0) dX7_does_20 (by decide) ?_
    refine rn_sipush (999) dX7_does_21 (by decide) ?_
    refine cpiS3 dX7_does_24 os_X7_within rfl ml_X7_272 (Nat.zero_le _) (Nat.zero_le _) (Nat.zero_le _) (ct_mwithin _ _ _ _) ?_
    refine rn_eqi (askS S ρ 0 (nextN ρ γ) (ρ (2 + γ) 3)) (by rw [h17.2, askS_of ht (by omega)]; rfl) ?_
    refine r_istore4 dX7_does_27 rfl ?_
    refine r_iload4 dX7_does_29 ?_
    refine r_istore5 dX7_does_31 rfl ?_
    refine r_iload3 dX7_does_33 ?_
    refine rn_iconst (2) dX7_does_34 (by decide) ?_
    refine rn_icmp_eq 43 dX7_does_35 rfl (fun h => absurd h (by decide)) (fun _ => ?_)
    refine r_iload3 dX7_does_38 ?_
    refine rn_iconst (4) dX7_does_39 (by decide) ?_
    refine rn_icmp_ne 94 dX7_does_40 rfl (fun _ => ?_) (fun h => absurd h (by decide))
    refine r_iload3 dX7_does_94 ?_
    refine rn_if_eq 160 dX7_does_95 rfl (fun _ => ?_) (fun h => absurd (by decide) h)
    refine r_iload5 dX7_does_160 ?_
    refine rn_if_ge 169 dX7_does_162 rfl (fun c162 => ?_) (fun c162 => ?_)
    · refine r_iload5 dX7_does_169 ?_
      refine rn_iret dX7_does_171 rfl (Nat.zero_le _) (Nat.zero_le _) ?_
      refine ⟨_, rfl, rfl, rfl, h17.1, ?_⟩
      rw [show nI 0 = 0 from by decide, does_0]
      unfold nn
      exact (if_neg (Int32.not_lt.mpr c162)).symm
    · refine rn_iconst (0) dX7_does_165 (by decide) ?_
      refine rn_goto 171 dX7_does_166 rfl ?_
      refine rn_iret dX7_does_171 rfl (Nat.zero_le _) (Nat.zero_le _) ?_
      refine ⟨_, rfl, rfl, rfl, h17.1, ?_⟩
      rw [show nI 0 = 0 from by decide, does_0]
      unfold nn
      exact (if_pos (Int32.not_le.mp c162)).symm
  | 1, _ =>
    refine rn_eqi 1 (by decide) ?_
    refine r_istore3 dX7_does_12 rfl ?_
    refine r_aload0 dX7_does_13 ?_
    refine rn_iconst (0) dX7_does_14 (by decide) ?_
    refine r_iload2 dX7_does_15 ?_
    refine r_iload1 dX7_does_16 ?_
    refine cliV3 dX7_does_17 ov_X7_says rfl ml_X7_268 hM.1 rfl (Nat.zero_le _) (Nat.zero_le _) (Nat.zero_le _) (ct_says D hM hR hX hT6 ht htT 0 rfl hy hG hγ) (fun x17 iv lv h17 => ?_)
    have hR1 := hR.off h17.1
    refine rn_iconst (0) dX7_does_20 (by decide) ?_
    refine rn_sipush (999) dX7_does_21 (by decide) ?_
    refine cpiS3 dX7_does_24 os_X7_within rfl ml_X7_272 (Nat.zero_le _) (Nat.zero_le _) (Nat.zero_le _) (ct_mwithin _ _ _ _) ?_
    refine rn_eqi (askS S ρ 0 (nextN ρ γ) (ρ (2 + γ) 3)) (by rw [h17.2, askS_of ht (by omega)]; rfl) ?_
    refine r_istore4 dX7_does_27 rfl ?_
    refine r_iload4 dX7_does_29 ?_
    refine r_istore5 dX7_does_31 rfl ?_
    refine r_iload3 dX7_does_33 ?_
    refine rn_iconst (2) dX7_does_34 (by decide) ?_
    refine rn_icmp_eq 43 dX7_does_35 rfl (fun h => absurd h (by decide)) (fun _ => ?_)
    refine r_iload3 dX7_does_38 ?_
    refine rn_iconst (4) dX7_does_39 (by decide) ?_
    refine rn_icmp_ne 94 dX7_does_40 rfl (fun _ => ?_) (fun h => absurd h (by decide))
    refine r_iload3 dX7_does_94 ?_
    refine rn_if_eq 160 dX7_does_95 rfl (fun h => absurd h (by decide)) (fun _ => ?_)
    refine r_iload4 dX7_does_98 ?_
    refine rn_iconst (2) dX7_does_100 (by decide) ?_
    refine rn_idiv dX7_does_101 (by decide) ?_
    refine rn_bipush (10) dX7_does_102 (by decide) ?_
    refine rn_iadd dX7_does_104 ?_
    refine r_istore5 dX7_does_105 rfl ?_
    refine r_iload3 dX7_does_107 ?_
    refine rn_iconst (3) dX7_does_108 (by decide) ?_
    refine rn_icmp_ne 134 dX7_does_109 rfl (fun _ => ?_) (fun h => absurd h (by decide))
    refine r_iload3 dX7_does_134 ?_
    refine rn_iconst (5) dX7_does_135 (by decide) ?_
    refine rn_icmp_ne 160 dX7_does_136 rfl (fun _ => ?_) (fun h => absurd h (by decide))
    refine r_iload5 dX7_does_160 ?_
    refine rn_if_ge 169 dX7_does_162 rfl (fun c162 => ?_) (fun c162 => ?_)
    · refine r_iload5 dX7_does_169 ?_
      refine rn_iret dX7_does_171 rfl (Nat.zero_le _) (Nat.zero_le _) ?_
      refine ⟨_, rfl, rfl, rfl, h17.1, ?_⟩
      rw [show nI 1 = 1 from by decide, does_1]
      unfold nn
      exact (if_neg (Int32.not_lt.mpr c162)).symm
    · refine rn_iconst (0) dX7_does_165 (by decide) ?_
      refine rn_goto 171 dX7_does_166 rfl ?_
      refine rn_iret dX7_does_171 rfl (Nat.zero_le _) (Nat.zero_le _) ?_
      refine ⟨_, rfl, rfl, rfl, h17.1, ?_⟩
      rw [show nI 1 = 1 from by decide, does_1]
      unfold nn
      exact (if_pos (Int32.not_le.mp c162)).symm
  | 2, _ =>
    refine rn_eqi 2 (by decide) ?_
    refine r_istore3 dX7_does_12 rfl ?_
    refine r_aload0 dX7_does_13 ?_
    refine rn_iconst (0) dX7_does_14 (by decide) ?_
    refine r_iload2 dX7_does_15 ?_
    refine r_iload1 dX7_does_16 ?_
    refine cliV3 dX7_does_17 ov_X7_says rfl ml_X7_268 hM.1 rfl (Nat.zero_le _) (Nat.zero_le _) (Nat.zero_le _) (ct_says D hM hR hX hT6 ht htT 0 rfl hy hG hγ) (fun x17 iv lv h17 => ?_)
    have hR1 := hR.off h17.1
    refine rn_iconst (0) dX7_does_20 (by decide) ?_
    refine rn_sipush (999) dX7_does_21 (by decide) ?_
    refine cpiS3 dX7_does_24 os_X7_within rfl ml_X7_272 (Nat.zero_le _) (Nat.zero_le _) (Nat.zero_le _) (ct_mwithin _ _ _ _) ?_
    refine rn_eqi (askS S ρ 0 (nextN ρ γ) (ρ (2 + γ) 3)) (by rw [h17.2, askS_of ht (by omega)]; rfl) ?_
    refine r_istore4 dX7_does_27 rfl ?_
    refine r_iload4 dX7_does_29 ?_
    refine r_istore5 dX7_does_31 rfl ?_
    refine r_iload3 dX7_does_33 ?_
    refine rn_iconst (2) dX7_does_34 (by decide) ?_
    refine rn_icmp_eq 43 dX7_does_35 rfl (fun _ => ?_) (fun h => absurd (by decide) h)
    refine r_aload0 dX7_does_43 ?_
    refine gf_X7_23 dX7_does_44 rfl hM.1 (sm_grounds hM).1 ?_
    refine r_iload2 dX7_does_47 ?_
    refine rn_iald (nextN ρ γ) dX7_does_48 (sm_grounds hM).2 rfl hy (by decide) ?_
    refine rn_eqi _ (hR1.1 _ hy).1 ?_
    refine r_aload0 dX7_does_49 ?_
    refine gf_X7_32 dX7_does_50 rfl hM.1 (sm_numbers hM).1 ?_
    refine r_iload1 dX7_does_53 ?_
    refine rn_iald γ dX7_does_54 (sm_numbers hM).2 hG hγ (by decide) ?_
    refine rn_eqi _ (hR1.gang 2 (by decide) (by decide) hγ) ?_
    refine rn_iconst (4) dX7_does_55 (by decide) ?_
    refine rn_irem dX7_does_56 (by decide) ?_
    refine rn_icmp_ne 73 dX7_does_57 rfl (fun c57 => ?_) (fun c57 => ?_)
    · refine r_iload3 dX7_does_73 ?_
      refine rn_iconst (4) dX7_does_74 (by decide) ?_
      refine rn_icmp_ne 160 dX7_does_75 rfl (fun _ => ?_) (fun h => absurd h (by decide))
      refine r_iload5 dX7_does_160 ?_
      refine rn_if_ge 169 dX7_does_162 rfl (fun c162 => ?_) (fun c162 => ?_)
      · refine r_iload5 dX7_does_169 ?_
        refine rn_iret dX7_does_171 rfl (Nat.zero_le _) (Nat.zero_le _) ?_
        refine ⟨_, rfl, rfl, rfl, h17.1, ?_⟩
        rw [show nI 2 = 2 from by decide, does_2]
        unfold remS
        rw [if_neg (fun q => c57 q.1)]
        unfold nn
        exact (if_neg (Int32.not_lt.mpr c162)).symm
      · refine rn_iconst (0) dX7_does_165 (by decide) ?_
        refine rn_goto 171 dX7_does_166 rfl ?_
        refine rn_iret dX7_does_171 rfl (Nat.zero_le _) (Nat.zero_le _) ?_
        refine ⟨_, rfl, rfl, rfl, h17.1, ?_⟩
        rw [show nI 2 = 2 from by decide, does_2]
        unfold remS
        rw [if_neg (fun q => c57 q.1)]
        unfold nn
        exact (if_pos (Int32.not_le.mp c162)).symm
    · refine r_aload0 dX7_does_60 ?_
      refine gf_X7_265 dX7_does_61 rfl hM.1 ?_
      refine rn_eqi _ (hR1.2.2.1 4 (by decide) (by decide)) ?_
      refine rn_iconst (2) dX7_does_64 (by decide) ?_
      refine rn_irem dX7_does_65 (by decide) ?_
      refine rn_iconst (1) dX7_does_66 (by decide) ?_
      refine rn_icmp_ne 73 dX7_does_67 rfl (fun c67 => ?_) (fun c67 => ?_)
      · refine r_iload3 dX7_does_73 ?_
        refine rn_iconst (4) dX7_does_74 (by decide) ?_
        refine rn_icmp_ne 160 dX7_does_75 rfl (fun _ => ?_) (fun h => absurd h (by decide))
        refine r_iload5 dX7_does_160 ?_
        refine rn_if_ge 169 dX7_does_162 rfl (fun c162 => ?_) (fun c162 => ?_)
        · refine r_iload5 dX7_does_169 ?_
          refine rn_iret dX7_does_171 rfl (Nat.zero_le _) (Nat.zero_le _) ?_
          refine ⟨_, rfl, rfl, rfl, h17.1, ?_⟩
          rw [show nI 2 = 2 from by decide, does_2]
          unfold remS
          rw [if_neg (fun q => c67 q.2)]
          unfold nn
          exact (if_neg (Int32.not_lt.mpr c162)).symm
        · refine rn_iconst (0) dX7_does_165 (by decide) ?_
          refine rn_goto 171 dX7_does_166 rfl ?_
          refine rn_iret dX7_does_171 rfl (Nat.zero_le _) (Nat.zero_le _) ?_
          refine ⟨_, rfl, rfl, rfl, h17.1, ?_⟩
          rw [show nI 2 = 2 from by decide, does_2]
          unfold remS
          rw [if_neg (fun q => c67 q.2)]
          unfold nn
          exact (if_pos (Int32.not_le.mp c162)).symm
      · refine rn_iconst (0) dX7_does_70 (by decide) ?_
        refine r_istore5 dX7_does_71 rfl ?_
        refine r_iload3 dX7_does_73 ?_
        refine rn_iconst (4) dX7_does_74 (by decide) ?_
        refine rn_icmp_ne 160 dX7_does_75 rfl (fun _ => ?_) (fun h => absurd h (by decide))
        refine r_iload5 dX7_does_160 ?_
        refine rn_if_ge 169 dX7_does_162 rfl (fun _ => ?_) (fun h => absurd (by decide) h)
        refine r_iload5 dX7_does_169 ?_
        refine rn_iret dX7_does_171 rfl (Nat.zero_le _) (Nat.zero_le _) ?_
        refine ⟨_, rfl, rfl, rfl, h17.1, ?_⟩
        rw [show nI 2 = 2 from by decide, does_2]
        unfold remS
        rw [if_pos ⟨c57, c67⟩]
        unfold nn
        exact (if_neg (by decide)).symm
  | 3, _ =>
    refine rn_eqi 3 (by decide) ?_
    refine r_istore3 dX7_does_12 rfl ?_
    refine r_aload0 dX7_does_13 ?_
    refine rn_iconst (0) dX7_does_14 (by decide) ?_
    refine r_iload2 dX7_does_15 ?_
    refine r_iload1 dX7_does_16 ?_
    refine cliV3 dX7_does_17 ov_X7_says rfl ml_X7_268 hM.1 rfl (Nat.zero_le _) (Nat.zero_le _) (Nat.zero_le _) (ct_says D hM hR hX hT6 ht htT 0 rfl hy hG hγ) (fun x17 iv lv h17 => ?_)
    have hR1 := hR.off h17.1
    refine rn_iconst (0) dX7_does_20 (by decide) ?_
    refine rn_sipush (999) dX7_does_21 (by decide) ?_
    refine cpiS3 dX7_does_24 os_X7_within rfl ml_X7_272 (Nat.zero_le _) (Nat.zero_le _) (Nat.zero_le _) (ct_mwithin _ _ _ _) ?_
    refine rn_eqi (askS S ρ 0 (nextN ρ γ) (ρ (2 + γ) 3)) (by rw [h17.2, askS_of ht (by omega)]; rfl) ?_
    refine r_istore4 dX7_does_27 rfl ?_
    refine r_iload4 dX7_does_29 ?_
    refine r_istore5 dX7_does_31 rfl ?_
    refine r_iload3 dX7_does_33 ?_
    refine rn_iconst (2) dX7_does_34 (by decide) ?_
    refine rn_icmp_eq 43 dX7_does_35 rfl (fun h => absurd h (by decide)) (fun _ => ?_)
    refine r_iload3 dX7_does_38 ?_
    refine rn_iconst (4) dX7_does_39 (by decide) ?_
    refine rn_icmp_ne 94 dX7_does_40 rfl (fun _ => ?_) (fun h => absurd h (by decide))
    refine r_iload3 dX7_does_94 ?_
    refine rn_if_eq 160 dX7_does_95 rfl (fun h => absurd h (by decide)) (fun _ => ?_)
    refine r_iload4 dX7_does_98 ?_
    refine rn_iconst (2) dX7_does_100 (by decide) ?_
    refine rn_idiv dX7_does_101 (by decide) ?_
    refine rn_bipush (10) dX7_does_102 (by decide) ?_
    refine rn_iadd dX7_does_104 ?_
    refine r_istore5 dX7_does_105 rfl ?_
    refine r_iload3 dX7_does_107 ?_
    refine rn_iconst (3) dX7_does_108 (by decide) ?_
    refine rn_icmp_ne 134 dX7_does_109 rfl (fun h => absurd (by decide) h) (fun _ => ?_)
    refine r_aload0 dX7_does_112 ?_
    refine gf_X7_265 dX7_does_113 rfl hM.1 ?_
    refine rn_eqi _ (hR1.2.2.1 4 (by decide) (by decide)) ?_
    refine r_aload0 dX7_does_116 ?_
    refine gf_X7_32 dX7_does_117 rfl hM.1 (sm_numbers hM).1 ?_
    refine r_iload1 dX7_does_120 ?_
    refine rn_iald γ dX7_does_121 (sm_numbers hM).2 hG hγ (by decide) ?_
    refine rn_eqi _ (hR1.gang 2 (by decide) (by decide) hγ) ?_
    refine rn_iconst (2) dX7_does_122 (by decide) ?_
    refine rn_iadd dX7_does_123 ?_
    refine rn_irem dX7_does_124 (by rw [nm2, show (2 : Int32) = nI 2 by decide, nI_add, show (0 : Int32) = nI 0 by decide, nI_eq (by omega) (by decide)]; omega) ?_
    refine rn_if_ne 134 dX7_does_125 rfl (fun c125 => ?_) (fun c125 => ?_)
    · refine r_iload3 dX7_does_134 ?_
      refine rn_iconst (5) dX7_does_135 (by decide) ?_
      refine rn_icmp_ne 160 dX7_does_136 rfl (fun _ => ?_) (fun h => absurd h (by decide))
      refine r_iload5 dX7_does_160 ?_
      refine rn_if_ge 169 dX7_does_162 rfl (fun c162 => ?_) (fun c162 => ?_)
      · refine r_iload5 dX7_does_169 ?_
        refine rn_iret dX7_does_171 rfl (Nat.zero_le _) (Nat.zero_le _) ?_
        refine ⟨_, rfl, rfl, rfl, h17.1, ?_⟩
        rw [show nI 3 = 3 from by decide, does_3]
        unfold remS
        rw [if_neg c125]
        unfold nn
        exact (if_neg (Int32.not_lt.mpr c162)).symm
      · refine rn_iconst (0) dX7_does_165 (by decide) ?_
        refine rn_goto 171 dX7_does_166 rfl ?_
        refine rn_iret dX7_does_171 rfl (Nat.zero_le _) (Nat.zero_le _) ?_
        refine ⟨_, rfl, rfl, rfl, h17.1, ?_⟩
        rw [show nI 3 = 3 from by decide, does_3]
        unfold remS
        rw [if_neg c125]
        unfold nn
        exact (if_pos (Int32.not_le.mp c162)).symm
    · refine r_iload5 dX7_does_128 ?_
      refine rn_iconst (2) dX7_does_130 (by decide) ?_
      refine rn_imul dX7_does_131 ?_
      refine r_istore5 dX7_does_132 rfl ?_
      refine r_iload3 dX7_does_134 ?_
      refine rn_iconst (5) dX7_does_135 (by decide) ?_
      refine rn_icmp_ne 160 dX7_does_136 rfl (fun _ => ?_) (fun h => absurd h (by decide))
      refine r_iload5 dX7_does_160 ?_
      refine rn_if_ge 169 dX7_does_162 rfl (fun c162 => ?_) (fun c162 => ?_)
      · refine r_iload5 dX7_does_169 ?_
        refine rn_iret dX7_does_171 rfl (Nat.zero_le _) (Nat.zero_le _) ?_
        refine ⟨_, rfl, rfl, rfl, h17.1, ?_⟩
        rw [show nI 3 = 3 from by decide, does_3]
        unfold remS
        rw [if_pos c125]
        unfold nn
        exact (if_neg (Int32.not_lt.mpr c162)).symm
      · refine rn_iconst (0) dX7_does_165 (by decide) ?_
        refine rn_goto 171 dX7_does_166 rfl ?_
        refine rn_iret dX7_does_171 rfl (Nat.zero_le _) (Nat.zero_le _) ?_
        refine ⟨_, rfl, rfl, rfl, h17.1, ?_⟩
        rw [show nI 3 = 3 from by decide, does_3]
        unfold remS
        rw [if_pos c125]
        unfold nn
        exact (if_pos (Int32.not_le.mp c162)).symm
  | 4, _ =>
    refine rn_eqi 4 (by decide) ?_
    refine r_istore3 dX7_does_12 rfl ?_
    refine r_aload0 dX7_does_13 ?_
    refine rn_iconst (0) dX7_does_14 (by decide) ?_
    refine r_iload2 dX7_does_15 ?_
    refine r_iload1 dX7_does_16 ?_
    refine cliV3 dX7_does_17 ov_X7_says rfl ml_X7_268 hM.1 rfl (Nat.zero_le _) (Nat.zero_le _) (Nat.zero_le _) (ct_says D hM hR hX hT6 ht htT 0 rfl hy hG hγ) (fun x17 iv lv h17 => ?_)
    have hR1 := hR.off h17.1
    refine rn_iconst (0) dX7_does_20 (by decide) ?_
    refine rn_sipush (999) dX7_does_21 (by decide) ?_
    refine cpiS3 dX7_does_24 os_X7_within rfl ml_X7_272 (Nat.zero_le _) (Nat.zero_le _) (Nat.zero_le _) (ct_mwithin _ _ _ _) ?_
    refine rn_eqi (askS S ρ 0 (nextN ρ γ) (ρ (2 + γ) 3)) (by rw [h17.2, askS_of ht (by omega)]; rfl) ?_
    refine r_istore4 dX7_does_27 rfl ?_
    refine r_iload4 dX7_does_29 ?_
    refine r_istore5 dX7_does_31 rfl ?_
    refine r_iload3 dX7_does_33 ?_
    refine rn_iconst (2) dX7_does_34 (by decide) ?_
    refine rn_icmp_eq 43 dX7_does_35 rfl (fun h => absurd h (by decide)) (fun _ => ?_)
    refine r_iload3 dX7_does_38 ?_
    refine rn_iconst (4) dX7_does_39 (by decide) ?_
    refine rn_icmp_ne 94 dX7_does_40 rfl (fun h => absurd (by decide) h) (fun _ => ?_)
    refine r_aload0 dX7_does_43 ?_
    refine gf_X7_23 dX7_does_44 rfl hM.1 (sm_grounds hM).1 ?_
    refine r_iload2 dX7_does_47 ?_
    refine rn_iald (nextN ρ γ) dX7_does_48 (sm_grounds hM).2 rfl hy (by decide) ?_
    refine rn_eqi _ (hR1.1 _ hy).1 ?_
    refine r_aload0 dX7_does_49 ?_
    refine gf_X7_32 dX7_does_50 rfl hM.1 (sm_numbers hM).1 ?_
    refine r_iload1 dX7_does_53 ?_
    refine rn_iald γ dX7_does_54 (sm_numbers hM).2 hG hγ (by decide) ?_
    refine rn_eqi _ (hR1.gang 2 (by decide) (by decide) hγ) ?_
    refine rn_iconst (4) dX7_does_55 (by decide) ?_
    refine rn_irem dX7_does_56 (by decide) ?_
    refine rn_icmp_ne 73 dX7_does_57 rfl (fun c57 => ?_) (fun c57 => ?_)
    · refine r_iload3 dX7_does_73 ?_
      refine rn_iconst (4) dX7_does_74 (by decide) ?_
      refine rn_icmp_ne 160 dX7_does_75 rfl (fun h => absurd (by decide) h) (fun _ => ?_)
      refine r_iload5 dX7_does_78 ?_
      refine rn_iconst (3) dX7_does_80 (by decide) ?_
      refine r_aload0 dX7_does_81 ?_
      refine gf_X7_23 dX7_does_82 rfl hM.1 (sm_grounds hM).1 ?_
      refine r_iload2 dX7_does_85 ?_
      refine rn_iald (nextN ρ γ) dX7_does_86 (sm_grounds hM).2 rfl hy (by decide) ?_
      refine rn_eqi _ (hR1.1 _ hy).1 ?_
      refine rn_imul dX7_does_87 ?_
      refine rn_isub dX7_does_88 ?_
      refine r_istore5 dX7_does_89 rfl ?_
      refine rn_goto 160 dX7_does_91 rfl ?_
      refine r_iload5 dX7_does_160 ?_
      refine rn_if_ge 169 dX7_does_162 rfl (fun c162 => ?_) (fun c162 => ?_)
      · refine r_iload5 dX7_does_169 ?_
        refine rn_iret dX7_does_171 rfl (Nat.zero_le _) (Nat.zero_le _) ?_
        refine ⟨_, rfl, rfl, rfl, h17.1, ?_⟩
        rw [show nI 4 = 4 from by decide, does_4]
        unfold remS
        rw [if_neg (fun q => c57 q.1)]
        unfold nn
        exact (if_neg (Int32.not_lt.mpr c162)).symm
      · refine rn_iconst (0) dX7_does_165 (by decide) ?_
        refine rn_goto 171 dX7_does_166 rfl ?_
        refine rn_iret dX7_does_171 rfl (Nat.zero_le _) (Nat.zero_le _) ?_
        refine ⟨_, rfl, rfl, rfl, h17.1, ?_⟩
        rw [show nI 4 = 4 from by decide, does_4]
        unfold remS
        rw [if_neg (fun q => c57 q.1)]
        unfold nn
        exact (if_pos (Int32.not_le.mp c162)).symm
    · refine r_aload0 dX7_does_60 ?_
      refine gf_X7_265 dX7_does_61 rfl hM.1 ?_
      refine rn_eqi _ (hR1.2.2.1 4 (by decide) (by decide)) ?_
      refine rn_iconst (2) dX7_does_64 (by decide) ?_
      refine rn_irem dX7_does_65 (by decide) ?_
      refine rn_iconst (1) dX7_does_66 (by decide) ?_
      refine rn_icmp_ne 73 dX7_does_67 rfl (fun c67 => ?_) (fun c67 => ?_)
      · refine r_iload3 dX7_does_73 ?_
        refine rn_iconst (4) dX7_does_74 (by decide) ?_
        refine rn_icmp_ne 160 dX7_does_75 rfl (fun h => absurd (by decide) h) (fun _ => ?_)
        refine r_iload5 dX7_does_78 ?_
        refine rn_iconst (3) dX7_does_80 (by decide) ?_
        refine r_aload0 dX7_does_81 ?_
        refine gf_X7_23 dX7_does_82 rfl hM.1 (sm_grounds hM).1 ?_
        refine r_iload2 dX7_does_85 ?_
        refine rn_iald (nextN ρ γ) dX7_does_86 (sm_grounds hM).2 rfl hy (by decide) ?_
        refine rn_eqi _ (hR1.1 _ hy).1 ?_
        refine rn_imul dX7_does_87 ?_
        refine rn_isub dX7_does_88 ?_
        refine r_istore5 dX7_does_89 rfl ?_
        refine rn_goto 160 dX7_does_91 rfl ?_
        refine r_iload5 dX7_does_160 ?_
        refine rn_if_ge 169 dX7_does_162 rfl (fun c162 => ?_) (fun c162 => ?_)
        · refine r_iload5 dX7_does_169 ?_
          refine rn_iret dX7_does_171 rfl (Nat.zero_le _) (Nat.zero_le _) ?_
          refine ⟨_, rfl, rfl, rfl, h17.1, ?_⟩
          rw [show nI 4 = 4 from by decide, does_4]
          unfold remS
          rw [if_neg (fun q => c67 q.2)]
          unfold nn
          exact (if_neg (Int32.not_lt.mpr c162)).symm
        · refine rn_iconst (0) dX7_does_165 (by decide) ?_
          refine rn_goto 171 dX7_does_166 rfl ?_
          refine rn_iret dX7_does_171 rfl (Nat.zero_le _) (Nat.zero_le _) ?_
          refine ⟨_, rfl, rfl, rfl, h17.1, ?_⟩
          rw [show nI 4 = 4 from by decide, does_4]
          unfold remS
          rw [if_neg (fun q => c67 q.2)]
          unfold nn
          exact (if_pos (Int32.not_le.mp c162)).symm
      · refine rn_iconst (0) dX7_does_70 (by decide) ?_
        refine r_istore5 dX7_does_71 rfl ?_
        refine r_iload3 dX7_does_73 ?_
        refine rn_iconst (4) dX7_does_74 (by decide) ?_
        refine rn_icmp_ne 160 dX7_does_75 rfl (fun h => absurd (by decide) h) (fun _ => ?_)
        refine r_iload5 dX7_does_78 ?_
        refine rn_iconst (3) dX7_does_80 (by decide) ?_
        refine r_aload0 dX7_does_81 ?_
        refine gf_X7_23 dX7_does_82 rfl hM.1 (sm_grounds hM).1 ?_
        refine r_iload2 dX7_does_85 ?_
        refine rn_iald (nextN ρ γ) dX7_does_86 (sm_grounds hM).2 rfl hy (by decide) ?_
        refine rn_eqi _ (hR1.1 _ hy).1 ?_
        refine rn_imul dX7_does_87 ?_
        refine rn_isub dX7_does_88 ?_
        refine r_istore5 dX7_does_89 rfl ?_
        refine rn_goto 160 dX7_does_91 rfl ?_
        refine r_iload5 dX7_does_160 ?_
        refine rn_if_ge 169 dX7_does_162 rfl (fun c162 => ?_) (fun c162 => ?_)
        · refine r_iload5 dX7_does_169 ?_
          refine rn_iret dX7_does_171 rfl (Nat.zero_le _) (Nat.zero_le _) ?_
          refine ⟨_, rfl, rfl, rfl, h17.1, ?_⟩
          rw [show nI 4 = 4 from by decide, does_4]
          unfold remS
          rw [if_pos ⟨c57, c67⟩]
          unfold nn
          exact (if_neg (Int32.not_lt.mpr c162)).symm
        · refine rn_iconst (0) dX7_does_165 (by decide) ?_
          refine rn_goto 171 dX7_does_166 rfl ?_
          refine rn_iret dX7_does_171 rfl (Nat.zero_le _) (Nat.zero_le _) ?_
          refine ⟨_, rfl, rfl, rfl, h17.1, ?_⟩
          rw [show nI 4 = 4 from by decide, does_4]
          unfold remS
          rw [if_pos ⟨c57, c67⟩]
          unfold nn
          exact (if_pos (Int32.not_le.mp c162)).symm
  | 5, _ =>
    refine rn_eqi 5 (by decide) ?_
    refine r_istore3 dX7_does_12 rfl ?_
    refine r_aload0 dX7_does_13 ?_
    refine rn_iconst (0) dX7_does_14 (by decide) ?_
    refine r_iload2 dX7_does_15 ?_
    refine r_iload1 dX7_does_16 ?_
    refine cliV3 dX7_does_17 ov_X7_says rfl ml_X7_268 hM.1 rfl (Nat.zero_le _) (Nat.zero_le _) (Nat.zero_le _) (ct_says D hM hR hX hT6 ht htT 0 rfl hy hG hγ) (fun x17 iv lv h17 => ?_)
    have hR1 := hR.off h17.1
    refine rn_iconst (0) dX7_does_20 (by decide) ?_
    refine rn_sipush (999) dX7_does_21 (by decide) ?_
    refine cpiS3 dX7_does_24 os_X7_within rfl ml_X7_272 (Nat.zero_le _) (Nat.zero_le _) (Nat.zero_le _) (ct_mwithin _ _ _ _) ?_
    refine rn_eqi (askS S ρ 0 (nextN ρ γ) (ρ (2 + γ) 3)) (by rw [h17.2, askS_of ht (by omega)]; rfl) ?_
    refine r_istore4 dX7_does_27 rfl ?_
    refine r_iload4 dX7_does_29 ?_
    refine r_istore5 dX7_does_31 rfl ?_
    refine r_iload3 dX7_does_33 ?_
    refine rn_iconst (2) dX7_does_34 (by decide) ?_
    refine rn_icmp_eq 43 dX7_does_35 rfl (fun h => absurd h (by decide)) (fun _ => ?_)
    refine r_iload3 dX7_does_38 ?_
    refine rn_iconst (4) dX7_does_39 (by decide) ?_
    refine rn_icmp_ne 94 dX7_does_40 rfl (fun _ => ?_) (fun h => absurd h (by decide))
    refine r_iload3 dX7_does_94 ?_
    refine rn_if_eq 160 dX7_does_95 rfl (fun h => absurd h (by decide)) (fun _ => ?_)
    refine r_iload4 dX7_does_98 ?_
    refine rn_iconst (2) dX7_does_100 (by decide) ?_
    refine rn_idiv dX7_does_101 (by decide) ?_
    refine rn_bipush (10) dX7_does_102 (by decide) ?_
    refine rn_iadd dX7_does_104 ?_
    refine r_istore5 dX7_does_105 rfl ?_
    refine r_iload3 dX7_does_107 ?_
    refine rn_iconst (3) dX7_does_108 (by decide) ?_
    refine rn_icmp_ne 134 dX7_does_109 rfl (fun _ => ?_) (fun h => absurd h (by decide))
    refine r_iload3 dX7_does_134 ?_
    refine rn_iconst (5) dX7_does_135 (by decide) ?_
    refine rn_icmp_ne 160 dX7_does_136 rfl (fun h => absurd (by decide) h) (fun _ => ?_)
    refine r_aload0 dX7_does_139 ?_
    refine gf_X7_23 dX7_does_140 rfl hM.1 (sm_grounds hM).1 ?_
    refine r_iload2 dX7_does_143 ?_
    refine rn_iald (nextN ρ γ) dX7_does_144 (sm_grounds hM).2 rfl hy (by decide) ?_
    refine rn_eqi _ (hR1.1 _ hy).1 ?_
    refine rn_iconst (3) dX7_does_145 (by decide) ?_
    refine rn_icmp_ne 160 dX7_does_146 rfl (fun c146 => ?_) (fun c146 => ?_)
    · refine r_iload5 dX7_does_160 ?_
      refine rn_if_ge 169 dX7_does_162 rfl (fun c162 => ?_) (fun c162 => ?_)
      · refine r_iload5 dX7_does_169 ?_
        refine rn_iret dX7_does_171 rfl (Nat.zero_le _) (Nat.zero_le _) ?_
        refine ⟨_, rfl, rfl, rfl, h17.1, ?_⟩
        rw [show nI 5 = 5 from by decide, does_5]
        rw [if_neg c146]
        unfold nn
        exact (if_neg (Int32.not_lt.mpr c162)).symm
      · refine rn_iconst (0) dX7_does_165 (by decide) ?_
        refine rn_goto 171 dX7_does_166 rfl ?_
        refine rn_iret dX7_does_171 rfl (Nat.zero_le _) (Nat.zero_le _) ?_
        refine ⟨_, rfl, rfl, rfl, h17.1, ?_⟩
        rw [show nI 5 = 5 from by decide, does_5]
        rw [if_neg c146]
        unfold nn
        exact (if_pos (Int32.not_le.mp c162)).symm
    · refine r_iload5 dX7_does_149 ?_
      refine r_aload0 dX7_does_151 ?_
      refine gf_X7_32 dX7_does_152 rfl hM.1 (sm_numbers hM).1 ?_
      refine r_iload1 dX7_does_155 ?_
      refine rn_iald γ dX7_does_156 (sm_numbers hM).2 hG hγ (by decide) ?_
      refine rn_eqi _ (hR1.gang 2 (by decide) (by decide) hγ) ?_
      refine rn_iadd dX7_does_157 ?_
      refine r_istore5 dX7_does_158 rfl ?_
      refine r_iload5 dX7_does_160 ?_
      refine rn_if_ge 169 dX7_does_162 rfl (fun c162 => ?_) (fun c162 => ?_)
      · refine r_iload5 dX7_does_169 ?_
        refine rn_iret dX7_does_171 rfl (Nat.zero_le _) (Nat.zero_le _) ?_
        refine ⟨_, rfl, rfl, rfl, h17.1, ?_⟩
        rw [show nI 5 = 5 from by decide, does_5]
        rw [if_pos c146]
        unfold nn
        exact (if_neg (Int32.not_lt.mpr c162)).symm
      · refine rn_iconst (0) dX7_does_165 (by decide) ?_
        refine rn_goto 171 dX7_does_166 rfl ?_
        refine rn_iret dX7_does_171 rfl (Nat.zero_le _) (Nat.zero_le _) ?_
        refine ⟨_, rfl, rfl, rfl, h17.1, ?_⟩
        rw [show nI 5 = 5 from by decide, does_5]
        rw [if_pos c146]
        unfold nn
        exact (if_pos (Int32.not_le.mp c162)).symm
set_option maxRecDepth 4000 in
theorem ct_mcosts (D : Nat) (hM : ShM Γ rv) {ρ : IV} (hR : RM iv ρ) (hg : GR ρ) {γ : Nat} {G : Int32} (hG : G = nI γ) (hγ : γ < 2) : Ct g l mX7_costs (D) 0 0 [.ref 75, .int G] Γ iv rv lv (qPI (costsS (ρ (2 + γ) 1) (ρ (2 + γ) 2)) Γ iv rv lv) := by
  refine Ct.of (by decide +kernel) (Nat.le_of_ble_eq_true rfl) (Nat.le_of_ble_eq_true rfl) ?_
  refine r_aload0 dX7_costs_0 ?_
  refine gf_X7_29 dX7_costs_1 rfl hM.1 (sm_kinds hM).1 ?_
  refine r_iload1 dX7_costs_4 ?_
  refine rn_iald γ dX7_costs_5 (sm_kinds hM).2 hG hγ (by decide) ?_
  refine rn_eqi _ (hR.gang 1 (by decide) (by decide) hγ) ?_
  obtain ⟨⟨ki, ki1, ki2⟩, -⟩ := hg.2.2.2.1 γ hγ
  rw [ki2]
  match ki, ki1 with
  | 0, _ =>
    refine rn_eqi 0 (by decide) ?_
    refine r_istore2 dX7_costs_6 rfl ?_
    refine r_iload2 dX7_costs_7 ?_
    refine rn_if_eq 16 dX7_costs_8 rfl (fun _ => ?_) (fun h => absurd (by decide) h)
    refine rn_iconst (0) dX7_costs_16 (by decide) ?_
    refine rn_iret dX7_costs_17 rfl (Nat.zero_le _) (Nat.zero_le _) ?_
    refine ⟨congrArg (fun z => some (Value.int z)) ?_, rfl, rfl, rfl, rfl⟩
    rw [show nI 0 = 0 from by decide, costs_0]
  | 1, _ =>
    refine rn_eqi 1 (by decide) ?_
    refine r_istore2 dX7_costs_6 rfl ?_
    refine r_iload2 dX7_costs_7 ?_
    refine rn_if_eq 16 dX7_costs_8 rfl (fun h => absurd h (by decide)) (fun _ => ?_)
    refine r_iload2 dX7_costs_11 ?_
    refine rn_iconst (2) dX7_costs_12 (by decide) ?_
    refine rn_icmp_ne 18 dX7_costs_13 rfl (fun _ => ?_) (fun h => absurd h (by decide))
    refine r_iload2 dX7_costs_18 ?_
    refine rn_iconst (4) dX7_costs_19 (by decide) ?_
    refine rn_icmp_ne 25 dX7_costs_20 rfl (fun _ => ?_) (fun h => absurd h (by decide))
    refine r_iload2 dX7_costs_25 ?_
    refine rn_iconst (1) dX7_costs_26 (by decide) ?_
    refine rn_icmp_ne 39 dX7_costs_27 rfl (fun h => absurd (by decide) h) (fun _ => ?_)
    refine r_aload0 dX7_costs_30 ?_
    refine gf_X7_32 dX7_costs_31 rfl hM.1 (sm_numbers hM).1 ?_
    refine r_iload1 dX7_costs_34 ?_
    refine rn_iald γ dX7_costs_35 (sm_numbers hM).2 hG hγ (by decide) ?_
    refine rn_eqi _ (hR.gang 2 (by decide) (by decide) hγ) ?_
    refine rn_goto 66 dX7_costs_36 rfl ?_
    refine r_istore3 dX7_costs_66 rfl ?_
    refine r_iload3 dX7_costs_67 ?_
    refine rn_if_ge 75 dX7_costs_68 rfl (fun c68 => ?_) (fun c68 => ?_)
    · refine r_iload3 dX7_costs_75 ?_
      refine rn_iret dX7_costs_76 rfl (Nat.zero_le _) (Nat.zero_le _) ?_
      refine ⟨congrArg (fun z => some (Value.int z)) ?_, rfl, rfl, rfl, rfl⟩
      rw [show nI 1 = 1 from by decide, costs_1]
      unfold nn
      exact (if_neg (Int32.not_lt.mpr c68)).symm
    · refine rn_iconst (0) dX7_costs_71 (by decide) ?_
      refine rn_goto 76 dX7_costs_72 rfl ?_
      refine rn_iret dX7_costs_76 rfl (Nat.zero_le _) (Nat.zero_le _) ?_
      refine ⟨congrArg (fun z => some (Value.int z)) ?_, rfl, rfl, rfl, rfl⟩
      rw [show nI 1 = 1 from by decide, costs_1]
      unfold nn
      exact (if_pos (Int32.not_le.mp c68)).symm
  | 2, _ =>
    refine rn_eqi 2 (by decide) ?_
    refine r_istore2 dX7_costs_6 rfl ?_
    refine r_iload2 dX7_costs_7 ?_
    refine rn_if_eq 16 dX7_costs_8 rfl (fun h => absurd h (by decide)) (fun _ => ?_)
    refine r_iload2 dX7_costs_11 ?_
    refine rn_iconst (2) dX7_costs_12 (by decide) ?_
    refine rn_icmp_ne 18 dX7_costs_13 rfl (fun h => absurd (by decide) h) (fun _ => ?_)
    refine rn_iconst (0) dX7_costs_16 (by decide) ?_
    refine rn_iret dX7_costs_17 rfl (Nat.zero_le _) (Nat.zero_le _) ?_
    refine ⟨congrArg (fun z => some (Value.int z)) ?_, rfl, rfl, rfl, rfl⟩
    rw [show nI 2 = 2 from by decide, costs_2]
  | 3, _ =>
    refine rn_eqi 3 (by decide) ?_
    refine r_istore2 dX7_costs_6 rfl ?_
    refine r_iload2 dX7_costs_7 ?_
    refine rn_if_eq 16 dX7_costs_8 rfl (fun h => absurd h (by decide)) (fun _ => ?_)
    refine r_iload2 dX7_costs_11 ?_
    refine rn_iconst (2) dX7_costs_12 (by decide) ?_
    refine rn_icmp_ne 18 dX7_costs_13 rfl (fun _ => ?_) (fun h => absurd h (by decide))
    refine r_iload2 dX7_costs_18 ?_
    refine rn_iconst (4) dX7_costs_19 (by decide) ?_
    refine rn_icmp_ne 25 dX7_costs_20 rfl (fun _ => ?_) (fun h => absurd h (by decide))
    refine r_iload2 dX7_costs_25 ?_
    refine rn_iconst (1) dX7_costs_26 (by decide) ?_
    refine rn_icmp_ne 39 dX7_costs_27 rfl (fun _ => ?_) (fun h => absurd h (by decide))
    refine r_iload2 dX7_costs_39 ?_
    refine rn_iconst (3) dX7_costs_40 (by decide) ?_
    refine rn_icmp_ne 57 dX7_costs_41 rfl (fun h => absurd (by decide) h) (fun _ => ?_)
    refine rn_iconst (2) dX7_costs_44 (by decide) ?_
    refine r_aload0 dX7_costs_45 ?_
    refine gf_X7_32 dX7_costs_46 rfl hM.1 (sm_numbers hM).1 ?_
    refine r_iload1 dX7_costs_49 ?_
    refine rn_iald γ dX7_costs_50 (sm_numbers hM).2 hG hγ (by decide) ?_
    refine rn_eqi _ (hR.gang 2 (by decide) (by decide) hγ) ?_
    refine rn_imul dX7_costs_51 ?_
    refine rn_iconst (5) dX7_costs_52 (by decide) ?_
    refine rn_iadd dX7_costs_53 ?_
    refine rn_goto 66 dX7_costs_54 rfl ?_
    refine r_istore3 dX7_costs_66 rfl ?_
    refine r_iload3 dX7_costs_67 ?_
    refine rn_if_ge 75 dX7_costs_68 rfl (fun c68 => ?_) (fun c68 => ?_)
    · refine r_iload3 dX7_costs_75 ?_
      refine rn_iret dX7_costs_76 rfl (Nat.zero_le _) (Nat.zero_le _) ?_
      refine ⟨congrArg (fun z => some (Value.int z)) ?_, rfl, rfl, rfl, rfl⟩
      rw [show nI 3 = 3 from by decide, costs_3]
      unfold nn
      exact (if_neg (Int32.not_lt.mpr c68)).symm
    · refine rn_iconst (0) dX7_costs_71 (by decide) ?_
      refine rn_goto 76 dX7_costs_72 rfl ?_
      refine rn_iret dX7_costs_76 rfl (Nat.zero_le _) (Nat.zero_le _) ?_
      refine ⟨congrArg (fun z => some (Value.int z)) ?_, rfl, rfl, rfl, rfl⟩
      rw [show nI 3 = 3 from by decide, costs_3]
      unfold nn
      exact (if_pos (Int32.not_le.mp c68)).symm
  | 4, _ =>
    refine rn_eqi 4 (by decide) ?_
    refine r_istore2 dX7_costs_6 rfl ?_
    refine r_iload2 dX7_costs_7 ?_
    refine rn_if_eq 16 dX7_costs_8 rfl (fun h => absurd h (by decide)) (fun _ => ?_)
    refine r_iload2 dX7_costs_11 ?_
    refine rn_iconst (2) dX7_costs_12 (by decide) ?_
    refine rn_icmp_ne 18 dX7_costs_13 rfl (fun _ => ?_) (fun h => absurd h (by decide))
    refine r_iload2 dX7_costs_18 ?_
    refine rn_iconst (4) dX7_costs_19 (by decide) ?_
    refine rn_icmp_ne 25 dX7_costs_20 rfl (fun h => absurd (by decide) h) (fun _ => ?_)
    refine rn_iconst (1) dX7_costs_23 (by decide) ?_
    refine rn_iret dX7_costs_24 rfl (Nat.zero_le _) (Nat.zero_le _) ?_
    refine ⟨congrArg (fun z => some (Value.int z)) ?_, rfl, rfl, rfl, rfl⟩
    rw [show nI 4 = 4 from by decide, costs_4]
  | 5, _ =>
    refine rn_eqi 5 (by decide) ?_
    refine r_istore2 dX7_costs_6 rfl ?_
    refine r_iload2 dX7_costs_7 ?_
    refine rn_if_eq 16 dX7_costs_8 rfl (fun h => absurd h (by decide)) (fun _ => ?_)
    refine r_iload2 dX7_costs_11 ?_
    refine rn_iconst (2) dX7_costs_12 (by decide) ?_
    refine rn_icmp_ne 18 dX7_costs_13 rfl (fun _ => ?_) (fun h => absurd h (by decide))
    refine r_iload2 dX7_costs_18 ?_
    refine rn_iconst (4) dX7_costs_19 (by decide) ?_
    refine rn_icmp_ne 25 dX7_costs_20 rfl (fun _ => ?_) (fun h => absurd h (by decide))
    refine r_iload2 dX7_costs_25 ?_
    refine rn_iconst (1) dX7_costs_26 (by decide) ?_
    refine rn_icmp_ne 39 dX7_costs_27 rfl (fun _ => ?_) (fun h => absurd h (by decide))
    refine r_iload2 dX7_costs_39 ?_
    refine rn_iconst (3) dX7_costs_40 (by decide) ?_
    refine rn_icmp_ne 57 dX7_costs_41 rfl (fun _ => ?_) (fun h => absurd h (by decide))
    refine r_aload0 dX7_costs_57 ?_
    refine gf_X7_32 dX7_costs_58 rfl hM.1 (sm_numbers hM).1 ?_
    refine r_iload1 dX7_costs_61 ?_
    refine rn_iald γ dX7_costs_62 (sm_numbers hM).2 hG hγ (by decide) ?_
    refine rn_eqi _ (hR.gang 2 (by decide) (by decide) hγ) ?_
    refine rn_bipush (10) dX7_costs_63 (by decide) ?_
    refine rn_isub dX7_costs_65 ?_
    refine r_istore3 dX7_costs_66 rfl ?_
    refine r_iload3 dX7_costs_67 ?_
    refine rn_if_ge 75 dX7_costs_68 rfl (fun c68 => ?_) (fun c68 => ?_)
    · refine r_iload3 dX7_costs_75 ?_
      refine rn_iret dX7_costs_76 rfl (Nat.zero_le _) (Nat.zero_le _) ?_
      refine ⟨congrArg (fun z => some (Value.int z)) ?_, rfl, rfl, rfl, rfl⟩
      rw [show nI 5 = 5 from by decide, costs_5]
      unfold nn
      exact (if_neg (Int32.not_lt.mpr c68)).symm
    · refine rn_iconst (0) dX7_costs_71 (by decide) ?_
      refine rn_goto 76 dX7_costs_72 rfl ?_
      refine rn_iret dX7_costs_76 rfl (Nat.zero_le _) (Nat.zero_le _) ?_
      refine ⟨congrArg (fun z => some (Value.int z)) ?_, rfl, rfl, rfl, rfl⟩
      rw [show nI 5 = 5 from by decide, costs_5]
      unfold nn
      exact (if_pos (Int32.not_le.mp c68)).symm
end MROAD
