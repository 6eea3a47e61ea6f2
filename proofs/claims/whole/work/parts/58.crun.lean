/-! THE CLASS: day, run, done, ease -/
theorem g02 {G : Int32} : (0 ≤ G ∧ G < 2) ↔ (0 ≤ G ∧ G ≤ 1) := by
  simp only [Int32.lt_iff_toInt_lt, Int32.le_iff_toInt_le, Int32.reduceToInt]; omega
theorem y024 {y : Int32} : (0 ≤ y ∧ y < 24) ↔ (0 ≤ y ∧ y ≤ 23) := by
  simp only [Int32.lt_iff_toInt_lt, Int32.le_iff_toInt_le, Int32.reduceToInt]; omega
section CRUN
variable {g : GS} {l : Launch} {Γ : Sh} {iv : IV} {rv : RV} {lv : LV}
set_option maxRecDepth 4000 in
theorem ct_crun (D : Nat) {ρ : IV} {S : Nat → Nat → List Int32} {t : Nat} (hC : CQ Γ iv rv ρ S t) (w : Int32) : Ct g l mX6_run (D + 6) 0 0 [.ref 14, .int w] Γ iv rv lv (qRI Γ lv (fun x iv' rv' => x = runQ S ρ w ∧ QX iv rv iv' rv')) := by
  refine Ct.of (by decide +kernel) (Nat.le_of_ble_eq_true rfl) (Nat.le_of_ble_eq_true rfl) ?_
  have hC0 := hC
  refine r_iload1 dX6_run_0 ?_
  refine rn_iconst (0) dX6_run_1 (by decide) ?_
  refine rn_iconst (5) dX6_run_2 (by decide) ?_
  refine cpiS3 dX6_run_3 os_X6_within rfl ml_X6_91 (Nat.zero_le _) (Nat.zero_le _) (Nat.zero_le _) (ct_within _ _ _ _) ?_
  refine rn_if_ne 12 dX6_run_6 rfl (fun c6 => ?_) (fun c6 => ?_)
  · have hw := bI_1.mp (bI_or.resolve_left c6)
    refine r_aload0 dX6_run_12 ?_
    refine gf_X6_84 dX6_run_13 rfl hC.1.1 hC.1.2.2.2.2.1.1 ?_
    refine r_aload0 dX6_run_16 ?_
    refine gf_X6_74 dX6_run_17 rfl hC.1.1 hC.1.2.1.1 ?_
    refine crvV1 dX6_run_20 ov_X3_copyAll rfl ml_X6_197 hC.1.2.2.2.2.1.2.1 rfl (Nat.zero_le _) (Nat.zero_le _) (Nat.zero_le _) (ct_copyAll _ hC.1.tr hC.1.nw (by decide) (by decide) (by decide) hC.2.2.2.2.2.2.2.2 hC.2.1) (fun iv rv h20 => ?_)
    obtain ⟨hC, hQ20, hT, hN⟩ := hC.copied h20.1 h20.2.1 h20.2.2.1 h20.2.2.2
    refine r_aload0 dX6_run_23 ?_
    refine gf_X6_84 dX6_run_24 rfl hC.1.1 hC.1.2.2.2.2.1.1 ?_
    refine rn_iconst (-1) dX6_run_27 (by decide) ?_
    refine rn_iconst (0) dX6_run_28 (by decide) ?_
    refine cciV2 dX6_run_29 ov_X3_runOut rfl ml_X6_201 hC.1.2.2.2.2.1.2.1 rfl (Nat.zero_le _) (Nat.zero_le _) (Nat.zero_le _) (ct_runOut _ hC.1.tr (by decide) hT.1 hT.2.2.2.2 hT.2.2.2.1 hC.2.2.2.2.2.1 hC.2.2.2.2.2.2.1 hT.2.2.1 hT.2.1 _ _) (fun x29 iv h29 => ?_)
    have hT2 : RC iv 57 (endS S ρ).2 := h29.2.2
    have hQ29 := QT.own h29.2.1 h29.2.2 (rv := rv)
    have hC := hC.qt hQ29
    refine rn_eqi (nI (endS S ρ).1) h29.1 ?_
    refine r_istore2 dX6_run_32 rfl ?_
    rcases cw5 hw with rfl | rfl | rfl | rfl | rfl | rfl
    · refine r_iload1 dX6_run_33 ?_
      refine rn_tableIn 68 dX6_run_34 (by decide) (by decide) rfl rfl ?_
      refine r_iload2 dX6_run_68 ?_
      refine rn_iret dX6_run_69 rfl (Nat.zero_le _) (Nat.zero_le _) ?_
      refine ⟨_, rfl, rfl, rfl, ?_, ((hQ20.trans hQ29).x hC0.2.2.2.2.2.2.2.1)⟩
      unfold runQ
      rw [if_pos hw, if_pos rfl]
    · refine r_iload1 dX6_run_33 ?_
      refine rn_tableIn 70 dX6_run_34 (by decide) (by decide) rfl rfl ?_
      refine r_aload0 dX6_run_70 ?_
      refine gf_X6_84 dX6_run_71 rfl hC.1.1 hC.1.2.2.2.2.1.1 ?_
      refine gf_X6_106 dX6_run_74 rfl hC.1.2.2.2.2.1.2.1 hC.1.2.2.2.2.1.2.2.2.2.1.1 ?_
      refine gf_X6_147 dX6_run_77 rfl hC.1.2.2.2.2.1.2.2.2.2.1.2.1 ?_
      refine rn_eqi ((endS S ρ).2 2 4) (hT2.up0 4 (by decide) (by decide)) ?_
      refine rn_iret dX6_run_80 rfl (Nat.zero_le _) (Nat.zero_le _) ?_
      refine ⟨_, rfl, rfl, rfl, ?_, ((hQ20.trans hQ29).x hC0.2.2.2.2.2.2.2.1)⟩
      unfold runQ
      rw [if_pos hw, if_neg (by decide), if_pos rfl]
    · refine r_iload1 dX6_run_33 ?_
      refine rn_tableIn 81 dX6_run_34 (by decide) (by decide) rfl rfl ?_
      refine r_aload0 dX6_run_81 ?_
      refine gf_X6_84 dX6_run_82 rfl hC.1.1 hC.1.2.2.2.2.1.1 ?_
      refine gf_X6_106 dX6_run_85 rfl hC.1.2.2.2.2.1.2.1 hC.1.2.2.2.2.1.2.2.2.2.1.1 ?_
      refine cpiV0 dX6_run_88 ov_X1_gain rfl ml_X6_205 hC.1.2.2.2.2.1.2.2.2.2.1.2.1 rfl (Nat.zero_le _) (Nat.zero_le _) (Nat.zero_le _) (ct_cgain _ hC.1.tr.2.2.2.1.2) ?_
      refine rn_eqi (gainS (endS S ρ).2 0) (by unfold gainS; exact congr (congrArg _ (hT2.up0 6 (by decide) (by decide))) (hT2.up0 7 (by decide) (by decide))) ?_
      refine rn_iret dX6_run_91 rfl (Nat.zero_le _) (Nat.zero_le _) ?_
      refine ⟨_, rfl, rfl, rfl, ?_, ((hQ20.trans hQ29).x hC0.2.2.2.2.2.2.2.1)⟩
      unfold runQ
      rw [if_pos hw, if_neg (by decide), if_neg (by decide), if_pos (by decide)]
      rfl
    · refine r_iload1 dX6_run_33 ?_
      refine rn_tableIn 92 dX6_run_34 (by decide) (by decide) rfl rfl ?_
      refine r_aload0 dX6_run_92 ?_
      refine gf_X6_84 dX6_run_93 rfl hC.1.1 hC.1.2.2.2.2.1.1 ?_
      refine gf_X6_208 dX6_run_96 rfl hC.1.2.2.2.2.1.2.1 hC.1.2.2.2.2.1.2.2.2.2.2.1.1 ?_
      refine cpiV0 dX6_run_99 ov_X1_gain rfl ml_X6_205 hC.1.2.2.2.2.1.2.2.2.2.2.1.2.1 rfl (Nat.zero_le _) (Nat.zero_le _) (Nat.zero_le _) (ct_cgain _ hC.1.tr.2.2.2.2.1.2) ?_
      refine rn_eqi (gainS (endS S ρ).2 1) (by unfold gainS; exact congr (congrArg _ (hT2.up1 6 (by decide) (by decide))) (hT2.up1 7 (by decide) (by decide))) ?_
      refine rn_iret dX6_run_102 rfl (Nat.zero_le _) (Nat.zero_le _) ?_
      refine ⟨_, rfl, rfl, rfl, ?_, ((hQ20.trans hQ29).x hC0.2.2.2.2.2.2.2.1)⟩
      unfold runQ
      rw [if_pos hw, if_neg (by decide), if_neg (by decide), if_pos (by decide)]
      rfl
    · refine r_iload1 dX6_run_33 ?_
      refine rn_tableIn 103 dX6_run_34 (by decide) (by decide) rfl rfl ?_
      refine r_aload0 dX6_run_103 ?_
      refine gf_X6_84 dX6_run_104 rfl hC.1.1 hC.1.2.2.2.2.1.1 ?_
      refine cpiV0 dX6_run_107 ov_X3_paid rfl ml_X6_211 hC.1.2.2.2.2.1.2.1 rfl (Nat.zero_le _) (Nat.zero_le _) (Nat.zero_le _) (ct_paid _ hC.1.tr hT2) ?_
      refine rn_iret dX6_run_110 rfl (Nat.zero_le _) (Nat.zero_le _) ?_
      refine ⟨_, rfl, rfl, rfl, ?_, ((hQ20.trans hQ29).x hC0.2.2.2.2.2.2.2.1)⟩
      unfold runQ
      rw [if_pos hw, if_neg (by decide), if_neg (by decide), if_neg (by decide), if_pos rfl]
    · refine r_iload1 dX6_run_33 ?_
      refine rn_tableOut 111 dX6_run_34 (by decide) rfl ?_
      refine r_aload0 dX6_run_111 ?_
      refine gf_X6_74 dX6_run_112 rfl hC.1.1 hC.1.2.1.1 ?_
      refine cciV0 dX6_run_115 ov_X3_worth rfl ml_X6_214 hC.1.2.1.2.1 rfl (Nat.zero_le _) (Nat.zero_le _) (Nat.zero_le _) (ct_worth (D + 3) hC.1.nw (by decide) hC.2.1 hC.2.2.2.1 hC.2.2.2.2.1 hC.2.2.2.2.2.1 hC.2.2.2.2.2.2.1) (fun x115 iv h115 => ?_)
      refine rn_eqi _ h115.1 ?_
      have hT2 := hT2.off h115.2 (fun a b z => by omega)
      refine r_aload0 dX6_run_118 ?_
      refine gf_X6_84 dX6_run_119 rfl hC.1.1 hC.1.2.2.2.2.1.1 ?_
      refine cpiV0 dX6_run_122 ov_X3_paid rfl ml_X6_211 hC.1.2.2.2.2.1.2.1 rfl (Nat.le_of_ble_eq_true rfl) (Nat.zero_le _) (Nat.zero_le _) (ct_paid _ hC.1.tr hT2) ?_
      refine rn_isub dX6_run_125 ?_
      refine rn_iret dX6_run_126 rfl (Nat.zero_le _) (Nat.zero_le _) ?_
      refine ⟨_, rfl, rfl, rfl, ?_, (((hQ20.trans hQ29).x hC0.2.2.2.2.2.2.2.1)).trans ⟨h115.2.mono (fun a b z => by omega), OffV.refl, hC.2.2.2.2.2.2.2.1.off h115.2 (by omega) (by omega), hC.2.2.2.2.2.2.2.2.off h115.2 (by omega) (by omega)⟩⟩
      unfold runQ
      rw [if_pos hw, if_neg (by decide), if_neg (by decide), if_neg (by decide), if_neg (by decide)]
  · refine rn_ldc (v := _) dX6_run_9 cn_X6_196 ?_
    refine rn_iret dX6_run_11 rfl (Nat.zero_le _) (Nat.zero_le _) ?_
    refine ⟨_, rfl, rfl, rfl, ?_, QX.refl hC.2.2.2.2.2.2.2.1 hC.2.2.2.2.2.2.2.2⟩
    unfold runQ
    rw [if_neg (bI_0.mp c6)]
set_option maxRecDepth 4000 in
theorem cdn_loop {D : Nat} {Q : Qt} {ρ : IV} {S : Nat → Nat → List Int32} {t : Nat} {G nn : Int32} {N : Nat} (hN : nn = nI N) (hN3 : N ≤ 300) {iv0 : IV} {rv0 : RV} : ∀ (n i : Nat) (iv : IV) (x : Int32), i + n = N → x = nI i → CQ Γ iv rv ρ S t → TS iv rv (passN S ρ i) S t → QT iv0 rv0 iv rv → (∀ (iv : IV) (x : Int32), x = nI N → CQ Γ iv rv ρ S t → TS iv rv (passN S ρ N) S t → QT iv0 rv0 iv rv → Rn g l mX6_done (rmA (D + 5) 0 0) Q 0 0 53 [.ref 14, .int G, .int nn, .int x] [] Γ iv rv lv) → Rn g l mX6_done (rmA (D + 5) 0 0) Q 0 0 34 [.ref 14, .int G, .int nn, .int x] [] Γ iv rv lv := by
  intro n
  induction n with
  | zero =>
    intro i iv x hn hx hC hT hQ kk
    obtain rfl : i = N := by omega
    refine r_iload3 dX6_done_34 ?_
    refine r_iload2 dX6_done_35 ?_
    refine rn_icmp_ge 53 dX6_done_36 rfl (fun _ => ?_) (fun h => absurd (by rw [hx, hN]; exact nI_le (Nat.le_refl _) (by omega)) h)
    exact kk _ _ hx hC hT hQ
  | succ n ih =>
    intro i iv x hn hx hC hT hQ kk
    refine r_iload3 dX6_done_34 ?_
    refine r_iload2 dX6_done_35 ?_
    refine rn_icmp_ge 53 dX6_done_36 rfl (fun h => absurd h (fun z => by rw [hx, hN, nI_leI (by omega) (by omega)] at z; omega)) (fun _ => ?_)
    refine r_aload0 dX6_done_39 ?_
    refine gf_X6_84 dX6_done_40 rfl hC.1.1 hC.1.2.2.2.2.1.1 ?_
    refine rn_iconst (-1) dX6_done_43 (by decide) ?_
    refine ccvV1 dX6_done_44 ov_X3_passDay rfl ml_X6_192 hC.1.2.2.2.2.1.2.1 rfl (Nat.zero_le _) (Nat.zero_le _) (Nat.zero_le _) (ct_passDay D hC.1.tr (by decide) hT.1 hT.2.2.2.2 hT.2.2.2.1 hC.2.2.2.2.2.1 hC.2.2.2.2.2.2.1 hT.2.2.1 hT.2.1 _) (fun iv h44 => ?_)
    refine r_iinc3 _ dX6_done_47 rfl rfl ?_
    refine rn_goto 34 dX6_done_50 rfl ?_
    have hq := QT.own h44.1 h44.2.1 (rv := rv)
    exact ih (i + 1) _ _ (by omega) (by rw [hx]; exact nI_1 i) (hC.qt hq) ⟨h44.2.1, h44.2.2, gr_pass hT.2.2.1, rule_pass.trans hT.2.2.2.1, hT.2.2.2.2⟩ (hQ.trans hq) kk
set_option maxRecDepth 4000 in
theorem ct_cdone (D : Nat) {ρ : IV} {S : Nat → Nat → List Int32} {t : Nat} (hC : CQ Γ iv rv ρ S t) (G nn : Int32) : Ct g l mX6_done (D + 5) 0 0 [.ref 14, .int G, .int nn] Γ iv rv lv (qRI Γ lv (fun x iv' rv' => x = doneQ S ρ G nn ∧ QT iv rv iv' rv')) := by
  refine Ct.of (by decide +kernel) (Nat.le_of_ble_eq_true rfl) (Nat.le_of_ble_eq_true rfl) ?_
  have hC0 := hC
  refine r_iload1 dX6_done_0 ?_
  refine cpiS1 dX6_done_1 os_X6_isGang rfl ml_X6_119 (Nat.zero_le _) (Nat.zero_le _) (Nat.zero_le _) (ct_isGang _ _) ?_
  refine rn_if_eq 18 dX6_done_4 rfl (fun c4 => ?_) (fun c4 => ?_)
  · refine rn_bipush (-2) dX6_done_18 (by decide) ?_
    refine rn_iret dX6_done_20 rfl (Nat.zero_le _) (Nat.zero_le _) ?_
    refine ⟨_, rfl, rfl, rfl, ?_, QT.refl hC.2.2.2.2.2.2.2.2⟩
    unfold doneQ
    rw [if_neg (fun z => bI_0.mp c4 (g02.mpr z.1))]
  · refine r_iload2 dX6_done_7 ?_
    refine rn_iconst (0) dX6_done_8 (by decide) ?_
    refine rn_sipush (300) dX6_done_9 (by decide) ?_
    refine cpiS3 dX6_done_12 os_X6_within rfl ml_X6_91 (Nat.zero_le _) (Nat.zero_le _) (Nat.zero_le _) (ct_within _ _ _ _) ?_
    refine rn_if_ne 21 dX6_done_15 rfl (fun c15 => ?_) (fun c15 => ?_)
    · have hq1 := g02.mp (bI_1.mp (bI_or.resolve_left c4))
      have hq2 := bI_1.mp (bI_or.resolve_left c15)
      refine r_aload0 dX6_done_21 ?_
      refine gf_X6_84 dX6_done_22 rfl hC.1.1 hC.1.2.2.2.2.1.1 ?_
      refine r_aload0 dX6_done_25 ?_
      refine gf_X6_74 dX6_done_26 rfl hC.1.1 hC.1.2.1.1 ?_
      refine crvV1 dX6_done_29 ov_X3_copyAll rfl ml_X6_197 hC.1.2.2.2.2.1.2.1 rfl (Nat.zero_le _) (Nat.zero_le _) (Nat.zero_le _) (ct_copyAll _ hC.1.tr hC.1.nw (by decide) (by decide) (by decide) hC.2.2.2.2.2.2.2.2 hC.2.1) (fun iv rv h29 => ?_)
      obtain ⟨hC, hQ29, hT, hN⟩ := hC.copied h29.1 h29.2.1 h29.2.2.1 h29.2.2.2
      refine rn_iconst (0) dX6_done_32 (by decide) ?_
      refine r_istore3 dX6_done_33 rfl ?_
      refine cdn_loop (D := D) (ρ := ρ) (S := S) (t := t) (n300 hq2).1 (n300 hq2).2 _ 0 iv _ (Nat.zero_add _) rfl hC hT hQ29 (fun iv x hx hC hT hQ => ?_)
      refine r_aload0 dX6_done_53 ?_
      refine gf_X6_84 dX6_done_54 rfl hC.1.1 hC.1.2.2.2.2.1.1 ?_
      refine r_iload1 dX6_done_57 ?_
      refine cprV1 dX6_done_58 ov_X3_gangOf rfl ml_X6_122 hC.1.2.2.2.2.1.2.1 rfl (Nat.zero_le _) (Nat.zero_le _) (Nat.zero_le _) (ct_gangOf _ hC.1.tr (g01 hq1).1 (g01 hq1).2) ?_
      refine gf_X6_147 dX6_done_61 rfl (hC.1.tr.gang (g01 hq1).2).1 ?_
      refine rn_eqi (passN S ρ nn.toNatClampNeg (2 + G.toNatClampNeg) 4) (hT.1.gang 4 (by decide) (by decide) (g01 hq1).2) ?_
      refine rn_iret dX6_done_64 rfl (Nat.zero_le _) (Nat.zero_le _) ?_
      refine ⟨_, rfl, rfl, rfl, ?_, hQ⟩
      unfold doneQ
      rw [if_pos ⟨hq1, hq2⟩]
    · refine rn_bipush (-2) dX6_done_18 (by decide) ?_
      refine rn_iret dX6_done_20 rfl (Nat.zero_le _) (Nat.zero_le _) ?_
      refine ⟨_, rfl, rfl, rfl, ?_, QT.refl hC.2.2.2.2.2.2.2.2⟩
      unfold doneQ
      rw [if_neg (fun z => bI_0.mp c15 z.2)]
set_option maxRecDepth 4000 in
theorem ces_loop {D : Nat} {Q : Qt} {ρ : IV} {S : Nat → Nat → List Int32} {t : Nat} {γ : Nat} {G w : Int32} (hG : G = nI γ) (hγ : γ < 2) {iv0 : IV} {rv0 : RV} : ∀ (n i : Nat) (iv : IV) (rv : RV) (x : Int32), i + n = 11 → x = nI i → CQ Γ iv rv ρ S t → (if i = 0 then iv 15 2 = 1 else BsC iv (easeS S ρ γ i)) → QT iv0 rv0 iv rv → (∀ (iv : IV) (rv : RV) (x : Int32), CQ Γ iv rv ρ S t → (if 11 = 0 then iv 15 2 = 1 else BsC iv (easeS S ρ γ 11)) → QT iv0 rv0 iv rv → Rn g l mX6_ease (rmA (D + 6) 0 0) Q 0 0 80 [.ref 14, .int G, .int w, .int x] [] Γ iv rv lv) → Rn g l mX6_ease (rmA (D + 6) 0 0) Q 0 0 28 [.ref 14, .int G, .int w, .int x] [] Γ iv rv lv := by
  intro n
  induction n with
  | zero =>
    intro i iv rv x hn hx hC hB hQ kk
    obtain rfl : i = 11 := by omega
    refine r_iload3 dX6_ease_28 ?_
    refine rn_bipush (10) dX6_ease_29 (by decide) ?_
    refine rn_icmp_gt 80 dX6_ease_31 rfl (fun _ => ?_) (fun h => absurd (by rw [hx]; decide) h)
    exact kk _ _ _ hC hB hQ
  | succ n ih =>
    intro i iv rv x hn hx hC hB hQ kk
    refine r_iload3 dX6_ease_28 ?_
    refine rn_bipush (10) dX6_ease_29 (by decide) ?_
    refine rn_icmp_gt 80 dX6_ease_31 rfl (fun h => absurd h (fun z => by rw [hx, show (10 : Int32) = nI 10 by decide, nI_ltI (by decide) (by omega)] at z; omega)) (fun _ => ?_)
    refine r_aload0 dX6_ease_34 ?_
    refine gf_X6_84 dX6_ease_35 rfl hC.1.1 hC.1.2.2.2.2.1.1 ?_
    refine r_aload0 dX6_ease_38 ?_
    refine gf_X6_74 dX6_ease_39 rfl hC.1.1 hC.1.2.1.1 ?_
    refine crvV1 dX6_ease_42 ov_X3_copyAll rfl ml_X6_197 hC.1.2.2.2.2.1.2.1 rfl (Nat.zero_le _) (Nat.zero_le _) (Nat.zero_le _) (ct_copyAll _ hC.1.tr hC.1.nw (by decide) (by decide) (by decide) hC.2.2.2.2.2.2.2.2 hC.2.1) (fun iv2 rv2 h42 => ?_)
    obtain ⟨hC, hQ42, hT, hN⟩ := hC.copied h42.1 h42.2.1 h42.2.2.1 h42.2.2.2
    refine r_aload0 dX6_ease_45 ?_
    refine gf_X6_84 dX6_ease_46 rfl hC.1.1 hC.1.2.2.2.2.1.1 ?_
    refine r_iload1 dX6_ease_49 ?_
    refine r_iload3 dX6_ease_50 ?_
    refine cciV2 dX6_ease_51 ov_X3_runOut rfl ml_X6_201 hC.1.2.2.2.2.1.2.1 rfl (Nat.zero_le _) (Nat.zero_le _) (Nat.zero_le _) (ct_runOut _ hC.1.tr (by decide) hT.1 hT.2.2.2.2 hT.2.2.2.1 hC.2.2.2.2.2.1 hC.2.2.2.2.2.2.1 hT.2.2.1 hT.2.1 G x) (fun x51 iv h51 => ?_)
    have hE : RC iv 57 (runS S (nI γ) (nI i) 300 0 ρ).2 := by rw [hG, hx] at h51; exact h51.2.2
    have hQ51 := QT.own h51.2.1 h51.2.2 (rv := rv2)
    have hC := hC.qt hQ51
    refine rn_pop dX6_ease_54 rfl ?_
    refine r_aload0 dX6_ease_55 ?_
    refine gf_X6_10 dX6_ease_56 rfl hC.1.1 hC.1.2.2.2.2.2.1.1 ?_
    refine r_iload3 dX6_ease_59 ?_
    refine r_aload0 dX6_ease_60 ?_
    refine gf_X6_84 dX6_ease_61 rfl hC.1.1 hC.1.2.2.2.2.1.1 ?_
    refine r_iload1 dX6_ease_64 ?_
    refine cprV1 dX6_ease_65 ov_X3_gangOf rfl ml_X6_122 hC.1.2.2.2.2.1.2.1 rfl (Nat.le_of_ble_eq_true rfl) (Nat.zero_le _) (Nat.zero_le _) (ct_gangOf _ hC.1.tr hG hγ) ?_
    refine cpiV0 dX6_ease_68 ov_X1_gain rfl ml_X6_205 (hC.1.tr.gang hγ).1 rfl (Nat.le_of_ble_eq_true rfl) (Nat.zero_le _) (Nat.zero_le _) (ct_cgain _ (hC.1.tr.gang hγ)) ?_
    refine rn_eqi (easeG S ρ γ i) (congr (congrArg _ (hE.gang 6 (by decide) (by decide) hγ)) (hE.gang 7 (by decide) (by decide) hγ)) ?_
    refine ccvV2 dX6_ease_71 ov_X0_offer rfl ml_X6_220 hC.1.2.2.2.2.2.1.2 rfl (Nat.zero_le _) (Nat.zero_le _) (Nat.zero_le _) (ct_offer _ hC.1.2.2.2.2.2.1.2 _ _) (fun iv3 h71 => ?_)
    subst h71
    refine r_iinc3 _ dX6_ease_74 rfl rfl ?_
    refine rn_goto 28 dX6_ease_77 rfl ?_
    have hof : Off (fun a _ => a = 15) iv (offer iv x (easeG S ρ γ i)) := off_offer
    have hq2 : QT iv rv2 (offer iv x (easeG S ρ γ i)) rv2 := ⟨hof.mono (fun a b z => by omega), OffT.refl, hC.2.2.2.2.2.2.2.2.off hof (by decide) (by decide)⟩
    refine ih (i + 1) _ _ _ (by omega) (by rw [hx]; exact nI_1 i) (hC.qt hq2) ?_ (((hQ.trans hQ42).trans hQ51).trans hq2) kk
    rw [if_neg (by omega)]
    by_cases h0 : i = 0
    · subst h0
      have hb : iv 15 2 = 1 := (h51.2.1 _ _ (by omega)).trans ((h42.2.1 _ _ (by omega)).trans (by rw [if_pos rfl] at hB; exact hB))
      have ee : easeS S ρ γ (0 + 1) = (nI 0, easeG S ρ γ 0) := by rw [easeS, if_pos (Or.inl rfl)]
      rw [ee, ← hx]
      exact offer_take (fun z => by rw [hb] at z; exact absurd z.1 (by decide))
    · rw [if_neg h0] at hB
      have hB2 : BsC iv (easeS S ρ γ i) := (hB.off h42.2.1 (fun b => by omega)).off h51.2.1 (fun b => by omega)
      by_cases h5 : (easeS S ρ γ i).2 < easeG S ρ γ i
      · have ee : easeS S ρ γ (i + 1) = (nI i, easeG S ρ γ i) := by rw [easeS, if_pos (Or.inr h5)]
        rw [ee, ← hx]
        exact offer_take (fun z => by rw [hB2.2.1] at z; exact absurd h5 (Int32.not_lt.mpr z.2))
      · have ee : easeS S ρ γ (i + 1) = easeS S ρ γ i := by rw [easeS, if_neg (fun z => z.elim h0 h5)]
        rw [ee]
        exact offer_keep hB2 (Int32.not_lt.mp h5)
set_option maxRecDepth 4000 in
theorem ct_cease (D : Nat) {ρ : IV} {S : Nat → Nat → List Int32} {t : Nat} (hC : CQ Γ iv rv ρ S t) (G w : Int32) : Ct g l mX6_ease (D + 6) 0 0 [.ref 14, .int G, .int w] Γ iv rv lv (qRI Γ lv (fun x iv' rv' => x = easeQ S ρ G w ∧ QT iv rv iv' rv')) := by
  refine Ct.of (by decide +kernel) (Nat.le_of_ble_eq_true rfl) (Nat.le_of_ble_eq_true rfl) ?_
  have hC0 := hC
  refine r_iload1 dX6_ease_0 ?_
  refine cpiS1 dX6_ease_1 os_X6_isGang rfl ml_X6_119 (Nat.zero_le _) (Nat.zero_le _) (Nat.zero_le _) (ct_isGang _ _) ?_
  refine rn_if_eq 16 dX6_ease_4 rfl (fun c4 => ?_) (fun c4 => ?_)
  · refine rn_ldc (v := _) dX6_ease_16 cn_X6_196 ?_
    refine rn_iret dX6_ease_18 rfl (Nat.zero_le _) (Nat.zero_le _) ?_
    refine ⟨_, rfl, rfl, rfl, ?_, QT.refl hC.2.2.2.2.2.2.2.2⟩
    unfold easeQ
    rw [if_neg (fun z => bI_0.mp c4 (g02.mpr z.1))]
  · refine r_iload2 dX6_ease_7 ?_
    refine rn_iconst (0) dX6_ease_8 (by decide) ?_
    refine rn_iconst (1) dX6_ease_9 (by decide) ?_
    refine cpiS3 dX6_ease_10 os_X6_within rfl ml_X6_91 (Nat.zero_le _) (Nat.zero_le _) (Nat.zero_le _) (ct_within _ _ _ _) ?_
    refine rn_if_ne 19 dX6_ease_13 rfl (fun c13 => ?_) (fun c13 => ?_)
    · have hq1 := g02.mp (bI_1.mp (bI_or.resolve_left c4))
      have hq2 := bI_1.mp (bI_or.resolve_left c13)
      refine r_aload0 dX6_ease_19 ?_
      refine gf_X6_10 dX6_ease_20 rfl hC.1.1 hC.1.2.2.2.2.2.1.1 ?_
      refine ccvV0 dX6_ease_23 ov_X0_clear rfl ml_X6_217 hC.1.2.2.2.2.2.1.2 rfl (Nat.zero_le _) (Nat.zero_le _) (Nat.zero_le _) (ct_clear _ hC.1.2.2.2.2.2.1.2) (fun iv2 h23 => ?_)
      subst h23
      have hof : Off (fun a _ => a = 15) iv (up iv 15 2 1) := off_up rfl
      have hq : QT iv rv (up iv 15 2 1) rv := ⟨hof.mono (fun a b z => by omega), OffT.refl, hC.2.2.2.2.2.2.2.2.off hof (by decide) (by decide)⟩
      refine rn_iconst (0) dX6_ease_26 (by decide) ?_
      refine r_istore3 dX6_ease_27 rfl ?_
      refine ces_loop (D := D) (ρ := ρ) (S := S) (t := t) (g01 hq1).1 (g01 hq1).2 11 0 _ rv _ (by decide) rfl (hC.qt hq) (by rw [if_pos rfl]; rfl) hq (fun iv rv x hC hB hQ => ?_)
      refine r_iload2 dX6_ease_80 ?_
      refine rn_if_ne 94 dX6_ease_81 rfl (fun c81 => ?_) (fun c81 => ?_)
      · refine r_aload0 dX6_ease_94 ?_
        refine gf_X6_10 dX6_ease_95 rfl hC.1.1 hC.1.2.2.2.2.2.1.1 ?_
        refine gf_X6_227 dX6_ease_98 rfl hC.1.2.2.2.2.2.1.2 ?_
        refine rn_iret dX6_ease_101 rfl (Nat.zero_le _) (Nat.zero_le _) ?_
        refine ⟨_, rfl, rfl, rfl, ?_, hQ⟩
        unfold easeQ
        rw [if_pos ⟨hq1, hq2⟩, if_neg c81]
        rw [if_neg (by decide)] at hB
        exact hB.2.1
      · refine r_aload0 dX6_ease_84 ?_
        refine gf_X6_10 dX6_ease_85 rfl hC.1.1 hC.1.2.2.2.2.2.1.1 ?_
        refine gf_X6_224 dX6_ease_88 rfl hC.1.2.2.2.2.2.1.2 ?_
        refine rn_goto 101 dX6_ease_91 rfl ?_
        refine rn_iret dX6_ease_101 rfl (Nat.zero_le _) (Nat.zero_le _) ?_
        refine ⟨_, rfl, rfl, rfl, ?_, hQ⟩
        unfold easeQ
        rw [if_pos ⟨hq1, hq2⟩, if_pos c81]
        rw [if_neg (by decide)] at hB
        exact hB.1
    · refine rn_ldc (v := _) dX6_ease_16 cn_X6_196 ?_
      refine rn_iret dX6_ease_18 rfl (Nat.zero_le _) (Nat.zero_le _) ?_
      refine ⟨_, rfl, rfl, rfl, ?_, QT.refl hC.2.2.2.2.2.2.2.2⟩
      unfold easeQ
      rw [if_neg (fun z => bI_0.mp c13 z.2)]
end CRUN
