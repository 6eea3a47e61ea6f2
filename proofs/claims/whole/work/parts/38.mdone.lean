/-! THE REFERENCE: done, ease -/
section MDONE
variable {g : GS} {l : Launch} {Γ : Sh} {iv : IV} {rv : RV} {lv : LV}
set_option maxRecDepth 4000 in
theorem dn_loop {D : Nat} {Q : Qt} (hM : ShM Γ rv) {ρ : IV} {S : Nat → Nat → List Int32} {T : Nat} (hT6 : T ≤ 6) {t : Nat} (ht : ρ 4 8 = nI t) (htT : t < T) (hg : GR ρ) {G nn : Int32} {N : Nat} (hN : nn = nI N) (hN3 : N ≤ 300) {iv0 : IV} : ∀ (n i : Nat) (iv : IV) (lv : LV) (x : Int32), i + n = N → x = nI i → Off Pn iv0 iv → RM iv (passN S ρ i) → TextsM iv T S → (∀ (iv : IV) (lv : LV) (x : Int32), x = nI N → Off Pn iv0 iv → RM iv (passN S ρ N) → TextsM iv T S → Rn g l mX7_done (rmA (D + 52) 0 0) Q 0 0 44 [.ref 75, .int G, .int nn, .int x] [] Γ iv rv lv) → Rn g l mX7_done (rmA (D + 52) 0 0) Q 0 0 28 [.ref 75, .int G, .int nn, .int x] [] Γ iv rv lv := by
  intro n
  induction n with
  | zero =>
    intro i iv lv x hn hx ho hR hX kk
    obtain rfl : i = N := by omega
    refine r_iload3 dX7_done_28 ?_
    refine r_iload2 dX7_done_29 ?_
    refine rn_icmp_ge 44 dX7_done_30 rfl (fun _ => ?_) (fun h => absurd (by rw [hx, hN]; exact nI_le (Nat.le_refl _) (by omega)) h)
    exact kk _ _ _ hx ho hR hX
  | succ n ih =>
    intro i iv lv x hn hx ho hR hX kk
    have hil : i < N := by omega
    skip
    refine r_iload3 dX7_done_28 ?_
    refine r_iload2 dX7_done_29 ?_
    refine rn_icmp_ge 44 dX7_done_30 rfl (fun h => absurd h (fun z => by rw [hx, hN, nI_leI (by omega) (by omega)] at z; omega)) (fun _ => ?_)
    refine r_aload0 dX7_done_33 ?_
    refine rn_iconst (-1) dX7_done_34 (by decide) ?_
    refine clvV1 dX7_done_35 ov_X7_passes rfl ml_X7_282 hM.1 rfl (Nat.zero_le _) (Nat.zero_le _) (Nat.zero_le _) (ct_mpasses (D + 1) hM hR hX hT6 (((keep_passN i).2.1 8 (by decide) (by decide)).trans ht) htT (gr_passN hg i) _) (fun iv lv h35 => ?_)
    refine r_iinc3 _ dX7_done_38 rfl rfl ?_
    refine rn_goto 28 dX7_done_41 rfl ?_
    exact ih (i + 1) iv _ _ (by omega) (by rw [hx]; exact nI_1 i) (ho.trans h35.1) h35.2 (hX.pn h35.1) kk
set_option maxRecDepth 4000 in
theorem ct_done (D : Nat) (hM : ShM Γ rv) {ρ : IV} {S : Nat → Nat → List Int32} {T : Nat} (hR : RM iv ρ) (hX : TextsM iv T S) (hT6 : T ≤ 6) {t : Nat} (ht : ρ 4 8 = nI t) (htT : t < T) (hg : GR ρ) (G nn : Int32) : Ct g l mX7_done (D + 52) 0 0 [.ref 75, .int G, .int nn] Γ iv rv lv (qLI Γ rv (fun x iv' _ => Off Scr iv iv' ∧ RM iv' ρ ∧ x = doneQ S ρ G nn)) := by
  refine Ct.of (by decide +kernel) (Nat.le_of_ble_eq_true rfl) (Nat.le_of_ble_eq_true rfl) ?_
  refine r_iload1 dX7_done_0 ?_
  refine cpiS1 dX7_done_1 os_X7_isGang rfl ml_X7_114 (Nat.zero_le _) (Nat.zero_le _) (Nat.zero_le _) (ct_misGang _ _) ?_
  refine rn_if_eq 19 dX7_done_4 rfl (fun c4 => ?_) (fun c4 => ?_)
  · refine rn_bipush (-2) dX7_done_19 (by decide) ?_
    refine rn_iret dX7_done_21 rfl (Nat.zero_le _) (Nat.zero_le _) ?_
    refine ⟨_, rfl, rfl, rfl, Off.refl, hR, ?_⟩
    unfold doneQ
    rw [if_neg (fun z => bI_0.mp c4 z.1)]
  · refine r_iload2 dX7_done_7 ?_
    refine rn_i2l dX7_done_8 ?_
    refine rn_lconst (0) dX7_done_9 (by decide) ?_
    refine rn_ldc2 (v := _) dX7_done_10 cl_X7_311 ?_
    refine cpiS3 dX7_done_13 os_X7_in rfl ml_X7_96 (Nat.zero_le _) (Nat.zero_le _) (Nat.zero_le _) (ct_inI _ (a := 0) (b := 300) (by decide) (by decide)) ?_
    refine rn_if_ne 22 dX7_done_16 rfl (fun c16 => ?_) (fun c16 => ?_)
    · have hq1 := bI_1.mp (bI_or.resolve_left c4)
      have hq2 := bI_1.mp (bI_or.resolve_left c16)
      refine r_aload0 dX7_done_22 ?_
      refine ccvV0 dX7_done_23 ov_X7_laysAside rfl ml_X7_298 hM.1 rfl (Nat.zero_le _) (Nat.zero_le _) (Nat.zero_le _) (ct_laysAside _ hM hR) (fun iv h23 => ?_)
      refine rn_iconst (0) dX7_done_26 (by decide) ?_
      refine r_istore3 dX7_done_27 rfl ?_
      refine dn_loop (iv0 := iv) hM hT6 ht htT hg (n300 hq2).1 (n300 hq2).2 _ 0 iv _ _ (Nat.zero_add _) rfl Off.refl h23.2.1 (hX.scr (as_scr h23.1)) (fun iv lv x hx ho hRn hXn => ?_)
      refine r_aload0 dX7_done_44 ?_
      refine gf_X7_38 dX7_done_45 rfl hM.1 (sm_dones hM).1 ?_
      refine r_iload1 dX7_done_48 ?_
      refine rn_iald G.toNatClampNeg dX7_done_49 (sm_dones hM).2 (g01 hq1).1 (g01 hq1).2 (by decide) ?_
      refine rn_eqi (passN S ρ nn.toNatClampNeg (2 + G.toNatClampNeg) 4) (hRn.gang 4 (by decide) (by decide) (g01 hq1).2) ?_
      refine r_istore3 dX7_done_50 rfl ?_
      refine r_aload0 dX7_done_51 ?_
      refine ccvV0 dX7_done_52 ov_X7_laysBack rfl ml_X7_308 hM.1 rfl (Nat.zero_le _) (Nat.zero_le _) (Nat.zero_le _) (ct_laysBack _ hM hRn (h23.2.2.pn ho) (keep_passN _).kp) (fun iv h52 => ?_)
      refine r_iload3 dX7_done_55 ?_
      refine rn_iret dX7_done_56 rfl (Nat.zero_le _) (Nat.zero_le _) ?_
      refine ⟨_, rfl, rfl, rfl, ((as_scr h23.1).trans (pn_scr ho)).trans (bk_scr h52.1), h52.2, ?_⟩
      unfold doneQ
      rw [if_pos ⟨hq1, hq2⟩]
    · refine rn_bipush (-2) dX7_done_19 (by decide) ?_
      refine rn_iret dX7_done_21 rfl (Nat.zero_le _) (Nat.zero_le _) ?_
      refine ⟨_, rfl, rfl, rfl, Off.refl, hR, ?_⟩
      unfold doneQ
      rw [if_neg (fun z => bI_0.mp c16 z.2)]
set_option maxRecDepth 4000 in
theorem es_loop {D : Nat} {Q : Qt} (hM : ShM Γ rv) {ρ : IV} {S : Nat → Nat → List Int32} {T : Nat} (hT6 : T ≤ 6) {t : Nat} (ht : ρ 4 8 = nI t) (htT : t < T) (hg : GR ρ) {γ : Nat} {G w : Int32} (hG : G = nI γ) (hγ : γ < 2) {iv0 : IV} : ∀ (n i : Nat) (iv : IV) (lv : LV) (s3 s4 : Int32) (v6 : Value) (x : Int32), i + n = 11 → x = nI i → s3 = (easeS S ρ γ i).1 → s4 = (easeS S ρ γ i).2 → v6.category = 1 → Off Scr iv0 iv → RM iv ρ → AsM iv ρ → TextsM iv T S → (∀ (iv : IV) (lv : LV) (s3 s4 : Int32) (v6 : Value) (x : Int32), x = nI 11 → s3 = (easeS S ρ γ 11).1 → s4 = (easeS S ρ γ 11).2 → v6.category = 1 → Off Scr iv0 iv → RM iv ρ → AsM iv ρ → TextsM iv T S → Rn g l mX7_ease (rmA (D + 52) 0 0) Q 0 0 83 [.ref 75, .int G, .int w, .int s3, .int s4, .int x, v6] [] Γ iv rv lv) → Rn g l mX7_ease (rmA (D + 52) 0 0) Q 0 0 33 [.ref 75, .int G, .int w, .int s3, .int s4, .int x, v6] [] Γ iv rv lv := by
  intro n
  induction n with
  | zero =>
    intro i iv lv s3 s4 v6 x hn hx h3 h4 h6 ho hR hA hX kk
    obtain rfl : i = 11 := by omega
    refine r_iload5 dX7_ease_33 ?_
    refine rn_bipush (10) dX7_ease_35 (by decide) ?_
    refine rn_icmp_gt 83 dX7_ease_37 rfl (fun _ => ?_) (fun h => absurd (by rw [hx]; decide) h)
    exact kk _ _ _ _ _ _ hx h3 h4 h6 ho hR hA hX
  | succ n ih =>
    intro i iv lv s3 s4 v6 x hn hx h3 h4 h6 ho hR hA hX kk
    have hil : i < 11 := by omega
    skip
    refine r_iload5 dX7_ease_33 ?_
    refine rn_bipush (10) dX7_ease_35 (by decide) ?_
    refine rn_icmp_gt 83 dX7_ease_37 rfl (fun h => absurd h (fun z => by rw [hx, show (10 : Int32) = nI 10 by decide, nI_ltI (by decide) (by omega)] at z; omega)) (fun _ => ?_)
    refine r_aload0 dX7_ease_40 ?_
    refine r_iload1 dX7_ease_41 ?_
    refine r_iload5 dX7_ease_42 ?_
    refine clvV2 dX7_ease_44 ov_X7_runs rfl ml_X7_301 hM.1 rfl (Nat.zero_le _) (Nat.zero_le _) (Nat.zero_le _) (ct_mruns D hM hR hX hT6 ht htT hg _ _) (fun iv lv h44 => ?_)
    refine r_aload0 dX7_ease_47 ?_
    refine r_iload1 dX7_ease_48 ?_
    refine cpiV1 dX7_ease_49 ov_X7_gain rfl ml_X7_305 hM.1 rfl (Nat.zero_le _) (Nat.zero_le _) (Nat.zero_le _) (ct_mgain _ hM h44.2.1 hG hγ) ?_
    refine rn_eqi (easeG S ρ γ i) (by rw [hG, hx]; rfl) ?_
    refine r_istore6 dX7_ease_52 rfl ?_
    refine r_aload0 dX7_ease_54 ?_
    refine ccvV0 dX7_ease_55 ov_X7_laysBack rfl ml_X7_308 hM.1 rfl (Nat.zero_le _) (Nat.zero_le _) (Nat.zero_le _) (ct_laysBack _ hM h44.2.1 (hA.ru h44.1) (keep_run _ _ _).kp) (fun iv h55 => ?_)
    refine r_iload5 dX7_ease_58 ?_
    refine rn_if_eq 70 dX7_ease_60 rfl (fun c60 => ?_) (fun c60 => ?_)
    · refine r_iload5 dX7_ease_70 ?_
      refine r_istore3 dX7_ease_72 rfl ?_
      refine r_iload6 dX7_ease_73 ?_
      refine r_istore4 dX7_ease_75 rfl ?_
      refine r_iinc5 _ dX7_ease_77 rfl rfl ?_
      refine rn_goto 33 dX7_ease_80 rfl ?_
      have ee : easeS S ρ γ (i + 1) = (nI i, easeG S ρ γ i) := by rw [easeS, if_pos (Or.inl (by rw [hx, show (0 : Int32) = nI 0 by decide, nI_eq (by omega) (by decide)] at c60; exact c60))]
      exact ih (i + 1) iv _ _ _ _ _ (by omega) (by rw [hx]; exact nI_1 i) (by rw [ee]; exact hx) (by rw [ee]) rfl ((ho.trans (ru_scr h44.1)).trans (bk_scr h55.1)) h55.2 ((hA.ru h44.1).bk h55.1) ((hX.ru h44.1).scr (bk_scr h55.1)) kk
    · refine r_iload6 dX7_ease_63 ?_
      refine r_iload4 dX7_ease_65 ?_
      refine rn_icmp_le 77 dX7_ease_67 rfl (fun c67 => ?_) (fun c67 => ?_)
      · refine r_iinc5 _ dX7_ease_77 rfl rfl ?_
        refine rn_goto 33 dX7_ease_80 rfl ?_
        have ee : easeS S ρ γ (i + 1) = easeS S ρ γ i := by rw [easeS, if_neg (fun z => z.elim (fun q => c60 (by rw [hx, q]; decide)) (Int32.not_lt.mpr (by rw [← h4]; exact c67)))]
        exact ih (i + 1) iv _ _ _ _ _ (by omega) (by rw [hx]; exact nI_1 i) (by rw [ee]; exact h3) (by rw [ee]; exact h4) rfl ((ho.trans (ru_scr h44.1)).trans (bk_scr h55.1)) h55.2 ((hA.ru h44.1).bk h55.1) ((hX.ru h44.1).scr (bk_scr h55.1)) kk
      · refine r_iload5 dX7_ease_70 ?_
        refine r_istore3 dX7_ease_72 rfl ?_
        refine r_iload6 dX7_ease_73 ?_
        refine r_istore4 dX7_ease_75 rfl ?_
        refine r_iinc5 _ dX7_ease_77 rfl rfl ?_
        refine rn_goto 33 dX7_ease_80 rfl ?_
        have ee : easeS S ρ γ (i + 1) = (nI i, easeG S ρ γ i) := by rw [easeS, if_pos (Or.inr (by rw [← h4]; exact Int32.not_le.mp c67))]
        exact ih (i + 1) iv _ _ _ _ _ (by omega) (by rw [hx]; exact nI_1 i) (by rw [ee]; exact hx) (by rw [ee]) rfl ((ho.trans (ru_scr h44.1)).trans (bk_scr h55.1)) h55.2 ((hA.ru h44.1).bk h55.1) ((hX.ru h44.1).scr (bk_scr h55.1)) kk
set_option maxRecDepth 4000 in
theorem ct_ease (D : Nat) (hM : ShM Γ rv) {ρ : IV} {S : Nat → Nat → List Int32} {T : Nat} (hR : RM iv ρ) (hX : TextsM iv T S) (hT6 : T ≤ 6) {t : Nat} (ht : ρ 4 8 = nI t) (htT : t < T) (hg : GR ρ) (G w : Int32) : Ct g l mX7_ease (D + 52) 0 0 [.ref 75, .int G, .int w] Γ iv rv lv (qLI Γ rv (fun x iv' _ => Off Scr iv iv' ∧ RM iv' ρ ∧ x = easeQ S ρ G w)) := by
  refine Ct.of (by decide +kernel) (Nat.le_of_ble_eq_true rfl) (Nat.le_of_ble_eq_true rfl) ?_
  refine r_iload1 dX7_ease_0 ?_
  refine cpiS1 dX7_ease_1 os_X7_isGang rfl ml_X7_114 (Nat.zero_le _) (Nat.zero_le _) (Nat.zero_le _) (ct_misGang _ _) ?_
  refine rn_if_eq 17 dX7_ease_4 rfl (fun c4 => ?_) (fun c4 => ?_)
  · refine rn_ldcw (v := _) dX7_ease_17 cn_X7_294 ?_
    refine rn_iret dX7_ease_20 rfl (Nat.zero_le _) (Nat.zero_le _) ?_
    refine ⟨_, rfl, rfl, rfl, Off.refl, hR, ?_⟩
    unfold easeQ
    rw [if_neg (fun z => bI_0.mp c4 z.1)]
  · refine r_iload2 dX7_ease_7 ?_
    refine rn_i2l dX7_ease_8 ?_
    refine rn_lconst (0) dX7_ease_9 (by decide) ?_
    refine rn_lconst (1) dX7_ease_10 (by decide) ?_
    refine cpiS3 dX7_ease_11 os_X7_in rfl ml_X7_96 (Nat.zero_le _) (Nat.zero_le _) (Nat.zero_le _) (ct_inI _ (a := 0) (b := 1) (by decide) (by decide)) ?_
    refine rn_if_ne 21 dX7_ease_14 rfl (fun c14 => ?_) (fun c14 => ?_)
    · have hq1 := bI_1.mp (bI_or.resolve_left c4)
      have hq2 := bI_1.mp (bI_or.resolve_left c14)
      refine r_aload0 dX7_ease_21 ?_
      refine ccvV0 dX7_ease_22 ov_X7_laysAside rfl ml_X7_298 hM.1 rfl (Nat.zero_le _) (Nat.zero_le _) (Nat.zero_le _) (ct_laysAside _ hM hR) (fun iv h22 => ?_)
      refine rn_iconst (0) dX7_ease_25 (by decide) ?_
      refine r_istore3 dX7_ease_26 rfl ?_
      refine rn_iconst (0) dX7_ease_27 (by decide) ?_
      refine r_istore4 dX7_ease_28 rfl ?_
      refine rn_iconst (0) dX7_ease_30 (by decide) ?_
      refine r_istore5 dX7_ease_31 rfl ?_
      refine es_loop (iv0 := iv) hM hT6 ht htT hg (g01 hq1).1 (g01 hq1).2 11 0 iv _ _ _ _ _ (by decide) rfl rfl rfl rfl Off.refl h22.2.1 h22.2.2 (hX.scr (as_scr h22.1)) (fun iv lv s3 s4 v6 x hx h3 h4 h6 ho hRn hA hXn => ?_)
      refine r_iload2 dX7_ease_83 ?_
      refine rn_if_ne 91 dX7_ease_84 rfl (fun c84 => ?_) (fun c84 => ?_)
      · refine r_iload4 dX7_ease_91 ?_
        refine rn_iret dX7_ease_93 rfl (Nat.zero_le _) (Nat.zero_le _) ?_
        refine ⟨_, rfl, rfl, rfl, (as_scr h22.1).trans ho, hRn, ?_⟩
        unfold easeQ
        rw [if_pos ⟨hq1, hq2⟩, if_neg c84]
        exact h4
      · refine r_iload3 dX7_ease_87 ?_
        refine rn_goto 93 dX7_ease_88 rfl ?_
        refine rn_iret dX7_ease_93 rfl (Nat.zero_le _) (Nat.zero_le _) ?_
        refine ⟨_, rfl, rfl, rfl, (as_scr h22.1).trans ho, hRn, ?_⟩
        unfold easeQ
        rw [if_pos ⟨hq1, hq2⟩, if_pos c84]
        exact h3
    · refine rn_ldcw (v := _) dX7_ease_17 cn_X7_294 ?_
      refine rn_iret dX7_ease_20 rfl (Nat.zero_le _) (Nat.zero_le _) ?_
      refine ⟨_, rfl, rfl, rfl, Off.refl, hR, ?_⟩
      unfold easeQ
      rw [if_neg (fun z => bI_0.mp c14 z.2)]
end MDONE
