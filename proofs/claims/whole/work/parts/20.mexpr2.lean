/-! THE REFERENCE: expressions, the levels -/
theorem at_lt {n : Nat} {t : Tk} (h : TkOK n t) (h13 : t.1 ≠ 13) : t.2.1 < n := by
  have := h.2.2.2.1 h13
  have := h.2.1
  omega
theorem opAt_z {lev : Nat} {t : Tk} (h : t.1 = 13) : opAt lev t.1 = 0 := by
  rw [h]; unfold opAt; simp
theorem opAt3 {c : Nat} (h1 : ¬ c = 18) (h2 : ¬ c = 19) : opAt 3 c = 0 := by
  unfold opAt; simp [h1, h2]
theorem opAt2 {c : Nat} (h1 : ¬ c = 21) (h2 : ¬ c = 22) : opAt 2 c = 0 := by
  unfold opAt; simp [h1, h2]
theorem opAt1 {c : Nat} (h1 : ¬ c = 10) : opAt 1 c = 0 := by
  unfold opAt; simp [h1]
theorem opAt0 {c : Nat} (h1 : ¬ c = 9) : opAt 0 c = 0 := by
  unfold opAt; simp [h1]
section MEXPR2
variable {g : GS} {l : Launch} {Γ : Sh} {rv : RV} {b : Nat → Int32} {n f0 : Nat} {e : Nat → Int32}
theorem LB4 (hM : ShM Γ rv) {D op z : Nat} {iv0 iv : IV} {lv : LV} {v : Int32} (hoff : Off Ps iv0 iv) (h33 : iv 75 33 = 1) (h34 : iv 75 34 = nI z) : Rn g l mX7_term (rmA (D + 4) 0 0) (qLI Γ rv (fun x iv' lv' => Off Ps iv0 iv' ∧ PoM b n e op (.inl z) x iv' lv')) 0 0 5 [.ref 75, .int v] [] Γ iv rv lv := by
  refine r_aload0 dX7_term_5 ?_
  refine rn_bipush (42) dX7_term_6 (by decide) ?_
  refine cpiV1 dX7_term_8 ov_X7_isSign rfl ml_X7_223 hM.1 rfl (Nat.zero_le _) (Nat.zero_le _) (Nat.zero_le _) (ct_isSbad _ hM h33 _) ?_
  refine rn_if_eq 28 dX7_term_11 rfl (fun _ => ?_) (fun h => absurd rfl h)
  refine r_iload1 dX7_term_28 ?_
  refine rn_iret dX7_term_29 rfl (Nat.zero_le _) (Nat.zero_le _) ?_
  exact ⟨_, rfl, rfl, rfl, hoff, h33, h34⟩
theorem LM4 (hM : ShM Γ rv) {F : Nat} (hA : ∀ f', f' ≤ F → AM g l Γ rv b n f0 e mX7_atom 5 f') : ∀ f, f ≤ F + 1 → ∀ (op D cnt : Nat) (s : List Int32) (t : Tk) (iv0 iv : IV) (lv : LV) (r : Nat ⊕ (List Int32 × Tk)) (v : Int32), DM 4 op ≤ D + 4 → op ≤ 5 → TxM iv b n f0 → TokM iv lv b n t → TkV t → iv 75 33 = 0 → iv 75 32 = nI op → (∀ j, j < 6 → iv 75 (20 + j) = e j) → Off Ps iv0 iv → 160 ≤ cnt + t.2.1 → v = vl e s → OneC e (Kf 4 op) s v → pz b n f 1 4 op cnt s t = some r → 
    Rn g l mX7_term (rmA (D + 4) 0 0) (qLI Γ rv (fun x iv' lv' => Off Ps iv0 iv' ∧ PoM b n e op r x iv' lv')) 0 0 5 [.ref 75, .int v] [] Γ iv rv lv := by
  intro f
  induction f with
  | zero => intro _ op D cnt s t iv0 iv lv r v _ _ _ _ _ _ _ _ _ _ _ _ hr; cases hr
  | succ f ih =>
    intro hF op D cnt s t iv0 iv lv r v hD ho hT ht hv h33 h32 he hoff hcnt hvv hone hr 
    have hn160 : n ≤ 160 := hT.2.2.2.2.1
    refine r_aload0 dX7_term_5 ?_
    refine rn_bipush (42) dX7_term_6 (by decide) ?_
    refine cpiV1 dX7_term_8 ov_X7_isSign rfl ml_X7_223 hM.1 rfl (Nat.zero_le _) (Nat.zero_le _) (Nat.zero_le _) (ct_isS _ hM ht 42 20 (by decide) (by decide)) ?_
    refine rn_if_eq 28 dX7_term_11 rfl (fun c11 => ?_) (fun c11 => ?_)
    · rw [bI_0] at c11
      rw [pz1_end (fun z => z.2 (by unfold opAt; simp; intro z; exact c11 ⟨h33, z⟩))] at hr
      refine r_iload1 dX7_term_28 ?_
      refine rn_iret dX7_term_29 rfl (Nat.zero_le _) (Nat.zero_le _) ?_
      cases hr
      exact ⟨_, rfl, rfl, rfl, hoff, h33, h32, ht, hv, hvv⟩
    · have t20 := (bI_1.mp (bI_or.resolve_left c11)).2
      have h13 : t.1 ≠ 13 := by omega
      have hlt := at_lt ht.1 h13
      rw [pz1_go ⟨by omega, by rw [t20]; decide⟩] at hr
      obtain ⟨r1, hr1, hr⟩ := pb_some hr
      refine r_aload0 dX7_term_14 ?_
      refine clvV0 dX7_term_15 ov_X7_next rfl ml_X7_198 hM.1 rfl (Nat.zero_le _) (Nat.zero_le _) (Nat.zero_le _) (ct_next _ hM hT t.2.2.2 (tok_here2 ht (by omega)) ht.1.2.1) (fun iv lv h15 => ?_)
      refine r_iload1 dX7_term_18 ?_
      refine r_aload0 dX7_term_19 ?_
      refine cliV0 dX7_term_20 ov_X7_atom rfl ml_X7_230 hM.1 rfl (Nat.le_of_ble_eq_true rfl) (Nat.zero_le _) (Nat.zero_le _) (hA f (by omega) op (D + 3) _ _ _ r1 (by unfold DM at *; omega) ho (hT.ps (lx_ps h15.1)) h15.2 (lexS_v ht.1.2.1) ((h15.1 75 33 (by decide)).trans h33) ((h15.1 75 32 (by decide)).trans h32) (env_off (lx_ps h15.1) he) hr1) (fun x20 iv lv h20 => ?_)
      rcases r1 with z | q
      · dsimp only at hr
        subst hr
        refine rn_imul dX7_term_23 ?_
        refine r_istore1 dX7_term_24 rfl ?_
        refine rn_goto 5 dX7_term_25 rfl ?_
        exact LB4 hM ((hoff.trans (lx_ps h15.1)).trans h20.1) h20.2.1 h20.2.2
      · dsimp only at hr
        refine rn_imul dX7_term_23 ?_
        refine r_istore1 dX7_term_24 rfl ?_
        refine rn_goto 5 dX7_term_25 rfl ?_
        have hst := tk_step (b := b) ht.1 h13
        have hg := (pz_good (b := b) (n := n) e f).1 5 op 0 [] _ _ (by omega) ho hst.1 hst.2.1 hr1
        have hb := hone.bin hg.2.2.2 (x := -14) (by unfold isBin; decide) (L := Kf 4 op) (Nat.le_refl _) (by unfold Kf; omega)
        have hvb := one_vl hb (by unfold Kf; omega)
        obtain ⟨w1, w2, w3, w4, w5⟩ := h20.2
        refine ih (by omega) op D (cnt - 1) (s ++ q.1 ++ [-14]) q.2 iv0 _ _ r _ hD ho ((hT.ps (lx_ps h15.1)).ps h20.1) w3 w4 w1 w2 (env_off ((lx_ps h15.1).trans h20.1) he) ((hoff.trans (lx_ps h15.1)).trans h20.1) (by have := hg.2.2.1; have := hst.2.2; omega) ?_ ?_ (by rw [show opAt 4 t.1 = -14 by rw [t20]; rfl] at hr; exact hr)
        · rw [hvb, show v * x20 = binS (-14) v (vl e q.1) by rw [w5]; rfl]
        · rw [show v * x20 = binS (-14) v (vl e q.1) by rw [w5]; rfl]; exact hb
theorem AM4_step (hM : ShM Γ rv) {F : Nat} (hA : ∀ f', f' ≤ F → AM g l Γ rv b n f0 e mX7_atom 5 f') : AM g l Γ rv b n f0 e mX7_term 4 (F + 1) := by
  intro op D t iv0 lv r hD ho hT ht hv h33 h32 he hr
  obtain ⟨D, rfl⟩ : ∃ D', D = D' + 4 := ⟨D - 4, by unfold DM at hD; omega⟩
  rw [pzl (by decide) (by omega)] at hr
  obtain ⟨r1, hr1, hr⟩ := pb_some hr
  refine Ct.of (by decide +kernel) (Nat.le_of_ble_eq_true rfl) (Nat.le_of_ble_eq_true rfl) ?_
  refine r_aload0 dX7_term_0 ?_
  refine cliV0 dX7_term_1 ov_X7_atom rfl ml_X7_230 hM.1 rfl (Nat.zero_le _) (Nat.zero_le _) (Nat.zero_le _) (hA F (Nat.le_refl _) op (D + 3) _ _ _ r1 (by unfold DM at *; omega) ho hT ht hv h33 h32 he hr1) (fun x1 iv lv h1 => ?_)
  refine r_istore1 dX7_term_4 rfl ?_
  rcases r1 with z | q
  · dsimp only at hr
    subst hr
    exact LB4 hM h1.1 h1.2.1 h1.2.2
  · dsimp only at hr
    have hg := (pz_good (b := b) (n := n) e F).1 5 op 0 [] _ _ (by omega) ho ht.1 hv hr1
    obtain ⟨w1, w2, w3, w4, w5⟩ := h1.2
    exact LM4 hM hA F (by omega) op D _ q.1 q.2 iv0 iv lv r x1 hD ho (hT.ps h1.1) w3 w4 w1 w2 (env_off h1.1 he) h1.1 (by rw [if_neg (by decide)]; omega) w5 (by rw [w5]; exact hg.2.2.2.mono (by unfold Kf; omega)) hr
theorem LB3 (hM : ShM Γ rv) {D op z : Nat} {iv0 iv : IV} {lv : LV} {v : Int32} {y2 y3 : Value} (hoff : Off Ps iv0 iv) (h33 : iv 75 33 = 1) (h34 : iv 75 34 = nI z) : Rn g l mX7_added (rmA (D + 4) 0 0) (qLI Γ rv (fun x iv' lv' => Off Ps iv0 iv' ∧ PoM b n e op (.inl z) x iv' lv')) 0 0 5 [.ref 75, .int v, y2, y3] [] Γ iv rv lv := by
  refine r_aload0 dX7_added_5 ?_
  refine rn_bipush (43) dX7_added_6 (by decide) ?_
  refine cpiV1 dX7_added_8 ov_X7_isSign rfl ml_X7_223 hM.1 rfl (Nat.zero_le _) (Nat.zero_le _) (Nat.zero_le _) (ct_isSbad _ hM h33 _) ?_
  refine rn_if_ne 23 dX7_added_11 rfl (fun h => absurd rfl h) (fun _ => ?_)
  refine r_aload0 dX7_added_14 ?_
  refine rn_bipush (45) dX7_added_15 (by decide) ?_
  refine cpiV1 dX7_added_17 ov_X7_isSign rfl ml_X7_223 hM.1 rfl (Nat.zero_le _) (Nat.zero_le _) (Nat.zero_le _) (ct_isSbad _ hM h33 _) ?_
  refine rn_if_eq 66 dX7_added_20 rfl (fun _ => ?_) (fun h => absurd rfl h)
  refine r_iload1 dX7_added_66 ?_
  refine rn_iret dX7_added_67 rfl (Nat.zero_le _) (Nat.zero_le _) ?_
  exact ⟨_, rfl, rfl, rfl, hoff, h33, h34⟩
theorem LM3 (hM : ShM Γ rv) {F : Nat} (hA : ∀ f', f' ≤ F → AM g l Γ rv b n f0 e mX7_term 4 f') : ∀ f, f ≤ F + 1 → ∀ (op D cnt : Nat) (s : List Int32) (t : Tk) (iv0 iv : IV) (lv : LV) (r : Nat ⊕ (List Int32 × Tk)) (v : Int32), DM 3 op ≤ D + 4 → op ≤ 5 → TxM iv b n f0 → TokM iv lv b n t → TkV t → iv 75 33 = 0 → iv 75 32 = nI op → (∀ j, j < 6 → iv 75 (20 + j) = e j) → Off Ps iv0 iv → 160 ≤ cnt + t.2.1 → v = vl e s → OneC e (Kf 3 op) s v → pz b n f 1 3 op cnt s t = some r → ∀ {y2 y3 : Value}, 
    Rn g l mX7_added (rmA (D + 4) 0 0) (qLI Γ rv (fun x iv' lv' => Off Ps iv0 iv' ∧ PoM b n e op r x iv' lv')) 0 0 5 [.ref 75, .int v, y2, y3] [] Γ iv rv lv := by
  intro f
  induction f with
  | zero => intro _ op D cnt s t iv0 iv lv r v _ _ _ _ _ _ _ _ _ _ _ _ hr; cases hr
  | succ f ih =>
    intro hF op D cnt s t iv0 iv lv r v hD ho hT ht hv h33 h32 he hoff hcnt hvv hone hr y2 y3
    have hn160 : n ≤ 160 := hT.2.2.2.2.1
    refine r_aload0 dX7_added_5 ?_
    refine rn_bipush (43) dX7_added_6 (by decide) ?_
    refine cpiV1 dX7_added_8 ov_X7_isSign rfl ml_X7_223 hM.1 rfl (Nat.zero_le _) (Nat.zero_le _) (Nat.zero_le _) (ct_isS _ hM ht 43 18 (by decide) (by decide)) ?_
    refine rn_if_ne 23 dX7_added_11 rfl (fun c11 => ?_) (fun c11 => ?_)
    · have t18 := (bI_1.mp (bI_or.resolve_left c11)).2
      have hl := ((tok_sign ht (c := 43) (by decide)).mpr t18).2
      have h13 : t.1 ≠ 13 := by omega
      have hlt := at_lt ht.1 h13
      rw [pz1_go ⟨by omega, by rw [t18]; decide⟩] at hr
      obtain ⟨r1, hr1, hr⟩ := pb_some hr
      refine r_aload0 dX7_added_23 ?_
      refine gf_X7_175 dX7_added_24 rfl hM.1 ?_
      refine rn_ldc2 (v := _) dX7_added_27 cl_X7_242 ?_
      refine rn_lcmp dX7_added_30 ?_
      refine rn_if_ne 38 dX7_added_31 rfl (fun h => absurd (show lg_cmp (lv 75 31) 43 = 0 by rw [hl]; decide) h) (fun _ => ?_)
      refine rn_iconst (1) dX7_added_34 (by decide) ?_
      refine rn_goto 39 dX7_added_35 rfl ?_
      refine r_istore2 dX7_added_39 rfl ?_
      refine r_aload0 dX7_added_40 ?_
      refine clvV0 dX7_added_41 ov_X7_next rfl ml_X7_198 hM.1 rfl (Nat.zero_le _) (Nat.zero_le _) (Nat.zero_le _) (ct_next _ hM hT t.2.2.2 (tok_here2 ht (by omega)) ht.1.2.1) (fun iv lv h41 => ?_)
      refine r_aload0 dX7_added_44 ?_
      refine cliV0 dX7_added_45 ov_X7_term rfl ml_X7_239 hM.1 rfl (Nat.zero_le _) (Nat.zero_le _) (Nat.zero_le _) (hA f (by omega) op (D + 3) _ _ _ r1 (by unfold DM at *; omega) ho (hT.ps (lx_ps h41.1)) h41.2 (lexS_v ht.1.2.1) ((h41.1 75 33 (by decide)).trans h33) ((h41.1 75 32 (by decide)).trans h32) (env_off (lx_ps h41.1) he) hr1) (fun x45 iv lv h45 => ?_)
      rcases r1 with z | q
      · dsimp only at hr
        subst hr
        refine r_istore3 dX7_added_48 rfl ?_
        refine r_iload2 dX7_added_49 ?_
        refine rn_if_eq 59 dX7_added_50 rfl (fun h => absurd h (by decide)) (fun _ => ?_)
        refine r_iload1 dX7_added_53 ?_
        refine r_iload3 dX7_added_54 ?_
        refine rn_iadd dX7_added_55 ?_
        refine rn_goto 62 dX7_added_56 rfl ?_
        refine r_istore1 dX7_added_62 rfl ?_
        refine rn_goto 5 dX7_added_63 rfl ?_
        exact LB3 hM ((hoff.trans (lx_ps h41.1)).trans h45.1) h45.2.1 h45.2.2
      · dsimp only at hr
        refine r_istore3 dX7_added_48 rfl ?_
        refine r_iload2 dX7_added_49 ?_
        refine rn_if_eq 59 dX7_added_50 rfl (fun h => absurd h (by decide)) (fun _ => ?_)
        refine r_iload1 dX7_added_53 ?_
        refine r_iload3 dX7_added_54 ?_
        refine rn_iadd dX7_added_55 ?_
        refine rn_goto 62 dX7_added_56 rfl ?_
        refine r_istore1 dX7_added_62 rfl ?_
        refine rn_goto 5 dX7_added_63 rfl ?_
        have hst := tk_step (b := b) ht.1 h13
        have hg := (pz_good (b := b) (n := n) e f).1 4 op 0 [] _ _ (by omega) ho hst.1 hst.2.1 hr1
        have hb := hone.bin hg.2.2.2 (x := -12) (by unfold isBin; decide) (L := Kf 3 op) (Nat.le_refl _) (by unfold Kf; omega)
        have hvb := one_vl hb (by unfold Kf; omega)
        obtain ⟨w1, w2, w3, w4, w5⟩ := h45.2
        refine ih (by omega) op D (cnt - 1) (s ++ q.1 ++ [-12]) q.2 iv0 _ _ r _ hD ho ((hT.ps (lx_ps h41.1)).ps h45.1) w3 w4 w1 w2 (env_off ((lx_ps h41.1).trans h45.1) he) ((hoff.trans (lx_ps h41.1)).trans h45.1) (by have := hg.2.2.1; have := hst.2.2; omega) ?_ ?_ (by rw [show opAt 3 t.1 = -12 by rw [t18]; rfl] at hr; exact hr)
        · rw [hvb, show v + x45 = binS (-12) v (vl e q.1) by rw [w5]; rfl]
        · rw [show v + x45 = binS (-12) v (vl e q.1) by rw [w5]; rfl]; exact hb
    · refine r_aload0 dX7_added_14 ?_
      refine rn_bipush (45) dX7_added_15 (by decide) ?_
      refine cpiV1 dX7_added_17 ov_X7_isSign rfl ml_X7_223 hM.1 rfl (Nat.zero_le _) (Nat.zero_le _) (Nat.zero_le _) (ct_isS _ hM ht 45 19 (by decide) (by decide)) ?_
      refine rn_if_eq 66 dX7_added_20 rfl (fun c20 => ?_) (fun c20 => ?_)
      · rw [bI_0] at c11 c20
        rw [pz1_end (fun z => z.2 (opAt3 (fun z => c11 ⟨h33, z⟩) (fun z => c20 ⟨h33, z⟩)))] at hr
        refine r_iload1 dX7_added_66 ?_
        refine rn_iret dX7_added_67 rfl (Nat.zero_le _) (Nat.zero_le _) ?_
        cases hr
        exact ⟨_, rfl, rfl, rfl, hoff, h33, h32, ht, hv, hvv⟩
      · have t19 := (bI_1.mp (bI_or.resolve_left c20)).2
        have hl := ((tok_sign ht (c := 45) (by decide)).mpr t19).2
        have h13 : t.1 ≠ 13 := by omega
        have hlt := at_lt ht.1 h13
        rw [pz1_go ⟨by omega, by rw [t19]; decide⟩] at hr
        obtain ⟨r1, hr1, hr⟩ := pb_some hr
        refine r_aload0 dX7_added_23 ?_
        refine gf_X7_175 dX7_added_24 rfl hM.1 ?_
        refine rn_ldc2 (v := _) dX7_added_27 cl_X7_242 ?_
        refine rn_lcmp dX7_added_30 ?_
        refine rn_if_ne 38 dX7_added_31 rfl (fun _ => ?_) (fun h => absurd h (show ¬ lg_cmp (lv 75 31) 43 = 0 by rw [hl]; decide))
        refine rn_iconst (0) dX7_added_38 (by decide) ?_
        refine r_istore2 dX7_added_39 rfl ?_
        refine r_aload0 dX7_added_40 ?_
        refine clvV0 dX7_added_41 ov_X7_next rfl ml_X7_198 hM.1 rfl (Nat.zero_le _) (Nat.zero_le _) (Nat.zero_le _) (ct_next _ hM hT t.2.2.2 (tok_here2 ht (by omega)) ht.1.2.1) (fun iv lv h41 => ?_)
        refine r_aload0 dX7_added_44 ?_
        refine cliV0 dX7_added_45 ov_X7_term rfl ml_X7_239 hM.1 rfl (Nat.zero_le _) (Nat.zero_le _) (Nat.zero_le _) (hA f (by omega) op (D + 3) _ _ _ r1 (by unfold DM at *; omega) ho (hT.ps (lx_ps h41.1)) h41.2 (lexS_v ht.1.2.1) ((h41.1 75 33 (by decide)).trans h33) ((h41.1 75 32 (by decide)).trans h32) (env_off (lx_ps h41.1) he) hr1) (fun x45 iv lv h45 => ?_)
        rcases r1 with z | q
        · dsimp only at hr
          subst hr
          refine r_istore3 dX7_added_48 rfl ?_
          refine r_iload2 dX7_added_49 ?_
          refine rn_if_eq 59 dX7_added_50 rfl (fun _ => ?_) (fun h => absurd rfl h)
          refine r_iload1 dX7_added_59 ?_
          refine r_iload3 dX7_added_60 ?_
          refine rn_isub dX7_added_61 ?_
          refine r_istore1 dX7_added_62 rfl ?_
          refine rn_goto 5 dX7_added_63 rfl ?_
          exact LB3 hM ((hoff.trans (lx_ps h41.1)).trans h45.1) h45.2.1 h45.2.2
        · dsimp only at hr
          refine r_istore3 dX7_added_48 rfl ?_
          refine r_iload2 dX7_added_49 ?_
          refine rn_if_eq 59 dX7_added_50 rfl (fun _ => ?_) (fun h => absurd rfl h)
          refine r_iload1 dX7_added_59 ?_
          refine r_iload3 dX7_added_60 ?_
          refine rn_isub dX7_added_61 ?_
          refine r_istore1 dX7_added_62 rfl ?_
          refine rn_goto 5 dX7_added_63 rfl ?_
          have hst := tk_step (b := b) ht.1 h13
          have hg := (pz_good (b := b) (n := n) e f).1 4 op 0 [] _ _ (by omega) ho hst.1 hst.2.1 hr1
          have hb := hone.bin hg.2.2.2 (x := -13) (by unfold isBin; decide) (L := Kf 3 op) (Nat.le_refl _) (by unfold Kf; omega)
          have hvb := one_vl hb (by unfold Kf; omega)
          obtain ⟨w1, w2, w3, w4, w5⟩ := h45.2
          refine ih (by omega) op D (cnt - 1) (s ++ q.1 ++ [-13]) q.2 iv0 _ _ r _ hD ho ((hT.ps (lx_ps h41.1)).ps h45.1) w3 w4 w1 w2 (env_off ((lx_ps h41.1).trans h45.1) he) ((hoff.trans (lx_ps h41.1)).trans h45.1) (by have := hg.2.2.1; have := hst.2.2; omega) ?_ ?_ (by rw [show opAt 3 t.1 = -13 by rw [t19]; rfl] at hr; exact hr)
          · rw [hvb, show v - x45 = binS (-13) v (vl e q.1) by rw [w5]; rfl]
          · rw [show v - x45 = binS (-13) v (vl e q.1) by rw [w5]; rfl]; exact hb
theorem AM3_step (hM : ShM Γ rv) {F : Nat} (hA : ∀ f', f' ≤ F → AM g l Γ rv b n f0 e mX7_term 4 f') : AM g l Γ rv b n f0 e mX7_added 3 (F + 1) := by
  intro op D t iv0 lv r hD ho hT ht hv h33 h32 he hr
  obtain ⟨D, rfl⟩ : ∃ D', D = D' + 4 := ⟨D - 4, by unfold DM at hD; omega⟩
  rw [pzl (by decide) (by omega)] at hr
  obtain ⟨r1, hr1, hr⟩ := pb_some hr
  refine Ct.of (by decide +kernel) (Nat.le_of_ble_eq_true rfl) (Nat.le_of_ble_eq_true rfl) ?_
  refine r_aload0 dX7_added_0 ?_
  refine cliV0 dX7_added_1 ov_X7_term rfl ml_X7_239 hM.1 rfl (Nat.zero_le _) (Nat.zero_le _) (Nat.zero_le _) (hA F (Nat.le_refl _) op (D + 3) _ _ _ r1 (by unfold DM at *; omega) ho hT ht hv h33 h32 he hr1) (fun x1 iv lv h1 => ?_)
  refine r_istore1 dX7_added_4 rfl ?_
  rcases r1 with z | q
  · dsimp only at hr
    subst hr
    exact LB3 hM h1.1 h1.2.1 h1.2.2
  · dsimp only at hr
    have hg := (pz_good (b := b) (n := n) e F).1 4 op 0 [] _ _ (by omega) ho ht.1 hv hr1
    obtain ⟨w1, w2, w3, w4, w5⟩ := h1.2
    exact LM3 hM hA F (by omega) op D _ q.1 q.2 iv0 iv lv r x1 hD ho (hT.ps h1.1) w3 w4 w1 w2 (env_off h1.1 he) h1.1 (by rw [if_neg (by decide)]; omega) w5 (by rw [w5]; exact hg.2.2.2.mono (by unfold Kf; omega)) hr
theorem LB1 (hM : ShM Γ rv) {D op z : Nat} {iv0 iv : IV} {lv : LV} {v : Int32} {y2 : Value} (hoff : Off Ps iv0 iv) (h33 : iv 75 33 = 1) (h34 : iv 75 34 = nI z) : Rn g l mX7_both (rmA (D + 4) 0 0) (qLI Γ rv (fun x iv' lv' => Off Ps iv0 iv' ∧ PoM b n e op (.inl z) x iv' lv')) 0 0 5 [.ref 75, .int v, y2] [] Γ iv rv lv := by
  refine r_aload0 dX7_both_5 ?_
  refine rn_bipush (97) dX7_both_6 (by decide) ?_
  refine rn_bipush (110) dX7_both_8 (by decide) ?_
  refine rn_bipush (100) dX7_both_10 (by decide) ?_
  refine rn_iconst (0) dX7_both_12 (by decide) ?_
  refine rn_iconst (0) dX7_both_13 (by decide) ?_
  refine rn_iconst (0) dX7_both_14 (by decide) ?_
  refine rn_iconst (0) dX7_both_15 (by decide) ?_
  refine rn_iconst (0) dX7_both_16 (by decide) ?_
  refine cpiV8 dX7_both_17 ov_X7_isWord rfl ml_X7_201 hM.1 rfl (Nat.zero_le _) (Nat.zero_le _) (Nat.zero_le _) (ct_isWbad _ hM h33 _ _ _ _ _ _ _ _) ?_
  refine rn_if_eq 49 dX7_both_20 rfl (fun _ => ?_) (fun h => absurd rfl h)
  refine r_iload1 dX7_both_49 ?_
  refine rn_iret dX7_both_50 rfl (Nat.zero_le _) (Nat.zero_le _) ?_
  exact ⟨_, rfl, rfl, rfl, hoff, h33, h34⟩
theorem LM1 (hM : ShM Γ rv) {F : Nat} (hA : ∀ f', f' ≤ F → AM g l Γ rv b n f0 e mX7_not 2 f') : ∀ f, f ≤ F + 1 → ∀ (op D cnt : Nat) (s : List Int32) (t : Tk) (iv0 iv : IV) (lv : LV) (r : Nat ⊕ (List Int32 × Tk)) (v : Int32), DM 1 op ≤ D + 4 → op ≤ 5 → TxM iv b n f0 → TokM iv lv b n t → TkV t → iv 75 33 = 0 → iv 75 32 = nI op → (∀ j, j < 6 → iv 75 (20 + j) = e j) → Off Ps iv0 iv → 160 ≤ cnt + t.2.1 → v = vl e s → OneC e (Kf 1 op) s v → pz b n f 1 1 op cnt s t = some r → ∀ {y2 : Value}, 
    Rn g l mX7_both (rmA (D + 4) 0 0) (qLI Γ rv (fun x iv' lv' => Off Ps iv0 iv' ∧ PoM b n e op r x iv' lv')) 0 0 5 [.ref 75, .int v, y2] [] Γ iv rv lv := by
  intro f
  induction f with
  | zero => intro _ op D cnt s t iv0 iv lv r v _ _ _ _ _ _ _ _ _ _ _ _ hr; cases hr
  | succ f ih =>
    intro hF op D cnt s t iv0 iv lv r v hD ho hT ht hv h33 h32 he hoff hcnt hvv hone hr y2
    have hn160 : n ≤ 160 := hT.2.2.2.2.1
    refine r_aload0 dX7_both_5 ?_
    refine rn_bipush (97) dX7_both_6 (by decide) ?_
    refine rn_bipush (110) dX7_both_8 (by decide) ?_
    refine rn_bipush (100) dX7_both_10 (by decide) ?_
    refine rn_iconst (0) dX7_both_12 (by decide) ?_
    refine rn_iconst (0) dX7_both_13 (by decide) ?_
    refine rn_iconst (0) dX7_both_14 (by decide) ?_
    refine rn_iconst (0) dX7_both_15 (by decide) ?_
    refine rn_iconst (0) dX7_both_16 (by decide) ?_
    refine cpiV8 dX7_both_17 ov_X7_isWord rfl ml_X7_201 hM.1 rfl (Nat.zero_le _) (Nat.zero_le _) (Nat.zero_le _) (ct_isW10 _ hM hT ht) ?_
    refine rn_if_eq 49 dX7_both_20 rfl (fun c20 => ?_) (fun c20 => ?_)
    · rw [bI_0] at c20
      rw [pz1_end (fun z => z.2 (opAt1 (fun z => c20 ⟨h33, z⟩)))] at hr
      refine r_iload1 dX7_both_49 ?_
      refine rn_iret dX7_both_50 rfl (Nat.zero_le _) (Nat.zero_le _) ?_
      cases hr
      exact ⟨_, rfl, rfl, rfl, hoff, h33, h32, ht, hv, hvv⟩
    · have tw := (bI_1.mp (bI_or.resolve_left c20)).2
      have h13 : t.1 ≠ 13 := by omega
      have hlt := at_lt ht.1 h13
      rw [pz1_go ⟨by omega, by rw [tw]; decide⟩] at hr
      obtain ⟨r1, hr1, hr⟩ := pb_some hr
      refine r_aload0 dX7_both_23 ?_
      refine clvV0 dX7_both_24 ov_X7_next rfl ml_X7_198 hM.1 rfl (Nat.zero_le _) (Nat.zero_le _) (Nat.zero_le _) (ct_next _ hM hT t.2.2.2 (tok_here2 ht (by omega)) ht.1.2.1) (fun iv lv h24 => ?_)
      refine r_aload0 dX7_both_27 ?_
      refine cliV0 dX7_both_28 ov_X7_not rfl ml_X7_244 hM.1 rfl (Nat.zero_le _) (Nat.zero_le _) (Nat.zero_le _) (hA f (by omega) op (D + 3) _ _ _ r1 (by unfold DM at *; omega) ho (hT.ps (lx_ps h24.1)) h24.2 (lexS_v ht.1.2.1) ((h24.1 75 33 (by decide)).trans h33) ((h24.1 75 32 (by decide)).trans h32) (env_off (lx_ps h24.1) he) hr1) (fun x28 iv lv h28 => ?_)
      rcases r1 with z | q
      · dsimp only at hr
        subst hr
        refine r_istore2 dX7_both_31 rfl ?_
        refine r_iload1 dX7_both_32 ?_
        refine rn_if_eq 44 dX7_both_33 rfl (fun c33 => ?_) (fun c33 => ?_)
        · refine rn_iconst (0) dX7_both_44 (by decide) ?_
          refine r_istore1 dX7_both_45 rfl ?_
          refine rn_goto 5 dX7_both_46 rfl ?_
          exact LB1 hM ((hoff.trans (lx_ps h24.1)).trans h28.1) h28.2.1 h28.2.2
        · refine r_iload2 dX7_both_36 ?_
          refine rn_if_eq 44 dX7_both_37 rfl (fun c37 => ?_) (fun c37 => ?_)
          · refine rn_iconst (0) dX7_both_44 (by decide) ?_
            refine r_istore1 dX7_both_45 rfl ?_
            refine rn_goto 5 dX7_both_46 rfl ?_
            exact LB1 hM ((hoff.trans (lx_ps h24.1)).trans h28.1) h28.2.1 h28.2.2
          · refine rn_iconst (1) dX7_both_40 (by decide) ?_
            refine rn_goto 45 dX7_both_41 rfl ?_
            refine r_istore1 dX7_both_45 rfl ?_
            refine rn_goto 5 dX7_both_46 rfl ?_
            exact LB1 hM ((hoff.trans (lx_ps h24.1)).trans h28.1) h28.2.1 h28.2.2
      · dsimp only at hr
        refine r_istore2 dX7_both_31 rfl ?_
        refine r_iload1 dX7_both_32 ?_
        refine rn_if_eq 44 dX7_both_33 rfl (fun c33 => ?_) (fun c33 => ?_)
        · refine rn_iconst (0) dX7_both_44 (by decide) ?_
          refine r_istore1 dX7_both_45 rfl ?_
          refine rn_goto 5 dX7_both_46 rfl ?_
          have hst := tk_step (b := b) ht.1 h13
          have hg := (pz_good (b := b) (n := n) e f).1 2 op 0 [] _ _ (by omega) ho hst.1 hst.2.1 hr1
          have hb := hone.bin hg.2.2.2 (x := -8) (by unfold isBin; decide) (L := Kf 1 op) (Nat.le_refl _) (by unfold Kf; omega)
          have hvb := one_vl hb (by unfold Kf; omega)
          obtain ⟨w1, w2, w3, w4, w5⟩ := h28.2
          refine ih (by omega) op D (cnt - 1) (s ++ q.1 ++ [-8]) q.2 iv0 _ _ r _ hD ho ((hT.ps (lx_ps h24.1)).ps h28.1) w3 w4 w1 w2 (env_off ((lx_ps h24.1).trans h28.1) he) ((hoff.trans (lx_ps h24.1)).trans h28.1) (by have := hg.2.2.1; have := hst.2.2; omega) ?_ ?_ (by rw [show opAt 1 t.1 = -8 by rw [tw]; rfl] at hr; exact hr)
          · rw [hvb, show (0 : Int32) = binS (-8) v (vl e q.1) by rw [← w5]; unfold binS; rw [if_neg (by decide), if_pos rfl, if_neg (fun z => z.1 c33)]]
          · rw [show (0 : Int32) = binS (-8) v (vl e q.1) by rw [← w5]; unfold binS; rw [if_neg (by decide), if_pos rfl, if_neg (fun z => z.1 c33)]]; exact hb
        · refine r_iload2 dX7_both_36 ?_
          refine rn_if_eq 44 dX7_both_37 rfl (fun c37 => ?_) (fun c37 => ?_)
          · refine rn_iconst (0) dX7_both_44 (by decide) ?_
            refine r_istore1 dX7_both_45 rfl ?_
            refine rn_goto 5 dX7_both_46 rfl ?_
            have hst := tk_step (b := b) ht.1 h13
            have hg := (pz_good (b := b) (n := n) e f).1 2 op 0 [] _ _ (by omega) ho hst.1 hst.2.1 hr1
            have hb := hone.bin hg.2.2.2 (x := -8) (by unfold isBin; decide) (L := Kf 1 op) (Nat.le_refl _) (by unfold Kf; omega)
            have hvb := one_vl hb (by unfold Kf; omega)
            obtain ⟨w1, w2, w3, w4, w5⟩ := h28.2
            refine ih (by omega) op D (cnt - 1) (s ++ q.1 ++ [-8]) q.2 iv0 _ _ r _ hD ho ((hT.ps (lx_ps h24.1)).ps h28.1) w3 w4 w1 w2 (env_off ((lx_ps h24.1).trans h28.1) he) ((hoff.trans (lx_ps h24.1)).trans h28.1) (by have := hg.2.2.1; have := hst.2.2; omega) ?_ ?_ (by rw [show opAt 1 t.1 = -8 by rw [tw]; rfl] at hr; exact hr)
            · rw [hvb, show (0 : Int32) = binS (-8) v (vl e q.1) by rw [← w5]; unfold binS; rw [if_neg (by decide), if_pos rfl, if_neg (fun z => z.2 c37)]]
            · rw [show (0 : Int32) = binS (-8) v (vl e q.1) by rw [← w5]; unfold binS; rw [if_neg (by decide), if_pos rfl, if_neg (fun z => z.2 c37)]]; exact hb
          · refine rn_iconst (1) dX7_both_40 (by decide) ?_
            refine rn_goto 45 dX7_both_41 rfl ?_
            refine r_istore1 dX7_both_45 rfl ?_
            refine rn_goto 5 dX7_both_46 rfl ?_
            have hst := tk_step (b := b) ht.1 h13
            have hg := (pz_good (b := b) (n := n) e f).1 2 op 0 [] _ _ (by omega) ho hst.1 hst.2.1 hr1
            have hb := hone.bin hg.2.2.2 (x := -8) (by unfold isBin; decide) (L := Kf 1 op) (Nat.le_refl _) (by unfold Kf; omega)
            have hvb := one_vl hb (by unfold Kf; omega)
            obtain ⟨w1, w2, w3, w4, w5⟩ := h28.2
            refine ih (by omega) op D (cnt - 1) (s ++ q.1 ++ [-8]) q.2 iv0 _ _ r _ hD ho ((hT.ps (lx_ps h24.1)).ps h28.1) w3 w4 w1 w2 (env_off ((lx_ps h24.1).trans h28.1) he) ((hoff.trans (lx_ps h24.1)).trans h28.1) (by have := hg.2.2.1; have := hst.2.2; omega) ?_ ?_ (by rw [show opAt 1 t.1 = -8 by rw [tw]; rfl] at hr; exact hr)
            · rw [hvb, show (1 : Int32) = binS (-8) v (vl e q.1) by rw [← w5]; unfold binS; rw [if_neg (by decide), if_pos rfl, if_pos ⟨c33, c37⟩]]
            · rw [show (1 : Int32) = binS (-8) v (vl e q.1) by rw [← w5]; unfold binS; rw [if_neg (by decide), if_pos rfl, if_pos ⟨c33, c37⟩]]; exact hb
theorem AM1_step (hM : ShM Γ rv) {F : Nat} (hA : ∀ f', f' ≤ F → AM g l Γ rv b n f0 e mX7_not 2 f') : AM g l Γ rv b n f0 e mX7_both 1 (F + 1) := by
  intro op D t iv0 lv r hD ho hT ht hv h33 h32 he hr
  obtain ⟨D, rfl⟩ : ∃ D', D = D' + 4 := ⟨D - 4, by unfold DM at hD; omega⟩
  rw [pzl (by decide) (by omega)] at hr
  obtain ⟨r1, hr1, hr⟩ := pb_some hr
  refine Ct.of (by decide +kernel) (Nat.le_of_ble_eq_true rfl) (Nat.le_of_ble_eq_true rfl) ?_
  refine r_aload0 dX7_both_0 ?_
  refine cliV0 dX7_both_1 ov_X7_not rfl ml_X7_244 hM.1 rfl (Nat.zero_le _) (Nat.zero_le _) (Nat.zero_le _) (hA F (Nat.le_refl _) op (D + 3) _ _ _ r1 (by unfold DM at *; omega) ho hT ht hv h33 h32 he hr1) (fun x1 iv lv h1 => ?_)
  refine r_istore1 dX7_both_4 rfl ?_
  rcases r1 with z | q
  · dsimp only at hr
    subst hr
    exact LB1 hM h1.1 h1.2.1 h1.2.2
  · dsimp only at hr
    have hg := (pz_good (b := b) (n := n) e F).1 2 op 0 [] _ _ (by omega) ho ht.1 hv hr1
    obtain ⟨w1, w2, w3, w4, w5⟩ := h1.2
    exact LM1 hM hA F (by omega) op D _ q.1 q.2 iv0 iv lv r x1 hD ho (hT.ps h1.1) w3 w4 w1 w2 (env_off h1.1 he) h1.1 (by rw [if_neg (by decide)]; omega) w5 (by rw [w5]; exact hg.2.2.2.mono (by unfold Kf; omega)) hr
theorem LB0 (hM : ShM Γ rv) {D op z : Nat} {iv0 iv : IV} {lv : LV} {v : Int32} {y2 : Value} (hoff : Off Ps iv0 iv) (h33 : iv 75 33 = 1) (h34 : iv 75 34 = nI z) : Rn g l mX7_either (rmA (D + 4) 0 0) (qLI Γ rv (fun x iv' lv' => Off Ps iv0 iv' ∧ PoM b n e op (.inl z) x iv' lv')) 0 0 5 [.ref 75, .int v, y2] [] Γ iv rv lv := by
  refine r_aload0 dX7_either_5 ?_
  refine rn_bipush (111) dX7_either_6 (by decide) ?_
  refine rn_bipush (114) dX7_either_8 (by decide) ?_
  refine rn_iconst (0) dX7_either_10 (by decide) ?_
  refine rn_iconst (0) dX7_either_11 (by decide) ?_
  refine rn_iconst (0) dX7_either_12 (by decide) ?_
  refine rn_iconst (0) dX7_either_13 (by decide) ?_
  refine rn_iconst (0) dX7_either_14 (by decide) ?_
  refine rn_iconst (0) dX7_either_15 (by decide) ?_
  refine cpiV8 dX7_either_16 ov_X7_isWord rfl ml_X7_201 hM.1 rfl (Nat.zero_le _) (Nat.zero_le _) (Nat.zero_le _) (ct_isWbad _ hM h33 _ _ _ _ _ _ _ _) ?_
  refine rn_if_eq 48 dX7_either_19 rfl (fun _ => ?_) (fun h => absurd rfl h)
  refine r_iload1 dX7_either_48 ?_
  refine rn_iret dX7_either_49 rfl (Nat.zero_le _) (Nat.zero_le _) ?_
  exact ⟨_, rfl, rfl, rfl, hoff, h33, h34⟩
theorem LM0 (hM : ShM Γ rv) {F : Nat} (hA : ∀ f', f' ≤ F → AM g l Γ rv b n f0 e mX7_both 1 f') : ∀ f, f ≤ F + 1 → ∀ (op D cnt : Nat) (s : List Int32) (t : Tk) (iv0 iv : IV) (lv : LV) (r : Nat ⊕ (List Int32 × Tk)) (v : Int32), DM 0 op ≤ D + 4 → op ≤ 5 → TxM iv b n f0 → TokM iv lv b n t → TkV t → iv 75 33 = 0 → iv 75 32 = nI op → (∀ j, j < 6 → iv 75 (20 + j) = e j) → Off Ps iv0 iv → 160 ≤ cnt + t.2.1 → v = vl e s → OneC e (Kf 0 op) s v → pz b n f 1 0 op cnt s t = some r → ∀ {y2 : Value}, 
    Rn g l mX7_either (rmA (D + 4) 0 0) (qLI Γ rv (fun x iv' lv' => Off Ps iv0 iv' ∧ PoM b n e op r x iv' lv')) 0 0 5 [.ref 75, .int v, y2] [] Γ iv rv lv := by
  intro f
  induction f with
  | zero => intro _ op D cnt s t iv0 iv lv r v _ _ _ _ _ _ _ _ _ _ _ _ hr; cases hr
  | succ f ih =>
    intro hF op D cnt s t iv0 iv lv r v hD ho hT ht hv h33 h32 he hoff hcnt hvv hone hr y2
    have hn160 : n ≤ 160 := hT.2.2.2.2.1
    refine r_aload0 dX7_either_5 ?_
    refine rn_bipush (111) dX7_either_6 (by decide) ?_
    refine rn_bipush (114) dX7_either_8 (by decide) ?_
    refine rn_iconst (0) dX7_either_10 (by decide) ?_
    refine rn_iconst (0) dX7_either_11 (by decide) ?_
    refine rn_iconst (0) dX7_either_12 (by decide) ?_
    refine rn_iconst (0) dX7_either_13 (by decide) ?_
    refine rn_iconst (0) dX7_either_14 (by decide) ?_
    refine rn_iconst (0) dX7_either_15 (by decide) ?_
    refine cpiV8 dX7_either_16 ov_X7_isWord rfl ml_X7_201 hM.1 rfl (Nat.zero_le _) (Nat.zero_le _) (Nat.zero_le _) (ct_isW9 _ hM hT ht) ?_
    refine rn_if_eq 48 dX7_either_19 rfl (fun c19 => ?_) (fun c19 => ?_)
    · rw [bI_0] at c19
      rw [pz1_end (fun z => z.2 (opAt0 (fun z => c19 ⟨h33, z⟩)))] at hr
      refine r_iload1 dX7_either_48 ?_
      refine rn_iret dX7_either_49 rfl (Nat.zero_le _) (Nat.zero_le _) ?_
      cases hr
      exact ⟨_, rfl, rfl, rfl, hoff, h33, h32, ht, hv, hvv⟩
    · have tw := (bI_1.mp (bI_or.resolve_left c19)).2
      have h13 : t.1 ≠ 13 := by omega
      have hlt := at_lt ht.1 h13
      rw [pz1_go ⟨by omega, by rw [tw]; decide⟩] at hr
      obtain ⟨r1, hr1, hr⟩ := pb_some hr
      refine r_aload0 dX7_either_22 ?_
      refine clvV0 dX7_either_23 ov_X7_next rfl ml_X7_198 hM.1 rfl (Nat.zero_le _) (Nat.zero_le _) (Nat.zero_le _) (ct_next _ hM hT t.2.2.2 (tok_here2 ht (by omega)) ht.1.2.1) (fun iv lv h23 => ?_)
      refine r_aload0 dX7_either_26 ?_
      refine cliV0 dX7_either_27 ov_X7_both rfl ml_X7_252 hM.1 rfl (Nat.zero_le _) (Nat.zero_le _) (Nat.zero_le _) (hA f (by omega) op (D + 3) _ _ _ r1 (by unfold DM at *; omega) ho (hT.ps (lx_ps h23.1)) h23.2 (lexS_v ht.1.2.1) ((h23.1 75 33 (by decide)).trans h33) ((h23.1 75 32 (by decide)).trans h32) (env_off (lx_ps h23.1) he) hr1) (fun x27 iv lv h27 => ?_)
      rcases r1 with z | q
      · dsimp only at hr
        subst hr
        refine r_istore2 dX7_either_30 rfl ?_
        refine r_iload1 dX7_either_31 ?_
        refine rn_if_ne 39 dX7_either_32 rfl (fun c32 => ?_) (fun c32 => ?_)
        · refine rn_iconst (1) dX7_either_39 (by decide) ?_
          refine rn_goto 44 dX7_either_40 rfl ?_
          refine r_istore1 dX7_either_44 rfl ?_
          refine rn_goto 5 dX7_either_45 rfl ?_
          exact LB0 hM ((hoff.trans (lx_ps h23.1)).trans h27.1) h27.2.1 h27.2.2
        · refine r_iload2 dX7_either_35 ?_
          refine rn_if_eq 43 dX7_either_36 rfl (fun c36 => ?_) (fun c36 => ?_)
          · refine rn_iconst (0) dX7_either_43 (by decide) ?_
            refine r_istore1 dX7_either_44 rfl ?_
            refine rn_goto 5 dX7_either_45 rfl ?_
            exact LB0 hM ((hoff.trans (lx_ps h23.1)).trans h27.1) h27.2.1 h27.2.2
          · refine rn_iconst (1) dX7_either_39 (by decide) ?_
            refine rn_goto 44 dX7_either_40 rfl ?_
            refine r_istore1 dX7_either_44 rfl ?_
            refine rn_goto 5 dX7_either_45 rfl ?_
            exact LB0 hM ((hoff.trans (lx_ps h23.1)).trans h27.1) h27.2.1 h27.2.2
      · dsimp only at hr
        refine r_istore2 dX7_either_30 rfl ?_
        refine r_iload1 dX7_either_31 ?_
        refine rn_if_ne 39 dX7_either_32 rfl (fun c32 => ?_) (fun c32 => ?_)
        · refine rn_iconst (1) dX7_either_39 (by decide) ?_
          refine rn_goto 44 dX7_either_40 rfl ?_
          refine r_istore1 dX7_either_44 rfl ?_
          refine rn_goto 5 dX7_either_45 rfl ?_
          have hst := tk_step (b := b) ht.1 h13
          have hg := (pz_good (b := b) (n := n) e f).1 1 op 0 [] _ _ (by omega) ho hst.1 hst.2.1 hr1
          have hb := hone.bin hg.2.2.2 (x := -7) (by unfold isBin; decide) (L := Kf 0 op) (Nat.le_refl _) (by unfold Kf; omega)
          have hvb := one_vl hb (by unfold Kf; omega)
          obtain ⟨w1, w2, w3, w4, w5⟩ := h27.2
          refine ih (by omega) op D (cnt - 1) (s ++ q.1 ++ [-7]) q.2 iv0 _ _ r _ hD ho ((hT.ps (lx_ps h23.1)).ps h27.1) w3 w4 w1 w2 (env_off ((lx_ps h23.1).trans h27.1) he) ((hoff.trans (lx_ps h23.1)).trans h27.1) (by have := hg.2.2.1; have := hst.2.2; omega) ?_ ?_ (by rw [show opAt 0 t.1 = -7 by rw [tw]; rfl] at hr; exact hr)
          · rw [hvb, show (1 : Int32) = binS (-7) v (vl e q.1) by rw [← w5]; unfold binS; rw [if_pos rfl, if_pos (Or.inl c32)]]
          · rw [show (1 : Int32) = binS (-7) v (vl e q.1) by rw [← w5]; unfold binS; rw [if_pos rfl, if_pos (Or.inl c32)]]; exact hb
        · refine r_iload2 dX7_either_35 ?_
          refine rn_if_eq 43 dX7_either_36 rfl (fun c36 => ?_) (fun c36 => ?_)
          · refine rn_iconst (0) dX7_either_43 (by decide) ?_
            refine r_istore1 dX7_either_44 rfl ?_
            refine rn_goto 5 dX7_either_45 rfl ?_
            have hst := tk_step (b := b) ht.1 h13
            have hg := (pz_good (b := b) (n := n) e f).1 1 op 0 [] _ _ (by omega) ho hst.1 hst.2.1 hr1
            have hb := hone.bin hg.2.2.2 (x := -7) (by unfold isBin; decide) (L := Kf 0 op) (Nat.le_refl _) (by unfold Kf; omega)
            have hvb := one_vl hb (by unfold Kf; omega)
            obtain ⟨w1, w2, w3, w4, w5⟩ := h27.2
            refine ih (by omega) op D (cnt - 1) (s ++ q.1 ++ [-7]) q.2 iv0 _ _ r _ hD ho ((hT.ps (lx_ps h23.1)).ps h27.1) w3 w4 w1 w2 (env_off ((lx_ps h23.1).trans h27.1) he) ((hoff.trans (lx_ps h23.1)).trans h27.1) (by have := hg.2.2.1; have := hst.2.2; omega) ?_ ?_ (by rw [show opAt 0 t.1 = -7 by rw [tw]; rfl] at hr; exact hr)
            · rw [hvb, show (0 : Int32) = binS (-7) v (vl e q.1) by rw [← w5]; unfold binS; rw [if_pos rfl, if_neg (fun z => z.elim (fun y => y c32) (fun y => y c36))]]
            · rw [show (0 : Int32) = binS (-7) v (vl e q.1) by rw [← w5]; unfold binS; rw [if_pos rfl, if_neg (fun z => z.elim (fun y => y c32) (fun y => y c36))]]; exact hb
          · refine rn_iconst (1) dX7_either_39 (by decide) ?_
            refine rn_goto 44 dX7_either_40 rfl ?_
            refine r_istore1 dX7_either_44 rfl ?_
            refine rn_goto 5 dX7_either_45 rfl ?_
            have hst := tk_step (b := b) ht.1 h13
            have hg := (pz_good (b := b) (n := n) e f).1 1 op 0 [] _ _ (by omega) ho hst.1 hst.2.1 hr1
            have hb := hone.bin hg.2.2.2 (x := -7) (by unfold isBin; decide) (L := Kf 0 op) (Nat.le_refl _) (by unfold Kf; omega)
            have hvb := one_vl hb (by unfold Kf; omega)
            obtain ⟨w1, w2, w3, w4, w5⟩ := h27.2
            refine ih (by omega) op D (cnt - 1) (s ++ q.1 ++ [-7]) q.2 iv0 _ _ r _ hD ho ((hT.ps (lx_ps h23.1)).ps h27.1) w3 w4 w1 w2 (env_off ((lx_ps h23.1).trans h27.1) he) ((hoff.trans (lx_ps h23.1)).trans h27.1) (by have := hg.2.2.1; have := hst.2.2; omega) ?_ ?_ (by rw [show opAt 0 t.1 = -7 by rw [tw]; rfl] at hr; exact hr)
            · rw [hvb, show (1 : Int32) = binS (-7) v (vl e q.1) by rw [← w5]; unfold binS; rw [if_pos rfl, if_pos (Or.inr c36)]]
            · rw [show (1 : Int32) = binS (-7) v (vl e q.1) by rw [← w5]; unfold binS; rw [if_pos rfl, if_pos (Or.inr c36)]]; exact hb
theorem AM0_step (hM : ShM Γ rv) {F : Nat} (hA : ∀ f', f' ≤ F → AM g l Γ rv b n f0 e mX7_both 1 f') : AM g l Γ rv b n f0 e mX7_either 0 (F + 1) := by
  intro op D t iv0 lv r hD ho hT ht hv h33 h32 he hr
  obtain ⟨D, rfl⟩ : ∃ D', D = D' + 4 := ⟨D - 4, by unfold DM at hD; omega⟩
  rw [pzl (by decide) (by omega)] at hr
  obtain ⟨r1, hr1, hr⟩ := pb_some hr
  refine Ct.of (by decide +kernel) (Nat.le_of_ble_eq_true rfl) (Nat.le_of_ble_eq_true rfl) ?_
  refine r_aload0 dX7_either_0 ?_
  refine cliV0 dX7_either_1 ov_X7_both rfl ml_X7_252 hM.1 rfl (Nat.zero_le _) (Nat.zero_le _) (Nat.zero_le _) (hA F (Nat.le_refl _) op (D + 3) _ _ _ r1 (by unfold DM at *; omega) ho hT ht hv h33 h32 he hr1) (fun x1 iv lv h1 => ?_)
  refine r_istore1 dX7_either_4 rfl ?_
  rcases r1 with z | q
  · dsimp only at hr
    subst hr
    exact LB0 hM h1.1 h1.2.1 h1.2.2
  · dsimp only at hr
    have hg := (pz_good (b := b) (n := n) e F).1 1 op 0 [] _ _ (by omega) ho ht.1 hv hr1
    obtain ⟨w1, w2, w3, w4, w5⟩ := h1.2
    exact LM0 hM hA F (by omega) op D _ q.1 q.2 iv0 iv lv r x1 hD ho (hT.ps h1.1) w3 w4 w1 w2 (env_off h1.1 he) h1.1 (by rw [if_neg (by decide)]; omega) w5 (by rw [w5]; exact hg.2.2.2.mono (by unfold Kf; omega)) hr
end MEXPR2
