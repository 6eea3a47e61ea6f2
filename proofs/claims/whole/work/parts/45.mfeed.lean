/-! THE REFERENCE: feed, text, force, count -/
def feedQ (n : Nat) (c : Int32) : Int32 := if 0 ≤ c ∧ c ≤ 255 then (if n = 160 then -4 else nI (n + 1)) else -2
def feedOK (n : Nat) (c : Int32) : Prop := (0 ≤ c ∧ c ≤ 255) ∧ ¬ n = 160
abbrev Fe (n a b : Nat) : Prop := (a = 75 ∧ b = 6) ∨ (a = 78 ∧ b = n)
def textQ (T : Nat) (b : Nat → Int32) (n : Nat) : Int32 := if T = 6 then -4 else match txS b n with
  | some (.inl z) => -100 - nI z
  | _ => nI T
def textOK (b : Nat → Int32) (n : Nat) : Prop := match txS b n with
  | some (.inl _) => False
  | _ => True
abbrev Cy (T a b : Nat) : Prop := a = 76 ∧ 160 * T ≤ b ∧ b < 160 * T + 160
abbrev Tx (T a b : Nat) : Prop := Cy T a b ∨ (a = 77 ∧ b = T) ∨ (a = 75 ∧ (b = 6 ∨ b = 3 ∨ (26 ≤ b ∧ b ≤ 34)))
def forceQ (ρ : IV) (T : Nat) (t : Int32) : Int32 × IV := if 0 ≤ t ∧ t ≤ nI (T - 1) then (ρ 4 8, up ρ 4 8 t) else (-2, ρ)
def countN (ρ : IV) (T n : Nat) : Nat → Int32
  | 0 => aheadS ρ
  | 1 => ρ 4 4
  | 2 => ρ 4 5
  | 3 => ρ 4 6
  | 4 => ρ 4 7
  | 5 => nI T
  | 6 => nI n
  | _ => ρ 4 8
def countQ (ρ : IV) (T n : Nat) (w : Int32) : Int32 := if 0 ≤ w ∧ w ≤ 7 then countN ρ T n w.toNatClampNeg else -2
section MFEED
variable {g : GS} {l : Launch} {Γ : Sh} {iv : IV} {rv : RV} {lv : LV}
set_option maxRecDepth 4000 in
theorem ct_mfeed (D : Nat) (hM : ShM Γ rv) {n : Nat} (h6 : iv 75 6 = nI n) (hn : n ≤ 160) (c : Int32) : Ct g l mX7_feed (D + 1) 0 0 [.ref 75, .int c] Γ iv rv lv (qCI Γ rv lv (fun x iv' => x = feedQ n c ∧ (feedOK n c → iv' 75 6 = nI (n + 1) ∧ iv' 78 n = c ∧ Off (Fe n) iv iv') ∧ (¬ feedOK n c → iv' = iv))) := by
  refine Ct.of (by decide +kernel) (Nat.le_of_ble_eq_true rfl) (Nat.le_of_ble_eq_true rfl) ?_
  refine r_iload1 dX7_feed_0 ?_
  refine rn_i2l dX7_feed_1 ?_
  refine rn_lconst (0) dX7_feed_2 (by decide) ?_
  refine rn_ldc2 (v := _) dX7_feed_3 cl_X7_144 ?_
  refine cpiS3 dX7_feed_6 os_X7_in rfl ml_X7_96 (Nat.zero_le _) (Nat.zero_le _) (Nat.zero_le _) (ct_inI _ (a := 0) (b := 255) (by decide) (by decide)) ?_
  refine rn_if_ne 15 dX7_feed_9 rfl (fun c9 => ?_) (fun c9 => ?_)
  · have hq1 := bI_1.mp (bI_or.resolve_left c9)
    refine r_aload0 dX7_feed_15 ?_
    refine gf_X7_146 dX7_feed_16 rfl hM.1 ?_
    refine rn_eqi (nI n) h6 ?_
    refine rn_sipush (160) dX7_feed_19 (by decide) ?_
    refine rn_icmp_ne 28 dX7_feed_22 rfl (fun c22 => ?_) (fun c22 => ?_)
    · have h160 : ¬ n = 160 := by rw [show (160 : Int32) = nI 160 by decide, nI_eq (by omega) (by decide)] at c22; exact c22
      refine r_aload0 dX7_feed_28 ?_
      refine gf_X7_20 dX7_feed_29 rfl hM.1 (sm_tape hM).1 ?_
      refine r_aload0 dX7_feed_32 ?_
      refine gf_X7_146 dX7_feed_33 rfl hM.1 ?_
      refine r_iload1 dX7_feed_36 ?_
      refine rn_iast n dX7_feed_37 (sm_tape hM).2 h6 (by omega) (by decide) ?_
      refine r_aload0 dX7_feed_38 ?_
      refine rn_dup dX7_feed_39 rfl ?_
      refine gf_X7_146 dX7_feed_40 rfl hM.1 ?_
      refine rn_eqi (nI n) ((up_ne1 (by decide)).trans h6) ?_
      refine rn_iconst (1) dX7_feed_43 (by decide) ?_
      refine rn_iadd dX7_feed_44 ?_
      refine rn_eqi (nI (n + 1)) (nI_1 n) ?_
      refine pf_X7_146 dX7_feed_45 rfl hM.1 ?_
      refine r_aload0 dX7_feed_48 ?_
      refine gf_X7_146 dX7_feed_49 rfl hM.1 ?_
      refine rn_eqi (nI (n + 1)) (up_same _ _ _ _) ?_
      refine rn_iret dX7_feed_52 rfl (Nat.zero_le _) (Nat.zero_le _) ?_
      refine ⟨_, rfl, rfl, rfl, rfl, ?_, fun _ => ⟨rfl, ?_, (off_up (by omega)).trans (off_up (by omega))⟩, fun z => absurd ⟨hq1, h160⟩ z⟩
      · unfold feedQ
        rw [if_pos hq1, if_neg h160]
      · rw [up_ne1 (by decide), up_same]
    · have h160 : n = 160 := by rw [show (160 : Int32) = nI 160 by decide, nI_eq (by omega) (by decide)] at c22; exact c22
      refine rn_bipush (-4) dX7_feed_25 (by decide) ?_
      refine rn_iret dX7_feed_27 rfl (Nat.zero_le _) (Nat.zero_le _) ?_
      refine ⟨_, rfl, rfl, rfl, rfl, ?_, fun z => absurd h160 z.2, fun _ => rfl⟩
      unfold feedQ
      rw [if_pos hq1, if_pos h160]
  · refine rn_bipush (-2) dX7_feed_12 (by decide) ?_
    refine rn_iret dX7_feed_14 rfl (Nat.zero_le _) (Nat.zero_le _) ?_
    refine ⟨_, rfl, rfl, rfl, rfl, ?_, fun z => absurd z.1 (bI_0.mp c9), fun _ => rfl⟩
    unfold feedQ
    rw [if_neg (bI_0.mp c9)]
set_option maxRecDepth 4000 in
theorem tx_loop {D : Nat} {Q : Qt} (hM : ShM Γ rv) {b : Nat → Int32} {T N : Nat} (hN : N ≤ 160) (hT : T < 6) {iv0 : IV} : ∀ (n i : Nat) (iv : IV) (lv : LV) (x : Int32), i + n = N → x = nI i → iv 75 6 = nI N → iv 75 3 = nI T → (∀ j, j < N → iv 78 j = b j) → (∀ j, j < i → iv 76 (160 * T + j) = b j) → Off (Cy T) iv0 iv → (∀ (iv : IV) (lv : LV) (x : Int32), x = nI N → iv 75 6 = nI N → iv 75 3 = nI T → (∀ j, j < N → iv 78 j = b j) → (∀ j, j < N → iv 76 (160 * T + j) = b j) → Off (Cy T) iv0 iv → Rn g l mX7_text (rmA (D + 47) 0 0) Q 0 0 49 [.ref 75, .int x] [] Γ iv rv lv) → Rn g l mX7_text (rmA (D + 47) 0 0) Q 0 0 14 [.ref 75, .int x] [] Γ iv rv lv := by
  intro n
  induction n with
  | zero =>
    intro i iv lv x hn hx h6 h3 h78 hc ho kk
    obtain rfl : i = N := by omega
    refine r_iload1 dX7_text_14 ?_
    refine r_aload0 dX7_text_15 ?_
    refine gf_X7_146 dX7_text_16 rfl hM.1 ?_
    refine rn_eqi _ h6 ?_
    refine rn_icmp_ge 49 dX7_text_19 rfl (fun _ => ?_) (fun h => absurd (by rw [hx]; exact nI_le (Nat.le_refl _) (by omega)) h)
    exact kk _ _ _ hx h6 h3 h78 hc ho
  | succ n ih =>
    intro i iv lv x hn hx h6 h3 h78 hc ho kk
    have hil : i < N := by omega
    skip
    refine r_iload1 dX7_text_14 ?_
    refine r_aload0 dX7_text_15 ?_
    refine gf_X7_146 dX7_text_16 rfl hM.1 ?_
    refine rn_eqi (nI N) h6 ?_
    refine rn_icmp_ge 49 dX7_text_19 rfl (fun h => absurd h (fun z => by rw [hx, nI_leI (by omega) (by omega)] at z; omega)) (fun _ => ?_)
    refine r_aload0 dX7_text_22 ?_
    refine gf_X7_13 dX7_text_23 rfl hM.1 (sm_texts hM).1 ?_
    refine rn_sipush (160) dX7_text_26 (by decide) ?_
    refine r_aload0 dX7_text_29 ?_
    refine gf_X7_91 dX7_text_30 rfl hM.1 ?_
    refine rn_imul dX7_text_33 ?_
    refine r_iload1 dX7_text_34 ?_
    refine rn_iadd dX7_text_35 ?_
    refine rn_eqi (nI (160 * T + i)) (by rw [h3, hx, show (160 : Int32) = nI 160 by decide, pk_mul, nI_add]) ?_
    refine r_aload0 dX7_text_36 ?_
    refine gf_X7_20 dX7_text_37 rfl hM.1 (sm_tape hM).1 ?_
    refine r_iload1 dX7_text_40 ?_
    refine rn_iald i dX7_text_41 (sm_tape hM).2 hx (by omega) (by decide) ?_
    refine rn_eqi (b i) (h78 i hil) ?_
    refine rn_iast (160 * T + i) dX7_text_42 (sm_texts hM).2 rfl (by omega) (by decide) ?_
    refine r_iinc1 _ dX7_text_43 rfl rfl ?_
    refine rn_goto 14 dX7_text_46 rfl ?_
    refine ih (i + 1) _ lv _ (by omega) (by rw [hx]; exact nI_1 i) ((up_ne1 (by decide)).trans h6) ((up_ne1 (by decide)).trans h3) (fun j hj => (up_ne1 (by decide)).trans (h78 j hj)) (fun j hj => ?_) (ho.trans (off_up ⟨rfl, by omega, by omega⟩)) kk
    by_cases e : j = i
    · subst e; rw [up_same]
    · rw [up_ne2 (by omega)]; exact hc j (by omega)
set_option maxRecDepth 4000 in
theorem ct_mtext (D : Nat) (hM : ShM Γ rv) {b : Nat → Int32} {n T : Nat} (h6 : iv 75 6 = nI n) (hn : n ≤ 160) (h3 : iv 75 3 = nI T) (hTT : T ≤ 6) (h78 : ∀ j, j < n → iv 78 j = b j) (hbb : ∀ j, j < n → 0 ≤ b j ∧ b j ≤ 255) : Ct g l mX7_text (D + 47) 0 0 [.ref 75] Γ iv rv lv (qLI Γ rv (fun x iv' _ => x = textQ T b n ∧ Off (Tx T) iv iv' ∧ (T = 6 → iv' = iv) ∧ (T ≠ 6 → iv' 75 6 = 0 ∧ iv' 77 T = nI n ∧ ∀ j, j < n → iv' 76 (160 * T + j) = b j) ∧ (T ≠ 6 → textOK b n → iv' 75 3 = nI (T + 1)) ∧ (¬ (T ≠ 6 ∧ textOK b n) → iv' 75 3 = nI T))) := by
  refine Ct.of (by decide +kernel) (Nat.le_of_ble_eq_true rfl) (Nat.le_of_ble_eq_true rfl) ?_
  refine r_aload0 dX7_text_0 ?_
  refine gf_X7_91 dX7_text_1 rfl hM.1 ?_
  refine rn_eqi (nI T) h3 ?_
  refine rn_bipush (6) dX7_text_4 (by decide) ?_
  refine rn_icmp_ne 12 dX7_text_6 rfl (fun c6 => ?_) (fun c6 => ?_)
  · refine rn_iconst (0) dX7_text_12 (by decide) ?_
    refine r_istore1 dX7_text_13 rfl ?_
    have hT6 : ¬ T = 6 := by rw [show (6 : Int32) = nI 6 by decide, nI_eq (by omega) (by decide)] at c6; exact c6
    have hT : T < 6 := by omega
    obtain ⟨r, hr⟩ := txS_some (b := b) hn
    have hiv0 : iv = iv := rfl
    generalize iv0e : iv = iv0 at h6 h3 h78 ⊢
    refine tx_loop (iv0 := iv0) hM hn hT n 0 iv0 lv _ (Nat.zero_add _) rfl h6 h3 h78 (fun j hj => absurd hj (Nat.not_lt_zero _)) Off.refl (fun iv lv x hx h6 h3 h78 hc ho => ?_)
    refine r_aload0 dX7_text_49 ?_
    refine gf_X7_17 dX7_text_50 rfl hM.1 (sm_textSize hM).1 ?_
    refine r_aload0 dX7_text_53 ?_
    refine gf_X7_91 dX7_text_54 rfl hM.1 ?_
    refine r_aload0 dX7_text_57 ?_
    refine gf_X7_146 dX7_text_58 rfl hM.1 ?_
    refine rn_eqi (nI n) h6 ?_
    refine rn_iast T dX7_text_61 (sm_textSize hM).2 h3 hT (by decide) ?_
    refine r_aload0 dX7_text_62 ?_
    refine rn_iconst (0) dX7_text_63 (by decide) ?_
    refine pf_X7_146 dX7_text_64 rfl hM.1 ?_
    refine r_aload0 dX7_text_67 ?_
    refine r_aload0 dX7_text_68 ?_
    refine gf_X7_91 dX7_text_69 rfl hM.1 ?_
    refine rn_eqi (nI T) h3 ?_
    refine rn_iconst (0) dX7_text_72 (by decide) ?_
    refine cliV2 dX7_text_73 ov_X7_read rfl ml_X7_259 hM.1 rfl (Nat.zero_le _) (Nat.zero_le _) (Nat.zero_le _) (ct_read (iv := (up (up iv 77 T (nI n)) 75 6 0)) D hM rfl hT ((up_ne1 (by decide)).trans (up_same _ _ _ _)) hn (fun j hj => (up_ne1 (by decide)).trans ((up_ne1 (by decide)).trans (hc j hj))) hbb (e := fun j => (up (up iv 77 T (nI n)) 75 6 0) 75 (20 + j)) (fun j _ => rfl) 0 hr) (fun x73 iv lv h73 => ?_)
    refine r_istore1 dX7_text_76 rfl ?_
    refine r_aload0 dX7_text_77 ?_
    have h3r := (h73.1 75 3 (by omega)).trans h3
    have hof : Off (Tx T) iv0 iv := (ho.mono (fun a b z => Or.inl z)).trans (((off_up (Or.inr (Or.inl ⟨rfl, rfl⟩))).trans (off_up (by omega))).trans (h73.1.mono (fun a b z => Or.inr (Or.inr ⟨z.1, by omega⟩))))
    have h6r : iv 75 6 = 0 := (h73.1 75 6 (by omega)).trans (up_same _ _ _ _)
    have hcr : ∀ j, j < n → iv 76 (160 * T + j) = b j := fun j hj => (h73.1 76 _ (by omega)).trans (hc j hj)
    have h77r : iv 77 T = nI n := (h73.1 77 T (by omega)).trans ((up_ne1 (by decide)).trans (up_same _ _ _ _))
    cases r with
    | inl z =>
      obtain ⟨hb1, hb2⟩ := h73.2
      refine gf_X7_181 dX7_text_78 rfl hM.1 ?_
      refine rn_if_eq 92 dX7_text_81 rfl (fun h => absurd h (by rw [hb1]; decide)) (fun _ => ?_)
      refine rn_bipush (-100) dX7_text_84 (by decide) ?_
      refine r_aload0 dX7_text_86 ?_
      refine gf_X7_185 dX7_text_87 rfl hM.1 ?_
      refine rn_eqi (nI z) hb2 ?_
      refine rn_isub dX7_text_90 ?_
      refine rn_iret dX7_text_91 rfl (Nat.zero_le _) (Nat.zero_le _) ?_
      refine ⟨_, rfl, rfl, rfl, ?_, hof, fun z => absurd z hT6, fun _ => ⟨h6r, h77r, hcr⟩, fun _ z => ?_, fun _ => h3r⟩
      · unfold textQ; rw [if_neg hT6, hr]
      · unfold textOK at z; rw [hr] at z; exact z.elim
    | inr q =>
      obtain ⟨hb1, hb2⟩ := h73.2
      refine gf_X7_181 dX7_text_78 rfl hM.1 ?_
      refine rn_if_eq 92 dX7_text_81 rfl (fun _ => ?_) (fun h => absurd hb1 h)
      refine r_aload0 dX7_text_92 ?_
      refine rn_dup dX7_text_93 rfl ?_
      refine gf_X7_91 dX7_text_94 rfl hM.1 ?_
      refine rn_eqi (nI T) h3r ?_
      refine rn_iconst (1) dX7_text_97 (by decide) ?_
      refine rn_iadd dX7_text_98 ?_
      refine rn_eqi (nI (T + 1)) (nI_1 T) ?_
      refine pf_X7_91 dX7_text_99 rfl hM.1 ?_
      refine r_aload0 dX7_text_102 ?_
      refine gf_X7_91 dX7_text_103 rfl hM.1 ?_
      refine rn_eqi (nI (T + 1)) (up_same _ _ _ _) ?_
      refine rn_iconst (1) dX7_text_106 (by decide) ?_
      refine rn_isub dX7_text_107 ?_
      refine rn_eqi (nI T) (nI_pred T) ?_
      refine rn_iret dX7_text_108 rfl (Nat.zero_le _) (Nat.zero_le _) ?_
      refine ⟨_, rfl, rfl, rfl, ?_, hof.trans (off_up (by omega)), fun z => absurd z hT6, fun _ => ⟨(up_ne2 (by decide)).trans h6r, (up_ne1 (by decide)).trans h77r, fun j hj => (up_ne1 (by decide)).trans (hcr j hj)⟩, fun _ _ => rfl, fun z => ?_⟩
      · unfold textQ; rw [if_neg hT6, hr]
      · exact absurd ⟨hT6, by unfold textOK; rw [hr]; exact trivial⟩ z
  · refine rn_bipush (-4) dX7_text_9 (by decide) ?_
    refine rn_iret dX7_text_11 rfl (Nat.zero_le _) (Nat.zero_le _) ?_
    have hT6 : T = 6 := by rw [show (6 : Int32) = nI 6 by decide, nI_eq (by omega) (by decide)] at c6; exact c6
    refine ⟨_, rfl, rfl, rfl, ?_, Off.refl, fun _ => rfl, fun z => absurd hT6 z, fun z => absurd hT6 z, fun _ => h3⟩
    unfold textQ; rw [if_pos hT6]
set_option maxRecDepth 4000 in
theorem ct_mforce (D : Nat) (hM : ShM Γ rv) {ρ : IV} (hR : RM iv ρ) {T : Nat} (h3 : iv 75 3 = nI T) (h1 : 1 ≤ T) (t : Int32) : Ct g l mX7_force (D + 1) 0 0 [.ref 75, .int t] Γ iv rv lv (qCI Γ rv lv (fun x iv' => x = (forceQ ρ T t).1 ∧ RM iv' (forceQ ρ T t).2 ∧ Off Rr iv iv')) := by
  refine Ct.of (by decide +kernel) (Nat.le_of_ble_eq_true rfl) (Nat.le_of_ble_eq_true rfl) ?_
  refine r_iload1 dX7_force_0 ?_
  refine rn_i2l dX7_force_1 ?_
  refine rn_lconst (0) dX7_force_2 (by decide) ?_
  refine r_aload0 dX7_force_3 ?_
  refine gf_X7_91 dX7_force_4 rfl hM.1 ?_
  refine rn_iconst (1) dX7_force_7 (by decide) ?_
  refine rn_isub dX7_force_8 ?_
  refine rn_eqi (nI (T - 1)) (by rw [h3, show (1 : Int32) = nI 1 by decide]; exact pk_sub h1) ?_
  refine rn_i2l dX7_force_9 ?_
  refine cpiS3 dX7_force_10 os_X7_in rfl ml_X7_96 (Nat.zero_le _) (Nat.zero_le _) (Nat.zero_le _) (ct_inI _ (a := 0)  (by decide) rfl) ?_
  refine rn_if_ne 19 dX7_force_13 rfl (fun c13 => ?_) (fun c13 => ?_)
  · have hq1 := bI_1.mp (bI_or.resolve_left c13)
    refine r_aload0 dX7_force_19 ?_
    refine gf_X7_262 dX7_force_20 rfl hM.1 ?_
    refine rn_eqi (ρ 4 8) hR.2.2.2 ?_
    refine r_istore2 dX7_force_23 rfl ?_
    refine r_aload0 dX7_force_24 ?_
    refine r_iload1 dX7_force_25 ?_
    refine pf_X7_262 dX7_force_26 rfl hM.1 ?_
    refine r_iload2 dX7_force_29 ?_
    refine rn_iret dX7_force_30 rfl (Nat.zero_le _) (Nat.zero_le _) ?_
    have e : forceQ ρ T t = (ρ 4 8, up ρ 4 8 t) := by unfold forceQ; rw [if_pos hq1]
    exact ⟨_, rfl, rfl, rfl, rfl, by rw [e], by rw [e]; exact hR.upr, off_up (by decide)⟩
  · refine rn_bipush (-2) dX7_force_16 (by decide) ?_
    refine rn_iret dX7_force_18 rfl (Nat.zero_le _) (Nat.zero_le _) ?_
    have e : forceQ ρ T t = (-2, ρ) := by unfold forceQ; rw [if_neg (bI_0.mp c13)]
    exact ⟨_, rfl, rfl, rfl, rfl, by rw [e], by rw [e]; exact hR, Off.refl⟩
set_option maxRecDepth 4000 in
theorem ct_mcount (D : Nat) (hM : ShM Γ rv) {ρ : IV} (hR : RM iv ρ) {T n : Nat} (h3 : iv 75 3 = nI T) (h6 : iv 75 6 = nI n) (w : Int32) : Ct g l mX7_count (D + 1) 0 0 [.ref 75, .int w] Γ iv rv lv (qPI (countQ ρ T n w) Γ iv rv lv) := by
  refine Ct.of (by decide +kernel) (Nat.le_of_ble_eq_true rfl) (Nat.le_of_ble_eq_true rfl) ?_
  refine r_iload1 dX7_count_0 ?_
  refine rn_i2l dX7_count_1 ?_
  refine rn_lconst (0) dX7_count_2 (by decide) ?_
  refine rn_ldc2 (v := _) dX7_count_3 cl_X7_363 ?_
  refine cpiS3 dX7_count_6 os_X7_in rfl ml_X7_96 (Nat.zero_le _) (Nat.zero_le _) (Nat.zero_le _) (ct_inI _ (a := 0) (b := 7) (by decide) (by decide)) ?_
  refine rn_if_ne 15 dX7_count_9 rfl (fun c9 => ?_) (fun c9 => ?_)
  · have hq1 := bI_1.mp (bI_or.resolve_left c9)
    rcases cw7 hq1 with rfl | rfl | rfl | rfl | rfl | rfl | rfl | rfl
    · refine r_iload1 dX7_count_15 ?_
      refine rn_iconst (5) dX7_count_16 (by decide) ?_
      refine rn_icmp_ge 72 dX7_count_17 rfl (fun h => absurd h (by decide)) (fun _ => ?_)
      refine r_iload1 dX7_count_20 ?_
      refine rn_if_ne 31 dX7_count_21 rfl (fun h => absurd (by decide) h) (fun _ => ?_)
      refine r_aload0 dX7_count_24 ?_
      refine cpiV0 dX7_count_25 ov_X7_left rfl ml_X7_137 hM.1 rfl (Nat.zero_le _) (Nat.zero_le _) (Nat.zero_le _) (ct_left _ hM) ?_
      refine rn_eqi _ hR.left ?_
      refine rn_goto 71 dX7_count_28 rfl ?_
      refine rn_iret dX7_count_71 rfl (Nat.zero_le _) (Nat.zero_le _) ?_
      refine ⟨congrArg (fun z => some (Value.int z)) ?_, rfl, rfl, rfl, rfl⟩
      unfold countQ
      rw [if_pos hq1, show (0 : Int32).toNatClampNeg = 0 from by decide]
      rfl
    · refine r_iload1 dX7_count_15 ?_
      refine rn_iconst (5) dX7_count_16 (by decide) ?_
      refine rn_icmp_ge 72 dX7_count_17 rfl (fun h => absurd h (by decide)) (fun _ => ?_)
      refine r_iload1 dX7_count_20 ?_
      refine rn_if_ne 31 dX7_count_21 rfl (fun _ => ?_) (fun h => absurd h (by decide))
      refine r_iload1 dX7_count_31 ?_
      refine rn_iconst (1) dX7_count_32 (by decide) ?_
      refine rn_icmp_ne 43 dX7_count_33 rfl (fun h => absurd (by decide) h) (fun _ => ?_)
      refine r_aload0 dX7_count_36 ?_
      refine gf_X7_265 dX7_count_37 rfl hM.1 ?_
      refine rn_eqi (ρ 4 4) (hR.2.2.1 4 (by decide) (by decide)) ?_
      refine rn_goto 71 dX7_count_40 rfl ?_
      refine rn_iret dX7_count_71 rfl (Nat.zero_le _) (Nat.zero_le _) ?_
      refine ⟨congrArg (fun z => some (Value.int z)) ?_, rfl, rfl, rfl, rfl⟩
      unfold countQ
      rw [if_pos hq1, show (1 : Int32).toNatClampNeg = 1 from by decide]
      rfl
    · refine r_iload1 dX7_count_15 ?_
      refine rn_iconst (5) dX7_count_16 (by decide) ?_
      refine rn_icmp_ge 72 dX7_count_17 rfl (fun h => absurd h (by decide)) (fun _ => ?_)
      refine r_iload1 dX7_count_20 ?_
      refine rn_if_ne 31 dX7_count_21 rfl (fun _ => ?_) (fun h => absurd h (by decide))
      refine r_iload1 dX7_count_31 ?_
      refine rn_iconst (1) dX7_count_32 (by decide) ?_
      refine rn_icmp_ne 43 dX7_count_33 rfl (fun _ => ?_) (fun h => absurd h (by decide))
      refine r_iload1 dX7_count_43 ?_
      refine rn_iconst (2) dX7_count_44 (by decide) ?_
      refine rn_icmp_ne 55 dX7_count_45 rfl (fun h => absurd (by decide) h) (fun _ => ?_)
      refine r_aload0 dX7_count_48 ?_
      refine gf_X7_50 dX7_count_49 rfl hM.1 ?_
      refine rn_eqi (ρ 4 5) (hR.2.2.1 5 (by decide) (by decide)) ?_
      refine rn_goto 71 dX7_count_52 rfl ?_
      refine rn_iret dX7_count_71 rfl (Nat.zero_le _) (Nat.zero_le _) ?_
      refine ⟨congrArg (fun z => some (Value.int z)) ?_, rfl, rfl, rfl, rfl⟩
      unfold countQ
      rw [if_pos hq1, show (2 : Int32).toNatClampNeg = 2 from by decide]
      rfl
    · refine r_iload1 dX7_count_15 ?_
      refine rn_iconst (5) dX7_count_16 (by decide) ?_
      refine rn_icmp_ge 72 dX7_count_17 rfl (fun h => absurd h (by decide)) (fun _ => ?_)
      refine r_iload1 dX7_count_20 ?_
      refine rn_if_ne 31 dX7_count_21 rfl (fun _ => ?_) (fun h => absurd h (by decide))
      refine r_iload1 dX7_count_31 ?_
      refine rn_iconst (1) dX7_count_32 (by decide) ?_
      refine rn_icmp_ne 43 dX7_count_33 rfl (fun _ => ?_) (fun h => absurd h (by decide))
      refine r_iload1 dX7_count_43 ?_
      refine rn_iconst (2) dX7_count_44 (by decide) ?_
      refine rn_icmp_ne 55 dX7_count_45 rfl (fun _ => ?_) (fun h => absurd h (by decide))
      refine r_iload1 dX7_count_55 ?_
      refine rn_iconst (3) dX7_count_56 (by decide) ?_
      refine rn_icmp_ne 67 dX7_count_57 rfl (fun h => absurd (by decide) h) (fun _ => ?_)
      refine r_aload0 dX7_count_60 ?_
      refine gf_X7_129 dX7_count_61 rfl hM.1 ?_
      refine rn_eqi (ρ 4 6) (hR.2.2.1 6 (by decide) (by decide)) ?_
      refine rn_goto 71 dX7_count_64 rfl ?_
      refine rn_iret dX7_count_71 rfl (Nat.zero_le _) (Nat.zero_le _) ?_
      refine ⟨congrArg (fun z => some (Value.int z)) ?_, rfl, rfl, rfl, rfl⟩
      unfold countQ
      rw [if_pos hq1, show (3 : Int32).toNatClampNeg = 3 from by decide]
      rfl
    · refine r_iload1 dX7_count_15 ?_
      refine rn_iconst (5) dX7_count_16 (by decide) ?_
      refine rn_icmp_ge 72 dX7_count_17 rfl (fun h => absurd h (by decide)) (fun _ => ?_)
      refine r_iload1 dX7_count_20 ?_
      refine rn_if_ne 31 dX7_count_21 rfl (fun _ => ?_) (fun h => absurd h (by decide))
      refine r_iload1 dX7_count_31 ?_
      refine rn_iconst (1) dX7_count_32 (by decide) ?_
      refine rn_icmp_ne 43 dX7_count_33 rfl (fun _ => ?_) (fun h => absurd h (by decide))
      refine r_iload1 dX7_count_43 ?_
      refine rn_iconst (2) dX7_count_44 (by decide) ?_
      refine rn_icmp_ne 55 dX7_count_45 rfl (fun _ => ?_) (fun h => absurd h (by decide))
      refine r_iload1 dX7_count_55 ?_
      refine rn_iconst (3) dX7_count_56 (by decide) ?_
      refine rn_icmp_ne 67 dX7_count_57 rfl (fun _ => ?_) (fun h => absurd h (by decide))
      refine r_aload0 dX7_count_67 ?_
      refine gf_X7_53 dX7_count_68 rfl hM.1 ?_
      refine rn_eqi (ρ 4 7) (hR.2.2.1 7 (by decide) (by decide)) ?_
      refine rn_iret dX7_count_71 rfl (Nat.zero_le _) (Nat.zero_le _) ?_
      refine ⟨congrArg (fun z => some (Value.int z)) ?_, rfl, rfl, rfl, rfl⟩
      unfold countQ
      rw [if_pos hq1, show (4 : Int32).toNatClampNeg = 4 from by decide]
      rfl
    · refine r_iload1 dX7_count_15 ?_
      refine rn_iconst (5) dX7_count_16 (by decide) ?_
      refine rn_icmp_ge 72 dX7_count_17 rfl (fun _ => ?_) (fun h => absurd (by decide) h)
      refine r_iload1 dX7_count_72 ?_
      refine rn_iconst (5) dX7_count_73 (by decide) ?_
      refine rn_icmp_ne 84 dX7_count_74 rfl (fun h => absurd (by decide) h) (fun _ => ?_)
      refine r_aload0 dX7_count_77 ?_
      refine gf_X7_91 dX7_count_78 rfl hM.1 ?_
      refine rn_eqi (nI T) h3 ?_
      refine rn_goto 101 dX7_count_81 rfl ?_
      refine rn_iret dX7_count_101 rfl (Nat.zero_le _) (Nat.zero_le _) ?_
      refine ⟨congrArg (fun z => some (Value.int z)) ?_, rfl, rfl, rfl, rfl⟩
      unfold countQ
      rw [if_pos hq1, show (5 : Int32).toNatClampNeg = 5 from by decide]
      rfl
    · refine r_iload1 dX7_count_15 ?_
      refine rn_iconst (5) dX7_count_16 (by decide) ?_
      refine rn_icmp_ge 72 dX7_count_17 rfl (fun _ => ?_) (fun h => absurd (by decide) h)
      refine r_iload1 dX7_count_72 ?_
      refine rn_iconst (5) dX7_count_73 (by decide) ?_
      refine rn_icmp_ne 84 dX7_count_74 rfl (fun _ => ?_) (fun h => absurd h (by decide))
      refine r_iload1 dX7_count_84 ?_
      refine rn_bipush (6) dX7_count_85 (by decide) ?_
      refine rn_icmp_ne 97 dX7_count_87 rfl (fun h => absurd (by decide) h) (fun _ => ?_)
      refine r_aload0 dX7_count_90 ?_
      refine gf_X7_146 dX7_count_91 rfl hM.1 ?_
      refine rn_eqi (nI n) h6 ?_
      refine rn_goto 101 dX7_count_94 rfl ?_
      refine rn_iret dX7_count_101 rfl (Nat.zero_le _) (Nat.zero_le _) ?_
      refine ⟨congrArg (fun z => some (Value.int z)) ?_, rfl, rfl, rfl, rfl⟩
      unfold countQ
      rw [if_pos hq1, show (6 : Int32).toNatClampNeg = 6 from by decide]
      rfl
    · refine r_iload1 dX7_count_15 ?_
      refine rn_iconst (5) dX7_count_16 (by decide) ?_
      refine rn_icmp_ge 72 dX7_count_17 rfl (fun _ => ?_) (fun h => absurd (by decide) h)
      refine r_iload1 dX7_count_72 ?_
      refine rn_iconst (5) dX7_count_73 (by decide) ?_
      refine rn_icmp_ne 84 dX7_count_74 rfl (fun _ => ?_) (fun h => absurd h (by decide))
      refine r_iload1 dX7_count_84 ?_
      refine rn_bipush (6) dX7_count_85 (by decide) ?_
      refine rn_icmp_ne 97 dX7_count_87 rfl (fun _ => ?_) (fun h => absurd h (by decide))
      refine r_aload0 dX7_count_97 ?_
      refine gf_X7_262 dX7_count_98 rfl hM.1 ?_
      refine rn_eqi (ρ 4 8) hR.2.2.2 ?_
      refine rn_iret dX7_count_101 rfl (Nat.zero_le _) (Nat.zero_le _) ?_
      refine ⟨congrArg (fun z => some (Value.int z)) ?_, rfl, rfl, rfl, rfl⟩
      unfold countQ
      rw [if_pos hq1, show (7 : Int32).toNatClampNeg = 7 from by decide]
      rfl
  · refine rn_bipush (-2) dX7_count_12 (by decide) ?_
    refine rn_iret dX7_count_14 rfl (Nat.zero_le _) (Nat.zero_le _) ?_
    refine ⟨congrArg (fun z => some (Value.int z)) ?_, rfl, rfl, rfl, rfl⟩
    unfold countQ
    rw [if_neg (bI_0.mp c9)]
end MFEED
