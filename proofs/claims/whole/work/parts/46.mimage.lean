/-! THE REFERENCE: image, back -/
/-- what an image keeps -/
def KpM (iv κ : IV) : Prop := (∀ y, y < 24 → iv 91 y = κ 0 y ∧ iv 92 y = κ 1 y) ∧ (∀ k γ, 3 ≤ k → k ≤ 7 → γ < 2 → iv 93 (5 * γ + (k - 3)) = κ (2 + γ) k) ∧ ∀ k, 4 ≤ k → k ≤ 8 → iv 75 (42 + k) = κ 4 k
abbrev Ik (a _ : Nat) : Prop := 91 ≤ a ∧ a ≤ 93
abbrev Im (a b : Nat) : Prop := (88 ≤ a ∧ a ≤ 93) ∨ (a = 75 ∧ (b = 38 ∨ b = 39 ∨ (45 ≤ b ∧ b ≤ 50)))
abbrev Bi (a b : Nat) : Prop := (79 ≤ a ∧ a ≤ 90) ∨ (a = 75 ∧ (b = 4 ∨ b = 38 ∨ b = 39 ∨ (16 ≤ b ∧ b ≤ 19)))
abbrev Bw (a _ : Nat) : Prop := 88 ≤ a ∧ a ≤ 90
def I1 (ρ : IV) (i : Nat) (iv : IV) : Prop := (RM iv ρ ∧ AsM iv ρ) ∧ ∀ y, y < i → iv 91 y = ρ 0 y ∧ iv 92 y = ρ 1 y
def I2 (ρ : IV) (i : Nat) (iv : IV) : Prop := I1 ρ 24 iv ∧ ∀ q, q < i → iv 93 q = iv 90 q
theorem I1.ik {ρ iv iv' : IV} (h : RM iv ρ ∧ AsM iv ρ) (ho : Off Ik iv iv') : RM iv' ρ ∧ AsM iv' ρ := ⟨h.1.offP ho (fun a b z => Or.inr (by omega)), h.2.off ho (fun a b z => by omega)⟩
theorem I1.step {ρ iv : IV} {i : Nat} (h : I1 ρ i iv) : I1 ρ (i + 1) (up (up iv 91 i (ρ 0 i)) 92 i (ρ 1 i)) := by
  refine ⟨I1.ik h.1 ((off_up (by omega)).trans (off_up (by omega))), fun y hy => ?_⟩
  by_cases e : y = i
  · subst e; exact ⟨by rw [up_ne1 (by decide), up_same], by rw [up_same]⟩
  · rw [up_ne1 (by decide), up_ne2 e, up_ne2 e, up_ne1 (by decide)]; exact h.2 y (by omega)
theorem I2.step {ρ iv : IV} {i : Nat} (h : I2 ρ i iv) : I2 ρ (i + 1) (up iv 93 i (iv 90 i)) := by
  refine ⟨⟨I1.ik h.1.1 (off_up (by omega)), fun y hy => ?_⟩, fun q hq => ?_⟩
  · rw [up_ne1 (by decide), up_ne1 (by decide)]; exact h.1.2 y hy
  · rw [up_ne1 (by decide) (a := 90)]
    by_cases e : q = i
    · subst e; rw [up_same]
    · rw [up_ne2 e]; exact h.2 q (by omega)
/-- the image's cells over the kinds, numbers and what else is not laid aside -/
def mxS (κ ρ : IV) : IV := fun a b => if ((a = 2 ∨ a = 3) ∧ (b = 1 ∨ b = 2)) ∨ (a = 4 ∧ 6 ≤ b ∧ b ≤ 8) then ρ a b else κ a b
def bkS (κ ρ : IV) : IV := up (up (up (mxS κ ρ) 4 6 (κ 4 6)) 4 7 (κ 4 7)) 4 8 (κ 4 8)
def backQ (im : Int32) (κ ρ : IV) : Int32 × IV := if im = 0 then (-3, ρ) else (κ 4 4, bkS κ ρ)
theorem kp_mx {κ ρ : IV} : Kp (mxS κ ρ) ρ := ⟨fun k γ a b c => (if_pos (Or.inl (by omega))).symm, rfl, rfl, rfl⟩
theorem mx_no {κ ρ : IV} {a b : Nat} (h : ¬ (((a = 2 ∨ a = 3) ∧ (b = 1 ∨ b = 2)) ∨ (a = 4 ∧ 6 ≤ b ∧ b ≤ 8))) : mxS κ ρ a b = κ a b := if_neg h
def J1 (κ ρ : IV) (i : Nat) (iv : IV) : Prop := (RM iv ρ ∧ KpM iv κ) ∧ ∀ y, y < i → iv 88 y = κ 0 y ∧ iv 89 y = κ 1 y
def J2 (κ ρ : IV) (i : Nat) (iv : IV) : Prop := J1 κ ρ 24 iv ∧ ∀ q, q < i → iv 90 q = iv 93 q
theorem KpM.off {iv iv' κ : IV} {P : Nat → Nat → Prop} (h : KpM iv κ) (ho : Off P iv iv') (hp : ∀ a b, P a b → ¬ ((91 ≤ a ∧ a ≤ 93) ∨ (a = 75 ∧ 46 ≤ b ∧ b ≤ 50))) : KpM iv' κ :=
  ⟨fun y hy => ⟨(ho _ _ (fun z => hp _ _ z (by omega))).trans (h.1 y hy).1, (ho _ _ (fun z => hp _ _ z (by omega))).trans (h.1 y hy).2⟩, fun k γ h1 h2 h3 => (ho _ _ (fun z => hp _ _ z (by omega))).trans (h.2.1 k γ h1 h2 h3), fun k h1 h2 => (ho _ _ (fun z => hp _ _ z (by omega))).trans (h.2.2 k h1 h2)⟩
theorem J1.bw {κ ρ iv iv' : IV} (h : RM iv ρ ∧ KpM iv κ) (ho : Off Bw iv iv') : RM iv' ρ ∧ KpM iv' κ := ⟨h.1.offP ho (fun a b z => Or.inr (by omega)), h.2.off ho (fun a b z => by omega)⟩
theorem J1.step {κ ρ iv : IV} {i : Nat} (h : J1 κ ρ i iv) : J1 κ ρ (i + 1) (up (up iv 88 i (κ 0 i)) 89 i (κ 1 i)) := by
  refine ⟨J1.bw h.1 ((off_up (by omega)).trans (off_up (by omega))), fun y hy => ?_⟩
  by_cases e : y = i
  · subst e; exact ⟨by rw [up_ne1 (by decide), up_same], by rw [up_same]⟩
  · rw [up_ne1 (by decide), up_ne2 e, up_ne2 e, up_ne1 (by decide)]; exact h.2 y (by omega)
theorem J2.step {κ ρ iv : IV} {i : Nat} (h : J2 κ ρ i iv) : J2 κ ρ (i + 1) (up iv 90 i (iv 93 i)) := by
  refine ⟨⟨J1.bw h.1.1 (off_up (by omega)), fun y hy => ?_⟩, fun q hq => ?_⟩
  · rw [up_ne1 (by decide), up_ne1 (by decide)]; exact h.1.2 y hy
  · rw [up_ne1 (by decide) (a := 93)]
    by_cases e : q = i
    · subst e; rw [up_same]
    · rw [up_ne2 e]; exact h.2 q (by omega)
section MIMAGE
variable {g : GS} {l : Launch} {Γ : Sh} {iv : IV} {rv : RV} {lv : LV}
set_option maxRecDepth 4000 in
theorem im_loop {D : Nat} {Q : Qt} (hM : ShM Γ rv) {ρ iv0 : IV} : ∀ (n i : Nat) (iv : IV) (x : Int32), i + n = 24 → x = nI i → Off Im iv0 iv → I1 ρ i iv → (∀ iv' x, x = nI 24 → Off Im iv0 iv' → I1 ρ 24 iv' → Rn g l mX7_image (rmA (D) 0 0) Q 0 0 42 [.ref 75, .int x] [] Γ iv' rv lv) → Rn g l mX7_image (rmA (D) 0 0) Q 0 0 6 [.ref 75, .int x] [] Γ iv rv lv := by
  intro n
  induction n with
  | zero =>
    intro i iv x hn hx ho hi kk
    obtain rfl : i = 24 := by omega
    refine r_iload1 dX7_image_6 ?_
    refine rn_bipush (24) dX7_image_7 (by decide) ?_
    refine rn_icmp_ge 42 dX7_image_9 rfl (fun _ => ?_) (fun h => absurd (by rw [hx, show (24 : Int32) = nI 24 by decide]; exact nI_le (Nat.le_refl _) (by decide)) h)
    exact kk _ _ hx ho hi
  | succ n ih =>
    intro i iv x hn hx ho hi kk
    have hil : i < 24 := by omega
    refine r_iload1 dX7_image_6 ?_
    refine rn_bipush (24) dX7_image_7 (by decide) ?_
    refine rn_icmp_ge 42 dX7_image_9 rfl (fun h => absurd h (fun z => by rw [hx, show (24 : Int32) = nI 24 by decide, nI_leI (by decide) (by omega)] at z; omega)) (fun _ => ?_)
    refine r_aload0 dX7_image_12 ?_
    refine gf_X7_65 dX7_image_13 rfl hM.1 (sm_groundsKept hM).1 ?_
    refine r_iload1 dX7_image_16 ?_
    refine r_aload0 dX7_image_17 ?_
    refine gf_X7_56 dX7_image_18 rfl hM.1 (sm_groundsWas hM).1 ?_
    refine r_iload1 dX7_image_21 ?_
    refine rn_iald i dX7_image_22 (sm_groundsWas hM).2 hx hil (by decide) ?_
    refine rn_eqi (ρ 0 i) (hi.1.2.1 i hil).1 ?_
    refine rn_iast i dX7_image_23 (sm_groundsKept hM).2 hx hil (by decide) ?_
    refine r_aload0 dX7_image_24 ?_
    refine gf_X7_68 dX7_image_25 rfl hM.1 (sm_knownKept hM).1 ?_
    refine r_iload1 dX7_image_28 ?_
    refine r_aload0 dX7_image_29 ?_
    refine gf_X7_59 dX7_image_30 rfl hM.1 (sm_knownWas hM).1 ?_
    refine r_iload1 dX7_image_33 ?_
    refine rn_iald i dX7_image_34 (sm_knownWas hM).2 hx hil (by decide) ?_
    refine rn_eqi (ρ 1 i) (hi.1.2.1 i hil).2 ?_
    refine rn_iast i dX7_image_35 (sm_knownKept hM).2 hx hil (by decide) ?_
    refine r_iinc1 _ dX7_image_36 rfl rfl ?_
    refine rn_goto 6 dX7_image_39 rfl ?_
    exact ih (i + 1) (up (up iv 91 i (ρ 0 i)) 92 i (ρ 1 i)) _ (by omega) (by rw [hx]; exact nI_1 i) ((ho.trans (off_up (by omega))).trans (off_up (by omega))) hi.step kk
set_option maxRecDepth 4000 in
theorem im_loop2 {D : Nat} {Q : Qt} (hM : ShM Γ rv) {ρ iv0 : IV} : ∀ (n i : Nat) (iv : IV) (x : Int32), i + n = 10 → x = nI i → Off Im iv0 iv → I2 ρ i iv → (∀ iv' x, x = nI 10 → Off Im iv0 iv' → I2 ρ 10 iv' → Rn g l mX7_image (rmA (D) 0 0) Q 0 0 68 [.ref 75, .int x] [] Γ iv' rv lv) → Rn g l mX7_image (rmA (D) 0 0) Q 0 0 44 [.ref 75, .int x] [] Γ iv rv lv := by
  intro n
  induction n with
  | zero =>
    intro i iv x hn hx ho hi kk
    obtain rfl : i = 10 := by omega
    refine r_iload1 dX7_image_44 ?_
    refine rn_bipush (10) dX7_image_45 (by decide) ?_
    refine rn_icmp_ge 68 dX7_image_47 rfl (fun _ => ?_) (fun h => absurd (by rw [hx, show (10 : Int32) = nI 10 by decide]; exact nI_le (Nat.le_refl _) (by decide)) h)
    exact kk _ _ hx ho hi
  | succ n ih =>
    intro i iv x hn hx ho hi kk
    have hil : i < 10 := by omega
    refine r_iload1 dX7_image_44 ?_
    refine rn_bipush (10) dX7_image_45 (by decide) ?_
    refine rn_icmp_ge 68 dX7_image_47 rfl (fun h => absurd h (fun z => by rw [hx, show (10 : Int32) = nI 10 by decide, nI_leI (by decide) (by omega)] at z; omega)) (fun _ => ?_)
    refine r_aload0 dX7_image_50 ?_
    refine gf_X7_71 dX7_image_51 rfl hM.1 (sm_gangsKept hM).1 ?_
    refine r_iload1 dX7_image_54 ?_
    refine r_aload0 dX7_image_55 ?_
    refine gf_X7_62 dX7_image_56 rfl hM.1 (sm_gangsWas hM).1 ?_
    refine r_iload1 dX7_image_59 ?_
    refine rn_iald i dX7_image_60 (sm_gangsWas hM).2 hx hil (by decide) ?_
    refine rn_iast i dX7_image_61 (sm_gangsKept hM).2 hx hil (by decide) ?_
    refine r_iinc1 _ dX7_image_62 rfl rfl ?_
    refine rn_goto 44 dX7_image_65 rfl ?_
    exact ih (i + 1) (up iv 93 i (iv 90 i)) _ (by omega) (by rw [hx]; exact nI_1 i) (ho.trans (off_up (by omega))) hi.step kk
set_option maxRecDepth 4000 in
theorem ct_mimage (D : Nat) (hM : ShM Γ rv) {ρ : IV} (hR : RM iv ρ) : Ct g l mX7_image (D + 1) 0 0 [.ref 75] Γ iv rv lv (qCI Γ rv lv (fun x iv' => x = ρ 4 4 ∧ Off Im iv iv' ∧ RM iv' ρ ∧ iv' 75 45 = 1 ∧ KpM iv' ρ)) := by
  refine Ct.of (by decide +kernel) (Nat.le_of_ble_eq_true rfl) (Nat.le_of_ble_eq_true rfl) ?_
  refine r_aload0 dX7_image_0 ?_
  refine ccvV0 dX7_image_1 ov_X7_laysAside rfl ml_X7_298 hM.1 rfl (Nat.zero_le _) (Nat.zero_le _) (Nat.zero_le _) (ct_laysAside _ hM hR) (fun iv2 h1 => ?_)
  refine rn_iconst (0) dX7_image_4 (by decide) ?_
  refine r_istore1 dX7_image_5 rfl ?_
  refine im_loop (iv0 := iv) hM 24 0 iv2 _ (by decide) rfl (h1.1.mono (fun a b z => by omega)) ⟨h1.2, fun y hy => absurd hy (Nat.not_lt_zero _)⟩ (fun iv3 x hx ho hi => ?_)
  refine rn_iconst (0) dX7_image_42 (by decide) ?_
  refine r_istore1 dX7_image_43 rfl ?_
  refine im_loop2 (iv0 := iv) hM 10 0 iv3 _ (by decide) rfl ho ⟨hi, fun y hy => absurd hy (Nat.not_lt_zero _)⟩ (fun iv4 x hx ho hi => ?_)
  refine r_aload0 dX7_image_68 ?_
  refine rn_iconst (1) dX7_image_69 (by decide) ?_
  refine pf_X7_345 dX7_image_70 rfl (Or.inr rfl) hM.1 ?_
  refine r_aload0 dX7_image_73 ?_
  refine r_aload0 dX7_image_74 ?_
  refine gf_X7_265 dX7_image_75 rfl hM.1 ?_
  refine rn_eqi (ρ 4 4) (hi.1.1.1.2.2.1 4 (by decide) (by decide)) ?_
  refine pf_X7_348 dX7_image_78 rfl hM.1 ?_
  refine r_aload0 dX7_image_81 ?_
  refine r_aload0 dX7_image_82 ?_
  refine gf_X7_50 dX7_image_83 rfl hM.1 ?_
  refine rn_eqi (ρ 4 5) (hi.1.1.1.2.2.1 5 (by decide) (by decide)) ?_
  refine pf_X7_351 dX7_image_86 rfl hM.1 ?_
  refine r_aload0 dX7_image_89 ?_
  refine r_aload0 dX7_image_90 ?_
  refine gf_X7_129 dX7_image_91 rfl hM.1 ?_
  refine rn_eqi (ρ 4 6) (hi.1.1.1.2.2.1 6 (by decide) (by decide)) ?_
  refine pf_X7_354 dX7_image_94 rfl hM.1 ?_
  refine r_aload0 dX7_image_97 ?_
  refine r_aload0 dX7_image_98 ?_
  refine gf_X7_53 dX7_image_99 rfl hM.1 ?_
  refine rn_eqi (ρ 4 7) (hi.1.1.1.2.2.1 7 (by decide) (by decide)) ?_
  refine pf_X7_357 dX7_image_102 rfl hM.1 ?_
  refine r_aload0 dX7_image_105 ?_
  refine r_aload0 dX7_image_106 ?_
  refine gf_X7_262 dX7_image_107 rfl hM.1 ?_
  refine rn_eqi (ρ 4 8) hi.1.1.1.2.2.2 ?_
  refine pf_X7_360 dX7_image_110 rfl hM.1 ?_
  refine r_aload0 dX7_image_113 ?_
  refine gf_X7_265 dX7_image_114 rfl hM.1 ?_
  refine rn_eqi (ρ 4 4) (hi.1.1.1.2.2.1 4 (by decide) (by decide)) ?_
  refine rn_iret dX7_image_117 rfl (Nat.zero_le _) (Nat.zero_le _) ?_
  refine ⟨_, rfl, rfl, rfl, rfl, rfl, ((((((ho.trans (off_up (by decide))).trans (off_up (by decide))).trans (off_up (by decide))).trans (off_up (by decide))).trans (off_up (by decide))).trans (off_up (by decide))), ?_, rfl, ?_⟩
  · exact hi.1.1.1.offP (P := fun a b => a = 75 ∧ 45 ≤ b) (((((((Off.refl.trans (off_up (by decide))).trans (off_up (by decide))).trans (off_up (by decide))).trans (off_up (by decide))).trans (off_up (by decide))).trans (off_up (by decide)))) (fun a b z => by omega)
  · exact ⟨fun y hy => hi.1.2 y hy, fun k γ h1 h2 h3 => (hi.2 (5 * γ + (k - 3)) (by omega)).trans (hi.1.1.2.2.1 k γ h1 h2 h3), fun k h1 h2 => match k, h1, h2 with
      | 4, _, _ => rfl | 5, _, _ => rfl | 6, _, _ => rfl | 7, _, _ => rfl | 8, _, _ => rfl⟩
set_option maxRecDepth 4000 in
theorem bk_loop {D : Nat} {Q : Qt} (hM : ShM Γ rv) {κ ρ iv0 : IV} : ∀ (n i : Nat) (iv : IV) (x : Int32), i + n = 24 → x = nI i → Off Bi iv0 iv → J1 κ ρ i iv → (∀ iv' x, x = nI 24 → Off Bi iv0 iv' → J1 κ ρ 24 iv' → Rn g l mX7_back (rmA (D) 0 0) Q 0 0 48 [.ref 75, .int x] [] Γ iv' rv lv) → Rn g l mX7_back (rmA (D) 0 0) Q 0 0 12 [.ref 75, .int x] [] Γ iv rv lv := by
  intro n
  induction n with
  | zero =>
    intro i iv x hn hx ho hi kk
    obtain rfl : i = 24 := by omega
    refine r_iload1 dX7_back_12 ?_
    refine rn_bipush (24) dX7_back_13 (by decide) ?_
    refine rn_icmp_ge 48 dX7_back_15 rfl (fun _ => ?_) (fun h => absurd (by rw [hx, show (24 : Int32) = nI 24 by decide]; exact nI_le (Nat.le_refl _) (by decide)) h)
    exact kk _ _ hx ho hi
  | succ n ih =>
    intro i iv x hn hx ho hi kk
    have hil : i < 24 := by omega
    refine r_iload1 dX7_back_12 ?_
    refine rn_bipush (24) dX7_back_13 (by decide) ?_
    refine rn_icmp_ge 48 dX7_back_15 rfl (fun h => absurd h (fun z => by rw [hx, show (24 : Int32) = nI 24 by decide, nI_leI (by decide) (by omega)] at z; omega)) (fun _ => ?_)
    refine r_aload0 dX7_back_18 ?_
    refine gf_X7_56 dX7_back_19 rfl hM.1 (sm_groundsWas hM).1 ?_
    refine r_iload1 dX7_back_22 ?_
    refine r_aload0 dX7_back_23 ?_
    refine gf_X7_65 dX7_back_24 rfl hM.1 (sm_groundsKept hM).1 ?_
    refine r_iload1 dX7_back_27 ?_
    refine rn_iald i dX7_back_28 (sm_groundsKept hM).2 hx hil (by decide) ?_
    refine rn_eqi (κ 0 i) (hi.1.2.1 i hil).1 ?_
    refine rn_iast i dX7_back_29 (sm_groundsWas hM).2 hx hil (by decide) ?_
    refine r_aload0 dX7_back_30 ?_
    refine gf_X7_59 dX7_back_31 rfl hM.1 (sm_knownWas hM).1 ?_
    refine r_iload1 dX7_back_34 ?_
    refine r_aload0 dX7_back_35 ?_
    refine gf_X7_68 dX7_back_36 rfl hM.1 (sm_knownKept hM).1 ?_
    refine r_iload1 dX7_back_39 ?_
    refine rn_iald i dX7_back_40 (sm_knownKept hM).2 hx hil (by decide) ?_
    refine rn_eqi (κ 1 i) (hi.1.2.1 i hil).2 ?_
    refine rn_iast i dX7_back_41 (sm_knownWas hM).2 hx hil (by decide) ?_
    refine r_iinc1 _ dX7_back_42 rfl rfl ?_
    refine rn_goto 12 dX7_back_45 rfl ?_
    exact ih (i + 1) (up (up iv 88 i (κ 0 i)) 89 i (κ 1 i)) _ (by omega) (by rw [hx]; exact nI_1 i) ((ho.trans (off_up (by omega))).trans (off_up (by omega))) hi.step kk
set_option maxRecDepth 4000 in
theorem bk_loop2 {D : Nat} {Q : Qt} (hM : ShM Γ rv) {κ ρ iv0 : IV} : ∀ (n i : Nat) (iv : IV) (x : Int32), i + n = 10 → x = nI i → Off Bi iv0 iv → J2 κ ρ i iv → (∀ iv' x, x = nI 10 → Off Bi iv0 iv' → J2 κ ρ 10 iv' → Rn g l mX7_back (rmA (D) 0 0) Q 0 0 74 [.ref 75, .int x] [] Γ iv' rv lv) → Rn g l mX7_back (rmA (D) 0 0) Q 0 0 50 [.ref 75, .int x] [] Γ iv rv lv := by
  intro n
  induction n with
  | zero =>
    intro i iv x hn hx ho hi kk
    obtain rfl : i = 10 := by omega
    refine r_iload1 dX7_back_50 ?_
    refine rn_bipush (10) dX7_back_51 (by decide) ?_
    refine rn_icmp_ge 74 dX7_back_53 rfl (fun _ => ?_) (fun h => absurd (by rw [hx, show (10 : Int32) = nI 10 by decide]; exact nI_le (Nat.le_refl _) (by decide)) h)
    exact kk _ _ hx ho hi
  | succ n ih =>
    intro i iv x hn hx ho hi kk
    have hil : i < 10 := by omega
    refine r_iload1 dX7_back_50 ?_
    refine rn_bipush (10) dX7_back_51 (by decide) ?_
    refine rn_icmp_ge 74 dX7_back_53 rfl (fun h => absurd h (fun z => by rw [hx, show (10 : Int32) = nI 10 by decide, nI_leI (by decide) (by omega)] at z; omega)) (fun _ => ?_)
    refine r_aload0 dX7_back_56 ?_
    refine gf_X7_62 dX7_back_57 rfl hM.1 (sm_gangsWas hM).1 ?_
    refine r_iload1 dX7_back_60 ?_
    refine r_aload0 dX7_back_61 ?_
    refine gf_X7_71 dX7_back_62 rfl hM.1 (sm_gangsKept hM).1 ?_
    refine r_iload1 dX7_back_65 ?_
    refine rn_iald i dX7_back_66 (sm_gangsKept hM).2 hx hil (by decide) ?_
    refine rn_iast i dX7_back_67 (sm_gangsWas hM).2 hx hil (by decide) ?_
    refine r_iinc1 _ dX7_back_68 rfl rfl ?_
    refine rn_goto 50 dX7_back_71 rfl ?_
    exact ih (i + 1) (up iv 90 i (iv 93 i)) _ (by omega) (by rw [hx]; exact nI_1 i) (ho.trans (off_up (by omega))) hi.step kk
set_option maxRecDepth 4000 in
theorem ct_mback (D : Nat) (hM : ShM Γ rv) {κ ρ : IV} (hR : RM iv ρ) {im : Int32} (h45 : iv 75 45 = im) (hK : ¬ im = 0 → KpM iv κ) : Ct g l mX7_back (D + 1) 0 0 [.ref 75] Γ iv rv lv (qCI Γ rv lv (fun x iv' => x = (backQ im κ ρ).1 ∧ RM iv' (backQ im κ ρ).2 ∧ Off Bi iv iv')) := by
  refine Ct.of (by decide +kernel) (Nat.le_of_ble_eq_true rfl) (Nat.le_of_ble_eq_true rfl) ?_
  refine r_aload0 dX7_back_0 ?_
  refine gf_X7_345 dX7_back_1 rfl hM.1 ?_
  refine rn_if_ne 10 dX7_back_4 rfl (fun c4 => ?_) (fun c4 => ?_)
  · refine rn_iconst (0) dX7_back_10 (by decide) ?_
    refine r_istore1 dX7_back_11 rfl ?_
    refine bk_loop (iv0 := iv) (κ := κ) (ρ := ρ) hM 24 0 iv _ (by decide) rfl Off.refl ⟨⟨hR, hK (by rw [← h45]; exact c4)⟩, fun y hy => absurd hy (Nat.not_lt_zero _)⟩ (fun iv3 x hx ho hi => ?_)
    refine rn_iconst (0) dX7_back_48 (by decide) ?_
    refine r_istore1 dX7_back_49 rfl ?_
    refine bk_loop2 (iv0 := iv) (κ := κ) (ρ := ρ) hM 10 0 iv3 _ (by decide) rfl ho ⟨hi, fun y hy => absurd hy (Nat.not_lt_zero _)⟩ (fun iv4 x hx ho hi => ?_)
    refine r_aload0 dX7_back_74 ?_
    refine r_aload0 dX7_back_75 ?_
    refine gf_X7_348 dX7_back_76 rfl hM.1 ?_
    refine rn_eqi (κ 4 4) (hi.1.1.2.2.2 4 (by decide) (by decide)) ?_
    refine pf_X7_285 dX7_back_79 rfl hM.1 ?_
    refine r_aload0 dX7_back_82 ?_
    refine r_aload0 dX7_back_83 ?_
    refine gf_X7_351 dX7_back_84 rfl hM.1 ?_
    refine rn_eqi (κ 4 5) (hi.1.1.2.2.2 5 (by decide) (by decide)) ?_
    refine pf_X7_288 dX7_back_87 rfl hM.1 ?_
    have hA : AsM (up (up iv4 75 38 (κ 4 4)) 75 39 (κ 4 5)) (mxS κ ρ) := ⟨fun y hy => ⟨(hi.1.2 y hy).1.trans (mx_no (by omega)).symm, (hi.1.2 y hy).2.trans (mx_no (by omega)).symm⟩, fun k γ h1 h2 h3 => ((hi.2 (5 * γ + (k - 3)) (by omega)).trans (hi.1.1.2.2.1 k γ h1 h2 h3)).trans (mx_no (by omega)).symm, rfl, rfl⟩
    have hRb : RM (up (up iv4 75 38 (κ 4 4)) 75 39 (κ 4 5)) ρ := hi.1.1.1.offP (P := fun a b => a = 75 ∧ 38 ≤ b) ((off_up (by decide)).trans (off_up (by decide))) (fun a b z => by omega)
    refine r_aload0 dX7_back_90 ?_
    refine ccvV0 dX7_back_91 ov_X7_laysBack rfl ml_X7_308 hM.1 rfl (Nat.zero_le _) (Nat.zero_le _) (Nat.zero_le _) (ct_laysBack _ hM hRb hA kp_mx) (fun iv h91 => ?_)
    refine r_aload0 dX7_back_94 ?_
    refine r_aload0 dX7_back_95 ?_
    refine gf_X7_354 dX7_back_96 rfl hM.1 ?_
    refine rn_eqi (κ 4 6) ((h91.1 75 48 (by decide)).trans (hi.1.1.2.2.2 6 (by decide) (by decide))) ?_
    refine pf_X7_129 dX7_back_99 rfl hM.1 ?_
    refine r_aload0 dX7_back_102 ?_
    refine r_aload0 dX7_back_103 ?_
    refine gf_X7_357 dX7_back_104 rfl hM.1 ?_
    refine rn_eqi (κ 4 7) ((h91.1 75 49 (by decide)).trans (hi.1.1.2.2.2 7 (by decide) (by decide))) ?_
    refine pf_X7_53 dX7_back_107 rfl hM.1 ?_
    refine r_aload0 dX7_back_110 ?_
    refine r_aload0 dX7_back_111 ?_
    refine gf_X7_360 dX7_back_112 rfl hM.1 ?_
    refine rn_eqi (κ 4 8) ((h91.1 75 50 (by decide)).trans (hi.1.1.2.2.2 8 (by decide) (by decide))) ?_
    refine pf_X7_262 dX7_back_115 rfl hM.1 ?_
    refine r_aload0 dX7_back_118 ?_
    refine gf_X7_265 dX7_back_119 rfl hM.1 ?_
    refine rn_eqi (κ 4 4) ((h91.2.2.2.1 4 (by decide) (by decide)).trans (mx_no (by decide))) ?_
    refine rn_iret dX7_back_122 rfl (Nat.zero_le _) (Nat.zero_le _) ?_
    have e : backQ im κ ρ = (κ 4 4, bkS κ ρ) := by unfold backQ; rw [if_neg (by rw [← h45]; exact c4)]
    refine ⟨_, rfl, rfl, rfl, rfl, by rw [e], ?_, ?_⟩
    · rw [e]; exact ((h91.2.ups 6 (by decide) (by decide)).ups 7 (by decide) (by decide)).upr
    · exact ((((((ho.trans (off_up (by decide))).trans (off_up (by decide))).trans (h91.1.mono (fun a b z => by omega))).trans (off_up (by decide))).trans (off_up (by decide))).trans (off_up (by decide)))
  · refine rn_bipush (-3) dX7_back_7 (by decide) ?_
    refine rn_iret dX7_back_9 rfl (Nat.zero_le _) (Nat.zero_le _) ?_
    have e : backQ im κ ρ = (-3, ρ) := by unfold backQ; rw [if_pos (by rw [← h45]; exact c4)]
    exact ⟨_, rfl, rfl, rfl, rfl, by rw [e], by rw [e]; exact hR, Off.refl⟩
end MIMAGE
