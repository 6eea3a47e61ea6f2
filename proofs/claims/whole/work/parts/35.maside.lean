/-! THE REFERENCE: laysAside, laysBack, gain -/
def La1 (ρ : IV) (i : Nat) (iv : IV) : Prop := RM iv ρ ∧ ∀ y, y < i → iv 88 y = ρ 0 y ∧ iv 89 y = ρ 1 y
/-- what the reference laid aside -/
def AsM (iv ρ : IV) : Prop := (∀ y, y < 24 → iv 88 y = ρ 0 y ∧ iv 89 y = ρ 1 y) ∧ (∀ k γ, 3 ≤ k → k ≤ 7 → γ < 2 → iv 90 (5 * γ + (k - 3)) = ρ (2 + γ) k) ∧ iv 75 38 = ρ 4 4 ∧ iv 75 39 = ρ 4 5
abbrev As (a b : Nat) : Prop := (88 ≤ a ∧ a ≤ 90) ∨ (a = 75 ∧ (b = 38 ∨ b = 39))
abbrev Bk (a b : Nat) : Prop := a = 79 ∨ a = 80 ∨ (83 ≤ a ∧ a ≤ 87) ∨ (a = 75 ∧ (b = 16 ∨ b = 17))
theorem La1.step {ρ iv : IV} {i : Nat} (h : La1 ρ i iv) : La1 ρ (i + 1) (up (up iv 88 i (ρ 0 i)) 89 i (ρ 1 i)) := by
  refine ⟨(h.1.offP (P := fun a _ => 88 ≤ a) (off_up (by decide)) (fun a b z => Or.inr z)).offP (P := fun a _ => 88 ≤ a) (off_up (by decide)) (fun a b z => Or.inr z), fun y hy => ?_⟩
  by_cases e : y = i
  · subst e; exact ⟨by rw [up_ne1 (by decide), up_same], by rw [up_same]⟩
  · rw [up_ne1 (by decide), up_ne2 e, up_ne2 e, up_ne1 (by decide)]; exact h.2 y (by omega)
def Lb1 (ρ0 ρ : IV) (i : Nat) (iv : IV) : Prop := AsM iv ρ0 ∧ (∀ y, y < i → iv 79 y = ρ0 0 y ∧ iv 80 y = ρ0 1 y) ∧ (∀ k γ, 1 ≤ k → k ≤ 7 → γ < 2 → iv (80 + k) γ = ρ (2 + γ) k) ∧ (∀ k, 4 ≤ k → k ≤ 7 → iv 75 (12 + k) = ρ 4 k) ∧ iv 75 4 = ρ 4 8
theorem AsM.off {iv iv' ρ : IV} {P : Nat → Nat → Prop} (h : AsM iv ρ) (ho : Off P iv iv') (hp : ∀ a b, P a b → ¬ As a b) : AsM iv' ρ :=
  ⟨fun y hy => ⟨(ho _ _ (fun z => hp _ _ z (by omega))).trans (h.1 y hy).1, (ho _ _ (fun z => hp _ _ z (by omega))).trans (h.1 y hy).2⟩, fun k γ h1 h2 h3 => (ho _ _ (fun z => hp _ _ z (by omega))).trans (h.2.1 k γ h1 h2 h3), (ho _ _ (fun z => hp _ _ z (by omega))).trans h.2.2.1, (ho _ _ (fun z => hp _ _ z (by omega))).trans h.2.2.2⟩
theorem Lb1.step {ρ0 ρ iv : IV} {i : Nat} (h : Lb1 ρ0 ρ i iv) : Lb1 ρ0 ρ (i + 1) (up (up iv 79 i (ρ0 0 i)) 80 i (ρ0 1 i)) := by
  refine ⟨(h.1.off (P := fun a _ => a = 79 ∨ a = 80) (off_up (by decide)) (fun a b z => by omega)).off (P := fun a _ => a = 79 ∨ a = 80) (off_up (by decide)) (fun a b z => by omega), fun y hy => ?_, fun k γ h1 h2 h3 => ?_, fun k h1 h2 => ?_, h.2.2.2.2⟩
  · by_cases e : y = i
    · subst e; exact ⟨by rw [up_ne1 (by decide), up_same], by rw [up_same]⟩
    · rw [up_ne1 (by decide), up_ne2 e, up_ne2 e, up_ne1 (by decide)]; exact h.2.1 y (by omega)
  · rw [up_ne1 (by omega), up_ne1 (by omega)]; exact h.2.2.1 k γ h1 h2 h3
  · rw [up_ne1 (by omega), up_ne1 (by omega)]; exact h.2.2.2.1 k h1 h2
section MASIDE
variable {g : GS} {l : Launch} {Γ : Sh} {iv : IV} {rv : RV} {lv : LV}
set_option maxRecDepth 4000 in
theorem la_loop {D : Nat} {Q : Qt} (hM : ShM Γ rv) {ρ iv0 : IV} : ∀ (n i : Nat) (iv : IV) (x : Int32), i + n = 24 → x = nI i → Off As iv0 iv → La1 ρ i iv → (∀ iv' x, x = nI 24 → Off As iv0 iv' → La1 ρ 24 iv' → Rn g l mX7_laysAside (rmA (D) 0 0) Q 0 0 38 [.ref 75, .int x] [] Γ iv' rv lv) → Rn g l mX7_laysAside (rmA (D) 0 0) Q 0 0 2 [.ref 75, .int x] [] Γ iv rv lv := by
  intro n
  induction n with
  | zero =>
    intro i iv x hn hx ho hi kk
    obtain rfl : i = 24 := by omega
    refine r_iload1 dX7_laysAside_2 ?_
    refine rn_bipush (24) dX7_laysAside_3 (by decide) ?_
    refine rn_icmp_ge 38 dX7_laysAside_5 rfl (fun _ => ?_) (fun h => absurd (by rw [hx, show (24 : Int32) = nI 24 by decide]; exact nI_le (Nat.le_refl _) (by decide)) h)
    exact kk _ _ hx ho hi
  | succ n ih =>
    intro i iv x hn hx ho hi kk
    have hil : i < 24 := by omega
    refine r_iload1 dX7_laysAside_2 ?_
    refine rn_bipush (24) dX7_laysAside_3 (by decide) ?_
    refine rn_icmp_ge 38 dX7_laysAside_5 rfl (fun h => absurd h (fun z => by rw [hx, show (24 : Int32) = nI 24 by decide, nI_leI (by decide) (by omega)] at z; omega)) (fun _ => ?_)
    refine r_aload0 dX7_laysAside_8 ?_
    refine gf_X7_56 dX7_laysAside_9 rfl hM.1 (sm_groundsWas hM).1 ?_
    refine r_iload1 dX7_laysAside_12 ?_
    refine r_aload0 dX7_laysAside_13 ?_
    refine gf_X7_23 dX7_laysAside_14 rfl hM.1 (sm_grounds hM).1 ?_
    refine r_iload1 dX7_laysAside_17 ?_
    refine rn_iald i dX7_laysAside_18 (sm_grounds hM).2 hx hil (by decide) ?_
    refine rn_eqi (ρ 0 i) (hi.1.1 i hil).1 ?_
    refine rn_iast i dX7_laysAside_19 (sm_groundsWas hM).2 hx hil (by decide) ?_
    refine r_aload0 dX7_laysAside_20 ?_
    refine gf_X7_59 dX7_laysAside_21 rfl hM.1 (sm_knownWas hM).1 ?_
    refine r_iload1 dX7_laysAside_24 ?_
    refine r_aload0 dX7_laysAside_25 ?_
    refine gf_X7_26 dX7_laysAside_26 rfl hM.1 (sm_known hM).1 ?_
    refine r_iload1 dX7_laysAside_29 ?_
    refine rn_iald i dX7_laysAside_30 (sm_known hM).2 hx hil (by decide) ?_
    refine rn_eqi (ρ 1 i) (hi.1.1 i hil).2 ?_
    refine rn_iast i dX7_laysAside_31 (sm_knownWas hM).2 hx hil (by decide) ?_
    refine r_iinc1 _ dX7_laysAside_32 rfl rfl ?_
    refine rn_goto 2 dX7_laysAside_35 rfl ?_
    exact ih (i + 1) (up (up iv 88 i (ρ 0 i)) 89 i (ρ 1 i)) _ (by omega) (by rw [hx]; exact nI_1 i) ((ho.trans (off_up (by omega))).trans (off_up (by omega))) hi.step kk
set_option maxRecDepth 4000 in
theorem lb_loop {D : Nat} {Q : Qt} (hM : ShM Γ rv) {ρ0 ρ iv0 : IV} : ∀ (n i : Nat) (iv : IV) (x : Int32), i + n = 24 → x = nI i → Off Bk iv0 iv → Lb1 ρ0 ρ i iv → (∀ iv' x, x = nI 24 → Off Bk iv0 iv' → Lb1 ρ0 ρ 24 iv' → Rn g l mX7_laysBack (rmA (D) 0 0) Q 0 0 38 [.ref 75, .int x] [] Γ iv' rv lv) → Rn g l mX7_laysBack (rmA (D) 0 0) Q 0 0 2 [.ref 75, .int x] [] Γ iv rv lv := by
  intro n
  induction n with
  | zero =>
    intro i iv x hn hx ho hi kk
    obtain rfl : i = 24 := by omega
    refine r_iload1 dX7_laysBack_2 ?_
    refine rn_bipush (24) dX7_laysBack_3 (by decide) ?_
    refine rn_icmp_ge 38 dX7_laysBack_5 rfl (fun _ => ?_) (fun h => absurd (by rw [hx, show (24 : Int32) = nI 24 by decide]; exact nI_le (Nat.le_refl _) (by decide)) h)
    exact kk _ _ hx ho hi
  | succ n ih =>
    intro i iv x hn hx ho hi kk
    have hil : i < 24 := by omega
    refine r_iload1 dX7_laysBack_2 ?_
    refine rn_bipush (24) dX7_laysBack_3 (by decide) ?_
    refine rn_icmp_ge 38 dX7_laysBack_5 rfl (fun h => absurd h (fun z => by rw [hx, show (24 : Int32) = nI 24 by decide, nI_leI (by decide) (by omega)] at z; omega)) (fun _ => ?_)
    refine r_aload0 dX7_laysBack_8 ?_
    refine gf_X7_23 dX7_laysBack_9 rfl hM.1 (sm_grounds hM).1 ?_
    refine r_iload1 dX7_laysBack_12 ?_
    refine r_aload0 dX7_laysBack_13 ?_
    refine gf_X7_56 dX7_laysBack_14 rfl hM.1 (sm_groundsWas hM).1 ?_
    refine r_iload1 dX7_laysBack_17 ?_
    refine rn_iald i dX7_laysBack_18 (sm_groundsWas hM).2 hx hil (by decide) ?_
    refine rn_eqi (ρ0 0 i) (hi.1.1 i hil).1 ?_
    refine rn_iast i dX7_laysBack_19 (sm_grounds hM).2 hx hil (by decide) ?_
    refine r_aload0 dX7_laysBack_20 ?_
    refine gf_X7_26 dX7_laysBack_21 rfl hM.1 (sm_known hM).1 ?_
    refine r_iload1 dX7_laysBack_24 ?_
    refine r_aload0 dX7_laysBack_25 ?_
    refine gf_X7_59 dX7_laysBack_26 rfl hM.1 (sm_knownWas hM).1 ?_
    refine r_iload1 dX7_laysBack_29 ?_
    refine rn_iald i dX7_laysBack_30 (sm_knownWas hM).2 hx hil (by decide) ?_
    refine rn_eqi (ρ0 1 i) (hi.1.1 i hil).2 ?_
    refine rn_iast i dX7_laysBack_31 (sm_known hM).2 hx hil (by decide) ?_
    refine r_iinc1 _ dX7_laysBack_32 rfl rfl ?_
    refine rn_goto 2 dX7_laysBack_35 rfl ?_
    exact ih (i + 1) (up (up iv 79 i (ρ0 0 i)) 80 i (ρ0 1 i)) _ (by omega) (by rw [hx]; exact nI_1 i) ((ho.trans (off_up (by omega))).trans (off_up (by omega))) hi.step kk
abbrev As9 (a b : Nat) : Prop := a = 90 ∨ (a = 75 ∧ (b = 38 ∨ b = 39))
set_option maxRecDepth 4000 in
theorem ct_laysAside (D : Nat) (hM : ShM Γ rv) {ρ : IV} (hR : RM iv ρ) : Ct g l mX7_laysAside D 0 0 [.ref 75] Γ iv rv lv (qCV Γ rv lv (fun iv' => Off As iv iv' ∧ RM iv' ρ ∧ AsM iv' ρ)) := by
  refine Ct.of (by decide +kernel) (Nat.le_of_ble_eq_true rfl) (Nat.le_of_ble_eq_true rfl) ?_
  refine rn_iconst (0) dX7_laysAside_0 (by decide) ?_
  refine r_istore1 dX7_laysAside_1 rfl ?_
  refine la_loop (iv0 := iv) hM 24 0 iv _ (by decide) rfl Off.refl ⟨hR, fun y hy => absurd hy (Nat.not_lt_zero _)⟩ (fun iv x hx ho hi => ?_)
  obtain ⟨hR, hi2⟩ := hi
  refine rn_iconst (0) dX7_laysAside_38 (by decide) ?_
  refine r_istore1 dX7_laysAside_39 rfl ?_
  refine r_iload1 dX7_laysAside_40 ?_
  refine rn_iconst (2) dX7_laysAside_41 (by decide) ?_
  refine rn_icmp_ge 129 dX7_laysAside_42 rfl (fun h => absurd h (by decide)) (fun _ => ?_)
  refine r_aload0 dX7_laysAside_45 ?_
  refine gf_X7_62 dX7_laysAside_46 rfl hM.1 (sm_gangsWas hM).1 ?_
  refine rn_iconst (5) dX7_laysAside_49 (by decide) ?_
  refine r_iload1 dX7_laysAside_50 ?_
  refine rn_imul dX7_laysAside_51 ?_
  refine r_aload0 dX7_laysAside_52 ?_
  refine gf_X7_35 dX7_laysAside_53 rfl hM.1 (sm_men hM).1 ?_
  refine r_iload1 dX7_laysAside_56 ?_
  refine rn_iald 0 dX7_laysAside_57 (sm_men hM).2 (by decide) (by decide) (by decide) ?_
  refine rn_eqi (ρ 2 3) (hR.gang 3 (γ := 0) (by decide) (by decide) (by decide)) ?_
  refine rn_iast 0 dX7_laysAside_58 (sm_gangsWas hM).2 (by decide) (by decide) (by decide) ?_
  refine r_aload0 dX7_laysAside_59 ?_
  refine gf_X7_62 dX7_laysAside_60 rfl hM.1 (sm_gangsWas hM).1 ?_
  refine rn_iconst (5) dX7_laysAside_63 (by decide) ?_
  refine r_iload1 dX7_laysAside_64 ?_
  refine rn_imul dX7_laysAside_65 ?_
  refine rn_iconst (1) dX7_laysAside_66 (by decide) ?_
  refine rn_iadd dX7_laysAside_67 ?_
  refine r_aload0 dX7_laysAside_68 ?_
  refine gf_X7_38 dX7_laysAside_69 rfl hM.1 (sm_dones hM).1 ?_
  refine r_iload1 dX7_laysAside_72 ?_
  refine rn_iald 0 dX7_laysAside_73 (sm_dones hM).2 (by decide) (by decide) (by decide) ?_
  refine rn_eqi (ρ 2 4) (hR.gang 4 (γ := 0) (by decide) (by decide) (by decide)) ?_
  refine rn_iast 1 dX7_laysAside_74 (sm_gangsWas hM).2 (by decide) (by decide) (by decide) ?_
  refine r_aload0 dX7_laysAside_75 ?_
  refine gf_X7_62 dX7_laysAside_76 rfl hM.1 (sm_gangsWas hM).1 ?_
  refine rn_iconst (5) dX7_laysAside_79 (by decide) ?_
  refine r_iload1 dX7_laysAside_80 ?_
  refine rn_imul dX7_laysAside_81 ?_
  refine rn_iconst (2) dX7_laysAside_82 (by decide) ?_
  refine rn_iadd dX7_laysAside_83 ?_
  refine r_aload0 dX7_laysAside_84 ?_
  refine gf_X7_41 dX7_laysAside_85 rfl hM.1 (sm_work hM).1 ?_
  refine r_iload1 dX7_laysAside_88 ?_
  refine rn_iald 0 dX7_laysAside_89 (sm_work hM).2 (by decide) (by decide) (by decide) ?_
  refine rn_eqi (ρ 2 5) (hR.gang 5 (γ := 0) (by decide) (by decide) (by decide)) ?_
  refine rn_iast 2 dX7_laysAside_90 (sm_gangsWas hM).2 (by decide) (by decide) (by decide) ?_
  refine r_aload0 dX7_laysAside_91 ?_
  refine gf_X7_62 dX7_laysAside_92 rfl hM.1 (sm_gangsWas hM).1 ?_
  refine rn_iconst (5) dX7_laysAside_95 (by decide) ?_
  refine r_iload1 dX7_laysAside_96 ?_
  refine rn_imul dX7_laysAside_97 ?_
  refine rn_iconst (3) dX7_laysAside_98 (by decide) ?_
  refine rn_iadd dX7_laysAside_99 ?_
  refine r_aload0 dX7_laysAside_100 ?_
  refine gf_X7_44 dX7_laysAside_101 rfl hM.1 (sm_earned hM).1 ?_
  refine r_iload1 dX7_laysAside_104 ?_
  refine rn_iald 0 dX7_laysAside_105 (sm_earned hM).2 (by decide) (by decide) (by decide) ?_
  refine rn_eqi (ρ 2 6) (hR.gang 6 (γ := 0) (by decide) (by decide) (by decide)) ?_
  refine rn_iast 3 dX7_laysAside_106 (sm_gangsWas hM).2 (by decide) (by decide) (by decide) ?_
  refine r_aload0 dX7_laysAside_107 ?_
  refine gf_X7_62 dX7_laysAside_108 rfl hM.1 (sm_gangsWas hM).1 ?_
  refine rn_iconst (5) dX7_laysAside_111 (by decide) ?_
  refine r_iload1 dX7_laysAside_112 ?_
  refine rn_imul dX7_laysAside_113 ?_
  refine rn_iconst (4) dX7_laysAside_114 (by decide) ?_
  refine rn_iadd dX7_laysAside_115 ?_
  refine r_aload0 dX7_laysAside_116 ?_
  refine gf_X7_47 dX7_laysAside_117 rfl hM.1 (sm_spent hM).1 ?_
  refine r_iload1 dX7_laysAside_120 ?_
  refine rn_iald 0 dX7_laysAside_121 (sm_spent hM).2 (by decide) (by decide) (by decide) ?_
  refine rn_eqi (ρ 2 7) (hR.gang 7 (γ := 0) (by decide) (by decide) (by decide)) ?_
  refine rn_iast 4 dX7_laysAside_122 (sm_gangsWas hM).2 (by decide) (by decide) (by decide) ?_
  refine r_iinc1 _ dX7_laysAside_123 rfl rfl ?_
  refine rn_goto 40 dX7_laysAside_126 rfl ?_
  refine r_iload1 dX7_laysAside_40 ?_
  refine rn_iconst (2) dX7_laysAside_41 (by decide) ?_
  refine rn_icmp_ge 129 dX7_laysAside_42 rfl (fun h => absurd h (by decide)) (fun _ => ?_)
  refine r_aload0 dX7_laysAside_45 ?_
  refine gf_X7_62 dX7_laysAside_46 rfl hM.1 (sm_gangsWas hM).1 ?_
  refine rn_iconst (5) dX7_laysAside_49 (by decide) ?_
  refine r_iload1 dX7_laysAside_50 ?_
  refine rn_imul dX7_laysAside_51 ?_
  refine r_aload0 dX7_laysAside_52 ?_
  refine gf_X7_35 dX7_laysAside_53 rfl hM.1 (sm_men hM).1 ?_
  refine r_iload1 dX7_laysAside_56 ?_
  refine rn_iald 1 dX7_laysAside_57 (sm_men hM).2 (by decide) (by decide) (by decide) ?_
  refine rn_eqi (ρ 3 3) (hR.gang 3 (γ := 1) (by decide) (by decide) (by decide)) ?_
  refine rn_iast 5 dX7_laysAside_58 (sm_gangsWas hM).2 (by decide) (by decide) (by decide) ?_
  refine r_aload0 dX7_laysAside_59 ?_
  refine gf_X7_62 dX7_laysAside_60 rfl hM.1 (sm_gangsWas hM).1 ?_
  refine rn_iconst (5) dX7_laysAside_63 (by decide) ?_
  refine r_iload1 dX7_laysAside_64 ?_
  refine rn_imul dX7_laysAside_65 ?_
  refine rn_iconst (1) dX7_laysAside_66 (by decide) ?_
  refine rn_iadd dX7_laysAside_67 ?_
  refine r_aload0 dX7_laysAside_68 ?_
  refine gf_X7_38 dX7_laysAside_69 rfl hM.1 (sm_dones hM).1 ?_
  refine r_iload1 dX7_laysAside_72 ?_
  refine rn_iald 1 dX7_laysAside_73 (sm_dones hM).2 (by decide) (by decide) (by decide) ?_
  refine rn_eqi (ρ 3 4) (hR.gang 4 (γ := 1) (by decide) (by decide) (by decide)) ?_
  refine rn_iast 6 dX7_laysAside_74 (sm_gangsWas hM).2 (by decide) (by decide) (by decide) ?_
  refine r_aload0 dX7_laysAside_75 ?_
  refine gf_X7_62 dX7_laysAside_76 rfl hM.1 (sm_gangsWas hM).1 ?_
  refine rn_iconst (5) dX7_laysAside_79 (by decide) ?_
  refine r_iload1 dX7_laysAside_80 ?_
  refine rn_imul dX7_laysAside_81 ?_
  refine rn_iconst (2) dX7_laysAside_82 (by decide) ?_
  refine rn_iadd dX7_laysAside_83 ?_
  refine r_aload0 dX7_laysAside_84 ?_
  refine gf_X7_41 dX7_laysAside_85 rfl hM.1 (sm_work hM).1 ?_
  refine r_iload1 dX7_laysAside_88 ?_
  refine rn_iald 1 dX7_laysAside_89 (sm_work hM).2 (by decide) (by decide) (by decide) ?_
  refine rn_eqi (ρ 3 5) (hR.gang 5 (γ := 1) (by decide) (by decide) (by decide)) ?_
  refine rn_iast 7 dX7_laysAside_90 (sm_gangsWas hM).2 (by decide) (by decide) (by decide) ?_
  refine r_aload0 dX7_laysAside_91 ?_
  refine gf_X7_62 dX7_laysAside_92 rfl hM.1 (sm_gangsWas hM).1 ?_
  refine rn_iconst (5) dX7_laysAside_95 (by decide) ?_
  refine r_iload1 dX7_laysAside_96 ?_
  refine rn_imul dX7_laysAside_97 ?_
  refine rn_iconst (3) dX7_laysAside_98 (by decide) ?_
  refine rn_iadd dX7_laysAside_99 ?_
  refine r_aload0 dX7_laysAside_100 ?_
  refine gf_X7_44 dX7_laysAside_101 rfl hM.1 (sm_earned hM).1 ?_
  refine r_iload1 dX7_laysAside_104 ?_
  refine rn_iald 1 dX7_laysAside_105 (sm_earned hM).2 (by decide) (by decide) (by decide) ?_
  refine rn_eqi (ρ 3 6) (hR.gang 6 (γ := 1) (by decide) (by decide) (by decide)) ?_
  refine rn_iast 8 dX7_laysAside_106 (sm_gangsWas hM).2 (by decide) (by decide) (by decide) ?_
  refine r_aload0 dX7_laysAside_107 ?_
  refine gf_X7_62 dX7_laysAside_108 rfl hM.1 (sm_gangsWas hM).1 ?_
  refine rn_iconst (5) dX7_laysAside_111 (by decide) ?_
  refine r_iload1 dX7_laysAside_112 ?_
  refine rn_imul dX7_laysAside_113 ?_
  refine rn_iconst (4) dX7_laysAside_114 (by decide) ?_
  refine rn_iadd dX7_laysAside_115 ?_
  refine r_aload0 dX7_laysAside_116 ?_
  refine gf_X7_47 dX7_laysAside_117 rfl hM.1 (sm_spent hM).1 ?_
  refine r_iload1 dX7_laysAside_120 ?_
  refine rn_iald 1 dX7_laysAside_121 (sm_spent hM).2 (by decide) (by decide) (by decide) ?_
  refine rn_eqi (ρ 3 7) (hR.gang 7 (γ := 1) (by decide) (by decide) (by decide)) ?_
  refine rn_iast 9 dX7_laysAside_122 (sm_gangsWas hM).2 (by decide) (by decide) (by decide) ?_
  refine r_iinc1 _ dX7_laysAside_123 rfl rfl ?_
  refine rn_goto 40 dX7_laysAside_126 rfl ?_
  refine r_iload1 dX7_laysAside_40 ?_
  refine rn_iconst (2) dX7_laysAside_41 (by decide) ?_
  refine rn_icmp_ge 129 dX7_laysAside_42 rfl (fun _ => ?_) (fun h => absurd (by decide) h)
  refine r_aload0 dX7_laysAside_129 ?_
  refine r_aload0 dX7_laysAside_130 ?_
  refine gf_X7_265 dX7_laysAside_131 rfl hM.1 ?_
  refine rn_eqi (ρ 4 4) (hR.2.2.1 4 (by decide) (by decide)) ?_
  refine pf_X7_285 dX7_laysAside_134 rfl hM.1 ?_
  refine r_aload0 dX7_laysAside_137 ?_
  refine r_aload0 dX7_laysAside_138 ?_
  refine gf_X7_50 dX7_laysAside_139 rfl hM.1 ?_
  refine rn_eqi (ρ 4 5) (hR.2.2.1 5 (by decide) (by decide)) ?_
  refine pf_X7_288 dX7_laysAside_142 rfl hM.1 ?_
  refine rn_vret dX7_laysAside_145 rfl (Nat.zero_le _) (Nat.zero_le _) ?_
  refine ⟨rfl, rfl, rfl, rfl, ((((((((((((ho.trans (off_up (by decide))).trans (off_up (by decide))).trans (off_up (by decide))).trans (off_up (by decide))).trans (off_up (by decide))).trans (off_up (by decide))).trans (off_up (by decide))).trans (off_up (by decide))).trans (off_up (by decide))).trans (off_up (by decide))).trans (off_up (by decide))).trans (off_up (by decide))), ?_, ?_⟩
  · exact hR.offP (P := As9) (((((((((((((Off.refl.trans (off_up (by decide))).trans (off_up (by decide))).trans (off_up (by decide))).trans (off_up (by decide))).trans (off_up (by decide))).trans (off_up (by decide))).trans (off_up (by decide))).trans (off_up (by decide))).trans (off_up (by decide))).trans (off_up (by decide))).trans (off_up (by decide))).trans (off_up (by decide)))) (fun a b z => by omega)
  · exact ⟨hi2, fun k γ h1 h2 h3 => match k, γ, h1, h2, h3 with
      | 3, 0, _, _, _ => rfl | 3, 1, _, _, _ => rfl | 4, 0, _, _, _ => rfl | 4, 1, _, _, _ => rfl | 5, 0, _, _, _ => rfl | 5, 1, _, _, _ => rfl | 6, 0, _, _, _ => rfl | 6, 1, _, _, _ => rfl | 7, 0, _, _, _ => rfl | 7, 1, _, _, _ => rfl, rfl, rfl⟩
/-- kinds, numbers, pay for a day, wage and rule -/
def Kp (ρ0 ρ : IV) : Prop := (∀ k γ, 1 ≤ k → k ≤ 2 → γ < 2 → ρ (2 + γ) k = ρ0 (2 + γ) k) ∧ ρ 4 6 = ρ0 4 6 ∧ ρ 4 7 = ρ0 4 7 ∧ ρ 4 8 = ρ0 4 8
set_option maxRecDepth 4000 in
theorem ct_laysBack (D : Nat) (hM : ShM Γ rv) {ρ0 ρ : IV} (hR : RM iv ρ) (hA : AsM iv ρ0) (hK : Kp ρ0 ρ) : Ct g l mX7_laysBack D 0 0 [.ref 75] Γ iv rv lv (qCV Γ rv lv (fun iv' => Off Bk iv iv' ∧ RM iv' ρ0)) := by
  obtain ⟨hkk, hk6, hk7, hk8⟩ := hK
  refine Ct.of (by decide +kernel) (Nat.le_of_ble_eq_true rfl) (Nat.le_of_ble_eq_true rfl) ?_
  refine rn_iconst (0) dX7_laysBack_0 (by decide) ?_
  refine r_istore1 dX7_laysBack_1 rfl ?_
  refine lb_loop (iv0 := iv) (ρ0 := ρ0) (ρ := ρ) hM 24 0 iv _ (by decide) rfl Off.refl ⟨hA, fun y hy => absurd hy (Nat.not_lt_zero _), hR.2.1, hR.2.2.1, hR.2.2.2⟩ (fun iv x hx ho hi => ?_)
  obtain ⟨hA, hi2, hgg, hs, hr⟩ := hi
  refine rn_iconst (0) dX7_laysBack_38 (by decide) ?_
  refine r_istore1 dX7_laysBack_39 rfl ?_
  refine r_iload1 dX7_laysBack_40 ?_
  refine rn_iconst (2) dX7_laysBack_41 (by decide) ?_
  refine rn_icmp_ge 129 dX7_laysBack_42 rfl (fun h => absurd h (by decide)) (fun _ => ?_)
  refine r_aload0 dX7_laysBack_45 ?_
  refine gf_X7_35 dX7_laysBack_46 rfl hM.1 (sm_men hM).1 ?_
  refine r_iload1 dX7_laysBack_49 ?_
  refine r_aload0 dX7_laysBack_50 ?_
  refine gf_X7_62 dX7_laysBack_51 rfl hM.1 (sm_gangsWas hM).1 ?_
  refine rn_iconst (5) dX7_laysBack_54 (by decide) ?_
  refine r_iload1 dX7_laysBack_55 ?_
  refine rn_imul dX7_laysBack_56 ?_
  refine rn_iald 0 dX7_laysBack_57 (sm_gangsWas hM).2 (by decide) (by decide) (by decide) ?_
  refine rn_eqi (ρ0 2 3) (hA.2.1 3 0 (by decide) (by decide) (by decide)) ?_
  refine rn_iast 0 dX7_laysBack_58 (sm_men hM).2 (by decide) (by decide) (by decide) ?_
  refine r_aload0 dX7_laysBack_59 ?_
  refine gf_X7_38 dX7_laysBack_60 rfl hM.1 (sm_dones hM).1 ?_
  refine r_iload1 dX7_laysBack_63 ?_
  refine r_aload0 dX7_laysBack_64 ?_
  refine gf_X7_62 dX7_laysBack_65 rfl hM.1 (sm_gangsWas hM).1 ?_
  refine rn_iconst (5) dX7_laysBack_68 (by decide) ?_
  refine r_iload1 dX7_laysBack_69 ?_
  refine rn_imul dX7_laysBack_70 ?_
  refine rn_iconst (1) dX7_laysBack_71 (by decide) ?_
  refine rn_iadd dX7_laysBack_72 ?_
  refine rn_iald 1 dX7_laysBack_73 (sm_gangsWas hM).2 (by decide) (by decide) (by decide) ?_
  refine rn_eqi (ρ0 2 4) (hA.2.1 4 0 (by decide) (by decide) (by decide)) ?_
  refine rn_iast 0 dX7_laysBack_74 (sm_dones hM).2 (by decide) (by decide) (by decide) ?_
  refine r_aload0 dX7_laysBack_75 ?_
  refine gf_X7_41 dX7_laysBack_76 rfl hM.1 (sm_work hM).1 ?_
  refine r_iload1 dX7_laysBack_79 ?_
  refine r_aload0 dX7_laysBack_80 ?_
  refine gf_X7_62 dX7_laysBack_81 rfl hM.1 (sm_gangsWas hM).1 ?_
  refine rn_iconst (5) dX7_laysBack_84 (by decide) ?_
  refine r_iload1 dX7_laysBack_85 ?_
  refine rn_imul dX7_laysBack_86 ?_
  refine rn_iconst (2) dX7_laysBack_87 (by decide) ?_
  refine rn_iadd dX7_laysBack_88 ?_
  refine rn_iald 2 dX7_laysBack_89 (sm_gangsWas hM).2 (by decide) (by decide) (by decide) ?_
  refine rn_eqi (ρ0 2 5) (hA.2.1 5 0 (by decide) (by decide) (by decide)) ?_
  refine rn_iast 0 dX7_laysBack_90 (sm_work hM).2 (by decide) (by decide) (by decide) ?_
  refine r_aload0 dX7_laysBack_91 ?_
  refine gf_X7_44 dX7_laysBack_92 rfl hM.1 (sm_earned hM).1 ?_
  refine r_iload1 dX7_laysBack_95 ?_
  refine r_aload0 dX7_laysBack_96 ?_
  refine gf_X7_62 dX7_laysBack_97 rfl hM.1 (sm_gangsWas hM).1 ?_
  refine rn_iconst (5) dX7_laysBack_100 (by decide) ?_
  refine r_iload1 dX7_laysBack_101 ?_
  refine rn_imul dX7_laysBack_102 ?_
  refine rn_iconst (3) dX7_laysBack_103 (by decide) ?_
  refine rn_iadd dX7_laysBack_104 ?_
  refine rn_iald 3 dX7_laysBack_105 (sm_gangsWas hM).2 (by decide) (by decide) (by decide) ?_
  refine rn_eqi (ρ0 2 6) (hA.2.1 6 0 (by decide) (by decide) (by decide)) ?_
  refine rn_iast 0 dX7_laysBack_106 (sm_earned hM).2 (by decide) (by decide) (by decide) ?_
  refine r_aload0 dX7_laysBack_107 ?_
  refine gf_X7_47 dX7_laysBack_108 rfl hM.1 (sm_spent hM).1 ?_
  refine r_iload1 dX7_laysBack_111 ?_
  refine r_aload0 dX7_laysBack_112 ?_
  refine gf_X7_62 dX7_laysBack_113 rfl hM.1 (sm_gangsWas hM).1 ?_
  refine rn_iconst (5) dX7_laysBack_116 (by decide) ?_
  refine r_iload1 dX7_laysBack_117 ?_
  refine rn_imul dX7_laysBack_118 ?_
  refine rn_iconst (4) dX7_laysBack_119 (by decide) ?_
  refine rn_iadd dX7_laysBack_120 ?_
  refine rn_iald 4 dX7_laysBack_121 (sm_gangsWas hM).2 (by decide) (by decide) (by decide) ?_
  refine rn_eqi (ρ0 2 7) (hA.2.1 7 0 (by decide) (by decide) (by decide)) ?_
  refine rn_iast 0 dX7_laysBack_122 (sm_spent hM).2 (by decide) (by decide) (by decide) ?_
  refine r_iinc1 _ dX7_laysBack_123 rfl rfl ?_
  refine rn_goto 40 dX7_laysBack_126 rfl ?_
  refine r_iload1 dX7_laysBack_40 ?_
  refine rn_iconst (2) dX7_laysBack_41 (by decide) ?_
  refine rn_icmp_ge 129 dX7_laysBack_42 rfl (fun h => absurd h (by decide)) (fun _ => ?_)
  refine r_aload0 dX7_laysBack_45 ?_
  refine gf_X7_35 dX7_laysBack_46 rfl hM.1 (sm_men hM).1 ?_
  refine r_iload1 dX7_laysBack_49 ?_
  refine r_aload0 dX7_laysBack_50 ?_
  refine gf_X7_62 dX7_laysBack_51 rfl hM.1 (sm_gangsWas hM).1 ?_
  refine rn_iconst (5) dX7_laysBack_54 (by decide) ?_
  refine r_iload1 dX7_laysBack_55 ?_
  refine rn_imul dX7_laysBack_56 ?_
  refine rn_iald 5 dX7_laysBack_57 (sm_gangsWas hM).2 (by decide) (by decide) (by decide) ?_
  refine rn_eqi (ρ0 3 3) (hA.2.1 3 1 (by decide) (by decide) (by decide)) ?_
  refine rn_iast 1 dX7_laysBack_58 (sm_men hM).2 (by decide) (by decide) (by decide) ?_
  refine r_aload0 dX7_laysBack_59 ?_
  refine gf_X7_38 dX7_laysBack_60 rfl hM.1 (sm_dones hM).1 ?_
  refine r_iload1 dX7_laysBack_63 ?_
  refine r_aload0 dX7_laysBack_64 ?_
  refine gf_X7_62 dX7_laysBack_65 rfl hM.1 (sm_gangsWas hM).1 ?_
  refine rn_iconst (5) dX7_laysBack_68 (by decide) ?_
  refine r_iload1 dX7_laysBack_69 ?_
  refine rn_imul dX7_laysBack_70 ?_
  refine rn_iconst (1) dX7_laysBack_71 (by decide) ?_
  refine rn_iadd dX7_laysBack_72 ?_
  refine rn_iald 6 dX7_laysBack_73 (sm_gangsWas hM).2 (by decide) (by decide) (by decide) ?_
  refine rn_eqi (ρ0 3 4) (hA.2.1 4 1 (by decide) (by decide) (by decide)) ?_
  refine rn_iast 1 dX7_laysBack_74 (sm_dones hM).2 (by decide) (by decide) (by decide) ?_
  refine r_aload0 dX7_laysBack_75 ?_
  refine gf_X7_41 dX7_laysBack_76 rfl hM.1 (sm_work hM).1 ?_
  refine r_iload1 dX7_laysBack_79 ?_
  refine r_aload0 dX7_laysBack_80 ?_
  refine gf_X7_62 dX7_laysBack_81 rfl hM.1 (sm_gangsWas hM).1 ?_
  refine rn_iconst (5) dX7_laysBack_84 (by decide) ?_
  refine r_iload1 dX7_laysBack_85 ?_
  refine rn_imul dX7_laysBack_86 ?_
  refine rn_iconst (2) dX7_laysBack_87 (by decide) ?_
  refine rn_iadd dX7_laysBack_88 ?_
  refine rn_iald 7 dX7_laysBack_89 (sm_gangsWas hM).2 (by decide) (by decide) (by decide) ?_
  refine rn_eqi (ρ0 3 5) (hA.2.1 5 1 (by decide) (by decide) (by decide)) ?_
  refine rn_iast 1 dX7_laysBack_90 (sm_work hM).2 (by decide) (by decide) (by decide) ?_
  refine r_aload0 dX7_laysBack_91 ?_
  refine gf_X7_44 dX7_laysBack_92 rfl hM.1 (sm_earned hM).1 ?_
  refine r_iload1 dX7_laysBack_95 ?_
  refine r_aload0 dX7_laysBack_96 ?_
  refine gf_X7_62 dX7_laysBack_97 rfl hM.1 (sm_gangsWas hM).1 ?_
  refine rn_iconst (5) dX7_laysBack_100 (by decide) ?_
  refine r_iload1 dX7_laysBack_101 ?_
  refine rn_imul dX7_laysBack_102 ?_
  refine rn_iconst (3) dX7_laysBack_103 (by decide) ?_
  refine rn_iadd dX7_laysBack_104 ?_
  refine rn_iald 8 dX7_laysBack_105 (sm_gangsWas hM).2 (by decide) (by decide) (by decide) ?_
  refine rn_eqi (ρ0 3 6) (hA.2.1 6 1 (by decide) (by decide) (by decide)) ?_
  refine rn_iast 1 dX7_laysBack_106 (sm_earned hM).2 (by decide) (by decide) (by decide) ?_
  refine r_aload0 dX7_laysBack_107 ?_
  refine gf_X7_47 dX7_laysBack_108 rfl hM.1 (sm_spent hM).1 ?_
  refine r_iload1 dX7_laysBack_111 ?_
  refine r_aload0 dX7_laysBack_112 ?_
  refine gf_X7_62 dX7_laysBack_113 rfl hM.1 (sm_gangsWas hM).1 ?_
  refine rn_iconst (5) dX7_laysBack_116 (by decide) ?_
  refine r_iload1 dX7_laysBack_117 ?_
  refine rn_imul dX7_laysBack_118 ?_
  refine rn_iconst (4) dX7_laysBack_119 (by decide) ?_
  refine rn_iadd dX7_laysBack_120 ?_
  refine rn_iald 9 dX7_laysBack_121 (sm_gangsWas hM).2 (by decide) (by decide) (by decide) ?_
  refine rn_eqi (ρ0 3 7) (hA.2.1 7 1 (by decide) (by decide) (by decide)) ?_
  refine rn_iast 1 dX7_laysBack_122 (sm_spent hM).2 (by decide) (by decide) (by decide) ?_
  refine r_iinc1 _ dX7_laysBack_123 rfl rfl ?_
  refine rn_goto 40 dX7_laysBack_126 rfl ?_
  refine r_iload1 dX7_laysBack_40 ?_
  refine rn_iconst (2) dX7_laysBack_41 (by decide) ?_
  refine rn_icmp_ge 129 dX7_laysBack_42 rfl (fun _ => ?_) (fun h => absurd (by decide) h)
  refine r_aload0 dX7_laysBack_129 ?_
  refine r_aload0 dX7_laysBack_130 ?_
  refine gf_X7_285 dX7_laysBack_131 rfl hM.1 ?_
  refine rn_eqi (ρ0 4 4) hA.2.2.1 ?_
  refine pf_X7_265 dX7_laysBack_134 rfl hM.1 ?_
  refine r_aload0 dX7_laysBack_137 ?_
  refine r_aload0 dX7_laysBack_138 ?_
  refine gf_X7_288 dX7_laysBack_139 rfl hM.1 ?_
  refine rn_eqi (ρ0 4 5) hA.2.2.2 ?_
  refine pf_X7_50 dX7_laysBack_142 rfl hM.1 ?_
  refine rn_vret dX7_laysBack_145 rfl (Nat.zero_le _) (Nat.zero_le _) ?_
  refine ⟨rfl, rfl, rfl, rfl, ((((((((((((ho.trans (off_up (by decide))).trans (off_up (by decide))).trans (off_up (by decide))).trans (off_up (by decide))).trans (off_up (by decide))).trans (off_up (by decide))).trans (off_up (by decide))).trans (off_up (by decide))).trans (off_up (by decide))).trans (off_up (by decide))).trans (off_up (by decide))).trans (off_up (by decide))), ?_, ?_, ?_, ?_⟩
  · exact fun y hy => hi2 y hy
  · exact fun k γ h1 h2 h3 => match k, γ, h1, h2, h3 with
      | 1, 0, _, _, _ => (hgg 1 0 (by decide) (by decide) (by decide)).trans (hkk 1 0 (by decide) (by decide) (by decide)) | 1, 1, _, _, _ => (hgg 1 1 (by decide) (by decide) (by decide)).trans (hkk 1 1 (by decide) (by decide) (by decide)) | 2, 0, _, _, _ => (hgg 2 0 (by decide) (by decide) (by decide)).trans (hkk 2 0 (by decide) (by decide) (by decide)) | 2, 1, _, _, _ => (hgg 2 1 (by decide) (by decide) (by decide)).trans (hkk 2 1 (by decide) (by decide) (by decide)) | 3, 0, _, _, _ => rfl | 3, 1, _, _, _ => rfl | 4, 0, _, _, _ => rfl | 4, 1, _, _, _ => rfl | 5, 0, _, _, _ => rfl | 5, 1, _, _, _ => rfl | 6, 0, _, _, _ => rfl | 6, 1, _, _, _ => rfl | 7, 0, _, _, _ => rfl | 7, 1, _, _, _ => rfl
  · exact fun k h1 h2 => match k, h1, h2 with
      | 4, _, _ => rfl | 5, _, _ => rfl | 6, _, _ => (hs 6 (by decide) (by decide)).trans hk6 | 7, _, _ => (hs 7 (by decide) (by decide)).trans hk7
  · exact hr.trans hk8
end MASIDE
