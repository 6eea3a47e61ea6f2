/-! THE REFERENCE: opens(), name() -/
section MOPENS
variable {g : GS} {l : Launch} {Γ : Sh} {iv : IV} {rv : RV} {lv : LV}
theorem tok_here2 {b : Nat → Int32} {n : Nat} {t : Tk} (h : TokM iv lv b n t) (h1 : t.1 ≠ 14) : iv 75 28 = nI t.2.2.2 := by
  obtain ⟨-, -, h⟩ := h
  rcases h with ⟨-, h2, h3⟩ | ⟨-, h2, -, h3⟩ | ⟨-, h2, h3, -⟩ | ⟨-, -, h2, -, h3⟩ | ⟨h2, -⟩
  · exact h3
  · exact h3
  · exact h3
  · exact h3
  · exact absurd h2 h1
/-- fail(), where it isn't bad yet -/
theorem ct_fail0 (d : Nat) (hM : ShM Γ rv) (h33 : iv 75 33 = 0) {at_ : Nat} (h30 : iv 75 30 = nI at_) : Ct g l mX7_fail d 0 0 [.ref 75] Γ iv rv lv (qCV Γ rv lv (fun iv' => Off Ps iv iv' ∧ iv' 75 33 = 1 ∧ iv' 75 34 = nI at_ ∧ iv' 75 32 = iv 75 32)) := by
  refine (ct_fail d hM).mono ?_
  rintro r Γ2 iv2 rv2 lv2 ⟨rfl, rfl, rfl, rfl, h⟩
  rw [if_pos h33] at h
  subst h
  exact ⟨rfl, rfl, rfl, rfl, (off_up (by decide)).trans (off_up (by decide)), rfl, h30, rfl⟩
theorem ct_failb (d : Nat) (hM : ShM Γ rv) (h33 : iv 75 33 = 1) : Ct g l mX7_fail d 0 0 [.ref 75] Γ iv rv lv (qCV Γ rv lv (fun iv' => iv' = iv)) := by
  refine (ct_fail d hM).mono ?_
  rintro r Γ2 iv2 rv2 lv2 ⟨rfl, rfl, rfl, rfl, h⟩
  rw [if_neg (by rw [h33]; decide)] at h
  exact ⟨rfl, rfl, rfl, rfl, h⟩
set_option maxRecDepth 4000 in
theorem ct_opens (d : Nat) (hM : ShM Γ rv) {b : Nat → Int32} {n f op : Nat} (hT : TxM iv b n f) {t : Tk} (ht : TokM iv lv b n t) (h14 : t.1 ≠ 14) (h33 : iv 75 33 = 0) (h32 : iv 75 32 = nI op) (hop : op ≤ 5) : Ct g l mX7_opens (d + 2) 0 0 [.ref 75] Γ iv rv lv (qLI Γ rv (fun x iv' lv' => Off Ps iv iv' ∧ ((5 ≤ op ∧ x = 0 ∧ iv' 75 33 = 1 ∧ iv' 75 34 = nI t.2.1) ∨ (op < 5 ∧ x = 1 ∧ iv' 75 33 = 0 ∧ iv' 75 32 = nI (op + 1) ∧ TokM iv' lv' b n (lexS b n t.2.2.2))))) := by
  refine Ct.of (by decide +kernel) (Nat.le_of_ble_eq_true rfl) (Nat.le_of_ble_eq_true rfl) ?_
  have h28 := tok_here2 ht h14
  refine r_aload0 dX7_opens_0 ?_
  refine gf_X7_192 dX7_opens_1 rfl hM.1 ?_
  refine rn_iconst (5) dX7_opens_4 (by decide) ?_
  refine rn_icmp_ne 14 dX7_opens_5 rfl (fun c5 => ?_) (fun c5 => ?_)
  · refine r_aload0 dX7_opens_14 ?_
    refine rn_dup dX7_opens_15 rfl ?_
    refine gf_X7_192 dX7_opens_16 rfl hM.1 ?_
    refine rn_iconst (1) dX7_opens_19 (by decide) ?_
    refine rn_iadd dX7_opens_20 ?_
    refine pf_X7_192 dX7_opens_21 rfl hM.1 ?_
    refine r_aload0 dX7_opens_24 ?_
    refine clvV0 dX7_opens_25 ov_X7_next rfl ml_X7_198 hM.1 rfl (Nat.zero_le _) (Nat.zero_le _) (Nat.zero_le _) (ct_next (iv := up iv 75 32 (iv 75 32 + 1)) _ hM hT t.2.2.2 h28 ht.1.2.1) (fun iv lv h25 => ?_)
    refine rn_iconst (1) dX7_opens_28 (by decide) ?_
    refine rn_zret dX7_opens_29 rfl (by first | decide | exact nar_bI) (Nat.zero_le _) (Nat.zero_le _) ?_
    rw [h32, show (5 : Int32) = nI 5 by decide, nI_eq (by omega) (by decide)] at c5
    refine ⟨_, rfl, rfl, rfl, (off_up (by decide)).trans (lx_ps h25.1), Or.inr ⟨by omega, rfl, (h25.1 75 33 (by decide)).trans h33, (h25.1 75 32 (by decide)).trans ((up_same _ _ _ _).trans (by rw [h32]; exact nI_1 op)), h25.2⟩⟩
  · refine r_aload0 dX7_opens_8 ?_
    refine ccvV0 dX7_opens_9 ov_X7_fail rfl ml_X7_195 hM.1 rfl (Nat.zero_le _) (Nat.zero_le _) (Nat.zero_le _) (ct_fail0 _ hM h33 ht.2.1) (fun iv h9 => ?_)
    refine rn_iconst (0) dX7_opens_12 (by decide) ?_
    refine rn_zret dX7_opens_13 rfl (by first | decide | exact nar_bI) (Nat.zero_le _) (Nat.zero_le _) ?_
    refine ⟨_, rfl, rfl, rfl, h9.1, Or.inl ⟨?_, rfl, h9.2.1, h9.2.2.1⟩⟩
    rw [h32, show (5 : Int32) = nI 5 by decide, nI_eq (by omega) (by decide)] at c5
    omega
set_option maxRecDepth 4000 in
theorem ct_name (d : Nat) (hM : ShM Γ rv) {b : Nat → Int32} {n f : Nat} (hT : TxM iv b n f) {t : Tk} (ht : TokM iv lv b n t) (h33 : iv 75 33 = 0) {e : Nat → Int32} (he : ∀ j, j < 6 → iv 75 (20 + j) = e j) : Ct g l mX7_name (d + 3) 0 0 [.ref 75] Γ iv rv lv (qCI Γ rv lv (fun x iv' => (t.1 ≤ 5 ∧ iv' = iv ∧ x = e t.1) ∨ (5 < t.1 ∧ Off Ps iv iv' ∧ iv' 75 33 = 1 ∧ iv' 75 34 = nI t.2.1 ∧ iv' 75 32 = iv 75 32))) := by
  refine Ct.of (by decide +kernel) (Nat.le_of_ble_eq_true rfl) (Nat.le_of_ble_eq_true rfl) ?_
  refine r_aload0 dX7_name_0 ?_
  refine rn_bipush (103) dX7_name_1 (by decide) ?_
  refine rn_bipush (114) dX7_name_3 (by decide) ?_
  refine rn_bipush (111) dX7_name_5 (by decide) ?_
  refine rn_bipush (117) dX7_name_7 (by decide) ?_
  refine rn_bipush (110) dX7_name_9 (by decide) ?_
  refine rn_bipush (100) dX7_name_11 (by decide) ?_
  refine rn_iconst (0) dX7_name_13 (by decide) ?_
  refine rn_iconst (0) dX7_name_14 (by decide) ?_
  refine cpiV8 dX7_name_15 ov_X7_isWord rfl ml_X7_201 hM.1 rfl (Nat.zero_le _) (Nat.zero_le _) (Nat.zero_le _) (ct_isW0 _ hM hT ht) ?_
  refine rn_if_eq 26 dX7_name_18 rfl (fun c18 => ?_) (fun c18 => ?_)
  · refine r_aload0 dX7_name_26 ?_
    refine rn_bipush (109) dX7_name_27 (by decide) ?_
    refine rn_bipush (101) dX7_name_29 (by decide) ?_
    refine rn_bipush (110) dX7_name_31 (by decide) ?_
    refine rn_iconst (0) dX7_name_33 (by decide) ?_
    refine rn_iconst (0) dX7_name_34 (by decide) ?_
    refine rn_iconst (0) dX7_name_35 (by decide) ?_
    refine rn_iconst (0) dX7_name_36 (by decide) ?_
    refine rn_iconst (0) dX7_name_37 (by decide) ?_
    refine cpiV8 dX7_name_38 ov_X7_isWord rfl ml_X7_201 hM.1 rfl (Nat.zero_le _) (Nat.zero_le _) (Nat.zero_le _) (ct_isW1 _ hM hT ht) ?_
    refine rn_if_eq 49 dX7_name_41 rfl (fun c41 => ?_) (fun c41 => ?_)
    · refine r_aload0 dX7_name_49 ?_
      refine rn_bipush (121) dX7_name_50 (by decide) ?_
      refine rn_bipush (97) dX7_name_52 (by decide) ?_
      refine rn_bipush (114) dX7_name_54 (by decide) ?_
      refine rn_bipush (100) dX7_name_56 (by decide) ?_
      refine rn_iconst (0) dX7_name_58 (by decide) ?_
      refine rn_iconst (0) dX7_name_59 (by decide) ?_
      refine rn_iconst (0) dX7_name_60 (by decide) ?_
      refine rn_iconst (0) dX7_name_61 (by decide) ?_
      refine cpiV8 dX7_name_62 ov_X7_isWord rfl ml_X7_201 hM.1 rfl (Nat.zero_le _) (Nat.zero_le _) (Nat.zero_le _) (ct_isW2 _ hM hT ht) ?_
      refine rn_if_eq 73 dX7_name_65 rfl (fun c65 => ?_) (fun c65 => ?_)
      · refine r_aload0 dX7_name_73 ?_
        refine rn_bipush (97) dX7_name_74 (by decide) ?_
        refine rn_bipush (104) dX7_name_76 (by decide) ?_
        refine rn_bipush (101) dX7_name_78 (by decide) ?_
        refine rn_bipush (97) dX7_name_80 (by decide) ?_
        refine rn_bipush (100) dX7_name_82 (by decide) ?_
        refine rn_iconst (0) dX7_name_84 (by decide) ?_
        refine rn_iconst (0) dX7_name_85 (by decide) ?_
        refine rn_iconst (0) dX7_name_86 (by decide) ?_
        refine cpiV8 dX7_name_87 ov_X7_isWord rfl ml_X7_201 hM.1 rfl (Nat.zero_le _) (Nat.zero_le _) (Nat.zero_le _) (ct_isW3 _ hM hT ht) ?_
        refine rn_if_eq 98 dX7_name_90 rfl (fun c90 => ?_) (fun c90 => ?_)
        · refine r_aload0 dX7_name_98 ?_
          refine rn_bipush (100) dX7_name_99 (by decide) ?_
          refine rn_bipush (97) dX7_name_101 (by decide) ?_
          refine rn_bipush (121) dX7_name_103 (by decide) ?_
          refine rn_iconst (0) dX7_name_105 (by decide) ?_
          refine rn_iconst (0) dX7_name_106 (by decide) ?_
          refine rn_iconst (0) dX7_name_107 (by decide) ?_
          refine rn_iconst (0) dX7_name_108 (by decide) ?_
          refine rn_iconst (0) dX7_name_109 (by decide) ?_
          refine cpiV8 dX7_name_110 ov_X7_isWord rfl ml_X7_201 hM.1 rfl (Nat.zero_le _) (Nat.zero_le _) (Nat.zero_le _) (ct_isW4 _ hM hT ht) ?_
          refine rn_if_eq 121 dX7_name_113 rfl (fun c113 => ?_) (fun c113 => ?_)
          · refine r_aload0 dX7_name_121 ?_
            refine rn_bipush (107) dX7_name_122 (by decide) ?_
            refine rn_bipush (110) dX7_name_124 (by decide) ?_
            refine rn_bipush (111) dX7_name_126 (by decide) ?_
            refine rn_bipush (119) dX7_name_128 (by decide) ?_
            refine rn_bipush (110) dX7_name_130 (by decide) ?_
            refine rn_iconst (0) dX7_name_132 (by decide) ?_
            refine rn_iconst (0) dX7_name_133 (by decide) ?_
            refine rn_iconst (0) dX7_name_134 (by decide) ?_
            refine cpiV8 dX7_name_135 ov_X7_isWord rfl ml_X7_201 hM.1 rfl (Nat.zero_le _) (Nat.zero_le _) (Nat.zero_le _) (ct_isW5 _ hM hT ht) ?_
            refine rn_if_eq 146 dX7_name_138 rfl (fun c138 => ?_) (fun c138 => ?_)
            · refine r_aload0 dX7_name_146 ?_
              refine ccvV0 dX7_name_147 ov_X7_fail rfl ml_X7_195 hM.1 rfl (Nat.zero_le _) (Nat.zero_le _) (Nat.zero_le _) (ct_fail0 _ hM h33 ht.2.1) (fun iv h147 => ?_)
              refine rn_iconst (0) dX7_name_150 (by decide) ?_
              refine rn_iret dX7_name_151 rfl (Nat.zero_le _) (Nat.zero_le _) ?_
              refine ⟨_, rfl, rfl, rfl, rfl, Or.inr ⟨?_, h147⟩⟩
              rw [bI_0] at c18 c41 c65 c90 c113 c138
              have z0 : ¬ t.1 = 0 := fun z => c18 ⟨h33, z⟩
              have z1 : ¬ t.1 = 1 := fun z => c41 ⟨h33, z⟩
              have z2 : ¬ t.1 = 2 := fun z => c65 ⟨h33, z⟩
              have z3 : ¬ t.1 = 3 := fun z => c90 ⟨h33, z⟩
              have z4 : ¬ t.1 = 4 := fun z => c113 ⟨h33, z⟩
              have z5 : ¬ t.1 = 5 := fun z => c138 ⟨h33, z⟩
              omega
            · refine r_aload0 dX7_name_141 ?_
              refine gf_X7_220 dX7_name_142 rfl hM.1 ?_
              refine rn_iret dX7_name_145 rfl (Nat.zero_le _) (Nat.zero_le _) ?_
              have h9 := (bI_1.mp ((bI_or).resolve_left c138)).2
              exact ⟨_, rfl, rfl, rfl, rfl, Or.inl ⟨by omega, rfl, by rw [h9]; exact he 5 (by decide)⟩⟩
          · refine r_aload0 dX7_name_116 ?_
            refine gf_X7_217 dX7_name_117 rfl hM.1 ?_
            refine rn_iret dX7_name_120 rfl (Nat.zero_le _) (Nat.zero_le _) ?_
            have h9 := (bI_1.mp ((bI_or).resolve_left c113)).2
            exact ⟨_, rfl, rfl, rfl, rfl, Or.inl ⟨by omega, rfl, by rw [h9]; exact he 4 (by decide)⟩⟩
        · refine r_aload0 dX7_name_93 ?_
          refine gf_X7_214 dX7_name_94 rfl hM.1 ?_
          refine rn_iret dX7_name_97 rfl (Nat.zero_le _) (Nat.zero_le _) ?_
          have h9 := (bI_1.mp ((bI_or).resolve_left c90)).2
          exact ⟨_, rfl, rfl, rfl, rfl, Or.inl ⟨by omega, rfl, by rw [h9]; exact he 3 (by decide)⟩⟩
      · refine r_aload0 dX7_name_68 ?_
        refine gf_X7_211 dX7_name_69 rfl hM.1 ?_
        refine rn_iret dX7_name_72 rfl (Nat.zero_le _) (Nat.zero_le _) ?_
        have h9 := (bI_1.mp ((bI_or).resolve_left c65)).2
        exact ⟨_, rfl, rfl, rfl, rfl, Or.inl ⟨by omega, rfl, by rw [h9]; exact he 2 (by decide)⟩⟩
    · refine r_aload0 dX7_name_44 ?_
      refine gf_X7_208 dX7_name_45 rfl hM.1 ?_
      refine rn_iret dX7_name_48 rfl (Nat.zero_le _) (Nat.zero_le _) ?_
      have h9 := (bI_1.mp ((bI_or).resolve_left c41)).2
      exact ⟨_, rfl, rfl, rfl, rfl, Or.inl ⟨by omega, rfl, by rw [h9]; exact he 1 (by decide)⟩⟩
  · refine r_aload0 dX7_name_21 ?_
    refine gf_X7_205 dX7_name_22 rfl hM.1 ?_
    refine rn_iret dX7_name_25 rfl (Nat.zero_le _) (Nat.zero_le _) ?_
    have h9 := (bI_1.mp ((bI_or).resolve_left c18)).2
    exact ⟨_, rfl, rfl, rfl, rfl, Or.inl ⟨by omega, rfl, by rw [h9]; exact he 0 (by decide)⟩⟩
end MOPENS
