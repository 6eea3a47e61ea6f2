/-! THE REFERENCE: passes, runs -/
abbrev Pn (a b : Nat) : Prop := (a = 75 ∧ (b = 16 ∨ (20 ≤ b ∧ b ≤ 34))) ∨ a = 80 ∨ (84 ≤ a ∧ a ≤ 87)
abbrev Ru (a b : Nat) : Prop := (a = 75 ∧ (b = 16 ∨ b = 40 ∨ (20 ≤ b ∧ b ≤ 34))) ∨ a = 80 ∨ (84 ≤ a ∧ a ≤ 87)
theorem tn_pn {iv iv' : IV} (h : Off Tn iv iv') : Off Pn iv iv' := h.mono (fun a b z => by omega)
theorem pn_ru {iv iv' : IV} (h : Off Pn iv iv') : Off Ru iv iv' := h.mono (fun a b z => by omega)
theorem TextsM.pn {iv iv' : IV} {T : Nat} {S : Nat → Nat → List Int32} (h : TextsM iv T S) (ho : Off Pn iv iv') : TextsM iv' T S := h.off ho (fun b => ⟨by omega, by omega⟩)
theorem TextsM.ru {iv iv' : IV} {T : Nat} {S : Nat → Nat → List Int32} (h : TextsM iv T S) (ho : Off Ru iv iv') : TextsM iv' T S := h.off ho (fun b => ⟨by omega, by omega⟩)
theorem day_top {ρ : IV} (h : GR ρ) (h2 : 999 ≤ ρ 4 4) : ρ 4 4 = 999 := by
  obtain ⟨d, d1, d2⟩ := h.2.2.2.2.1
  rw [d2] at h2 ⊢
  rw [show (999 : Int32) = nI 999 by decide] at h2 ⊢
  rw [nI_leI (by decide) (by omega)] at h2
  rw [show d = 999 by omega]
section MPASS
variable {g : GS} {l : Launch} {Γ : Sh} {iv : IV} {rv : RV} {lv : LV}
set_option maxRecDepth 4000 in
theorem ct_mpasses (D : Nat) (hM : ShM Γ rv) {ρ : IV} {S : Nat → Nat → List Int32} {T : Nat} (hR : RM iv ρ) (hX : TextsM iv T S) (hT6 : T ≤ 6) {t : Nat} (ht : ρ 4 8 = nI t) (htT : t < T) (hg : GR ρ) (idl : Int32) : Ct g l mX7_passes (D + 50) 0 0 [.ref 75, .int idl] Γ iv rv lv (qLV Γ rv (fun iv' _ => Off Pn iv iv' ∧ RM iv' (passS S ρ idl))) := by
  refine Ct.of (by decide +kernel) (Nat.le_of_ble_eq_true rfl) (Nat.le_of_ble_eq_true rfl) ?_
  refine rn_iconst (0) dX7_passes_0 (by decide) ?_
  refine r_istore2 dX7_passes_1 rfl ?_
  refine r_iload2 dX7_passes_2 ?_
  refine rn_iconst (2) dX7_passes_3 (by decide) ?_
  refine rn_icmp_ge 30 dX7_passes_4 rfl (fun h => absurd h (by decide)) (fun _ => ?_)
  refine r_aload0 dX7_passes_7 ?_
  refine cpiV0 dX7_passes_8 ov_X7_left rfl ml_X7_137 hM.1 rfl (Nat.zero_le _) (Nat.zero_le _) (Nat.zero_le _) (ct_left _ hM) ?_
  refine rn_eqi _ hR.left ?_
  refine rn_if_le 24 dX7_passes_11 rfl (fun c11 => ?_) (fun c11 => ?_)
  · have hh : half1 S ρ 0 idl = ρ := by unfold half1; rw [if_neg (fun z => (Int32.not_lt.mpr c11) z.1)]
    have hRa : RM iv (half1 S ρ 0 idl) := by rw [hh]; exact hR
    have hoa := Off.refl (S := Tn) (iv := iv)
    have hXa := hX
    have hga : GR (half1 S ρ 0 idl) := gr_half (by decide) hg
    have hta : half1 S ρ 0 idl 4 8 = nI t := (rule_half (by decide)).trans ht
    clear hh
    refine r_iinc2 _ dX7_passes_24 rfl rfl ?_
    refine rn_goto 2 dX7_passes_27 rfl ?_
    refine r_iload2 dX7_passes_2 ?_
    refine rn_iconst (2) dX7_passes_3 (by decide) ?_
    refine rn_icmp_ge 30 dX7_passes_4 rfl (fun h => absurd h (by decide)) (fun _ => ?_)
    refine r_aload0 dX7_passes_7 ?_
    refine cpiV0 dX7_passes_8 ov_X7_left rfl ml_X7_137 hM.1 rfl (Nat.zero_le _) (Nat.zero_le _) (Nat.zero_le _) (ct_left _ hM) ?_
    refine rn_eqi _ hRa.left ?_
    refine rn_if_le 24 dX7_passes_11 rfl (fun c11 => ?_) (fun c11 => ?_)
    · have hh : half1 S (half1 S ρ 0 idl) 1 idl = (half1 S ρ 0 idl) := by unfold half1; rw [if_neg (fun z => (Int32.not_lt.mpr c11) z.1)]
      have hRb : RM iv (half1 S (half1 S ρ 0 idl) 1 idl) := by rw [hh]; exact hRa
      have hob := hoa
      have hXb := hXa
      have hgb : GR (half1 S (half1 S ρ 0 idl) 1 idl) := gr_half (by decide) hga
      have htb : half1 S (half1 S ρ 0 idl) 1 idl 4 8 = nI t := (rule_half (by decide)).trans hta
      clear hh
      refine r_iinc2 _ dX7_passes_24 rfl rfl ?_
      refine rn_goto 2 dX7_passes_27 rfl ?_
      refine r_iload2 dX7_passes_2 ?_
      refine rn_iconst (2) dX7_passes_3 (by decide) ?_
      refine rn_icmp_ge 30 dX7_passes_4 rfl (fun _ => ?_) (fun h => absurd (by decide) h)
      refine r_aload0 dX7_passes_30 ?_
      refine r_aload0 dX7_passes_31 ?_
      refine gf_X7_265 dX7_passes_32 rfl hM.1 ?_
      refine rn_eqi ((half1 S (half1 S ρ 0 idl) 1 idl) 4 4) (hRb.2.2.1 4 (by decide) (by decide)) ?_
      refine rn_sipush (999) dX7_passes_35 (by decide) ?_
      refine rn_icmp_ge 50 dX7_passes_38 rfl (fun c38 => ?_) (fun c38 => ?_)
      · refine rn_sipush (999) dX7_passes_50 (by decide) ?_
        refine pf_X7_265 dX7_passes_53 rfl hM.1 ?_
        refine rn_vret dX7_passes_56 rfl (Nat.zero_le _) (Nat.zero_le _) ?_
        refine ⟨rfl, rfl, rfl, (tn_pn hob).trans (off_up (by decide)), ?_⟩
        unfold passS dayS
        rw [show (if (half1 S (half1 S ρ 0 idl) 1 idl) 4 4 < 999 then (half1 S (half1 S ρ 0 idl) 1 idl) 4 4 + 1 else (half1 S (half1 S ρ 0 idl) 1 idl) 4 4) = 999 from by rw [if_neg (Int32.not_lt.mpr c38)]; exact day_top hgb c38]
        exact hRb.ups 4 (by decide) (by decide)
      · refine r_aload0 dX7_passes_41 ?_
        refine gf_X7_265 dX7_passes_42 rfl hM.1 ?_
        refine rn_eqi ((half1 S (half1 S ρ 0 idl) 1 idl) 4 4) (hRb.2.2.1 4 (by decide) (by decide)) ?_
        refine rn_iconst (1) dX7_passes_45 (by decide) ?_
        refine rn_iadd dX7_passes_46 ?_
        refine rn_goto 53 dX7_passes_47 rfl ?_
        refine pf_X7_265 dX7_passes_53 rfl hM.1 ?_
        refine rn_vret dX7_passes_56 rfl (Nat.zero_le _) (Nat.zero_le _) ?_
        refine ⟨rfl, rfl, rfl, (tn_pn hob).trans (off_up (by decide)), ?_⟩
        unfold passS dayS
        rw [show (if (half1 S (half1 S ρ 0 idl) 1 idl) 4 4 < 999 then (half1 S (half1 S ρ 0 idl) 1 idl) 4 4 + 1 else (half1 S (half1 S ρ 0 idl) 1 idl) 4 4) = (half1 S (half1 S ρ 0 idl) 1 idl) 4 4 + 1 from by rw [if_pos (Int32.not_le.mp c38)]]
        exact hRb.ups 4 (by decide) (by decide)
    · refine r_iload2 dX7_passes_14 ?_
      refine r_iload1 dX7_passes_15 ?_
      refine rn_icmp_eq 24 dX7_passes_16 rfl (fun c16 => ?_) (fun c16 => ?_)
      · have hh : half1 S (half1 S ρ 0 idl) 1 idl = (half1 S ρ 0 idl) := by unfold half1; rw [if_neg (fun z => z.2 (by rw [← c16]; decide))]
        have hRb : RM iv (half1 S (half1 S ρ 0 idl) 1 idl) := by rw [hh]; exact hRa
        have hob := hoa
        have hXb := hXa
        have hgb : GR (half1 S (half1 S ρ 0 idl) 1 idl) := gr_half (by decide) hga
        have htb : half1 S (half1 S ρ 0 idl) 1 idl 4 8 = nI t := (rule_half (by decide)).trans hta
        clear hh
        refine r_iinc2 _ dX7_passes_24 rfl rfl ?_
        refine rn_goto 2 dX7_passes_27 rfl ?_
        refine r_iload2 dX7_passes_2 ?_
        refine rn_iconst (2) dX7_passes_3 (by decide) ?_
        refine rn_icmp_ge 30 dX7_passes_4 rfl (fun _ => ?_) (fun h => absurd (by decide) h)
        refine r_aload0 dX7_passes_30 ?_
        refine r_aload0 dX7_passes_31 ?_
        refine gf_X7_265 dX7_passes_32 rfl hM.1 ?_
        refine rn_eqi ((half1 S (half1 S ρ 0 idl) 1 idl) 4 4) (hRb.2.2.1 4 (by decide) (by decide)) ?_
        refine rn_sipush (999) dX7_passes_35 (by decide) ?_
        refine rn_icmp_ge 50 dX7_passes_38 rfl (fun c38 => ?_) (fun c38 => ?_)
        · refine rn_sipush (999) dX7_passes_50 (by decide) ?_
          refine pf_X7_265 dX7_passes_53 rfl hM.1 ?_
          refine rn_vret dX7_passes_56 rfl (Nat.zero_le _) (Nat.zero_le _) ?_
          refine ⟨rfl, rfl, rfl, (tn_pn hob).trans (off_up (by decide)), ?_⟩
          unfold passS dayS
          rw [show (if (half1 S (half1 S ρ 0 idl) 1 idl) 4 4 < 999 then (half1 S (half1 S ρ 0 idl) 1 idl) 4 4 + 1 else (half1 S (half1 S ρ 0 idl) 1 idl) 4 4) = 999 from by rw [if_neg (Int32.not_lt.mpr c38)]; exact day_top hgb c38]
          exact hRb.ups 4 (by decide) (by decide)
        · refine r_aload0 dX7_passes_41 ?_
          refine gf_X7_265 dX7_passes_42 rfl hM.1 ?_
          refine rn_eqi ((half1 S (half1 S ρ 0 idl) 1 idl) 4 4) (hRb.2.2.1 4 (by decide) (by decide)) ?_
          refine rn_iconst (1) dX7_passes_45 (by decide) ?_
          refine rn_iadd dX7_passes_46 ?_
          refine rn_goto 53 dX7_passes_47 rfl ?_
          refine pf_X7_265 dX7_passes_53 rfl hM.1 ?_
          refine rn_vret dX7_passes_56 rfl (Nat.zero_le _) (Nat.zero_le _) ?_
          refine ⟨rfl, rfl, rfl, (tn_pn hob).trans (off_up (by decide)), ?_⟩
          unfold passS dayS
          rw [show (if (half1 S (half1 S ρ 0 idl) 1 idl) 4 4 < 999 then (half1 S (half1 S ρ 0 idl) 1 idl) 4 4 + 1 else (half1 S (half1 S ρ 0 idl) 1 idl) 4 4) = (half1 S (half1 S ρ 0 idl) 1 idl) 4 4 + 1 from by rw [if_pos (Int32.not_le.mp c38)]]
          exact hRb.ups 4 (by decide) (by decide)
      · refine r_aload0 dX7_passes_19 ?_
        refine r_iload2 dX7_passes_20 ?_
        refine clvV1 dX7_passes_21 ov_X7_turn rfl ml_X7_278 hM.1 rfl (Nat.zero_le _) (Nat.zero_le _) (Nat.zero_le _) (ct_mturn (γ := 1) D hM hRa hXa hT6 hta htT hga ((ahead_pos hga).mp (Int32.not_le.mp c11)) (by decide) (by decide)) (fun iv lv h21 => ?_)
        have hh : half1 S (half1 S ρ 0 idl) 1 idl = turnS S (half1 S ρ 0 idl) 1 := by unfold half1; rw [if_pos ⟨Int32.not_le.mp c11, fun z => c16 (by rw [z]; decide)⟩]
        have hRb : RM iv (half1 S (half1 S ρ 0 idl) 1 idl) := by rw [hh]; exact h21.2
        have hob := hoa.trans h21.1
        have hXb := hXa.tn h21.1
        have hgb : GR (half1 S (half1 S ρ 0 idl) 1 idl) := gr_half (by decide) hga
        have htb : half1 S (half1 S ρ 0 idl) 1 idl 4 8 = nI t := (rule_half (by decide)).trans hta
        clear hh
        refine r_iinc2 _ dX7_passes_24 rfl rfl ?_
        refine rn_goto 2 dX7_passes_27 rfl ?_
        refine r_iload2 dX7_passes_2 ?_
        refine rn_iconst (2) dX7_passes_3 (by decide) ?_
        refine rn_icmp_ge 30 dX7_passes_4 rfl (fun _ => ?_) (fun h => absurd (by decide) h)
        refine r_aload0 dX7_passes_30 ?_
        refine r_aload0 dX7_passes_31 ?_
        refine gf_X7_265 dX7_passes_32 rfl hM.1 ?_
        refine rn_eqi ((half1 S (half1 S ρ 0 idl) 1 idl) 4 4) (hRb.2.2.1 4 (by decide) (by decide)) ?_
        refine rn_sipush (999) dX7_passes_35 (by decide) ?_
        refine rn_icmp_ge 50 dX7_passes_38 rfl (fun c38 => ?_) (fun c38 => ?_)
        · refine rn_sipush (999) dX7_passes_50 (by decide) ?_
          refine pf_X7_265 dX7_passes_53 rfl hM.1 ?_
          refine rn_vret dX7_passes_56 rfl (Nat.zero_le _) (Nat.zero_le _) ?_
          refine ⟨rfl, rfl, rfl, (tn_pn hob).trans (off_up (by decide)), ?_⟩
          unfold passS dayS
          rw [show (if (half1 S (half1 S ρ 0 idl) 1 idl) 4 4 < 999 then (half1 S (half1 S ρ 0 idl) 1 idl) 4 4 + 1 else (half1 S (half1 S ρ 0 idl) 1 idl) 4 4) = 999 from by rw [if_neg (Int32.not_lt.mpr c38)]; exact day_top hgb c38]
          exact hRb.ups 4 (by decide) (by decide)
        · refine r_aload0 dX7_passes_41 ?_
          refine gf_X7_265 dX7_passes_42 rfl hM.1 ?_
          refine rn_eqi ((half1 S (half1 S ρ 0 idl) 1 idl) 4 4) (hRb.2.2.1 4 (by decide) (by decide)) ?_
          refine rn_iconst (1) dX7_passes_45 (by decide) ?_
          refine rn_iadd dX7_passes_46 ?_
          refine rn_goto 53 dX7_passes_47 rfl ?_
          refine pf_X7_265 dX7_passes_53 rfl hM.1 ?_
          refine rn_vret dX7_passes_56 rfl (Nat.zero_le _) (Nat.zero_le _) ?_
          refine ⟨rfl, rfl, rfl, (tn_pn hob).trans (off_up (by decide)), ?_⟩
          unfold passS dayS
          rw [show (if (half1 S (half1 S ρ 0 idl) 1 idl) 4 4 < 999 then (half1 S (half1 S ρ 0 idl) 1 idl) 4 4 + 1 else (half1 S (half1 S ρ 0 idl) 1 idl) 4 4) = (half1 S (half1 S ρ 0 idl) 1 idl) 4 4 + 1 from by rw [if_pos (Int32.not_le.mp c38)]]
          exact hRb.ups 4 (by decide) (by decide)
  · refine r_iload2 dX7_passes_14 ?_
    refine r_iload1 dX7_passes_15 ?_
    refine rn_icmp_eq 24 dX7_passes_16 rfl (fun c16 => ?_) (fun c16 => ?_)
    · have hh : half1 S ρ 0 idl = ρ := by unfold half1; rw [if_neg (fun z => z.2 (by rw [← c16]; decide))]
      have hRa : RM iv (half1 S ρ 0 idl) := by rw [hh]; exact hR
      have hoa := Off.refl (S := Tn) (iv := iv)
      have hXa := hX
      have hga : GR (half1 S ρ 0 idl) := gr_half (by decide) hg
      have hta : half1 S ρ 0 idl 4 8 = nI t := (rule_half (by decide)).trans ht
      clear hh
      refine r_iinc2 _ dX7_passes_24 rfl rfl ?_
      refine rn_goto 2 dX7_passes_27 rfl ?_
      refine r_iload2 dX7_passes_2 ?_
      refine rn_iconst (2) dX7_passes_3 (by decide) ?_
      refine rn_icmp_ge 30 dX7_passes_4 rfl (fun h => absurd h (by decide)) (fun _ => ?_)
      refine r_aload0 dX7_passes_7 ?_
      refine cpiV0 dX7_passes_8 ov_X7_left rfl ml_X7_137 hM.1 rfl (Nat.zero_le _) (Nat.zero_le _) (Nat.zero_le _) (ct_left _ hM) ?_
      refine rn_eqi _ hRa.left ?_
      refine rn_if_le 24 dX7_passes_11 rfl (fun c11 => ?_) (fun c11 => ?_)
      · have hh : half1 S (half1 S ρ 0 idl) 1 idl = (half1 S ρ 0 idl) := by unfold half1; rw [if_neg (fun z => (Int32.not_lt.mpr c11) z.1)]
        have hRb : RM iv (half1 S (half1 S ρ 0 idl) 1 idl) := by rw [hh]; exact hRa
        have hob := hoa
        have hXb := hXa
        have hgb : GR (half1 S (half1 S ρ 0 idl) 1 idl) := gr_half (by decide) hga
        have htb : half1 S (half1 S ρ 0 idl) 1 idl 4 8 = nI t := (rule_half (by decide)).trans hta
        clear hh
        refine r_iinc2 _ dX7_passes_24 rfl rfl ?_
        refine rn_goto 2 dX7_passes_27 rfl ?_
        refine r_iload2 dX7_passes_2 ?_
        refine rn_iconst (2) dX7_passes_3 (by decide) ?_
        refine rn_icmp_ge 30 dX7_passes_4 rfl (fun _ => ?_) (fun h => absurd (by decide) h)
        refine r_aload0 dX7_passes_30 ?_
        refine r_aload0 dX7_passes_31 ?_
        refine gf_X7_265 dX7_passes_32 rfl hM.1 ?_
        refine rn_eqi ((half1 S (half1 S ρ 0 idl) 1 idl) 4 4) (hRb.2.2.1 4 (by decide) (by decide)) ?_
        refine rn_sipush (999) dX7_passes_35 (by decide) ?_
        refine rn_icmp_ge 50 dX7_passes_38 rfl (fun c38 => ?_) (fun c38 => ?_)
        · refine rn_sipush (999) dX7_passes_50 (by decide) ?_
          refine pf_X7_265 dX7_passes_53 rfl hM.1 ?_
          refine rn_vret dX7_passes_56 rfl (Nat.zero_le _) (Nat.zero_le _) ?_
          refine ⟨rfl, rfl, rfl, (tn_pn hob).trans (off_up (by decide)), ?_⟩
          unfold passS dayS
          rw [show (if (half1 S (half1 S ρ 0 idl) 1 idl) 4 4 < 999 then (half1 S (half1 S ρ 0 idl) 1 idl) 4 4 + 1 else (half1 S (half1 S ρ 0 idl) 1 idl) 4 4) = 999 from by rw [if_neg (Int32.not_lt.mpr c38)]; exact day_top hgb c38]
          exact hRb.ups 4 (by decide) (by decide)
        · refine r_aload0 dX7_passes_41 ?_
          refine gf_X7_265 dX7_passes_42 rfl hM.1 ?_
          refine rn_eqi ((half1 S (half1 S ρ 0 idl) 1 idl) 4 4) (hRb.2.2.1 4 (by decide) (by decide)) ?_
          refine rn_iconst (1) dX7_passes_45 (by decide) ?_
          refine rn_iadd dX7_passes_46 ?_
          refine rn_goto 53 dX7_passes_47 rfl ?_
          refine pf_X7_265 dX7_passes_53 rfl hM.1 ?_
          refine rn_vret dX7_passes_56 rfl (Nat.zero_le _) (Nat.zero_le _) ?_
          refine ⟨rfl, rfl, rfl, (tn_pn hob).trans (off_up (by decide)), ?_⟩
          unfold passS dayS
          rw [show (if (half1 S (half1 S ρ 0 idl) 1 idl) 4 4 < 999 then (half1 S (half1 S ρ 0 idl) 1 idl) 4 4 + 1 else (half1 S (half1 S ρ 0 idl) 1 idl) 4 4) = (half1 S (half1 S ρ 0 idl) 1 idl) 4 4 + 1 from by rw [if_pos (Int32.not_le.mp c38)]]
          exact hRb.ups 4 (by decide) (by decide)
      · refine r_iload2 dX7_passes_14 ?_
        refine r_iload1 dX7_passes_15 ?_
        refine rn_icmp_eq 24 dX7_passes_16 rfl (fun c16 => ?_) (fun c16 => ?_)
        · have hh : half1 S (half1 S ρ 0 idl) 1 idl = (half1 S ρ 0 idl) := by unfold half1; rw [if_neg (fun z => z.2 (by rw [← c16]; decide))]
          have hRb : RM iv (half1 S (half1 S ρ 0 idl) 1 idl) := by rw [hh]; exact hRa
          have hob := hoa
          have hXb := hXa
          have hgb : GR (half1 S (half1 S ρ 0 idl) 1 idl) := gr_half (by decide) hga
          have htb : half1 S (half1 S ρ 0 idl) 1 idl 4 8 = nI t := (rule_half (by decide)).trans hta
          clear hh
          refine r_iinc2 _ dX7_passes_24 rfl rfl ?_
          refine rn_goto 2 dX7_passes_27 rfl ?_
          refine r_iload2 dX7_passes_2 ?_
          refine rn_iconst (2) dX7_passes_3 (by decide) ?_
          refine rn_icmp_ge 30 dX7_passes_4 rfl (fun _ => ?_) (fun h => absurd (by decide) h)
          refine r_aload0 dX7_passes_30 ?_
          refine r_aload0 dX7_passes_31 ?_
          refine gf_X7_265 dX7_passes_32 rfl hM.1 ?_
          refine rn_eqi ((half1 S (half1 S ρ 0 idl) 1 idl) 4 4) (hRb.2.2.1 4 (by decide) (by decide)) ?_
          refine rn_sipush (999) dX7_passes_35 (by decide) ?_
          refine rn_icmp_ge 50 dX7_passes_38 rfl (fun c38 => ?_) (fun c38 => ?_)
          · refine rn_sipush (999) dX7_passes_50 (by decide) ?_
            refine pf_X7_265 dX7_passes_53 rfl hM.1 ?_
            refine rn_vret dX7_passes_56 rfl (Nat.zero_le _) (Nat.zero_le _) ?_
            refine ⟨rfl, rfl, rfl, (tn_pn hob).trans (off_up (by decide)), ?_⟩
            unfold passS dayS
            rw [show (if (half1 S (half1 S ρ 0 idl) 1 idl) 4 4 < 999 then (half1 S (half1 S ρ 0 idl) 1 idl) 4 4 + 1 else (half1 S (half1 S ρ 0 idl) 1 idl) 4 4) = 999 from by rw [if_neg (Int32.not_lt.mpr c38)]; exact day_top hgb c38]
            exact hRb.ups 4 (by decide) (by decide)
          · refine r_aload0 dX7_passes_41 ?_
            refine gf_X7_265 dX7_passes_42 rfl hM.1 ?_
            refine rn_eqi ((half1 S (half1 S ρ 0 idl) 1 idl) 4 4) (hRb.2.2.1 4 (by decide) (by decide)) ?_
            refine rn_iconst (1) dX7_passes_45 (by decide) ?_
            refine rn_iadd dX7_passes_46 ?_
            refine rn_goto 53 dX7_passes_47 rfl ?_
            refine pf_X7_265 dX7_passes_53 rfl hM.1 ?_
            refine rn_vret dX7_passes_56 rfl (Nat.zero_le _) (Nat.zero_le _) ?_
            refine ⟨rfl, rfl, rfl, (tn_pn hob).trans (off_up (by decide)), ?_⟩
            unfold passS dayS
            rw [show (if (half1 S (half1 S ρ 0 idl) 1 idl) 4 4 < 999 then (half1 S (half1 S ρ 0 idl) 1 idl) 4 4 + 1 else (half1 S (half1 S ρ 0 idl) 1 idl) 4 4) = (half1 S (half1 S ρ 0 idl) 1 idl) 4 4 + 1 from by rw [if_pos (Int32.not_le.mp c38)]]
            exact hRb.ups 4 (by decide) (by decide)
        · refine r_aload0 dX7_passes_19 ?_
          refine r_iload2 dX7_passes_20 ?_
          refine clvV1 dX7_passes_21 ov_X7_turn rfl ml_X7_278 hM.1 rfl (Nat.zero_le _) (Nat.zero_le _) (Nat.zero_le _) (ct_mturn (γ := 1) D hM hRa hXa hT6 hta htT hga ((ahead_pos hga).mp (Int32.not_le.mp c11)) (by decide) (by decide)) (fun iv lv h21 => ?_)
          have hh : half1 S (half1 S ρ 0 idl) 1 idl = turnS S (half1 S ρ 0 idl) 1 := by unfold half1; rw [if_pos ⟨Int32.not_le.mp c11, fun z => c16 (by rw [z]; decide)⟩]
          have hRb : RM iv (half1 S (half1 S ρ 0 idl) 1 idl) := by rw [hh]; exact h21.2
          have hob := hoa.trans h21.1
          have hXb := hXa.tn h21.1
          have hgb : GR (half1 S (half1 S ρ 0 idl) 1 idl) := gr_half (by decide) hga
          have htb : half1 S (half1 S ρ 0 idl) 1 idl 4 8 = nI t := (rule_half (by decide)).trans hta
          clear hh
          refine r_iinc2 _ dX7_passes_24 rfl rfl ?_
          refine rn_goto 2 dX7_passes_27 rfl ?_
          refine r_iload2 dX7_passes_2 ?_
          refine rn_iconst (2) dX7_passes_3 (by decide) ?_
          refine rn_icmp_ge 30 dX7_passes_4 rfl (fun _ => ?_) (fun h => absurd (by decide) h)
          refine r_aload0 dX7_passes_30 ?_
          refine r_aload0 dX7_passes_31 ?_
          refine gf_X7_265 dX7_passes_32 rfl hM.1 ?_
          refine rn_eqi ((half1 S (half1 S ρ 0 idl) 1 idl) 4 4) (hRb.2.2.1 4 (by decide) (by decide)) ?_
          refine rn_sipush (999) dX7_passes_35 (by decide) ?_
          refine rn_icmp_ge 50 dX7_passes_38 rfl (fun c38 => ?_) (fun c38 => ?_)
          · refine rn_sipush (999) dX7_passes_50 (by decide) ?_
            refine pf_X7_265 dX7_passes_53 rfl hM.1 ?_
            refine rn_vret dX7_passes_56 rfl (Nat.zero_le _) (Nat.zero_le _) ?_
            refine ⟨rfl, rfl, rfl, (tn_pn hob).trans (off_up (by decide)), ?_⟩
            unfold passS dayS
            rw [show (if (half1 S (half1 S ρ 0 idl) 1 idl) 4 4 < 999 then (half1 S (half1 S ρ 0 idl) 1 idl) 4 4 + 1 else (half1 S (half1 S ρ 0 idl) 1 idl) 4 4) = 999 from by rw [if_neg (Int32.not_lt.mpr c38)]; exact day_top hgb c38]
            exact hRb.ups 4 (by decide) (by decide)
          · refine r_aload0 dX7_passes_41 ?_
            refine gf_X7_265 dX7_passes_42 rfl hM.1 ?_
            refine rn_eqi ((half1 S (half1 S ρ 0 idl) 1 idl) 4 4) (hRb.2.2.1 4 (by decide) (by decide)) ?_
            refine rn_iconst (1) dX7_passes_45 (by decide) ?_
            refine rn_iadd dX7_passes_46 ?_
            refine rn_goto 53 dX7_passes_47 rfl ?_
            refine pf_X7_265 dX7_passes_53 rfl hM.1 ?_
            refine rn_vret dX7_passes_56 rfl (Nat.zero_le _) (Nat.zero_le _) ?_
            refine ⟨rfl, rfl, rfl, (tn_pn hob).trans (off_up (by decide)), ?_⟩
            unfold passS dayS
            rw [show (if (half1 S (half1 S ρ 0 idl) 1 idl) 4 4 < 999 then (half1 S (half1 S ρ 0 idl) 1 idl) 4 4 + 1 else (half1 S (half1 S ρ 0 idl) 1 idl) 4 4) = (half1 S (half1 S ρ 0 idl) 1 idl) 4 4 + 1 from by rw [if_pos (Int32.not_le.mp c38)]]
            exact hRb.ups 4 (by decide) (by decide)
    · refine r_aload0 dX7_passes_19 ?_
      refine r_iload2 dX7_passes_20 ?_
      refine clvV1 dX7_passes_21 ov_X7_turn rfl ml_X7_278 hM.1 rfl (Nat.zero_le _) (Nat.zero_le _) (Nat.zero_le _) (ct_mturn (γ := 0) D hM hR hX hT6 ht htT hg ((ahead_pos hg).mp (Int32.not_le.mp c11)) (by decide) (by decide)) (fun iv lv h21 => ?_)
      have hh : half1 S ρ 0 idl = turnS S ρ 0 := by unfold half1; rw [if_pos ⟨Int32.not_le.mp c11, fun z => c16 (by rw [z]; decide)⟩]
      have hRa : RM iv (half1 S ρ 0 idl) := by rw [hh]; exact h21.2
      have hoa := h21.1
      have hXa := hX.tn h21.1
      have hga : GR (half1 S ρ 0 idl) := gr_half (by decide) hg
      have hta : half1 S ρ 0 idl 4 8 = nI t := (rule_half (by decide)).trans ht
      clear hh
      refine r_iinc2 _ dX7_passes_24 rfl rfl ?_
      refine rn_goto 2 dX7_passes_27 rfl ?_
      refine r_iload2 dX7_passes_2 ?_
      refine rn_iconst (2) dX7_passes_3 (by decide) ?_
      refine rn_icmp_ge 30 dX7_passes_4 rfl (fun h => absurd h (by decide)) (fun _ => ?_)
      refine r_aload0 dX7_passes_7 ?_
      refine cpiV0 dX7_passes_8 ov_X7_left rfl ml_X7_137 hM.1 rfl (Nat.zero_le _) (Nat.zero_le _) (Nat.zero_le _) (ct_left _ hM) ?_
      refine rn_eqi _ hRa.left ?_
      refine rn_if_le 24 dX7_passes_11 rfl (fun c11 => ?_) (fun c11 => ?_)
      · have hh : half1 S (half1 S ρ 0 idl) 1 idl = (half1 S ρ 0 idl) := by unfold half1; rw [if_neg (fun z => (Int32.not_lt.mpr c11) z.1)]
        have hRb : RM iv (half1 S (half1 S ρ 0 idl) 1 idl) := by rw [hh]; exact hRa
        have hob := hoa
        have hXb := hXa
        have hgb : GR (half1 S (half1 S ρ 0 idl) 1 idl) := gr_half (by decide) hga
        have htb : half1 S (half1 S ρ 0 idl) 1 idl 4 8 = nI t := (rule_half (by decide)).trans hta
        clear hh
        refine r_iinc2 _ dX7_passes_24 rfl rfl ?_
        refine rn_goto 2 dX7_passes_27 rfl ?_
        refine r_iload2 dX7_passes_2 ?_
        refine rn_iconst (2) dX7_passes_3 (by decide) ?_
        refine rn_icmp_ge 30 dX7_passes_4 rfl (fun _ => ?_) (fun h => absurd (by decide) h)
        refine r_aload0 dX7_passes_30 ?_
        refine r_aload0 dX7_passes_31 ?_
        refine gf_X7_265 dX7_passes_32 rfl hM.1 ?_
        refine rn_eqi ((half1 S (half1 S ρ 0 idl) 1 idl) 4 4) (hRb.2.2.1 4 (by decide) (by decide)) ?_
        refine rn_sipush (999) dX7_passes_35 (by decide) ?_
        refine rn_icmp_ge 50 dX7_passes_38 rfl (fun c38 => ?_) (fun c38 => ?_)
        · refine rn_sipush (999) dX7_passes_50 (by decide) ?_
          refine pf_X7_265 dX7_passes_53 rfl hM.1 ?_
          refine rn_vret dX7_passes_56 rfl (Nat.zero_le _) (Nat.zero_le _) ?_
          refine ⟨rfl, rfl, rfl, (tn_pn hob).trans (off_up (by decide)), ?_⟩
          unfold passS dayS
          rw [show (if (half1 S (half1 S ρ 0 idl) 1 idl) 4 4 < 999 then (half1 S (half1 S ρ 0 idl) 1 idl) 4 4 + 1 else (half1 S (half1 S ρ 0 idl) 1 idl) 4 4) = 999 from by rw [if_neg (Int32.not_lt.mpr c38)]; exact day_top hgb c38]
          exact hRb.ups 4 (by decide) (by decide)
        · refine r_aload0 dX7_passes_41 ?_
          refine gf_X7_265 dX7_passes_42 rfl hM.1 ?_
          refine rn_eqi ((half1 S (half1 S ρ 0 idl) 1 idl) 4 4) (hRb.2.2.1 4 (by decide) (by decide)) ?_
          refine rn_iconst (1) dX7_passes_45 (by decide) ?_
          refine rn_iadd dX7_passes_46 ?_
          refine rn_goto 53 dX7_passes_47 rfl ?_
          refine pf_X7_265 dX7_passes_53 rfl hM.1 ?_
          refine rn_vret dX7_passes_56 rfl (Nat.zero_le _) (Nat.zero_le _) ?_
          refine ⟨rfl, rfl, rfl, (tn_pn hob).trans (off_up (by decide)), ?_⟩
          unfold passS dayS
          rw [show (if (half1 S (half1 S ρ 0 idl) 1 idl) 4 4 < 999 then (half1 S (half1 S ρ 0 idl) 1 idl) 4 4 + 1 else (half1 S (half1 S ρ 0 idl) 1 idl) 4 4) = (half1 S (half1 S ρ 0 idl) 1 idl) 4 4 + 1 from by rw [if_pos (Int32.not_le.mp c38)]]
          exact hRb.ups 4 (by decide) (by decide)
      · refine r_iload2 dX7_passes_14 ?_
        refine r_iload1 dX7_passes_15 ?_
        refine rn_icmp_eq 24 dX7_passes_16 rfl (fun c16 => ?_) (fun c16 => ?_)
        · have hh : half1 S (half1 S ρ 0 idl) 1 idl = (half1 S ρ 0 idl) := by unfold half1; rw [if_neg (fun z => z.2 (by rw [← c16]; decide))]
          have hRb : RM iv (half1 S (half1 S ρ 0 idl) 1 idl) := by rw [hh]; exact hRa
          have hob := hoa
          have hXb := hXa
          have hgb : GR (half1 S (half1 S ρ 0 idl) 1 idl) := gr_half (by decide) hga
          have htb : half1 S (half1 S ρ 0 idl) 1 idl 4 8 = nI t := (rule_half (by decide)).trans hta
          clear hh
          refine r_iinc2 _ dX7_passes_24 rfl rfl ?_
          refine rn_goto 2 dX7_passes_27 rfl ?_
          refine r_iload2 dX7_passes_2 ?_
          refine rn_iconst (2) dX7_passes_3 (by decide) ?_
          refine rn_icmp_ge 30 dX7_passes_4 rfl (fun _ => ?_) (fun h => absurd (by decide) h)
          refine r_aload0 dX7_passes_30 ?_
          refine r_aload0 dX7_passes_31 ?_
          refine gf_X7_265 dX7_passes_32 rfl hM.1 ?_
          refine rn_eqi ((half1 S (half1 S ρ 0 idl) 1 idl) 4 4) (hRb.2.2.1 4 (by decide) (by decide)) ?_
          refine rn_sipush (999) dX7_passes_35 (by decide) ?_
          refine rn_icmp_ge 50 dX7_passes_38 rfl (fun c38 => ?_) (fun c38 => ?_)
          · refine rn_sipush (999) dX7_passes_50 (by decide) ?_
            refine pf_X7_265 dX7_passes_53 rfl hM.1 ?_
            refine rn_vret dX7_passes_56 rfl (Nat.zero_le _) (Nat.zero_le _) ?_
            refine ⟨rfl, rfl, rfl, (tn_pn hob).trans (off_up (by decide)), ?_⟩
            unfold passS dayS
            rw [show (if (half1 S (half1 S ρ 0 idl) 1 idl) 4 4 < 999 then (half1 S (half1 S ρ 0 idl) 1 idl) 4 4 + 1 else (half1 S (half1 S ρ 0 idl) 1 idl) 4 4) = 999 from by rw [if_neg (Int32.not_lt.mpr c38)]; exact day_top hgb c38]
            exact hRb.ups 4 (by decide) (by decide)
          · refine r_aload0 dX7_passes_41 ?_
            refine gf_X7_265 dX7_passes_42 rfl hM.1 ?_
            refine rn_eqi ((half1 S (half1 S ρ 0 idl) 1 idl) 4 4) (hRb.2.2.1 4 (by decide) (by decide)) ?_
            refine rn_iconst (1) dX7_passes_45 (by decide) ?_
            refine rn_iadd dX7_passes_46 ?_
            refine rn_goto 53 dX7_passes_47 rfl ?_
            refine pf_X7_265 dX7_passes_53 rfl hM.1 ?_
            refine rn_vret dX7_passes_56 rfl (Nat.zero_le _) (Nat.zero_le _) ?_
            refine ⟨rfl, rfl, rfl, (tn_pn hob).trans (off_up (by decide)), ?_⟩
            unfold passS dayS
            rw [show (if (half1 S (half1 S ρ 0 idl) 1 idl) 4 4 < 999 then (half1 S (half1 S ρ 0 idl) 1 idl) 4 4 + 1 else (half1 S (half1 S ρ 0 idl) 1 idl) 4 4) = (half1 S (half1 S ρ 0 idl) 1 idl) 4 4 + 1 from by rw [if_pos (Int32.not_le.mp c38)]]
            exact hRb.ups 4 (by decide) (by decide)
        · refine r_aload0 dX7_passes_19 ?_
          refine r_iload2 dX7_passes_20 ?_
          refine clvV1 dX7_passes_21 ov_X7_turn rfl ml_X7_278 hM.1 rfl (Nat.zero_le _) (Nat.zero_le _) (Nat.zero_le _) (ct_mturn (γ := 1) D hM hRa hXa hT6 hta htT hga ((ahead_pos hga).mp (Int32.not_le.mp c11)) (by decide) (by decide)) (fun iv lv h21 => ?_)
          have hh : half1 S (half1 S ρ 0 idl) 1 idl = turnS S (half1 S ρ 0 idl) 1 := by unfold half1; rw [if_pos ⟨Int32.not_le.mp c11, fun z => c16 (by rw [z]; decide)⟩]
          have hRb : RM iv (half1 S (half1 S ρ 0 idl) 1 idl) := by rw [hh]; exact h21.2
          have hob := hoa.trans h21.1
          have hXb := hXa.tn h21.1
          have hgb : GR (half1 S (half1 S ρ 0 idl) 1 idl) := gr_half (by decide) hga
          have htb : half1 S (half1 S ρ 0 idl) 1 idl 4 8 = nI t := (rule_half (by decide)).trans hta
          clear hh
          refine r_iinc2 _ dX7_passes_24 rfl rfl ?_
          refine rn_goto 2 dX7_passes_27 rfl ?_
          refine r_iload2 dX7_passes_2 ?_
          refine rn_iconst (2) dX7_passes_3 (by decide) ?_
          refine rn_icmp_ge 30 dX7_passes_4 rfl (fun _ => ?_) (fun h => absurd (by decide) h)
          refine r_aload0 dX7_passes_30 ?_
          refine r_aload0 dX7_passes_31 ?_
          refine gf_X7_265 dX7_passes_32 rfl hM.1 ?_
          refine rn_eqi ((half1 S (half1 S ρ 0 idl) 1 idl) 4 4) (hRb.2.2.1 4 (by decide) (by decide)) ?_
          refine rn_sipush (999) dX7_passes_35 (by decide) ?_
          refine rn_icmp_ge 50 dX7_passes_38 rfl (fun c38 => ?_) (fun c38 => ?_)
          · refine rn_sipush (999) dX7_passes_50 (by decide) ?_
            refine pf_X7_265 dX7_passes_53 rfl hM.1 ?_
            refine rn_vret dX7_passes_56 rfl (Nat.zero_le _) (Nat.zero_le _) ?_
            refine ⟨rfl, rfl, rfl, (tn_pn hob).trans (off_up (by decide)), ?_⟩
            unfold passS dayS
            rw [show (if (half1 S (half1 S ρ 0 idl) 1 idl) 4 4 < 999 then (half1 S (half1 S ρ 0 idl) 1 idl) 4 4 + 1 else (half1 S (half1 S ρ 0 idl) 1 idl) 4 4) = 999 from by rw [if_neg (Int32.not_lt.mpr c38)]; exact day_top hgb c38]
            exact hRb.ups 4 (by decide) (by decide)
          · refine r_aload0 dX7_passes_41 ?_
            refine gf_X7_265 dX7_passes_42 rfl hM.1 ?_
            refine rn_eqi ((half1 S (half1 S ρ 0 idl) 1 idl) 4 4) (hRb.2.2.1 4 (by decide) (by decide)) ?_
            refine rn_iconst (1) dX7_passes_45 (by decide) ?_
            refine rn_iadd dX7_passes_46 ?_
            refine rn_goto 53 dX7_passes_47 rfl ?_
            refine pf_X7_265 dX7_passes_53 rfl hM.1 ?_
            refine rn_vret dX7_passes_56 rfl (Nat.zero_le _) (Nat.zero_le _) ?_
            refine ⟨rfl, rfl, rfl, (tn_pn hob).trans (off_up (by decide)), ?_⟩
            unfold passS dayS
            rw [show (if (half1 S (half1 S ρ 0 idl) 1 idl) 4 4 < 999 then (half1 S (half1 S ρ 0 idl) 1 idl) 4 4 + 1 else (half1 S (half1 S ρ 0 idl) 1 idl) 4 4) = (half1 S (half1 S ρ 0 idl) 1 idl) 4 4 + 1 from by rw [if_pos (Int32.not_le.mp c38)]]
            exact hRb.ups 4 (by decide) (by decide)
theorem RM.offP {iv iv' ρ : IV} {P : Nat → Nat → Prop} (h : RM iv ρ) (ho : Off P iv iv') (hp : ∀ a b, P a b → (a = 75 ∧ 20 ≤ b) ∨ 88 ≤ a) : RM iv' ρ :=
  ⟨fun y hy => ⟨(ho 79 y (fun z => by have := hp _ _ z; omega)).trans (h.1 y hy).1, (ho 80 y (fun z => by have := hp _ _ z; omega)).trans (h.1 y hy).2⟩, fun k γ h1 h2 h3 => (ho _ _ (fun z => by have := hp _ _ z; omega)).trans (h.2.1 k γ h1 h2 h3), fun k h1 h2 => (ho _ _ (fun z => by have := hp _ _ z; omega)).trans (h.2.2.1 k h1 h2), (ho _ _ (fun z => by have := hp _ _ z; omega)).trans h.2.2.2⟩
theorem run_stop {S : Nat → Nat → List Int32} {idl idle : Int32} {n k : Nat} {ρ : IV} (h : ¬ 0 < aheadS ρ) : runS S idl idle n k ρ = (k, ρ) := by
  cases n with
  | zero => rfl
  | succ n => unfold runS; rw [if_neg h]
theorem run_go {S : Nat → Nat → List Int32} {idl idle : Int32} {n k : Nat} {ρ : IV} (h : 0 < aheadS ρ) : runS S idl idle (n + 1) k ρ = runS S idl idle n (k + 1) (passS S ρ (if nI k < idle then idl else -1)) := by
  rw [runS, if_pos h]
theorem ru_loop {D : Nat} {Q : Qt} (hM : ShM Γ rv) {S : Nat → Nat → List Int32} {T : Nat} (hT6 : T ≤ 6) {t : Nat} (htT : t < T) (idl idle : Int32) : ∀ (n k : Nat) (iv : IV) (lv : LV) (ρ : IV), k + n = 300 → iv 75 40 = nI k → RM iv ρ → TextsM iv T S → GR ρ → ρ 4 8 = nI t →
    (∀ iv' lv', Off Ru iv iv' → RM iv' (runS S idl idle n k ρ).2 → iv' 75 40 = nI (runS S idl idle n k ρ).1 → Rn g l mX7_runs (rmA (D + 51) 0 0) Q 0 0 52 [.ref 75, .int idl, .int idle] [] Γ iv' rv lv') → Rn g l mX7_runs (rmA (D + 51) 0 0) Q 0 0 5 [.ref 75, .int idl, .int idle] [] Γ iv rv lv := by
  intro n
  induction n with
  | zero =>
    intro k iv lv ρ hkn hk hR hX hg ht kk
    by_cases hpos : 0 < aheadS ρ
    · skip
      refine r_aload0 dX7_runs_5 ?_
      refine cpiV0 dX7_runs_6 ov_X7_left rfl ml_X7_137 hM.1 rfl (Nat.zero_le _) (Nat.zero_le _) (Nat.zero_le _) (ct_left _ hM) ?_
      refine rn_eqi _ hR.left ?_
      refine rn_if_le 52 dX7_runs_9 rfl (fun h => absurd h (Int32.not_le.mpr hpos)) (fun _ => ?_)
      refine r_aload0 dX7_runs_12 ?_
      refine gf_X7_291 dX7_runs_13 rfl hM.1 ?_
      refine rn_eqi 300 (by rw [hk, show k = 300 by omega]; decide) ?_
      refine rn_sipush (300) dX7_runs_16 (by decide) ?_
      refine rn_icmp_ge 52 dX7_runs_19 rfl (fun _ => ?_) (fun h => absurd (by decide) h)
      exact kk _ _ Off.refl hR hk
    · skip
      refine r_aload0 dX7_runs_5 ?_
      refine cpiV0 dX7_runs_6 ov_X7_left rfl ml_X7_137 hM.1 rfl (Nat.zero_le _) (Nat.zero_le _) (Nat.zero_le _) (ct_left _ hM) ?_
      refine rn_eqi _ hR.left ?_
      refine rn_if_le 52 dX7_runs_9 rfl (fun _ => ?_) (fun h => absurd (Int32.not_lt.mp hpos) h)
      exact kk _ _ Off.refl (by rw [run_stop hpos]; exact hR) (by rw [run_stop hpos]; exact hk)
  | succ n ih =>
    intro k iv lv ρ hkn hk hR hX hg ht kk
    by_cases hpos : 0 < aheadS ρ
    · skip
      refine r_aload0 dX7_runs_5 ?_
      refine cpiV0 dX7_runs_6 ov_X7_left rfl ml_X7_137 hM.1 rfl (Nat.zero_le _) (Nat.zero_le _) (Nat.zero_le _) (ct_left _ hM) ?_
      refine rn_eqi _ hR.left ?_
      refine rn_if_le 52 dX7_runs_9 rfl (fun h => absurd h (Int32.not_le.mpr hpos)) (fun _ => ?_)
      refine r_aload0 dX7_runs_12 ?_
      refine gf_X7_291 dX7_runs_13 rfl hM.1 ?_
      refine rn_eqi (nI k) hk ?_
      refine rn_sipush (300) dX7_runs_16 (by decide) ?_
      refine rn_icmp_ge 52 dX7_runs_19 rfl (fun h => absurd h (fun z => by rw [show (300 : Int32) = nI 300 by decide, nI_leI (by omega) (by omega)] at z; omega)) (fun _ => ?_)
      refine r_aload0 dX7_runs_22 ?_
      refine r_aload0 dX7_runs_23 ?_
      refine gf_X7_291 dX7_runs_24 rfl hM.1 ?_
      refine rn_eqi (nI k) hk ?_
      refine r_iload2 dX7_runs_27 ?_
      refine rn_icmp_ge 35 dX7_runs_28 rfl (fun c28 => ?_) (fun c28 => ?_)
      · refine rn_iconst (-1) dX7_runs_35 (by decide) ?_
        refine clvV1 dX7_runs_36 ov_X7_passes rfl ml_X7_282 hM.1 rfl (Nat.zero_le _) (Nat.zero_le _) (Nat.zero_le _) (ct_mpasses D hM hR hX hT6 ht htT hg _) (fun iv lv h36 => ?_)
        refine r_aload0 dX7_runs_39 ?_
        refine rn_dup dX7_runs_40 rfl ?_
        refine gf_X7_291 dX7_runs_41 rfl hM.1 ?_
        refine rn_eqi (nI k) ((h36.1 75 40 (by decide)).trans hk) ?_
        refine rn_iconst (1) dX7_runs_44 (by decide) ?_
        refine rn_iadd dX7_runs_45 ?_
        refine pf_X7_291 dX7_runs_46 rfl hM.1 ?_
        refine rn_goto 5 dX7_runs_49 rfl ?_
        have ep : (if nI k < idle then idl else -1) = -1 := by rw [if_neg (Int32.not_lt.mpr c28)]
        have hof : Off Ru iv (up iv 75 40 (nI k + 1)) := off_up (by decide)
        have hR2 := h36.2.offP (P := fun a b => a = 75 ∧ b = 40) (off_up (i := 75) (k := 40) (x := nI k + 1) (by decide)) (fun a b z => by omega)
        refine ih (k + 1) (up iv 75 40 (nI k + 1)) _ _ (by omega) (nI_1 k) hR2 ((hX.pn h36.1).ru hof) (gr_pass hg) (rule_pass.trans ht) (fun iv2 lv2 ho hR3 hk3 => kk iv2 lv2 (((pn_ru h36.1).trans hof).trans ho) (by rw [run_go hpos, ep]; exact hR3) (by rw [run_go hpos, ep]; exact hk3))
      · refine r_iload1 dX7_runs_31 ?_
        refine rn_goto 36 dX7_runs_32 rfl ?_
        refine clvV1 dX7_runs_36 ov_X7_passes rfl ml_X7_282 hM.1 rfl (Nat.zero_le _) (Nat.zero_le _) (Nat.zero_le _) (ct_mpasses D hM hR hX hT6 ht htT hg _) (fun iv lv h36 => ?_)
        refine r_aload0 dX7_runs_39 ?_
        refine rn_dup dX7_runs_40 rfl ?_
        refine gf_X7_291 dX7_runs_41 rfl hM.1 ?_
        refine rn_eqi (nI k) ((h36.1 75 40 (by decide)).trans hk) ?_
        refine rn_iconst (1) dX7_runs_44 (by decide) ?_
        refine rn_iadd dX7_runs_45 ?_
        refine pf_X7_291 dX7_runs_46 rfl hM.1 ?_
        refine rn_goto 5 dX7_runs_49 rfl ?_
        have ep : (if nI k < idle then idl else -1) = idl := by rw [if_pos (Int32.not_le.mp c28)]
        have hof : Off Ru iv (up iv 75 40 (nI k + 1)) := off_up (by decide)
        have hR2 := h36.2.offP (P := fun a b => a = 75 ∧ b = 40) (off_up (i := 75) (k := 40) (x := nI k + 1) (by decide)) (fun a b z => by omega)
        refine ih (k + 1) (up iv 75 40 (nI k + 1)) _ _ (by omega) (nI_1 k) hR2 ((hX.pn h36.1).ru hof) (gr_pass hg) (rule_pass.trans ht) (fun iv2 lv2 ho hR3 hk3 => kk iv2 lv2 (((pn_ru h36.1).trans hof).trans ho) (by rw [run_go hpos, ep]; exact hR3) (by rw [run_go hpos, ep]; exact hk3))
    · skip
      refine r_aload0 dX7_runs_5 ?_
      refine cpiV0 dX7_runs_6 ov_X7_left rfl ml_X7_137 hM.1 rfl (Nat.zero_le _) (Nat.zero_le _) (Nat.zero_le _) (ct_left _ hM) ?_
      refine rn_eqi _ hR.left ?_
      refine rn_if_le 52 dX7_runs_9 rfl (fun _ => ?_) (fun h => absurd (Int32.not_lt.mp hpos) h)
      exact kk _ _ Off.refl (by rw [run_stop hpos]; exact hR) (by rw [run_stop hpos]; exact hk)
set_option maxRecDepth 4000 in
theorem ct_mruns (D : Nat) (hM : ShM Γ rv) {ρ : IV} {S : Nat → Nat → List Int32} {T : Nat} (hR : RM iv ρ) (hX : TextsM iv T S) (hT6 : T ≤ 6) {t : Nat} (ht : ρ 4 8 = nI t) (htT : t < T) (hg : GR ρ) (idl idle : Int32) : Ct g l mX7_runs (D + 51) 0 0 [.ref 75, .int idl, .int idle] Γ iv rv lv (qLV Γ rv (fun iv' _ => Off Ru iv iv' ∧ RM iv' (runS S idl idle 300 0 ρ).2 ∧ iv' 75 40 = nI (runS S idl idle 300 0 ρ).1)) := by
  refine Ct.of (by decide +kernel) (Nat.le_of_ble_eq_true rfl) (Nat.le_of_ble_eq_true rfl) ?_
  refine r_aload0 dX7_runs_0 ?_
  refine rn_iconst (0) dX7_runs_1 (by decide) ?_
  refine pf_X7_291 dX7_runs_2 rfl hM.1 ?_
  have hof : Off Ru iv (up iv 75 40 0) := off_up (by decide)
  have hR2 := hR.offP (P := fun a b => a = 75 ∧ b = 40) (off_up (i := 75) (k := 40) (x := 0) (by decide)) (fun a b z => by omega)
  refine ru_loop hM hT6 htT idl idle 300 0 (up iv 75 40 0) _ _ rfl rfl hR2 (hX.ru hof) hg ht (fun iv2 lv2 ho hR3 hk3 => ?_)
  refine rn_vret dX7_runs_52 rfl (Nat.zero_le _) (Nat.zero_le _) ?_
  exact ⟨rfl, rfl, rfl, hof.trans ho, hR3, hk3⟩
end MPASS
