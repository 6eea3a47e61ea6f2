/-! THE CLASS: ground, yard, gang, set, told, day, force, image, back, count, feed -/
theorem tout3 {w : Int32} (h : ¬ (0 ≤ w ∧ w ≤ 3)) : w.toInt < 0 ∨ 3 < w.toInt := by
  simp only [Int32.le_iff_toInt_le, Int32.reduceToInt] at h; omega
theorem tout7 {w : Int32} (h : ¬ (0 ≤ w ∧ w ≤ 7)) : w.toInt < 0 ∨ 7 < w.toInt := by
  simp only [Int32.le_iff_toInt_le, Int32.reduceToInt] at h; omega
theorem tout8 {w : Int32} (h : ¬ (0 ≤ w ∧ w ≤ 8)) : w.toInt < 0 ∨ 8 < w.toInt := by
  simp only [Int32.le_iff_toInt_le, Int32.reduceToInt] at h; omega
abbrev Nw (a _ : Nat) : Prop := 27 ≤ a ∧ a ≤ 36
theorem up_self {α : Type} {f : Nat → Nat → α} {i k : Nat} {x : α} (h : f i k = x) : up f i k x = f := by
  funext a b
  unfold up
  split
  · rename_i z; rw [z.1, z.2, h]
  · rfl
theorem RC.rule {iv ρ : IV} {r : Nat} {x : Int32} (h : RC iv r ρ) : RC iv r (up ρ 4 8 x) := h.ext (fun y _ => ⟨up_ne1 (by decide), up_ne1 (by decide)⟩) (fun k γ a b c => up_ne1 (by omega)) (fun k a b => up_ne2 (by omega))
def Rules (Γ : Sh) (iv : IV) (rv : RV) (T : Nat) (S : Nat → Nat → List Int32) : Prop := ∀ t, t < T → rv 20 t = rq t ∧ RuC Γ iv rv t S
section CGROUND
variable {g : GS} {l : Launch} {Γ : Sh} {iv : IV} {rv : RV} {lv : LV}
set_option maxRecDepth 4000 in
theorem ct_cground (D : Nat) (hX : ShX Γ rv) {ρ : IV} (hR : RC iv 27 ρ) (hg : GR ρ) (y w v : Int32) : Ct g l mX6_ground (D + 1) 0 0 [.ref 14, .int y, .int w, .int v] Γ iv rv lv (qCI Γ rv lv (fun x iv' => x = (groundQ ρ y w v).1 ∧ RC iv' 27 (groundQ ρ y w v).2 ∧ Off Nw iv iv')) := by
  refine Ct.of (by decide +kernel) (Nat.le_of_ble_eq_true rfl) (Nat.le_of_ble_eq_true rfl) ?_
  refine r_iload1 dX6_ground_0 ?_
  refine cpiS1 dX6_ground_1 os_X6_isYard rfl ml_X6_88 (Nat.zero_le _) (Nat.zero_le _) (Nat.zero_le _) (ct_isYard _ _) ?_
  refine rn_if_eq 16 dX6_ground_4 rfl (fun c4 => ?_) (fun c4 => ?_)
  · refine rn_bipush (-2) dX6_ground_16 (by decide) ?_
    refine rn_iret dX6_ground_18 rfl (Nat.zero_le _) (Nat.zero_le _) ?_
    have e : groundQ ρ y w v = (-2, ρ) := by unfold groundQ; rw [if_neg (fun z => bI_0.mp c4 (y024.mpr z.1))]
    exact ⟨_, rfl, rfl, rfl, rfl, by rw [e], by rw [e]; exact hR, Off.refl⟩
  · refine r_iload2 dX6_ground_7 ?_
    refine rn_iconst (0) dX6_ground_8 (by decide) ?_
    refine rn_iconst (1) dX6_ground_9 (by decide) ?_
    refine cpiS3 dX6_ground_10 os_X6_within rfl ml_X6_91 (Nat.zero_le _) (Nat.zero_le _) (Nat.zero_le _) (ct_within _ _ _ _) ?_
    refine rn_if_ne 19 dX6_ground_13 rfl (fun c13 => ?_) (fun c13 => ?_)
    · have hq1 := y024.mp (bI_1.mp (bI_or.resolve_left c4))
      have hq2 := bI_1.mp (bI_or.resolve_left c13)
      refine r_iload3 dX6_ground_19 ?_
      refine rn_iconst (0) dX6_ground_20 (by decide) ?_
      refine r_iload2 dX6_ground_21 ?_
      refine rn_if_ne 29 dX6_ground_22 rfl (fun c22 => ?_) (fun c22 => ?_)
      · refine rn_iconst (1) dX6_ground_29 (by decide) ?_
        refine cpiS3 dX6_ground_30 os_X6_within rfl ml_X6_91 (Nat.zero_le _) (Nat.zero_le _) (Nat.zero_le _) (ct_within _ _ _ _) ?_
        refine rn_if_ne 39 dX6_ground_33 rfl (fun c33 => ?_) (fun c33 => ?_)
        · have hq3 := bI_1.mp (bI_or.resolve_left c33)
          refine r_iload2 dX6_ground_39 ?_
          refine rn_if_ne 58 dX6_ground_40 rfl (fun _ => ?_) (fun h => absurd h c22)
          refine r_iload2 dX6_ground_58 ?_
          refine rn_if_ne 72 dX6_ground_59 rfl (fun _ => ?_) (fun h => absurd h c22)
          refine r_aload0 dX6_ground_72 ?_
          refine gf_X6_74 dX6_ground_73 rfl hX.1 hX.2.1.1 ?_
          refine gf_X6_103 dX6_ground_76 rfl hX.2.1.2.1 hX.2.1.2.2.2.1.1 ?_
          refine r_astore4 dX6_ground_79 rfl ?_
          refine r_aload4 dX6_ground_81 ?_
          refine r_iload1 dX6_ground_83 ?_
          refine rn_iald y.toNatClampNeg dX6_ground_84 hX.2.1.2.2.2.1.2 (nB 23 (by decide) hq1).1 (nB_lt 23 (by decide) hq1 (by decide)) (by decide) ?_
          refine rn_eqi (ρ 1 y.toNatClampNeg) (hR.1 _ (nB_lt 23 (by decide) hq1 (by decide))).2 ?_
          refine r_istore5 dX6_ground_85 rfl ?_
          refine r_aload4 dX6_ground_87 ?_
          refine r_iload1 dX6_ground_89 ?_
          refine r_iload3 dX6_ground_90 ?_
          refine rn_iast y.toNatClampNeg dX6_ground_91 hX.2.1.2.2.2.1.2 (nB 23 (by decide) hq1).1 (nB_lt 23 (by decide) hq1 (by decide)) (by decide) ?_
          refine r_iload5 dX6_ground_92 ?_
          refine rn_iret dX6_ground_94 rfl (Nat.zero_le _) (Nat.zero_le _) ?_
          have e : groundQ ρ y w v = (ρ 1 y.toNatClampNeg, up ρ 1 y.toNatClampNeg v) := by unfold groundQ; rw [if_pos ⟨hq1, hq2, ⟨hq3.1, by rw [if_neg c22]; exact hq3.2⟩⟩, if_neg c22]
          exact ⟨_, rfl, rfl, rfl, rfl, by rw [e], by rw [e]; exact hR.known, off_up (by omega)⟩
        · refine rn_bipush (-2) dX6_ground_36 (by decide) ?_
          refine rn_iret dX6_ground_38 rfl (Nat.zero_le _) (Nat.zero_le _) ?_
          have e : groundQ ρ y w v = (-2, ρ) := by unfold groundQ; rw [if_neg (fun z => bI_0.mp c33 ⟨z.2.2.1, by have z2 := z.2.2.2; rw [if_neg c22] at z2; exact z2⟩)]
          exact ⟨_, rfl, rfl, rfl, rfl, by rw [e], by rw [e]; exact hR, Off.refl⟩
      · refine rn_iconst (3) dX6_ground_25 (by decide) ?_
        refine rn_goto 30 dX6_ground_26 rfl ?_
        refine cpiS3 dX6_ground_30 os_X6_within rfl ml_X6_91 (Nat.zero_le _) (Nat.zero_le _) (Nat.zero_le _) (ct_within _ _ _ _) ?_
        refine rn_if_ne 39 dX6_ground_33 rfl (fun c33 => ?_) (fun c33 => ?_)
        · have hq3 := bI_1.mp (bI_or.resolve_left c33)
          refine r_iload2 dX6_ground_39 ?_
          refine rn_if_ne 58 dX6_ground_40 rfl (fun h => absurd c22 h) (fun _ => ?_)
          refine r_aload0 dX6_ground_43 ?_
          refine gf_X6_74 dX6_ground_44 rfl hX.1 hX.2.1.1 ?_
          refine r_iload1 dX6_ground_47 ?_
          refine cpiV1 dX6_ground_48 ov_X3_doerOf rfl ml_X6_95 hX.2.1.2.1 rfl (Nat.zero_le _) (Nat.zero_le _) (Nat.zero_le _) (ct_doerOf _ hX.nw hR hg _) ?_
          refine rn_iconst (-1) dX6_ground_51 (by decide) ?_
          refine rn_icmp_eq 58 dX6_ground_52 rfl (fun c52 => ?_) (fun c52 => ?_)
          · refine r_iload2 dX6_ground_58 ?_
            refine rn_if_ne 72 dX6_ground_59 rfl (fun h => absurd c22 h) (fun _ => ?_)
            refine r_aload0 dX6_ground_62 ?_
            refine gf_X6_74 dX6_ground_63 rfl hX.1 hX.2.1.1 ?_
            refine gf_X6_99 dX6_ground_66 rfl hX.2.1.2.1 hX.2.1.2.2.1.1 ?_
            refine rn_goto 79 dX6_ground_69 rfl ?_
            refine r_astore4 dX6_ground_79 rfl ?_
            refine r_aload4 dX6_ground_81 ?_
            refine r_iload1 dX6_ground_83 ?_
            refine rn_iald y.toNatClampNeg dX6_ground_84 hX.2.1.2.2.1.2 (nB 23 (by decide) hq1).1 (nB_lt 23 (by decide) hq1 (by decide)) (by decide) ?_
            refine rn_eqi (ρ 0 y.toNatClampNeg) (hR.1 _ (nB_lt 23 (by decide) hq1 (by decide))).1 ?_
            refine r_istore5 dX6_ground_85 rfl ?_
            refine r_aload4 dX6_ground_87 ?_
            refine r_iload1 dX6_ground_89 ?_
            refine r_iload3 dX6_ground_90 ?_
            refine rn_iast y.toNatClampNeg dX6_ground_91 hX.2.1.2.2.1.2 (nB 23 (by decide) hq1).1 (nB_lt 23 (by decide) hq1 (by decide)) (by decide) ?_
            refine r_iload5 dX6_ground_92 ?_
            refine rn_iret dX6_ground_94 rfl (Nat.zero_le _) (Nat.zero_le _) ?_
            have e : groundQ ρ y w v = (ρ 0 y.toNatClampNeg, up ρ 0 y.toNatClampNeg v) := by unfold groundQ; rw [if_pos ⟨hq1, hq2, ⟨hq3.1, by rw [if_pos c22]; exact hq3.2⟩⟩, if_pos c22, if_pos c52]
            exact ⟨_, rfl, rfl, rfl, rfl, by rw [e], by rw [e]; exact hR.grd, off_up (by omega)⟩
          · refine rn_bipush (-3) dX6_ground_55 (by decide) ?_
            refine rn_iret dX6_ground_57 rfl (Nat.zero_le _) (Nat.zero_le _) ?_
            have e : groundQ ρ y w v = (-3, ρ) := by unfold groundQ; rw [if_pos ⟨hq1, hq2, ⟨hq3.1, by rw [if_pos c22]; exact hq3.2⟩⟩, if_pos c22, if_neg c52]
            exact ⟨_, rfl, rfl, rfl, rfl, by rw [e], by rw [e]; exact hR, Off.refl⟩
        · refine rn_bipush (-2) dX6_ground_36 (by decide) ?_
          refine rn_iret dX6_ground_38 rfl (Nat.zero_le _) (Nat.zero_le _) ?_
          have e : groundQ ρ y w v = (-2, ρ) := by unfold groundQ; rw [if_neg (fun z => bI_0.mp c33 ⟨z.2.2.1, by have z2 := z.2.2.2; rw [if_pos c22] at z2; exact z2⟩)]
          exact ⟨_, rfl, rfl, rfl, rfl, by rw [e], by rw [e]; exact hR, Off.refl⟩
    · refine rn_bipush (-2) dX6_ground_16 (by decide) ?_
      refine rn_iret dX6_ground_18 rfl (Nat.zero_le _) (Nat.zero_le _) ?_
      have e : groundQ ρ y w v = (-2, ρ) := by unfold groundQ; rw [if_neg (fun z => bI_0.mp c13 z.2.1)]
      exact ⟨_, rfl, rfl, rfl, rfl, by rw [e], by rw [e]; exact hR, Off.refl⟩
set_option maxRecDepth 4000 in
theorem ct_cyard (D : Nat) {ρ : IV} {S : Nat → Nat → List Int32} {t : Nat} (hC : CQ Γ iv rv ρ S t) (y w : Int32) : Ct g l mX6_yard (D + 2) 0 0 [.ref 14, .int y, .int w] Γ iv rv lv (qCI Γ rv lv (fun x iv' => x = yardQ S ρ y w ∧ Off (Ak 27) iv iv')) := by
  refine Ct.of (by decide +kernel) (Nat.le_of_ble_eq_true rfl) (Nat.le_of_ble_eq_true rfl) ?_
  refine r_iload1 dX6_yard_0 ?_
  refine cpiS1 dX6_yard_1 os_X6_isYard rfl ml_X6_88 (Nat.zero_le _) (Nat.zero_le _) (Nat.zero_le _) (ct_isYard _ _) ?_
  refine rn_if_ne 10 dX6_yard_4 rfl (fun c4 => ?_) (fun c4 => ?_)
  · have hq1 := y024.mp (bI_1.mp (bI_or.resolve_left c4))
    refine r_iload2 dX6_yard_10 ?_
    by_cases hw : 0 ≤ w ∧ w ≤ 3
    · rcases cw3 hw with rfl | rfl | rfl | rfl
      · refine rn_tableIn 40 dX6_yard_11 (by decide) (by decide) rfl rfl ?_
        refine r_aload0 dX6_yard_40 ?_
        refine gf_X6_74 dX6_yard_41 rfl hC.1.1 hC.1.2.1.1 ?_
        refine gf_X6_99 dX6_yard_44 rfl hC.1.2.1.2.1 hC.1.2.1.2.2.1.1 ?_
        refine r_iload1 dX6_yard_47 ?_
        refine rn_iald y.toNatClampNeg dX6_yard_48 hC.1.2.1.2.2.1.2 (nB 23 (by decide) hq1).1 (nB_lt 23 (by decide) hq1 (by decide)) (by decide) ?_
        refine rn_eqi (ρ 0 y.toNatClampNeg) (hC.2.1.1 _ (nB_lt 23 (by decide) hq1 (by decide))).1 ?_
        refine rn_iret dX6_yard_49 rfl (Nat.zero_le _) (Nat.zero_le _) ?_
        refine ⟨_, rfl, rfl, rfl, rfl, ?_, Off.refl⟩
        unfold yardQ
        rw [if_pos ⟨hq1, hw⟩, show (0 : Int32).toNatClampNeg = 0 from by decide]
        rfl
      · refine rn_tableIn 50 dX6_yard_11 (by decide) (by decide) rfl rfl ?_
        refine r_aload0 dX6_yard_50 ?_
        refine gf_X6_74 dX6_yard_51 rfl hC.1.1 hC.1.2.1.1 ?_
        refine gf_X6_103 dX6_yard_54 rfl hC.1.2.1.2.1 hC.1.2.1.2.2.2.1.1 ?_
        refine r_iload1 dX6_yard_57 ?_
        refine rn_iald y.toNatClampNeg dX6_yard_58 hC.1.2.1.2.2.2.1.2 (nB 23 (by decide) hq1).1 (nB_lt 23 (by decide) hq1 (by decide)) (by decide) ?_
        refine rn_eqi (ρ 1 y.toNatClampNeg) (hC.2.1.1 _ (nB_lt 23 (by decide) hq1 (by decide))).2 ?_
        refine rn_iret dX6_yard_59 rfl (Nat.zero_le _) (Nat.zero_le _) ?_
        refine ⟨_, rfl, rfl, rfl, rfl, ?_, Off.refl⟩
        unfold yardQ
        rw [if_pos ⟨hq1, hw⟩, show (1 : Int32).toNatClampNeg = 1 from by decide]
        rfl
      · refine rn_tableIn 60 dX6_yard_11 (by decide) (by decide) rfl rfl ?_
        refine r_aload0 dX6_yard_60 ?_
        refine gf_X6_74 dX6_yard_61 rfl hC.1.1 hC.1.2.1.1 ?_
        refine r_iload1 dX6_yard_64 ?_
        refine cpiV1 dX6_yard_65 ov_X3_doerOf rfl ml_X6_95 hC.1.2.1.2.1 rfl (Nat.zero_le _) (Nat.zero_le _) (Nat.zero_le _) (ct_doerOf _ hC.1.nw hC.2.1 hC.2.2.1 _) ?_
        refine rn_iret dX6_yard_68 rfl (Nat.zero_le _) (Nat.zero_le _) ?_
        refine ⟨_, rfl, rfl, rfl, rfl, ?_, Off.refl⟩
        unfold yardQ
        rw [if_pos ⟨hq1, hw⟩, show (2 : Int32).toNatClampNeg = 2 from by decide]
        rfl
      · refine rn_tableIn 69 dX6_yard_11 (by decide) (by decide) rfl rfl ?_
        refine r_aload0 dX6_yard_69 ?_
        refine gf_X6_74 dX6_yard_70 rfl hC.1.1 hC.1.2.1.1 ?_
        refine rn_iconst (1) dX6_yard_73 (by decide) ?_
        refine r_iload1 dX6_yard_74 ?_
        refine r_aload0 dX6_yard_75 ?_
        refine gf_X6_74 dX6_yard_76 rfl hC.1.1 hC.1.2.1.1 ?_
        refine gf_X6_106 dX6_yard_79 rfl hC.1.2.1.2.1 hC.1.2.1.2.2.2.2.1.1 ?_
        refine gf_X6_110 dX6_yard_82 rfl hC.1.2.1.2.2.2.2.1.2.1 ?_
        refine rn_eqi (ρ 2 3) (hC.2.1.up0 3 (by decide) (by decide)) ?_
        refine cciV3 dX6_yard_85 ov_X3_ask rfl ml_X6_115 hC.1.2.1.2.1 rfl (Nat.zero_le _) (Nat.zero_le _) (Nat.zero_le _) (ct_ask D hC.1.nw (by decide) hC.2.1 hC.2.2.2.1 hC.2.2.2.2.1 hC.2.2.2.2.2.1 hC.2.2.2.2.2.2.1 (p := 1) (by decide) (by decide) (nB 23 (by decide) hq1).1 (nB_lt 23 (by decide) hq1 (by decide)) _) (fun x85 iv h85 => ?_)
        refine rn_iret dX6_yard_88 rfl (Nat.zero_le _) (Nat.zero_le _) ?_
        refine ⟨_, rfl, rfl, rfl, rfl, ?_, h85.2⟩
        unfold yardQ
        rw [if_pos ⟨hq1, hw⟩, show (3 : Int32).toNatClampNeg = 3 from by decide]
        exact h85.1
    · refine rn_tableOut 89 dX6_yard_11 (tout3 hw) rfl ?_
      refine rn_bipush (-2) dX6_yard_89 (by decide) ?_
      refine rn_iret dX6_yard_91 rfl (Nat.zero_le _) (Nat.zero_le _) ?_
      refine ⟨_, rfl, rfl, rfl, rfl, ?_, Off.refl⟩
      unfold yardQ
      rw [if_neg (fun z => hw z.2)]
  · refine rn_bipush (-2) dX6_yard_7 (by decide) ?_
    refine rn_iret dX6_yard_9 rfl (Nat.zero_le _) (Nat.zero_le _) ?_
    refine ⟨_, rfl, rfl, rfl, rfl, ?_, Off.refl⟩
    unfold yardQ
    rw [if_neg (fun z => bI_0.mp c4 (y024.mpr z.1))]
set_option maxRecDepth 4000 in
theorem ct_cgang (D : Nat) (hX : ShX Γ rv) {ρ : IV} (hR : RC iv 27 ρ) (hg : GR ρ) (G k n : Int32) : Ct g l mX6_gang (D + 1) 0 0 [.ref 14, .int G, .int k, .int n] Γ iv rv lv (qCI Γ rv lv (fun x iv' => x = (gangQ ρ G k n).1 ∧ RC iv' 27 (gangQ ρ G k n).2 ∧ Off Nw iv iv')) := by
  refine Ct.of (by decide +kernel) (Nat.le_of_ble_eq_true rfl) (Nat.le_of_ble_eq_true rfl) ?_
  refine r_iload1 dX6_gang_0 ?_
  refine cpiS1 dX6_gang_1 os_X6_isGang rfl ml_X6_119 (Nat.zero_le _) (Nat.zero_le _) (Nat.zero_le _) (ct_isGang _ _) ?_
  refine rn_if_eq 26 dX6_gang_4 rfl (fun c4 => ?_) (fun c4 => ?_)
  · refine rn_bipush (-2) dX6_gang_26 (by decide) ?_
    refine rn_iret dX6_gang_28 rfl (Nat.zero_le _) (Nat.zero_le _) ?_
    have e : gangQ ρ G k n = (-2, ρ) := by unfold gangQ; rw [if_neg (fun z => bI_0.mp c4 (g02.mpr z.1))]
    exact ⟨_, rfl, rfl, rfl, rfl, by rw [e], by rw [e]; exact hR, Off.refl⟩
  · refine r_iload2 dX6_gang_7 ?_
    refine rn_iconst (0) dX6_gang_8 (by decide) ?_
    refine rn_iconst (5) dX6_gang_9 (by decide) ?_
    refine cpiS3 dX6_gang_10 os_X6_within rfl ml_X6_91 (Nat.zero_le _) (Nat.zero_le _) (Nat.zero_le _) (ct_within _ _ _ _) ?_
    refine rn_if_eq 26 dX6_gang_13 rfl (fun c13 => ?_) (fun c13 => ?_)
    · refine rn_bipush (-2) dX6_gang_26 (by decide) ?_
      refine rn_iret dX6_gang_28 rfl (Nat.zero_le _) (Nat.zero_le _) ?_
      have e : gangQ ρ G k n = (-2, ρ) := by unfold gangQ; rw [if_neg (fun z => bI_0.mp c13 z.2.1)]
      exact ⟨_, rfl, rfl, rfl, rfl, by rw [e], by rw [e]; exact hR, Off.refl⟩
    · refine r_iload3 dX6_gang_16 ?_
      refine rn_iconst (0) dX6_gang_17 (by decide) ?_
      refine rn_bipush (9) dX6_gang_18 (by decide) ?_
      refine cpiS3 dX6_gang_20 os_X6_within rfl ml_X6_91 (Nat.zero_le _) (Nat.zero_le _) (Nat.zero_le _) (ct_within _ _ _ _) ?_
      refine rn_if_ne 29 dX6_gang_23 rfl (fun c23 => ?_) (fun c23 => ?_)
      · have hq1 := g02.mp (bI_1.mp (bI_or.resolve_left c4))
        have hq2 := bI_1.mp (bI_or.resolve_left c13)
        have hq3 := bI_1.mp (bI_or.resolve_left c23)
        refine r_aload0 dX6_gang_29 ?_
        refine gf_X6_74 dX6_gang_30 rfl hX.1 hX.2.1.1 ?_
        refine r_iload1 dX6_gang_33 ?_
        refine cprV1 dX6_gang_34 ov_X3_gangOf rfl ml_X6_122 hX.2.1.2.1 rfl (Nat.zero_le _) (Nat.zero_le _) (Nat.zero_le _) (ct_gangOf _ hX.nw (g01 hq1).1 (g01 hq1).2) ?_
        refine r_astore4 dX6_gang_37 rfl ?_
        refine r_aload4 dX6_gang_39 ?_
        refine gf_X6_126 dX6_gang_41 rfl (hX.nw.gang (g01 hq1).2).1 ?_
        refine rn_eqi (ρ (2 + G.toNatClampNeg) 1) (hR.gang 1 (by decide) (by decide) (g01 hq1).2) ?_
        refine r_istore5 dX6_gang_44 rfl ?_
        refine r_aload4 dX6_gang_46 ?_
        refine r_iload2 dX6_gang_48 ?_
        refine pf_X6_126 dX6_gang_49 rfl (hX.nw.gang (g01 hq1).2).1 ?_
        refine r_aload4 dX6_gang_52 ?_
        refine r_iload3 dX6_gang_54 ?_
        refine pf_X6_129 dX6_gang_55 rfl (hX.nw.gang (g01 hq1).2).1 ?_
        refine r_iload5 dX6_gang_58 ?_
        refine rn_iret dX6_gang_60 rfl (Nat.zero_le _) (Nat.zero_le _) ?_
        have e : gangQ ρ G k n = (ρ (2 + G.toNatClampNeg) 1, up (up ρ (2 + G.toNatClampNeg) 1 k) (2 + G.toNatClampNeg) 2 n) := by unfold gangQ; rw [if_pos ⟨hq1, hq2, hq3⟩]
        have hGl := (g01 hq1).2
        exact ⟨_, rfl, rfl, rfl, rfl, by rw [e], by rw [e]; exact (hR.upg 1 (by decide) (by decide) (g01 hq1).2).upg 2 (by decide) (by decide) (g01 hq1).2, (off_up (by omega)).trans (off_up (by omega))⟩
      · refine rn_bipush (-2) dX6_gang_26 (by decide) ?_
        refine rn_iret dX6_gang_28 rfl (Nat.zero_le _) (Nat.zero_le _) ?_
        have e : gangQ ρ G k n = (-2, ρ) := by unfold gangQ; rw [if_neg (fun z => bI_0.mp c23 z.2.2)]
        exact ⟨_, rfl, rfl, rfl, rfl, by rw [e], by rw [e]; exact hR, Off.refl⟩
set_option maxRecDepth 4000 in
theorem ct_cset (D : Nat) (hX : ShX Γ rv) {ρ : IV} (hR : RC iv 27 ρ) (hg : GR ρ) (w v : Int32) : Ct g l mX6_set (D + 1) 0 0 [.ref 14, .int w, .int v] Γ iv rv lv (qCI Γ rv lv (fun x iv' => x = (setQ ρ w v).1 ∧ RC iv' 27 (setQ ρ w v).2 ∧ Off Nw iv iv')) := by
  refine Ct.of (by decide +kernel) (Nat.le_of_ble_eq_true rfl) (Nat.le_of_ble_eq_true rfl) ?_
  refine r_iload1 dX6_set_0 ?_
  refine rn_iconst (0) dX6_set_1 (by decide) ?_
  refine rn_getsI (i := 3) dX6_set_2 fl_X6_132 (by decide) (fun g h => h.2.2.2.2.1.2.1) ?_
  refine rn_alenO (5) dX6_set_5 (by decide) (by decide) ?_
  refine rn_iconst (1) dX6_set_6 (by decide) ?_
  refine rn_isub dX6_set_7 ?_
  refine rn_eqi 4 (by decide) ?_
  refine cpiS3 dX6_set_8 os_X6_within rfl ml_X6_91 (Nat.zero_le _) (Nat.zero_le _) (Nat.zero_le _) (ct_within _ _ _ _) ?_
  refine rn_if_eq 31 dX6_set_11 rfl (fun c11 => ?_) (fun c11 => ?_)
  · refine rn_bipush (-2) dX6_set_31 (by decide) ?_
    refine rn_iret dX6_set_33 rfl (Nat.zero_le _) (Nat.zero_le _) ?_
    have e : setQ ρ w v = (-2, ρ) := by unfold setQ; rw [if_neg (fun z => bI_0.mp c11 z.1)]
    exact ⟨_, rfl, rfl, rfl, rfl, by rw [e], by rw [e]; exact hR, Off.refl⟩
  · have hq1 := bI_1.mp (bI_or.resolve_left c11)
    rcases cw4 hq1 with rfl | rfl | rfl | rfl | rfl
    · refine r_iload2 dX6_set_14 ?_
      refine rn_getsI (i := 2) dX6_set_15 fl_X6_135 (by decide) (fun g h => h.2.2.2.2.1.1) ?_
      refine r_iload1 dX6_set_18 ?_
      refine rn_ialdO 0 dX6_set_19 (by decide) rfl (by decide) (by decide) ?_
      refine rn_eqi 1 (by decide) ?_
      refine rn_getsI (i := 3) dX6_set_20 fl_X6_132 (by decide) (fun g h => h.2.2.2.2.1.2.1) ?_
      refine r_iload1 dX6_set_23 ?_
      refine rn_ialdO 0 dX6_set_24 (by decide) rfl (by decide) (by decide) ?_
      refine rn_eqi 30 (by decide) ?_
      refine cpiS3 dX6_set_25 os_X6_within rfl ml_X6_91 (Nat.zero_le _) (Nat.zero_le _) (Nat.zero_le _) (ct_within _ _ _ _) ?_
      refine rn_if_ne 34 dX6_set_28 rfl (fun c28 => ?_) (fun c28 => ?_)
      · have hq2 := bI_1.mp (bI_or.resolve_left c28)
        refine r_iload1 dX6_set_34 ?_
        refine rn_tableIn 64 dX6_set_35 (by decide) (by decide) rfl rfl ?_
        refine r_aload0 dX6_set_64 ?_
        refine gf_X6_74 dX6_set_65 rfl hX.1 hX.2.1.1 ?_
        refine r_iload1 dX6_set_68 ?_
        refine cprV1 dX6_set_69 ov_X3_gangOf rfl ml_X6_122 hX.2.1.2.1 rfl (Nat.zero_le _) (Nat.zero_le _) (Nat.zero_le _) (ct_gangOf _ hX.nw (γ := 0) (by decide) (by decide)) ?_
        refine r_astore4 dX6_set_72 rfl ?_
        refine r_aload4 dX6_set_74 ?_
        refine gf_X6_110 dX6_set_76 rfl (hX.nw.gang (γ := 0) (by decide)).1 ?_
        refine rn_eqi (ρ 2 3) (hR.up0 3 (by decide) (by decide)) ?_
        refine r_istore3 dX6_set_79 rfl ?_
        refine r_aload4 dX6_set_80 ?_
        refine r_iload2 dX6_set_82 ?_
        refine pf_X6_110 dX6_set_83 rfl (hX.nw.gang (γ := 0) (by decide)).1 ?_
        refine r_iload3 dX6_set_86 ?_
        refine rn_iret dX6_set_87 rfl (Nat.zero_le _) (Nat.zero_le _) ?_
        have e : setQ ρ 0 v = setN ρ v 0 := by unfold setQ; rw [show (0 : Int32).toNatClampNeg = 0 from by decide, if_pos ⟨hq1, hq2⟩]
        exact ⟨_, rfl, rfl, rfl, rfl, by rw [e]; rfl, by rw [e]; exact hR.upg 3 (γ := 0) (by decide) (by decide) (by decide), off_up (by decide)⟩
      · refine rn_bipush (-2) dX6_set_31 (by decide) ?_
        refine rn_iret dX6_set_33 rfl (Nat.zero_le _) (Nat.zero_le _) ?_
        have e : setQ ρ 0 v = (-2, ρ) := by unfold setQ; rw [show (0 : Int32).toNatClampNeg = 0 from by decide, if_neg (fun z => bI_0.mp c28 z.2)]
        exact ⟨_, rfl, rfl, rfl, rfl, by rw [e], by rw [e]; exact hR, Off.refl⟩
    · refine r_iload2 dX6_set_14 ?_
      refine rn_getsI (i := 2) dX6_set_15 fl_X6_135 (by decide) (fun g h => h.2.2.2.2.1.1) ?_
      refine r_iload1 dX6_set_18 ?_
      refine rn_ialdO 1 dX6_set_19 (by decide) rfl (by decide) (by decide) ?_
      refine rn_eqi 1 (by decide) ?_
      refine rn_getsI (i := 3) dX6_set_20 fl_X6_132 (by decide) (fun g h => h.2.2.2.2.1.2.1) ?_
      refine r_iload1 dX6_set_23 ?_
      refine rn_ialdO 1 dX6_set_24 (by decide) rfl (by decide) (by decide) ?_
      refine rn_eqi 30 (by decide) ?_
      refine cpiS3 dX6_set_25 os_X6_within rfl ml_X6_91 (Nat.zero_le _) (Nat.zero_le _) (Nat.zero_le _) (ct_within _ _ _ _) ?_
      refine rn_if_ne 34 dX6_set_28 rfl (fun c28 => ?_) (fun c28 => ?_)
      · have hq2 := bI_1.mp (bI_or.resolve_left c28)
        refine r_iload1 dX6_set_34 ?_
        refine rn_tableIn 64 dX6_set_35 (by decide) (by decide) rfl rfl ?_
        refine r_aload0 dX6_set_64 ?_
        refine gf_X6_74 dX6_set_65 rfl hX.1 hX.2.1.1 ?_
        refine r_iload1 dX6_set_68 ?_
        refine cprV1 dX6_set_69 ov_X3_gangOf rfl ml_X6_122 hX.2.1.2.1 rfl (Nat.zero_le _) (Nat.zero_le _) (Nat.zero_le _) (ct_gangOf _ hX.nw (γ := 1) (by decide) (by decide)) ?_
        refine r_astore4 dX6_set_72 rfl ?_
        refine r_aload4 dX6_set_74 ?_
        refine gf_X6_110 dX6_set_76 rfl (hX.nw.gang (γ := 1) (by decide)).1 ?_
        refine rn_eqi (ρ 3 3) (hR.up1 3 (by decide) (by decide)) ?_
        refine r_istore3 dX6_set_79 rfl ?_
        refine r_aload4 dX6_set_80 ?_
        refine r_iload2 dX6_set_82 ?_
        refine pf_X6_110 dX6_set_83 rfl (hX.nw.gang (γ := 1) (by decide)).1 ?_
        refine r_iload3 dX6_set_86 ?_
        refine rn_iret dX6_set_87 rfl (Nat.zero_le _) (Nat.zero_le _) ?_
        have e : setQ ρ 1 v = setN ρ v 1 := by unfold setQ; rw [show (1 : Int32).toNatClampNeg = 1 from by decide, if_pos ⟨hq1, hq2⟩]
        exact ⟨_, rfl, rfl, rfl, rfl, by rw [e]; rfl, by rw [e]; exact hR.upg 3 (γ := 1) (by decide) (by decide) (by decide), off_up (by decide)⟩
      · refine rn_bipush (-2) dX6_set_31 (by decide) ?_
        refine rn_iret dX6_set_33 rfl (Nat.zero_le _) (Nat.zero_le _) ?_
        have e : setQ ρ 1 v = (-2, ρ) := by unfold setQ; rw [show (1 : Int32).toNatClampNeg = 1 from by decide, if_neg (fun z => bI_0.mp c28 z.2)]
        exact ⟨_, rfl, rfl, rfl, rfl, by rw [e], by rw [e]; exact hR, Off.refl⟩
    · refine r_iload2 dX6_set_14 ?_
      refine rn_getsI (i := 2) dX6_set_15 fl_X6_135 (by decide) (fun g h => h.2.2.2.2.1.1) ?_
      refine r_iload1 dX6_set_18 ?_
      refine rn_ialdO 2 dX6_set_19 (by decide) rfl (by decide) (by decide) ?_
      refine rn_eqi 0 (by decide) ?_
      refine rn_getsI (i := 3) dX6_set_20 fl_X6_132 (by decide) (fun g h => h.2.2.2.2.1.2.1) ?_
      refine r_iload1 dX6_set_23 ?_
      refine rn_ialdO 2 dX6_set_24 (by decide) rfl (by decide) (by decide) ?_
      refine rn_eqi 999 (by decide) ?_
      refine cpiS3 dX6_set_25 os_X6_within rfl ml_X6_91 (Nat.zero_le _) (Nat.zero_le _) (Nat.zero_le _) (ct_within _ _ _ _) ?_
      refine rn_if_ne 34 dX6_set_28 rfl (fun c28 => ?_) (fun c28 => ?_)
      · have hq2 := bI_1.mp (bI_or.resolve_left c28)
        refine r_iload1 dX6_set_34 ?_
        refine rn_tableIn 88 dX6_set_35 (by decide) (by decide) rfl rfl ?_
        refine r_aload0 dX6_set_88 ?_
        refine gf_X6_74 dX6_set_89 rfl hX.1 hX.2.1.1 ?_
        refine gf_X6_138 dX6_set_92 rfl hX.2.1.2.1 ?_
        refine rn_eqi (ρ 4 5) (hR.2.2.1 5 (by decide) (by decide)) ?_
        refine r_istore3 dX6_set_95 rfl ?_
        refine r_aload0 dX6_set_96 ?_
        refine gf_X6_74 dX6_set_97 rfl hX.1 hX.2.1.1 ?_
        refine r_iload2 dX6_set_100 ?_
        refine pf_X6_138 dX6_set_101 rfl hX.2.1.2.1 ?_
        refine r_iload3 dX6_set_104 ?_
        refine rn_iret dX6_set_105 rfl (Nat.zero_le _) (Nat.zero_le _) ?_
        have e : setQ ρ 2 v = setN ρ v 2 := by unfold setQ; rw [show (2 : Int32).toNatClampNeg = 2 from by decide, if_pos ⟨hq1, hq2⟩]
        exact ⟨_, rfl, rfl, rfl, rfl, by rw [e]; rfl, by rw [e]; exact hR.ups 5 (by decide) (by decide), off_up (by decide)⟩
      · refine rn_bipush (-2) dX6_set_31 (by decide) ?_
        refine rn_iret dX6_set_33 rfl (Nat.zero_le _) (Nat.zero_le _) ?_
        have e : setQ ρ 2 v = (-2, ρ) := by unfold setQ; rw [show (2 : Int32).toNatClampNeg = 2 from by decide, if_neg (fun z => bI_0.mp c28 z.2)]
        exact ⟨_, rfl, rfl, rfl, rfl, by rw [e], by rw [e]; exact hR, Off.refl⟩
    · refine r_iload2 dX6_set_14 ?_
      refine rn_getsI (i := 2) dX6_set_15 fl_X6_135 (by decide) (fun g h => h.2.2.2.2.1.1) ?_
      refine r_iload1 dX6_set_18 ?_
      refine rn_ialdO 3 dX6_set_19 (by decide) rfl (by decide) (by decide) ?_
      refine rn_eqi 0 (by decide) ?_
      refine rn_getsI (i := 3) dX6_set_20 fl_X6_132 (by decide) (fun g h => h.2.2.2.2.1.2.1) ?_
      refine r_iload1 dX6_set_23 ?_
      refine rn_ialdO 3 dX6_set_24 (by decide) rfl (by decide) (by decide) ?_
      refine rn_eqi 999 (by decide) ?_
      refine cpiS3 dX6_set_25 os_X6_within rfl ml_X6_91 (Nat.zero_le _) (Nat.zero_le _) (Nat.zero_le _) (ct_within _ _ _ _) ?_
      refine rn_if_ne 34 dX6_set_28 rfl (fun c28 => ?_) (fun c28 => ?_)
      · have hq2 := bI_1.mp (bI_or.resolve_left c28)
        refine r_iload1 dX6_set_34 ?_
        refine rn_tableIn 106 dX6_set_35 (by decide) (by decide) rfl rfl ?_
        refine r_aload0 dX6_set_106 ?_
        refine gf_X6_74 dX6_set_107 rfl hX.1 hX.2.1.1 ?_
        refine gf_X6_141 dX6_set_110 rfl hX.2.1.2.1 ?_
        refine rn_eqi (ρ 4 6) (hR.2.2.1 6 (by decide) (by decide)) ?_
        refine r_istore3 dX6_set_113 rfl ?_
        refine r_aload0 dX6_set_114 ?_
        refine gf_X6_74 dX6_set_115 rfl hX.1 hX.2.1.1 ?_
        refine r_iload2 dX6_set_118 ?_
        refine pf_X6_141 dX6_set_119 rfl hX.2.1.2.1 ?_
        refine r_iload3 dX6_set_122 ?_
        refine rn_iret dX6_set_123 rfl (Nat.zero_le _) (Nat.zero_le _) ?_
        have e : setQ ρ 3 v = setN ρ v 3 := by unfold setQ; rw [show (3 : Int32).toNatClampNeg = 3 from by decide, if_pos ⟨hq1, hq2⟩]
        exact ⟨_, rfl, rfl, rfl, rfl, by rw [e]; rfl, by rw [e]; exact hR.ups 6 (by decide) (by decide), off_up (by decide)⟩
      · refine rn_bipush (-2) dX6_set_31 (by decide) ?_
        refine rn_iret dX6_set_33 rfl (Nat.zero_le _) (Nat.zero_le _) ?_
        have e : setQ ρ 3 v = (-2, ρ) := by unfold setQ; rw [show (3 : Int32).toNatClampNeg = 3 from by decide, if_neg (fun z => bI_0.mp c28 z.2)]
        exact ⟨_, rfl, rfl, rfl, rfl, by rw [e], by rw [e]; exact hR, Off.refl⟩
    · refine r_iload2 dX6_set_14 ?_
      refine rn_getsI (i := 2) dX6_set_15 fl_X6_135 (by decide) (fun g h => h.2.2.2.2.1.1) ?_
      refine r_iload1 dX6_set_18 ?_
      refine rn_ialdO 4 dX6_set_19 (by decide) rfl (by decide) (by decide) ?_
      refine rn_eqi 0 (by decide) ?_
      refine rn_getsI (i := 3) dX6_set_20 fl_X6_132 (by decide) (fun g h => h.2.2.2.2.1.2.1) ?_
      refine r_iload1 dX6_set_23 ?_
      refine rn_ialdO 4 dX6_set_24 (by decide) rfl (by decide) (by decide) ?_
      refine rn_eqi 99 (by decide) ?_
      refine cpiS3 dX6_set_25 os_X6_within rfl ml_X6_91 (Nat.zero_le _) (Nat.zero_le _) (Nat.zero_le _) (ct_within _ _ _ _) ?_
      refine rn_if_ne 34 dX6_set_28 rfl (fun c28 => ?_) (fun c28 => ?_)
      · have hq2 := bI_1.mp (bI_or.resolve_left c28)
        refine r_iload1 dX6_set_34 ?_
        refine rn_tableOut 124 dX6_set_35 (by decide) rfl ?_
        refine r_aload0 dX6_set_124 ?_
        refine gf_X6_74 dX6_set_125 rfl hX.1 hX.2.1.1 ?_
        refine gf_X6_144 dX6_set_128 rfl hX.2.1.2.1 ?_
        refine rn_eqi (ρ 4 7) (hR.2.2.1 7 (by decide) (by decide)) ?_
        refine r_istore3 dX6_set_131 rfl ?_
        refine r_aload0 dX6_set_132 ?_
        refine gf_X6_74 dX6_set_133 rfl hX.1 hX.2.1.1 ?_
        refine r_iload2 dX6_set_136 ?_
        refine pf_X6_144 dX6_set_137 rfl hX.2.1.2.1 ?_
        refine r_iload3 dX6_set_140 ?_
        refine rn_iret dX6_set_141 rfl (Nat.zero_le _) (Nat.zero_le _) ?_
        have e : setQ ρ 4 v = setN ρ v 4 := by unfold setQ; rw [show (4 : Int32).toNatClampNeg = 4 from by decide, if_pos ⟨hq1, hq2⟩]
        exact ⟨_, rfl, rfl, rfl, rfl, by rw [e]; rfl, by rw [e]; exact hR.ups 7 (by decide) (by decide), off_up (by decide)⟩
      · refine rn_bipush (-2) dX6_set_31 (by decide) ?_
        refine rn_iret dX6_set_33 rfl (Nat.zero_le _) (Nat.zero_le _) ?_
        have e : setQ ρ 4 v = (-2, ρ) := by unfold setQ; rw [show (4 : Int32).toNatClampNeg = 4 from by decide, if_neg (fun z => bI_0.mp c28 z.2)]
        exact ⟨_, rfl, rfl, rfl, rfl, by rw [e], by rw [e]; exact hR, Off.refl⟩
set_option maxRecDepth 4000 in
theorem ct_doesToday (D : Nat) {ρ : IV} {S : Nat → Nat → List Int32} {t : Nat} (hC : CQ Γ iv rv ρ S t) (hlt : uO ρ + vO ρ < 24) {γ : Nat} (hγ : γ < 2) : Ct g l mX6_doesToday (D + 2) 0 0 [.ref 14, .ref (27 + 3 + 3 * γ)] Γ iv rv lv (qCI Γ rv lv (fun x iv' => x = nowS S ρ γ ∧ Off (Ak 27) iv iv')) := by
  refine Ct.of (by decide +kernel) (Nat.le_of_ble_eq_true rfl) (Nat.le_of_ble_eq_true rfl) ?_
  have hnx := next_lt (γ := γ) hlt
  refine r_aload1 dX6_doesToday_0 ?_
  refine cpiV0 dX6_doesToday_1 ov_X1_nextYard rfl ml_X6_169 (hC.1.nw.gang hγ).1 rfl (Nat.zero_le _) (Nat.zero_le _) (Nat.zero_le _) (ct_nextYard _ (hC.1.nw.gang hγ)) ?_
  refine rn_eqi (nI (nextN ρ γ)) (hC.2.1.next hC.2.2.1 hlt hγ) ?_
  refine r_istore2 dX6_doesToday_4 rfl ?_
  refine r_aload1 dX6_doesToday_5 ?_
  refine r_aload0 dX6_doesToday_6 ?_
  refine gf_X6_74 dX6_doesToday_7 rfl hC.1.1 hC.1.2.1.1 ?_
  refine r_iload2 dX6_doesToday_10 ?_
  refine cpiV1 dX6_doesToday_11 ov_X3_groundOf rfl ml_X6_172 hC.1.2.1.2.1 rfl (Nat.le_of_ble_eq_true rfl) (Nat.zero_le _) (Nat.zero_le _) (ct_groundOf _ hC.1.nw hC.2.1 rfl hnx) ?_
  refine r_aload0 dX6_doesToday_14 ?_
  refine gf_X6_74 dX6_doesToday_15 rfl hC.1.1 hC.1.2.1.1 ?_
  refine gf_X6_175 dX6_doesToday_18 rfl hC.1.2.1.2.1 ?_
  refine rn_eqi (ρ 4 4) (hC.2.1.2.2.1 4 (by decide) (by decide)) ?_
  refine r_aload0 dX6_doesToday_21 ?_
  refine gf_X6_74 dX6_doesToday_22 rfl hC.1.1 hC.1.2.1.1 ?_
  refine rn_iconst (0) dX6_doesToday_25 (by decide) ?_
  refine r_iload2 dX6_doesToday_26 ?_
  refine r_aload1 dX6_doesToday_27 ?_
  refine gf_X6_110 dX6_doesToday_28 rfl (hC.1.nw.gang hγ).1 ?_
  refine rn_eqi (ρ (2 + γ) 3) (hC.2.1.gang 3 (by decide) (by decide) hγ) ?_
  refine cciV3 dX6_doesToday_31 ov_X3_ask rfl ml_X6_115 hC.1.2.1.2.1 rfl (Nat.le_of_ble_eq_true rfl) (Nat.zero_le _) (Nat.zero_le _) (ct_ask D hC.1.nw (by decide) hC.2.1 hC.2.2.2.1 hC.2.2.2.2.1 hC.2.2.2.2.2.1 hC.2.2.2.2.2.2.1 (p := 0) (by decide) (by decide) rfl hnx _) (fun x31 iv h31 => ?_)
  obtain ⟨rt, hrt, hrte⟩ := ask_nn (S := S) (ρ := ρ) (y := nextN ρ γ) (m := ρ (2 + γ) 3)
  obtain ⟨⟨ki, ki1, ki2⟩, mi, mi1, mi2⟩ := hC.2.2.1.2.2.2.1 γ hγ
  have hR2 := hC.2.1.off h31.2 (fun a b z => by omega)
  refine rn_eqi (nI rt) (h31.1.trans hrte) ?_
  refine cpiV3 dX6_doesToday_34 ov_X1_does rfl ml_X6_178 (hC.1.nw.gang hγ).1 rfl (Nat.zero_le _) (Nat.zero_le _) (Nat.zero_le _) (ct_cdoes _ (hC.1.nw.gang hγ) ((hR2.gang 1 (by decide) (by decide) hγ).trans ki2) ki1 ((hR2.gang 2 (by decide) (by decide) hγ).trans mi2) mi1 _ _ hrt) ?_
  refine rn_iret dX6_doesToday_37 rfl (Nat.zero_le _) (Nat.zero_le _) ?_
  refine ⟨_, rfl, rfl, rfl, rfl, ?_, h31.2⟩
  unfold nowS
  rw [ki2, mi2, hrte]
set_option maxRecDepth 4000 in
theorem ct_ctold (D : Nat) {ρ : IV} {S : Nat → Nat → List Int32} {t : Nat} (hC : CQ Γ iv rv ρ S t) (G w : Int32) : Ct g l mX6_told (D + 3) 0 0 [.ref 14, .int G, .int w] Γ iv rv lv (qCI Γ rv lv (fun x iv' => x = toldQ S ρ G w ∧ Off (Ak 27) iv iv')) := by
  refine Ct.of (by decide +kernel) (Nat.le_of_ble_eq_true rfl) (Nat.le_of_ble_eq_true rfl) ?_
  refine r_iload1 dX6_told_0 ?_
  refine cpiS1 dX6_told_1 os_X6_isGang rfl ml_X6_119 (Nat.zero_le _) (Nat.zero_le _) (Nat.zero_le _) (ct_isGang _ _) ?_
  refine rn_if_ne 10 dX6_told_4 rfl (fun c4 => ?_) (fun c4 => ?_)
  · have hq1 := g02.mp (bI_1.mp (bI_or.resolve_left c4))
    refine r_aload0 dX6_told_10 ?_
    refine gf_X6_74 dX6_told_11 rfl hC.1.1 hC.1.2.1.1 ?_
    refine r_iload1 dX6_told_14 ?_
    refine cprV1 dX6_told_15 ov_X3_gangOf rfl ml_X6_122 hC.1.2.1.2.1 rfl (Nat.zero_le _) (Nat.zero_le _) (Nat.zero_le _) (ct_gangOf _ hC.1.nw (g01 hq1).1 (g01 hq1).2) ?_
    refine r_astore3 dX6_told_18 rfl ?_
    refine r_iload2 dX6_told_19 ?_
    by_cases hw : 0 ≤ w ∧ w ≤ 8
    · rcases cw8 hw with rfl | rfl | rfl | rfl | rfl | rfl | rfl | rfl | rfl
      · refine rn_tableIn 72 dX6_told_20 (by decide) (by decide) rfl rfl ?_
        refine r_aload3 dX6_told_72 ?_
        refine gf_X6_126 dX6_told_73 rfl (hC.1.nw.gang (g01 hq1).2).1 ?_
        refine rn_eqi (ρ (2 + G.toNatClampNeg) 1) (hC.2.1.gang 1 (by decide) (by decide) (g01 hq1).2) ?_
        refine rn_iret dX6_told_76 rfl (Nat.zero_le _) (Nat.zero_le _) ?_
        refine ⟨_, rfl, rfl, rfl, rfl, ?_, Off.refl⟩
        unfold toldQ
        rw [if_pos ⟨hq1, hw⟩, show (0 : Int32).toNatClampNeg = 0 from by decide]
        rfl
      · refine rn_tableIn 77 dX6_told_20 (by decide) (by decide) rfl rfl ?_
        refine r_aload3 dX6_told_77 ?_
        refine gf_X6_129 dX6_told_78 rfl (hC.1.nw.gang (g01 hq1).2).1 ?_
        refine rn_eqi (ρ (2 + G.toNatClampNeg) 2) (hC.2.1.gang 2 (by decide) (by decide) (g01 hq1).2) ?_
        refine rn_iret dX6_told_81 rfl (Nat.zero_le _) (Nat.zero_le _) ?_
        refine ⟨_, rfl, rfl, rfl, rfl, ?_, Off.refl⟩
        unfold toldQ
        rw [if_pos ⟨hq1, hw⟩, show (1 : Int32).toNatClampNeg = 1 from by decide]
        rfl
      · refine rn_tableIn 82 dX6_told_20 (by decide) (by decide) rfl rfl ?_
        refine r_aload3 dX6_told_82 ?_
        refine gf_X6_110 dX6_told_83 rfl (hC.1.nw.gang (g01 hq1).2).1 ?_
        refine rn_eqi (ρ (2 + G.toNatClampNeg) 3) (hC.2.1.gang 3 (by decide) (by decide) (g01 hq1).2) ?_
        refine rn_iret dX6_told_86 rfl (Nat.zero_le _) (Nat.zero_le _) ?_
        refine ⟨_, rfl, rfl, rfl, rfl, ?_, Off.refl⟩
        unfold toldQ
        rw [if_pos ⟨hq1, hw⟩, show (2 : Int32).toNatClampNeg = 2 from by decide]
        rfl
      · refine rn_tableIn 87 dX6_told_20 (by decide) (by decide) rfl rfl ?_
        refine r_aload3 dX6_told_87 ?_
        refine gf_X6_147 dX6_told_88 rfl (hC.1.nw.gang (g01 hq1).2).1 ?_
        refine rn_eqi (ρ (2 + G.toNatClampNeg) 4) (hC.2.1.gang 4 (by decide) (by decide) (g01 hq1).2) ?_
        refine rn_iret dX6_told_91 rfl (Nat.zero_le _) (Nat.zero_le _) ?_
        refine ⟨_, rfl, rfl, rfl, rfl, ?_, Off.refl⟩
        unfold toldQ
        rw [if_pos ⟨hq1, hw⟩, show (3 : Int32).toNatClampNeg = 3 from by decide]
        rfl
      · refine rn_tableIn 92 dX6_told_20 (by decide) (by decide) rfl rfl ?_
        refine r_aload3 dX6_told_92 ?_
        refine gf_X6_150 dX6_told_93 rfl (hC.1.nw.gang (g01 hq1).2).1 ?_
        refine rn_eqi (ρ (2 + G.toNatClampNeg) 5) (hC.2.1.gang 5 (by decide) (by decide) (g01 hq1).2) ?_
        refine rn_iret dX6_told_96 rfl (Nat.zero_le _) (Nat.zero_le _) ?_
        refine ⟨_, rfl, rfl, rfl, rfl, ?_, Off.refl⟩
        unfold toldQ
        rw [if_pos ⟨hq1, hw⟩, show (4 : Int32).toNatClampNeg = 4 from by decide]
        rfl
      · refine rn_tableIn 97 dX6_told_20 (by decide) (by decide) rfl rfl ?_
        refine r_aload3 dX6_told_97 ?_
        refine gf_X6_153 dX6_told_98 rfl (hC.1.nw.gang (g01 hq1).2).1 ?_
        refine rn_eqi (ρ (2 + G.toNatClampNeg) 6) (hC.2.1.gang 6 (by decide) (by decide) (g01 hq1).2) ?_
        refine rn_iret dX6_told_101 rfl (Nat.zero_le _) (Nat.zero_le _) ?_
        refine ⟨_, rfl, rfl, rfl, rfl, ?_, Off.refl⟩
        unfold toldQ
        rw [if_pos ⟨hq1, hw⟩, show (5 : Int32).toNatClampNeg = 5 from by decide]
        rfl
      · refine rn_tableIn 102 dX6_told_20 (by decide) (by decide) rfl rfl ?_
        refine r_aload3 dX6_told_102 ?_
        refine gf_X6_156 dX6_told_103 rfl (hC.1.nw.gang (g01 hq1).2).1 ?_
        refine rn_eqi (ρ (2 + G.toNatClampNeg) 7) (hC.2.1.gang 7 (by decide) (by decide) (g01 hq1).2) ?_
        refine rn_iret dX6_told_106 rfl (Nat.zero_le _) (Nat.zero_le _) ?_
        refine ⟨_, rfl, rfl, rfl, rfl, ?_, Off.refl⟩
        unfold toldQ
        rw [if_pos ⟨hq1, hw⟩, show (6 : Int32).toNatClampNeg = 6 from by decide]
        rfl
      · refine rn_tableIn 107 dX6_told_20 (by decide) (by decide) rfl rfl ?_
        refine r_aload0 dX6_told_107 ?_
        refine gf_X6_74 dX6_told_108 rfl hC.1.1 hC.1.2.1.1 ?_
        refine cpiV0 dX6_told_111 ov_X3_ahead rfl ml_X6_159 hC.1.2.1.2.1 rfl (Nat.zero_le _) (Nat.zero_le _) (Nat.zero_le _) (ct_ahead _ hC.1.nw hC.2.1) ?_
        refine rn_if_ne 121 dX6_told_114 rfl (fun c114 => ?_) (fun c114 => ?_)
        · refine r_aload0 dX6_told_121 ?_
          refine r_aload3 dX6_told_122 ?_
          refine cciV1 dX6_told_123 ov_X6_doesToday rfl ml_X6_162 hC.1.1 rfl (Nat.zero_le _) (Nat.zero_le _) (Nat.zero_le _) (ct_doesToday D hC (hlt_of hC.2.2.1 c114) (g01 hq1).2) (fun x123 iv h123 => ?_)
          refine rn_iret dX6_told_126 rfl (Nat.zero_le _) (Nat.zero_le _) ?_
          refine ⟨_, rfl, rfl, rfl, rfl, ?_, h123.2⟩
          unfold toldQ
          rw [if_pos ⟨hq1, hw⟩, show (7 : Int32).toNatClampNeg = 7 from by decide]
          rw [told7, if_neg c114]
          exact h123.1
        · refine rn_iconst (0) dX6_told_117 (by decide) ?_
          refine rn_goto 126 dX6_told_118 rfl ?_
          refine rn_iret dX6_told_126 rfl (Nat.zero_le _) (Nat.zero_le _) ?_
          refine ⟨_, rfl, rfl, rfl, rfl, ?_, Off.refl⟩
          unfold toldQ
          rw [if_pos ⟨hq1, hw⟩, show (7 : Int32).toNatClampNeg = 7 from by decide]
          rw [told7, if_pos c114]
      · refine rn_tableIn 127 dX6_told_20 (by decide) (by decide) rfl rfl ?_
        obtain ⟨⟨ki, ki1, ki2⟩, mi, mi1, mi2⟩ := hC.2.2.1.2.2.2.1 _ (g01 hq1).2
        refine r_aload3 dX6_told_127 ?_
        refine cpiV0 dX6_told_128 ov_X1_costs rfl ml_X6_166 (hC.1.nw.gang (g01 hq1).2).1 rfl (Nat.zero_le _) (Nat.zero_le _) (Nat.zero_le _) (ct_ccosts _ (hC.1.nw.gang (g01 hq1).2) ((hC.2.1.gang 1 (by decide) (by decide) (g01 hq1).2).trans ki2) ki1 ((hC.2.1.gang 2 (by decide) (by decide) (g01 hq1).2).trans mi2) mi1) ?_
        refine rn_iret dX6_told_131 rfl (Nat.zero_le _) (Nat.zero_le _) ?_
        refine ⟨_, rfl, rfl, rfl, rfl, ?_, Off.refl⟩
        unfold toldQ
        rw [if_pos ⟨hq1, hw⟩, show (8 : Int32).toNatClampNeg = 8 from by decide]
        show _ = costsS (ρ (2 + G.toNatClampNeg) 1) (ρ (2 + G.toNatClampNeg) 2)
        rw [ki2, mi2]
    · refine rn_tableOut 132 dX6_told_20 (tout8 hw) rfl ?_
      refine rn_bipush (-2) dX6_told_132 (by decide) ?_
      refine rn_iret dX6_told_134 rfl (Nat.zero_le _) (Nat.zero_le _) ?_
      refine ⟨_, rfl, rfl, rfl, rfl, ?_, Off.refl⟩
      unfold toldQ
      rw [if_neg (fun z => hw z.2)]
  · refine rn_bipush (-2) dX6_told_7 (by decide) ?_
    refine rn_iret dX6_told_9 rfl (Nat.zero_le _) (Nat.zero_le _) ?_
    refine ⟨_, rfl, rfl, rfl, rfl, ?_, Off.refl⟩
    unfold toldQ
    rw [if_neg (fun z => bI_0.mp c4 (g02.mpr z.1))]
set_option maxRecDepth 4000 in
theorem ct_cday (D : Nat) {ρ : IV} {S : Nat → Nat → List Int32} {t : Nat} (hC : CQ Γ iv rv ρ S t) : Ct g l mX6_day (D + 5) 0 0 [.ref 14] Γ iv rv lv (qCI Γ rv lv (fun x iv' => x = aheadS (passS S ρ (-1)) ∧ RC iv' 27 (passS S ρ (-1)) ∧ Off (Own 27) iv iv')) := by
  refine Ct.of (by decide +kernel) (Nat.le_of_ble_eq_true rfl) (Nat.le_of_ble_eq_true rfl) ?_
  refine r_aload0 dX6_day_0 ?_
  refine gf_X6_74 dX6_day_1 rfl hC.1.1 hC.1.2.1.1 ?_
  refine ccvV0 dX6_day_4 ov_X3_forgetAnswers rfl ml_X6_189 hC.1.2.1.2.1 rfl (Nat.zero_le _) (Nat.zero_le _) (Nat.zero_le _) (ct_forgetR _ hC.1.nw) (fun iv2 h4 => ?_)
  subst h4
  have hu : Off (fun a _ => a = 31 ∨ a = 34) iv (up (up (up (up iv (27 + 4) 0 (-1)) (27 + 4) 1 (-1)) (27 + 7) 0 (-1)) (27 + 7) 1 (-1)) := (((off_up (by omega)).trans (off_up (by omega))).trans (off_up (by omega))).trans (off_up (by omega))
  have hR2 := hC.2.1.off hu (fun a b z => by omega)
  have hU2 := hC.2.2.2.2.2.2.1.off hu (fun a b z => by omega)
  have hM : Mm (up (up (up (up iv (27 + 4) 0 (-1)) (27 + 4) 1 (-1)) (27 + 7) 0 (-1)) (27 + 7) 1 (-1)) 27 ρ S := by
    intro γ p hγ hp
    refine Or.inl ?_
    rcases (show γ = 0 ∨ γ = 1 by omega) with rfl | rfl <;> rcases (show p = 0 ∨ p = 1 by omega) with rfl | rfl <;> rfl
  refine r_aload0 dX6_day_7 ?_
  refine gf_X6_74 dX6_day_8 rfl hC.1.1 hC.1.2.1.1 ?_
  refine rn_iconst (-1) dX6_day_11 (by decide) ?_
  refine ccvV1 dX6_day_12 ov_X3_passDay rfl ml_X6_192 hC.1.2.1.2.1 rfl (Nat.zero_le _) (Nat.zero_le _) (Nat.zero_le _) (ct_passDay D hC.1.nw (by decide) hR2 hC.2.2.2.1 hC.2.2.2.2.1 hC.2.2.2.2.2.1 hU2 hC.2.2.1 hM _) (fun iv3 h12 => ?_)
  refine r_aload0 dX6_day_15 ?_
  refine gf_X6_74 dX6_day_16 rfl hC.1.1 hC.1.2.1.1 ?_
  refine cpiV0 dX6_day_19 ov_X3_ahead rfl ml_X6_159 hC.1.2.1.2.1 rfl (Nat.zero_le _) (Nat.zero_le _) (Nat.zero_le _) (ct_ahead _ hC.1.nw h12.2.1) ?_
  refine rn_iret dX6_day_22 rfl (Nat.zero_le _) (Nat.zero_le _) ?_
  exact ⟨_, rfl, rfl, rfl, rfl, rfl, h12.2.1, (hu.mono (fun a b z => by omega)).trans h12.1⟩
set_option maxRecDepth 4000 in
theorem ct_cforce (D : Nat) {ρ : IV} {S : Nat → Nat → List Int32} {t : Nat} (hC : CQ Γ iv rv ρ S t) {T : Nat} (h8 : iv 14 8 = nI T) (h1 : 1 ≤ T) (hT6 : T ≤ 6) (htT : t < T) (hRu : Rules Γ iv rv T S) (tx : Int32) : Ct g l mX6_force (D + 1) 0 0 [.ref 14, .int tx] Γ iv rv lv (qRI Γ lv (fun x iv' rv' => x = (forceQ ρ T tx).1 ∧ iv' = iv ∧ ∃ t', t' < T ∧ (forceQ ρ T tx).2 4 8 = nI t' ∧ rv' = up rv 27 8 (rq t') ∧ RC iv' 27 (forceQ ρ T tx).2)) := by
  refine Ct.of (by decide +kernel) (Nat.le_of_ble_eq_true rfl) (Nat.le_of_ble_eq_true rfl) ?_
  obtain ⟨hnum, L, hL, hUs, hall⟩ := hC.2.2.2.2.2.2.1
  refine r_iload1 dX6_force_0 ?_
  refine rn_iconst (0) dX6_force_1 (by decide) ?_
  refine r_aload0 dX6_force_2 ?_
  refine gf_X6_35 dX6_force_3 rfl hC.1.1 ?_
  refine rn_iconst (1) dX6_force_6 (by decide) ?_
  refine rn_isub dX6_force_7 ?_
  refine rn_eqi (nI (T - 1)) (by rw [h8, show (1 : Int32) = nI 1 by decide]; exact pk_sub h1) ?_
  refine cpiS3 dX6_force_8 os_X6_within rfl ml_X6_91 (Nat.zero_le _) (Nat.zero_le _) (Nat.zero_le _) (ct_within _ _ _ _) ?_
  refine rn_if_ne 17 dX6_force_11 rfl (fun c11 => ?_) (fun c11 => ?_)
  · have hq1 := bI_1.mp (bI_or.resolve_left c11)
    have htn := nB (n := tx) (k := nI (T - 1)) (T - 1) (by rw [nI_toInt (by omega)]) hq1
    have htx : tx.toNatClampNeg < T := by omega
    refine r_aload0 dX6_force_17 ?_
    refine gf_X6_25 dX6_force_18 rfl hC.1.1 hC.1.2.2.2.2.2.2.2.1.1 ?_
    refine r_iload1 dX6_force_21 ?_
    refine rn_aald tx.toNatClampNeg dX6_force_22 hC.1.2.2.2.2.2.2.2.1.2 (Or.inl rfl) htn.1 (by omega) (by decide) ?_
    refine rn_eqr (rq tx.toNatClampNeg) (hRu _ htx).1 ?_
    refine r_astore2 dX6_force_23 rfl ?_
    refine r_aload2 dX6_force_24 ?_
    refine rn_ifnonnull 31 dX6_force_25 rfl (fun _ => ?_) (fun h => absurd (by have := rq_ge tx.toNatClampNeg; omega) h)
    refine r_aload0 dX6_force_31 ?_
    refine gf_X6_74 dX6_force_32 rfl hC.1.1 hC.1.2.1.1 ?_
    refine gf_X6_184 dX6_force_35 rfl hC.1.2.1.2.1 hC.2.2.2.1 ?_
    refine gf_X6_188 dX6_force_38 rfl hUs.1 ?_
    refine rn_eqi (ρ 4 8) (hnum.trans hC.2.2.2.2.1.symm) ?_
    refine r_istore3 dX6_force_41 rfl ?_
    refine r_aload0 dX6_force_42 ?_
    refine gf_X6_74 dX6_force_43 rfl hC.1.1 hC.1.2.1.1 ?_
    refine r_aload2 dX6_force_46 ?_
    refine pf_X6_184 dX6_force_47 rfl hC.1.2.1.2.1 ?_
    refine r_iload3 dX6_force_50 ?_
    refine rn_iret dX6_force_51 rfl (Nat.zero_le _) (Nat.zero_le _) ?_
    have e : forceQ ρ T tx = (ρ 4 8, up ρ 4 8 tx) := by unfold forceQ; rw [if_pos hq1]
    exact ⟨_, rfl, rfl, rfl, by rw [e], rfl, _, htx, by rw [e]; exact (up_same ρ 4 8 tx).trans htn.1, rfl, by rw [e]; exact hC.2.1.rule⟩
  · refine rn_bipush (-2) dX6_force_14 (by decide) ?_
    refine rn_iret dX6_force_16 rfl (Nat.zero_le _) (Nat.zero_le _) ?_
    have e : forceQ ρ T tx = (-2, ρ) := by unfold forceQ; rw [if_neg (bI_0.mp c11)]
    exact ⟨_, rfl, rfl, rfl, by rw [e], rfl, t, htT, by rw [e]; exact hC.2.2.2.2.1, (up_self hC.2.2.2.1).symm, by rw [e]; exact hC.2.1⟩
set_option maxRecDepth 4000 in
theorem ct_cimage (D : Nat) (hX : ShX Γ rv) {ρ κ : IV} (hR : RC iv 27 ρ) (hK : RC iv 37 κ) : Ct g l mX6_image (D + 2) 0 0 [.ref 14] Γ iv rv lv (qRI Γ lv (fun x iv' rv' => x = ρ 4 4 ∧ rv' = up rv 37 8 (rv 27 8) ∧ Off (fun a b => (37 ≤ a ∧ a ≤ 43) ∨ (a = 14 ∧ b = 9)) iv iv' ∧ RC iv' 37 (ckS ρ κ) ∧ iv' 14 9 = 1)) := by
  refine Ct.of (by decide +kernel) (Nat.le_of_ble_eq_true rfl) (Nat.le_of_ble_eq_true rfl) ?_
  refine r_aload0 dX6_image_0 ?_
  refine gf_X6_78 dX6_image_1 rfl hX.1 hX.2.2.1.1 ?_
  refine r_aload0 dX6_image_4 ?_
  refine gf_X6_74 dX6_image_5 rfl hX.1 hX.2.1.1 ?_
  refine crvV1 dX6_image_8 ov_X3_copyKept rfl ml_X6_263 hX.2.2.1.2.1 rfl (Nat.zero_le _) (Nat.zero_le _) (Nat.zero_le _) (ct_copyR _ hX.kp hX.nw (by decide) (by decide) (by decide) hK hR) (fun iv2 rv2 h8 => ?_)
  obtain ⟨rfl, ho8, hR8⟩ := h8
  have hX := hX.offw (rv' := up rv 37 8 (rv 27 8)) (fun a b z => up_ne (by omega))
  refine r_aload0 dX6_image_11 ?_
  refine rn_iconst (1) dX6_image_12 (by decide) ?_
  refine pf_X6_39 dX6_image_13 rfl (Or.inr rfl) hX.1 ?_
  refine r_aload0 dX6_image_16 ?_
  refine gf_X6_74 dX6_image_17 rfl hX.1 hX.2.1.1 ?_
  refine gf_X6_175 dX6_image_20 rfl hX.2.1.2.1 ?_
  refine rn_eqi (ρ 4 4) ((up_ne1 (by decide)).trans ((ho8 _ _ (by omega)).trans (hR.2.2.1 4 (by decide) (by decide)))) ?_
  refine rn_iret dX6_image_23 rfl (Nat.zero_le _) (Nat.zero_le _) ?_
  exact ⟨_, rfl, rfl, rfl, rfl, rfl, (ho8.mono (fun a b z => by omega)).trans (off_up (by omega)), hR8.off (P := fun a b => a = 14 ∧ b = 9) (off_up ⟨rfl, rfl⟩) (fun a b z => by omega), up_same _ _ _ _⟩
set_option maxRecDepth 4000 in
theorem ct_cback (D : Nat) (hX : ShX Γ rv) {ρ κ : IV} (hR : RC iv 27 ρ) (hK : RC iv 37 κ) {im : Int32} (h9 : iv 14 9 = im) : Ct g l mX6_back (D + 2) 0 0 [.ref 14] Γ iv rv lv (qRI Γ lv (fun x iv' rv' => x = (if im = 0 then -3 else κ 4 4) ∧ (im = 0 → iv' = iv ∧ rv' = rv) ∧ (¬ im = 0 → rv' = up rv 27 8 (rv 37 8) ∧ Off (fun a _ => 27 ≤ a ∧ a ≤ 27 + 6) iv iv' ∧ RC iv' 27 (ckS κ ρ)))) := by
  refine Ct.of (by decide +kernel) (Nat.le_of_ble_eq_true rfl) (Nat.le_of_ble_eq_true rfl) ?_
  refine r_aload0 dX6_back_0 ?_
  refine gf_X6_39 dX6_back_1 rfl hX.1 ?_
  refine rn_if_ne 10 dX6_back_4 rfl (fun c4 => ?_) (fun c4 => ?_)
  · refine r_aload0 dX6_back_10 ?_
    refine gf_X6_74 dX6_back_11 rfl hX.1 hX.2.1.1 ?_
    refine r_aload0 dX6_back_14 ?_
    refine gf_X6_78 dX6_back_15 rfl hX.1 hX.2.2.1.1 ?_
    refine crvV1 dX6_back_18 ov_X3_copyKept rfl ml_X6_263 hX.2.1.2.1 rfl (Nat.zero_le _) (Nat.zero_le _) (Nat.zero_le _) (ct_copyR _ hX.nw hX.kp (by decide) (by decide) (by decide) hR hK) (fun iv2 rv2 h18 => ?_)
    obtain ⟨rfl, ho18, hR18⟩ := h18
    have hX := hX.offw (rv' := up rv 27 8 (rv 37 8)) (fun a b z => up_ne (by omega))
    refine r_aload0 dX6_back_21 ?_
    refine gf_X6_74 dX6_back_22 rfl hX.1 hX.2.1.1 ?_
    refine gf_X6_175 dX6_back_25 rfl hX.2.1.2.1 ?_
    refine rn_eqi (κ 4 4) ((hR18.2.2.1 4 (by decide) (by decide)).trans (ck_no (by decide))) ?_
    refine rn_iret dX6_back_28 rfl (Nat.zero_le _) (Nat.zero_le _) ?_
    exact ⟨_, rfl, rfl, rfl, by rw [if_neg (fun z => c4 (h9.trans z))], fun z => absurd (h9.trans z) c4, fun _ => ⟨rfl, ho18, hR18⟩⟩
  · refine rn_bipush (-3) dX6_back_7 (by decide) ?_
    refine rn_iret dX6_back_9 rfl (Nat.zero_le _) (Nat.zero_le _) ?_
    exact ⟨_, rfl, rfl, rfl, by rw [if_pos (h9.symm.trans c4)], fun _ => ⟨rfl, rfl⟩, fun z => absurd (h9.symm.trans c4) z⟩
set_option maxRecDepth 4000 in
theorem ct_ccount (D : Nat) {ρ : IV} {S : Nat → Nat → List Int32} {t : Nat} (hC : CQ Γ iv rv ρ S t) {T n : Nat} (h8 : iv 14 8 = nI T) (h0 : iv 16 0 = nI n) (w : Int32) : Ct g l mX6_count (D + 1) 0 0 [.ref 14, .int w] Γ iv rv lv (qPI (countQ ρ T n w) Γ iv rv lv) := by
  refine Ct.of (by decide +kernel) (Nat.le_of_ble_eq_true rfl) (Nat.le_of_ble_eq_true rfl) ?_
  obtain ⟨hnum, L, hL, hUs, hall⟩ := hC.2.2.2.2.2.2.1
  refine r_iload1 dX6_count_0 ?_
  by_cases hw : 0 ≤ w ∧ w ≤ 7
  · rcases cw7 hw with rfl | rfl | rfl | rfl | rfl | rfl | rfl | rfl
    · refine rn_tableIn 48 dX6_count_1 (by decide) (by decide) rfl rfl ?_
      refine r_aload0 dX6_count_48 ?_
      refine gf_X6_74 dX6_count_49 rfl hC.1.1 hC.1.2.1.1 ?_
      refine cpiV0 dX6_count_52 ov_X3_ahead rfl ml_X6_159 hC.1.2.1.2.1 rfl (Nat.zero_le _) (Nat.zero_le _) (Nat.zero_le _) (ct_ahead _ hC.1.nw hC.2.1) ?_
      refine rn_iret dX6_count_55 rfl (Nat.zero_le _) (Nat.zero_le _) ?_
      refine ⟨congrArg (fun z => some (Value.int z)) ?_, rfl, rfl, rfl, rfl⟩
      unfold countQ
      rw [if_pos hw, show (0 : Int32).toNatClampNeg = 0 from by decide]
      rfl
    · refine rn_tableIn 56 dX6_count_1 (by decide) (by decide) rfl rfl ?_
      refine r_aload0 dX6_count_56 ?_
      refine gf_X6_74 dX6_count_57 rfl hC.1.1 hC.1.2.1.1 ?_
      refine gf_X6_175 dX6_count_60 rfl hC.1.2.1.2.1 ?_
      refine rn_eqi (ρ 4 4) (hC.2.1.2.2.1 4 (by decide) (by decide)) ?_
      refine rn_iret dX6_count_63 rfl (Nat.zero_le _) (Nat.zero_le _) ?_
      refine ⟨congrArg (fun z => some (Value.int z)) ?_, rfl, rfl, rfl, rfl⟩
      unfold countQ
      rw [if_pos hw, show (1 : Int32).toNatClampNeg = 1 from by decide]
      rfl
    · refine rn_tableIn 64 dX6_count_1 (by decide) (by decide) rfl rfl ?_
      refine r_aload0 dX6_count_64 ?_
      refine gf_X6_74 dX6_count_65 rfl hC.1.1 hC.1.2.1.1 ?_
      refine gf_X6_138 dX6_count_68 rfl hC.1.2.1.2.1 ?_
      refine rn_eqi (ρ 4 5) (hC.2.1.2.2.1 5 (by decide) (by decide)) ?_
      refine rn_iret dX6_count_71 rfl (Nat.zero_le _) (Nat.zero_le _) ?_
      refine ⟨congrArg (fun z => some (Value.int z)) ?_, rfl, rfl, rfl, rfl⟩
      unfold countQ
      rw [if_pos hw, show (2 : Int32).toNatClampNeg = 2 from by decide]
      rfl
    · refine rn_tableIn 72 dX6_count_1 (by decide) (by decide) rfl rfl ?_
      refine r_aload0 dX6_count_72 ?_
      refine gf_X6_74 dX6_count_73 rfl hC.1.1 hC.1.2.1.1 ?_
      refine gf_X6_141 dX6_count_76 rfl hC.1.2.1.2.1 ?_
      refine rn_eqi (ρ 4 6) (hC.2.1.2.2.1 6 (by decide) (by decide)) ?_
      refine rn_iret dX6_count_79 rfl (Nat.zero_le _) (Nat.zero_le _) ?_
      refine ⟨congrArg (fun z => some (Value.int z)) ?_, rfl, rfl, rfl, rfl⟩
      unfold countQ
      rw [if_pos hw, show (3 : Int32).toNatClampNeg = 3 from by decide]
      rfl
    · refine rn_tableIn 80 dX6_count_1 (by decide) (by decide) rfl rfl ?_
      refine r_aload0 dX6_count_80 ?_
      refine gf_X6_74 dX6_count_81 rfl hC.1.1 hC.1.2.1.1 ?_
      refine gf_X6_144 dX6_count_84 rfl hC.1.2.1.2.1 ?_
      refine rn_eqi (ρ 4 7) (hC.2.1.2.2.1 7 (by decide) (by decide)) ?_
      refine rn_iret dX6_count_87 rfl (Nat.zero_le _) (Nat.zero_le _) ?_
      refine ⟨congrArg (fun z => some (Value.int z)) ?_, rfl, rfl, rfl, rfl⟩
      unfold countQ
      rw [if_pos hw, show (4 : Int32).toNatClampNeg = 4 from by decide]
      rfl
    · refine rn_tableIn 88 dX6_count_1 (by decide) (by decide) rfl rfl ?_
      refine r_aload0 dX6_count_88 ?_
      refine gf_X6_35 dX6_count_89 rfl hC.1.1 ?_
      refine rn_eqi (nI T) h8 ?_
      refine rn_iret dX6_count_92 rfl (Nat.zero_le _) (Nat.zero_le _) ?_
      refine ⟨congrArg (fun z => some (Value.int z)) ?_, rfl, rfl, rfl, rfl⟩
      unfold countQ
      rw [if_pos hw, show (5 : Int32).toNatClampNeg = 5 from by decide]
      rfl
    · refine rn_tableIn 93 dX6_count_1 (by decide) (by decide) rfl rfl ?_
      refine r_aload0 dX6_count_93 ?_
      refine gf_X6_19 dX6_count_94 rfl hC.1.1 hC.1.2.2.2.2.2.2.1.1 ?_
      refine gf_X6_62 dX6_count_97 rfl hC.1.2.2.2.2.2.2.1.2.1 ?_
      refine rn_eqi (nI n) h0 ?_
      refine rn_iret dX6_count_100 rfl (Nat.zero_le _) (Nat.zero_le _) ?_
      refine ⟨congrArg (fun z => some (Value.int z)) ?_, rfl, rfl, rfl, rfl⟩
      unfold countQ
      rw [if_pos hw, show (6 : Int32).toNatClampNeg = 6 from by decide]
      rfl
    · refine rn_tableIn 101 dX6_count_1 (by decide) (by decide) rfl rfl ?_
      refine r_aload0 dX6_count_101 ?_
      refine gf_X6_74 dX6_count_102 rfl hC.1.1 hC.1.2.1.1 ?_
      refine gf_X6_184 dX6_count_105 rfl hC.1.2.1.2.1 hC.2.2.2.1 ?_
      refine gf_X6_188 dX6_count_108 rfl hUs.1 ?_
      refine rn_eqi (ρ 4 8) (hnum.trans hC.2.2.2.2.1.symm) ?_
      refine rn_iret dX6_count_111 rfl (Nat.zero_le _) (Nat.zero_le _) ?_
      refine ⟨congrArg (fun z => some (Value.int z)) ?_, rfl, rfl, rfl, rfl⟩
      unfold countQ
      rw [if_pos hw, show (7 : Int32).toNatClampNeg = 7 from by decide]
      rfl
  · refine rn_tableOut 112 dX6_count_1 (tout7 hw) rfl ?_
    refine rn_bipush (-2) dX6_count_112 (by decide) ?_
    refine rn_iret dX6_count_114 rfl (Nat.zero_le _) (Nat.zero_le _) ?_
    refine ⟨congrArg (fun z => some (Value.int z)) ?_, rfl, rfl, rfl, rfl⟩
    unfold countQ
    rw [if_neg hw]
set_option maxRecDepth 4000 in
theorem ct_append (d : Nat) (hRd : ShR Γ rv) {n : Nat} (h0 : iv 16 0 = nI n) (hn : n ≤ 160) (c : Int32) : Ct g l mX2_append (d) 0 0 [.ref 16, .int c] Γ iv rv lv (qCI Γ rv lv (fun x iv' => x = bI (n < 160) ∧ (n < 160 → iv' = up (up iv 17 n c) 16 0 (nI (n + 1))) ∧ (¬ n < 160 → iv' = iv))) := by
  refine Ct.of (by decide +kernel) (Nat.le_of_ble_eq_true rfl) (Nat.le_of_ble_eq_true rfl) ?_
  refine r_aload0 dX2_append_0 ?_
  refine gf_X2_9 dX2_append_1 rfl hRd.1 ?_
  refine rn_eqi (nI n) h0 ?_
  refine rn_sipush (160) dX2_append_4 (by decide) ?_
  refine rn_icmp_lt 12 dX2_append_7 rfl (fun c7 => ?_) (fun c7 => ?_)
  · have hlt : n < 160 := by rw [show (160 : Int32) = nI 160 by decide, nI_ltI (by omega) (by decide)] at c7; exact c7
    refine r_aload0 dX2_append_12 ?_
    refine gf_X2_18 dX2_append_13 rfl hRd.1 hRd.2.1 ?_
    refine r_aload0 dX2_append_16 ?_
    refine gf_X2_9 dX2_append_17 rfl hRd.1 ?_
    refine r_iload1 dX2_append_20 ?_
    refine rn_iast n dX2_append_21 hRd.2.2.1 h0 hlt (by decide) ?_
    refine r_aload0 dX2_append_22 ?_
    refine rn_dup dX2_append_23 rfl ?_
    refine gf_X2_9 dX2_append_24 rfl hRd.1 ?_
    refine rn_eqi (nI n) ((up_ne1 (by decide)).trans h0) ?_
    refine rn_iconst (1) dX2_append_27 (by decide) ?_
    refine rn_iadd dX2_append_28 ?_
    refine rn_eqi (nI (n + 1)) (nI_1 n) ?_
    refine pf_X2_9 dX2_append_29 rfl hRd.1 ?_
    refine rn_iconst (1) dX2_append_32 (by decide) ?_
    refine rn_zret dX2_append_33 rfl (by first | decide | exact nar_bI) (Nat.zero_le _) (Nat.zero_le _) ?_
    exact ⟨_, rfl, rfl, rfl, rfl, (bI_t hlt).symm, fun z => rfl, fun z => absurd hlt z⟩
  · have hlt : ¬ n < 160 := fun z => c7 (by rw [show (160 : Int32) = nI 160 by decide]; exact nI_lt z (by decide))
    refine rn_iconst (0) dX2_append_10 (by decide) ?_
    refine rn_zret dX2_append_11 rfl (by first | decide | exact nar_bI) (Nat.zero_le _) (Nat.zero_le _) ?_
    exact ⟨_, rfl, rfl, rfl, rfl, (bI_f hlt).symm, fun z => absurd z hlt, fun z => rfl⟩
set_option maxRecDepth 4000 in
theorem ct_cfeed (D : Nat) (hX : ShX Γ rv) {n : Nat} (h0 : iv 16 0 = nI n) (hn : n ≤ 160) (c : Int32) : Ct g l mX6_feed (D + 1) 0 0 [.ref 14, .int c] Γ iv rv lv (qCI Γ rv lv (fun x iv' => x = feedQ n c ∧ (feedOK n c → iv' 16 0 = nI (n + 1) ∧ iv' 17 n = c ∧ Off (fun a b => (a = 16 ∧ b = 0) ∨ (a = 17 ∧ b = n)) iv iv') ∧ (¬ feedOK n c → iv' = iv))) := by
  refine Ct.of (by decide +kernel) (Nat.le_of_ble_eq_true rfl) (Nat.le_of_ble_eq_true rfl) ?_
  refine r_iload1 dX6_feed_0 ?_
  refine rn_iconst (0) dX6_feed_1 (by decide) ?_
  refine rn_sipush (255) dX6_feed_2 (by decide) ?_
  refine cpiS3 dX6_feed_5 os_X6_within rfl ml_X6_91 (Nat.zero_le _) (Nat.zero_le _) (Nat.zero_le _) (ct_within _ _ _ _) ?_
  refine rn_if_ne 14 dX6_feed_8 rfl (fun c8 => ?_) (fun c8 => ?_)
  · have hq1 := bI_1.mp (bI_or.resolve_left c8)
    refine r_aload0 dX6_feed_14 ?_
    refine gf_X6_19 dX6_feed_15 rfl hX.1 hX.2.2.2.2.2.2.1.1 ?_
    refine r_iload1 dX6_feed_18 ?_
    refine cciV1 dX6_feed_19 ov_X2_append rfl ml_X6_55 hX.2.2.2.2.2.2.1.2.1 rfl (Nat.zero_le _) (Nat.zero_le _) (Nat.zero_le _) (ct_append _ hX.2.2.2.2.2.2.1.2 h0 hn c) (fun x19 iv2 h19 => ?_)
    refine rn_if_eq 35 dX6_feed_22 rfl (fun c22 => ?_) (fun c22 => ?_)
    · refine rn_bipush (-4) dX6_feed_35 (by decide) ?_
      refine rn_iret dX6_feed_37 rfl (Nat.zero_le _) (Nat.zero_le _) ?_
      have hn2 : ¬ n < 160 := bI_0.mp (h19.1.symm.trans c22)
      exact ⟨_, rfl, rfl, rfl, rfl, by unfold feedQ; rw [if_pos hq1, if_pos (by omega)], fun z => absurd (show n = 160 by omega) z.2, fun _ => h19.2.2 hn2⟩
    · have hn2 : n < 160 := Decidable.of_not_not (fun z => c22 (h19.1.trans (bI_f z)))
      refine r_aload0 dX6_feed_25 ?_
      refine gf_X6_19 dX6_feed_26 rfl hX.1 hX.2.2.2.2.2.2.1.1 ?_
      refine gf_X6_62 dX6_feed_29 rfl hX.2.2.2.2.2.2.1.2.1 ?_
      refine rn_eqi (nI (n + 1)) (by rw [h19.2.1 hn2]; exact up_same _ _ _ _) ?_
      refine rn_goto 37 dX6_feed_32 rfl ?_
      refine rn_iret dX6_feed_37 rfl (Nat.zero_le _) (Nat.zero_le _) ?_
      refine ⟨_, rfl, rfl, rfl, rfl, by unfold feedQ; rw [if_pos hq1, if_neg (by omega)], fun _ => ?_, fun z => absurd ⟨hq1, by omega⟩ z⟩
      rw [h19.2.1 hn2]
      exact ⟨up_same _ _ _ _, (up_ne1 (by decide)).trans (up_same _ _ _ _), (off_up (by omega)).trans (off_up (by omega))⟩
  · refine rn_bipush (-2) dX6_feed_11 (by decide) ?_
    refine rn_iret dX6_feed_13 rfl (Nat.zero_le _) (Nat.zero_le _) ?_
    exact ⟨_, rfl, rfl, rfl, rfl, by unfold feedQ; rw [if_neg (bI_0.mp c8)], fun z => absurd z.1 (bI_0.mp c8), fun _ => rfl⟩
end CGROUND
