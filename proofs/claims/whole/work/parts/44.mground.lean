/-! THE REFERENCE: ground, yard, gang, set, told -/
theorem nB {n k : Int32} (m : Nat) (hk : k.toInt = m) (h : 0 ≤ n ∧ n ≤ k) : n = nI n.toNatClampNeg ∧ n.toNatClampNeg ≤ m := by
  obtain ⟨h0, h1⟩ := h
  have e : n.toNatClampNeg = n.toInt.toNat := rfl
  have hl : n.toInt < 2 ^ 31 := Int32.toInt_lt n
  simp only [Int32.le_iff_toInt_le, Int32.reduceToInt] at h0 h1
  refine ⟨?_, by omega⟩
  rw [← Int32.toInt_inj, nI_toInt (by omega), e]; omega
theorem nB_lt {n k : Int32} (m : Nat) (hk : k.toInt = m) (h : 0 ≤ n ∧ n ≤ k) {z : Nat} (hz : m < z) : n.toNatClampNeg < z := Nat.lt_of_le_of_lt (nB m hk h).2 hz
theorem cw1 {w : Int32} (h : 0 ≤ w ∧ w ≤ 1) : w = 0 ∨ w = 1 := by
  obtain ⟨h0, h1⟩ := h
  simp only [Int32.le_iff_toInt_le, ← Int32.toInt_inj, Int32.reduceToInt] at *
  omega
theorem cw2 {w : Int32} (h : 0 ≤ w ∧ w ≤ 2) : w = 0 ∨ w = 1 ∨ w = 2 := by
  obtain ⟨h0, h1⟩ := h
  simp only [Int32.le_iff_toInt_le, ← Int32.toInt_inj, Int32.reduceToInt] at *
  omega
theorem cw3 {w : Int32} (h : 0 ≤ w ∧ w ≤ 3) : w = 0 ∨ w = 1 ∨ w = 2 ∨ w = 3 := by
  obtain ⟨h0, h1⟩ := h
  simp only [Int32.le_iff_toInt_le, ← Int32.toInt_inj, Int32.reduceToInt] at *
  omega
theorem cw4 {w : Int32} (h : 0 ≤ w ∧ w ≤ 4) : w = 0 ∨ w = 1 ∨ w = 2 ∨ w = 3 ∨ w = 4 := by
  obtain ⟨h0, h1⟩ := h
  simp only [Int32.le_iff_toInt_le, ← Int32.toInt_inj, Int32.reduceToInt] at *
  omega
theorem cw5 {w : Int32} (h : 0 ≤ w ∧ w ≤ 5) : w = 0 ∨ w = 1 ∨ w = 2 ∨ w = 3 ∨ w = 4 ∨ w = 5 := by
  obtain ⟨h0, h1⟩ := h
  simp only [Int32.le_iff_toInt_le, ← Int32.toInt_inj, Int32.reduceToInt] at *
  omega
theorem cw7 {w : Int32} (h : 0 ≤ w ∧ w ≤ 7) : w = 0 ∨ w = 1 ∨ w = 2 ∨ w = 3 ∨ w = 4 ∨ w = 5 ∨ w = 6 ∨ w = 7 := by
  obtain ⟨h0, h1⟩ := h
  simp only [Int32.le_iff_toInt_le, ← Int32.toInt_inj, Int32.reduceToInt] at *
  omega
theorem cw8 {w : Int32} (h : 0 ≤ w ∧ w ≤ 8) : w = 0 ∨ w = 1 ∨ w = 2 ∨ w = 3 ∨ w = 4 ∨ w = 5 ∨ w = 6 ∨ w = 7 ∨ w = 8 := by
  obtain ⟨h0, h1⟩ := h
  simp only [Int32.le_iff_toInt_le, ← Int32.toInt_inj, Int32.reduceToInt] at *
  omega
/-- cells of the road -/
abbrev Rr (a b : Nat) : Prop := (79 ≤ a ∧ a ≤ 87) ∨ (a = 75 ∧ (b = 4 ∨ (16 ≤ b ∧ b ≤ 19)))
def whoseS (ρ : IV) (y : Int32) : Int32 := if y < ρ 2 4 then 0 else if 24 - ρ 3 4 ≤ y then 1 else -1
theorem RM.whose {iv ρ : IV} (h : RM iv ρ) {y : Int32} : (if y < iv 84 0 then 0 else if 24 - iv 84 1 ≤ y then 1 else -1) = whoseS ρ y := by
  have h1 : iv 84 0 = ρ 2 4 := h.2.1 4 0 (by decide) (by decide) (by decide)
  have h2 : iv 84 1 = ρ 3 4 := h.2.1 4 1 (by decide) (by decide) (by decide)
  rw [h1, h2]; rfl
def groundQ (ρ : IV) (y w v : Int32) : Int32 × IV := if (0 ≤ y ∧ y ≤ 23) ∧ (0 ≤ w ∧ w ≤ 1) ∧ 0 ≤ v ∧ v ≤ (if w = 0 then 3 else 1) then (if w = 0 then (if whoseS ρ y = -1 then (ρ 0 y.toNatClampNeg, up ρ 0 y.toNatClampNeg v) else (-3, ρ)) else (ρ 1 y.toNatClampNeg, up ρ 1 y.toNatClampNeg v)) else (-2, ρ)
def yardN (S : Nat → Nat → List Int32) (ρ : IV) (y : Int32) : Nat → Int32
  | 0 => ρ 0 y.toNatClampNeg
  | 1 => ρ 1 y.toNatClampNeg
  | 2 => whoseS ρ y
  | _ => askS S ρ 1 y.toNatClampNeg (ρ 2 3)
def yardQ (S : Nat → Nat → List Int32) (ρ : IV) (y w : Int32) : Int32 := if (0 ≤ y ∧ y ≤ 23) ∧ 0 ≤ w ∧ w ≤ 3 then yardN S ρ y w.toNatClampNeg else -2
def gangQ (ρ : IV) (G k n : Int32) : Int32 × IV := if (0 ≤ G ∧ G ≤ 1) ∧ (0 ≤ k ∧ k ≤ 5) ∧ 0 ≤ n ∧ n ≤ 9 then (ρ (2 + G.toNatClampNeg) 1, up (up ρ (2 + G.toNatClampNeg) 1 k) (2 + G.toNatClampNeg) 2 n) else (-2, ρ)
def loS : Nat → Int32
  | 0 => 1
  | 1 => 1
  | _ => 0
def hiS : Nat → Int32
  | 0 => 30
  | 1 => 30
  | 4 => 99
  | _ => 999
def setN (ρ : IV) (v : Int32) : Nat → Int32 × IV
  | 0 => (ρ 2 3, up ρ 2 3 v)
  | 1 => (ρ 3 3, up ρ 3 3 v)
  | 2 => (ρ 4 5, up ρ 4 5 v)
  | 3 => (ρ 4 6, up ρ 4 6 v)
  | _ => (ρ 4 7, up ρ 4 7 v)
def setQ (ρ : IV) (w v : Int32) : Int32 × IV := if (0 ≤ w ∧ w ≤ 4) ∧ loS w.toNatClampNeg ≤ v ∧ v ≤ hiS w.toNatClampNeg then setN ρ v w.toNatClampNeg else (-2, ρ)
def nowS (S : Nat → Nat → List Int32) (ρ : IV) (γ : Nat) : Int32 := doesS (ρ (2 + γ) 1) (ρ (2 + γ) 2) (ρ 4 4) (ρ 0 (nextN ρ γ)) (askS S ρ 0 (nextN ρ γ) (ρ (2 + γ) 3))
def toldN (S : Nat → Nat → List Int32) (ρ : IV) (γ : Nat) : Nat → Int32
  | 0 => ρ (2 + γ) 1
  | 1 => ρ (2 + γ) 2
  | 2 => ρ (2 + γ) 3
  | 3 => ρ (2 + γ) 4
  | 4 => ρ (2 + γ) 5
  | 5 => ρ (2 + γ) 6
  | 6 => ρ (2 + γ) 7
  | 7 => if aheadS ρ = 0 then 0 else nowS S ρ γ
  | _ => costsS (ρ (2 + γ) 1) (ρ (2 + γ) 2)
theorem told7 {S : Nat → Nat → List Int32} {ρ : IV} {γ : Nat} : toldN S ρ γ 7 = if aheadS ρ = 0 then 0 else nowS S ρ γ := rfl
def toldQ (S : Nat → Nat → List Int32) (ρ : IV) (G w : Int32) : Int32 := if (0 ≤ G ∧ G ≤ 1) ∧ 0 ≤ w ∧ w ≤ 8 then toldN S ρ G.toNatClampNeg w.toNatClampNeg else -2
theorem hlt_of {ρ : IV} (hg : GR ρ) (h : ¬ aheadS ρ = 0) : uO ρ + vO ρ < 24 := Decidable.of_not_not (fun z => h ((ahead_zero hg).mpr z))
section MGROUND
variable {g : GS} {l : Launch} {Γ : Sh} {iv : IV} {rv : RV} {lv : LV}
set_option maxRecDepth 4000 in
theorem ct_mground (D : Nat) (hM : ShM Γ rv) {ρ : IV} (hR : RM iv ρ) (y w v : Int32) : Ct g l mX7_ground (D + 2) 0 0 [.ref 75, .int y, .int w, .int v] Γ iv rv lv (qCI Γ rv lv (fun x iv' => x = (groundQ ρ y w v).1 ∧ RM iv' (groundQ ρ y w v).2 ∧ Off Rr iv iv')) := by
  refine Ct.of (by decide +kernel) (Nat.le_of_ble_eq_true rfl) (Nat.le_of_ble_eq_true rfl) ?_
  refine r_iload1 dX7_ground_0 ?_
  refine cpiS1 dX7_ground_1 os_X7_isYard rfl ml_X7_100 (Nat.zero_le _) (Nat.zero_le _) (Nat.zero_le _) (ct_misYard _ _) ?_
  refine rn_if_eq 37 dX7_ground_4 rfl (fun c4 => ?_) (fun c4 => ?_)
  · refine rn_bipush (-2) dX7_ground_37 (by decide) ?_
    refine rn_iret dX7_ground_39 rfl (Nat.zero_le _) (Nat.zero_le _) ?_
    have e : groundQ ρ y w v = (-2, ρ) := by unfold groundQ; rw [if_neg (fun z => bI_0.mp c4 z.1)]
    exact ⟨_, rfl, rfl, rfl, rfl, by rw [e], by rw [e]; exact hR, Off.refl⟩
  · refine r_iload2 dX7_ground_7 ?_
    refine rn_i2l dX7_ground_8 ?_
    refine rn_lconst (0) dX7_ground_9 (by decide) ?_
    refine rn_lconst (1) dX7_ground_10 (by decide) ?_
    refine cpiS3 dX7_ground_11 os_X7_in rfl ml_X7_96 (Nat.zero_le _) (Nat.zero_le _) (Nat.zero_le _) (ct_inI _ (a := 0) (b := 1) (by decide) (by decide)) ?_
    refine rn_if_eq 37 dX7_ground_14 rfl (fun c14 => ?_) (fun c14 => ?_)
    · refine rn_bipush (-2) dX7_ground_37 (by decide) ?_
      refine rn_iret dX7_ground_39 rfl (Nat.zero_le _) (Nat.zero_le _) ?_
      have e : groundQ ρ y w v = (-2, ρ) := by unfold groundQ; rw [if_neg (fun z => bI_0.mp c14 z.2.1)]
      exact ⟨_, rfl, rfl, rfl, rfl, by rw [e], by rw [e]; exact hR, Off.refl⟩
    · refine r_iload3 dX7_ground_17 ?_
      refine rn_i2l dX7_ground_18 ?_
      refine rn_lconst (0) dX7_ground_19 (by decide) ?_
      refine r_iload2 dX7_ground_20 ?_
      refine rn_if_ne 30 dX7_ground_21 rfl (fun c21 => ?_) (fun c21 => ?_)
      · refine rn_lconst (1) dX7_ground_30 (by decide) ?_
        refine cpiS3 dX7_ground_31 os_X7_in rfl ml_X7_96 (Nat.zero_le _) (Nat.zero_le _) (Nat.zero_le _) (ct_inI _ (a := 0) (b := 1) (by decide) (by decide)) ?_
        refine rn_if_ne 40 dX7_ground_34 rfl (fun c34 => ?_) (fun c34 => ?_)
        · have hq1 := bI_1.mp (bI_or.resolve_left c4)
          have hq2 := bI_1.mp (bI_or.resolve_left c14)
          have hq3 := bI_1.mp (bI_or.resolve_left c34)
          refine r_iload2 dX7_ground_40 ?_
          refine rn_if_ne 56 dX7_ground_41 rfl (fun _ => ?_) (fun h => absurd h c21)
          refine r_iload2 dX7_ground_56 ?_
          refine rn_if_ne 69 dX7_ground_57 rfl (fun _ => ?_) (fun h => absurd h c21)
          refine r_aload0 dX7_ground_69 ?_
          refine gf_X7_26 dX7_ground_70 rfl hM.1 (sm_known hM).1 ?_
          refine r_iload1 dX7_ground_73 ?_
          refine rn_iald y.toNatClampNeg dX7_ground_74 (sm_known hM).2 (nB 23 (by decide) hq1).1 (nB_lt 23 (by decide) hq1 (by decide)) (by decide) ?_
          refine rn_eqi (ρ 1 y.toNatClampNeg) (hR.1 _ (nB_lt 23 (by decide) hq1 (by decide))).2 ?_
          refine r_istore4 dX7_ground_75 rfl ?_
          refine r_iload2 dX7_ground_77 ?_
          refine rn_if_ne 91 dX7_ground_78 rfl (fun _ => ?_) (fun h => absurd h c21)
          refine r_aload0 dX7_ground_91 ?_
          refine gf_X7_26 dX7_ground_92 rfl hM.1 (sm_known hM).1 ?_
          refine r_iload1 dX7_ground_95 ?_
          refine r_iload3 dX7_ground_96 ?_
          refine rn_iast y.toNatClampNeg dX7_ground_97 (sm_known hM).2 (nB 23 (by decide) hq1).1 (nB_lt 23 (by decide) hq1 (by decide)) (by decide) ?_
          refine r_iload4 dX7_ground_98 ?_
          refine rn_iret dX7_ground_100 rfl (Nat.zero_le _) (Nat.zero_le _) ?_
          have e : groundQ ρ y w v = (ρ 1 y.toNatClampNeg, up ρ 1 y.toNatClampNeg v) := by unfold groundQ; rw [if_pos ⟨hq1, hq2, ⟨hq3.1, by rw [if_neg c21]; exact hq3.2⟩⟩, if_neg c21]
          exact ⟨_, rfl, rfl, rfl, rfl, by rw [e], by rw [e]; exact hR.known, off_up (by omega)⟩
        · refine rn_bipush (-2) dX7_ground_37 (by decide) ?_
          refine rn_iret dX7_ground_39 rfl (Nat.zero_le _) (Nat.zero_le _) ?_
          have e : groundQ ρ y w v = (-2, ρ) := by unfold groundQ; rw [if_neg (fun z => bI_0.mp c34 ⟨z.2.2.1, by have z2 := z.2.2.2; rw [if_neg c21] at z2; exact z2⟩)]
          exact ⟨_, rfl, rfl, rfl, rfl, by rw [e], by rw [e]; exact hR, Off.refl⟩
      · refine rn_ldc2 (v := _) dX7_ground_24 cl_X7_104 ?_
        refine rn_goto 31 dX7_ground_27 rfl ?_
        refine cpiS3 dX7_ground_31 os_X7_in rfl ml_X7_96 (Nat.zero_le _) (Nat.zero_le _) (Nat.zero_le _) (ct_inI _ (a := 0) (b := 3) (by decide) (by decide)) ?_
        refine rn_if_ne 40 dX7_ground_34 rfl (fun c34 => ?_) (fun c34 => ?_)
        · have hq1 := bI_1.mp (bI_or.resolve_left c4)
          have hq2 := bI_1.mp (bI_or.resolve_left c14)
          have hq3 := bI_1.mp (bI_or.resolve_left c34)
          refine r_iload2 dX7_ground_40 ?_
          refine rn_if_ne 56 dX7_ground_41 rfl (fun h => absurd c21 h) (fun _ => ?_)
          refine r_aload0 dX7_ground_44 ?_
          refine r_iload1 dX7_ground_45 ?_
          refine cpiV1 dX7_ground_46 ov_X7_whose rfl ml_X7_106 hM.1 rfl (Nat.zero_le _) (Nat.zero_le _) (Nat.zero_le _) (ct_whose _ hM _) ?_
          refine rn_eqi _ hR.whose ?_
          refine rn_iconst (-1) dX7_ground_49 (by decide) ?_
          refine rn_icmp_eq 56 dX7_ground_50 rfl (fun c50 => ?_) (fun c50 => ?_)
          · refine r_iload2 dX7_ground_56 ?_
            refine rn_if_ne 69 dX7_ground_57 rfl (fun h => absurd c21 h) (fun _ => ?_)
            refine r_aload0 dX7_ground_60 ?_
            refine gf_X7_23 dX7_ground_61 rfl hM.1 (sm_grounds hM).1 ?_
            refine r_iload1 dX7_ground_64 ?_
            refine rn_iald y.toNatClampNeg dX7_ground_65 (sm_grounds hM).2 (nB 23 (by decide) hq1).1 (nB_lt 23 (by decide) hq1 (by decide)) (by decide) ?_
            refine rn_eqi (ρ 0 y.toNatClampNeg) (hR.1 _ (nB_lt 23 (by decide) hq1 (by decide))).1 ?_
            refine rn_goto 75 dX7_ground_66 rfl ?_
            refine r_istore4 dX7_ground_75 rfl ?_
            refine r_iload2 dX7_ground_77 ?_
            refine rn_if_ne 91 dX7_ground_78 rfl (fun h => absurd c21 h) (fun _ => ?_)
            refine r_aload0 dX7_ground_81 ?_
            refine gf_X7_23 dX7_ground_82 rfl hM.1 (sm_grounds hM).1 ?_
            refine r_iload1 dX7_ground_85 ?_
            refine r_iload3 dX7_ground_86 ?_
            refine rn_iast y.toNatClampNeg dX7_ground_87 (sm_grounds hM).2 (nB 23 (by decide) hq1).1 (nB_lt 23 (by decide) hq1 (by decide)) (by decide) ?_
            refine rn_goto 98 dX7_ground_88 rfl ?_
            refine r_iload4 dX7_ground_98 ?_
            refine rn_iret dX7_ground_100 rfl (Nat.zero_le _) (Nat.zero_le _) ?_
            have e : groundQ ρ y w v = (ρ 0 y.toNatClampNeg, up ρ 0 y.toNatClampNeg v) := by unfold groundQ; rw [if_pos ⟨hq1, hq2, ⟨hq3.1, by rw [if_pos c21]; exact hq3.2⟩⟩, if_pos c21, if_pos c50]
            exact ⟨_, rfl, rfl, rfl, rfl, by rw [e], by rw [e]; exact hR.grd, off_up (by omega)⟩
          · refine rn_bipush (-3) dX7_ground_53 (by decide) ?_
            refine rn_iret dX7_ground_55 rfl (Nat.zero_le _) (Nat.zero_le _) ?_
            have e : groundQ ρ y w v = (-3, ρ) := by unfold groundQ; rw [if_pos ⟨hq1, hq2, ⟨hq3.1, by rw [if_pos c21]; exact hq3.2⟩⟩, if_pos c21, if_neg c50]
            exact ⟨_, rfl, rfl, rfl, rfl, by rw [e], by rw [e]; exact hR, Off.refl⟩
        · refine rn_bipush (-2) dX7_ground_37 (by decide) ?_
          refine rn_iret dX7_ground_39 rfl (Nat.zero_le _) (Nat.zero_le _) ?_
          have e : groundQ ρ y w v = (-2, ρ) := by unfold groundQ; rw [if_neg (fun z => bI_0.mp c34 ⟨z.2.2.1, by have z2 := z.2.2.2; rw [if_pos c21] at z2; exact z2⟩)]
          exact ⟨_, rfl, rfl, rfl, rfl, by rw [e], by rw [e]; exact hR, Off.refl⟩
set_option maxRecDepth 4000 in
theorem ct_myard (D : Nat) (hM : ShM Γ rv) {ρ : IV} {S : Nat → Nat → List Int32} {T : Nat} (hR : RM iv ρ) (hX : TextsM iv T S) (hT6 : T ≤ 6) {t : Nat} (ht : ρ 4 8 = nI t) (htT : t < T) (hg : GR ρ) (y w : Int32) : Ct g l mX7_yard (D + 49) 0 0 [.ref 75, .int y, .int w] Γ iv rv lv (qLI Γ rv (fun x iv' _ => Off Sy iv iv' ∧ x = yardQ S ρ y w)) := by
  refine Ct.of (by decide +kernel) (Nat.le_of_ble_eq_true rfl) (Nat.le_of_ble_eq_true rfl) ?_
  refine r_iload1 dX7_yard_0 ?_
  refine cpiS1 dX7_yard_1 os_X7_isYard rfl ml_X7_100 (Nat.zero_le _) (Nat.zero_le _) (Nat.zero_le _) (ct_misYard _ _) ?_
  refine rn_if_eq 19 dX7_yard_4 rfl (fun c4 => ?_) (fun c4 => ?_)
  · refine rn_bipush (-2) dX7_yard_19 (by decide) ?_
    refine rn_iret dX7_yard_21 rfl (Nat.zero_le _) (Nat.zero_le _) ?_
    refine ⟨_, rfl, rfl, rfl, Off.refl, ?_⟩
    unfold yardQ
    rw [if_neg (fun z => bI_0.mp c4 z.1)]
  · refine r_iload2 dX7_yard_7 ?_
    refine rn_i2l dX7_yard_8 ?_
    refine rn_lconst (0) dX7_yard_9 (by decide) ?_
    refine rn_ldc2 (v := _) dX7_yard_10 cl_X7_104 ?_
    refine cpiS3 dX7_yard_13 os_X7_in rfl ml_X7_96 (Nat.zero_le _) (Nat.zero_le _) (Nat.zero_le _) (ct_inI _ (a := 0) (b := 3) (by decide) (by decide)) ?_
    refine rn_if_ne 22 dX7_yard_16 rfl (fun c16 => ?_) (fun c16 => ?_)
    · have hq1 := bI_1.mp (bI_or.resolve_left c4)
      have hq2 := bI_1.mp (bI_or.resolve_left c16)
      rcases cw3 hq2 with rfl | rfl | rfl | rfl
      · refine r_iload2 dX7_yard_22 ?_
        refine rn_iconst (2) dX7_yard_23 (by decide) ?_
        refine rn_icmp_ge 47 dX7_yard_24 rfl (fun h => absurd h (by decide)) (fun _ => ?_)
        refine r_iload2 dX7_yard_27 ?_
        refine rn_if_ne 40 dX7_yard_28 rfl (fun h => absurd (by decide) h) (fun _ => ?_)
        refine r_aload0 dX7_yard_31 ?_
        refine gf_X7_23 dX7_yard_32 rfl hM.1 (sm_grounds hM).1 ?_
        refine r_iload1 dX7_yard_35 ?_
        refine rn_iald y.toNatClampNeg dX7_yard_36 (sm_grounds hM).2 (nB 23 (by decide) hq1).1 (nB_lt 23 (by decide) hq1 (by decide)) (by decide) ?_
        refine rn_eqi (ρ 0 y.toNatClampNeg) (hR.1 _ (nB_lt 23 (by decide) hq1 (by decide))).1 ?_
        refine rn_goto 46 dX7_yard_37 rfl ?_
        refine rn_iret dX7_yard_46 rfl (Nat.zero_le _) (Nat.zero_le _) ?_
        refine ⟨_, rfl, rfl, rfl, Off.refl, ?_⟩
        unfold yardQ
        rw [if_pos ⟨hq1, hq2⟩, show (0 : Int32).toNatClampNeg = 0 from by decide]
        rfl
      · refine r_iload2 dX7_yard_22 ?_
        refine rn_iconst (2) dX7_yard_23 (by decide) ?_
        refine rn_icmp_ge 47 dX7_yard_24 rfl (fun h => absurd h (by decide)) (fun _ => ?_)
        refine r_iload2 dX7_yard_27 ?_
        refine rn_if_ne 40 dX7_yard_28 rfl (fun _ => ?_) (fun h => absurd h (by decide))
        refine r_aload0 dX7_yard_40 ?_
        refine gf_X7_26 dX7_yard_41 rfl hM.1 (sm_known hM).1 ?_
        refine r_iload1 dX7_yard_44 ?_
        refine rn_iald y.toNatClampNeg dX7_yard_45 (sm_known hM).2 (nB 23 (by decide) hq1).1 (nB_lt 23 (by decide) hq1 (by decide)) (by decide) ?_
        refine rn_eqi (ρ 1 y.toNatClampNeg) (hR.1 _ (nB_lt 23 (by decide) hq1 (by decide))).2 ?_
        refine rn_iret dX7_yard_46 rfl (Nat.zero_le _) (Nat.zero_le _) ?_
        refine ⟨_, rfl, rfl, rfl, Off.refl, ?_⟩
        unfold yardQ
        rw [if_pos ⟨hq1, hq2⟩, show (1 : Int32).toNatClampNeg = 1 from by decide]
        rfl
      · refine r_iload2 dX7_yard_22 ?_
        refine rn_iconst (2) dX7_yard_23 (by decide) ?_
        refine rn_icmp_ge 47 dX7_yard_24 rfl (fun _ => ?_) (fun h => absurd (by decide) h)
        refine r_iload2 dX7_yard_47 ?_
        refine rn_iconst (2) dX7_yard_48 (by decide) ?_
        refine rn_icmp_ne 60 dX7_yard_49 rfl (fun h => absurd (by decide) h) (fun _ => ?_)
        refine r_aload0 dX7_yard_52 ?_
        refine r_iload1 dX7_yard_53 ?_
        refine cpiV1 dX7_yard_54 ov_X7_whose rfl ml_X7_106 hM.1 rfl (Nat.zero_le _) (Nat.zero_le _) (Nat.zero_le _) (ct_whose _ hM _) ?_
        refine rn_eqi _ hR.whose ?_
        refine rn_goto 66 dX7_yard_57 rfl ?_
        refine rn_iret dX7_yard_66 rfl (Nat.zero_le _) (Nat.zero_le _) ?_
        refine ⟨_, rfl, rfl, rfl, Off.refl, ?_⟩
        unfold yardQ
        rw [if_pos ⟨hq1, hq2⟩, show (2 : Int32).toNatClampNeg = 2 from by decide]
        rfl
      · refine r_iload2 dX7_yard_22 ?_
        refine rn_iconst (2) dX7_yard_23 (by decide) ?_
        refine rn_icmp_ge 47 dX7_yard_24 rfl (fun _ => ?_) (fun h => absurd (by decide) h)
        refine r_iload2 dX7_yard_47 ?_
        refine rn_iconst (2) dX7_yard_48 (by decide) ?_
        refine rn_icmp_ne 60 dX7_yard_49 rfl (fun _ => ?_) (fun h => absurd h (by decide))
        refine r_aload0 dX7_yard_60 ?_
        refine r_iload1 dX7_yard_61 ?_
        refine rn_iconst (0) dX7_yard_62 (by decide) ?_
        refine cliV2 dX7_yard_63 ov_X7_needs rfl ml_X7_110 hM.1 rfl (Nat.zero_le _) (Nat.zero_le _) (Nat.zero_le _) (ct_needs (γ := 0) D hM hR hX hT6 ht htT (nB 23 (by decide) hq1).1 (nB_lt 23 (by decide) hq1 (by decide)) (by decide) (by decide)) (fun x63 iv lv h63 => ?_)
        refine rn_iret dX7_yard_66 rfl (Nat.zero_le _) (Nat.zero_le _) ?_
        refine ⟨_, rfl, rfl, rfl, h63.1, ?_⟩
        unfold yardQ
        rw [if_pos ⟨hq1, hq2⟩, show (3 : Int32).toNatClampNeg = 3 from by decide]
        exact h63.2
    · refine rn_bipush (-2) dX7_yard_19 (by decide) ?_
      refine rn_iret dX7_yard_21 rfl (Nat.zero_le _) (Nat.zero_le _) ?_
      refine ⟨_, rfl, rfl, rfl, Off.refl, ?_⟩
      unfold yardQ
      rw [if_neg (fun z => bI_0.mp c16 z.2)]
set_option maxRecDepth 4000 in
theorem ct_mgang (D : Nat) (hM : ShM Γ rv) {ρ : IV} (hR : RM iv ρ) (G k n : Int32) : Ct g l mX7_gang (D + 2) 0 0 [.ref 75, .int G, .int k, .int n] Γ iv rv lv (qCI Γ rv lv (fun x iv' => x = (gangQ ρ G k n).1 ∧ RM iv' (gangQ ρ G k n).2 ∧ Off Rr iv iv')) := by
  refine Ct.of (by decide +kernel) (Nat.le_of_ble_eq_true rfl) (Nat.le_of_ble_eq_true rfl) ?_
  refine r_iload1 dX7_gang_0 ?_
  refine cpiS1 dX7_gang_1 os_X7_isGang rfl ml_X7_114 (Nat.zero_le _) (Nat.zero_le _) (Nat.zero_le _) (ct_misGang _ _) ?_
  refine rn_if_eq 31 dX7_gang_4 rfl (fun c4 => ?_) (fun c4 => ?_)
  · refine rn_bipush (-2) dX7_gang_31 (by decide) ?_
    refine rn_iret dX7_gang_33 rfl (Nat.zero_le _) (Nat.zero_le _) ?_
    have e : gangQ ρ G k n = (-2, ρ) := by unfold gangQ; rw [if_neg (fun z => bI_0.mp c4 z.1)]
    exact ⟨_, rfl, rfl, rfl, rfl, by rw [e], by rw [e]; exact hR, Off.refl⟩
  · refine r_iload2 dX7_gang_7 ?_
    refine rn_i2l dX7_gang_8 ?_
    refine rn_lconst (0) dX7_gang_9 (by decide) ?_
    refine rn_ldc2 (v := _) dX7_gang_10 cl_X7_117 ?_
    refine cpiS3 dX7_gang_13 os_X7_in rfl ml_X7_96 (Nat.zero_le _) (Nat.zero_le _) (Nat.zero_le _) (ct_inI _ (a := 0) (b := 5) (by decide) (by decide)) ?_
    refine rn_if_eq 31 dX7_gang_16 rfl (fun c16 => ?_) (fun c16 => ?_)
    · refine rn_bipush (-2) dX7_gang_31 (by decide) ?_
      refine rn_iret dX7_gang_33 rfl (Nat.zero_le _) (Nat.zero_le _) ?_
      have e : gangQ ρ G k n = (-2, ρ) := by unfold gangQ; rw [if_neg (fun z => bI_0.mp c16 z.2.1)]
      exact ⟨_, rfl, rfl, rfl, rfl, by rw [e], by rw [e]; exact hR, Off.refl⟩
    · refine r_iload3 dX7_gang_19 ?_
      refine rn_i2l dX7_gang_20 ?_
      refine rn_lconst (0) dX7_gang_21 (by decide) ?_
      refine rn_ldc2 (v := _) dX7_gang_22 cl_X7_119 ?_
      refine cpiS3 dX7_gang_25 os_X7_in rfl ml_X7_96 (Nat.zero_le _) (Nat.zero_le _) (Nat.zero_le _) (ct_inI _ (a := 0) (b := 9) (by decide) (by decide)) ?_
      refine rn_if_ne 34 dX7_gang_28 rfl (fun c28 => ?_) (fun c28 => ?_)
      · have hq1 := bI_1.mp (bI_or.resolve_left c4)
        have hq2 := bI_1.mp (bI_or.resolve_left c16)
        have hq3 := bI_1.mp (bI_or.resolve_left c28)
        refine r_aload0 dX7_gang_34 ?_
        refine gf_X7_29 dX7_gang_35 rfl hM.1 (sm_kinds hM).1 ?_
        refine r_iload1 dX7_gang_38 ?_
        refine rn_iald G.toNatClampNeg dX7_gang_39 (sm_kinds hM).2 (g01 hq1).1 (g01 hq1).2 (by decide) ?_
        refine rn_eqi (ρ (2 + G.toNatClampNeg) 1) (hR.gang 1 (by decide) (by decide) (g01 hq1).2) ?_
        refine r_istore4 dX7_gang_40 rfl ?_
        refine r_aload0 dX7_gang_42 ?_
        refine gf_X7_29 dX7_gang_43 rfl hM.1 (sm_kinds hM).1 ?_
        refine r_iload1 dX7_gang_46 ?_
        refine r_iload2 dX7_gang_47 ?_
        refine rn_iast G.toNatClampNeg dX7_gang_48 (sm_kinds hM).2 (g01 hq1).1 (g01 hq1).2 (by decide) ?_
        refine r_aload0 dX7_gang_49 ?_
        refine gf_X7_32 dX7_gang_50 rfl hM.1 (sm_numbers hM).1 ?_
        refine r_iload1 dX7_gang_53 ?_
        refine r_iload3 dX7_gang_54 ?_
        refine rn_iast G.toNatClampNeg dX7_gang_55 (sm_numbers hM).2 (g01 hq1).1 (g01 hq1).2 (by decide) ?_
        refine r_iload4 dX7_gang_56 ?_
        refine rn_iret dX7_gang_58 rfl (Nat.zero_le _) (Nat.zero_le _) ?_
        have e : gangQ ρ G k n = (ρ (2 + G.toNatClampNeg) 1, up (up ρ (2 + G.toNatClampNeg) 1 k) (2 + G.toNatClampNeg) 2 n) := by unfold gangQ; rw [if_pos ⟨hq1, hq2, hq3⟩]
        exact ⟨_, rfl, rfl, rfl, rfl, by rw [e], by rw [e]; exact (hR.upg 1 (by decide) (by decide) (g01 hq1).2).upg 2 (by decide) (by decide) (g01 hq1).2, (off_up (by omega)).trans (off_up (by omega))⟩
      · refine rn_bipush (-2) dX7_gang_31 (by decide) ?_
        refine rn_iret dX7_gang_33 rfl (Nat.zero_le _) (Nat.zero_le _) ?_
        have e : gangQ ρ G k n = (-2, ρ) := by unfold gangQ; rw [if_neg (fun z => bI_0.mp c28 z.2.2)]
        exact ⟨_, rfl, rfl, rfl, rfl, by rw [e], by rw [e]; exact hR, Off.refl⟩
set_option maxRecDepth 4000 in
theorem ct_mset (D : Nat) (hM : ShM Γ rv) {ρ : IV} (hR : RM iv ρ) (w v : Int32) : Ct g l mX7_set (D + 1) 0 0 [.ref 75, .int w, .int v] Γ iv rv lv (qCI Γ rv lv (fun x iv' => x = (setQ ρ w v).1 ∧ RM iv' (setQ ρ w v).2 ∧ Off Rr iv iv')) := by
  refine Ct.of (by decide +kernel) (Nat.le_of_ble_eq_true rfl) (Nat.le_of_ble_eq_true rfl) ?_
  refine r_iload1 dX7_set_0 ?_
  refine rn_i2l dX7_set_1 ?_
  refine rn_lconst (0) dX7_set_2 (by decide) ?_
  refine rn_ldc2 (v := _) dX7_set_3 cl_X7_121 ?_
  refine cpiS3 dX7_set_6 os_X7_in rfl ml_X7_96 (Nat.zero_le _) (Nat.zero_le _) (Nat.zero_le _) (ct_inI _ (a := 0) (b := 4) (by decide) (by decide)) ?_
  refine rn_if_eq 55 dX7_set_9 rfl (fun c9 => ?_) (fun c9 => ?_)
  · refine rn_bipush (-2) dX7_set_55 (by decide) ?_
    refine rn_iret dX7_set_57 rfl (Nat.zero_le _) (Nat.zero_le _) ?_
    have e : setQ ρ w v = (-2, ρ) := by unfold setQ; rw [if_neg (fun z => bI_0.mp c9 z.1)]
    exact ⟨_, rfl, rfl, rfl, rfl, by rw [e], by rw [e]; exact hR, Off.refl⟩
  · have hq1 := bI_1.mp (bI_or.resolve_left c9)
    rcases cw4 hq1 with rfl | rfl | rfl | rfl | rfl
    · refine r_iload2 dX7_set_12 ?_
      refine rn_i2l dX7_set_13 ?_
      refine r_iload1 dX7_set_14 ?_
      refine rn_iconst (2) dX7_set_15 (by decide) ?_
      refine rn_icmp_ge 23 dX7_set_16 rfl (fun h => absurd h (by decide)) (fun _ => ?_)
      refine rn_lconst (1) dX7_set_19 (by decide) ?_
      refine rn_goto 24 dX7_set_20 rfl ?_
      refine r_iload1 dX7_set_24 ?_
      refine rn_iconst (2) dX7_set_25 (by decide) ?_
      refine rn_icmp_ge 35 dX7_set_26 rfl (fun h => absurd h (by decide)) (fun _ => ?_)
      refine rn_ldc2 (v := _) dX7_set_29 cl_X7_123 ?_
      refine rn_goto 49 dX7_set_32 rfl ?_
      refine cpiS3 dX7_set_49 os_X7_in rfl ml_X7_96 (Nat.zero_le _) (Nat.zero_le _) (Nat.zero_le _) (ct_inI _ (a := 1) (b := 30) (by decide) (by decide)) ?_
      refine rn_if_ne 58 dX7_set_52 rfl (fun c52 => ?_) (fun c52 => ?_)
      · have hq2 := bI_1.mp (bI_or.resolve_left c52)
        refine r_iload1 dX7_set_58 ?_
        refine rn_iconst (2) dX7_set_59 (by decide) ?_
        refine rn_icmp_ge 72 dX7_set_60 rfl (fun h => absurd h (by decide)) (fun _ => ?_)
        refine r_aload0 dX7_set_63 ?_
        refine gf_X7_35 dX7_set_64 rfl hM.1 (sm_men hM).1 ?_
        refine r_iload1 dX7_set_67 ?_
        refine rn_iald 0 dX7_set_68 (sm_men hM).2 (by decide) (by decide) (by decide) ?_
        refine rn_goto 100 dX7_set_69 rfl ?_
        refine rn_eqi (ρ 2 3) (hR.gang 3 (γ := 0) (by decide) (by decide) (by decide)) ?_
        refine r_istore3 dX7_set_100 rfl ?_
        refine r_iload1 dX7_set_101 ?_
        refine rn_iconst (2) dX7_set_102 (by decide) ?_
        refine rn_icmp_ge 116 dX7_set_103 rfl (fun h => absurd h (by decide)) (fun _ => ?_)
        refine r_aload0 dX7_set_106 ?_
        refine gf_X7_35 dX7_set_107 rfl hM.1 (sm_men hM).1 ?_
        refine r_iload1 dX7_set_110 ?_
        refine r_iload2 dX7_set_111 ?_
        refine rn_iast 0 dX7_set_112 (sm_men hM).2 (by decide) (by decide) (by decide) ?_
        refine rn_goto 147 dX7_set_113 rfl ?_
        refine r_iload3 dX7_set_147 ?_
        refine rn_iret dX7_set_148 rfl (Nat.zero_le _) (Nat.zero_le _) ?_
        have e : setQ ρ 0 v = setN ρ v 0 := by unfold setQ; rw [show (0 : Int32).toNatClampNeg = 0 from by decide, if_pos ⟨hq1, hq2⟩]
        exact ⟨_, rfl, rfl, rfl, rfl, by rw [e]; rfl, by rw [e]; exact hR.upg 3 (γ := 0) (by decide) (by decide) (by decide), off_up (by decide)⟩
      · refine rn_bipush (-2) dX7_set_55 (by decide) ?_
        refine rn_iret dX7_set_57 rfl (Nat.zero_le _) (Nat.zero_le _) ?_
        have e : setQ ρ 0 v = (-2, ρ) := by unfold setQ; rw [show (0 : Int32).toNatClampNeg = 0 from by decide, if_neg (fun z => bI_0.mp c52 z.2)]
        exact ⟨_, rfl, rfl, rfl, rfl, by rw [e], by rw [e]; exact hR, Off.refl⟩
    · refine r_iload2 dX7_set_12 ?_
      refine rn_i2l dX7_set_13 ?_
      refine r_iload1 dX7_set_14 ?_
      refine rn_iconst (2) dX7_set_15 (by decide) ?_
      refine rn_icmp_ge 23 dX7_set_16 rfl (fun h => absurd h (by decide)) (fun _ => ?_)
      refine rn_lconst (1) dX7_set_19 (by decide) ?_
      refine rn_goto 24 dX7_set_20 rfl ?_
      refine r_iload1 dX7_set_24 ?_
      refine rn_iconst (2) dX7_set_25 (by decide) ?_
      refine rn_icmp_ge 35 dX7_set_26 rfl (fun h => absurd h (by decide)) (fun _ => ?_)
      refine rn_ldc2 (v := _) dX7_set_29 cl_X7_123 ?_
      refine rn_goto 49 dX7_set_32 rfl ?_
      refine cpiS3 dX7_set_49 os_X7_in rfl ml_X7_96 (Nat.zero_le _) (Nat.zero_le _) (Nat.zero_le _) (ct_inI _ (a := 1) (b := 30) (by decide) (by decide)) ?_
      refine rn_if_ne 58 dX7_set_52 rfl (fun c52 => ?_) (fun c52 => ?_)
      · have hq2 := bI_1.mp (bI_or.resolve_left c52)
        refine r_iload1 dX7_set_58 ?_
        refine rn_iconst (2) dX7_set_59 (by decide) ?_
        refine rn_icmp_ge 72 dX7_set_60 rfl (fun h => absurd h (by decide)) (fun _ => ?_)
        refine r_aload0 dX7_set_63 ?_
        refine gf_X7_35 dX7_set_64 rfl hM.1 (sm_men hM).1 ?_
        refine r_iload1 dX7_set_67 ?_
        refine rn_iald 1 dX7_set_68 (sm_men hM).2 (by decide) (by decide) (by decide) ?_
        refine rn_goto 100 dX7_set_69 rfl ?_
        refine rn_eqi (ρ 3 3) (hR.gang 3 (γ := 1) (by decide) (by decide) (by decide)) ?_
        refine r_istore3 dX7_set_100 rfl ?_
        refine r_iload1 dX7_set_101 ?_
        refine rn_iconst (2) dX7_set_102 (by decide) ?_
        refine rn_icmp_ge 116 dX7_set_103 rfl (fun h => absurd h (by decide)) (fun _ => ?_)
        refine r_aload0 dX7_set_106 ?_
        refine gf_X7_35 dX7_set_107 rfl hM.1 (sm_men hM).1 ?_
        refine r_iload1 dX7_set_110 ?_
        refine r_iload2 dX7_set_111 ?_
        refine rn_iast 1 dX7_set_112 (sm_men hM).2 (by decide) (by decide) (by decide) ?_
        refine rn_goto 147 dX7_set_113 rfl ?_
        refine r_iload3 dX7_set_147 ?_
        refine rn_iret dX7_set_148 rfl (Nat.zero_le _) (Nat.zero_le _) ?_
        have e : setQ ρ 1 v = setN ρ v 1 := by unfold setQ; rw [show (1 : Int32).toNatClampNeg = 1 from by decide, if_pos ⟨hq1, hq2⟩]
        exact ⟨_, rfl, rfl, rfl, rfl, by rw [e]; rfl, by rw [e]; exact hR.upg 3 (γ := 1) (by decide) (by decide) (by decide), off_up (by decide)⟩
      · refine rn_bipush (-2) dX7_set_55 (by decide) ?_
        refine rn_iret dX7_set_57 rfl (Nat.zero_le _) (Nat.zero_le _) ?_
        have e : setQ ρ 1 v = (-2, ρ) := by unfold setQ; rw [show (1 : Int32).toNatClampNeg = 1 from by decide, if_neg (fun z => bI_0.mp c52 z.2)]
        exact ⟨_, rfl, rfl, rfl, rfl, by rw [e], by rw [e]; exact hR, Off.refl⟩
    · refine r_iload2 dX7_set_12 ?_
      refine rn_i2l dX7_set_13 ?_
      refine r_iload1 dX7_set_14 ?_
      refine rn_iconst (2) dX7_set_15 (by decide) ?_
      refine rn_icmp_ge 23 dX7_set_16 rfl (fun _ => ?_) (fun h => absurd (by decide) h)
      refine rn_lconst (0) dX7_set_23 (by decide) ?_
      refine r_iload1 dX7_set_24 ?_
      refine rn_iconst (2) dX7_set_25 (by decide) ?_
      refine rn_icmp_ge 35 dX7_set_26 rfl (fun _ => ?_) (fun h => absurd (by decide) h)
      refine r_iload1 dX7_set_35 ?_
      refine rn_iconst (4) dX7_set_36 (by decide) ?_
      refine rn_icmp_ne 46 dX7_set_37 rfl (fun _ => ?_) (fun h => absurd h (by decide))
      refine rn_ldc2 (v := _) dX7_set_46 cl_X7_127 ?_
      refine cpiS3 dX7_set_49 os_X7_in rfl ml_X7_96 (Nat.zero_le _) (Nat.zero_le _) (Nat.zero_le _) (ct_inI _ (a := 0) (b := 999) (by decide) (by decide)) ?_
      refine rn_if_ne 58 dX7_set_52 rfl (fun c52 => ?_) (fun c52 => ?_)
      · have hq2 := bI_1.mp (bI_or.resolve_left c52)
        refine r_iload1 dX7_set_58 ?_
        refine rn_iconst (2) dX7_set_59 (by decide) ?_
        refine rn_icmp_ge 72 dX7_set_60 rfl (fun _ => ?_) (fun h => absurd (by decide) h)
        refine r_iload1 dX7_set_72 ?_
        refine rn_iconst (2) dX7_set_73 (by decide) ?_
        refine rn_icmp_ne 84 dX7_set_74 rfl (fun h => absurd (by decide) h) (fun _ => ?_)
        refine r_aload0 dX7_set_77 ?_
        refine gf_X7_50 dX7_set_78 rfl hM.1 ?_
        refine rn_goto 100 dX7_set_81 rfl ?_
        refine rn_eqi (ρ 4 5) (hR.2.2.1 5 (by decide) (by decide)) ?_
        refine r_istore3 dX7_set_100 rfl ?_
        refine r_iload1 dX7_set_101 ?_
        refine rn_iconst (2) dX7_set_102 (by decide) ?_
        refine rn_icmp_ge 116 dX7_set_103 rfl (fun _ => ?_) (fun h => absurd (by decide) h)
        refine r_iload1 dX7_set_116 ?_
        refine rn_iconst (2) dX7_set_117 (by decide) ?_
        refine rn_icmp_ne 129 dX7_set_118 rfl (fun h => absurd (by decide) h) (fun _ => ?_)
        refine r_aload0 dX7_set_121 ?_
        refine r_iload2 dX7_set_122 ?_
        refine pf_X7_50 dX7_set_123 rfl hM.1 ?_
        refine rn_goto 147 dX7_set_126 rfl ?_
        refine r_iload3 dX7_set_147 ?_
        refine rn_iret dX7_set_148 rfl (Nat.zero_le _) (Nat.zero_le _) ?_
        have e : setQ ρ 2 v = setN ρ v 2 := by unfold setQ; rw [show (2 : Int32).toNatClampNeg = 2 from by decide, if_pos ⟨hq1, hq2⟩]
        exact ⟨_, rfl, rfl, rfl, rfl, by rw [e]; rfl, by rw [e]; exact hR.ups 5 (by decide) (by decide), off_up (by decide)⟩
      · refine rn_bipush (-2) dX7_set_55 (by decide) ?_
        refine rn_iret dX7_set_57 rfl (Nat.zero_le _) (Nat.zero_le _) ?_
        have e : setQ ρ 2 v = (-2, ρ) := by unfold setQ; rw [show (2 : Int32).toNatClampNeg = 2 from by decide, if_neg (fun z => bI_0.mp c52 z.2)]
        exact ⟨_, rfl, rfl, rfl, rfl, by rw [e], by rw [e]; exact hR, Off.refl⟩
    · refine r_iload2 dX7_set_12 ?_
      refine rn_i2l dX7_set_13 ?_
      refine r_iload1 dX7_set_14 ?_
      refine rn_iconst (2) dX7_set_15 (by decide) ?_
      refine rn_icmp_ge 23 dX7_set_16 rfl (fun _ => ?_) (fun h => absurd (by decide) h)
      refine rn_lconst (0) dX7_set_23 (by decide) ?_
      refine r_iload1 dX7_set_24 ?_
      refine rn_iconst (2) dX7_set_25 (by decide) ?_
      refine rn_icmp_ge 35 dX7_set_26 rfl (fun _ => ?_) (fun h => absurd (by decide) h)
      refine r_iload1 dX7_set_35 ?_
      refine rn_iconst (4) dX7_set_36 (by decide) ?_
      refine rn_icmp_ne 46 dX7_set_37 rfl (fun _ => ?_) (fun h => absurd h (by decide))
      refine rn_ldc2 (v := _) dX7_set_46 cl_X7_127 ?_
      refine cpiS3 dX7_set_49 os_X7_in rfl ml_X7_96 (Nat.zero_le _) (Nat.zero_le _) (Nat.zero_le _) (ct_inI _ (a := 0) (b := 999) (by decide) (by decide)) ?_
      refine rn_if_ne 58 dX7_set_52 rfl (fun c52 => ?_) (fun c52 => ?_)
      · have hq2 := bI_1.mp (bI_or.resolve_left c52)
        refine r_iload1 dX7_set_58 ?_
        refine rn_iconst (2) dX7_set_59 (by decide) ?_
        refine rn_icmp_ge 72 dX7_set_60 rfl (fun _ => ?_) (fun h => absurd (by decide) h)
        refine r_iload1 dX7_set_72 ?_
        refine rn_iconst (2) dX7_set_73 (by decide) ?_
        refine rn_icmp_ne 84 dX7_set_74 rfl (fun _ => ?_) (fun h => absurd h (by decide))
        refine r_iload1 dX7_set_84 ?_
        refine rn_iconst (3) dX7_set_85 (by decide) ?_
        refine rn_icmp_ne 96 dX7_set_86 rfl (fun h => absurd (by decide) h) (fun _ => ?_)
        refine r_aload0 dX7_set_89 ?_
        refine gf_X7_129 dX7_set_90 rfl hM.1 ?_
        refine rn_goto 100 dX7_set_93 rfl ?_
        refine rn_eqi (ρ 4 6) (hR.2.2.1 6 (by decide) (by decide)) ?_
        refine r_istore3 dX7_set_100 rfl ?_
        refine r_iload1 dX7_set_101 ?_
        refine rn_iconst (2) dX7_set_102 (by decide) ?_
        refine rn_icmp_ge 116 dX7_set_103 rfl (fun _ => ?_) (fun h => absurd (by decide) h)
        refine r_iload1 dX7_set_116 ?_
        refine rn_iconst (2) dX7_set_117 (by decide) ?_
        refine rn_icmp_ne 129 dX7_set_118 rfl (fun _ => ?_) (fun h => absurd h (by decide))
        refine r_iload1 dX7_set_129 ?_
        refine rn_iconst (3) dX7_set_130 (by decide) ?_
        refine rn_icmp_ne 142 dX7_set_131 rfl (fun h => absurd (by decide) h) (fun _ => ?_)
        refine r_aload0 dX7_set_134 ?_
        refine r_iload2 dX7_set_135 ?_
        refine pf_X7_129 dX7_set_136 rfl hM.1 ?_
        refine rn_goto 147 dX7_set_139 rfl ?_
        refine r_iload3 dX7_set_147 ?_
        refine rn_iret dX7_set_148 rfl (Nat.zero_le _) (Nat.zero_le _) ?_
        have e : setQ ρ 3 v = setN ρ v 3 := by unfold setQ; rw [show (3 : Int32).toNatClampNeg = 3 from by decide, if_pos ⟨hq1, hq2⟩]
        exact ⟨_, rfl, rfl, rfl, rfl, by rw [e]; rfl, by rw [e]; exact hR.ups 6 (by decide) (by decide), off_up (by decide)⟩
      · refine rn_bipush (-2) dX7_set_55 (by decide) ?_
        refine rn_iret dX7_set_57 rfl (Nat.zero_le _) (Nat.zero_le _) ?_
        have e : setQ ρ 3 v = (-2, ρ) := by unfold setQ; rw [show (3 : Int32).toNatClampNeg = 3 from by decide, if_neg (fun z => bI_0.mp c52 z.2)]
        exact ⟨_, rfl, rfl, rfl, rfl, by rw [e], by rw [e]; exact hR, Off.refl⟩
    · refine r_iload2 dX7_set_12 ?_
      refine rn_i2l dX7_set_13 ?_
      refine r_iload1 dX7_set_14 ?_
      refine rn_iconst (2) dX7_set_15 (by decide) ?_
      refine rn_icmp_ge 23 dX7_set_16 rfl (fun _ => ?_) (fun h => absurd (by decide) h)
      refine rn_lconst (0) dX7_set_23 (by decide) ?_
      refine r_iload1 dX7_set_24 ?_
      refine rn_iconst (2) dX7_set_25 (by decide) ?_
      refine rn_icmp_ge 35 dX7_set_26 rfl (fun _ => ?_) (fun h => absurd (by decide) h)
      refine r_iload1 dX7_set_35 ?_
      refine rn_iconst (4) dX7_set_36 (by decide) ?_
      refine rn_icmp_ne 46 dX7_set_37 rfl (fun h => absurd (by decide) h) (fun _ => ?_)
      refine rn_ldc2 (v := _) dX7_set_40 cl_X7_125 ?_
      refine rn_goto 49 dX7_set_43 rfl ?_
      refine cpiS3 dX7_set_49 os_X7_in rfl ml_X7_96 (Nat.zero_le _) (Nat.zero_le _) (Nat.zero_le _) (ct_inI _ (a := 0) (b := 99) (by decide) (by decide)) ?_
      refine rn_if_ne 58 dX7_set_52 rfl (fun c52 => ?_) (fun c52 => ?_)
      · have hq2 := bI_1.mp (bI_or.resolve_left c52)
        refine r_iload1 dX7_set_58 ?_
        refine rn_iconst (2) dX7_set_59 (by decide) ?_
        refine rn_icmp_ge 72 dX7_set_60 rfl (fun _ => ?_) (fun h => absurd (by decide) h)
        refine r_iload1 dX7_set_72 ?_
        refine rn_iconst (2) dX7_set_73 (by decide) ?_
        refine rn_icmp_ne 84 dX7_set_74 rfl (fun _ => ?_) (fun h => absurd h (by decide))
        refine r_iload1 dX7_set_84 ?_
        refine rn_iconst (3) dX7_set_85 (by decide) ?_
        refine rn_icmp_ne 96 dX7_set_86 rfl (fun _ => ?_) (fun h => absurd h (by decide))
        refine r_aload0 dX7_set_96 ?_
        refine gf_X7_53 dX7_set_97 rfl hM.1 ?_
        refine rn_eqi (ρ 4 7) (hR.2.2.1 7 (by decide) (by decide)) ?_
        refine r_istore3 dX7_set_100 rfl ?_
        refine r_iload1 dX7_set_101 ?_
        refine rn_iconst (2) dX7_set_102 (by decide) ?_
        refine rn_icmp_ge 116 dX7_set_103 rfl (fun _ => ?_) (fun h => absurd (by decide) h)
        refine r_iload1 dX7_set_116 ?_
        refine rn_iconst (2) dX7_set_117 (by decide) ?_
        refine rn_icmp_ne 129 dX7_set_118 rfl (fun _ => ?_) (fun h => absurd h (by decide))
        refine r_iload1 dX7_set_129 ?_
        refine rn_iconst (3) dX7_set_130 (by decide) ?_
        refine rn_icmp_ne 142 dX7_set_131 rfl (fun _ => ?_) (fun h => absurd h (by decide))
        refine r_aload0 dX7_set_142 ?_
        refine r_iload2 dX7_set_143 ?_
        refine pf_X7_53 dX7_set_144 rfl hM.1 ?_
        refine r_iload3 dX7_set_147 ?_
        refine rn_iret dX7_set_148 rfl (Nat.zero_le _) (Nat.zero_le _) ?_
        have e : setQ ρ 4 v = setN ρ v 4 := by unfold setQ; rw [show (4 : Int32).toNatClampNeg = 4 from by decide, if_pos ⟨hq1, hq2⟩]
        exact ⟨_, rfl, rfl, rfl, rfl, by rw [e]; rfl, by rw [e]; exact hR.ups 7 (by decide) (by decide), off_up (by decide)⟩
      · refine rn_bipush (-2) dX7_set_55 (by decide) ?_
        refine rn_iret dX7_set_57 rfl (Nat.zero_le _) (Nat.zero_le _) ?_
        have e : setQ ρ 4 v = (-2, ρ) := by unfold setQ; rw [show (4 : Int32).toNatClampNeg = 4 from by decide, if_neg (fun z => bI_0.mp c52 z.2)]
        exact ⟨_, rfl, rfl, rfl, rfl, by rw [e], by rw [e]; exact hR, Off.refl⟩
set_option maxRecDepth 4000 in
theorem ct_mtold (D : Nat) (hM : ShM Γ rv) {ρ : IV} {S : Nat → Nat → List Int32} {T : Nat} (hR : RM iv ρ) (hX : TextsM iv T S) (hT6 : T ≤ 6) {t : Nat} (ht : ρ 4 8 = nI t) (htT : t < T) (hg : GR ρ) (G w : Int32) : Ct g l mX7_told (D + 49) 0 0 [.ref 75, .int G, .int w] Γ iv rv lv (qLI Γ rv (fun x iv' _ => Off Sy iv iv' ∧ x = toldQ S ρ G w)) := by
  refine Ct.of (by decide +kernel) (Nat.le_of_ble_eq_true rfl) (Nat.le_of_ble_eq_true rfl) ?_
  refine r_iload1 dX7_told_0 ?_
  refine cpiS1 dX7_told_1 os_X7_isGang rfl ml_X7_114 (Nat.zero_le _) (Nat.zero_le _) (Nat.zero_le _) (ct_misGang _ _) ?_
  refine rn_if_eq 19 dX7_told_4 rfl (fun c4 => ?_) (fun c4 => ?_)
  · refine rn_bipush (-2) dX7_told_19 (by decide) ?_
    refine rn_iret dX7_told_21 rfl (Nat.zero_le _) (Nat.zero_le _) ?_
    refine ⟨_, rfl, rfl, rfl, Off.refl, ?_⟩
    unfold toldQ
    rw [if_neg (fun z => bI_0.mp c4 z.1)]
  · refine r_iload2 dX7_told_7 ?_
    refine rn_i2l dX7_told_8 ?_
    refine rn_lconst (0) dX7_told_9 (by decide) ?_
    refine rn_ldc2 (v := _) dX7_told_10 cl_X7_132 ?_
    refine cpiS3 dX7_told_13 os_X7_in rfl ml_X7_96 (Nat.zero_le _) (Nat.zero_le _) (Nat.zero_le _) (ct_inI _ (a := 0) (b := 8) (by decide) (by decide)) ?_
    refine rn_if_ne 22 dX7_told_16 rfl (fun c16 => ?_) (fun c16 => ?_)
    · have hq1 := bI_1.mp (bI_or.resolve_left c4)
      have hq2 := bI_1.mp (bI_or.resolve_left c16)
      rcases cw8 hq2 with rfl | rfl | rfl | rfl | rfl | rfl | rfl | rfl | rfl
      · refine r_iload2 dX7_told_22 ?_
        refine rn_iconst (4) dX7_told_23 (by decide) ?_
        refine rn_icmp_ge 75 dX7_told_24 rfl (fun h => absurd h (by decide)) (fun _ => ?_)
        refine r_iload2 dX7_told_27 ?_
        refine rn_if_ne 40 dX7_told_28 rfl (fun h => absurd (by decide) h) (fun _ => ?_)
        refine r_aload0 dX7_told_31 ?_
        refine gf_X7_29 dX7_told_32 rfl hM.1 (sm_kinds hM).1 ?_
        refine r_iload1 dX7_told_35 ?_
        refine rn_iald G.toNatClampNeg dX7_told_36 (sm_kinds hM).2 (g01 hq1).1 (g01 hq1).2 (by decide) ?_
        refine rn_eqi (ρ (2 + G.toNatClampNeg) 1) (hR.gang 1 (by decide) (by decide) (g01 hq1).2) ?_
        refine rn_goto 74 dX7_told_37 rfl ?_
        refine rn_iret dX7_told_74 rfl (Nat.zero_le _) (Nat.zero_le _) ?_
        refine ⟨_, rfl, rfl, rfl, Off.refl, ?_⟩
        unfold toldQ
        rw [if_pos ⟨hq1, hq2⟩, show (0 : Int32).toNatClampNeg = 0 from by decide]
        rfl
      · refine r_iload2 dX7_told_22 ?_
        refine rn_iconst (4) dX7_told_23 (by decide) ?_
        refine rn_icmp_ge 75 dX7_told_24 rfl (fun h => absurd h (by decide)) (fun _ => ?_)
        refine r_iload2 dX7_told_27 ?_
        refine rn_if_ne 40 dX7_told_28 rfl (fun _ => ?_) (fun h => absurd h (by decide))
        refine r_iload2 dX7_told_40 ?_
        refine rn_iconst (1) dX7_told_41 (by decide) ?_
        refine rn_icmp_ne 54 dX7_told_42 rfl (fun h => absurd (by decide) h) (fun _ => ?_)
        refine r_aload0 dX7_told_45 ?_
        refine gf_X7_32 dX7_told_46 rfl hM.1 (sm_numbers hM).1 ?_
        refine r_iload1 dX7_told_49 ?_
        refine rn_iald G.toNatClampNeg dX7_told_50 (sm_numbers hM).2 (g01 hq1).1 (g01 hq1).2 (by decide) ?_
        refine rn_eqi (ρ (2 + G.toNatClampNeg) 2) (hR.gang 2 (by decide) (by decide) (g01 hq1).2) ?_
        refine rn_goto 74 dX7_told_51 rfl ?_
        refine rn_iret dX7_told_74 rfl (Nat.zero_le _) (Nat.zero_le _) ?_
        refine ⟨_, rfl, rfl, rfl, Off.refl, ?_⟩
        unfold toldQ
        rw [if_pos ⟨hq1, hq2⟩, show (1 : Int32).toNatClampNeg = 1 from by decide]
        rfl
      · refine r_iload2 dX7_told_22 ?_
        refine rn_iconst (4) dX7_told_23 (by decide) ?_
        refine rn_icmp_ge 75 dX7_told_24 rfl (fun h => absurd h (by decide)) (fun _ => ?_)
        refine r_iload2 dX7_told_27 ?_
        refine rn_if_ne 40 dX7_told_28 rfl (fun _ => ?_) (fun h => absurd h (by decide))
        refine r_iload2 dX7_told_40 ?_
        refine rn_iconst (1) dX7_told_41 (by decide) ?_
        refine rn_icmp_ne 54 dX7_told_42 rfl (fun _ => ?_) (fun h => absurd h (by decide))
        refine r_iload2 dX7_told_54 ?_
        refine rn_iconst (2) dX7_told_55 (by decide) ?_
        refine rn_icmp_ne 68 dX7_told_56 rfl (fun h => absurd (by decide) h) (fun _ => ?_)
        refine r_aload0 dX7_told_59 ?_
        refine gf_X7_35 dX7_told_60 rfl hM.1 (sm_men hM).1 ?_
        refine r_iload1 dX7_told_63 ?_
        refine rn_iald G.toNatClampNeg dX7_told_64 (sm_men hM).2 (g01 hq1).1 (g01 hq1).2 (by decide) ?_
        refine rn_eqi (ρ (2 + G.toNatClampNeg) 3) (hR.gang 3 (by decide) (by decide) (g01 hq1).2) ?_
        refine rn_goto 74 dX7_told_65 rfl ?_
        refine rn_iret dX7_told_74 rfl (Nat.zero_le _) (Nat.zero_le _) ?_
        refine ⟨_, rfl, rfl, rfl, Off.refl, ?_⟩
        unfold toldQ
        rw [if_pos ⟨hq1, hq2⟩, show (2 : Int32).toNatClampNeg = 2 from by decide]
        rfl
      · refine r_iload2 dX7_told_22 ?_
        refine rn_iconst (4) dX7_told_23 (by decide) ?_
        refine rn_icmp_ge 75 dX7_told_24 rfl (fun h => absurd h (by decide)) (fun _ => ?_)
        refine r_iload2 dX7_told_27 ?_
        refine rn_if_ne 40 dX7_told_28 rfl (fun _ => ?_) (fun h => absurd h (by decide))
        refine r_iload2 dX7_told_40 ?_
        refine rn_iconst (1) dX7_told_41 (by decide) ?_
        refine rn_icmp_ne 54 dX7_told_42 rfl (fun _ => ?_) (fun h => absurd h (by decide))
        refine r_iload2 dX7_told_54 ?_
        refine rn_iconst (2) dX7_told_55 (by decide) ?_
        refine rn_icmp_ne 68 dX7_told_56 rfl (fun _ => ?_) (fun h => absurd h (by decide))
        refine r_aload0 dX7_told_68 ?_
        refine gf_X7_38 dX7_told_69 rfl hM.1 (sm_dones hM).1 ?_
        refine r_iload1 dX7_told_72 ?_
        refine rn_iald G.toNatClampNeg dX7_told_73 (sm_dones hM).2 (g01 hq1).1 (g01 hq1).2 (by decide) ?_
        refine rn_eqi (ρ (2 + G.toNatClampNeg) 4) (hR.gang 4 (by decide) (by decide) (g01 hq1).2) ?_
        refine rn_iret dX7_told_74 rfl (Nat.zero_le _) (Nat.zero_le _) ?_
        refine ⟨_, rfl, rfl, rfl, Off.refl, ?_⟩
        unfold toldQ
        rw [if_pos ⟨hq1, hq2⟩, show (3 : Int32).toNatClampNeg = 3 from by decide]
        rfl
      · refine r_iload2 dX7_told_22 ?_
        refine rn_iconst (4) dX7_told_23 (by decide) ?_
        refine rn_icmp_ge 75 dX7_told_24 rfl (fun _ => ?_) (fun h => absurd (by decide) h)
        refine r_iload2 dX7_told_75 ?_
        refine rn_bipush (7) dX7_told_76 (by decide) ?_
        refine rn_icmp_ge 116 dX7_told_78 rfl (fun h => absurd h (by decide)) (fun _ => ?_)
        refine r_iload2 dX7_told_81 ?_
        refine rn_iconst (4) dX7_told_82 (by decide) ?_
        refine rn_icmp_ne 95 dX7_told_83 rfl (fun h => absurd (by decide) h) (fun _ => ?_)
        refine r_aload0 dX7_told_86 ?_
        refine gf_X7_41 dX7_told_87 rfl hM.1 (sm_work hM).1 ?_
        refine r_iload1 dX7_told_90 ?_
        refine rn_iald G.toNatClampNeg dX7_told_91 (sm_work hM).2 (g01 hq1).1 (g01 hq1).2 (by decide) ?_
        refine rn_eqi (ρ (2 + G.toNatClampNeg) 5) (hR.gang 5 (by decide) (by decide) (g01 hq1).2) ?_
        refine rn_goto 115 dX7_told_92 rfl ?_
        refine rn_iret dX7_told_115 rfl (Nat.zero_le _) (Nat.zero_le _) ?_
        refine ⟨_, rfl, rfl, rfl, Off.refl, ?_⟩
        unfold toldQ
        rw [if_pos ⟨hq1, hq2⟩, show (4 : Int32).toNatClampNeg = 4 from by decide]
        rfl
      · refine r_iload2 dX7_told_22 ?_
        refine rn_iconst (4) dX7_told_23 (by decide) ?_
        refine rn_icmp_ge 75 dX7_told_24 rfl (fun _ => ?_) (fun h => absurd (by decide) h)
        refine r_iload2 dX7_told_75 ?_
        refine rn_bipush (7) dX7_told_76 (by decide) ?_
        refine rn_icmp_ge 116 dX7_told_78 rfl (fun h => absurd h (by decide)) (fun _ => ?_)
        refine r_iload2 dX7_told_81 ?_
        refine rn_iconst (4) dX7_told_82 (by decide) ?_
        refine rn_icmp_ne 95 dX7_told_83 rfl (fun _ => ?_) (fun h => absurd h (by decide))
        refine r_iload2 dX7_told_95 ?_
        refine rn_iconst (5) dX7_told_96 (by decide) ?_
        refine rn_icmp_ne 109 dX7_told_97 rfl (fun h => absurd (by decide) h) (fun _ => ?_)
        refine r_aload0 dX7_told_100 ?_
        refine gf_X7_44 dX7_told_101 rfl hM.1 (sm_earned hM).1 ?_
        refine r_iload1 dX7_told_104 ?_
        refine rn_iald G.toNatClampNeg dX7_told_105 (sm_earned hM).2 (g01 hq1).1 (g01 hq1).2 (by decide) ?_
        refine rn_eqi (ρ (2 + G.toNatClampNeg) 6) (hR.gang 6 (by decide) (by decide) (g01 hq1).2) ?_
        refine rn_goto 115 dX7_told_106 rfl ?_
        refine rn_iret dX7_told_115 rfl (Nat.zero_le _) (Nat.zero_le _) ?_
        refine ⟨_, rfl, rfl, rfl, Off.refl, ?_⟩
        unfold toldQ
        rw [if_pos ⟨hq1, hq2⟩, show (5 : Int32).toNatClampNeg = 5 from by decide]
        rfl
      · refine r_iload2 dX7_told_22 ?_
        refine rn_iconst (4) dX7_told_23 (by decide) ?_
        refine rn_icmp_ge 75 dX7_told_24 rfl (fun _ => ?_) (fun h => absurd (by decide) h)
        refine r_iload2 dX7_told_75 ?_
        refine rn_bipush (7) dX7_told_76 (by decide) ?_
        refine rn_icmp_ge 116 dX7_told_78 rfl (fun h => absurd h (by decide)) (fun _ => ?_)
        refine r_iload2 dX7_told_81 ?_
        refine rn_iconst (4) dX7_told_82 (by decide) ?_
        refine rn_icmp_ne 95 dX7_told_83 rfl (fun _ => ?_) (fun h => absurd h (by decide))
        refine r_iload2 dX7_told_95 ?_
        refine rn_iconst (5) dX7_told_96 (by decide) ?_
        refine rn_icmp_ne 109 dX7_told_97 rfl (fun _ => ?_) (fun h => absurd h (by decide))
        refine r_aload0 dX7_told_109 ?_
        refine gf_X7_47 dX7_told_110 rfl hM.1 (sm_spent hM).1 ?_
        refine r_iload1 dX7_told_113 ?_
        refine rn_iald G.toNatClampNeg dX7_told_114 (sm_spent hM).2 (g01 hq1).1 (g01 hq1).2 (by decide) ?_
        refine rn_eqi (ρ (2 + G.toNatClampNeg) 7) (hR.gang 7 (by decide) (by decide) (g01 hq1).2) ?_
        refine rn_iret dX7_told_115 rfl (Nat.zero_le _) (Nat.zero_le _) ?_
        refine ⟨_, rfl, rfl, rfl, Off.refl, ?_⟩
        unfold toldQ
        rw [if_pos ⟨hq1, hq2⟩, show (6 : Int32).toNatClampNeg = 6 from by decide]
        rfl
      · refine r_iload2 dX7_told_22 ?_
        refine rn_iconst (4) dX7_told_23 (by decide) ?_
        refine rn_icmp_ge 75 dX7_told_24 rfl (fun _ => ?_) (fun h => absurd (by decide) h)
        refine r_iload2 dX7_told_75 ?_
        refine rn_bipush (7) dX7_told_76 (by decide) ?_
        refine rn_icmp_ge 116 dX7_told_78 rfl (fun _ => ?_) (fun h => absurd (by decide) h)
        refine r_iload2 dX7_told_116 ?_
        refine rn_bipush (8) dX7_told_117 (by decide) ?_
        refine rn_icmp_ne 130 dX7_told_119 rfl (fun _ => ?_) (fun h => absurd h (by decide))
        refine r_aload0 dX7_told_130 ?_
        refine cpiV0 dX7_told_131 ov_X7_left rfl ml_X7_137 hM.1 rfl (Nat.zero_le _) (Nat.zero_le _) (Nat.zero_le _) (ct_left _ hM) ?_
        refine rn_eqi _ hR.left ?_
        refine rn_if_ne 141 dX7_told_134 rfl (fun c134 => ?_) (fun c134 => ?_)
        · have hlt := hlt_of hg c134
          refine r_aload0 dX7_told_141 ?_
          refine r_iload1 dX7_told_142 ?_
          refine cliV1 dX7_told_143 ov_X7_does rfl ml_X7_141 hM.1 rfl (Nat.zero_le _) (Nat.zero_le _) (Nat.zero_le _) (ct_mdoes D hM hR hX hT6 ht htT hg hlt (g01 hq1).1 (g01 hq1).2) (fun x143 iv lv h143 => ?_)
          refine rn_iret dX7_told_146 rfl (Nat.zero_le _) (Nat.zero_le _) ?_
          refine ⟨_, rfl, rfl, rfl, h143.1, ?_⟩
          unfold toldQ
          rw [if_pos ⟨hq1, hq2⟩, show (7 : Int32).toNatClampNeg = 7 from by decide]
          rw [told7, if_neg c134]
          exact h143.2
        · refine rn_iconst (0) dX7_told_137 (by decide) ?_
          refine rn_goto 146 dX7_told_138 rfl ?_
          refine rn_iret dX7_told_146 rfl (Nat.zero_le _) (Nat.zero_le _) ?_
          refine ⟨_, rfl, rfl, rfl, Off.refl, ?_⟩
          unfold toldQ
          rw [if_pos ⟨hq1, hq2⟩, show (7 : Int32).toNatClampNeg = 7 from by decide]
          rw [told7, if_pos c134]
      · refine r_iload2 dX7_told_22 ?_
        refine rn_iconst (4) dX7_told_23 (by decide) ?_
        refine rn_icmp_ge 75 dX7_told_24 rfl (fun _ => ?_) (fun h => absurd (by decide) h)
        refine r_iload2 dX7_told_75 ?_
        refine rn_bipush (7) dX7_told_76 (by decide) ?_
        refine rn_icmp_ge 116 dX7_told_78 rfl (fun _ => ?_) (fun h => absurd (by decide) h)
        refine r_iload2 dX7_told_116 ?_
        refine rn_bipush (8) dX7_told_117 (by decide) ?_
        refine rn_icmp_ne 130 dX7_told_119 rfl (fun h => absurd (by decide) h) (fun _ => ?_)
        refine r_aload0 dX7_told_122 ?_
        refine r_iload1 dX7_told_123 ?_
        refine cpiV1 dX7_told_124 ov_X7_costs rfl ml_X7_134 hM.1 rfl (Nat.zero_le _) (Nat.zero_le _) (Nat.zero_le _) (ct_mcosts _ hM hR hg (g01 hq1).1 (g01 hq1).2) ?_
        refine rn_goto 146 dX7_told_127 rfl ?_
        refine rn_iret dX7_told_146 rfl (Nat.zero_le _) (Nat.zero_le _) ?_
        refine ⟨_, rfl, rfl, rfl, Off.refl, ?_⟩
        unfold toldQ
        rw [if_pos ⟨hq1, hq2⟩, show (8 : Int32).toNatClampNeg = 8 from by decide]
        rfl
    · refine rn_bipush (-2) dX7_told_19 (by decide) ?_
      refine rn_iret dX7_told_21 rfl (Nat.zero_le _) (Nat.zero_le _) ?_
      refine ⟨_, rfl, rfl, rfl, Off.refl, ?_⟩
      unfold toldQ
      rw [if_neg (fun z => bI_0.mp c16 z.2)]
end MGROUND
