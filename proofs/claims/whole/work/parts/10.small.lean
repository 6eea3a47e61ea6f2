/-! SMALL METHODS: tests of ranges -/
def bI (p : Prop) [Decidable p] : Int32 := if p then 1 else 0
theorem bI_t {p : Prop} [Decidable p] (h : p) : bI p = 1 := if_pos h
theorem bI_f {p : Prop} [Decidable p] (h : ¬ p) : bI p = 0 := if_neg h
theorem bI_or {p : Prop} [Decidable p] : bI p = 0 ∨ bI p = 1 := by unfold bI; split <;> simp
theorem bI_0 {p : Prop} [Decidable p] : bI p = 0 ↔ ¬ p := by unfold bI; split <;> simp_all
theorem bI_1 {p : Prop} [Decidable p] : bI p = 1 ↔ p := by unfold bI; split <;> simp_all
theorem nar_bI {p : Prop} [Decidable p] : narrow .boolean (.int (bI p)) = .int (bI p) := by unfold bI; split <;> rfl
section SMALL
variable {g : GS} {l : Launch} {Γ : Sh} {iv : IV} {rv : RV} {lv : LV}
theorem ct_within (d : Nat) (v a b : Int32) : Ct g l mX6_within (d) 0 0 [.int v, .int a, .int b] Γ iv rv lv (qPI (bI (a ≤ v ∧ v ≤ b)) Γ iv rv lv) := by
  refine Ct.of (by decide +kernel) (Nat.le_of_ble_eq_true rfl) (Nat.le_of_ble_eq_true rfl) ?_
  refine r_iload1 dX6_within_0 ?_
  refine r_iload0 dX6_within_1 ?_
  refine rn_icmp_gt 14 dX6_within_2 rfl (fun c2 => ?_) (fun c2 => ?_)
  · refine rn_iconst (0) dX6_within_14 (by decide) ?_
    refine rn_zret dX6_within_15 rfl (by first | decide | exact nar_bI) (Nat.zero_le _) (Nat.zero_le _) ?_
    refine ⟨congrArg (fun z => some (Value.int z)) (bI_f (by simp only [Int32.lt_iff_toInt_lt, Int32.le_iff_toInt_le] at *; omega)).symm, rfl, rfl, rfl, rfl⟩
  · refine r_iload0 dX6_within_5 ?_
    refine r_iload2 dX6_within_6 ?_
    refine rn_icmp_gt 14 dX6_within_7 rfl (fun c7 => ?_) (fun c7 => ?_)
    · refine rn_iconst (0) dX6_within_14 (by decide) ?_
      refine rn_zret dX6_within_15 rfl (by first | decide | exact nar_bI) (Nat.zero_le _) (Nat.zero_le _) ?_
      refine ⟨congrArg (fun z => some (Value.int z)) (bI_f (by simp only [Int32.lt_iff_toInt_lt, Int32.le_iff_toInt_le] at *; omega)).symm, rfl, rfl, rfl, rfl⟩
    · refine rn_iconst (1) dX6_within_10 (by decide) ?_
      refine rn_goto 15 dX6_within_11 rfl ?_
      refine rn_zret dX6_within_15 rfl (by first | decide | exact nar_bI) (Nat.zero_le _) (Nat.zero_le _) ?_
      refine ⟨congrArg (fun z => some (Value.int z)) (bI_t (by simp only [Int32.lt_iff_toInt_lt, Int32.le_iff_toInt_le] at *; omega)).symm, rfl, rfl, rfl, rfl⟩
theorem ct_isYard (d : Nat) (v : Int32) : Ct g l mX6_isYard (d) 0 0 [.int v] Γ iv rv lv (qPI (bI (0 ≤ v ∧ v < 24)) Γ iv rv lv) := by
  refine Ct.of (by decide +kernel) (Nat.le_of_ble_eq_true rfl) (Nat.le_of_ble_eq_true rfl) ?_
  refine rn_iconst (0) dX6_isYard_0 (by decide) ?_
  refine r_iload0 dX6_isYard_1 ?_
  refine rn_icmp_gt 15 dX6_isYard_2 rfl (fun c2 => ?_) (fun c2 => ?_)
  · refine rn_iconst (0) dX6_isYard_15 (by decide) ?_
    refine rn_zret dX6_isYard_16 rfl (by first | decide | exact nar_bI) (Nat.zero_le _) (Nat.zero_le _) ?_
    refine ⟨congrArg (fun z => some (Value.int z)) (bI_f (by simp only [Int32.lt_iff_toInt_lt, Int32.le_iff_toInt_le] at *; omega)).symm, rfl, rfl, rfl, rfl⟩
  · refine r_iload0 dX6_isYard_5 ?_
    refine rn_bipush (24) dX6_isYard_6 (by decide) ?_
    refine rn_icmp_ge 15 dX6_isYard_8 rfl (fun c8 => ?_) (fun c8 => ?_)
    · refine rn_iconst (0) dX6_isYard_15 (by decide) ?_
      refine rn_zret dX6_isYard_16 rfl (by first | decide | exact nar_bI) (Nat.zero_le _) (Nat.zero_le _) ?_
      refine ⟨congrArg (fun z => some (Value.int z)) (bI_f (by simp only [Int32.lt_iff_toInt_lt, Int32.le_iff_toInt_le] at *; omega)).symm, rfl, rfl, rfl, rfl⟩
    · refine rn_iconst (1) dX6_isYard_11 (by decide) ?_
      refine rn_goto 16 dX6_isYard_12 rfl ?_
      refine rn_zret dX6_isYard_16 rfl (by first | decide | exact nar_bI) (Nat.zero_le _) (Nat.zero_le _) ?_
      refine ⟨congrArg (fun z => some (Value.int z)) (bI_t (by simp only [Int32.lt_iff_toInt_lt, Int32.le_iff_toInt_le] at *; omega)).symm, rfl, rfl, rfl, rfl⟩
theorem ct_isGang (d : Nat) (v : Int32) : Ct g l mX6_isGang (d) 0 0 [.int v] Γ iv rv lv (qPI (bI (0 ≤ v ∧ v < 2)) Γ iv rv lv) := by
  refine Ct.of (by decide +kernel) (Nat.le_of_ble_eq_true rfl) (Nat.le_of_ble_eq_true rfl) ?_
  refine rn_iconst (0) dX6_isGang_0 (by decide) ?_
  refine r_iload0 dX6_isGang_1 ?_
  refine rn_icmp_gt 14 dX6_isGang_2 rfl (fun c2 => ?_) (fun c2 => ?_)
  · refine rn_iconst (0) dX6_isGang_14 (by decide) ?_
    refine rn_zret dX6_isGang_15 rfl (by first | decide | exact nar_bI) (Nat.zero_le _) (Nat.zero_le _) ?_
    refine ⟨congrArg (fun z => some (Value.int z)) (bI_f (by simp only [Int32.lt_iff_toInt_lt, Int32.le_iff_toInt_le] at *; omega)).symm, rfl, rfl, rfl, rfl⟩
  · refine r_iload0 dX6_isGang_5 ?_
    refine rn_iconst (2) dX6_isGang_6 (by decide) ?_
    refine rn_icmp_ge 14 dX6_isGang_7 rfl (fun c7 => ?_) (fun c7 => ?_)
    · refine rn_iconst (0) dX6_isGang_14 (by decide) ?_
      refine rn_zret dX6_isGang_15 rfl (by first | decide | exact nar_bI) (Nat.zero_le _) (Nat.zero_le _) ?_
      refine ⟨congrArg (fun z => some (Value.int z)) (bI_f (by simp only [Int32.lt_iff_toInt_lt, Int32.le_iff_toInt_le] at *; omega)).symm, rfl, rfl, rfl, rfl⟩
    · refine rn_iconst (1) dX6_isGang_10 (by decide) ?_
      refine rn_goto 15 dX6_isGang_11 rfl ?_
      refine rn_zret dX6_isGang_15 rfl (by first | decide | exact nar_bI) (Nat.zero_le _) (Nat.zero_le _) ?_
      refine ⟨congrArg (fun z => some (Value.int z)) (bI_t (by simp only [Int32.lt_iff_toInt_lt, Int32.le_iff_toInt_le] at *; omega)).symm, rfl, rfl, rfl, rfl⟩
end SMALL
