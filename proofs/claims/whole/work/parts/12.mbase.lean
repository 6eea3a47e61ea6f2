/-! THE REFERENCE: small methods -/
/-! THE REFERENCE: its cells -/
def mA : List (Nat × Nat × Nat × Nat) := [(1, 76, 20, 960), (2, 77, 20, 6), (5, 78, 20, 160), (7, 79, 20, 24), (8, 80, 20, 24), (9, 81, 20, 2), (10, 82, 20, 2), (11, 83, 20, 2), (12, 84, 20, 2), (13, 85, 20, 2), (14, 86, 20, 2), (15, 87, 20, 2), (35, 88, 20, 24), (36, 89, 20, 24), (37, 90, 20, 10), (42, 91, 20, 24), (43, 92, 20, 24), (44, 93, 20, 10), (51, 94, 21, 4), (52, 95, 20, 4), (53, 96, 20, 4), (54, 97, 20, 160)]
def ShM (Γ : Sh) (rv : RV) : Prop := IsK Γ 75 7 ∧ ∀ q ∈ mA, rv 75 q.1 = q.2.1 ∧ IsA Γ q.2.1 q.2.2.1 q.2.2.2
theorem sm_texts {Γ : Sh} {rv : RV} (h : ShM Γ rv) : rv 75 1 = 76 ∧ IsA Γ 76 20 960 := h.2 (1, 76, 20, 960) (by decide)
theorem sm_textSize {Γ : Sh} {rv : RV} (h : ShM Γ rv) : rv 75 2 = 77 ∧ IsA Γ 77 20 6 := h.2 (2, 77, 20, 6) (by decide)
theorem sm_tape {Γ : Sh} {rv : RV} (h : ShM Γ rv) : rv 75 5 = 78 ∧ IsA Γ 78 20 160 := h.2 (5, 78, 20, 160) (by decide)
theorem sm_grounds {Γ : Sh} {rv : RV} (h : ShM Γ rv) : rv 75 7 = 79 ∧ IsA Γ 79 20 24 := h.2 (7, 79, 20, 24) (by decide)
theorem sm_known {Γ : Sh} {rv : RV} (h : ShM Γ rv) : rv 75 8 = 80 ∧ IsA Γ 80 20 24 := h.2 (8, 80, 20, 24) (by decide)
theorem sm_kinds {Γ : Sh} {rv : RV} (h : ShM Γ rv) : rv 75 9 = 81 ∧ IsA Γ 81 20 2 := h.2 (9, 81, 20, 2) (by decide)
theorem sm_numbers {Γ : Sh} {rv : RV} (h : ShM Γ rv) : rv 75 10 = 82 ∧ IsA Γ 82 20 2 := h.2 (10, 82, 20, 2) (by decide)
theorem sm_men {Γ : Sh} {rv : RV} (h : ShM Γ rv) : rv 75 11 = 83 ∧ IsA Γ 83 20 2 := h.2 (11, 83, 20, 2) (by decide)
theorem sm_dones {Γ : Sh} {rv : RV} (h : ShM Γ rv) : rv 75 12 = 84 ∧ IsA Γ 84 20 2 := h.2 (12, 84, 20, 2) (by decide)
theorem sm_work {Γ : Sh} {rv : RV} (h : ShM Γ rv) : rv 75 13 = 85 ∧ IsA Γ 85 20 2 := h.2 (13, 85, 20, 2) (by decide)
theorem sm_earned {Γ : Sh} {rv : RV} (h : ShM Γ rv) : rv 75 14 = 86 ∧ IsA Γ 86 20 2 := h.2 (14, 86, 20, 2) (by decide)
theorem sm_spent {Γ : Sh} {rv : RV} (h : ShM Γ rv) : rv 75 15 = 87 ∧ IsA Γ 87 20 2 := h.2 (15, 87, 20, 2) (by decide)
theorem sm_groundsWas {Γ : Sh} {rv : RV} (h : ShM Γ rv) : rv 75 35 = 88 ∧ IsA Γ 88 20 24 := h.2 (35, 88, 20, 24) (by decide)
theorem sm_knownWas {Γ : Sh} {rv : RV} (h : ShM Γ rv) : rv 75 36 = 89 ∧ IsA Γ 89 20 24 := h.2 (36, 89, 20, 24) (by decide)
theorem sm_gangsWas {Γ : Sh} {rv : RV} (h : ShM Γ rv) : rv 75 37 = 90 ∧ IsA Γ 90 20 10 := h.2 (37, 90, 20, 10) (by decide)
theorem sm_groundsKept {Γ : Sh} {rv : RV} (h : ShM Γ rv) : rv 75 42 = 91 ∧ IsA Γ 91 20 24 := h.2 (42, 91, 20, 24) (by decide)
theorem sm_knownKept {Γ : Sh} {rv : RV} (h : ShM Γ rv) : rv 75 43 = 92 ∧ IsA Γ 92 20 24 := h.2 (43, 92, 20, 24) (by decide)
theorem sm_gangsKept {Γ : Sh} {rv : RV} (h : ShM Γ rv) : rv 75 44 = 93 ∧ IsA Γ 93 20 10 := h.2 (44, 93, 20, 10) (by decide)
theorem sm_isThere {Γ : Sh} {rv : RV} (h : ShM Γ rv) : rv 75 51 = 94 ∧ IsA Γ 94 21 4 := h.2 (51, 94, 21, 4) (by decide)
theorem sm_sorts {Γ : Sh} {rv : RV} (h : ShM Γ rv) : rv 75 52 = 95 ∧ IsA Γ 95 20 4 := h.2 (52, 95, 20, 4) (by decide)
theorem sm_sheetSize {Γ : Sh} {rv : RV} (h : ShM Γ rv) : rv 75 53 = 96 ∧ IsA Γ 96 20 4 := h.2 (53, 96, 20, 4) (by decide)
theorem sm_items {Γ : Sh} {rv : RV} (h : ShM Γ rv) : rv 75 54 = 97 ∧ IsA Γ 97 20 160 := h.2 (54, 97, 20, 160) (by decide)
section MBASE
variable {g : GS} {l : Launch} {Γ : Sh} {iv : IV} {rv : RV} {lv : LV}
theorem i64_le {a b : Int32} : a.toInt64 ≤ b.toInt64 ↔ a ≤ b := by
  rw [Int64.le_iff_toInt_le, Int32.le_iff_toInt_le, Int32.toInt_toInt64, Int32.toInt_toInt64]
theorem i64_inj {a b : Int32} (h : a.toInt64 = b.toInt64) : a = b := by
  have := congrArg Int64.toInt h
  rw [Int32.toInt_toInt64, Int32.toInt_toInt64] at this
  exact Int32.toInt_inj.mp this
set_option maxRecDepth 4000 in
theorem ct_in (d : Nat) (v a b : Int64) : Ct g l mX7_in (d) 0 0 [.long v, .long a, .long b] Γ iv rv lv (qPI (bI (a ≤ v ∧ v ≤ b)) Γ iv rv lv) := by
  refine Ct.of (by decide +kernel) (Nat.le_of_ble_eq_true rfl) (Nat.le_of_ble_eq_true rfl) ?_
  refine r_lload0 dX7_in_0 ?_
  refine r_lload2 dX7_in_1 ?_
  refine rn_lcmp dX7_in_2 ?_
  refine rn_if_lt 17 dX7_in_3 rfl (fun c3 => ?_) (fun c3 => ?_)
  · refine rn_iconst (0) dX7_in_17 (by decide) ?_
    refine rn_zret dX7_in_18 rfl (by first | decide | exact nar_bI) (Nat.zero_le _) (Nat.zero_le _) ?_
    refine ⟨congrArg (fun z => some (Value.int z)) (bI_f (by simp only [lg_cmp_lt, lg_cmp_gt, Int64.lt_iff_toInt_lt, Int64.le_iff_toInt_le] at *; omega)).symm, rfl, rfl, rfl, rfl⟩
  · refine r_lload0 dX7_in_6 ?_
    refine r_lload4 dX7_in_7 ?_
    refine rn_lcmp dX7_in_9 ?_
    refine rn_if_gt 17 dX7_in_10 rfl (fun c10 => ?_) (fun c10 => ?_)
    · refine rn_iconst (0) dX7_in_17 (by decide) ?_
      refine rn_zret dX7_in_18 rfl (by first | decide | exact nar_bI) (Nat.zero_le _) (Nat.zero_le _) ?_
      refine ⟨congrArg (fun z => some (Value.int z)) (bI_f (by simp only [lg_cmp_lt, lg_cmp_gt, Int64.lt_iff_toInt_lt, Int64.le_iff_toInt_le] at *; omega)).symm, rfl, rfl, rfl, rfl⟩
    · refine rn_iconst (1) dX7_in_13 (by decide) ?_
      refine rn_goto 18 dX7_in_14 rfl ?_
      refine rn_zret dX7_in_18 rfl (by first | decide | exact nar_bI) (Nat.zero_le _) (Nat.zero_le _) ?_
      refine ⟨congrArg (fun z => some (Value.int z)) (bI_t (by simp only [lg_cmp_lt, lg_cmp_gt, Int64.lt_iff_toInt_lt, Int64.le_iff_toInt_le] at *; omega)).symm, rfl, rfl, rfl, rfl⟩
theorem ct_inI (d : Nat) {x a b : Int32} {A B : Int64} (hA : A = a.toInt64) (hB : B = b.toInt64) : Ct g l mX7_in d 0 0 [.long x.toInt64, .long A, .long B] Γ iv rv lv (qPI (bI (a ≤ x ∧ x ≤ b)) Γ iv rv lv) := by
  subst hA; subst hB
  have h := ct_in (g := g) (l := l) (Γ := Γ) (iv := iv) (rv := rv) (lv := lv) d x.toInt64 a.toInt64 b.toInt64
  simp only [i64_le] at h
  exact h
set_option maxRecDepth 4000 in
theorem ct_mwithin (d : Nat) (v a b : Int32) : Ct g l mX7_within (d) 0 0 [.int v, .int a, .int b] Γ iv rv lv (qPI (if v < a then a else if b < v then b else v) Γ iv rv lv) := by
  refine Ct.of (by decide +kernel) (Nat.le_of_ble_eq_true rfl) (Nat.le_of_ble_eq_true rfl) ?_
  refine r_iload0 dX7_within_0 ?_
  refine r_iload1 dX7_within_1 ?_
  refine rn_icmp_ge 9 dX7_within_2 rfl (fun c2 => ?_) (fun c2 => ?_)
  · refine r_iload0 dX7_within_9 ?_
    refine r_iload2 dX7_within_10 ?_
    refine rn_icmp_le 18 dX7_within_11 rfl (fun c11 => ?_) (fun c11 => ?_)
    · refine r_iload0 dX7_within_18 ?_
      refine rn_iret dX7_within_19 rfl (Nat.zero_le _) (Nat.zero_le _) ?_
      refine ⟨congrArg (fun z => some (Value.int z)) ?_, rfl, rfl, rfl, rfl⟩
      rw [if_neg (by simp only [Int32.lt_iff_toInt_lt, Int32.le_iff_toInt_le, Int32.reduceToInt] at *; omega), if_neg (by simp only [Int32.lt_iff_toInt_lt, Int32.le_iff_toInt_le, Int32.reduceToInt] at *; omega)]
    · refine r_iload2 dX7_within_14 ?_
      refine rn_goto 19 dX7_within_15 rfl ?_
      refine rn_iret dX7_within_19 rfl (Nat.zero_le _) (Nat.zero_le _) ?_
      refine ⟨congrArg (fun z => some (Value.int z)) ?_, rfl, rfl, rfl, rfl⟩
      rw [if_neg (by simp only [Int32.lt_iff_toInt_lt, Int32.le_iff_toInt_le, Int32.reduceToInt] at *; omega), if_pos (by simp only [Int32.lt_iff_toInt_lt, Int32.le_iff_toInt_le, Int32.reduceToInt] at *; omega)]
  · refine r_iload1 dX7_within_5 ?_
    refine rn_goto 19 dX7_within_6 rfl ?_
    refine rn_iret dX7_within_19 rfl (Nat.zero_le _) (Nat.zero_le _) ?_
    refine ⟨congrArg (fun z => some (Value.int z)) ?_, rfl, rfl, rfl, rfl⟩
    rw [if_pos (by simp only [Int32.lt_iff_toInt_lt, Int32.le_iff_toInt_le, Int32.reduceToInt] at *; omega)]
set_option maxRecDepth 4000 in
theorem ct_misYard (d : Nat) (v : Int32) : Ct g l mX7_isYard (d + 1) 0 0 [.int v] Γ iv rv lv (qPI (bI (0 ≤ v ∧ v ≤ 23)) Γ iv rv lv) := by
  refine Ct.of (by decide +kernel) (Nat.le_of_ble_eq_true rfl) (Nat.le_of_ble_eq_true rfl) ?_
  refine r_iload0 dX7_isYard_0 ?_
  refine rn_i2l dX7_isYard_1 ?_
  refine rn_lconst (0) dX7_isYard_2 (by decide) ?_
  refine rn_ldc2 (v := _) dX7_isYard_3 cl_X7_94 ?_
  refine cpiS3 dX7_isYard_6 os_X7_in rfl ml_X7_96 (Nat.zero_le _) (Nat.zero_le _) (Nat.zero_le _) (ct_inI _ (a := 0) (b := 23) (by decide) (by decide)) ?_
  refine rn_zret dX7_isYard_9 rfl (by first | decide | exact nar_bI) (Nat.zero_le _) (Nat.zero_le _) ?_
  exact ⟨rfl, rfl, rfl, rfl, rfl⟩
set_option maxRecDepth 4000 in
theorem ct_misGang (d : Nat) (v : Int32) : Ct g l mX7_isGang (d + 1) 0 0 [.int v] Γ iv rv lv (qPI (bI (0 ≤ v ∧ v ≤ 1)) Γ iv rv lv) := by
  refine Ct.of (by decide +kernel) (Nat.le_of_ble_eq_true rfl) (Nat.le_of_ble_eq_true rfl) ?_
  refine r_iload0 dX7_isGang_0 ?_
  refine rn_i2l dX7_isGang_1 ?_
  refine rn_lconst (0) dX7_isGang_2 (by decide) ?_
  refine rn_lconst (1) dX7_isGang_3 (by decide) ?_
  refine cpiS3 dX7_isGang_4 os_X7_in rfl ml_X7_96 (Nat.zero_le _) (Nat.zero_le _) (Nat.zero_le _) (ct_inI _ (a := 0) (b := 1) (by decide) (by decide)) ?_
  refine rn_zret dX7_isGang_7 rfl (by first | decide | exact nar_bI) (Nat.zero_le _) (Nat.zero_le _) ?_
  exact ⟨rfl, rfl, rfl, rfl, rfl⟩
set_option maxRecDepth 4000 in
theorem ct_misSheet (d : Nat) (v : Int32) : Ct g l mX7_isSheet (d + 1) 0 0 [.int v] Γ iv rv lv (qPI (bI (0 ≤ v ∧ v ≤ 3)) Γ iv rv lv) := by
  refine Ct.of (by decide +kernel) (Nat.le_of_ble_eq_true rfl) (Nat.le_of_ble_eq_true rfl) ?_
  refine r_iload0 dX7_isSheet_0 ?_
  refine rn_i2l dX7_isSheet_1 ?_
  refine rn_lconst (0) dX7_isSheet_2 (by decide) ?_
  refine rn_ldc2 (v := _) dX7_isSheet_3 cl_X7_104 ?_
  refine cpiS3 dX7_isSheet_6 os_X7_in rfl ml_X7_96 (Nat.zero_le _) (Nat.zero_le _) (Nat.zero_le _) (ct_inI _ (a := 0) (b := 3) (by decide) (by decide)) ?_
  refine rn_zret dX7_isSheet_9 rfl (by first | decide | exact nar_bI) (Nat.zero_le _) (Nat.zero_le _) ?_
  exact ⟨rfl, rfl, rfl, rfl, rfl⟩
set_option maxRecDepth 4000 in
theorem ct_left (d : Nat) (hM : ShM Γ rv) : Ct g l mX7_left (d) 0 0 [.ref 75] Γ iv rv lv (qPI (24 - iv 84 0 - iv 84 1) Γ iv rv lv) := by
  refine Ct.of (by decide +kernel) (Nat.le_of_ble_eq_true rfl) (Nat.le_of_ble_eq_true rfl) ?_
  refine rn_bipush (24) dX7_left_0 (by decide) ?_
  refine r_aload0 dX7_left_2 ?_
  refine gf_X7_38 dX7_left_3 rfl hM.1 (sm_dones hM).1 ?_
  refine rn_iconst (0) dX7_left_6 (by decide) ?_
  refine rn_iald 0 dX7_left_7 (sm_dones hM).2 rfl (by decide) (by decide) ?_
  refine rn_isub dX7_left_8 ?_
  refine r_aload0 dX7_left_9 ?_
  refine gf_X7_38 dX7_left_10 rfl hM.1 (sm_dones hM).1 ?_
  refine rn_iconst (1) dX7_left_13 (by decide) ?_
  refine rn_iald 1 dX7_left_14 (sm_dones hM).2 rfl (by decide) (by decide) ?_
  refine rn_isub dX7_left_15 ?_
  refine rn_iret dX7_left_16 rfl (Nat.zero_le _) (Nat.zero_le _) ?_
  exact ⟨rfl, rfl, rfl, rfl, rfl⟩
set_option maxRecDepth 4000 in
theorem ct_whose (d : Nat) (hM : ShM Γ rv) (y : Int32) : Ct g l mX7_whose (d) 0 0 [.ref 75, .int y] Γ iv rv lv (qPI (if y < iv 84 0 then 0 else if 24 - iv 84 1 ≤ y then 1 else -1) Γ iv rv lv) := by
  refine Ct.of (by decide +kernel) (Nat.le_of_ble_eq_true rfl) (Nat.le_of_ble_eq_true rfl) ?_
  refine r_iload1 dX7_whose_0 ?_
  refine r_aload0 dX7_whose_1 ?_
  refine gf_X7_38 dX7_whose_2 rfl hM.1 (sm_dones hM).1 ?_
  refine rn_iconst (0) dX7_whose_5 (by decide) ?_
  refine rn_iald 0 dX7_whose_6 (sm_dones hM).2 rfl (by decide) (by decide) ?_
  refine rn_icmp_ge 14 dX7_whose_7 rfl (fun c7 => ?_) (fun c7 => ?_)
  · refine r_iload1 dX7_whose_14 ?_
    refine rn_bipush (24) dX7_whose_15 (by decide) ?_
    refine r_aload0 dX7_whose_17 ?_
    refine gf_X7_38 dX7_whose_18 rfl hM.1 (sm_dones hM).1 ?_
    refine rn_iconst (1) dX7_whose_21 (by decide) ?_
    refine rn_iald 1 dX7_whose_22 (sm_dones hM).2 rfl (by decide) (by decide) ?_
    refine rn_isub dX7_whose_23 ?_
    refine rn_icmp_lt 31 dX7_whose_24 rfl (fun c24 => ?_) (fun c24 => ?_)
    · refine rn_iconst (-1) dX7_whose_31 (by decide) ?_
      refine rn_iret dX7_whose_32 rfl (Nat.zero_le _) (Nat.zero_le _) ?_
      refine ⟨congrArg (fun z => some (Value.int z)) ?_, rfl, rfl, rfl, rfl⟩
      rw [if_neg (by simp only [Int32.lt_iff_toInt_lt, Int32.le_iff_toInt_le, Int32.reduceToInt] at *; omega), if_neg (by simp only [Int32.lt_iff_toInt_lt, Int32.le_iff_toInt_le, Int32.reduceToInt] at *; omega)]
    · refine rn_iconst (1) dX7_whose_27 (by decide) ?_
      refine rn_goto 32 dX7_whose_28 rfl ?_
      refine rn_iret dX7_whose_32 rfl (Nat.zero_le _) (Nat.zero_le _) ?_
      refine ⟨congrArg (fun z => some (Value.int z)) ?_, rfl, rfl, rfl, rfl⟩
      rw [if_neg (by simp only [Int32.lt_iff_toInt_lt, Int32.le_iff_toInt_le, Int32.reduceToInt] at *; omega), if_pos (by simp only [Int32.lt_iff_toInt_lt, Int32.le_iff_toInt_le, Int32.reduceToInt] at *; omega)]
  · refine rn_iconst (0) dX7_whose_10 (by decide) ?_
    refine rn_goto 32 dX7_whose_11 rfl ?_
    refine rn_iret dX7_whose_32 rfl (Nat.zero_le _) (Nat.zero_le _) ?_
    refine ⟨congrArg (fun z => some (Value.int z)) ?_, rfl, rfl, rfl, rfl⟩
    rw [if_pos (by simp only [Int32.lt_iff_toInt_lt, Int32.le_iff_toInt_le, Int32.reduceToInt] at *; omega)]
set_option maxRecDepth 4000 in
theorem ct_nextOf (d : Nat) (hM : ShM Γ rv) (y : Int32) : Ct g l mX7_nextOf (d) 0 0 [.ref 75, .int y] Γ iv rv lv (qPI (if y = 0 then iv 84 0 else 23 - iv 84 1) Γ iv rv lv) := by
  refine Ct.of (by decide +kernel) (Nat.le_of_ble_eq_true rfl) (Nat.le_of_ble_eq_true rfl) ?_
  refine r_iload1 dX7_nextOf_0 ?_
  refine rn_if_ne 13 dX7_nextOf_1 rfl (fun c1 => ?_) (fun c1 => ?_)
  · refine rn_bipush (23) dX7_nextOf_13 (by decide) ?_
    refine r_aload0 dX7_nextOf_15 ?_
    refine gf_X7_38 dX7_nextOf_16 rfl hM.1 (sm_dones hM).1 ?_
    refine rn_iconst (1) dX7_nextOf_19 (by decide) ?_
    refine rn_iald 1 dX7_nextOf_20 (sm_dones hM).2 rfl (by decide) (by decide) ?_
    refine rn_isub dX7_nextOf_21 ?_
    refine rn_iret dX7_nextOf_22 rfl (Nat.zero_le _) (Nat.zero_le _) ?_
    refine ⟨congrArg (fun z => some (Value.int z)) ?_, rfl, rfl, rfl, rfl⟩
    rw [if_neg (by assumption)]
  · refine r_aload0 dX7_nextOf_4 ?_
    refine gf_X7_38 dX7_nextOf_5 rfl hM.1 (sm_dones hM).1 ?_
    refine rn_iconst (0) dX7_nextOf_8 (by decide) ?_
    refine rn_iald 0 dX7_nextOf_9 (sm_dones hM).2 rfl (by decide) (by decide) ?_
    refine rn_goto 22 dX7_nextOf_10 rfl ?_
    refine rn_iret dX7_nextOf_22 rfl (Nat.zero_le _) (Nat.zero_le _) ?_
    refine ⟨congrArg (fun z => some (Value.int z)) ?_, rfl, rfl, rfl, rfl⟩
    rw [if_pos (by assumption)]
end MBASE
