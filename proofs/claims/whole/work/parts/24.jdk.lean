/-! THE JDK: texts that are constants, rows -/
/-- bytes of constants are plain letters -/
theorem oiv_c : ∀ j, j < 3 → ∀ q, q < oln0 (8 + 2 * j) → ((oiv0 (8 + 2 * j) q &&& 255).toUInt32 % 65536).toInt32 = oiv0 (8 + 2 * j) q ∧ narrow .char (.int (oiv0 (8 + 2 * j) q)) = .int (oiv0 (8 + 2 * j) q) := by decide +kernel
theorem oln_sh : ∀ j, j < 3 → nI (oln0 (8 + 2 * j)) >>> ((0 : Int32) &&& 31) = nI (oln0 (8 + 2 * j)) := by decide +kernel
theorem oln_lt : ∀ j, j < 3 → oln0 (8 + 2 * j) ≤ 100 := by decide +kernel
/-- where c stands among the signs -/
def ixL (c : Int32) : Nat → Nat → Int32
  | 0, _ => -1
  | r + 1, k => if oiv0 12 k = c then nI k else ixL c r (k + 1)
theorem ixL_sgn : ∀ q, q < 256 → ixL (nI q).toInt8.toInt32 8 0 = (if sgn (nI q) = 14 then -1 else nI (sgn (nI q) - 15)) ∧ ((nI q).toUInt32 % 65536).toInt32 = nI q := by decide +kernel
section JDKS
variable {g : GS} {l : Launch} {Γ : Sh} {iv : IV} {rv : RV} {lv : LV}
set_option maxRecDepth 4000 in
theorem ct_isLatin1 (d : Nat) {i : Nat} (j : Nat) (hij : i = 7 + 2 * j) (hj : j < 3) : Ct g l mJ0_isLatin1_aae02 (d) 0 0 [.ref i] Γ iv rv lv (qPI 1 Γ iv rv lv) := by
  refine Ct.of (by decide +kernel) (Nat.le_of_ble_eq_true rfl) (Nat.le_of_ble_eq_true rfl) ?_
  refine rn_getsC dJ0_isLatin1_aae02_0 fl_J0_38 ?_
  refine rn_if_eq 17 dJ0_isLatin1_aae02_3 rfl (fun h => absurd h (by decide)) (fun _ => ?_)
  refine r_aload0 dJ0_isLatin1_aae02_6 ?_
  refine rn_getOC j hij hj dJ0_isLatin1_aae02_7 fl_J0_15 ?_
  refine rn_if_ne 17 dJ0_isLatin1_aae02_10 rfl (fun h => absurd rfl h) (fun _ => ?_)
  refine rn_iconst (1) dJ0_isLatin1_aae02_13 (by decide) ?_
  refine rn_goto 18 dJ0_isLatin1_aae02_14 rfl ?_
  refine rn_zret dJ0_isLatin1_aae02_18 rfl (by first | decide | exact nar_bI) (Nat.zero_le _) (Nat.zero_le _) ?_
  exact ⟨rfl, rfl, rfl, rfl, rfl⟩
set_option maxRecDepth 4000 in
theorem ct_coder (d : Nat) {i : Nat} (j : Nat) (hij : i = 7 + 2 * j) (hj : j < 3) : Ct g l mJ0_coder_7d493 (d) 0 0 [.ref i] Γ iv rv lv (qPI 0 Γ iv rv lv) := by
  refine Ct.of (by decide +kernel) (Nat.le_of_ble_eq_true rfl) (Nat.le_of_ble_eq_true rfl) ?_
  refine rn_getsC dJ0_coder_7d493_0 fl_J0_38 ?_
  refine rn_if_eq 13 dJ0_coder_7d493_3 rfl (fun h => absurd h (by decide)) (fun _ => ?_)
  refine r_aload0 dJ0_coder_7d493_6 ?_
  refine rn_getOC j hij hj dJ0_coder_7d493_7 fl_J0_15 ?_
  refine rn_goto 14 dJ0_coder_7d493_10 rfl ?_
  refine rn_zret dJ0_coder_7d493_14 rfl (by decide) (Nat.zero_le _) (Nat.zero_le _) ?_
  exact ⟨rfl, rfl, rfl, rfl, rfl⟩
set_option maxRecDepth 4000 in
theorem ct_slength (d : Nat) {i : Nat} (j : Nat) (hij : i = 7 + 2 * j) (hj : j < 3) : Ct g l mJ0_length_8abf5 (d + 1) 0 0 [.ref i] Γ iv rv lv (qPI (nI (oln0 (i + 1))) Γ iv rv lv) := by
  refine Ct.of (by decide +kernel) (Nat.le_of_ble_eq_true rfl) (Nat.le_of_ble_eq_true rfl) ?_
  refine r_aload0 dJ0_length_8abf5_0 ?_
  refine rn_getOV j hij hj dJ0_length_8abf5_1 fl_J0_9 ?_
  refine rn_alenB j (by omega) hj _ rfl dJ0_length_8abf5_4 ?_
  refine r_aload0 dJ0_length_8abf5_5 ?_
  refine cpiO0 (j := j) dJ0_length_8abf5_6 ov_J0_coder_7d493 rfl ml_J0_335 hij hj rfl (Nat.le_of_ble_eq_true rfl) (Nat.zero_le _) (Nat.zero_le _) (ct_coder _ j hij hj) ?_
  refine rn_ishr dJ0_length_8abf5_9 ?_
  refine rn_iret dJ0_length_8abf5_10 rfl (Nat.zero_le _) (Nat.zero_le _) ?_
  refine ⟨congrArg (fun z => some (Value.int z)) ?_, rfl, rfl, rfl, rfl⟩
  rw [show i + 1 = 8 + 2 * j by omega]; exact oln_sh j hj
set_option maxRecDepth 4000 in
theorem ct_pcheck (d : Nat) {x y : Int32} {z : Nat} (h0 : ¬ x < 0) (h1 : x < y) : Ct g l mJ3_checkIndex_8e157 (d) 0 0 [.int x, .int y, .ref z] Γ iv rv lv (qPI x Γ iv rv lv) := by
  refine Ct.of (by decide +kernel) (Nat.le_of_ble_eq_true rfl) (Nat.le_of_ble_eq_true rfl) ?_
  refine r_iload0 dJ3_checkIndex_8e157_0 ?_
  refine rn_if_lt 9 dJ3_checkIndex_8e157_1 rfl (fun h => absurd h h0) (fun _ => ?_)
  refine r_iload0 dJ3_checkIndex_8e157_4 ?_
  refine r_iload1 dJ3_checkIndex_8e157_5 ?_
  refine rn_icmp_lt 16 dJ3_checkIndex_8e157_6 rfl (fun _ => ?_) (fun h => absurd h1 h)
  refine r_iload0 dJ3_checkIndex_8e157_16 ?_
  refine rn_iret dJ3_checkIndex_8e157_17 rfl (Nat.zero_le _) (Nat.zero_le _) ?_
  exact ⟨rfl, rfl, rfl, rfl, rfl⟩
set_option maxRecDepth 4000 in
theorem ct_scheck (d : Nat) {x y : Int32} (h0 : ¬ x < 0) (h1 : x < y) : Ct g l mJ0_checkIndex_df160 (d + 1) 0 0 [.int x, .int y] Γ iv rv lv (qCV Γ rv lv (fun iv' => iv' = iv)) := by
  refine Ct.of (by decide +kernel) (Nat.le_of_ble_eq_true rfl) (Nat.le_of_ble_eq_true rfl) ?_
  refine r_iload0 dJ0_checkIndex_df160_0 ?_
  refine r_iload1 dJ0_checkIndex_df160_1 ?_
  refine rn_getsF dJ0_checkIndex_df160_2 fl_J0_1053 (fun zf => ?_)
  refine cpiS3 dJ0_checkIndex_df160_5 os_J3_checkIndex_8e157 rfl ml_J0_1059 (Nat.zero_le _) (Nat.zero_le _) (Nat.zero_le _) (ct_pcheck _ h0 h1) ?_
  refine rn_pop dJ0_checkIndex_df160_8 rfl ?_
  refine rn_vret dJ0_checkIndex_df160_9 rfl (Nat.zero_le _) (Nat.zero_le _) ?_
  exact ⟨rfl, rfl, rfl, rfl, rfl⟩
set_option maxRecDepth 4000 in
theorem ct_lcharAt (d : Nat) {i : Nat} (j : Nat) (hij : i = 8 + 2 * j) (hj : j < 3) {x : Int32} (q : Nat) (hx : x = nI q) (hq : q < oln0 i) : Ct g l mJ1_charAt_3b067 (d + 2) 0 0 [.ref i, .int x] Γ iv rv lv (qPI (oiv0 i q) Γ iv rv lv) := by
  refine Ct.of (by decide +kernel) (Nat.le_of_ble_eq_true rfl) (Nat.le_of_ble_eq_true rfl) ?_
  have hl : oln0 i ≤ 100 := by rw [hij]; exact oln_lt j hj
  have h0 : ¬ x < 0 := by rw [hx]; exact nI_pos (by omega)
  have h1 : x < nI (oln0 i) := by rw [hx]; exact nI_lt hq (by omega)
  refine r_iload1 dJ1_charAt_3b067_0 ?_
  refine r_aload0 dJ1_charAt_3b067_1 ?_
  refine rn_alenB j hij hj _ rfl dJ1_charAt_3b067_2 ?_
  refine ccvS2 dJ1_charAt_3b067_3 os_J0_checkIndex_df160 rfl ml_J1_9 (Nat.zero_le _) (Nat.zero_le _) (Nat.zero_le _) (ct_scheck _ h0 h1) (fun iv h3 => ?_)
  subst h3
  refine r_aload0 dJ1_charAt_3b067_6 ?_
  refine r_iload1 dJ1_charAt_3b067_7 ?_
  refine rn_baldO j hij hj q dJ1_charAt_3b067_8 hx hq ?_
  refine rn_sipush (255) dJ1_charAt_3b067_9 (by decide) ?_
  refine rn_iand dJ1_charAt_3b067_12 ?_
  refine rn_i2c dJ1_charAt_3b067_13 ?_
  refine rn_zret dJ1_charAt_3b067_14 rfl (by rw [hij] at hq; rw [hij, (oiv_c j hj q hq).1]; exact (oiv_c j hj q hq).2) (Nat.zero_le _) (Nat.zero_le _) ?_
  refine ⟨congrArg (fun z => some (Value.int z)) ?_, rfl, rfl, rfl, rfl⟩
  rw [hij] at hq ⊢
  exact (oiv_c j hj q hq).1
set_option maxRecDepth 4000 in
theorem ct_charAt (d : Nat) {i : Nat} (j : Nat) (hij : i = 7 + 2 * j) (hj : j < 3) {x : Int32} (q : Nat) (hx : x = nI q) (hq : q < oln0 (i + 1)) : Ct g l mJ0_charAt_5068e (d + 3) 0 0 [.ref i, .int x] Γ iv rv lv (qPI (oiv0 (i + 1) q) Γ iv rv lv) := by
  refine Ct.of (by decide +kernel) (Nat.le_of_ble_eq_true rfl) (Nat.le_of_ble_eq_true rfl) ?_
  refine r_aload0 dJ0_charAt_5068e_0 ?_
  refine cpiO0 (j := j) dJ0_charAt_5068e_1 ov_J0_isLatin1_aae02 rfl ml_J0_492 hij hj rfl (Nat.zero_le _) (Nat.zero_le _) (Nat.zero_le _) (ct_isLatin1 _ j hij hj) ?_
  refine rn_if_eq 16 dJ0_charAt_5068e_4 rfl (fun h => absurd h (by decide)) (fun _ => ?_)
  refine r_aload0 dJ0_charAt_5068e_7 ?_
  refine rn_getOV j hij hj dJ0_charAt_5068e_8 fl_J0_9 ?_
  refine r_iload1 dJ0_charAt_5068e_11 ?_
  refine cpiS2 dJ0_charAt_5068e_12 os_J1_charAt_3b067 rfl ml_J0_495 (Nat.zero_le _) (Nat.zero_le _) (Nat.zero_le _) (ct_lcharAt _ j (by omega) hj q hx hq) ?_
  refine rn_zret dJ0_charAt_5068e_15 rfl (by rw [show i + 1 = 8 + 2 * j by omega] at hq ⊢; exact (oiv_c j hj q hq).2) (Nat.zero_le _) (Nat.zero_le _) ?_
  exact ⟨rfl, rfl, rfl, rfl, rfl⟩
set_option maxRecDepth 4000 in
theorem ct_canEncode (d : Nat) {x : Int32} (h0 : ¬ x < 0) (h1 : x ≤ 255) : Ct g l mJ1_canEncode_9a6ad (d) 0 0 [.int x] Γ iv rv lv (qPI 1 Γ iv rv lv) := by
  refine Ct.of (by decide +kernel) (Nat.le_of_ble_eq_true rfl) (Nat.le_of_ble_eq_true rfl) ?_
  refine r_iload0 dJ1_canEncode_9a6ad_0 ?_
  refine rn_if_lt 15 dJ1_canEncode_9a6ad_1 rfl (fun h => absurd h h0) (fun _ => ?_)
  refine r_iload0 dJ1_canEncode_9a6ad_4 ?_
  refine rn_sipush (255) dJ1_canEncode_9a6ad_5 (by decide) ?_
  refine rn_icmp_gt 15 dJ1_canEncode_9a6ad_8 rfl (fun h => absurd h (Int32.not_lt.mpr h1)) (fun _ => ?_)
  refine rn_iconst (1) dJ1_canEncode_9a6ad_11 (by decide) ?_
  refine rn_goto 16 dJ1_canEncode_9a6ad_12 rfl ?_
  refine rn_zret dJ1_canEncode_9a6ad_16 rfl (by first | decide | exact nar_bI) (Nat.zero_le _) (Nat.zero_le _) ?_
  exact ⟨rfl, rfl, rfl, rfl, rfl⟩
theorem ix_loop {d : Nat} {c v x1 x2 : Int32} : ∀ (r k : Nat), r + k = 8 → ∀ {x5 : Int32}, x5 = nI k → v = ixL c r k → Rn g l mJ1_indexOfChar_4cfef (rmA d 0 0) (qPI v Γ iv rv lv) 0 0 7 [.ref 12, .int x1, .int x2, .int 8, .int c, .int x5] [] Γ iv rv lv := by
  intro r
  induction r with
  | zero =>
    intro k hk x5 hx5 hQ
    refine r_iload5 dJ1_indexOfChar_4cfef_7 ?_
    refine r_iload3 dJ1_indexOfChar_4cfef_9 ?_
    refine rn_icmp_ge 31 dJ1_indexOfChar_4cfef_10 rfl (fun c10 => ?_) (fun c10 => ?_)
    · refine rn_iconst (-1) dJ1_indexOfChar_4cfef_31 (by decide) ?_
      refine rn_iret dJ1_indexOfChar_4cfef_32 rfl (Nat.zero_le _) (Nat.zero_le _) ?_
      exact ⟨congrArg (fun z => some (Value.int z)) hQ.symm, rfl, rfl, rfl, rfl⟩
    · exact absurd (by subst hx5; rw [show (8 : Int32) = nI 8 by decide, nI_leI (by decide) (by omega)]; omega) c10
  | succ r ih =>
    intro k hk x5 hx5 hQ
    refine r_iload5 dJ1_indexOfChar_4cfef_7 ?_
    refine r_iload3 dJ1_indexOfChar_4cfef_9 ?_
    refine rn_icmp_ge 31 dJ1_indexOfChar_4cfef_10 rfl (fun c10 => ?_) (fun c10 => ?_)
    · exact absurd c10 (by subst hx5; rw [show (8 : Int32) = nI 8 by decide, nI_leI (by decide) (by omega)]; omega)
    · refine r_aload0 dJ1_indexOfChar_4cfef_13 ?_
      refine r_iload5 dJ1_indexOfChar_4cfef_14 ?_
      refine rn_baldO 2 rfl (by decide) k dJ1_indexOfChar_4cfef_16 hx5 (by rw [show oln0 12 = 8 by decide]; omega) ?_
      refine r_iload4 dJ1_indexOfChar_4cfef_17 ?_
      refine rn_icmp_ne 25 dJ1_indexOfChar_4cfef_19 rfl (fun c19 => ?_) (fun c19 => ?_)
      · refine r_iinc5 _ dJ1_indexOfChar_4cfef_25 rfl rfl ?_
        refine rn_goto 7 dJ1_indexOfChar_4cfef_28 rfl ?_
        exact ih (k + 1) (by omega) (by rw [hx5]; exact nI_1 k) (by rw [hQ, ixL, if_neg c19])
      · refine r_iload5 dJ1_indexOfChar_4cfef_22 ?_
        refine rn_iret dJ1_indexOfChar_4cfef_24 rfl (Nat.zero_le _) (Nat.zero_le _) ?_
        exact ⟨congrArg (fun z => some (Value.int z)) (by rw [hQ, ixL, if_pos c19]; exact hx5), rfl, rfl, rfl, rfl⟩
set_option maxRecDepth 4000 in
theorem ct_indexOfChar (d : Nat) (c : Int32) : Ct g l mJ1_indexOfChar_4cfef (d) 0 0 [.ref 12, .int c, .int 0, .int 8] Γ iv rv lv (qPI (ixL c.toInt8.toInt32 8 0) Γ iv rv lv) := by
  refine Ct.of (by decide +kernel) (Nat.le_of_ble_eq_true rfl) (Nat.le_of_ble_eq_true rfl) ?_
  refine r_iload1 dJ1_indexOfChar_4cfef_0 ?_
  refine rn_i2b dJ1_indexOfChar_4cfef_1 ?_
  refine r_istore4 dJ1_indexOfChar_4cfef_2 rfl ?_
  refine r_iload2 dJ1_indexOfChar_4cfef_4 ?_
  refine r_istore5 dJ1_indexOfChar_4cfef_5 rfl ?_
  exact ix_loop 8 0 rfl rfl rfl
set_option maxRecDepth 4000 in
theorem ct_lindexOf (d : Nat) (c : Int32) (h0 : ¬ c < 0) (h1 : c ≤ 255) : Ct g l mJ1_indexOf_4cfef (d + 1) 0 0 [.ref 12, .int c, .int 0, .int 8] Γ iv rv lv (qPI (ixL c.toInt8.toInt32 8 0) Γ iv rv lv) := by
  refine Ct.of (by decide +kernel) (Nat.le_of_ble_eq_true rfl) (Nat.le_of_ble_eq_true rfl) ?_
  refine r_iload1 dJ1_indexOf_4cfef_0 ?_
  refine cpiS1 dJ1_indexOf_4cfef_1 os_J1_canEncode_9a6ad rfl ml_J1_88 (Nat.zero_le _) (Nat.zero_le _) (Nat.zero_le _) (ct_canEncode _ h0 h1) ?_
  refine rn_if_ne 9 dJ1_indexOf_4cfef_4 rfl (fun _ => ?_) (fun h => absurd h (by decide))
  refine r_iload2 dJ1_indexOf_4cfef_9 ?_
  refine rn_iconst (0) dJ1_indexOf_4cfef_10 (by decide) ?_
  refine rn_max dJ1_indexOf_4cfef_11 ml_J1_92 math_max (Nat.le_of_ble_eq_true rfl) (Nat.le_add_left _ _) (by show 100 ≤ 100 * _; omega) (Nat.zero_le _) (Nat.zero_le _) ?_
  refine rn_eqi 0 (by decide) ?_
  refine r_istore2 dJ1_indexOf_4cfef_14 rfl ?_
  refine r_iload3 dJ1_indexOf_4cfef_15 ?_
  refine r_aload0 dJ1_indexOf_4cfef_16 ?_
  refine rn_alenB 2 rfl (by decide) _ rfl dJ1_indexOf_4cfef_17 ?_
  refine rn_min dJ1_indexOf_4cfef_18 ml_J1_38 math_min (Nat.le_of_ble_eq_true rfl) (Nat.le_add_left _ _) (by show 100 ≤ 100 * _; omega) (Nat.zero_le _) (Nat.zero_le _) ?_
  refine rn_eqi 8 (by decide) ?_
  refine r_istore3 dJ1_indexOf_4cfef_21 rfl ?_
  refine r_iload2 dJ1_indexOf_4cfef_22 ?_
  refine r_iload3 dJ1_indexOf_4cfef_23 ?_
  refine rn_icmp_lt 29 dJ1_indexOf_4cfef_24 rfl (fun _ => ?_) (fun h => absurd (by decide) h)
  refine r_aload0 dJ1_indexOf_4cfef_29 ?_
  refine r_iload1 dJ1_indexOf_4cfef_30 ?_
  refine r_iload2 dJ1_indexOf_4cfef_31 ?_
  refine r_iload3 dJ1_indexOf_4cfef_32 ?_
  refine cpiS4 dJ1_indexOf_4cfef_33 os_J1_indexOfChar_4cfef rfl ml_J1_95 (Nat.zero_le _) (Nat.zero_le _) (Nat.zero_le _) (ct_indexOfChar _ _) ?_
  refine rn_iret dJ1_indexOf_4cfef_36 rfl (Nat.zero_le _) (Nat.zero_le _) ?_
  exact ⟨rfl, rfl, rfl, rfl, rfl⟩
set_option maxRecDepth 4000 in
theorem ct_indexOf2 (d : Nat) (c : Int32) (h0 : ¬ c < 0) (h1 : c ≤ 255) : Ct g l mJ0_indexOf_7cf53 (d + 2) 0 0 [.ref 11, .int c, .int 0] Γ iv rv lv (qPI (ixL c.toInt8.toInt32 8 0) Γ iv rv lv) := by
  refine Ct.of (by decide +kernel) (Nat.le_of_ble_eq_true rfl) (Nat.le_of_ble_eq_true rfl) ?_
  refine r_aload0 dJ0_indexOf_7cf53_0 ?_
  refine cpiO0 (j := 2) dJ0_indexOf_7cf53_1 ov_J0_isLatin1_aae02 rfl ml_J0_492 rfl (by decide) rfl (Nat.zero_le _) (Nat.zero_le _) (Nat.zero_le _) (ct_isLatin1 _ 2 rfl (by decide)) ?_
  refine rn_if_eq 23 dJ0_indexOf_7cf53_4 rfl (fun h => absurd h (by decide)) (fun _ => ?_)
  refine r_aload0 dJ0_indexOf_7cf53_7 ?_
  refine rn_getOV 2 rfl (by decide) dJ0_indexOf_7cf53_8 fl_J0_9 ?_
  refine r_iload1 dJ0_indexOf_7cf53_11 ?_
  refine r_iload2 dJ0_indexOf_7cf53_12 ?_
  refine r_aload0 dJ0_indexOf_7cf53_13 ?_
  refine cpiO0 (j := 2) dJ0_indexOf_7cf53_14 ov_J0_length_8abf5 rfl ml_J0_505 rfl (by decide) rfl (Nat.le_of_ble_eq_true rfl) (Nat.zero_le _) (Nat.zero_le _) (ct_slength _ 2 rfl (by decide)) ?_
  refine rn_eqi 8 (by decide) ?_
  refine cpiS4 dJ0_indexOf_7cf53_17 os_J1_indexOf_4cfef rfl ml_J0_637 (Nat.zero_le _) (Nat.zero_le _) (Nat.zero_le _) (ct_lindexOf _ _ h0 h1) ?_
  refine rn_goto 36 dJ0_indexOf_7cf53_20 rfl ?_
  refine rn_iret dJ0_indexOf_7cf53_36 rfl (Nat.zero_le _) (Nat.zero_le _) ?_
  exact ⟨rfl, rfl, rfl, rfl, rfl⟩
set_option maxRecDepth 4000 in
theorem ct_indexOf (d : Nat) (c : Int32) (h0 : ¬ c < 0) (h1 : c ≤ 255) : Ct g l mJ0_indexOf_0f7a4 (d + 3) 0 0 [.ref 11, .int c] Γ iv rv lv (qPI (ixL c.toInt8.toInt32 8 0) Γ iv rv lv) := by
  refine Ct.of (by decide +kernel) (Nat.le_of_ble_eq_true rfl) (Nat.le_of_ble_eq_true rfl) ?_
  refine r_aload0 dJ0_indexOf_0f7a4_0 ?_
  refine r_iload1 dJ0_indexOf_0f7a4_1 ?_
  refine rn_iconst (0) dJ0_indexOf_0f7a4_2 (by decide) ?_
  refine cpiO2 (j := 2) dJ0_indexOf_0f7a4_3 ov_J0_indexOf_7cf53 rfl ml_J0_633 rfl (by decide) rfl (Nat.zero_le _) (Nat.zero_le _) (Nat.zero_le _) (ct_indexOf2 _ _ h0 h1) ?_
  refine rn_iret dJ0_indexOf_0f7a4_6 rfl (Nat.zero_le _) (Nat.zero_le _) ?_
  exact ⟨rfl, rfl, rfl, rfl, rfl⟩
end JDKS
