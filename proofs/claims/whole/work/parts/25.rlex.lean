/-! THE READER: tokens -/
def ShR (Γ : Sh) (rv : RV) : Prop := IsK Γ 16 2 ∧ rv 16 2 = 17 ∧ IsA Γ 17 20 160 ∧ rv 16 7 = 18 ∧ IsA Γ 18 20 160 ∧ rv 16 9 = 19 ∧ IsA Γ 19 20 4
def TxR (iv : IV) (b : Nat → Int32) (n : Nat) : Prop := iv 16 0 = nI n ∧ n ≤ 160 ∧ (∀ j, j < n → iv 17 j = b j) ∧ ∀ j, j < n → 0 ≤ b j ∧ b j ≤ 255
abbrev LxR (a b : Nat) : Prop := a = 16 ∧ 3 ≤ b ∧ b ≤ 6
theorem TxR.lx {iv iv' : IV} {b : Nat → Int32} {n : Nat} (h : TxR iv b n) (ho : Off LxR iv iv') : TxR iv' b n :=
  ⟨(ho _ _ (by decide)).trans h.1, h.2.1, fun j hj => (ho _ _ (fun z => by cases z.1)).trans (h.2.2.1 j hj), h.2.2.2⟩
def TokR (iv : IV) (n : Nat) (t : Tk) : Prop := TkOK n t ∧ iv 16 5 = nI t.2.1 ∧ iv 16 4 = nI t.1 ∧ iv 16 3 = nI t.2.2.2 ∧ (t.1 = 12 → iv 16 6 = t.2.2.1)
theorem oivW : ∀ w, w < 12 → ∀ i, i < 7 → oiv0 10 (w * 7 + i) = if i < (wds.getD w []).length then (wds.getD w []).getD i 0 else 32 := by decide +kernel
theorem wds_len : ∀ w, w < 12 → (wds.getD w []).length ≤ 6 ∧ ∀ i, i < (wds.getD w []).length → (wds.getD w []).getD i 0 ≠ 32 := by decide +kernel
/-- the letters of a word, blanks behind it -/
theorem sp_iff {b : Nat → Int32} {s q w : Nat} (hw : w < 12) (hsq : s ≤ q) (h7 : q - s < 7) (hle : ∀ j, s ≤ j → j < q → isLe (b j) = true) : (∀ i, i < 7 → oiv0 10 (w * 7 + i) = if i < q - s then b (s + i) else 32) ↔ wd b s q = wds.getD w [] := by
  obtain ⟨l1, l2⟩ := wds_len w hw
  have n32 : ∀ j, s ≤ j → j < q → b j ≠ 32 := fun j h1 h2 h3 => by have := hle j h1 h2; rw [h3] at this; exact absurd this (by decide)
  constructor
  · intro h
    have hlen : q - s = (wds.getD w []).length := by
      rcases Nat.lt_trichotomy (q - s) (wds.getD w []).length with z | z | z
      · have h1 := h (q - s) (by omega)
        rw [oivW w hw _ (by omega), if_pos z, if_neg (by omega)] at h1
        exact absurd h1 (l2 _ z)
      · exact z
      · have h1 := h (wds.getD w []).length (by omega)
        rw [oivW w hw _ (by omega), if_neg (by omega), if_pos z] at h1
        exact absurd h1.symm (n32 _ (by omega) (by omega))
    apply List.ext_getElem?
    intro i
    rcases Nat.lt_or_ge i (wds.getD w []).length with z | z
    · rw [wd_get (by omega)]
      have h1 := h i (by omega)
      rw [oivW w hw _ (by omega), if_pos z, if_pos (by omega)] at h1
      rw [← h1, List.getD_eq_getElem?_getD, List.getElem?_eq_getElem z]
      rfl
    · rw [List.getElem?_eq_none (by rw [wd_len]; omega), List.getElem?_eq_none z]
  · intro h i hi
    have hlen : q - s = (wds.getD w []).length := by rw [← h, wd_len]
    rw [oivW w hw i hi, ← hlen]
    split
    · rename_i z
      rw [← h, List.getD_eq_getElem?_getD, wd_get (by omega)]
      rfl
    · rfl
theorem sgn_le : ∀ x : Int32, sgn x ≤ 22 := by
  intro x; unfold sgn
  repeat' split
  all_goals decide
section RLEX
variable {g : GS} {l : Launch} {Γ : Sh} {iv : IV} {rv : RV} {lv : LV}
set_option maxRecDepth 4000 in
theorem ct_isBlank (d : Nat) (v : Int32) : Ct g l mX2_isBlank (d) 0 0 [.int v] Γ iv rv lv (qPI (bI (isBl v = true)) Γ iv rv lv) := by
  refine Ct.of (by decide +kernel) (Nat.le_of_ble_eq_true rfl) (Nat.le_of_ble_eq_true rfl) ?_
  refine r_iload0 dX2_isBlank_0 ?_
  refine rn_bipush (32) dX2_isBlank_1 (by decide) ?_
  refine rn_icmp_eq 12 dX2_isBlank_3 rfl (fun c3 => ?_) (fun c3 => ?_)
  · refine rn_iconst (1) dX2_isBlank_12 (by decide) ?_
    refine rn_goto 17 dX2_isBlank_13 rfl ?_
    refine rn_zret dX2_isBlank_17 rfl (by first | decide | exact nar_bI) (Nat.zero_le _) (Nat.zero_le _) ?_
    refine ⟨congrArg (fun z => some (Value.int z)) (bI_t (decide_eq_true (by first | exact Or.inl (by assumption) | exact Or.inr (by assumption)))).symm, rfl, rfl, rfl, rfl⟩
  · refine r_iload0 dX2_isBlank_6 ?_
    refine rn_bipush (10) dX2_isBlank_7 (by decide) ?_
    refine rn_icmp_ne 16 dX2_isBlank_9 rfl (fun c9 => ?_) (fun c9 => ?_)
    · refine rn_iconst (0) dX2_isBlank_16 (by decide) ?_
      refine rn_zret dX2_isBlank_17 rfl (by first | decide | exact nar_bI) (Nat.zero_le _) (Nat.zero_le _) ?_
      refine ⟨congrArg (fun z => some (Value.int z)) (bI_f (fun z => by have z := of_decide_eq_true z; simp_all)).symm, rfl, rfl, rfl, rfl⟩
    · refine rn_iconst (1) dX2_isBlank_12 (by decide) ?_
      refine rn_goto 17 dX2_isBlank_13 rfl ?_
      refine rn_zret dX2_isBlank_17 rfl (by first | decide | exact nar_bI) (Nat.zero_le _) (Nat.zero_le _) ?_
      refine ⟨congrArg (fun z => some (Value.int z)) (bI_t (decide_eq_true (by first | exact Or.inl (by assumption) | exact Or.inr (by assumption)))).symm, rfl, rfl, rfl, rfl⟩
set_option maxRecDepth 4000 in
theorem ct_isDigit (d : Nat) (v : Int32) : Ct g l mX2_isDigit (d) 0 0 [.int v] Γ iv rv lv (qPI (bI (isDg v = true)) Γ iv rv lv) := by
  refine Ct.of (by decide +kernel) (Nat.le_of_ble_eq_true rfl) (Nat.le_of_ble_eq_true rfl) ?_
  refine rn_bipush (48) dX2_isDigit_0 (by decide) ?_
  refine r_iload0 dX2_isDigit_2 ?_
  refine rn_icmp_gt 16 dX2_isDigit_3 rfl (fun c3 => ?_) (fun c3 => ?_)
  · refine rn_iconst (0) dX2_isDigit_16 (by decide) ?_
    refine rn_zret dX2_isDigit_17 rfl (by first | decide | exact nar_bI) (Nat.zero_le _) (Nat.zero_le _) ?_
    refine ⟨congrArg (fun z => some (Value.int z)) (bI_f (fun z => by have z := of_decide_eq_true z; simp only [Int32.lt_iff_toInt_lt, Int32.le_iff_toInt_le, Int32.reduceToInt] at *; omega)).symm, rfl, rfl, rfl, rfl⟩
  · refine r_iload0 dX2_isDigit_6 ?_
    refine rn_bipush (57) dX2_isDigit_7 (by decide) ?_
    refine rn_icmp_gt 16 dX2_isDigit_9 rfl (fun c9 => ?_) (fun c9 => ?_)
    · refine rn_iconst (0) dX2_isDigit_16 (by decide) ?_
      refine rn_zret dX2_isDigit_17 rfl (by first | decide | exact nar_bI) (Nat.zero_le _) (Nat.zero_le _) ?_
      refine ⟨congrArg (fun z => some (Value.int z)) (bI_f (fun z => by have z := of_decide_eq_true z; simp only [Int32.lt_iff_toInt_lt, Int32.le_iff_toInt_le, Int32.reduceToInt] at *; omega)).symm, rfl, rfl, rfl, rfl⟩
    · refine rn_iconst (1) dX2_isDigit_12 (by decide) ?_
      refine rn_goto 17 dX2_isDigit_13 rfl ?_
      refine rn_zret dX2_isDigit_17 rfl (by first | decide | exact nar_bI) (Nat.zero_le _) (Nat.zero_le _) ?_
      refine ⟨congrArg (fun z => some (Value.int z)) (bI_t (decide_eq_true (by simp only [Int32.lt_iff_toInt_lt, Int32.le_iff_toInt_le, Int32.reduceToInt] at *; omega))).symm, rfl, rfl, rfl, rfl⟩
set_option maxRecDepth 4000 in
theorem ct_isLetterX (d : Nat) (v : Int32) : Ct g l mX2_isLetter (d) 0 0 [.int v] Γ iv rv lv (qPI (bI (isLe v = true)) Γ iv rv lv) := by
  refine Ct.of (by decide +kernel) (Nat.le_of_ble_eq_true rfl) (Nat.le_of_ble_eq_true rfl) ?_
  refine rn_bipush (97) dX2_isLetter_0 (by decide) ?_
  refine r_iload0 dX2_isLetter_2 ?_
  refine rn_icmp_gt 16 dX2_isLetter_3 rfl (fun c3 => ?_) (fun c3 => ?_)
  · refine rn_iconst (0) dX2_isLetter_16 (by decide) ?_
    refine rn_zret dX2_isLetter_17 rfl (by first | decide | exact nar_bI) (Nat.zero_le _) (Nat.zero_le _) ?_
    refine ⟨congrArg (fun z => some (Value.int z)) (bI_f (fun z => by have z := of_decide_eq_true z; simp only [Int32.lt_iff_toInt_lt, Int32.le_iff_toInt_le, Int32.reduceToInt] at *; omega)).symm, rfl, rfl, rfl, rfl⟩
  · refine r_iload0 dX2_isLetter_6 ?_
    refine rn_bipush (122) dX2_isLetter_7 (by decide) ?_
    refine rn_icmp_gt 16 dX2_isLetter_9 rfl (fun c9 => ?_) (fun c9 => ?_)
    · refine rn_iconst (0) dX2_isLetter_16 (by decide) ?_
      refine rn_zret dX2_isLetter_17 rfl (by first | decide | exact nar_bI) (Nat.zero_le _) (Nat.zero_le _) ?_
      refine ⟨congrArg (fun z => some (Value.int z)) (bI_f (fun z => by have z := of_decide_eq_true z; simp only [Int32.lt_iff_toInt_lt, Int32.le_iff_toInt_le, Int32.reduceToInt] at *; omega)).symm, rfl, rfl, rfl, rfl⟩
    · refine rn_iconst (1) dX2_isLetter_12 (by decide) ?_
      refine rn_goto 17 dX2_isLetter_13 rfl ?_
      refine rn_zret dX2_isLetter_17 rfl (by first | decide | exact nar_bI) (Nat.zero_le _) (Nat.zero_le _) ?_
      refine ⟨congrArg (fun z => some (Value.int z)) (bI_t (decide_eq_true (by simp only [Int32.lt_iff_toInt_lt, Int32.le_iff_toInt_le, Int32.reduceToInt] at *; omega))).symm, rfl, rfl, rfl, rfl⟩
theorem ra_skip {d : Nat} {Q : Qt} {v1 : Value} (hR : ShR Γ rv) {b : Nat → Int32} {n : Nat} : ∀ (k p : Nat) (iv : IV), n - p < k → TxR iv b n → iv 16 3 = nI p → p ≤ n →
    (∀ iv', Off (fun a b => a = 16 ∧ b = 3) iv iv' → iv' 16 3 = nI (scanTo isBl b n p) → Rn g l mX2_advance (rmA (d + 1) 0 0) Q 0 0 48 [.ref 16, v1] [] Γ iv' rv lv) → Rn g l mX2_advance (rmA (d + 1) 0 0) Q 0 0 9 [.ref 16, v1] [] Γ iv rv lv := by
  intro k
  induction k with
  | zero => intro p iv h; omega
  | succ k ih =>
    intro p iv hk hT hp hpn kk
    have h0 := hT.1
    have hn160 : n ≤ 160 := hT.2.1
    refine r_aload0 dX2_advance_9 ?_
    refine gf_X2_22 dX2_advance_10 rfl hR.1 ?_
    refine r_aload0 dX2_advance_13 ?_
    refine gf_X2_9 dX2_advance_14 rfl hR.1 ?_
    refine rn_icmp_ge 48 dX2_advance_17 rfl (fun c17 => ?_) (fun c17 => ?_)
    · rw [h0, hp, nI_leI (by omega) (by omega)] at c17
      exact kk iv Off.refl (by rw [scanTo_stop (by omega)]; exact hp)
    · refine r_aload0 dX2_advance_20 ?_
      refine gf_X2_18 dX2_advance_21 rfl hR.1 hR.2.1 ?_
      refine r_aload0 dX2_advance_24 ?_
      refine gf_X2_22 dX2_advance_25 rfl hR.1 ?_
      refine rn_iald p dX2_advance_28 hR.2.2.1 hp (by rw [h0, hp, nI_leI (by omega) (by omega)] at c17; omega) (by decide) ?_
      refine cpiS1 dX2_advance_29 os_X2_isBlank rfl ml_X2_87 (Nat.zero_le _) (Nat.zero_le _) (Nat.zero_le _) (ct_isBlank _ _) ?_
      refine rn_if_eq 48 dX2_advance_32 rfl (fun c32 => ?_) (fun c32 => ?_)
      · rw [bI_0] at c32
        rw [h0, hp, nI_leI (by omega) (by omega)] at c17
        rw [hT.2.2.1 p (by omega)] at c32
        exact kk iv Off.refl (by rw [scanTo_stop (fun z => c32 z.2)]; exact hp)
      · refine r_aload0 dX2_advance_35 ?_
        refine rn_dup dX2_advance_36 rfl ?_
        refine gf_X2_22 dX2_advance_37 rfl hR.1 ?_
        refine rn_iconst (1) dX2_advance_40 (by decide) ?_
        refine rn_iadd dX2_advance_41 ?_
        refine pf_X2_22 dX2_advance_42 rfl hR.1 ?_
        refine rn_goto 9 dX2_advance_45 rfl ?_
        rw [h0, hp, nI_leI (by omega) (by omega)] at c17
        have cc := bI_1.mp (bI_or.resolve_left c32)
        rw [hT.2.2.1 p (by omega)] at cc
        exact ih (p + 1) _ (by omega) (hT.lx (off_up (by decide))) (by rw [up_same, hp]; exact nI_1 p) (by omega) (fun iv2 h1 h2 => kk iv2 ((off_up (by decide)).trans h1) (by rw [h2, scanTo_go (by omega) cc]))
theorem rw_scan {d : Nat} {Q : Qt} {v1 : Value} (hR : ShR Γ rv) {b : Nat → Int32} {n : Nat} : ∀ (k p : Nat) (iv : IV), n - p < k → TxR iv b n → iv 16 3 = nI p → p ≤ n →
    (∀ iv', Off (fun a b => a = 16 ∧ b = 3) iv iv' → iv' 16 3 = nI (scanTo isLe b n p) → Rn g l mX2_readWord (rmA (d + 1) 0 0) Q 0 0 39 [.ref 16, v1] [] Γ iv' rv lv) → Rn g l mX2_readWord (rmA (d + 1) 0 0) Q 0 0 0 [.ref 16, v1] [] Γ iv rv lv := by
  intro k
  induction k with
  | zero => intro p iv h; omega
  | succ k ih =>
    intro p iv hk hT hp hpn kk
    have h0 := hT.1
    have hn160 : n ≤ 160 := hT.2.1
    refine r_aload0 dX2_readWord_0 ?_
    refine gf_X2_22 dX2_readWord_1 rfl hR.1 ?_
    refine r_aload0 dX2_readWord_4 ?_
    refine gf_X2_9 dX2_readWord_5 rfl hR.1 ?_
    refine rn_icmp_ge 39 dX2_readWord_8 rfl (fun c8 => ?_) (fun c8 => ?_)
    · rw [h0, hp, nI_leI (by omega) (by omega)] at c8
      exact kk iv Off.refl (by rw [scanTo_stop (by omega)]; exact hp)
    · refine r_aload0 dX2_readWord_11 ?_
      refine gf_X2_18 dX2_readWord_12 rfl hR.1 hR.2.1 ?_
      refine r_aload0 dX2_readWord_15 ?_
      refine gf_X2_22 dX2_readWord_16 rfl hR.1 ?_
      refine rn_iald p dX2_readWord_19 hR.2.2.1 hp (by rw [h0, hp, nI_leI (by omega) (by omega)] at c8; omega) (by decide) ?_
      refine cpiS1 dX2_readWord_20 os_X2_isLetter rfl ml_X2_96 (Nat.zero_le _) (Nat.zero_le _) (Nat.zero_le _) (ct_isLetterX _ _) ?_
      refine rn_if_eq 39 dX2_readWord_23 rfl (fun c23 => ?_) (fun c23 => ?_)
      · rw [bI_0] at c23
        rw [h0, hp, nI_leI (by omega) (by omega)] at c8
        rw [hT.2.2.1 p (by omega)] at c23
        exact kk iv Off.refl (by rw [scanTo_stop (fun z => c23 z.2)]; exact hp)
      · refine r_aload0 dX2_readWord_26 ?_
        refine rn_dup dX2_readWord_27 rfl ?_
        refine gf_X2_22 dX2_readWord_28 rfl hR.1 ?_
        refine rn_iconst (1) dX2_readWord_31 (by decide) ?_
        refine rn_iadd dX2_readWord_32 ?_
        refine pf_X2_22 dX2_readWord_33 rfl hR.1 ?_
        refine rn_goto 0 dX2_readWord_36 rfl ?_
        rw [h0, hp, nI_leI (by omega) (by omega)] at c8
        have cc := bI_1.mp (bI_or.resolve_left c23)
        rw [hT.2.2.1 p (by omega)] at cc
        exact ih (p + 1) _ (by omega) (hT.lx (off_up (by decide))) (by rw [up_same, hp]; exact nI_1 p) (by omega) (fun iv2 h1 h2 => kk iv2 ((off_up (by decide)).trans h1) (by rw [h2, scanTo_go (by omega) cc]))
theorem rn_scan {d : Nat} {Q : Qt} (hR : ShR Γ rv) {b : Nat → Int32} {n s : Nat} : ∀ (k p c : Nat) (iv : IV), n - p < k → TxR iv b n → iv 16 3 = nI p → p ≤ n → s + c = p → iv 16 6 = numv b c s 0 →
    (∀ iv' c', Off (fun a b => a = 16 ∧ (b = 3 ∨ b = 6)) iv iv' → scanTo isDg b n p = s + c' → iv' 16 3 = nI (s + c') → iv' 16 6 = numv b c' s 0 → Rn g l mX2_readNumber (rmA (d + 1) 0 0) Q 0 0 68 [.ref 16] [] Γ iv' rv lv) → Rn g l mX2_readNumber (rmA (d + 1) 0 0) Q 0 0 5 [.ref 16] [] Γ iv rv lv := by
  intro k
  induction k with
  | zero => intro p c iv h; omega
  | succ k ih =>
    intro p c iv hk hT hp hpn hc hv kk
    have h0 := hT.1
    have hn160 : n ≤ 160 := hT.2.1
    refine r_aload0 dX2_readNumber_5 ?_
    refine gf_X2_22 dX2_readNumber_6 rfl hR.1 ?_
    refine r_aload0 dX2_readNumber_9 ?_
    refine gf_X2_9 dX2_readNumber_10 rfl hR.1 ?_
    refine rn_icmp_ge 68 dX2_readNumber_13 rfl (fun c13 => ?_) (fun c13 => ?_)
    · rw [h0, hp, nI_leI (by omega) (by omega)] at c13
      exact kk iv c Off.refl (by rw [scanTo_stop (by omega)]; exact hc.symm) (by rw [hc]; exact hp) hv
    · refine r_aload0 dX2_readNumber_16 ?_
      refine gf_X2_18 dX2_readNumber_17 rfl hR.1 hR.2.1 ?_
      refine r_aload0 dX2_readNumber_20 ?_
      refine gf_X2_22 dX2_readNumber_21 rfl hR.1 ?_
      refine rn_iald p dX2_readNumber_24 hR.2.2.1 hp (by rw [h0, hp, nI_leI (by omega) (by omega)] at c13; omega) (by decide) ?_
      refine cpiS1 dX2_readNumber_25 os_X2_isDigit rfl ml_X2_90 (Nat.zero_le _) (Nat.zero_le _) (Nat.zero_le _) (ct_isDigit _ _) ?_
      refine rn_if_eq 68 dX2_readNumber_28 rfl (fun c28 => ?_) (fun c28 => ?_)
      · rw [bI_0] at c28
        rw [h0, hp, nI_leI (by omega) (by omega)] at c13
        rw [hT.2.2.1 p (by omega)] at c28
        exact kk iv c Off.refl (by rw [scanTo_stop (fun z => c28 z.2)]; exact hc.symm) (by rw [hc]; exact hp) hv
      · refine r_aload0 dX2_readNumber_31 ?_
        refine r_aload0 dX2_readNumber_32 ?_
        refine gf_X2_31 dX2_readNumber_33 rfl hR.1 ?_
        refine rn_bipush (10) dX2_readNumber_36 (by decide) ?_
        refine rn_imul dX2_readNumber_38 ?_
        refine r_aload0 dX2_readNumber_39 ?_
        refine gf_X2_18 dX2_readNumber_40 rfl hR.1 hR.2.1 ?_
        refine r_aload0 dX2_readNumber_43 ?_
        refine gf_X2_22 dX2_readNumber_44 rfl hR.1 ?_
        refine rn_iald p dX2_readNumber_47 hR.2.2.1 hp (by rw [h0, hp, nI_leI (by omega) (by omega)] at c13; omega) (by decide) ?_
        refine rn_iadd dX2_readNumber_48 ?_
        refine rn_bipush (48) dX2_readNumber_49 (by decide) ?_
        refine rn_isub dX2_readNumber_51 ?_
        refine pf_X2_31 dX2_readNumber_52 rfl hR.1 ?_
        refine r_aload0 dX2_readNumber_55 ?_
        refine rn_dup dX2_readNumber_56 rfl ?_
        refine gf_X2_22 dX2_readNumber_57 rfl hR.1 ?_
        refine rn_iconst (1) dX2_readNumber_60 (by decide) ?_
        refine rn_iadd dX2_readNumber_61 ?_
        refine pf_X2_22 dX2_readNumber_62 rfl hR.1 ?_
        refine rn_goto 5 dX2_readNumber_65 rfl ?_
        rw [h0, hp, nI_leI (by omega) (by omega)] at c13
        have cc := bI_1.mp (bI_or.resolve_left c28)
        rw [hT.2.2.1 p (by omega)] at cc
        refine ih (p + 1) (c + 1) _ (by omega) (hT.lx ((off_up (by decide)).trans (off_up (by decide)))) (by rw [up_same]; show iv 16 3 + 1 = _; rw [hp]; exact nI_1 p) (by omega) (by omega) ?_ (fun iv2 c2 h1 h2 h3 h4 => kk iv2 c2 (((off_up (by decide)).trans (off_up (by decide))).trans h1) (by rw [scanTo_go (by omega) cc]; exact h2) h3 h4)
        show iv 16 6 * 10 + iv 17 p - 48 = _
        rw [numv_snoc, hv, hc, hT.2.2.1 p (by omega)]
theorem ct_readNumber (d : Nat) (hR : ShR Γ rv) {b : Nat → Int32} {n s : Nat} (hT : TxR iv b n) (h3 : iv 16 3 = nI s) (h5 : iv 16 5 = nI s) (hs : s ≤ n) : Ct g l mX2_readNumber (d + 1) 0 0 [.ref 16] Γ iv rv lv (qCV Γ rv lv (fun iv' => Off LxR iv iv' ∧ iv' 16 3 = nI (scanTo isDg b n s) ∧ iv' 16 6 = numv b (scanTo isDg b n s - s) s 0 ∧ iv' 16 5 = nI s ∧ iv' 16 4 = nI (if scanTo isDg b n s - s ≤ 4 then 12 else 14))) := by
  refine Ct.of (by decide +kernel) (Nat.le_of_ble_eq_true rfl) (Nat.le_of_ble_eq_true rfl) ?_
  refine r_aload0 dX2_readNumber_0 ?_
  refine rn_iconst (0) dX2_readNumber_1 (by decide) ?_
  refine pf_X2_31 dX2_readNumber_2 rfl hR.1 ?_
  refine rn_scan hR (n - s + 1) s 0 (up iv 16 6 0) (by omega) (hT.lx (off_up (by decide))) h3 hs rfl rfl (fun iv1 c h1 h2 h4 h6 => ?_)
  have hle := scanTo_le (P := isDg) (b := b) (n := n) (p := s) hs
  rw [h2] at hle
  have hn160 : n ≤ 160 := hT.2.1
  have h5' : iv1 16 5 = nI s := (h1 16 5 (by decide)).trans h5
  refine r_aload0 dX2_readNumber_68 ?_
  refine r_aload0 dX2_readNumber_69 ?_
  refine gf_X2_22 dX2_readNumber_70 rfl hR.1 ?_
  refine r_aload0 dX2_readNumber_73 ?_
  refine gf_X2_28 dX2_readNumber_74 rfl hR.1 ?_
  refine rn_isub dX2_readNumber_77 ?_
  refine rn_iconst (4) dX2_readNumber_78 (by decide) ?_
  refine rn_icmp_gt 87 dX2_readNumber_79 rfl (fun c79 => ?_) (fun c79 => ?_)
  · refine rn_bipush (14) dX2_readNumber_87 (by decide) ?_
    refine pf_X2_25 dX2_readNumber_89 rfl hR.1 ?_
    refine rn_vret dX2_readNumber_92 rfl (Nat.zero_le _) (Nat.zero_le _) ?_
    refine ⟨rfl, rfl, rfl, rfl, ((off_up (by decide)).trans (h1.mono (fun a b z => by rcases z with ⟨rfl, rfl | rfl⟩ <;> decide))).trans (off_up (by decide)), h4.trans (by rw [h2]), h6.trans (by rw [h2, show s + c - s = c by omega]), h5', ?_⟩
    show _ = nI (if _ then 12 else 14)
    rw [h4, h5', pk_sub (by omega), show (4 : Int32) = nI 4 by decide, nI_ltI (by omega) (by omega)] at c79
    rw [h2, if_neg (by omega)]
    rfl
  · refine rn_bipush (12) dX2_readNumber_82 (by decide) ?_
    refine rn_goto 89 dX2_readNumber_84 rfl ?_
    refine pf_X2_25 dX2_readNumber_89 rfl hR.1 ?_
    refine rn_vret dX2_readNumber_92 rfl (Nat.zero_le _) (Nat.zero_le _) ?_
    refine ⟨rfl, rfl, rfl, rfl, ((off_up (by decide)).trans (h1.mono (fun a b z => by rcases z with ⟨rfl, rfl | rfl⟩ <;> decide))).trans (off_up (by decide)), h4.trans (by rw [h2]), h6.trans (by rw [h2, show s + c - s = c by omega]), h5', ?_⟩
    show _ = nI (if _ then 12 else 14)
    rw [h4, h5', pk_sub (by omega), show (4 : Int32) = nI 4 by decide, nI_ltI (by omega) (by omega)] at c79
    rw [h2, if_pos (by omega)]
    rfl
end RLEX
