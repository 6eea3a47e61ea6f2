/-! THE CLASS: sheets, slowed, taken -/
def SheetsC (iv η : IV) : Prop := ∀ s, s < 4 → iv (67 + 2 * s) 1 = η s 0 ∧ (¬ η s 0 = -1 → iv (67 + 2 * s) 2 = η s 1 ∧ ∀ i, i < (η s 1).toNatClampNeg → iv (68 + 2 * s) i = η s (2 + i))
def ShS (Γ : Sh) (rv : RV) (s : Nat) : Prop := rv 21 s = 67 + 2 * s ∧ IsK Γ (67 + 2 * s) 5 ∧ rv (67 + 2 * s) 0 = 68 + 2 * s ∧ IsA Γ (68 + 2 * s) 20 40
theorem ShX.sh {Γ : Sh} {rv : RV} (h : ShX Γ rv) {s : Nat} (hs : s < 4) : ShS Γ rv s := h.2.2.2.2.2.2.2.2.2 s hs
abbrev Sk (a _ : Nat) : Prop := 67 ≤ a ∧ a ≤ 74
def RowC (iv η : IV) (s : Nat) : Prop := iv (67 + 2 * s) 1 = η s 0 ∧ (¬ η s 0 = -1 → iv (67 + 2 * s) 2 = η s 1 ∧ ∀ i, i < (η s 1).toNatClampNeg → iv (68 + 2 * s) i = η s (2 + i))
theorem SheetsC.row {iv iv' η η' : IV} {s : Nat} (h : SheetsC iv η) (ho : Off (fun a _ => a = 67 + 2 * s ∨ a = 68 + 2 * s) iv iv') (he : ∀ a b, a ≠ s → η' a b = η a b) (hr : RowC iv' η' s) : SheetsC iv' η' := by
  intro a ha
  by_cases e : a = s
  · subst e; exact hr
  · obtain ⟨h1, h2⟩ := h a ha
    rw [he a 0 e, he a 1 e]
    exact ⟨(ho _ _ (by omega)).trans h1, fun hm => ⟨(ho _ _ (by omega)).trans (h2 hm).1, fun i hi => by rw [he a _ e]; exact (ho _ _ (by omega)).trans ((h2 hm).2 i hi)⟩⟩
theorem SheetsC.off {iv iv' η : IV} {P : Nat → Nat → Prop} (h : SheetsC iv η) (ho : Off P iv iv') (hp : ∀ a b, P a b → ¬ (67 ≤ a ∧ a ≤ 74)) : SheetsC iv' η := fun s hs => ⟨(ho _ _ (fun z => hp _ _ z (by omega))).trans (h s hs).1, fun hm => ⟨(ho _ _ (fun z => hp _ _ z (by omega))).trans ((h s hs).2 hm).1, fun i hi => (ho _ _ (fun z => hp _ _ z (by omega))).trans (((h s hs).2 hm).2 i hi)⟩⟩
theorem so_ne {so : Int32} (h1 : -1 ≤ so) (h2 : ¬ so = -1) : 0 ≤ so := by
  simp only [Int32.le_iff_toInt_le, Int32.reduceToInt, ← Int32.toInt_inj] at *; omega
theorem nxI_next {ρ : IV} {γ : Nat} (hg : GR ρ) (hlt : uO ρ + vO ρ < 24) : nxI ρ γ = nI (nextN ρ γ) := by
  unfold nxI nextN
  by_cases h : γ = 0
  · rw [if_pos h, if_pos h]; exact hg.1
  · rw [if_neg h, if_neg h, hg.2.1, show (23 : Int32) = nI 23 by decide, pk_sub (by omega)]
theorem span_iff {N : Nat} (hN : N ≤ 40) {i n : Int32} : (0 ≤ i ∧ 0 ≤ n ∧ n ≤ nI N ∧ i ≤ nI N - n) ↔ (0 ≤ i ∧ 0 ≤ n) ∧ i.toNatClampNeg + n.toNatClampNeg ≤ N := by
  constructor
  · rintro ⟨h1, h2, -, h4⟩
    exact ⟨⟨h1, h2⟩, (spn_iff hN h1 h2).mp h4⟩
  · rintro ⟨⟨h1, h2⟩, h3⟩
    refine ⟨h1, h2, ?_, (spn_iff hN h1 h2).mpr h3⟩
    rw [(nnI h2).1]
    exact nI_le (by omega) (by omega)
section CSHEET
variable {g : GS} {l : Launch} {Γ : Sh} {iv : IV} {rv : RV} {lv : LV}
set_option maxRecDepth 4000 in
theorem ct_isMissing (d : Nat) {s : Nat} (hs : ShS Γ rv s) : Ct g l mX5_isMissing (d) 0 0 [.ref (67 + 2 * s)] Γ iv rv lv (qPI (bI (iv (67 + 2 * s) 1 = -1)) Γ iv rv lv) := by
  refine Ct.of (by decide +kernel) (Nat.le_of_ble_eq_true rfl) (Nat.le_of_ble_eq_true rfl) ?_
  refine r_aload0 dX5_isMissing_0 ?_
  refine gf_X5_15 dX5_isMissing_1 rfl hs.2.1 ?_
  refine rn_iconst (-1) dX5_isMissing_4 (by decide) ?_
  refine rn_icmp_ne 12 dX5_isMissing_5 rfl (fun c5 => ?_) (fun c5 => ?_)
  · refine rn_iconst (0) dX5_isMissing_12 (by decide) ?_
    refine rn_zret dX5_isMissing_13 rfl (by first | decide | exact nar_bI) (Nat.zero_le _) (Nat.zero_le _) ?_
    refine ⟨congrArg (fun z => some (Value.int z)) (bI_f c5).symm, rfl, rfl, rfl, rfl⟩
  · refine rn_iconst (1) dX5_isMissing_8 (by decide) ?_
    refine rn_goto 13 dX5_isMissing_9 rfl ?_
    refine rn_zret dX5_isMissing_13 rfl (by first | decide | exact nar_bI) (Nat.zero_le _) (Nat.zero_le _) ?_
    refine ⟨congrArg (fun z => some (Value.int z)) (bI_t c5).symm, rfl, rfl, rfl, rfl⟩
set_option maxRecDepth 4000 in
theorem ct_has (d : Nat) {s : Nat} (hs : ShS Γ rv s) (i : Int32) : Ct g l mX5_has (d) 0 0 [.ref (67 + 2 * s), .int i] Γ iv rv lv (qPI (bI (0 ≤ i ∧ i < iv (67 + 2 * s) 2)) Γ iv rv lv) := by
  refine Ct.of (by decide +kernel) (Nat.le_of_ble_eq_true rfl) (Nat.le_of_ble_eq_true rfl) ?_
  refine rn_iconst (0) dX5_has_0 (by decide) ?_
  refine r_iload1 dX5_has_1 ?_
  refine rn_icmp_gt 17 dX5_has_2 rfl (fun c2 => ?_) (fun c2 => ?_)
  · refine rn_iconst (0) dX5_has_17 (by decide) ?_
    refine rn_zret dX5_has_18 rfl (by first | decide | exact nar_bI) (Nat.zero_le _) (Nat.zero_le _) ?_
    refine ⟨congrArg (fun z => some (Value.int z)) (bI_f (fun z => absurd c2 (Int32.not_lt.mpr z.1))).symm, rfl, rfl, rfl, rfl⟩
  · refine r_iload1 dX5_has_5 ?_
    refine r_aload0 dX5_has_6 ?_
    refine gf_X5_19 dX5_has_7 rfl hs.2.1 ?_
    refine rn_icmp_ge 17 dX5_has_10 rfl (fun c10 => ?_) (fun c10 => ?_)
    · refine rn_iconst (0) dX5_has_17 (by decide) ?_
      refine rn_zret dX5_has_18 rfl (by first | decide | exact nar_bI) (Nat.zero_le _) (Nat.zero_le _) ?_
      refine ⟨congrArg (fun z => some (Value.int z)) (bI_f (fun z => absurd c10 (Int32.not_le.mpr z.2))).symm, rfl, rfl, rfl, rfl⟩
    · refine rn_iconst (1) dX5_has_13 (by decide) ?_
      refine rn_goto 18 dX5_has_14 rfl ?_
      refine rn_zret dX5_has_18 rfl (by first | decide | exact nar_bI) (Nat.zero_le _) (Nat.zero_le _) ?_
      refine ⟨congrArg (fun z => some (Value.int z)) (bI_t ⟨Int32.not_lt.mp c2, Int32.not_le.mp c10⟩).symm, rfl, rfl, rfl, rfl⟩
set_option maxRecDepth 4000 in
theorem ct_hasSpan (d : Nat) {s : Nat} (hs : ShS Γ rv s) (i n : Int32) : Ct g l mX5_hasSpan (d) 0 0 [.ref (67 + 2 * s), .int i, .int n] Γ iv rv lv (qPI (bI (0 ≤ i ∧ 0 ≤ n ∧ n ≤ iv (67 + 2 * s) 2 ∧ i ≤ iv (67 + 2 * s) 2 - n)) Γ iv rv lv) := by
  refine Ct.of (by decide +kernel) (Nat.le_of_ble_eq_true rfl) (Nat.le_of_ble_eq_true rfl) ?_
  refine rn_iconst (0) dX5_hasSpan_0 (by decide) ?_
  refine r_iload1 dX5_hasSpan_1 ?_
  refine rn_icmp_gt 32 dX5_hasSpan_2 rfl (fun c2 => ?_) (fun c2 => ?_)
  · refine rn_iconst (0) dX5_hasSpan_32 (by decide) ?_
    refine rn_zret dX5_hasSpan_33 rfl (by first | decide | exact nar_bI) (Nat.zero_le _) (Nat.zero_le _) ?_
    refine ⟨congrArg (fun z => some (Value.int z)) (bI_f (fun z => absurd c2 (Int32.not_lt.mpr z.1))).symm, rfl, rfl, rfl, rfl⟩
  · refine rn_iconst (0) dX5_hasSpan_5 (by decide) ?_
    refine r_iload2 dX5_hasSpan_6 ?_
    refine rn_icmp_gt 32 dX5_hasSpan_7 rfl (fun c7 => ?_) (fun c7 => ?_)
    · refine rn_iconst (0) dX5_hasSpan_32 (by decide) ?_
      refine rn_zret dX5_hasSpan_33 rfl (by first | decide | exact nar_bI) (Nat.zero_le _) (Nat.zero_le _) ?_
      refine ⟨congrArg (fun z => some (Value.int z)) (bI_f (fun z => absurd c7 (Int32.not_lt.mpr z.2.1))).symm, rfl, rfl, rfl, rfl⟩
    · refine r_iload2 dX5_hasSpan_10 ?_
      refine r_aload0 dX5_hasSpan_11 ?_
      refine gf_X5_19 dX5_hasSpan_12 rfl hs.2.1 ?_
      refine rn_icmp_gt 32 dX5_hasSpan_15 rfl (fun c15 => ?_) (fun c15 => ?_)
      · refine rn_iconst (0) dX5_hasSpan_32 (by decide) ?_
        refine rn_zret dX5_hasSpan_33 rfl (by first | decide | exact nar_bI) (Nat.zero_le _) (Nat.zero_le _) ?_
        refine ⟨congrArg (fun z => some (Value.int z)) (bI_f (fun z => absurd c15 (Int32.not_lt.mpr z.2.2.1))).symm, rfl, rfl, rfl, rfl⟩
      · refine r_iload1 dX5_hasSpan_18 ?_
        refine r_aload0 dX5_hasSpan_19 ?_
        refine gf_X5_19 dX5_hasSpan_20 rfl hs.2.1 ?_
        refine r_iload2 dX5_hasSpan_23 ?_
        refine rn_isub dX5_hasSpan_24 ?_
        refine rn_icmp_gt 32 dX5_hasSpan_25 rfl (fun c25 => ?_) (fun c25 => ?_)
        · refine rn_iconst (0) dX5_hasSpan_32 (by decide) ?_
          refine rn_zret dX5_hasSpan_33 rfl (by first | decide | exact nar_bI) (Nat.zero_le _) (Nat.zero_le _) ?_
          refine ⟨congrArg (fun z => some (Value.int z)) (bI_f (fun z => absurd c25 (Int32.not_lt.mpr z.2.2.2))).symm, rfl, rfl, rfl, rfl⟩
        · refine rn_iconst (1) dX5_hasSpan_28 (by decide) ?_
          refine rn_goto 33 dX5_hasSpan_29 rfl ?_
          refine rn_zret dX5_hasSpan_33 rfl (by first | decide | exact nar_bI) (Nat.zero_le _) (Nat.zero_le _) ?_
          refine ⟨congrArg (fun z => some (Value.int z)) (bI_t ⟨Int32.not_lt.mp c2, Int32.not_lt.mp c7, Int32.not_lt.mp c15, Int32.not_lt.mp c25⟩).symm, rfl, rfl, rfl, rfl⟩
set_option maxRecDepth 4000 in
theorem ct_cut (d : Nat) {s : Nat} (hs : ShS Γ rv s) (v : Int32) : Ct g l mX5_cut (d) 0 0 [.ref (67 + 2 * s), .int v] Γ iv rv lv (qPI (cutS (iv (67 + 2 * s) 1) v) Γ iv rv lv) := by
  refine Ct.of (by decide +kernel) (Nat.le_of_ble_eq_true rfl) (Nat.le_of_ble_eq_true rfl) ?_
  refine r_aload0 dX5_cut_0 ?_
  refine gf_X5_15 dX5_cut_1 rfl hs.2.1 ?_
  refine rn_if_ne 10 dX5_cut_4 rfl (fun c4 => ?_) (fun c4 => ?_)
  · refine r_aload0 dX5_cut_10 ?_
    refine gf_X5_15 dX5_cut_11 rfl hs.2.1 ?_
    refine rn_iconst (1) dX5_cut_14 (by decide) ?_
    refine rn_icmp_ne 23 dX5_cut_15 rfl (fun c15 => ?_) (fun c15 => ?_)
    · refine r_iload1 dX5_cut_23 ?_
      refine rn_iret dX5_cut_24 rfl (Nat.zero_le _) (Nat.zero_le _) ?_
      refine ⟨congrArg (fun z => some (Value.int z)) ?_, rfl, rfl, rfl, rfl⟩
      unfold cutS
      rw [if_neg c4, if_neg c15]
    · refine r_iload1 dX5_cut_18 ?_
      refine rn_i2s dX5_cut_19 ?_
      refine rn_goto 24 dX5_cut_20 rfl ?_
      refine rn_iret dX5_cut_24 rfl (Nat.zero_le _) (Nat.zero_le _) ?_
      refine ⟨congrArg (fun z => some (Value.int z)) ?_, rfl, rfl, rfl, rfl⟩
      unfold cutS
      rw [if_neg c4, if_pos c15]
  · refine r_iload1 dX5_cut_7 ?_
    refine rn_i2b dX5_cut_8 ?_
    refine rn_iret dX5_cut_9 rfl (Nat.zero_le _) (Nat.zero_le _) ?_
    refine ⟨congrArg (fun z => some (Value.int z)) ?_, rfl, rfl, rfl, rfl⟩
    unfold cutS
    rw [if_pos c4]
set_option maxRecDepth 4000 in
theorem fil_loop {D : Nat} {Q : Qt} {a : Nat} (hA : IsA Γ a 20 40) {iv0 : IV} : ∀ (n i : Nat) (iv : IV) (x : Int32), i + n = 40 → x = nI i → Off (fun b _ => b = a) iv0 iv → (∀ j, j < i → iv a j = 0) → (∀ iv : IV, Off (fun b _ => b = a) iv0 iv → (∀ j, j < 40 → iv a j = 0) → Q none Γ iv rv lv) → Rn g l mJ7_fill_53178 (rmA D 0 0) Q 0 0 5 [.ref a, .int 0, .int x, .int 40] [] Γ iv rv lv := by
  intro n
  induction n with
  | zero =>
    intro i iv x hn hx ho hz kk
    obtain rfl : i = 40 := by omega
    refine r_iload2 dJ7_fill_53178_5 ?_
    refine r_iload3 dJ7_fill_53178_6 ?_
    refine rn_icmp_ge 20 dJ7_fill_53178_7 rfl (fun _ => ?_) (fun h => absurd (by rw [hx]; decide) h)
    refine rn_vret dJ7_fill_53178_20 rfl (Nat.zero_le _) (Nat.zero_le _) ?_
    exact kk _ ho hz
  | succ n ih =>
    intro i iv x hn hx ho hz kk
    refine r_iload2 dJ7_fill_53178_5 ?_
    refine r_iload3 dJ7_fill_53178_6 ?_
    refine rn_icmp_ge 20 dJ7_fill_53178_7 rfl (fun h => absurd h (fun z => by rw [hx, show (40 : Int32) = nI 40 by decide, nI_leI (by decide) (by omega)] at z; omega)) (fun _ => ?_)
    refine r_aload0 dJ7_fill_53178_10 ?_
    refine r_iload2 dJ7_fill_53178_11 ?_
    refine r_iload1 dJ7_fill_53178_12 ?_
    refine rn_iast i dJ7_fill_53178_13 hA hx (by omega) (by decide) ?_
    refine r_iinc2 _ dJ7_fill_53178_14 rfl rfl ?_
    refine rn_goto 5 dJ7_fill_53178_17 rfl ?_
    refine ih (i + 1) _ _ (by omega) (by rw [hx]; exact nI_1 i) (ho.trans (off_up rfl)) (fun j hj => ?_) kk
    by_cases e : j = i
    · subst e; rw [up_same]
    · rw [up_ne2 e]; exact hz j (by omega)
set_option maxRecDepth 4000 in
theorem ct_fill (D : Nat) {a : Nat} (hA : IsA Γ a 20 40) : Ct g l mJ7_fill_53178 (D) 0 0 [.ref a, .int 0] Γ iv rv lv (qCV Γ rv lv (fun iv' => Off (fun b _ => b = a) iv iv' ∧ ∀ j, j < 40 → iv' a j = 0)) := by
  refine Ct.of (by decide +kernel) (Nat.le_of_ble_eq_true rfl) (Nat.le_of_ble_eq_true rfl) ?_
  refine rn_iconst (0) dJ7_fill_53178_0 (by decide) ?_
  refine r_istore2 dJ7_fill_53178_1 rfl ?_
  refine r_aload0 dJ7_fill_53178_2 ?_
  refine rn_alen _ dJ7_fill_53178_3 hA (by decide) rfl ?_
  refine r_istore3 dJ7_fill_53178_4 rfl ?_
  exact fil_loop (D := D) hA 40 0 iv _ (by decide) rfl Off.refl (fun j hj => absurd hj (Nat.not_lt_zero _)) (fun iv ho hz => ⟨rfl, rfl, rfl, rfl, ho, hz⟩)
set_option maxRecDepth 4000 in
theorem ct_become (D : Nat) {s : Nat} (hs : ShS Γ rv s) (so n : Int32) : Ct g l mX5_become (D + 1) 0 0 [.ref (67 + 2 * s), .int so, .int n] Γ iv rv lv (qCV Γ rv lv (fun iv' => Off (fun a _ => a = 67 + 2 * s ∨ a = 68 + 2 * s) iv iv' ∧ iv' (67 + 2 * s) 1 = so ∧ iv' (67 + 2 * s) 2 = n ∧ ∀ j, j < 40 → iv' (68 + 2 * s) j = 0)) := by
  refine Ct.of (by decide +kernel) (Nat.le_of_ble_eq_true rfl) (Nat.le_of_ble_eq_true rfl) ?_
  refine r_aload0 dX5_become_0 ?_
  refine r_iload1 dX5_become_1 ?_
  refine pf_X5_15 dX5_become_2 rfl hs.2.1 ?_
  refine r_aload0 dX5_become_5 ?_
  refine r_iload2 dX5_become_6 ?_
  refine pf_X5_19 dX5_become_7 rfl hs.2.1 ?_
  refine r_aload0 dX5_become_10 ?_
  refine gf_X5_9 dX5_become_11 rfl hs.2.1 hs.2.2.1 ?_
  refine rn_iconst (0) dX5_become_14 (by decide) ?_
  refine ccvS2 dX5_become_15 os_J7_fill_53178 rfl ml_X5_22 (Nat.zero_le _) (Nat.zero_le _) (Nat.zero_le _) (ct_fill _ hs.2.2.2) (fun iv h15 => ?_)
  refine rn_vret dX5_become_18 rfl (Nat.zero_le _) (Nat.zero_le _) ?_
  refine ⟨rfl, rfl, rfl, rfl, ((off_up (Or.inl rfl)).trans (off_up (Or.inl rfl))).trans (h15.1.mono (fun a b z => Or.inr z)), ?_, ?_, h15.2⟩
  · rw [h15.1 _ _ (by omega), up_ne2 (by decide), up_same]
  · rw [h15.1 _ _ (by omega), up_same]
set_option maxRecDepth 4000 in
theorem ct_sheetOf1 (d : Nat) (hX : ShX Γ rv) {x : Int32} (hx : 0 ≤ x ∧ x ≤ 3) : Ct g l mX6_sheetOf (d) 0 0 [.ref 14, .int x] Γ iv rv lv (qPR (67 + 2 * x.toNatClampNeg) Γ iv rv lv) := by
  refine Ct.of (by decide +kernel) (Nat.le_of_ble_eq_true rfl) (Nat.le_of_ble_eq_true rfl) ?_
  refine rn_iconst (0) dX6_sheetOf_0 (by decide) ?_
  refine r_iload1 dX6_sheetOf_1 ?_
  refine rn_icmp_gt 19 dX6_sheetOf_2 rfl (fun h => absurd h (Int32.not_lt.mpr hx.1)) (fun _ => ?_)
  refine r_iload1 dX6_sheetOf_5 ?_
  refine rn_iconst (4) dX6_sheetOf_6 (by decide) ?_
  refine rn_icmp_ge 19 dX6_sheetOf_7 rfl (fun h => absurd h (Int32.not_le.mpr (by have h := hx.2; simp only [Int32.le_iff_toInt_le, Int32.lt_iff_toInt_lt, Int32.reduceToInt] at *; omega))) (fun _ => ?_)
  refine r_aload0 dX6_sheetOf_10 ?_
  refine gf_X6_31 dX6_sheetOf_11 rfl hX.1 hX.2.2.2.2.2.2.2.2.1.1 ?_
  refine r_iload1 dX6_sheetOf_14 ?_
  refine rn_aald x.toNatClampNeg dX6_sheetOf_15 hX.2.2.2.2.2.2.2.2.1.2 (Or.inr rfl) (nB 3 (by decide) hx).1 (nB_lt 3 (by decide) hx (by decide)) (by decide) ?_
  refine rn_eqr _ (hX.sh (nB_lt 3 (by decide) hx (by decide))).1 ?_
  refine rn_goto 20 dX6_sheetOf_16 rfl ?_
  refine rn_aret dX6_sheetOf_20 rfl (Or.inl ⟨_, rfl⟩) (Nat.zero_le _) (Nat.zero_le _) ?_
  exact ⟨rfl, rfl, rfl, rfl, rfl⟩
set_option maxRecDepth 4000 in
theorem ct_sheetOf0 (d : Nat) (hX : ShX Γ rv) {x : Int32} (hx : ¬ (0 ≤ x ∧ x ≤ 3)) : Ct g l mX6_sheetOf (d) 0 0 [.ref 14, .int x] Γ iv rv lv (qPR 0 Γ iv rv lv) := by
  refine Ct.of (by decide +kernel) (Nat.le_of_ble_eq_true rfl) (Nat.le_of_ble_eq_true rfl) ?_
  refine rn_iconst (0) dX6_sheetOf_0 (by decide) ?_
  refine r_iload1 dX6_sheetOf_1 ?_
  refine rn_icmp_gt 19 dX6_sheetOf_2 rfl (fun c2 => ?_) (fun c2 => ?_)
  · refine rn_null dX6_sheetOf_19 ?_
    refine rn_aret dX6_sheetOf_20 rfl (Or.inl ⟨_, rfl⟩) (Nat.zero_le _) (Nat.zero_le _) ?_
    exact ⟨rfl, rfl, rfl, rfl, rfl⟩
  · refine r_iload1 dX6_sheetOf_5 ?_
    refine rn_iconst (4) dX6_sheetOf_6 (by decide) ?_
    refine rn_icmp_ge 19 dX6_sheetOf_7 rfl (fun c7 => ?_) (fun c7 => ?_)
    · refine rn_null dX6_sheetOf_19 ?_
      refine rn_aret dX6_sheetOf_20 rfl (Or.inl ⟨_, rfl⟩) (Nat.zero_le _) (Nat.zero_le _) ?_
      exact ⟨rfl, rfl, rfl, rfl, rfl⟩
    · exact absurd ⟨Int32.not_lt.mp c2, by have h := Int32.not_le.mp c7; simp only [Int32.le_iff_toInt_le, Int32.lt_iff_toInt_lt, Int32.reduceToInt] at *; omega⟩ hx
set_option maxRecDepth 4000 in
theorem ct_csheet (D : Nat) (hX : ShX Γ rv) {η : IV} (hS : SheetsC iv η) (s so n : Int32) : Ct g l mX6_sheet (D + 2) 0 0 [.ref 14, .int s, .int so, .int n] Γ iv rv lv (qCI Γ rv lv (fun x iv' => x = (sheetQ η s so n).1 ∧ SheetsC iv' (sheetQ η s so n).2 ∧ Off Sk iv iv')) := by
  refine Ct.of (by decide +kernel) (Nat.le_of_ble_eq_true rfl) (Nat.le_of_ble_eq_true rfl) ?_
  refine r_aload0 dX6_sheet_0 ?_
  refine r_iload1 dX6_sheet_1 ?_
  by_cases hs : 0 ≤ s ∧ s ≤ 3
  · refine cprV1 dX6_sheet_2 ov_X6_sheetOf rfl ml_X6_233 hX.1 rfl (Nat.zero_le _) (Nat.zero_le _) (Nat.zero_le _) (ct_sheetOf1 _ hX hs) ?_
    refine r_astore4 dX6_sheet_5 rfl ?_
    refine r_aload4 dX6_sheet_7 ?_
    refine rn_ifnull 21 dX6_sheet_9 rfl (fun h => absurd h (by omega)) (fun _ => ?_)
    refine r_iload2 dX6_sheet_12 ?_
    refine rn_iconst (-1) dX6_sheet_13 (by decide) ?_
    refine rn_iconst (2) dX6_sheet_14 (by decide) ?_
    refine cpiS3 dX6_sheet_15 os_X6_within rfl ml_X6_91 (Nat.zero_le _) (Nat.zero_le _) (Nat.zero_le _) (ct_within _ _ _ _) ?_
    refine rn_if_ne 24 dX6_sheet_18 rfl (fun c18 => ?_) (fun c18 => ?_)
    · have hq2 := bI_1.mp (bI_or.resolve_left c18)
      refine r_iload2 dX6_sheet_24 ?_
      refine rn_iconst (-1) dX6_sheet_25 (by decide) ?_
      refine rn_icmp_eq 38 dX6_sheet_26 rfl (fun c26 => ?_) (fun c26 => ?_)
      · refine r_iload2 dX6_sheet_38 ?_
        refine rn_iconst (-1) dX6_sheet_39 (by decide) ?_
        refine rn_icmp_eq 50 dX6_sheet_40 rfl (fun _ => ?_) (fun h => absurd c26 h)
        refine r_aload4 dX6_sheet_50 ?_
        refine r_iload2 dX6_sheet_52 ?_
        refine r_iload2 dX6_sheet_53 ?_
        refine rn_iconst (-1) dX6_sheet_54 (by decide) ?_
        refine rn_icmp_ne 62 dX6_sheet_55 rfl (fun h => absurd c26 h) (fun _ => ?_)
        refine rn_iconst (0) dX6_sheet_58 (by decide) ?_
        refine rn_goto 63 dX6_sheet_59 rfl ?_
        refine ccvV2 dX6_sheet_63 ov_X5_become rfl ml_X6_266 (hX.sh (nB_lt 3 (by decide) hs (by decide))).2.1 rfl (Nat.zero_le _) (Nat.zero_le _) (Nat.zero_le _) (ct_become _ (hX.sh (nB_lt 3 (by decide) hs (by decide))) _ _) (fun iv h63 => ?_)
        refine rn_iconst (1) dX6_sheet_66 (by decide) ?_
        refine rn_iret dX6_sheet_67 rfl (Nat.zero_le _) (Nat.zero_le _) ?_
        have e : sheetQ η s so n = (1, shE η s.toNatClampNeg so n) := by unfold sheetQ; rw [if_pos ⟨hs, hq2, fun z => absurd z.1 (by rw [c26]; decide)⟩, if_neg (fun z => absurd z.1 (by rw [c26]; decide))]
        refine ⟨_, rfl, rfl, rfl, rfl, by rw [e], ?_, h63.1.mono (fun a b z => by have := nB_lt 3 (by decide) hs (z := 4) (by decide); omega)⟩
        rw [e]
        refine SheetsC.row (η' := shE η s.toNatClampNeg so n) hS h63.1 (fun a b z => if_neg z) ⟨?_, ?_⟩
        · rw [h63.2.1]; unfold shE; rw [if_pos rfl, if_pos rfl]
        · intro z; exact absurd (by unfold shE; rw [if_pos rfl, if_pos rfl]; exact c26) z
      · refine r_iload3 dX6_sheet_29 ?_
        refine rn_bipush (40) dX6_sheet_30 (by decide) ?_
        refine rn_icmp_le 38 dX6_sheet_32 rfl (fun c32 => ?_) (fun c32 => ?_)
        · refine r_iload2 dX6_sheet_38 ?_
          refine rn_iconst (-1) dX6_sheet_39 (by decide) ?_
          refine rn_icmp_eq 50 dX6_sheet_40 rfl (fun h => absurd h c26) (fun _ => ?_)
          refine r_iload3 dX6_sheet_43 ?_
          refine rn_if_ge 50 dX6_sheet_44 rfl (fun c44 => ?_) (fun c44 => ?_)
          · refine r_aload4 dX6_sheet_50 ?_
            refine r_iload2 dX6_sheet_52 ?_
            refine r_iload2 dX6_sheet_53 ?_
            refine rn_iconst (-1) dX6_sheet_54 (by decide) ?_
            refine rn_icmp_ne 62 dX6_sheet_55 rfl (fun _ => ?_) (fun h => absurd h c26)
            refine r_iload3 dX6_sheet_62 ?_
            refine ccvV2 dX6_sheet_63 ov_X5_become rfl ml_X6_266 (hX.sh (nB_lt 3 (by decide) hs (by decide))).2.1 rfl (Nat.zero_le _) (Nat.zero_le _) (Nat.zero_le _) (ct_become _ (hX.sh (nB_lt 3 (by decide) hs (by decide))) _ _) (fun iv h63 => ?_)
            refine rn_iconst (1) dX6_sheet_66 (by decide) ?_
            refine rn_iret dX6_sheet_67 rfl (Nat.zero_le _) (Nat.zero_le _) ?_
            have e : sheetQ η s so n = (1, shE η s.toNatClampNeg so n) := by unfold sheetQ; rw [if_pos ⟨hs, hq2, fun z => absurd z.2 (Int32.not_lt.mpr c32)⟩, if_neg (fun z => absurd c44 (Int32.not_le.mpr z.2))]
            refine ⟨_, rfl, rfl, rfl, rfl, by rw [e], ?_, h63.1.mono (fun a b z => by have := nB_lt 3 (by decide) hs (z := 4) (by decide); omega)⟩
            rw [e]
            refine SheetsC.row (η' := shE η s.toNatClampNeg so n) hS h63.1 (fun a b z => if_neg z) ⟨?_, ?_⟩
            · rw [h63.2.1]; unfold shE; rw [if_pos rfl, if_pos rfl]
            · intro _
              have e1 : shE η s.toNatClampNeg so n s.toNatClampNeg 1 = n := by unfold shE; rw [if_pos rfl, if_neg (by decide), if_pos rfl]
              rw [e1]
              have hn := (n40 (Int32.not_lt.mpr c44) c32).2
              refine ⟨h63.2.2.1, fun i hi => ?_⟩
              rw [h63.2.2.2 i (by omega)]; unfold shE; rw [if_pos rfl, if_neg (by omega), if_neg (by omega)]
          · refine rn_bipush (-14) dX6_sheet_47 (by decide) ?_
            refine rn_iret dX6_sheet_49 rfl (Nat.zero_le _) (Nat.zero_le _) ?_
            have e : sheetQ η s so n = (-14, η) := by unfold sheetQ; rw [if_pos ⟨hs, hq2, fun z => absurd z.2 (Int32.not_lt.mpr c32)⟩, if_pos ⟨so_ne hq2.1 c26, Int32.not_le.mp c44⟩]
            exact ⟨_, rfl, rfl, rfl, rfl, by rw [e], by rw [e]; exact hS, Off.refl⟩
        · refine rn_bipush (-2) dX6_sheet_35 (by decide) ?_
          refine rn_iret dX6_sheet_37 rfl (Nat.zero_le _) (Nat.zero_le _) ?_
          have e : sheetQ η s so n = (-2, η) := by unfold sheetQ; rw [if_neg (fun z => z.2.2 ⟨so_ne hq2.1 c26, Int32.not_le.mp c32⟩)]
          exact ⟨_, rfl, rfl, rfl, rfl, by rw [e], by rw [e]; exact hS, Off.refl⟩
    · refine rn_bipush (-2) dX6_sheet_21 (by decide) ?_
      refine rn_iret dX6_sheet_23 rfl (Nat.zero_le _) (Nat.zero_le _) ?_
      have e : sheetQ η s so n = (-2, η) := by unfold sheetQ; rw [if_neg (fun z => bI_0.mp c18 z.2.1)]
      exact ⟨_, rfl, rfl, rfl, rfl, by rw [e], by rw [e]; exact hS, Off.refl⟩
  · refine cprV1 dX6_sheet_2 ov_X6_sheetOf rfl ml_X6_233 hX.1 rfl (Nat.zero_le _) (Nat.zero_le _) (Nat.zero_le _) (ct_sheetOf0 _ hX hs) ?_
    refine r_astore4 dX6_sheet_5 rfl ?_
    refine r_aload4 dX6_sheet_7 ?_
    refine rn_ifnull 21 dX6_sheet_9 rfl (fun _ => ?_) (fun h => absurd rfl h)
    refine rn_bipush (-2) dX6_sheet_21 (by decide) ?_
    refine rn_iret dX6_sheet_23 rfl (Nat.zero_le _) (Nat.zero_le _) ?_
    have e : sheetQ η s so n = (-2, η) := by unfold sheetQ; rw [if_neg (fun z => hs z.1)]
    exact ⟨_, rfl, rfl, rfl, rfl, by rw [e], by rw [e]; exact hS, Off.refl⟩
set_option maxRecDepth 4000 in
theorem ct_ccell (D : Nat) (hX : ShX Γ rv) {η : IV} (hS : SheetsC iv η) (hgs : GSh η) (s i v : Int32) : Ct g l mX6_cell (D + 2) 0 0 [.ref 14, .int s, .int i, .int v] Γ iv rv lv (qCI Γ rv lv (fun x iv' => x = (cellQ η s i v).1 ∧ SheetsC iv' (cellQ η s i v).2 ∧ Off Sk iv iv')) := by
  refine Ct.of (by decide +kernel) (Nat.le_of_ble_eq_true rfl) (Nat.le_of_ble_eq_true rfl) ?_
  refine r_aload0 dX6_cell_0 ?_
  refine r_iload1 dX6_cell_1 ?_
  by_cases hs : 0 ≤ s ∧ s ≤ 3
  · refine cprV1 dX6_cell_2 ov_X6_sheetOf rfl ml_X6_233 hX.1 rfl (Nat.zero_le _) (Nat.zero_le _) (Nat.zero_le _) (ct_sheetOf1 _ hX hs) ?_
    refine r_astore4 dX6_cell_5 rfl ?_
    refine r_aload4 dX6_cell_7 ?_
    refine rn_ifnonnull 15 dX6_cell_9 rfl (fun _ => ?_) (fun h => absurd (by omega) h)
    have hs4 : s.toNatClampNeg < 4 := nB_lt 3 (by decide) hs (by decide)
    refine r_aload4 dX6_cell_15 ?_
    refine cpiV0 dX6_cell_17 ov_X5_isMissing rfl ml_X6_237 (hX.sh (nB_lt 3 (by decide) hs (by decide))).2.1 rfl (Nat.zero_le _) (Nat.zero_le _) (Nat.zero_le _) (ct_isMissing _ (hX.sh hs4)) ?_
    refine rn_if_eq 26 dX6_cell_20 rfl (fun c20 => ?_) (fun c20 => ?_)
    · have hm : ¬ η s.toNatClampNeg 0 = -1 := fun z => bI_0.mp c20 (by rw [(hS _ hs4).1]; exact z)
      have hsz := hgs.size hs4 hm
      refine r_aload4 dX6_cell_26 ?_
      refine r_iload2 dX6_cell_28 ?_
      refine cpiV1 dX6_cell_29 ov_X5_has rfl ml_X6_269 (hX.sh (nB_lt 3 (by decide) hs (by decide))).2.1 rfl (Nat.zero_le _) (Nat.zero_le _) (Nat.zero_le _) (ct_has _ (hX.sh hs4) _) ?_
      refine rn_if_ne 38 dX6_cell_32 rfl (fun c32 => ?_) (fun c32 => ?_)
      · have hq2 : 0 ≤ i ∧ i < η s.toNatClampNeg 1 := by rw [← ((hS _ hs4).2 hm).1]; exact bI_1.mp (bI_or.resolve_left c32)
        have hi1 := nnI hq2.1
        have hil : i.toNatClampNeg < (η s.toNatClampNeg 1).toNatClampNeg := by
          have z := hq2.2
          rw [hsz.2, hi1.1, nI_ltI hi1.2.2 (by omega)] at z; exact z
        refine r_aload4 dX6_cell_38 ?_
        refine gf_X6_246 dX6_cell_40 rfl (hX.sh (nB_lt 3 (by decide) hs (by decide))).2.1 (hX.sh (nB_lt 3 (by decide) hs (by decide))).2.2.1 ?_
        refine r_iload2 dX6_cell_43 ?_
        refine r_aload4 dX6_cell_44 ?_
        refine r_iload3 dX6_cell_46 ?_
        refine cpiV1 dX6_cell_47 ov_X5_cut rfl ml_X6_272 (hX.sh (nB_lt 3 (by decide) hs (by decide))).2.1 rfl (Nat.le_of_ble_eq_true rfl) (Nat.zero_le _) (Nat.zero_le _) (ct_cut _ (hX.sh hs4) _) ?_
        refine rn_iast i.toNatClampNeg dX6_cell_50 (hX.sh (nB_lt 3 (by decide) hs (by decide))).2.2.2 hi1.1 (by omega) (by decide) ?_
        refine rn_iconst (1) dX6_cell_51 (by decide) ?_
        refine rn_iret dX6_cell_52 rfl (Nat.zero_le _) (Nat.zero_le _) ?_
        have e : cellQ η s i v = (1, up η s.toNatClampNeg (2 + i.toNatClampNeg) (cutS (η s.toNatClampNeg 0) v)) := by unfold cellQ; rw [if_pos hs, if_neg hm, if_pos hq2]
        have e0 : up η s.toNatClampNeg (2 + i.toNatClampNeg) (cutS (η s.toNatClampNeg 0) v) s.toNatClampNeg 0 = η s.toNatClampNeg 0 := up_ne2 (by omega)
        have e1 : up η s.toNatClampNeg (2 + i.toNatClampNeg) (cutS (η s.toNatClampNeg 0) v) s.toNatClampNeg 1 = η s.toNatClampNeg 1 := up_ne2 (by omega)
        refine ⟨_, rfl, rfl, rfl, rfl, by rw [e], ?_, off_up (by omega)⟩
        rw [e]
        refine SheetsC.row (η' := up η s.toNatClampNeg (2 + i.toNatClampNeg) (cutS (η s.toNatClampNeg 0) v)) (s := s.toNatClampNeg) hS (off_up (Or.inr rfl)) (fun a b z => up_ne1 z) ⟨?_, ?_⟩
        · rw [e0]; exact (up_ne1 (by omega)).trans (hS _ hs4).1
        · intro _
          rw [e1]
          refine ⟨(up_ne1 (by omega)).trans ((hS _ hs4).2 hm).1, fun k hk => ?_⟩
          by_cases ek : k = i.toNatClampNeg
          · subst ek; rw [up_same, up_same, (hS _ hs4).1]
          · rw [up_ne2 (by omega), up_ne2 (by omega)]; exact ((hS _ hs4).2 hm).2 k hk
      · refine rn_bipush (-12) dX6_cell_35 (by decide) ?_
        refine rn_iret dX6_cell_37 rfl (Nat.zero_le _) (Nat.zero_le _) ?_
        have e : cellQ η s i v = (-12, η) := by unfold cellQ; rw [if_pos hs, if_neg hm, if_neg (fun z => bI_0.mp c32 (by rw [((hS _ hs4).2 hm).1]; exact z))]
        exact ⟨_, rfl, rfl, rfl, rfl, by rw [e], by rw [e]; exact hS, Off.refl⟩
    · refine rn_bipush (-11) dX6_cell_23 (by decide) ?_
      refine rn_iret dX6_cell_25 rfl (Nat.zero_le _) (Nat.zero_le _) ?_
      have e : cellQ η s i v = (-11, η) := by unfold cellQ; rw [if_pos hs, if_pos (Decidable.of_not_not (fun z => c20 (bI_f (by rw [(hS _ hs4).1]; exact z))))]
      exact ⟨_, rfl, rfl, rfl, rfl, by rw [e], by rw [e]; exact hS, Off.refl⟩
  · refine cprV1 dX6_cell_2 ov_X6_sheetOf rfl ml_X6_233 hX.1 rfl (Nat.zero_le _) (Nat.zero_le _) (Nat.zero_le _) (ct_sheetOf0 _ hX hs) ?_
    refine r_astore4 dX6_cell_5 rfl ?_
    refine r_aload4 dX6_cell_7 ?_
    refine rn_ifnonnull 15 dX6_cell_9 rfl (fun h => absurd h (fun z => z rfl)) (fun _ => ?_)
    refine rn_bipush (-2) dX6_cell_12 (by decide) ?_
    refine rn_iret dX6_cell_14 rfl (Nat.zero_le _) (Nat.zero_le _) ?_
    have e : cellQ η s i v = (-2, η) := by unfold cellQ; rw [if_neg hs]
    exact ⟨_, rfl, rfl, rfl, rfl, by rw [e], by rw [e]; exact hS, Off.refl⟩
set_option maxRecDepth 4000 in
theorem ct_ccopy (D : Nat) (hX : ShX Γ rv) {η : IV} (hS : SheetsC iv η) (hgs : GSh η) (s i o j n : Int32) : Ct g l mX6_copy (D + 2) 0 0 [.ref 14, .int s, .int i, .int o, .int j, .int n] Γ iv rv lv (qCI Γ rv lv (fun x iv' => x = (copyQ η s i o j n).1 ∧ SheetsC iv' (copyQ η s i o j n).2 ∧ Off Sk iv iv')) := by
  refine Ct.of (by decide +kernel) (Nat.le_of_ble_eq_true rfl) (Nat.le_of_ble_eq_true rfl) ?_
  refine r_aload0 dX6_copy_0 ?_
  refine r_iload1 dX6_copy_1 ?_
  by_cases hs : 0 ≤ s ∧ s ≤ 3
  · refine cprV1 dX6_copy_2 ov_X6_sheetOf rfl ml_X6_233 hX.1 rfl (Nat.zero_le _) (Nat.zero_le _) (Nat.zero_le _) (ct_sheetOf1 _ hX hs) ?_
    refine r_astore6 dX6_copy_5 rfl ?_
    refine r_aload0 dX6_copy_7 ?_
    refine r_iload3 dX6_copy_8 ?_
    by_cases ho : 0 ≤ o ∧ o ≤ 3
    · refine cprV1 dX6_copy_9 ov_X6_sheetOf rfl ml_X6_233 hX.1 rfl (Nat.zero_le _) (Nat.zero_le _) (Nat.zero_le _) (ct_sheetOf1 _ hX ho) ?_
      refine r_astore7 dX6_copy_12 rfl ?_
      refine r_aload6 dX6_copy_14 ?_
      refine rn_ifnull 24 dX6_copy_16 rfl (fun h => absurd h (by omega)) (fun _ => ?_)
      refine r_aload7 dX6_copy_19 ?_
      refine rn_ifnonnull 27 dX6_copy_21 rfl (fun _ => ?_) (fun h => absurd (by omega) h)
      have hs4 : s.toNatClampNeg < 4 := nB_lt 3 (by decide) hs (by decide)
      have ho4 : o.toNatClampNeg < 4 := nB_lt 3 (by decide) ho (by decide)
      refine r_aload6 dX6_copy_27 ?_
      refine cpiV0 dX6_copy_29 ov_X5_isMissing rfl ml_X6_237 (hX.sh (nB_lt 3 (by decide) hs (by decide))).2.1 rfl (Nat.zero_le _) (Nat.zero_le _) (Nat.zero_le _) (ct_isMissing _ (hX.sh hs4)) ?_
      refine rn_if_ne 43 dX6_copy_32 rfl (fun c32 => ?_) (fun c32 => ?_)
      · refine rn_bipush (-11) dX6_copy_43 (by decide) ?_
        refine rn_iret dX6_copy_45 rfl (Nat.zero_le _) (Nat.zero_le _) ?_
        have e : copyQ η s i o j n = (-11, η) := by unfold copyQ; rw [if_pos ⟨hs, ho⟩, if_pos (Or.inl (Decidable.of_not_not (fun z => c32 (bI_f (by rw [(hS _ hs4).1]; exact z)))))]
        exact ⟨_, rfl, rfl, rfl, rfl, by rw [e], by rw [e]; exact hS, Off.refl⟩
      · refine r_aload7 dX6_copy_35 ?_
        refine cpiV0 dX6_copy_37 ov_X5_isMissing rfl ml_X6_237 (hX.sh (nB_lt 3 (by decide) ho (by decide))).2.1 rfl (Nat.zero_le _) (Nat.zero_le _) (Nat.zero_le _) (ct_isMissing _ (hX.sh ho4)) ?_
        refine rn_if_eq 46 dX6_copy_40 rfl (fun c40 => ?_) (fun c40 => ?_)
        · have hms : ¬ η s.toNatClampNeg 0 = -1 := fun z => bI_0.mp c32 (by rw [(hS _ hs4).1]; exact z)
          have hmo : ¬ η o.toNatClampNeg 0 = -1 := fun z => bI_0.mp c40 (by rw [(hS _ ho4).1]; exact z)
          have hzs := hgs.size hs4 hms
          have hzo := hgs.size ho4 hmo
          have hzs1 := hzs.1
          have hzo1 := hzo.1
          refine r_aload6 dX6_copy_46 ?_
          refine gf_X6_275 dX6_copy_48 rfl (hX.sh (nB_lt 3 (by decide) hs (by decide))).2.1 ?_
          refine rn_eqi _ (hS _ hs4).1 ?_
          refine r_aload7 dX6_copy_51 ?_
          refine gf_X6_275 dX6_copy_53 rfl (hX.sh (nB_lt 3 (by decide) ho (by decide))).2.1 ?_
          refine rn_eqi _ (hS _ ho4).1 ?_
          refine rn_icmp_eq 62 dX6_copy_56 rfl (fun c56 => ?_) (fun c56 => ?_)
          · refine r_aload6 dX6_copy_62 ?_
            refine r_iload2 dX6_copy_64 ?_
            refine r_iload5 dX6_copy_65 ?_
            refine cpiV2 dX6_copy_67 ov_X5_hasSpan rfl ml_X6_278 (hX.sh (nB_lt 3 (by decide) hs (by decide))).2.1 rfl (Nat.zero_le _) (Nat.zero_le _) (Nat.zero_le _) (ct_hasSpan _ (hX.sh hs4) _ _) ?_
            refine rn_if_eq 85 dX6_copy_70 rfl (fun c70 => ?_) (fun c70 => ?_)
            · refine rn_bipush (-12) dX6_copy_85 (by decide) ?_
              refine rn_iret dX6_copy_87 rfl (Nat.zero_le _) (Nat.zero_le _) ?_
              have e : copyQ η s i o j n = (-12, η) := by unfold copyQ; rw [if_pos ⟨hs, ho⟩, if_neg (fun z => z.elim hms hmo), if_pos c56, if_neg (fun z => bI_0.mp c70 (by rw [((hS _ hs4).2 hms).1, hzs.2]; exact (span_iff hzs.1).mpr ⟨⟨z.1.2.1, z.1.1⟩, z.2.1⟩))]
              exact ⟨_, rfl, rfl, rfl, rfl, by rw [e], by rw [e]; exact hS, Off.refl⟩
            · refine r_aload7 dX6_copy_73 ?_
              refine r_iload4 dX6_copy_75 ?_
              refine r_iload5 dX6_copy_77 ?_
              refine cpiV2 dX6_copy_79 ov_X5_hasSpan rfl ml_X6_278 (hX.sh (nB_lt 3 (by decide) ho (by decide))).2.1 rfl (Nat.zero_le _) (Nat.zero_le _) (Nat.zero_le _) (ct_hasSpan _ (hX.sh ho4) _ _) ?_
              refine rn_if_ne 88 dX6_copy_82 rfl (fun c82 => ?_) (fun c82 => ?_)
              · have k1 := (span_iff hzs.1).mp (by rw [← hzs.2, ← ((hS _ hs4).2 hms).1]; exact bI_1.mp (bI_or.resolve_left c70))
                have k2 := (span_iff hzo.1).mp (by rw [← hzo.2, ← ((hS _ ho4).2 hmo).1]; exact bI_1.mp (bI_or.resolve_left c82))
                refine r_aload6 dX6_copy_88 ?_
                refine gf_X6_246 dX6_copy_90 rfl (hX.sh (nB_lt 3 (by decide) hs (by decide))).2.1 (hX.sh (nB_lt 3 (by decide) hs (by decide))).2.2.1 ?_
                refine r_iload2 dX6_copy_93 ?_
                refine r_aload7 dX6_copy_94 ?_
                refine gf_X6_246 dX6_copy_96 rfl (hX.sh (nB_lt 3 (by decide) ho (by decide))).2.1 (hX.sh (nB_lt 3 (by decide) ho (by decide))).2.2.1 ?_
                refine r_iload4 dX6_copy_99 ?_
                refine r_iload5 dX6_copy_101 ?_
                refine rn_acopy i.toNatClampNeg j.toNatClampNeg n.toNatClampNeg dX6_copy_103 ml_X6_282 acw (hX.sh (nB_lt 3 (by decide) hs (by decide))).2.2.2 (hX.sh (nB_lt 3 (by decide) ho (by decide))).2.2.2 (nnI k1.1.1).1 (nnI k2.1.1).1 (nnI k1.1.2).1 (by omega) (by omega) (by first | decide | omega) (by first | decide | omega) (Nat.zero_le _) (Nat.le_add_left _ _) (by show 100 ≤ 100 * _; omega) ?_
                refine r_iload5 dX6_copy_106 ?_
                refine rn_iret dX6_copy_108 rfl (Nat.zero_le _) (Nat.zero_le _) ?_
                have e : copyQ η s i o j n = (n, cpE η s.toNatClampNeg i.toNatClampNeg o.toNatClampNeg j.toNatClampNeg n.toNatClampNeg) := by unfold copyQ; rw [if_pos ⟨hs, ho⟩, if_neg (fun z => z.elim hms hmo), if_pos c56, if_pos ⟨⟨k1.1.2, k1.1.1, k2.1.1⟩, k1.2, k2.2⟩]
                have e0 : cpE η s.toNatClampNeg i.toNatClampNeg o.toNatClampNeg j.toNatClampNeg n.toNatClampNeg o.toNatClampNeg 0 = η o.toNatClampNeg 0 := if_neg (by omega)
                have e1 : cpE η s.toNatClampNeg i.toNatClampNeg o.toNatClampNeg j.toNatClampNeg n.toNatClampNeg o.toNatClampNeg 1 = η o.toNatClampNeg 1 := if_neg (by omega)
                have hoff : Off (fun a _ => a = 67 + 2 * o.toNatClampNeg ∨ a = 68 + 2 * o.toNatClampNeg) iv (cpy iv (68 + 2 * s.toNatClampNeg) i.toNatClampNeg (68 + 2 * o.toNatClampNeg) j.toNatClampNeg n.toNatClampNeg) := fun a b z => cpy_out (fun y => z (Or.inr y))
                refine ⟨_, rfl, rfl, rfl, rfl, by rw [e], ?_, hoff.mono (fun a b z => by omega)⟩
                rw [e]
                refine SheetsC.row (η' := cpE η s.toNatClampNeg i.toNatClampNeg o.toNatClampNeg j.toNatClampNeg n.toNatClampNeg) hS hoff (fun a b z => if_neg (fun y => z y.1)) ⟨?_, ?_⟩
                · rw [e0, cpy_out (by omega)]; exact (hS _ ho4).1
                · intro _
                  rw [e1, cpy_out (by omega)]
                  refine ⟨((hS _ ho4).2 hmo).1, fun t ht => ?_⟩
                  unfold cpE
                  by_cases hb : j.toNatClampNeg ≤ t ∧ t < j.toNatClampNeg + n.toNatClampNeg
                  · rw [cpy_in hb, if_pos ⟨rfl, by omega, by omega⟩, ((hS _ hs4).2 hms).2 _ (by omega)]
                    congr 1; omega
                  · rw [if_neg (by omega), show cpy iv (68 + 2 * s.toNatClampNeg) i.toNatClampNeg (68 + 2 * o.toNatClampNeg) j.toNatClampNeg n.toNatClampNeg (68 + 2 * o.toNatClampNeg) t = iv (68 + 2 * o.toNatClampNeg) t from if_neg (fun y => hb y.2)]
                    exact ((hS _ ho4).2 hmo).2 t ht
              · refine rn_bipush (-12) dX6_copy_85 (by decide) ?_
                refine rn_iret dX6_copy_87 rfl (Nat.zero_le _) (Nat.zero_le _) ?_
                have e : copyQ η s i o j n = (-12, η) := by unfold copyQ; rw [if_pos ⟨hs, ho⟩, if_neg (fun z => z.elim hms hmo), if_pos c56, if_neg (fun z => bI_0.mp c82 (by rw [((hS _ ho4).2 hmo).1, hzo.2]; exact (span_iff hzo.1).mpr ⟨⟨z.1.2.2, z.1.1⟩, z.2.2⟩))]
                exact ⟨_, rfl, rfl, rfl, rfl, by rw [e], by rw [e]; exact hS, Off.refl⟩
          · refine rn_bipush (-13) dX6_copy_59 (by decide) ?_
            refine rn_iret dX6_copy_61 rfl (Nat.zero_le _) (Nat.zero_le _) ?_
            have e : copyQ η s i o j n = (-13, η) := by unfold copyQ; rw [if_pos ⟨hs, ho⟩, if_neg (fun z => z.elim hms hmo), if_neg c56]
            exact ⟨_, rfl, rfl, rfl, rfl, by rw [e], by rw [e]; exact hS, Off.refl⟩
        · refine rn_bipush (-11) dX6_copy_43 (by decide) ?_
          refine rn_iret dX6_copy_45 rfl (Nat.zero_le _) (Nat.zero_le _) ?_
          have e : copyQ η s i o j n = (-11, η) := by unfold copyQ; rw [if_pos ⟨hs, ho⟩, if_pos (Or.inr (Decidable.of_not_not (fun z => c40 (bI_f (by rw [(hS _ ho4).1]; exact z)))))]
          exact ⟨_, rfl, rfl, rfl, rfl, by rw [e], by rw [e]; exact hS, Off.refl⟩
    · refine cprV1 dX6_copy_9 ov_X6_sheetOf rfl ml_X6_233 hX.1 rfl (Nat.zero_le _) (Nat.zero_le _) (Nat.zero_le _) (ct_sheetOf0 _ hX ho) ?_
      refine r_astore7 dX6_copy_12 rfl ?_
      refine r_aload6 dX6_copy_14 ?_
      refine rn_ifnull 24 dX6_copy_16 rfl (fun h => absurd h (by omega)) (fun _ => ?_)
      refine r_aload7 dX6_copy_19 ?_
      refine rn_ifnonnull 27 dX6_copy_21 rfl (fun h => absurd h (fun z => z rfl)) (fun _ => ?_)
      refine rn_bipush (-2) dX6_copy_24 (by decide) ?_
      refine rn_iret dX6_copy_26 rfl (Nat.zero_le _) (Nat.zero_le _) ?_
      have e : copyQ η s i o j n = (-2, η) := by unfold copyQ; rw [if_neg (fun z => ho z.2)]
      exact ⟨_, rfl, rfl, rfl, rfl, by rw [e], by rw [e]; exact hS, Off.refl⟩
  · refine cprV1 dX6_copy_2 ov_X6_sheetOf rfl ml_X6_233 hX.1 rfl (Nat.zero_le _) (Nat.zero_le _) (Nat.zero_le _) (ct_sheetOf0 _ hX hs) ?_
    refine r_astore6 dX6_copy_5 rfl ?_
    refine r_aload0 dX6_copy_7 ?_
    refine r_iload3 dX6_copy_8 ?_
    by_cases ho : 0 ≤ o ∧ o ≤ 3
    · refine cprV1 dX6_copy_9 ov_X6_sheetOf rfl ml_X6_233 hX.1 rfl (Nat.zero_le _) (Nat.zero_le _) (Nat.zero_le _) (ct_sheetOf1 _ hX ho) ?_
      refine r_astore7 dX6_copy_12 rfl ?_
      refine r_aload6 dX6_copy_14 ?_
      refine rn_ifnull 24 dX6_copy_16 rfl (fun _ => ?_) (fun h => absurd rfl h)
      refine rn_bipush (-2) dX6_copy_24 (by decide) ?_
      refine rn_iret dX6_copy_26 rfl (Nat.zero_le _) (Nat.zero_le _) ?_
      have e : copyQ η s i o j n = (-2, η) := by unfold copyQ; rw [if_neg (fun z => hs z.1)]
      exact ⟨_, rfl, rfl, rfl, rfl, by rw [e], by rw [e]; exact hS, Off.refl⟩
    · refine cprV1 dX6_copy_9 ov_X6_sheetOf rfl ml_X6_233 hX.1 rfl (Nat.zero_le _) (Nat.zero_le _) (Nat.zero_le _) (ct_sheetOf0 _ hX ho) ?_
      refine r_astore7 dX6_copy_12 rfl ?_
      refine r_aload6 dX6_copy_14 ?_
      refine rn_ifnull 24 dX6_copy_16 rfl (fun _ => ?_) (fun h => absurd rfl h)
      refine rn_bipush (-2) dX6_copy_24 (by decide) ?_
      refine rn_iret dX6_copy_26 rfl (Nat.zero_le _) (Nat.zero_le _) ?_
      have e : copyQ η s i o j n = (-2, η) := by unfold copyQ; rw [if_neg (fun z => hs z.1)]
      exact ⟨_, rfl, rfl, rfl, rfl, by rw [e], by rw [e]; exact hS, Off.refl⟩
theorem TS.own {Γ : Sh} {iv iv' : IV} {rv : RV} {φ ψ : IV} {S : Nat → Nat → List Int32} {t : Nat} (h : TS iv rv φ S t) (h1 : RC iv' 57 ψ) (h2 : Mm iv' 57 ψ S) (hg : GR ψ) (ht : ψ 4 8 = nI t) : TS iv' rv ψ S t := ⟨h1, h2, hg, ht, h.2.2.2.2⟩
set_option maxRecDepth 4000 in
theorem cga_loop {D : Nat} {Q : Qt} {ρ : IV} {S : Nat → Nat → List Int32} {t γ sn N : Nat} {G : Int32} (hγ : γ < 2) (hs4 : sn < 4) (hN : N ≤ 40) {it : Nat → Int32} : ∀ (m k : Nat) (φ iv : IV) (x : Int32), k + m = N → x = nI k → CQ Γ iv rv ρ S t → TS iv rv φ S t → iv (67 + 2 * sn) 2 = nI N → (∀ i, i < N → iv (68 + 2 * sn) i = it i) →
    (∀ (iv' : IV) (z : Int32), z = goS S γ it m k φ → QT iv rv iv' rv → Q (some (.int z)) Γ iv' rv lv) → Rn g l mX6_goesAs (rmA (D + 5) 0 0) Q 0 0 12 [.ref 14, .ref (67 + 2 * sn), .int G, .ref (57 + 3 + 3 * γ), .int x] [] Γ iv rv lv := by
  intro m
  induction m with
  | zero =>
    intro k φ iv x hn hx hC hT h2 hit kk
    obtain rfl : k = N := by omega
    refine r_iload4 dX6_goesAs_12 ?_
    refine r_aload1 dX6_goesAs_14 ?_
    refine gf_X6_245 dX6_goesAs_15 rfl (hC.1.sh hs4).2.1 ?_
    refine rn_eqi _ h2 ?_
    refine rn_icmp_ge 58 dX6_goesAs_18 rfl (fun _ => ?_) (fun h => absurd (by rw [hx]; exact nI_le (Nat.le_refl _) (by omega)) h)
    refine rn_iconst (1) dX6_goesAs_58 (by decide) ?_
    refine rn_zret dX6_goesAs_59 rfl (by first | decide | exact nar_bI) (Nat.zero_le _) (Nat.zero_le _) ?_
    exact kk _ _ rfl (QT.refl hC.2.2.2.2.2.2.2.2)
  | succ m ih =>
    intro k φ iv x hn hx hC hT h2 hit kk
    refine r_iload4 dX6_goesAs_12 ?_
    refine r_aload1 dX6_goesAs_14 ?_
    refine gf_X6_245 dX6_goesAs_15 rfl (hC.1.sh hs4).2.1 ?_
    refine rn_eqi _ h2 ?_
    refine rn_icmp_ge 58 dX6_goesAs_18 rfl (fun h => absurd h (fun z => by rw [hx, nI_leI (by omega) (by omega)] at z; omega)) (fun _ => ?_)
    refine r_iload4 dX6_goesAs_21 ?_
    refine rn_bipush (40) dX6_goesAs_23 (by decide) ?_
    refine rn_icmp_ge 58 dX6_goesAs_25 rfl (fun h => absurd h (fun z => by rw [hx, show (40 : Int32) = nI 40 by decide, nI_leI (by decide) (by omega)] at z; omega)) (fun _ => ?_)
    refine r_aload0 dX6_goesAs_28 ?_
    refine gf_X6_84 dX6_goesAs_29 rfl hC.1.1 hC.1.2.2.2.2.1.1 ?_
    refine rn_iconst (-1) dX6_goesAs_32 (by decide) ?_
    refine ccvV1 dX6_goesAs_33 ov_X3_passDay rfl ml_X6_192 hC.1.2.2.2.2.1.2.1 rfl (Nat.zero_le _) (Nat.zero_le _) (Nat.zero_le _) (ct_passDay D hC.1.tr (by decide) hT.1 hT.2.2.2.2 hT.2.2.2.1 hC.2.2.2.2.2.1 hC.2.2.2.2.2.2.1 hT.2.2.1 hT.2.1 _) (fun iv2 h33 => ?_)
    have hq := QT.own h33.1 h33.2.1 (rv := rv)
    refine r_aload3 dX6_goesAs_36 ?_
    refine gf_X6_147 dX6_goesAs_37 rfl (hC.1.tr.gang hγ).1 ?_
    refine rn_eqi (passS S φ (-1) (2 + γ) 4) (h33.2.1.gang 4 (by decide) (by decide) hγ) ?_
    refine r_aload1 dX6_goesAs_40 ?_
    refine gf_X6_246 dX6_goesAs_41 rfl (hC.1.sh hs4).2.1 (hC.1.sh hs4).2.2.1 ?_
    refine r_iload4 dX6_goesAs_44 ?_
    refine rn_iald k dX6_goesAs_46 (hC.1.sh hs4).2.2.2 hx (by omega) (by decide) ?_
    refine rn_eqi (it k) ((h33.1 _ _ (by omega)).trans (hit k (by omega))) ?_
    refine rn_icmp_eq 52 dX6_goesAs_47 rfl (fun c47 => ?_) (fun c47 => ?_)
    · refine r_iinc4 _ dX6_goesAs_52 rfl rfl ?_
      refine rn_goto 12 dX6_goesAs_55 rfl ?_
      have ee : goS S γ it (m + 1) k φ = goS S γ it m (k + 1) (passS S φ (-1)) := by rw [goS, if_pos c47]
      exact ih (k + 1) _ _ _ (by omega) (by rw [hx]; exact nI_1 k) (hC.qt hq) ⟨h33.2.1, h33.2.2, gr_pass hT.2.2.1, rule_pass.trans hT.2.2.2.1, hT.2.2.2.2⟩ ((h33.1 _ _ (by omega)).trans h2) (fun i hi => (h33.1 _ _ (by omega)).trans (hit i hi)) (fun iv3 z hz hq3 => kk iv3 z (by rw [ee]; exact hz) (hq.trans hq3))
    · refine rn_iconst (0) dX6_goesAs_50 (by decide) ?_
      refine rn_zret dX6_goesAs_51 rfl (by first | decide | exact nar_bI) (Nat.zero_le _) (Nat.zero_le _) ?_
      have ee : goS S γ it (m + 1) k φ = 0 := by rw [goS, if_neg c47]
      exact kk _ _ ee.symm hq
set_option maxRecDepth 4000 in
theorem ct_goesAs (D : Nat) {ρ : IV} {S : Nat → Nat → List Int32} {t : Nat} (hC : CQ Γ iv rv ρ S t) {φ : IV} (hT : TS iv rv φ S t) {γ sn N : Nat} {G : Int32} (hG : G = nI γ) (hγ : γ < 2) (hs4 : sn < 4) (hN : N ≤ 40) {it : Nat → Int32} (h2 : iv (67 + 2 * sn) 2 = nI N) (hit : ∀ i, i < N → iv (68 + 2 * sn) i = it i) : Ct g l mX6_goesAs (D + 5) 0 0 [.ref 14, .ref (67 + 2 * sn), .int G] Γ iv rv lv (qCI Γ rv lv (fun z iv' => z = goS S γ it N 0 φ ∧ QT iv rv iv' rv)) := by
  refine Ct.of (by decide +kernel) (Nat.le_of_ble_eq_true rfl) (Nat.le_of_ble_eq_true rfl) ?_
  refine r_aload0 dX6_goesAs_0 ?_
  refine gf_X6_84 dX6_goesAs_1 rfl hC.1.1 hC.1.2.2.2.2.1.1 ?_
  refine r_iload2 dX6_goesAs_4 ?_
  refine cprV1 dX6_goesAs_5 ov_X3_gangOf rfl ml_X6_122 hC.1.2.2.2.2.1.2.1 rfl (Nat.zero_le _) (Nat.zero_le _) (Nat.zero_le _) (ct_gangOf _ hC.1.tr hG hγ) ?_
  refine r_astore3 dX6_goesAs_8 rfl ?_
  refine rn_iconst (0) dX6_goesAs_9 (by decide) ?_
  refine r_istore4 dX6_goesAs_10 rfl ?_
  exact cga_loop (D := D) (ρ := ρ) (S := S) (t := t) (it := it) hγ hs4 hN N 0 φ iv _ (Nat.zero_add _) rfl hC hT h2 hit (fun iv2 z hz hq => ⟨_, rfl, rfl, rfl, rfl, hz, hq⟩)
set_option maxRecDepth 4000 in
theorem csl_loop {D : Nat} {Q : Qt} {ρ : IV} {S : Nat → Nat → List Int32} {t γ sn N : Nat} {G s0 : Int32} (hC0 : GR ρ) (hlt : uO ρ + vO ρ < 24) (hG : G = nI γ) (hγ : γ < 2) (hs4 : sn < 4) (hN : N ≤ 40) {it : Nat → Int32} {iv0 : IV} {rv0 : RV} (h2 : iv0 (67 + 2 * sn) 2 = nI N) (hit : ∀ i, i < N → iv0 (68 + 2 * sn) i = it i) : ∀ (n i : Nat) (iv : IV) (rv : RV) (b5 x : Int32), i + n = 4 → x = nI i → b5 = slS S ρ γ it N i → CQ Γ iv rv ρ S t → QT iv0 rv0 iv rv → (∀ (iv : IV) (rv : RV) (b5 : Int32), b5 = slS S ρ γ it N 4 → QT iv0 rv0 iv rv → Q (some (.int b5)) Γ iv rv lv) → Rn g l mX6_slowed (rmA (D + 6) 0 0) Q 0 0 70 [.ref 14, .int G, .int s0, .ref (67 + 2 * sn), .int (nxI ρ γ), .int b5, .int x] [] Γ iv rv lv := by
  intro n
  induction n with
  | zero =>
    intro i iv rv b5 x hn hx h5 hC hQ kk
    obtain rfl : i = 4 := by omega
    refine r_iload6 dX6_slowed_70 ?_
    refine rn_iconst (3) dX6_slowed_72 (by decide) ?_
    refine rn_icmp_gt 123 dX6_slowed_73 rfl (fun _ => ?_) (fun h => absurd (by rw [hx]; decide) h)
    refine r_iload5 dX6_slowed_123 ?_
    refine rn_iret dX6_slowed_125 rfl (Nat.zero_le _) (Nat.zero_le _) ?_
    exact kk _ _ _ h5 hQ
  | succ n ih =>
    intro i iv rv b5 x hn hx h5 hC hQ kk
    refine r_iload6 dX6_slowed_70 ?_
    refine rn_iconst (3) dX6_slowed_72 (by decide) ?_
    refine rn_icmp_gt 123 dX6_slowed_73 rfl (fun h => absurd h (fun z => by rw [hx, show (3 : Int32) = nI 3 by decide, nI_ltI (by decide) (by omega)] at z; omega)) (fun _ => ?_)
    refine r_aload0 dX6_slowed_76 ?_
    refine gf_X6_84 dX6_slowed_77 rfl hC.1.1 hC.1.2.2.2.2.1.1 ?_
    refine r_aload0 dX6_slowed_80 ?_
    refine gf_X6_74 dX6_slowed_81 rfl hC.1.1 hC.1.2.1.1 ?_
    refine crvV1 dX6_slowed_84 ov_X3_copyAll rfl ml_X6_197 hC.1.2.2.2.2.1.2.1 rfl (Nat.zero_le _) (Nat.zero_le _) (Nat.zero_le _) (ct_copyAll _ hC.1.tr hC.1.nw (by decide) (by decide) (by decide) hC.2.2.2.2.2.2.2.2 hC.2.1) (fun iv2 rv2 h84 => ?_)
    obtain ⟨hC, hQ84, hT, hN2⟩ := hC.copied h84.1 h84.2.1 h84.2.2.1 h84.2.2.2
    have hu : Off (fun a _ => 57 ≤ a ∧ a ≤ 66) iv2 (up iv2 (57 + 1) (nextN ρ γ) x) := off_up (by omega)
    have hT : TS (up iv2 (57 + 1) (nextN ρ γ) x) rv2 (up ρ 0 (nextN ρ γ) (nI i)) S t := ⟨by rw [hx]; exact hT.1.grd, (hN2 _ _).cells (fun δ z h1 h2 => ⟨up_ne1 (by omega), up_ne1 (by omega)⟩), hT.2.2.1.upd (by omega) (by omega) (by omega) (by omega), (up_ne1 (by decide)).trans hT.2.2.2.1, hT.2.2.2.2⟩
    have hQu : QT iv2 rv2 (up iv2 (57 + 1) (nextN ρ γ) x) rv2 := ⟨hu.mono (fun a b z => by omega), OffT.refl, hT.1.gu⟩
    have hC := hC.qt hQu
    have hoS := (hQ.1.trans hQ84.1).trans hQu.1
    refine r_aload0 dX6_slowed_87 ?_
    refine gf_X6_84 dX6_slowed_88 rfl hC.1.1 hC.1.2.2.2.2.1.1 ?_
    refine gf_X6_99 dX6_slowed_91 rfl hC.1.2.2.2.2.1.2.1 hC.1.2.2.2.2.1.2.2.1.1 ?_
    refine r_iload4 dX6_slowed_94 ?_
    refine r_iload6 dX6_slowed_96 ?_
    refine rn_iast (nextN ρ γ) dX6_slowed_98 hC.1.2.2.2.2.1.2.2.1.2 (nxI_next hC0 hlt) (next_lt hlt) (by decide) ?_
    refine r_aload0 dX6_slowed_99 ?_
    refine r_aload3 dX6_slowed_100 ?_
    refine r_iload1 dX6_slowed_101 ?_
    refine cciV2 dX6_slowed_102 ov_X6_goesAs rfl ml_X6_241 hC.1.1 rfl (Nat.zero_le _) (Nat.zero_le _) (Nat.zero_le _) (ct_goesAs D hC hT hG hγ hs4 hN (it := it) ((hoS _ _ (by omega)).trans h2) (fun i hi => (hoS _ _ (by omega)).trans (hit i hi))) (fun x102 iv3 h102 => ?_)
    refine rn_if_eq 117 dX6_slowed_105 rfl (fun c105 => ?_) (fun c105 => ?_)
    · refine r_iinc6 _ dX6_slowed_117 rfl rfl ?_
      refine rn_goto 70 dX6_slowed_120 rfl ?_
      have ee : slS S ρ γ it N (i + 1) = slS S ρ γ it N i := by rw [slS, if_pos (h102.1.symm.trans c105)]
      exact ih (i + 1) _ _ _ _ (by omega) (by rw [hx]; exact nI_1 i) (by rw [ee, h5]) (hC.qt h102.2) (((hQ.trans hQ84).trans hQu).trans h102.2) kk
    · refine r_iload5 dX6_slowed_108 ?_
      refine rn_iconst (1) dX6_slowed_110 (by decide) ?_
      refine r_iload6 dX6_slowed_111 ?_
      refine rn_ishl dX6_slowed_113 ?_
      refine rn_ior dX6_slowed_114 ?_
      refine r_istore5 dX6_slowed_115 rfl ?_
      refine r_iinc6 _ dX6_slowed_117 rfl rfl ?_
      refine rn_goto 70 dX6_slowed_120 rfl ?_
      have ee : slS S ρ γ it N (i + 1) = slS S ρ γ it N i ||| (1 <<< (nI i &&& 31)) := by rw [slS, if_neg (fun q => c105 (h102.1.trans q))]
      exact ih (i + 1) _ _ _ _ (by omega) (by rw [hx]; exact nI_1 i) (by rw [ee, h5, hx]) (hC.qt h102.2) (((hQ.trans hQ84).trans hQu).trans h102.2) kk
set_option maxRecDepth 4000 in
theorem ct_cslowed (D : Nat) {ρ : IV} {S : Nat → Nat → List Int32} {t : Nat} (hC : CQ Γ iv rv ρ S t) {η : IV} (hS : SheetsC iv η) (hgs : GSh η) (G s : Int32) : Ct g l mX6_slowed (D + 6) 0 0 [.ref 14, .int G, .int s] Γ iv rv lv (qRI Γ lv (fun x iv' rv' => x = slowQ S ρ η G s ∧ QT iv rv iv' rv')) := by
  refine Ct.of (by decide +kernel) (Nat.le_of_ble_eq_true rfl) (Nat.le_of_ble_eq_true rfl) ?_
  refine r_aload0 dX6_slowed_0 ?_
  refine r_iload2 dX6_slowed_1 ?_
  by_cases hs : 0 ≤ s ∧ s ≤ 3
  · refine cprV1 dX6_slowed_2 ov_X6_sheetOf rfl ml_X6_233 hC.1.1 rfl (Nat.zero_le _) (Nat.zero_le _) (Nat.zero_le _) (ct_sheetOf1 _ hC.1 hs) ?_
    refine r_astore3 dX6_slowed_5 rfl ?_
    refine r_iload1 dX6_slowed_6 ?_
    refine cpiS1 dX6_slowed_7 os_X6_isGang rfl ml_X6_119 (Nat.zero_le _) (Nat.zero_le _) (Nat.zero_le _) (ct_isGang _ _) ?_
    refine rn_if_eq 17 dX6_slowed_10 rfl (fun c10 => ?_) (fun c10 => ?_)
    · refine rn_bipush (-2) dX6_slowed_17 (by decide) ?_
      refine rn_iret dX6_slowed_19 rfl (Nat.zero_le _) (Nat.zero_le _) ?_
      refine ⟨_, rfl, rfl, rfl, ?_, QT.refl hC.2.2.2.2.2.2.2.2⟩
      unfold slowQ
      rw [if_neg (fun z => bI_0.mp c10 (g02.mpr z.1))]
    · refine r_aload3 dX6_slowed_13 ?_
      refine rn_ifnonnull 20 dX6_slowed_14 rfl (fun _ => ?_) (fun h => absurd (by omega) h)
      have hq1 := g02.mp (bI_1.mp (bI_or.resolve_left c10))
      have hs4 : s.toNatClampNeg < 4 := nB_lt 3 (by decide) hs (by decide)
      refine r_aload3 dX6_slowed_20 ?_
      refine cpiV0 dX6_slowed_21 ov_X5_isMissing rfl ml_X6_237 (hC.1.sh (nB_lt 3 (by decide) hs (by decide))).2.1 rfl (Nat.zero_le _) (Nat.zero_le _) (Nat.zero_le _) (ct_isMissing _ (hC.1.sh hs4)) ?_
      refine rn_if_eq 30 dX6_slowed_24 rfl (fun c24 => ?_) (fun c24 => ?_)
      · have hm : ¬ η s.toNatClampNeg 0 = -1 := fun z => bI_0.mp c24 (by rw [(hS _ hs4).1]; exact z)
        have hsz := hgs.size hs4 hm
        refine r_aload0 dX6_slowed_30 ?_
        refine gf_X6_74 dX6_slowed_31 rfl hC.1.1 hC.1.2.1.1 ?_
        refine r_iload1 dX6_slowed_34 ?_
        refine cprV1 dX6_slowed_35 ov_X3_gangOf rfl ml_X6_122 hC.1.2.1.2.1 rfl (Nat.zero_le _) (Nat.zero_le _) (Nat.zero_le _) (ct_gangOf _ hC.1.nw (g01 hq1).1 (g01 hq1).2) ?_
        refine cpiV0 dX6_slowed_38 ov_X1_nextYard rfl ml_X6_169 (hC.1.nw.gang (g01 hq1).2).1 rfl (Nat.zero_le _) (Nat.zero_le _) (Nat.zero_le _) (ct_nextYard _ (hC.1.nw.gang (g01 hq1).2)) ?_
        refine rn_eqi _ (hC.2.1.nxI0 (g01 hq1).2) ?_
        refine r_istore4 dX6_slowed_41 rfl ?_
        refine r_aload0 dX6_slowed_43 ?_
        refine gf_X6_74 dX6_slowed_44 rfl hC.1.1 hC.1.2.1.1 ?_
        refine cpiV0 dX6_slowed_47 ov_X3_ahead rfl ml_X6_159 hC.1.2.1.2.1 rfl (Nat.zero_le _) (Nat.zero_le _) (Nat.zero_le _) (ct_ahead _ hC.1.nw hC.2.1) ?_
        refine rn_if_eq 61 dX6_slowed_50 rfl (fun c50 => ?_) (fun c50 => ?_)
        · refine rn_bipush (-3) dX6_slowed_61 (by decide) ?_
          refine rn_iret dX6_slowed_63 rfl (Nat.zero_le _) (Nat.zero_le _) ?_
          refine ⟨_, rfl, rfl, rfl, ?_, QT.refl hC.2.2.2.2.2.2.2.2⟩
          unfold slowQ
          rw [if_pos ⟨hq1, hs⟩, if_neg hm, if_pos c50]
        · have hlt := hlt_of hC.2.2.1 c50
          refine r_iload4 dX6_slowed_53 ?_
          refine cpiS1 dX6_slowed_55 os_X6_isYard rfl ml_X6_88 (Nat.zero_le _) (Nat.zero_le _) (Nat.zero_le _) (ct_isYard _ _) ?_
          refine rn_if_ne 64 dX6_slowed_58 rfl (fun _ => ?_) (fun h => absurd h (by rw [bI_t ⟨by rw [nxI_next hC.2.2.1 hlt]; exact nI_pos' (by have := next_lt (γ := G.toNatClampNeg) hlt; omega), by rw [nxI_next hC.2.2.1 hlt, show (24 : Int32) = nI 24 by decide]; exact nI_lt (next_lt hlt) (by decide)⟩]; decide))
          refine rn_iconst (0) dX6_slowed_64 (by decide) ?_
          refine r_istore5 dX6_slowed_65 rfl ?_
          refine rn_iconst (0) dX6_slowed_67 (by decide) ?_
          refine r_istore6 dX6_slowed_68 rfl ?_
          refine csl_loop (D := D) (ρ := ρ) (S := S) (t := t) (it := fun i => η s.toNatClampNeg (2 + i)) hC.2.2.1 hlt (g01 hq1).1 (g01 hq1).2 hs4 hsz.1 (((hS _ hs4).2 hm).1.trans hsz.2) ((hS _ hs4).2 hm).2 4 0 iv rv _ _ (by decide) rfl rfl hC (QT.refl hC.2.2.2.2.2.2.2.2) (fun iv rv b5 h5 hQ => ⟨_, rfl, rfl, rfl, ?_, hQ⟩)
          unfold slowQ
          rw [if_pos ⟨hq1, hs⟩, if_neg hm, if_neg c50]
          exact h5
      · have hm : η s.toNatClampNeg 0 = -1 := Decidable.of_not_not (fun z => c24 (bI_f (by rw [(hS _ hs4).1]; exact z)))
        refine rn_bipush (-11) dX6_slowed_27 (by decide) ?_
        refine rn_iret dX6_slowed_29 rfl (Nat.zero_le _) (Nat.zero_le _) ?_
        refine ⟨_, rfl, rfl, rfl, ?_, QT.refl hC.2.2.2.2.2.2.2.2⟩
        unfold slowQ
        rw [if_pos ⟨hq1, hs⟩, if_pos hm]
  · refine cprV1 dX6_slowed_2 ov_X6_sheetOf rfl ml_X6_233 hC.1.1 rfl (Nat.zero_le _) (Nat.zero_le _) (Nat.zero_le _) (ct_sheetOf0 _ hC.1 hs) ?_
    refine r_astore3 dX6_slowed_5 rfl ?_
    refine r_iload1 dX6_slowed_6 ?_
    refine cpiS1 dX6_slowed_7 os_X6_isGang rfl ml_X6_119 (Nat.zero_le _) (Nat.zero_le _) (Nat.zero_le _) (ct_isGang _ _) ?_
    refine rn_if_eq 17 dX6_slowed_10 rfl (fun c10 => ?_) (fun c10 => ?_)
    · refine rn_bipush (-2) dX6_slowed_17 (by decide) ?_
      refine rn_iret dX6_slowed_19 rfl (Nat.zero_le _) (Nat.zero_le _) ?_
      refine ⟨_, rfl, rfl, rfl, ?_, QT.refl hC.2.2.2.2.2.2.2.2⟩
      unfold slowQ
      rw [if_neg (fun z => bI_0.mp c10 (g02.mpr z.1))]
    · refine r_aload3 dX6_slowed_13 ?_
      refine rn_ifnonnull 20 dX6_slowed_14 rfl (fun h => absurd h (fun z => z rfl)) (fun _ => ?_)
      refine rn_bipush (-2) dX6_slowed_17 (by decide) ?_
      refine rn_iret dX6_slowed_19 rfl (Nat.zero_le _) (Nat.zero_le _) ?_
      refine ⟨_, rfl, rfl, rfl, ?_, QT.refl hC.2.2.2.2.2.2.2.2⟩
      unfold slowQ
      rw [if_neg (fun z => hs z.2)]
theorem gr_i {a : Int32} {N k : Nat} (hN : N ≤ 40) (h : 0 ≤ a ∧ a.toNatClampNeg + 2 * k ≤ N) : a + nI (2 * k) = nI (a.toNatClampNeg + 2 * k) := by
  rw [← nI_add, ← (nnI h.1).1]
theorem gr_no {a : Int32} {N k : Nat} (hN : N ≤ 40) (hk : k = 0 ∨ (0 ≤ a ∧ a.toNatClampNeg + 2 * k ≤ N)) (h : 0 ≤ a + nI (2 * k) ∧ a + nI (2 * k) < nI N) : 0 ≤ a ∧ a.toNatClampNeg + 2 * k < N := by
  rcases hk with rfl | hk
  · have e : a + nI (2 * 0) = a := by rw [show nI (2 * 0) = 0 by decide]; simp
    rw [e] at h
    refine ⟨h.1, ?_⟩
    have h2 := h.2
    rw [(nnI h.1).1, nI_ltI (nnI h.1).2.2 (by omega)] at h2
    omega
  · rw [gr_i hN hk] at h
    exact ⟨hk.1, (nI_ltI (by omega) (by omega)).mp h.2⟩
theorem gr_groundQ {ρ : IV} {y w v : Int32} (hg : GR ρ) : GR (groundQ ρ y w v).2 := by
  unfold groundQ
  by_cases h : (0 ≤ y ∧ y ≤ 23) ∧ (0 ≤ w ∧ w ≤ 1) ∧ 0 ≤ v ∧ v ≤ (if w = 0 then 3 else 1)
  · rw [if_pos h]
    by_cases h0 : w = 0
    · rw [if_pos h0]
      by_cases h1 : whoseS ρ y = -1
      · rw [if_pos h1]; exact hg.upd (by omega) (by omega) (by omega) (by omega)
      · rw [if_neg h1]; exact hg
    · rw [if_neg h0]
      refine hg.known ?_
      have h2 := h.2.2
      rw [if_neg h0] at h2
      exact cw1 h2
  · rw [if_neg h]; exact hg
set_option maxRecDepth 4000 in
theorem cgr_loop {D : Nat} {Q : Qt} (hX : ShX Γ rv) {s so a nn : Int32} {sn N n0 : Nat} (hs4 : sn < 4) (hN : nn = nI n0) (hn20 : n0 ≤ 20) (hN40 : N ≤ 40) {it : Nat → Int32} : ∀ (m k : Nat) (ρ iv : IV) (c x : Int32) (v8 : Value), k + m = n0 → x = nI k → v8.category = 1 → RC iv 27 ρ → GR ρ → (k = 0 ∨ (0 ≤ a ∧ a.toNatClampNeg + 2 * k ≤ N)) → iv (67 + 2 * sn) 2 = nI N → (∀ i, i < N → iv (68 + 2 * sn) i = it i) → (∀ (x : Int32) (iv' : IV), x = (grN it a N m k ρ c).1 → Off Nw iv iv' → RC iv' 27 (grN it a N m k ρ c).2 → Q (some (.int x)) Γ iv' rv lv) → Rn g l mX6_grounds (rmA (D + 2) 0 0) Q 0 0 72 [.ref 14, .int s, .int so, .int a, .int nn, .ref (67 + 2 * sn), .int c, .int x, v8] [] Γ iv rv lv := by
  intro m
  induction m with
  | zero =>
    intro k ρ iv c x v8 hn hx h8 hR hg hk h2 hit kk
    refine r_iload7 dX6_grounds_72 ?_
    refine r_iload4 dX6_grounds_74 ?_
    refine rn_icmp_ge 147 dX6_grounds_76 rfl (fun _ => ?_) (fun h => absurd (by rw [hx, hN]; exact nI_le (by omega) (by omega)) h)
    refine r_iload6 dX6_grounds_147 ?_
    refine rn_iret dX6_grounds_149 rfl (Nat.zero_le _) (Nat.zero_le _) ?_
    exact kk _ _ rfl Off.refl hR
  | succ m ih =>
    intro k ρ iv c x v8 hn hx h8 hR hg hk h2 hit kk
    refine r_iload7 dX6_grounds_72 ?_
    refine r_iload4 dX6_grounds_74 ?_
    refine rn_icmp_ge 147 dX6_grounds_76 rfl (fun h => absurd h (fun z => by rw [hx, hN, nI_leI (by omega) (by omega)] at z; omega)) (fun _ => ?_)
    refine r_iload3 dX6_grounds_79 ?_
    refine rn_iconst (2) dX6_grounds_80 (by decide) ?_
    refine r_iload7 dX6_grounds_81 ?_
    refine rn_imul dX6_grounds_83 ?_
    refine rn_iadd dX6_grounds_84 ?_
    refine rn_eqi (a + nI (2 * k)) (by rw [hx, show (2 : Int32) = nI 2 by decide, pk_mul]) ?_
    refine r_istore8 dX6_grounds_85 rfl ?_
    refine r_aload5 dX6_grounds_87 ?_
    refine r_iload8 dX6_grounds_89 ?_
    refine cpiV1 dX6_grounds_91 ov_X5_has rfl ml_X6_269 (hX.sh hs4).2.1 rfl (Nat.zero_le _) (Nat.zero_le _) (Nat.zero_le _) (ct_has _ (hX.sh hs4) _) ?_
    refine rn_if_eq 109 dX6_grounds_94 rfl (fun c94 => ?_) (fun c94 => ?_)
    · refine rn_bipush (-12) dX6_grounds_109 (by decide) ?_
      refine rn_iret dX6_grounds_111 rfl (Nat.zero_le _) (Nat.zero_le _) ?_
      have ee : grN it a N (m + 1) k ρ c = (-12, ρ) := by rw [grN, if_neg (fun z => bI_0.mp c94 (by rw [h2, gr_i hN40 ⟨z.1, by omega⟩]; exact ⟨nI_pos' (by omega), nI_lt (by omega) (by omega)⟩))]
      rw [ee] at kk
      exact kk _ _ rfl Off.refl hR
    · have hA := gr_no hN40 hk (by rw [← h2]; exact bI_1.mp (bI_or.resolve_left c94))
      have hi := gr_i (k := k) hN40 ⟨hA.1, by omega⟩
      refine r_aload5 dX6_grounds_97 ?_
      refine r_iload8 dX6_grounds_99 ?_
      refine rn_iconst (1) dX6_grounds_101 (by decide) ?_
      refine rn_iadd dX6_grounds_102 ?_
      refine cpiV1 dX6_grounds_103 ov_X5_has rfl ml_X6_269 (hX.sh hs4).2.1 rfl (Nat.zero_le _) (Nat.zero_le _) (Nat.zero_le _) (ct_has _ (hX.sh hs4) _) ?_
      refine rn_if_ne 112 dX6_grounds_106 rfl (fun c106 => ?_) (fun c106 => ?_)
      · have hB : a.toNatClampNeg + 2 * k + 1 < N := by
          have z := (bI_1.mp (bI_or.resolve_left c106)).2
          rw [h2, hi, nI_1, nI_ltI (by omega) (by omega)] at z; exact z
        have hit1 := hit (a.toNatClampNeg + 2 * k) (by omega)
        have hit2 := hit (a.toNatClampNeg + 2 * k + 1) (by omega)
        refine r_aload0 dX6_grounds_112 ?_
        refine r_aload5 dX6_grounds_113 ?_
        refine gf_X6_246 dX6_grounds_115 rfl (hX.sh hs4).2.1 (hX.sh hs4).2.2.1 ?_
        refine r_iload8 dX6_grounds_118 ?_
        refine rn_iald (a.toNatClampNeg + 2 * k) dX6_grounds_120 (hX.sh hs4).2.2.2 hi (by omega) (by decide) ?_
        refine rn_eqi _ hit1 ?_
        refine rn_iconst (0) dX6_grounds_121 (by decide) ?_
        refine r_aload5 dX6_grounds_122 ?_
        refine gf_X6_246 dX6_grounds_124 rfl (hX.sh hs4).2.1 (hX.sh hs4).2.2.1 ?_
        refine r_iload8 dX6_grounds_127 ?_
        refine rn_iconst (1) dX6_grounds_129 (by decide) ?_
        refine rn_iadd dX6_grounds_130 ?_
        refine rn_iald (a.toNatClampNeg + 2 * k + 1) dX6_grounds_131 (hX.sh hs4).2.2.2 (by rw [hi, nI_1]) (by omega) (by decide) ?_
        refine rn_eqi _ hit2 ?_
        refine cciV3 dX6_grounds_132 ov_X6_ground rfl ml_X6_288 hX.1 rfl (Nat.zero_le _) (Nat.zero_le _) (Nat.zero_le _) (ct_cground D hX hR hg _ _ _) (fun x132 iv2 h132 => ?_)
        refine rn_eqi _ h132.1 ?_
        have hg2 := gr_groundQ (y := it (a.toNatClampNeg + 2 * k)) (w := 0) (v := it (a.toNatClampNeg + 2 * k + 1)) hg
        refine rn_if_lt 141 dX6_grounds_135 rfl (fun c135 => ?_) (fun c135 => ?_)
        · refine r_iinc7 _ dX6_grounds_141 rfl rfl ?_
          refine rn_goto 72 dX6_grounds_144 rfl ?_
          have ee : grN it a N (m + 1) k ρ c = grN it a N m (k + 1) (groundQ ρ (it (a.toNatClampNeg + 2 * k)) 0 (it (a.toNatClampNeg + 2 * k + 1))).2 (c + 0) := by rw [grN, if_pos ⟨hA.1, by omega⟩, if_neg (Int32.not_le.mpr c135)]
          rw [ee, show c + 0 = c by simp] at kk
          exact ih (k + 1) _ iv2 _ _ _ (by omega) (by rw [hx]; exact nI_1 k) rfl h132.2.1 hg2 (Or.inr ⟨hA.1, by omega⟩) ((h132.2.2 _ _ (by omega)).trans h2) (fun i hi => (h132.2.2 _ _ (by omega)).trans (hit i hi)) (fun x iv3 hx ho hR3 => kk x iv3 hx (h132.2.2.trans ho) hR3)
        · refine r_iinc6 _ dX6_grounds_138 rfl rfl ?_
          refine r_iinc7 _ dX6_grounds_141 rfl rfl ?_
          refine rn_goto 72 dX6_grounds_144 rfl ?_
          have ee : grN it a N (m + 1) k ρ c = grN it a N m (k + 1) (groundQ ρ (it (a.toNatClampNeg + 2 * k)) 0 (it (a.toNatClampNeg + 2 * k + 1))).2 (c + 1) := by rw [grN, if_pos ⟨hA.1, by omega⟩, if_pos (Int32.not_lt.mp c135)]
          rw [ee] at kk
          exact ih (k + 1) _ iv2 _ _ _ (by omega) (by rw [hx]; exact nI_1 k) rfl h132.2.1 hg2 (Or.inr ⟨hA.1, by omega⟩) ((h132.2.2 _ _ (by omega)).trans h2) (fun i hi => (h132.2.2 _ _ (by omega)).trans (hit i hi)) (fun x iv3 hx ho hR3 => kk x iv3 hx (h132.2.2.trans ho) hR3)
      · refine rn_bipush (-12) dX6_grounds_109 (by decide) ?_
        refine rn_iret dX6_grounds_111 rfl (Nat.zero_le _) (Nat.zero_le _) ?_
        have ee : grN it a N (m + 1) k ρ c = (-12, ρ) := by rw [grN, if_neg (fun z => bI_0.mp c106 (by rw [h2, hi, nI_1]; exact ⟨nI_pos' (by omega), nI_lt (by omega) (by omega)⟩))]
        rw [ee] at kk
        exact kk _ _ rfl Off.refl hR
set_option maxRecDepth 4000 in
theorem ct_cgrounds (D : Nat) (hX : ShX Γ rv) {ρ η : IV} (hR : RC iv 27 ρ) (hg : GR ρ) (hS : SheetsC iv η) (hgs : GSh η) (s so a n : Int32) : Ct g l mX6_grounds (D + 2) 0 0 [.ref 14, .int s, .int so, .int a, .int n] Γ iv rv lv (qCI Γ rv lv (fun x iv' => x = (groundsQ ρ η s so a n).1 ∧ RC iv' 27 (groundsQ ρ η s so a n).2 ∧ Off Nw iv iv')) := by
  refine Ct.of (by decide +kernel) (Nat.le_of_ble_eq_true rfl) (Nat.le_of_ble_eq_true rfl) ?_
  refine r_aload0 dX6_grounds_0 ?_
  refine r_iload1 dX6_grounds_1 ?_
  by_cases hs : 0 ≤ s ∧ s ≤ 3
  · refine cprV1 dX6_grounds_2 ov_X6_sheetOf rfl ml_X6_233 hX.1 rfl (Nat.zero_le _) (Nat.zero_le _) (Nat.zero_le _) (ct_sheetOf1 _ hX hs) ?_
    refine r_astore5 dX6_grounds_5 rfl ?_
    refine r_aload5 dX6_grounds_7 ?_
    refine rn_ifnull 32 dX6_grounds_9 rfl (fun h => absurd h (by omega)) (fun _ => ?_)
    refine r_iload2 dX6_grounds_12 ?_
    refine rn_iconst (0) dX6_grounds_13 (by decide) ?_
    refine rn_iconst (2) dX6_grounds_14 (by decide) ?_
    refine cpiS3 dX6_grounds_15 os_X6_within rfl ml_X6_91 (Nat.zero_le _) (Nat.zero_le _) (Nat.zero_le _) (ct_within _ _ _ _) ?_
    refine rn_if_eq 32 dX6_grounds_18 rfl (fun c18 => ?_) (fun c18 => ?_)
    · refine rn_bipush (-2) dX6_grounds_32 (by decide) ?_
      refine rn_iret dX6_grounds_34 rfl (Nat.zero_le _) (Nat.zero_le _) ?_
      have e : groundsQ ρ η s so a n = (-2, ρ) := by unfold groundsQ; rw [if_neg (fun z => bI_0.mp c18 z.2.1)]
      exact ⟨_, rfl, rfl, rfl, rfl, by rw [e], by rw [e]; exact hR, Off.refl⟩
    · refine r_iload4 dX6_grounds_21 ?_
      refine rn_iconst (0) dX6_grounds_23 (by decide) ?_
      refine rn_bipush (20) dX6_grounds_24 (by decide) ?_
      refine cpiS3 dX6_grounds_26 os_X6_within rfl ml_X6_91 (Nat.zero_le _) (Nat.zero_le _) (Nat.zero_le _) (ct_within _ _ _ _) ?_
      refine rn_if_ne 35 dX6_grounds_29 rfl (fun c29 => ?_) (fun c29 => ?_)
      · have hq2 := bI_1.mp (bI_or.resolve_left c18)
        have hq3 := bI_1.mp (bI_or.resolve_left c29)
        have hs4 : s.toNatClampNeg < 4 := nB_lt 3 (by decide) hs (by decide)
        refine r_aload5 dX6_grounds_35 ?_
        refine cpiV0 dX6_grounds_37 ov_X5_isMissing rfl ml_X6_237 (hX.sh (nB_lt 3 (by decide) hs (by decide))).2.1 rfl (Nat.zero_le _) (Nat.zero_le _) (Nat.zero_le _) (ct_isMissing _ (hX.sh hs4)) ?_
        refine rn_if_ne 55 dX6_grounds_40 rfl (fun c40 => ?_) (fun c40 => ?_)
        · refine r_aload5 dX6_grounds_55 ?_
          refine cpiV0 dX6_grounds_57 ov_X5_isMissing rfl ml_X6_237 (hX.sh (nB_lt 3 (by decide) hs (by decide))).2.1 rfl (Nat.zero_le _) (Nat.zero_le _) (Nat.zero_le _) (ct_isMissing _ (hX.sh hs4)) ?_
          refine rn_if_eq 66 dX6_grounds_60 rfl (fun h => absurd h c40) (fun _ => ?_)
          have hm : η s.toNatClampNeg 0 = -1 := Decidable.of_not_not (fun z => c40 (bI_f (by rw [(hS _ hs4).1]; exact z)))
          refine rn_bipush (-11) dX6_grounds_63 (by decide) ?_
          refine rn_iret dX6_grounds_65 rfl (Nat.zero_le _) (Nat.zero_le _) ?_
          have e : groundsQ ρ η s so a n = (-11, ρ) := by unfold groundsQ; rw [if_pos ⟨hs, hq2, hq3⟩, if_pos hm]
          exact ⟨_, rfl, rfl, rfl, rfl, by rw [e], by rw [e]; exact hR, Off.refl⟩
        · have hm : ¬ η s.toNatClampNeg 0 = -1 := fun z => bI_0.mp c40 (by rw [(hS _ hs4).1]; exact z)
          refine r_aload5 dX6_grounds_43 ?_
          refine gf_X6_275 dX6_grounds_45 rfl (hX.sh (nB_lt 3 (by decide) hs (by decide))).2.1 ?_
          refine rn_eqi _ (hS _ hs4).1 ?_
          refine r_iload2 dX6_grounds_48 ?_
          refine rn_icmp_eq 55 dX6_grounds_49 rfl (fun c49 => ?_) (fun c49 => ?_)
          · refine r_aload5 dX6_grounds_55 ?_
            refine cpiV0 dX6_grounds_57 ov_X5_isMissing rfl ml_X6_237 (hX.sh (nB_lt 3 (by decide) hs (by decide))).2.1 rfl (Nat.zero_le _) (Nat.zero_le _) (Nat.zero_le _) (ct_isMissing _ (hX.sh hs4)) ?_
            refine rn_if_eq 66 dX6_grounds_60 rfl (fun _ => ?_) (fun h => absurd c40 h)
            refine rn_iconst (0) dX6_grounds_66 (by decide) ?_
            refine r_istore6 dX6_grounds_67 rfl ?_
            refine rn_iconst (0) dX6_grounds_69 (by decide) ?_
            refine r_istore7 dX6_grounds_70 rfl ?_
            have hsz := hgs.size hs4 hm
            have e : groundsQ ρ η s so a n = grN (fun i => η s.toNatClampNeg (2 + i)) a (η s.toNatClampNeg 1).toNatClampNeg n.toNatClampNeg 0 ρ 0 := by unfold groundsQ; rw [if_pos ⟨hs, hq2, hq3⟩, if_neg hm, if_pos c49]
            exact cgr_loop (D := D) (it := fun i => η s.toNatClampNeg (2 + i)) hX hs4 (nB 20 (by decide) hq3).1 (nB 20 (by decide) hq3).2 hsz.1 _ 0 ρ iv _ _ _ (Nat.zero_add _) rfl rfl hR hg (Or.inl rfl) (((hS _ hs4).2 hm).1.trans hsz.2) (fun i hi => ((hS _ hs4).2 hm).2 i hi) (fun x iv' hx ho hRn => ⟨_, rfl, rfl, rfl, rfl, by rw [e]; exact hx, by rw [e]; exact hRn, ho⟩)
          · refine rn_bipush (-13) dX6_grounds_52 (by decide) ?_
            refine rn_iret dX6_grounds_54 rfl (Nat.zero_le _) (Nat.zero_le _) ?_
            have e : groundsQ ρ η s so a n = (-13, ρ) := by unfold groundsQ; rw [if_pos ⟨hs, hq2, hq3⟩, if_neg hm, if_neg c49]
            exact ⟨_, rfl, rfl, rfl, rfl, by rw [e], by rw [e]; exact hR, Off.refl⟩
      · refine rn_bipush (-2) dX6_grounds_32 (by decide) ?_
        refine rn_iret dX6_grounds_34 rfl (Nat.zero_le _) (Nat.zero_le _) ?_
        have e : groundsQ ρ η s so a n = (-2, ρ) := by unfold groundsQ; rw [if_neg (fun z => bI_0.mp c29 z.2.2)]
        exact ⟨_, rfl, rfl, rfl, rfl, by rw [e], by rw [e]; exact hR, Off.refl⟩
  · refine cprV1 dX6_grounds_2 ov_X6_sheetOf rfl ml_X6_233 hX.1 rfl (Nat.zero_le _) (Nat.zero_le _) (Nat.zero_le _) (ct_sheetOf0 _ hX hs) ?_
    refine r_astore5 dX6_grounds_5 rfl ?_
    refine r_aload5 dX6_grounds_7 ?_
    refine rn_ifnull 32 dX6_grounds_9 rfl (fun _ => ?_) (fun h => absurd rfl h)
    refine rn_bipush (-2) dX6_grounds_32 (by decide) ?_
    refine rn_iret dX6_grounds_34 rfl (Nat.zero_le _) (Nat.zero_le _) ?_
    have e : groundsQ ρ η s so a n = (-2, ρ) := by unfold groundsQ; rw [if_neg (fun z => hs z.1)]
    exact ⟨_, rfl, rfl, rfl, rfl, by rw [e], by rw [e]; exact hR, Off.refl⟩
set_option maxRecDepth 4000 in
theorem ct_isUnder (D : Nat) {a : Nat} (hG : ShG Γ rv a) {ki : Nat} (hk : iv a 1 = nI ki) (ki1 : ki ≤ 5) {w : Int32} (hq1 : 0 ≤ w ∧ w ≤ 5) : Ct g l mX1_isUnder (D + 1) 0 0 [.ref a, .int w] Γ iv rv lv (qPI (bI (undS ki w.toNatClampNeg = true)) Γ iv rv lv) := by
  refine Ct.of (by decide +kernel) (Nat.le_of_ble_eq_true rfl) (Nat.le_of_ble_eq_true rfl) ?_
  refine r_aload0 dX1_isUnder_0 ?_
  refine gf_X1_9 dX1_isUnder_1 rfl hG.1 ?_
  refine rn_eqi (nI ki) hk ?_
  refine r_istore2 dX1_isUnder_4 rfl ?_
  refine rn_iconst (0) dX1_isUnder_5 (by decide) ?_
  refine r_istore3 dX1_isUnder_6 rfl ?_
  match ki, ki1 with
  | 0, _ =>
    rcases cw5 hq1 with rfl | rfl | rfl | rfl | rfl | rfl
    · refine r_iload3 dX1_isUnder_7 ?_
      refine rn_iconst (5) dX1_isUnder_8 (by decide) ?_
      refine rn_icmp_gt 40 dX1_isUnder_9 rfl (fun h => absurd h (by decide)) (fun _ => ?_)
      refine r_iload2 dX1_isUnder_12 ?_
      refine rn_iconst (0) dX1_isUnder_13 (by decide) ?_
      refine rn_iconst (5) dX1_isUnder_14 (by decide) ?_
      refine cpiSN3 dX1_isUnder_15 os_X6_within rfl ml_X1_54 (Nat.zero_le _) (Nat.zero_le _) (Nat.zero_le _) (ct_within _ _ _ _) ?_
      refine rn_if_eq 40 dX1_isUnder_18 rfl (fun h => absurd h (by decide)) (fun _ => ?_)
      refine r_iload2 dX1_isUnder_21 ?_
      refine r_iload1 dX1_isUnder_22 ?_
      refine rn_icmp_ne 28 dX1_isUnder_23 rfl (fun h => absurd (by decide) h) (fun _ => ?_)
      refine rn_iconst (1) dX1_isUnder_26 (by decide) ?_
      refine rn_zret dX1_isUnder_27 rfl (by first | decide | exact nar_bI) (Nat.zero_le _) (Nat.zero_le _) ?_
      refine ⟨congrArg (fun z => some (Value.int z)) (bI_t (by decide)).symm, rfl, rfl, rfl, rfl⟩
    · refine r_iload3 dX1_isUnder_7 ?_
      refine rn_iconst (5) dX1_isUnder_8 (by decide) ?_
      refine rn_icmp_gt 40 dX1_isUnder_9 rfl (fun h => absurd h (by decide)) (fun _ => ?_)
      refine r_iload2 dX1_isUnder_12 ?_
      refine rn_iconst (0) dX1_isUnder_13 (by decide) ?_
      refine rn_iconst (5) dX1_isUnder_14 (by decide) ?_
      refine cpiSN3 dX1_isUnder_15 os_X6_within rfl ml_X1_54 (Nat.zero_le _) (Nat.zero_le _) (Nat.zero_le _) (ct_within _ _ _ _) ?_
      refine rn_if_eq 40 dX1_isUnder_18 rfl (fun h => absurd h (by decide)) (fun _ => ?_)
      refine r_iload2 dX1_isUnder_21 ?_
      refine r_iload1 dX1_isUnder_22 ?_
      refine rn_icmp_ne 28 dX1_isUnder_23 rfl (fun _ => ?_) (fun h => absurd h (by decide))
      refine rn_getsI (i := 4) dX1_isUnder_28 fl_X1_58 (by decide) (fun g h => h.2.2.2.2.1.2.2.1) ?_
      refine r_iload2 dX1_isUnder_31 ?_
      refine rn_ialdO 0 dX1_isUnder_32 (by decide) (by decide) (by decide) (by decide) ?_
      refine rn_eqi (-1) (by decide) ?_
      refine r_istore2 dX1_isUnder_33 rfl ?_
      refine r_iinc3 _ dX1_isUnder_34 rfl rfl ?_
      refine rn_goto 7 dX1_isUnder_37 rfl ?_
      refine r_iload3 dX1_isUnder_7 ?_
      refine rn_iconst (5) dX1_isUnder_8 (by decide) ?_
      refine rn_icmp_gt 40 dX1_isUnder_9 rfl (fun h => absurd h (by decide)) (fun _ => ?_)
      refine r_iload2 dX1_isUnder_12 ?_
      refine rn_iconst (0) dX1_isUnder_13 (by decide) ?_
      refine rn_iconst (5) dX1_isUnder_14 (by decide) ?_
      refine cpiSN3 dX1_isUnder_15 os_X6_within rfl ml_X1_54 (Nat.zero_le _) (Nat.zero_le _) (Nat.zero_le _) (ct_within _ _ _ _) ?_
      refine rn_if_eq 40 dX1_isUnder_18 rfl (fun _ => ?_) (fun h => absurd (by decide) h)
      refine rn_iconst (0) dX1_isUnder_40 (by decide) ?_
      refine rn_zret dX1_isUnder_41 rfl (by first | decide | exact nar_bI) (Nat.zero_le _) (Nat.zero_le _) ?_
      refine ⟨congrArg (fun z => some (Value.int z)) (bI_f (by decide)).symm, rfl, rfl, rfl, rfl⟩
    · refine r_iload3 dX1_isUnder_7 ?_
      refine rn_iconst (5) dX1_isUnder_8 (by decide) ?_
      refine rn_icmp_gt 40 dX1_isUnder_9 rfl (fun h => absurd h (by decide)) (fun _ => ?_)
      refine r_iload2 dX1_isUnder_12 ?_
      refine rn_iconst (0) dX1_isUnder_13 (by decide) ?_
      refine rn_iconst (5) dX1_isUnder_14 (by decide) ?_
      refine cpiSN3 dX1_isUnder_15 os_X6_within rfl ml_X1_54 (Nat.zero_le _) (Nat.zero_le _) (Nat.zero_le _) (ct_within _ _ _ _) ?_
      refine rn_if_eq 40 dX1_isUnder_18 rfl (fun h => absurd h (by decide)) (fun _ => ?_)
      refine r_iload2 dX1_isUnder_21 ?_
      refine r_iload1 dX1_isUnder_22 ?_
      refine rn_icmp_ne 28 dX1_isUnder_23 rfl (fun _ => ?_) (fun h => absurd h (by decide))
      refine rn_getsI (i := 4) dX1_isUnder_28 fl_X1_58 (by decide) (fun g h => h.2.2.2.2.1.2.2.1) ?_
      refine r_iload2 dX1_isUnder_31 ?_
      refine rn_ialdO 0 dX1_isUnder_32 (by decide) (by decide) (by decide) (by decide) ?_
      refine rn_eqi (-1) (by decide) ?_
      refine r_istore2 dX1_isUnder_33 rfl ?_
      refine r_iinc3 _ dX1_isUnder_34 rfl rfl ?_
      refine rn_goto 7 dX1_isUnder_37 rfl ?_
      refine r_iload3 dX1_isUnder_7 ?_
      refine rn_iconst (5) dX1_isUnder_8 (by decide) ?_
      refine rn_icmp_gt 40 dX1_isUnder_9 rfl (fun h => absurd h (by decide)) (fun _ => ?_)
      refine r_iload2 dX1_isUnder_12 ?_
      refine rn_iconst (0) dX1_isUnder_13 (by decide) ?_
      refine rn_iconst (5) dX1_isUnder_14 (by decide) ?_
      refine cpiSN3 dX1_isUnder_15 os_X6_within rfl ml_X1_54 (Nat.zero_le _) (Nat.zero_le _) (Nat.zero_le _) (ct_within _ _ _ _) ?_
      refine rn_if_eq 40 dX1_isUnder_18 rfl (fun _ => ?_) (fun h => absurd (by decide) h)
      refine rn_iconst (0) dX1_isUnder_40 (by decide) ?_
      refine rn_zret dX1_isUnder_41 rfl (by first | decide | exact nar_bI) (Nat.zero_le _) (Nat.zero_le _) ?_
      refine ⟨congrArg (fun z => some (Value.int z)) (bI_f (by decide)).symm, rfl, rfl, rfl, rfl⟩
    · refine r_iload3 dX1_isUnder_7 ?_
      refine rn_iconst (5) dX1_isUnder_8 (by decide) ?_
      refine rn_icmp_gt 40 dX1_isUnder_9 rfl (fun h => absurd h (by decide)) (fun _ => ?_)
      refine r_iload2 dX1_isUnder_12 ?_
      refine rn_iconst (0) dX1_isUnder_13 (by decide) ?_
      refine rn_iconst (5) dX1_isUnder_14 (by decide) ?_
      refine cpiSN3 dX1_isUnder_15 os_X6_within rfl ml_X1_54 (Nat.zero_le _) (Nat.zero_le _) (Nat.zero_le _) (ct_within _ _ _ _) ?_
      refine rn_if_eq 40 dX1_isUnder_18 rfl (fun h => absurd h (by decide)) (fun _ => ?_)
      refine r_iload2 dX1_isUnder_21 ?_
      refine r_iload1 dX1_isUnder_22 ?_
      refine rn_icmp_ne 28 dX1_isUnder_23 rfl (fun _ => ?_) (fun h => absurd h (by decide))
      refine rn_getsI (i := 4) dX1_isUnder_28 fl_X1_58 (by decide) (fun g h => h.2.2.2.2.1.2.2.1) ?_
      refine r_iload2 dX1_isUnder_31 ?_
      refine rn_ialdO 0 dX1_isUnder_32 (by decide) (by decide) (by decide) (by decide) ?_
      refine rn_eqi (-1) (by decide) ?_
      refine r_istore2 dX1_isUnder_33 rfl ?_
      refine r_iinc3 _ dX1_isUnder_34 rfl rfl ?_
      refine rn_goto 7 dX1_isUnder_37 rfl ?_
      refine r_iload3 dX1_isUnder_7 ?_
      refine rn_iconst (5) dX1_isUnder_8 (by decide) ?_
      refine rn_icmp_gt 40 dX1_isUnder_9 rfl (fun h => absurd h (by decide)) (fun _ => ?_)
      refine r_iload2 dX1_isUnder_12 ?_
      refine rn_iconst (0) dX1_isUnder_13 (by decide) ?_
      refine rn_iconst (5) dX1_isUnder_14 (by decide) ?_
      refine cpiSN3 dX1_isUnder_15 os_X6_within rfl ml_X1_54 (Nat.zero_le _) (Nat.zero_le _) (Nat.zero_le _) (ct_within _ _ _ _) ?_
      refine rn_if_eq 40 dX1_isUnder_18 rfl (fun _ => ?_) (fun h => absurd (by decide) h)
      refine rn_iconst (0) dX1_isUnder_40 (by decide) ?_
      refine rn_zret dX1_isUnder_41 rfl (by first | decide | exact nar_bI) (Nat.zero_le _) (Nat.zero_le _) ?_
      refine ⟨congrArg (fun z => some (Value.int z)) (bI_f (by decide)).symm, rfl, rfl, rfl, rfl⟩
    · refine r_iload3 dX1_isUnder_7 ?_
      refine rn_iconst (5) dX1_isUnder_8 (by decide) ?_
      refine rn_icmp_gt 40 dX1_isUnder_9 rfl (fun h => absurd h (by decide)) (fun _ => ?_)
      refine r_iload2 dX1_isUnder_12 ?_
      refine rn_iconst (0) dX1_isUnder_13 (by decide) ?_
      refine rn_iconst (5) dX1_isUnder_14 (by decide) ?_
      refine cpiSN3 dX1_isUnder_15 os_X6_within rfl ml_X1_54 (Nat.zero_le _) (Nat.zero_le _) (Nat.zero_le _) (ct_within _ _ _ _) ?_
      refine rn_if_eq 40 dX1_isUnder_18 rfl (fun h => absurd h (by decide)) (fun _ => ?_)
      refine r_iload2 dX1_isUnder_21 ?_
      refine r_iload1 dX1_isUnder_22 ?_
      refine rn_icmp_ne 28 dX1_isUnder_23 rfl (fun _ => ?_) (fun h => absurd h (by decide))
      refine rn_getsI (i := 4) dX1_isUnder_28 fl_X1_58 (by decide) (fun g h => h.2.2.2.2.1.2.2.1) ?_
      refine r_iload2 dX1_isUnder_31 ?_
      refine rn_ialdO 0 dX1_isUnder_32 (by decide) (by decide) (by decide) (by decide) ?_
      refine rn_eqi (-1) (by decide) ?_
      refine r_istore2 dX1_isUnder_33 rfl ?_
      refine r_iinc3 _ dX1_isUnder_34 rfl rfl ?_
      refine rn_goto 7 dX1_isUnder_37 rfl ?_
      refine r_iload3 dX1_isUnder_7 ?_
      refine rn_iconst (5) dX1_isUnder_8 (by decide) ?_
      refine rn_icmp_gt 40 dX1_isUnder_9 rfl (fun h => absurd h (by decide)) (fun _ => ?_)
      refine r_iload2 dX1_isUnder_12 ?_
      refine rn_iconst (0) dX1_isUnder_13 (by decide) ?_
      refine rn_iconst (5) dX1_isUnder_14 (by decide) ?_
      refine cpiSN3 dX1_isUnder_15 os_X6_within rfl ml_X1_54 (Nat.zero_le _) (Nat.zero_le _) (Nat.zero_le _) (ct_within _ _ _ _) ?_
      refine rn_if_eq 40 dX1_isUnder_18 rfl (fun _ => ?_) (fun h => absurd (by decide) h)
      refine rn_iconst (0) dX1_isUnder_40 (by decide) ?_
      refine rn_zret dX1_isUnder_41 rfl (by first | decide | exact nar_bI) (Nat.zero_le _) (Nat.zero_le _) ?_
      refine ⟨congrArg (fun z => some (Value.int z)) (bI_f (by decide)).symm, rfl, rfl, rfl, rfl⟩
    · refine r_iload3 dX1_isUnder_7 ?_
      refine rn_iconst (5) dX1_isUnder_8 (by decide) ?_
      refine rn_icmp_gt 40 dX1_isUnder_9 rfl (fun h => absurd h (by decide)) (fun _ => ?_)
      refine r_iload2 dX1_isUnder_12 ?_
      refine rn_iconst (0) dX1_isUnder_13 (by decide) ?_
      refine rn_iconst (5) dX1_isUnder_14 (by decide) ?_
      refine cpiSN3 dX1_isUnder_15 os_X6_within rfl ml_X1_54 (Nat.zero_le _) (Nat.zero_le _) (Nat.zero_le _) (ct_within _ _ _ _) ?_
      refine rn_if_eq 40 dX1_isUnder_18 rfl (fun h => absurd h (by decide)) (fun _ => ?_)
      refine r_iload2 dX1_isUnder_21 ?_
      refine r_iload1 dX1_isUnder_22 ?_
      refine rn_icmp_ne 28 dX1_isUnder_23 rfl (fun _ => ?_) (fun h => absurd h (by decide))
      refine rn_getsI (i := 4) dX1_isUnder_28 fl_X1_58 (by decide) (fun g h => h.2.2.2.2.1.2.2.1) ?_
      refine r_iload2 dX1_isUnder_31 ?_
      refine rn_ialdO 0 dX1_isUnder_32 (by decide) (by decide) (by decide) (by decide) ?_
      refine rn_eqi (-1) (by decide) ?_
      refine r_istore2 dX1_isUnder_33 rfl ?_
      refine r_iinc3 _ dX1_isUnder_34 rfl rfl ?_
      refine rn_goto 7 dX1_isUnder_37 rfl ?_
      refine r_iload3 dX1_isUnder_7 ?_
      refine rn_iconst (5) dX1_isUnder_8 (by decide) ?_
      refine rn_icmp_gt 40 dX1_isUnder_9 rfl (fun h => absurd h (by decide)) (fun _ => ?_)
      refine r_iload2 dX1_isUnder_12 ?_
      refine rn_iconst (0) dX1_isUnder_13 (by decide) ?_
      refine rn_iconst (5) dX1_isUnder_14 (by decide) ?_
      refine cpiSN3 dX1_isUnder_15 os_X6_within rfl ml_X1_54 (Nat.zero_le _) (Nat.zero_le _) (Nat.zero_le _) (ct_within _ _ _ _) ?_
      refine rn_if_eq 40 dX1_isUnder_18 rfl (fun _ => ?_) (fun h => absurd (by decide) h)
      refine rn_iconst (0) dX1_isUnder_40 (by decide) ?_
      refine rn_zret dX1_isUnder_41 rfl (by first | decide | exact nar_bI) (Nat.zero_le _) (Nat.zero_le _) ?_
      refine ⟨congrArg (fun z => some (Value.int z)) (bI_f (by decide)).symm, rfl, rfl, rfl, rfl⟩
  | 1, _ =>
    rcases cw5 hq1 with rfl | rfl | rfl | rfl | rfl | rfl
    · refine r_iload3 dX1_isUnder_7 ?_
      refine rn_iconst (5) dX1_isUnder_8 (by decide) ?_
      refine rn_icmp_gt 40 dX1_isUnder_9 rfl (fun h => absurd h (by decide)) (fun _ => ?_)
      refine r_iload2 dX1_isUnder_12 ?_
      refine rn_iconst (0) dX1_isUnder_13 (by decide) ?_
      refine rn_iconst (5) dX1_isUnder_14 (by decide) ?_
      refine cpiSN3 dX1_isUnder_15 os_X6_within rfl ml_X1_54 (Nat.zero_le _) (Nat.zero_le _) (Nat.zero_le _) (ct_within _ _ _ _) ?_
      refine rn_if_eq 40 dX1_isUnder_18 rfl (fun h => absurd h (by decide)) (fun _ => ?_)
      refine r_iload2 dX1_isUnder_21 ?_
      refine r_iload1 dX1_isUnder_22 ?_
      refine rn_icmp_ne 28 dX1_isUnder_23 rfl (fun _ => ?_) (fun h => absurd h (by decide))
      refine rn_getsI (i := 4) dX1_isUnder_28 fl_X1_58 (by decide) (fun g h => h.2.2.2.2.1.2.2.1) ?_
      refine r_iload2 dX1_isUnder_31 ?_
      refine rn_ialdO 1 dX1_isUnder_32 (by decide) (by decide) (by decide) (by decide) ?_
      refine rn_eqi (0) (by decide) ?_
      refine r_istore2 dX1_isUnder_33 rfl ?_
      refine r_iinc3 _ dX1_isUnder_34 rfl rfl ?_
      refine rn_goto 7 dX1_isUnder_37 rfl ?_
      refine r_iload3 dX1_isUnder_7 ?_
      refine rn_iconst (5) dX1_isUnder_8 (by decide) ?_
      refine rn_icmp_gt 40 dX1_isUnder_9 rfl (fun h => absurd h (by decide)) (fun _ => ?_)
      refine r_iload2 dX1_isUnder_12 ?_
      refine rn_iconst (0) dX1_isUnder_13 (by decide) ?_
      refine rn_iconst (5) dX1_isUnder_14 (by decide) ?_
      refine cpiSN3 dX1_isUnder_15 os_X6_within rfl ml_X1_54 (Nat.zero_le _) (Nat.zero_le _) (Nat.zero_le _) (ct_within _ _ _ _) ?_
      refine rn_if_eq 40 dX1_isUnder_18 rfl (fun h => absurd h (by decide)) (fun _ => ?_)
      refine r_iload2 dX1_isUnder_21 ?_
      refine r_iload1 dX1_isUnder_22 ?_
      refine rn_icmp_ne 28 dX1_isUnder_23 rfl (fun h => absurd (by decide) h) (fun _ => ?_)
      refine rn_iconst (1) dX1_isUnder_26 (by decide) ?_
      refine rn_zret dX1_isUnder_27 rfl (by first | decide | exact nar_bI) (Nat.zero_le _) (Nat.zero_le _) ?_
      refine ⟨congrArg (fun z => some (Value.int z)) (bI_t (by decide)).symm, rfl, rfl, rfl, rfl⟩
    · refine r_iload3 dX1_isUnder_7 ?_
      refine rn_iconst (5) dX1_isUnder_8 (by decide) ?_
      refine rn_icmp_gt 40 dX1_isUnder_9 rfl (fun h => absurd h (by decide)) (fun _ => ?_)
      refine r_iload2 dX1_isUnder_12 ?_
      refine rn_iconst (0) dX1_isUnder_13 (by decide) ?_
      refine rn_iconst (5) dX1_isUnder_14 (by decide) ?_
      refine cpiSN3 dX1_isUnder_15 os_X6_within rfl ml_X1_54 (Nat.zero_le _) (Nat.zero_le _) (Nat.zero_le _) (ct_within _ _ _ _) ?_
      refine rn_if_eq 40 dX1_isUnder_18 rfl (fun h => absurd h (by decide)) (fun _ => ?_)
      refine r_iload2 dX1_isUnder_21 ?_
      refine r_iload1 dX1_isUnder_22 ?_
      refine rn_icmp_ne 28 dX1_isUnder_23 rfl (fun h => absurd (by decide) h) (fun _ => ?_)
      refine rn_iconst (1) dX1_isUnder_26 (by decide) ?_
      refine rn_zret dX1_isUnder_27 rfl (by first | decide | exact nar_bI) (Nat.zero_le _) (Nat.zero_le _) ?_
      refine ⟨congrArg (fun z => some (Value.int z)) (bI_t (by decide)).symm, rfl, rfl, rfl, rfl⟩
    · refine r_iload3 dX1_isUnder_7 ?_
      refine rn_iconst (5) dX1_isUnder_8 (by decide) ?_
      refine rn_icmp_gt 40 dX1_isUnder_9 rfl (fun h => absurd h (by decide)) (fun _ => ?_)
      refine r_iload2 dX1_isUnder_12 ?_
      refine rn_iconst (0) dX1_isUnder_13 (by decide) ?_
      refine rn_iconst (5) dX1_isUnder_14 (by decide) ?_
      refine cpiSN3 dX1_isUnder_15 os_X6_within rfl ml_X1_54 (Nat.zero_le _) (Nat.zero_le _) (Nat.zero_le _) (ct_within _ _ _ _) ?_
      refine rn_if_eq 40 dX1_isUnder_18 rfl (fun h => absurd h (by decide)) (fun _ => ?_)
      refine r_iload2 dX1_isUnder_21 ?_
      refine r_iload1 dX1_isUnder_22 ?_
      refine rn_icmp_ne 28 dX1_isUnder_23 rfl (fun _ => ?_) (fun h => absurd h (by decide))
      refine rn_getsI (i := 4) dX1_isUnder_28 fl_X1_58 (by decide) (fun g h => h.2.2.2.2.1.2.2.1) ?_
      refine r_iload2 dX1_isUnder_31 ?_
      refine rn_ialdO 1 dX1_isUnder_32 (by decide) (by decide) (by decide) (by decide) ?_
      refine rn_eqi (0) (by decide) ?_
      refine r_istore2 dX1_isUnder_33 rfl ?_
      refine r_iinc3 _ dX1_isUnder_34 rfl rfl ?_
      refine rn_goto 7 dX1_isUnder_37 rfl ?_
      refine r_iload3 dX1_isUnder_7 ?_
      refine rn_iconst (5) dX1_isUnder_8 (by decide) ?_
      refine rn_icmp_gt 40 dX1_isUnder_9 rfl (fun h => absurd h (by decide)) (fun _ => ?_)
      refine r_iload2 dX1_isUnder_12 ?_
      refine rn_iconst (0) dX1_isUnder_13 (by decide) ?_
      refine rn_iconst (5) dX1_isUnder_14 (by decide) ?_
      refine cpiSN3 dX1_isUnder_15 os_X6_within rfl ml_X1_54 (Nat.zero_le _) (Nat.zero_le _) (Nat.zero_le _) (ct_within _ _ _ _) ?_
      refine rn_if_eq 40 dX1_isUnder_18 rfl (fun h => absurd h (by decide)) (fun _ => ?_)
      refine r_iload2 dX1_isUnder_21 ?_
      refine r_iload1 dX1_isUnder_22 ?_
      refine rn_icmp_ne 28 dX1_isUnder_23 rfl (fun _ => ?_) (fun h => absurd h (by decide))
      refine rn_getsI (i := 4) dX1_isUnder_28 fl_X1_58 (by decide) (fun g h => h.2.2.2.2.1.2.2.1) ?_
      refine r_iload2 dX1_isUnder_31 ?_
      refine rn_ialdO 0 dX1_isUnder_32 (by decide) (by decide) (by decide) (by decide) ?_
      refine rn_eqi (-1) (by decide) ?_
      refine r_istore2 dX1_isUnder_33 rfl ?_
      refine r_iinc3 _ dX1_isUnder_34 rfl rfl ?_
      refine rn_goto 7 dX1_isUnder_37 rfl ?_
      refine r_iload3 dX1_isUnder_7 ?_
      refine rn_iconst (5) dX1_isUnder_8 (by decide) ?_
      refine rn_icmp_gt 40 dX1_isUnder_9 rfl (fun h => absurd h (by decide)) (fun _ => ?_)
      refine r_iload2 dX1_isUnder_12 ?_
      refine rn_iconst (0) dX1_isUnder_13 (by decide) ?_
      refine rn_iconst (5) dX1_isUnder_14 (by decide) ?_
      refine cpiSN3 dX1_isUnder_15 os_X6_within rfl ml_X1_54 (Nat.zero_le _) (Nat.zero_le _) (Nat.zero_le _) (ct_within _ _ _ _) ?_
      refine rn_if_eq 40 dX1_isUnder_18 rfl (fun _ => ?_) (fun h => absurd (by decide) h)
      refine rn_iconst (0) dX1_isUnder_40 (by decide) ?_
      refine rn_zret dX1_isUnder_41 rfl (by first | decide | exact nar_bI) (Nat.zero_le _) (Nat.zero_le _) ?_
      refine ⟨congrArg (fun z => some (Value.int z)) (bI_f (by decide)).symm, rfl, rfl, rfl, rfl⟩
    · refine r_iload3 dX1_isUnder_7 ?_
      refine rn_iconst (5) dX1_isUnder_8 (by decide) ?_
      refine rn_icmp_gt 40 dX1_isUnder_9 rfl (fun h => absurd h (by decide)) (fun _ => ?_)
      refine r_iload2 dX1_isUnder_12 ?_
      refine rn_iconst (0) dX1_isUnder_13 (by decide) ?_
      refine rn_iconst (5) dX1_isUnder_14 (by decide) ?_
      refine cpiSN3 dX1_isUnder_15 os_X6_within rfl ml_X1_54 (Nat.zero_le _) (Nat.zero_le _) (Nat.zero_le _) (ct_within _ _ _ _) ?_
      refine rn_if_eq 40 dX1_isUnder_18 rfl (fun h => absurd h (by decide)) (fun _ => ?_)
      refine r_iload2 dX1_isUnder_21 ?_
      refine r_iload1 dX1_isUnder_22 ?_
      refine rn_icmp_ne 28 dX1_isUnder_23 rfl (fun _ => ?_) (fun h => absurd h (by decide))
      refine rn_getsI (i := 4) dX1_isUnder_28 fl_X1_58 (by decide) (fun g h => h.2.2.2.2.1.2.2.1) ?_
      refine r_iload2 dX1_isUnder_31 ?_
      refine rn_ialdO 1 dX1_isUnder_32 (by decide) (by decide) (by decide) (by decide) ?_
      refine rn_eqi (0) (by decide) ?_
      refine r_istore2 dX1_isUnder_33 rfl ?_
      refine r_iinc3 _ dX1_isUnder_34 rfl rfl ?_
      refine rn_goto 7 dX1_isUnder_37 rfl ?_
      refine r_iload3 dX1_isUnder_7 ?_
      refine rn_iconst (5) dX1_isUnder_8 (by decide) ?_
      refine rn_icmp_gt 40 dX1_isUnder_9 rfl (fun h => absurd h (by decide)) (fun _ => ?_)
      refine r_iload2 dX1_isUnder_12 ?_
      refine rn_iconst (0) dX1_isUnder_13 (by decide) ?_
      refine rn_iconst (5) dX1_isUnder_14 (by decide) ?_
      refine cpiSN3 dX1_isUnder_15 os_X6_within rfl ml_X1_54 (Nat.zero_le _) (Nat.zero_le _) (Nat.zero_le _) (ct_within _ _ _ _) ?_
      refine rn_if_eq 40 dX1_isUnder_18 rfl (fun h => absurd h (by decide)) (fun _ => ?_)
      refine r_iload2 dX1_isUnder_21 ?_
      refine r_iload1 dX1_isUnder_22 ?_
      refine rn_icmp_ne 28 dX1_isUnder_23 rfl (fun _ => ?_) (fun h => absurd h (by decide))
      refine rn_getsI (i := 4) dX1_isUnder_28 fl_X1_58 (by decide) (fun g h => h.2.2.2.2.1.2.2.1) ?_
      refine r_iload2 dX1_isUnder_31 ?_
      refine rn_ialdO 0 dX1_isUnder_32 (by decide) (by decide) (by decide) (by decide) ?_
      refine rn_eqi (-1) (by decide) ?_
      refine r_istore2 dX1_isUnder_33 rfl ?_
      refine r_iinc3 _ dX1_isUnder_34 rfl rfl ?_
      refine rn_goto 7 dX1_isUnder_37 rfl ?_
      refine r_iload3 dX1_isUnder_7 ?_
      refine rn_iconst (5) dX1_isUnder_8 (by decide) ?_
      refine rn_icmp_gt 40 dX1_isUnder_9 rfl (fun h => absurd h (by decide)) (fun _ => ?_)
      refine r_iload2 dX1_isUnder_12 ?_
      refine rn_iconst (0) dX1_isUnder_13 (by decide) ?_
      refine rn_iconst (5) dX1_isUnder_14 (by decide) ?_
      refine cpiSN3 dX1_isUnder_15 os_X6_within rfl ml_X1_54 (Nat.zero_le _) (Nat.zero_le _) (Nat.zero_le _) (ct_within _ _ _ _) ?_
      refine rn_if_eq 40 dX1_isUnder_18 rfl (fun _ => ?_) (fun h => absurd (by decide) h)
      refine rn_iconst (0) dX1_isUnder_40 (by decide) ?_
      refine rn_zret dX1_isUnder_41 rfl (by first | decide | exact nar_bI) (Nat.zero_le _) (Nat.zero_le _) ?_
      refine ⟨congrArg (fun z => some (Value.int z)) (bI_f (by decide)).symm, rfl, rfl, rfl, rfl⟩
    · refine r_iload3 dX1_isUnder_7 ?_
      refine rn_iconst (5) dX1_isUnder_8 (by decide) ?_
      refine rn_icmp_gt 40 dX1_isUnder_9 rfl (fun h => absurd h (by decide)) (fun _ => ?_)
      refine r_iload2 dX1_isUnder_12 ?_
      refine rn_iconst (0) dX1_isUnder_13 (by decide) ?_
      refine rn_iconst (5) dX1_isUnder_14 (by decide) ?_
      refine cpiSN3 dX1_isUnder_15 os_X6_within rfl ml_X1_54 (Nat.zero_le _) (Nat.zero_le _) (Nat.zero_le _) (ct_within _ _ _ _) ?_
      refine rn_if_eq 40 dX1_isUnder_18 rfl (fun h => absurd h (by decide)) (fun _ => ?_)
      refine r_iload2 dX1_isUnder_21 ?_
      refine r_iload1 dX1_isUnder_22 ?_
      refine rn_icmp_ne 28 dX1_isUnder_23 rfl (fun _ => ?_) (fun h => absurd h (by decide))
      refine rn_getsI (i := 4) dX1_isUnder_28 fl_X1_58 (by decide) (fun g h => h.2.2.2.2.1.2.2.1) ?_
      refine r_iload2 dX1_isUnder_31 ?_
      refine rn_ialdO 1 dX1_isUnder_32 (by decide) (by decide) (by decide) (by decide) ?_
      refine rn_eqi (0) (by decide) ?_
      refine r_istore2 dX1_isUnder_33 rfl ?_
      refine r_iinc3 _ dX1_isUnder_34 rfl rfl ?_
      refine rn_goto 7 dX1_isUnder_37 rfl ?_
      refine r_iload3 dX1_isUnder_7 ?_
      refine rn_iconst (5) dX1_isUnder_8 (by decide) ?_
      refine rn_icmp_gt 40 dX1_isUnder_9 rfl (fun h => absurd h (by decide)) (fun _ => ?_)
      refine r_iload2 dX1_isUnder_12 ?_
      refine rn_iconst (0) dX1_isUnder_13 (by decide) ?_
      refine rn_iconst (5) dX1_isUnder_14 (by decide) ?_
      refine cpiSN3 dX1_isUnder_15 os_X6_within rfl ml_X1_54 (Nat.zero_le _) (Nat.zero_le _) (Nat.zero_le _) (ct_within _ _ _ _) ?_
      refine rn_if_eq 40 dX1_isUnder_18 rfl (fun h => absurd h (by decide)) (fun _ => ?_)
      refine r_iload2 dX1_isUnder_21 ?_
      refine r_iload1 dX1_isUnder_22 ?_
      refine rn_icmp_ne 28 dX1_isUnder_23 rfl (fun _ => ?_) (fun h => absurd h (by decide))
      refine rn_getsI (i := 4) dX1_isUnder_28 fl_X1_58 (by decide) (fun g h => h.2.2.2.2.1.2.2.1) ?_
      refine r_iload2 dX1_isUnder_31 ?_
      refine rn_ialdO 0 dX1_isUnder_32 (by decide) (by decide) (by decide) (by decide) ?_
      refine rn_eqi (-1) (by decide) ?_
      refine r_istore2 dX1_isUnder_33 rfl ?_
      refine r_iinc3 _ dX1_isUnder_34 rfl rfl ?_
      refine rn_goto 7 dX1_isUnder_37 rfl ?_
      refine r_iload3 dX1_isUnder_7 ?_
      refine rn_iconst (5) dX1_isUnder_8 (by decide) ?_
      refine rn_icmp_gt 40 dX1_isUnder_9 rfl (fun h => absurd h (by decide)) (fun _ => ?_)
      refine r_iload2 dX1_isUnder_12 ?_
      refine rn_iconst (0) dX1_isUnder_13 (by decide) ?_
      refine rn_iconst (5) dX1_isUnder_14 (by decide) ?_
      refine cpiSN3 dX1_isUnder_15 os_X6_within rfl ml_X1_54 (Nat.zero_le _) (Nat.zero_le _) (Nat.zero_le _) (ct_within _ _ _ _) ?_
      refine rn_if_eq 40 dX1_isUnder_18 rfl (fun _ => ?_) (fun h => absurd (by decide) h)
      refine rn_iconst (0) dX1_isUnder_40 (by decide) ?_
      refine rn_zret dX1_isUnder_41 rfl (by first | decide | exact nar_bI) (Nat.zero_le _) (Nat.zero_le _) ?_
      refine ⟨congrArg (fun z => some (Value.int z)) (bI_f (by decide)).symm, rfl, rfl, rfl, rfl⟩
    · refine r_iload3 dX1_isUnder_7 ?_
      refine rn_iconst (5) dX1_isUnder_8 (by decide) ?_
      refine rn_icmp_gt 40 dX1_isUnder_9 rfl (fun h => absurd h (by decide)) (fun _ => ?_)
      refine r_iload2 dX1_isUnder_12 ?_
      refine rn_iconst (0) dX1_isUnder_13 (by decide) ?_
      refine rn_iconst (5) dX1_isUnder_14 (by decide) ?_
      refine cpiSN3 dX1_isUnder_15 os_X6_within rfl ml_X1_54 (Nat.zero_le _) (Nat.zero_le _) (Nat.zero_le _) (ct_within _ _ _ _) ?_
      refine rn_if_eq 40 dX1_isUnder_18 rfl (fun h => absurd h (by decide)) (fun _ => ?_)
      refine r_iload2 dX1_isUnder_21 ?_
      refine r_iload1 dX1_isUnder_22 ?_
      refine rn_icmp_ne 28 dX1_isUnder_23 rfl (fun _ => ?_) (fun h => absurd h (by decide))
      refine rn_getsI (i := 4) dX1_isUnder_28 fl_X1_58 (by decide) (fun g h => h.2.2.2.2.1.2.2.1) ?_
      refine r_iload2 dX1_isUnder_31 ?_
      refine rn_ialdO 1 dX1_isUnder_32 (by decide) (by decide) (by decide) (by decide) ?_
      refine rn_eqi (0) (by decide) ?_
      refine r_istore2 dX1_isUnder_33 rfl ?_
      refine r_iinc3 _ dX1_isUnder_34 rfl rfl ?_
      refine rn_goto 7 dX1_isUnder_37 rfl ?_
      refine r_iload3 dX1_isUnder_7 ?_
      refine rn_iconst (5) dX1_isUnder_8 (by decide) ?_
      refine rn_icmp_gt 40 dX1_isUnder_9 rfl (fun h => absurd h (by decide)) (fun _ => ?_)
      refine r_iload2 dX1_isUnder_12 ?_
      refine rn_iconst (0) dX1_isUnder_13 (by decide) ?_
      refine rn_iconst (5) dX1_isUnder_14 (by decide) ?_
      refine cpiSN3 dX1_isUnder_15 os_X6_within rfl ml_X1_54 (Nat.zero_le _) (Nat.zero_le _) (Nat.zero_le _) (ct_within _ _ _ _) ?_
      refine rn_if_eq 40 dX1_isUnder_18 rfl (fun h => absurd h (by decide)) (fun _ => ?_)
      refine r_iload2 dX1_isUnder_21 ?_
      refine r_iload1 dX1_isUnder_22 ?_
      refine rn_icmp_ne 28 dX1_isUnder_23 rfl (fun _ => ?_) (fun h => absurd h (by decide))
      refine rn_getsI (i := 4) dX1_isUnder_28 fl_X1_58 (by decide) (fun g h => h.2.2.2.2.1.2.2.1) ?_
      refine r_iload2 dX1_isUnder_31 ?_
      refine rn_ialdO 0 dX1_isUnder_32 (by decide) (by decide) (by decide) (by decide) ?_
      refine rn_eqi (-1) (by decide) ?_
      refine r_istore2 dX1_isUnder_33 rfl ?_
      refine r_iinc3 _ dX1_isUnder_34 rfl rfl ?_
      refine rn_goto 7 dX1_isUnder_37 rfl ?_
      refine r_iload3 dX1_isUnder_7 ?_
      refine rn_iconst (5) dX1_isUnder_8 (by decide) ?_
      refine rn_icmp_gt 40 dX1_isUnder_9 rfl (fun h => absurd h (by decide)) (fun _ => ?_)
      refine r_iload2 dX1_isUnder_12 ?_
      refine rn_iconst (0) dX1_isUnder_13 (by decide) ?_
      refine rn_iconst (5) dX1_isUnder_14 (by decide) ?_
      refine cpiSN3 dX1_isUnder_15 os_X6_within rfl ml_X1_54 (Nat.zero_le _) (Nat.zero_le _) (Nat.zero_le _) (ct_within _ _ _ _) ?_
      refine rn_if_eq 40 dX1_isUnder_18 rfl (fun _ => ?_) (fun h => absurd (by decide) h)
      refine rn_iconst (0) dX1_isUnder_40 (by decide) ?_
      refine rn_zret dX1_isUnder_41 rfl (by first | decide | exact nar_bI) (Nat.zero_le _) (Nat.zero_le _) ?_
      refine ⟨congrArg (fun z => some (Value.int z)) (bI_f (by decide)).symm, rfl, rfl, rfl, rfl⟩
  | 2, _ =>
    rcases cw5 hq1 with rfl | rfl | rfl | rfl | rfl | rfl
    · refine r_iload3 dX1_isUnder_7 ?_
      refine rn_iconst (5) dX1_isUnder_8 (by decide) ?_
      refine rn_icmp_gt 40 dX1_isUnder_9 rfl (fun h => absurd h (by decide)) (fun _ => ?_)
      refine r_iload2 dX1_isUnder_12 ?_
      refine rn_iconst (0) dX1_isUnder_13 (by decide) ?_
      refine rn_iconst (5) dX1_isUnder_14 (by decide) ?_
      refine cpiSN3 dX1_isUnder_15 os_X6_within rfl ml_X1_54 (Nat.zero_le _) (Nat.zero_le _) (Nat.zero_le _) (ct_within _ _ _ _) ?_
      refine rn_if_eq 40 dX1_isUnder_18 rfl (fun h => absurd h (by decide)) (fun _ => ?_)
      refine r_iload2 dX1_isUnder_21 ?_
      refine r_iload1 dX1_isUnder_22 ?_
      refine rn_icmp_ne 28 dX1_isUnder_23 rfl (fun _ => ?_) (fun h => absurd h (by decide))
      refine rn_getsI (i := 4) dX1_isUnder_28 fl_X1_58 (by decide) (fun g h => h.2.2.2.2.1.2.2.1) ?_
      refine r_iload2 dX1_isUnder_31 ?_
      refine rn_ialdO 2 dX1_isUnder_32 (by decide) (by decide) (by decide) (by decide) ?_
      refine rn_eqi (0) (by decide) ?_
      refine r_istore2 dX1_isUnder_33 rfl ?_
      refine r_iinc3 _ dX1_isUnder_34 rfl rfl ?_
      refine rn_goto 7 dX1_isUnder_37 rfl ?_
      refine r_iload3 dX1_isUnder_7 ?_
      refine rn_iconst (5) dX1_isUnder_8 (by decide) ?_
      refine rn_icmp_gt 40 dX1_isUnder_9 rfl (fun h => absurd h (by decide)) (fun _ => ?_)
      refine r_iload2 dX1_isUnder_12 ?_
      refine rn_iconst (0) dX1_isUnder_13 (by decide) ?_
      refine rn_iconst (5) dX1_isUnder_14 (by decide) ?_
      refine cpiSN3 dX1_isUnder_15 os_X6_within rfl ml_X1_54 (Nat.zero_le _) (Nat.zero_le _) (Nat.zero_le _) (ct_within _ _ _ _) ?_
      refine rn_if_eq 40 dX1_isUnder_18 rfl (fun h => absurd h (by decide)) (fun _ => ?_)
      refine r_iload2 dX1_isUnder_21 ?_
      refine r_iload1 dX1_isUnder_22 ?_
      refine rn_icmp_ne 28 dX1_isUnder_23 rfl (fun h => absurd (by decide) h) (fun _ => ?_)
      refine rn_iconst (1) dX1_isUnder_26 (by decide) ?_
      refine rn_zret dX1_isUnder_27 rfl (by first | decide | exact nar_bI) (Nat.zero_le _) (Nat.zero_le _) ?_
      refine ⟨congrArg (fun z => some (Value.int z)) (bI_t (by decide)).symm, rfl, rfl, rfl, rfl⟩
    · refine r_iload3 dX1_isUnder_7 ?_
      refine rn_iconst (5) dX1_isUnder_8 (by decide) ?_
      refine rn_icmp_gt 40 dX1_isUnder_9 rfl (fun h => absurd h (by decide)) (fun _ => ?_)
      refine r_iload2 dX1_isUnder_12 ?_
      refine rn_iconst (0) dX1_isUnder_13 (by decide) ?_
      refine rn_iconst (5) dX1_isUnder_14 (by decide) ?_
      refine cpiSN3 dX1_isUnder_15 os_X6_within rfl ml_X1_54 (Nat.zero_le _) (Nat.zero_le _) (Nat.zero_le _) (ct_within _ _ _ _) ?_
      refine rn_if_eq 40 dX1_isUnder_18 rfl (fun h => absurd h (by decide)) (fun _ => ?_)
      refine r_iload2 dX1_isUnder_21 ?_
      refine r_iload1 dX1_isUnder_22 ?_
      refine rn_icmp_ne 28 dX1_isUnder_23 rfl (fun _ => ?_) (fun h => absurd h (by decide))
      refine rn_getsI (i := 4) dX1_isUnder_28 fl_X1_58 (by decide) (fun g h => h.2.2.2.2.1.2.2.1) ?_
      refine r_iload2 dX1_isUnder_31 ?_
      refine rn_ialdO 2 dX1_isUnder_32 (by decide) (by decide) (by decide) (by decide) ?_
      refine rn_eqi (0) (by decide) ?_
      refine r_istore2 dX1_isUnder_33 rfl ?_
      refine r_iinc3 _ dX1_isUnder_34 rfl rfl ?_
      refine rn_goto 7 dX1_isUnder_37 rfl ?_
      refine r_iload3 dX1_isUnder_7 ?_
      refine rn_iconst (5) dX1_isUnder_8 (by decide) ?_
      refine rn_icmp_gt 40 dX1_isUnder_9 rfl (fun h => absurd h (by decide)) (fun _ => ?_)
      refine r_iload2 dX1_isUnder_12 ?_
      refine rn_iconst (0) dX1_isUnder_13 (by decide) ?_
      refine rn_iconst (5) dX1_isUnder_14 (by decide) ?_
      refine cpiSN3 dX1_isUnder_15 os_X6_within rfl ml_X1_54 (Nat.zero_le _) (Nat.zero_le _) (Nat.zero_le _) (ct_within _ _ _ _) ?_
      refine rn_if_eq 40 dX1_isUnder_18 rfl (fun h => absurd h (by decide)) (fun _ => ?_)
      refine r_iload2 dX1_isUnder_21 ?_
      refine r_iload1 dX1_isUnder_22 ?_
      refine rn_icmp_ne 28 dX1_isUnder_23 rfl (fun _ => ?_) (fun h => absurd h (by decide))
      refine rn_getsI (i := 4) dX1_isUnder_28 fl_X1_58 (by decide) (fun g h => h.2.2.2.2.1.2.2.1) ?_
      refine r_iload2 dX1_isUnder_31 ?_
      refine rn_ialdO 0 dX1_isUnder_32 (by decide) (by decide) (by decide) (by decide) ?_
      refine rn_eqi (-1) (by decide) ?_
      refine r_istore2 dX1_isUnder_33 rfl ?_
      refine r_iinc3 _ dX1_isUnder_34 rfl rfl ?_
      refine rn_goto 7 dX1_isUnder_37 rfl ?_
      refine r_iload3 dX1_isUnder_7 ?_
      refine rn_iconst (5) dX1_isUnder_8 (by decide) ?_
      refine rn_icmp_gt 40 dX1_isUnder_9 rfl (fun h => absurd h (by decide)) (fun _ => ?_)
      refine r_iload2 dX1_isUnder_12 ?_
      refine rn_iconst (0) dX1_isUnder_13 (by decide) ?_
      refine rn_iconst (5) dX1_isUnder_14 (by decide) ?_
      refine cpiSN3 dX1_isUnder_15 os_X6_within rfl ml_X1_54 (Nat.zero_le _) (Nat.zero_le _) (Nat.zero_le _) (ct_within _ _ _ _) ?_
      refine rn_if_eq 40 dX1_isUnder_18 rfl (fun _ => ?_) (fun h => absurd (by decide) h)
      refine rn_iconst (0) dX1_isUnder_40 (by decide) ?_
      refine rn_zret dX1_isUnder_41 rfl (by first | decide | exact nar_bI) (Nat.zero_le _) (Nat.zero_le _) ?_
      refine ⟨congrArg (fun z => some (Value.int z)) (bI_f (by decide)).symm, rfl, rfl, rfl, rfl⟩
    · refine r_iload3 dX1_isUnder_7 ?_
      refine rn_iconst (5) dX1_isUnder_8 (by decide) ?_
      refine rn_icmp_gt 40 dX1_isUnder_9 rfl (fun h => absurd h (by decide)) (fun _ => ?_)
      refine r_iload2 dX1_isUnder_12 ?_
      refine rn_iconst (0) dX1_isUnder_13 (by decide) ?_
      refine rn_iconst (5) dX1_isUnder_14 (by decide) ?_
      refine cpiSN3 dX1_isUnder_15 os_X6_within rfl ml_X1_54 (Nat.zero_le _) (Nat.zero_le _) (Nat.zero_le _) (ct_within _ _ _ _) ?_
      refine rn_if_eq 40 dX1_isUnder_18 rfl (fun h => absurd h (by decide)) (fun _ => ?_)
      refine r_iload2 dX1_isUnder_21 ?_
      refine r_iload1 dX1_isUnder_22 ?_
      refine rn_icmp_ne 28 dX1_isUnder_23 rfl (fun h => absurd (by decide) h) (fun _ => ?_)
      refine rn_iconst (1) dX1_isUnder_26 (by decide) ?_
      refine rn_zret dX1_isUnder_27 rfl (by first | decide | exact nar_bI) (Nat.zero_le _) (Nat.zero_le _) ?_
      refine ⟨congrArg (fun z => some (Value.int z)) (bI_t (by decide)).symm, rfl, rfl, rfl, rfl⟩
    · refine r_iload3 dX1_isUnder_7 ?_
      refine rn_iconst (5) dX1_isUnder_8 (by decide) ?_
      refine rn_icmp_gt 40 dX1_isUnder_9 rfl (fun h => absurd h (by decide)) (fun _ => ?_)
      refine r_iload2 dX1_isUnder_12 ?_
      refine rn_iconst (0) dX1_isUnder_13 (by decide) ?_
      refine rn_iconst (5) dX1_isUnder_14 (by decide) ?_
      refine cpiSN3 dX1_isUnder_15 os_X6_within rfl ml_X1_54 (Nat.zero_le _) (Nat.zero_le _) (Nat.zero_le _) (ct_within _ _ _ _) ?_
      refine rn_if_eq 40 dX1_isUnder_18 rfl (fun h => absurd h (by decide)) (fun _ => ?_)
      refine r_iload2 dX1_isUnder_21 ?_
      refine r_iload1 dX1_isUnder_22 ?_
      refine rn_icmp_ne 28 dX1_isUnder_23 rfl (fun _ => ?_) (fun h => absurd h (by decide))
      refine rn_getsI (i := 4) dX1_isUnder_28 fl_X1_58 (by decide) (fun g h => h.2.2.2.2.1.2.2.1) ?_
      refine r_iload2 dX1_isUnder_31 ?_
      refine rn_ialdO 2 dX1_isUnder_32 (by decide) (by decide) (by decide) (by decide) ?_
      refine rn_eqi (0) (by decide) ?_
      refine r_istore2 dX1_isUnder_33 rfl ?_
      refine r_iinc3 _ dX1_isUnder_34 rfl rfl ?_
      refine rn_goto 7 dX1_isUnder_37 rfl ?_
      refine r_iload3 dX1_isUnder_7 ?_
      refine rn_iconst (5) dX1_isUnder_8 (by decide) ?_
      refine rn_icmp_gt 40 dX1_isUnder_9 rfl (fun h => absurd h (by decide)) (fun _ => ?_)
      refine r_iload2 dX1_isUnder_12 ?_
      refine rn_iconst (0) dX1_isUnder_13 (by decide) ?_
      refine rn_iconst (5) dX1_isUnder_14 (by decide) ?_
      refine cpiSN3 dX1_isUnder_15 os_X6_within rfl ml_X1_54 (Nat.zero_le _) (Nat.zero_le _) (Nat.zero_le _) (ct_within _ _ _ _) ?_
      refine rn_if_eq 40 dX1_isUnder_18 rfl (fun h => absurd h (by decide)) (fun _ => ?_)
      refine r_iload2 dX1_isUnder_21 ?_
      refine r_iload1 dX1_isUnder_22 ?_
      refine rn_icmp_ne 28 dX1_isUnder_23 rfl (fun _ => ?_) (fun h => absurd h (by decide))
      refine rn_getsI (i := 4) dX1_isUnder_28 fl_X1_58 (by decide) (fun g h => h.2.2.2.2.1.2.2.1) ?_
      refine r_iload2 dX1_isUnder_31 ?_
      refine rn_ialdO 0 dX1_isUnder_32 (by decide) (by decide) (by decide) (by decide) ?_
      refine rn_eqi (-1) (by decide) ?_
      refine r_istore2 dX1_isUnder_33 rfl ?_
      refine r_iinc3 _ dX1_isUnder_34 rfl rfl ?_
      refine rn_goto 7 dX1_isUnder_37 rfl ?_
      refine r_iload3 dX1_isUnder_7 ?_
      refine rn_iconst (5) dX1_isUnder_8 (by decide) ?_
      refine rn_icmp_gt 40 dX1_isUnder_9 rfl (fun h => absurd h (by decide)) (fun _ => ?_)
      refine r_iload2 dX1_isUnder_12 ?_
      refine rn_iconst (0) dX1_isUnder_13 (by decide) ?_
      refine rn_iconst (5) dX1_isUnder_14 (by decide) ?_
      refine cpiSN3 dX1_isUnder_15 os_X6_within rfl ml_X1_54 (Nat.zero_le _) (Nat.zero_le _) (Nat.zero_le _) (ct_within _ _ _ _) ?_
      refine rn_if_eq 40 dX1_isUnder_18 rfl (fun _ => ?_) (fun h => absurd (by decide) h)
      refine rn_iconst (0) dX1_isUnder_40 (by decide) ?_
      refine rn_zret dX1_isUnder_41 rfl (by first | decide | exact nar_bI) (Nat.zero_le _) (Nat.zero_le _) ?_
      refine ⟨congrArg (fun z => some (Value.int z)) (bI_f (by decide)).symm, rfl, rfl, rfl, rfl⟩
    · refine r_iload3 dX1_isUnder_7 ?_
      refine rn_iconst (5) dX1_isUnder_8 (by decide) ?_
      refine rn_icmp_gt 40 dX1_isUnder_9 rfl (fun h => absurd h (by decide)) (fun _ => ?_)
      refine r_iload2 dX1_isUnder_12 ?_
      refine rn_iconst (0) dX1_isUnder_13 (by decide) ?_
      refine rn_iconst (5) dX1_isUnder_14 (by decide) ?_
      refine cpiSN3 dX1_isUnder_15 os_X6_within rfl ml_X1_54 (Nat.zero_le _) (Nat.zero_le _) (Nat.zero_le _) (ct_within _ _ _ _) ?_
      refine rn_if_eq 40 dX1_isUnder_18 rfl (fun h => absurd h (by decide)) (fun _ => ?_)
      refine r_iload2 dX1_isUnder_21 ?_
      refine r_iload1 dX1_isUnder_22 ?_
      refine rn_icmp_ne 28 dX1_isUnder_23 rfl (fun _ => ?_) (fun h => absurd h (by decide))
      refine rn_getsI (i := 4) dX1_isUnder_28 fl_X1_58 (by decide) (fun g h => h.2.2.2.2.1.2.2.1) ?_
      refine r_iload2 dX1_isUnder_31 ?_
      refine rn_ialdO 2 dX1_isUnder_32 (by decide) (by decide) (by decide) (by decide) ?_
      refine rn_eqi (0) (by decide) ?_
      refine r_istore2 dX1_isUnder_33 rfl ?_
      refine r_iinc3 _ dX1_isUnder_34 rfl rfl ?_
      refine rn_goto 7 dX1_isUnder_37 rfl ?_
      refine r_iload3 dX1_isUnder_7 ?_
      refine rn_iconst (5) dX1_isUnder_8 (by decide) ?_
      refine rn_icmp_gt 40 dX1_isUnder_9 rfl (fun h => absurd h (by decide)) (fun _ => ?_)
      refine r_iload2 dX1_isUnder_12 ?_
      refine rn_iconst (0) dX1_isUnder_13 (by decide) ?_
      refine rn_iconst (5) dX1_isUnder_14 (by decide) ?_
      refine cpiSN3 dX1_isUnder_15 os_X6_within rfl ml_X1_54 (Nat.zero_le _) (Nat.zero_le _) (Nat.zero_le _) (ct_within _ _ _ _) ?_
      refine rn_if_eq 40 dX1_isUnder_18 rfl (fun h => absurd h (by decide)) (fun _ => ?_)
      refine r_iload2 dX1_isUnder_21 ?_
      refine r_iload1 dX1_isUnder_22 ?_
      refine rn_icmp_ne 28 dX1_isUnder_23 rfl (fun _ => ?_) (fun h => absurd h (by decide))
      refine rn_getsI (i := 4) dX1_isUnder_28 fl_X1_58 (by decide) (fun g h => h.2.2.2.2.1.2.2.1) ?_
      refine r_iload2 dX1_isUnder_31 ?_
      refine rn_ialdO 0 dX1_isUnder_32 (by decide) (by decide) (by decide) (by decide) ?_
      refine rn_eqi (-1) (by decide) ?_
      refine r_istore2 dX1_isUnder_33 rfl ?_
      refine r_iinc3 _ dX1_isUnder_34 rfl rfl ?_
      refine rn_goto 7 dX1_isUnder_37 rfl ?_
      refine r_iload3 dX1_isUnder_7 ?_
      refine rn_iconst (5) dX1_isUnder_8 (by decide) ?_
      refine rn_icmp_gt 40 dX1_isUnder_9 rfl (fun h => absurd h (by decide)) (fun _ => ?_)
      refine r_iload2 dX1_isUnder_12 ?_
      refine rn_iconst (0) dX1_isUnder_13 (by decide) ?_
      refine rn_iconst (5) dX1_isUnder_14 (by decide) ?_
      refine cpiSN3 dX1_isUnder_15 os_X6_within rfl ml_X1_54 (Nat.zero_le _) (Nat.zero_le _) (Nat.zero_le _) (ct_within _ _ _ _) ?_
      refine rn_if_eq 40 dX1_isUnder_18 rfl (fun _ => ?_) (fun h => absurd (by decide) h)
      refine rn_iconst (0) dX1_isUnder_40 (by decide) ?_
      refine rn_zret dX1_isUnder_41 rfl (by first | decide | exact nar_bI) (Nat.zero_le _) (Nat.zero_le _) ?_
      refine ⟨congrArg (fun z => some (Value.int z)) (bI_f (by decide)).symm, rfl, rfl, rfl, rfl⟩
    · refine r_iload3 dX1_isUnder_7 ?_
      refine rn_iconst (5) dX1_isUnder_8 (by decide) ?_
      refine rn_icmp_gt 40 dX1_isUnder_9 rfl (fun h => absurd h (by decide)) (fun _ => ?_)
      refine r_iload2 dX1_isUnder_12 ?_
      refine rn_iconst (0) dX1_isUnder_13 (by decide) ?_
      refine rn_iconst (5) dX1_isUnder_14 (by decide) ?_
      refine cpiSN3 dX1_isUnder_15 os_X6_within rfl ml_X1_54 (Nat.zero_le _) (Nat.zero_le _) (Nat.zero_le _) (ct_within _ _ _ _) ?_
      refine rn_if_eq 40 dX1_isUnder_18 rfl (fun h => absurd h (by decide)) (fun _ => ?_)
      refine r_iload2 dX1_isUnder_21 ?_
      refine r_iload1 dX1_isUnder_22 ?_
      refine rn_icmp_ne 28 dX1_isUnder_23 rfl (fun _ => ?_) (fun h => absurd h (by decide))
      refine rn_getsI (i := 4) dX1_isUnder_28 fl_X1_58 (by decide) (fun g h => h.2.2.2.2.1.2.2.1) ?_
      refine r_iload2 dX1_isUnder_31 ?_
      refine rn_ialdO 2 dX1_isUnder_32 (by decide) (by decide) (by decide) (by decide) ?_
      refine rn_eqi (0) (by decide) ?_
      refine r_istore2 dX1_isUnder_33 rfl ?_
      refine r_iinc3 _ dX1_isUnder_34 rfl rfl ?_
      refine rn_goto 7 dX1_isUnder_37 rfl ?_
      refine r_iload3 dX1_isUnder_7 ?_
      refine rn_iconst (5) dX1_isUnder_8 (by decide) ?_
      refine rn_icmp_gt 40 dX1_isUnder_9 rfl (fun h => absurd h (by decide)) (fun _ => ?_)
      refine r_iload2 dX1_isUnder_12 ?_
      refine rn_iconst (0) dX1_isUnder_13 (by decide) ?_
      refine rn_iconst (5) dX1_isUnder_14 (by decide) ?_
      refine cpiSN3 dX1_isUnder_15 os_X6_within rfl ml_X1_54 (Nat.zero_le _) (Nat.zero_le _) (Nat.zero_le _) (ct_within _ _ _ _) ?_
      refine rn_if_eq 40 dX1_isUnder_18 rfl (fun h => absurd h (by decide)) (fun _ => ?_)
      refine r_iload2 dX1_isUnder_21 ?_
      refine r_iload1 dX1_isUnder_22 ?_
      refine rn_icmp_ne 28 dX1_isUnder_23 rfl (fun _ => ?_) (fun h => absurd h (by decide))
      refine rn_getsI (i := 4) dX1_isUnder_28 fl_X1_58 (by decide) (fun g h => h.2.2.2.2.1.2.2.1) ?_
      refine r_iload2 dX1_isUnder_31 ?_
      refine rn_ialdO 0 dX1_isUnder_32 (by decide) (by decide) (by decide) (by decide) ?_
      refine rn_eqi (-1) (by decide) ?_
      refine r_istore2 dX1_isUnder_33 rfl ?_
      refine r_iinc3 _ dX1_isUnder_34 rfl rfl ?_
      refine rn_goto 7 dX1_isUnder_37 rfl ?_
      refine r_iload3 dX1_isUnder_7 ?_
      refine rn_iconst (5) dX1_isUnder_8 (by decide) ?_
      refine rn_icmp_gt 40 dX1_isUnder_9 rfl (fun h => absurd h (by decide)) (fun _ => ?_)
      refine r_iload2 dX1_isUnder_12 ?_
      refine rn_iconst (0) dX1_isUnder_13 (by decide) ?_
      refine rn_iconst (5) dX1_isUnder_14 (by decide) ?_
      refine cpiSN3 dX1_isUnder_15 os_X6_within rfl ml_X1_54 (Nat.zero_le _) (Nat.zero_le _) (Nat.zero_le _) (ct_within _ _ _ _) ?_
      refine rn_if_eq 40 dX1_isUnder_18 rfl (fun _ => ?_) (fun h => absurd (by decide) h)
      refine rn_iconst (0) dX1_isUnder_40 (by decide) ?_
      refine rn_zret dX1_isUnder_41 rfl (by first | decide | exact nar_bI) (Nat.zero_le _) (Nat.zero_le _) ?_
      refine ⟨congrArg (fun z => some (Value.int z)) (bI_f (by decide)).symm, rfl, rfl, rfl, rfl⟩
  | 3, _ =>
    rcases cw5 hq1 with rfl | rfl | rfl | rfl | rfl | rfl
    · refine r_iload3 dX1_isUnder_7 ?_
      refine rn_iconst (5) dX1_isUnder_8 (by decide) ?_
      refine rn_icmp_gt 40 dX1_isUnder_9 rfl (fun h => absurd h (by decide)) (fun _ => ?_)
      refine r_iload2 dX1_isUnder_12 ?_
      refine rn_iconst (0) dX1_isUnder_13 (by decide) ?_
      refine rn_iconst (5) dX1_isUnder_14 (by decide) ?_
      refine cpiSN3 dX1_isUnder_15 os_X6_within rfl ml_X1_54 (Nat.zero_le _) (Nat.zero_le _) (Nat.zero_le _) (ct_within _ _ _ _) ?_
      refine rn_if_eq 40 dX1_isUnder_18 rfl (fun h => absurd h (by decide)) (fun _ => ?_)
      refine r_iload2 dX1_isUnder_21 ?_
      refine r_iload1 dX1_isUnder_22 ?_
      refine rn_icmp_ne 28 dX1_isUnder_23 rfl (fun _ => ?_) (fun h => absurd h (by decide))
      refine rn_getsI (i := 4) dX1_isUnder_28 fl_X1_58 (by decide) (fun g h => h.2.2.2.2.1.2.2.1) ?_
      refine r_iload2 dX1_isUnder_31 ?_
      refine rn_ialdO 3 dX1_isUnder_32 (by decide) (by decide) (by decide) (by decide) ?_
      refine rn_eqi (1) (by decide) ?_
      refine r_istore2 dX1_isUnder_33 rfl ?_
      refine r_iinc3 _ dX1_isUnder_34 rfl rfl ?_
      refine rn_goto 7 dX1_isUnder_37 rfl ?_
      refine r_iload3 dX1_isUnder_7 ?_
      refine rn_iconst (5) dX1_isUnder_8 (by decide) ?_
      refine rn_icmp_gt 40 dX1_isUnder_9 rfl (fun h => absurd h (by decide)) (fun _ => ?_)
      refine r_iload2 dX1_isUnder_12 ?_
      refine rn_iconst (0) dX1_isUnder_13 (by decide) ?_
      refine rn_iconst (5) dX1_isUnder_14 (by decide) ?_
      refine cpiSN3 dX1_isUnder_15 os_X6_within rfl ml_X1_54 (Nat.zero_le _) (Nat.zero_le _) (Nat.zero_le _) (ct_within _ _ _ _) ?_
      refine rn_if_eq 40 dX1_isUnder_18 rfl (fun h => absurd h (by decide)) (fun _ => ?_)
      refine r_iload2 dX1_isUnder_21 ?_
      refine r_iload1 dX1_isUnder_22 ?_
      refine rn_icmp_ne 28 dX1_isUnder_23 rfl (fun _ => ?_) (fun h => absurd h (by decide))
      refine rn_getsI (i := 4) dX1_isUnder_28 fl_X1_58 (by decide) (fun g h => h.2.2.2.2.1.2.2.1) ?_
      refine r_iload2 dX1_isUnder_31 ?_
      refine rn_ialdO 1 dX1_isUnder_32 (by decide) (by decide) (by decide) (by decide) ?_
      refine rn_eqi (0) (by decide) ?_
      refine r_istore2 dX1_isUnder_33 rfl ?_
      refine r_iinc3 _ dX1_isUnder_34 rfl rfl ?_
      refine rn_goto 7 dX1_isUnder_37 rfl ?_
      refine r_iload3 dX1_isUnder_7 ?_
      refine rn_iconst (5) dX1_isUnder_8 (by decide) ?_
      refine rn_icmp_gt 40 dX1_isUnder_9 rfl (fun h => absurd h (by decide)) (fun _ => ?_)
      refine r_iload2 dX1_isUnder_12 ?_
      refine rn_iconst (0) dX1_isUnder_13 (by decide) ?_
      refine rn_iconst (5) dX1_isUnder_14 (by decide) ?_
      refine cpiSN3 dX1_isUnder_15 os_X6_within rfl ml_X1_54 (Nat.zero_le _) (Nat.zero_le _) (Nat.zero_le _) (ct_within _ _ _ _) ?_
      refine rn_if_eq 40 dX1_isUnder_18 rfl (fun h => absurd h (by decide)) (fun _ => ?_)
      refine r_iload2 dX1_isUnder_21 ?_
      refine r_iload1 dX1_isUnder_22 ?_
      refine rn_icmp_ne 28 dX1_isUnder_23 rfl (fun h => absurd (by decide) h) (fun _ => ?_)
      refine rn_iconst (1) dX1_isUnder_26 (by decide) ?_
      refine rn_zret dX1_isUnder_27 rfl (by first | decide | exact nar_bI) (Nat.zero_le _) (Nat.zero_le _) ?_
      refine ⟨congrArg (fun z => some (Value.int z)) (bI_t (by decide)).symm, rfl, rfl, rfl, rfl⟩
    · refine r_iload3 dX1_isUnder_7 ?_
      refine rn_iconst (5) dX1_isUnder_8 (by decide) ?_
      refine rn_icmp_gt 40 dX1_isUnder_9 rfl (fun h => absurd h (by decide)) (fun _ => ?_)
      refine r_iload2 dX1_isUnder_12 ?_
      refine rn_iconst (0) dX1_isUnder_13 (by decide) ?_
      refine rn_iconst (5) dX1_isUnder_14 (by decide) ?_
      refine cpiSN3 dX1_isUnder_15 os_X6_within rfl ml_X1_54 (Nat.zero_le _) (Nat.zero_le _) (Nat.zero_le _) (ct_within _ _ _ _) ?_
      refine rn_if_eq 40 dX1_isUnder_18 rfl (fun h => absurd h (by decide)) (fun _ => ?_)
      refine r_iload2 dX1_isUnder_21 ?_
      refine r_iload1 dX1_isUnder_22 ?_
      refine rn_icmp_ne 28 dX1_isUnder_23 rfl (fun _ => ?_) (fun h => absurd h (by decide))
      refine rn_getsI (i := 4) dX1_isUnder_28 fl_X1_58 (by decide) (fun g h => h.2.2.2.2.1.2.2.1) ?_
      refine r_iload2 dX1_isUnder_31 ?_
      refine rn_ialdO 3 dX1_isUnder_32 (by decide) (by decide) (by decide) (by decide) ?_
      refine rn_eqi (1) (by decide) ?_
      refine r_istore2 dX1_isUnder_33 rfl ?_
      refine r_iinc3 _ dX1_isUnder_34 rfl rfl ?_
      refine rn_goto 7 dX1_isUnder_37 rfl ?_
      refine r_iload3 dX1_isUnder_7 ?_
      refine rn_iconst (5) dX1_isUnder_8 (by decide) ?_
      refine rn_icmp_gt 40 dX1_isUnder_9 rfl (fun h => absurd h (by decide)) (fun _ => ?_)
      refine r_iload2 dX1_isUnder_12 ?_
      refine rn_iconst (0) dX1_isUnder_13 (by decide) ?_
      refine rn_iconst (5) dX1_isUnder_14 (by decide) ?_
      refine cpiSN3 dX1_isUnder_15 os_X6_within rfl ml_X1_54 (Nat.zero_le _) (Nat.zero_le _) (Nat.zero_le _) (ct_within _ _ _ _) ?_
      refine rn_if_eq 40 dX1_isUnder_18 rfl (fun h => absurd h (by decide)) (fun _ => ?_)
      refine r_iload2 dX1_isUnder_21 ?_
      refine r_iload1 dX1_isUnder_22 ?_
      refine rn_icmp_ne 28 dX1_isUnder_23 rfl (fun h => absurd (by decide) h) (fun _ => ?_)
      refine rn_iconst (1) dX1_isUnder_26 (by decide) ?_
      refine rn_zret dX1_isUnder_27 rfl (by first | decide | exact nar_bI) (Nat.zero_le _) (Nat.zero_le _) ?_
      refine ⟨congrArg (fun z => some (Value.int z)) (bI_t (by decide)).symm, rfl, rfl, rfl, rfl⟩
    · refine r_iload3 dX1_isUnder_7 ?_
      refine rn_iconst (5) dX1_isUnder_8 (by decide) ?_
      refine rn_icmp_gt 40 dX1_isUnder_9 rfl (fun h => absurd h (by decide)) (fun _ => ?_)
      refine r_iload2 dX1_isUnder_12 ?_
      refine rn_iconst (0) dX1_isUnder_13 (by decide) ?_
      refine rn_iconst (5) dX1_isUnder_14 (by decide) ?_
      refine cpiSN3 dX1_isUnder_15 os_X6_within rfl ml_X1_54 (Nat.zero_le _) (Nat.zero_le _) (Nat.zero_le _) (ct_within _ _ _ _) ?_
      refine rn_if_eq 40 dX1_isUnder_18 rfl (fun h => absurd h (by decide)) (fun _ => ?_)
      refine r_iload2 dX1_isUnder_21 ?_
      refine r_iload1 dX1_isUnder_22 ?_
      refine rn_icmp_ne 28 dX1_isUnder_23 rfl (fun _ => ?_) (fun h => absurd h (by decide))
      refine rn_getsI (i := 4) dX1_isUnder_28 fl_X1_58 (by decide) (fun g h => h.2.2.2.2.1.2.2.1) ?_
      refine r_iload2 dX1_isUnder_31 ?_
      refine rn_ialdO 3 dX1_isUnder_32 (by decide) (by decide) (by decide) (by decide) ?_
      refine rn_eqi (1) (by decide) ?_
      refine r_istore2 dX1_isUnder_33 rfl ?_
      refine r_iinc3 _ dX1_isUnder_34 rfl rfl ?_
      refine rn_goto 7 dX1_isUnder_37 rfl ?_
      refine r_iload3 dX1_isUnder_7 ?_
      refine rn_iconst (5) dX1_isUnder_8 (by decide) ?_
      refine rn_icmp_gt 40 dX1_isUnder_9 rfl (fun h => absurd h (by decide)) (fun _ => ?_)
      refine r_iload2 dX1_isUnder_12 ?_
      refine rn_iconst (0) dX1_isUnder_13 (by decide) ?_
      refine rn_iconst (5) dX1_isUnder_14 (by decide) ?_
      refine cpiSN3 dX1_isUnder_15 os_X6_within rfl ml_X1_54 (Nat.zero_le _) (Nat.zero_le _) (Nat.zero_le _) (ct_within _ _ _ _) ?_
      refine rn_if_eq 40 dX1_isUnder_18 rfl (fun h => absurd h (by decide)) (fun _ => ?_)
      refine r_iload2 dX1_isUnder_21 ?_
      refine r_iload1 dX1_isUnder_22 ?_
      refine rn_icmp_ne 28 dX1_isUnder_23 rfl (fun _ => ?_) (fun h => absurd h (by decide))
      refine rn_getsI (i := 4) dX1_isUnder_28 fl_X1_58 (by decide) (fun g h => h.2.2.2.2.1.2.2.1) ?_
      refine r_iload2 dX1_isUnder_31 ?_
      refine rn_ialdO 1 dX1_isUnder_32 (by decide) (by decide) (by decide) (by decide) ?_
      refine rn_eqi (0) (by decide) ?_
      refine r_istore2 dX1_isUnder_33 rfl ?_
      refine r_iinc3 _ dX1_isUnder_34 rfl rfl ?_
      refine rn_goto 7 dX1_isUnder_37 rfl ?_
      refine r_iload3 dX1_isUnder_7 ?_
      refine rn_iconst (5) dX1_isUnder_8 (by decide) ?_
      refine rn_icmp_gt 40 dX1_isUnder_9 rfl (fun h => absurd h (by decide)) (fun _ => ?_)
      refine r_iload2 dX1_isUnder_12 ?_
      refine rn_iconst (0) dX1_isUnder_13 (by decide) ?_
      refine rn_iconst (5) dX1_isUnder_14 (by decide) ?_
      refine cpiSN3 dX1_isUnder_15 os_X6_within rfl ml_X1_54 (Nat.zero_le _) (Nat.zero_le _) (Nat.zero_le _) (ct_within _ _ _ _) ?_
      refine rn_if_eq 40 dX1_isUnder_18 rfl (fun h => absurd h (by decide)) (fun _ => ?_)
      refine r_iload2 dX1_isUnder_21 ?_
      refine r_iload1 dX1_isUnder_22 ?_
      refine rn_icmp_ne 28 dX1_isUnder_23 rfl (fun _ => ?_) (fun h => absurd h (by decide))
      refine rn_getsI (i := 4) dX1_isUnder_28 fl_X1_58 (by decide) (fun g h => h.2.2.2.2.1.2.2.1) ?_
      refine r_iload2 dX1_isUnder_31 ?_
      refine rn_ialdO 0 dX1_isUnder_32 (by decide) (by decide) (by decide) (by decide) ?_
      refine rn_eqi (-1) (by decide) ?_
      refine r_istore2 dX1_isUnder_33 rfl ?_
      refine r_iinc3 _ dX1_isUnder_34 rfl rfl ?_
      refine rn_goto 7 dX1_isUnder_37 rfl ?_
      refine r_iload3 dX1_isUnder_7 ?_
      refine rn_iconst (5) dX1_isUnder_8 (by decide) ?_
      refine rn_icmp_gt 40 dX1_isUnder_9 rfl (fun h => absurd h (by decide)) (fun _ => ?_)
      refine r_iload2 dX1_isUnder_12 ?_
      refine rn_iconst (0) dX1_isUnder_13 (by decide) ?_
      refine rn_iconst (5) dX1_isUnder_14 (by decide) ?_
      refine cpiSN3 dX1_isUnder_15 os_X6_within rfl ml_X1_54 (Nat.zero_le _) (Nat.zero_le _) (Nat.zero_le _) (ct_within _ _ _ _) ?_
      refine rn_if_eq 40 dX1_isUnder_18 rfl (fun _ => ?_) (fun h => absurd (by decide) h)
      refine rn_iconst (0) dX1_isUnder_40 (by decide) ?_
      refine rn_zret dX1_isUnder_41 rfl (by first | decide | exact nar_bI) (Nat.zero_le _) (Nat.zero_le _) ?_
      refine ⟨congrArg (fun z => some (Value.int z)) (bI_f (by decide)).symm, rfl, rfl, rfl, rfl⟩
    · refine r_iload3 dX1_isUnder_7 ?_
      refine rn_iconst (5) dX1_isUnder_8 (by decide) ?_
      refine rn_icmp_gt 40 dX1_isUnder_9 rfl (fun h => absurd h (by decide)) (fun _ => ?_)
      refine r_iload2 dX1_isUnder_12 ?_
      refine rn_iconst (0) dX1_isUnder_13 (by decide) ?_
      refine rn_iconst (5) dX1_isUnder_14 (by decide) ?_
      refine cpiSN3 dX1_isUnder_15 os_X6_within rfl ml_X1_54 (Nat.zero_le _) (Nat.zero_le _) (Nat.zero_le _) (ct_within _ _ _ _) ?_
      refine rn_if_eq 40 dX1_isUnder_18 rfl (fun h => absurd h (by decide)) (fun _ => ?_)
      refine r_iload2 dX1_isUnder_21 ?_
      refine r_iload1 dX1_isUnder_22 ?_
      refine rn_icmp_ne 28 dX1_isUnder_23 rfl (fun h => absurd (by decide) h) (fun _ => ?_)
      refine rn_iconst (1) dX1_isUnder_26 (by decide) ?_
      refine rn_zret dX1_isUnder_27 rfl (by first | decide | exact nar_bI) (Nat.zero_le _) (Nat.zero_le _) ?_
      refine ⟨congrArg (fun z => some (Value.int z)) (bI_t (by decide)).symm, rfl, rfl, rfl, rfl⟩
    · refine r_iload3 dX1_isUnder_7 ?_
      refine rn_iconst (5) dX1_isUnder_8 (by decide) ?_
      refine rn_icmp_gt 40 dX1_isUnder_9 rfl (fun h => absurd h (by decide)) (fun _ => ?_)
      refine r_iload2 dX1_isUnder_12 ?_
      refine rn_iconst (0) dX1_isUnder_13 (by decide) ?_
      refine rn_iconst (5) dX1_isUnder_14 (by decide) ?_
      refine cpiSN3 dX1_isUnder_15 os_X6_within rfl ml_X1_54 (Nat.zero_le _) (Nat.zero_le _) (Nat.zero_le _) (ct_within _ _ _ _) ?_
      refine rn_if_eq 40 dX1_isUnder_18 rfl (fun h => absurd h (by decide)) (fun _ => ?_)
      refine r_iload2 dX1_isUnder_21 ?_
      refine r_iload1 dX1_isUnder_22 ?_
      refine rn_icmp_ne 28 dX1_isUnder_23 rfl (fun _ => ?_) (fun h => absurd h (by decide))
      refine rn_getsI (i := 4) dX1_isUnder_28 fl_X1_58 (by decide) (fun g h => h.2.2.2.2.1.2.2.1) ?_
      refine r_iload2 dX1_isUnder_31 ?_
      refine rn_ialdO 3 dX1_isUnder_32 (by decide) (by decide) (by decide) (by decide) ?_
      refine rn_eqi (1) (by decide) ?_
      refine r_istore2 dX1_isUnder_33 rfl ?_
      refine r_iinc3 _ dX1_isUnder_34 rfl rfl ?_
      refine rn_goto 7 dX1_isUnder_37 rfl ?_
      refine r_iload3 dX1_isUnder_7 ?_
      refine rn_iconst (5) dX1_isUnder_8 (by decide) ?_
      refine rn_icmp_gt 40 dX1_isUnder_9 rfl (fun h => absurd h (by decide)) (fun _ => ?_)
      refine r_iload2 dX1_isUnder_12 ?_
      refine rn_iconst (0) dX1_isUnder_13 (by decide) ?_
      refine rn_iconst (5) dX1_isUnder_14 (by decide) ?_
      refine cpiSN3 dX1_isUnder_15 os_X6_within rfl ml_X1_54 (Nat.zero_le _) (Nat.zero_le _) (Nat.zero_le _) (ct_within _ _ _ _) ?_
      refine rn_if_eq 40 dX1_isUnder_18 rfl (fun h => absurd h (by decide)) (fun _ => ?_)
      refine r_iload2 dX1_isUnder_21 ?_
      refine r_iload1 dX1_isUnder_22 ?_
      refine rn_icmp_ne 28 dX1_isUnder_23 rfl (fun _ => ?_) (fun h => absurd h (by decide))
      refine rn_getsI (i := 4) dX1_isUnder_28 fl_X1_58 (by decide) (fun g h => h.2.2.2.2.1.2.2.1) ?_
      refine r_iload2 dX1_isUnder_31 ?_
      refine rn_ialdO 1 dX1_isUnder_32 (by decide) (by decide) (by decide) (by decide) ?_
      refine rn_eqi (0) (by decide) ?_
      refine r_istore2 dX1_isUnder_33 rfl ?_
      refine r_iinc3 _ dX1_isUnder_34 rfl rfl ?_
      refine rn_goto 7 dX1_isUnder_37 rfl ?_
      refine r_iload3 dX1_isUnder_7 ?_
      refine rn_iconst (5) dX1_isUnder_8 (by decide) ?_
      refine rn_icmp_gt 40 dX1_isUnder_9 rfl (fun h => absurd h (by decide)) (fun _ => ?_)
      refine r_iload2 dX1_isUnder_12 ?_
      refine rn_iconst (0) dX1_isUnder_13 (by decide) ?_
      refine rn_iconst (5) dX1_isUnder_14 (by decide) ?_
      refine cpiSN3 dX1_isUnder_15 os_X6_within rfl ml_X1_54 (Nat.zero_le _) (Nat.zero_le _) (Nat.zero_le _) (ct_within _ _ _ _) ?_
      refine rn_if_eq 40 dX1_isUnder_18 rfl (fun h => absurd h (by decide)) (fun _ => ?_)
      refine r_iload2 dX1_isUnder_21 ?_
      refine r_iload1 dX1_isUnder_22 ?_
      refine rn_icmp_ne 28 dX1_isUnder_23 rfl (fun _ => ?_) (fun h => absurd h (by decide))
      refine rn_getsI (i := 4) dX1_isUnder_28 fl_X1_58 (by decide) (fun g h => h.2.2.2.2.1.2.2.1) ?_
      refine r_iload2 dX1_isUnder_31 ?_
      refine rn_ialdO 0 dX1_isUnder_32 (by decide) (by decide) (by decide) (by decide) ?_
      refine rn_eqi (-1) (by decide) ?_
      refine r_istore2 dX1_isUnder_33 rfl ?_
      refine r_iinc3 _ dX1_isUnder_34 rfl rfl ?_
      refine rn_goto 7 dX1_isUnder_37 rfl ?_
      refine r_iload3 dX1_isUnder_7 ?_
      refine rn_iconst (5) dX1_isUnder_8 (by decide) ?_
      refine rn_icmp_gt 40 dX1_isUnder_9 rfl (fun h => absurd h (by decide)) (fun _ => ?_)
      refine r_iload2 dX1_isUnder_12 ?_
      refine rn_iconst (0) dX1_isUnder_13 (by decide) ?_
      refine rn_iconst (5) dX1_isUnder_14 (by decide) ?_
      refine cpiSN3 dX1_isUnder_15 os_X6_within rfl ml_X1_54 (Nat.zero_le _) (Nat.zero_le _) (Nat.zero_le _) (ct_within _ _ _ _) ?_
      refine rn_if_eq 40 dX1_isUnder_18 rfl (fun _ => ?_) (fun h => absurd (by decide) h)
      refine rn_iconst (0) dX1_isUnder_40 (by decide) ?_
      refine rn_zret dX1_isUnder_41 rfl (by first | decide | exact nar_bI) (Nat.zero_le _) (Nat.zero_le _) ?_
      refine ⟨congrArg (fun z => some (Value.int z)) (bI_f (by decide)).symm, rfl, rfl, rfl, rfl⟩
    · refine r_iload3 dX1_isUnder_7 ?_
      refine rn_iconst (5) dX1_isUnder_8 (by decide) ?_
      refine rn_icmp_gt 40 dX1_isUnder_9 rfl (fun h => absurd h (by decide)) (fun _ => ?_)
      refine r_iload2 dX1_isUnder_12 ?_
      refine rn_iconst (0) dX1_isUnder_13 (by decide) ?_
      refine rn_iconst (5) dX1_isUnder_14 (by decide) ?_
      refine cpiSN3 dX1_isUnder_15 os_X6_within rfl ml_X1_54 (Nat.zero_le _) (Nat.zero_le _) (Nat.zero_le _) (ct_within _ _ _ _) ?_
      refine rn_if_eq 40 dX1_isUnder_18 rfl (fun h => absurd h (by decide)) (fun _ => ?_)
      refine r_iload2 dX1_isUnder_21 ?_
      refine r_iload1 dX1_isUnder_22 ?_
      refine rn_icmp_ne 28 dX1_isUnder_23 rfl (fun _ => ?_) (fun h => absurd h (by decide))
      refine rn_getsI (i := 4) dX1_isUnder_28 fl_X1_58 (by decide) (fun g h => h.2.2.2.2.1.2.2.1) ?_
      refine r_iload2 dX1_isUnder_31 ?_
      refine rn_ialdO 3 dX1_isUnder_32 (by decide) (by decide) (by decide) (by decide) ?_
      refine rn_eqi (1) (by decide) ?_
      refine r_istore2 dX1_isUnder_33 rfl ?_
      refine r_iinc3 _ dX1_isUnder_34 rfl rfl ?_
      refine rn_goto 7 dX1_isUnder_37 rfl ?_
      refine r_iload3 dX1_isUnder_7 ?_
      refine rn_iconst (5) dX1_isUnder_8 (by decide) ?_
      refine rn_icmp_gt 40 dX1_isUnder_9 rfl (fun h => absurd h (by decide)) (fun _ => ?_)
      refine r_iload2 dX1_isUnder_12 ?_
      refine rn_iconst (0) dX1_isUnder_13 (by decide) ?_
      refine rn_iconst (5) dX1_isUnder_14 (by decide) ?_
      refine cpiSN3 dX1_isUnder_15 os_X6_within rfl ml_X1_54 (Nat.zero_le _) (Nat.zero_le _) (Nat.zero_le _) (ct_within _ _ _ _) ?_
      refine rn_if_eq 40 dX1_isUnder_18 rfl (fun h => absurd h (by decide)) (fun _ => ?_)
      refine r_iload2 dX1_isUnder_21 ?_
      refine r_iload1 dX1_isUnder_22 ?_
      refine rn_icmp_ne 28 dX1_isUnder_23 rfl (fun _ => ?_) (fun h => absurd h (by decide))
      refine rn_getsI (i := 4) dX1_isUnder_28 fl_X1_58 (by decide) (fun g h => h.2.2.2.2.1.2.2.1) ?_
      refine r_iload2 dX1_isUnder_31 ?_
      refine rn_ialdO 1 dX1_isUnder_32 (by decide) (by decide) (by decide) (by decide) ?_
      refine rn_eqi (0) (by decide) ?_
      refine r_istore2 dX1_isUnder_33 rfl ?_
      refine r_iinc3 _ dX1_isUnder_34 rfl rfl ?_
      refine rn_goto 7 dX1_isUnder_37 rfl ?_
      refine r_iload3 dX1_isUnder_7 ?_
      refine rn_iconst (5) dX1_isUnder_8 (by decide) ?_
      refine rn_icmp_gt 40 dX1_isUnder_9 rfl (fun h => absurd h (by decide)) (fun _ => ?_)
      refine r_iload2 dX1_isUnder_12 ?_
      refine rn_iconst (0) dX1_isUnder_13 (by decide) ?_
      refine rn_iconst (5) dX1_isUnder_14 (by decide) ?_
      refine cpiSN3 dX1_isUnder_15 os_X6_within rfl ml_X1_54 (Nat.zero_le _) (Nat.zero_le _) (Nat.zero_le _) (ct_within _ _ _ _) ?_
      refine rn_if_eq 40 dX1_isUnder_18 rfl (fun h => absurd h (by decide)) (fun _ => ?_)
      refine r_iload2 dX1_isUnder_21 ?_
      refine r_iload1 dX1_isUnder_22 ?_
      refine rn_icmp_ne 28 dX1_isUnder_23 rfl (fun _ => ?_) (fun h => absurd h (by decide))
      refine rn_getsI (i := 4) dX1_isUnder_28 fl_X1_58 (by decide) (fun g h => h.2.2.2.2.1.2.2.1) ?_
      refine r_iload2 dX1_isUnder_31 ?_
      refine rn_ialdO 0 dX1_isUnder_32 (by decide) (by decide) (by decide) (by decide) ?_
      refine rn_eqi (-1) (by decide) ?_
      refine r_istore2 dX1_isUnder_33 rfl ?_
      refine r_iinc3 _ dX1_isUnder_34 rfl rfl ?_
      refine rn_goto 7 dX1_isUnder_37 rfl ?_
      refine r_iload3 dX1_isUnder_7 ?_
      refine rn_iconst (5) dX1_isUnder_8 (by decide) ?_
      refine rn_icmp_gt 40 dX1_isUnder_9 rfl (fun h => absurd h (by decide)) (fun _ => ?_)
      refine r_iload2 dX1_isUnder_12 ?_
      refine rn_iconst (0) dX1_isUnder_13 (by decide) ?_
      refine rn_iconst (5) dX1_isUnder_14 (by decide) ?_
      refine cpiSN3 dX1_isUnder_15 os_X6_within rfl ml_X1_54 (Nat.zero_le _) (Nat.zero_le _) (Nat.zero_le _) (ct_within _ _ _ _) ?_
      refine rn_if_eq 40 dX1_isUnder_18 rfl (fun _ => ?_) (fun h => absurd (by decide) h)
      refine rn_iconst (0) dX1_isUnder_40 (by decide) ?_
      refine rn_zret dX1_isUnder_41 rfl (by first | decide | exact nar_bI) (Nat.zero_le _) (Nat.zero_le _) ?_
      refine ⟨congrArg (fun z => some (Value.int z)) (bI_f (by decide)).symm, rfl, rfl, rfl, rfl⟩
  | 4, _ =>
    rcases cw5 hq1 with rfl | rfl | rfl | rfl | rfl | rfl
    · refine r_iload3 dX1_isUnder_7 ?_
      refine rn_iconst (5) dX1_isUnder_8 (by decide) ?_
      refine rn_icmp_gt 40 dX1_isUnder_9 rfl (fun h => absurd h (by decide)) (fun _ => ?_)
      refine r_iload2 dX1_isUnder_12 ?_
      refine rn_iconst (0) dX1_isUnder_13 (by decide) ?_
      refine rn_iconst (5) dX1_isUnder_14 (by decide) ?_
      refine cpiSN3 dX1_isUnder_15 os_X6_within rfl ml_X1_54 (Nat.zero_le _) (Nat.zero_le _) (Nat.zero_le _) (ct_within _ _ _ _) ?_
      refine rn_if_eq 40 dX1_isUnder_18 rfl (fun h => absurd h (by decide)) (fun _ => ?_)
      refine r_iload2 dX1_isUnder_21 ?_
      refine r_iload1 dX1_isUnder_22 ?_
      refine rn_icmp_ne 28 dX1_isUnder_23 rfl (fun _ => ?_) (fun h => absurd h (by decide))
      refine rn_getsI (i := 4) dX1_isUnder_28 fl_X1_58 (by decide) (fun g h => h.2.2.2.2.1.2.2.1) ?_
      refine r_iload2 dX1_isUnder_31 ?_
      refine rn_ialdO 4 dX1_isUnder_32 (by decide) (by decide) (by decide) (by decide) ?_
      refine rn_eqi (2) (by decide) ?_
      refine r_istore2 dX1_isUnder_33 rfl ?_
      refine r_iinc3 _ dX1_isUnder_34 rfl rfl ?_
      refine rn_goto 7 dX1_isUnder_37 rfl ?_
      refine r_iload3 dX1_isUnder_7 ?_
      refine rn_iconst (5) dX1_isUnder_8 (by decide) ?_
      refine rn_icmp_gt 40 dX1_isUnder_9 rfl (fun h => absurd h (by decide)) (fun _ => ?_)
      refine r_iload2 dX1_isUnder_12 ?_
      refine rn_iconst (0) dX1_isUnder_13 (by decide) ?_
      refine rn_iconst (5) dX1_isUnder_14 (by decide) ?_
      refine cpiSN3 dX1_isUnder_15 os_X6_within rfl ml_X1_54 (Nat.zero_le _) (Nat.zero_le _) (Nat.zero_le _) (ct_within _ _ _ _) ?_
      refine rn_if_eq 40 dX1_isUnder_18 rfl (fun h => absurd h (by decide)) (fun _ => ?_)
      refine r_iload2 dX1_isUnder_21 ?_
      refine r_iload1 dX1_isUnder_22 ?_
      refine rn_icmp_ne 28 dX1_isUnder_23 rfl (fun _ => ?_) (fun h => absurd h (by decide))
      refine rn_getsI (i := 4) dX1_isUnder_28 fl_X1_58 (by decide) (fun g h => h.2.2.2.2.1.2.2.1) ?_
      refine r_iload2 dX1_isUnder_31 ?_
      refine rn_ialdO 2 dX1_isUnder_32 (by decide) (by decide) (by decide) (by decide) ?_
      refine rn_eqi (0) (by decide) ?_
      refine r_istore2 dX1_isUnder_33 rfl ?_
      refine r_iinc3 _ dX1_isUnder_34 rfl rfl ?_
      refine rn_goto 7 dX1_isUnder_37 rfl ?_
      refine r_iload3 dX1_isUnder_7 ?_
      refine rn_iconst (5) dX1_isUnder_8 (by decide) ?_
      refine rn_icmp_gt 40 dX1_isUnder_9 rfl (fun h => absurd h (by decide)) (fun _ => ?_)
      refine r_iload2 dX1_isUnder_12 ?_
      refine rn_iconst (0) dX1_isUnder_13 (by decide) ?_
      refine rn_iconst (5) dX1_isUnder_14 (by decide) ?_
      refine cpiSN3 dX1_isUnder_15 os_X6_within rfl ml_X1_54 (Nat.zero_le _) (Nat.zero_le _) (Nat.zero_le _) (ct_within _ _ _ _) ?_
      refine rn_if_eq 40 dX1_isUnder_18 rfl (fun h => absurd h (by decide)) (fun _ => ?_)
      refine r_iload2 dX1_isUnder_21 ?_
      refine r_iload1 dX1_isUnder_22 ?_
      refine rn_icmp_ne 28 dX1_isUnder_23 rfl (fun h => absurd (by decide) h) (fun _ => ?_)
      refine rn_iconst (1) dX1_isUnder_26 (by decide) ?_
      refine rn_zret dX1_isUnder_27 rfl (by first | decide | exact nar_bI) (Nat.zero_le _) (Nat.zero_le _) ?_
      refine ⟨congrArg (fun z => some (Value.int z)) (bI_t (by decide)).symm, rfl, rfl, rfl, rfl⟩
    · refine r_iload3 dX1_isUnder_7 ?_
      refine rn_iconst (5) dX1_isUnder_8 (by decide) ?_
      refine rn_icmp_gt 40 dX1_isUnder_9 rfl (fun h => absurd h (by decide)) (fun _ => ?_)
      refine r_iload2 dX1_isUnder_12 ?_
      refine rn_iconst (0) dX1_isUnder_13 (by decide) ?_
      refine rn_iconst (5) dX1_isUnder_14 (by decide) ?_
      refine cpiSN3 dX1_isUnder_15 os_X6_within rfl ml_X1_54 (Nat.zero_le _) (Nat.zero_le _) (Nat.zero_le _) (ct_within _ _ _ _) ?_
      refine rn_if_eq 40 dX1_isUnder_18 rfl (fun h => absurd h (by decide)) (fun _ => ?_)
      refine r_iload2 dX1_isUnder_21 ?_
      refine r_iload1 dX1_isUnder_22 ?_
      refine rn_icmp_ne 28 dX1_isUnder_23 rfl (fun _ => ?_) (fun h => absurd h (by decide))
      refine rn_getsI (i := 4) dX1_isUnder_28 fl_X1_58 (by decide) (fun g h => h.2.2.2.2.1.2.2.1) ?_
      refine r_iload2 dX1_isUnder_31 ?_
      refine rn_ialdO 4 dX1_isUnder_32 (by decide) (by decide) (by decide) (by decide) ?_
      refine rn_eqi (2) (by decide) ?_
      refine r_istore2 dX1_isUnder_33 rfl ?_
      refine r_iinc3 _ dX1_isUnder_34 rfl rfl ?_
      refine rn_goto 7 dX1_isUnder_37 rfl ?_
      refine r_iload3 dX1_isUnder_7 ?_
      refine rn_iconst (5) dX1_isUnder_8 (by decide) ?_
      refine rn_icmp_gt 40 dX1_isUnder_9 rfl (fun h => absurd h (by decide)) (fun _ => ?_)
      refine r_iload2 dX1_isUnder_12 ?_
      refine rn_iconst (0) dX1_isUnder_13 (by decide) ?_
      refine rn_iconst (5) dX1_isUnder_14 (by decide) ?_
      refine cpiSN3 dX1_isUnder_15 os_X6_within rfl ml_X1_54 (Nat.zero_le _) (Nat.zero_le _) (Nat.zero_le _) (ct_within _ _ _ _) ?_
      refine rn_if_eq 40 dX1_isUnder_18 rfl (fun h => absurd h (by decide)) (fun _ => ?_)
      refine r_iload2 dX1_isUnder_21 ?_
      refine r_iload1 dX1_isUnder_22 ?_
      refine rn_icmp_ne 28 dX1_isUnder_23 rfl (fun _ => ?_) (fun h => absurd h (by decide))
      refine rn_getsI (i := 4) dX1_isUnder_28 fl_X1_58 (by decide) (fun g h => h.2.2.2.2.1.2.2.1) ?_
      refine r_iload2 dX1_isUnder_31 ?_
      refine rn_ialdO 2 dX1_isUnder_32 (by decide) (by decide) (by decide) (by decide) ?_
      refine rn_eqi (0) (by decide) ?_
      refine r_istore2 dX1_isUnder_33 rfl ?_
      refine r_iinc3 _ dX1_isUnder_34 rfl rfl ?_
      refine rn_goto 7 dX1_isUnder_37 rfl ?_
      refine r_iload3 dX1_isUnder_7 ?_
      refine rn_iconst (5) dX1_isUnder_8 (by decide) ?_
      refine rn_icmp_gt 40 dX1_isUnder_9 rfl (fun h => absurd h (by decide)) (fun _ => ?_)
      refine r_iload2 dX1_isUnder_12 ?_
      refine rn_iconst (0) dX1_isUnder_13 (by decide) ?_
      refine rn_iconst (5) dX1_isUnder_14 (by decide) ?_
      refine cpiSN3 dX1_isUnder_15 os_X6_within rfl ml_X1_54 (Nat.zero_le _) (Nat.zero_le _) (Nat.zero_le _) (ct_within _ _ _ _) ?_
      refine rn_if_eq 40 dX1_isUnder_18 rfl (fun h => absurd h (by decide)) (fun _ => ?_)
      refine r_iload2 dX1_isUnder_21 ?_
      refine r_iload1 dX1_isUnder_22 ?_
      refine rn_icmp_ne 28 dX1_isUnder_23 rfl (fun _ => ?_) (fun h => absurd h (by decide))
      refine rn_getsI (i := 4) dX1_isUnder_28 fl_X1_58 (by decide) (fun g h => h.2.2.2.2.1.2.2.1) ?_
      refine r_iload2 dX1_isUnder_31 ?_
      refine rn_ialdO 0 dX1_isUnder_32 (by decide) (by decide) (by decide) (by decide) ?_
      refine rn_eqi (-1) (by decide) ?_
      refine r_istore2 dX1_isUnder_33 rfl ?_
      refine r_iinc3 _ dX1_isUnder_34 rfl rfl ?_
      refine rn_goto 7 dX1_isUnder_37 rfl ?_
      refine r_iload3 dX1_isUnder_7 ?_
      refine rn_iconst (5) dX1_isUnder_8 (by decide) ?_
      refine rn_icmp_gt 40 dX1_isUnder_9 rfl (fun h => absurd h (by decide)) (fun _ => ?_)
      refine r_iload2 dX1_isUnder_12 ?_
      refine rn_iconst (0) dX1_isUnder_13 (by decide) ?_
      refine rn_iconst (5) dX1_isUnder_14 (by decide) ?_
      refine cpiSN3 dX1_isUnder_15 os_X6_within rfl ml_X1_54 (Nat.zero_le _) (Nat.zero_le _) (Nat.zero_le _) (ct_within _ _ _ _) ?_
      refine rn_if_eq 40 dX1_isUnder_18 rfl (fun _ => ?_) (fun h => absurd (by decide) h)
      refine rn_iconst (0) dX1_isUnder_40 (by decide) ?_
      refine rn_zret dX1_isUnder_41 rfl (by first | decide | exact nar_bI) (Nat.zero_le _) (Nat.zero_le _) ?_
      refine ⟨congrArg (fun z => some (Value.int z)) (bI_f (by decide)).symm, rfl, rfl, rfl, rfl⟩
    · refine r_iload3 dX1_isUnder_7 ?_
      refine rn_iconst (5) dX1_isUnder_8 (by decide) ?_
      refine rn_icmp_gt 40 dX1_isUnder_9 rfl (fun h => absurd h (by decide)) (fun _ => ?_)
      refine r_iload2 dX1_isUnder_12 ?_
      refine rn_iconst (0) dX1_isUnder_13 (by decide) ?_
      refine rn_iconst (5) dX1_isUnder_14 (by decide) ?_
      refine cpiSN3 dX1_isUnder_15 os_X6_within rfl ml_X1_54 (Nat.zero_le _) (Nat.zero_le _) (Nat.zero_le _) (ct_within _ _ _ _) ?_
      refine rn_if_eq 40 dX1_isUnder_18 rfl (fun h => absurd h (by decide)) (fun _ => ?_)
      refine r_iload2 dX1_isUnder_21 ?_
      refine r_iload1 dX1_isUnder_22 ?_
      refine rn_icmp_ne 28 dX1_isUnder_23 rfl (fun _ => ?_) (fun h => absurd h (by decide))
      refine rn_getsI (i := 4) dX1_isUnder_28 fl_X1_58 (by decide) (fun g h => h.2.2.2.2.1.2.2.1) ?_
      refine r_iload2 dX1_isUnder_31 ?_
      refine rn_ialdO 4 dX1_isUnder_32 (by decide) (by decide) (by decide) (by decide) ?_
      refine rn_eqi (2) (by decide) ?_
      refine r_istore2 dX1_isUnder_33 rfl ?_
      refine r_iinc3 _ dX1_isUnder_34 rfl rfl ?_
      refine rn_goto 7 dX1_isUnder_37 rfl ?_
      refine r_iload3 dX1_isUnder_7 ?_
      refine rn_iconst (5) dX1_isUnder_8 (by decide) ?_
      refine rn_icmp_gt 40 dX1_isUnder_9 rfl (fun h => absurd h (by decide)) (fun _ => ?_)
      refine r_iload2 dX1_isUnder_12 ?_
      refine rn_iconst (0) dX1_isUnder_13 (by decide) ?_
      refine rn_iconst (5) dX1_isUnder_14 (by decide) ?_
      refine cpiSN3 dX1_isUnder_15 os_X6_within rfl ml_X1_54 (Nat.zero_le _) (Nat.zero_le _) (Nat.zero_le _) (ct_within _ _ _ _) ?_
      refine rn_if_eq 40 dX1_isUnder_18 rfl (fun h => absurd h (by decide)) (fun _ => ?_)
      refine r_iload2 dX1_isUnder_21 ?_
      refine r_iload1 dX1_isUnder_22 ?_
      refine rn_icmp_ne 28 dX1_isUnder_23 rfl (fun h => absurd (by decide) h) (fun _ => ?_)
      refine rn_iconst (1) dX1_isUnder_26 (by decide) ?_
      refine rn_zret dX1_isUnder_27 rfl (by first | decide | exact nar_bI) (Nat.zero_le _) (Nat.zero_le _) ?_
      refine ⟨congrArg (fun z => some (Value.int z)) (bI_t (by decide)).symm, rfl, rfl, rfl, rfl⟩
    · refine r_iload3 dX1_isUnder_7 ?_
      refine rn_iconst (5) dX1_isUnder_8 (by decide) ?_
      refine rn_icmp_gt 40 dX1_isUnder_9 rfl (fun h => absurd h (by decide)) (fun _ => ?_)
      refine r_iload2 dX1_isUnder_12 ?_
      refine rn_iconst (0) dX1_isUnder_13 (by decide) ?_
      refine rn_iconst (5) dX1_isUnder_14 (by decide) ?_
      refine cpiSN3 dX1_isUnder_15 os_X6_within rfl ml_X1_54 (Nat.zero_le _) (Nat.zero_le _) (Nat.zero_le _) (ct_within _ _ _ _) ?_
      refine rn_if_eq 40 dX1_isUnder_18 rfl (fun h => absurd h (by decide)) (fun _ => ?_)
      refine r_iload2 dX1_isUnder_21 ?_
      refine r_iload1 dX1_isUnder_22 ?_
      refine rn_icmp_ne 28 dX1_isUnder_23 rfl (fun _ => ?_) (fun h => absurd h (by decide))
      refine rn_getsI (i := 4) dX1_isUnder_28 fl_X1_58 (by decide) (fun g h => h.2.2.2.2.1.2.2.1) ?_
      refine r_iload2 dX1_isUnder_31 ?_
      refine rn_ialdO 4 dX1_isUnder_32 (by decide) (by decide) (by decide) (by decide) ?_
      refine rn_eqi (2) (by decide) ?_
      refine r_istore2 dX1_isUnder_33 rfl ?_
      refine r_iinc3 _ dX1_isUnder_34 rfl rfl ?_
      refine rn_goto 7 dX1_isUnder_37 rfl ?_
      refine r_iload3 dX1_isUnder_7 ?_
      refine rn_iconst (5) dX1_isUnder_8 (by decide) ?_
      refine rn_icmp_gt 40 dX1_isUnder_9 rfl (fun h => absurd h (by decide)) (fun _ => ?_)
      refine r_iload2 dX1_isUnder_12 ?_
      refine rn_iconst (0) dX1_isUnder_13 (by decide) ?_
      refine rn_iconst (5) dX1_isUnder_14 (by decide) ?_
      refine cpiSN3 dX1_isUnder_15 os_X6_within rfl ml_X1_54 (Nat.zero_le _) (Nat.zero_le _) (Nat.zero_le _) (ct_within _ _ _ _) ?_
      refine rn_if_eq 40 dX1_isUnder_18 rfl (fun h => absurd h (by decide)) (fun _ => ?_)
      refine r_iload2 dX1_isUnder_21 ?_
      refine r_iload1 dX1_isUnder_22 ?_
      refine rn_icmp_ne 28 dX1_isUnder_23 rfl (fun _ => ?_) (fun h => absurd h (by decide))
      refine rn_getsI (i := 4) dX1_isUnder_28 fl_X1_58 (by decide) (fun g h => h.2.2.2.2.1.2.2.1) ?_
      refine r_iload2 dX1_isUnder_31 ?_
      refine rn_ialdO 2 dX1_isUnder_32 (by decide) (by decide) (by decide) (by decide) ?_
      refine rn_eqi (0) (by decide) ?_
      refine r_istore2 dX1_isUnder_33 rfl ?_
      refine r_iinc3 _ dX1_isUnder_34 rfl rfl ?_
      refine rn_goto 7 dX1_isUnder_37 rfl ?_
      refine r_iload3 dX1_isUnder_7 ?_
      refine rn_iconst (5) dX1_isUnder_8 (by decide) ?_
      refine rn_icmp_gt 40 dX1_isUnder_9 rfl (fun h => absurd h (by decide)) (fun _ => ?_)
      refine r_iload2 dX1_isUnder_12 ?_
      refine rn_iconst (0) dX1_isUnder_13 (by decide) ?_
      refine rn_iconst (5) dX1_isUnder_14 (by decide) ?_
      refine cpiSN3 dX1_isUnder_15 os_X6_within rfl ml_X1_54 (Nat.zero_le _) (Nat.zero_le _) (Nat.zero_le _) (ct_within _ _ _ _) ?_
      refine rn_if_eq 40 dX1_isUnder_18 rfl (fun h => absurd h (by decide)) (fun _ => ?_)
      refine r_iload2 dX1_isUnder_21 ?_
      refine r_iload1 dX1_isUnder_22 ?_
      refine rn_icmp_ne 28 dX1_isUnder_23 rfl (fun _ => ?_) (fun h => absurd h (by decide))
      refine rn_getsI (i := 4) dX1_isUnder_28 fl_X1_58 (by decide) (fun g h => h.2.2.2.2.1.2.2.1) ?_
      refine r_iload2 dX1_isUnder_31 ?_
      refine rn_ialdO 0 dX1_isUnder_32 (by decide) (by decide) (by decide) (by decide) ?_
      refine rn_eqi (-1) (by decide) ?_
      refine r_istore2 dX1_isUnder_33 rfl ?_
      refine r_iinc3 _ dX1_isUnder_34 rfl rfl ?_
      refine rn_goto 7 dX1_isUnder_37 rfl ?_
      refine r_iload3 dX1_isUnder_7 ?_
      refine rn_iconst (5) dX1_isUnder_8 (by decide) ?_
      refine rn_icmp_gt 40 dX1_isUnder_9 rfl (fun h => absurd h (by decide)) (fun _ => ?_)
      refine r_iload2 dX1_isUnder_12 ?_
      refine rn_iconst (0) dX1_isUnder_13 (by decide) ?_
      refine rn_iconst (5) dX1_isUnder_14 (by decide) ?_
      refine cpiSN3 dX1_isUnder_15 os_X6_within rfl ml_X1_54 (Nat.zero_le _) (Nat.zero_le _) (Nat.zero_le _) (ct_within _ _ _ _) ?_
      refine rn_if_eq 40 dX1_isUnder_18 rfl (fun _ => ?_) (fun h => absurd (by decide) h)
      refine rn_iconst (0) dX1_isUnder_40 (by decide) ?_
      refine rn_zret dX1_isUnder_41 rfl (by first | decide | exact nar_bI) (Nat.zero_le _) (Nat.zero_le _) ?_
      refine ⟨congrArg (fun z => some (Value.int z)) (bI_f (by decide)).symm, rfl, rfl, rfl, rfl⟩
    · refine r_iload3 dX1_isUnder_7 ?_
      refine rn_iconst (5) dX1_isUnder_8 (by decide) ?_
      refine rn_icmp_gt 40 dX1_isUnder_9 rfl (fun h => absurd h (by decide)) (fun _ => ?_)
      refine r_iload2 dX1_isUnder_12 ?_
      refine rn_iconst (0) dX1_isUnder_13 (by decide) ?_
      refine rn_iconst (5) dX1_isUnder_14 (by decide) ?_
      refine cpiSN3 dX1_isUnder_15 os_X6_within rfl ml_X1_54 (Nat.zero_le _) (Nat.zero_le _) (Nat.zero_le _) (ct_within _ _ _ _) ?_
      refine rn_if_eq 40 dX1_isUnder_18 rfl (fun h => absurd h (by decide)) (fun _ => ?_)
      refine r_iload2 dX1_isUnder_21 ?_
      refine r_iload1 dX1_isUnder_22 ?_
      refine rn_icmp_ne 28 dX1_isUnder_23 rfl (fun h => absurd (by decide) h) (fun _ => ?_)
      refine rn_iconst (1) dX1_isUnder_26 (by decide) ?_
      refine rn_zret dX1_isUnder_27 rfl (by first | decide | exact nar_bI) (Nat.zero_le _) (Nat.zero_le _) ?_
      refine ⟨congrArg (fun z => some (Value.int z)) (bI_t (by decide)).symm, rfl, rfl, rfl, rfl⟩
    · refine r_iload3 dX1_isUnder_7 ?_
      refine rn_iconst (5) dX1_isUnder_8 (by decide) ?_
      refine rn_icmp_gt 40 dX1_isUnder_9 rfl (fun h => absurd h (by decide)) (fun _ => ?_)
      refine r_iload2 dX1_isUnder_12 ?_
      refine rn_iconst (0) dX1_isUnder_13 (by decide) ?_
      refine rn_iconst (5) dX1_isUnder_14 (by decide) ?_
      refine cpiSN3 dX1_isUnder_15 os_X6_within rfl ml_X1_54 (Nat.zero_le _) (Nat.zero_le _) (Nat.zero_le _) (ct_within _ _ _ _) ?_
      refine rn_if_eq 40 dX1_isUnder_18 rfl (fun h => absurd h (by decide)) (fun _ => ?_)
      refine r_iload2 dX1_isUnder_21 ?_
      refine r_iload1 dX1_isUnder_22 ?_
      refine rn_icmp_ne 28 dX1_isUnder_23 rfl (fun _ => ?_) (fun h => absurd h (by decide))
      refine rn_getsI (i := 4) dX1_isUnder_28 fl_X1_58 (by decide) (fun g h => h.2.2.2.2.1.2.2.1) ?_
      refine r_iload2 dX1_isUnder_31 ?_
      refine rn_ialdO 4 dX1_isUnder_32 (by decide) (by decide) (by decide) (by decide) ?_
      refine rn_eqi (2) (by decide) ?_
      refine r_istore2 dX1_isUnder_33 rfl ?_
      refine r_iinc3 _ dX1_isUnder_34 rfl rfl ?_
      refine rn_goto 7 dX1_isUnder_37 rfl ?_
      refine r_iload3 dX1_isUnder_7 ?_
      refine rn_iconst (5) dX1_isUnder_8 (by decide) ?_
      refine rn_icmp_gt 40 dX1_isUnder_9 rfl (fun h => absurd h (by decide)) (fun _ => ?_)
      refine r_iload2 dX1_isUnder_12 ?_
      refine rn_iconst (0) dX1_isUnder_13 (by decide) ?_
      refine rn_iconst (5) dX1_isUnder_14 (by decide) ?_
      refine cpiSN3 dX1_isUnder_15 os_X6_within rfl ml_X1_54 (Nat.zero_le _) (Nat.zero_le _) (Nat.zero_le _) (ct_within _ _ _ _) ?_
      refine rn_if_eq 40 dX1_isUnder_18 rfl (fun h => absurd h (by decide)) (fun _ => ?_)
      refine r_iload2 dX1_isUnder_21 ?_
      refine r_iload1 dX1_isUnder_22 ?_
      refine rn_icmp_ne 28 dX1_isUnder_23 rfl (fun _ => ?_) (fun h => absurd h (by decide))
      refine rn_getsI (i := 4) dX1_isUnder_28 fl_X1_58 (by decide) (fun g h => h.2.2.2.2.1.2.2.1) ?_
      refine r_iload2 dX1_isUnder_31 ?_
      refine rn_ialdO 2 dX1_isUnder_32 (by decide) (by decide) (by decide) (by decide) ?_
      refine rn_eqi (0) (by decide) ?_
      refine r_istore2 dX1_isUnder_33 rfl ?_
      refine r_iinc3 _ dX1_isUnder_34 rfl rfl ?_
      refine rn_goto 7 dX1_isUnder_37 rfl ?_
      refine r_iload3 dX1_isUnder_7 ?_
      refine rn_iconst (5) dX1_isUnder_8 (by decide) ?_
      refine rn_icmp_gt 40 dX1_isUnder_9 rfl (fun h => absurd h (by decide)) (fun _ => ?_)
      refine r_iload2 dX1_isUnder_12 ?_
      refine rn_iconst (0) dX1_isUnder_13 (by decide) ?_
      refine rn_iconst (5) dX1_isUnder_14 (by decide) ?_
      refine cpiSN3 dX1_isUnder_15 os_X6_within rfl ml_X1_54 (Nat.zero_le _) (Nat.zero_le _) (Nat.zero_le _) (ct_within _ _ _ _) ?_
      refine rn_if_eq 40 dX1_isUnder_18 rfl (fun h => absurd h (by decide)) (fun _ => ?_)
      refine r_iload2 dX1_isUnder_21 ?_
      refine r_iload1 dX1_isUnder_22 ?_
      refine rn_icmp_ne 28 dX1_isUnder_23 rfl (fun _ => ?_) (fun h => absurd h (by decide))
      refine rn_getsI (i := 4) dX1_isUnder_28 fl_X1_58 (by decide) (fun g h => h.2.2.2.2.1.2.2.1) ?_
      refine r_iload2 dX1_isUnder_31 ?_
      refine rn_ialdO 0 dX1_isUnder_32 (by decide) (by decide) (by decide) (by decide) ?_
      refine rn_eqi (-1) (by decide) ?_
      refine r_istore2 dX1_isUnder_33 rfl ?_
      refine r_iinc3 _ dX1_isUnder_34 rfl rfl ?_
      refine rn_goto 7 dX1_isUnder_37 rfl ?_
      refine r_iload3 dX1_isUnder_7 ?_
      refine rn_iconst (5) dX1_isUnder_8 (by decide) ?_
      refine rn_icmp_gt 40 dX1_isUnder_9 rfl (fun h => absurd h (by decide)) (fun _ => ?_)
      refine r_iload2 dX1_isUnder_12 ?_
      refine rn_iconst (0) dX1_isUnder_13 (by decide) ?_
      refine rn_iconst (5) dX1_isUnder_14 (by decide) ?_
      refine cpiSN3 dX1_isUnder_15 os_X6_within rfl ml_X1_54 (Nat.zero_le _) (Nat.zero_le _) (Nat.zero_le _) (ct_within _ _ _ _) ?_
      refine rn_if_eq 40 dX1_isUnder_18 rfl (fun _ => ?_) (fun h => absurd (by decide) h)
      refine rn_iconst (0) dX1_isUnder_40 (by decide) ?_
      refine rn_zret dX1_isUnder_41 rfl (by first | decide | exact nar_bI) (Nat.zero_le _) (Nat.zero_le _) ?_
      refine ⟨congrArg (fun z => some (Value.int z)) (bI_f (by decide)).symm, rfl, rfl, rfl, rfl⟩
  | 5, _ =>
    rcases cw5 hq1 with rfl | rfl | rfl | rfl | rfl | rfl
    · refine r_iload3 dX1_isUnder_7 ?_
      refine rn_iconst (5) dX1_isUnder_8 (by decide) ?_
      refine rn_icmp_gt 40 dX1_isUnder_9 rfl (fun h => absurd h (by decide)) (fun _ => ?_)
      refine r_iload2 dX1_isUnder_12 ?_
      refine rn_iconst (0) dX1_isUnder_13 (by decide) ?_
      refine rn_iconst (5) dX1_isUnder_14 (by decide) ?_
      refine cpiSN3 dX1_isUnder_15 os_X6_within rfl ml_X1_54 (Nat.zero_le _) (Nat.zero_le _) (Nat.zero_le _) (ct_within _ _ _ _) ?_
      refine rn_if_eq 40 dX1_isUnder_18 rfl (fun h => absurd h (by decide)) (fun _ => ?_)
      refine r_iload2 dX1_isUnder_21 ?_
      refine r_iload1 dX1_isUnder_22 ?_
      refine rn_icmp_ne 28 dX1_isUnder_23 rfl (fun _ => ?_) (fun h => absurd h (by decide))
      refine rn_getsI (i := 4) dX1_isUnder_28 fl_X1_58 (by decide) (fun g h => h.2.2.2.2.1.2.2.1) ?_
      refine r_iload2 dX1_isUnder_31 ?_
      refine rn_ialdO 5 dX1_isUnder_32 (by decide) (by decide) (by decide) (by decide) ?_
      refine rn_eqi (1) (by decide) ?_
      refine r_istore2 dX1_isUnder_33 rfl ?_
      refine r_iinc3 _ dX1_isUnder_34 rfl rfl ?_
      refine rn_goto 7 dX1_isUnder_37 rfl ?_
      refine r_iload3 dX1_isUnder_7 ?_
      refine rn_iconst (5) dX1_isUnder_8 (by decide) ?_
      refine rn_icmp_gt 40 dX1_isUnder_9 rfl (fun h => absurd h (by decide)) (fun _ => ?_)
      refine r_iload2 dX1_isUnder_12 ?_
      refine rn_iconst (0) dX1_isUnder_13 (by decide) ?_
      refine rn_iconst (5) dX1_isUnder_14 (by decide) ?_
      refine cpiSN3 dX1_isUnder_15 os_X6_within rfl ml_X1_54 (Nat.zero_le _) (Nat.zero_le _) (Nat.zero_le _) (ct_within _ _ _ _) ?_
      refine rn_if_eq 40 dX1_isUnder_18 rfl (fun h => absurd h (by decide)) (fun _ => ?_)
      refine r_iload2 dX1_isUnder_21 ?_
      refine r_iload1 dX1_isUnder_22 ?_
      refine rn_icmp_ne 28 dX1_isUnder_23 rfl (fun _ => ?_) (fun h => absurd h (by decide))
      refine rn_getsI (i := 4) dX1_isUnder_28 fl_X1_58 (by decide) (fun g h => h.2.2.2.2.1.2.2.1) ?_
      refine r_iload2 dX1_isUnder_31 ?_
      refine rn_ialdO 1 dX1_isUnder_32 (by decide) (by decide) (by decide) (by decide) ?_
      refine rn_eqi (0) (by decide) ?_
      refine r_istore2 dX1_isUnder_33 rfl ?_
      refine r_iinc3 _ dX1_isUnder_34 rfl rfl ?_
      refine rn_goto 7 dX1_isUnder_37 rfl ?_
      refine r_iload3 dX1_isUnder_7 ?_
      refine rn_iconst (5) dX1_isUnder_8 (by decide) ?_
      refine rn_icmp_gt 40 dX1_isUnder_9 rfl (fun h => absurd h (by decide)) (fun _ => ?_)
      refine r_iload2 dX1_isUnder_12 ?_
      refine rn_iconst (0) dX1_isUnder_13 (by decide) ?_
      refine rn_iconst (5) dX1_isUnder_14 (by decide) ?_
      refine cpiSN3 dX1_isUnder_15 os_X6_within rfl ml_X1_54 (Nat.zero_le _) (Nat.zero_le _) (Nat.zero_le _) (ct_within _ _ _ _) ?_
      refine rn_if_eq 40 dX1_isUnder_18 rfl (fun h => absurd h (by decide)) (fun _ => ?_)
      refine r_iload2 dX1_isUnder_21 ?_
      refine r_iload1 dX1_isUnder_22 ?_
      refine rn_icmp_ne 28 dX1_isUnder_23 rfl (fun h => absurd (by decide) h) (fun _ => ?_)
      refine rn_iconst (1) dX1_isUnder_26 (by decide) ?_
      refine rn_zret dX1_isUnder_27 rfl (by first | decide | exact nar_bI) (Nat.zero_le _) (Nat.zero_le _) ?_
      refine ⟨congrArg (fun z => some (Value.int z)) (bI_t (by decide)).symm, rfl, rfl, rfl, rfl⟩
    · refine r_iload3 dX1_isUnder_7 ?_
      refine rn_iconst (5) dX1_isUnder_8 (by decide) ?_
      refine rn_icmp_gt 40 dX1_isUnder_9 rfl (fun h => absurd h (by decide)) (fun _ => ?_)
      refine r_iload2 dX1_isUnder_12 ?_
      refine rn_iconst (0) dX1_isUnder_13 (by decide) ?_
      refine rn_iconst (5) dX1_isUnder_14 (by decide) ?_
      refine cpiSN3 dX1_isUnder_15 os_X6_within rfl ml_X1_54 (Nat.zero_le _) (Nat.zero_le _) (Nat.zero_le _) (ct_within _ _ _ _) ?_
      refine rn_if_eq 40 dX1_isUnder_18 rfl (fun h => absurd h (by decide)) (fun _ => ?_)
      refine r_iload2 dX1_isUnder_21 ?_
      refine r_iload1 dX1_isUnder_22 ?_
      refine rn_icmp_ne 28 dX1_isUnder_23 rfl (fun _ => ?_) (fun h => absurd h (by decide))
      refine rn_getsI (i := 4) dX1_isUnder_28 fl_X1_58 (by decide) (fun g h => h.2.2.2.2.1.2.2.1) ?_
      refine r_iload2 dX1_isUnder_31 ?_
      refine rn_ialdO 5 dX1_isUnder_32 (by decide) (by decide) (by decide) (by decide) ?_
      refine rn_eqi (1) (by decide) ?_
      refine r_istore2 dX1_isUnder_33 rfl ?_
      refine r_iinc3 _ dX1_isUnder_34 rfl rfl ?_
      refine rn_goto 7 dX1_isUnder_37 rfl ?_
      refine r_iload3 dX1_isUnder_7 ?_
      refine rn_iconst (5) dX1_isUnder_8 (by decide) ?_
      refine rn_icmp_gt 40 dX1_isUnder_9 rfl (fun h => absurd h (by decide)) (fun _ => ?_)
      refine r_iload2 dX1_isUnder_12 ?_
      refine rn_iconst (0) dX1_isUnder_13 (by decide) ?_
      refine rn_iconst (5) dX1_isUnder_14 (by decide) ?_
      refine cpiSN3 dX1_isUnder_15 os_X6_within rfl ml_X1_54 (Nat.zero_le _) (Nat.zero_le _) (Nat.zero_le _) (ct_within _ _ _ _) ?_
      refine rn_if_eq 40 dX1_isUnder_18 rfl (fun h => absurd h (by decide)) (fun _ => ?_)
      refine r_iload2 dX1_isUnder_21 ?_
      refine r_iload1 dX1_isUnder_22 ?_
      refine rn_icmp_ne 28 dX1_isUnder_23 rfl (fun h => absurd (by decide) h) (fun _ => ?_)
      refine rn_iconst (1) dX1_isUnder_26 (by decide) ?_
      refine rn_zret dX1_isUnder_27 rfl (by first | decide | exact nar_bI) (Nat.zero_le _) (Nat.zero_le _) ?_
      refine ⟨congrArg (fun z => some (Value.int z)) (bI_t (by decide)).symm, rfl, rfl, rfl, rfl⟩
    · refine r_iload3 dX1_isUnder_7 ?_
      refine rn_iconst (5) dX1_isUnder_8 (by decide) ?_
      refine rn_icmp_gt 40 dX1_isUnder_9 rfl (fun h => absurd h (by decide)) (fun _ => ?_)
      refine r_iload2 dX1_isUnder_12 ?_
      refine rn_iconst (0) dX1_isUnder_13 (by decide) ?_
      refine rn_iconst (5) dX1_isUnder_14 (by decide) ?_
      refine cpiSN3 dX1_isUnder_15 os_X6_within rfl ml_X1_54 (Nat.zero_le _) (Nat.zero_le _) (Nat.zero_le _) (ct_within _ _ _ _) ?_
      refine rn_if_eq 40 dX1_isUnder_18 rfl (fun h => absurd h (by decide)) (fun _ => ?_)
      refine r_iload2 dX1_isUnder_21 ?_
      refine r_iload1 dX1_isUnder_22 ?_
      refine rn_icmp_ne 28 dX1_isUnder_23 rfl (fun _ => ?_) (fun h => absurd h (by decide))
      refine rn_getsI (i := 4) dX1_isUnder_28 fl_X1_58 (by decide) (fun g h => h.2.2.2.2.1.2.2.1) ?_
      refine r_iload2 dX1_isUnder_31 ?_
      refine rn_ialdO 5 dX1_isUnder_32 (by decide) (by decide) (by decide) (by decide) ?_
      refine rn_eqi (1) (by decide) ?_
      refine r_istore2 dX1_isUnder_33 rfl ?_
      refine r_iinc3 _ dX1_isUnder_34 rfl rfl ?_
      refine rn_goto 7 dX1_isUnder_37 rfl ?_
      refine r_iload3 dX1_isUnder_7 ?_
      refine rn_iconst (5) dX1_isUnder_8 (by decide) ?_
      refine rn_icmp_gt 40 dX1_isUnder_9 rfl (fun h => absurd h (by decide)) (fun _ => ?_)
      refine r_iload2 dX1_isUnder_12 ?_
      refine rn_iconst (0) dX1_isUnder_13 (by decide) ?_
      refine rn_iconst (5) dX1_isUnder_14 (by decide) ?_
      refine cpiSN3 dX1_isUnder_15 os_X6_within rfl ml_X1_54 (Nat.zero_le _) (Nat.zero_le _) (Nat.zero_le _) (ct_within _ _ _ _) ?_
      refine rn_if_eq 40 dX1_isUnder_18 rfl (fun h => absurd h (by decide)) (fun _ => ?_)
      refine r_iload2 dX1_isUnder_21 ?_
      refine r_iload1 dX1_isUnder_22 ?_
      refine rn_icmp_ne 28 dX1_isUnder_23 rfl (fun _ => ?_) (fun h => absurd h (by decide))
      refine rn_getsI (i := 4) dX1_isUnder_28 fl_X1_58 (by decide) (fun g h => h.2.2.2.2.1.2.2.1) ?_
      refine r_iload2 dX1_isUnder_31 ?_
      refine rn_ialdO 1 dX1_isUnder_32 (by decide) (by decide) (by decide) (by decide) ?_
      refine rn_eqi (0) (by decide) ?_
      refine r_istore2 dX1_isUnder_33 rfl ?_
      refine r_iinc3 _ dX1_isUnder_34 rfl rfl ?_
      refine rn_goto 7 dX1_isUnder_37 rfl ?_
      refine r_iload3 dX1_isUnder_7 ?_
      refine rn_iconst (5) dX1_isUnder_8 (by decide) ?_
      refine rn_icmp_gt 40 dX1_isUnder_9 rfl (fun h => absurd h (by decide)) (fun _ => ?_)
      refine r_iload2 dX1_isUnder_12 ?_
      refine rn_iconst (0) dX1_isUnder_13 (by decide) ?_
      refine rn_iconst (5) dX1_isUnder_14 (by decide) ?_
      refine cpiSN3 dX1_isUnder_15 os_X6_within rfl ml_X1_54 (Nat.zero_le _) (Nat.zero_le _) (Nat.zero_le _) (ct_within _ _ _ _) ?_
      refine rn_if_eq 40 dX1_isUnder_18 rfl (fun h => absurd h (by decide)) (fun _ => ?_)
      refine r_iload2 dX1_isUnder_21 ?_
      refine r_iload1 dX1_isUnder_22 ?_
      refine rn_icmp_ne 28 dX1_isUnder_23 rfl (fun _ => ?_) (fun h => absurd h (by decide))
      refine rn_getsI (i := 4) dX1_isUnder_28 fl_X1_58 (by decide) (fun g h => h.2.2.2.2.1.2.2.1) ?_
      refine r_iload2 dX1_isUnder_31 ?_
      refine rn_ialdO 0 dX1_isUnder_32 (by decide) (by decide) (by decide) (by decide) ?_
      refine rn_eqi (-1) (by decide) ?_
      refine r_istore2 dX1_isUnder_33 rfl ?_
      refine r_iinc3 _ dX1_isUnder_34 rfl rfl ?_
      refine rn_goto 7 dX1_isUnder_37 rfl ?_
      refine r_iload3 dX1_isUnder_7 ?_
      refine rn_iconst (5) dX1_isUnder_8 (by decide) ?_
      refine rn_icmp_gt 40 dX1_isUnder_9 rfl (fun h => absurd h (by decide)) (fun _ => ?_)
      refine r_iload2 dX1_isUnder_12 ?_
      refine rn_iconst (0) dX1_isUnder_13 (by decide) ?_
      refine rn_iconst (5) dX1_isUnder_14 (by decide) ?_
      refine cpiSN3 dX1_isUnder_15 os_X6_within rfl ml_X1_54 (Nat.zero_le _) (Nat.zero_le _) (Nat.zero_le _) (ct_within _ _ _ _) ?_
      refine rn_if_eq 40 dX1_isUnder_18 rfl (fun _ => ?_) (fun h => absurd (by decide) h)
      refine rn_iconst (0) dX1_isUnder_40 (by decide) ?_
      refine rn_zret dX1_isUnder_41 rfl (by first | decide | exact nar_bI) (Nat.zero_le _) (Nat.zero_le _) ?_
      refine ⟨congrArg (fun z => some (Value.int z)) (bI_f (by decide)).symm, rfl, rfl, rfl, rfl⟩
    · refine r_iload3 dX1_isUnder_7 ?_
      refine rn_iconst (5) dX1_isUnder_8 (by decide) ?_
      refine rn_icmp_gt 40 dX1_isUnder_9 rfl (fun h => absurd h (by decide)) (fun _ => ?_)
      refine r_iload2 dX1_isUnder_12 ?_
      refine rn_iconst (0) dX1_isUnder_13 (by decide) ?_
      refine rn_iconst (5) dX1_isUnder_14 (by decide) ?_
      refine cpiSN3 dX1_isUnder_15 os_X6_within rfl ml_X1_54 (Nat.zero_le _) (Nat.zero_le _) (Nat.zero_le _) (ct_within _ _ _ _) ?_
      refine rn_if_eq 40 dX1_isUnder_18 rfl (fun h => absurd h (by decide)) (fun _ => ?_)
      refine r_iload2 dX1_isUnder_21 ?_
      refine r_iload1 dX1_isUnder_22 ?_
      refine rn_icmp_ne 28 dX1_isUnder_23 rfl (fun _ => ?_) (fun h => absurd h (by decide))
      refine rn_getsI (i := 4) dX1_isUnder_28 fl_X1_58 (by decide) (fun g h => h.2.2.2.2.1.2.2.1) ?_
      refine r_iload2 dX1_isUnder_31 ?_
      refine rn_ialdO 5 dX1_isUnder_32 (by decide) (by decide) (by decide) (by decide) ?_
      refine rn_eqi (1) (by decide) ?_
      refine r_istore2 dX1_isUnder_33 rfl ?_
      refine r_iinc3 _ dX1_isUnder_34 rfl rfl ?_
      refine rn_goto 7 dX1_isUnder_37 rfl ?_
      refine r_iload3 dX1_isUnder_7 ?_
      refine rn_iconst (5) dX1_isUnder_8 (by decide) ?_
      refine rn_icmp_gt 40 dX1_isUnder_9 rfl (fun h => absurd h (by decide)) (fun _ => ?_)
      refine r_iload2 dX1_isUnder_12 ?_
      refine rn_iconst (0) dX1_isUnder_13 (by decide) ?_
      refine rn_iconst (5) dX1_isUnder_14 (by decide) ?_
      refine cpiSN3 dX1_isUnder_15 os_X6_within rfl ml_X1_54 (Nat.zero_le _) (Nat.zero_le _) (Nat.zero_le _) (ct_within _ _ _ _) ?_
      refine rn_if_eq 40 dX1_isUnder_18 rfl (fun h => absurd h (by decide)) (fun _ => ?_)
      refine r_iload2 dX1_isUnder_21 ?_
      refine r_iload1 dX1_isUnder_22 ?_
      refine rn_icmp_ne 28 dX1_isUnder_23 rfl (fun _ => ?_) (fun h => absurd h (by decide))
      refine rn_getsI (i := 4) dX1_isUnder_28 fl_X1_58 (by decide) (fun g h => h.2.2.2.2.1.2.2.1) ?_
      refine r_iload2 dX1_isUnder_31 ?_
      refine rn_ialdO 1 dX1_isUnder_32 (by decide) (by decide) (by decide) (by decide) ?_
      refine rn_eqi (0) (by decide) ?_
      refine r_istore2 dX1_isUnder_33 rfl ?_
      refine r_iinc3 _ dX1_isUnder_34 rfl rfl ?_
      refine rn_goto 7 dX1_isUnder_37 rfl ?_
      refine r_iload3 dX1_isUnder_7 ?_
      refine rn_iconst (5) dX1_isUnder_8 (by decide) ?_
      refine rn_icmp_gt 40 dX1_isUnder_9 rfl (fun h => absurd h (by decide)) (fun _ => ?_)
      refine r_iload2 dX1_isUnder_12 ?_
      refine rn_iconst (0) dX1_isUnder_13 (by decide) ?_
      refine rn_iconst (5) dX1_isUnder_14 (by decide) ?_
      refine cpiSN3 dX1_isUnder_15 os_X6_within rfl ml_X1_54 (Nat.zero_le _) (Nat.zero_le _) (Nat.zero_le _) (ct_within _ _ _ _) ?_
      refine rn_if_eq 40 dX1_isUnder_18 rfl (fun h => absurd h (by decide)) (fun _ => ?_)
      refine r_iload2 dX1_isUnder_21 ?_
      refine r_iload1 dX1_isUnder_22 ?_
      refine rn_icmp_ne 28 dX1_isUnder_23 rfl (fun _ => ?_) (fun h => absurd h (by decide))
      refine rn_getsI (i := 4) dX1_isUnder_28 fl_X1_58 (by decide) (fun g h => h.2.2.2.2.1.2.2.1) ?_
      refine r_iload2 dX1_isUnder_31 ?_
      refine rn_ialdO 0 dX1_isUnder_32 (by decide) (by decide) (by decide) (by decide) ?_
      refine rn_eqi (-1) (by decide) ?_
      refine r_istore2 dX1_isUnder_33 rfl ?_
      refine r_iinc3 _ dX1_isUnder_34 rfl rfl ?_
      refine rn_goto 7 dX1_isUnder_37 rfl ?_
      refine r_iload3 dX1_isUnder_7 ?_
      refine rn_iconst (5) dX1_isUnder_8 (by decide) ?_
      refine rn_icmp_gt 40 dX1_isUnder_9 rfl (fun h => absurd h (by decide)) (fun _ => ?_)
      refine r_iload2 dX1_isUnder_12 ?_
      refine rn_iconst (0) dX1_isUnder_13 (by decide) ?_
      refine rn_iconst (5) dX1_isUnder_14 (by decide) ?_
      refine cpiSN3 dX1_isUnder_15 os_X6_within rfl ml_X1_54 (Nat.zero_le _) (Nat.zero_le _) (Nat.zero_le _) (ct_within _ _ _ _) ?_
      refine rn_if_eq 40 dX1_isUnder_18 rfl (fun _ => ?_) (fun h => absurd (by decide) h)
      refine rn_iconst (0) dX1_isUnder_40 (by decide) ?_
      refine rn_zret dX1_isUnder_41 rfl (by first | decide | exact nar_bI) (Nat.zero_le _) (Nat.zero_le _) ?_
      refine ⟨congrArg (fun z => some (Value.int z)) (bI_f (by decide)).symm, rfl, rfl, rfl, rfl⟩
    · refine r_iload3 dX1_isUnder_7 ?_
      refine rn_iconst (5) dX1_isUnder_8 (by decide) ?_
      refine rn_icmp_gt 40 dX1_isUnder_9 rfl (fun h => absurd h (by decide)) (fun _ => ?_)
      refine r_iload2 dX1_isUnder_12 ?_
      refine rn_iconst (0) dX1_isUnder_13 (by decide) ?_
      refine rn_iconst (5) dX1_isUnder_14 (by decide) ?_
      refine cpiSN3 dX1_isUnder_15 os_X6_within rfl ml_X1_54 (Nat.zero_le _) (Nat.zero_le _) (Nat.zero_le _) (ct_within _ _ _ _) ?_
      refine rn_if_eq 40 dX1_isUnder_18 rfl (fun h => absurd h (by decide)) (fun _ => ?_)
      refine r_iload2 dX1_isUnder_21 ?_
      refine r_iload1 dX1_isUnder_22 ?_
      refine rn_icmp_ne 28 dX1_isUnder_23 rfl (fun _ => ?_) (fun h => absurd h (by decide))
      refine rn_getsI (i := 4) dX1_isUnder_28 fl_X1_58 (by decide) (fun g h => h.2.2.2.2.1.2.2.1) ?_
      refine r_iload2 dX1_isUnder_31 ?_
      refine rn_ialdO 5 dX1_isUnder_32 (by decide) (by decide) (by decide) (by decide) ?_
      refine rn_eqi (1) (by decide) ?_
      refine r_istore2 dX1_isUnder_33 rfl ?_
      refine r_iinc3 _ dX1_isUnder_34 rfl rfl ?_
      refine rn_goto 7 dX1_isUnder_37 rfl ?_
      refine r_iload3 dX1_isUnder_7 ?_
      refine rn_iconst (5) dX1_isUnder_8 (by decide) ?_
      refine rn_icmp_gt 40 dX1_isUnder_9 rfl (fun h => absurd h (by decide)) (fun _ => ?_)
      refine r_iload2 dX1_isUnder_12 ?_
      refine rn_iconst (0) dX1_isUnder_13 (by decide) ?_
      refine rn_iconst (5) dX1_isUnder_14 (by decide) ?_
      refine cpiSN3 dX1_isUnder_15 os_X6_within rfl ml_X1_54 (Nat.zero_le _) (Nat.zero_le _) (Nat.zero_le _) (ct_within _ _ _ _) ?_
      refine rn_if_eq 40 dX1_isUnder_18 rfl (fun h => absurd h (by decide)) (fun _ => ?_)
      refine r_iload2 dX1_isUnder_21 ?_
      refine r_iload1 dX1_isUnder_22 ?_
      refine rn_icmp_ne 28 dX1_isUnder_23 rfl (fun _ => ?_) (fun h => absurd h (by decide))
      refine rn_getsI (i := 4) dX1_isUnder_28 fl_X1_58 (by decide) (fun g h => h.2.2.2.2.1.2.2.1) ?_
      refine r_iload2 dX1_isUnder_31 ?_
      refine rn_ialdO 1 dX1_isUnder_32 (by decide) (by decide) (by decide) (by decide) ?_
      refine rn_eqi (0) (by decide) ?_
      refine r_istore2 dX1_isUnder_33 rfl ?_
      refine r_iinc3 _ dX1_isUnder_34 rfl rfl ?_
      refine rn_goto 7 dX1_isUnder_37 rfl ?_
      refine r_iload3 dX1_isUnder_7 ?_
      refine rn_iconst (5) dX1_isUnder_8 (by decide) ?_
      refine rn_icmp_gt 40 dX1_isUnder_9 rfl (fun h => absurd h (by decide)) (fun _ => ?_)
      refine r_iload2 dX1_isUnder_12 ?_
      refine rn_iconst (0) dX1_isUnder_13 (by decide) ?_
      refine rn_iconst (5) dX1_isUnder_14 (by decide) ?_
      refine cpiSN3 dX1_isUnder_15 os_X6_within rfl ml_X1_54 (Nat.zero_le _) (Nat.zero_le _) (Nat.zero_le _) (ct_within _ _ _ _) ?_
      refine rn_if_eq 40 dX1_isUnder_18 rfl (fun h => absurd h (by decide)) (fun _ => ?_)
      refine r_iload2 dX1_isUnder_21 ?_
      refine r_iload1 dX1_isUnder_22 ?_
      refine rn_icmp_ne 28 dX1_isUnder_23 rfl (fun _ => ?_) (fun h => absurd h (by decide))
      refine rn_getsI (i := 4) dX1_isUnder_28 fl_X1_58 (by decide) (fun g h => h.2.2.2.2.1.2.2.1) ?_
      refine r_iload2 dX1_isUnder_31 ?_
      refine rn_ialdO 0 dX1_isUnder_32 (by decide) (by decide) (by decide) (by decide) ?_
      refine rn_eqi (-1) (by decide) ?_
      refine r_istore2 dX1_isUnder_33 rfl ?_
      refine r_iinc3 _ dX1_isUnder_34 rfl rfl ?_
      refine rn_goto 7 dX1_isUnder_37 rfl ?_
      refine r_iload3 dX1_isUnder_7 ?_
      refine rn_iconst (5) dX1_isUnder_8 (by decide) ?_
      refine rn_icmp_gt 40 dX1_isUnder_9 rfl (fun h => absurd h (by decide)) (fun _ => ?_)
      refine r_iload2 dX1_isUnder_12 ?_
      refine rn_iconst (0) dX1_isUnder_13 (by decide) ?_
      refine rn_iconst (5) dX1_isUnder_14 (by decide) ?_
      refine cpiSN3 dX1_isUnder_15 os_X6_within rfl ml_X1_54 (Nat.zero_le _) (Nat.zero_le _) (Nat.zero_le _) (ct_within _ _ _ _) ?_
      refine rn_if_eq 40 dX1_isUnder_18 rfl (fun _ => ?_) (fun h => absurd (by decide) h)
      refine rn_iconst (0) dX1_isUnder_40 (by decide) ?_
      refine rn_zret dX1_isUnder_41 rfl (by first | decide | exact nar_bI) (Nat.zero_le _) (Nat.zero_le _) ?_
      refine ⟨congrArg (fun z => some (Value.int z)) (bI_f (by decide)).symm, rfl, rfl, rfl, rfl⟩
    · refine r_iload3 dX1_isUnder_7 ?_
      refine rn_iconst (5) dX1_isUnder_8 (by decide) ?_
      refine rn_icmp_gt 40 dX1_isUnder_9 rfl (fun h => absurd h (by decide)) (fun _ => ?_)
      refine r_iload2 dX1_isUnder_12 ?_
      refine rn_iconst (0) dX1_isUnder_13 (by decide) ?_
      refine rn_iconst (5) dX1_isUnder_14 (by decide) ?_
      refine cpiSN3 dX1_isUnder_15 os_X6_within rfl ml_X1_54 (Nat.zero_le _) (Nat.zero_le _) (Nat.zero_le _) (ct_within _ _ _ _) ?_
      refine rn_if_eq 40 dX1_isUnder_18 rfl (fun h => absurd h (by decide)) (fun _ => ?_)
      refine r_iload2 dX1_isUnder_21 ?_
      refine r_iload1 dX1_isUnder_22 ?_
      refine rn_icmp_ne 28 dX1_isUnder_23 rfl (fun h => absurd (by decide) h) (fun _ => ?_)
      refine rn_iconst (1) dX1_isUnder_26 (by decide) ?_
      refine rn_zret dX1_isUnder_27 rfl (by first | decide | exact nar_bI) (Nat.zero_le _) (Nat.zero_le _) ?_
      refine ⟨congrArg (fun z => some (Value.int z)) (bI_t (by decide)).symm, rfl, rfl, rfl, rfl⟩
set_option maxRecDepth 4000 in
theorem ct_ctaken (D : Nat) (hX : ShX Γ rv) {ρ : IV} (hR : RC iv 27 ρ) (hg : GR ρ) (G k : Int32) : Ct g l mX6_taken (D + 2) 0 0 [.ref 14, .int G, .int k] Γ iv rv lv (qPI (takenQ ρ G k) Γ iv rv lv) := by
  refine Ct.of (by decide +kernel) (Nat.le_of_ble_eq_true rfl) (Nat.le_of_ble_eq_true rfl) ?_
  refine r_iload2 dX6_taken_0 ?_
  refine rn_iconst (0) dX6_taken_1 (by decide) ?_
  refine rn_iconst (5) dX6_taken_2 (by decide) ?_
  refine cpiS3 dX6_taken_3 os_X6_within rfl ml_X6_91 (Nat.zero_le _) (Nat.zero_le _) (Nat.zero_le _) (ct_within _ _ _ _) ?_
  refine rn_if_ne 12 dX6_taken_6 rfl (fun c6 => ?_) (fun c6 => ?_)
  · have hq1 := bI_1.mp (bI_or.resolve_left c6)
    refine r_iload1 dX6_taken_12 ?_
    refine cpiS1 dX6_taken_13 os_X6_isGang rfl ml_X6_119 (Nat.zero_le _) (Nat.zero_le _) (Nat.zero_le _) (ct_isGang _ _) ?_
    refine rn_if_ne 22 dX6_taken_16 rfl (fun c16 => ?_) (fun c16 => ?_)
    · have hq2 := g02.mp (bI_1.mp (bI_or.resolve_left c16))
      obtain ⟨⟨ki, ki1, ki2⟩, -⟩ := hg.2.2.2.1 _ (g01 hq2).2
      refine r_aload0 dX6_taken_22 ?_
      refine gf_X6_74 dX6_taken_23 rfl hX.1 hX.2.1.1 ?_
      refine r_iload1 dX6_taken_26 ?_
      refine cprV1 dX6_taken_27 ov_X3_gangOf rfl ml_X6_122 hX.2.1.2.1 rfl (Nat.zero_le _) (Nat.zero_le _) (Nat.zero_le _) (ct_gangOf _ hX.nw (g01 hq2).1 (g01 hq2).2) ?_
      refine r_astore3 dX6_taken_30 rfl ?_
      refine r_aload3 dX6_taken_31 ?_
      refine r_iload2 dX6_taken_32 ?_
      refine cpiV1 dX6_taken_33 ov_X1_isUnder rfl ml_X6_290 (hX.nw.gang (g01 hq2).2).1 rfl (Nat.zero_le _) (Nat.zero_le _) (Nat.zero_le _) (ct_isUnder _ (hX.nw.gang (g01 hq2).2) ((hR.gang 1 (by decide) (by decide) (g01 hq2).2).trans ki2) ki1 hq1) ?_
      refine rn_if_eq 46 dX6_taken_36 rfl (fun c36 => ?_) (fun c36 => ?_)
      · refine rn_bipush (-13) dX6_taken_46 (by decide) ?_
        refine rn_iret dX6_taken_48 rfl (Nat.zero_le _) (Nat.zero_le _) ?_
        refine ⟨congrArg (fun z => some (Value.int z)) ?_, rfl, rfl, rfl, rfl⟩
        unfold takenQ
        rw [if_pos hq1, if_pos hq2, ki2, nI_clamp (by omega), if_neg (bI_0.mp c36)]
      · refine r_aload3 dX6_taken_39 ?_
        refine gf_X6_129 dX6_taken_40 rfl (hX.nw.gang (g01 hq2).2).1 ?_
        refine rn_eqi (ρ (2 + G.toNatClampNeg) 2) (hR.gang 2 (by decide) (by decide) (g01 hq2).2) ?_
        refine rn_goto 48 dX6_taken_43 rfl ?_
        refine rn_iret dX6_taken_48 rfl (Nat.zero_le _) (Nat.zero_le _) ?_
        refine ⟨congrArg (fun z => some (Value.int z)) ?_, rfl, rfl, rfl, rfl⟩
        unfold takenQ
        rw [if_pos hq1, if_pos hq2, ki2, nI_clamp (by omega), if_pos (bI_1.mp (bI_or.resolve_left c36))]
    · refine rn_bipush (-11) dX6_taken_19 (by decide) ?_
      refine rn_iret dX6_taken_21 rfl (Nat.zero_le _) (Nat.zero_le _) ?_
      refine ⟨congrArg (fun z => some (Value.int z)) ?_, rfl, rfl, rfl, rfl⟩
      unfold takenQ
      rw [if_pos hq1, if_neg (fun z => bI_0.mp c16 (g02.mpr z))]
  · refine rn_bipush (-2) dX6_taken_9 (by decide) ?_
    refine rn_iret dX6_taken_11 rfl (Nat.zero_le _) (Nat.zero_le _) ?_
    refine ⟨congrArg (fun z => some (Value.int z)) ?_, rfl, rfl, rfl, rfl⟩
    unfold takenQ
    rw [if_neg (bI_0.mp c6)]
end CSHEET
