/-! THE REFERENCE: sheet, cell -/
abbrev Sr (s a b : Nat) : Prop := ((94 ≤ a ∧ a ≤ 96) ∧ b = s) ∨ (a = 97 ∧ 40 * s ≤ b ∧ b < 40 * s + 40)
abbrev Si (s a b : Nat) : Prop := a = 97 ∧ 40 * s ≤ b ∧ b < 40 * s + 40
abbrev Sc (a _ : Nat) : Prop := 94 ≤ a ∧ a ≤ 97
def RowM (iv η : IV) (s : Nat) : Prop := iv 94 s = (if η s 0 = -1 then 0 else 1) ∧ (¬ η s 0 = -1 → iv 95 s = η s 0) ∧ (¬ η s 0 = -1 → iv 96 s = η s 1 ∧ ∀ i, i < (η s 1).toNatClampNeg → iv 97 (40 * s + i) = η s (2 + i))
theorem GSh.size {η : IV} (h : GSh η) {s : Nat} (hs : s < 4) (hm : ¬ η s 0 = -1) : (η s 1).toNatClampNeg ≤ 40 ∧ η s 1 = nI (η s 1).toNatClampNeg := by
  obtain ⟨-, n, h1, h2⟩ := (h s hs).resolve_left hm
  rw [h2, nI_clamp (by omega)]
  exact ⟨h1, rfl⟩
theorem SheetsM.row {iv iv' η η' : IV} {s : Nat} (h : SheetsM iv η) (hg : GSh η) (ho : Off (Sr s) iv iv') (he : ∀ a b, a ≠ s → η' a b = η a b) (hr : RowM iv' η' s) : SheetsM iv' η' := by
  intro a ha
  by_cases e : a = s
  · subst e; exact hr
  · obtain ⟨h1, h2, h3⟩ := h a ha
    rw [he a 0 e, he a 1 e]
    refine ⟨(ho _ _ (by omega)).trans h1, fun hm => (ho _ _ (by omega)).trans (h2 hm), fun hm => ⟨(ho _ _ (by omega)).trans (h3 hm).1, fun i hi => ?_⟩⟩
    have := (hg.size ha hm).1
    rw [he a _ e]
    exact (ho _ _ (by omega)).trans ((h3 hm).2 i hi)
def shE (η : IV) (s : Nat) (so n : Int32) : IV := fun a b => if a = s then (if b = 0 then so else if b = 1 then n else 0) else η a b
def sheetQ (η : IV) (s so n : Int32) : Int32 × IV := if (0 ≤ s ∧ s ≤ 3) ∧ (-1 ≤ so ∧ so ≤ 2) ∧ ¬ (0 ≤ so ∧ 40 < n) then (if 0 ≤ so ∧ n < 0 then (-14, η) else (1, shE η s.toNatClampNeg so n)) else (-2, η)
def cutS (so v : Int32) : Int32 := if so = 0 then v.toInt8.toInt32 else if so = 1 then v.toInt16.toInt32 else v
def cellQ (η : IV) (s i v : Int32) : Int32 × IV := if 0 ≤ s ∧ s ≤ 3 then (if η s.toNatClampNeg 0 = -1 then (-11, η) else if 0 ≤ i ∧ i < η s.toNatClampNeg 1 then (1, up η s.toNatClampNeg (2 + i.toNatClampNeg) (cutS (η s.toNatClampNeg 0) v)) else (-12, η)) else (-2, η)
theorem ix_iff {i : Int32} {nn : Nat} (h : nn ≤ 40) : (0 ≤ i ∧ i ≤ nI nn - 1) ↔ (0 ≤ i ∧ i < nI nn) := by
  have e := pk_sub_toInt (a := nn) (b := 1) (by omega) (by omega)
  have e2 := nI_toInt (n := nn) (by omega)
  rw [show nI 1 = (1 : Int32) by decide] at e
  simp only [Int32.le_iff_toInt_le, Int32.lt_iff_toInt_lt, e, e2]
  constructor <;> intro z <;> exact ⟨z.1, by omega⟩
theorem so_m1 {so : Int32} (h : -1 ≤ so) (h2 : so < 0) : so = -1 := by
  simp only [Int32.le_iff_toInt_le, Int32.lt_iff_toInt_lt, Int32.reduceToInt, ← Int32.toInt_inj] at *; omega
theorem so_p {so : Int32} (h2 : ¬ so < 0) : ¬ so = -1 ∧ 0 ≤ so := by
  simp only [Int32.le_iff_toInt_le, Int32.lt_iff_toInt_lt, Int32.reduceToInt, ← Int32.toInt_inj] at *; omega
theorem n40 {n : Int32} (h0 : ¬ n < 0) (h1 : n ≤ 40) : n = nI n.toNatClampNeg ∧ n.toNatClampNeg ≤ 40 := nB 40 (by decide) ⟨Int32.not_lt.mp h0, h1⟩
theorem there_0 {η : IV} {s : Nat} {x : Int32} (h : x = (if η s 0 = -1 then 0 else 1)) (hx : x = 0) : η s 0 = -1 := Decidable.of_not_not (fun z => by rw [if_neg z, hx] at h; exact absurd h (by decide))
theorem there_1 {η : IV} {s : Nat} {x : Int32} (h : x = (if η s 0 = -1 then 0 else 1)) (hx : ¬ x = 0) : ¬ η s 0 = -1 := fun z => hx (by rw [h, if_pos z])
section MSHEET
variable {g : GS} {l : Launch} {Γ : Sh} {iv : IV} {rv : RV} {lv : LV}
set_option maxRecDepth 4000 in
theorem she_loop {D : Nat} {Q : Qt} (hM : ShM Γ rv) {s so nn : Int32} {sn N : Nat} (hs : s = nI sn) (hs4 : sn < 4) (hso : ¬ so < 0) (hN : nn = nI N) (hN40 : N ≤ 40) {iv0 : IV} : ∀ (n i : Nat) (iv : IV) (x : Int32), i + n = N → x = nI i → (∀ j, j < i → iv 97 (40 * sn + j) = 0) → Off (Si sn) iv0 iv → (∀ (iv : IV) (x : Int32), x = nI N → (∀ j, j < N → iv 97 (40 * sn + j) = 0) → Off (Si sn) iv0 iv → Rn g l mX7_sheet (rmA (D) 0 0) Q 0 0 106 [.ref 75, .int s, .int so, .int nn, .int x] [] Γ iv rv lv) → Rn g l mX7_sheet (rmA (D) 0 0) Q 0 0 77 [.ref 75, .int s, .int so, .int nn, .int x] [] Γ iv rv lv := by
  intro n
  induction n with
  | zero =>
    intro i iv x hn hx hz ho kk
    obtain rfl : i = N := by omega
    refine r_iload4 dX7_sheet_77 ?_
    refine r_iload3 dX7_sheet_79 ?_
    refine rn_icmp_ge 106 dX7_sheet_80 rfl (fun _ => ?_) (fun h => absurd (by rw [hx, hN]; exact nI_le (Nat.le_refl _) (by omega)) h)
    exact kk _ _ hx hz ho
  | succ n ih =>
    intro i iv x hn hx hz ho kk
    have hil : i < N := by omega
    skip
    refine r_iload4 dX7_sheet_77 ?_
    refine r_iload3 dX7_sheet_79 ?_
    refine rn_icmp_ge 106 dX7_sheet_80 rfl (fun h => absurd h (fun z => by rw [hx, hN, nI_leI (by omega) (by omega)] at z; omega)) (fun _ => ?_)
    refine r_iload2 dX7_sheet_83 ?_
    refine rn_if_lt 106 dX7_sheet_84 rfl (fun h => absurd h hso) (fun _ => ?_)
    refine r_aload0 dX7_sheet_87 ?_
    refine gf_X7_84 dX7_sheet_88 rfl hM.1 (sm_items hM).1 ?_
    refine rn_bipush (40) dX7_sheet_91 (by decide) ?_
    refine r_iload1 dX7_sheet_93 ?_
    refine rn_imul dX7_sheet_94 ?_
    refine r_iload4 dX7_sheet_95 ?_
    refine rn_iadd dX7_sheet_97 ?_
    refine rn_iconst (0) dX7_sheet_98 (by decide) ?_
    refine rn_iast (40 * sn + i) dX7_sheet_99 (sm_items hM).2 (by rw [hs, hx, show (40 : Int32) = nI 40 by decide, pk_mul, nI_add]) (by omega) (by decide) ?_
    refine r_iinc4 _ dX7_sheet_100 rfl rfl ?_
    refine rn_goto 77 dX7_sheet_103 rfl ?_
    refine ih (i + 1) _ _ (by omega) (by rw [hx]; exact nI_1 i) (fun j hj => ?_) (ho.trans (off_up (by omega))) kk
    by_cases e : j = i
    · subst e; rw [up_same]
    · rw [up_ne2 (by omega)]; exact hz j (by omega)
set_option maxRecDepth 4000 in
theorem ct_msheet (D : Nat) (hM : ShM Γ rv) {η : IV} (hS : SheetsM iv η) (hgs : GSh η) (s so n : Int32) : Ct g l mX7_sheet (D + 2) 0 0 [.ref 75, .int s, .int so, .int n] Γ iv rv lv (qCI Γ rv lv (fun x iv' => x = (sheetQ η s so n).1 ∧ SheetsM iv' (sheetQ η s so n).2 ∧ Off Sc iv iv')) := by
  refine Ct.of (by decide +kernel) (Nat.le_of_ble_eq_true rfl) (Nat.le_of_ble_eq_true rfl) ?_
  refine r_iload1 dX7_sheet_0 ?_
  refine cpiS1 dX7_sheet_1 os_X7_isSheet rfl ml_X7_326 (Nat.zero_le _) (Nat.zero_le _) (Nat.zero_le _) (ct_misSheet _ _) ?_
  refine rn_if_eq 31 dX7_sheet_4 rfl (fun c4 => ?_) (fun c4 => ?_)
  · refine rn_bipush (-2) dX7_sheet_31 (by decide) ?_
    refine rn_iret dX7_sheet_33 rfl (Nat.zero_le _) (Nat.zero_le _) ?_
    have e : sheetQ η s so n = (-2, η) := by unfold sheetQ; rw [if_neg (fun z => bI_0.mp c4 z.1)]
    exact ⟨_, rfl, rfl, rfl, rfl, by rw [e], by rw [e]; exact hS, Off.refl⟩
  · refine r_iload2 dX7_sheet_7 ?_
    refine rn_i2l dX7_sheet_8 ?_
    refine rn_ldc2 (v := _) dX7_sheet_9 cl_X7_365 ?_
    refine rn_ldc2 (v := _) dX7_sheet_12 cl_X7_322 ?_
    refine cpiS3 dX7_sheet_15 os_X7_in rfl ml_X7_96 (Nat.zero_le _) (Nat.zero_le _) (Nat.zero_le _) (ct_inI _ (a := -1) (b := 2) (by decide) (by decide)) ?_
    refine rn_if_eq 31 dX7_sheet_18 rfl (fun c18 => ?_) (fun c18 => ?_)
    · refine rn_bipush (-2) dX7_sheet_31 (by decide) ?_
      refine rn_iret dX7_sheet_33 rfl (Nat.zero_le _) (Nat.zero_le _) ?_
      have e : sheetQ η s so n = (-2, η) := by unfold sheetQ; rw [if_neg (fun z => bI_0.mp c18 z.2.1)]
      exact ⟨_, rfl, rfl, rfl, rfl, by rw [e], by rw [e]; exact hS, Off.refl⟩
    · refine r_iload2 dX7_sheet_21 ?_
      refine rn_if_lt 34 dX7_sheet_22 rfl (fun c22 => ?_) (fun c22 => ?_)
      · have hq1 := bI_1.mp (bI_or.resolve_left c4)
        have hq2 := bI_1.mp (bI_or.resolve_left c18)
        have hs4 : s.toNatClampNeg < 4 := nB_lt 3 (by decide) hq1 (by decide)
        refine r_iload2 dX7_sheet_34 ?_
        refine rn_if_lt 45 dX7_sheet_35 rfl (fun _ => ?_) (fun h => absurd c22 h)
        refine r_aload0 dX7_sheet_45 ?_
        refine gf_X7_74 dX7_sheet_46 rfl hM.1 (sm_isThere hM).1 ?_
        refine r_iload1 dX7_sheet_49 ?_
        refine r_iload2 dX7_sheet_50 ?_
        refine rn_if_lt 58 dX7_sheet_51 rfl (fun _ => ?_) (fun h => absurd c22 h)
        refine rn_iconst (0) dX7_sheet_58 (by decide) ?_
        refine rn_zast s.toNatClampNeg dX7_sheet_59 (sm_isThere hM).2 (nB 3 (by decide) hq1).1 hs4 (by decide) rfl ?_
        refine r_aload0 dX7_sheet_60 ?_
        refine gf_X7_78 dX7_sheet_61 rfl hM.1 (sm_sorts hM).1 ?_
        refine r_iload1 dX7_sheet_64 ?_
        refine r_iload2 dX7_sheet_65 ?_
        refine rn_iast s.toNatClampNeg dX7_sheet_66 (sm_sorts hM).2 (nB 3 (by decide) hq1).1 hs4 (by decide) ?_
        refine r_aload0 dX7_sheet_67 ?_
        refine gf_X7_81 dX7_sheet_68 rfl hM.1 (sm_sheetSize hM).1 ?_
        refine r_iload1 dX7_sheet_71 ?_
        refine r_iload3 dX7_sheet_72 ?_
        refine rn_iast s.toNatClampNeg dX7_sheet_73 (sm_sheetSize hM).2 (nB 3 (by decide) hq1).1 hs4 (by decide) ?_
        refine rn_iconst (0) dX7_sheet_74 (by decide) ?_
        refine r_istore4 dX7_sheet_75 rfl ?_
        refine r_iload4 dX7_sheet_77 ?_
        refine r_iload3 dX7_sheet_79 ?_
        refine rn_icmp_ge 106 dX7_sheet_80 rfl (fun c80 => ?_) (fun c80 => ?_)
        · refine rn_iconst (1) dX7_sheet_106 (by decide) ?_
          refine rn_iret dX7_sheet_107 rfl (Nat.zero_le _) (Nat.zero_le _) ?_
          have e : sheetQ η s so n = (1, shE η s.toNatClampNeg so n) := by unfold sheetQ; rw [if_pos ⟨hq1, hq2, fun z => absurd z.1 (Int32.not_le.mpr c22)⟩, if_neg (fun z => absurd z.1 (Int32.not_le.mpr c22))]
          have ho : Off (Sr s.toNatClampNeg) iv (up (up (up iv 94 s.toNatClampNeg 0) 95 s.toNatClampNeg so) 96 s.toNatClampNeg n) := ((off_up (by omega)).trans (off_up (by omega))).trans (off_up (by omega))
          refine ⟨_, rfl, rfl, rfl, rfl, by rw [e], ?_, (ho).mono (fun a b z => by omega)⟩
          rw [e]
          refine SheetsM.row (η' := shE η s.toNatClampNeg so n) hS hgs ho (fun a b z => if_neg z) ⟨?_, ?_, ?_⟩
          · rw [up_ne1 (by decide), up_ne1 (by decide), up_same, show shE η s.toNatClampNeg so n s.toNatClampNeg 0 = so from by unfold shE; rw [if_pos rfl, if_pos rfl], if_pos (so_m1 hq2.1 c22)]
          · intro z; exact absurd (by unfold shE; rw [if_pos rfl, if_pos rfl]; exact so_m1 hq2.1 c22) z
          · intro z; exact absurd (by unfold shE; rw [if_pos rfl, if_pos rfl]; exact so_m1 hq2.1 c22) z
        · refine r_iload2 dX7_sheet_83 ?_
          refine rn_if_lt 106 dX7_sheet_84 rfl (fun _ => ?_) (fun h => absurd c22 h)
          refine rn_iconst (1) dX7_sheet_106 (by decide) ?_
          refine rn_iret dX7_sheet_107 rfl (Nat.zero_le _) (Nat.zero_le _) ?_
          have e : sheetQ η s so n = (1, shE η s.toNatClampNeg so n) := by unfold sheetQ; rw [if_pos ⟨hq1, hq2, fun z => absurd z.1 (Int32.not_le.mpr c22)⟩, if_neg (fun z => absurd z.1 (Int32.not_le.mpr c22))]
          have ho : Off (Sr s.toNatClampNeg) iv (up (up (up iv 94 s.toNatClampNeg 0) 95 s.toNatClampNeg so) 96 s.toNatClampNeg n) := ((off_up (by omega)).trans (off_up (by omega))).trans (off_up (by omega))
          refine ⟨_, rfl, rfl, rfl, rfl, by rw [e], ?_, (ho).mono (fun a b z => by omega)⟩
          rw [e]
          refine SheetsM.row (η' := shE η s.toNatClampNeg so n) hS hgs ho (fun a b z => if_neg z) ⟨?_, ?_, ?_⟩
          · rw [up_ne1 (by decide), up_ne1 (by decide), up_same, show shE η s.toNatClampNeg so n s.toNatClampNeg 0 = so from by unfold shE; rw [if_pos rfl, if_pos rfl], if_pos (so_m1 hq2.1 c22)]
          · intro z; exact absurd (by unfold shE; rw [if_pos rfl, if_pos rfl]; exact so_m1 hq2.1 c22) z
          · intro z; exact absurd (by unfold shE; rw [if_pos rfl, if_pos rfl]; exact so_m1 hq2.1 c22) z
      · refine r_iload3 dX7_sheet_25 ?_
        refine rn_bipush (40) dX7_sheet_26 (by decide) ?_
        refine rn_icmp_le 34 dX7_sheet_28 rfl (fun c28 => ?_) (fun c28 => ?_)
        · have hq1 := bI_1.mp (bI_or.resolve_left c4)
          have hq2 := bI_1.mp (bI_or.resolve_left c18)
          have hs4 : s.toNatClampNeg < 4 := nB_lt 3 (by decide) hq1 (by decide)
          refine r_iload2 dX7_sheet_34 ?_
          refine rn_if_lt 45 dX7_sheet_35 rfl (fun h => absurd h c22) (fun _ => ?_)
          refine r_iload3 dX7_sheet_38 ?_
          refine rn_if_ge 45 dX7_sheet_39 rfl (fun c39 => ?_) (fun c39 => ?_)
          · have c39n : ¬ n < 0 := Int32.not_lt.mpr c39
            refine r_aload0 dX7_sheet_45 ?_
            refine gf_X7_74 dX7_sheet_46 rfl hM.1 (sm_isThere hM).1 ?_
            refine r_iload1 dX7_sheet_49 ?_
            refine r_iload2 dX7_sheet_50 ?_
            refine rn_if_lt 58 dX7_sheet_51 rfl (fun h => absurd h c22) (fun _ => ?_)
            refine rn_iconst (1) dX7_sheet_54 (by decide) ?_
            refine rn_goto 59 dX7_sheet_55 rfl ?_
            refine rn_zast s.toNatClampNeg dX7_sheet_59 (sm_isThere hM).2 (nB 3 (by decide) hq1).1 hs4 (by decide) rfl ?_
            refine r_aload0 dX7_sheet_60 ?_
            refine gf_X7_78 dX7_sheet_61 rfl hM.1 (sm_sorts hM).1 ?_
            refine r_iload1 dX7_sheet_64 ?_
            refine r_iload2 dX7_sheet_65 ?_
            refine rn_iast s.toNatClampNeg dX7_sheet_66 (sm_sorts hM).2 (nB 3 (by decide) hq1).1 hs4 (by decide) ?_
            refine r_aload0 dX7_sheet_67 ?_
            refine gf_X7_81 dX7_sheet_68 rfl hM.1 (sm_sheetSize hM).1 ?_
            refine r_iload1 dX7_sheet_71 ?_
            refine r_iload3 dX7_sheet_72 ?_
            refine rn_iast s.toNatClampNeg dX7_sheet_73 (sm_sheetSize hM).2 (nB 3 (by decide) hq1).1 hs4 (by decide) ?_
            refine rn_iconst (0) dX7_sheet_74 (by decide) ?_
            refine r_istore4 dX7_sheet_75 rfl ?_
            refine she_loop (iv0 := (up (up (up iv 94 s.toNatClampNeg 1) 95 s.toNatClampNeg so) 96 s.toNatClampNeg n)) hM (nB 3 (by decide) hq1).1 hs4 c22 (n40 c39n c28).1 (n40 c39n c28).2 _ 0 _ _ (Nat.zero_add _) rfl (fun j hj => absurd hj (Nat.not_lt_zero _)) Off.refl (fun iv2 x hx hz ho2 => ?_)
            refine rn_iconst (1) dX7_sheet_106 (by decide) ?_
            refine rn_iret dX7_sheet_107 rfl (Nat.zero_le _) (Nat.zero_le _) ?_
            have ho : Off (Sr s.toNatClampNeg) iv iv2 := (((off_up (by omega)).trans (off_up (by omega))).trans (off_up (by omega))).trans (ho2.mono (fun a b z => Or.inr z))
            have e : sheetQ η s so n = (1, shE η s.toNatClampNeg so n) := by unfold sheetQ; rw [if_pos ⟨hq1, hq2, fun z => absurd z.2 (Int32.not_lt.mpr c28)⟩, if_neg (fun z => absurd z.2 c39n)]
            refine ⟨_, rfl, rfl, rfl, rfl, by rw [e], ?_, (ho).mono (fun a b z => by omega)⟩
            rw [e]
            refine SheetsM.row (η' := shE η s.toNatClampNeg so n) hS hgs ho (fun a b z => if_neg z) ⟨?_, ?_, ?_⟩
            · rw [ho2 94 _ (by omega), up_ne1 (by decide), up_ne1 (by decide), up_same, show shE η s.toNatClampNeg so n s.toNatClampNeg 0 = so from by unfold shE; rw [if_pos rfl, if_pos rfl], if_neg (so_p c22).1]
            · intro _; rw [ho2 95 _ (by omega), up_ne1 (by decide), up_same]; unfold shE; rw [if_pos rfl, if_pos rfl]
            · intro _
              have e1 : shE η s.toNatClampNeg so n s.toNatClampNeg 1 = n := by unfold shE; rw [if_pos rfl, if_neg (by decide), if_pos rfl]
              rw [e1]
              refine ⟨(ho2 96 _ (by omega)).trans (up_same _ _ _ _), fun i hi => ?_⟩
              rw [hz i hi]; unfold shE; rw [if_pos rfl, if_neg (by omega), if_neg (by omega)]
          · refine rn_bipush (-14) dX7_sheet_42 (by decide) ?_
            refine rn_iret dX7_sheet_44 rfl (Nat.zero_le _) (Nat.zero_le _) ?_
            have e : sheetQ η s so n = (-14, η) := by unfold sheetQ; rw [if_pos ⟨hq1, hq2, fun z => absurd z.2 (Int32.not_lt.mpr c28)⟩, if_pos ⟨(so_p c22).2, Int32.not_le.mp c39⟩]
            exact ⟨_, rfl, rfl, rfl, rfl, by rw [e], by rw [e]; exact hS, Off.refl⟩
        · refine rn_bipush (-2) dX7_sheet_31 (by decide) ?_
          refine rn_iret dX7_sheet_33 rfl (Nat.zero_le _) (Nat.zero_le _) ?_
          have e : sheetQ η s so n = (-2, η) := by unfold sheetQ; rw [if_neg (fun z => z.2.2 ⟨(so_p c22).2, Int32.not_le.mp c28⟩)]
          exact ⟨_, rfl, rfl, rfl, rfl, by rw [e], by rw [e]; exact hS, Off.refl⟩
set_option maxRecDepth 4000 in
theorem ct_mcell (D : Nat) (hM : ShM Γ rv) {η : IV} (hS : SheetsM iv η) (hgs : GSh η) (s i v : Int32) : Ct g l mX7_cell (D + 2) 0 0 [.ref 75, .int s, .int i, .int v] Γ iv rv lv (qCI Γ rv lv (fun x iv' => x = (cellQ η s i v).1 ∧ SheetsM iv' (cellQ η s i v).2 ∧ Off Sc iv iv')) := by
  refine Ct.of (by decide +kernel) (Nat.le_of_ble_eq_true rfl) (Nat.le_of_ble_eq_true rfl) ?_
  refine r_iload1 dX7_cell_0 ?_
  refine cpiS1 dX7_cell_1 os_X7_isSheet rfl ml_X7_326 (Nat.zero_le _) (Nat.zero_le _) (Nat.zero_le _) (ct_misSheet _ _) ?_
  refine rn_if_ne 10 dX7_cell_4 rfl (fun c4 => ?_) (fun c4 => ?_)
  · have hq1 := bI_1.mp (bI_or.resolve_left c4)
    have hs4 : s.toNatClampNeg < 4 := nB_lt 3 (by decide) hq1 (by decide)
    refine r_aload0 dX7_cell_10 ?_
    refine gf_X7_74 dX7_cell_11 rfl hM.1 (sm_isThere hM).1 ?_
    refine r_iload1 dX7_cell_14 ?_
    refine rn_zald s.toNatClampNeg dX7_cell_15 (sm_isThere hM).2 (nB 3 (by decide) hq1).1 hs4 (by decide) ?_
    refine rn_eqi _ (hS _ hs4).1 ?_
    refine rn_if_ne 22 dX7_cell_16 rfl (fun c16 => ?_) (fun c16 => ?_)
    · have hm := there_1 rfl c16
      have hsz := hgs.size hs4 hm
      refine r_iload2 dX7_cell_22 ?_
      refine rn_i2l dX7_cell_23 ?_
      refine rn_lconst (0) dX7_cell_24 (by decide) ?_
      refine r_aload0 dX7_cell_25 ?_
      refine gf_X7_81 dX7_cell_26 rfl hM.1 (sm_sheetSize hM).1 ?_
      refine r_iload1 dX7_cell_29 ?_
      refine rn_iald s.toNatClampNeg dX7_cell_30 (sm_sheetSize hM).2 (nB 3 (by decide) hq1).1 hs4 (by decide) ?_
      refine rn_eqi (nI (η s.toNatClampNeg 1).toNatClampNeg) (((hS _ hs4).2.2 hm).1.trans hsz.2) ?_
      refine rn_iconst (1) dX7_cell_31 (by decide) ?_
      refine rn_isub dX7_cell_32 ?_
      refine rn_i2l dX7_cell_33 ?_
      refine cpiS3 dX7_cell_34 os_X7_in rfl ml_X7_96 (Nat.zero_le _) (Nat.zero_le _) (Nat.zero_le _) (ct_inI _ (a := 0)  (by decide) rfl) ?_
      refine rn_if_ne 43 dX7_cell_37 rfl (fun c37 => ?_) (fun c37 => ?_)
      · have hq2 : 0 ≤ i ∧ i < η s.toNatClampNeg 1 := by rw [hsz.2, ← ix_iff hsz.1]; exact bI_1.mp (bI_or.resolve_left c37)
        have hi := nI_of (Int32.not_lt.mpr hq2.1)
        obtain ⟨ii, hi1, hi2⟩ := hi
        have hin : i.toNatClampNeg = ii := by rw [hi2]; exact nI_clamp hi1
        have hil : i.toNatClampNeg < (η s.toNatClampNeg 1).toNatClampNeg := by
          have z := hq2.2
          rw [hsz.2, hi2, nI_ltI hi1 (by omega)] at z; omega
        have hsN := (nB 3 (by decide) hq1).1
        refine r_aload0 dX7_cell_43 ?_
        refine gf_X7_84 dX7_cell_44 rfl hM.1 (sm_items hM).1 ?_
        refine rn_bipush (40) dX7_cell_47 (by decide) ?_
        refine r_iload1 dX7_cell_49 ?_
        refine rn_imul dX7_cell_50 ?_
        refine r_iload2 dX7_cell_51 ?_
        refine rn_iadd dX7_cell_52 ?_
        refine rn_eqi (nI (40 * s.toNatClampNeg + i.toNatClampNeg)) (by rw [hin, ← nI_add, ← hi2, ← pk_mul, ← hsN]; rfl) ?_
        refine r_aload0 dX7_cell_53 ?_
        refine gf_X7_78 dX7_cell_54 rfl hM.1 (sm_sorts hM).1 ?_
        refine r_iload1 dX7_cell_57 ?_
        refine rn_iald s.toNatClampNeg dX7_cell_58 (sm_sorts hM).2 (nB 3 (by decide) hq1).1 hs4 (by decide) ?_
        refine rn_eqi _ ((hS _ hs4).2.1 hm) ?_
        refine rn_if_ne 67 dX7_cell_59 rfl (fun c59 => ?_) (fun c59 => ?_)
        · refine r_aload0 dX7_cell_67 ?_
          refine gf_X7_78 dX7_cell_68 rfl hM.1 (sm_sorts hM).1 ?_
          refine r_iload1 dX7_cell_71 ?_
          refine rn_iald s.toNatClampNeg dX7_cell_72 (sm_sorts hM).2 (nB 3 (by decide) hq1).1 hs4 (by decide) ?_
          refine rn_eqi _ ((hS _ hs4).2.1 hm) ?_
          refine rn_iconst (1) dX7_cell_73 (by decide) ?_
          refine rn_icmp_ne 82 dX7_cell_74 rfl (fun c74 => ?_) (fun c74 => ?_)
          · refine r_iload3 dX7_cell_82 ?_
            refine rn_iast (40 * s.toNatClampNeg + i.toNatClampNeg) dX7_cell_83 (sm_items hM).2 rfl (by omega) (by decide) ?_
            refine rn_iconst (1) dX7_cell_84 (by decide) ?_
            refine rn_iret dX7_cell_85 rfl (Nat.zero_le _) (Nat.zero_le _) ?_
            have e : cellQ η s i v = (1, up η s.toNatClampNeg (2 + i.toNatClampNeg) (cutS (η s.toNatClampNeg 0) v)) := by unfold cellQ; rw [if_pos hq1, if_neg hm, if_pos hq2]
            have hc : cutS (η s.toNatClampNeg 0) v = v := by unfold cutS; rw [if_neg c59, if_neg c74]
            refine ⟨_, rfl, rfl, rfl, rfl, by rw [e], ?_, off_up (by omega)⟩
            rw [e]
            have e0 : up η s.toNatClampNeg (2 + i.toNatClampNeg) (cutS (η s.toNatClampNeg 0) v) s.toNatClampNeg 0 = η s.toNatClampNeg 0 := up_ne2 (by omega)
            have e1 : up η s.toNatClampNeg (2 + i.toNatClampNeg) (cutS (η s.toNatClampNeg 0) v) s.toNatClampNeg 1 = η s.toNatClampNeg 1 := up_ne2 (by omega)
            refine SheetsM.row (η' := up η s.toNatClampNeg (2 + i.toNatClampNeg) (cutS (η s.toNatClampNeg 0) v)) hS hgs (s := s.toNatClampNeg) (off_up (Or.inr ⟨rfl, by omega, by omega⟩)) (fun a b z => up_ne1 z) ⟨?_, ?_, ?_⟩
            · rw [e0]; exact (up_ne1 (by decide)).trans (hS _ hs4).1
            · intro _; rw [e0]; exact (up_ne1 (by decide)).trans ((hS _ hs4).2.1 hm)
            · intro _
              rw [e1]
              refine ⟨(up_ne1 (by decide)).trans ((hS _ hs4).2.2 hm).1, fun k hk => ?_⟩
              by_cases ek : k = i.toNatClampNeg
              · subst ek; rw [up_same, up_same]; exact hc.symm
              · rw [up_ne2 (by omega), up_ne2 (by omega)]; exact ((hS _ hs4).2.2 hm).2 k hk
          · refine r_iload3 dX7_cell_77 ?_
            refine rn_i2s dX7_cell_78 ?_
            refine rn_goto 83 dX7_cell_79 rfl ?_
            refine rn_iast (40 * s.toNatClampNeg + i.toNatClampNeg) dX7_cell_83 (sm_items hM).2 rfl (by omega) (by decide) ?_
            refine rn_iconst (1) dX7_cell_84 (by decide) ?_
            refine rn_iret dX7_cell_85 rfl (Nat.zero_le _) (Nat.zero_le _) ?_
            have e : cellQ η s i v = (1, up η s.toNatClampNeg (2 + i.toNatClampNeg) (cutS (η s.toNatClampNeg 0) v)) := by unfold cellQ; rw [if_pos hq1, if_neg hm, if_pos hq2]
            have hc : cutS (η s.toNatClampNeg 0) v = v.toInt16.toInt32 := by unfold cutS; rw [if_neg c59, if_pos c74]
            refine ⟨_, rfl, rfl, rfl, rfl, by rw [e], ?_, off_up (by omega)⟩
            rw [e]
            have e0 : up η s.toNatClampNeg (2 + i.toNatClampNeg) (cutS (η s.toNatClampNeg 0) v) s.toNatClampNeg 0 = η s.toNatClampNeg 0 := up_ne2 (by omega)
            have e1 : up η s.toNatClampNeg (2 + i.toNatClampNeg) (cutS (η s.toNatClampNeg 0) v) s.toNatClampNeg 1 = η s.toNatClampNeg 1 := up_ne2 (by omega)
            refine SheetsM.row (η' := up η s.toNatClampNeg (2 + i.toNatClampNeg) (cutS (η s.toNatClampNeg 0) v)) hS hgs (s := s.toNatClampNeg) (off_up (Or.inr ⟨rfl, by omega, by omega⟩)) (fun a b z => up_ne1 z) ⟨?_, ?_, ?_⟩
            · rw [e0]; exact (up_ne1 (by decide)).trans (hS _ hs4).1
            · intro _; rw [e0]; exact (up_ne1 (by decide)).trans ((hS _ hs4).2.1 hm)
            · intro _
              rw [e1]
              refine ⟨(up_ne1 (by decide)).trans ((hS _ hs4).2.2 hm).1, fun k hk => ?_⟩
              by_cases ek : k = i.toNatClampNeg
              · subst ek; rw [up_same, up_same]; exact hc.symm
              · rw [up_ne2 (by omega), up_ne2 (by omega)]; exact ((hS _ hs4).2.2 hm).2 k hk
        · refine r_iload3 dX7_cell_62 ?_
          refine rn_i2b dX7_cell_63 ?_
          refine rn_goto 83 dX7_cell_64 rfl ?_
          refine rn_iast (40 * s.toNatClampNeg + i.toNatClampNeg) dX7_cell_83 (sm_items hM).2 rfl (by omega) (by decide) ?_
          refine rn_iconst (1) dX7_cell_84 (by decide) ?_
          refine rn_iret dX7_cell_85 rfl (Nat.zero_le _) (Nat.zero_le _) ?_
          have e : cellQ η s i v = (1, up η s.toNatClampNeg (2 + i.toNatClampNeg) (cutS (η s.toNatClampNeg 0) v)) := by unfold cellQ; rw [if_pos hq1, if_neg hm, if_pos hq2]
          have hc : cutS (η s.toNatClampNeg 0) v = v.toInt8.toInt32 := by unfold cutS; rw [if_pos c59]
          refine ⟨_, rfl, rfl, rfl, rfl, by rw [e], ?_, off_up (by omega)⟩
          rw [e]
          have e0 : up η s.toNatClampNeg (2 + i.toNatClampNeg) (cutS (η s.toNatClampNeg 0) v) s.toNatClampNeg 0 = η s.toNatClampNeg 0 := up_ne2 (by omega)
          have e1 : up η s.toNatClampNeg (2 + i.toNatClampNeg) (cutS (η s.toNatClampNeg 0) v) s.toNatClampNeg 1 = η s.toNatClampNeg 1 := up_ne2 (by omega)
          refine SheetsM.row (η' := up η s.toNatClampNeg (2 + i.toNatClampNeg) (cutS (η s.toNatClampNeg 0) v)) hS hgs (s := s.toNatClampNeg) (off_up (Or.inr ⟨rfl, by omega, by omega⟩)) (fun a b z => up_ne1 z) ⟨?_, ?_, ?_⟩
          · rw [e0]; exact (up_ne1 (by decide)).trans (hS _ hs4).1
          · intro _; rw [e0]; exact (up_ne1 (by decide)).trans ((hS _ hs4).2.1 hm)
          · intro _
            rw [e1]
            refine ⟨(up_ne1 (by decide)).trans ((hS _ hs4).2.2 hm).1, fun k hk => ?_⟩
            by_cases ek : k = i.toNatClampNeg
            · subst ek; rw [up_same, up_same]; exact hc.symm
            · rw [up_ne2 (by omega), up_ne2 (by omega)]; exact ((hS _ hs4).2.2 hm).2 k hk
      · refine rn_bipush (-12) dX7_cell_40 (by decide) ?_
        refine rn_iret dX7_cell_42 rfl (Nat.zero_le _) (Nat.zero_le _) ?_
        have e : cellQ η s i v = (-12, η) := by unfold cellQ; rw [if_pos hq1, if_neg hm, if_neg (fun z => bI_0.mp c37 (by rw [hsz.2, ← ix_iff hsz.1] at z; exact z))]
        exact ⟨_, rfl, rfl, rfl, rfl, by rw [e], by rw [e]; exact hS, Off.refl⟩
    · have hm := there_0 rfl c16
      refine rn_bipush (-11) dX7_cell_19 (by decide) ?_
      refine rn_iret dX7_cell_21 rfl (Nat.zero_le _) (Nat.zero_le _) ?_
      have e : cellQ η s i v = (-11, η) := by unfold cellQ; rw [if_pos hq1, if_pos hm]
      exact ⟨_, rfl, rfl, rfl, rfl, by rw [e], by rw [e]; exact hS, Off.refl⟩
  · refine rn_bipush (-2) dX7_cell_7 (by decide) ?_
    refine rn_iret dX7_cell_9 rfl (Nat.zero_le _) (Nat.zero_le _) ?_
    have e : cellQ η s i v = (-2, η) := by unfold cellQ; rw [if_neg (bI_0.mp c4)]
    exact ⟨_, rfl, rfl, rfl, rfl, by rw [e], by rw [e]; exact hS, Off.refl⟩
end MSHEET
