/-! THE REFERENCE: bore, well, slowed -/
def brN : Nat → Nat → IV → Int32 → Int32 × IV
  | 0, _, ρ, c => (c, ρ)
  | m + 1, y, ρ, c => brN m (y + 1) (up ρ 1 y 1) (c + (1 - ρ 1 y))
theorem brN_s {m y : Nat} {ρ : IV} {c : Int32} : brN (m + 1) y ρ c = brN m (y + 1) (up ρ 1 y 1) (c + (1 - ρ 1 y)) := by rw [brN]
def boreQ (ρ : IV) (k n : Int32) : Int32 × IV := if (0 ≤ k ∧ k ≤ 23) ∧ (1 ≤ n ∧ n ≤ 24) ∧ k + n ≤ 24 then brN n.toNatClampNeg k.toNatClampNeg ρ 0 else (-2, ρ)
theorem n24 {n : Int32} (h : 1 ≤ n ∧ n ≤ 24) : n = nI n.toNatClampNeg ∧ n.toNatClampNeg ≤ 24 ∧ 1 ≤ n.toNatClampNeg := by
  obtain ⟨h0, h1⟩ := h
  have e : n.toNatClampNeg = n.toInt.toNat := rfl
  simp only [Int32.le_iff_toInt_le, Int32.reduceToInt] at h0 h1
  refine ⟨?_, by omega, by omega⟩
  rw [← Int32.toInt_inj, nI_toInt (by omega), e]; omega
theorem bore_E {k n : Int32} (h1 : 0 ≤ k ∧ k ≤ 23) (h2 : 1 ≤ n ∧ n ≤ 24) (h3 : k + n ≤ 24) : k + n = nI (k.toNatClampNeg + n.toNatClampNeg) ∧ k.toNatClampNeg + n.toNatClampNeg ≤ 24 := by
  have a := nB 23 (by decide) h1
  have b := n24 h2
  have e : k + n = nI (k.toNatClampNeg + n.toNatClampNeg) := by rw [← nI_add, ← a.1, ← b.1]
  refine ⟨e, ?_⟩
  rw [e, show (24 : Int32) = nI 24 by decide, nI_leI (by omega) (by decide)] at h3
  exact h3
def wyS (ρ : IV) (γ k : Nat) : Nat := if γ = 0 then uO ρ + k else 23 - vO ρ - k
def wlS (ρ : IV) (γ : Nat) : Nat → Nat → Int32
  | 0, _ => -1
  | m + 1, k => if 2 ≤ ρ 0 (wyS ρ γ k) then nI k else wlS ρ γ m (k + 1)
def wellQ (ρ : IV) (G : Int32) : Int32 := if 0 ≤ G ∧ G ≤ 1 then wlS ρ G.toNatClampNeg (24 - uO ρ - vO ρ) 0 else -2
/-- sheets: row s: 0 sort (-1: missing), 1 size, 2 + i its items -/
def SheetsM (iv η : IV) : Prop := ∀ s, s < 4 → iv 94 s = (if η s 0 = -1 then 0 else 1) ∧ (¬ η s 0 = -1 → iv 95 s = η s 0) ∧ (¬ η s 0 = -1 → iv 96 s = η s 1 ∧ ∀ i, i < (η s 1).toNatClampNeg → iv 97 (40 * s + i) = η s (2 + i))
def GSh (η : IV) : Prop := ∀ s, s < 4 → η s 0 = -1 ∨ ((∃ k, k ≤ 2 ∧ η s 0 = nI k) ∧ ∃ n, n ≤ 40 ∧ η s 1 = nI n)
def goS (S : Nat → Nat → List Int32) (γ : Nat) (it : Nat → Int32) : Nat → Nat → IV → Int32
  | 0, _, _ => 1
  | m + 1, k, ρ => if passS S ρ (-1) (2 + γ) 4 = it k then goS S γ it m (k + 1) (passS S ρ (-1)) else 0
theorem go01 {S : Nat → Nat → List Int32} {γ : Nat} {it : Nat → Int32} : ∀ m k ρ, goS S γ it m k ρ = 0 ∨ goS S γ it m k ρ = 1 := by
  intro m
  induction m with
  | zero => intro k ρ; exact Or.inr rfl
  | succ m ih => intro k ρ; rw [goS]; split <;> first | exact ih _ _ | exact Or.inl rfl
def slS (S : Nat → Nat → List Int32) (ρ : IV) (γ : Nat) (it : Nat → Int32) (n : Nat) : Nat → Int32
  | 0 => 0
  | i + 1 => if goS S γ it n 0 (up ρ 0 (nextN ρ γ) (nI i)) = 0 then slS S ρ γ it n i else slS S ρ γ it n i ||| (1 <<< (nI i &&& 31))
def slowQ (S : Nat → Nat → List Int32) (ρ η : IV) (G s : Int32) : Int32 := if (0 ≤ G ∧ G ≤ 1) ∧ 0 ≤ s ∧ s ≤ 3 then (if η s.toNatClampNeg 0 = -1 then -11 else if aheadS ρ = 0 then -3 else slS S ρ G.toNatClampNeg (fun i => η s.toNatClampNeg (2 + i)) (η s.toNatClampNeg 1).toNatClampNeg 4) else -2
theorem shl0 : ∀ i, i < 4 → (0 : Int32) <<< (nI i &&& 31) = 0 := by decide +kernel
theorem kp_grd {ρ : IV} {y : Nat} {x : Int32} : Kp ρ (up ρ 0 y x) := ⟨fun k γ' a b c => up_ne1 (by omega), up_ne1 (by decide), up_ne1 (by decide), up_ne1 (by decide)⟩
section MBORE
variable {g : GS} {l : Launch} {Γ : Sh} {iv : IV} {rv : RV} {lv : LV}
set_option maxRecDepth 4000 in
theorem bo_loop {D : Nat} {Q : Qt} (hM : ShM Γ rv) {k n : Int32} {E : Nat} (hE : k + n = nI E) (hE24 : E ≤ 24) : ∀ (m y : Nat) (ρ iv : IV) (c x : Int32), y + m = E → x = nI y → RM iv ρ → (∀ (iv' : IV) (c' x' : Int32), Off Rr iv iv' → RM iv' (brN m y ρ c).2 → c' = (brN m y ρ c).1 → Rn g l mX7_bore (rmA D 0 0) Q 0 0 69 [.ref 75, .int k, .int n, .int c', .int x'] [] Γ iv' rv lv) → Rn g l mX7_bore (rmA D 0 0) Q 0 0 35 [.ref 75, .int k, .int n, .int c, .int x] [] Γ iv rv lv := by
  intro m
  induction m with
  | zero =>
    intro y ρ iv c x hn hx hR kk
    refine r_iload4 dX7_bore_35 ?_
    refine r_iload1 dX7_bore_37 ?_
    refine r_iload2 dX7_bore_38 ?_
    refine rn_iadd dX7_bore_39 ?_
    refine rn_eqi (nI E) hE ?_
    refine rn_icmp_ge 69 dX7_bore_40 rfl (fun _ => ?_) (fun h => absurd (by rw [hx]; exact nI_le (by omega) (by omega)) h)
    exact kk _ _ _ Off.refl hR rfl
  | succ m ih =>
    intro y ρ iv c x hn hx hR kk
    refine r_iload4 dX7_bore_35 ?_
    refine r_iload1 dX7_bore_37 ?_
    refine r_iload2 dX7_bore_38 ?_
    refine rn_iadd dX7_bore_39 ?_
    refine rn_eqi (nI E) hE ?_
    refine rn_icmp_ge 69 dX7_bore_40 rfl (fun h => absurd h (fun z => by rw [hx, nI_leI (by omega) (by omega)] at z; omega)) (fun _ => ?_)
    refine r_iload3 dX7_bore_43 ?_
    refine rn_iconst (1) dX7_bore_44 (by decide) ?_
    refine r_aload0 dX7_bore_45 ?_
    refine gf_X7_26 dX7_bore_46 rfl hM.1 (sm_known hM).1 ?_
    refine r_iload4 dX7_bore_49 ?_
    refine rn_iald y dX7_bore_51 (sm_known hM).2 hx (by omega) (by decide) ?_
    refine rn_eqi (ρ 1 y) (hR.1 y (by omega)).2 ?_
    refine rn_isub dX7_bore_52 ?_
    refine rn_iadd dX7_bore_53 ?_
    refine r_istore3 dX7_bore_54 rfl ?_
    refine r_aload0 dX7_bore_55 ?_
    refine gf_X7_26 dX7_bore_56 rfl hM.1 (sm_known hM).1 ?_
    refine r_iload4 dX7_bore_59 ?_
    refine rn_iconst (1) dX7_bore_61 (by decide) ?_
    refine rn_iast y dX7_bore_62 (sm_known hM).2 hx (by omega) (by decide) ?_
    refine r_iinc4 _ dX7_bore_63 rfl rfl ?_
    refine rn_goto 35 dX7_bore_66 rfl ?_
    rw [brN_s] at kk
    exact ih (y + 1) _ _ _ _ (by omega) (by rw [hx]; exact nI_1 y) hR.known (fun iv2 c2 x2 ho hR2 e2 => kk iv2 c2 x2 ((off_up (S := Rr) (by omega)).trans ho) hR2 e2)
set_option maxRecDepth 4000 in
theorem ct_mbore (D : Nat) (hM : ShM Γ rv) {ρ : IV} (hR : RM iv ρ) (k n : Int32) : Ct g l mX7_bore (D + 2) 0 0 [.ref 75, .int k, .int n] Γ iv rv lv (qCI Γ rv lv (fun x iv' => x = (boreQ ρ k n).1 ∧ RM iv' (boreQ ρ k n).2 ∧ Off Rr iv iv')) := by
  refine Ct.of (by decide +kernel) (Nat.le_of_ble_eq_true rfl) (Nat.le_of_ble_eq_true rfl) ?_
  refine r_iload1 dX7_bore_0 ?_
  refine cpiS1 dX7_bore_1 os_X7_isYard rfl ml_X7_100 (Nat.zero_le _) (Nat.zero_le _) (Nat.zero_le _) (ct_misYard _ _) ?_
  refine rn_if_eq 27 dX7_bore_4 rfl (fun c4 => ?_) (fun c4 => ?_)
  · refine rn_bipush (-2) dX7_bore_27 (by decide) ?_
    refine rn_iret dX7_bore_29 rfl (Nat.zero_le _) (Nat.zero_le _) ?_
    have e : boreQ ρ k n = (-2, ρ) := by unfold boreQ; rw [if_neg (fun z => bI_0.mp c4 z.1)]
    exact ⟨_, rfl, rfl, rfl, rfl, by rw [e], by rw [e]; exact hR, Off.refl⟩
  · refine r_iload2 dX7_bore_7 ?_
    refine rn_i2l dX7_bore_8 ?_
    refine rn_lconst (1) dX7_bore_9 (by decide) ?_
    refine rn_ldc2 (v := _) dX7_bore_10 cl_X7_324 ?_
    refine cpiS3 dX7_bore_13 os_X7_in rfl ml_X7_96 (Nat.zero_le _) (Nat.zero_le _) (Nat.zero_le _) (ct_inI _ (a := 1) (b := 24) (by decide) (by decide)) ?_
    refine rn_if_eq 27 dX7_bore_16 rfl (fun c16 => ?_) (fun c16 => ?_)
    · refine rn_bipush (-2) dX7_bore_27 (by decide) ?_
      refine rn_iret dX7_bore_29 rfl (Nat.zero_le _) (Nat.zero_le _) ?_
      have e : boreQ ρ k n = (-2, ρ) := by unfold boreQ; rw [if_neg (fun z => bI_0.mp c16 z.2.1)]
      exact ⟨_, rfl, rfl, rfl, rfl, by rw [e], by rw [e]; exact hR, Off.refl⟩
    · refine r_iload1 dX7_bore_19 ?_
      refine r_iload2 dX7_bore_20 ?_
      refine rn_iadd dX7_bore_21 ?_
      refine rn_bipush (24) dX7_bore_22 (by decide) ?_
      refine rn_icmp_le 30 dX7_bore_24 rfl (fun c24 => ?_) (fun c24 => ?_)
      · have hq1 := bI_1.mp (bI_or.resolve_left c4)
        have hq2 := bI_1.mp (bI_or.resolve_left c16)
        have hE := bore_E hq1 hq2 c24
        refine rn_iconst (0) dX7_bore_30 (by decide) ?_
        refine r_istore3 dX7_bore_31 rfl ?_
        refine r_iload1 dX7_bore_32 ?_
        refine r_istore4 dX7_bore_33 rfl ?_
        refine bo_loop hM hE.1 hE.2 n.toNatClampNeg k.toNatClampNeg ρ iv _ _ rfl (nB 23 (by decide) hq1).1 hR (fun iv2 c2 x2 ho hR2 e2 => ?_)
        refine r_iload3 dX7_bore_69 ?_
        refine rn_iret dX7_bore_70 rfl (Nat.zero_le _) (Nat.zero_le _) ?_
        have e : boreQ ρ k n = brN n.toNatClampNeg k.toNatClampNeg ρ 0 := by unfold boreQ; rw [if_pos ⟨hq1, hq2, c24⟩]
        exact ⟨_, rfl, rfl, rfl, rfl, by rw [e]; exact e2, by rw [e]; exact hR2, ho⟩
      · refine rn_bipush (-2) dX7_bore_27 (by decide) ?_
        refine rn_iret dX7_bore_29 rfl (Nat.zero_le _) (Nat.zero_le _) ?_
        have e : boreQ ρ k n = (-2, ρ) := by unfold boreQ; rw [if_neg (fun z => c24 z.2.2)]
        exact ⟨_, rfl, rfl, rfl, rfl, by rw [e], by rw [e]; exact hR, Off.refl⟩
set_option maxRecDepth 4000 in
theorem we_loop {D : Nat} (hM : ShM Γ rv) {ρ : IV} (hR : RM iv ρ) (hg : GR ρ) {γ : Nat} {G : Int32} (hG : G = nI γ) (hγ : γ < 2) {q : Int32} : ∀ (m i : Nat) (v3 : Value) (x : Int32), i + m = 24 - uO ρ - vO ρ → x = nI i → v3.category = 1 → q = wlS ρ γ m i → Rn g l mX7_well (rmA (D + 1) 0 0) (qPI q Γ iv rv lv) 0 0 12 [.ref 75, .int G, .int x, v3] [] Γ iv rv lv := by
  intro m
  induction m with
  | zero =>
    intro i v3 x hn hx h3 hq
    refine r_iload2 dX7_well_12 ?_
    refine r_aload0 dX7_well_13 ?_
    refine cpiV0 dX7_well_14 ov_X7_left rfl ml_X7_137 hM.1 rfl (Nat.le_of_ble_eq_true rfl) (Nat.zero_le _) (Nat.zero_le _) (ct_left _ hM) ?_
    refine rn_eqi (nI (24 - uO ρ - vO ρ)) (hR.left.trans (ahead_nI hg)) ?_
    refine rn_icmp_ge 60 dX7_well_17 rfl (fun _ => ?_) (fun h => absurd (by rw [hx]; exact nI_le (by omega) (by omega)) h)
    refine rn_iconst (-1) dX7_well_60 (by decide) ?_
    refine rn_iret dX7_well_61 rfl (Nat.zero_le _) (Nat.zero_le _) ?_
    refine ⟨congrArg (fun z => some (Value.int z)) ?_, rfl, rfl, rfl, rfl⟩
    rw [hq]; rfl
  | succ m ih =>
    intro i v3 x hn hx h3 hq
    refine r_iload2 dX7_well_12 ?_
    refine r_aload0 dX7_well_13 ?_
    refine cpiV0 dX7_well_14 ov_X7_left rfl ml_X7_137 hM.1 rfl (Nat.le_of_ble_eq_true rfl) (Nat.zero_le _) (Nat.zero_le _) (ct_left _ hM) ?_
    refine rn_eqi (nI (24 - uO ρ - vO ρ)) (hR.left.trans (ahead_nI hg)) ?_
    refine rn_icmp_ge 60 dX7_well_17 rfl (fun h => absurd h (fun z => by rw [hx, nI_leI (by omega) (by omega)] at z; omega)) (fun _ => ?_)
    have hwy : wyS ρ γ i < 24 := by unfold wyS; have := hg.2.2.1; split <;> omega
    refine r_iload1 dX7_well_20 ?_
    refine rn_if_ne 34 dX7_well_21 rfl (fun c21 => ?_) (fun c21 => ?_)
    · have hγ0 : ¬ γ = 0 := by rw [hG, show (0 : Int32) = nI 0 by decide, nI_eq (by omega) (by decide)] at c21; exact c21
      refine r_aload0 dX7_well_34 ?_
      refine rn_iconst (1) dX7_well_35 (by decide) ?_
      refine cpiV1 dX7_well_36 ov_X7_nextOf rfl ml_X7_275 hM.1 rfl (Nat.zero_le _) (Nat.zero_le _) (Nat.zero_le _) (ct_nextOf _ hM _) ?_
      refine rn_eqi (nI (23 - vO ρ)) ((if_neg (by decide)).trans (by rw [hR.gang 4 (γ := 1) (by decide) (by decide) (by decide), hg.2.1, show (23 : Int32) = nI 23 by decide]; exact pk_sub (by have := hg.2.2.1; omega))) ?_
      refine r_iload2 dX7_well_39 ?_
      refine rn_isub dX7_well_40 ?_
      refine rn_eqi (nI (wyS ρ γ i)) (by rw [hx, pk_sub (by omega)]; unfold wyS; rw [if_neg hγ0]) ?_
      refine r_istore3 dX7_well_41 rfl ?_
      refine r_aload0 dX7_well_42 ?_
      refine gf_X7_23 dX7_well_43 rfl hM.1 (sm_grounds hM).1 ?_
      refine r_iload3 dX7_well_46 ?_
      refine rn_iald (wyS ρ γ i) dX7_well_47 (sm_grounds hM).2 rfl hwy (by decide) ?_
      refine rn_eqi (ρ 0 (wyS ρ γ i)) (hR.1 _ hwy).1 ?_
      refine rn_iconst (2) dX7_well_48 (by decide) ?_
      refine rn_icmp_lt 54 dX7_well_49 rfl (fun c49 => ?_) (fun c49 => ?_)
      · refine r_iinc2 _ dX7_well_54 rfl rfl ?_
        refine rn_goto 12 dX7_well_57 rfl ?_
        exact ih (i + 1) _ _ (by omega) (by rw [hx]; exact nI_1 i) rfl (by rw [hq, wlS, if_neg (Int32.not_le.mpr c49)])
      · refine r_iload2 dX7_well_52 ?_
        refine rn_iret dX7_well_53 rfl (Nat.zero_le _) (Nat.zero_le _) ?_
        refine ⟨congrArg (fun z => some (Value.int z)) ?_, rfl, rfl, rfl, rfl⟩
        rw [hq, wlS, if_pos (Int32.not_lt.mp c49)]
        exact hx
    · have hγ0 : γ = 0 := by rw [hG, show (0 : Int32) = nI 0 by decide, nI_eq (by omega) (by decide)] at c21; exact c21
      refine r_aload0 dX7_well_24 ?_
      refine rn_iconst (0) dX7_well_25 (by decide) ?_
      refine cpiV1 dX7_well_26 ov_X7_nextOf rfl ml_X7_275 hM.1 rfl (Nat.zero_le _) (Nat.zero_le _) (Nat.zero_le _) (ct_nextOf _ hM _) ?_
      refine rn_eqi (nI (uO ρ)) ((if_pos rfl).trans ((hR.gang 4 (γ := 0) (by decide) (by decide) (by decide)).trans hg.1)) ?_
      refine r_iload2 dX7_well_29 ?_
      refine rn_iadd dX7_well_30 ?_
      refine rn_eqi (nI (wyS ρ γ i)) (by rw [hx, nI_add]; unfold wyS; rw [if_pos hγ0]) ?_
      refine rn_goto 41 dX7_well_31 rfl ?_
      refine r_istore3 dX7_well_41 rfl ?_
      refine r_aload0 dX7_well_42 ?_
      refine gf_X7_23 dX7_well_43 rfl hM.1 (sm_grounds hM).1 ?_
      refine r_iload3 dX7_well_46 ?_
      refine rn_iald (wyS ρ γ i) dX7_well_47 (sm_grounds hM).2 rfl hwy (by decide) ?_
      refine rn_eqi (ρ 0 (wyS ρ γ i)) (hR.1 _ hwy).1 ?_
      refine rn_iconst (2) dX7_well_48 (by decide) ?_
      refine rn_icmp_lt 54 dX7_well_49 rfl (fun c49 => ?_) (fun c49 => ?_)
      · refine r_iinc2 _ dX7_well_54 rfl rfl ?_
        refine rn_goto 12 dX7_well_57 rfl ?_
        exact ih (i + 1) _ _ (by omega) (by rw [hx]; exact nI_1 i) rfl (by rw [hq, wlS, if_neg (Int32.not_le.mpr c49)])
      · refine r_iload2 dX7_well_52 ?_
        refine rn_iret dX7_well_53 rfl (Nat.zero_le _) (Nat.zero_le _) ?_
        refine ⟨congrArg (fun z => some (Value.int z)) ?_, rfl, rfl, rfl, rfl⟩
        rw [hq, wlS, if_pos (Int32.not_lt.mp c49)]
        exact hx
set_option maxRecDepth 4000 in
theorem ct_mwell (D : Nat) (hM : ShM Γ rv) {ρ : IV} (hR : RM iv ρ) (hg : GR ρ) (G : Int32) : Ct g l mX7_well (D + 2) 0 0 [.ref 75, .int G] Γ iv rv lv (qPI (wellQ ρ G) Γ iv rv lv) := by
  refine Ct.of (by decide +kernel) (Nat.le_of_ble_eq_true rfl) (Nat.le_of_ble_eq_true rfl) ?_
  refine r_iload1 dX7_well_0 ?_
  refine cpiS1 dX7_well_1 os_X7_isGang rfl ml_X7_114 (Nat.zero_le _) (Nat.zero_le _) (Nat.zero_le _) (ct_misGang _ _) ?_
  refine rn_if_ne 10 dX7_well_4 rfl (fun c4 => ?_) (fun c4 => ?_)
  · have hq1 := bI_1.mp (bI_or.resolve_left c4)
    refine rn_iconst (0) dX7_well_10 (by decide) ?_
    refine r_istore2 dX7_well_11 rfl ?_
    exact we_loop hM hR hg (g01 hq1).1 (g01 hq1).2 _ 0 _ _ (Nat.zero_add _) rfl rfl (by unfold wellQ; rw [if_pos hq1])
  · refine rn_bipush (-2) dX7_well_7 (by decide) ?_
    refine rn_iret dX7_well_9 rfl (Nat.zero_le _) (Nat.zero_le _) ?_
    refine ⟨congrArg (fun z => some (Value.int z)) ?_, rfl, rfl, rfl, rfl⟩
    unfold wellQ
    rw [if_neg (bI_0.mp c4)]
end MBORE
