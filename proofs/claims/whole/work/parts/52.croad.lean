/-! THE CLASS: gangs, roads: what they tell -/
/-- cells: a gang at a; a road at r: r + 1 ground, r + 2 known, gangs at r + 3 and r + 6, r + 9 meant; the rule of text t at rq t -/
def ShG (Γ : Sh) (rv : RV) (a : Nat) : Prop := IsK Γ a 1 ∧ (rv a 8 = a + 1 ∧ IsA Γ (a + 1) 20 2) ∧ rv a 9 = a + 2 ∧ IsA Γ (a + 2) 20 2
def ShRd (Γ : Sh) (rv : RV) (r : Nat) : Prop := IsK Γ r 3 ∧ (rv r 0 = r + 1 ∧ IsA Γ (r + 1) 20 24) ∧ (rv r 1 = r + 2 ∧ IsA Γ (r + 2) 20 24) ∧ (rv r 2 = r + 3 ∧ ShG Γ rv (r + 3)) ∧ (rv r 3 = r + 6 ∧ ShG Γ rv (r + 6)) ∧ rv r 9 = r + 9 ∧ IsA Γ (r + 9) 20 6
theorem ShRd.gang {Γ : Sh} {rv : RV} {r γ : Nat} (h : ShRd Γ rv r) (hγ : γ < 2) : ShG Γ rv (r + 3 + 3 * γ) := by
  rcases (show γ = 0 ∨ γ = 1 by omega) with rfl | rfl
  · exact h.2.2.2.1.2
  · exact h.2.2.2.2.1.2
def rq (t : Nat) : Nat := if t = 0 then 22 else 93 + 5 * t
/-- the class's road at r is ρ (its rule apart) -/
def RC (iv : IV) (r : Nat) (ρ : IV) : Prop := (∀ y, y < 24 → iv (r + 1) y = ρ 0 y ∧ iv (r + 2) y = ρ 1 y) ∧ (∀ k γ, 1 ≤ k → k ≤ 7 → γ < 2 → iv (r + 3 + 3 * γ) k = ρ (2 + γ) k) ∧ (∀ k, 4 ≤ k → k ≤ 7 → iv r k = ρ 4 k) ∧ iv (r + 3) 0 = 1 ∧ iv (r + 6) 0 = 0
abbrev Pl (a : Nat) : Prop := a = 26 ∨ (102 ≤ a ∧ a % 5 = 2)
abbrev Ak (r a _ : Nat) : Prop := a = r + 9 ∨ Pl a
abbrev Aq (r a _ : Nat) : Prop := a = r + 4 ∨ a = r + 5 ∨ (r + 7 ≤ a ∧ a ≤ r + 9) ∨ Pl a
theorem rq_pl (t b : Nat) : Pl (rq t + 4) := by unfold rq; split <;> omega
theorem rq_ge (t : Nat) : rq t = 22 ∨ (98 ≤ rq t ∧ rq t % 5 = 3) := by unfold rq; split <;> omega
/-- the rule of text t -/
def RuC (Γ : Sh) (iv : IV) (rv : RV) (t : Nat) (S : Nat → Nat → List Int32) : Prop := iv (rq t) 0 = nI t ∧ ∃ L, L ≤ 160 ∧ ShU Γ rv (rq t) L ∧ ∀ p, p < 3 → iv (rq t + 3) p = (if (-5 : Int32) ∈ S t p then 1 else 0) ∧ (∀ e, OneC e 31 (S t p) (vl e (S t p))) ∧ ∃ B, iv (rq t + 2) p = nI B ∧ iv (rq t + 2) (p + 1) = nI (B + (S t p).length) ∧ B + (S t p).length ≤ L ∧ ∀ j, j < (S t p).length → iv (rq t + 1) (B + j) = (S t p).getD j 0
theorem RuC.off {Γ : Sh} {iv iv' : IV} {rv : RV} {t : Nat} {S : Nat → Nat → List Int32} {P : Nat → Nat → Prop} (h : RuC Γ iv rv t S) (ho : Off P iv iv') (hp : ∀ a b, P a b → ¬ (22 ≤ a ∧ a ≤ 25) ∧ ¬ (98 ≤ a ∧ ¬ a % 5 = 2)) : RuC Γ iv' rv t S := by
  have hq := rq_ge t
  have e : ∀ k b, k ≤ 3 → iv' (rq t + k) b = iv (rq t + k) b := fun k b hk => ho _ _ (fun z => by have := hp _ _ z; omega)
  obtain ⟨h0, L, h1, h2, h3⟩ := h
  refine ⟨(e 0 0 (by decide)).trans h0, L, h1, h2, fun p hp => ?_⟩
  obtain ⟨a1, a2, B, b1, b2, b3, b4⟩ := h3 p hp
  exact ⟨(e 3 _ (by decide)).trans a1, a2, B, (e 2 _ (by decide)).trans b1, (e 2 _ (by decide)).trans b2, b3, fun j hj => (e 1 _ (by decide)).trans (b4 j hj)⟩
theorem RC.off {iv iv' ρ : IV} {r : Nat} {P : Nat → Nat → Prop} (h : RC iv r ρ) (ho : Off P iv iv') (hp : ∀ a b, P a b → ¬ (r ≤ a ∧ a ≤ r + 3) ∧ ¬ a = r + 6) : RC iv' r ρ :=
  ⟨fun y hy => ⟨(ho _ _ (fun z => by have := hp _ _ z; omega)).trans (h.1 y hy).1, (ho _ _ (fun z => by have := hp _ _ z; omega)).trans (h.1 y hy).2⟩, fun k γ h1 h2 h3 => (ho _ _ (fun z => by have := hp _ _ z; omega)).trans (h.2.1 k γ h1 h2 h3), fun k h1 h2 => (ho _ _ (fun z => by have := hp _ _ z; omega)).trans (h.2.2.1 k h1 h2), (ho _ _ (fun z => by have := hp _ _ z; omega)).trans h.2.2.2.1, (ho _ _ (fun z => by have := hp _ _ z; omega)).trans h.2.2.2.2⟩
theorem RC.gang {iv ρ : IV} {r : Nat} (h : RC iv r ρ) (k : Nat) {γ : Nat} (h1 : 1 ≤ k) (h2 : k ≤ 7) (hγ : γ < 2) : iv (r + 3 + 3 * γ) k = ρ (2 + γ) k := h.2.1 k γ h1 h2 hγ
theorem RC.up0 {iv ρ : IV} {r : Nat} (h : RC iv r ρ) (k : Nat) (h1 : 1 ≤ k) (h2 : k ≤ 7) : iv (r + 3) k = ρ 2 k := h.2.1 k 0 h1 h2 (by decide)
theorem RC.up1 {iv ρ : IV} {r : Nat} (h : RC iv r ρ) (k : Nat) (h1 : 1 ≤ k) (h2 : k ≤ 7) : iv (r + 6) k = ρ 3 k := h.2.1 k 1 h1 h2 (by decide)
theorem RC.ahead {iv ρ : IV} {r : Nat} (h : RC iv r ρ) : 24 - iv (r + 3) 4 - iv (r + 6) 4 = aheadS ρ := by
  rw [h.up0 4 (by decide) (by decide), h.up1 4 (by decide) (by decide)]; rfl
theorem RC.goes {iv ρ : IV} {r γ : Nat} (h : RC iv r ρ) (hγ : γ < 2) : iv (r + 3 + 3 * γ) 0 = (if γ = 0 then 1 else 0) := by
  rcases (show γ = 0 ∨ γ = 1 by omega) with rfl | rfl
  · exact h.2.2.2.1
  · exact h.2.2.2.2
theorem lo_least : ∀ p, p < 3 → oiv0 5 p = leastS p ∧ oiv0 6 p = 999 := by decide
theorem clamp_eq {p : Nat} {v : Int32} (hp : p < 3) : (if leastS p < (if v < 999 then v else 999) then (if v < 999 then v else 999) else leastS p) = clampS p v := by
  have hl : leastS p ≤ 999 := by
    match p, hp with
    | 0, _ => decide
    | 1, _ => decide
    | 2, _ => decide
  unfold clampS
  generalize leastS p = q at hl ⊢
  have e9 : (999 : Int32).toInt = 999 := by decide
  by_cases h1 : v < 999
  · rw [if_pos h1]
    by_cases h2 : q < v
    · rw [if_pos h2, if_neg, if_neg] <;> simp only [Int32.lt_iff_toInt_lt, Int32.le_iff_toInt_le, e9] at * <;> omega
    · rw [if_neg h2]
      by_cases h3 : v < q
      · rw [if_pos h3]
      · rw [if_neg h3, if_neg (by simp only [Int32.lt_iff_toInt_lt, e9] at *; omega)]
        simp only [Int32.lt_iff_toInt_lt, ← Int32.toInt_inj, e9] at *; omega
  · rw [if_neg h1]
    have h3 : ¬ v < q := by simp only [Int32.lt_iff_toInt_lt, Int32.le_iff_toInt_le, e9] at *; omega
    rw [if_neg h3]
    by_cases h2 : q < 999
    · rw [if_pos h2]
      by_cases h4 : 999 < v
      · rw [if_pos h4]
      · rw [if_neg h4]; simp only [Int32.lt_iff_toInt_lt, ← Int32.toInt_inj, e9] at *; omega
    · rw [if_neg h2]
      by_cases h4 : 999 < v
      · rw [if_pos h4]; simp only [Int32.lt_iff_toInt_lt, Int32.le_iff_toInt_le, ← Int32.toInt_inj, e9] at *; omega
      · rw [if_neg h4]; simp only [Int32.lt_iff_toInt_lt, Int32.le_iff_toInt_le, ← Int32.toInt_inj, e9] at *; omega
theorem nn_of {x : Int32} {n : Nat} (h : x = nI n) (hn : n < 2 ^ 31) : nn x = x := by unfold nn; rw [if_neg (by rw [h]; exact nI_pos hn)]
theorem max_nn {x : Int32} : (if (0 : Int32) < x then x else 0) = nn x := by
  unfold nn
  by_cases h : x < 0
  · rw [if_pos h, if_neg (by simp only [Int32.lt_iff_toInt_lt, Int32.reduceToInt] at *; omega)]
  · rw [if_neg h]
    split
    · rfl
    · simp only [Int32.lt_iff_toInt_lt, Int32.reduceToInt, ← Int32.toInt_inj] at *; omega
section CROAD
variable {g : GS} {l : Launch} {Γ : Sh} {iv : IV} {rv : RV} {lv : LV}
set_option maxRecDepth 4000 in
theorem ct_nextYard (d : Nat) {a : Nat} (hG : ShG Γ rv a) : Ct g l mX1_nextYard (d) 0 0 [.ref a] Γ iv rv lv (qPI (if iv a 0 = 0 then 23 - iv a 4 else iv a 4) Γ iv rv lv) := by
  refine Ct.of (by decide +kernel) (Nat.le_of_ble_eq_true rfl) (Nat.le_of_ble_eq_true rfl) ?_
  refine r_aload0 dX1_nextYard_0 ?_
  refine gf_X1_40 dX1_nextYard_1 rfl hG.1 ?_
  refine rn_if_eq 14 dX1_nextYard_4 rfl (fun c4 => ?_) (fun c4 => ?_)
  · refine rn_bipush (23) dX1_nextYard_14 (by decide) ?_
    refine r_aload0 dX1_nextYard_16 ?_
    refine gf_X1_21 dX1_nextYard_17 rfl hG.1 ?_
    refine rn_isub dX1_nextYard_20 ?_
    refine rn_iret dX1_nextYard_21 rfl (Nat.zero_le _) (Nat.zero_le _) ?_
    refine ⟨congrArg (fun z => some (Value.int z)) ?_, rfl, rfl, rfl, rfl⟩
    rw [if_pos c4]
  · refine r_aload0 dX1_nextYard_7 ?_
    refine gf_X1_21 dX1_nextYard_8 rfl hG.1 ?_
    refine rn_goto 21 dX1_nextYard_11 rfl ?_
    refine rn_iret dX1_nextYard_21 rfl (Nat.zero_le _) (Nat.zero_le _) ?_
    refine ⟨congrArg (fun z => some (Value.int z)) ?_, rfl, rfl, rfl, rfl⟩
    rw [if_neg c4]
set_option maxRecDepth 4000 in
theorem ct_cgain (d : Nat) {a : Nat} (hG : ShG Γ rv a) : Ct g l mX1_gain (d) 0 0 [.ref a] Γ iv rv lv (qPI (iv a 6 - iv a 7) Γ iv rv lv) := by
  refine Ct.of (by decide +kernel) (Nat.le_of_ble_eq_true rfl) (Nat.le_of_ble_eq_true rfl) ?_
  refine r_aload0 dX1_gain_0 ?_
  refine gf_X1_27 dX1_gain_1 rfl hG.1 ?_
  refine r_aload0 dX1_gain_4 ?_
  refine gf_X1_30 dX1_gain_5 rfl hG.1 ?_
  refine rn_isub dX1_gain_8 ?_
  refine rn_iret dX1_gain_9 rfl (Nat.zero_le _) (Nat.zero_le _) ?_
  exact ⟨rfl, rfl, rfl, rfl, rfl⟩
set_option maxRecDepth 4000 in
theorem ct_isNight (d : Nat) {a : Nat} (hG : ShG Γ rv a) {mi : Nat} (hm : iv a 2 = nI mi) (hm9 : mi ≤ 9) (dy : Int32) : Ct g l mX1_isNight (d) 0 0 [.ref a, .int dy] Γ iv rv lv (qPI (bI (remS dy (nI mi + 2) = 0)) Γ iv rv lv) := by
  refine Ct.of (by decide +kernel) (Nat.le_of_ble_eq_true rfl) (Nat.le_of_ble_eq_true rfl) ?_
  refine r_aload0 dX1_isNight_0 ?_
  refine gf_X1_15 dX1_isNight_1 rfl hG.1 ?_
  refine rn_eqi _ hm ?_
  refine rn_iconst (2) dX1_isNight_4 (by decide) ?_
  refine rn_iadd dX1_isNight_5 ?_
  refine r_istore2 dX1_isNight_6 rfl ?_
  refine r_iload2 dX1_isNight_7 ?_
  refine rn_if_le 21 dX1_isNight_8 rfl (fun h => absurd h (Int32.not_le.mpr (by rw [show (2 : Int32) = nI 2 by decide, nI_add, show (0 : Int32) = nI 0 by decide]; exact nI_lt (by omega) (by omega)))) (fun _ => ?_)
  refine r_iload1 dX1_isNight_11 ?_
  refine r_iload2 dX1_isNight_12 ?_
  refine rn_irem dX1_isNight_13 (by rw [show (2 : Int32) = nI 2 by decide, nI_add, show (0 : Int32) = nI 0 by decide, nI_eq (by omega) (by decide)]; omega) ?_
  refine rn_if_ne 21 dX1_isNight_14 rfl (fun c14 => ?_) (fun c14 => ?_)
  · refine rn_iconst (0) dX1_isNight_21 (by decide) ?_
    refine rn_zret dX1_isNight_22 rfl (by first | decide | exact nar_bI) (Nat.zero_le _) (Nat.zero_le _) ?_
    refine ⟨congrArg (fun z => some (Value.int z)) (bI_f c14).symm, rfl, rfl, rfl, rfl⟩
  · refine rn_iconst (1) dX1_isNight_17 (by decide) ?_
    refine rn_goto 22 dX1_isNight_18 rfl ?_
    refine rn_zret dX1_isNight_22 rfl (by first | decide | exact nar_bI) (Nat.zero_le _) (Nat.zero_le _) ?_
    refine ⟨congrArg (fun z => some (Value.int z)) (bI_t c14).symm, rfl, rfl, rfl, rfl⟩
set_option maxRecDepth 4000 in
theorem ct_cdoes (d : Nat) {a : Nat} (hG : ShG Γ rv a) {ki mi rt : Nat} (hk : iv a 1 = nI ki) (ki1 : ki ≤ 5) (hm : iv a 2 = nI mi) (hm9 : mi ≤ 9) (gr dy : Int32) (hrt : rt ≤ 999) : Ct g l mX1_does (d + 1) 0 0 [.ref a, .int gr, .int dy, .int (nI rt)] Γ iv rv lv (qPI (doesS (nI ki) (nI mi) dy gr (nI rt)) Γ iv rv lv) := by
  refine Ct.of (by decide +kernel) (Nat.le_of_ble_eq_true rfl) (Nat.le_of_ble_eq_true rfl) ?_
  have hhalf : nI rt / 2 + 10 = nI (rt / 2 + 10) := by rw [show (2 : Int32) = nI 2 by decide, pk_div (by omega) (by decide) (by decide), show (10 : Int32) = nI 10 by decide, nI_add]
  refine r_iload3 dX1_does_0 ?_
  refine rn_iconst (2) dX1_does_1 (by decide) ?_
  refine rn_idiv dX1_does_2 (by decide) ?_
  refine rn_bipush (10) dX1_does_3 (by decide) ?_
  refine rn_iadd dX1_does_5 ?_
  refine r_istore4 dX1_does_6 rfl ?_
  refine r_iload2 dX1_does_8 ?_
  refine rn_iconst (2) dX1_does_9 (by decide) ?_
  refine rn_irem dX1_does_10 (by decide) ?_
  refine rn_iconst (1) dX1_does_11 (by decide) ?_
  refine rn_icmp_ne 29 dX1_does_12 rfl (fun c12 => ?_) (fun c12 => ?_)
  · refine r_iload3 dX1_does_29 ?_
    refine r_istore5 dX1_does_30 rfl ?_
    refine r_aload0 dX1_does_32 ?_
    refine gf_X1_9 dX1_does_33 rfl hG.1 ?_
    refine rn_eqi _ hk ?_
    match ki, ki1 with
    | 0, _ =>
      refine rn_eqi 0 (by decide) ?_
      refine rn_tableOut 125 dX1_does_36 (by decide) rfl ?_
      refine r_iload3 dX1_does_125 ?_
      refine rn_iret dX1_does_126 rfl (Nat.zero_le _) (Nat.zero_le _) ?_
      refine ⟨congrArg (fun z => some (Value.int z)) ?_, rfl, rfl, rfl, rfl⟩
      rw [show nI 0 = 0 from by decide, does_0]
      exact (nn_of rfl (by omega)).symm
    | 1, _ =>
      refine rn_eqi 1 (by decide) ?_
      refine rn_tableIn 72 dX1_does_36 (by decide) (by decide) rfl rfl ?_
      refine r_iload4 dX1_does_72 ?_
      refine rn_iret dX1_does_74 rfl (Nat.zero_le _) (Nat.zero_le _) ?_
      refine ⟨congrArg (fun z => some (Value.int z)) ?_, rfl, rfl, rfl, rfl⟩
      rw [show nI 1 = 1 from by decide, does_1]
      exact (nn_of hhalf (by omega)).symm
    | 2, _ =>
      refine rn_eqi 2 (by decide) ?_
      refine rn_tableIn 75 dX1_does_36 (by decide) (by decide) rfl rfl ?_
      refine r_iload5 dX1_does_75 ?_
      refine rn_iret dX1_does_77 rfl (Nat.zero_le _) (Nat.zero_le _) ?_
      refine ⟨congrArg (fun z => some (Value.int z)) ?_, rfl, rfl, rfl, rfl⟩
      rw [show nI 2 = 2 from by decide, does_2]
      unfold remS
      rw [if_neg (fun z => c12 z.2)]
      exact (nn_of rfl (by omega)).symm
    | 3, _ =>
      refine rn_eqi 3 (by decide) ?_
      refine rn_tableIn 78 dX1_does_36 (by decide) (by decide) rfl rfl ?_
      refine r_aload0 dX1_does_78 ?_
      refine r_iload2 dX1_does_79 ?_
      refine cpiV1 dX1_does_80 ov_X1_isNight rfl ml_X1_44 hG.1 rfl (Nat.zero_le _) (Nat.zero_le _) (Nat.zero_le _) (ct_isNight _ hG hm hm9 _) ?_
      refine rn_if_eq 93 dX1_does_83 rfl (fun c83 => ?_) (fun c83 => ?_)
      · refine r_iload4 dX1_does_93 ?_
        refine rn_iret dX1_does_95 rfl (Nat.zero_le _) (Nat.zero_le _) ?_
        refine ⟨congrArg (fun z => some (Value.int z)) ?_, rfl, rfl, rfl, rfl⟩
        rw [show nI 3 = 3 from by decide, does_3]
        rw [if_neg (bI_0.mp c83)]
        exact (nn_of hhalf (by omega)).symm
      · refine rn_iconst (2) dX1_does_86 (by decide) ?_
        refine r_iload4 dX1_does_87 ?_
        refine rn_imul dX1_does_89 ?_
        refine rn_goto 95 dX1_does_90 rfl ?_
        refine rn_iret dX1_does_95 rfl (Nat.zero_le _) (Nat.zero_le _) ?_
        refine ⟨congrArg (fun z => some (Value.int z)) ?_, rfl, rfl, rfl, rfl⟩
        rw [show nI 3 = 3 from by decide, does_3]
        rw [if_pos (Decidable.of_not_not (fun z => c83 (bI_0.mpr z))), Int32.mul_comm]
        exact (nn_of (n := (rt / 2 + 10) * 2) (by rw [hhalf, show (2 : Int32) = nI 2 by decide, pk_mul]) (by omega)).symm
    | 4, _ =>
      refine rn_eqi 4 (by decide) ?_
      refine rn_tableIn 96 dX1_does_36 (by decide) (by decide) rfl rfl ?_
      refine rn_iconst (0) dX1_does_96 (by decide) ?_
      refine r_iload5 dX1_does_97 ?_
      refine rn_iconst (3) dX1_does_99 (by decide) ?_
      refine r_iload1 dX1_does_100 ?_
      refine rn_imul dX1_does_101 ?_
      refine rn_isub dX1_does_102 ?_
      refine rn_max dX1_does_103 ml_X1_48 math_max (Nat.le_of_ble_eq_true rfl) (Nat.le_add_left _ _) (by show 100 ≤ 100 * _; omega) (Nat.zero_le _) (Nat.zero_le _) ?_
      refine rn_iret dX1_does_106 rfl (Nat.zero_le _) (Nat.zero_le _) ?_
      refine ⟨congrArg (fun z => some (Value.int z)) ?_, rfl, rfl, rfl, rfl⟩
      rw [show nI 4 = 4 from by decide, does_4]
      unfold remS
      rw [max_nn, if_neg (fun z => c12 z.2)]
    | 5, _ =>
      refine rn_eqi 5 (by decide) ?_
      refine rn_tableIn 107 dX1_does_36 (by decide) (by decide) rfl rfl ?_
      refine r_iload1 dX1_does_107 ?_
      refine rn_iconst (3) dX1_does_108 (by decide) ?_
      refine rn_icmp_ne 122 dX1_does_109 rfl (fun c109 => ?_) (fun c109 => ?_)
      · refine r_iload4 dX1_does_122 ?_
        refine rn_iret dX1_does_124 rfl (Nat.zero_le _) (Nat.zero_le _) ?_
        refine ⟨congrArg (fun z => some (Value.int z)) ?_, rfl, rfl, rfl, rfl⟩
        rw [show nI 5 = 5 from by decide, does_5]
        rw [if_neg c109]
        exact (nn_of hhalf (by omega)).symm
      · refine r_iload4 dX1_does_112 ?_
        refine r_aload0 dX1_does_114 ?_
        refine gf_X1_15 dX1_does_115 rfl hG.1 ?_
        refine rn_eqi _ hm ?_
        refine rn_iadd dX1_does_118 ?_
        refine rn_goto 124 dX1_does_119 rfl ?_
        refine rn_iret dX1_does_124 rfl (Nat.zero_le _) (Nat.zero_le _) ?_
        refine ⟨congrArg (fun z => some (Value.int z)) ?_, rfl, rfl, rfl, rfl⟩
        rw [show nI 5 = 5 from by decide, does_5]
        rw [if_pos c109]
        exact (nn_of (n := rt / 2 + 10 + mi) (by rw [hhalf, nI_add]) (by omega)).symm
  · refine r_iload1 dX1_does_15 ?_
    refine r_aload0 dX1_does_16 ?_
    refine gf_X1_15 dX1_does_17 rfl hG.1 ?_
    refine rn_eqi _ hm ?_
    refine rn_iconst (4) dX1_does_20 (by decide) ?_
    refine rn_irem dX1_does_21 (by decide) ?_
    refine rn_icmp_ne 29 dX1_does_22 rfl (fun c22 => ?_) (fun c22 => ?_)
    · refine r_iload3 dX1_does_29 ?_
      refine r_istore5 dX1_does_30 rfl ?_
      refine r_aload0 dX1_does_32 ?_
      refine gf_X1_9 dX1_does_33 rfl hG.1 ?_
      refine rn_eqi _ hk ?_
      match ki, ki1 with
      | 0, _ =>
        refine rn_eqi 0 (by decide) ?_
        refine rn_tableOut 125 dX1_does_36 (by decide) rfl ?_
        refine r_iload3 dX1_does_125 ?_
        refine rn_iret dX1_does_126 rfl (Nat.zero_le _) (Nat.zero_le _) ?_
        refine ⟨congrArg (fun z => some (Value.int z)) ?_, rfl, rfl, rfl, rfl⟩
        rw [show nI 0 = 0 from by decide, does_0]
        exact (nn_of rfl (by omega)).symm
      | 1, _ =>
        refine rn_eqi 1 (by decide) ?_
        refine rn_tableIn 72 dX1_does_36 (by decide) (by decide) rfl rfl ?_
        refine r_iload4 dX1_does_72 ?_
        refine rn_iret dX1_does_74 rfl (Nat.zero_le _) (Nat.zero_le _) ?_
        refine ⟨congrArg (fun z => some (Value.int z)) ?_, rfl, rfl, rfl, rfl⟩
        rw [show nI 1 = 1 from by decide, does_1]
        exact (nn_of hhalf (by omega)).symm
      | 2, _ =>
        refine rn_eqi 2 (by decide) ?_
        refine rn_tableIn 75 dX1_does_36 (by decide) (by decide) rfl rfl ?_
        refine r_iload5 dX1_does_75 ?_
        refine rn_iret dX1_does_77 rfl (Nat.zero_le _) (Nat.zero_le _) ?_
        refine ⟨congrArg (fun z => some (Value.int z)) ?_, rfl, rfl, rfl, rfl⟩
        rw [show nI 2 = 2 from by decide, does_2]
        unfold remS
        rw [if_neg (fun z => c22 z.1)]
        exact (nn_of rfl (by omega)).symm
      | 3, _ =>
        refine rn_eqi 3 (by decide) ?_
        refine rn_tableIn 78 dX1_does_36 (by decide) (by decide) rfl rfl ?_
        refine r_aload0 dX1_does_78 ?_
        refine r_iload2 dX1_does_79 ?_
        refine cpiV1 dX1_does_80 ov_X1_isNight rfl ml_X1_44 hG.1 rfl (Nat.zero_le _) (Nat.zero_le _) (Nat.zero_le _) (ct_isNight _ hG hm hm9 _) ?_
        refine rn_if_eq 93 dX1_does_83 rfl (fun c83 => ?_) (fun c83 => ?_)
        · refine r_iload4 dX1_does_93 ?_
          refine rn_iret dX1_does_95 rfl (Nat.zero_le _) (Nat.zero_le _) ?_
          refine ⟨congrArg (fun z => some (Value.int z)) ?_, rfl, rfl, rfl, rfl⟩
          rw [show nI 3 = 3 from by decide, does_3]
          rw [if_neg (bI_0.mp c83)]
          exact (nn_of hhalf (by omega)).symm
        · refine rn_iconst (2) dX1_does_86 (by decide) ?_
          refine r_iload4 dX1_does_87 ?_
          refine rn_imul dX1_does_89 ?_
          refine rn_goto 95 dX1_does_90 rfl ?_
          refine rn_iret dX1_does_95 rfl (Nat.zero_le _) (Nat.zero_le _) ?_
          refine ⟨congrArg (fun z => some (Value.int z)) ?_, rfl, rfl, rfl, rfl⟩
          rw [show nI 3 = 3 from by decide, does_3]
          rw [if_pos (Decidable.of_not_not (fun z => c83 (bI_0.mpr z))), Int32.mul_comm]
          exact (nn_of (n := (rt / 2 + 10) * 2) (by rw [hhalf, show (2 : Int32) = nI 2 by decide, pk_mul]) (by omega)).symm
      | 4, _ =>
        refine rn_eqi 4 (by decide) ?_
        refine rn_tableIn 96 dX1_does_36 (by decide) (by decide) rfl rfl ?_
        refine rn_iconst (0) dX1_does_96 (by decide) ?_
        refine r_iload5 dX1_does_97 ?_
        refine rn_iconst (3) dX1_does_99 (by decide) ?_
        refine r_iload1 dX1_does_100 ?_
        refine rn_imul dX1_does_101 ?_
        refine rn_isub dX1_does_102 ?_
        refine rn_max dX1_does_103 ml_X1_48 math_max (Nat.le_of_ble_eq_true rfl) (Nat.le_add_left _ _) (by show 100 ≤ 100 * _; omega) (Nat.zero_le _) (Nat.zero_le _) ?_
        refine rn_iret dX1_does_106 rfl (Nat.zero_le _) (Nat.zero_le _) ?_
        refine ⟨congrArg (fun z => some (Value.int z)) ?_, rfl, rfl, rfl, rfl⟩
        rw [show nI 4 = 4 from by decide, does_4]
        unfold remS
        rw [max_nn, if_neg (fun z => c22 z.1)]
      | 5, _ =>
        refine rn_eqi 5 (by decide) ?_
        refine rn_tableIn 107 dX1_does_36 (by decide) (by decide) rfl rfl ?_
        refine r_iload1 dX1_does_107 ?_
        refine rn_iconst (3) dX1_does_108 (by decide) ?_
        refine rn_icmp_ne 122 dX1_does_109 rfl (fun c109 => ?_) (fun c109 => ?_)
        · refine r_iload4 dX1_does_122 ?_
          refine rn_iret dX1_does_124 rfl (Nat.zero_le _) (Nat.zero_le _) ?_
          refine ⟨congrArg (fun z => some (Value.int z)) ?_, rfl, rfl, rfl, rfl⟩
          rw [show nI 5 = 5 from by decide, does_5]
          rw [if_neg c109]
          exact (nn_of hhalf (by omega)).symm
        · refine r_iload4 dX1_does_112 ?_
          refine r_aload0 dX1_does_114 ?_
          refine gf_X1_15 dX1_does_115 rfl hG.1 ?_
          refine rn_eqi _ hm ?_
          refine rn_iadd dX1_does_118 ?_
          refine rn_goto 124 dX1_does_119 rfl ?_
          refine rn_iret dX1_does_124 rfl (Nat.zero_le _) (Nat.zero_le _) ?_
          refine ⟨congrArg (fun z => some (Value.int z)) ?_, rfl, rfl, rfl, rfl⟩
          rw [show nI 5 = 5 from by decide, does_5]
          rw [if_pos c109]
          exact (nn_of (n := rt / 2 + 10 + mi) (by rw [hhalf, nI_add]) (by omega)).symm
    · refine rn_iconst (0) dX1_does_25 (by decide) ?_
      refine rn_goto 30 dX1_does_26 rfl ?_
      refine r_istore5 dX1_does_30 rfl ?_
      refine r_aload0 dX1_does_32 ?_
      refine gf_X1_9 dX1_does_33 rfl hG.1 ?_
      refine rn_eqi _ hk ?_
      match ki, ki1 with
      | 0, _ =>
        refine rn_eqi 0 (by decide) ?_
        refine rn_tableOut 125 dX1_does_36 (by decide) rfl ?_
        refine r_iload3 dX1_does_125 ?_
        refine rn_iret dX1_does_126 rfl (Nat.zero_le _) (Nat.zero_le _) ?_
        refine ⟨congrArg (fun z => some (Value.int z)) ?_, rfl, rfl, rfl, rfl⟩
        rw [show nI 0 = 0 from by decide, does_0]
        exact (nn_of rfl (by omega)).symm
      | 1, _ =>
        refine rn_eqi 1 (by decide) ?_
        refine rn_tableIn 72 dX1_does_36 (by decide) (by decide) rfl rfl ?_
        refine r_iload4 dX1_does_72 ?_
        refine rn_iret dX1_does_74 rfl (Nat.zero_le _) (Nat.zero_le _) ?_
        refine ⟨congrArg (fun z => some (Value.int z)) ?_, rfl, rfl, rfl, rfl⟩
        rw [show nI 1 = 1 from by decide, does_1]
        exact (nn_of hhalf (by omega)).symm
      | 2, _ =>
        refine rn_eqi 2 (by decide) ?_
        refine rn_tableIn 75 dX1_does_36 (by decide) (by decide) rfl rfl ?_
        refine r_iload5 dX1_does_75 ?_
        refine rn_iret dX1_does_77 rfl (Nat.zero_le _) (Nat.zero_le _) ?_
        refine ⟨congrArg (fun z => some (Value.int z)) ?_, rfl, rfl, rfl, rfl⟩
        rw [show nI 2 = 2 from by decide, does_2]
        unfold remS
        rw [if_pos ⟨c22, c12⟩]
        exact (nn_of (n := 0) (by decide) (by decide)).symm
      | 3, _ =>
        refine rn_eqi 3 (by decide) ?_
        refine rn_tableIn 78 dX1_does_36 (by decide) (by decide) rfl rfl ?_
        refine r_aload0 dX1_does_78 ?_
        refine r_iload2 dX1_does_79 ?_
        refine cpiV1 dX1_does_80 ov_X1_isNight rfl ml_X1_44 hG.1 rfl (Nat.zero_le _) (Nat.zero_le _) (Nat.zero_le _) (ct_isNight _ hG hm hm9 _) ?_
        refine rn_if_eq 93 dX1_does_83 rfl (fun c83 => ?_) (fun c83 => ?_)
        · refine r_iload4 dX1_does_93 ?_
          refine rn_iret dX1_does_95 rfl (Nat.zero_le _) (Nat.zero_le _) ?_
          refine ⟨congrArg (fun z => some (Value.int z)) ?_, rfl, rfl, rfl, rfl⟩
          rw [show nI 3 = 3 from by decide, does_3]
          rw [if_neg (bI_0.mp c83)]
          exact (nn_of hhalf (by omega)).symm
        · refine rn_iconst (2) dX1_does_86 (by decide) ?_
          refine r_iload4 dX1_does_87 ?_
          refine rn_imul dX1_does_89 ?_
          refine rn_goto 95 dX1_does_90 rfl ?_
          refine rn_iret dX1_does_95 rfl (Nat.zero_le _) (Nat.zero_le _) ?_
          refine ⟨congrArg (fun z => some (Value.int z)) ?_, rfl, rfl, rfl, rfl⟩
          rw [show nI 3 = 3 from by decide, does_3]
          rw [if_pos (Decidable.of_not_not (fun z => c83 (bI_0.mpr z))), Int32.mul_comm]
          exact (nn_of (n := (rt / 2 + 10) * 2) (by rw [hhalf, show (2 : Int32) = nI 2 by decide, pk_mul]) (by omega)).symm
      | 4, _ =>
        refine rn_eqi 4 (by decide) ?_
        refine rn_tableIn 96 dX1_does_36 (by decide) (by decide) rfl rfl ?_
        refine rn_iconst (0) dX1_does_96 (by decide) ?_
        refine r_iload5 dX1_does_97 ?_
        refine rn_iconst (3) dX1_does_99 (by decide) ?_
        refine r_iload1 dX1_does_100 ?_
        refine rn_imul dX1_does_101 ?_
        refine rn_isub dX1_does_102 ?_
        refine rn_max dX1_does_103 ml_X1_48 math_max (Nat.le_of_ble_eq_true rfl) (Nat.le_add_left _ _) (by show 100 ≤ 100 * _; omega) (Nat.zero_le _) (Nat.zero_le _) ?_
        refine rn_iret dX1_does_106 rfl (Nat.zero_le _) (Nat.zero_le _) ?_
        refine ⟨congrArg (fun z => some (Value.int z)) ?_, rfl, rfl, rfl, rfl⟩
        rw [show nI 4 = 4 from by decide, does_4]
        unfold remS
        rw [max_nn, if_pos ⟨c22, c12⟩]
      | 5, _ =>
        refine rn_eqi 5 (by decide) ?_
        refine rn_tableIn 107 dX1_does_36 (by decide) (by decide) rfl rfl ?_
        refine r_iload1 dX1_does_107 ?_
        refine rn_iconst (3) dX1_does_108 (by decide) ?_
        refine rn_icmp_ne 122 dX1_does_109 rfl (fun c109 => ?_) (fun c109 => ?_)
        · refine r_iload4 dX1_does_122 ?_
          refine rn_iret dX1_does_124 rfl (Nat.zero_le _) (Nat.zero_le _) ?_
          refine ⟨congrArg (fun z => some (Value.int z)) ?_, rfl, rfl, rfl, rfl⟩
          rw [show nI 5 = 5 from by decide, does_5]
          rw [if_neg c109]
          exact (nn_of hhalf (by omega)).symm
        · refine r_iload4 dX1_does_112 ?_
          refine r_aload0 dX1_does_114 ?_
          refine gf_X1_15 dX1_does_115 rfl hG.1 ?_
          refine rn_eqi _ hm ?_
          refine rn_iadd dX1_does_118 ?_
          refine rn_goto 124 dX1_does_119 rfl ?_
          refine rn_iret dX1_does_124 rfl (Nat.zero_le _) (Nat.zero_le _) ?_
          refine ⟨congrArg (fun z => some (Value.int z)) ?_, rfl, rfl, rfl, rfl⟩
          rw [show nI 5 = 5 from by decide, does_5]
          rw [if_pos c109]
          exact (nn_of (n := rt / 2 + 10 + mi) (by rw [hhalf, nI_add]) (by omega)).symm
set_option maxRecDepth 4000 in
theorem ct_ccosts (d : Nat) {a : Nat} (hG : ShG Γ rv a) {ki mi : Nat} (hk : iv a 1 = nI ki) (ki1 : ki ≤ 5) (hm : iv a 2 = nI mi) (hm9 : mi ≤ 9) : Ct g l mX1_costs (d + 1) 0 0 [.ref a] Γ iv rv lv (qPI (costsS (nI ki) (nI mi)) Γ iv rv lv) := by
  refine Ct.of (by decide +kernel) (Nat.le_of_ble_eq_true rfl) (Nat.le_of_ble_eq_true rfl) ?_
  refine r_aload0 dX1_costs_0 ?_
  refine gf_X1_9 dX1_costs_1 rfl hG.1 ?_
  refine rn_eqi _ hk ?_
  match ki, ki1 with
  | 0, _ =>
    refine rn_eqi 0 (by decide) ?_
    refine rn_tableOut 68 dX1_costs_4 (by decide) rfl ?_
    refine rn_iconst (0) dX1_costs_68 (by decide) ?_
    refine rn_iret dX1_costs_69 rfl (Nat.zero_le _) (Nat.zero_le _) ?_
    refine ⟨congrArg (fun z => some (Value.int z)) ?_, rfl, rfl, rfl, rfl⟩
    rw [show nI 0 = 0 from by decide, costs_0]
  | 1, _ =>
    refine rn_eqi 1 (by decide) ?_
    refine rn_tableIn 40 dX1_costs_4 (by decide) (by decide) rfl rfl ?_
    refine r_aload0 dX1_costs_40 ?_
    refine gf_X1_15 dX1_costs_41 rfl hG.1 ?_
    refine rn_eqi _ hm ?_
    refine rn_iret dX1_costs_44 rfl (Nat.zero_le _) (Nat.zero_le _) ?_
    refine ⟨congrArg (fun z => some (Value.int z)) ?_, rfl, rfl, rfl, rfl⟩
    rw [show nI 1 = 1 from by decide, costs_1]
    exact (nn_of rfl (by omega)).symm
  | 2, _ =>
    refine rn_eqi 2 (by decide) ?_
    refine rn_tableIn 68 dX1_costs_4 (by decide) (by decide) rfl rfl ?_
    refine rn_iconst (0) dX1_costs_68 (by decide) ?_
    refine rn_iret dX1_costs_69 rfl (Nat.zero_le _) (Nat.zero_le _) ?_
    refine ⟨congrArg (fun z => some (Value.int z)) ?_, rfl, rfl, rfl, rfl⟩
    rw [show nI 2 = 2 from by decide, costs_2]
  | 3, _ =>
    refine rn_eqi 3 (by decide) ?_
    refine rn_tableIn 45 dX1_costs_4 (by decide) (by decide) rfl rfl ?_
    refine rn_iconst (2) dX1_costs_45 (by decide) ?_
    refine r_aload0 dX1_costs_46 ?_
    refine gf_X1_15 dX1_costs_47 rfl hG.1 ?_
    refine rn_eqi _ hm ?_
    refine rn_imul dX1_costs_50 ?_
    refine rn_iconst (5) dX1_costs_51 (by decide) ?_
    refine rn_iadd dX1_costs_52 ?_
    refine rn_iret dX1_costs_53 rfl (Nat.zero_le _) (Nat.zero_le _) ?_
    refine ⟨congrArg (fun z => some (Value.int z)) ?_, rfl, rfl, rfl, rfl⟩
    rw [show nI 3 = 3 from by decide, costs_3]
    exact (nn_of (n := 2 * mi + 5) (by rw [show (2 : Int32) = nI 2 by decide, pk_mul, show (5 : Int32) = nI 5 by decide, nI_add]) (by omega)).symm
  | 4, _ =>
    refine rn_eqi 4 (by decide) ?_
    refine rn_tableIn 54 dX1_costs_4 (by decide) (by decide) rfl rfl ?_
    refine rn_iconst (1) dX1_costs_54 (by decide) ?_
    refine rn_iret dX1_costs_55 rfl (Nat.zero_le _) (Nat.zero_le _) ?_
    refine ⟨congrArg (fun z => some (Value.int z)) ?_, rfl, rfl, rfl, rfl⟩
    rw [show nI 4 = 4 from by decide, costs_4]
  | 5, _ =>
    refine rn_eqi 5 (by decide) ?_
    refine rn_tableIn 56 dX1_costs_4 (by decide) (by decide) rfl rfl ?_
    refine rn_iconst (0) dX1_costs_56 (by decide) ?_
    refine r_aload0 dX1_costs_57 ?_
    refine gf_X1_15 dX1_costs_58 rfl hG.1 ?_
    refine rn_eqi _ hm ?_
    refine rn_bipush (10) dX1_costs_61 (by decide) ?_
    refine rn_isub dX1_costs_63 ?_
    refine rn_max dX1_costs_64 ml_X1_48 math_max (Nat.le_of_ble_eq_true rfl) (Nat.le_add_left _ _) (by show 100 ≤ 100 * _; omega) (Nat.zero_le _) (Nat.zero_le _) ?_
    refine rn_iret dX1_costs_67 rfl (Nat.zero_le _) (Nat.zero_le _) ?_
    refine ⟨congrArg (fun z => some (Value.int z)) ?_, rfl, rfl, rfl, rfl⟩
    rw [show nI 5 = 5 from by decide, costs_5]
    exact max_nn
set_option maxRecDepth 4000 in
theorem ct_forgetG (d : Nat) {a : Nat} (hG : ShG Γ rv a) : Ct g l mX1_forgetAnswers (d) 0 0 [.ref a] Γ iv rv lv (qCV Γ rv lv (fun iv' => iv' = up (up iv (a + 1) 0 (-1)) (a + 1) 1 (-1))) := by
  refine Ct.of (by decide +kernel) (Nat.le_of_ble_eq_true rfl) (Nat.le_of_ble_eq_true rfl) ?_
  refine r_aload0 dX1_forgetAnswers_0 ?_
  refine gf_X1_33 dX1_forgetAnswers_1 rfl hG.1 hG.2.1.1 ?_
  refine rn_iconst (0) dX1_forgetAnswers_4 (by decide) ?_
  refine rn_iconst (-1) dX1_forgetAnswers_5 (by decide) ?_
  refine rn_iast 0 dX1_forgetAnswers_6 hG.2.1.2 rfl (by decide) (by decide) ?_
  refine r_aload0 dX1_forgetAnswers_7 ?_
  refine gf_X1_33 dX1_forgetAnswers_8 rfl hG.1 hG.2.1.1 ?_
  refine rn_iconst (1) dX1_forgetAnswers_11 (by decide) ?_
  refine rn_iconst (-1) dX1_forgetAnswers_12 (by decide) ?_
  refine rn_iast 1 dX1_forgetAnswers_13 hG.2.1.2 rfl (by decide) (by decide) ?_
  refine rn_vret dX1_forgetAnswers_14 rfl (Nat.zero_le _) (Nat.zero_le _) ?_
  exact ⟨rfl, rfl, rfl, rfl, rfl⟩
set_option maxRecDepth 4000 in
theorem ct_gangOf (d : Nat) {r : Nat} (hS : ShRd Γ rv r) {γ : Nat} {G : Int32} (hG : G = nI γ) (hγ : γ < 2) : Ct g l mX3_gangOf (d) 0 0 [.ref r, .int G] Γ iv rv lv (qPR (r + 3 + 3 * γ) Γ iv rv lv) := by
  refine Ct.of (by decide +kernel) (Nat.le_of_ble_eq_true rfl) (Nat.le_of_ble_eq_true rfl) ?_
  refine r_iload1 dX3_gangOf_0 ?_
  refine rn_if_ne 11 dX3_gangOf_1 rfl (fun c1 => ?_) (fun c1 => ?_)
  · refine r_aload0 dX3_gangOf_11 ?_
    refine gf_X3_27 dX3_gangOf_12 rfl hS.1 hS.2.2.2.2.1.1 ?_
    refine rn_aret dX3_gangOf_15 rfl (Or.inl ⟨_, rfl⟩) (Nat.zero_le _) (Nat.zero_le _) ?_
    have hz : ¬ γ = 0 := by rw [hG, show (0 : Int32) = nI 0 by decide, nI_eq (by omega) (by decide)] at c1; exact c1
    refine ⟨by rw [show r + 3 + 3 * γ = r + 6 by omega], rfl, rfl, rfl, rfl⟩
  · refine r_aload0 dX3_gangOf_4 ?_
    refine gf_X3_23 dX3_gangOf_5 rfl hS.1 hS.2.2.2.1.1 ?_
    refine rn_goto 15 dX3_gangOf_8 rfl ?_
    refine rn_aret dX3_gangOf_15 rfl (Or.inl ⟨_, rfl⟩) (Nat.zero_le _) (Nat.zero_le _) ?_
    have hz : γ = 0 := by rw [hG, show (0 : Int32) = nI 0 by decide, nI_eq (by omega) (by decide)] at c1; exact c1
    refine ⟨by rw [show r + 3 + 3 * γ = r + 3 by omega], rfl, rfl, rfl, rfl⟩
set_option maxRecDepth 4000 in
theorem ct_groundOf (D : Nat) {r : Nat} (hS : ShRd Γ rv r) {ρ : IV} (hR : RC iv r ρ) {y : Nat} {Y : Int32} (hY : Y = nI y) (hy : y < 24) : Ct g l mX3_groundOf (D + 1) 0 0 [.ref r, .int Y] Γ iv rv lv (qPI (ρ 0 y) Γ iv rv lv) := by
  refine Ct.of (by decide +kernel) (Nat.le_of_ble_eq_true rfl) (Nat.le_of_ble_eq_true rfl) ?_
  refine r_iload1 dX3_groundOf_0 ?_
  refine cpiSN1 dX3_groundOf_1 os_X6_isYard rfl ml_X3_52 (Nat.zero_le _) (Nat.zero_le _) (Nat.zero_le _) (ct_isYard _ _) ?_
  refine rn_if_eq 16 dX3_groundOf_4 rfl (fun h => absurd h (by rw [bI_t ⟨by rw [hY]; exact nI_pos' (by omega), by rw [hY, show (24 : Int32) = nI 24 by decide]; exact nI_lt hy (by decide)⟩]; decide)) (fun _ => ?_)
  refine r_aload0 dX3_groundOf_7 ?_
  refine gf_X3_9 dX3_groundOf_8 rfl hS.1 hS.2.1.1 ?_
  refine r_iload1 dX3_groundOf_11 ?_
  refine rn_iald y dX3_groundOf_12 hS.2.1.2 hY hy (by decide) ?_
  refine rn_eqi (ρ 0 y) (hR.1 y hy).1 ?_
  refine rn_goto 17 dX3_groundOf_13 rfl ?_
  refine rn_iret dX3_groundOf_17 rfl (Nat.zero_le _) (Nat.zero_le _) ?_
  exact ⟨rfl, rfl, rfl, rfl, rfl⟩
set_option maxRecDepth 4000 in
theorem ct_ahead (d : Nat) {r : Nat} (hS : ShRd Γ rv r) {ρ : IV} (hR : RC iv r ρ) : Ct g l mX3_ahead (d) 0 0 [.ref r] Γ iv rv lv (qPI (aheadS ρ) Γ iv rv lv) := by
  refine Ct.of (by decide +kernel) (Nat.le_of_ble_eq_true rfl) (Nat.le_of_ble_eq_true rfl) ?_
  refine rn_bipush (24) dX3_ahead_0 (by decide) ?_
  refine r_aload0 dX3_ahead_2 ?_
  refine gf_X3_23 dX3_ahead_3 rfl hS.1 hS.2.2.2.1.1 ?_
  refine gf_X3_56 dX3_ahead_6 rfl hS.2.2.2.1.2.1 ?_
  refine rn_isub dX3_ahead_9 ?_
  refine r_aload0 dX3_ahead_10 ?_
  refine gf_X3_27 dX3_ahead_11 rfl hS.1 hS.2.2.2.2.1.1 ?_
  refine gf_X3_56 dX3_ahead_14 rfl hS.2.2.2.2.1.2.1 ?_
  refine rn_isub dX3_ahead_17 ?_
  refine rn_iret dX3_ahead_18 rfl (Nat.zero_le _) (Nat.zero_le _) ?_
  refine ⟨congrArg (fun z => some (Value.int z)) ?_, rfl, rfl, rfl, rfl⟩
  exact hR.ahead
theorem dn_iff_of {y : Int32} {v : Nat} (hv : v ≤ 24) : 23 - nI v < y ↔ 24 - nI v ≤ y := by
  have e : ∀ v, v ≤ 24 → (23 - nI v).toInt = 23 - (v : Int) ∧ (24 - nI v).toInt = 24 - (v : Int) := by decide +kernel
  rw [Int32.lt_iff_toInt_lt, Int32.le_iff_toInt_le, (e v hv).1, (e v hv).2]
  omega
set_option maxRecDepth 4000 in
theorem ct_doerOf (d : Nat) {r : Nat} (hS : ShRd Γ rv r) {ρ : IV} (hR : RC iv r ρ) (hg : GR ρ) (y : Int32) : Ct g l mX3_doerOf (d) 0 0 [.ref r, .int y] Γ iv rv lv (qPI (whoseS ρ y) Γ iv rv lv) := by
  refine Ct.of (by decide +kernel) (Nat.le_of_ble_eq_true rfl) (Nat.le_of_ble_eq_true rfl) ?_
  have dn_iff : 23 - ρ 3 4 < y ↔ 24 - ρ 3 4 ≤ y := by rw [hg.2.1]; exact dn_iff_of (by have := hg.2.2.1; omega)
  refine r_iload1 dX3_doerOf_0 ?_
  refine r_aload0 dX3_doerOf_1 ?_
  refine gf_X3_23 dX3_doerOf_2 rfl hS.1 hS.2.2.2.1.1 ?_
  refine gf_X3_56 dX3_doerOf_5 rfl hS.2.2.2.1.2.1 ?_
  refine rn_eqi (ρ 2 4) (hR.up0 4 (by decide) (by decide)) ?_
  refine rn_icmp_ge 13 dX3_doerOf_8 rfl (fun c8 => ?_) (fun c8 => ?_)
  · refine r_iload1 dX3_doerOf_13 ?_
    refine rn_bipush (23) dX3_doerOf_14 (by decide) ?_
    refine r_aload0 dX3_doerOf_16 ?_
    refine gf_X3_27 dX3_doerOf_17 rfl hS.1 hS.2.2.2.2.1.1 ?_
    refine gf_X3_56 dX3_doerOf_20 rfl hS.2.2.2.2.1.2.1 ?_
    refine rn_eqi (ρ 3 4) (hR.up1 4 (by decide) (by decide)) ?_
    refine rn_isub dX3_doerOf_23 ?_
    refine rn_icmp_le 31 dX3_doerOf_24 rfl (fun c24 => ?_) (fun c24 => ?_)
    · refine rn_iconst (-1) dX3_doerOf_31 (by decide) ?_
      refine rn_iret dX3_doerOf_32 rfl (Nat.zero_le _) (Nat.zero_le _) ?_
      refine ⟨congrArg (fun z => some (Value.int z)) ?_, rfl, rfl, rfl, rfl⟩
      unfold whoseS
      rw [if_neg (Int32.not_lt.mpr c8), if_neg (fun z => Int32.not_lt.mpr c24 (dn_iff.mpr z))]
    · refine rn_iconst (1) dX3_doerOf_27 (by decide) ?_
      refine rn_goto 32 dX3_doerOf_28 rfl ?_
      refine rn_iret dX3_doerOf_32 rfl (Nat.zero_le _) (Nat.zero_le _) ?_
      refine ⟨congrArg (fun z => some (Value.int z)) ?_, rfl, rfl, rfl, rfl⟩
      unfold whoseS
      rw [if_neg (Int32.not_lt.mpr c8), if_pos (dn_iff.mp (Int32.not_le.mp c24))]
  · refine rn_iconst (0) dX3_doerOf_11 (by decide) ?_
    refine rn_iret dX3_doerOf_12 rfl (Nat.zero_le _) (Nat.zero_le _) ?_
    refine ⟨congrArg (fun z => some (Value.int z)) ?_, rfl, rfl, rfl, rfl⟩
    unfold whoseS
    rw [if_pos (Int32.not_le.mp c8)]
set_option maxRecDepth 4000 in
theorem ct_paid (d : Nat) {r : Nat} (hS : ShRd Γ rv r) {ρ : IV} (hR : RC iv r ρ) : Ct g l mX3_paid (d) 0 0 [.ref r] Γ iv rv lv (qPI (ρ 2 6 + ρ 3 6) Γ iv rv lv) := by
  refine Ct.of (by decide +kernel) (Nat.le_of_ble_eq_true rfl) (Nat.le_of_ble_eq_true rfl) ?_
  refine r_aload0 dX3_paid_0 ?_
  refine gf_X3_23 dX3_paid_1 rfl hS.1 hS.2.2.2.1.1 ?_
  refine gf_X3_59 dX3_paid_4 rfl hS.2.2.2.1.2.1 ?_
  refine rn_eqi (ρ 2 6) (hR.up0 6 (by decide) (by decide)) ?_
  refine r_aload0 dX3_paid_7 ?_
  refine gf_X3_27 dX3_paid_8 rfl hS.1 hS.2.2.2.2.1.1 ?_
  refine gf_X3_59 dX3_paid_11 rfl hS.2.2.2.2.1.2.1 ?_
  refine rn_eqi (ρ 3 6) (hR.up1 6 (by decide) (by decide)) ?_
  refine rn_iadd dX3_paid_14 ?_
  refine rn_iret dX3_paid_15 rfl (Nat.zero_le _) (Nat.zero_le _) ?_
  exact ⟨rfl, rfl, rfl, rfl, rfl⟩
set_option maxRecDepth 4000 in
theorem ct_forgetR (D : Nat) {r : Nat} (hS : ShRd Γ rv r) : Ct g l mX3_forgetAnswers (D + 1) 0 0 [.ref r] Γ iv rv lv (qCV Γ rv lv (fun iv' => iv' = up (up (up (up iv (r + 4) 0 (-1)) (r + 4) 1 (-1)) (r + 7) 0 (-1)) (r + 7) 1 (-1))) := by
  refine Ct.of (by decide +kernel) (Nat.le_of_ble_eq_true rfl) (Nat.le_of_ble_eq_true rfl) ?_
  refine r_aload0 dX3_forgetAnswers_0 ?_
  refine gf_X3_23 dX3_forgetAnswers_1 rfl hS.1 hS.2.2.2.1.1 ?_
  refine ccvV0 dX3_forgetAnswers_4 ov_X1_forgetAnswers rfl ml_X3_109 hS.2.2.2.1.2.1 rfl (Nat.zero_le _) (Nat.zero_le _) (Nat.zero_le _) (ct_forgetG _ hS.2.2.2.1.2) (fun iv h4 => ?_)
  subst h4
  refine r_aload0 dX3_forgetAnswers_7 ?_
  refine gf_X3_27 dX3_forgetAnswers_8 rfl hS.1 hS.2.2.2.2.1.1 ?_
  refine ccvV0 dX3_forgetAnswers_11 ov_X1_forgetAnswers rfl ml_X3_109 hS.2.2.2.2.1.2.1 rfl (Nat.zero_le _) (Nat.zero_le _) (Nat.zero_le _) (ct_forgetG _ hS.2.2.2.2.1.2) (fun iv h11 => ?_)
  subst h11
  refine rn_vret dX3_forgetAnswers_14 rfl (Nat.zero_le _) (Nat.zero_le _) ?_
  exact ⟨rfl, rfl, rfl, rfl, rfl⟩
end CROAD
