/-! THE REFERENCE: grounds, taken -/
def grOK (z N k : Nat) : Prop := z + 2 * k + 2 ≤ N
def grN (it : Nat → Int32) (a : Int32) (N : Nat) : Nat → Nat → IV → Int32 → Int32 × IV
  | 0, _, ρ, c => (c, ρ)
  | m + 1, k, ρ, c => if 0 ≤ a ∧ a.toNatClampNeg + 2 * k + 2 ≤ N then grN it a N m (k + 1) (groundQ ρ (it (a.toNatClampNeg + 2 * k)) 0 (it (a.toNatClampNeg + 2 * k + 1))).2 (c + (if 0 ≤ (groundQ ρ (it (a.toNatClampNeg + 2 * k)) 0 (it (a.toNatClampNeg + 2 * k + 1))).1 then 1 else 0)) else (-12, ρ)
def groundsQ (ρ η : IV) (s so a n : Int32) : Int32 × IV := if (0 ≤ s ∧ s ≤ 3) ∧ (0 ≤ so ∧ so ≤ 2) ∧ 0 ≤ n ∧ n ≤ 20 then (if η s.toNatClampNeg 0 = -1 then (-11, ρ) else if η s.toNatClampNeg 0 = so then grN (fun i => η s.toNatClampNeg (2 + i)) a (η s.toNatClampNeg 1).toNatClampNeg n.toNatClampNeg 0 ρ 0 else (-13, ρ)) else (-2, ρ)
theorem gr_ix {a : Int32} {N k : Nat} (hN : N ≤ 40) (hk : k ≤ 20) (ha : 0 ≤ a) : a ≤ nI N - nI (2 * k) - 2 ↔ a.toNatClampNeg + 2 * k + 2 ≤ N := by
  have e : (nI N - nI (2 * k) - 2).toInt = (N : Int) - 2 * k - 2 := by
    rw [Int32.toInt_sub, pk_sub_toInt (by omega) (by omega), show (2 : Int32).toInt = 2 from by decide, Int.bmod_eq_of_le (by omega) (by omega)]
    omega
  rw [Int32.le_iff_toInt_le, e, ← (nnI ha).2.1]
  omega
def overS (x : Int32) : Int32 := if x = 0 then -1 else if x = 1 ∨ x = 2 then 0 else if x = 4 then 2 else 1
def undS : Nat → Nat → Bool := fun x k => x == k || (match x with
  | 1 => k == 0
  | 2 => k == 0
  | 3 => k == 1 || k == 0
  | 4 => k == 2 || k == 0
  | 5 => k == 1 || k == 0
  | _ => false)
def takenQ (ρ : IV) (G k : Int32) : Int32 := if 0 ≤ k ∧ k ≤ 5 then (if 0 ≤ G ∧ G ≤ 1 then (if undS (ρ (2 + G.toNatClampNeg) 1).toNatClampNeg k.toNatClampNeg = true then ρ (2 + G.toNatClampNeg) 2 else -13) else -11) else -2
section MHOST
variable {g : GS} {l : Launch} {Γ : Sh} {iv : IV} {rv : RV} {lv : LV}
set_option maxRecDepth 4000 in
theorem grs_loop {D : Nat} {Q : Qt} (hM : ShM Γ rv) {s so a nn : Int32} {sn N n0 : Nat} (hs : s = nI sn) (hs4 : sn < 4) (hN : nn = nI n0) (hn20 : n0 ≤ 20) (hN40 : N ≤ 40) {it : Nat → Int32} : ∀ (m k : Nat) (ρ iv : IV) (c x : Int32) (v7 : Value), k + m = n0 → x = nI k → v7.category = 1 → RM iv ρ → iv 96 sn = nI N → (∀ i, i < N → iv 97 (40 * sn + i) = it i) → (∀ (x : Int32) (iv' : IV), x = (grN it a N m k ρ c).1 → Off Rr iv iv' → RM iv' (grN it a N m k ρ c).2 → Q (some (.int x)) Γ iv' rv lv) → Rn g l mX7_grounds (rmA (D + 4) 0 0) Q 0 0 75 [.ref 75, .int s, .int so, .int a, .int nn, .int c, .int x, v7] [] Γ iv rv lv := by
  intro m
  induction m with
  | zero =>
    intro k ρ iv c x v7 hn e6 h7 hR h96 hit kk
    refine r_iload6 dX7_grounds_75 ?_
    refine r_iload4 dX7_grounds_77 ?_
    refine rn_icmp_ge 159 dX7_grounds_79 rfl (fun _ => ?_) (fun h => absurd (by rw [e6, hN]; exact nI_le (by omega) (by omega)) h)
    refine r_iload5 dX7_grounds_159 ?_
    refine rn_iret dX7_grounds_161 rfl (Nat.zero_le _) (Nat.zero_le _) ?_
    exact kk _ _ rfl Off.refl hR
  | succ m ih =>
    intro k ρ iv c x v7 hn e6 h7 hR h96 hit kk
    refine r_iload6 dX7_grounds_75 ?_
    refine r_iload4 dX7_grounds_77 ?_
    refine rn_icmp_ge 159 dX7_grounds_79 rfl (fun h => absurd h (fun z => by rw [e6, hN, nI_leI (by omega) (by omega)] at z; omega)) (fun _ => ?_)
    refine r_iload3 dX7_grounds_82 ?_
    refine rn_if_lt 103 dX7_grounds_83 rfl (fun c83 => ?_) (fun c83 => ?_)
    · refine rn_bipush (-12) dX7_grounds_103 (by decide) ?_
      refine rn_iret dX7_grounds_105 rfl (Nat.zero_le _) (Nat.zero_le _) ?_
      have ee : grN it a N (m + 1) k ρ c = (-12, ρ) := by rw [grN, if_neg (fun z => absurd z.1 (Int32.not_le.mpr c83))]
      rw [ee] at kk
      exact kk _ _ rfl Off.refl hR
    · refine r_iload3 dX7_grounds_86 ?_
      refine r_aload0 dX7_grounds_87 ?_
      refine gf_X7_81 dX7_grounds_88 rfl hM.1 (sm_sheetSize hM).1 ?_
      refine r_iload1 dX7_grounds_91 ?_
      refine rn_iald sn dX7_grounds_92 (sm_sheetSize hM).2 hs hs4 (by decide) ?_
      refine rn_eqi (nI N) h96 ?_
      refine rn_iconst (2) dX7_grounds_93 (by decide) ?_
      refine r_iload6 dX7_grounds_94 ?_
      refine rn_imul dX7_grounds_96 ?_
      refine rn_eqi (nI (2 * k)) (by rw [e6, show (2 : Int32) = nI 2 by decide, pk_mul]) ?_
      refine rn_isub dX7_grounds_97 ?_
      refine rn_iconst (2) dX7_grounds_98 (by decide) ?_
      refine rn_isub dX7_grounds_99 ?_
      refine rn_icmp_le 106 dX7_grounds_100 rfl (fun c100 => ?_) (fun c100 => ?_)
      · have ha0 := Int32.not_lt.mp c83
        have hal := (gr_ix hN40 (by omega) ha0).mp c100
        have hit1 := hit (a.toNatClampNeg + 2 * k) (by omega)
        have hit2 := hit (a.toNatClampNeg + 2 * k + 1) (by omega)
        refine rn_bipush (40) dX7_grounds_106 (by decide) ?_
        refine r_iload1 dX7_grounds_108 ?_
        refine rn_imul dX7_grounds_109 ?_
        refine r_iload3 dX7_grounds_110 ?_
        refine rn_iadd dX7_grounds_111 ?_
        refine rn_iconst (2) dX7_grounds_112 (by decide) ?_
        refine r_iload6 dX7_grounds_113 ?_
        refine rn_imul dX7_grounds_115 ?_
        refine rn_iadd dX7_grounds_116 ?_
        refine rn_eqi (nI (40 * sn + (a.toNatClampNeg + 2 * k))) (by rw [hs, e6, (nnI ha0).1, show (40 : Int32) = nI 40 by decide, show (2 : Int32) = nI 2 by decide, pk_mul, pk_mul, nI_add, nI_add, nI_clamp (nnI ha0).2.2, Nat.add_assoc]) ?_
        refine r_istore7 dX7_grounds_117 rfl ?_
        refine r_iload5 dX7_grounds_119 ?_
        refine r_aload0 dX7_grounds_121 ?_
        refine r_aload0 dX7_grounds_122 ?_
        refine gf_X7_84 dX7_grounds_123 rfl hM.1 (sm_items hM).1 ?_
        refine r_iload7 dX7_grounds_126 ?_
        refine rn_iald (40 * sn + (a.toNatClampNeg + 2 * k)) dX7_grounds_128 (sm_items hM).2 rfl (by omega) (by decide) ?_
        refine rn_eqi _ hit1 ?_
        refine rn_iconst (0) dX7_grounds_129 (by decide) ?_
        refine r_aload0 dX7_grounds_130 ?_
        refine gf_X7_84 dX7_grounds_131 rfl hM.1 (sm_items hM).1 ?_
        refine r_iload7 dX7_grounds_134 ?_
        refine rn_iconst (1) dX7_grounds_136 (by decide) ?_
        refine rn_iadd dX7_grounds_137 ?_
        refine rn_iald (40 * sn + (a.toNatClampNeg + 2 * k) + 1) dX7_grounds_138 (sm_items hM).2 (by rw [← nI_1]) (by omega) (by decide) ?_
        refine rn_eqi _ hit2 ?_
        refine cciV3 dX7_grounds_139 ov_X7_ground rfl ml_X7_369 hM.1 rfl (Nat.le_of_ble_eq_true rfl) (Nat.zero_le _) (Nat.zero_le _) (ct_mground (D + 1) hM hR _ _ _) (fun x139 iv2 h139 => ?_)
        refine rn_eqi _ h139.1 ?_
        refine rn_if_lt 149 dX7_grounds_142 rfl (fun c142 => ?_) (fun c142 => ?_)
        · refine rn_iconst (0) dX7_grounds_149 (by decide) ?_
          refine rn_iadd dX7_grounds_150 ?_
          refine r_istore5 dX7_grounds_151 rfl ?_
          refine r_iinc6 _ dX7_grounds_153 rfl rfl ?_
          refine rn_goto 75 dX7_grounds_156 rfl ?_
          have ee : grN it a N (m + 1) k ρ c = grN it a N m (k + 1) (groundQ ρ (it (a.toNatClampNeg + 2 * k)) 0 (it (a.toNatClampNeg + 2 * k + 1))).2 (c + 0) := by rw [grN, if_pos ⟨ha0, hal⟩, if_neg (Int32.not_le.mpr c142)]
          rw [ee] at kk
          exact ih (k + 1) _ iv2 _ _ _ (by omega) (by rw [e6]; exact nI_1 k) rfl h139.2.1 ((h139.2.2 96 sn (by omega)).trans h96) (fun i hi => (h139.2.2 97 _ (by omega)).trans (hit i hi)) (fun x iv3 hx ho hR3 => kk x iv3 hx (h139.2.2.trans ho) hR3)
        · refine rn_iconst (1) dX7_grounds_145 (by decide) ?_
          refine rn_goto 150 dX7_grounds_146 rfl ?_
          refine rn_iadd dX7_grounds_150 ?_
          refine r_istore5 dX7_grounds_151 rfl ?_
          refine r_iinc6 _ dX7_grounds_153 rfl rfl ?_
          refine rn_goto 75 dX7_grounds_156 rfl ?_
          have ee : grN it a N (m + 1) k ρ c = grN it a N m (k + 1) (groundQ ρ (it (a.toNatClampNeg + 2 * k)) 0 (it (a.toNatClampNeg + 2 * k + 1))).2 (c + 1) := by rw [grN, if_pos ⟨ha0, hal⟩, if_pos (Int32.not_lt.mp c142)]
          rw [ee] at kk
          exact ih (k + 1) _ iv2 _ _ _ (by omega) (by rw [e6]; exact nI_1 k) rfl h139.2.1 ((h139.2.2 96 sn (by omega)).trans h96) (fun i hi => (h139.2.2 97 _ (by omega)).trans (hit i hi)) (fun x iv3 hx ho hR3 => kk x iv3 hx (h139.2.2.trans ho) hR3)
      · refine rn_bipush (-12) dX7_grounds_103 (by decide) ?_
        refine rn_iret dX7_grounds_105 rfl (Nat.zero_le _) (Nat.zero_le _) ?_
        have ee : grN it a N (m + 1) k ρ c = (-12, ρ) := by rw [grN, if_neg (fun z => absurd ((gr_ix hN40 (by omega) z.1).mpr z.2) c100)]
        rw [ee] at kk
        exact kk _ _ rfl Off.refl hR
set_option maxRecDepth 4000 in
theorem ct_mgrounds (D : Nat) (hM : ShM Γ rv) {ρ η : IV} (hR : RM iv ρ) (hS : SheetsM iv η) (hgs : GSh η) (s so a n : Int32) : Ct g l mX7_grounds (D + 4) 0 0 [.ref 75, .int s, .int so, .int a, .int n] Γ iv rv lv (qCI Γ rv lv (fun x iv' => x = (groundsQ ρ η s so a n).1 ∧ RM iv' (groundsQ ρ η s so a n).2 ∧ Off Rr iv iv')) := by
  refine Ct.of (by decide +kernel) (Nat.le_of_ble_eq_true rfl) (Nat.le_of_ble_eq_true rfl) ?_
  refine r_iload1 dX7_grounds_0 ?_
  refine cpiS1 dX7_grounds_1 os_X7_isSheet rfl ml_X7_326 (Nat.zero_le _) (Nat.zero_le _) (Nat.zero_le _) (ct_misSheet _ _) ?_
  refine rn_if_eq 32 dX7_grounds_4 rfl (fun c4 => ?_) (fun c4 => ?_)
  · refine rn_bipush (-2) dX7_grounds_32 (by decide) ?_
    refine rn_iret dX7_grounds_34 rfl (Nat.zero_le _) (Nat.zero_le _) ?_
    have e : groundsQ ρ η s so a n = (-2, ρ) := by unfold groundsQ; rw [if_neg (fun z => bI_0.mp c4 z.1)]
    exact ⟨_, rfl, rfl, rfl, rfl, by rw [e], by rw [e]; exact hR, Off.refl⟩
  · refine r_iload2 dX7_grounds_7 ?_
    refine rn_i2l dX7_grounds_8 ?_
    refine rn_lconst (0) dX7_grounds_9 (by decide) ?_
    refine rn_ldc2 (v := _) dX7_grounds_10 cl_X7_322 ?_
    refine cpiS3 dX7_grounds_13 os_X7_in rfl ml_X7_96 (Nat.zero_le _) (Nat.zero_le _) (Nat.zero_le _) (ct_inI _ (a := 0) (b := 2) (by decide) (by decide)) ?_
    refine rn_if_eq 32 dX7_grounds_16 rfl (fun c16 => ?_) (fun c16 => ?_)
    · refine rn_bipush (-2) dX7_grounds_32 (by decide) ?_
      refine rn_iret dX7_grounds_34 rfl (Nat.zero_le _) (Nat.zero_le _) ?_
      have e : groundsQ ρ η s so a n = (-2, ρ) := by unfold groundsQ; rw [if_neg (fun z => bI_0.mp c16 z.2.1)]
      exact ⟨_, rfl, rfl, rfl, rfl, by rw [e], by rw [e]; exact hR, Off.refl⟩
    · refine r_iload4 dX7_grounds_19 ?_
      refine rn_i2l dX7_grounds_21 ?_
      refine rn_lconst (0) dX7_grounds_22 (by decide) ?_
      refine rn_ldc2 (v := _) dX7_grounds_23 cl_X7_367 ?_
      refine cpiS3 dX7_grounds_26 os_X7_in rfl ml_X7_96 (Nat.zero_le _) (Nat.zero_le _) (Nat.zero_le _) (ct_inI _ (a := 0) (b := 20) (by decide) (by decide)) ?_
      refine rn_if_ne 35 dX7_grounds_29 rfl (fun c29 => ?_) (fun c29 => ?_)
      · have hq1 := bI_1.mp (bI_or.resolve_left c4)
        have hq2 := bI_1.mp (bI_or.resolve_left c16)
        have hq3 := bI_1.mp (bI_or.resolve_left c29)
        have hs4 : s.toNatClampNeg < 4 := nB_lt 3 (by decide) hq1 (by decide)
        refine r_aload0 dX7_grounds_35 ?_
        refine gf_X7_74 dX7_grounds_36 rfl hM.1 (sm_isThere hM).1 ?_
        refine r_iload1 dX7_grounds_39 ?_
        refine rn_zald s.toNatClampNeg dX7_grounds_40 (sm_isThere hM).2 (nB 3 (by decide) hq1).1 hs4 (by decide) ?_
        refine rn_eqi _ (hS _ hs4).1 ?_
        refine rn_if_eq 57 dX7_grounds_41 rfl (fun c41 => ?_) (fun c41 => ?_)
        · refine r_aload0 dX7_grounds_57 ?_
          refine gf_X7_74 dX7_grounds_58 rfl hM.1 (sm_isThere hM).1 ?_
          refine r_iload1 dX7_grounds_61 ?_
          refine rn_zald s.toNatClampNeg dX7_grounds_62 (sm_isThere hM).2 (nB 3 (by decide) hq1).1 hs4 (by decide) ?_
          refine rn_eqi _ (hS _ hs4).1 ?_
          refine rn_if_ne 69 dX7_grounds_63 rfl (fun c63 => ?_) (fun c63 => ?_)
          · exact absurd (there_0 rfl c41) (there_1 rfl c63)
          · refine rn_bipush (-11) dX7_grounds_66 (by decide) ?_
            refine rn_iret dX7_grounds_68 rfl (Nat.zero_le _) (Nat.zero_le _) ?_
            have e : groundsQ ρ η s so a n = (-11, ρ) := by unfold groundsQ; rw [if_pos ⟨hq1, hq2, hq3⟩, if_pos (there_0 rfl c63)]
            exact ⟨_, rfl, rfl, rfl, rfl, by rw [e], by rw [e]; exact hR, Off.refl⟩
        · refine r_aload0 dX7_grounds_44 ?_
          refine gf_X7_78 dX7_grounds_45 rfl hM.1 (sm_sorts hM).1 ?_
          refine r_iload1 dX7_grounds_48 ?_
          refine rn_iald s.toNatClampNeg dX7_grounds_49 (sm_sorts hM).2 (nB 3 (by decide) hq1).1 hs4 (by decide) ?_
          refine rn_eqi _ ((hS _ hs4).2.1 (there_1 rfl c41)) ?_
          refine r_iload2 dX7_grounds_50 ?_
          refine rn_icmp_eq 57 dX7_grounds_51 rfl (fun c51 => ?_) (fun c51 => ?_)
          · refine r_aload0 dX7_grounds_57 ?_
            refine gf_X7_74 dX7_grounds_58 rfl hM.1 (sm_isThere hM).1 ?_
            refine r_iload1 dX7_grounds_61 ?_
            refine rn_zald s.toNatClampNeg dX7_grounds_62 (sm_isThere hM).2 (nB 3 (by decide) hq1).1 hs4 (by decide) ?_
            refine rn_eqi _ (hS _ hs4).1 ?_
            refine rn_if_ne 69 dX7_grounds_63 rfl (fun c63 => ?_) (fun c63 => ?_)
            · have hm := there_1 rfl c41
              have hsz := hgs.size hs4 hm
              refine rn_iconst (0) dX7_grounds_69 (by decide) ?_
              refine r_istore5 dX7_grounds_70 rfl ?_
              refine rn_iconst (0) dX7_grounds_72 (by decide) ?_
              refine r_istore6 dX7_grounds_73 rfl ?_
              have e : groundsQ ρ η s so a n = grN (fun i => η s.toNatClampNeg (2 + i)) a (η s.toNatClampNeg 1).toNatClampNeg n.toNatClampNeg 0 ρ 0 := by unfold groundsQ; rw [if_pos ⟨hq1, hq2, hq3⟩, if_neg hm, if_pos c51]
              exact grs_loop (it := fun i => η s.toNatClampNeg (2 + i)) hM (nB 3 (by decide) hq1).1 hs4 (nB 20 (by decide) hq3).1 (nB 20 (by decide) hq3).2 hsz.1 _ 0 ρ iv _ _ _ (Nat.zero_add _) rfl rfl hR (((hS _ hs4).2.2 hm).1.trans hsz.2) (fun i hi => ((hS _ hs4).2.2 hm).2 i hi) (fun x iv' hx ho hRn => ⟨_, rfl, rfl, rfl, rfl, by rw [e]; exact hx, by rw [e]; exact hRn, ho⟩)
            · refine rn_bipush (-11) dX7_grounds_66 (by decide) ?_
              refine rn_iret dX7_grounds_68 rfl (Nat.zero_le _) (Nat.zero_le _) ?_
              have e : groundsQ ρ η s so a n = (-11, ρ) := by unfold groundsQ; rw [if_pos ⟨hq1, hq2, hq3⟩, if_pos (there_0 rfl c63)]
              exact ⟨_, rfl, rfl, rfl, rfl, by rw [e], by rw [e]; exact hR, Off.refl⟩
          · refine rn_bipush (-13) dX7_grounds_54 (by decide) ?_
            refine rn_iret dX7_grounds_56 rfl (Nat.zero_le _) (Nat.zero_le _) ?_
            have e : groundsQ ρ η s so a n = (-13, ρ) := by unfold groundsQ; rw [if_pos ⟨hq1, hq2, hq3⟩, if_neg (there_1 rfl c41), if_neg c51]
            exact ⟨_, rfl, rfl, rfl, rfl, by rw [e], by rw [e]; exact hR, Off.refl⟩
      · refine rn_bipush (-2) dX7_grounds_32 (by decide) ?_
        refine rn_iret dX7_grounds_34 rfl (Nat.zero_le _) (Nat.zero_le _) ?_
        have e : groundsQ ρ η s so a n = (-2, ρ) := by unfold groundsQ; rw [if_neg (fun z => bI_0.mp c29 z.2.2)]
        exact ⟨_, rfl, rfl, rfl, rfl, by rw [e], by rw [e]; exact hR, Off.refl⟩
set_option maxRecDepth 4000 in
theorem ct_over (d : Nat) (x : Int32) : Ct g l mX7_over (d) 0 0 [.int x] Γ iv rv lv (qPI (overS x) Γ iv rv lv) := by
  refine Ct.of (by decide +kernel) (Nat.le_of_ble_eq_true rfl) (Nat.le_of_ble_eq_true rfl) ?_
  refine r_iload0 dX7_over_0 ?_
  refine rn_if_ne 8 dX7_over_1 rfl (fun c1 => ?_) (fun c1 => ?_)
  · refine r_iload0 dX7_over_8 ?_
    refine rn_iconst (1) dX7_over_9 (by decide) ?_
    refine rn_icmp_eq 18 dX7_over_10 rfl (fun c10 => ?_) (fun c10 => ?_)
    · refine rn_iconst (0) dX7_over_18 (by decide) ?_
      refine rn_goto 32 dX7_over_19 rfl ?_
      refine rn_iret dX7_over_32 rfl (Nat.zero_le _) (Nat.zero_le _) ?_
      refine ⟨congrArg (fun z => some (Value.int z)) ?_, rfl, rfl, rfl, rfl⟩
      unfold overS
      rw [if_neg c1, if_pos (Or.inl c10)]
    · refine r_iload0 dX7_over_13 ?_
      refine rn_iconst (2) dX7_over_14 (by decide) ?_
      refine rn_icmp_ne 22 dX7_over_15 rfl (fun c15 => ?_) (fun c15 => ?_)
      · refine r_iload0 dX7_over_22 ?_
        refine rn_iconst (4) dX7_over_23 (by decide) ?_
        refine rn_icmp_ne 31 dX7_over_24 rfl (fun c24 => ?_) (fun c24 => ?_)
        · refine rn_iconst (1) dX7_over_31 (by decide) ?_
          refine rn_iret dX7_over_32 rfl (Nat.zero_le _) (Nat.zero_le _) ?_
          refine ⟨congrArg (fun z => some (Value.int z)) ?_, rfl, rfl, rfl, rfl⟩
          unfold overS
          rw [if_neg c1, if_neg (fun z => z.elim c10 c15), if_neg c24]
        · refine rn_iconst (2) dX7_over_27 (by decide) ?_
          refine rn_goto 32 dX7_over_28 rfl ?_
          refine rn_iret dX7_over_32 rfl (Nat.zero_le _) (Nat.zero_le _) ?_
          refine ⟨congrArg (fun z => some (Value.int z)) ?_, rfl, rfl, rfl, rfl⟩
          unfold overS
          rw [if_neg c1, if_neg (fun z => z.elim c10 c15), if_pos c24]
      · refine rn_iconst (0) dX7_over_18 (by decide) ?_
        refine rn_goto 32 dX7_over_19 rfl ?_
        refine rn_iret dX7_over_32 rfl (Nat.zero_le _) (Nat.zero_le _) ?_
        refine ⟨congrArg (fun z => some (Value.int z)) ?_, rfl, rfl, rfl, rfl⟩
        unfold overS
        rw [if_neg c1, if_pos (Or.inr c15)]
  · refine rn_iconst (-1) dX7_over_4 (by decide) ?_
    refine rn_goto 32 dX7_over_5 rfl ?_
    refine rn_iret dX7_over_32 rfl (Nat.zero_le _) (Nat.zero_le _) ?_
    refine ⟨congrArg (fun z => some (Value.int z)) ?_, rfl, rfl, rfl, rfl⟩
    unfold overS
    rw [if_pos c1]
set_option maxRecDepth 4000 in
theorem ct_mtaken (D : Nat) (hM : ShM Γ rv) {ρ : IV} (hR : RM iv ρ) (hg : GR ρ) (G k : Int32) : Ct g l mX7_taken (D + 2) 0 0 [.ref 75, .int G, .int k] Γ iv rv lv (qPI (takenQ ρ G k) Γ iv rv lv) := by
  refine Ct.of (by decide +kernel) (Nat.le_of_ble_eq_true rfl) (Nat.le_of_ble_eq_true rfl) ?_
  refine r_iload2 dX7_taken_0 ?_
  refine rn_i2l dX7_taken_1 ?_
  refine rn_lconst (0) dX7_taken_2 (by decide) ?_
  refine rn_ldc2 (v := _) dX7_taken_3 cl_X7_117 ?_
  refine cpiS3 dX7_taken_6 os_X7_in rfl ml_X7_96 (Nat.zero_le _) (Nat.zero_le _) (Nat.zero_le _) (ct_inI _ (a := 0) (b := 5) (by decide) (by decide)) ?_
  refine rn_if_ne 15 dX7_taken_9 rfl (fun c9 => ?_) (fun c9 => ?_)
  · have hq1 := bI_1.mp (bI_or.resolve_left c9)
    refine r_iload1 dX7_taken_15 ?_
    refine cpiS1 dX7_taken_16 os_X7_isGang rfl ml_X7_114 (Nat.zero_le _) (Nat.zero_le _) (Nat.zero_le _) (ct_misGang _ _) ?_
    refine rn_if_ne 25 dX7_taken_19 rfl (fun c19 => ?_) (fun c19 => ?_)
    · have hq2 := bI_1.mp (bI_or.resolve_left c19)
      refine r_aload0 dX7_taken_25 ?_
      refine gf_X7_29 dX7_taken_26 rfl hM.1 (sm_kinds hM).1 ?_
      refine r_iload1 dX7_taken_29 ?_
      refine rn_iald G.toNatClampNeg dX7_taken_30 (sm_kinds hM).2 (g01 hq2).1 (g01 hq2).2 (by decide) ?_
      refine rn_eqi (ρ (2 + G.toNatClampNeg) 1) (hR.gang 1 (by decide) (by decide) (g01 hq2).2) ?_
      refine r_istore3 dX7_taken_31 rfl ?_
      obtain ⟨⟨kk, hk5, hkk⟩, -⟩ := hg.2.2.2.1 _ (g01 hq2).2
      rw [hkk]
      match kk, hk5, hkk with
      | 0, _, hkk =>
        have hkc : (ρ (2 + G.toNatClampNeg) 1).toNatClampNeg = 0 := by rw [hkk]; decide
        rcases cw5 hq1 with rfl | rfl | rfl | rfl | rfl | rfl
        · refine r_iload3 dX7_taken_32 ?_
          refine rn_iconst (-1) dX7_taken_33 (by decide) ?_
          refine rn_icmp_eq 50 dX7_taken_34 rfl (fun h => absurd h (by decide)) (fun _ => ?_)
          refine r_iload3 dX7_taken_37 ?_
          refine r_iload2 dX7_taken_38 ?_
          refine rn_icmp_eq 50 dX7_taken_39 rfl (fun _ => ?_) (fun h => absurd (by decide) h)
          refine r_iload3 dX7_taken_50 ?_
          refine r_iload2 dX7_taken_51 ?_
          refine rn_icmp_ne 64 dX7_taken_52 rfl (fun h => absurd (by decide) h) (fun _ => ?_)
          refine r_aload0 dX7_taken_55 ?_
          refine gf_X7_32 dX7_taken_56 rfl hM.1 (sm_numbers hM).1 ?_
          refine r_iload1 dX7_taken_59 ?_
          refine rn_iald G.toNatClampNeg dX7_taken_60 (sm_numbers hM).2 (g01 hq2).1 (g01 hq2).2 (by decide) ?_
          refine rn_eqi (ρ (2 + G.toNatClampNeg) 2) (hR.gang 2 (by decide) (by decide) (g01 hq2).2) ?_
          refine rn_goto 66 dX7_taken_61 rfl ?_
          refine rn_iret dX7_taken_66 rfl (Nat.zero_le _) (Nat.zero_le _) ?_
          refine ⟨congrArg (fun z => some (Value.int z)) ?_, rfl, rfl, rfl, rfl⟩
          unfold takenQ
          rw [if_pos hq1, if_pos hq2, hkc, if_pos (by decide)]
        · refine r_iload3 dX7_taken_32 ?_
          refine rn_iconst (-1) dX7_taken_33 (by decide) ?_
          refine rn_icmp_eq 50 dX7_taken_34 rfl (fun h => absurd h (by decide)) (fun _ => ?_)
          refine r_iload3 dX7_taken_37 ?_
          refine r_iload2 dX7_taken_38 ?_
          refine rn_icmp_eq 50 dX7_taken_39 rfl (fun h => absurd h (by decide)) (fun _ => ?_)
          refine r_iload3 dX7_taken_42 ?_
          refine cpiS1 dX7_taken_43 os_X7_over rfl ml_X7_372 (Nat.zero_le _) (Nat.zero_le _) (Nat.zero_le _) (ct_over _ _) ?_
          refine rn_eqi (-1) (by decide) ?_
          refine r_istore3 dX7_taken_46 rfl ?_
          refine rn_goto 32 dX7_taken_47 rfl ?_
          refine r_iload3 dX7_taken_32 ?_
          refine rn_iconst (-1) dX7_taken_33 (by decide) ?_
          refine rn_icmp_eq 50 dX7_taken_34 rfl (fun _ => ?_) (fun h => absurd (by decide) h)
          refine r_iload3 dX7_taken_50 ?_
          refine r_iload2 dX7_taken_51 ?_
          refine rn_icmp_ne 64 dX7_taken_52 rfl (fun _ => ?_) (fun h => absurd h (by decide))
          refine rn_bipush (-13) dX7_taken_64 (by decide) ?_
          refine rn_iret dX7_taken_66 rfl (Nat.zero_le _) (Nat.zero_le _) ?_
          refine ⟨congrArg (fun z => some (Value.int z)) ?_, rfl, rfl, rfl, rfl⟩
          unfold takenQ
          rw [if_pos hq1, if_pos hq2, hkc, if_neg (by decide)]
        · refine r_iload3 dX7_taken_32 ?_
          refine rn_iconst (-1) dX7_taken_33 (by decide) ?_
          refine rn_icmp_eq 50 dX7_taken_34 rfl (fun h => absurd h (by decide)) (fun _ => ?_)
          refine r_iload3 dX7_taken_37 ?_
          refine r_iload2 dX7_taken_38 ?_
          refine rn_icmp_eq 50 dX7_taken_39 rfl (fun h => absurd h (by decide)) (fun _ => ?_)
          refine r_iload3 dX7_taken_42 ?_
          refine cpiS1 dX7_taken_43 os_X7_over rfl ml_X7_372 (Nat.zero_le _) (Nat.zero_le _) (Nat.zero_le _) (ct_over _ _) ?_
          refine rn_eqi (-1) (by decide) ?_
          refine r_istore3 dX7_taken_46 rfl ?_
          refine rn_goto 32 dX7_taken_47 rfl ?_
          refine r_iload3 dX7_taken_32 ?_
          refine rn_iconst (-1) dX7_taken_33 (by decide) ?_
          refine rn_icmp_eq 50 dX7_taken_34 rfl (fun _ => ?_) (fun h => absurd (by decide) h)
          refine r_iload3 dX7_taken_50 ?_
          refine r_iload2 dX7_taken_51 ?_
          refine rn_icmp_ne 64 dX7_taken_52 rfl (fun _ => ?_) (fun h => absurd h (by decide))
          refine rn_bipush (-13) dX7_taken_64 (by decide) ?_
          refine rn_iret dX7_taken_66 rfl (Nat.zero_le _) (Nat.zero_le _) ?_
          refine ⟨congrArg (fun z => some (Value.int z)) ?_, rfl, rfl, rfl, rfl⟩
          unfold takenQ
          rw [if_pos hq1, if_pos hq2, hkc, if_neg (by decide)]
        · refine r_iload3 dX7_taken_32 ?_
          refine rn_iconst (-1) dX7_taken_33 (by decide) ?_
          refine rn_icmp_eq 50 dX7_taken_34 rfl (fun h => absurd h (by decide)) (fun _ => ?_)
          refine r_iload3 dX7_taken_37 ?_
          refine r_iload2 dX7_taken_38 ?_
          refine rn_icmp_eq 50 dX7_taken_39 rfl (fun h => absurd h (by decide)) (fun _ => ?_)
          refine r_iload3 dX7_taken_42 ?_
          refine cpiS1 dX7_taken_43 os_X7_over rfl ml_X7_372 (Nat.zero_le _) (Nat.zero_le _) (Nat.zero_le _) (ct_over _ _) ?_
          refine rn_eqi (-1) (by decide) ?_
          refine r_istore3 dX7_taken_46 rfl ?_
          refine rn_goto 32 dX7_taken_47 rfl ?_
          refine r_iload3 dX7_taken_32 ?_
          refine rn_iconst (-1) dX7_taken_33 (by decide) ?_
          refine rn_icmp_eq 50 dX7_taken_34 rfl (fun _ => ?_) (fun h => absurd (by decide) h)
          refine r_iload3 dX7_taken_50 ?_
          refine r_iload2 dX7_taken_51 ?_
          refine rn_icmp_ne 64 dX7_taken_52 rfl (fun _ => ?_) (fun h => absurd h (by decide))
          refine rn_bipush (-13) dX7_taken_64 (by decide) ?_
          refine rn_iret dX7_taken_66 rfl (Nat.zero_le _) (Nat.zero_le _) ?_
          refine ⟨congrArg (fun z => some (Value.int z)) ?_, rfl, rfl, rfl, rfl⟩
          unfold takenQ
          rw [if_pos hq1, if_pos hq2, hkc, if_neg (by decide)]
        · refine r_iload3 dX7_taken_32 ?_
          refine rn_iconst (-1) dX7_taken_33 (by decide) ?_
          refine rn_icmp_eq 50 dX7_taken_34 rfl (fun h => absurd h (by decide)) (fun _ => ?_)
          refine r_iload3 dX7_taken_37 ?_
          refine r_iload2 dX7_taken_38 ?_
          refine rn_icmp_eq 50 dX7_taken_39 rfl (fun h => absurd h (by decide)) (fun _ => ?_)
          refine r_iload3 dX7_taken_42 ?_
          refine cpiS1 dX7_taken_43 os_X7_over rfl ml_X7_372 (Nat.zero_le _) (Nat.zero_le _) (Nat.zero_le _) (ct_over _ _) ?_
          refine rn_eqi (-1) (by decide) ?_
          refine r_istore3 dX7_taken_46 rfl ?_
          refine rn_goto 32 dX7_taken_47 rfl ?_
          refine r_iload3 dX7_taken_32 ?_
          refine rn_iconst (-1) dX7_taken_33 (by decide) ?_
          refine rn_icmp_eq 50 dX7_taken_34 rfl (fun _ => ?_) (fun h => absurd (by decide) h)
          refine r_iload3 dX7_taken_50 ?_
          refine r_iload2 dX7_taken_51 ?_
          refine rn_icmp_ne 64 dX7_taken_52 rfl (fun _ => ?_) (fun h => absurd h (by decide))
          refine rn_bipush (-13) dX7_taken_64 (by decide) ?_
          refine rn_iret dX7_taken_66 rfl (Nat.zero_le _) (Nat.zero_le _) ?_
          refine ⟨congrArg (fun z => some (Value.int z)) ?_, rfl, rfl, rfl, rfl⟩
          unfold takenQ
          rw [if_pos hq1, if_pos hq2, hkc, if_neg (by decide)]
        · refine r_iload3 dX7_taken_32 ?_
          refine rn_iconst (-1) dX7_taken_33 (by decide) ?_
          refine rn_icmp_eq 50 dX7_taken_34 rfl (fun h => absurd h (by decide)) (fun _ => ?_)
          refine r_iload3 dX7_taken_37 ?_
          refine r_iload2 dX7_taken_38 ?_
          refine rn_icmp_eq 50 dX7_taken_39 rfl (fun h => absurd h (by decide)) (fun _ => ?_)
          refine r_iload3 dX7_taken_42 ?_
          refine cpiS1 dX7_taken_43 os_X7_over rfl ml_X7_372 (Nat.zero_le _) (Nat.zero_le _) (Nat.zero_le _) (ct_over _ _) ?_
          refine rn_eqi (-1) (by decide) ?_
          refine r_istore3 dX7_taken_46 rfl ?_
          refine rn_goto 32 dX7_taken_47 rfl ?_
          refine r_iload3 dX7_taken_32 ?_
          refine rn_iconst (-1) dX7_taken_33 (by decide) ?_
          refine rn_icmp_eq 50 dX7_taken_34 rfl (fun _ => ?_) (fun h => absurd (by decide) h)
          refine r_iload3 dX7_taken_50 ?_
          refine r_iload2 dX7_taken_51 ?_
          refine rn_icmp_ne 64 dX7_taken_52 rfl (fun _ => ?_) (fun h => absurd h (by decide))
          refine rn_bipush (-13) dX7_taken_64 (by decide) ?_
          refine rn_iret dX7_taken_66 rfl (Nat.zero_le _) (Nat.zero_le _) ?_
          refine ⟨congrArg (fun z => some (Value.int z)) ?_, rfl, rfl, rfl, rfl⟩
          unfold takenQ
          rw [if_pos hq1, if_pos hq2, hkc, if_neg (by decide)]
      | 1, _, hkk =>
        have hkc : (ρ (2 + G.toNatClampNeg) 1).toNatClampNeg = 1 := by rw [hkk]; decide
        rcases cw5 hq1 with rfl | rfl | rfl | rfl | rfl | rfl
        · refine r_iload3 dX7_taken_32 ?_
          refine rn_iconst (-1) dX7_taken_33 (by decide) ?_
          refine rn_icmp_eq 50 dX7_taken_34 rfl (fun h => absurd h (by decide)) (fun _ => ?_)
          refine r_iload3 dX7_taken_37 ?_
          refine r_iload2 dX7_taken_38 ?_
          refine rn_icmp_eq 50 dX7_taken_39 rfl (fun h => absurd h (by decide)) (fun _ => ?_)
          refine r_iload3 dX7_taken_42 ?_
          refine cpiS1 dX7_taken_43 os_X7_over rfl ml_X7_372 (Nat.zero_le _) (Nat.zero_le _) (Nat.zero_le _) (ct_over _ _) ?_
          refine rn_eqi (0) (by decide) ?_
          refine r_istore3 dX7_taken_46 rfl ?_
          refine rn_goto 32 dX7_taken_47 rfl ?_
          refine r_iload3 dX7_taken_32 ?_
          refine rn_iconst (-1) dX7_taken_33 (by decide) ?_
          refine rn_icmp_eq 50 dX7_taken_34 rfl (fun h => absurd h (by decide)) (fun _ => ?_)
          refine r_iload3 dX7_taken_37 ?_
          refine r_iload2 dX7_taken_38 ?_
          refine rn_icmp_eq 50 dX7_taken_39 rfl (fun _ => ?_) (fun h => absurd (by decide) h)
          refine r_iload3 dX7_taken_50 ?_
          refine r_iload2 dX7_taken_51 ?_
          refine rn_icmp_ne 64 dX7_taken_52 rfl (fun h => absurd (by decide) h) (fun _ => ?_)
          refine r_aload0 dX7_taken_55 ?_
          refine gf_X7_32 dX7_taken_56 rfl hM.1 (sm_numbers hM).1 ?_
          refine r_iload1 dX7_taken_59 ?_
          refine rn_iald G.toNatClampNeg dX7_taken_60 (sm_numbers hM).2 (g01 hq2).1 (g01 hq2).2 (by decide) ?_
          refine rn_eqi (ρ (2 + G.toNatClampNeg) 2) (hR.gang 2 (by decide) (by decide) (g01 hq2).2) ?_
          refine rn_goto 66 dX7_taken_61 rfl ?_
          refine rn_iret dX7_taken_66 rfl (Nat.zero_le _) (Nat.zero_le _) ?_
          refine ⟨congrArg (fun z => some (Value.int z)) ?_, rfl, rfl, rfl, rfl⟩
          unfold takenQ
          rw [if_pos hq1, if_pos hq2, hkc, if_pos (by decide)]
        · refine r_iload3 dX7_taken_32 ?_
          refine rn_iconst (-1) dX7_taken_33 (by decide) ?_
          refine rn_icmp_eq 50 dX7_taken_34 rfl (fun h => absurd h (by decide)) (fun _ => ?_)
          refine r_iload3 dX7_taken_37 ?_
          refine r_iload2 dX7_taken_38 ?_
          refine rn_icmp_eq 50 dX7_taken_39 rfl (fun _ => ?_) (fun h => absurd (by decide) h)
          refine r_iload3 dX7_taken_50 ?_
          refine r_iload2 dX7_taken_51 ?_
          refine rn_icmp_ne 64 dX7_taken_52 rfl (fun h => absurd (by decide) h) (fun _ => ?_)
          refine r_aload0 dX7_taken_55 ?_
          refine gf_X7_32 dX7_taken_56 rfl hM.1 (sm_numbers hM).1 ?_
          refine r_iload1 dX7_taken_59 ?_
          refine rn_iald G.toNatClampNeg dX7_taken_60 (sm_numbers hM).2 (g01 hq2).1 (g01 hq2).2 (by decide) ?_
          refine rn_eqi (ρ (2 + G.toNatClampNeg) 2) (hR.gang 2 (by decide) (by decide) (g01 hq2).2) ?_
          refine rn_goto 66 dX7_taken_61 rfl ?_
          refine rn_iret dX7_taken_66 rfl (Nat.zero_le _) (Nat.zero_le _) ?_
          refine ⟨congrArg (fun z => some (Value.int z)) ?_, rfl, rfl, rfl, rfl⟩
          unfold takenQ
          rw [if_pos hq1, if_pos hq2, hkc, if_pos (by decide)]
        · refine r_iload3 dX7_taken_32 ?_
          refine rn_iconst (-1) dX7_taken_33 (by decide) ?_
          refine rn_icmp_eq 50 dX7_taken_34 rfl (fun h => absurd h (by decide)) (fun _ => ?_)
          refine r_iload3 dX7_taken_37 ?_
          refine r_iload2 dX7_taken_38 ?_
          refine rn_icmp_eq 50 dX7_taken_39 rfl (fun h => absurd h (by decide)) (fun _ => ?_)
          refine r_iload3 dX7_taken_42 ?_
          refine cpiS1 dX7_taken_43 os_X7_over rfl ml_X7_372 (Nat.zero_le _) (Nat.zero_le _) (Nat.zero_le _) (ct_over _ _) ?_
          refine rn_eqi (0) (by decide) ?_
          refine r_istore3 dX7_taken_46 rfl ?_
          refine rn_goto 32 dX7_taken_47 rfl ?_
          refine r_iload3 dX7_taken_32 ?_
          refine rn_iconst (-1) dX7_taken_33 (by decide) ?_
          refine rn_icmp_eq 50 dX7_taken_34 rfl (fun h => absurd h (by decide)) (fun _ => ?_)
          refine r_iload3 dX7_taken_37 ?_
          refine r_iload2 dX7_taken_38 ?_
          refine rn_icmp_eq 50 dX7_taken_39 rfl (fun h => absurd h (by decide)) (fun _ => ?_)
          refine r_iload3 dX7_taken_42 ?_
          refine cpiS1 dX7_taken_43 os_X7_over rfl ml_X7_372 (Nat.zero_le _) (Nat.zero_le _) (Nat.zero_le _) (ct_over _ _) ?_
          refine rn_eqi (-1) (by decide) ?_
          refine r_istore3 dX7_taken_46 rfl ?_
          refine rn_goto 32 dX7_taken_47 rfl ?_
          refine r_iload3 dX7_taken_32 ?_
          refine rn_iconst (-1) dX7_taken_33 (by decide) ?_
          refine rn_icmp_eq 50 dX7_taken_34 rfl (fun _ => ?_) (fun h => absurd (by decide) h)
          refine r_iload3 dX7_taken_50 ?_
          refine r_iload2 dX7_taken_51 ?_
          refine rn_icmp_ne 64 dX7_taken_52 rfl (fun _ => ?_) (fun h => absurd h (by decide))
          refine rn_bipush (-13) dX7_taken_64 (by decide) ?_
          refine rn_iret dX7_taken_66 rfl (Nat.zero_le _) (Nat.zero_le _) ?_
          refine ⟨congrArg (fun z => some (Value.int z)) ?_, rfl, rfl, rfl, rfl⟩
          unfold takenQ
          rw [if_pos hq1, if_pos hq2, hkc, if_neg (by decide)]
        · refine r_iload3 dX7_taken_32 ?_
          refine rn_iconst (-1) dX7_taken_33 (by decide) ?_
          refine rn_icmp_eq 50 dX7_taken_34 rfl (fun h => absurd h (by decide)) (fun _ => ?_)
          refine r_iload3 dX7_taken_37 ?_
          refine r_iload2 dX7_taken_38 ?_
          refine rn_icmp_eq 50 dX7_taken_39 rfl (fun h => absurd h (by decide)) (fun _ => ?_)
          refine r_iload3 dX7_taken_42 ?_
          refine cpiS1 dX7_taken_43 os_X7_over rfl ml_X7_372 (Nat.zero_le _) (Nat.zero_le _) (Nat.zero_le _) (ct_over _ _) ?_
          refine rn_eqi (0) (by decide) ?_
          refine r_istore3 dX7_taken_46 rfl ?_
          refine rn_goto 32 dX7_taken_47 rfl ?_
          refine r_iload3 dX7_taken_32 ?_
          refine rn_iconst (-1) dX7_taken_33 (by decide) ?_
          refine rn_icmp_eq 50 dX7_taken_34 rfl (fun h => absurd h (by decide)) (fun _ => ?_)
          refine r_iload3 dX7_taken_37 ?_
          refine r_iload2 dX7_taken_38 ?_
          refine rn_icmp_eq 50 dX7_taken_39 rfl (fun h => absurd h (by decide)) (fun _ => ?_)
          refine r_iload3 dX7_taken_42 ?_
          refine cpiS1 dX7_taken_43 os_X7_over rfl ml_X7_372 (Nat.zero_le _) (Nat.zero_le _) (Nat.zero_le _) (ct_over _ _) ?_
          refine rn_eqi (-1) (by decide) ?_
          refine r_istore3 dX7_taken_46 rfl ?_
          refine rn_goto 32 dX7_taken_47 rfl ?_
          refine r_iload3 dX7_taken_32 ?_
          refine rn_iconst (-1) dX7_taken_33 (by decide) ?_
          refine rn_icmp_eq 50 dX7_taken_34 rfl (fun _ => ?_) (fun h => absurd (by decide) h)
          refine r_iload3 dX7_taken_50 ?_
          refine r_iload2 dX7_taken_51 ?_
          refine rn_icmp_ne 64 dX7_taken_52 rfl (fun _ => ?_) (fun h => absurd h (by decide))
          refine rn_bipush (-13) dX7_taken_64 (by decide) ?_
          refine rn_iret dX7_taken_66 rfl (Nat.zero_le _) (Nat.zero_le _) ?_
          refine ⟨congrArg (fun z => some (Value.int z)) ?_, rfl, rfl, rfl, rfl⟩
          unfold takenQ
          rw [if_pos hq1, if_pos hq2, hkc, if_neg (by decide)]
        · refine r_iload3 dX7_taken_32 ?_
          refine rn_iconst (-1) dX7_taken_33 (by decide) ?_
          refine rn_icmp_eq 50 dX7_taken_34 rfl (fun h => absurd h (by decide)) (fun _ => ?_)
          refine r_iload3 dX7_taken_37 ?_
          refine r_iload2 dX7_taken_38 ?_
          refine rn_icmp_eq 50 dX7_taken_39 rfl (fun h => absurd h (by decide)) (fun _ => ?_)
          refine r_iload3 dX7_taken_42 ?_
          refine cpiS1 dX7_taken_43 os_X7_over rfl ml_X7_372 (Nat.zero_le _) (Nat.zero_le _) (Nat.zero_le _) (ct_over _ _) ?_
          refine rn_eqi (0) (by decide) ?_
          refine r_istore3 dX7_taken_46 rfl ?_
          refine rn_goto 32 dX7_taken_47 rfl ?_
          refine r_iload3 dX7_taken_32 ?_
          refine rn_iconst (-1) dX7_taken_33 (by decide) ?_
          refine rn_icmp_eq 50 dX7_taken_34 rfl (fun h => absurd h (by decide)) (fun _ => ?_)
          refine r_iload3 dX7_taken_37 ?_
          refine r_iload2 dX7_taken_38 ?_
          refine rn_icmp_eq 50 dX7_taken_39 rfl (fun h => absurd h (by decide)) (fun _ => ?_)
          refine r_iload3 dX7_taken_42 ?_
          refine cpiS1 dX7_taken_43 os_X7_over rfl ml_X7_372 (Nat.zero_le _) (Nat.zero_le _) (Nat.zero_le _) (ct_over _ _) ?_
          refine rn_eqi (-1) (by decide) ?_
          refine r_istore3 dX7_taken_46 rfl ?_
          refine rn_goto 32 dX7_taken_47 rfl ?_
          refine r_iload3 dX7_taken_32 ?_
          refine rn_iconst (-1) dX7_taken_33 (by decide) ?_
          refine rn_icmp_eq 50 dX7_taken_34 rfl (fun _ => ?_) (fun h => absurd (by decide) h)
          refine r_iload3 dX7_taken_50 ?_
          refine r_iload2 dX7_taken_51 ?_
          refine rn_icmp_ne 64 dX7_taken_52 rfl (fun _ => ?_) (fun h => absurd h (by decide))
          refine rn_bipush (-13) dX7_taken_64 (by decide) ?_
          refine rn_iret dX7_taken_66 rfl (Nat.zero_le _) (Nat.zero_le _) ?_
          refine ⟨congrArg (fun z => some (Value.int z)) ?_, rfl, rfl, rfl, rfl⟩
          unfold takenQ
          rw [if_pos hq1, if_pos hq2, hkc, if_neg (by decide)]
        · refine r_iload3 dX7_taken_32 ?_
          refine rn_iconst (-1) dX7_taken_33 (by decide) ?_
          refine rn_icmp_eq 50 dX7_taken_34 rfl (fun h => absurd h (by decide)) (fun _ => ?_)
          refine r_iload3 dX7_taken_37 ?_
          refine r_iload2 dX7_taken_38 ?_
          refine rn_icmp_eq 50 dX7_taken_39 rfl (fun h => absurd h (by decide)) (fun _ => ?_)
          refine r_iload3 dX7_taken_42 ?_
          refine cpiS1 dX7_taken_43 os_X7_over rfl ml_X7_372 (Nat.zero_le _) (Nat.zero_le _) (Nat.zero_le _) (ct_over _ _) ?_
          refine rn_eqi (0) (by decide) ?_
          refine r_istore3 dX7_taken_46 rfl ?_
          refine rn_goto 32 dX7_taken_47 rfl ?_
          refine r_iload3 dX7_taken_32 ?_
          refine rn_iconst (-1) dX7_taken_33 (by decide) ?_
          refine rn_icmp_eq 50 dX7_taken_34 rfl (fun h => absurd h (by decide)) (fun _ => ?_)
          refine r_iload3 dX7_taken_37 ?_
          refine r_iload2 dX7_taken_38 ?_
          refine rn_icmp_eq 50 dX7_taken_39 rfl (fun h => absurd h (by decide)) (fun _ => ?_)
          refine r_iload3 dX7_taken_42 ?_
          refine cpiS1 dX7_taken_43 os_X7_over rfl ml_X7_372 (Nat.zero_le _) (Nat.zero_le _) (Nat.zero_le _) (ct_over _ _) ?_
          refine rn_eqi (-1) (by decide) ?_
          refine r_istore3 dX7_taken_46 rfl ?_
          refine rn_goto 32 dX7_taken_47 rfl ?_
          refine r_iload3 dX7_taken_32 ?_
          refine rn_iconst (-1) dX7_taken_33 (by decide) ?_
          refine rn_icmp_eq 50 dX7_taken_34 rfl (fun _ => ?_) (fun h => absurd (by decide) h)
          refine r_iload3 dX7_taken_50 ?_
          refine r_iload2 dX7_taken_51 ?_
          refine rn_icmp_ne 64 dX7_taken_52 rfl (fun _ => ?_) (fun h => absurd h (by decide))
          refine rn_bipush (-13) dX7_taken_64 (by decide) ?_
          refine rn_iret dX7_taken_66 rfl (Nat.zero_le _) (Nat.zero_le _) ?_
          refine ⟨congrArg (fun z => some (Value.int z)) ?_, rfl, rfl, rfl, rfl⟩
          unfold takenQ
          rw [if_pos hq1, if_pos hq2, hkc, if_neg (by decide)]
      | 2, _, hkk =>
        have hkc : (ρ (2 + G.toNatClampNeg) 1).toNatClampNeg = 2 := by rw [hkk]; decide
        rcases cw5 hq1 with rfl | rfl | rfl | rfl | rfl | rfl
        · refine r_iload3 dX7_taken_32 ?_
          refine rn_iconst (-1) dX7_taken_33 (by decide) ?_
          refine rn_icmp_eq 50 dX7_taken_34 rfl (fun h => absurd h (by decide)) (fun _ => ?_)
          refine r_iload3 dX7_taken_37 ?_
          refine r_iload2 dX7_taken_38 ?_
          refine rn_icmp_eq 50 dX7_taken_39 rfl (fun h => absurd h (by decide)) (fun _ => ?_)
          refine r_iload3 dX7_taken_42 ?_
          refine cpiS1 dX7_taken_43 os_X7_over rfl ml_X7_372 (Nat.zero_le _) (Nat.zero_le _) (Nat.zero_le _) (ct_over _ _) ?_
          refine rn_eqi (0) (by decide) ?_
          refine r_istore3 dX7_taken_46 rfl ?_
          refine rn_goto 32 dX7_taken_47 rfl ?_
          refine r_iload3 dX7_taken_32 ?_
          refine rn_iconst (-1) dX7_taken_33 (by decide) ?_
          refine rn_icmp_eq 50 dX7_taken_34 rfl (fun h => absurd h (by decide)) (fun _ => ?_)
          refine r_iload3 dX7_taken_37 ?_
          refine r_iload2 dX7_taken_38 ?_
          refine rn_icmp_eq 50 dX7_taken_39 rfl (fun _ => ?_) (fun h => absurd (by decide) h)
          refine r_iload3 dX7_taken_50 ?_
          refine r_iload2 dX7_taken_51 ?_
          refine rn_icmp_ne 64 dX7_taken_52 rfl (fun h => absurd (by decide) h) (fun _ => ?_)
          refine r_aload0 dX7_taken_55 ?_
          refine gf_X7_32 dX7_taken_56 rfl hM.1 (sm_numbers hM).1 ?_
          refine r_iload1 dX7_taken_59 ?_
          refine rn_iald G.toNatClampNeg dX7_taken_60 (sm_numbers hM).2 (g01 hq2).1 (g01 hq2).2 (by decide) ?_
          refine rn_eqi (ρ (2 + G.toNatClampNeg) 2) (hR.gang 2 (by decide) (by decide) (g01 hq2).2) ?_
          refine rn_goto 66 dX7_taken_61 rfl ?_
          refine rn_iret dX7_taken_66 rfl (Nat.zero_le _) (Nat.zero_le _) ?_
          refine ⟨congrArg (fun z => some (Value.int z)) ?_, rfl, rfl, rfl, rfl⟩
          unfold takenQ
          rw [if_pos hq1, if_pos hq2, hkc, if_pos (by decide)]
        · refine r_iload3 dX7_taken_32 ?_
          refine rn_iconst (-1) dX7_taken_33 (by decide) ?_
          refine rn_icmp_eq 50 dX7_taken_34 rfl (fun h => absurd h (by decide)) (fun _ => ?_)
          refine r_iload3 dX7_taken_37 ?_
          refine r_iload2 dX7_taken_38 ?_
          refine rn_icmp_eq 50 dX7_taken_39 rfl (fun h => absurd h (by decide)) (fun _ => ?_)
          refine r_iload3 dX7_taken_42 ?_
          refine cpiS1 dX7_taken_43 os_X7_over rfl ml_X7_372 (Nat.zero_le _) (Nat.zero_le _) (Nat.zero_le _) (ct_over _ _) ?_
          refine rn_eqi (0) (by decide) ?_
          refine r_istore3 dX7_taken_46 rfl ?_
          refine rn_goto 32 dX7_taken_47 rfl ?_
          refine r_iload3 dX7_taken_32 ?_
          refine rn_iconst (-1) dX7_taken_33 (by decide) ?_
          refine rn_icmp_eq 50 dX7_taken_34 rfl (fun h => absurd h (by decide)) (fun _ => ?_)
          refine r_iload3 dX7_taken_37 ?_
          refine r_iload2 dX7_taken_38 ?_
          refine rn_icmp_eq 50 dX7_taken_39 rfl (fun h => absurd h (by decide)) (fun _ => ?_)
          refine r_iload3 dX7_taken_42 ?_
          refine cpiS1 dX7_taken_43 os_X7_over rfl ml_X7_372 (Nat.zero_le _) (Nat.zero_le _) (Nat.zero_le _) (ct_over _ _) ?_
          refine rn_eqi (-1) (by decide) ?_
          refine r_istore3 dX7_taken_46 rfl ?_
          refine rn_goto 32 dX7_taken_47 rfl ?_
          refine r_iload3 dX7_taken_32 ?_
          refine rn_iconst (-1) dX7_taken_33 (by decide) ?_
          refine rn_icmp_eq 50 dX7_taken_34 rfl (fun _ => ?_) (fun h => absurd (by decide) h)
          refine r_iload3 dX7_taken_50 ?_
          refine r_iload2 dX7_taken_51 ?_
          refine rn_icmp_ne 64 dX7_taken_52 rfl (fun _ => ?_) (fun h => absurd h (by decide))
          refine rn_bipush (-13) dX7_taken_64 (by decide) ?_
          refine rn_iret dX7_taken_66 rfl (Nat.zero_le _) (Nat.zero_le _) ?_
          refine ⟨congrArg (fun z => some (Value.int z)) ?_, rfl, rfl, rfl, rfl⟩
          unfold takenQ
          rw [if_pos hq1, if_pos hq2, hkc, if_neg (by decide)]
        · refine r_iload3 dX7_taken_32 ?_
          refine rn_iconst (-1) dX7_taken_33 (by decide) ?_
          refine rn_icmp_eq 50 dX7_taken_34 rfl (fun h => absurd h (by decide)) (fun _ => ?_)
          refine r_iload3 dX7_taken_37 ?_
          refine r_iload2 dX7_taken_38 ?_
          refine rn_icmp_eq 50 dX7_taken_39 rfl (fun _ => ?_) (fun h => absurd (by decide) h)
          refine r_iload3 dX7_taken_50 ?_
          refine r_iload2 dX7_taken_51 ?_
          refine rn_icmp_ne 64 dX7_taken_52 rfl (fun h => absurd (by decide) h) (fun _ => ?_)
          refine r_aload0 dX7_taken_55 ?_
          refine gf_X7_32 dX7_taken_56 rfl hM.1 (sm_numbers hM).1 ?_
          refine r_iload1 dX7_taken_59 ?_
          refine rn_iald G.toNatClampNeg dX7_taken_60 (sm_numbers hM).2 (g01 hq2).1 (g01 hq2).2 (by decide) ?_
          refine rn_eqi (ρ (2 + G.toNatClampNeg) 2) (hR.gang 2 (by decide) (by decide) (g01 hq2).2) ?_
          refine rn_goto 66 dX7_taken_61 rfl ?_
          refine rn_iret dX7_taken_66 rfl (Nat.zero_le _) (Nat.zero_le _) ?_
          refine ⟨congrArg (fun z => some (Value.int z)) ?_, rfl, rfl, rfl, rfl⟩
          unfold takenQ
          rw [if_pos hq1, if_pos hq2, hkc, if_pos (by decide)]
        · refine r_iload3 dX7_taken_32 ?_
          refine rn_iconst (-1) dX7_taken_33 (by decide) ?_
          refine rn_icmp_eq 50 dX7_taken_34 rfl (fun h => absurd h (by decide)) (fun _ => ?_)
          refine r_iload3 dX7_taken_37 ?_
          refine r_iload2 dX7_taken_38 ?_
          refine rn_icmp_eq 50 dX7_taken_39 rfl (fun h => absurd h (by decide)) (fun _ => ?_)
          refine r_iload3 dX7_taken_42 ?_
          refine cpiS1 dX7_taken_43 os_X7_over rfl ml_X7_372 (Nat.zero_le _) (Nat.zero_le _) (Nat.zero_le _) (ct_over _ _) ?_
          refine rn_eqi (0) (by decide) ?_
          refine r_istore3 dX7_taken_46 rfl ?_
          refine rn_goto 32 dX7_taken_47 rfl ?_
          refine r_iload3 dX7_taken_32 ?_
          refine rn_iconst (-1) dX7_taken_33 (by decide) ?_
          refine rn_icmp_eq 50 dX7_taken_34 rfl (fun h => absurd h (by decide)) (fun _ => ?_)
          refine r_iload3 dX7_taken_37 ?_
          refine r_iload2 dX7_taken_38 ?_
          refine rn_icmp_eq 50 dX7_taken_39 rfl (fun h => absurd h (by decide)) (fun _ => ?_)
          refine r_iload3 dX7_taken_42 ?_
          refine cpiS1 dX7_taken_43 os_X7_over rfl ml_X7_372 (Nat.zero_le _) (Nat.zero_le _) (Nat.zero_le _) (ct_over _ _) ?_
          refine rn_eqi (-1) (by decide) ?_
          refine r_istore3 dX7_taken_46 rfl ?_
          refine rn_goto 32 dX7_taken_47 rfl ?_
          refine r_iload3 dX7_taken_32 ?_
          refine rn_iconst (-1) dX7_taken_33 (by decide) ?_
          refine rn_icmp_eq 50 dX7_taken_34 rfl (fun _ => ?_) (fun h => absurd (by decide) h)
          refine r_iload3 dX7_taken_50 ?_
          refine r_iload2 dX7_taken_51 ?_
          refine rn_icmp_ne 64 dX7_taken_52 rfl (fun _ => ?_) (fun h => absurd h (by decide))
          refine rn_bipush (-13) dX7_taken_64 (by decide) ?_
          refine rn_iret dX7_taken_66 rfl (Nat.zero_le _) (Nat.zero_le _) ?_
          refine ⟨congrArg (fun z => some (Value.int z)) ?_, rfl, rfl, rfl, rfl⟩
          unfold takenQ
          rw [if_pos hq1, if_pos hq2, hkc, if_neg (by decide)]
        · refine r_iload3 dX7_taken_32 ?_
          refine rn_iconst (-1) dX7_taken_33 (by decide) ?_
          refine rn_icmp_eq 50 dX7_taken_34 rfl (fun h => absurd h (by decide)) (fun _ => ?_)
          refine r_iload3 dX7_taken_37 ?_
          refine r_iload2 dX7_taken_38 ?_
          refine rn_icmp_eq 50 dX7_taken_39 rfl (fun h => absurd h (by decide)) (fun _ => ?_)
          refine r_iload3 dX7_taken_42 ?_
          refine cpiS1 dX7_taken_43 os_X7_over rfl ml_X7_372 (Nat.zero_le _) (Nat.zero_le _) (Nat.zero_le _) (ct_over _ _) ?_
          refine rn_eqi (0) (by decide) ?_
          refine r_istore3 dX7_taken_46 rfl ?_
          refine rn_goto 32 dX7_taken_47 rfl ?_
          refine r_iload3 dX7_taken_32 ?_
          refine rn_iconst (-1) dX7_taken_33 (by decide) ?_
          refine rn_icmp_eq 50 dX7_taken_34 rfl (fun h => absurd h (by decide)) (fun _ => ?_)
          refine r_iload3 dX7_taken_37 ?_
          refine r_iload2 dX7_taken_38 ?_
          refine rn_icmp_eq 50 dX7_taken_39 rfl (fun h => absurd h (by decide)) (fun _ => ?_)
          refine r_iload3 dX7_taken_42 ?_
          refine cpiS1 dX7_taken_43 os_X7_over rfl ml_X7_372 (Nat.zero_le _) (Nat.zero_le _) (Nat.zero_le _) (ct_over _ _) ?_
          refine rn_eqi (-1) (by decide) ?_
          refine r_istore3 dX7_taken_46 rfl ?_
          refine rn_goto 32 dX7_taken_47 rfl ?_
          refine r_iload3 dX7_taken_32 ?_
          refine rn_iconst (-1) dX7_taken_33 (by decide) ?_
          refine rn_icmp_eq 50 dX7_taken_34 rfl (fun _ => ?_) (fun h => absurd (by decide) h)
          refine r_iload3 dX7_taken_50 ?_
          refine r_iload2 dX7_taken_51 ?_
          refine rn_icmp_ne 64 dX7_taken_52 rfl (fun _ => ?_) (fun h => absurd h (by decide))
          refine rn_bipush (-13) dX7_taken_64 (by decide) ?_
          refine rn_iret dX7_taken_66 rfl (Nat.zero_le _) (Nat.zero_le _) ?_
          refine ⟨congrArg (fun z => some (Value.int z)) ?_, rfl, rfl, rfl, rfl⟩
          unfold takenQ
          rw [if_pos hq1, if_pos hq2, hkc, if_neg (by decide)]
        · refine r_iload3 dX7_taken_32 ?_
          refine rn_iconst (-1) dX7_taken_33 (by decide) ?_
          refine rn_icmp_eq 50 dX7_taken_34 rfl (fun h => absurd h (by decide)) (fun _ => ?_)
          refine r_iload3 dX7_taken_37 ?_
          refine r_iload2 dX7_taken_38 ?_
          refine rn_icmp_eq 50 dX7_taken_39 rfl (fun h => absurd h (by decide)) (fun _ => ?_)
          refine r_iload3 dX7_taken_42 ?_
          refine cpiS1 dX7_taken_43 os_X7_over rfl ml_X7_372 (Nat.zero_le _) (Nat.zero_le _) (Nat.zero_le _) (ct_over _ _) ?_
          refine rn_eqi (0) (by decide) ?_
          refine r_istore3 dX7_taken_46 rfl ?_
          refine rn_goto 32 dX7_taken_47 rfl ?_
          refine r_iload3 dX7_taken_32 ?_
          refine rn_iconst (-1) dX7_taken_33 (by decide) ?_
          refine rn_icmp_eq 50 dX7_taken_34 rfl (fun h => absurd h (by decide)) (fun _ => ?_)
          refine r_iload3 dX7_taken_37 ?_
          refine r_iload2 dX7_taken_38 ?_
          refine rn_icmp_eq 50 dX7_taken_39 rfl (fun h => absurd h (by decide)) (fun _ => ?_)
          refine r_iload3 dX7_taken_42 ?_
          refine cpiS1 dX7_taken_43 os_X7_over rfl ml_X7_372 (Nat.zero_le _) (Nat.zero_le _) (Nat.zero_le _) (ct_over _ _) ?_
          refine rn_eqi (-1) (by decide) ?_
          refine r_istore3 dX7_taken_46 rfl ?_
          refine rn_goto 32 dX7_taken_47 rfl ?_
          refine r_iload3 dX7_taken_32 ?_
          refine rn_iconst (-1) dX7_taken_33 (by decide) ?_
          refine rn_icmp_eq 50 dX7_taken_34 rfl (fun _ => ?_) (fun h => absurd (by decide) h)
          refine r_iload3 dX7_taken_50 ?_
          refine r_iload2 dX7_taken_51 ?_
          refine rn_icmp_ne 64 dX7_taken_52 rfl (fun _ => ?_) (fun h => absurd h (by decide))
          refine rn_bipush (-13) dX7_taken_64 (by decide) ?_
          refine rn_iret dX7_taken_66 rfl (Nat.zero_le _) (Nat.zero_le _) ?_
          refine ⟨congrArg (fun z => some (Value.int z)) ?_, rfl, rfl, rfl, rfl⟩
          unfold takenQ
          rw [if_pos hq1, if_pos hq2, hkc, if_neg (by decide)]
      | 3, _, hkk =>
        have hkc : (ρ (2 + G.toNatClampNeg) 1).toNatClampNeg = 3 := by rw [hkk]; decide
        rcases cw5 hq1 with rfl | rfl | rfl | rfl | rfl | rfl
        · refine r_iload3 dX7_taken_32 ?_
          refine rn_iconst (-1) dX7_taken_33 (by decide) ?_
          refine rn_icmp_eq 50 dX7_taken_34 rfl (fun h => absurd h (by decide)) (fun _ => ?_)
          refine r_iload3 dX7_taken_37 ?_
          refine r_iload2 dX7_taken_38 ?_
          refine rn_icmp_eq 50 dX7_taken_39 rfl (fun h => absurd h (by decide)) (fun _ => ?_)
          refine r_iload3 dX7_taken_42 ?_
          refine cpiS1 dX7_taken_43 os_X7_over rfl ml_X7_372 (Nat.zero_le _) (Nat.zero_le _) (Nat.zero_le _) (ct_over _ _) ?_
          refine rn_eqi (1) (by decide) ?_
          refine r_istore3 dX7_taken_46 rfl ?_
          refine rn_goto 32 dX7_taken_47 rfl ?_
          refine r_iload3 dX7_taken_32 ?_
          refine rn_iconst (-1) dX7_taken_33 (by decide) ?_
          refine rn_icmp_eq 50 dX7_taken_34 rfl (fun h => absurd h (by decide)) (fun _ => ?_)
          refine r_iload3 dX7_taken_37 ?_
          refine r_iload2 dX7_taken_38 ?_
          refine rn_icmp_eq 50 dX7_taken_39 rfl (fun h => absurd h (by decide)) (fun _ => ?_)
          refine r_iload3 dX7_taken_42 ?_
          refine cpiS1 dX7_taken_43 os_X7_over rfl ml_X7_372 (Nat.zero_le _) (Nat.zero_le _) (Nat.zero_le _) (ct_over _ _) ?_
          refine rn_eqi (0) (by decide) ?_
          refine r_istore3 dX7_taken_46 rfl ?_
          refine rn_goto 32 dX7_taken_47 rfl ?_
          refine r_iload3 dX7_taken_32 ?_
          refine rn_iconst (-1) dX7_taken_33 (by decide) ?_
          refine rn_icmp_eq 50 dX7_taken_34 rfl (fun h => absurd h (by decide)) (fun _ => ?_)
          refine r_iload3 dX7_taken_37 ?_
          refine r_iload2 dX7_taken_38 ?_
          refine rn_icmp_eq 50 dX7_taken_39 rfl (fun _ => ?_) (fun h => absurd (by decide) h)
          refine r_iload3 dX7_taken_50 ?_
          refine r_iload2 dX7_taken_51 ?_
          refine rn_icmp_ne 64 dX7_taken_52 rfl (fun h => absurd (by decide) h) (fun _ => ?_)
          refine r_aload0 dX7_taken_55 ?_
          refine gf_X7_32 dX7_taken_56 rfl hM.1 (sm_numbers hM).1 ?_
          refine r_iload1 dX7_taken_59 ?_
          refine rn_iald G.toNatClampNeg dX7_taken_60 (sm_numbers hM).2 (g01 hq2).1 (g01 hq2).2 (by decide) ?_
          refine rn_eqi (ρ (2 + G.toNatClampNeg) 2) (hR.gang 2 (by decide) (by decide) (g01 hq2).2) ?_
          refine rn_goto 66 dX7_taken_61 rfl ?_
          refine rn_iret dX7_taken_66 rfl (Nat.zero_le _) (Nat.zero_le _) ?_
          refine ⟨congrArg (fun z => some (Value.int z)) ?_, rfl, rfl, rfl, rfl⟩
          unfold takenQ
          rw [if_pos hq1, if_pos hq2, hkc, if_pos (by decide)]
        · refine r_iload3 dX7_taken_32 ?_
          refine rn_iconst (-1) dX7_taken_33 (by decide) ?_
          refine rn_icmp_eq 50 dX7_taken_34 rfl (fun h => absurd h (by decide)) (fun _ => ?_)
          refine r_iload3 dX7_taken_37 ?_
          refine r_iload2 dX7_taken_38 ?_
          refine rn_icmp_eq 50 dX7_taken_39 rfl (fun h => absurd h (by decide)) (fun _ => ?_)
          refine r_iload3 dX7_taken_42 ?_
          refine cpiS1 dX7_taken_43 os_X7_over rfl ml_X7_372 (Nat.zero_le _) (Nat.zero_le _) (Nat.zero_le _) (ct_over _ _) ?_
          refine rn_eqi (1) (by decide) ?_
          refine r_istore3 dX7_taken_46 rfl ?_
          refine rn_goto 32 dX7_taken_47 rfl ?_
          refine r_iload3 dX7_taken_32 ?_
          refine rn_iconst (-1) dX7_taken_33 (by decide) ?_
          refine rn_icmp_eq 50 dX7_taken_34 rfl (fun h => absurd h (by decide)) (fun _ => ?_)
          refine r_iload3 dX7_taken_37 ?_
          refine r_iload2 dX7_taken_38 ?_
          refine rn_icmp_eq 50 dX7_taken_39 rfl (fun _ => ?_) (fun h => absurd (by decide) h)
          refine r_iload3 dX7_taken_50 ?_
          refine r_iload2 dX7_taken_51 ?_
          refine rn_icmp_ne 64 dX7_taken_52 rfl (fun h => absurd (by decide) h) (fun _ => ?_)
          refine r_aload0 dX7_taken_55 ?_
          refine gf_X7_32 dX7_taken_56 rfl hM.1 (sm_numbers hM).1 ?_
          refine r_iload1 dX7_taken_59 ?_
          refine rn_iald G.toNatClampNeg dX7_taken_60 (sm_numbers hM).2 (g01 hq2).1 (g01 hq2).2 (by decide) ?_
          refine rn_eqi (ρ (2 + G.toNatClampNeg) 2) (hR.gang 2 (by decide) (by decide) (g01 hq2).2) ?_
          refine rn_goto 66 dX7_taken_61 rfl ?_
          refine rn_iret dX7_taken_66 rfl (Nat.zero_le _) (Nat.zero_le _) ?_
          refine ⟨congrArg (fun z => some (Value.int z)) ?_, rfl, rfl, rfl, rfl⟩
          unfold takenQ
          rw [if_pos hq1, if_pos hq2, hkc, if_pos (by decide)]
        · refine r_iload3 dX7_taken_32 ?_
          refine rn_iconst (-1) dX7_taken_33 (by decide) ?_
          refine rn_icmp_eq 50 dX7_taken_34 rfl (fun h => absurd h (by decide)) (fun _ => ?_)
          refine r_iload3 dX7_taken_37 ?_
          refine r_iload2 dX7_taken_38 ?_
          refine rn_icmp_eq 50 dX7_taken_39 rfl (fun h => absurd h (by decide)) (fun _ => ?_)
          refine r_iload3 dX7_taken_42 ?_
          refine cpiS1 dX7_taken_43 os_X7_over rfl ml_X7_372 (Nat.zero_le _) (Nat.zero_le _) (Nat.zero_le _) (ct_over _ _) ?_
          refine rn_eqi (1) (by decide) ?_
          refine r_istore3 dX7_taken_46 rfl ?_
          refine rn_goto 32 dX7_taken_47 rfl ?_
          refine r_iload3 dX7_taken_32 ?_
          refine rn_iconst (-1) dX7_taken_33 (by decide) ?_
          refine rn_icmp_eq 50 dX7_taken_34 rfl (fun h => absurd h (by decide)) (fun _ => ?_)
          refine r_iload3 dX7_taken_37 ?_
          refine r_iload2 dX7_taken_38 ?_
          refine rn_icmp_eq 50 dX7_taken_39 rfl (fun h => absurd h (by decide)) (fun _ => ?_)
          refine r_iload3 dX7_taken_42 ?_
          refine cpiS1 dX7_taken_43 os_X7_over rfl ml_X7_372 (Nat.zero_le _) (Nat.zero_le _) (Nat.zero_le _) (ct_over _ _) ?_
          refine rn_eqi (0) (by decide) ?_
          refine r_istore3 dX7_taken_46 rfl ?_
          refine rn_goto 32 dX7_taken_47 rfl ?_
          refine r_iload3 dX7_taken_32 ?_
          refine rn_iconst (-1) dX7_taken_33 (by decide) ?_
          refine rn_icmp_eq 50 dX7_taken_34 rfl (fun h => absurd h (by decide)) (fun _ => ?_)
          refine r_iload3 dX7_taken_37 ?_
          refine r_iload2 dX7_taken_38 ?_
          refine rn_icmp_eq 50 dX7_taken_39 rfl (fun h => absurd h (by decide)) (fun _ => ?_)
          refine r_iload3 dX7_taken_42 ?_
          refine cpiS1 dX7_taken_43 os_X7_over rfl ml_X7_372 (Nat.zero_le _) (Nat.zero_le _) (Nat.zero_le _) (ct_over _ _) ?_
          refine rn_eqi (-1) (by decide) ?_
          refine r_istore3 dX7_taken_46 rfl ?_
          refine rn_goto 32 dX7_taken_47 rfl ?_
          refine r_iload3 dX7_taken_32 ?_
          refine rn_iconst (-1) dX7_taken_33 (by decide) ?_
          refine rn_icmp_eq 50 dX7_taken_34 rfl (fun _ => ?_) (fun h => absurd (by decide) h)
          refine r_iload3 dX7_taken_50 ?_
          refine r_iload2 dX7_taken_51 ?_
          refine rn_icmp_ne 64 dX7_taken_52 rfl (fun _ => ?_) (fun h => absurd h (by decide))
          refine rn_bipush (-13) dX7_taken_64 (by decide) ?_
          refine rn_iret dX7_taken_66 rfl (Nat.zero_le _) (Nat.zero_le _) ?_
          refine ⟨congrArg (fun z => some (Value.int z)) ?_, rfl, rfl, rfl, rfl⟩
          unfold takenQ
          rw [if_pos hq1, if_pos hq2, hkc, if_neg (by decide)]
        · refine r_iload3 dX7_taken_32 ?_
          refine rn_iconst (-1) dX7_taken_33 (by decide) ?_
          refine rn_icmp_eq 50 dX7_taken_34 rfl (fun h => absurd h (by decide)) (fun _ => ?_)
          refine r_iload3 dX7_taken_37 ?_
          refine r_iload2 dX7_taken_38 ?_
          refine rn_icmp_eq 50 dX7_taken_39 rfl (fun _ => ?_) (fun h => absurd (by decide) h)
          refine r_iload3 dX7_taken_50 ?_
          refine r_iload2 dX7_taken_51 ?_
          refine rn_icmp_ne 64 dX7_taken_52 rfl (fun h => absurd (by decide) h) (fun _ => ?_)
          refine r_aload0 dX7_taken_55 ?_
          refine gf_X7_32 dX7_taken_56 rfl hM.1 (sm_numbers hM).1 ?_
          refine r_iload1 dX7_taken_59 ?_
          refine rn_iald G.toNatClampNeg dX7_taken_60 (sm_numbers hM).2 (g01 hq2).1 (g01 hq2).2 (by decide) ?_
          refine rn_eqi (ρ (2 + G.toNatClampNeg) 2) (hR.gang 2 (by decide) (by decide) (g01 hq2).2) ?_
          refine rn_goto 66 dX7_taken_61 rfl ?_
          refine rn_iret dX7_taken_66 rfl (Nat.zero_le _) (Nat.zero_le _) ?_
          refine ⟨congrArg (fun z => some (Value.int z)) ?_, rfl, rfl, rfl, rfl⟩
          unfold takenQ
          rw [if_pos hq1, if_pos hq2, hkc, if_pos (by decide)]
        · refine r_iload3 dX7_taken_32 ?_
          refine rn_iconst (-1) dX7_taken_33 (by decide) ?_
          refine rn_icmp_eq 50 dX7_taken_34 rfl (fun h => absurd h (by decide)) (fun _ => ?_)
          refine r_iload3 dX7_taken_37 ?_
          refine r_iload2 dX7_taken_38 ?_
          refine rn_icmp_eq 50 dX7_taken_39 rfl (fun h => absurd h (by decide)) (fun _ => ?_)
          refine r_iload3 dX7_taken_42 ?_
          refine cpiS1 dX7_taken_43 os_X7_over rfl ml_X7_372 (Nat.zero_le _) (Nat.zero_le _) (Nat.zero_le _) (ct_over _ _) ?_
          refine rn_eqi (1) (by decide) ?_
          refine r_istore3 dX7_taken_46 rfl ?_
          refine rn_goto 32 dX7_taken_47 rfl ?_
          refine r_iload3 dX7_taken_32 ?_
          refine rn_iconst (-1) dX7_taken_33 (by decide) ?_
          refine rn_icmp_eq 50 dX7_taken_34 rfl (fun h => absurd h (by decide)) (fun _ => ?_)
          refine r_iload3 dX7_taken_37 ?_
          refine r_iload2 dX7_taken_38 ?_
          refine rn_icmp_eq 50 dX7_taken_39 rfl (fun h => absurd h (by decide)) (fun _ => ?_)
          refine r_iload3 dX7_taken_42 ?_
          refine cpiS1 dX7_taken_43 os_X7_over rfl ml_X7_372 (Nat.zero_le _) (Nat.zero_le _) (Nat.zero_le _) (ct_over _ _) ?_
          refine rn_eqi (0) (by decide) ?_
          refine r_istore3 dX7_taken_46 rfl ?_
          refine rn_goto 32 dX7_taken_47 rfl ?_
          refine r_iload3 dX7_taken_32 ?_
          refine rn_iconst (-1) dX7_taken_33 (by decide) ?_
          refine rn_icmp_eq 50 dX7_taken_34 rfl (fun h => absurd h (by decide)) (fun _ => ?_)
          refine r_iload3 dX7_taken_37 ?_
          refine r_iload2 dX7_taken_38 ?_
          refine rn_icmp_eq 50 dX7_taken_39 rfl (fun h => absurd h (by decide)) (fun _ => ?_)
          refine r_iload3 dX7_taken_42 ?_
          refine cpiS1 dX7_taken_43 os_X7_over rfl ml_X7_372 (Nat.zero_le _) (Nat.zero_le _) (Nat.zero_le _) (ct_over _ _) ?_
          refine rn_eqi (-1) (by decide) ?_
          refine r_istore3 dX7_taken_46 rfl ?_
          refine rn_goto 32 dX7_taken_47 rfl ?_
          refine r_iload3 dX7_taken_32 ?_
          refine rn_iconst (-1) dX7_taken_33 (by decide) ?_
          refine rn_icmp_eq 50 dX7_taken_34 rfl (fun _ => ?_) (fun h => absurd (by decide) h)
          refine r_iload3 dX7_taken_50 ?_
          refine r_iload2 dX7_taken_51 ?_
          refine rn_icmp_ne 64 dX7_taken_52 rfl (fun _ => ?_) (fun h => absurd h (by decide))
          refine rn_bipush (-13) dX7_taken_64 (by decide) ?_
          refine rn_iret dX7_taken_66 rfl (Nat.zero_le _) (Nat.zero_le _) ?_
          refine ⟨congrArg (fun z => some (Value.int z)) ?_, rfl, rfl, rfl, rfl⟩
          unfold takenQ
          rw [if_pos hq1, if_pos hq2, hkc, if_neg (by decide)]
        · refine r_iload3 dX7_taken_32 ?_
          refine rn_iconst (-1) dX7_taken_33 (by decide) ?_
          refine rn_icmp_eq 50 dX7_taken_34 rfl (fun h => absurd h (by decide)) (fun _ => ?_)
          refine r_iload3 dX7_taken_37 ?_
          refine r_iload2 dX7_taken_38 ?_
          refine rn_icmp_eq 50 dX7_taken_39 rfl (fun h => absurd h (by decide)) (fun _ => ?_)
          refine r_iload3 dX7_taken_42 ?_
          refine cpiS1 dX7_taken_43 os_X7_over rfl ml_X7_372 (Nat.zero_le _) (Nat.zero_le _) (Nat.zero_le _) (ct_over _ _) ?_
          refine rn_eqi (1) (by decide) ?_
          refine r_istore3 dX7_taken_46 rfl ?_
          refine rn_goto 32 dX7_taken_47 rfl ?_
          refine r_iload3 dX7_taken_32 ?_
          refine rn_iconst (-1) dX7_taken_33 (by decide) ?_
          refine rn_icmp_eq 50 dX7_taken_34 rfl (fun h => absurd h (by decide)) (fun _ => ?_)
          refine r_iload3 dX7_taken_37 ?_
          refine r_iload2 dX7_taken_38 ?_
          refine rn_icmp_eq 50 dX7_taken_39 rfl (fun h => absurd h (by decide)) (fun _ => ?_)
          refine r_iload3 dX7_taken_42 ?_
          refine cpiS1 dX7_taken_43 os_X7_over rfl ml_X7_372 (Nat.zero_le _) (Nat.zero_le _) (Nat.zero_le _) (ct_over _ _) ?_
          refine rn_eqi (0) (by decide) ?_
          refine r_istore3 dX7_taken_46 rfl ?_
          refine rn_goto 32 dX7_taken_47 rfl ?_
          refine r_iload3 dX7_taken_32 ?_
          refine rn_iconst (-1) dX7_taken_33 (by decide) ?_
          refine rn_icmp_eq 50 dX7_taken_34 rfl (fun h => absurd h (by decide)) (fun _ => ?_)
          refine r_iload3 dX7_taken_37 ?_
          refine r_iload2 dX7_taken_38 ?_
          refine rn_icmp_eq 50 dX7_taken_39 rfl (fun h => absurd h (by decide)) (fun _ => ?_)
          refine r_iload3 dX7_taken_42 ?_
          refine cpiS1 dX7_taken_43 os_X7_over rfl ml_X7_372 (Nat.zero_le _) (Nat.zero_le _) (Nat.zero_le _) (ct_over _ _) ?_
          refine rn_eqi (-1) (by decide) ?_
          refine r_istore3 dX7_taken_46 rfl ?_
          refine rn_goto 32 dX7_taken_47 rfl ?_
          refine r_iload3 dX7_taken_32 ?_
          refine rn_iconst (-1) dX7_taken_33 (by decide) ?_
          refine rn_icmp_eq 50 dX7_taken_34 rfl (fun _ => ?_) (fun h => absurd (by decide) h)
          refine r_iload3 dX7_taken_50 ?_
          refine r_iload2 dX7_taken_51 ?_
          refine rn_icmp_ne 64 dX7_taken_52 rfl (fun _ => ?_) (fun h => absurd h (by decide))
          refine rn_bipush (-13) dX7_taken_64 (by decide) ?_
          refine rn_iret dX7_taken_66 rfl (Nat.zero_le _) (Nat.zero_le _) ?_
          refine ⟨congrArg (fun z => some (Value.int z)) ?_, rfl, rfl, rfl, rfl⟩
          unfold takenQ
          rw [if_pos hq1, if_pos hq2, hkc, if_neg (by decide)]
      | 4, _, hkk =>
        have hkc : (ρ (2 + G.toNatClampNeg) 1).toNatClampNeg = 4 := by rw [hkk]; decide
        rcases cw5 hq1 with rfl | rfl | rfl | rfl | rfl | rfl
        · refine r_iload3 dX7_taken_32 ?_
          refine rn_iconst (-1) dX7_taken_33 (by decide) ?_
          refine rn_icmp_eq 50 dX7_taken_34 rfl (fun h => absurd h (by decide)) (fun _ => ?_)
          refine r_iload3 dX7_taken_37 ?_
          refine r_iload2 dX7_taken_38 ?_
          refine rn_icmp_eq 50 dX7_taken_39 rfl (fun h => absurd h (by decide)) (fun _ => ?_)
          refine r_iload3 dX7_taken_42 ?_
          refine cpiS1 dX7_taken_43 os_X7_over rfl ml_X7_372 (Nat.zero_le _) (Nat.zero_le _) (Nat.zero_le _) (ct_over _ _) ?_
          refine rn_eqi (2) (by decide) ?_
          refine r_istore3 dX7_taken_46 rfl ?_
          refine rn_goto 32 dX7_taken_47 rfl ?_
          refine r_iload3 dX7_taken_32 ?_
          refine rn_iconst (-1) dX7_taken_33 (by decide) ?_
          refine rn_icmp_eq 50 dX7_taken_34 rfl (fun h => absurd h (by decide)) (fun _ => ?_)
          refine r_iload3 dX7_taken_37 ?_
          refine r_iload2 dX7_taken_38 ?_
          refine rn_icmp_eq 50 dX7_taken_39 rfl (fun h => absurd h (by decide)) (fun _ => ?_)
          refine r_iload3 dX7_taken_42 ?_
          refine cpiS1 dX7_taken_43 os_X7_over rfl ml_X7_372 (Nat.zero_le _) (Nat.zero_le _) (Nat.zero_le _) (ct_over _ _) ?_
          refine rn_eqi (0) (by decide) ?_
          refine r_istore3 dX7_taken_46 rfl ?_
          refine rn_goto 32 dX7_taken_47 rfl ?_
          refine r_iload3 dX7_taken_32 ?_
          refine rn_iconst (-1) dX7_taken_33 (by decide) ?_
          refine rn_icmp_eq 50 dX7_taken_34 rfl (fun h => absurd h (by decide)) (fun _ => ?_)
          refine r_iload3 dX7_taken_37 ?_
          refine r_iload2 dX7_taken_38 ?_
          refine rn_icmp_eq 50 dX7_taken_39 rfl (fun _ => ?_) (fun h => absurd (by decide) h)
          refine r_iload3 dX7_taken_50 ?_
          refine r_iload2 dX7_taken_51 ?_
          refine rn_icmp_ne 64 dX7_taken_52 rfl (fun h => absurd (by decide) h) (fun _ => ?_)
          refine r_aload0 dX7_taken_55 ?_
          refine gf_X7_32 dX7_taken_56 rfl hM.1 (sm_numbers hM).1 ?_
          refine r_iload1 dX7_taken_59 ?_
          refine rn_iald G.toNatClampNeg dX7_taken_60 (sm_numbers hM).2 (g01 hq2).1 (g01 hq2).2 (by decide) ?_
          refine rn_eqi (ρ (2 + G.toNatClampNeg) 2) (hR.gang 2 (by decide) (by decide) (g01 hq2).2) ?_
          refine rn_goto 66 dX7_taken_61 rfl ?_
          refine rn_iret dX7_taken_66 rfl (Nat.zero_le _) (Nat.zero_le _) ?_
          refine ⟨congrArg (fun z => some (Value.int z)) ?_, rfl, rfl, rfl, rfl⟩
          unfold takenQ
          rw [if_pos hq1, if_pos hq2, hkc, if_pos (by decide)]
        · refine r_iload3 dX7_taken_32 ?_
          refine rn_iconst (-1) dX7_taken_33 (by decide) ?_
          refine rn_icmp_eq 50 dX7_taken_34 rfl (fun h => absurd h (by decide)) (fun _ => ?_)
          refine r_iload3 dX7_taken_37 ?_
          refine r_iload2 dX7_taken_38 ?_
          refine rn_icmp_eq 50 dX7_taken_39 rfl (fun h => absurd h (by decide)) (fun _ => ?_)
          refine r_iload3 dX7_taken_42 ?_
          refine cpiS1 dX7_taken_43 os_X7_over rfl ml_X7_372 (Nat.zero_le _) (Nat.zero_le _) (Nat.zero_le _) (ct_over _ _) ?_
          refine rn_eqi (2) (by decide) ?_
          refine r_istore3 dX7_taken_46 rfl ?_
          refine rn_goto 32 dX7_taken_47 rfl ?_
          refine r_iload3 dX7_taken_32 ?_
          refine rn_iconst (-1) dX7_taken_33 (by decide) ?_
          refine rn_icmp_eq 50 dX7_taken_34 rfl (fun h => absurd h (by decide)) (fun _ => ?_)
          refine r_iload3 dX7_taken_37 ?_
          refine r_iload2 dX7_taken_38 ?_
          refine rn_icmp_eq 50 dX7_taken_39 rfl (fun h => absurd h (by decide)) (fun _ => ?_)
          refine r_iload3 dX7_taken_42 ?_
          refine cpiS1 dX7_taken_43 os_X7_over rfl ml_X7_372 (Nat.zero_le _) (Nat.zero_le _) (Nat.zero_le _) (ct_over _ _) ?_
          refine rn_eqi (0) (by decide) ?_
          refine r_istore3 dX7_taken_46 rfl ?_
          refine rn_goto 32 dX7_taken_47 rfl ?_
          refine r_iload3 dX7_taken_32 ?_
          refine rn_iconst (-1) dX7_taken_33 (by decide) ?_
          refine rn_icmp_eq 50 dX7_taken_34 rfl (fun h => absurd h (by decide)) (fun _ => ?_)
          refine r_iload3 dX7_taken_37 ?_
          refine r_iload2 dX7_taken_38 ?_
          refine rn_icmp_eq 50 dX7_taken_39 rfl (fun h => absurd h (by decide)) (fun _ => ?_)
          refine r_iload3 dX7_taken_42 ?_
          refine cpiS1 dX7_taken_43 os_X7_over rfl ml_X7_372 (Nat.zero_le _) (Nat.zero_le _) (Nat.zero_le _) (ct_over _ _) ?_
          refine rn_eqi (-1) (by decide) ?_
          refine r_istore3 dX7_taken_46 rfl ?_
          refine rn_goto 32 dX7_taken_47 rfl ?_
          refine r_iload3 dX7_taken_32 ?_
          refine rn_iconst (-1) dX7_taken_33 (by decide) ?_
          refine rn_icmp_eq 50 dX7_taken_34 rfl (fun _ => ?_) (fun h => absurd (by decide) h)
          refine r_iload3 dX7_taken_50 ?_
          refine r_iload2 dX7_taken_51 ?_
          refine rn_icmp_ne 64 dX7_taken_52 rfl (fun _ => ?_) (fun h => absurd h (by decide))
          refine rn_bipush (-13) dX7_taken_64 (by decide) ?_
          refine rn_iret dX7_taken_66 rfl (Nat.zero_le _) (Nat.zero_le _) ?_
          refine ⟨congrArg (fun z => some (Value.int z)) ?_, rfl, rfl, rfl, rfl⟩
          unfold takenQ
          rw [if_pos hq1, if_pos hq2, hkc, if_neg (by decide)]
        · refine r_iload3 dX7_taken_32 ?_
          refine rn_iconst (-1) dX7_taken_33 (by decide) ?_
          refine rn_icmp_eq 50 dX7_taken_34 rfl (fun h => absurd h (by decide)) (fun _ => ?_)
          refine r_iload3 dX7_taken_37 ?_
          refine r_iload2 dX7_taken_38 ?_
          refine rn_icmp_eq 50 dX7_taken_39 rfl (fun h => absurd h (by decide)) (fun _ => ?_)
          refine r_iload3 dX7_taken_42 ?_
          refine cpiS1 dX7_taken_43 os_X7_over rfl ml_X7_372 (Nat.zero_le _) (Nat.zero_le _) (Nat.zero_le _) (ct_over _ _) ?_
          refine rn_eqi (2) (by decide) ?_
          refine r_istore3 dX7_taken_46 rfl ?_
          refine rn_goto 32 dX7_taken_47 rfl ?_
          refine r_iload3 dX7_taken_32 ?_
          refine rn_iconst (-1) dX7_taken_33 (by decide) ?_
          refine rn_icmp_eq 50 dX7_taken_34 rfl (fun h => absurd h (by decide)) (fun _ => ?_)
          refine r_iload3 dX7_taken_37 ?_
          refine r_iload2 dX7_taken_38 ?_
          refine rn_icmp_eq 50 dX7_taken_39 rfl (fun _ => ?_) (fun h => absurd (by decide) h)
          refine r_iload3 dX7_taken_50 ?_
          refine r_iload2 dX7_taken_51 ?_
          refine rn_icmp_ne 64 dX7_taken_52 rfl (fun h => absurd (by decide) h) (fun _ => ?_)
          refine r_aload0 dX7_taken_55 ?_
          refine gf_X7_32 dX7_taken_56 rfl hM.1 (sm_numbers hM).1 ?_
          refine r_iload1 dX7_taken_59 ?_
          refine rn_iald G.toNatClampNeg dX7_taken_60 (sm_numbers hM).2 (g01 hq2).1 (g01 hq2).2 (by decide) ?_
          refine rn_eqi (ρ (2 + G.toNatClampNeg) 2) (hR.gang 2 (by decide) (by decide) (g01 hq2).2) ?_
          refine rn_goto 66 dX7_taken_61 rfl ?_
          refine rn_iret dX7_taken_66 rfl (Nat.zero_le _) (Nat.zero_le _) ?_
          refine ⟨congrArg (fun z => some (Value.int z)) ?_, rfl, rfl, rfl, rfl⟩
          unfold takenQ
          rw [if_pos hq1, if_pos hq2, hkc, if_pos (by decide)]
        · refine r_iload3 dX7_taken_32 ?_
          refine rn_iconst (-1) dX7_taken_33 (by decide) ?_
          refine rn_icmp_eq 50 dX7_taken_34 rfl (fun h => absurd h (by decide)) (fun _ => ?_)
          refine r_iload3 dX7_taken_37 ?_
          refine r_iload2 dX7_taken_38 ?_
          refine rn_icmp_eq 50 dX7_taken_39 rfl (fun h => absurd h (by decide)) (fun _ => ?_)
          refine r_iload3 dX7_taken_42 ?_
          refine cpiS1 dX7_taken_43 os_X7_over rfl ml_X7_372 (Nat.zero_le _) (Nat.zero_le _) (Nat.zero_le _) (ct_over _ _) ?_
          refine rn_eqi (2) (by decide) ?_
          refine r_istore3 dX7_taken_46 rfl ?_
          refine rn_goto 32 dX7_taken_47 rfl ?_
          refine r_iload3 dX7_taken_32 ?_
          refine rn_iconst (-1) dX7_taken_33 (by decide) ?_
          refine rn_icmp_eq 50 dX7_taken_34 rfl (fun h => absurd h (by decide)) (fun _ => ?_)
          refine r_iload3 dX7_taken_37 ?_
          refine r_iload2 dX7_taken_38 ?_
          refine rn_icmp_eq 50 dX7_taken_39 rfl (fun h => absurd h (by decide)) (fun _ => ?_)
          refine r_iload3 dX7_taken_42 ?_
          refine cpiS1 dX7_taken_43 os_X7_over rfl ml_X7_372 (Nat.zero_le _) (Nat.zero_le _) (Nat.zero_le _) (ct_over _ _) ?_
          refine rn_eqi (0) (by decide) ?_
          refine r_istore3 dX7_taken_46 rfl ?_
          refine rn_goto 32 dX7_taken_47 rfl ?_
          refine r_iload3 dX7_taken_32 ?_
          refine rn_iconst (-1) dX7_taken_33 (by decide) ?_
          refine rn_icmp_eq 50 dX7_taken_34 rfl (fun h => absurd h (by decide)) (fun _ => ?_)
          refine r_iload3 dX7_taken_37 ?_
          refine r_iload2 dX7_taken_38 ?_
          refine rn_icmp_eq 50 dX7_taken_39 rfl (fun h => absurd h (by decide)) (fun _ => ?_)
          refine r_iload3 dX7_taken_42 ?_
          refine cpiS1 dX7_taken_43 os_X7_over rfl ml_X7_372 (Nat.zero_le _) (Nat.zero_le _) (Nat.zero_le _) (ct_over _ _) ?_
          refine rn_eqi (-1) (by decide) ?_
          refine r_istore3 dX7_taken_46 rfl ?_
          refine rn_goto 32 dX7_taken_47 rfl ?_
          refine r_iload3 dX7_taken_32 ?_
          refine rn_iconst (-1) dX7_taken_33 (by decide) ?_
          refine rn_icmp_eq 50 dX7_taken_34 rfl (fun _ => ?_) (fun h => absurd (by decide) h)
          refine r_iload3 dX7_taken_50 ?_
          refine r_iload2 dX7_taken_51 ?_
          refine rn_icmp_ne 64 dX7_taken_52 rfl (fun _ => ?_) (fun h => absurd h (by decide))
          refine rn_bipush (-13) dX7_taken_64 (by decide) ?_
          refine rn_iret dX7_taken_66 rfl (Nat.zero_le _) (Nat.zero_le _) ?_
          refine ⟨congrArg (fun z => some (Value.int z)) ?_, rfl, rfl, rfl, rfl⟩
          unfold takenQ
          rw [if_pos hq1, if_pos hq2, hkc, if_neg (by decide)]
        · refine r_iload3 dX7_taken_32 ?_
          refine rn_iconst (-1) dX7_taken_33 (by decide) ?_
          refine rn_icmp_eq 50 dX7_taken_34 rfl (fun h => absurd h (by decide)) (fun _ => ?_)
          refine r_iload3 dX7_taken_37 ?_
          refine r_iload2 dX7_taken_38 ?_
          refine rn_icmp_eq 50 dX7_taken_39 rfl (fun _ => ?_) (fun h => absurd (by decide) h)
          refine r_iload3 dX7_taken_50 ?_
          refine r_iload2 dX7_taken_51 ?_
          refine rn_icmp_ne 64 dX7_taken_52 rfl (fun h => absurd (by decide) h) (fun _ => ?_)
          refine r_aload0 dX7_taken_55 ?_
          refine gf_X7_32 dX7_taken_56 rfl hM.1 (sm_numbers hM).1 ?_
          refine r_iload1 dX7_taken_59 ?_
          refine rn_iald G.toNatClampNeg dX7_taken_60 (sm_numbers hM).2 (g01 hq2).1 (g01 hq2).2 (by decide) ?_
          refine rn_eqi (ρ (2 + G.toNatClampNeg) 2) (hR.gang 2 (by decide) (by decide) (g01 hq2).2) ?_
          refine rn_goto 66 dX7_taken_61 rfl ?_
          refine rn_iret dX7_taken_66 rfl (Nat.zero_le _) (Nat.zero_le _) ?_
          refine ⟨congrArg (fun z => some (Value.int z)) ?_, rfl, rfl, rfl, rfl⟩
          unfold takenQ
          rw [if_pos hq1, if_pos hq2, hkc, if_pos (by decide)]
        · refine r_iload3 dX7_taken_32 ?_
          refine rn_iconst (-1) dX7_taken_33 (by decide) ?_
          refine rn_icmp_eq 50 dX7_taken_34 rfl (fun h => absurd h (by decide)) (fun _ => ?_)
          refine r_iload3 dX7_taken_37 ?_
          refine r_iload2 dX7_taken_38 ?_
          refine rn_icmp_eq 50 dX7_taken_39 rfl (fun h => absurd h (by decide)) (fun _ => ?_)
          refine r_iload3 dX7_taken_42 ?_
          refine cpiS1 dX7_taken_43 os_X7_over rfl ml_X7_372 (Nat.zero_le _) (Nat.zero_le _) (Nat.zero_le _) (ct_over _ _) ?_
          refine rn_eqi (2) (by decide) ?_
          refine r_istore3 dX7_taken_46 rfl ?_
          refine rn_goto 32 dX7_taken_47 rfl ?_
          refine r_iload3 dX7_taken_32 ?_
          refine rn_iconst (-1) dX7_taken_33 (by decide) ?_
          refine rn_icmp_eq 50 dX7_taken_34 rfl (fun h => absurd h (by decide)) (fun _ => ?_)
          refine r_iload3 dX7_taken_37 ?_
          refine r_iload2 dX7_taken_38 ?_
          refine rn_icmp_eq 50 dX7_taken_39 rfl (fun h => absurd h (by decide)) (fun _ => ?_)
          refine r_iload3 dX7_taken_42 ?_
          refine cpiS1 dX7_taken_43 os_X7_over rfl ml_X7_372 (Nat.zero_le _) (Nat.zero_le _) (Nat.zero_le _) (ct_over _ _) ?_
          refine rn_eqi (0) (by decide) ?_
          refine r_istore3 dX7_taken_46 rfl ?_
          refine rn_goto 32 dX7_taken_47 rfl ?_
          refine r_iload3 dX7_taken_32 ?_
          refine rn_iconst (-1) dX7_taken_33 (by decide) ?_
          refine rn_icmp_eq 50 dX7_taken_34 rfl (fun h => absurd h (by decide)) (fun _ => ?_)
          refine r_iload3 dX7_taken_37 ?_
          refine r_iload2 dX7_taken_38 ?_
          refine rn_icmp_eq 50 dX7_taken_39 rfl (fun h => absurd h (by decide)) (fun _ => ?_)
          refine r_iload3 dX7_taken_42 ?_
          refine cpiS1 dX7_taken_43 os_X7_over rfl ml_X7_372 (Nat.zero_le _) (Nat.zero_le _) (Nat.zero_le _) (ct_over _ _) ?_
          refine rn_eqi (-1) (by decide) ?_
          refine r_istore3 dX7_taken_46 rfl ?_
          refine rn_goto 32 dX7_taken_47 rfl ?_
          refine r_iload3 dX7_taken_32 ?_
          refine rn_iconst (-1) dX7_taken_33 (by decide) ?_
          refine rn_icmp_eq 50 dX7_taken_34 rfl (fun _ => ?_) (fun h => absurd (by decide) h)
          refine r_iload3 dX7_taken_50 ?_
          refine r_iload2 dX7_taken_51 ?_
          refine rn_icmp_ne 64 dX7_taken_52 rfl (fun _ => ?_) (fun h => absurd h (by decide))
          refine rn_bipush (-13) dX7_taken_64 (by decide) ?_
          refine rn_iret dX7_taken_66 rfl (Nat.zero_le _) (Nat.zero_le _) ?_
          refine ⟨congrArg (fun z => some (Value.int z)) ?_, rfl, rfl, rfl, rfl⟩
          unfold takenQ
          rw [if_pos hq1, if_pos hq2, hkc, if_neg (by decide)]
      | 5, _, hkk =>
        have hkc : (ρ (2 + G.toNatClampNeg) 1).toNatClampNeg = 5 := by rw [hkk]; decide
        rcases cw5 hq1 with rfl | rfl | rfl | rfl | rfl | rfl
        · refine r_iload3 dX7_taken_32 ?_
          refine rn_iconst (-1) dX7_taken_33 (by decide) ?_
          refine rn_icmp_eq 50 dX7_taken_34 rfl (fun h => absurd h (by decide)) (fun _ => ?_)
          refine r_iload3 dX7_taken_37 ?_
          refine r_iload2 dX7_taken_38 ?_
          refine rn_icmp_eq 50 dX7_taken_39 rfl (fun h => absurd h (by decide)) (fun _ => ?_)
          refine r_iload3 dX7_taken_42 ?_
          refine cpiS1 dX7_taken_43 os_X7_over rfl ml_X7_372 (Nat.zero_le _) (Nat.zero_le _) (Nat.zero_le _) (ct_over _ _) ?_
          refine rn_eqi (1) (by decide) ?_
          refine r_istore3 dX7_taken_46 rfl ?_
          refine rn_goto 32 dX7_taken_47 rfl ?_
          refine r_iload3 dX7_taken_32 ?_
          refine rn_iconst (-1) dX7_taken_33 (by decide) ?_
          refine rn_icmp_eq 50 dX7_taken_34 rfl (fun h => absurd h (by decide)) (fun _ => ?_)
          refine r_iload3 dX7_taken_37 ?_
          refine r_iload2 dX7_taken_38 ?_
          refine rn_icmp_eq 50 dX7_taken_39 rfl (fun h => absurd h (by decide)) (fun _ => ?_)
          refine r_iload3 dX7_taken_42 ?_
          refine cpiS1 dX7_taken_43 os_X7_over rfl ml_X7_372 (Nat.zero_le _) (Nat.zero_le _) (Nat.zero_le _) (ct_over _ _) ?_
          refine rn_eqi (0) (by decide) ?_
          refine r_istore3 dX7_taken_46 rfl ?_
          refine rn_goto 32 dX7_taken_47 rfl ?_
          refine r_iload3 dX7_taken_32 ?_
          refine rn_iconst (-1) dX7_taken_33 (by decide) ?_
          refine rn_icmp_eq 50 dX7_taken_34 rfl (fun h => absurd h (by decide)) (fun _ => ?_)
          refine r_iload3 dX7_taken_37 ?_
          refine r_iload2 dX7_taken_38 ?_
          refine rn_icmp_eq 50 dX7_taken_39 rfl (fun _ => ?_) (fun h => absurd (by decide) h)
          refine r_iload3 dX7_taken_50 ?_
          refine r_iload2 dX7_taken_51 ?_
          refine rn_icmp_ne 64 dX7_taken_52 rfl (fun h => absurd (by decide) h) (fun _ => ?_)
          refine r_aload0 dX7_taken_55 ?_
          refine gf_X7_32 dX7_taken_56 rfl hM.1 (sm_numbers hM).1 ?_
          refine r_iload1 dX7_taken_59 ?_
          refine rn_iald G.toNatClampNeg dX7_taken_60 (sm_numbers hM).2 (g01 hq2).1 (g01 hq2).2 (by decide) ?_
          refine rn_eqi (ρ (2 + G.toNatClampNeg) 2) (hR.gang 2 (by decide) (by decide) (g01 hq2).2) ?_
          refine rn_goto 66 dX7_taken_61 rfl ?_
          refine rn_iret dX7_taken_66 rfl (Nat.zero_le _) (Nat.zero_le _) ?_
          refine ⟨congrArg (fun z => some (Value.int z)) ?_, rfl, rfl, rfl, rfl⟩
          unfold takenQ
          rw [if_pos hq1, if_pos hq2, hkc, if_pos (by decide)]
        · refine r_iload3 dX7_taken_32 ?_
          refine rn_iconst (-1) dX7_taken_33 (by decide) ?_
          refine rn_icmp_eq 50 dX7_taken_34 rfl (fun h => absurd h (by decide)) (fun _ => ?_)
          refine r_iload3 dX7_taken_37 ?_
          refine r_iload2 dX7_taken_38 ?_
          refine rn_icmp_eq 50 dX7_taken_39 rfl (fun h => absurd h (by decide)) (fun _ => ?_)
          refine r_iload3 dX7_taken_42 ?_
          refine cpiS1 dX7_taken_43 os_X7_over rfl ml_X7_372 (Nat.zero_le _) (Nat.zero_le _) (Nat.zero_le _) (ct_over _ _) ?_
          refine rn_eqi (1) (by decide) ?_
          refine r_istore3 dX7_taken_46 rfl ?_
          refine rn_goto 32 dX7_taken_47 rfl ?_
          refine r_iload3 dX7_taken_32 ?_
          refine rn_iconst (-1) dX7_taken_33 (by decide) ?_
          refine rn_icmp_eq 50 dX7_taken_34 rfl (fun h => absurd h (by decide)) (fun _ => ?_)
          refine r_iload3 dX7_taken_37 ?_
          refine r_iload2 dX7_taken_38 ?_
          refine rn_icmp_eq 50 dX7_taken_39 rfl (fun _ => ?_) (fun h => absurd (by decide) h)
          refine r_iload3 dX7_taken_50 ?_
          refine r_iload2 dX7_taken_51 ?_
          refine rn_icmp_ne 64 dX7_taken_52 rfl (fun h => absurd (by decide) h) (fun _ => ?_)
          refine r_aload0 dX7_taken_55 ?_
          refine gf_X7_32 dX7_taken_56 rfl hM.1 (sm_numbers hM).1 ?_
          refine r_iload1 dX7_taken_59 ?_
          refine rn_iald G.toNatClampNeg dX7_taken_60 (sm_numbers hM).2 (g01 hq2).1 (g01 hq2).2 (by decide) ?_
          refine rn_eqi (ρ (2 + G.toNatClampNeg) 2) (hR.gang 2 (by decide) (by decide) (g01 hq2).2) ?_
          refine rn_goto 66 dX7_taken_61 rfl ?_
          refine rn_iret dX7_taken_66 rfl (Nat.zero_le _) (Nat.zero_le _) ?_
          refine ⟨congrArg (fun z => some (Value.int z)) ?_, rfl, rfl, rfl, rfl⟩
          unfold takenQ
          rw [if_pos hq1, if_pos hq2, hkc, if_pos (by decide)]
        · refine r_iload3 dX7_taken_32 ?_
          refine rn_iconst (-1) dX7_taken_33 (by decide) ?_
          refine rn_icmp_eq 50 dX7_taken_34 rfl (fun h => absurd h (by decide)) (fun _ => ?_)
          refine r_iload3 dX7_taken_37 ?_
          refine r_iload2 dX7_taken_38 ?_
          refine rn_icmp_eq 50 dX7_taken_39 rfl (fun h => absurd h (by decide)) (fun _ => ?_)
          refine r_iload3 dX7_taken_42 ?_
          refine cpiS1 dX7_taken_43 os_X7_over rfl ml_X7_372 (Nat.zero_le _) (Nat.zero_le _) (Nat.zero_le _) (ct_over _ _) ?_
          refine rn_eqi (1) (by decide) ?_
          refine r_istore3 dX7_taken_46 rfl ?_
          refine rn_goto 32 dX7_taken_47 rfl ?_
          refine r_iload3 dX7_taken_32 ?_
          refine rn_iconst (-1) dX7_taken_33 (by decide) ?_
          refine rn_icmp_eq 50 dX7_taken_34 rfl (fun h => absurd h (by decide)) (fun _ => ?_)
          refine r_iload3 dX7_taken_37 ?_
          refine r_iload2 dX7_taken_38 ?_
          refine rn_icmp_eq 50 dX7_taken_39 rfl (fun h => absurd h (by decide)) (fun _ => ?_)
          refine r_iload3 dX7_taken_42 ?_
          refine cpiS1 dX7_taken_43 os_X7_over rfl ml_X7_372 (Nat.zero_le _) (Nat.zero_le _) (Nat.zero_le _) (ct_over _ _) ?_
          refine rn_eqi (0) (by decide) ?_
          refine r_istore3 dX7_taken_46 rfl ?_
          refine rn_goto 32 dX7_taken_47 rfl ?_
          refine r_iload3 dX7_taken_32 ?_
          refine rn_iconst (-1) dX7_taken_33 (by decide) ?_
          refine rn_icmp_eq 50 dX7_taken_34 rfl (fun h => absurd h (by decide)) (fun _ => ?_)
          refine r_iload3 dX7_taken_37 ?_
          refine r_iload2 dX7_taken_38 ?_
          refine rn_icmp_eq 50 dX7_taken_39 rfl (fun h => absurd h (by decide)) (fun _ => ?_)
          refine r_iload3 dX7_taken_42 ?_
          refine cpiS1 dX7_taken_43 os_X7_over rfl ml_X7_372 (Nat.zero_le _) (Nat.zero_le _) (Nat.zero_le _) (ct_over _ _) ?_
          refine rn_eqi (-1) (by decide) ?_
          refine r_istore3 dX7_taken_46 rfl ?_
          refine rn_goto 32 dX7_taken_47 rfl ?_
          refine r_iload3 dX7_taken_32 ?_
          refine rn_iconst (-1) dX7_taken_33 (by decide) ?_
          refine rn_icmp_eq 50 dX7_taken_34 rfl (fun _ => ?_) (fun h => absurd (by decide) h)
          refine r_iload3 dX7_taken_50 ?_
          refine r_iload2 dX7_taken_51 ?_
          refine rn_icmp_ne 64 dX7_taken_52 rfl (fun _ => ?_) (fun h => absurd h (by decide))
          refine rn_bipush (-13) dX7_taken_64 (by decide) ?_
          refine rn_iret dX7_taken_66 rfl (Nat.zero_le _) (Nat.zero_le _) ?_
          refine ⟨congrArg (fun z => some (Value.int z)) ?_, rfl, rfl, rfl, rfl⟩
          unfold takenQ
          rw [if_pos hq1, if_pos hq2, hkc, if_neg (by decide)]
        · refine r_iload3 dX7_taken_32 ?_
          refine rn_iconst (-1) dX7_taken_33 (by decide) ?_
          refine rn_icmp_eq 50 dX7_taken_34 rfl (fun h => absurd h (by decide)) (fun _ => ?_)
          refine r_iload3 dX7_taken_37 ?_
          refine r_iload2 dX7_taken_38 ?_
          refine rn_icmp_eq 50 dX7_taken_39 rfl (fun h => absurd h (by decide)) (fun _ => ?_)
          refine r_iload3 dX7_taken_42 ?_
          refine cpiS1 dX7_taken_43 os_X7_over rfl ml_X7_372 (Nat.zero_le _) (Nat.zero_le _) (Nat.zero_le _) (ct_over _ _) ?_
          refine rn_eqi (1) (by decide) ?_
          refine r_istore3 dX7_taken_46 rfl ?_
          refine rn_goto 32 dX7_taken_47 rfl ?_
          refine r_iload3 dX7_taken_32 ?_
          refine rn_iconst (-1) dX7_taken_33 (by decide) ?_
          refine rn_icmp_eq 50 dX7_taken_34 rfl (fun h => absurd h (by decide)) (fun _ => ?_)
          refine r_iload3 dX7_taken_37 ?_
          refine r_iload2 dX7_taken_38 ?_
          refine rn_icmp_eq 50 dX7_taken_39 rfl (fun h => absurd h (by decide)) (fun _ => ?_)
          refine r_iload3 dX7_taken_42 ?_
          refine cpiS1 dX7_taken_43 os_X7_over rfl ml_X7_372 (Nat.zero_le _) (Nat.zero_le _) (Nat.zero_le _) (ct_over _ _) ?_
          refine rn_eqi (0) (by decide) ?_
          refine r_istore3 dX7_taken_46 rfl ?_
          refine rn_goto 32 dX7_taken_47 rfl ?_
          refine r_iload3 dX7_taken_32 ?_
          refine rn_iconst (-1) dX7_taken_33 (by decide) ?_
          refine rn_icmp_eq 50 dX7_taken_34 rfl (fun h => absurd h (by decide)) (fun _ => ?_)
          refine r_iload3 dX7_taken_37 ?_
          refine r_iload2 dX7_taken_38 ?_
          refine rn_icmp_eq 50 dX7_taken_39 rfl (fun h => absurd h (by decide)) (fun _ => ?_)
          refine r_iload3 dX7_taken_42 ?_
          refine cpiS1 dX7_taken_43 os_X7_over rfl ml_X7_372 (Nat.zero_le _) (Nat.zero_le _) (Nat.zero_le _) (ct_over _ _) ?_
          refine rn_eqi (-1) (by decide) ?_
          refine r_istore3 dX7_taken_46 rfl ?_
          refine rn_goto 32 dX7_taken_47 rfl ?_
          refine r_iload3 dX7_taken_32 ?_
          refine rn_iconst (-1) dX7_taken_33 (by decide) ?_
          refine rn_icmp_eq 50 dX7_taken_34 rfl (fun _ => ?_) (fun h => absurd (by decide) h)
          refine r_iload3 dX7_taken_50 ?_
          refine r_iload2 dX7_taken_51 ?_
          refine rn_icmp_ne 64 dX7_taken_52 rfl (fun _ => ?_) (fun h => absurd h (by decide))
          refine rn_bipush (-13) dX7_taken_64 (by decide) ?_
          refine rn_iret dX7_taken_66 rfl (Nat.zero_le _) (Nat.zero_le _) ?_
          refine ⟨congrArg (fun z => some (Value.int z)) ?_, rfl, rfl, rfl, rfl⟩
          unfold takenQ
          rw [if_pos hq1, if_pos hq2, hkc, if_neg (by decide)]
        · refine r_iload3 dX7_taken_32 ?_
          refine rn_iconst (-1) dX7_taken_33 (by decide) ?_
          refine rn_icmp_eq 50 dX7_taken_34 rfl (fun h => absurd h (by decide)) (fun _ => ?_)
          refine r_iload3 dX7_taken_37 ?_
          refine r_iload2 dX7_taken_38 ?_
          refine rn_icmp_eq 50 dX7_taken_39 rfl (fun h => absurd h (by decide)) (fun _ => ?_)
          refine r_iload3 dX7_taken_42 ?_
          refine cpiS1 dX7_taken_43 os_X7_over rfl ml_X7_372 (Nat.zero_le _) (Nat.zero_le _) (Nat.zero_le _) (ct_over _ _) ?_
          refine rn_eqi (1) (by decide) ?_
          refine r_istore3 dX7_taken_46 rfl ?_
          refine rn_goto 32 dX7_taken_47 rfl ?_
          refine r_iload3 dX7_taken_32 ?_
          refine rn_iconst (-1) dX7_taken_33 (by decide) ?_
          refine rn_icmp_eq 50 dX7_taken_34 rfl (fun h => absurd h (by decide)) (fun _ => ?_)
          refine r_iload3 dX7_taken_37 ?_
          refine r_iload2 dX7_taken_38 ?_
          refine rn_icmp_eq 50 dX7_taken_39 rfl (fun h => absurd h (by decide)) (fun _ => ?_)
          refine r_iload3 dX7_taken_42 ?_
          refine cpiS1 dX7_taken_43 os_X7_over rfl ml_X7_372 (Nat.zero_le _) (Nat.zero_le _) (Nat.zero_le _) (ct_over _ _) ?_
          refine rn_eqi (0) (by decide) ?_
          refine r_istore3 dX7_taken_46 rfl ?_
          refine rn_goto 32 dX7_taken_47 rfl ?_
          refine r_iload3 dX7_taken_32 ?_
          refine rn_iconst (-1) dX7_taken_33 (by decide) ?_
          refine rn_icmp_eq 50 dX7_taken_34 rfl (fun h => absurd h (by decide)) (fun _ => ?_)
          refine r_iload3 dX7_taken_37 ?_
          refine r_iload2 dX7_taken_38 ?_
          refine rn_icmp_eq 50 dX7_taken_39 rfl (fun h => absurd h (by decide)) (fun _ => ?_)
          refine r_iload3 dX7_taken_42 ?_
          refine cpiS1 dX7_taken_43 os_X7_over rfl ml_X7_372 (Nat.zero_le _) (Nat.zero_le _) (Nat.zero_le _) (ct_over _ _) ?_
          refine rn_eqi (-1) (by decide) ?_
          refine r_istore3 dX7_taken_46 rfl ?_
          refine rn_goto 32 dX7_taken_47 rfl ?_
          refine r_iload3 dX7_taken_32 ?_
          refine rn_iconst (-1) dX7_taken_33 (by decide) ?_
          refine rn_icmp_eq 50 dX7_taken_34 rfl (fun _ => ?_) (fun h => absurd (by decide) h)
          refine r_iload3 dX7_taken_50 ?_
          refine r_iload2 dX7_taken_51 ?_
          refine rn_icmp_ne 64 dX7_taken_52 rfl (fun _ => ?_) (fun h => absurd h (by decide))
          refine rn_bipush (-13) dX7_taken_64 (by decide) ?_
          refine rn_iret dX7_taken_66 rfl (Nat.zero_le _) (Nat.zero_le _) ?_
          refine ⟨congrArg (fun z => some (Value.int z)) ?_, rfl, rfl, rfl, rfl⟩
          unfold takenQ
          rw [if_pos hq1, if_pos hq2, hkc, if_neg (by decide)]
        · refine r_iload3 dX7_taken_32 ?_
          refine rn_iconst (-1) dX7_taken_33 (by decide) ?_
          refine rn_icmp_eq 50 dX7_taken_34 rfl (fun h => absurd h (by decide)) (fun _ => ?_)
          refine r_iload3 dX7_taken_37 ?_
          refine r_iload2 dX7_taken_38 ?_
          refine rn_icmp_eq 50 dX7_taken_39 rfl (fun _ => ?_) (fun h => absurd (by decide) h)
          refine r_iload3 dX7_taken_50 ?_
          refine r_iload2 dX7_taken_51 ?_
          refine rn_icmp_ne 64 dX7_taken_52 rfl (fun h => absurd (by decide) h) (fun _ => ?_)
          refine r_aload0 dX7_taken_55 ?_
          refine gf_X7_32 dX7_taken_56 rfl hM.1 (sm_numbers hM).1 ?_
          refine r_iload1 dX7_taken_59 ?_
          refine rn_iald G.toNatClampNeg dX7_taken_60 (sm_numbers hM).2 (g01 hq2).1 (g01 hq2).2 (by decide) ?_
          refine rn_eqi (ρ (2 + G.toNatClampNeg) 2) (hR.gang 2 (by decide) (by decide) (g01 hq2).2) ?_
          refine rn_goto 66 dX7_taken_61 rfl ?_
          refine rn_iret dX7_taken_66 rfl (Nat.zero_le _) (Nat.zero_le _) ?_
          refine ⟨congrArg (fun z => some (Value.int z)) ?_, rfl, rfl, rfl, rfl⟩
          unfold takenQ
          rw [if_pos hq1, if_pos hq2, hkc, if_pos (by decide)]
    · refine rn_bipush (-11) dX7_taken_22 (by decide) ?_
      refine rn_iret dX7_taken_24 rfl (Nat.zero_le _) (Nat.zero_le _) ?_
      refine ⟨congrArg (fun z => some (Value.int z)) ?_, rfl, rfl, rfl, rfl⟩
      unfold takenQ
      rw [if_pos hq1, if_neg (bI_0.mp c19)]
  · refine rn_bipush (-2) dX7_taken_12 (by decide) ?_
    refine rn_iret dX7_taken_14 rfl (Nat.zero_le _) (Nat.zero_le _) ?_
    refine ⟨congrArg (fun z => some (Value.int z)) ?_, rfl, rfl, rfl, rfl⟩
    unfold takenQ
    rw [if_neg (bI_0.mp c9)]
end MHOST
