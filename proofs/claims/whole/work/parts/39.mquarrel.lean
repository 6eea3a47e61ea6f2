/-! THE REFERENCE: quarrel -/
def quS (S : Nat → Nat → List Int32) : Nat → Nat → Nat → Nat → IV → Nat × IV
  | 0, _, ch, _, ρ => (ch, ρ)
  | n + 1, i, ch, st, ρ => if st < 2 then (if byS S ρ (i % 2) (ρ (2 + i % 2) 3) < (bestS S ρ (i % 2) 29).2 then quS S n (i + 1) (ch + 1) 0 (up ρ (2 + i % 2) 3 (bestS S ρ (i % 2) 29).1) else quS S n (i + 1) ch (st + 1) ρ) else (ch, ρ)
def quQ (S : Nat → Nat → List Int32) (ρ : IV) (w : Int32) : Int32 := if 0 ≤ w ∧ w ≤ 2 then (if w = 0 then nI (quS S 8 0 0 0 ρ).1 else (quS S 8 0 0 0 ρ).2 (2 + (w - 1).toNatClampNeg) 3) else -2
theorem qu_off {S : Nat → Nat → List Int32} : ∀ n i ch st ρ a b, ¬ ((a = 2 ∨ a = 3) ∧ b = 3) → (quS S n i ch st ρ).2 a b = ρ a b := by
  intro n
  induction n with
  | zero => intro i ch st ρ a b h; rfl
  | succ n ih =>
    intro i ch st ρ a b h
    unfold quS
    split
    · split
      · rw [ih _ _ _ _ _ _ h, up_ne (by omega)]
      · exact ih _ _ _ _ _ _ h
    · rfl
theorem qu_back {S : Nat → Nat → List Int32} {n i ch st : Nat} {ρ : IV} : up (up (quS S n i ch st ρ).2 2 3 (ρ 2 3)) 3 3 (ρ 3 3) = ρ := by
  funext a b
  by_cases h : a = 3 ∧ b = 3
  · obtain ⟨rfl, rfl⟩ := h; rw [up_same]
  · rw [up_ne h]
    by_cases h2 : a = 2 ∧ b = 3
    · obtain ⟨rfl, rfl⟩ := h2; rw [up_same]
    · rw [up_ne h2]; exact qu_off _ _ _ _ _ _ _ (by omega)
theorem mod2 {i : Nat} (h : i < 8) : nI i - nI i / 2 * 2 = nI (i % 2) := by
  match i, h with
  | 0, _ => decide
  | 1, _ => decide
  | 2, _ => decide
  | 3, _ => decide
  | 4, _ => decide
  | 5, _ => decide
  | 6, _ => decide
  | 7, _ => decide
theorem w12 {w : Int32} (h1 : ¬ w = 0) (h : 0 ≤ w ∧ w ≤ 2) : ∃ γ, w - 1 = nI γ ∧ γ < 2 := by
  have h : w = 1 ∨ w = 2 := by
    obtain ⟨h2, h3⟩ := h
    simp only [Int32.lt_iff_toInt_lt, Int32.le_iff_toInt_le, ← Int32.toInt_inj, Int32.reduceToInt] at *; omega
  rcases h with rfl | rfl
  · exact ⟨0, by decide, by decide⟩
  · exact ⟨1, by decide, by decide⟩
section MQUAR
variable {g : GS} {l : Launch} {Γ : Sh} {iv : IV} {rv : RV} {lv : LV}
set_option maxRecDepth 4000 in
theorem qu_loop {D : Nat} {Q : Qt} (hM : ShM Γ rv) {S : Nat → Nat → List Int32} {T : Nat} (hT6 : T ≤ 6) {t : Nat} (htT : t < T) {w m2 m3 : Int32} : ∀ (n i ch st : Nat) (ρ iv : IV) (lv : LV) (x4 x5 x6 : Int32) (v7 v8 v9 : Value), i + n = 8 → ch ≤ i → st ≤ i → x4 = nI ch → x5 = nI st → x6 = nI i → v7.category = 1 → v8.category = 1 → v9.category = 1 → RM iv ρ → TextsM iv T S → GR ρ → ρ 4 8 = nI t →
    (∀ (iv' : IV) (lv : LV) (x4 : Int32) (v5 v6 v7 v8 v9 : Value), x4 = nI (quS S n i ch st ρ).1 → v5.category = 1 → v6.category = 1 → v7.category = 1 → v8.category = 1 → v9.category = 1 → Off Scm iv iv' → RM iv' (quS S n i ch st ρ).2 → Rn g l mX7_quarrel (rmA (D + 54) 0 0) Q 0 0 116 [.ref 75, .int w, .int m2, .int m3, .int x4, v5, v6, v7, v8, v9] [] Γ iv' rv lv) → Rn g l mX7_quarrel (rmA (D + 54) 0 0) Q 0 0 38 [.ref 75, .int w, .int m2, .int m3, .int x4, .int x5, .int x6, v7, v8, v9] [] Γ iv rv lv := by
  intro n
  induction n with
  | zero =>
    intro i ch st ρ iv lv x4 x5 x6 v7 v8 v9 hn hci hsi e4 e5 e6 c7 c8 c9 hR hX hg ht kk
    refine r_iload6 dX7_quarrel_38 ?_
    refine rn_bipush (8) dX7_quarrel_40 (by decide) ?_
    refine rn_icmp_ge 116 dX7_quarrel_42 rfl (fun _ => ?_) (fun h => absurd (by rw [e6, show i = 8 by omega]; decide) h)
    exact kk _ _ _ _ _ _ _ _ e4 rfl rfl c7 c8 c9 Off.refl hR
  | succ n ih =>
    intro i ch st ρ iv lv x4 x5 x6 v7 v8 v9 hn hci hsi e4 e5 e6 c7 c8 c9 hR hX hg ht kk
    refine r_iload6 dX7_quarrel_38 ?_
    refine rn_bipush (8) dX7_quarrel_40 (by decide) ?_
    refine rn_icmp_ge 116 dX7_quarrel_42 rfl (fun h => absurd h (fun z => by rw [e6, show (8 : Int32) = nI 8 by decide, nI_leI (by decide) (by omega)] at z; omega)) (fun _ => ?_)
    refine r_iload5 dX7_quarrel_45 ?_
    refine rn_iconst (2) dX7_quarrel_47 (by decide) ?_
    refine rn_icmp_ge 116 dX7_quarrel_48 rfl (fun c48 => ?_) (fun c48 => ?_)
    · have hst2 : ¬ st < 2 := by rw [e5, show (2 : Int32) = nI 2 by decide, nI_leI (by decide) (by omega)] at c48; omega
      have eq : quS S (n + 1) i ch st ρ = (ch, ρ) := by rw [quS, if_neg hst2]
      exact kk _ _ _ _ _ _ _ _ (by rw [eq]; exact e4) rfl rfl c7 c8 c9 Off.refl (by rw [eq]; exact hR)
    · have hst2 : st < 2 := by rw [e5, show (2 : Int32) = nI 2 by decide, nI_leI (by decide) (by omega)] at c48; omega
      refine r_iload6 dX7_quarrel_51 ?_
      refine rn_iconst (2) dX7_quarrel_53 (by decide) ?_
      refine rn_irem dX7_quarrel_54 (by decide) ?_
      refine rn_eqi (nI (i % 2)) (by rw [e6]; exact mod2 (by omega)) ?_
      refine r_istore7 dX7_quarrel_55 rfl ?_
      refine r_aload0 dX7_quarrel_57 ?_
      refine r_iload7 dX7_quarrel_58 ?_
      refine r_aload0 dX7_quarrel_60 ?_
      refine gf_X7_35 dX7_quarrel_61 rfl hM.1 (sm_men hM).1 ?_
      refine r_iload7 dX7_quarrel_64 ?_
      refine rn_iald (i % 2) dX7_quarrel_66 (sm_men hM).2 rfl (by omega) (by decide) ?_
      refine rn_eqi (ρ (2 + i % 2) 3) (hR.gang 3 (by decide) (by decide) (by omega)) ?_
      refine cliV2 dX7_quarrel_67 ov_X7_gainBy rfl ml_X7_313 hM.1 rfl (Nat.zero_le _) (Nat.zero_le _) (Nat.zero_le _) (ct_gainBy (γ := i % 2) (D + 1) hM hR hX hT6 ht htT hg rfl (by omega) _) (fun x67 iv lv h67 => ?_)
      refine r_istore8 dX7_quarrel_70 rfl ?_
      refine r_aload0 dX7_quarrel_72 ?_
      refine r_iload7 dX7_quarrel_73 ?_
      refine cliV1 dX7_quarrel_75 ov_X7_bestMen rfl ml_X7_319 hM.1 rfl (Nat.zero_le _) (Nat.zero_le _) (Nat.zero_le _) (ct_bestMen (γ := i % 2) D hM h67.2.1 (hX.scr h67.1) hT6 ht htT hg rfl (by omega)) (fun x75 iv lv h75 => ?_)
      refine r_istore9 dX7_quarrel_78 rfl ?_
      refine r_aload0 dX7_quarrel_80 ?_
      refine gf_X7_316 dX7_quarrel_81 rfl hM.1 ?_
      refine rn_eqi _ h75.2.2.2 ?_
      refine r_iload8 dX7_quarrel_84 ?_
      refine rn_icmp_le 107 dX7_quarrel_86 rfl (fun c86 => ?_) (fun c86 => ?_)
      · refine r_iinc5 _ dX7_quarrel_107 rfl rfl ?_
        refine r_iinc6 _ dX7_quarrel_110 rfl rfl ?_
        refine rn_goto 38 dX7_quarrel_113 rfl ?_
        have eq : quS S (n + 1) i ch st ρ = quS S n (i + 1) ch (st + 1) ρ := by rw [quS, if_pos hst2, if_neg (Int32.not_lt.mpr (by rw [← h67.2.2]; exact c86))]
        exact ih (i + 1) ch (st + 1) ρ iv _ _ _ _ _ _ _ (by omega) (by omega) (by omega) e4 (by rw [e5]; exact nI_1 st) (by rw [e6]; exact nI_1 i) rfl rfl rfl h75.2.1 ((hX.scr h67.1).scm h75.1) hg ht (fun iv2 lv2 y4 y5 y6 y7 y8 y9 q4 q5 q6 q7 q8 q9 ho hR2 => kk iv2 lv2 y4 y5 y6 y7 y8 y9 (by rw [eq]; exact q4) q5 q6 q7 q8 q9 (((scr_m h67.1).trans h75.1).trans ho) (by rw [eq]; exact hR2))
      · refine r_aload0 dX7_quarrel_89 ?_
        refine gf_X7_35 dX7_quarrel_90 rfl hM.1 (sm_men hM).1 ?_
        refine r_iload7 dX7_quarrel_93 ?_
        refine r_iload9 dX7_quarrel_95 ?_
        refine rn_iast (i % 2) dX7_quarrel_97 (sm_men hM).2 rfl (by omega) (by decide) ?_
        refine r_iinc4 _ dX7_quarrel_98 rfl rfl ?_
        refine rn_iconst (0) dX7_quarrel_101 (by decide) ?_
        refine r_istore5 dX7_quarrel_102 rfl ?_
        refine rn_goto 110 dX7_quarrel_104 rfl ?_
        refine r_iinc6 _ dX7_quarrel_110 rfl rfl ?_
        refine rn_goto 38 dX7_quarrel_113 rfl ?_
        have eq : quS S (n + 1) i ch st ρ = quS S n (i + 1) (ch + 1) 0 (up ρ (2 + i % 2) 3 (bestS S ρ (i % 2) 29).1) := by rw [quS, if_pos hst2, if_pos (by rw [← h67.2.2]; exact Int32.not_le.mp c86)]
        have hof : Off Scm iv (up iv 83 (i % 2) x75) := off_up (by omega)
        have hRu : RM (up iv 83 (i % 2) x75) (up ρ (2 + i % 2) 3 (bestS S ρ (i % 2) 29).1) := by rw [← h75.2.2.1]; exact h75.2.1.menu (by omega)
        exact ih (i + 1) (ch + 1) 0 _ (up iv 83 (i % 2) x75) _ _ _ _ _ _ _ (by omega) (by omega) (by omega) (by rw [e4]; exact nI_1 ch) rfl (by rw [e6]; exact nI_1 i) rfl rfl rfl hRu (((hX.scr h67.1).scm h75.1).scm hof) (hg.upd (by omega) (by omega) (by omega) (by omega)) ((up_ne1 (by omega)).trans ht) (fun iv2 lv2 y4 y5 y6 y7 y8 y9 q4 q5 q6 q7 q8 q9 ho hR2 => kk iv2 lv2 y4 y5 y6 y7 y8 y9 (by rw [eq]; exact q4) q5 q6 q7 q8 q9 ((((scr_m h67.1).trans h75.1).trans hof).trans ho) (by rw [eq]; exact hR2))
set_option maxRecDepth 4000 in
theorem ct_quarrel (D : Nat) (hM : ShM Γ rv) {ρ : IV} {S : Nat → Nat → List Int32} {T : Nat} (hR : RM iv ρ) (hX : TextsM iv T S) (hT6 : T ≤ 6) {t : Nat} (ht : ρ 4 8 = nI t) (htT : t < T) (hg : GR ρ) (w : Int32) : Ct g l mX7_quarrel (D + 54) 0 0 [.ref 75, .int w] Γ iv rv lv (qLI Γ rv (fun x iv' _ => Off Scm iv iv' ∧ RM iv' ρ ∧ x = quQ S ρ w)) := by
  refine Ct.of (by decide +kernel) (Nat.le_of_ble_eq_true rfl) (Nat.le_of_ble_eq_true rfl) ?_
  refine r_iload1 dX7_quarrel_0 ?_
  refine rn_i2l dX7_quarrel_1 ?_
  refine rn_lconst (0) dX7_quarrel_2 (by decide) ?_
  refine rn_ldc2 (v := _) dX7_quarrel_3 cl_X7_322 ?_
  refine cpiS3 dX7_quarrel_6 os_X7_in rfl ml_X7_96 (Nat.zero_le _) (Nat.zero_le _) (Nat.zero_le _) (ct_inI _ (a := 0) (b := 2) (by decide) (by decide)) ?_
  refine rn_if_ne 15 dX7_quarrel_9 rfl (fun c9 => ?_) (fun c9 => ?_)
  · have hw := bI_1.mp (bI_or.resolve_left c9)
    refine r_aload0 dX7_quarrel_15 ?_
    refine gf_X7_35 dX7_quarrel_16 rfl hM.1 (sm_men hM).1 ?_
    refine rn_iconst (0) dX7_quarrel_19 (by decide) ?_
    refine rn_iald 0 dX7_quarrel_20 (sm_men hM).2 rfl (by decide) (by decide) ?_
    refine rn_eqi (ρ 2 3) (hR.gang 3 (γ := 0) (by decide) (by decide) (by decide)) ?_
    refine r_istore2 dX7_quarrel_21 rfl ?_
    refine r_aload0 dX7_quarrel_22 ?_
    refine gf_X7_35 dX7_quarrel_23 rfl hM.1 (sm_men hM).1 ?_
    refine rn_iconst (1) dX7_quarrel_26 (by decide) ?_
    refine rn_iald 1 dX7_quarrel_27 (sm_men hM).2 rfl (by decide) (by decide) ?_
    refine rn_eqi (ρ 3 3) (hR.gang 3 (γ := 1) (by decide) (by decide) (by decide)) ?_
    refine r_istore3 dX7_quarrel_28 rfl ?_
    refine rn_iconst (0) dX7_quarrel_29 (by decide) ?_
    refine r_istore4 dX7_quarrel_30 rfl ?_
    refine rn_iconst (0) dX7_quarrel_32 (by decide) ?_
    refine r_istore5 dX7_quarrel_33 rfl ?_
    refine rn_iconst (0) dX7_quarrel_35 (by decide) ?_
    refine r_istore6 dX7_quarrel_36 rfl ?_
    refine qu_loop hM hT6 htT 8 0 0 0 ρ iv lv _ _ _ _ _ _ (by decide) (Nat.le_refl _) (Nat.le_refl _) rfl rfl rfl rfl rfl rfl hR hX hg ht (fun iv2 lv2 x4 v5 v6 v7 v8 v9 e4 c5 c6 c7 c8 c9_ ho hRn => ?_)
    refine r_iload1 dX7_quarrel_116 ?_
    refine rn_if_ne 125 dX7_quarrel_117 rfl (fun c117 => ?_) (fun c117 => ?_)
    · obtain ⟨gq, hq, hql⟩ := w12 c117 hw
      refine r_aload0 dX7_quarrel_125 ?_
      refine gf_X7_35 dX7_quarrel_126 rfl hM.1 (sm_men hM).1 ?_
      refine r_iload1 dX7_quarrel_129 ?_
      refine rn_iconst (1) dX7_quarrel_130 (by decide) ?_
      refine rn_isub dX7_quarrel_131 ?_
      refine rn_iald gq dX7_quarrel_132 (sm_men hM).2 hq hql (by decide) ?_
      refine rn_eqi ((quS S 8 0 0 0 ρ).2 (2 + gq) 3) (hRn.gang 3 (by decide) (by decide) hql) ?_
      refine r_istore6 dX7_quarrel_133 c5 ?_
      refine r_aload0 dX7_quarrel_135 ?_
      refine gf_X7_35 dX7_quarrel_136 rfl hM.1 (sm_men hM).1 ?_
      refine rn_iconst (0) dX7_quarrel_139 (by decide) ?_
      refine r_iload2 dX7_quarrel_140 ?_
      refine rn_iast 0 dX7_quarrel_141 (sm_men hM).2 rfl (by decide) (by decide) ?_
      refine r_aload0 dX7_quarrel_142 ?_
      refine gf_X7_35 dX7_quarrel_143 rfl hM.1 (sm_men hM).1 ?_
      refine rn_iconst (1) dX7_quarrel_146 (by decide) ?_
      refine r_iload3 dX7_quarrel_147 ?_
      refine rn_iast 1 dX7_quarrel_148 (sm_men hM).2 rfl (by decide) (by decide) ?_
      refine r_iload6 dX7_quarrel_149 ?_
      refine rn_iret dX7_quarrel_151 rfl (Nat.zero_le _) (Nat.zero_le _) ?_
      refine ⟨_, rfl, rfl, rfl, (ho.trans (off_up (by decide))).trans (off_up (by decide)), ?_, ?_⟩
      · rw [← qu_back (S := S) (n := 8) (i := 0) (ch := 0) (st := 0) (ρ := ρ)]
        exact (hRn.upg 3 (γ := 0) (by decide) (by decide) (by decide)).upg 3 (γ := 1) (by decide) (by decide) (by decide)
      · unfold quQ
        rw [if_pos hw, if_neg c117, hq, nI_clamp (by omega)]
    · refine r_iload4 dX7_quarrel_120 ?_
      refine rn_goto 133 dX7_quarrel_122 rfl ?_
      refine r_istore6 dX7_quarrel_133 c5 ?_
      refine r_aload0 dX7_quarrel_135 ?_
      refine gf_X7_35 dX7_quarrel_136 rfl hM.1 (sm_men hM).1 ?_
      refine rn_iconst (0) dX7_quarrel_139 (by decide) ?_
      refine r_iload2 dX7_quarrel_140 ?_
      refine rn_iast 0 dX7_quarrel_141 (sm_men hM).2 rfl (by decide) (by decide) ?_
      refine r_aload0 dX7_quarrel_142 ?_
      refine gf_X7_35 dX7_quarrel_143 rfl hM.1 (sm_men hM).1 ?_
      refine rn_iconst (1) dX7_quarrel_146 (by decide) ?_
      refine r_iload3 dX7_quarrel_147 ?_
      refine rn_iast 1 dX7_quarrel_148 (sm_men hM).2 rfl (by decide) (by decide) ?_
      refine r_iload6 dX7_quarrel_149 ?_
      refine rn_iret dX7_quarrel_151 rfl (Nat.zero_le _) (Nat.zero_le _) ?_
      refine ⟨_, rfl, rfl, rfl, (ho.trans (off_up (by decide))).trans (off_up (by decide)), ?_, ?_⟩
      · rw [← qu_back (S := S) (n := 8) (i := 0) (ch := 0) (st := 0) (ρ := ρ)]
        exact (hRn.upg 3 (γ := 0) (by decide) (by decide) (by decide)).upg 3 (γ := 1) (by decide) (by decide) (by decide)
      · unfold quQ
        rw [if_pos hw, if_pos c117]
        exact e4
  · refine rn_bipush (-2) dX7_quarrel_12 (by decide) ?_
    refine rn_iret dX7_quarrel_14 rfl (Nat.zero_le _) (Nat.zero_le _) ?_
    refine ⟨_, rfl, rfl, rfl, Off.refl, hR, ?_⟩
    unfold quQ
    rw [if_neg (bI_0.mp c9)]
end MQUAR
