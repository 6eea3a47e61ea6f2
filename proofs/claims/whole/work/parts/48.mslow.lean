/-! THE REFERENCE: slowed -/
theorem or0 (x : Int32) : x ||| 0 = x := by simp
theorem keep_one {S : Nat → Nat → List Int32} {ρ : IV} : KeepS ρ (passS S ρ (-1)) := keep_pass
section MSLOW
variable {g : GS} {l : Launch} {Γ : Sh} {iv : IV} {rv : RV} {lv : LV}
set_option maxRecDepth 4000 in
theorem si_loop {D : Nat} {Q : Qt} (hM : ShM Γ rv) {S : Nat → Nat → List Int32} {T : Nat} (hT6 : T ≤ 6) {t : Nat} (htT : t < T) {γ sn N : Nat} {G s y3 b4 x5 : Int32} (hG : G = nI γ) (hγ : γ < 2) (hs : s = nI sn) (hs4 : sn < 4) (hN : N ≤ 40) {it : Nat → Int32} : ∀ (m k : Nat) (ρ iv : IV) (lv : LV) (x7 : Int32), k + m = N → x7 = nI k → RM iv ρ → TextsM iv T S → GR ρ → ρ 4 8 = nI t → iv 96 sn = nI N → (∀ i, i < N → iv 97 (40 * sn + i) = it i) →
    (∀ (iv' : IV) (lv' : LV) (z x' : Int32) (ρ' : IV), z = goS S γ it m k ρ → Off Pn iv iv' → RM iv' ρ' → KeepS ρ ρ' → Rn g l mX7_slowed (rmA (D + 51) 0 0) Q 0 0 130 [.ref 75, .int G, .int s, .int y3, .int b4, .int x5, .int z, .int x'] [] Γ iv' rv lv') → Rn g l mX7_slowed (rmA (D + 51) 0 0) Q 0 0 75 [.ref 75, .int G, .int s, .int y3, .int b4, .int x5, .int 1, .int x7] [] Γ iv rv lv := by
  intro m
  induction m with
  | zero =>
    intro k ρ iv lv x7 hn e7 hR hX hg ht h96 hit kk
    obtain rfl : k = N := by omega
    refine r_iload7 dX7_slowed_75 ?_
    refine r_aload0 dX7_slowed_77 ?_
    refine gf_X7_81 dX7_slowed_78 rfl hM.1 (sm_sheetSize hM).1 ?_
    refine r_iload2 dX7_slowed_81 ?_
    refine rn_iald sn dX7_slowed_82 (sm_sheetSize hM).2 hs hs4 (by decide) ?_
    refine rn_eqi _ h96 ?_
    refine rn_icmp_ge 130 dX7_slowed_83 rfl (fun _ => ?_) (fun h => absurd (by rw [e7]; exact nI_le (by omega) (by omega)) h)
    exact kk _ _ _ _ ρ rfl Off.refl hR KeepS.refl
  | succ m ih =>
    intro k ρ iv lv x7 hn e7 hR hX hg ht h96 hit kk
    refine r_iload7 dX7_slowed_75 ?_
    refine r_aload0 dX7_slowed_77 ?_
    refine gf_X7_81 dX7_slowed_78 rfl hM.1 (sm_sheetSize hM).1 ?_
    refine r_iload2 dX7_slowed_81 ?_
    refine rn_iald sn dX7_slowed_82 (sm_sheetSize hM).2 hs hs4 (by decide) ?_
    refine rn_eqi (nI N) h96 ?_
    refine rn_icmp_ge 130 dX7_slowed_83 rfl (fun h => absurd h (fun z => by rw [e7, nI_leI (by omega) (by omega)] at z; omega)) (fun _ => ?_)
    refine r_iload6 dX7_slowed_86 ?_
    refine rn_if_eq 130 dX7_slowed_88 rfl (fun h => absurd h (by decide)) (fun _ => ?_)
    refine r_aload0 dX7_slowed_91 ?_
    refine rn_iconst (-1) dX7_slowed_92 (by decide) ?_
    refine clvV1 dX7_slowed_93 ov_X7_passes rfl ml_X7_282 hM.1 rfl (Nat.zero_le _) (Nat.zero_le _) (Nat.zero_le _) (ct_mpasses D hM hR hX hT6 ht htT hg _) (fun iv lv h93 => ?_)
    refine r_aload0 dX7_slowed_96 ?_
    refine gf_X7_38 dX7_slowed_97 rfl hM.1 (sm_dones hM).1 ?_
    refine r_iload1 dX7_slowed_100 ?_
    refine rn_iald γ dX7_slowed_101 (sm_dones hM).2 hG hγ (by decide) ?_
    refine rn_eqi (passS S ρ (-1) (2 + γ) 4) (h93.2.gang 4 (by decide) (by decide) hγ) ?_
    refine r_aload0 dX7_slowed_102 ?_
    refine gf_X7_84 dX7_slowed_103 rfl hM.1 (sm_items hM).1 ?_
    refine rn_bipush (40) dX7_slowed_106 (by decide) ?_
    refine r_iload2 dX7_slowed_108 ?_
    refine rn_imul dX7_slowed_109 ?_
    refine r_iload7 dX7_slowed_110 ?_
    refine rn_iadd dX7_slowed_112 ?_
    refine rn_iald (40 * sn + k) dX7_slowed_113 (sm_items hM).2 (by rw [hs, e7, show (40 : Int32) = nI 40 by decide, pk_mul, nI_add]) (by omega) (by decide) ?_
    refine rn_eqi (it k) ((h93.1 97 _ (by omega)).trans (hit k (by omega))) ?_
    refine rn_icmp_ne 121 dX7_slowed_114 rfl (fun c114 => ?_) (fun c114 => ?_)
    · refine rn_iconst (0) dX7_slowed_121 (by decide) ?_
      refine r_istore6 dX7_slowed_122 rfl ?_
      refine r_iinc7 _ dX7_slowed_124 rfl rfl ?_
      refine rn_goto 75 dX7_slowed_127 rfl ?_
      refine r_iload7 dX7_slowed_75 ?_
      refine r_aload0 dX7_slowed_77 ?_
      refine gf_X7_81 dX7_slowed_78 rfl hM.1 (sm_sheetSize hM).1 ?_
      refine r_iload2 dX7_slowed_81 ?_
      refine rn_iald sn dX7_slowed_82 (sm_sheetSize hM).2 hs hs4 (by decide) ?_
      refine rn_eqi (nI N) ((h93.1 96 sn (by omega)).trans h96) ?_
      refine rn_icmp_ge 130 dX7_slowed_83 rfl (fun c83 => ?_) (fun c83 => ?_)
      · have ee : goS S γ it (m + 1) k ρ = 0 := by rw [goS, if_neg c114]
        exact kk _ _ _ _ (passS S ρ (-1)) (by rw [ee]) h93.1 h93.2 keep_pass
      · refine r_iload6 dX7_slowed_86 ?_
        refine rn_if_eq 130 dX7_slowed_88 rfl (fun _ => ?_) (fun h => absurd (by decide) h)
        have ee : goS S γ it (m + 1) k ρ = 0 := by rw [goS, if_neg c114]
        exact kk _ _ _ _ (passS S ρ (-1)) (by rw [ee]) h93.1 h93.2 keep_pass
    · refine rn_iconst (1) dX7_slowed_117 (by decide) ?_
      refine rn_goto 122 dX7_slowed_118 rfl ?_
      refine r_istore6 dX7_slowed_122 rfl ?_
      refine r_iinc7 _ dX7_slowed_124 rfl rfl ?_
      refine rn_goto 75 dX7_slowed_127 rfl ?_
      have ee : goS S γ it (m + 1) k ρ = goS S γ it m (k + 1) (passS S ρ (-1)) := by rw [goS, if_pos c114]
      exact ih (k + 1) (passS S ρ (-1)) iv lv _ (by omega) (by rw [e7]; exact nI_1 k) h93.2 (hX.pn h93.1) (gr_pass hg) (rule_pass.trans ht) ((h93.1 96 sn (by omega)).trans h96) (fun j hj => (h93.1 97 _ (by omega)).trans (hit j hj)) (fun iv2 lv2 z x2 ρ2 hz ho hR2 hk2 => kk iv2 lv2 z x2 ρ2 (by rw [ee]; exact hz) (h93.1.trans ho) hR2 (keep_pass.trans hk2))
set_option maxRecDepth 4000 in
theorem sl_loop {D : Nat} {Q : Qt} (hM : ShM Γ rv) {ρ : IV} {S : Nat → Nat → List Int32} {T : Nat} (hT6 : T ≤ 6) {t : Nat} (ht : ρ 4 8 = nI t) (htT : t < T) (hg : GR ρ) {γ sn N : Nat} {G s y3 : Int32} (hG : G = nI γ) (hγ : γ < 2) (hs : s = nI sn) (hs4 : sn < 4) (hN : N ≤ 40) {it : Nat → Int32} (hy3 : y3 = nI (nextN ρ γ)) (hlt : nextN ρ γ < 24) {iv0 : IV} (h96 : iv0 96 sn = nI N) (hit : ∀ i, i < N → iv0 97 (40 * sn + i) = it i) : ∀ (n i : Nat) (iv : IV) (lv : LV) (b4 : Int32) (v6 v7 : Value) (x : Int32), i + n = 4 → x = nI i → b4 = slS S ρ γ it N i → v6.category = 1 → v7.category = 1 → Off Scr iv0 iv → RM iv ρ → AsM iv ρ → TextsM iv T S → (∀ (iv : IV) (lv : LV) (b4 : Int32) (v6 v7 : Value) (x : Int32), x = nI 4 → b4 = slS S ρ γ it N 4 → v6.category = 1 → v7.category = 1 → Off Scr iv0 iv → RM iv ρ → AsM iv ρ → TextsM iv T S → Rn g l mX7_slowed (rmA (D + 52) 0 0) Q 0 0 158 [.ref 75, .int G, .int s, .int y3, .int b4, .int x, v6, v7] [] Γ iv rv lv) → Rn g l mX7_slowed (rmA (D + 52) 0 0) Q 0 0 55 [.ref 75, .int G, .int s, .int y3, .int b4, .int x, v6, v7] [] Γ iv rv lv := by
  intro n
  induction n with
  | zero =>
    intro i iv lv b4 v6 v7 x hn hx h4 hv6 hv7 ho hR hA hX kk
    obtain rfl : i = 4 := by omega
    refine r_iload5 dX7_slowed_55 ?_
    refine rn_iconst (3) dX7_slowed_57 (by decide) ?_
    refine rn_icmp_gt 158 dX7_slowed_58 rfl (fun _ => ?_) (fun h => absurd (by rw [hx]; decide) h)
    exact kk _ _ _ _ _ _ hx h4 hv6 hv7 ho hR hA hX
  | succ n ih =>
    intro i iv lv b4 v6 v7 x hn hx h4 hv6 hv7 ho hR hA hX kk
    have hil : i < 4 := by omega
    skip
    refine r_iload5 dX7_slowed_55 ?_
    refine rn_iconst (3) dX7_slowed_57 (by decide) ?_
    refine rn_icmp_gt 158 dX7_slowed_58 rfl (fun h => absurd h (fun z => by rw [hx, show (3 : Int32) = nI 3 by decide, nI_ltI (by decide) (by omega)] at z; omega)) (fun _ => ?_)
    refine r_aload0 dX7_slowed_61 ?_
    refine gf_X7_23 dX7_slowed_62 rfl hM.1 (sm_grounds hM).1 ?_
    refine r_iload3 dX7_slowed_65 ?_
    refine r_iload5 dX7_slowed_66 ?_
    refine rn_iast (nextN ρ γ) dX7_slowed_68 (sm_grounds hM).2 hy3 hlt (by decide) ?_
    refine rn_iconst (1) dX7_slowed_69 (by decide) ?_
    refine r_istore6 dX7_slowed_70 rfl ?_
    refine rn_iconst (0) dX7_slowed_72 (by decide) ?_
    refine r_istore7 dX7_slowed_73 rfl ?_
    have hR1 : RM (up iv 79 (nextN ρ γ) x) (up ρ 0 (nextN ρ γ) (nI i)) := by rw [hx]; exact hR.grd
    have hA1 : AsM (up iv 79 (nextN ρ γ) x) ρ := hA.off (P := fun a _ => a = 79) (off_up rfl) (fun a b z => by omega)
    have hX1 : TextsM (up iv 79 (nextN ρ γ) x) T S := hX.scr (off_up (by omega))
    refine si_loop (D := D + 1) hM hT6 htT hG hγ hs hs4 hN N 0 (up ρ 0 (nextN ρ γ) (nI i)) _ lv _ (Nat.zero_add _) rfl hR1 hX1 (hg.upd (by omega) (by omega) (by omega) (by omega)) ((up_ne1 (by decide)).trans ht) ((up_ne1 (by decide)).trans ((ho 96 sn (by omega)).trans h96)) (fun j hj => (up_ne1 (by decide)).trans ((ho 97 _ (by omega)).trans (hit j hj))) (fun iv lv z x' ρ2 hz ho2 hR2 hk2 => ?_)
    refine r_iload4 dX7_slowed_130 ?_
    refine r_iload6 dX7_slowed_132 ?_
    refine rn_if_eq 141 dX7_slowed_134 rfl (fun c134 => ?_) (fun c134 => ?_)
    · refine rn_iconst (0) dX7_slowed_141 (by decide) ?_
      refine r_iload5 dX7_slowed_142 ?_
      refine rn_ishl dX7_slowed_144 ?_
      refine rn_ior dX7_slowed_145 ?_
      refine r_istore4 dX7_slowed_146 rfl ?_
      refine r_aload0 dX7_slowed_148 ?_
      refine ccvV0 dX7_slowed_149 ov_X7_laysBack rfl ml_X7_308 hM.1 rfl (Nat.zero_le _) (Nat.zero_le _) (Nat.zero_le _) (ct_laysBack _ hM hR2 (hA1.pn ho2) (kp_grd.trans hk2.kp)) (fun iv h149 => ?_)
      refine r_iinc5 _ dX7_slowed_152 rfl rfl ?_
      refine rn_goto 55 dX7_slowed_155 rfl ?_
      have ee : slS S ρ γ it N (i + 1) = slS S ρ γ it N i := by rw [slS, if_pos (hz.symm.trans c134)]
      exact ih (i + 1) iv _ _ _ _ _ (by omega) (by rw [hx]; exact nI_1 i) (by rw [ee, h4, hx]; rw [shl0 i (by omega), or0]) rfl rfl (((ho.trans (off_up (by omega))).trans (pn_scr ho2)).trans (bk_scr h149.1)) h149.2 ((hA1.pn ho2).bk h149.1) ((hX1.pn ho2).scr (bk_scr h149.1)) kk
    · refine rn_iconst (1) dX7_slowed_137 (by decide) ?_
      refine rn_goto 142 dX7_slowed_138 rfl ?_
      refine r_iload5 dX7_slowed_142 ?_
      refine rn_ishl dX7_slowed_144 ?_
      refine rn_ior dX7_slowed_145 ?_
      refine r_istore4 dX7_slowed_146 rfl ?_
      refine r_aload0 dX7_slowed_148 ?_
      refine ccvV0 dX7_slowed_149 ov_X7_laysBack rfl ml_X7_308 hM.1 rfl (Nat.zero_le _) (Nat.zero_le _) (Nat.zero_le _) (ct_laysBack _ hM hR2 (hA1.pn ho2) (kp_grd.trans hk2.kp)) (fun iv h149 => ?_)
      refine r_iinc5 _ dX7_slowed_152 rfl rfl ?_
      refine rn_goto 55 dX7_slowed_155 rfl ?_
      have ee : slS S ρ γ it N (i + 1) = slS S ρ γ it N i ||| (1 <<< (nI i &&& 31)) := by rw [slS, if_neg (fun q => c134 (hz.trans q))]
      exact ih (i + 1) iv _ _ _ _ _ (by omega) (by rw [hx]; exact nI_1 i) (by rw [ee, h4, hx]) rfl rfl (((ho.trans (off_up (by omega))).trans (pn_scr ho2)).trans (bk_scr h149.1)) h149.2 ((hA1.pn ho2).bk h149.1) ((hX1.pn ho2).scr (bk_scr h149.1)) kk
set_option maxRecDepth 4000 in
theorem ct_mslowed (D : Nat) (hM : ShM Γ rv) {ρ : IV} {S : Nat → Nat → List Int32} {T : Nat} (hR : RM iv ρ) (hX : TextsM iv T S) (hT6 : T ≤ 6) {t : Nat} (ht : ρ 4 8 = nI t) (htT : t < T) (hg : GR ρ) {η : IV} (hS : SheetsM iv η) (hgs : GSh η) (G s : Int32) : Ct g l mX7_slowed (D + 52) 0 0 [.ref 75, .int G, .int s] Γ iv rv lv (qLI Γ rv (fun x iv' _ => Off Scr iv iv' ∧ RM iv' ρ ∧ x = slowQ S ρ η G s)) := by
  refine Ct.of (by decide +kernel) (Nat.le_of_ble_eq_true rfl) (Nat.le_of_ble_eq_true rfl) ?_
  refine r_iload1 dX7_slowed_0 ?_
  refine cpiS1 dX7_slowed_1 os_X7_isGang rfl ml_X7_114 (Nat.zero_le _) (Nat.zero_le _) (Nat.zero_le _) (ct_misGang _ _) ?_
  refine rn_if_eq 14 dX7_slowed_4 rfl (fun c4 => ?_) (fun c4 => ?_)
  · refine rn_bipush (-2) dX7_slowed_14 (by decide) ?_
    refine rn_iret dX7_slowed_16 rfl (Nat.zero_le _) (Nat.zero_le _) ?_
    refine ⟨_, rfl, rfl, rfl, Off.refl, hR, ?_⟩
    unfold slowQ
    rw [if_neg (fun z => bI_0.mp c4 z.1)]
  · refine r_iload2 dX7_slowed_7 ?_
    refine cpiS1 dX7_slowed_8 os_X7_isSheet rfl ml_X7_326 (Nat.zero_le _) (Nat.zero_le _) (Nat.zero_le _) (ct_misSheet _ _) ?_
    refine rn_if_ne 17 dX7_slowed_11 rfl (fun c11 => ?_) (fun c11 => ?_)
    · have hq1 := bI_1.mp (bI_or.resolve_left c4)
      have hq2 := bI_1.mp (bI_or.resolve_left c11)
      have hs4 : s.toNatClampNeg < 4 := nB_lt 3 (by decide) hq2 (by decide)
      refine r_aload0 dX7_slowed_17 ?_
      refine gf_X7_74 dX7_slowed_18 rfl hM.1 (sm_isThere hM).1 ?_
      refine r_iload2 dX7_slowed_21 ?_
      refine rn_zald s.toNatClampNeg dX7_slowed_22 (sm_isThere hM).2 (nB 3 (by decide) hq2).1 (nB_lt 3 (by decide) hq2 (by decide)) (by decide) ?_
      refine rn_eqi _ (hS _ hs4).1 ?_
      refine rn_if_ne 29 dX7_slowed_23 rfl (fun c23 => ?_) (fun c23 => ?_)
      · have hm : ¬ η s.toNatClampNeg 0 = -1 := fun z => by rw [if_pos z] at c23; exact c23 rfl
        obtain ⟨nn, hnn, hnn2⟩ := ((hgs _ hs4).resolve_left hm).2
        have hsz := (hS _ hs4).2.2 hm
        refine r_aload0 dX7_slowed_29 ?_
        refine cpiV0 dX7_slowed_30 ov_X7_left rfl ml_X7_137 hM.1 rfl (Nat.zero_le _) (Nat.zero_le _) (Nat.zero_le _) (ct_left _ hM) ?_
        refine rn_eqi _ hR.left ?_
        refine rn_if_ne 39 dX7_slowed_33 rfl (fun c33 => ?_) (fun c33 => ?_)
        · have hlt := hlt_of hg c33
          refine r_aload0 dX7_slowed_39 ?_
          refine ccvV0 dX7_slowed_40 ov_X7_laysAside rfl ml_X7_298 hM.1 rfl (Nat.zero_le _) (Nat.zero_le _) (Nat.zero_le _) (ct_laysAside _ hM hR) (fun iv h40 => ?_)
          refine r_aload0 dX7_slowed_43 ?_
          refine r_iload1 dX7_slowed_44 ?_
          refine cpiV1 dX7_slowed_45 ov_X7_nextOf rfl ml_X7_275 hM.1 rfl (Nat.zero_le _) (Nat.zero_le _) (Nat.zero_le _) (ct_nextOf _ hM _) ?_
          refine rn_eqi (nI (nextN ρ G.toNatClampNeg)) (h40.2.1.next hg hlt (g01 hq1).2 (g01 hq1).1) ?_
          refine r_istore3 dX7_slowed_48 rfl ?_
          refine rn_iconst (0) dX7_slowed_49 (by decide) ?_
          refine r_istore4 dX7_slowed_50 rfl ?_
          refine rn_iconst (0) dX7_slowed_52 (by decide) ?_
          refine r_istore5 dX7_slowed_53 rfl ?_
          have hNe : (η s.toNatClampNeg 1).toNatClampNeg = nn := by rw [hnn2, nI_clamp (by omega)]
          refine sl_loop (N := (η s.toNatClampNeg 1).toNatClampNeg) (it := fun i => η s.toNatClampNeg (2 + i)) (iv0 := iv) hM hT6 ht htT hg (g01 hq1).1 (g01 hq1).2 (nB 3 (by decide) hq2).1 hs4 (by omega) rfl (next_lt hlt) ((h40.1 96 _ (by omega)).trans (hsz.1.trans (by rw [hNe]; exact hnn2))) (fun i hi => (h40.1 97 _ (by omega)).trans (hsz.2 i hi)) 4 0 iv _ _ _ _ _ (by decide) rfl rfl rfl rfl Off.refl h40.2.1 h40.2.2 (hX.scr (as_scr h40.1)) (fun iv lv b4 v6 v7 x hx h4 hv6 hv7 ho hRn hAn hXn => ?_)
          refine r_iload4 dX7_slowed_158 ?_
          refine rn_iret dX7_slowed_160 rfl (Nat.zero_le _) (Nat.zero_le _) ?_
          refine ⟨_, rfl, rfl, rfl, (as_scr h40.1).trans ho, hRn, ?_⟩
          unfold slowQ
          rw [if_pos ⟨hq1, hq2⟩, if_neg hm, if_neg c33]
          exact h4
        · refine rn_bipush (-3) dX7_slowed_36 (by decide) ?_
          refine rn_iret dX7_slowed_38 rfl (Nat.zero_le _) (Nat.zero_le _) ?_
          refine ⟨_, rfl, rfl, rfl, Off.refl, hR, ?_⟩
          unfold slowQ
          rw [if_pos ⟨hq1, hq2⟩, if_neg hm, if_pos c33]
      · have hm : η s.toNatClampNeg 0 = -1 := Decidable.of_not_not (fun z => by rw [if_neg z] at c23; exact absurd c23 (by decide))
        refine rn_bipush (-11) dX7_slowed_26 (by decide) ?_
        refine rn_iret dX7_slowed_28 rfl (Nat.zero_le _) (Nat.zero_le _) ?_
        refine ⟨_, rfl, rfl, rfl, Off.refl, hR, ?_⟩
        unfold slowQ
        rw [if_pos ⟨hq1, hq2⟩, if_pos hm]
    · refine rn_bipush (-2) dX7_slowed_14 (by decide) ?_
      refine rn_iret dX7_slowed_16 rfl (Nat.zero_le _) (Nat.zero_le _) ?_
      refine ⟨_, rfl, rfl, rfl, Off.refl, hR, ?_⟩
      unfold slowQ
      rw [if_neg (fun z => bI_0.mp c11 z.2)]
end MSLOW
