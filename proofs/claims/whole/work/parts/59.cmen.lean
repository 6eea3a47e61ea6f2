/-! THE CLASS: men, quarrel -/
/-- men of gangs are 1 .. 30 -/
def GM (ρ : IV) : Prop := ∀ γ, γ < 2 → ∃ m, 1 ≤ m ∧ m ≤ 30 ∧ ρ (2 + γ) 3 = nI m
theorem best_rng {S : Nat → Nat → List Int32} {ρ : IV} {γ : Nat} : ∀ k, ∃ m, 1 ≤ m ∧ m ≤ k + 1 ∧ (bestS S ρ γ k).1 = nI m
  | 0 => ⟨1, by decide, by decide, show (1 : Int32) = nI 1 by decide⟩
  | k + 1 => by
    unfold bestS
    split
    · exact ⟨k + 2, by omega, by omega, rfl⟩
    · obtain ⟨m, h1, h2, h3⟩ := best_rng (S := S) (ρ := ρ) (γ := γ) k
      exact ⟨m, h1, by omega, h3⟩
theorem byS_of {S : Nat → Nat → List Int32} {iv ρ : IV} {r γ : Nat} {m : Int32} (hE : RC iv r (endS S (up ρ (2 + γ) 3 m)).2) (hγ : γ < 2) : iv (r + 3 + 3 * γ) 6 - iv (r + 3 + 3 * γ) 7 = byS S ρ γ m := by
  unfold byS gainS
  rw [hE.gang 6 (by decide) (by decide) hγ, hE.gang 7 (by decide) (by decide) hγ]
theorem Mm.cells {iv iv' ψ : IV} {r : Nat} {S : Nat → Nat → List Int32} (h : Mm iv r ψ S) (hc : ∀ γ p, γ < 2 → p < 2 → iv' (r + 3 + 3 * γ + 1) p = iv (r + 3 + 3 * γ + 1) p ∧ iv' (r + 3 + 3 * γ + 2) p = iv (r + 3 + 3 * γ + 2) p) : Mm iv' r ψ S := h.to hc Same.refl
/-- the best so far, i men tried -/
def SB (S : Nat → Nat → List Int32) (φ iv : IV) (γ i : Nat) : Prop := if i = 1 then iv 15 2 = 1 else BsC iv (bestS S φ γ (i - 2))
theorem SB.step {S : Nat → Nat → List Int32} {φ iv0 iv : IV} {γ i : Nat} {P : Nat → Nat → Prop} (h : SB S φ iv0 γ i) (h1 : 1 ≤ i) (ho : Off P iv0 iv) (hp : ∀ b, ¬ P 15 b) : SB S φ (offer iv (nI i) (byS S φ γ (nI i))) γ (i + 1) := by
  unfold SB at h ⊢
  rw [if_neg (by omega)]
  by_cases e : i = 1
  · subst e
    rw [if_pos rfl] at h
    have hb : iv 15 2 = 1 := (ho _ _ (hp _)).trans h
    exact offer_take (c := nI 1) (v := byS S φ γ 1) (fun z => by rw [hb] at z; exact absurd z.1 (by decide))
  · rw [if_neg e] at h
    obtain ⟨j, rfl⟩ : ∃ j, i = j + 2 := ⟨i - 2, by omega⟩
    rw [show j + 2 - 2 = j by omega] at h
    rw [show j + 2 + 1 - 2 = j + 1 by omega]
    have hB2 : BsC iv (bestS S φ γ j) := h.off ho hp
    by_cases h5 : (bestS S φ γ j).2 < byS S φ γ (nI (j + 2))
    · have ee : bestS S φ γ (j + 1) = (nI (j + 2), byS S φ γ (nI (j + 2))) := by rw [bestS, if_pos h5]
      rw [ee]
      exact offer_take (fun z => by rw [hB2.2.1] at z; exact absurd h5 (Int32.not_lt.mpr z.2))
    · have ee : bestS S φ γ (j + 1) = bestS S φ γ j := by rw [bestS, if_neg h5]
      rw [ee]
      exact offer_keep hB2 (Int32.not_lt.mp h5)
section CMEN
variable {g : GS} {l : Launch} {Γ : Sh} {iv : IV} {rv : RV} {lv : LV}
set_option maxRecDepth 4000 in
theorem csk_loop {D : Nat} {Q : Qt} {ρ φ : IV} {S : Nat → Nat → List Int32} {t f : Nat} (hf : f = 27 ∨ f = 47) {γ : Nat} {G x4 : Int32} (hG : G = nI γ) (hγ : γ < 2) {mn : Nat} (hmn : x4 = nI mn) (hmn2 : mn ≤ 30) {iv0 : IV} {rv0 : RV} : ∀ (n i : Nat) (iv : IV) (rv : RV) (x5 x : Int32), i + n = 31 → 1 ≤ i → x = nI i → CQ Γ iv rv ρ S t → SF Γ iv rv f φ t → SB S φ iv γ i → x5 = (if mn < i then byS S φ γ (nI mn) else 0) → QT iv0 rv0 iv rv →
    (∀ (iv : IV) (rv : RV) (x5 x : Int32), CQ Γ iv rv ρ S t → SF Γ iv rv f φ t → SB S φ iv γ 31 → x5 = (if mn < 31 then byS S φ γ (nI mn) else 0) → QT iv0 rv0 iv rv → Rn g l mX6_seekMen (rmA (D + 6) 0 0) Q 0 0 95 [.ref 14, .ref f, .int G, .ref (57 + 3 + 3 * γ), .int x4, .int x5, .int x] [] Γ iv rv lv) → Rn g l mX6_seekMen (rmA (D + 6) 0 0) Q 0 0 32 [.ref 14, .ref f, .int G, .ref (57 + 3 + 3 * γ), .int x4, .int x5, .int x] [] Γ iv rv lv := by
  intro n
  induction n with
  | zero =>
    intro i iv rv x5 x hn h1 hx hC hF hB h5 hQ kk
    obtain rfl : i = 31 := by omega
    refine r_iload6 dX6_seekMen_32 ?_
    refine rn_bipush (30) dX6_seekMen_34 (by decide) ?_
    refine rn_icmp_gt 95 dX6_seekMen_36 rfl (fun _ => ?_) (fun h => absurd (by rw [hx]; decide) h)
    exact kk _ _ _ _ hC hF hB h5 hQ
  | succ n ih =>
    intro i iv rv x5 x hn h1 hx hC hF hB h5 hQ kk
    refine r_iload6 dX6_seekMen_32 ?_
    refine rn_bipush (30) dX6_seekMen_34 (by decide) ?_
    refine rn_icmp_gt 95 dX6_seekMen_36 rfl (fun h => absurd h (fun z => by rw [hx, show (30 : Int32) = nI 30 by decide, nI_ltI (by decide) (by omega)] at z; omega)) (fun _ => ?_)
    refine r_aload0 dX6_seekMen_39 ?_
    refine gf_X6_84 dX6_seekMen_40 rfl hC.1.1 hC.1.2.2.2.2.1.1 ?_
    refine r_aload1 dX6_seekMen_43 ?_
    refine crvV1 dX6_seekMen_44 ov_X3_copyAll rfl ml_X6_197 hC.1.2.2.2.2.1.2.1 rfl (Nat.zero_le _) (Nat.zero_le _) (Nat.zero_le _) (ct_copyAll _ hC.1.tr hF.1 (by decide) (by omega) (by omega) hC.2.2.2.2.2.2.2.2 hF.2.1) (fun iv2 rv2 h44 => ?_)
    obtain ⟨hC, hF, hQ44, hT, hN⟩ := hC.copiedF hf hF h44.1 h44.2.1 h44.2.2.1 h44.2.2.2
    have hu : Off (fun a _ => 57 ≤ a ∧ a ≤ 66) iv2 (up iv2 (57 + 3 + 3 * γ) 3 x) := off_up (by omega)
    have hT : TS (up iv2 (57 + 3 + 3 * γ) 3 x) rv2 (up φ (2 + γ) 3 (nI i)) S t := ⟨by rw [hx]; exact hT.1.upg 3 (by decide) (by decide) hγ, (hN _ _).cells (fun δ z h1 h2 => ⟨up_ne1 (by omega), up_ne1 (by omega)⟩), hT.2.2.1.upd (by omega) (by omega) (by omega) (by omega), (up_ne1 (by omega)).trans hT.2.2.2.1, hT.2.2.2.2⟩
    have hQu : QT iv2 rv2 (up iv2 (57 + 3 + 3 * γ) 3 x) rv2 := ⟨hu.mono (fun a b z => by omega), OffT.refl, hT.1.gu⟩
    have hC := hC.qt hQu
    have hF := hF.qt hf hQu
    refine r_aload3 dX6_seekMen_47 ?_
    refine r_iload6 dX6_seekMen_48 ?_
    refine pf_X6_110 dX6_seekMen_50 rfl (hC.1.tr.gang hγ).1 ?_
    refine r_aload0 dX6_seekMen_53 ?_
    refine gf_X6_84 dX6_seekMen_54 rfl hC.1.1 hC.1.2.2.2.2.1.1 ?_
    refine rn_iconst (-1) dX6_seekMen_57 (by decide) ?_
    refine rn_iconst (0) dX6_seekMen_58 (by decide) ?_
    refine cciV2 dX6_seekMen_59 ov_X3_runOut rfl ml_X6_201 hC.1.2.2.2.2.1.2.1 rfl (Nat.zero_le _) (Nat.zero_le _) (Nat.zero_le _) (ct_runOut _ hC.1.tr (by decide) hT.1 hT.2.2.2.2 hT.2.2.2.1 hC.2.2.2.2.2.1 hC.2.2.2.2.2.2.1 hT.2.2.1 hT.2.1 _ _) (fun x59 iv3 h59 => ?_)
    have hE : RC iv3 57 (endS S (up φ (2 + γ) 3 (nI i))).2 := h59.2.2
    have hQ59 := QT.own h59.2.1 h59.2.2 (rv := rv2)
    have hC := hC.qt hQ59
    have hF := hF.qt hf hQ59
    refine rn_pop dX6_seekMen_62 rfl ?_
    refine r_aload0 dX6_seekMen_63 ?_
    refine gf_X6_10 dX6_seekMen_64 rfl hC.1.1 hC.1.2.2.2.2.2.1.1 ?_
    refine r_iload6 dX6_seekMen_67 ?_
    refine r_aload3 dX6_seekMen_69 ?_
    refine cpiV0 dX6_seekMen_70 ov_X1_gain rfl ml_X6_205 (hC.1.tr.gang hγ).1 rfl (Nat.le_of_ble_eq_true rfl) (Nat.zero_le _) (Nat.zero_le _) (ct_cgain _ (hC.1.tr.gang hγ)) ?_
    refine rn_eqi (byS S φ γ (nI i)) (byS_of hE hγ) ?_
    refine ccvV2 dX6_seekMen_73 ov_X0_offer rfl ml_X6_220 hC.1.2.2.2.2.2.1.2 rfl (Nat.zero_le _) (Nat.zero_le _) (Nat.zero_le _) (ct_offer _ hC.1.2.2.2.2.2.1.2 _ _) (fun iv4 h73 => ?_)
    subst h73
    have hof : Off (fun a _ => a = 15) iv3 (offer iv3 x (byS S φ γ (nI i))) := off_offer
    have hq2 : QT iv3 rv2 (offer iv3 x (byS S φ γ (nI i))) rv2 := ⟨hof.mono (fun a b z => by omega), OffT.refl, hC.2.2.2.2.2.2.2.2.off hof (by decide) (by decide)⟩
    have hE2 := hE.off hof (fun a b z => by omega)
    have hC := hC.qt hq2
    have hF := hF.qt hf hq2
    have hB2 : SB S φ (offer iv3 x (byS S φ γ (nI i))) γ (i + 1) := by
      subst hx
      exact hB.step h1 (((h44.2.1.mono (fun a b z => by omega)).trans (hu.mono (fun a b z => by omega))).trans (h59.2.1.mono (T := fun a _ => 57 ≤ a ∨ a = 26) (fun a b z => by omega))) (fun b => by omega)
    refine r_iload6 dX6_seekMen_76 ?_
    refine r_iload4 dX6_seekMen_78 ?_
    refine rn_icmp_ne 89 dX6_seekMen_80 rfl (fun c80 => ?_) (fun c80 => ?_)
    · refine r_iinc6 _ dX6_seekMen_89 rfl rfl ?_
      refine rn_goto 32 dX6_seekMen_92 rfl ?_
      have hne : ¬ mn = i := fun z => c80 (by rw [hx, hmn, z])
      have h5b : x5 = (if mn < i + 1 then byS S φ γ (nI mn) else 0) := by
        rw [h5]
        by_cases e : mn < i
        · rw [if_pos e, if_pos (by omega)]
        · rw [if_neg e, if_neg (by omega)]
      exact ih (i + 1) _ _ _ _ (by omega) (by omega) (by rw [hx]; exact nI_1 i) hC hF hB2 h5b ((((hQ.trans hQ44).trans hQu).trans hQ59).trans hq2) kk
    · refine r_aload3 dX6_seekMen_83 ?_
      refine cpiV0 dX6_seekMen_84 ov_X1_gain rfl ml_X6_205 (hC.1.tr.gang hγ).1 rfl (Nat.zero_le _) (Nat.zero_le _) (Nat.zero_le _) (ct_cgain _ (hC.1.tr.gang hγ)) ?_
      refine rn_eqi (byS S φ γ (nI i)) (byS_of hE2 hγ) ?_
      refine r_istore5 dX6_seekMen_87 rfl ?_
      refine r_iinc6 _ dX6_seekMen_89 rfl rfl ?_
      refine rn_goto 32 dX6_seekMen_92 rfl ?_
      have hne : i = mn := by rw [hx, hmn, nI_eq (by omega) (by omega)] at c80; exact c80
      have h5b : byS S φ γ (nI i) = (if mn < i + 1 then byS S φ γ (nI mn) else 0) := by rw [if_pos (by omega), hne]
      exact ih (i + 1) _ _ _ _ (by omega) (by omega) (by rw [hx]; exact nI_1 i) hC hF hB2 h5b ((((hQ.trans hQ44).trans hQu).trans hQ59).trans hq2) kk
set_option maxRecDepth 4000 in
theorem ct_seekMen (D : Nat) {ρ : IV} {S : Nat → Nat → List Int32} {t : Nat} (hC : CQ Γ iv rv ρ S t) {f : Nat} {φ : IV} (hf : f = 27 ∨ f = 47) (hF : SF Γ iv rv f φ t) {γ mn : Nat} {G : Int32} (hG : G = nI γ) (hγ : γ < 2) (hm1 : 1 ≤ mn) (hm2 : mn ≤ 30) (hm : φ (2 + γ) 3 = nI mn) : Ct g l mX6_seekMen (D + 6) 0 0 [.ref 14, .ref f, .int G] Γ iv rv lv (qRI Γ lv (fun x iv' rv' => x = byS S φ γ (φ (2 + γ) 3) ∧ BsC iv' (bestS S φ γ 29) ∧ QT iv rv iv' rv')) := by
  refine Ct.of (by decide +kernel) (Nat.le_of_ble_eq_true rfl) (Nat.le_of_ble_eq_true rfl) ?_
  refine r_aload0 dX6_seekMen_0 ?_
  refine gf_X6_84 dX6_seekMen_1 rfl hC.1.1 hC.1.2.2.2.2.1.1 ?_
  refine r_iload2 dX6_seekMen_4 ?_
  refine cprV1 dX6_seekMen_5 ov_X3_gangOf rfl ml_X6_122 hC.1.2.2.2.2.1.2.1 rfl (Nat.zero_le _) (Nat.zero_le _) (Nat.zero_le _) (ct_gangOf _ hC.1.tr hG hγ) ?_
  refine r_astore3 dX6_seekMen_8 rfl ?_
  refine r_aload1 dX6_seekMen_9 ?_
  refine r_iload2 dX6_seekMen_10 ?_
  refine cprV1 dX6_seekMen_11 ov_X3_gangOf rfl ml_X6_122 hF.1.1 rfl (Nat.zero_le _) (Nat.zero_le _) (Nat.zero_le _) (ct_gangOf _ hF.1 hG hγ) ?_
  refine gf_X6_110 dX6_seekMen_14 rfl (hF.1.gang hγ).1 ?_
  refine rn_eqi (nI mn) ((hF.2.1.gang 3 (by decide) (by decide) hγ).trans hm) ?_
  refine r_istore4 dX6_seekMen_17 rfl ?_
  refine rn_iconst (0) dX6_seekMen_19 (by decide) ?_
  refine r_istore5 dX6_seekMen_20 rfl ?_
  refine r_aload0 dX6_seekMen_22 ?_
  refine gf_X6_10 dX6_seekMen_23 rfl hC.1.1 hC.1.2.2.2.2.2.1.1 ?_
  refine ccvV0 dX6_seekMen_26 ov_X0_clear rfl ml_X6_217 hC.1.2.2.2.2.2.1.2 rfl (Nat.zero_le _) (Nat.zero_le _) (Nat.zero_le _) (ct_clear _ hC.1.2.2.2.2.2.1.2) (fun iv2 h26 => ?_)
  subst h26
  have hof : Off (fun a _ => a = 15) iv (up iv 15 2 1) := off_up rfl
  have hq : QT iv rv (up iv 15 2 1) rv := ⟨hof.mono (fun a b z => by omega), OffT.refl, hC.2.2.2.2.2.2.2.2.off hof (by decide) (by decide)⟩
  refine rn_iconst (1) dX6_seekMen_29 (by decide) ?_
  refine r_istore6 dX6_seekMen_30 rfl ?_
  refine csk_loop (D := D) (ρ := ρ) (S := S) hf hG hγ (mn := mn) rfl hm2 30 1 _ rv _ _ (by decide) (by decide) rfl (hC.qt hq) (hF.qt hf hq) (by unfold SB; rw [if_pos rfl]; rfl) (by rw [if_neg (by omega)]) hq (fun iv rv x5 x hC hF hB h5 hQ => ?_)
  refine r_iload5 dX6_seekMen_95 ?_
  refine rn_iret dX6_seekMen_97 rfl (Nat.zero_le _) (Nat.zero_le _) ?_
  exact ⟨_, rfl, rfl, rfl, by rw [h5, if_pos (by omega), hm], hB, hQ⟩
set_option maxRecDepth 4000 in
theorem ct_cmen (D : Nat) {ρ : IV} {S : Nat → Nat → List Int32} {t : Nat} (hC : CQ Γ iv rv ρ S t) (hm : GM ρ) (G w : Int32) : Ct g l mX6_men (D + 7) 0 0 [.ref 14, .int G, .int w] Γ iv rv lv (qRI Γ lv (fun x iv' rv' => x = menQ S ρ G w ∧ QT iv rv iv' rv')) := by
  refine Ct.of (by decide +kernel) (Nat.le_of_ble_eq_true rfl) (Nat.le_of_ble_eq_true rfl) ?_
  refine r_iload1 dX6_men_0 ?_
  refine cpiS1 dX6_men_1 os_X6_isGang rfl ml_X6_119 (Nat.zero_le _) (Nat.zero_le _) (Nat.zero_le _) (ct_isGang _ _) ?_
  refine rn_if_eq 16 dX6_men_4 rfl (fun c4 => ?_) (fun c4 => ?_)
  · refine rn_ldc (v := _) dX6_men_16 cn_X6_196 ?_
    refine rn_iret dX6_men_18 rfl (Nat.zero_le _) (Nat.zero_le _) ?_
    refine ⟨_, rfl, rfl, rfl, ?_, QT.refl hC.2.2.2.2.2.2.2.2⟩
    unfold menQ
    rw [if_neg (fun z => bI_0.mp c4 (g02.mpr z.1))]
  · refine r_iload2 dX6_men_7 ?_
    refine rn_iconst (0) dX6_men_8 (by decide) ?_
    refine rn_iconst (1) dX6_men_9 (by decide) ?_
    refine cpiS3 dX6_men_10 os_X6_within rfl ml_X6_91 (Nat.zero_le _) (Nat.zero_le _) (Nat.zero_le _) (ct_within _ _ _ _) ?_
    refine rn_if_ne 19 dX6_men_13 rfl (fun c13 => ?_) (fun c13 => ?_)
    · have hq1 := g02.mp (bI_1.mp (bI_or.resolve_left c4))
      have hq2 := bI_1.mp (bI_or.resolve_left c13)
      obtain ⟨mm, hmm1, hmm2, hmm3⟩ := hm _ (g01 hq1).2
      refine r_aload0 dX6_men_19 ?_
      refine r_aload0 dX6_men_20 ?_
      refine gf_X6_74 dX6_men_21 rfl hC.1.1 hC.1.2.1.1 ?_
      refine r_iload1 dX6_men_24 ?_
      refine criV2 dX6_men_25 ov_X6_seekMen rfl ml_X6_229 hC.1.1 rfl (Nat.zero_le _) (Nat.zero_le _) (Nat.zero_le _) (ct_seekMen D hC (Or.inl rfl) hC.sf (g01 hq1).1 (g01 hq1).2 hmm1 hmm2 hmm3) (fun x25 iv rv h25 => ?_)
      have hC := hC.qt h25.2.2
      refine rn_pop dX6_men_28 rfl ?_
      refine r_iload2 dX6_men_29 ?_
      refine rn_if_ne 43 dX6_men_30 rfl (fun c30 => ?_) (fun c30 => ?_)
      · refine r_aload0 dX6_men_43 ?_
        refine gf_X6_10 dX6_men_44 rfl hC.1.1 hC.1.2.2.2.2.2.1.1 ?_
        refine gf_X6_227 dX6_men_47 rfl hC.1.2.2.2.2.2.1.2 ?_
        refine rn_iret dX6_men_50 rfl (Nat.zero_le _) (Nat.zero_le _) ?_
        refine ⟨_, rfl, rfl, rfl, ?_, h25.2.2⟩
        unfold menQ
        rw [if_pos ⟨hq1, hq2⟩, if_neg c30]
        exact h25.2.1.2.1
      · refine r_aload0 dX6_men_33 ?_
        refine gf_X6_10 dX6_men_34 rfl hC.1.1 hC.1.2.2.2.2.2.1.1 ?_
        refine gf_X6_224 dX6_men_37 rfl hC.1.2.2.2.2.2.1.2 ?_
        refine rn_goto 50 dX6_men_40 rfl ?_
        refine rn_iret dX6_men_50 rfl (Nat.zero_le _) (Nat.zero_le _) ?_
        refine ⟨_, rfl, rfl, rfl, ?_, h25.2.2⟩
        unfold menQ
        rw [if_pos ⟨hq1, hq2⟩, if_pos c30]
        exact h25.2.1.1
    · refine rn_ldc (v := _) dX6_men_16 cn_X6_196 ?_
      refine rn_iret dX6_men_18 rfl (Nat.zero_le _) (Nat.zero_le _) ?_
      refine ⟨_, rfl, rfl, rfl, ?_, QT.refl hC.2.2.2.2.2.2.2.2⟩
      unfold menQ
      rw [if_neg (fun z => bI_0.mp c13 z.2)]
theorem CQ.planned {Γ : Sh} {iv iv' : IV} {rv rv' : RV} {ρ : IV} {S : Nat → Nat → List Int32} {t : Nat} (h : CQ Γ iv rv ρ S t) (h1 : rv' = up rv 47 8 (rv 27 8)) (h2 : Off (fun a _ => 47 ≤ a ∧ a ≤ 47 + 9) iv iv') (h3 : RC iv' 47 ρ) : CQ Γ iv' rv' ρ S t ∧ SF Γ iv' rv' 47 ρ t ∧ QX iv rv iv' rv' := by
  subst h1
  have hq : QX iv rv iv' (up rv 47 8 (rv 27 8)) := ⟨h2.mono (fun a b z => by omega), fun a b z => up_ne (fun y => z ⟨Or.inl y.1, y.2⟩), h3.gu, h.2.2.2.2.2.2.2.2.off h2 (by omega) (by omega)⟩
  have hC := h.qx hq
  exact ⟨hC, ⟨hC.1.pl, h3, (up_same _ _ _ _).trans h.2.2.2.1, h.2.2.2.2.1, h.2.2.1⟩, hq⟩
theorem QT.x2 {iv iv' : IV} {rv rv' : RV} (h : QT iv rv iv' rv') (hg : Gu iv 47) : QX iv rv iv' rv' := h.x hg
set_option maxRecDepth 4000 in
theorem cqu_loop {D : Nat} {Q : Qt} {ρ : IV} {S : Nat → Nat → List Int32} {t : Nat} {w : Int32} : ∀ (n i ch st : Nat) (φ iv : IV) (rv : RV) (x2 x3 x4 : Int32) (v5 v6 : Value), i + n = 8 → ch ≤ i → st ≤ i → x2 = nI ch → x3 = nI st → x4 = nI i → v5.category = 1 → v6.category = 1 → CQ Γ iv rv ρ S t → SF Γ iv rv 47 φ t → GM φ →
    (∀ (iv' : IV) (rv' : RV) (x2 : Int32) (v3 v4 v5 v6 : Value), x2 = nI (quS S n i ch st φ).1 → v3.category = 1 → v4.category = 1 → v5.category = 1 → v6.category = 1 → QX iv rv iv' rv' → CQ Γ iv' rv' ρ S t → SF Γ iv' rv' 47 (quS S n i ch st φ).2 t → Rn g l mX6_quarrel (rmA (D + 7) 0 0) Q 0 0 108 [.ref 14, .int w, .int x2, v3, v4, v5, v6] [] Γ iv' rv' lv) → Rn g l mX6_quarrel (rmA (D + 7) 0 0) Q 0 0 30 [.ref 14, .int w, .int x2, .int x3, .int x4, v5, v6] [] Γ iv rv lv := by
  intro n
  induction n with
  | zero =>
    intro i ch st φ iv rv x2 x3 x4 v5 v6 hn hci hsi e2 e3 e4 c5 c6 hC hF hm kk
    refine r_iload4 dX6_quarrel_30 ?_
    refine rn_bipush (8) dX6_quarrel_32 (by decide) ?_
    refine rn_icmp_ge 108 dX6_quarrel_34 rfl (fun _ => ?_) (fun h => absurd (by rw [e4, show i = 8 by omega]; decide) h)
    exact kk _ _ _ _ _ _ _ e2 rfl rfl c5 c6 (QX.refl hC.2.2.2.2.2.2.2.1 hC.2.2.2.2.2.2.2.2) hC hF
  | succ n ih =>
    intro i ch st φ iv rv x2 x3 x4 v5 v6 hn hci hsi e2 e3 e4 c5 c6 hC hF hm kk
    refine r_iload4 dX6_quarrel_30 ?_
    refine rn_bipush (8) dX6_quarrel_32 (by decide) ?_
    refine rn_icmp_ge 108 dX6_quarrel_34 rfl (fun h => absurd h (fun z => by rw [e4, show (8 : Int32) = nI 8 by decide, nI_leI (by decide) (by omega)] at z; omega)) (fun _ => ?_)
    refine r_iload3 dX6_quarrel_37 ?_
    refine rn_iconst (2) dX6_quarrel_38 (by decide) ?_
    refine rn_icmp_ge 108 dX6_quarrel_39 rfl (fun c39 => ?_) (fun c39 => ?_)
    · have hst2 : ¬ st < 2 := by rw [e3, show (2 : Int32) = nI 2 by decide, nI_leI (by decide) (by omega)] at c39; omega
      have eq : quS S (n + 1) i ch st φ = (ch, φ) := by rw [quS, if_neg hst2]
      exact kk _ _ _ _ _ _ _ (by rw [eq]; exact e2) rfl rfl c5 c6 (QX.refl hC.2.2.2.2.2.2.2.1 hC.2.2.2.2.2.2.2.2) hC (by rw [eq]; exact hF)
    · have hst2 : st < 2 := by rw [e3, show (2 : Int32) = nI 2 by decide, nI_leI (by decide) (by omega)] at c39; omega
      refine r_iload4 dX6_quarrel_42 ?_
      refine rn_iconst (2) dX6_quarrel_44 (by decide) ?_
      refine rn_irem dX6_quarrel_45 (by decide) ?_
      refine rn_eqi (nI (i % 2)) (by rw [e4]; exact mod2 (by omega)) ?_
      obtain ⟨mm, hmm1, hmm2, hmm3⟩ := hm (i % 2) (by omega)
      refine r_istore5 dX6_quarrel_46 rfl ?_
      refine r_aload0 dX6_quarrel_48 ?_
      refine r_aload0 dX6_quarrel_49 ?_
      refine gf_X6_81 dX6_quarrel_50 rfl hC.1.1 hC.1.2.2.2.1.1 ?_
      refine r_iload5 dX6_quarrel_53 ?_
      refine criV2 dX6_quarrel_55 ov_X6_seekMen rfl ml_X6_229 hC.1.1 rfl (Nat.zero_le _) (Nat.zero_le _) (Nat.zero_le _) (ct_seekMen D hC (Or.inr rfl) hF (γ := i % 2) rfl (by omega) hmm1 hmm2 hmm3) (fun x55 iv2 rv2 h55 => ?_)
      have hqx := h55.2.2.x hC.2.2.2.2.2.2.2.1
      have hC := hC.qt h55.2.2
      have hF := hF.qt (Or.inr rfl) h55.2.2
      refine r_istore6 dX6_quarrel_58 rfl ?_
      refine r_aload0 dX6_quarrel_60 ?_
      refine gf_X6_10 dX6_quarrel_61 rfl hC.1.1 hC.1.2.2.2.2.2.1.1 ?_
      refine gf_X6_227 dX6_quarrel_64 rfl hC.1.2.2.2.2.2.1.2 ?_
      refine rn_eqi _ h55.2.1.2.1 ?_
      refine r_iload6 dX6_quarrel_67 ?_
      refine rn_icmp_le 99 dX6_quarrel_69 rfl (fun c69 => ?_) (fun c69 => ?_)
      · refine r_iinc3 _ dX6_quarrel_99 rfl rfl ?_
        refine r_iinc4 _ dX6_quarrel_102 rfl rfl ?_
        refine rn_goto 30 dX6_quarrel_105 rfl ?_
        have eq : quS S (n + 1) i ch st φ = quS S n (i + 1) ch (st + 1) φ := by rw [quS, if_pos hst2, if_neg (Int32.not_lt.mpr (by rw [← h55.1]; exact c69))]
        exact ih (i + 1) ch (st + 1) φ iv2 rv2 _ _ _ _ _ (by omega) (by omega) (by omega) e2 (by rw [e3]; exact nI_1 st) (by rw [e4]; exact nI_1 i) rfl rfl hC hF hm (fun iv3 rv3 y2 y3 y4 y5 y6 q2 q5 q3 q4 q6 ho hC3 hF3 => kk iv3 rv3 y2 y3 y4 y5 y6 (by rw [eq]; exact q2) q5 q3 q4 q6 (hqx.trans ho) hC3 (by rw [eq]; exact hF3))
      · refine r_aload0 dX6_quarrel_72 ?_
        refine gf_X6_81 dX6_quarrel_73 rfl hC.1.1 hC.1.2.2.2.1.1 ?_
        refine r_iload5 dX6_quarrel_76 ?_
        refine cprV1 dX6_quarrel_78 ov_X3_gangOf rfl ml_X6_122 hC.1.2.2.2.1.2.1 rfl (Nat.zero_le _) (Nat.zero_le _) (Nat.zero_le _) (ct_gangOf _ hC.1.pl (γ := i % 2) rfl (by omega)) ?_
        refine r_aload0 dX6_quarrel_81 ?_
        refine gf_X6_10 dX6_quarrel_82 rfl hC.1.1 hC.1.2.2.2.2.2.1.1 ?_
        refine gf_X6_224 dX6_quarrel_85 rfl hC.1.2.2.2.2.2.1.2 ?_
        refine rn_eqi _ h55.2.1.1 ?_
        refine pf_X6_110 dX6_quarrel_88 rfl (hC.1.pl.gang (γ := i % 2) (by omega)).1 ?_
        refine r_iinc2 _ dX6_quarrel_91 rfl rfl ?_
        refine rn_iconst (0) dX6_quarrel_94 (by decide) ?_
        refine r_istore3 dX6_quarrel_95 rfl ?_
        refine rn_goto 102 dX6_quarrel_96 rfl ?_
        refine r_iinc4 _ dX6_quarrel_102 rfl rfl ?_
        refine rn_goto 30 dX6_quarrel_105 rfl ?_
        have eq : quS S (n + 1) i ch st φ = quS S n (i + 1) (ch + 1) 0 (up φ (2 + i % 2) 3 (bestS S φ (i % 2) 29).1) := by rw [quS, if_pos hst2, if_pos (by rw [← h55.1]; exact Int32.not_le.mp c69)]
        obtain ⟨bm, b1, b2, b3⟩ := best_rng (S := S) (ρ := φ) (γ := i % 2) 29
        have hqn : QX iv2 rv2 (up iv2 (47 + 3 + 3 * (i % 2)) 3 (bestS S φ (i % 2) 29).1) rv2 := ⟨off_up (by omega), OffV.refl, hC.2.2.2.2.2.2.2.1.off (P := fun a b => 47 ≤ a ∧ a ≤ 56 ∧ b = 3) (off_up (by omega)) (by omega) (by omega), hC.2.2.2.2.2.2.2.2.off (P := fun a b => 47 ≤ a ∧ a ≤ 56 ∧ b = 3) (off_up (by omega)) (by omega) (by omega)⟩
        have hF2 : SF Γ (up iv2 (47 + 3 + 3 * (i % 2)) 3 (bestS S φ (i % 2) 29).1) rv2 47 (up φ (2 + i % 2) 3 (bestS S φ (i % 2) 29).1) t := ⟨hF.1, hF.2.1.upg 3 (by decide) (by decide) (by omega), hF.2.2.1, (up_ne1 (by omega)).trans hF.2.2.2.1, hF.2.2.2.2.upd (by omega) (by omega) (by omega) (by omega)⟩
        have hm2 : GM (up φ (2 + i % 2) 3 (bestS S φ (i % 2) 29).1) := by
          intro δ hδ
          by_cases e : δ = i % 2
          · rw [e, up_same]; exact ⟨bm, b1, b2, b3⟩
          · rw [up_ne1 (by omega)]; exact hm δ hδ
        exact ih (i + 1) (ch + 1) 0 _ (up iv2 (47 + 3 + 3 * (i % 2)) 3 (bestS S φ (i % 2) 29).1) rv2 _ _ _ _ _ (by omega) (by omega) (by omega) (by rw [e2]; exact nI_1 ch) rfl (by rw [e4]; exact nI_1 i) rfl rfl (hC.qx hqn) hF2 hm2 (fun iv3 rv3 y2 y3 y4 y5 y6 q2 q5 q3 q4 q6 ho hC3 hF3 => kk iv3 rv3 y2 y3 y4 y5 y6 (by rw [eq]; exact q2) q5 q3 q4 q6 ((hqx.trans hqn).trans ho) hC3 (by rw [eq]; exact hF3))
set_option maxRecDepth 4000 in
theorem ct_cquarrel (D : Nat) {ρ : IV} {S : Nat → Nat → List Int32} {t : Nat} (hC : CQ Γ iv rv ρ S t) (hm : GM ρ) (w : Int32) : Ct g l mX6_quarrel (D + 7) 0 0 [.ref 14, .int w] Γ iv rv lv (qRI Γ lv (fun x iv' rv' => x = quQ S ρ w ∧ QX iv rv iv' rv')) := by
  refine Ct.of (by decide +kernel) (Nat.le_of_ble_eq_true rfl) (Nat.le_of_ble_eq_true rfl) ?_
  refine r_iload1 dX6_quarrel_0 ?_
  refine rn_iconst (0) dX6_quarrel_1 (by decide) ?_
  refine rn_iconst (2) dX6_quarrel_2 (by decide) ?_
  refine cpiS3 dX6_quarrel_3 os_X6_within rfl ml_X6_91 (Nat.zero_le _) (Nat.zero_le _) (Nat.zero_le _) (ct_within _ _ _ _) ?_
  refine rn_if_ne 12 dX6_quarrel_6 rfl (fun c6 => ?_) (fun c6 => ?_)
  · have hw := bI_1.mp (bI_or.resolve_left c6)
    refine r_aload0 dX6_quarrel_12 ?_
    refine gf_X6_81 dX6_quarrel_13 rfl hC.1.1 hC.1.2.2.2.1.1 ?_
    refine r_aload0 dX6_quarrel_16 ?_
    refine gf_X6_74 dX6_quarrel_17 rfl hC.1.1 hC.1.2.1.1 ?_
    refine crvV1 dX6_quarrel_20 ov_X3_copyAll rfl ml_X6_197 hC.1.2.2.2.1.2.1 rfl (Nat.zero_le _) (Nat.zero_le _) (Nat.zero_le _) (ct_copyAll _ hC.1.pl hC.1.nw (by decide) (by decide) (by decide) hC.2.2.2.2.2.2.2.1 hC.2.1) (fun iv rv h20 => ?_)
    obtain ⟨hC, hF, hQ20⟩ := hC.planned h20.1 h20.2.1 h20.2.2.1
    refine rn_iconst (0) dX6_quarrel_23 (by decide) ?_
    refine r_istore2 dX6_quarrel_24 rfl ?_
    refine rn_iconst (0) dX6_quarrel_25 (by decide) ?_
    refine r_istore3 dX6_quarrel_26 rfl ?_
    refine rn_iconst (0) dX6_quarrel_27 (by decide) ?_
    refine r_istore4 dX6_quarrel_28 rfl ?_
    refine cqu_loop (D := D) (ρ := ρ) (S := S) (t := t) 8 0 0 0 ρ iv rv _ _ _ _ _ (by decide) (Nat.le_refl _) (Nat.le_refl _) rfl rfl rfl rfl rfl hC hF hm (fun iv2 rv2 x2 v3 v4 v5 v6 e2 c3 c4 c5 c6_ hQ hC hF => ?_)
    refine r_iload1 dX6_quarrel_108 ?_
    refine rn_if_ne 116 dX6_quarrel_109 rfl (fun c109 => ?_) (fun c109 => ?_)
    · obtain ⟨gq, hq, hql⟩ := w12 c109 hw
      refine r_aload0 dX6_quarrel_116 ?_
      refine gf_X6_81 dX6_quarrel_117 rfl hC.1.1 hC.1.2.2.2.1.1 ?_
      refine r_iload1 dX6_quarrel_120 ?_
      refine rn_iconst (1) dX6_quarrel_121 (by decide) ?_
      refine rn_isub dX6_quarrel_122 ?_
      refine cprV1 dX6_quarrel_123 ov_X3_gangOf rfl ml_X6_122 hC.1.2.2.2.1.2.1 rfl (Nat.zero_le _) (Nat.zero_le _) (Nat.zero_le _) (ct_gangOf _ hC.1.pl hq hql) ?_
      refine gf_X6_110 dX6_quarrel_126 rfl (hC.1.pl.gang hql).1 ?_
      refine rn_eqi ((quS S 8 0 0 0 ρ).2 (2 + gq) 3) (hF.2.1.gang 3 (by decide) (by decide) hql) ?_
      refine rn_iret dX6_quarrel_129 rfl (Nat.zero_le _) (Nat.zero_le _) ?_
      refine ⟨_, rfl, rfl, rfl, ?_, hQ20.trans hQ⟩
      unfold quQ
      rw [if_pos hw, if_neg c109, hq, nI_clamp (by omega)]
    · refine r_iload2 dX6_quarrel_112 ?_
      refine rn_goto 129 dX6_quarrel_113 rfl ?_
      refine rn_iret dX6_quarrel_129 rfl (Nat.zero_le _) (Nat.zero_le _) ?_
      refine ⟨_, rfl, rfl, rfl, ?_, hQ20.trans hQ⟩
      unfold quQ
      rw [if_pos hw, if_pos c109]
      exact e2
  · refine rn_bipush (-2) dX6_quarrel_9 (by decide) ?_
    refine rn_iret dX6_quarrel_11 rfl (Nat.zero_le _) (Nat.zero_le _) ?_
    refine ⟨_, rfl, rfl, rfl, ?_, QX.refl hC.2.2.2.2.2.2.2.1 hC.2.2.2.2.2.2.2.2⟩
    unfold quQ
    rw [if_neg (bI_0.mp c6)]
end CMEN
