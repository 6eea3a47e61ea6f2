/-! THE CLASS: soonest, cheapest, drawn, chance -/
theorem BsC.at_ {iv : IV} {a b : Int32} (h : BsC iv (a, b)) : iv 15 0 = a := h.1
theorem BsC.wo_ {iv : IV} {a b : Int32} (h : BsC iv (a, b)) : iv 15 1 = b := h.2.1
def SO (S : Nat → Nat → List Int32) (ρ iv : IV) (i : Nat) : Prop := if i = 1 then iv 15 2 = 1 else BsC iv ((soS S ρ (i - 1)).1, -(soS S ρ (i - 1)).2)
theorem end_le {S : Nat → Nat → List Int32} {ρ : IV} (hg : GR ρ) : (endS S ρ).1 ≤ 300 := by
  have := (gr_run (S := S) (idl := -1) (idle := 0) 300 0 ρ hg).2.2
  unfold endS; omega
theorem SO.step {S : Nat → Nat → List Int32} {ρ iv0 iv : IV} {i : Nat} {P : Nat → Nat → Prop} (h : SO S ρ iv0 i) (hg : GR ρ) (h1 : 1 ≤ i) (h20 : i < 20) (ho : Off P iv0 iv) (hp : ∀ b, ¬ P 15 b) : SO S ρ (offer iv (nI i) (-nI (endS S (splS ρ i)).1)) (i + 1) := by
  unfold SO at h ⊢
  rw [if_neg (by omega), show i + 1 - 1 = i by omega]
  obtain ⟨j, rfl⟩ : ∃ j, i = j + 1 := ⟨i - 1, by omega⟩
  have hle := end_le (S := S) (gr_spl (m := j + 1) hg)
  obtain ⟨L, hL, hL2⟩ := so_rng (S := S) hg j
  by_cases e : j = 0
  · subst e
    rw [if_pos rfl] at h
    have hb : iv 15 2 = 1 := (ho _ _ (hp _)).trans h
    have ee : soS S ρ (0 + 1) = (nI (0 + 1), nI (endS S (splS ρ (0 + 1))).1) := by rw [soS, if_pos (Or.inl (show (soS S ρ 0).1 = 0 from rfl))]
    rw [ee]
    exact offer_take (fun z => by rw [hb] at z; exact absurd z.1 (by decide))
  · rw [if_neg (by omega), show j + 1 - 1 = j by omega] at h
    have hB2 : BsC iv ((soS S ρ j).1, -(soS S ρ j).2) := h.off ho hp
    obtain ⟨k, rfl⟩ : ∃ k, j = k + 1 := ⟨j - 1, by omega⟩
    have hnz := so_pos (S := S) (ρ := ρ) k (by omega)
    by_cases h5 : nI (endS S (splS ρ (k + 1 + 1))).1 < (soS S ρ (k + 1)).2
    · have ee : soS S ρ (k + 1 + 1) = (nI (k + 1 + 1), nI (endS S (splS ρ (k + 1 + 1))).1) := by rw [soS, if_pos (Or.inr h5)]
      rw [ee]
      exact offer_take (fun z => by rw [hB2.2.1] at z; exact absurd z.2 (by show ¬ _ ≤ -_; rw [hL2, neg_le (by omega) (by omega), ← hL2]; exact Int32.not_le.mpr h5))
    · have ee : soS S ρ (k + 1 + 1) = soS S ρ (k + 1) := by rw [soS, if_neg (fun z => z.elim hnz h5)]
      rw [ee]
      exact offer_keep hB2 (by show _ ≤ -_; rw [hL2, neg_le (by omega) (by omega), ← hL2]; exact Int32.not_lt.mp h5)
theorem gain_of {iv ψ : IV} {r γ : Nat} (hE : RC iv r ψ) (hγ : γ < 2) : iv (r + 3 + 3 * γ) 6 - iv (r + 3 + 3 * γ) 7 = gainS ψ γ := by
  unfold gainS
  rw [hE.gang 6 (by decide) (by decide) hγ, hE.gang 7 (by decide) (by decide) hγ]
theorem whose_iff {ρ : IV} (hg : GR ρ) {y : Nat} (hy : y < 24) : whoseS ρ (nI y) = -1 ↔ uO ρ ≤ y ∧ y < 24 - vO ρ := by
  have h24 := hg.2.2.1
  unfold whoseS
  rw [hg.1, hg.2.1, show (24 : Int32) = nI 24 by decide, pk_sub (by omega)]
  by_cases h1 : y < uO ρ
  · rw [if_pos ((nI_ltI (by omega) (by omega)).mpr h1)]; exact ⟨fun z => absurd z (by decide), fun z => by omega⟩
  · rw [if_neg (fun z => h1 ((nI_ltI (by omega) (by omega)).mp z))]
    by_cases h2 : 24 - vO ρ ≤ y
    · rw [if_pos ((nI_leI (by omega) (by omega)).mpr h2)]; exact ⟨fun z => absurd z (by decide), fun z => by omega⟩
    · rw [if_neg (fun z => h2 ((nI_leI (by omega) (by omega)).mp z))]; exact ⟨fun _ => by omega, fun _ => rfl⟩
def drX (nx gr : Int32 → Int32) (u v y : Nat) (φ : IV) (s : Int32) : IV := if y < u then drG nx gr (24 - v - u) u φ s else drG nx gr (24 - v - y) y φ s
theorem drX_skip {nx gr : Int32 → Int32} {u v y : Nat} {φ : IV} {s : Int32} (h : ¬ (u ≤ y ∧ y < 24 - v)) (huv : u + v ≤ 24) : drX nx gr u v (y + 1) φ s = drX nx gr u v y φ s := by
  unfold drX
  by_cases h1 : y < u
  · rw [if_pos h1]
    by_cases h2 : y + 1 < u
    · rw [if_pos h2]
    · rw [if_neg h2, show y + 1 = u by omega]
  · rw [if_neg h1, if_neg (by omega), show 24 - v - (y + 1) = 0 by omega, show 24 - v - y = 0 by omega]; rfl
theorem drX_go {nx gr : Int32 → Int32} {u v y : Nat} {φ : IV} {s : Int32} (h : u ≤ y ∧ y < 24 - v) : drX nx gr u v (y + 1) (up φ 0 y (gr (nx s))) (nx s) = drX nx gr u v y φ s := by
  unfold drX
  rw [if_neg (by omega), if_neg (by omega), show 24 - v - y = (24 - v - (y + 1)) + 1 by omega, drG_s]
theorem gcd_of {L M d : Nat} (hM : 1 ≤ M) (hd : 1 ≤ d) (h1 : d ∣ L) (h2 : d ∣ M) (h : ∀ e, d < e → e ≤ M → ¬ (e ∣ L ∧ e ∣ M)) : Nat.gcd M L = d := by
  have a1 : d ∣ Nat.gcd M L := Nat.dvd_gcd h2 h1
  have a2 : Nat.gcd M L ≤ M := Nat.gcd_le_left L hM
  have a3 : d ≤ Nat.gcd M L := Nat.le_of_dvd (Nat.gcd_pos_of_pos_left L hM) a1
  rcases Nat.lt_or_ge d (Nat.gcd M L) with q | q
  · exact absurd ⟨Nat.gcd_dvd_right M L, Nat.gcd_dvd_left M L⟩ (h _ q a2)
  · omega
section CSOON
variable {g : GS} {l : Launch} {Γ : Sh} {iv : IV} {rv : RV} {lv : LV}
set_option maxRecDepth 4000 in
theorem cso_loop {D : Nat} {Q : Qt} {ρ : IV} {S : Nat → Nat → List Int32} {t : Nat} {w : Int32} {iv0 : IV} {rv0 : RV} : ∀ (n i : Nat) (iv : IV) (rv : RV) (x : Int32), i + n = 20 → 1 ≤ i → x = nI i → CQ Γ iv rv ρ S t → SO S ρ iv i → QT iv0 rv0 iv rv → (∀ (iv : IV) (rv : RV) (x : Int32), CQ Γ iv rv ρ S t → SO S ρ iv 20 → QT iv0 rv0 iv rv → Rn g l mX6_soonest (rmA (D + 6) 0 0) Q 0 0 87 [.ref 14, .int w, .int x] [] Γ iv rv lv) → Rn g l mX6_soonest (rmA (D + 6) 0 0) Q 0 0 21 [.ref 14, .int w, .int x] [] Γ iv rv lv := by
  intro n
  induction n with
  | zero =>
    intro i iv rv x hn h1 hx hC hB hQ kk
    obtain rfl : i = 20 := by omega
    refine r_iload2 dX6_soonest_21 ?_
    refine rn_bipush (20) dX6_soonest_22 (by decide) ?_
    refine rn_icmp_ge 87 dX6_soonest_24 rfl (fun _ => ?_) (fun h => absurd (by rw [hx]; decide) h)
    exact kk _ _ _ hC hB hQ
  | succ n ih =>
    intro i iv rv x hn h1 hx hC hB hQ kk
    subst hx
    refine r_iload2 dX6_soonest_21 ?_
    refine rn_bipush (20) dX6_soonest_22 (by decide) ?_
    refine rn_icmp_ge 87 dX6_soonest_24 rfl (fun h => absurd h (fun z => by rw [show (20 : Int32) = nI 20 by decide, nI_leI (by decide) (by omega)] at z; omega)) (fun _ => ?_)
    refine r_aload0 dX6_soonest_27 ?_
    refine gf_X6_84 dX6_soonest_28 rfl hC.1.1 hC.1.2.2.2.2.1.1 ?_
    refine r_aload0 dX6_soonest_31 ?_
    refine gf_X6_74 dX6_soonest_32 rfl hC.1.1 hC.1.2.1.1 ?_
    refine crvV1 dX6_soonest_35 ov_X3_copyAll rfl ml_X6_197 hC.1.2.2.2.2.1.2.1 rfl (Nat.zero_le _) (Nat.zero_le _) (Nat.zero_le _) (ct_copyAll _ hC.1.tr hC.1.nw (by decide) (by decide) (by decide) hC.2.2.2.2.2.2.2.2 hC.2.1) (fun iv2 rv2 h35 => ?_)
    obtain ⟨hC, hQ35, hT, hN⟩ := hC.copied h35.1 h35.2.1 h35.2.2.1 h35.2.2.2
    have hu : Off (fun a _ => 57 ≤ a ∧ a ≤ 66) iv2 (up (up iv2 (57 + 3) 3 (nI i)) (57 + 6) 3 (20 - nI i)) := (off_up (by omega)).trans (off_up (by omega))
    have hT : TS (up (up iv2 (57 + 3) 3 (nI i)) (57 + 6) 3 (20 - nI i)) rv2 (splS ρ i) S t := ⟨(hT.1.upg 3 (γ := 0) (x := nI i) (by decide) (by decide) (by decide)).upg 3 (γ := 1) (x := 20 - nI i) (by decide) (by decide) (by decide), (hN _ _).cells (fun δ z h1 h2 => ⟨(up_ne1 (by omega)).trans (up_ne1 (by omega)), (up_ne1 (by omega)).trans (up_ne1 (by omega))⟩), gr_spl hT.2.2.1, (up_ne1 (by decide)).trans ((up_ne1 (by decide)).trans hT.2.2.2.1), hT.2.2.2.2⟩
    have hQu : QT iv2 rv2 (up (up iv2 (57 + 3) 3 (nI i)) (57 + 6) 3 (20 - nI i)) rv2 := ⟨hu.mono (fun a b z => by omega), OffT.refl, hT.1.gu⟩
    have hC := hC.qt hQu
    refine r_aload0 dX6_soonest_38 ?_
    refine gf_X6_84 dX6_soonest_39 rfl hC.1.1 hC.1.2.2.2.2.1.1 ?_
    refine gf_X6_106 dX6_soonest_42 rfl hC.1.2.2.2.2.1.2.1 hC.1.2.2.2.2.1.2.2.2.2.1.1 ?_
    refine r_iload2 dX6_soonest_45 ?_
    refine pf_X6_110 dX6_soonest_46 rfl hC.1.2.2.2.2.1.2.2.2.2.1.2.1 ?_
    refine r_aload0 dX6_soonest_49 ?_
    refine gf_X6_84 dX6_soonest_50 rfl hC.1.1 hC.1.2.2.2.2.1.1 ?_
    refine gf_X6_208 dX6_soonest_53 rfl hC.1.2.2.2.2.1.2.1 hC.1.2.2.2.2.1.2.2.2.2.2.1.1 ?_
    refine rn_bipush (20) dX6_soonest_56 (by decide) ?_
    refine r_iload2 dX6_soonest_58 ?_
    refine rn_isub dX6_soonest_59 ?_
    refine pf_X6_110 dX6_soonest_60 rfl hC.1.2.2.2.2.1.2.2.2.2.2.1.2.1 ?_
    refine r_aload0 dX6_soonest_63 ?_
    refine gf_X6_10 dX6_soonest_64 rfl hC.1.1 hC.1.2.2.2.2.2.1.1 ?_
    refine r_iload2 dX6_soonest_67 ?_
    refine r_aload0 dX6_soonest_68 ?_
    refine gf_X6_84 dX6_soonest_69 rfl hC.1.1 hC.1.2.2.2.2.1.1 ?_
    refine rn_iconst (-1) dX6_soonest_72 (by decide) ?_
    refine rn_iconst (0) dX6_soonest_73 (by decide) ?_
    refine cciV2 dX6_soonest_74 ov_X3_runOut rfl ml_X6_201 hC.1.2.2.2.2.1.2.1 rfl (Nat.le_of_ble_eq_true rfl) (Nat.zero_le _) (Nat.zero_le _) (ct_runOut _ hC.1.tr (by decide) hT.1 hT.2.2.2.2 hT.2.2.2.1 hC.2.2.2.2.2.1 hC.2.2.2.2.2.2.1 hT.2.2.1 hT.2.1 _ _) (fun x74 iv3 h74 => ?_)
    have hQ74 := QT.own h74.2.1 h74.2.2 (rv := rv2)
    have hC := hC.qt hQ74
    refine rn_eqi (nI (endS S (splS ρ i)).1) h74.1 ?_
    refine rn_ineg dX6_soonest_77 ?_
    refine ccvV2 dX6_soonest_78 ov_X0_offer rfl ml_X6_220 hC.1.2.2.2.2.2.1.2 rfl (Nat.zero_le _) (Nat.zero_le _) (Nat.zero_le _) (ct_offer _ hC.1.2.2.2.2.2.1.2 _ _) (fun iv4 h78 => ?_)
    subst h78
    refine r_iinc2 _ dX6_soonest_81 rfl rfl ?_
    refine rn_goto 21 dX6_soonest_84 rfl ?_
    have hof : Off (fun a _ => a = 15) iv3 (offer iv3 (nI i) (-nI (endS S (splS ρ i)).1)) := off_offer
    have hq2 : QT iv3 rv2 (offer iv3 (nI i) (-nI (endS S (splS ρ i)).1)) rv2 := ⟨hof.mono (fun a b z => by omega), OffT.refl, hC.2.2.2.2.2.2.2.2.off hof (by decide) (by decide)⟩
    exact ih (i + 1) _ _ _ (by omega) (by omega) (nI_1 i) (hC.qt hq2) (hB.step hC.2.2.1 h1 (by omega) (((h35.2.1.mono (fun a b z => by omega)).trans (hu.mono (fun a b z => by omega))).trans (h74.2.1.mono (T := fun a _ => 57 ≤ a ∨ a = 26) (fun a b z => by omega))) (fun b => by omega)) ((((hQ.trans hQ35).trans hQu).trans hQ74).trans hq2) kk
set_option maxRecDepth 4000 in
theorem ct_csoonest (D : Nat) {ρ : IV} {S : Nat → Nat → List Int32} {t : Nat} (hC : CQ Γ iv rv ρ S t) (w : Int32) : Ct g l mX6_soonest (D + 6) 0 0 [.ref 14, .int w] Γ iv rv lv (qRI Γ lv (fun x iv' rv' => x = soQ S ρ w ∧ QT iv rv iv' rv')) := by
  refine Ct.of (by decide +kernel) (Nat.le_of_ble_eq_true rfl) (Nat.le_of_ble_eq_true rfl) ?_
  refine r_iload1 dX6_soonest_0 ?_
  refine rn_iconst (0) dX6_soonest_1 (by decide) ?_
  refine rn_iconst (1) dX6_soonest_2 (by decide) ?_
  refine cpiS3 dX6_soonest_3 os_X6_within rfl ml_X6_91 (Nat.zero_le _) (Nat.zero_le _) (Nat.zero_le _) (ct_within _ _ _ _) ?_
  refine rn_if_ne 12 dX6_soonest_6 rfl (fun c6 => ?_) (fun c6 => ?_)
  · have hw := bI_1.mp (bI_or.resolve_left c6)
    refine r_aload0 dX6_soonest_12 ?_
    refine gf_X6_10 dX6_soonest_13 rfl hC.1.1 hC.1.2.2.2.2.2.1.1 ?_
    refine ccvV0 dX6_soonest_16 ov_X0_clear rfl ml_X6_217 hC.1.2.2.2.2.2.1.2 rfl (Nat.zero_le _) (Nat.zero_le _) (Nat.zero_le _) (ct_clear _ hC.1.2.2.2.2.2.1.2) (fun iv2 h16 => ?_)
    subst h16
    have hof : Off (fun a _ => a = 15) iv (up iv 15 2 1) := off_up rfl
    have hq : QT iv rv (up iv 15 2 1) rv := ⟨hof.mono (fun a b z => by omega), OffT.refl, hC.2.2.2.2.2.2.2.2.off hof (by decide) (by decide)⟩
    refine rn_iconst (1) dX6_soonest_19 (by decide) ?_
    refine r_istore2 dX6_soonest_20 rfl ?_
    refine cso_loop (D := D) (ρ := ρ) (S := S) (t := t) 19 1 _ rv _ (by decide) (by decide) rfl (hC.qt hq) (by unfold SO; rw [if_pos rfl]; rfl) hq (fun iv rv x hC hB hQ => ?_)
    refine r_iload1 dX6_soonest_87 ?_
    refine rn_if_ne 101 dX6_soonest_88 rfl (fun c88 => ?_) (fun c88 => ?_)
    · refine r_aload0 dX6_soonest_101 ?_
      refine gf_X6_10 dX6_soonest_102 rfl hC.1.1 hC.1.2.2.2.2.2.1.1 ?_
      refine gf_X6_227 dX6_soonest_105 rfl hC.1.2.2.2.2.2.1.2 ?_
      refine rn_ineg dX6_soonest_108 ?_
      refine rn_iret dX6_soonest_109 rfl (Nat.zero_le _) (Nat.zero_le _) ?_
      refine ⟨_, rfl, rfl, rfl, ?_, hQ⟩
      unfold soQ
      rw [if_pos hw, if_neg c88]
      unfold SO at hB
      rw [if_neg (by decide), show 20 - 1 = 19 from rfl] at hB
      rw [hB.wo_]; exact Int32.neg_neg
    · refine r_aload0 dX6_soonest_91 ?_
      refine gf_X6_10 dX6_soonest_92 rfl hC.1.1 hC.1.2.2.2.2.2.1.1 ?_
      refine gf_X6_224 dX6_soonest_95 rfl hC.1.2.2.2.2.2.1.2 ?_
      refine rn_goto 109 dX6_soonest_98 rfl ?_
      refine rn_iret dX6_soonest_109 rfl (Nat.zero_le _) (Nat.zero_le _) ?_
      refine ⟨_, rfl, rfl, rfl, ?_, hQ⟩
      unfold soQ
      rw [if_pos hw, if_pos c88]
      unfold SO at hB
      rw [if_neg (by decide), show 20 - 1 = 19 from rfl] at hB
      exact hB.at_
  · refine rn_bipush (-2) dX6_soonest_9 (by decide) ?_
    refine rn_iret dX6_soonest_11 rfl (Nat.zero_le _) (Nat.zero_le _) ?_
    refine ⟨_, rfl, rfl, rfl, ?_, QT.refl hC.2.2.2.2.2.2.2.2⟩
    unfold soQ
    rw [if_neg (bI_0.mp c6)]
set_option maxRecDepth 4000 in
theorem cch_loop {D : Nat} {Q : Qt} {ρ : IV} {S : Nat → Nat → List Int32} {t : Nat} {iv0 : IV} {rv0 : RV} : ∀ (n p : Nat) (iv : IV) (rv : RV) (x : Int32), p + 5 * n = 105 → x = nI p → CQ Γ iv rv ρ S t → QT iv0 rv0 iv rv → (∀ (iv : IV) (rv : RV) (q : Int32), q = chS S ρ n p → QT iv0 rv0 iv rv → Q (some (.int q)) Γ iv rv lv) → Rn g l mX6_cheapest (rmA (D + 6) 0 0) Q 0 0 2 [.ref 14, .int x] [] Γ iv rv lv := by
  intro n
  induction n with
  | zero =>
    intro p iv rv x hn hx hC hQ kk
    subst hx
    refine r_iload1 dX6_cheapest_2 ?_
    refine rn_bipush (100) dX6_cheapest_3 (by decide) ?_
    refine rn_icmp_gt 71 dX6_cheapest_5 rfl (fun _ => ?_) (fun h => absurd (by rw [show p = 105 by omega]; decide) h)
    refine rn_iconst (-1) dX6_cheapest_71 (by decide) ?_
    refine rn_iret dX6_cheapest_72 rfl (Nat.zero_le _) (Nat.zero_le _) ?_
    exact kk _ _ _ rfl hQ
  | succ n ih =>
    intro p iv rv x hn hx hC hQ kk
    subst hx
    refine r_iload1 dX6_cheapest_2 ?_
    refine rn_bipush (100) dX6_cheapest_3 (by decide) ?_
    refine rn_icmp_gt 71 dX6_cheapest_5 rfl (fun h => absurd h (fun z => by rw [show (100 : Int32) = nI 100 by decide, nI_ltI (by decide) (by omega)] at z; omega)) (fun _ => ?_)
    refine r_aload0 dX6_cheapest_8 ?_
    refine gf_X6_84 dX6_cheapest_9 rfl hC.1.1 hC.1.2.2.2.2.1.1 ?_
    refine r_aload0 dX6_cheapest_12 ?_
    refine gf_X6_74 dX6_cheapest_13 rfl hC.1.1 hC.1.2.1.1 ?_
    refine crvV1 dX6_cheapest_16 ov_X3_copyAll rfl ml_X6_197 hC.1.2.2.2.2.1.2.1 rfl (Nat.zero_le _) (Nat.zero_le _) (Nat.zero_le _) (ct_copyAll _ hC.1.tr hC.1.nw (by decide) (by decide) (by decide) hC.2.2.2.2.2.2.2.2 hC.2.1) (fun iv2 rv2 h16 => ?_)
    obtain ⟨hC, hQ16, hT, hN⟩ := hC.copied h16.1 h16.2.1 h16.2.2.1 h16.2.2.2
    have hu : Off (fun a _ => 57 ≤ a ∧ a ≤ 66) iv2 (up iv2 57 5 (nI p)) := off_up (by omega)
    have hT : TS (up iv2 57 5 (nI p)) rv2 (up ρ 4 5 (nI p)) S t := ⟨hT.1.ups 5 (by decide) (by decide), (hN _ _).cells (fun δ z h1 h2 => ⟨up_ne1 (by omega), up_ne1 (by omega)⟩), hT.2.2.1.upd (by omega) (by omega) (by omega) (by omega), (up_ne2 (by decide)).trans hT.2.2.2.1, hT.2.2.2.2⟩
    have hQu : QT iv2 rv2 (up iv2 57 5 (nI p)) rv2 := ⟨hu.mono (fun a b z => by omega), OffT.refl, hT.1.gu⟩
    have hC := hC.qt hQu
    refine r_aload0 dX6_cheapest_19 ?_
    refine gf_X6_84 dX6_cheapest_20 rfl hC.1.1 hC.1.2.2.2.2.1.1 ?_
    refine r_iload1 dX6_cheapest_23 ?_
    refine pf_X6_138 dX6_cheapest_24 rfl hC.1.2.2.2.2.1.2.1 ?_
    refine r_aload0 dX6_cheapest_27 ?_
    refine gf_X6_84 dX6_cheapest_28 rfl hC.1.1 hC.1.2.2.2.2.1.1 ?_
    refine rn_iconst (-1) dX6_cheapest_31 (by decide) ?_
    refine rn_iconst (0) dX6_cheapest_32 (by decide) ?_
    refine cciV2 dX6_cheapest_33 ov_X3_runOut rfl ml_X6_201 hC.1.2.2.2.2.1.2.1 rfl (Nat.zero_le _) (Nat.zero_le _) (Nat.zero_le _) (ct_runOut _ hC.1.tr (by decide) hT.1 hT.2.2.2.2 hT.2.2.2.1 hC.2.2.2.2.2.1 hC.2.2.2.2.2.2.1 hT.2.2.1 hT.2.1 _ _) (fun x33 iv3 h33 => ?_)
    have hE : RC iv3 57 (endS S (up ρ 4 5 (nI p))).2 := h33.2.2
    have hQ33 := QT.own h33.2.1 h33.2.2 (rv := rv2)
    have hC := hC.qt hQ33
    refine rn_pop dX6_cheapest_36 rfl ?_
    refine r_aload0 dX6_cheapest_37 ?_
    refine gf_X6_84 dX6_cheapest_38 rfl hC.1.1 hC.1.2.2.2.2.1.1 ?_
    refine gf_X6_106 dX6_cheapest_41 rfl hC.1.2.2.2.2.1.2.1 hC.1.2.2.2.2.1.2.2.2.2.1.1 ?_
    refine cpiV0 dX6_cheapest_44 ov_X1_gain rfl ml_X6_205 hC.1.2.2.2.2.1.2.2.2.2.1.2.1 rfl (Nat.zero_le _) (Nat.zero_le _) (Nat.zero_le _) (ct_cgain _ hC.1.tr.2.2.2.1.2) ?_
    refine rn_eqi _ (gain_of (γ := 0) hE (by decide)) ?_
    refine rn_if_lt 65 dX6_cheapest_47 rfl (fun c47 => ?_) (fun c47 => ?_)
    · refine r_iinc1 _ dX6_cheapest_65 rfl rfl ?_
      refine rn_goto 2 dX6_cheapest_68 rfl ?_
      have ee : chS S ρ (n + 1) p = chS S ρ n (p + 5) := by rw [chS, if_neg (fun z => Int32.not_le.mpr c47 z.1)]
      exact ih (p + 5) _ _ _ (by omega) (nI_add p 5) hC (((hQ.trans hQ16).trans hQu).trans hQ33) (fun iv2 rv2 q hq hQ2 => kk iv2 rv2 q (by rw [ee]; exact hq) hQ2)
    · refine r_aload0 dX6_cheapest_50 ?_
      refine gf_X6_84 dX6_cheapest_51 rfl hC.1.1 hC.1.2.2.2.2.1.1 ?_
      refine gf_X6_208 dX6_cheapest_54 rfl hC.1.2.2.2.2.1.2.1 hC.1.2.2.2.2.1.2.2.2.2.2.1.1 ?_
      refine cpiV0 dX6_cheapest_57 ov_X1_gain rfl ml_X6_205 hC.1.2.2.2.2.1.2.2.2.2.2.1.2.1 rfl (Nat.zero_le _) (Nat.zero_le _) (Nat.zero_le _) (ct_cgain _ hC.1.tr.2.2.2.2.1.2) ?_
      refine rn_eqi _ (gain_of (γ := 1) hE (by decide)) ?_
      refine rn_if_lt 65 dX6_cheapest_60 rfl (fun c60 => ?_) (fun c60 => ?_)
      · refine r_iinc1 _ dX6_cheapest_65 rfl rfl ?_
        refine rn_goto 2 dX6_cheapest_68 rfl ?_
        have ee : chS S ρ (n + 1) p = chS S ρ n (p + 5) := by rw [chS, if_neg (fun z => Int32.not_le.mpr c60 z.2)]
        exact ih (p + 5) _ _ _ (by omega) (nI_add p 5) hC (((hQ.trans hQ16).trans hQu).trans hQ33) (fun iv2 rv2 q hq hQ2 => kk iv2 rv2 q (by rw [ee]; exact hq) hQ2)
      · refine r_iload1 dX6_cheapest_63 ?_
        refine rn_iret dX6_cheapest_64 rfl (Nat.zero_le _) (Nat.zero_le _) ?_
        have ee : chS S ρ (n + 1) p = nI p := by rw [chS, if_pos ⟨Int32.not_lt.mp c47, Int32.not_lt.mp c60⟩]
        exact kk _ _ _ ee.symm (((hQ.trans hQ16).trans hQu).trans hQ33)
set_option maxRecDepth 4000 in
theorem ct_ccheapest (D : Nat) {ρ : IV} {S : Nat → Nat → List Int32} {t : Nat} (hC : CQ Γ iv rv ρ S t) : Ct g l mX6_cheapest (D + 6) 0 0 [.ref 14] Γ iv rv lv (qRI Γ lv (fun x iv' rv' => x = chS S ρ 21 0 ∧ QT iv rv iv' rv')) := by
  refine Ct.of (by decide +kernel) (Nat.le_of_ble_eq_true rfl) (Nat.le_of_ble_eq_true rfl) ?_
  refine rn_iconst (0) dX6_cheapest_0 (by decide) ?_
  refine r_istore1 dX6_cheapest_1 rfl ?_
  exact cch_loop (D := D) (ρ := ρ) (S := S) (t := t) 21 0 iv rv _ (by decide) rfl hC (QT.refl hC.2.2.2.2.2.2.2.2) (fun iv rv q hq hQ => ⟨_, rfl, rfl, rfl, hq, hQ⟩)
set_option maxRecDepth 4000 in
theorem cdr_loop {D : Nat} {Q : Qt} {ρ : IV} {S : Nat → Nat → List Int32} {t : Nat} {sd : Int32} {iv0 : IV} {rv0 : RV} : ∀ (n y : Nat) (φ iv : IV) (s x : Int32), y + n = 24 → x = nI y → CQ Γ iv rv ρ S t → TS iv rv φ S t → (∀ ψ S', Mm iv 57 ψ S') → QT iv0 rv0 iv rv → (∀ (iv : IV) (s' x : Int32), CQ Γ iv rv ρ S t → TS iv rv (drX lcg grd (uO ρ) (vO ρ) y φ s) S t → QT iv0 rv0 iv rv → Rn g l mX6_drawn (rmA (D + 6) 0 0) Q 0 0 66 [.ref 14, .int sd, .int s', .int x] [] Γ iv rv lv) → Rn g l mX6_drawn (rmA (D + 6) 0 0) Q 0 0 15 [.ref 14, .int sd, .int s, .int x] [] Γ iv rv lv := by
  intro n
  induction n with
  | zero =>
    intro y φ iv s x hn hx hC hT hN hQ kk
    obtain rfl : y = 24 := by omega
    refine r_iload3 dX6_drawn_15 ?_
    refine rn_bipush (24) dX6_drawn_16 (by decide) ?_
    refine rn_icmp_ge 66 dX6_drawn_18 rfl (fun _ => ?_) (fun h => absurd (by rw [hx]; decide) h)
    exact kk _ _ _ hC (by unfold drX; have := hC.2.2.1.2.2.1; rw [if_neg (by omega), show 24 - vO ρ - 24 = 0 by omega]; exact hT) hQ
  | succ n ih =>
    intro y φ iv s x hn hx hC hT hN hQ kk
    refine r_iload3 dX6_drawn_15 ?_
    refine rn_bipush (24) dX6_drawn_16 (by decide) ?_
    refine rn_icmp_ge 66 dX6_drawn_18 rfl (fun h => absurd h (fun z => by rw [hx, show (24 : Int32) = nI 24 by decide, nI_leI (by decide) (by omega)] at z; omega)) (fun _ => ?_)
    refine r_aload0 dX6_drawn_21 ?_
    refine gf_X6_74 dX6_drawn_22 rfl hC.1.1 hC.1.2.1.1 ?_
    refine r_iload3 dX6_drawn_25 ?_
    refine cpiV1 dX6_drawn_26 ov_X3_doerOf rfl ml_X6_95 hC.1.2.1.2.1 rfl (Nat.zero_le _) (Nat.zero_le _) (Nat.zero_le _) (ct_doerOf _ hC.1.nw hC.2.1 hC.2.2.1 _) ?_
    refine rn_iconst (-1) dX6_drawn_29 (by decide) ?_
    refine rn_icmp_eq 36 dX6_drawn_30 rfl (fun c30 => ?_) (fun c30 => ?_)
    · refine r_iload2 dX6_drawn_36 ?_
      refine rn_ldc (v := _) dX6_drawn_37 cn_X6_254 ?_
      refine rn_imul dX6_drawn_39 ?_
      refine rn_sipush (12345) dX6_drawn_40 (by decide) ?_
      refine rn_iadd dX6_drawn_43 ?_
      refine rn_eqi (lcg s) rfl ?_
      refine r_istore2 dX6_drawn_44 rfl ?_
      refine r_aload0 dX6_drawn_45 ?_
      refine gf_X6_84 dX6_drawn_46 rfl hC.1.1 hC.1.2.2.2.2.1.1 ?_
      refine gf_X6_99 dX6_drawn_49 rfl hC.1.2.2.2.2.1.2.1 hC.1.2.2.2.2.1.2.2.1.1 ?_
      refine r_iload3 dX6_drawn_52 ?_
      refine r_iload2 dX6_drawn_53 ?_
      refine rn_bipush (12) dX6_drawn_54 (by decide) ?_
      refine rn_iushr dX6_drawn_56 ?_
      refine rn_iconst (4) dX6_drawn_57 (by decide) ?_
      refine rn_irem dX6_drawn_58 (by decide) ?_
      refine rn_eqi (grd (lcg s)) rfl ?_
      refine rn_iast y dX6_drawn_59 hC.1.2.2.2.2.1.2.2.1.2 hx (by omega) (by decide) ?_
      refine r_iinc3 _ dX6_drawn_60 rfl rfl ?_
      refine rn_goto 15 dX6_drawn_63 rfl ?_
      have hsk : uO ρ ≤ y ∧ y < 24 - vO ρ := (whose_iff hC.2.2.1 (by omega)).mp (by rw [← hx]; exact c30)
      rw [← drX_go hsk] at kk
      have hu : Off (fun a _ => 57 ≤ a ∧ a ≤ 66) iv (up iv (57 + 1) y (grd (lcg s))) := off_up (by omega)
      have hT2 : TS (up iv (57 + 1) y (grd (lcg s))) rv (up φ 0 y (grd (lcg s))) S t := ⟨hT.1.grd, (hN _ _).cells (fun δ z h1 h2 => ⟨up_ne1 (by omega), up_ne1 (by omega)⟩), hT.2.2.1.upd (by omega) (by omega) (by omega) (by omega), (up_ne1 (by decide)).trans hT.2.2.2.1, hT.2.2.2.2⟩
      have hQu : QT iv rv (up iv (57 + 1) y (grd (lcg s))) rv := ⟨hu.mono (fun a b z => by omega), OffT.refl, hT2.1.gu⟩
      exact ih (y + 1) _ _ _ _ (by omega) (by rw [hx]; exact nI_1 y) (hC.qt hQu) hT2 (fun ψ S' => (hN ψ S').cells (fun δ z h1 h2 => ⟨up_ne1 (by omega), up_ne1 (by omega)⟩)) (hQ.trans hQu) kk
    · refine rn_goto 60 dX6_drawn_33 rfl ?_
      have hsk : ¬ (uO ρ ≤ y ∧ y < 24 - vO ρ) := fun z => c30 (by rw [hx]; exact (whose_iff hC.2.2.1 (by omega)).mpr z)
      rw [← drX_skip hsk hC.2.2.1.2.2.1] at kk
      refine r_iinc3 _ dX6_drawn_60 rfl rfl ?_
      refine rn_goto 15 dX6_drawn_63 rfl ?_
      exact ih (y + 1) φ _ _ _ (by omega) (by rw [hx]; exact nI_1 y) hC hT hN hQ kk
set_option maxRecDepth 4000 in
theorem ct_cdrawn (D : Nat) {ρ : IV} {S : Nat → Nat → List Int32} {t : Nat} (hC : CQ Γ iv rv ρ S t) (sd : Int32) : Ct g l mX6_drawn (D + 6) 0 0 [.ref 14, .int sd] Γ iv rv lv (qRI Γ lv (fun x iv' rv' => x = drQ S ρ sd ∧ QT iv rv iv' rv')) := by
  refine Ct.of (by decide +kernel) (Nat.le_of_ble_eq_true rfl) (Nat.le_of_ble_eq_true rfl) ?_
  have hC0 := hC
  refine r_aload0 dX6_drawn_0 ?_
  refine gf_X6_84 dX6_drawn_1 rfl hC.1.1 hC.1.2.2.2.2.1.1 ?_
  refine r_aload0 dX6_drawn_4 ?_
  refine gf_X6_74 dX6_drawn_5 rfl hC.1.1 hC.1.2.1.1 ?_
  refine crvV1 dX6_drawn_8 ov_X3_copyAll rfl ml_X6_197 hC.1.2.2.2.2.1.2.1 rfl (Nat.zero_le _) (Nat.zero_le _) (Nat.zero_le _) (ct_copyAll _ hC.1.tr hC.1.nw (by decide) (by decide) (by decide) hC.2.2.2.2.2.2.2.2 hC.2.1) (fun iv rv h8 => ?_)
  obtain ⟨hC, hQ8, hT, hN⟩ := hC.copied h8.1 h8.2.1 h8.2.2.1 h8.2.2.2
  refine r_iload1 dX6_drawn_11 ?_
  refine r_istore2 dX6_drawn_12 rfl ?_
  refine rn_iconst (0) dX6_drawn_13 (by decide) ?_
  refine r_istore3 dX6_drawn_14 rfl ?_
  refine cdr_loop (D := D) (ρ := ρ) (S := S) (t := t) 24 0 ρ _ _ _ (by decide) rfl hC hT hN hQ8 (fun iv s x hC hT hQ => ?_)
  have hT : TS iv rv (drR ρ sd) S t := by
    have e : drX lcg grd (uO ρ) (vO ρ) 0 ρ sd = drR ρ sd := by
      unfold drX drR
      by_cases h : 0 < uO ρ
      · rw [if_pos h]
      · rw [if_neg h, show uO ρ = 0 by omega]
    rw [e] at hT; exact hT
  refine r_aload0 dX6_drawn_66 ?_
  refine gf_X6_84 dX6_drawn_67 rfl hC.1.1 hC.1.2.2.2.2.1.1 ?_
  refine rn_iconst (-1) dX6_drawn_70 (by decide) ?_
  refine rn_iconst (0) dX6_drawn_71 (by decide) ?_
  refine cciV2 dX6_drawn_72 ov_X3_runOut rfl ml_X6_201 hC.1.2.2.2.2.1.2.1 rfl (Nat.zero_le _) (Nat.zero_le _) (Nat.zero_le _) (ct_runOut _ hC.1.tr (by decide) hT.1 hT.2.2.2.2 hT.2.2.2.1 hC.2.2.2.2.2.1 hC.2.2.2.2.2.2.1 hT.2.2.1 hT.2.1 _ _) (fun x72 iv h72 => ?_)
  have hQ72 := QT.own h72.2.1 h72.2.2 (rv := rv)
  refine rn_eqi (drQ S ρ sd) h72.1 ?_
  refine rn_iret dX6_drawn_75 rfl (Nat.zero_le _) (Nat.zero_le _) ?_
  exact ⟨_, rfl, rfl, rfl, rfl, hQ.trans hQ72⟩
set_option maxRecDepth 4000 in
theorem ccp_loop {D L M : Nat} (hL : L ≤ 30) (hM : M ≤ 30) (hM1 : 1 ≤ M) : ∀ (f d : Nat), d < f → ∀ {x : Int32}, x = nI (d + 1) → d + 1 ≤ M → (∀ e, d + 1 < e → e ≤ M → ¬ (e ∣ L ∧ e ∣ M)) → Rn g l mX6_commonPart (rmA D 0 0) (qPI (nI (Nat.gcd M L)) Γ iv rv lv) 0 0 2 [.int (nI L), .int (nI M), .int x] [] Γ iv rv lv := by
  intro f
  induction f with
  | zero => intro d hf; omega
  | succ f ih =>
    intro d hf x hx hdM hno
    subst hx
    refine r_iload2 dX6_commonPart_2 ?_
    refine rn_iconst (1) dX6_commonPart_3 (by decide) ?_
    refine rn_icmp_le 27 dX6_commonPart_4 rfl (fun c4 => ?_) (fun c4 => ?_)
    · have hd1 : d = 0 := by rw [show (1 : Int32) = nI 1 by decide, nI_leI (by omega) (by decide)] at c4; omega
      refine rn_iconst (1) dX6_commonPart_27 (by decide) ?_
      refine rn_iret dX6_commonPart_28 rfl (Nat.zero_le _) (Nat.zero_le _) ?_
      refine ⟨congrArg (fun z => some (Value.int z)) ?_, rfl, rfl, rfl, rfl⟩
      subst hd1
      rw [gcd_of hM1 (Nat.le_refl _) (Nat.one_dvd _) (Nat.one_dvd _) hno]; decide
    · have hl1 := Nat.mod_lt L (show 0 < d + 1 by omega)
      have hl2 := Nat.mod_lt M (show 0 < d + 1 by omega)
      refine r_iload0 dX6_commonPart_7 ?_
      refine r_iload2 dX6_commonPart_8 ?_
      refine rn_irem dX6_commonPart_9 (by rw [show (0 : Int32) = nI 0 by decide, nI_eq (by omega) (by decide)]; omega) ?_
      refine rn_eqi (nI (L % (d + 1))) (pk_rem (by omega) (by omega) (by omega)) ?_
      refine rn_if_ne 21 dX6_commonPart_10 rfl (fun c10 => ?_) (fun c10 => ?_)
      · refine r_iinc2 _ dX6_commonPart_21 rfl rfl ?_
        refine rn_goto 2 dX6_commonPart_24 rfl ?_
        have hnd : ¬ L % (d + 1) = 0 := fun z => c10 (by rw [z]; decide)
        have hd2 : 1 ≤ d := by rw [show (1 : Int32) = nI 1 by decide, nI_leI (by omega) (by decide)] at c4; omega
        obtain ⟨d', rfl⟩ : ∃ d', d = d' + 1 := ⟨d - 1, by omega⟩
        exact ih d' (by omega) (pk_mm _) (by omega) (fun e h1 h2 h3 => by
          by_cases he : e = d' + 1 + 1
          · subst he; exact hnd (Nat.mod_eq_zero_of_dvd h3.1)
          · exact hno e (by omega) h2 h3)
      · refine r_iload1 dX6_commonPart_13 ?_
        refine r_iload2 dX6_commonPart_14 ?_
        refine rn_irem dX6_commonPart_15 (by rw [show (0 : Int32) = nI 0 by decide, nI_eq (by omega) (by decide)]; omega) ?_
        refine rn_eqi (nI (M % (d + 1))) (pk_rem (by omega) (by omega) (by omega)) ?_
        refine rn_if_ne 21 dX6_commonPart_16 rfl (fun c16 => ?_) (fun c16 => ?_)
        · refine r_iinc2 _ dX6_commonPart_21 rfl rfl ?_
          refine rn_goto 2 dX6_commonPart_24 rfl ?_
          have hnd : ¬ M % (d + 1) = 0 := fun z => c16 (by rw [z]; decide)
          have hd2 : 1 ≤ d := by rw [show (1 : Int32) = nI 1 by decide, nI_leI (by omega) (by decide)] at c4; omega
          obtain ⟨d', rfl⟩ : ∃ d', d = d' + 1 := ⟨d - 1, by omega⟩
          exact ih d' (by omega) (pk_mm _) (by omega) (fun e h1 h2 h3 => by
            by_cases he : e = d' + 1 + 1
            · subst he; exact hnd (Nat.mod_eq_zero_of_dvd h3.2)
            · exact hno e (by omega) h2 h3)
        · refine r_iload2 dX6_commonPart_19 ?_
          refine rn_iret dX6_commonPart_20 rfl (Nat.zero_le _) (Nat.zero_le _) ?_
          refine ⟨congrArg (fun z => some (Value.int z)) ?_, rfl, rfl, rfl, rfl⟩
          rw [show (0 : Int32) = nI 0 by decide, nI_eq (by omega) (by decide)] at c10 c16
          rw [gcd_of hM1 (by omega) (Nat.dvd_of_mod_eq_zero c10) (Nat.dvd_of_mod_eq_zero c16) hno]
set_option maxRecDepth 4000 in
theorem ct_commonPart (D : Nat) {L M : Nat} (hL : L ≤ 30) (hM : M ≤ 30) (hM1 : 1 ≤ M) {X Y : Int32} (hX : X = nI L) (hY : Y = nI M) : Ct g l mX6_commonPart (D) 0 0 [.int X, .int Y] Γ iv rv lv (qPI (nI (Nat.gcd M L)) Γ iv rv lv) := by
  refine Ct.of (by decide +kernel) (Nat.le_of_ble_eq_true rfl) (Nat.le_of_ble_eq_true rfl) ?_
  subst hX
  subst hY
  refine r_iload1 dX6_commonPart_0 ?_
  refine r_istore2 dX6_commonPart_1 rfl ?_
  exact ccp_loop (D := D) hL hM hM1 31 (M - 1) (by omega) (by rw [show M - 1 + 1 = M by omega]) (by omega) (fun e h1 h2 => by omega)
set_option maxRecDepth 4000 in
theorem cca_loop {D : Nat} {Q : Qt} {ρ : IV} {S : Nat → Nat → List Int32} {t : Nat} {sd m mo pt : Int32} {N : Nat} (hN : m = nI N) (hN3 : N ≤ 30) {iv0 : IV} {rv0 : RV} : ∀ (n i : Nat) (iv : IV) (rv : RV) (x5 x : Int32), i + n = N → x = nI i → x5 = nI (hitS S ρ sd mo i) → CQ Γ iv rv ρ S t → QT iv0 rv0 iv rv → (∀ (iv : IV) (rv : RV) (x5 x : Int32), x5 = nI (hitS S ρ sd mo N) → CQ Γ iv rv ρ S t → QT iv0 rv0 iv rv → Rn g l mX6_chance (rmA (D + 7) 0 0) Q 0 0 68 [.ref 14, .int sd, .int m, .int mo, .int pt, .int x5, .int x] [] Γ iv rv lv) → Rn g l mX6_chance (rmA (D + 7) 0 0) Q 0 0 41 [.ref 14, .int sd, .int m, .int mo, .int pt, .int x5, .int x] [] Γ iv rv lv := by
  intro n
  induction n with
  | zero =>
    intro i iv rv x5 x hn hx h5 hC hQ kk
    obtain rfl : i = N := by omega
    refine r_iload6 dX6_chance_41 ?_
    refine r_iload2 dX6_chance_43 ?_
    refine rn_icmp_ge 68 dX6_chance_44 rfl (fun _ => ?_) (fun h => absurd (by rw [hx, hN]; exact nI_le (Nat.le_refl _) (by omega)) h)
    exact kk _ _ _ _ h5 hC hQ
  | succ n ih =>
    intro i iv rv x5 x hn hx h5 hC hQ kk
    refine r_iload6 dX6_chance_41 ?_
    refine r_iload2 dX6_chance_43 ?_
    refine rn_icmp_ge 68 dX6_chance_44 rfl (fun h => absurd h (fun z => by rw [hx, hN, nI_leI (by omega) (by omega)] at z; omega)) (fun _ => ?_)
    refine r_aload0 dX6_chance_47 ?_
    refine r_iload1 dX6_chance_48 ?_
    refine r_iload6 dX6_chance_49 ?_
    refine rn_iadd dX6_chance_51 ?_
    refine criV1 dX6_chance_52 ov_X6_drawn rfl ml_X6_257 hC.1.1 rfl (Nat.zero_le _) (Nat.zero_le _) (Nat.zero_le _) (ct_cdrawn D hC _) (fun x52 iv2 rv2 h52 => ?_)
    refine r_iload3 dX6_chance_55 ?_
    refine rn_icmp_gt 62 dX6_chance_56 rfl (fun c56 => ?_) (fun c56 => ?_)
    · refine r_iinc6 _ dX6_chance_62 rfl rfl ?_
      refine rn_goto 41 dX6_chance_65 rfl ?_
      have ee : hitS S ρ sd mo (i + 1) = hitS S ρ sd mo i + 0 := by rw [hitS, if_neg (by rw [← hx, ← h52.1]; exact Int32.not_le.mpr c56)]
      exact ih (i + 1) _ _ _ _ (by omega) (by rw [hx]; exact nI_1 i) (by rw [ee, h5]; rfl) (hC.qt h52.2) (hQ.trans h52.2) kk
    · refine r_iinc5 _ dX6_chance_59 rfl rfl ?_
      refine r_iinc6 _ dX6_chance_62 rfl rfl ?_
      refine rn_goto 41 dX6_chance_65 rfl ?_
      have ee : hitS S ρ sd mo (i + 1) = hitS S ρ sd mo i + 1 := by rw [hitS, if_pos (by rw [← hx, ← h52.1]; exact Int32.not_lt.mp c56)]
      exact ih (i + 1) _ _ _ _ (by omega) (by rw [hx]; exact nI_1 i) (by rw [ee, h5]; exact nI_1 _) (hC.qt h52.2) (hQ.trans h52.2) kk
set_option maxRecDepth 4000 in
theorem ct_cchance (D : Nat) {ρ : IV} {S : Nat → Nat → List Int32} {t : Nat} (hC : CQ Γ iv rv ρ S t) (sd m mo pt : Int32) : Ct g l mX6_chance (D + 7) 0 0 [.ref 14, .int sd, .int m, .int mo, .int pt] Γ iv rv lv (qRL Γ lv (fun x iv' rv' => x = chanQ S ρ sd m mo pt ∧ QT iv rv iv' rv')) := by
  refine Ct.of (by decide +kernel) (Nat.le_of_ble_eq_true rfl) (Nat.le_of_ble_eq_true rfl) ?_
  refine r_iload2 dX6_chance_0 ?_
  refine rn_iconst (1) dX6_chance_1 (by decide) ?_
  refine rn_bipush (30) dX6_chance_2 (by decide) ?_
  refine cpiS3 dX6_chance_4 os_X6_within rfl ml_X6_91 (Nat.zero_le _) (Nat.zero_le _) (Nat.zero_le _) (ct_within _ _ _ _) ?_
  refine rn_if_eq 31 dX6_chance_7 rfl (fun c7 => ?_) (fun c7 => ?_)
  · refine rn_ldc2 (v := _) dX6_chance_31 cl_X6_255 ?_
    refine rn_lret dX6_chance_34 rfl (Nat.zero_le _) (Nat.zero_le _) ?_
    refine ⟨_, rfl, rfl, rfl, ?_, QT.refl hC.2.2.2.2.2.2.2.2⟩
    unfold chanQ
    rw [if_neg (fun z => bI_0.mp c7 z.1)]
  · refine r_iload3 dX6_chance_10 ?_
    refine rn_iconst (0) dX6_chance_11 (by decide) ?_
    refine rn_sipush (300) dX6_chance_12 (by decide) ?_
    refine cpiS3 dX6_chance_15 os_X6_within rfl ml_X6_91 (Nat.zero_le _) (Nat.zero_le _) (Nat.zero_le _) (ct_within _ _ _ _) ?_
    refine rn_if_eq 31 dX6_chance_18 rfl (fun c18 => ?_) (fun c18 => ?_)
    · refine rn_ldc2 (v := _) dX6_chance_31 cl_X6_255 ?_
      refine rn_lret dX6_chance_34 rfl (Nat.zero_le _) (Nat.zero_le _) ?_
      refine ⟨_, rfl, rfl, rfl, ?_, QT.refl hC.2.2.2.2.2.2.2.2⟩
      unfold chanQ
      rw [if_neg (fun z => bI_0.mp c18 z.2.1)]
    · refine r_iload4 dX6_chance_21 ?_
      refine rn_iconst (0) dX6_chance_23 (by decide) ?_
      refine rn_iconst (1) dX6_chance_24 (by decide) ?_
      refine cpiS3 dX6_chance_25 os_X6_within rfl ml_X6_91 (Nat.zero_le _) (Nat.zero_le _) (Nat.zero_le _) (ct_within _ _ _ _) ?_
      refine rn_if_ne 35 dX6_chance_28 rfl (fun c28 => ?_) (fun c28 => ?_)
      · have hq1 := bI_1.mp (bI_or.resolve_left c7)
        have hq2 := bI_1.mp (bI_or.resolve_left c18)
        have hq3 := bI_1.mp (bI_or.resolve_left c28)
        refine rn_iconst (0) dX6_chance_35 (by decide) ?_
        refine r_istore5 dX6_chance_36 rfl ?_
        refine rn_iconst (0) dX6_chance_38 (by decide) ?_
        refine r_istore6 dX6_chance_39 rfl ?_
        refine cca_loop (D := D) (ρ := ρ) (S := S) (t := t) (n30 hq1).1 (n30 hq1).2.1 _ 0 iv rv _ _ (Nat.zero_add _) rfl rfl hC (QT.refl hC.2.2.2.2.2.2.2.2) (fun iv rv x5 x h5 hC hQ => ?_)
        have hle := Nat.le_trans (hit_le (S := S) (ρ := ρ) (sd := sd) (mo := mo) m.toNatClampNeg) (n30 hq1).2.1
        have hm2 := (n30 hq1).2.1
        have hm3 := (n30 hq1).2.2
        have hgp := Nat.gcd_pos_of_pos_left (hitS S ρ sd mo m.toNatClampNeg) hm3
        have hgl : Nat.gcd m.toNatClampNeg (hitS S ρ sd mo m.toNatClampNeg) ≤ m.toNatClampNeg := Nat.gcd_le_left _ hm3
        refine r_iload5 dX6_chance_68 ?_
        refine r_iload2 dX6_chance_70 ?_
        refine cpiS2 dX6_chance_71 os_X6_commonPart rfl ml_X6_260 (Nat.zero_le _) (Nat.zero_le _) (Nat.zero_le _) (ct_commonPart _ hle hm2 hm3 h5 (n30 hq1).1) ?_
        refine r_istore6 dX6_chance_74 rfl ?_
        refine r_iload6 dX6_chance_76 ?_
        refine rn_iconst (1) dX6_chance_78 (by decide) ?_
        refine rn_icmp_ge 86 dX6_chance_79 rfl (fun _ => ?_) (fun h => absurd (by rw [show (1 : Int32) = nI 1 by decide]; exact nI_le hgp (by omega)) h)
        refine r_iload4 dX6_chance_86 ?_
        refine rn_if_ne 100 dX6_chance_88 rfl (fun c88 => ?_) (fun c88 => ?_)
        · refine r_iload2 dX6_chance_100 ?_
          refine r_iload6 dX6_chance_101 ?_
          refine rn_idiv dX6_chance_103 (by rw [show (0 : Int32) = nI 0 by decide, nI_eq (by omega) (by decide)]; omega) ?_
          refine rn_eqi (nI (m.toNatClampNeg / (Nat.gcd m.toNatClampNeg (hitS S ρ sd mo m.toNatClampNeg)))) (by rw [(n30 hq1).1, nI_clamp (by omega)]; exact pk_div (by omega) hgp (by omega)) ?_
          refine rn_i2l dX6_chance_104 ?_
          refine rn_lret dX6_chance_105 rfl (Nat.zero_le _) (Nat.zero_le _) ?_
          refine ⟨_, rfl, rfl, rfl, ?_, hQ⟩
          unfold chanQ lowS
          rw [if_pos ⟨hq1, hq2, hq3⟩, if_neg c88]
          exact nL_i32 _ (Nat.lt_of_le_of_lt (Nat.div_le_self _ _) (by omega))
        · refine r_iload5 dX6_chance_91 ?_
          refine r_iload6 dX6_chance_93 ?_
          refine rn_idiv dX6_chance_95 (by rw [show (0 : Int32) = nI 0 by decide, nI_eq (by omega) (by decide)]; omega) ?_
          refine rn_eqi (nI ((hitS S ρ sd mo m.toNatClampNeg) / (Nat.gcd m.toNatClampNeg (hitS S ρ sd mo m.toNatClampNeg)))) (by rw [h5]; exact pk_div (by omega) hgp (by omega)) ?_
          refine rn_i2l dX6_chance_96 ?_
          refine rn_goto 105 dX6_chance_97 rfl ?_
          refine rn_lret dX6_chance_105 rfl (Nat.zero_le _) (Nat.zero_le _) ?_
          refine ⟨_, rfl, rfl, rfl, ?_, hQ⟩
          unfold chanQ lowS
          rw [if_pos ⟨hq1, hq2, hq3⟩, if_pos c88]
          exact nL_i32 _ (Nat.lt_of_le_of_lt (Nat.div_le_self _ _) (by omega))
      · refine rn_ldc2 (v := _) dX6_chance_31 cl_X6_255 ?_
        refine rn_lret dX6_chance_34 rfl (Nat.zero_le _) (Nat.zero_le _) ?_
        refine ⟨_, rfl, rfl, rfl, ?_, QT.refl hC.2.2.2.2.2.2.2.2⟩
        unfold chanQ
        rw [if_neg (fun z => bI_0.mp c28 z.2.2)]
end CSOON
