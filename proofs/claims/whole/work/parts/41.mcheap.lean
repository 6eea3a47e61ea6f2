/-! THE REFERENCE: cheapest -/
section MCHEAP
variable {g : GS} {l : Launch} {Γ : Sh} {iv : IV} {rv : RV} {lv : LV}
set_option maxRecDepth 4000 in
theorem ch_loop {D : Nat} {Q : Qt} (hM : ShM Γ rv) {ρ : IV} {S : Nat → Nat → List Int32} {T : Nat} (hT6 : T ≤ 6) {t : Nat} (ht : ρ 4 8 = nI t) (htT : t < T) (hg : GR ρ) {iv0 : IV} : ∀ (n p : Nat) (iv : IV) (lv : LV) (x : Int32), p + 5 * n = 105 → x = nI p → Off Scr iv0 iv → RM iv ρ → AsM iv ρ → TextsM iv T S → (∀ (iv : IV) (lv : LV) (r x : Int32), r = chS S ρ n p → Off Scr iv0 iv → RM iv ρ → Rn g l mX7_cheapest (rmA (D + 52) 0 0) Q 0 0 58 [.ref 75, .int r, .int x] [] Γ iv rv lv) → Rn g l mX7_cheapest (rmA (D + 52) 0 0) Q 0 0 8 [.ref 75, .int (-1), .int x] [] Γ iv rv lv := by
  intro n
  induction n with
  | zero =>
    intro p iv lv x hn hx ho hR hA hX kk
    refine r_iload2 dX7_cheapest_8 ?_
    refine rn_bipush (100) dX7_cheapest_9 (by decide) ?_
    refine rn_icmp_gt 58 dX7_cheapest_11 rfl (fun _ => ?_) (fun h => absurd (by rw [hx, show p = 105 by omega]; decide) h)
    exact kk _ _ _ _ rfl ho hR
  | succ n ih =>
    intro p iv lv x hn hx ho hR hA hX kk
    subst hx
    have hofm : Off Scr iv (up iv 75 17 (nI p)) := off_up (by decide)
    have hofb : Off Bk iv (up iv 75 17 (nI p)) := off_up (by decide)
    have hRp : RM (up iv 75 17 (nI p)) (up ρ 4 5 (nI p)) := hR.ups 5 (by decide) (by decide)
    refine r_iload2 dX7_cheapest_8 ?_
    refine rn_bipush (100) dX7_cheapest_9 (by decide) ?_
    refine rn_icmp_gt 58 dX7_cheapest_11 rfl (fun h => absurd h (fun z => by rw [show (100 : Int32) = nI 100 by decide, nI_ltI (by decide) (by omega)] at z; omega)) (fun _ => ?_)
    refine r_iload1 dX7_cheapest_14 ?_
    refine rn_iconst (-1) dX7_cheapest_15 (by decide) ?_
    refine rn_icmp_ne 58 dX7_cheapest_16 rfl (fun h => absurd rfl h) (fun _ => ?_)
    refine r_aload0 dX7_cheapest_19 ?_
    refine r_iload2 dX7_cheapest_20 ?_
    refine pf_X7_50 dX7_cheapest_21 rfl hM.1 ?_
    refine r_aload0 dX7_cheapest_24 ?_
    refine rn_iconst (-1) dX7_cheapest_25 (by decide) ?_
    refine rn_iconst (0) dX7_cheapest_26 (by decide) ?_
    refine clvV2 dX7_cheapest_27 ov_X7_runs rfl ml_X7_301 hM.1 rfl (Nat.zero_le _) (Nat.zero_le _) (Nat.zero_le _) (ct_mruns (iv := (up iv 75 17 (nI p))) D hM hRp (hX.scr hofm) hT6 (kp_pay.2.2.2.trans ht) htT (hg.upd (by omega) (by omega) (by omega) (by omega)) _ _) (fun iv lv h27 => ?_)
    refine r_aload0 dX7_cheapest_30 ?_
    refine rn_iconst (0) dX7_cheapest_31 (by decide) ?_
    refine cpiV1 dX7_cheapest_32 ov_X7_gain rfl ml_X7_305 hM.1 rfl (Nat.zero_le _) (Nat.zero_le _) (Nat.zero_le _) (ct_mgain (γ := 0) (ρ := (endS S (up ρ 4 5 (nI p))).2) _ hM h27.2.1 rfl (by decide)) ?_
    refine rn_if_lt 48 dX7_cheapest_35 rfl (fun c35 => ?_) (fun c35 => ?_)
    · refine r_aload0 dX7_cheapest_48 ?_
      refine ccvV0 dX7_cheapest_49 ov_X7_laysBack rfl ml_X7_308 hM.1 rfl (Nat.zero_le _) (Nat.zero_le _) (Nat.zero_le _) (ct_laysBack _ hM h27.2.1 ((hA.bk hofb).ru h27.1) (kp_pay.trans (keep_run _ _ _).kp)) (fun iv h49 => ?_)
      refine r_iinc2 _ dX7_cheapest_52 rfl rfl ?_
      refine rn_goto 8 dX7_cheapest_55 rfl ?_
      have ee : chS S ρ (n + 1) p = chS S ρ n (p + 5) := by rw [chS, if_neg (fun z => Int32.not_le.mpr c35 z.1)]
      exact ih (p + 5) iv _ _ (by omega) (nI_add p 5) (((ho.trans hofm).trans (ru_scr h27.1)).trans (bk_scr h49.1)) h49.2 (((hA.bk hofb).ru h27.1).bk h49.1) (((hX.scr hofm).ru h27.1).scr (bk_scr h49.1)) (fun iv2 lv2 r2 x2 hr2 ho2 hR2 => kk iv2 lv2 r2 x2 (by rw [ee]; exact hr2) ho2 hR2)
    · refine r_aload0 dX7_cheapest_38 ?_
      refine rn_iconst (1) dX7_cheapest_39 (by decide) ?_
      refine cpiV1 dX7_cheapest_40 ov_X7_gain rfl ml_X7_305 hM.1 rfl (Nat.zero_le _) (Nat.zero_le _) (Nat.zero_le _) (ct_mgain (γ := 1) (ρ := (endS S (up ρ 4 5 (nI p))).2) _ hM h27.2.1 rfl (by decide)) ?_
      refine rn_if_lt 48 dX7_cheapest_43 rfl (fun c43 => ?_) (fun c43 => ?_)
      · refine r_aload0 dX7_cheapest_48 ?_
        refine ccvV0 dX7_cheapest_49 ov_X7_laysBack rfl ml_X7_308 hM.1 rfl (Nat.zero_le _) (Nat.zero_le _) (Nat.zero_le _) (ct_laysBack _ hM h27.2.1 ((hA.bk hofb).ru h27.1) (kp_pay.trans (keep_run _ _ _).kp)) (fun iv h49 => ?_)
        refine r_iinc2 _ dX7_cheapest_52 rfl rfl ?_
        refine rn_goto 8 dX7_cheapest_55 rfl ?_
        have ee : chS S ρ (n + 1) p = chS S ρ n (p + 5) := by rw [chS, if_neg (fun z => Int32.not_le.mpr c43 z.2)]
        exact ih (p + 5) iv _ _ (by omega) (nI_add p 5) (((ho.trans hofm).trans (ru_scr h27.1)).trans (bk_scr h49.1)) h49.2 (((hA.bk hofb).ru h27.1).bk h49.1) (((hX.scr hofm).ru h27.1).scr (bk_scr h49.1)) (fun iv2 lv2 r2 x2 hr2 ho2 hR2 => kk iv2 lv2 r2 x2 (by rw [ee]; exact hr2) ho2 hR2)
      · refine r_iload2 dX7_cheapest_46 ?_
        refine r_istore1 dX7_cheapest_47 rfl ?_
        refine r_aload0 dX7_cheapest_48 ?_
        refine ccvV0 dX7_cheapest_49 ov_X7_laysBack rfl ml_X7_308 hM.1 rfl (Nat.zero_le _) (Nat.zero_le _) (Nat.zero_le _) (ct_laysBack _ hM h27.2.1 ((hA.bk hofb).ru h27.1) (kp_pay.trans (keep_run _ _ _).kp)) (fun iv h49 => ?_)
        refine r_iinc2 _ dX7_cheapest_52 rfl rfl ?_
        refine rn_goto 8 dX7_cheapest_55 rfl ?_
        refine r_iload2 dX7_cheapest_8 ?_
        refine rn_bipush (100) dX7_cheapest_9 (by decide) ?_
        refine rn_icmp_gt 58 dX7_cheapest_11 rfl (fun c11 => ?_) (fun c11 => ?_)
        · have ee : chS S ρ (n + 1) p = nI p := by rw [chS, if_pos ⟨Int32.not_lt.mp c35, Int32.not_lt.mp c43⟩]
          exact kk _ _ _ _ (by rw [ee]) (((ho.trans hofm).trans (ru_scr h27.1)).trans (bk_scr h49.1)) h49.2
        · refine r_iload1 dX7_cheapest_14 ?_
          refine rn_iconst (-1) dX7_cheapest_15 (by decide) ?_
          refine rn_icmp_ne 58 dX7_cheapest_16 rfl (fun _ => ?_) (fun h => absurd h (fun z => nI_m1 (by omega) z))
          have ee : chS S ρ (n + 1) p = nI p := by rw [chS, if_pos ⟨Int32.not_lt.mp c35, Int32.not_lt.mp c43⟩]
          exact kk _ _ _ _ (by rw [ee]) (((ho.trans hofm).trans (ru_scr h27.1)).trans (bk_scr h49.1)) h49.2
set_option maxRecDepth 4000 in
theorem ct_cheapest (D : Nat) (hM : ShM Γ rv) {ρ : IV} {S : Nat → Nat → List Int32} {T : Nat} (hR : RM iv ρ) (hX : TextsM iv T S) (hT6 : T ≤ 6) {t : Nat} (ht : ρ 4 8 = nI t) (htT : t < T) (hg : GR ρ) : Ct g l mX7_cheapest (D + 52) 0 0 [.ref 75] Γ iv rv lv (qLI Γ rv (fun x iv' _ => Off Scr iv iv' ∧ RM iv' ρ ∧ x = chS S ρ 21 0)) := by
  refine Ct.of (by decide +kernel) (Nat.le_of_ble_eq_true rfl) (Nat.le_of_ble_eq_true rfl) ?_
  refine r_aload0 dX7_cheapest_0 ?_
  refine ccvV0 dX7_cheapest_1 ov_X7_laysAside rfl ml_X7_298 hM.1 rfl (Nat.zero_le _) (Nat.zero_le _) (Nat.zero_le _) (ct_laysAside _ hM hR) (fun iv h1 => ?_)
  refine rn_iconst (-1) dX7_cheapest_4 (by decide) ?_
  refine r_istore1 dX7_cheapest_5 rfl ?_
  refine rn_iconst (0) dX7_cheapest_6 (by decide) ?_
  refine r_istore2 dX7_cheapest_7 rfl ?_
  refine ch_loop (iv0 := iv) hM hT6 ht htT hg 21 0 iv _ _ (by decide) rfl Off.refl h1.2.1 h1.2.2 (hX.scr (as_scr h1.1)) (fun iv lv r x hr ho hRn => ?_)
  refine r_iload1 dX7_cheapest_58 ?_
  refine rn_iret dX7_cheapest_59 rfl (Nat.zero_le _) (Nat.zero_le _) ?_
  exact ⟨_, rfl, rfl, rfl, (as_scr h1.1).trans ho, hRn, hr⟩
end MCHEAP
