/-! THE REFERENCE: bet, soonest, cheapest -/
def offS (a b : Int32) : Int32 := if a < b then b - a else a - b
def betQ (S : Nat → Nat → List Int32) (ρ : IV) (a b c : Int32) : Int32 := if (0 ≤ a ∧ a ≤ 24) ∧ (0 ≤ b ∧ b ≤ 24) ∧ 0 ≤ c ∧ c ≤ 24 then (if offS c (runQ S ρ 1) < offS (if offS b (runQ S ρ 1) < offS a (runQ S ρ 1) then b else a) (runQ S ρ 1) then c else (if offS b (runQ S ρ 1) < offS a (runQ S ρ 1) then b else a)) else -2
def splS (ρ : IV) (m : Nat) : IV := up (up ρ 2 3 (nI m)) 3 3 (20 - nI m)
def soS (S : Nat → Nat → List Int32) (ρ : IV) : Nat → Int32 × Int32
  | 0 => (0, 0)
  | k + 1 => if (soS S ρ k).1 = 0 ∨ nI (endS S (splS ρ (k + 1))).1 < (soS S ρ k).2 then (nI (k + 1), nI (endS S (splS ρ (k + 1))).1) else soS S ρ k
def soQ (S : Nat → Nat → List Int32) (ρ : IV) (w : Int32) : Int32 := if 0 ≤ w ∧ w ≤ 1 then (if w = 0 then (soS S ρ 19).1 else (soS S ρ 19).2) else -2
def chS (S : Nat → Nat → List Int32) (ρ : IV) : Nat → Nat → Int32
  | 0, _ => -1
  | n + 1, p => if 0 ≤ gainS (endS S (up ρ 4 5 (nI p))).2 0 ∧ 0 ≤ gainS (endS S (up ρ 4 5 (nI p))).2 1 then nI p else chS S ρ n (p + 5)
theorem kp_spl {ρ : IV} {m : Nat} : Kp ρ (splS ρ m) := (kp_men (γ := 0) (by decide)).trans (kp_men (γ := 1) (by decide))
theorem gr_spl {ρ : IV} {m : Nat} (h : GR ρ) : GR (splS ρ m) := (h.upd (by omega) (by omega) (by omega) (by omega)).upd (by omega) (by omega) (by omega) (by omega)
theorem kp_pay {ρ : IV} {x : Int32} : Kp ρ (up ρ 4 5 x) := ⟨fun k γ' a b c => up_ne1 (by omega), up_ne2 (by decide), up_ne2 (by decide), up_ne2 (by decide)⟩
section MSOON
variable {g : GS} {l : Launch} {Γ : Sh} {iv : IV} {rv : RV} {lv : LV}
set_option maxRecDepth 4000 in
theorem ct_off (d : Nat) (a b : Int32) : Ct g l mX7_off (d) 0 0 [.int a, .int b] Γ iv rv lv (qPI (offS a b) Γ iv rv lv) := by
  refine Ct.of (by decide +kernel) (Nat.le_of_ble_eq_true rfl) (Nat.le_of_ble_eq_true rfl) ?_
  refine r_iload0 dX7_off_0 ?_
  refine r_iload1 dX7_off_1 ?_
  refine rn_icmp_ge 11 dX7_off_2 rfl (fun c2 => ?_) (fun c2 => ?_)
  · refine r_iload0 dX7_off_11 ?_
    refine r_iload1 dX7_off_12 ?_
    refine rn_isub dX7_off_13 ?_
    refine rn_iret dX7_off_14 rfl (Nat.zero_le _) (Nat.zero_le _) ?_
    refine ⟨congrArg (fun z => some (Value.int z)) ?_, rfl, rfl, rfl, rfl⟩
    unfold offS
    rw [if_neg (Int32.not_lt.mpr c2)]
  · refine r_iload1 dX7_off_5 ?_
    refine r_iload0 dX7_off_6 ?_
    refine rn_isub dX7_off_7 ?_
    refine rn_goto 14 dX7_off_8 rfl ?_
    refine rn_iret dX7_off_14 rfl (Nat.zero_le _) (Nat.zero_le _) ?_
    refine ⟨congrArg (fun z => some (Value.int z)) ?_, rfl, rfl, rfl, rfl⟩
    unfold offS
    rw [if_pos (Int32.not_le.mp c2)]
set_option maxRecDepth 4000 in
theorem ct_bet (D : Nat) (hM : ShM Γ rv) {ρ : IV} {S : Nat → Nat → List Int32} {T : Nat} (hR : RM iv ρ) (hX : TextsM iv T S) (hT6 : T ≤ 6) {t : Nat} (ht : ρ 4 8 = nI t) (htT : t < T) (hg : GR ρ) (a b c : Int32) : Ct g l mX7_bet (D + 53) 0 0 [.ref 75, .int a, .int b, .int c] Γ iv rv lv (qLI Γ rv (fun x iv' _ => Off Scr iv iv' ∧ RM iv' ρ ∧ x = betQ S ρ a b c)) := by
  refine Ct.of (by decide +kernel) (Nat.le_of_ble_eq_true rfl) (Nat.le_of_ble_eq_true rfl) ?_
  refine r_iload1 dX7_bet_0 ?_
  refine rn_i2l dX7_bet_1 ?_
  refine rn_lconst (0) dX7_bet_2 (by decide) ?_
  refine rn_ldc2 (v := _) dX7_bet_3 cl_X7_324 ?_
  refine cpiS3 dX7_bet_6 os_X7_in rfl ml_X7_96 (Nat.zero_le _) (Nat.zero_le _) (Nat.zero_le _) (ct_inI _ (a := 0) (b := 24) (by decide) (by decide)) ?_
  refine rn_if_eq 36 dX7_bet_9 rfl (fun c9 => ?_) (fun c9 => ?_)
  · refine rn_bipush (-2) dX7_bet_36 (by decide) ?_
    refine rn_iret dX7_bet_38 rfl (Nat.zero_le _) (Nat.zero_le _) ?_
    refine ⟨_, rfl, rfl, rfl, Off.refl, hR, ?_⟩
    unfold betQ
    rw [if_neg (fun z => bI_0.mp c9 z.1)]
  · refine r_iload2 dX7_bet_12 ?_
    refine rn_i2l dX7_bet_13 ?_
    refine rn_lconst (0) dX7_bet_14 (by decide) ?_
    refine rn_ldc2 (v := _) dX7_bet_15 cl_X7_324 ?_
    refine cpiS3 dX7_bet_18 os_X7_in rfl ml_X7_96 (Nat.zero_le _) (Nat.zero_le _) (Nat.zero_le _) (ct_inI _ (a := 0) (b := 24) (by decide) (by decide)) ?_
    refine rn_if_eq 36 dX7_bet_21 rfl (fun c21 => ?_) (fun c21 => ?_)
    · refine rn_bipush (-2) dX7_bet_36 (by decide) ?_
      refine rn_iret dX7_bet_38 rfl (Nat.zero_le _) (Nat.zero_le _) ?_
      refine ⟨_, rfl, rfl, rfl, Off.refl, hR, ?_⟩
      unfold betQ
      rw [if_neg (fun z => bI_0.mp c21 z.2.1)]
    · refine r_iload3 dX7_bet_24 ?_
      refine rn_i2l dX7_bet_25 ?_
      refine rn_lconst (0) dX7_bet_26 (by decide) ?_
      refine rn_ldc2 (v := _) dX7_bet_27 cl_X7_324 ?_
      refine cpiS3 dX7_bet_30 os_X7_in rfl ml_X7_96 (Nat.zero_le _) (Nat.zero_le _) (Nat.zero_le _) (ct_inI _ (a := 0) (b := 24) (by decide) (by decide)) ?_
      refine rn_if_ne 39 dX7_bet_33 rfl (fun c33 => ?_) (fun c33 => ?_)
      · have hq1 := bI_1.mp (bI_or.resolve_left c9)
        have hq2 := bI_1.mp (bI_or.resolve_left c21)
        have hq3 := bI_1.mp (bI_or.resolve_left c33)
        refine r_aload0 dX7_bet_39 ?_
        refine rn_iconst (1) dX7_bet_40 (by decide) ?_
        refine cliV1 dX7_bet_41 ov_X7_run rfl ml_X7_329 hM.1 rfl (Nat.zero_le _) (Nat.zero_le _) (Nat.zero_le _) (ct_mrun D hM hR hX hT6 ht htT hg 1) (fun x41 iv lv h41 => ?_)
        refine rn_eqi _ h41.2.2 ?_
        refine r_istore4 dX7_bet_44 rfl ?_
        refine r_iload2 dX7_bet_46 ?_
        refine r_iload4 dX7_bet_47 ?_
        refine cpiS2 dX7_bet_49 os_X7_off rfl ml_X7_332 (Nat.zero_le _) (Nat.zero_le _) (Nat.zero_le _) (ct_off _ _ _) ?_
        refine r_iload1 dX7_bet_52 ?_
        refine r_iload4 dX7_bet_53 ?_
        refine cpiS2 dX7_bet_55 os_X7_off rfl ml_X7_332 (Nat.le_of_ble_eq_true rfl) (Nat.zero_le _) (Nat.zero_le _) (ct_off _ _ _) ?_
        refine rn_icmp_ge 65 dX7_bet_58 rfl (fun c58 => ?_) (fun c58 => ?_)
        · refine r_iload1 dX7_bet_65 ?_
          refine r_istore5 dX7_bet_66 rfl ?_
          refine r_iload3 dX7_bet_68 ?_
          refine r_iload4 dX7_bet_69 ?_
          refine cpiS2 dX7_bet_71 os_X7_off rfl ml_X7_332 (Nat.zero_le _) (Nat.zero_le _) (Nat.zero_le _) (ct_off _ _ _) ?_
          refine r_iload5 dX7_bet_74 ?_
          refine r_iload4 dX7_bet_76 ?_
          refine cpiS2 dX7_bet_78 os_X7_off rfl ml_X7_332 (Nat.le_of_ble_eq_true rfl) (Nat.zero_le _) (Nat.zero_le _) (ct_off _ _ _) ?_
          refine rn_icmp_ge 88 dX7_bet_81 rfl (fun c81 => ?_) (fun c81 => ?_)
          · refine r_iload5 dX7_bet_88 ?_
            refine rn_iret dX7_bet_90 rfl (Nat.zero_le _) (Nat.zero_le _) ?_
            refine ⟨_, rfl, rfl, rfl, h41.1, h41.2.1, ?_⟩
            unfold betQ
            rw [if_pos ⟨hq1, hq2, hq3⟩, if_neg (Int32.not_lt.mpr c58), if_neg (Int32.not_lt.mpr c81)]
          · refine r_iload3 dX7_bet_84 ?_
            refine rn_goto 90 dX7_bet_85 rfl ?_
            refine rn_iret dX7_bet_90 rfl (Nat.zero_le _) (Nat.zero_le _) ?_
            refine ⟨_, rfl, rfl, rfl, h41.1, h41.2.1, ?_⟩
            unfold betQ
            rw [if_pos ⟨hq1, hq2, hq3⟩, if_neg (Int32.not_lt.mpr c58), if_pos (Int32.not_le.mp c81)]
        · refine r_iload2 dX7_bet_61 ?_
          refine rn_goto 66 dX7_bet_62 rfl ?_
          refine r_istore5 dX7_bet_66 rfl ?_
          refine r_iload3 dX7_bet_68 ?_
          refine r_iload4 dX7_bet_69 ?_
          refine cpiS2 dX7_bet_71 os_X7_off rfl ml_X7_332 (Nat.zero_le _) (Nat.zero_le _) (Nat.zero_le _) (ct_off _ _ _) ?_
          refine r_iload5 dX7_bet_74 ?_
          refine r_iload4 dX7_bet_76 ?_
          refine cpiS2 dX7_bet_78 os_X7_off rfl ml_X7_332 (Nat.le_of_ble_eq_true rfl) (Nat.zero_le _) (Nat.zero_le _) (ct_off _ _ _) ?_
          refine rn_icmp_ge 88 dX7_bet_81 rfl (fun c81 => ?_) (fun c81 => ?_)
          · refine r_iload5 dX7_bet_88 ?_
            refine rn_iret dX7_bet_90 rfl (Nat.zero_le _) (Nat.zero_le _) ?_
            refine ⟨_, rfl, rfl, rfl, h41.1, h41.2.1, ?_⟩
            unfold betQ
            rw [if_pos ⟨hq1, hq2, hq3⟩, if_pos (Int32.not_le.mp c58), if_neg (Int32.not_lt.mpr c81)]
          · refine r_iload3 dX7_bet_84 ?_
            refine rn_goto 90 dX7_bet_85 rfl ?_
            refine rn_iret dX7_bet_90 rfl (Nat.zero_le _) (Nat.zero_le _) ?_
            refine ⟨_, rfl, rfl, rfl, h41.1, h41.2.1, ?_⟩
            unfold betQ
            rw [if_pos ⟨hq1, hq2, hq3⟩, if_pos (Int32.not_le.mp c58), if_pos (Int32.not_le.mp c81)]
      · refine rn_bipush (-2) dX7_bet_36 (by decide) ?_
        refine rn_iret dX7_bet_38 rfl (Nat.zero_le _) (Nat.zero_le _) ?_
        refine ⟨_, rfl, rfl, rfl, Off.refl, hR, ?_⟩
        unfold betQ
        rw [if_neg (fun z => bI_0.mp c33 z.2.2)]
set_option maxRecDepth 4000 in
theorem so_loop {D : Nat} {Q : Qt} (hM : ShM Γ rv) {ρ : IV} {S : Nat → Nat → List Int32} {T : Nat} (hT6 : T ≤ 6) {t : Nat} (ht : ρ 4 8 = nI t) (htT : t < T) (hg : GR ρ) {w : Int32} {iv0 : IV} : ∀ (n i : Nat) (iv : IV) (lv : LV) (s2 s3 : Int32) (v5 : Value) (x : Int32), i + n = 20 → x = nI i → 1 ≤ i → s2 = (soS S ρ (i - 1)).1 → s3 = (soS S ρ (i - 1)).2 → v5.category = 1 → Off Scr iv0 iv → RM iv ρ → AsM iv ρ → TextsM iv T S → (∀ (iv : IV) (lv : LV) (s2 s3 : Int32) (v5 : Value) (x : Int32), x = nI 20 → 1 ≤ 20 → s2 = (soS S ρ (20 - 1)).1 → s3 = (soS S ρ (20 - 1)).2 → v5.category = 1 → Off Scr iv0 iv → RM iv ρ → AsM iv ρ → TextsM iv T S → Rn g l mX7_soonest (rmA (D + 52) 0 0) Q 0 0 88 [.ref 75, .int w, .int s2, .int s3, .int x, v5] [] Γ iv rv lv) → Rn g l mX7_soonest (rmA (D + 52) 0 0) Q 0 0 24 [.ref 75, .int w, .int s2, .int s3, .int x, v5] [] Γ iv rv lv := by
  intro n
  induction n with
  | zero =>
    intro i iv lv s2 s3 v5 x hn hx h1 h2 h3 h5 ho hR hA hX kk
    obtain rfl : i = 20 := by omega
    refine r_iload4 dX7_soonest_24 ?_
    refine rn_bipush (20) dX7_soonest_26 (by decide) ?_
    refine rn_icmp_ge 88 dX7_soonest_28 rfl (fun _ => ?_) (fun h => absurd (by rw [hx]; decide) h)
    exact kk _ _ _ _ _ _ hx h1 h2 h3 h5 ho hR hA hX
  | succ n ih =>
    intro i iv lv s2 s3 v5 x hn hx h1 h2 h3 h5 ho hR hA hX kk
    have hil : i < 20 := by omega
    obtain ⟨j, rfl⟩ : ∃ j, i = j + 1 := ⟨i - 1, by omega⟩
    subst hx
    rw [show j + 1 - 1 = j by omega] at h2 h3
    have hofm : Off Scr iv (up (up iv 83 0 (nI (j + 1))) 83 1 (20 - nI (j + 1))) := (off_up (by decide)).trans (off_up (by decide))
    have hofb : Off Bk iv (up (up iv 83 0 (nI (j + 1))) 83 1 (20 - nI (j + 1))) := (off_up (by decide)).trans (off_up (by decide))
    have hRs : RM (up (up iv 83 0 (nI (j + 1))) 83 1 (20 - nI (j + 1))) (splS ρ (j + 1)) := (hR.upg 3 (γ := 0) (by decide) (by decide) (by decide)).upg 3 (γ := 1) (by decide) (by decide) (by decide)
    refine r_iload4 dX7_soonest_24 ?_
    refine rn_bipush (20) dX7_soonest_26 (by decide) ?_
    refine rn_icmp_ge 88 dX7_soonest_28 rfl (fun h => absurd h (fun z => by rw [show (20 : Int32) = nI 20 by decide, nI_leI (by decide) (by omega)] at z; omega)) (fun _ => ?_)
    refine r_aload0 dX7_soonest_31 ?_
    refine gf_X7_35 dX7_soonest_32 rfl hM.1 (sm_men hM).1 ?_
    refine rn_iconst (0) dX7_soonest_35 (by decide) ?_
    refine r_iload4 dX7_soonest_36 ?_
    refine rn_iast 0 dX7_soonest_38 (sm_men hM).2 rfl (by decide) (by decide) ?_
    refine r_aload0 dX7_soonest_39 ?_
    refine gf_X7_35 dX7_soonest_40 rfl hM.1 (sm_men hM).1 ?_
    refine rn_iconst (1) dX7_soonest_43 (by decide) ?_
    refine rn_bipush (20) dX7_soonest_44 (by decide) ?_
    refine r_iload4 dX7_soonest_46 ?_
    refine rn_isub dX7_soonest_48 ?_
    refine rn_iast 1 dX7_soonest_49 (sm_men hM).2 rfl (by decide) (by decide) ?_
    refine r_aload0 dX7_soonest_50 ?_
    refine rn_iconst (-1) dX7_soonest_51 (by decide) ?_
    refine rn_iconst (0) dX7_soonest_52 (by decide) ?_
    refine clvV2 dX7_soonest_53 ov_X7_runs rfl ml_X7_301 hM.1 rfl (Nat.zero_le _) (Nat.zero_le _) (Nat.zero_le _) (ct_mruns (iv := (up (up iv 83 0 (nI (j + 1))) 83 1 (20 - nI (j + 1)))) D hM hRs (hX.scr hofm) hT6 ((kp_spl).2.2.2.trans ht) htT (gr_spl hg) _ _) (fun iv lv h53 => ?_)
    refine r_aload0 dX7_soonest_56 ?_
    refine gf_X7_291 dX7_soonest_57 rfl hM.1 ?_
    refine rn_eqi (nI (endS S (splS ρ (j + 1))).1) h53.2.2 ?_
    refine r_istore5 dX7_soonest_60 rfl ?_
    refine r_aload0 dX7_soonest_62 ?_
    refine ccvV0 dX7_soonest_63 ov_X7_laysBack rfl ml_X7_308 hM.1 rfl (Nat.zero_le _) (Nat.zero_le _) (Nat.zero_le _) (ct_laysBack _ hM h53.2.1 ((hA.bk hofb).ru h53.1) (kp_spl.trans (keep_run _ _ _).kp)) (fun iv h63 => ?_)
    refine r_iload2 dX7_soonest_66 ?_
    refine rn_if_eq 76 dX7_soonest_67 rfl (fun c67 => ?_) (fun c67 => ?_)
    · refine r_iload4 dX7_soonest_76 ?_
      refine r_istore2 dX7_soonest_78 rfl ?_
      refine r_iload5 dX7_soonest_79 ?_
      refine r_istore3 dX7_soonest_81 rfl ?_
      refine r_iinc4 _ dX7_soonest_82 rfl rfl ?_
      refine rn_goto 24 dX7_soonest_85 rfl ?_
      have ee : soS S ρ (j + 1 + 1 - 1) = (nI (j + 1), nI (endS S (splS ρ (j + 1))).1) := by rw [show j + 1 + 1 - 1 = j + 1 by omega, soS, if_pos (Or.inl (by rw [← h2]; exact c67))]
      exact ih (j + 1 + 1) iv _ _ _ _ _ (by omega) (nI_1 _) (by omega) (by rw [ee]) (by rw [ee]) rfl (((ho.trans hofm).trans (ru_scr h53.1)).trans (bk_scr h63.1)) h63.2 (((hA.bk hofb).ru h53.1).bk h63.1) (((hX.scr hofm).ru h53.1).scr (bk_scr h63.1)) kk
    · refine r_iload5 dX7_soonest_70 ?_
      refine r_iload3 dX7_soonest_72 ?_
      refine rn_icmp_ge 82 dX7_soonest_73 rfl (fun c73 => ?_) (fun c73 => ?_)
      · refine r_iinc4 _ dX7_soonest_82 rfl rfl ?_
        refine rn_goto 24 dX7_soonest_85 rfl ?_
        have ee : soS S ρ (j + 1 + 1 - 1) = soS S ρ j := by rw [show j + 1 + 1 - 1 = j + 1 by omega, soS, if_neg (fun z => z.elim (fun q => c67 (by rw [h2]; exact q)) (fun q => absurd q (Int32.not_lt.mpr (by rw [← h3]; exact c73))))]
        exact ih (j + 1 + 1) iv _ _ _ _ _ (by omega) (nI_1 _) (by omega) (by rw [ee]; exact h2) (by rw [ee]; exact h3) rfl (((ho.trans hofm).trans (ru_scr h53.1)).trans (bk_scr h63.1)) h63.2 (((hA.bk hofb).ru h53.1).bk h63.1) (((hX.scr hofm).ru h53.1).scr (bk_scr h63.1)) kk
      · refine r_iload4 dX7_soonest_76 ?_
        refine r_istore2 dX7_soonest_78 rfl ?_
        refine r_iload5 dX7_soonest_79 ?_
        refine r_istore3 dX7_soonest_81 rfl ?_
        refine r_iinc4 _ dX7_soonest_82 rfl rfl ?_
        refine rn_goto 24 dX7_soonest_85 rfl ?_
        have ee : soS S ρ (j + 1 + 1 - 1) = (nI (j + 1), nI (endS S (splS ρ (j + 1))).1) := by rw [show j + 1 + 1 - 1 = j + 1 by omega, soS, if_pos (Or.inr (by rw [← h3]; exact Int32.not_le.mp c73))]
        exact ih (j + 1 + 1) iv _ _ _ _ _ (by omega) (nI_1 _) (by omega) (by rw [ee]) (by rw [ee]) rfl (((ho.trans hofm).trans (ru_scr h53.1)).trans (bk_scr h63.1)) h63.2 (((hA.bk hofb).ru h53.1).bk h63.1) (((hX.scr hofm).ru h53.1).scr (bk_scr h63.1)) kk
set_option maxRecDepth 4000 in
theorem ct_soonest (D : Nat) (hM : ShM Γ rv) {ρ : IV} {S : Nat → Nat → List Int32} {T : Nat} (hR : RM iv ρ) (hX : TextsM iv T S) (hT6 : T ≤ 6) {t : Nat} (ht : ρ 4 8 = nI t) (htT : t < T) (hg : GR ρ) (w : Int32) : Ct g l mX7_soonest (D + 52) 0 0 [.ref 75, .int w] Γ iv rv lv (qLI Γ rv (fun x iv' _ => Off Scr iv iv' ∧ RM iv' ρ ∧ x = soQ S ρ w)) := by
  refine Ct.of (by decide +kernel) (Nat.le_of_ble_eq_true rfl) (Nat.le_of_ble_eq_true rfl) ?_
  refine r_iload1 dX7_soonest_0 ?_
  refine rn_i2l dX7_soonest_1 ?_
  refine rn_lconst (0) dX7_soonest_2 (by decide) ?_
  refine rn_lconst (1) dX7_soonest_3 (by decide) ?_
  refine cpiS3 dX7_soonest_4 os_X7_in rfl ml_X7_96 (Nat.zero_le _) (Nat.zero_le _) (Nat.zero_le _) (ct_inI _ (a := 0) (b := 1) (by decide) (by decide)) ?_
  refine rn_if_ne 13 dX7_soonest_7 rfl (fun c7 => ?_) (fun c7 => ?_)
  · have hw := bI_1.mp (bI_or.resolve_left c7)
    refine r_aload0 dX7_soonest_13 ?_
    refine ccvV0 dX7_soonest_14 ov_X7_laysAside rfl ml_X7_298 hM.1 rfl (Nat.zero_le _) (Nat.zero_le _) (Nat.zero_le _) (ct_laysAside _ hM hR) (fun iv h14 => ?_)
    refine rn_iconst (0) dX7_soonest_17 (by decide) ?_
    refine r_istore2 dX7_soonest_18 rfl ?_
    refine rn_iconst (0) dX7_soonest_19 (by decide) ?_
    refine r_istore3 dX7_soonest_20 rfl ?_
    refine rn_iconst (1) dX7_soonest_21 (by decide) ?_
    refine r_istore4 dX7_soonest_22 rfl ?_
    refine so_loop (iv0 := iv) hM hT6 ht htT hg 19 1 iv _ _ _ _ _ (by decide) rfl (by decide) rfl rfl rfl Off.refl h14.2.1 h14.2.2 (hX.scr (as_scr h14.1)) (fun iv lv s2 s3 v5 x hx h1 h2 h3 h5 ho hRn hA hXn => ?_)
    refine r_iload1 dX7_soonest_88 ?_
    refine rn_if_ne 96 dX7_soonest_89 rfl (fun c89 => ?_) (fun c89 => ?_)
    · refine r_iload3 dX7_soonest_96 ?_
      refine rn_iret dX7_soonest_97 rfl (Nat.zero_le _) (Nat.zero_le _) ?_
      refine ⟨_, rfl, rfl, rfl, (as_scr h14.1).trans ho, hRn, ?_⟩
      unfold soQ
      rw [if_pos hw, if_neg c89]
      exact h3
    · refine r_iload2 dX7_soonest_92 ?_
      refine rn_goto 97 dX7_soonest_93 rfl ?_
      refine rn_iret dX7_soonest_97 rfl (Nat.zero_le _) (Nat.zero_le _) ?_
      refine ⟨_, rfl, rfl, rfl, (as_scr h14.1).trans ho, hRn, ?_⟩
      unfold soQ
      rw [if_pos hw, if_pos c89]
      exact h2
  · refine rn_bipush (-2) dX7_soonest_10 (by decide) ?_
    refine rn_iret dX7_soonest_12 rfl (Nat.zero_le _) (Nat.zero_le _) ?_
    refine ⟨_, rfl, rfl, rfl, Off.refl, hR, ?_⟩
    unfold soQ
    rw [if_neg (bI_0.mp c7)]
end MSOON
