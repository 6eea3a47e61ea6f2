/-! THE CLASS: copyKept, copyAll, worth, Best -/
def ckS (κ ρ : IV) : IV := fun a b => if (a = 2 ∨ a = 3) ∧ (b = 1 ∨ b = 2) then ρ a b else κ a b
theorem ck_no {κ ρ : IV} {a b : Nat} (h : ¬ ((a = 2 ∨ a = 3) ∧ (b = 1 ∨ b = 2))) : ckS κ ρ a b = κ a b := if_neg h
theorem ck_yes {κ ρ : IV} {a b : Nat} (h : (a = 2 ∨ a = 3) ∧ (b = 1 ∨ b = 2)) : ckS κ ρ a b = ρ a b := if_pos h
theorem ck_ck {a b c : IV} : ckS (ckS a b) c = ckS a c := by
  funext i k
  by_cases h : (i = 2 ∨ i = 3) ∧ (k = 1 ∨ k = 2)
  · rw [ck_yes h, ck_yes h]
  · rw [ck_no h, ck_no h, ck_no h]
theorem bk_ck {κ ρ : IV} : bkS κ ρ = ckS κ ρ := by
  funext a b
  unfold bkS up mxS ckS
  by_cases h : (a = 2 ∨ a = 3) ∧ (b = 1 ∨ b = 2)
  · rw [if_neg (by omega), if_neg (by omega), if_neg (by omega), if_pos (Or.inl h), if_pos h]
  · rw [if_neg h]
    by_cases h8 : a = 4 ∧ b = 8
    · rw [if_pos h8, h8.1, h8.2]
    · rw [if_neg h8]
      by_cases h7 : a = 4 ∧ b = 7
      · rw [if_pos h7, h7.1, h7.2]
      · rw [if_neg h7]
        by_cases h6 : a = 4 ∧ b = 6
        · rw [if_pos h6, h6.1, h6.2]
        · rw [if_neg h6, if_neg (by omega)]
def Gu (iv : IV) (r : Nat) : Prop := iv (r + 3) 0 = 1 ∧ iv (r + 6) 0 = 0
theorem RC.gu {iv ρ : IV} {r : Nat} (h : RC iv r ρ) : Gu iv r := ⟨h.2.2.2.1, h.2.2.2.2⟩
theorem ShG.rule {Γ : Sh} {rv : RV} {a y x : Nat} (h : ShG Γ rv a) (hy : y ≠ a) : ShG Γ (up rv y 8 x) a := ⟨h.1, ⟨(up_ne1 (fun z => hy z.symm)).trans h.2.1.1, h.2.1.2⟩, (up_ne2 (by decide)).trans h.2.2.1, h.2.2.2⟩
theorem ShRd.rule {Γ : Sh} {rv : RV} {r y x : Nat} (h : ShRd Γ rv r) (hy : y % 10 = 7) (hr : r % 10 = 7) : ShRd Γ (up rv y 8 x) r := ⟨h.1, ⟨(up_ne2 (by decide)).trans h.2.1.1, h.2.1.2⟩, ⟨(up_ne2 (by decide)).trans h.2.2.1.1, h.2.2.1.2⟩, ⟨(up_ne2 (by decide)).trans h.2.2.2.1.1, h.2.2.2.1.2.rule (by omega)⟩, ⟨(up_ne2 (by decide)).trans h.2.2.2.2.1.1, h.2.2.2.2.1.2.rule (by omega)⟩, (up_ne2 (by decide)).trans h.2.2.2.2.2.1, h.2.2.2.2.2.2⟩
theorem cpy_in {iv : IV} {src sp dst dp n b : Nat} (h : dp ≤ b ∧ b < dp + n) : cpy iv src sp dst dp n dst b = iv src (sp + (b - dp)) := if_pos ⟨rfl, h⟩
theorem cpy_out {iv : IV} {src sp dst dp n a b : Nat} (h : a ≠ dst) : cpy iv src sp dst dp n a b = iv a b := if_neg (fun z => h z.1)
theorem RC.ext {iv ρ ρ' : IV} {r : Nat} (h : RC iv r ρ) (h0 : ∀ y, y < 24 → ρ' 0 y = ρ 0 y ∧ ρ' 1 y = ρ 1 y) (h1 : ∀ k γ, 1 ≤ k → k ≤ 7 → γ < 2 → ρ' (2 + γ) k = ρ (2 + γ) k) (h2 : ∀ k, 4 ≤ k → k ≤ 7 → ρ' 4 k = ρ 4 k) : RC iv r ρ' :=
  ⟨fun y hy => ⟨(h.1 y hy).1.trans (h0 y hy).1.symm, (h.1 y hy).2.trans (h0 y hy).2.symm⟩, fun k γ a b c => (h.2.1 k γ a b c).trans (h1 k γ a b c).symm, fun k a b => (h.2.2.1 k a b).trans (h2 k a b).symm, h.2.2.2⟩
abbrev Gk (a x k : Nat) : Prop := x = a ∧ 3 ≤ k ∧ k ≤ 7
section CCOPY
variable {g : GS} {l : Launch} {Γ : Sh} {iv : IV} {rv : RV} {lv : LV}
set_option maxRecDepth 4000 in
theorem ct_copyG (d : Nat) {a b : Nat} (hG : ShG Γ rv a) (hH : ShG Γ rv b) (hab : b ≠ a) : Ct g l mX1_copyKept (d) 0 0 [.ref a, .ref b] Γ iv rv lv (qCV Γ rv lv (fun iv' => Off (Gk a) iv iv' ∧ ∀ k, 3 ≤ k → k ≤ 7 → iv' a k = iv b k)) := by
  refine Ct.of (by decide +kernel) (Nat.le_of_ble_eq_true rfl) (Nat.le_of_ble_eq_true rfl) ?_
  refine r_aload0 dX1_copyKept_0 ?_
  refine r_aload1 dX1_copyKept_1 ?_
  refine gf_X1_18 dX1_copyKept_2 rfl hH.1 ?_
  refine pf_X1_18 dX1_copyKept_5 rfl hG.1 ?_
  refine r_aload0 dX1_copyKept_8 ?_
  refine r_aload1 dX1_copyKept_9 ?_
  refine gf_X1_21 dX1_copyKept_10 rfl hH.1 ?_
  refine rn_eqi (iv b 4) (by rw [up_ne1 (by omega)]) ?_
  refine pf_X1_21 dX1_copyKept_13 rfl hG.1 ?_
  refine r_aload0 dX1_copyKept_16 ?_
  refine r_aload1 dX1_copyKept_17 ?_
  refine gf_X1_24 dX1_copyKept_18 rfl hH.1 ?_
  refine rn_eqi (iv b 5) (by rw [up_ne1 (by omega), up_ne1 (by omega)]) ?_
  refine pf_X1_24 dX1_copyKept_21 rfl hG.1 ?_
  refine r_aload0 dX1_copyKept_24 ?_
  refine r_aload1 dX1_copyKept_25 ?_
  refine gf_X1_27 dX1_copyKept_26 rfl hH.1 ?_
  refine rn_eqi (iv b 6) (by rw [up_ne1 (by omega), up_ne1 (by omega), up_ne1 (by omega)]) ?_
  refine pf_X1_27 dX1_copyKept_29 rfl hG.1 ?_
  refine r_aload0 dX1_copyKept_32 ?_
  refine r_aload1 dX1_copyKept_33 ?_
  refine gf_X1_30 dX1_copyKept_34 rfl hH.1 ?_
  refine rn_eqi (iv b 7) (by rw [up_ne1 (by omega), up_ne1 (by omega), up_ne1 (by omega), up_ne1 (by omega)]) ?_
  refine pf_X1_30 dX1_copyKept_37 rfl hG.1 ?_
  refine rn_vret dX1_copyKept_40 rfl (Nat.zero_le _) (Nat.zero_le _) ?_
  refine ⟨rfl, rfl, rfl, rfl, ((((off_up (by omega)).trans (off_up (by omega))).trans (off_up (by omega))).trans (off_up (by omega))).trans (off_up (by omega)), fun k h1 h2 => match k, h1, h2 with
    | 3, _, _ => by rw [up_ne2 (by decide), up_ne2 (by decide), up_ne2 (by decide), up_ne2 (by decide), up_same]
    | 4, _, _ => by rw [up_ne2 (by decide), up_ne2 (by decide), up_ne2 (by decide), up_same]
    | 5, _, _ => by rw [up_ne2 (by decide), up_ne2 (by decide), up_same]
    | 6, _, _ => by rw [up_ne2 (by decide), up_same]
    | 7, _, _ => by rw [up_same]⟩
set_option maxRecDepth 4000 in
theorem ct_copyR (D : Nat) {r f : Nat} (hS : ShRd Γ rv r) (hF : ShRd Γ rv f) (hr7 : r % 10 = 7) (hf7 : f % 10 = 7) (hrf : r ≠ f) {ρ φ : IV} (hR : RC iv r ρ) (hRf : RC iv f φ) : Ct g l mX3_copyKept (D + 1) 0 0 [.ref r, .ref f] Γ iv rv lv (qRV Γ lv (fun iv' rv' => rv' = up rv r 8 (rv f 8) ∧ Off (fun a _ => r ≤ a ∧ a ≤ r + 6) iv iv' ∧ RC iv' r (ckS φ ρ))) := by
  refine Ct.of (by decide +kernel) (Nat.le_of_ble_eq_true rfl) (Nat.le_of_ble_eq_true rfl) ?_
  refine r_aload1 dX3_copyKept_0 ?_
  refine gf_X3_9 dX3_copyKept_1 rfl hF.1 hF.2.1.1 ?_
  refine rn_iconst (0) dX3_copyKept_4 (by decide) ?_
  refine r_aload0 dX3_copyKept_5 ?_
  refine gf_X3_9 dX3_copyKept_6 rfl hS.1 hS.2.1.1 ?_
  refine rn_iconst (0) dX3_copyKept_9 (by decide) ?_
  refine rn_bipush (24) dX3_copyKept_10 (by decide) ?_
  refine rn_acopy 0 0 24 dX3_copyKept_12 ml_X3_140 acw hF.2.1.2 hS.2.1.2 (by decide) (by decide) (by decide) (by decide) (by decide) (by first | decide | omega) (by first | decide | omega) (Nat.zero_le _) (Nat.le_add_left _ _) (by show 100 ≤ 100 * _; omega) ?_
  refine r_aload1 dX3_copyKept_15 ?_
  refine gf_X3_15 dX3_copyKept_16 rfl hF.1 hF.2.2.1.1 ?_
  refine rn_iconst (0) dX3_copyKept_19 (by decide) ?_
  refine r_aload0 dX3_copyKept_20 ?_
  refine gf_X3_15 dX3_copyKept_21 rfl hS.1 hS.2.2.1.1 ?_
  refine rn_iconst (0) dX3_copyKept_24 (by decide) ?_
  refine rn_bipush (24) dX3_copyKept_25 (by decide) ?_
  refine rn_acopy 0 0 24 dX3_copyKept_27 ml_X3_140 acw hF.2.2.1.2 hS.2.2.1.2 (by decide) (by decide) (by decide) (by decide) (by decide) (by first | decide | omega) (by first | decide | omega) (Nat.zero_le _) (Nat.le_add_left _ _) (by show 100 ≤ 100 * _; omega) ?_
  refine r_aload0 dX3_copyKept_30 ?_
  refine gf_X3_23 dX3_copyKept_31 rfl hS.1 hS.2.2.2.1.1 ?_
  refine r_aload1 dX3_copyKept_34 ?_
  refine gf_X3_23 dX3_copyKept_35 rfl hF.1 hF.2.2.2.1.1 ?_
  refine ccvV1 dX3_copyKept_38 ov_X1_copyKept rfl ml_X3_146 hS.2.2.2.1.2.1 rfl (Nat.zero_le _) (Nat.zero_le _) (Nat.zero_le _) (ct_copyG _ hS.2.2.2.1.2 hF.2.2.2.1.2 (by omega)) (fun iv38 h38 => ?_)
  refine r_aload0 dX3_copyKept_41 ?_
  refine gf_X3_27 dX3_copyKept_42 rfl hS.1 hS.2.2.2.2.1.1 ?_
  refine r_aload1 dX3_copyKept_45 ?_
  refine gf_X3_27 dX3_copyKept_46 rfl hF.1 hF.2.2.2.2.1.1 ?_
  refine ccvV1 dX3_copyKept_49 ov_X1_copyKept rfl ml_X3_146 hS.2.2.2.2.1.2.1 rfl (Nat.zero_le _) (Nat.zero_le _) (Nat.zero_le _) (ct_copyG _ hS.2.2.2.2.1.2 hF.2.2.2.2.1.2 (by omega)) (fun iv49 h49 => ?_)
  refine r_aload0 dX3_copyKept_52 ?_
  refine r_aload1 dX3_copyKept_53 ?_
  refine gf_X3_30 dX3_copyKept_54 rfl hF.1 ?_
  refine rn_eqi (φ 4 4) ((h49.1 _ _ (by omega)).trans ((h38.1 _ _ (by omega)).trans ((cpy_out (by omega)).trans ((cpy_out (by omega)).trans (hRf.2.2.1 4 (by decide) (by decide)))))) ?_
  refine pf_X3_30 dX3_copyKept_57 rfl hS.1 ?_
  refine r_aload0 dX3_copyKept_60 ?_
  refine r_aload1 dX3_copyKept_61 ?_
  refine gf_X3_34 dX3_copyKept_62 rfl hF.1 ?_
  refine rn_eqi (φ 4 5) (by rw [up_ne1 (by omega)]; exact (h49.1 _ _ (by omega)).trans ((h38.1 _ _ (by omega)).trans ((cpy_out (by omega)).trans ((cpy_out (by omega)).trans (hRf.2.2.1 5 (by decide) (by decide)))))) ?_
  refine pf_X3_34 dX3_copyKept_65 rfl hS.1 ?_
  refine r_aload0 dX3_copyKept_68 ?_
  refine r_aload1 dX3_copyKept_69 ?_
  refine gf_X3_37 dX3_copyKept_70 rfl hF.1 ?_
  refine rn_eqi (φ 4 6) (by rw [up_ne1 (by omega), up_ne1 (by omega)]; exact (h49.1 _ _ (by omega)).trans ((h38.1 _ _ (by omega)).trans ((cpy_out (by omega)).trans ((cpy_out (by omega)).trans (hRf.2.2.1 6 (by decide) (by decide)))))) ?_
  refine pf_X3_37 dX3_copyKept_73 rfl hS.1 ?_
  refine r_aload0 dX3_copyKept_76 ?_
  refine r_aload1 dX3_copyKept_77 ?_
  refine gf_X3_40 dX3_copyKept_78 rfl hF.1 ?_
  refine rn_eqi (φ 4 7) (by rw [up_ne1 (by omega), up_ne1 (by omega), up_ne1 (by omega)]; exact (h49.1 _ _ (by omega)).trans ((h38.1 _ _ (by omega)).trans ((cpy_out (by omega)).trans ((cpy_out (by omega)).trans (hRf.2.2.1 7 (by decide) (by decide)))))) ?_
  refine pf_X3_40 dX3_copyKept_81 rfl hS.1 ?_
  refine r_aload0 dX3_copyKept_84 ?_
  refine r_aload1 dX3_copyKept_85 ?_
  refine gf_X3_48 dX3_copyKept_86 rfl hF.1 rfl ?_
  refine pf_X3_48 dX3_copyKept_89 rfl hS.1 ?_
  refine rn_vret dX3_copyKept_92 rfl (Nat.zero_le _) (Nat.zero_le _) ?_
  refine ⟨rfl, rfl, rfl, rfl, ?_, ?_⟩
  · refine (((((Off.trans (iv1 := (cpy (cpy iv (f + 1) 0 (r + 1) 0 24) (f + 2) 0 (r + 2) 0 24)) ?_ (h38.1.mono (fun a b z => by omega))).trans (h49.1.mono (fun a b z => by omega))).trans (off_up (by omega))).trans (off_up (by omega))).trans (off_up (by omega))).trans (off_up (by omega))
    exact fun a b z => (cpy_out (by omega)).trans (cpy_out (by omega))
  · refine ⟨fun y hy => ⟨?_, ?_⟩, fun k γ h1 h2 h3 => ?_, fun k h1 h2 => ?_, ?_, ?_⟩
    · rw [ck_no (by omega), up_ne1 (by omega), up_ne1 (by omega), up_ne1 (by omega), up_ne1 (by omega), h49.1 _ _ (by omega), h38.1 _ _ (by omega), cpy_out (by omega), cpy_in ⟨by omega, by omega⟩, show 0 + (y - 0) = y by omega]; exact (hRf.1 y hy).1
    · rw [ck_no (by omega), up_ne1 (by omega), up_ne1 (by omega), up_ne1 (by omega), up_ne1 (by omega), h49.1 _ _ (by omega), h38.1 _ _ (by omega), cpy_in ⟨by omega, by omega⟩, show 0 + (y - 0) = y by omega, cpy_out (by omega)]; exact (hRf.1 y hy).2
    · rw [up_ne1 (by omega), up_ne1 (by omega), up_ne1 (by omega), up_ne1 (by omega)]
      rcases (show γ = 0 ∨ γ = 1 by omega) with rfl | rfl
      · rw [h49.1 _ _ (by omega)]
        by_cases hk : 3 ≤ k
        · rw [ck_no (by omega)]
          refine (h38.2 k hk h2).trans ?_
          rw [cpy_out (by omega), cpy_out (by omega)]; exact hRf.up0 k h1 h2
        · rw [ck_yes (by omega), h38.1 _ _ (by omega), cpy_out (by omega), cpy_out (by omega)]; exact hR.gang k h1 h2 (by decide)
      · by_cases hk : 3 ≤ k
        · rw [ck_no (by omega)]
          refine (h49.2 k hk h2).trans ?_
          rw [h38.1 _ _ (by omega), cpy_out (by omega), cpy_out (by omega)]; exact hRf.up1 k h1 h2
        · rw [ck_yes (by omega), h49.1 _ _ (by omega), h38.1 _ _ (by omega), cpy_out (by omega), cpy_out (by omega)]; exact hR.gang k h1 h2 (by decide)
    · rw [ck_no (by omega)]
      match k, h1, h2 with
      | 4, _, _ => rw [up_ne2 (by decide), up_ne2 (by decide), up_ne2 (by decide), up_same]
      | 5, _, _ => rw [up_ne2 (by decide), up_ne2 (by decide), up_same]
      | 6, _, _ => rw [up_ne2 (by decide), up_same]
      | 7, _, _ => rw [up_same]
    · rw [up_ne1 (by omega), up_ne1 (by omega), up_ne1 (by omega), up_ne1 (by omega), h49.1 _ _ (by omega), h38.1 _ _ (by omega), cpy_out (by omega), cpy_out (by omega)]; exact hR.2.2.2.1
    · rw [up_ne1 (by omega), up_ne1 (by omega), up_ne1 (by omega), up_ne1 (by omega), h49.1 _ _ (by omega), h38.1 _ _ (by omega), cpy_out (by omega), cpy_out (by omega)]; exact hR.2.2.2.2
set_option maxRecDepth 4000 in
theorem ct_copyAll (D : Nat) {r f : Nat} (hS : ShRd Γ rv r) (hF : ShRd Γ rv f) (hr7 : r % 10 = 7) (hf7 : f % 10 = 7) (hrf : r ≠ f) {φ : IV} (hGu : Gu iv r) (hRf : RC iv f φ) : Ct g l mX3_copyAll (D + 2) 0 0 [.ref r, .ref f] Γ iv rv lv (qRV Γ lv (fun iv' rv' => rv' = up rv r 8 (rv f 8) ∧ Off (fun a _ => r ≤ a ∧ a ≤ r + 9) iv iv' ∧ RC iv' r φ ∧ ∀ (ψ : IV) (S : Nat → Nat → List Int32), Mm iv' r ψ S)) := by
  refine Ct.of (by decide +kernel) (Nat.le_of_ble_eq_true rfl) (Nat.le_of_ble_eq_true rfl) ?_
  have hR : RC iv r (fun a b => if a = 0 then iv (r + 1) b else if a = 1 then iv (r + 2) b else if a = 2 then iv (r + 3) b else if a = 3 then iv (r + 6) b else iv r b) := ⟨fun y _ => ⟨rfl, rfl⟩, fun k γ _ _ h => by
    rcases (show γ = 0 ∨ γ = 1 by omega) with rfl | rfl <;> rfl, fun k _ _ => rfl, hGu⟩
  refine r_aload0 dX3_copyAll_0 ?_
  refine r_aload1 dX3_copyAll_1 ?_
  refine crvV1 dX3_copyAll_2 ov_X3_copyKept rfl ml_X3_149 hS.1 rfl (Nat.zero_le _) (Nat.zero_le _) (Nat.zero_le _) (ct_copyR _ hS hF hr7 hf7 hrf hR hRf) (fun iv2 rv2 h2 => ?_)
  obtain ⟨rfl, ho2, hR2⟩ := h2
  have hS := hS.rule (y := r) (x := rv f 8) hr7 hr7
  have hF := hF.rule (y := r) (x := rv f 8) hr7 hf7
  have hRf2 := hRf.off ho2 (fun a b z => by omega)
  refine r_aload0 dX3_copyAll_5 ?_
  refine gf_X3_23 dX3_copyAll_6 rfl hS.1 hS.2.2.2.1.1 ?_
  refine r_aload1 dX3_copyAll_9 ?_
  refine gf_X3_23 dX3_copyAll_10 rfl hF.1 hF.2.2.2.1.1 ?_
  refine gf_X3_152 dX3_copyAll_13 rfl hF.2.2.2.1.2.1 ?_
  refine rn_eqi (φ 2 1) (hRf2.up0 1 (by decide) (by decide)) ?_
  refine pf_X3_152 dX3_copyAll_16 rfl hS.2.2.2.1.2.1 ?_
  refine r_aload0 dX3_copyAll_19 ?_
  refine gf_X3_23 dX3_copyAll_20 rfl hS.1 hS.2.2.2.1.1 ?_
  refine r_aload1 dX3_copyAll_23 ?_
  refine gf_X3_23 dX3_copyAll_24 rfl hF.1 hF.2.2.2.1.1 ?_
  refine gf_X3_155 dX3_copyAll_27 rfl hF.2.2.2.1.2.1 ?_
  refine rn_eqi (φ 2 2) (by rw [up_ne1 (by omega)]; exact hRf2.up0 2 (by decide) (by decide)) ?_
  refine pf_X3_155 dX3_copyAll_30 rfl hS.2.2.2.1.2.1 ?_
  refine r_aload0 dX3_copyAll_33 ?_
  refine gf_X3_27 dX3_copyAll_34 rfl hS.1 hS.2.2.2.2.1.1 ?_
  refine r_aload1 dX3_copyAll_37 ?_
  refine gf_X3_27 dX3_copyAll_38 rfl hF.1 hF.2.2.2.2.1.1 ?_
  refine gf_X3_152 dX3_copyAll_41 rfl hF.2.2.2.2.1.2.1 ?_
  refine rn_eqi (φ 3 1) (by rw [up_ne1 (by omega), up_ne1 (by omega)]; exact hRf2.up1 1 (by decide) (by decide)) ?_
  refine pf_X3_152 dX3_copyAll_44 rfl hS.2.2.2.2.1.2.1 ?_
  refine r_aload0 dX3_copyAll_47 ?_
  refine gf_X3_27 dX3_copyAll_48 rfl hS.1 hS.2.2.2.2.1.1 ?_
  refine r_aload1 dX3_copyAll_51 ?_
  refine gf_X3_27 dX3_copyAll_52 rfl hF.1 hF.2.2.2.2.1.1 ?_
  refine gf_X3_155 dX3_copyAll_55 rfl hF.2.2.2.2.1.2.1 ?_
  refine rn_eqi (φ 3 2) (by rw [up_ne1 (by omega), up_ne1 (by omega), up_ne1 (by omega)]; exact hRf2.up1 2 (by decide) (by decide)) ?_
  refine pf_X3_155 dX3_copyAll_58 rfl hS.2.2.2.2.1.2.1 ?_
  refine r_aload0 dX3_copyAll_61 ?_
  refine ccvV0 dX3_copyAll_62 ov_X3_forgetAnswers rfl ml_X3_158 hS.1 rfl (Nat.zero_le _) (Nat.zero_le _) (Nat.zero_le _) (ct_forgetR _ hS) (fun iv3 h62 => ?_)
  subst h62
  have hX := (((hR2.upg 1 (γ := 0) (x := φ 2 1) (by decide) (by decide) (by decide)).upg 2 (γ := 0) (x := φ 2 2) (by decide) (by decide) (by decide)).upg 1 (γ := 1) (x := φ 3 1) (by decide) (by decide) (by decide)).upg 2 (γ := 1) (x := φ 3 2) (by decide) (by decide) (by decide)
  have hoX : Off (fun a _ => r ≤ a ∧ a ≤ r + 9) iv (up (up (up (up iv2 (r + 3) 1 (φ 2 1)) (r + 3) 2 (φ 2 2)) (r + 6) 1 (φ 3 1)) (r + 6) 2 (φ 3 2)) := ((((ho2.mono (fun a b z => by omega)).trans (off_up (by omega))).trans (off_up (by omega))).trans (off_up (by omega))).trans (off_up (by omega))
  have hXe : RC (up (up (up (up iv2 (r + 3) 1 (φ 2 1)) (r + 3) 2 (φ 2 2)) (r + 6) 1 (φ 3 1)) (r + 6) 2 (φ 3 2)) r φ := hX.ext (fun y hy => ⟨by rw [up_ne1 (by decide), up_ne1 (by decide), up_ne1 (by decide), up_ne1 (by decide), ck_no (by omega)], by rw [up_ne1 (by decide), up_ne1 (by decide), up_ne1 (by decide), up_ne1 (by decide), ck_no (by omega)]⟩)
    (fun k γ h1 h2 h3 => by
      rcases (show γ = 0 ∨ γ = 1 by omega) with rfl | rfl
      · rw [up_ne1 (by decide), up_ne1 (by decide)]
        by_cases e2 : k = 2
        · subst e2; rw [up_same]
        · rw [up_ne2 e2]
          by_cases e1 : k = 1
          · subst e1; rw [up_same]
          · rw [up_ne2 e1, ck_no (by omega)]
      · by_cases e2 : k = 2
        · subst e2; rw [up_same]
        · rw [up_ne2 e2]
          by_cases e1 : k = 1
          · subst e1; rw [up_same]
          · rw [up_ne2 e1, up_ne1 (by decide), up_ne1 (by decide), ck_no (by omega)])
    (fun k h1 h2 => by rw [up_ne1 (by decide), up_ne1 (by decide), up_ne1 (by decide), up_ne1 (by decide), ck_no (by omega)])
  refine rn_vret dX3_copyAll_65 rfl (Nat.zero_le _) (Nat.zero_le _) ?_
  refine ⟨rfl, rfl, rfl, rfl, ?_, ?_, ?_⟩
  · exact (((hoX.trans (off_up (by omega))).trans (off_up (by omega))).trans (off_up (by omega))).trans (off_up (by omega))
  · exact hXe.off (P := fun a _ => a = r + 4 ∨ a = r + 7) ((((off_up (by omega)).trans (off_up (by omega))).trans (off_up (by omega))).trans (off_up (by omega))) (fun a b z => by omega)
  · intro ψ S γ p hγ hp
    refine Or.inl ?_
    rcases (show γ = 0 ∨ γ = 1 by omega) with rfl | rfl
    · rw [up_ne1 (by omega), up_ne1 (by omega)]
      by_cases e : p = 1
      · subst e; exact up_same _ _ _ _
      · obtain rfl : p = 0 := by omega
        rw [up_ne2 (by decide)]; exact up_same _ _ _ _
    · by_cases e : p = 1
      · subst e; exact up_same _ _ _ _
      · obtain rfl : p = 0 := by omega
        rw [up_ne2 (by decide)]; exact up_same _ _ _ _
end CCOPY
