/-! THE READER: words, signs, advance() -/
section RLEX2
variable {g : GS} {l : Launch} {Γ : Sh} {iv : IV} {rv : RV} {lv : LV}
theorem sp_loop {d : Nat} (hR : ShR Γ rv) {b : Nat → Int32} {n s q w : Nat} (hT : TxR iv b n) (h5 : iv 16 5 = nI s) (hsq : s ≤ q) (hqn : q ≤ n) (hw : w < 12) : ∀ (k i : Nat), 8 - i < k → ∀ {x3 : Int32}, x3 = nI i → (∀ j, j < i → oiv0 10 (w * 7 + j) = if j < q - s then b (s + j) else 32) → i ≤ 7 → ∀ {v4 : Value}, v4.category = 1 →
    Rn g l mX2_spells (rmA (d + 4) 0 0) (qCI Γ rv lv (fun z iv' => iv' = iv ∧ (z = 0 ∨ z = 1) ∧ (z = 1 ↔ ∀ i, i < 7 → oiv0 10 (w * 7 + i) = if i < q - s then b (s + i) else 32))) 0 0 20 [.ref 16, .int (nI w), .int (nI (q - s)), .int x3, v4] [] Γ iv rv lv := by
  intro k
  induction k with
  | zero => intro i h; omega
  | succ k ih =>
    intro i hk x3 hx3 hall hi v4 hv4
    subst hx3
    have hn160 : n ≤ 160 := hT.2.1
    refine r_iload3 dX2_spells_20 ?_
    refine rn_bipush (7) dX2_spells_21 (by decide) ?_
    refine rn_icmp_ge 73 dX2_spells_23 rfl (fun c23 => ?_) (fun c23 => ?_)
    · refine rn_iconst (1) dX2_spells_73 (by decide) ?_
      refine rn_zret dX2_spells_74 rfl (by first | decide | exact nar_bI) (Nat.zero_le _) (Nat.zero_le _) ?_
      rw [show (7 : Int32) = nI 7 by decide, nI_leI (by decide) (by omega)] at c23
      exact ⟨_, rfl, rfl, rfl, rfl, rfl, Or.inr rfl, fun _ j hj => hall j (by omega), fun _ => rfl⟩
    · have hi7 : i < 7 := by
        rw [show (7 : Int32) = nI 7 by decide, nI_leI (by decide) (by omega)] at c23
        omega
      refine r_iload3 dX2_spells_26 ?_
      refine r_iload2 dX2_spells_27 ?_
      refine rn_icmp_ge 45 dX2_spells_28 rfl (fun c28 => ?_) (fun c28 => ?_)
      · refine rn_bipush (32) dX2_spells_45 (by decide) ?_
        refine rn_eqi (if i < q - s then b (s + i) else 32) (by rw [nI_leI (by omega) (by omega)] at c28; rw [if_neg (by omega)]) ?_
        refine r_istore4 dX2_spells_47 rfl ?_
        refine rn_ldcS (i := 9) dX2_spells_49 (by decide) (fun g h => h.2.2.2.2.2.2.1.2.1) ?_
        refine r_iload1 dX2_spells_51 ?_
        refine rn_bipush (7) dX2_spells_52 (by decide) ?_
        refine rn_imul dX2_spells_54 ?_
        refine r_iload3 dX2_spells_55 ?_
        refine rn_iadd dX2_spells_56 ?_
        refine cpiO1 (j := 1) dX2_spells_57 ov_J0_charAt_5068e rfl ml_X2_110 rfl (by decide) rfl (Nat.zero_le _) (Nat.zero_le _) (Nat.zero_le _) (ct_charAt _ 1 rfl (by decide) (w * 7 + i) (by rw [show (7 : Int32) = nI 7 by decide, pk_mul, nI_add]) (by rw [show oln0 (9 + 1) = 84 by decide]; omega)) ?_
        refine r_iload4 dX2_spells_60 ?_
        refine rn_icmp_eq 67 dX2_spells_62 rfl (fun c62 => ?_) (fun c62 => ?_)
        · refine r_iinc3 _ dX2_spells_67 rfl rfl ?_
          refine rn_goto 20 dX2_spells_70 rfl ?_
          exact ih (i + 1) (by omega) (nI_1 i) (fun j hj => (Nat.lt_succ_iff_lt_or_eq.mp hj).elim (hall j) (fun z => by subst z; exact c62)) (by omega) rfl
        · refine rn_iconst (0) dX2_spells_65 (by decide) ?_
          refine rn_zret dX2_spells_66 rfl (by first | decide | exact nar_bI) (Nat.zero_le _) (Nat.zero_le _) ?_
          exact ⟨_, rfl, rfl, rfl, rfl, rfl, Or.inl rfl, fun z => absurd z (by decide), fun z => absurd (z i (by rw [show (7 : Int32) = nI 7 by decide, nI_leI (by decide) (by omega)] at c23; omega)) c62⟩
      · refine r_aload0 dX2_spells_31 ?_
        refine gf_X2_18 dX2_spells_32 rfl hR.1 hR.2.1 ?_
        refine r_aload0 dX2_spells_35 ?_
        refine gf_X2_28 dX2_spells_36 rfl hR.1 ?_
        refine r_iload3 dX2_spells_39 ?_
        refine rn_iadd dX2_spells_40 ?_
        refine rn_iald (s + i) dX2_spells_41 hR.2.2.1 (by rw [h5]; exact nI_add _ _) (by rw [nI_leI (by omega) (by omega)] at c28; omega) (by decide) ?_
        refine rn_goto 47 dX2_spells_42 rfl ?_
        refine rn_eqi (if i < q - s then b (s + i) else 32) (by rw [nI_leI (by omega) (by omega)] at c28; rw [if_pos (by omega)]; exact hT.2.2.1 _ (by omega)) ?_
        refine r_istore4 dX2_spells_47 rfl ?_
        refine rn_ldcS (i := 9) dX2_spells_49 (by decide) (fun g h => h.2.2.2.2.2.2.1.2.1) ?_
        refine r_iload1 dX2_spells_51 ?_
        refine rn_bipush (7) dX2_spells_52 (by decide) ?_
        refine rn_imul dX2_spells_54 ?_
        refine r_iload3 dX2_spells_55 ?_
        refine rn_iadd dX2_spells_56 ?_
        refine cpiO1 (j := 1) dX2_spells_57 ov_J0_charAt_5068e rfl ml_X2_110 rfl (by decide) rfl (Nat.zero_le _) (Nat.zero_le _) (Nat.zero_le _) (ct_charAt _ 1 rfl (by decide) (w * 7 + i) (by rw [show (7 : Int32) = nI 7 by decide, pk_mul, nI_add]) (by rw [show oln0 (9 + 1) = 84 by decide]; omega)) ?_
        refine r_iload4 dX2_spells_60 ?_
        refine rn_icmp_eq 67 dX2_spells_62 rfl (fun c62 => ?_) (fun c62 => ?_)
        · refine r_iinc3 _ dX2_spells_67 rfl rfl ?_
          refine rn_goto 20 dX2_spells_70 rfl ?_
          exact ih (i + 1) (by omega) (nI_1 i) (fun j hj => (Nat.lt_succ_iff_lt_or_eq.mp hj).elim (hall j) (fun z => by subst z; exact c62)) (by omega) rfl
        · refine rn_iconst (0) dX2_spells_65 (by decide) ?_
          refine rn_zret dX2_spells_66 rfl (by first | decide | exact nar_bI) (Nat.zero_le _) (Nat.zero_le _) ?_
          exact ⟨_, rfl, rfl, rfl, rfl, rfl, Or.inl rfl, fun z => absurd z (by decide), fun z => absurd (z i (by rw [show (7 : Int32) = nI 7 by decide, nI_leI (by decide) (by omega)] at c23; omega)) c62⟩
theorem ct_spells (d : Nat) (hR : ShR Γ rv) {b : Nat → Int32} {n s q w : Nat} (hT : TxR iv b n) (h5 : iv 16 5 = nI s) (h3 : iv 16 3 = nI q) (hsq : s ≤ q) (hqn : q ≤ n) (hle : ∀ j, s ≤ j → j < q → isLe (b j) = true) (hw : w < 12) {x : Int32} (hx : x = nI w) : Ct g l mX2_spells (d + 4) 0 0 [.ref 16, .int x] Γ iv rv lv (qCI Γ rv lv (fun z iv' => iv' = iv ∧ (z = 0 ∨ z = 1) ∧ (z = 1 ↔ wd b s q = wds.getD w []))) := by
  subst hx
  have hn160 : n ≤ 160 := hT.2.1
  have h35 : iv 16 3 - iv 16 5 = nI (q - s) := by rw [h3, h5, pk_sub hsq]
  refine Ct.of (by decide +kernel) (Nat.le_of_ble_eq_true rfl) (Nat.le_of_ble_eq_true rfl) ?_
  refine r_aload0 dX2_spells_0 ?_
  refine gf_X2_22 dX2_spells_1 rfl hR.1 ?_
  refine r_aload0 dX2_spells_4 ?_
  refine gf_X2_28 dX2_spells_5 rfl hR.1 ?_
  refine rn_isub dX2_spells_8 ?_
  refine r_istore2 dX2_spells_9 rfl ?_
  refine r_iload2 dX2_spells_10 ?_
  refine rn_bipush (7) dX2_spells_11 (by decide) ?_
  refine rn_icmp_lt 18 dX2_spells_13 rfl (fun c13 => ?_) (fun c13 => ?_)
  · refine rn_iconst (0) dX2_spells_18 (by decide) ?_
    refine r_istore3 dX2_spells_19 rfl ?_
    rw [h35, show (7 : Int32) = nI 7 by decide, nI_ltI (by omega) (by omega)] at c13
    have h := sp_loop (g := g) (l := l) (lv := lv) (d := d) hR hT h5 hsq hqn hw 9 0 (by omega) nI_0.symm (fun j hj => by omega) (by omega) (v4 := .retAddr 0) rfl
    simp only [sp_iff hw hsq c13 hle] at h
    rw [h35]
    exact h
  · refine rn_iconst (0) dX2_spells_16 (by decide) ?_
    refine rn_zret dX2_spells_17 rfl (by first | decide | exact nar_bI) (Nat.zero_le _) (Nat.zero_le _) ?_
    rw [h35, show (7 : Int32) = nI 7 by decide, nI_ltI (by omega) (by omega)] at c13
    exact ⟨_, rfl, rfl, rfl, rfl, rfl, Or.inl rfl, fun z => absurd z (by decide), fun z => absurd z (fun z => by have := (wds_len w hw).1; rw [← z, wd_len] at this; omega)⟩
/-- the word's code, as far as words up to w are known -/
def ww (l : List Int32) (w : Nat) : Nat := if wcode l < w then wcode l else 14
theorem ww_no {l : List Int32} {w : Nat} (hw : w < 12) (h : ¬ l = wds.getD w []) : ww l w = ww l (w + 1) := by
  have : wcode l ≠ w := fun z => h ((wcode_iff w hw l).mp z)
  unfold ww
  by_cases h1 : wcode l < w
  · rw [if_pos h1, if_pos (by omega)]
  · rw [if_neg h1, if_neg (by omega)]
theorem ww_yes {l : List Int32} {w : Nat} (hw : w < 12) (h : l = wds.getD w []) : w = ww l (w + 1) := by
  have : wcode l = w := (wcode_iff w hw l).mpr h
  unfold ww
  rw [if_pos (by omega), this]
theorem ww_12 {l : List Int32} : ww l 12 = wcode l := by
  unfold ww
  have := wcode_or l
  split <;> omega
theorem rw_words {d : Nat} {Q : Qt} (hR : ShR Γ rv) {b : Nat → Int32} {n s q : Nat} (hsq : s ≤ q) (hqn : q ≤ n) (hle : ∀ j, s ≤ j → j < q → isLe (b j) = true) : ∀ (k w : Nat) (iv : IV), 13 - w < k → TxR iv b n → iv 16 5 = nI s → iv 16 3 = nI q → ∀ {x : Int32}, x = nI w → iv 16 4 = nI (ww (wd b s q) w) → w ≤ 12 →
    (∀ iv', Off (fun a b => a = 16 ∧ b = 4) iv iv' → iv' 16 4 = nI (ww (wd b s q) 12) → ∀ {x}, Rn g l mX2_readWord (rmA (d + 5) 0 0) Q 0 0 72 [.ref 16, .int x] [] Γ iv' rv lv) → Rn g l mX2_readWord (rmA (d + 5) 0 0) Q 0 0 47 [.ref 16, .int x] [] Γ iv rv lv := by
  intro k
  induction k with
  | zero => intro w iv h; omega
  | succ k ih =>
    intro w iv hk hT h5 h3 x hx h4 hw kk
    subst hx
    refine r_iload1 dX2_readWord_47 ?_
    refine rn_bipush (12) dX2_readWord_48 (by decide) ?_
    refine rn_icmp_ge 72 dX2_readWord_50 rfl (fun c50 => ?_) (fun c50 => ?_)
    · rw [show (12 : Int32) = nI 12 by decide, nI_leI (by decide) (by omega)] at c50
      have : w = 12 := by omega
      subst this
      exact kk iv Off.refl h4
    · refine r_aload0 dX2_readWord_53 ?_
      refine r_iload1 dX2_readWord_54 ?_
      refine cciV1 dX2_readWord_55 ov_X2_spells rfl ml_X2_105 hR.1 rfl (Nat.zero_le _) (Nat.zero_le _) (Nat.zero_le _) (ct_spells _ hR (b := b) (s := s) (q := q) hT h5 h3 hsq hqn hle (w := w) (by rw [show (12 : Int32) = nI 12 by decide, nI_leI (by decide) (by omega)] at c50; omega) rfl) (fun x55 iv h55 => ?_)
      obtain ⟨rfl, hz1, hz2⟩ := h55
      refine rn_if_eq 66 dX2_readWord_58 rfl (fun c58 => ?_) (fun c58 => ?_)
      · refine r_iinc1 _ dX2_readWord_66 rfl rfl ?_
        refine rn_goto 47 dX2_readWord_69 rfl ?_
        rw [show (12 : Int32) = nI 12 by decide, nI_leI (by decide) (by omega)] at c50
        have hne : ¬ wd b s q = wds.getD w [] := fun z => absurd (hz2.mpr z) (by rw [c58]; decide)
        exact ih (w + 1) iv (by omega) hT h5 h3 (nI_1 w) (by rw [h4, ww_no (by omega) hne]) (by omega) kk
      · refine r_aload0 dX2_readWord_61 ?_
        refine r_iload1 dX2_readWord_62 ?_
        refine pf_X2_25 dX2_readWord_63 rfl hR.1 ?_
        refine r_iinc1 _ dX2_readWord_66 rfl rfl ?_
        refine rn_goto 47 dX2_readWord_69 rfl ?_
        rw [show (12 : Int32) = nI 12 by decide, nI_leI (by decide) (by omega)] at c50
        have he := hz2.mp (hz1.resolve_left c58)
        exact ih (w + 1) (up iv 16 4 (nI w)) (by omega) (hT.lx (off_up (by decide))) h5 h3 (nI_1 w) ((up_same _ _ _ _).trans (congrArg nI (ww_yes (by omega) he))) (by omega) (fun iv2 h1 h2 => kk iv2 ((off_up (by decide)).trans h1) h2)
theorem ct_readWord (d : Nat) (hR : ShR Γ rv) {b : Nat → Int32} {n s : Nat} (hT : TxR iv b n) (h3 : iv 16 3 = nI s) (h5 : iv 16 5 = nI s) (hs : s ≤ n) : Ct g l mX2_readWord (d + 5) 0 0 [.ref 16] Γ iv rv lv (qCV Γ rv lv (fun iv' => Off LxR iv iv' ∧ iv' 16 3 = nI (scanTo isLe b n s) ∧ iv' 16 5 = nI s ∧ iv' 16 4 = nI (wcode (wd b s (scanTo isLe b n s))))) := by
  refine Ct.of (by decide +kernel) (Nat.le_of_ble_eq_true rfl) (Nat.le_of_ble_eq_true rfl) ?_
  refine rw_scan (v1 := .retAddr 0) hR (n - s + 1) s iv (by omega) hT h3 hs (fun iv1 h1 h2 => ?_)
  have hT1 := hT.lx (h1.mono (fun a b z => by rw [z.1, z.2]; decide))
  have h5' : iv1 16 5 = nI s := (h1 16 5 (by decide)).trans h5
  have hle1 := scanTo_le (P := isLe) (b := b) (n := n) (p := s) hs
  refine r_aload0 dX2_readWord_39 ?_
  refine rn_bipush (14) dX2_readWord_40 (by decide) ?_
  refine pf_X2_25 dX2_readWord_42 rfl hR.1 ?_
  refine rn_iconst (0) dX2_readWord_45 (by decide) ?_
  refine r_istore1 dX2_readWord_46 rfl ?_
  refine rw_words hR hle1.1 hle1.2 (fun j a b => scanTo_all (n - s) s rfl j a b) 14 0 (up iv1 16 4 14) (by omega) (hT1.lx (off_up (by decide))) h5' h2 nI_0.symm (by unfold ww; rw [if_neg (by omega)]; rfl) (by omega) (fun iv2 h6 h7 {x} => ?_)
  refine rn_vret dX2_readWord_72 rfl (Nat.zero_le _) (Nat.zero_le _) ?_
  refine ⟨rfl, rfl, rfl, rfl, ((h1.mono (fun a b z => by rw [z.1, z.2]; decide)).trans (off_up (by decide))).trans (h6.mono (fun a b z => by rw [z.1, z.2]; decide)), (h6 16 3 (by decide)).trans h2, (h6 16 5 (by decide)).trans h5', ?_⟩
  rw [h7, ww_12]
set_option maxRecDepth 4000 in
theorem ct_readSign (d : Nat) (hR : ShR Γ rv) {x : Int32} {q s : Nat} (hx : x = nI q) (hq : q < 256) (h3 : iv 16 3 = nI s) : Ct g l mX2_readSign (d + 4) 0 0 [.ref 16, .int x] Γ iv rv lv (qCV Γ rv lv (fun iv' => Off LxR iv iv' ∧ iv' 16 3 = nI (s + 1) ∧ iv' 16 5 = iv 16 5 ∧ iv' 16 4 = nI (sgn x))) := by
  refine Ct.of (by decide +kernel) (Nat.le_of_ble_eq_true rfl) (Nat.le_of_ble_eq_true rfl) ?_
  subst hx
  obtain ⟨e1, e2⟩ := ixL_sgn q hq
  refine rn_ldcS (i := 11) dX2_readSign_0 (by decide) (fun g h => h.2.2.2.2.2.2.1.2.2) ?_
  refine r_iload1 dX2_readSign_2 ?_
  refine rn_i2c dX2_readSign_3 ?_
  refine rn_eqi (nI q) e2 ?_
  refine cpiO1 (j := 2) dX2_readSign_4 ov_J0_indexOf_0f7a4 rfl ml_X2_118 rfl (by decide) rfl (Nat.zero_le _) (Nat.zero_le _) (Nat.zero_le _) (ct_indexOf _ (nI q) (nI_pos (by omega)) (by rw [show (255 : Int32) = nI 255 by decide, nI_leI (by omega) (by decide)]; omega)) ?_
  refine rn_eqi _ e1 ?_
  refine r_istore2 dX2_readSign_7 rfl ?_
  refine r_aload0 dX2_readSign_8 ?_
  refine r_iload2 dX2_readSign_9 ?_
  refine rn_if_ge 18 dX2_readSign_10 rfl (fun c10 => ?_) (fun c10 => ?_)
  · refine rn_bipush (15) dX2_readSign_18 (by decide) ?_
    refine r_iload2 dX2_readSign_20 ?_
    refine rn_iadd dX2_readSign_21 ?_
    refine pf_X2_25 dX2_readSign_22 rfl hR.1 ?_
    refine r_aload0 dX2_readSign_25 ?_
    refine rn_dup dX2_readSign_26 rfl ?_
    refine gf_X2_22 dX2_readSign_27 rfl hR.1 ?_
    refine rn_iconst (1) dX2_readSign_30 (by decide) ?_
    refine rn_iadd dX2_readSign_31 ?_
    refine pf_X2_22 dX2_readSign_32 rfl hR.1 ?_
    refine rn_vret dX2_readSign_35 rfl (Nat.zero_le _) (Nat.zero_le _) ?_
    refine ⟨rfl, rfl, rfl, rfl, (off_up (by decide)).trans (off_up (by decide)), (up_same _ _ _ _).trans (by show iv 16 3 + 1 = _; rw [h3]; exact nI_1 s), rfl, ?_⟩
    show 15 + (if sgn (nI q) = 14 then -1 else nI (sgn (nI q) - 15)) = _
    split at c10
    · exact absurd c10 (by decide)
    · rename_i hne
      have := sgn_ne (nI q)
      rw [if_neg hne, show (15 : Int32) = nI 15 by decide, nI_add, show 15 + (sgn (nI q) - 15) = sgn (nI q) by omega]
  · refine rn_bipush (14) dX2_readSign_13 (by decide) ?_
    refine rn_goto 22 dX2_readSign_15 rfl ?_
    refine pf_X2_25 dX2_readSign_22 rfl hR.1 ?_
    refine r_aload0 dX2_readSign_25 ?_
    refine rn_dup dX2_readSign_26 rfl ?_
    refine gf_X2_22 dX2_readSign_27 rfl hR.1 ?_
    refine rn_iconst (1) dX2_readSign_30 (by decide) ?_
    refine rn_iadd dX2_readSign_31 ?_
    refine pf_X2_22 dX2_readSign_32 rfl hR.1 ?_
    refine rn_vret dX2_readSign_35 rfl (Nat.zero_le _) (Nat.zero_le _) ?_
    refine ⟨rfl, rfl, rfl, rfl, (off_up (by decide)).trans (off_up (by decide)), (up_same _ _ _ _).trans (by show iv 16 3 + 1 = _; rw [h3]; exact nI_1 s), rfl, ?_⟩
    split at c10
    · rename_i he
      rw [he]; rfl
    · have := sgn_le (nI q)
      exact absurd (nI_pos' (by omega)) c10
theorem byte_of {x : Int32} (h0 : 0 ≤ x) (h1 : x ≤ 255) : ∃ q, q < 256 ∧ x = nI q := by
  obtain ⟨j, h2, h3⟩ := nI_of2 (x := x) (M := 255) (n := 255) (by decide) (by rw [Int32.not_lt]; exact h0) h1
  exact ⟨j, by omega, h3⟩
theorem ct_advanceb (d : Nat) (hR : ShR Γ rv) (hf : ¬ iv 16 1 = -1) : Ct g l mX2_advance d 0 0 [.ref 16] Γ iv rv lv (qCV Γ rv lv (fun iv' => iv' = iv)) := by
  refine Ct.of (by decide +kernel) (Nat.le_of_ble_eq_true rfl) (Nat.le_of_ble_eq_true rfl) ?_
  refine r_aload0 dX2_advance_0 ?_
  refine gf_X2_15 dX2_advance_1 rfl hR.1 ?_
  refine rn_iconst (-1) dX2_advance_4 (by decide) ?_
  refine rn_icmp_eq 9 dX2_advance_5 rfl (fun h => absurd h hf) (fun _ => ?_)
  refine rn_vret dX2_advance_8 rfl (Nat.zero_le _) (Nat.zero_le _) ?_
  exact ⟨rfl, rfl, rfl, rfl, rfl⟩
theorem ct_advance (d : Nat) (hR : ShR Γ rv) {b : Nat → Int32} {n p : Nat} (hT : TxR iv b n) (hf : iv 16 1 = -1) (hp : iv 16 3 = nI p) (hpn : p ≤ n) : Ct g l mX2_advance (d + 6) 0 0 [.ref 16] Γ iv rv lv (qCV Γ rv lv (fun iv' => Off LxR iv iv' ∧ TokR iv' n (lexS b n p))) := by
  refine Ct.of (by decide +kernel) (Nat.le_of_ble_eq_true rfl) (Nat.le_of_ble_eq_true rfl) ?_
  refine r_aload0 dX2_advance_0 ?_
  refine gf_X2_15 dX2_advance_1 rfl hR.1 ?_
  refine rn_iconst (-1) dX2_advance_4 (by decide) ?_
  refine rn_icmp_eq 9 dX2_advance_5 rfl (fun _ => ?_) (fun h => absurd hf h)
  refine ra_skip (v1 := .retAddr 0) hR (n - p + 1) p iv (by omega) hT hp hpn (fun iv1 h1 h2 => ?_)
  have hT1 := hT.lx (h1.mono (fun a b z => by rw [z.1, z.2]; decide))
  have hm : Off LxR iv iv1 := h1.mono (fun a b z => by rw [z.1, z.2]; decide)
  have h0 := hT1.1
  have hn160 : n ≤ 160 := hT.2.1
  have hpn1 := (scanTo_le (P := isBl) (b := b) hpn).2
  generalize hs : scanTo isBl b n p = s at h2 hpn1
  refine r_aload0 dX2_advance_48 ?_
  refine r_aload0 dX2_advance_49 ?_
  refine gf_X2_22 dX2_advance_50 rfl hR.1 ?_
  refine pf_X2_28 dX2_advance_53 rfl hR.1 ?_
  refine r_aload0 dX2_advance_56 ?_
  refine gf_X2_22 dX2_advance_57 rfl hR.1 ?_
  refine r_aload0 dX2_advance_60 ?_
  refine gf_X2_9 dX2_advance_61 rfl hR.1 ?_
  refine rn_icmp_lt 74 dX2_advance_64 rfl (fun c64 => ?_) (fun c64 => ?_)
  · have hsn : ¬ n ≤ s := by
      have : iv1 16 3 < iv1 16 0 := c64
      rw [h0, h2, nI_ltI (by omega) (by omega)] at this
      omega
    refine r_aload0 dX2_advance_74 ?_
    refine gf_X2_18 dX2_advance_75 rfl hR.1 hR.2.1 ?_
    refine r_aload0 dX2_advance_78 ?_
    refine gf_X2_22 dX2_advance_79 rfl hR.1 ?_
    refine rn_iald s dX2_advance_82 hR.2.2.1 h2 (by omega) (by decide) ?_
    refine rn_eqi (b s) (hT1.2.2.1 s (by omega)) ?_
    refine r_istore1 dX2_advance_83 rfl ?_
    refine r_iload1 dX2_advance_84 ?_
    refine cpiS1 dX2_advance_85 os_X2_isDigit rfl ml_X2_90 (Nat.zero_le _) (Nat.zero_le _) (Nat.zero_le _) (ct_isDigit _ _) ?_
    refine rn_if_eq 98 dX2_advance_88 rfl (fun c88 => ?_) (fun c88 => ?_)
    · refine r_iload1 dX2_advance_98 ?_
      refine cpiS1 dX2_advance_99 os_X2_isLetter rfl ml_X2_96 (Nat.zero_le _) (Nat.zero_le _) (Nat.zero_le _) (ct_isLetterX _ _) ?_
      refine rn_if_eq 112 dX2_advance_102 rfl (fun c102 => ?_) (fun c102 => ?_)
      · refine r_aload0 dX2_advance_112 ?_
        obtain ⟨q, hq256, hq⟩ := byte_of (hT1.2.2.2 s (by omega)).1 (hT1.2.2.2 s (by omega)).2
        refine r_iload1 dX2_advance_113 ?_
        refine ccvV1 dX2_advance_114 ov_X2_readSign rfl ml_X2_102 hR.1 rfl (Nat.zero_le _) (Nat.zero_le _) (Nat.zero_le _) (ct_readSign (iv := up iv1 16 5 (iv1 16 3)) _ hR hq hq256 h2) (fun iv h114 => ?_)
        refine rn_vret dX2_advance_117 rfl (Nat.zero_le _) (Nat.zero_le _) ?_
        have e := lexS_sign hs hsn (bI_0.mp c88) (bI_0.mp c102)
        have hk := (lexS_ok (b := b) (n := n) (p := p) hpn).1
        refine ⟨rfl, rfl, rfl, rfl, (hm.trans (off_up (by decide))).trans h114.1, ?_⟩
        rw [e] at hk ⊢
        exact ⟨hk, h114.2.2.1.trans h2, h114.2.2.2, h114.2.1, fun z => absurd z (by have := sgn_ne (b s); show ¬ sgn (b s) = 12; omega)⟩
      · refine r_aload0 dX2_advance_105 ?_
        refine ccvV0 dX2_advance_106 ov_X2_readWord rfl ml_X2_99 hR.1 rfl (Nat.zero_le _) (Nat.zero_le _) (Nat.zero_le _) (ct_readWord (iv := up iv1 16 5 (iv1 16 3)) _ hR (hT1.lx (off_up (by decide))) h2 h2 hpn1) (fun iv h106 => ?_)
        refine rn_goto 117 dX2_advance_109 rfl ?_
        refine rn_vret dX2_advance_117 rfl (Nat.zero_le _) (Nat.zero_le _) ?_
        have cc := bI_1.mp (bI_or.resolve_left c102)
        have e := lexS_word hs hsn (bI_0.mp c88) cc
        have hk := (lexS_ok (b := b) (n := n) (p := p) hpn).1
        refine ⟨rfl, rfl, rfl, rfl, (hm.trans (off_up (by decide))).trans h106.1, ?_⟩
        rw [e] at hk ⊢
        exact ⟨hk, h106.2.2.1, h106.2.2.2, h106.2.1, fun z => absurd z (wcode_ne _).2.1⟩
    · refine r_aload0 dX2_advance_91 ?_
      refine ccvV0 dX2_advance_92 ov_X2_readNumber rfl ml_X2_93 hR.1 rfl (Nat.zero_le _) (Nat.zero_le _) (Nat.zero_le _) (ct_readNumber (iv := up iv1 16 5 (iv1 16 3)) _ hR (hT1.lx (off_up (by decide))) h2 h2 hpn1) (fun iv h92 => ?_)
      refine rn_goto 117 dX2_advance_95 rfl ?_
      refine rn_vret dX2_advance_117 rfl (Nat.zero_le _) (Nat.zero_le _) ?_
      have cc := bI_1.mp (bI_or.resolve_left c88)
      have e := lexS_num hs hsn cc
      have hk := (lexS_ok (b := b) (n := n) (p := p) hpn).1
      refine ⟨rfl, rfl, rfl, rfl, (hm.trans (off_up (by decide))).trans h92.1, ?_⟩
      rw [e] at hk ⊢
      exact ⟨hk, h92.2.2.2.1, h92.2.2.2.2, h92.2.1, fun _ => h92.2.2.1⟩
  · refine r_aload0 dX2_advance_67 ?_
    refine rn_bipush (13) dX2_advance_68 (by decide) ?_
    refine pf_X2_25 dX2_advance_70 rfl hR.1 ?_
    refine rn_vret dX2_advance_73 rfl (Nat.zero_le _) (Nat.zero_le _) ?_
    have c64 : ¬ iv1 16 3 < iv1 16 0 := c64
    rw [h0, h2, nI_ltI (by omega) (by omega)] at c64
    have e : s = n := by omega
    refine ⟨rfl, rfl, rfl, rfl, (hm.trans (off_up (by decide))).trans (off_up (by decide)), ?_⟩
    rw [lexS_end hs (by omega)]
    subst e
    exact ⟨⟨Nat.le_refl _, Nat.le_refl _, Nat.le_refl _, fun z => absurd rfl z, fun _ => ⟨rfl, rfl⟩⟩, h2, rfl, h2, fun z => absurd z (show ¬ (13 : Nat) = 12 by decide)⟩
end RLEX2
