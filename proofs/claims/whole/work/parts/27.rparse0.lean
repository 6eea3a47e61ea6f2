/-! THE READER: refuse, expect, put, opens, stepAt -/
abbrev PsR (a b : Nat) : Prop := (a = 16 ∧ (b = 1 ∨ (3 ≤ b ∧ b ≤ 6) ∨ b = 8)) ∨ a = 18
theorem lxr_ps {iv iv' : IV} (h : Off LxR iv iv') : Off PsR iv iv' := h.mono (fun a b z => Or.inl ⟨z.1, Or.inr (Or.inl z.2)⟩)
theorem TxR.ps {iv iv' : IV} {b : Nat → Int32} {n : Nat} (h : TxR iv b n) (ho : Off PsR iv iv') : TxR iv' b n :=
  ⟨(ho _ _ (by decide)).trans h.1, h.2.1, fun j hj => (ho _ _ (fun z => by rcases z with z | z <;> simp at z)).trans (h.2.2.1 j hj), h.2.2.2⟩
def StR (iv : IV) (S : List Int32) : Prop := iv 16 8 = nI S.length ∧ S.length ≤ 160 ∧ ∀ j, j < S.length → iv 18 j = S.getD j 0
theorem StR.lx {iv iv' : IV} {S : List Int32} (h : StR iv S) (ho : Off LxR iv iv') : StR iv' S := ⟨(ho _ _ (by decide)).trans h.1, h.2.1, fun j hj => (ho _ _ (fun z => by cases z.1)).trans (h.2.2 j hj)⟩
def GdR (iv : IV) (n : Nat) (t : Tk) (S : List Int32) : Prop := iv 16 1 = -1 ∧ TokR iv n t ∧ TkV t ∧ StR iv S
def BdR (iv : IV) (z : Nat) : Prop := iv 16 1 = nI z ∧ z ≤ 160 ∧ iv 16 4 = 14 ∧ ∃ c, c ≤ 160 ∧ iv 16 8 = nI c
def PoX (iv : IV) (n : Nat) (r : Nat ⊕ (List Int32 × Tk)) (S : List Int32) : Prop := match r with
  | .inl z => BdR iv z
  | .inr q => GdR iv n q.2 (S ++ q.1)
theorem nI_m1 {z : Nat} (h : z ≤ 160) : ¬ nI z = -1 := by
  have : ∀ z, z ≤ 160 → ¬ nI z = -1 := by decide +kernel
  exact this z h
theorem bdr_f {iv : IV} {z : Nat} (h : BdR iv z) : ¬ iv 16 1 = -1 := by rw [h.1]; exact nI_m1 h.2.1
theorem nI_cast {c : Nat} (h : c ≤ 160) {k : Nat} (hk : k ≤ 160) : nI c = nI k ↔ c = k := nI_eq (by omega) (by omega)
section RPARSE0
variable {g : GS} {l : Launch} {Γ : Sh} {iv : IV} {rv : RV} {lv : LV}
set_option maxRecDepth 4000 in
theorem ct_refuse (d : Nat) (hR : ShR Γ rv) : Ct g l mX2_refuse (d) 0 0 [.ref 16] Γ iv rv lv (qCV Γ rv lv (fun iv' => iv' = up (if iv 16 1 = -1 then up iv 16 1 (iv 16 5) else iv) 16 4 14)) := by
  refine Ct.of (by decide +kernel) (Nat.le_of_ble_eq_true rfl) (Nat.le_of_ble_eq_true rfl) ?_
  refine r_aload0 dX2_refuse_0 ?_
  refine gf_X2_15 dX2_refuse_1 rfl hR.1 ?_
  refine rn_iconst (-1) dX2_refuse_4 (by decide) ?_
  refine rn_icmp_ne 16 dX2_refuse_5 rfl (fun c5 => ?_) (fun c5 => ?_)
  · refine r_aload0 dX2_refuse_16 ?_
    refine rn_bipush (14) dX2_refuse_17 (by decide) ?_
    refine pf_X2_25 dX2_refuse_19 rfl hR.1 ?_
    refine rn_vret dX2_refuse_22 rfl (Nat.zero_le _) (Nat.zero_le _) ?_
    exact ⟨rfl, rfl, rfl, rfl, by rw [if_neg c5]⟩
  · refine r_aload0 dX2_refuse_8 ?_
    refine r_aload0 dX2_refuse_9 ?_
    refine gf_X2_28 dX2_refuse_10 rfl hR.1 ?_
    refine pf_X2_15 dX2_refuse_13 rfl hR.1 ?_
    refine r_aload0 dX2_refuse_16 ?_
    refine rn_bipush (14) dX2_refuse_17 (by decide) ?_
    refine pf_X2_25 dX2_refuse_19 rfl hR.1 ?_
    refine rn_vret dX2_refuse_22 rfl (Nat.zero_le _) (Nat.zero_le _) ?_
    exact ⟨rfl, rfl, rfl, rfl, by rw [if_pos c5]⟩
theorem ct_refuse0 (d : Nat) (hR : ShR Γ rv) {n : Nat} {t : Tk} {S : List Int32} (hg : GdR iv n t S) (hn : n ≤ 160) : Ct g l mX2_refuse d 0 0 [.ref 16] Γ iv rv lv (qCV Γ rv lv (fun iv' => Off PsR iv iv' ∧ BdR iv' t.2.1)) := by
  refine (ct_refuse d hR).mono ?_
  rintro r Γ2 iv2 rv2 lv2 ⟨rfl, rfl, rfl, rfl, h⟩
  rw [if_pos hg.1] at h
  subst h
  exact ⟨rfl, rfl, rfl, rfl, (off_up (by decide)).trans (off_up (by decide)), hg.2.1.2.1, by have := hg.2.1.1.1; omega, rfl, _, hg.2.2.2.2.1, hg.2.2.2.1⟩
theorem ct_refuseb (d : Nat) (hR : ShR Γ rv) {z : Nat} (hb : BdR iv z) : Ct g l mX2_refuse d 0 0 [.ref 16] Γ iv rv lv (qCV Γ rv lv (fun iv' => Off PsR iv iv' ∧ BdR iv' z)) := by
  refine (ct_refuse d hR).mono ?_
  rintro r Γ2 iv2 rv2 lv2 ⟨rfl, rfl, rfl, rfl, h⟩
  rw [if_neg (bdr_f hb)] at h
  subst h
  exact ⟨rfl, rfl, rfl, rfl, off_up (by decide), hb.1, hb.2.1, rfl, hb.2.2.2⟩
theorem ct_put (d : Nat) (hR : ShR Γ rv) {c : Nat} (hc : iv 16 8 = nI c) (hc160 : c ≤ 160) (x : Int32) : Ct g l mX2_put d 0 0 [.ref 16, .int x] Γ iv rv lv (qCV Γ rv lv (fun iv' => (c < 160 ∧ iv' = up (up iv 18 c x) 16 8 (iv 16 8 + 1)) ∨ (c = 160 ∧ iv' = iv))) := by
  refine Ct.of (by decide +kernel) (Nat.le_of_ble_eq_true rfl) (Nat.le_of_ble_eq_true rfl) ?_
  refine r_aload0 dX2_put_0 ?_
  refine gf_X2_37 dX2_put_1 rfl hR.1 ?_
  refine rn_sipush (160) dX2_put_4 (by decide) ?_
  refine rn_icmp_lt 11 dX2_put_7 rfl (fun c7 => ?_) (fun c7 => ?_)
  · refine r_aload0 dX2_put_11 ?_
    refine gf_X2_34 dX2_put_12 rfl hR.1 hR.2.2.2.1 ?_
    refine r_aload0 dX2_put_15 ?_
    refine gf_X2_37 dX2_put_16 rfl hR.1 ?_
    refine r_iload1 dX2_put_19 ?_
    refine rn_iast c dX2_put_20 hR.2.2.2.2.1 hc (by rw [hc, show (160 : Int32) = nI 160 by decide, nI_ltI (by omega) (by decide)] at c7; omega) (by decide) ?_
    refine r_aload0 dX2_put_21 ?_
    refine rn_dup dX2_put_22 rfl ?_
    refine gf_X2_37 dX2_put_23 rfl hR.1 ?_
    refine rn_iconst (1) dX2_put_26 (by decide) ?_
    refine rn_iadd dX2_put_27 ?_
    refine pf_X2_37 dX2_put_28 rfl hR.1 ?_
    refine rn_vret dX2_put_31 rfl (Nat.zero_le _) (Nat.zero_le _) ?_
    exact ⟨rfl, rfl, rfl, rfl, Or.inl ⟨by rw [hc, show (160 : Int32) = nI 160 by decide, nI_ltI (by omega) (by decide)] at c7; omega, rfl⟩⟩
  · refine rn_vret dX2_put_10 rfl (Nat.zero_le _) (Nat.zero_le _) ?_
    exact ⟨rfl, rfl, rfl, rfl, Or.inr ⟨by rw [hc, show (160 : Int32) = nI 160 by decide, nI_ltI (by omega) (by decide)] at c7; omega, rfl⟩⟩
theorem ct_put0 (d : Nat) (hR : ShR Γ rv) {n : Nat} {t : Tk} {S : List Int32} (hg : GdR iv n t S) (hs : S.length < 160) (x : Int32) : Ct g l mX2_put d 0 0 [.ref 16, .int x] Γ iv rv lv (qCV Γ rv lv (fun iv' => Off PsR iv iv' ∧ GdR iv' n t (S ++ [x]))) := by
  refine (ct_put d hR hg.2.2.2.1 hg.2.2.2.2.1 x).mono ?_
  rintro r Γ2 iv2 rv2 lv2 ⟨rfl, rfl, rfl, rfl, h⟩
  rcases h with ⟨-, h⟩ | ⟨h, -⟩
  · subst h
    refine ⟨rfl, rfl, rfl, rfl, (off_up (Or.inr rfl)).trans (off_up (by decide)), hg.1, hg.2.1, hg.2.2.1, ?_, by simp; omega, fun j hj => ?_⟩
    · rw [up_same, hg.2.2.2.1, List.length_append]; exact nI_1 _
    · rw [List.length_append] at hj
      have hj : j < S.length + 1 := hj
      rw [up_ne1 (by decide)]
      rcases Nat.lt_or_ge j S.length with z | z
      · rw [up_ne2 (by omega), hg.2.2.2.2.2 j z, List.getD_eq_getElem?_getD, List.getD_eq_getElem?_getD, List.getElem?_append_left z]
      · have : j = S.length := by omega
        subst this
        rw [up_same, List.getD_eq_getElem?_getD, List.getElem?_append_right (Nat.le_refl _)]
        simp
  · omega
theorem ct_putb (d : Nat) (hR : ShR Γ rv) {z : Nat} (hb : BdR iv z) (x : Int32) : Ct g l mX2_put d 0 0 [.ref 16, .int x] Γ iv rv lv (qCV Γ rv lv (fun iv' => Off PsR iv iv' ∧ BdR iv' z)) := by
  obtain ⟨h1, h2, h3, c, h4, h5⟩ := hb
  refine (ct_put d hR h5 h4 x).mono ?_
  rintro r Γ2 iv2 rv2 lv2 ⟨rfl, rfl, rfl, rfl, h⟩
  rcases h with ⟨hlt, h⟩ | ⟨-, h⟩
  · subst h
    exact ⟨rfl, rfl, rfl, rfl, (off_up (Or.inr rfl)).trans (off_up (by decide)), h1, h2, h3, c + 1, by omega, (up_same _ _ _ _).trans (by rw [h5]; exact nI_1 c)⟩
  · subst h
    exact ⟨rfl, rfl, rfl, rfl, Off.refl, h1, h2, h3, c, h4, h5⟩
theorem ct_adv0 (d : Nat) (hR : ShR Γ rv) {b : Nat → Int32} {n : Nat} (hT : TxR iv b n) {t : Tk} {S : List Int32} (hg : GdR iv n t S) : Ct g l mX2_advance (d + 6) 0 0 [.ref 16] Γ iv rv lv (qCV Γ rv lv (fun iv' => Off LxR iv iv' ∧ GdR iv' n (lexS b n t.2.2.2) S)) := by
  refine (ct_advance d hR hT hg.1 hg.2.1.2.2.2.1 hg.2.1.1.2.1).mono ?_
  rintro r Γ2 iv2 rv2 lv2 ⟨rfl, rfl, rfl, rfl, h1, h2⟩
  exact ⟨rfl, rfl, rfl, rfl, h1, (h1 _ _ (by decide)).trans hg.1, h2, lexS_v hg.2.1.1.2.1, hg.2.2.2.lx h1⟩
theorem ct_expect0 (d : Nat) (hR : ShR Γ rv) {b : Nat → Int32} {n : Nat} (hT : TxR iv b n) {t : Tk} {S : List Int32} (hg : GdR iv n t S) (ht : t.1 ≤ 22) {K : Nat} (hK : K < 30) : Ct g l mX2_expect (d + 7) 0 0 [.ref 16, .int (nI K)] Γ iv rv lv (qCV Γ rv lv (fun iv' => Off PsR iv iv' ∧ PoX iv' n (if t.1 = K then .inr ([], lexS b n t.2.2.2) else .inl t.2.1) S)) := by
  refine Ct.of (by decide +kernel) (Nat.le_of_ble_eq_true rfl) (Nat.le_of_ble_eq_true rfl) ?_
  refine r_aload0 dX2_expect_0 ?_
  refine gf_X2_25 dX2_expect_1 rfl hR.1 ?_
  refine r_iload1 dX2_expect_4 ?_
  refine rn_icmp_ne 15 dX2_expect_5 rfl (fun c5 => ?_) (fun c5 => ?_)
  · refine r_aload0 dX2_expect_15 ?_
    refine ccvV0 dX2_expect_16 ov_X2_refuse rfl ml_X2_70 hR.1 rfl (Nat.zero_le _) (Nat.zero_le _) (Nat.zero_le _) (ct_refuse0 _ hR hg hT.2.1) (fun iv h16 => ?_)
    refine rn_vret dX2_expect_19 rfl (Nat.zero_le _) (Nat.zero_le _) ?_
    have c5' := c5
    rw [hg.2.1.2.2.1, nI_eq (by omega) (by omega)] at c5'
    exact ⟨rfl, rfl, rfl, rfl, by rw [if_neg c5']; exact h16⟩
  · refine r_aload0 dX2_expect_8 ?_
    refine ccvV0 dX2_expect_9 ov_X2_advance rfl ml_X2_59 hR.1 rfl (Nat.zero_le _) (Nat.zero_le _) (Nat.zero_le _) (ct_adv0 _ hR hT hg) (fun iv h9 => ?_)
    refine rn_goto 19 dX2_expect_12 rfl ?_
    refine rn_vret dX2_expect_19 rfl (Nat.zero_le _) (Nat.zero_le _) ?_
    have c5' := c5
    rw [hg.2.1.2.2.1, nI_eq (by omega) (by omega)] at c5'
    exact ⟨rfl, rfl, rfl, rfl, by rw [if_pos c5']; exact ⟨lxr_ps h9.1, by show GdR _ _ _ (S ++ []); rw [List.append_nil]; exact h9.2⟩⟩
theorem ct_expectb (d : Nat) (hR : ShR Γ rv) {z : Nat} (hb : BdR iv z) {K : Nat} (hK : K < 30) (h14 : K ≠ 14) : Ct g l mX2_expect (d + 1) 0 0 [.ref 16, .int (nI K)] Γ iv rv lv (qCV Γ rv lv (fun iv' => Off PsR iv iv' ∧ BdR iv' z)) := by
  refine Ct.of (by decide +kernel) (Nat.le_of_ble_eq_true rfl) (Nat.le_of_ble_eq_true rfl) ?_
  refine r_aload0 dX2_expect_0 ?_
  refine gf_X2_25 dX2_expect_1 rfl hR.1 ?_
  refine r_iload1 dX2_expect_4 ?_
  refine rn_icmp_ne 15 dX2_expect_5 rfl (fun _ => ?_) (fun h => absurd h (by rw [hb.2.2.1, show (14 : Int32) = nI 14 by decide, nI_eq (by decide) (by omega)]; omega))
  refine r_aload0 dX2_expect_15 ?_
  refine ccvV0 dX2_expect_16 ov_X2_refuse rfl ml_X2_70 hR.1 rfl (Nat.zero_le _) (Nat.zero_le _) (Nat.zero_le _) (ct_refuseb _ hR hb) (fun iv h16 => ?_)
  refine rn_vret dX2_expect_19 rfl (Nat.zero_le _) (Nat.zero_le _) ?_
  exact ⟨rfl, rfl, rfl, rfl, h16⟩
theorem ct_ropens (d : Nat) (hR : ShR Γ rv) {b : Nat → Int32} {n : Nat} (hT : TxR iv b n) {t : Tk} {S : List Int32} (hg : GdR iv n t S) {op : Nat} (ho : op ≤ 5) : Ct g l mX2_opens (d + 7) 0 0 [.ref 16, .int (nI op)] Γ iv rv lv (qCI Γ rv lv (fun x iv' => (5 ≤ op ∧ x = 0 ∧ Off PsR iv iv' ∧ BdR iv' t.2.1) ∨ (op < 5 ∧ x = 1 ∧ Off PsR iv iv' ∧ GdR iv' n (lexS b n t.2.2.2) S))) := by
  refine Ct.of (by decide +kernel) (Nat.le_of_ble_eq_true rfl) (Nat.le_of_ble_eq_true rfl) ?_
  refine r_iload1 dX2_opens_0 ?_
  refine rn_iconst (5) dX2_opens_1 (by decide) ?_
  refine rn_icmp_lt 11 dX2_opens_2 rfl (fun c2 => ?_) (fun c2 => ?_)
  · refine r_aload0 dX2_opens_11 ?_
    refine ccvV0 dX2_opens_12 ov_X2_advance rfl ml_X2_59 hR.1 rfl (Nat.zero_le _) (Nat.zero_le _) (Nat.zero_le _) (ct_adv0 _ hR hT hg) (fun iv h12 => ?_)
    refine rn_iconst (1) dX2_opens_15 (by decide) ?_
    refine rn_zret dX2_opens_16 rfl (by first | decide | exact nar_bI) (Nat.zero_le _) (Nat.zero_le _) ?_
    rw [show (5 : Int32) = nI 5 by decide, nI_ltI (by omega) (by decide)] at c2
    exact ⟨_, rfl, rfl, rfl, rfl, Or.inr ⟨c2, rfl, lxr_ps h12.1, h12.2⟩⟩
  · refine r_aload0 dX2_opens_5 ?_
    refine ccvV0 dX2_opens_6 ov_X2_refuse rfl ml_X2_70 hR.1 rfl (Nat.zero_le _) (Nat.zero_le _) (Nat.zero_le _) (ct_refuse0 _ hR hg hT.2.1) (fun iv h6 => ?_)
    refine rn_iconst (0) dX2_opens_9 (by decide) ?_
    refine rn_zret dX2_opens_10 rfl (by first | decide | exact nar_bI) (Nat.zero_le _) (Nat.zero_le _) ?_
    rw [show (5 : Int32) = nI 5 by decide, nI_ltI (by omega) (by decide)] at c2
    exact ⟨_, rfl, rfl, rfl, rfl, Or.inl ⟨by omega, rfl, h6⟩⟩
theorem opAt_all : ∀ lev, lev < 6 → ∀ c, c < 23 → (opAt lev c = (if c = 9 then (if lev = 0 then -7 else 0) else if c = 10 then (if lev = 1 then -8 else 0) else if c = 21 then (if lev = 2 then -10 else 0) else if c = 22 then (if lev = 2 then -11 else 0) else if c = 18 then (if lev = 3 then -12 else 0) else if c = 19 then (if lev = 3 then -13 else 0) else if c = 20 then (if lev = 4 then -14 else 0) else 0)) := by decide +kernel
theorem ct_stepAt (d : Nat) (hR : ShR Γ rv) {c lev : Nat} (hc : c ≤ 22) (h4 : iv 16 4 = nI c) (hl : lev ≤ 5) : Ct g l mX2_stepAt d 0 0 [.ref 16, .int (nI lev)] Γ iv rv lv (qPI (opAt lev c) Γ iv rv lv) := by
  refine Ct.of (by decide +kernel) (Nat.le_of_ble_eq_true rfl) (Nat.le_of_ble_eq_true rfl) ?_
  rw [opAt_all lev (by omega) c (by omega)]
  refine r_aload0 dX2_stepAt_0 ?_
  refine gf_X2_25 dX2_stepAt_1 rfl hR.1 ?_
  refine rn_topi (fun x4 ex4 => ?_)
  by_cases e4_9 : x4 = 9
  · subst e4_9
    refine rn_tableIn 76 dX2_stepAt_4 (by decide) (by decide) rfl rfl ?_
    refine r_iload1 dX2_stepAt_76 ?_
    refine rn_if_ne 85 dX2_stepAt_77 rfl (fun c77 => ?_) (fun c77 => ?_)
    · refine rn_iconst (0) dX2_stepAt_85 (by decide) ?_
      refine rn_iret dX2_stepAt_86 rfl (Nat.zero_le _) (Nat.zero_le _) ?_
      have e : c = 9 := (nI_eq (by omega) (by decide)).mp (h4.symm.trans ex4.symm)
      refine ⟨congrArg (fun z => some (Value.int z)) ?_, rfl, rfl, rfl, rfl⟩
      rw [if_pos e]
      rw [show (0 : Int32) = nI 0 by decide, nI_eq (by omega) (by decide)] at c77
      rw [if_neg c77]
    · refine rn_bipush (-7) dX2_stepAt_80 (by decide) ?_
      refine rn_goto 86 dX2_stepAt_82 rfl ?_
      refine rn_iret dX2_stepAt_86 rfl (Nat.zero_le _) (Nat.zero_le _) ?_
      have e : c = 9 := (nI_eq (by omega) (by decide)).mp (h4.symm.trans ex4.symm)
      refine ⟨congrArg (fun z => some (Value.int z)) ?_, rfl, rfl, rfl, rfl⟩
      rw [if_pos e]
      rw [show (0 : Int32) = nI 0 by decide, nI_eq (by omega) (by decide)] at c77
      rw [if_pos c77]
  by_cases e4_10 : x4 = 10
  · subst e4_10
    refine rn_tableIn 87 dX2_stepAt_4 (by decide) (by decide) rfl rfl ?_
    refine r_iload1 dX2_stepAt_87 ?_
    refine rn_iconst (1) dX2_stepAt_88 (by decide) ?_
    refine rn_icmp_ne 97 dX2_stepAt_89 rfl (fun c89 => ?_) (fun c89 => ?_)
    · refine rn_iconst (0) dX2_stepAt_97 (by decide) ?_
      refine rn_iret dX2_stepAt_98 rfl (Nat.zero_le _) (Nat.zero_le _) ?_
      have e : c = 10 := (nI_eq (by omega) (by decide)).mp (h4.symm.trans ex4.symm)
      refine ⟨congrArg (fun z => some (Value.int z)) ?_, rfl, rfl, rfl, rfl⟩
      rw [if_neg (by omega), if_pos e]
      rw [show (1 : Int32) = nI 1 by decide, nI_eq (by omega) (by decide)] at c89
      rw [if_neg c89]
    · refine rn_bipush (-8) dX2_stepAt_92 (by decide) ?_
      refine rn_goto 98 dX2_stepAt_94 rfl ?_
      refine rn_iret dX2_stepAt_98 rfl (Nat.zero_le _) (Nat.zero_le _) ?_
      have e : c = 10 := (nI_eq (by omega) (by decide)).mp (h4.symm.trans ex4.symm)
      refine ⟨congrArg (fun z => some (Value.int z)) ?_, rfl, rfl, rfl, rfl⟩
      rw [if_neg (by omega), if_pos e]
      rw [show (1 : Int32) = nI 1 by decide, nI_eq (by omega) (by decide)] at c89
      rw [if_pos c89]
  by_cases e4_11 : x4 = 11
  · subst e4_11
    refine rn_tableIn 159 dX2_stepAt_4 (by decide) (by decide) rfl rfl ?_
    refine rn_iconst (0) dX2_stepAt_159 (by decide) ?_
    refine rn_iret dX2_stepAt_160 rfl (Nat.zero_le _) (Nat.zero_le _) ?_
    have e : c = 11 := (nI_eq (by omega) (by decide)).mp (h4.symm.trans ex4.symm)
    refine ⟨congrArg (fun z => some (Value.int z)) ?_, rfl, rfl, rfl, rfl⟩
    rw [if_neg (by omega), if_neg (by omega), if_neg (by omega), if_neg (by omega), if_neg (by omega), if_neg (by omega), if_neg (by omega)]
  by_cases e4_12 : x4 = 12
  · subst e4_12
    refine rn_tableIn 159 dX2_stepAt_4 (by decide) (by decide) rfl rfl ?_
    refine rn_iconst (0) dX2_stepAt_159 (by decide) ?_
    refine rn_iret dX2_stepAt_160 rfl (Nat.zero_le _) (Nat.zero_le _) ?_
    have e : c = 12 := (nI_eq (by omega) (by decide)).mp (h4.symm.trans ex4.symm)
    refine ⟨congrArg (fun z => some (Value.int z)) ?_, rfl, rfl, rfl, rfl⟩
    rw [if_neg (by omega), if_neg (by omega), if_neg (by omega), if_neg (by omega), if_neg (by omega), if_neg (by omega), if_neg (by omega)]
  by_cases e4_13 : x4 = 13
  · subst e4_13
    refine rn_tableIn 159 dX2_stepAt_4 (by decide) (by decide) rfl rfl ?_
    refine rn_iconst (0) dX2_stepAt_159 (by decide) ?_
    refine rn_iret dX2_stepAt_160 rfl (Nat.zero_le _) (Nat.zero_le _) ?_
    have e : c = 13 := (nI_eq (by omega) (by decide)).mp (h4.symm.trans ex4.symm)
    refine ⟨congrArg (fun z => some (Value.int z)) ?_, rfl, rfl, rfl, rfl⟩
    rw [if_neg (by omega), if_neg (by omega), if_neg (by omega), if_neg (by omega), if_neg (by omega), if_neg (by omega), if_neg (by omega)]
  by_cases e4_14 : x4 = 14
  · subst e4_14
    refine rn_tableIn 159 dX2_stepAt_4 (by decide) (by decide) rfl rfl ?_
    refine rn_iconst (0) dX2_stepAt_159 (by decide) ?_
    refine rn_iret dX2_stepAt_160 rfl (Nat.zero_le _) (Nat.zero_le _) ?_
    have e : c = 14 := (nI_eq (by omega) (by decide)).mp (h4.symm.trans ex4.symm)
    refine ⟨congrArg (fun z => some (Value.int z)) ?_, rfl, rfl, rfl, rfl⟩
    rw [if_neg (by omega), if_neg (by omega), if_neg (by omega), if_neg (by omega), if_neg (by omega), if_neg (by omega), if_neg (by omega)]
  by_cases e4_15 : x4 = 15
  · subst e4_15
    refine rn_tableIn 159 dX2_stepAt_4 (by decide) (by decide) rfl rfl ?_
    refine rn_iconst (0) dX2_stepAt_159 (by decide) ?_
    refine rn_iret dX2_stepAt_160 rfl (Nat.zero_le _) (Nat.zero_le _) ?_
    have e : c = 15 := (nI_eq (by omega) (by decide)).mp (h4.symm.trans ex4.symm)
    refine ⟨congrArg (fun z => some (Value.int z)) ?_, rfl, rfl, rfl, rfl⟩
    rw [if_neg (by omega), if_neg (by omega), if_neg (by omega), if_neg (by omega), if_neg (by omega), if_neg (by omega), if_neg (by omega)]
  by_cases e4_16 : x4 = 16
  · subst e4_16
    refine rn_tableIn 159 dX2_stepAt_4 (by decide) (by decide) rfl rfl ?_
    refine rn_iconst (0) dX2_stepAt_159 (by decide) ?_
    refine rn_iret dX2_stepAt_160 rfl (Nat.zero_le _) (Nat.zero_le _) ?_
    have e : c = 16 := (nI_eq (by omega) (by decide)).mp (h4.symm.trans ex4.symm)
    refine ⟨congrArg (fun z => some (Value.int z)) ?_, rfl, rfl, rfl, rfl⟩
    rw [if_neg (by omega), if_neg (by omega), if_neg (by omega), if_neg (by omega), if_neg (by omega), if_neg (by omega), if_neg (by omega)]
  by_cases e4_17 : x4 = 17
  · subst e4_17
    refine rn_tableIn 159 dX2_stepAt_4 (by decide) (by decide) rfl rfl ?_
    refine rn_iconst (0) dX2_stepAt_159 (by decide) ?_
    refine rn_iret dX2_stepAt_160 rfl (Nat.zero_le _) (Nat.zero_le _) ?_
    have e : c = 17 := (nI_eq (by omega) (by decide)).mp (h4.symm.trans ex4.symm)
    refine ⟨congrArg (fun z => some (Value.int z)) ?_, rfl, rfl, rfl, rfl⟩
    rw [if_neg (by omega), if_neg (by omega), if_neg (by omega), if_neg (by omega), if_neg (by omega), if_neg (by omega), if_neg (by omega)]
  by_cases e4_18 : x4 = 18
  · subst e4_18
    refine rn_tableIn 123 dX2_stepAt_4 (by decide) (by decide) rfl rfl ?_
    refine r_iload1 dX2_stepAt_123 ?_
    refine rn_iconst (3) dX2_stepAt_124 (by decide) ?_
    refine rn_icmp_ne 133 dX2_stepAt_125 rfl (fun c125 => ?_) (fun c125 => ?_)
    · refine rn_iconst (0) dX2_stepAt_133 (by decide) ?_
      refine rn_iret dX2_stepAt_134 rfl (Nat.zero_le _) (Nat.zero_le _) ?_
      have e : c = 18 := (nI_eq (by omega) (by decide)).mp (h4.symm.trans ex4.symm)
      refine ⟨congrArg (fun z => some (Value.int z)) ?_, rfl, rfl, rfl, rfl⟩
      rw [if_neg (by omega), if_neg (by omega), if_neg (by omega), if_neg (by omega), if_pos e]
      rw [show (3 : Int32) = nI 3 by decide, nI_eq (by omega) (by decide)] at c125
      rw [if_neg c125]
    · refine rn_bipush (-12) dX2_stepAt_128 (by decide) ?_
      refine rn_goto 134 dX2_stepAt_130 rfl ?_
      refine rn_iret dX2_stepAt_134 rfl (Nat.zero_le _) (Nat.zero_le _) ?_
      have e : c = 18 := (nI_eq (by omega) (by decide)).mp (h4.symm.trans ex4.symm)
      refine ⟨congrArg (fun z => some (Value.int z)) ?_, rfl, rfl, rfl, rfl⟩
      rw [if_neg (by omega), if_neg (by omega), if_neg (by omega), if_neg (by omega), if_pos e]
      rw [show (3 : Int32) = nI 3 by decide, nI_eq (by omega) (by decide)] at c125
      rw [if_pos c125]
  by_cases e4_19 : x4 = 19
  · subst e4_19
    refine rn_tableIn 135 dX2_stepAt_4 (by decide) (by decide) rfl rfl ?_
    refine r_iload1 dX2_stepAt_135 ?_
    refine rn_iconst (3) dX2_stepAt_136 (by decide) ?_
    refine rn_icmp_ne 145 dX2_stepAt_137 rfl (fun c137 => ?_) (fun c137 => ?_)
    · refine rn_iconst (0) dX2_stepAt_145 (by decide) ?_
      refine rn_iret dX2_stepAt_146 rfl (Nat.zero_le _) (Nat.zero_le _) ?_
      have e : c = 19 := (nI_eq (by omega) (by decide)).mp (h4.symm.trans ex4.symm)
      refine ⟨congrArg (fun z => some (Value.int z)) ?_, rfl, rfl, rfl, rfl⟩
      rw [if_neg (by omega), if_neg (by omega), if_neg (by omega), if_neg (by omega), if_neg (by omega), if_pos e]
      rw [show (3 : Int32) = nI 3 by decide, nI_eq (by omega) (by decide)] at c137
      rw [if_neg c137]
    · refine rn_bipush (-13) dX2_stepAt_140 (by decide) ?_
      refine rn_goto 146 dX2_stepAt_142 rfl ?_
      refine rn_iret dX2_stepAt_146 rfl (Nat.zero_le _) (Nat.zero_le _) ?_
      have e : c = 19 := (nI_eq (by omega) (by decide)).mp (h4.symm.trans ex4.symm)
      refine ⟨congrArg (fun z => some (Value.int z)) ?_, rfl, rfl, rfl, rfl⟩
      rw [if_neg (by omega), if_neg (by omega), if_neg (by omega), if_neg (by omega), if_neg (by omega), if_pos e]
      rw [show (3 : Int32) = nI 3 by decide, nI_eq (by omega) (by decide)] at c137
      rw [if_pos c137]
  by_cases e4_20 : x4 = 20
  · subst e4_20
    refine rn_tableIn 147 dX2_stepAt_4 (by decide) (by decide) rfl rfl ?_
    refine r_iload1 dX2_stepAt_147 ?_
    refine rn_iconst (4) dX2_stepAt_148 (by decide) ?_
    refine rn_icmp_ne 157 dX2_stepAt_149 rfl (fun c149 => ?_) (fun c149 => ?_)
    · refine rn_iconst (0) dX2_stepAt_157 (by decide) ?_
      refine rn_iret dX2_stepAt_158 rfl (Nat.zero_le _) (Nat.zero_le _) ?_
      have e : c = 20 := (nI_eq (by omega) (by decide)).mp (h4.symm.trans ex4.symm)
      refine ⟨congrArg (fun z => some (Value.int z)) ?_, rfl, rfl, rfl, rfl⟩
      rw [if_neg (by omega), if_neg (by omega), if_neg (by omega), if_neg (by omega), if_neg (by omega), if_neg (by omega), if_pos e]
      rw [show (4 : Int32) = nI 4 by decide, nI_eq (by omega) (by decide)] at c149
      rw [if_neg c149]
    · refine rn_bipush (-14) dX2_stepAt_152 (by decide) ?_
      refine rn_goto 158 dX2_stepAt_154 rfl ?_
      refine rn_iret dX2_stepAt_158 rfl (Nat.zero_le _) (Nat.zero_le _) ?_
      have e : c = 20 := (nI_eq (by omega) (by decide)).mp (h4.symm.trans ex4.symm)
      refine ⟨congrArg (fun z => some (Value.int z)) ?_, rfl, rfl, rfl, rfl⟩
      rw [if_neg (by omega), if_neg (by omega), if_neg (by omega), if_neg (by omega), if_neg (by omega), if_neg (by omega), if_pos e]
      rw [show (4 : Int32) = nI 4 by decide, nI_eq (by omega) (by decide)] at c149
      rw [if_pos c149]
  by_cases e4_21 : x4 = 21
  · subst e4_21
    refine rn_tableIn 99 dX2_stepAt_4 (by decide) (by decide) rfl rfl ?_
    refine r_iload1 dX2_stepAt_99 ?_
    refine rn_iconst (2) dX2_stepAt_100 (by decide) ?_
    refine rn_icmp_ne 109 dX2_stepAt_101 rfl (fun c101 => ?_) (fun c101 => ?_)
    · refine rn_iconst (0) dX2_stepAt_109 (by decide) ?_
      refine rn_iret dX2_stepAt_110 rfl (Nat.zero_le _) (Nat.zero_le _) ?_
      have e : c = 21 := (nI_eq (by omega) (by decide)).mp (h4.symm.trans ex4.symm)
      refine ⟨congrArg (fun z => some (Value.int z)) ?_, rfl, rfl, rfl, rfl⟩
      rw [if_neg (by omega), if_neg (by omega), if_pos e]
      rw [show (2 : Int32) = nI 2 by decide, nI_eq (by omega) (by decide)] at c101
      rw [if_neg c101]
    · refine rn_bipush (-10) dX2_stepAt_104 (by decide) ?_
      refine rn_goto 110 dX2_stepAt_106 rfl ?_
      refine rn_iret dX2_stepAt_110 rfl (Nat.zero_le _) (Nat.zero_le _) ?_
      have e : c = 21 := (nI_eq (by omega) (by decide)).mp (h4.symm.trans ex4.symm)
      refine ⟨congrArg (fun z => some (Value.int z)) ?_, rfl, rfl, rfl, rfl⟩
      rw [if_neg (by omega), if_neg (by omega), if_pos e]
      rw [show (2 : Int32) = nI 2 by decide, nI_eq (by omega) (by decide)] at c101
      rw [if_pos c101]
  by_cases e4_22 : x4 = 22
  · subst e4_22
    refine rn_tableIn 111 dX2_stepAt_4 (by decide) (by decide) rfl rfl ?_
    refine r_iload1 dX2_stepAt_111 ?_
    refine rn_iconst (2) dX2_stepAt_112 (by decide) ?_
    refine rn_icmp_ne 121 dX2_stepAt_113 rfl (fun c113 => ?_) (fun c113 => ?_)
    · refine rn_iconst (0) dX2_stepAt_121 (by decide) ?_
      refine rn_iret dX2_stepAt_122 rfl (Nat.zero_le _) (Nat.zero_le _) ?_
      have e : c = 22 := (nI_eq (by omega) (by decide)).mp (h4.symm.trans ex4.symm)
      refine ⟨congrArg (fun z => some (Value.int z)) ?_, rfl, rfl, rfl, rfl⟩
      rw [if_neg (by omega), if_neg (by omega), if_neg (by omega), if_pos e]
      rw [show (2 : Int32) = nI 2 by decide, nI_eq (by omega) (by decide)] at c113
      rw [if_neg c113]
    · refine rn_bipush (-11) dX2_stepAt_116 (by decide) ?_
      refine rn_goto 122 dX2_stepAt_118 rfl ?_
      refine rn_iret dX2_stepAt_122 rfl (Nat.zero_le _) (Nat.zero_le _) ?_
      have e : c = 22 := (nI_eq (by omega) (by decide)).mp (h4.symm.trans ex4.symm)
      refine ⟨congrArg (fun z => some (Value.int z)) ?_, rfl, rfl, rfl, rfl⟩
      rw [if_neg (by omega), if_neg (by omega), if_neg (by omega), if_pos e]
      rw [show (2 : Int32) = nI 2 by decide, nI_eq (by omega) (by decide)] at c113
      rw [if_pos c113]
  refine rn_tableOut 159 dX2_stepAt_4 (by have z9 := lv_neT e4_9 (by decide : (9 : Int32).toInt = 9); have z10 := lv_neT e4_10 (by decide : (10 : Int32).toInt = 10); have z11 := lv_neT e4_11 (by decide : (11 : Int32).toInt = 11); have z12 := lv_neT e4_12 (by decide : (12 : Int32).toInt = 12); have z13 := lv_neT e4_13 (by decide : (13 : Int32).toInt = 13); have z14 := lv_neT e4_14 (by decide : (14 : Int32).toInt = 14); have z15 := lv_neT e4_15 (by decide : (15 : Int32).toInt = 15); have z16 := lv_neT e4_16 (by decide : (16 : Int32).toInt = 16); have z17 := lv_neT e4_17 (by decide : (17 : Int32).toInt = 17); have z18 := lv_neT e4_18 (by decide : (18 : Int32).toInt = 18); have z19 := lv_neT e4_19 (by decide : (19 : Int32).toInt = 19); have z20 := lv_neT e4_20 (by decide : (20 : Int32).toInt = 20); have z21 := lv_neT e4_21 (by decide : (21 : Int32).toInt = 21); have z22 := lv_neT e4_22 (by decide : (22 : Int32).toInt = 22); omega) rfl ?_
  refine rn_iconst (0) dX2_stepAt_159 (by decide) ?_
  refine rn_iret dX2_stepAt_160 rfl (Nat.zero_le _) (Nat.zero_le _) ?_
  have n9 : ¬ c = 9 := fun z => e4_9 (ex4.trans (h4.trans (by rw [z]; rfl)))
  have n10 : ¬ c = 10 := fun z => e4_10 (ex4.trans (h4.trans (by rw [z]; rfl)))
  have n18 : ¬ c = 18 := fun z => e4_18 (ex4.trans (h4.trans (by rw [z]; rfl)))
  have n19 : ¬ c = 19 := fun z => e4_19 (ex4.trans (h4.trans (by rw [z]; rfl)))
  have n20 : ¬ c = 20 := fun z => e4_20 (ex4.trans (h4.trans (by rw [z]; rfl)))
  have n21 : ¬ c = 21 := fun z => e4_21 (ex4.trans (h4.trans (by rw [z]; rfl)))
  have n22 : ¬ c = 22 := fun z => e4_22 (ex4.trans (h4.trans (by rw [z]; rfl)))
  refine ⟨congrArg (fun z => some (Value.int z)) ?_, rfl, rfl, rfl, rfl⟩
  rw [if_neg n9, if_neg n10, if_neg n21, if_neg n22, if_neg n18, if_neg n19, if_neg n20]
end RPARSE0
