/-! THE READER: readText -/
theorem ps_of {iv iv' : IV} {S : Nat → Nat → Prop} (h : Off PsR iv iv') (hs : ∀ a b, PsR a b → S a b) : Off S iv iv' := h.mono hs
def StageP (iv iv' : IV) (n k : Nat) (r : Nat ⊕ (List Int32 × Tk)) (S : List Int32) : Prop := match r with
  | .inl z => BdR iv' z
  | .inr q => GdR iv' n q.2 (S ++ q.1) ∧ iv' 19 (k + 1) = nI (S ++ q.1).length
section RTEXT
variable {g : GS} {l : Launch} {Γ : Sh} {rv : RV} {lv : LV} {b : Nat → Int32} {n : Nat}
theorem rt_stage (hR : ShR Γ rv) {D k : Nat} {Q : Qt} {t : Tk} {S : List Int32} {iv : IV} {r : Nat ⊕ (List Int32 × Tk)} (hk : k < 3) (hT : TxR iv b n) (hg : GdR iv n t S) (h22 : T22 t) (hS : S.length ≤ t.2.1) (hr : ptS b n (6 + k) t = some r)
    (kk : ∀ iv' x, x = nI (k + 1) → Off (fun a b => PsR a b ∨ (a = 19 ∧ b = k + 1)) iv iv' → StageP iv iv' n k r S → Rn g l mX2_readText (rmA (D + 61) 0 0) Q 0 0 21 [.ref 16, .int x] [] Γ iv' rv lv) : Rn g l mX2_readText (rmA (D + 61) 0 0) Q 0 0 21 [.ref 16, .int (nI k)] [] Γ iv rv lv := by
  unfold ptS at hr
  have h22 : t.1 ≤ 22 := h22
  refine r_iload1 dX2_readText_21 ?_
  refine rn_iconst (3) dX2_readText_22 (by decide) ?_
  refine rn_icmp_ge 64 dX2_readText_23 rfl (fun h => absurd h (by rw [show (3 : Int32) = nI 3 by decide, nI_leI (by decide) (by omega)]; omega)) (fun _ => ?_)
  refine r_aload0 dX2_readText_26 ?_
  refine rn_bipush (6) dX2_readText_27 (by decide) ?_
  refine r_iload1 dX2_readText_29 ?_
  refine rn_iadd dX2_readText_30 ?_
  refine rn_eqi (nI (6 + k)) (by rw [show (6 : Int32) = nI 6 by decide, nI_add]) ?_
  refine ccvV1 dX2_readText_31 ov_X2_expect rfl ml_X2_62 hR.1 rfl (Nat.zero_le _) (Nat.zero_le _) (Nat.zero_le _) (ct_expect0 (K := 6 + k) _ hR hT hg h22 (by omega)) (fun iv h31 => ?_)
  by_cases hK : t.1 = 6 + k
  · rw [if_pos hK] at h31
    rw [if_pos hK] at hr
    obtain ⟨r2, hr2, hr⟩ := pb_some hr
    have hst := tk_step (b := b) hg.2.1.1 (by omega)
    have hgd0 : GdR _ _ _ (S ++ []) := h31.2
    rw [List.append_nil] at hgd0
    refine r_aload0 dX2_readText_34 ?_
    refine rn_iconst (0) dX2_readText_35 (by decide) ?_
    refine rn_iconst (0) dX2_readText_36 (by decide) ?_
    refine ccvV2 dX2_readText_37 ov_X2_readLevel rfl ml_X2_66 hR.1 rfl (Nat.zero_le _) (Nat.zero_le _) (Nat.zero_le _) ((AR_all hR 2000 2000 (Nat.le_refl _)).2 0 0 (D + 60) _ S _ r2 (by omega) (by omega) (by unfold DR; omega) (hT.ps h31.1) hgd0 lexS_22 (by have := hst.2.2; show S.length ≤ (lexS b n t.2.2.2).2.1; omega) hr2 nI_0.symm nI_0.symm) (fun iv h37 => ?_)
    rcases r2 with z | q
    · dsimp only at hr
      subst hr
      have hb1 : BdR _ z := h37.2
      refine r_aload0 dX2_readText_40 ?_
      refine rn_bipush (17) dX2_readText_41 (by decide) ?_
      refine ccvV1 dX2_readText_43 ov_X2_expect rfl ml_X2_62 hR.1 rfl (Nat.zero_le _) (Nat.zero_le _) (Nat.zero_le _) (ct_expectb (K := 17) _ hR hb1 (by decide) (by decide)) (fun iv h43 => ?_)
      refine r_aload0 dX2_readText_46 ?_
      refine gf_X2_42 dX2_readText_47 rfl hR.1 hR.2.2.2.2.2.1 ?_
      refine r_iload1 dX2_readText_50 ?_
      refine rn_iconst (1) dX2_readText_51 (by decide) ?_
      refine rn_iadd dX2_readText_52 ?_
      refine r_aload0 dX2_readText_53 ?_
      refine gf_X2_37 dX2_readText_54 rfl hR.1 ?_
      refine rn_iast (k + 1) dX2_readText_57 hR.2.2.2.2.2.2 (nI_1 k) (by omega) (by decide) ?_
      refine r_iinc1 _ dX2_readText_58 rfl rfl ?_
      refine rn_goto 21 dX2_readText_61 rfl ?_
      exact kk _ _ (nI_1 k) ((ps_of ((h31.1.trans h37.1).trans h43.1) (fun a b z => Or.inl z)).trans (off_up (Or.inr ⟨rfl, rfl⟩))) ⟨h43.2.1, h43.2.2.1, h43.2.2.2.1, h43.2.2.2.2⟩
    · dsimp only at hr
      have hgd : GdR _ _ _ (S ++ q.1) := h37.2
      have hq22 := pz_22 2000 0 0 0 0 [] _ _ lexS_22 hr2
      refine r_aload0 dX2_readText_40 ?_
      refine rn_bipush (17) dX2_readText_41 (by decide) ?_
      refine ccvV1 dX2_readText_43 ov_X2_expect rfl ml_X2_62 hR.1 rfl (Nat.zero_le _) (Nat.zero_le _) (Nat.zero_le _) (ct_expect0 (K := 17) _ hR ((hT.ps h31.1).ps h37.1) hgd hq22 (by decide)) (fun iv h43 => ?_)
      by_cases h17 : q.2.1 = 17
      · rw [if_pos h17] at h43
        rw [if_pos h17] at hr
        cases hr
        have hge : GdR _ _ _ (S ++ q.1 ++ []) := h43.2
        rw [List.append_nil] at hge
        refine r_aload0 dX2_readText_46 ?_
        refine gf_X2_42 dX2_readText_47 rfl hR.1 hR.2.2.2.2.2.1 ?_
        refine r_iload1 dX2_readText_50 ?_
        refine rn_iconst (1) dX2_readText_51 (by decide) ?_
        refine rn_iadd dX2_readText_52 ?_
        refine r_aload0 dX2_readText_53 ?_
        refine gf_X2_37 dX2_readText_54 rfl hR.1 ?_
        refine rn_iast (k + 1) dX2_readText_57 hR.2.2.2.2.2.2 (nI_1 k) (by omega) (by decide) ?_
        refine r_iinc1 _ dX2_readText_58 rfl rfl ?_
        refine rn_goto 21 dX2_readText_61 rfl ?_
        exact kk _ _ (nI_1 k) ((ps_of ((h31.1.trans h37.1).trans h43.1) (fun a b z => Or.inl z)).trans (off_up (Or.inr ⟨rfl, rfl⟩))) ⟨⟨hge.1, hge.2.1, hge.2.2.1, hge.2.2.2⟩, (up_same _ _ _ _).trans hge.2.2.2.1⟩
      · rw [if_neg h17] at h43
        rw [if_neg h17] at hr
        cases hr
        have hb2 : BdR _ q.2.2.1 := h43.2
        refine r_aload0 dX2_readText_46 ?_
        refine gf_X2_42 dX2_readText_47 rfl hR.1 hR.2.2.2.2.2.1 ?_
        refine r_iload1 dX2_readText_50 ?_
        refine rn_iconst (1) dX2_readText_51 (by decide) ?_
        refine rn_iadd dX2_readText_52 ?_
        refine r_aload0 dX2_readText_53 ?_
        refine gf_X2_37 dX2_readText_54 rfl hR.1 ?_
        refine rn_iast (k + 1) dX2_readText_57 hR.2.2.2.2.2.2 (nI_1 k) (by omega) (by decide) ?_
        refine r_iinc1 _ dX2_readText_58 rfl rfl ?_
        refine rn_goto 21 dX2_readText_61 rfl ?_
        exact kk _ _ (nI_1 k) ((ps_of ((h31.1.trans h37.1).trans h43.1) (fun a b z => Or.inl z)).trans (off_up (Or.inr ⟨rfl, rfl⟩))) ⟨hb2.1, hb2.2.1, hb2.2.2.1, hb2.2.2.2⟩
  · rw [if_neg hK] at h31
    rw [if_neg hK] at hr
    cases hr
    have hb1 : BdR _ t.2.1 := h31.2
    refine r_aload0 dX2_readText_34 ?_
    refine rn_iconst (0) dX2_readText_35 (by decide) ?_
    refine rn_iconst (0) dX2_readText_36 (by decide) ?_
    refine ccvV2 dX2_readText_37 ov_X2_readLevel rfl ml_X2_66 hR.1 rfl (Nat.zero_le _) (Nat.zero_le _) (Nat.zero_le _) (ct_readLevelb hR 6 0 (D + 52) (by omega) (by omega) _ hb1 nI_0.symm) (fun iv h37 => ?_)
    refine r_aload0 dX2_readText_40 ?_
    refine rn_bipush (17) dX2_readText_41 (by decide) ?_
    refine ccvV1 dX2_readText_43 ov_X2_expect rfl ml_X2_62 hR.1 rfl (Nat.zero_le _) (Nat.zero_le _) (Nat.zero_le _) (ct_expectb (K := 17) _ hR h37.2 (by decide) (by decide)) (fun iv h43 => ?_)
    refine r_aload0 dX2_readText_46 ?_
    refine gf_X2_42 dX2_readText_47 rfl hR.1 hR.2.2.2.2.2.1 ?_
    refine r_iload1 dX2_readText_50 ?_
    refine rn_iconst (1) dX2_readText_51 (by decide) ?_
    refine rn_iadd dX2_readText_52 ?_
    refine r_aload0 dX2_readText_53 ?_
    refine gf_X2_37 dX2_readText_54 rfl hR.1 ?_
    refine rn_iast (k + 1) dX2_readText_57 hR.2.2.2.2.2.2 (nI_1 k) (by omega) (by decide) ?_
    refine r_iinc1 _ dX2_readText_58 rfl rfl ?_
    refine rn_goto 21 dX2_readText_61 rfl ?_
    exact kk _ _ (nI_1 k) ((ps_of ((h31.1.trans h37.1).trans h43.1) (fun a b z => Or.inl z)).trans (off_up (Or.inr ⟨rfl, rfl⟩))) ⟨h43.2.1, h43.2.2.1, h43.2.2.2.1, h43.2.2.2.2⟩
abbrev RtR (a b : Nat) : Prop := PsR a b ∨ (a = 19 ∧ 1 ≤ b ∧ b ≤ 3)
theorem rt_bad (hR : ShR Γ rv) {D z : Nat} {Q : Qt} {iv0 : IV} (kk : ∀ iv', Off RtR iv0 iv' → BdR iv' z → Q none Γ iv' rv lv) : ∀ (j k : Nat), 4 - k < j → k ≤ 3 → ∀ (iv : IV), BdR iv z → ∀ {x : Int32}, x = nI k → Off RtR iv0 iv → Rn g l mX2_readText (rmA (D + 61) 0 0) Q 0 0 21 [.ref 16, .int x] [] Γ iv rv lv := by
  intro j
  induction j with
  | zero => intro k h; omega
  | succ j ih =>
    intro k hj hk3' iv hb x hx hoff
    subst hx
    refine r_iload1 dX2_readText_21 ?_
    refine rn_iconst (3) dX2_readText_22 (by decide) ?_
    refine rn_icmp_ge 64 dX2_readText_23 rfl (fun c23 => ?_) (fun c23 => ?_)
    · refine r_aload0 dX2_readText_64 ?_
      refine gf_X2_25 dX2_readText_65 rfl hR.1 ?_
      refine rn_bipush (13) dX2_readText_68 (by decide) ?_
      refine rn_icmp_eq 77 dX2_readText_70 rfl (fun h => absurd h (by rw [hb.2.2.1]; decide)) (fun _ => ?_)
      refine r_aload0 dX2_readText_73 ?_
      refine ccvV0 dX2_readText_74 ov_X2_refuse rfl ml_X2_70 hR.1 rfl (Nat.zero_le _) (Nat.zero_le _) (Nat.zero_le _) (ct_refuseb _ hR hb) (fun iv h74 => ?_)
      refine rn_vret dX2_readText_77 rfl (Nat.zero_le _) (Nat.zero_le _) ?_
      exact kk _ (hoff.trans (ps_of h74.1 (fun a b z => Or.inl z))) h74.2
    · have hk3 : k < 3 := by
        rw [show (3 : Int32) = nI 3 by decide, nI_leI (by decide) (by omega)] at c23
        omega
      refine r_aload0 dX2_readText_26 ?_
      refine rn_bipush (6) dX2_readText_27 (by decide) ?_
      refine r_iload1 dX2_readText_29 ?_
      refine rn_iadd dX2_readText_30 ?_
      refine rn_eqi (nI (6 + k)) (by rw [show (6 : Int32) = nI 6 by decide, nI_add]) ?_
      refine ccvV1 dX2_readText_31 ov_X2_expect rfl ml_X2_62 hR.1 rfl (Nat.zero_le _) (Nat.zero_le _) (Nat.zero_le _) (ct_expectb (K := 6 + k) _ hR hb (by omega) (by omega)) (fun iv h31 => ?_)
      refine r_aload0 dX2_readText_34 ?_
      refine rn_iconst (0) dX2_readText_35 (by decide) ?_
      refine rn_iconst (0) dX2_readText_36 (by decide) ?_
      refine ccvV2 dX2_readText_37 ov_X2_readLevel rfl ml_X2_66 hR.1 rfl (Nat.zero_le _) (Nat.zero_le _) (Nat.zero_le _) (ct_readLevelb hR 6 0 (D + 52) (by omega) (by omega) _ h31.2 nI_0.symm) (fun iv h37 => ?_)
      refine r_aload0 dX2_readText_40 ?_
      refine rn_bipush (17) dX2_readText_41 (by decide) ?_
      refine ccvV1 dX2_readText_43 ov_X2_expect rfl ml_X2_62 hR.1 rfl (Nat.zero_le _) (Nat.zero_le _) (Nat.zero_le _) (ct_expectb (K := 17) _ hR h37.2 (by decide) (by decide)) (fun iv h43 => ?_)
      refine r_aload0 dX2_readText_46 ?_
      refine gf_X2_42 dX2_readText_47 rfl hR.1 hR.2.2.2.2.2.1 ?_
      refine r_iload1 dX2_readText_50 ?_
      refine rn_iconst (1) dX2_readText_51 (by decide) ?_
      refine rn_iadd dX2_readText_52 ?_
      refine r_aload0 dX2_readText_53 ?_
      refine gf_X2_37 dX2_readText_54 rfl hR.1 ?_
      refine rn_iast (k + 1) dX2_readText_57 hR.2.2.2.2.2.2 (nI_1 k) (by rw [show (3 : Int32) = nI 3 by decide, nI_leI (by decide) (by omega)] at c23; omega) (by decide) ?_
      refine r_iinc1 _ dX2_readText_58 rfl rfl ?_
      refine rn_goto 21 dX2_readText_61 rfl ?_
      exact ih (k + 1) (by omega) (by omega) (up iv 19 (k + 1) (iv 16 8)) ⟨h43.2.1, h43.2.2.1, h43.2.2.2.1, h43.2.2.2.2⟩ (nI_1 k) ((hoff.trans (ps_of ((h31.1.trans h37.1).trans h43.1) (fun a b z => Or.inl z))).trans (off_up (Or.inr ⟨rfl, by omega, by omega⟩)))
theorem rt_end (hR : ShR Γ rv) {D : Nat} {Q : Qt} {iv : IV} {t : Tk} {S : List Int32} (hg : GdR iv n t S) (hn : n ≤ 160) (h22 : t.1 ≤ 22) {x : Int32} (hx3 : x = nI 3) (kk1 : t.1 = 13 → Q none Γ iv rv lv) (kk2 : ¬ t.1 = 13 → ∀ iv', Off PsR iv iv' → BdR iv' t.2.1 → Q none Γ iv' rv lv) : Rn g l mX2_readText (rmA (D + 61) 0 0) Q 0 0 21 [.ref 16, .int x] [] Γ iv rv lv := by
  refine r_iload1 dX2_readText_21 ?_
  refine rn_iconst (3) dX2_readText_22 (by decide) ?_
  refine rn_icmp_ge 64 dX2_readText_23 rfl (fun _ => ?_) (fun h => absurd (by rw [hx3]; decide) h)
  refine r_aload0 dX2_readText_64 ?_
  refine gf_X2_25 dX2_readText_65 rfl hR.1 ?_
  refine rn_bipush (13) dX2_readText_68 (by decide) ?_
  refine rn_icmp_eq 77 dX2_readText_70 rfl (fun c70 => ?_) (fun c70 => ?_)
  · refine rn_vret dX2_readText_77 rfl (Nat.zero_le _) (Nat.zero_le _) ?_
    rw [hg.2.1.2.2.1, show (13 : Int32) = nI 13 by decide, nI_eq (by omega) (by decide)] at c70
    exact kk1 c70
  · refine r_aload0 dX2_readText_73 ?_
    refine ccvV0 dX2_readText_74 ov_X2_refuse rfl ml_X2_70 hR.1 rfl (Nat.zero_le _) (Nat.zero_le _) (Nat.zero_le _) (ct_refuse0 _ hR hg hn) (fun iv h74 => ?_)
    refine rn_vret dX2_readText_77 rfl (Nat.zero_le _) (Nat.zero_le _) ?_
    rw [hg.2.1.2.2.1, show (13 : Int32) = nI 13 by decide, nI_eq (by omega) (by decide)] at c70
    exact kk2 c70 _ h74.1 h74.2
theorem rt_tx {iv iv' : IV} {k : Nat} (h : TxR iv b n) (ho : Off (fun a b => PsR a b ∨ (a = 19 ∧ b = k)) iv iv') : TxR iv' b n :=
  ⟨(ho _ _ (by intro z; rcases z with z | z; exact absurd z (by decide); exact absurd z.1 (by decide))).trans h.1, h.2.1, fun j hj => (ho _ _ (fun z => by rcases z with (z | z) | z <;> simp at z)).trans (h.2.2.1 j hj), h.2.2.2⟩
theorem ptS_22 {K : Nat} {t : Tk} {q : List Int32 × Tk} (h : ptS b n K t = some (.inr q)) : T22 q.2 := by
  unfold ptS at h
  split at h
  · obtain ⟨s, t1, e1, e2⟩ := pb_inr h
    split at e2
    · cases e2; exact lexS_22
    · cases e2
  · cases h
theorem rn_lsq {M : MI} {R : Room} {Q : Qt} {k n pc : Nat} {ls st : List Value} {iv : IV} (ls' : List Value) (h : ls = ls') (kk : Rn g l M R Q k n pc ls' st Γ iv rv lv) : Rn g l M R Q k n pc ls st Γ iv rv lv := by subst h; exact kk
/-- behind readText() -/
def PoT (iv : IV) (r : Nat ⊕ (List Int32 × List Int32 × List Int32)) : Prop := match r with
  | .inl z => BdR iv z
  | .inr q => iv 16 1 = -1 ∧ StR iv (q.1 ++ q.2.1 ++ q.2.2) ∧ iv 19 1 = nI q.1.length ∧ iv 19 2 = nI (q.1.length + q.2.1.length) ∧ iv 19 3 = nI (q.1.length + q.2.1.length + q.2.2.length)
theorem ct_readText (D : Nat) (hR : ShR Γ rv) {iv : IV} (hT : TxR iv b n) {r : Nat ⊕ (List Int32 × List Int32 × List Int32)} (hr : txS b n = some r) : Ct g l mX2_readText (D + 61) 0 0 [.ref 16] Γ iv rv lv (qCV Γ rv lv (fun iv' => Off RtR iv iv' ∧ PoT iv' r)) := by
  have hT0 : TxR (up (up (up iv 16 3 0) 16 1 (-1)) 16 8 0) b n := ⟨hT.1, hT.2.1, hT.2.2.1, hT.2.2.2⟩
  obtain ⟨iv0, hiv0⟩ : ∃ z, z = iv := ⟨iv, rfl⟩
  unfold txS at hr
  obtain ⟨r1, hr1, hr⟩ := tb_some hr
  refine Ct.of (by decide +kernel) (Nat.le_of_ble_eq_true rfl) (Nat.le_of_ble_eq_true rfl) ?_
  refine r_aload0 dX2_readText_0 ?_
  refine rn_iconst (0) dX2_readText_1 (by decide) ?_
  refine pf_X2_22 dX2_readText_2 rfl hR.1 ?_
  refine r_aload0 dX2_readText_5 ?_
  refine rn_iconst (-1) dX2_readText_6 (by decide) ?_
  refine pf_X2_15 dX2_readText_7 rfl hR.1 ?_
  refine r_aload0 dX2_readText_10 ?_
  refine rn_iconst (0) dX2_readText_11 (by decide) ?_
  refine pf_X2_37 dX2_readText_12 rfl hR.1 ?_
  refine r_aload0 dX2_readText_15 ?_
  refine ccvV0 dX2_readText_16 ov_X2_advance rfl ml_X2_59 hR.1 rfl (Nat.zero_le _) (Nat.zero_le _) (Nat.zero_le _) (ct_advance (iv := (up (up (up iv 16 3 0) 16 1 (-1)) 16 8 0)) (p := 0) _ hR hT0 rfl rfl (Nat.zero_le _)) (fun iv h16 => ?_)
  refine rn_iconst (0) dX2_readText_19 (by decide) ?_
  refine r_istore1 dX2_readText_20 rfl ?_
  have hg0 : GdR _ n (lexS b n 0) [] := ⟨h16.1 16 1 (by decide), h16.2, lexS_v (Nat.zero_le _), (h16.1 16 8 (by decide)), Nat.zero_le _, fun j hj => absurd hj (Nat.not_lt_zero _)⟩
  have hT1 := hT0.lx h16.1
  have hb0 : Off RtR iv0 _ := hiv0 ▸ ((((off_up (by decide)).trans (off_up (by decide))).trans (off_up (by decide))).trans (ps_of (lxr_ps h16.1) (fun a b z => Or.inl z)))
  rw [← hiv0]
  refine rn_lsq [.ref 16, .int (nI 0)] rfl ?_
  refine rt_stage hR (by decide) hT1 hg0 lexS_22 (Nat.zero_le _) hr1 (fun iv1 x1 hx1 o1 p1 => ?_)
  have m1 : Off RtR iv0 iv1 := hb0.trans (o1.mono (fun a b z => z.elim Or.inl (fun y => Or.inr ⟨y.1, by omega, by omega⟩)))
  rcases r1 with z | q1
  · dsimp only at hr
    subst hr
    exact rt_bad hR (iv0 := iv0) (fun iv' a1 a2 => ⟨rfl, rfl, rfl, rfl, a1, a2⟩) 5 1 (by omega) (by omega) iv1 p1 hx1 m1
  dsimp only at hr
  obtain ⟨r2, hr2, hr⟩ := tb_some hr
  obtain ⟨hg1, hb1⟩ := p1
  have hT2 : TxR iv1 b n := rt_tx hT1 o1
  have g1 := (ptS_good (fun _ => 0) (lexS_ok (Nat.zero_le _)).1 (by decide) hr1).2
  subst hx1
  refine rt_stage hR (by decide) hT2 hg1 (ptS_22 hr1) (by have := g1.2.2.1; simp at *; omega) hr2 (fun iv2 x2 hx2 o2 p2 => ?_)
  have m2 : Off RtR iv0 iv2 := m1.trans (o2.mono (fun a b z => z.elim Or.inl (fun y => Or.inr ⟨y.1, by omega, by omega⟩)))
  rcases r2 with z | q2
  · dsimp only at hr
    subst hr
    exact rt_bad hR (iv0 := iv0) (fun iv' a1 a2 => ⟨rfl, rfl, rfl, rfl, a1, a2⟩) 5 2 (by omega) (by omega) iv2 p2 hx2 m2
  dsimp only at hr
  obtain ⟨r3, hr3, hr⟩ := tb_some hr
  obtain ⟨hg2, hb2⟩ := p2
  have hT3 : TxR iv2 b n := rt_tx hT2 o2
  have g2 := (ptS_good (fun _ => 0) g1.1 (by decide) hr2).2
  subst hx2
  refine rt_stage hR (by decide) hT3 hg2 (ptS_22 hr2) (by have := g1.2.2.1; have := g2.2.2.1; simp at *; omega) hr3 (fun iv3 x3 hx3 o3 p3 => ?_)
  have m3 : Off RtR iv0 iv3 := m2.trans (o3.mono (fun a b z => z.elim Or.inl (fun y => Or.inr ⟨y.1, by omega, by omega⟩)))
  rcases r3 with z | q3
  · dsimp only at hr
    subst hr
    exact rt_bad hR (iv0 := iv0) (fun iv' a1 a2 => ⟨rfl, rfl, rfl, rfl, a1, a2⟩) 5 3 (by omega) (by omega) iv3 p3 hx3 m3
  dsimp only at hr
  obtain ⟨hg3, hb3⟩ := p3
  have e1 : iv3 19 1 = nI q1.1.length := by
    rw [o3 19 1 (by decide), o2 19 1 (by decide), hb1]; rfl
  have e2 : iv3 19 2 = nI (q1.1.length + q2.1.length) := by
    rw [o3 19 2 (by decide), hb2]; simp
  have e3 : iv3 19 3 = nI (q1.1.length + q2.1.length + q3.1.length) := by
    rw [hb3]; simp [Nat.add_assoc]
  refine rt_end hR hg3 hT.2.1 (ptS_22 hr3) hx3 (fun h13 => ?_) (fun h13 iv' o4 p4 => ?_)
  · rw [if_pos h13] at hr
    cases hr
    exact ⟨rfl, rfl, rfl, rfl, m3, hg3.1, by have := hg3.2.2.2; rw [List.nil_append] at this; exact this, e1, e2, e3⟩
  · rw [if_neg h13] at hr
    cases hr
    exact ⟨rfl, rfl, rfl, rfl, m3.trans (o4.mono (fun a b z => Or.inl z)), p4⟩
end RTEXT
