/-! THE READER: readOne, readLevel -/
def DR (lev op : Nat) : Nat := 12 + 7 * (5 - op) + (6 - lev)
theorem lexS_22 {b : Nat → Int32} {n p : Nat} : (lexS b n p).1 ≤ 22 := by
  unfold lexS
  split
  · exact (by decide : (13 : Nat) ≤ 22)
  split
  · simp only; split <;> decide
  split
  · have := (wcode_ne (wd b (scanTo isBl b n p) (scanTo isLe b n (scanTo isBl b n p)))).2.2
    simp only; omega
  · exact sgn_le _
/-- tokens that a reading leaves behind are tokens of the text -/
def T22 (t : Tk) : Prop := t.1 ≤ 22
theorem pz_22 {b : Nat → Int32} {n : Nat} : ∀ f, (∀ m lev op c s0 t q, T22 t → pz b n f m lev op c s0 t = some (.inr q) → T22 q.2) := by
  intro f
  induction f with
  | zero => intro m lev op c s0 t q _ h; cases m <;> cases h
  | succ f ih =>
    intro m lev op c s0 t q ht h
    cases m with
    | zero =>
      unfold pz at h
      split at h
      · split at h
        · cases h; exact lexS_22
        split at h
        · cases h; exact lexS_22
        split at h
        · split at h
          · cases h
          obtain ⟨s, t1, e1, e2⟩ := pb_inr h
          cases e2
          exact ih 0 5 (op + 1) 0 [] _ (s, t1) lexS_22 e1
        split at h
        · split at h
          · cases h
          obtain ⟨s, t1, e1, e2⟩ := pb_inr h
          split at e2
          · cases e2; exact lexS_22
          · cases e2
        · cases h
      split at h
      · split at h
        · cases h
        obtain ⟨s, t1, e1, e2⟩ := pb_inr h
        cases e2
        exact ih 0 2 (op + 1) 0 [] _ (s, t1) lexS_22 e1
      · obtain ⟨s, t1, e1, e2⟩ := pb_inr h
        exact ih 1 lev op _ s t1 q (ih 0 (lev + 1) op 0 [] _ _ ht e1) e2
    | succ m =>
      unfold pz at h
      split at h
      · obtain ⟨s1, t1, e1, e2⟩ := pb_inr h
        exact ih 1 lev op _ _ t1 q (ih 0 (lev + 1) op 0 [] _ _ lexS_22 e1) e2
      · cases h; exact ht
theorem opAt_neg {lev c : Nat} : (0 ≤ opAt lev c) ↔ opAt lev c = 0 := by
  unfold opAt
  repeat' split
  all_goals decide
def ARL (g : GS) (l : Launch) (Γ : Sh) (rv : RV) (lv : LV) (b : Nat → Int32) (n f : Nat) : Prop := ∀ (lev op D : Nat) (t : Tk) (S : List Int32) (iv : IV) (r : Nat ⊕ (List Int32 × Tk)), lev ≤ 5 → op ≤ 5 → DR lev op ≤ D → TxR iv b n → GdR iv n t S → T22 t → S.length ≤ t.2.1 → pz b n f 0 lev op 0 [] t = some r →
    ∀ {x1 x2 : Int32}, x1 = nI lev → x2 = nI op → Ct g l mX2_readLevel D 0 0 [.ref 16, .int x1, .int x2] Γ iv rv lv (qCV Γ rv lv (fun iv' => Off PsR iv iv' ∧ PoX iv' n r S))
def ARO (g : GS) (l : Launch) (Γ : Sh) (rv : RV) (lv : LV) (b : Nat → Int32) (n f : Nat) : Prop := ∀ (op D : Nat) (t : Tk) (S : List Int32) (iv : IV) (r : Nat ⊕ (List Int32 × Tk)), op ≤ 5 → DR 6 op ≤ D → TxR iv b n → GdR iv n t S → T22 t → S.length ≤ t.2.1 → pz b n f 0 5 op 0 [] t = some r →
    ∀ {x2 : Int32}, x2 = nI op → Ct g l mX2_readOne D 0 0 [.ref 16, .int x2] Γ iv rv lv (qCV Γ rv lv (fun iv' => Off PsR iv iv' ∧ PoX iv' n r S))
section REXPR
variable {g : GS} {l : Launch} {Γ : Sh} {rv : RV} {lv : LV} {b : Nat → Int32} {n : Nat}
theorem ARO_step (hR : ShR Γ rv) {f : Nat} (ihO : ARO g l Γ rv lv b n f) (ihL : ARL g l Γ rv lv b n f) : ARO g l Γ rv lv b n (f + 1) := by
  intro op D t S iv r ho hD hT hg h22 hS hr x2 hx2
  subst hx2
  obtain ⟨D, rfl⟩ : ∃ D', D = D' + 9 := ⟨D - 9, by unfold DR at hD; omega⟩
  have h4 := hg.2.1.2.2.1
  have h22 : t.1 ≤ 22 := h22
  rw [pz5] at hr
  refine Ct.of (by decide +kernel) (Nat.le_of_ble_eq_true rfl) (Nat.le_of_ble_eq_true rfl) ?_
  refine r_aload0 dX2_readOne_0 ?_
  refine gf_X2_25 dX2_readOne_1 rfl hR.1 ?_
  refine rn_bipush (12) dX2_readOne_4 (by decide) ?_
  refine rn_icmp_ne 24 dX2_readOne_6 rfl (fun c6 => ?_) (fun c6 => ?_)
  · have n12 : ¬ t.1 = 12 := by
      rw [h4, show (12 : Int32) = nI 12 by decide, nI_eq (by omega) (by decide)] at c6
      exact c6
    rw [if_neg n12] at hr
    refine r_aload0 dX2_readOne_24 ?_
    refine gf_X2_25 dX2_readOne_25 rfl hR.1 ?_
    refine rn_iconst (5) dX2_readOne_28 (by decide) ?_
    refine rn_icmp_gt 49 dX2_readOne_29 rfl (fun c29 => ?_) (fun c29 => ?_)
    · have n5 : ¬ t.1 ≤ 5 := by
        rw [h4, show (5 : Int32) = nI 5 by decide, nI_ltI (by decide) (by omega)] at c29
        omega
      rw [if_neg n5] at hr
      refine r_aload0 dX2_readOne_49 ?_
      refine gf_X2_25 dX2_readOne_50 rfl hR.1 ?_
      refine rn_bipush (19) dX2_readOne_53 (by decide) ?_
      refine rn_icmp_ne 83 dX2_readOne_55 rfl (fun c55 => ?_) (fun c55 => ?_)
      · have n19 : ¬ t.1 = 19 := by
          rw [h4, show (19 : Int32) = nI 19 by decide, nI_eq (by omega) (by decide)] at c55
          exact c55
        rw [if_neg n19] at hr
        refine r_aload0 dX2_readOne_83 ?_
        refine gf_X2_25 dX2_readOne_84 rfl hR.1 ?_
        refine rn_bipush (15) dX2_readOne_87 (by decide) ?_
        refine rn_icmp_ne 118 dX2_readOne_89 rfl (fun c89 => ?_) (fun c89 => ?_)
        · have n15 : ¬ t.1 = 15 := by
            rw [h4, show (15 : Int32) = nI 15 by decide, nI_eq (by omega) (by decide)] at c89
            exact c89
          rw [if_neg n15] at hr
          cases hr
          refine r_aload0 dX2_readOne_118 ?_
          refine ccvV0 dX2_readOne_119 ov_X2_refuse rfl ml_X2_70 hR.1 rfl (Nat.zero_le _) (Nat.zero_le _) (Nat.zero_le _) (ct_refuse0 _ hR hg hT.2.1) (fun iv h119 => ?_)
          refine rn_vret dX2_readOne_122 rfl (Nat.zero_le _) (Nat.zero_le _) ?_
          exact ⟨rfl, rfl, rfl, rfl, h119⟩
        · have t15 : t.1 = 15 := by
            rw [h4, show (15 : Int32) = nI 15 by decide, nI_eq (by omega) (by decide)] at c89
            exact c89
          rw [if_pos t15] at hr
          refine r_aload0 dX2_readOne_92 ?_
          refine r_iload1 dX2_readOne_93 ?_
          refine cciV1 dX2_readOne_94 ov_X2_opens rfl ml_X2_76 hR.1 rfl (Nat.zero_le _) (Nat.zero_le _) (Nat.zero_le _) (ct_ropens _ hR hT hg ho) (fun x94 iv h94 => ?_)
          rcases h94 with ⟨q1, rfl, q2, q3⟩ | ⟨q1, rfl, q2, q3⟩
          · rw [if_pos q1] at hr
            cases hr
            refine rn_if_ne 101 dX2_readOne_97 rfl (fun h => absurd rfl h) (fun _ => ?_)
            refine rn_vret dX2_readOne_100 rfl (Nat.zero_le _) (Nat.zero_le _) ?_
            exact ⟨rfl, rfl, rfl, rfl, q2, q3⟩
          · rw [if_neg (by omega)] at hr
            obtain ⟨r1, hr1, hr⟩ := pb_some hr
            have hst := tk_step (b := b) hg.2.1.1 (by omega)
            refine rn_if_ne 101 dX2_readOne_97 rfl (fun _ => ?_) (fun h => absurd h (by decide))
            refine r_aload0 dX2_readOne_101 ?_
            refine rn_iconst (0) dX2_readOne_102 (by decide) ?_
            refine r_iload1 dX2_readOne_103 ?_
            refine rn_iconst (1) dX2_readOne_104 (by decide) ?_
            refine rn_iadd dX2_readOne_105 ?_
            refine ccvV2 dX2_readOne_106 ov_X2_readLevel rfl ml_X2_66 hR.1 rfl (Nat.zero_le _) (Nat.zero_le _) (Nat.zero_le _) (ihL 0 (op + 1) (D + 8) _ S _ r1 (by omega) (by omega) (by unfold DR at *; omega) (hT.ps q2) q3 lexS_22 (by have := hst.2.2; omega) hr1 nI_0.symm (nI_1 op)) (fun iv h106 => ?_)
            rcases r1 with z | q
            · dsimp only at hr
              subst hr
              refine r_aload0 dX2_readOne_109 ?_
              refine rn_bipush (16) dX2_readOne_110 (by decide) ?_
              refine ccvV1 dX2_readOne_112 ov_X2_expect rfl ml_X2_62 hR.1 rfl (Nat.zero_le _) (Nat.zero_le _) (Nat.zero_le _) (ct_expectb (K := 16) _ hR h106.2 (by decide) (by decide)) (fun iv h112 => ?_)
              refine rn_goto 122 dX2_readOne_115 rfl ?_
              refine rn_vret dX2_readOne_122 rfl (Nat.zero_le _) (Nat.zero_le _) ?_
              exact ⟨rfl, rfl, rfl, rfl, (q2.trans h106.1).trans h112.1, h112.2⟩
            · dsimp only at hr
              refine r_aload0 dX2_readOne_109 ?_
              refine rn_bipush (16) dX2_readOne_110 (by decide) ?_
              refine ccvV1 dX2_readOne_112 ov_X2_expect rfl ml_X2_62 hR.1 rfl (Nat.zero_le _) (Nat.zero_le _) (Nat.zero_le _) (ct_expect0 (K := 16) _ hR ((hT.ps q2).ps h106.1) h106.2 (pz_22 f 0 0 (op + 1) 0 [] _ _ lexS_22 hr1) (by decide)) (fun iv h112 => ?_)
              refine rn_goto 122 dX2_readOne_115 rfl ?_
              refine rn_vret dX2_readOne_122 rfl (Nat.zero_le _) (Nat.zero_le _) ?_
              refine ⟨rfl, rfl, rfl, rfl, (q2.trans h106.1).trans h112.1, ?_⟩
              have h9 := h112.2
              split at hr
              · rename_i h16
                rw [if_pos h16] at h9
                cases hr
                have h9 : GdR _ _ _ (S ++ q.1 ++ []) := h9
                rw [List.append_nil] at h9
                exact h9
              · rename_i h16
                rw [if_neg h16] at h9
                cases hr
                exact h9
      · have t19 : t.1 = 19 := by
          rw [h4, show (19 : Int32) = nI 19 by decide, nI_eq (by omega) (by decide)] at c55
          exact c55
        rw [if_pos t19] at hr
        refine r_aload0 dX2_readOne_58 ?_
        refine r_iload1 dX2_readOne_59 ?_
        refine cciV1 dX2_readOne_60 ov_X2_opens rfl ml_X2_76 hR.1 rfl (Nat.zero_le _) (Nat.zero_le _) (Nat.zero_le _) (ct_ropens _ hR hT hg ho) (fun x60 iv h60 => ?_)
        rcases h60 with ⟨q1, rfl, q2, q3⟩ | ⟨q1, rfl, q2, q3⟩
        · rw [if_pos q1] at hr
          cases hr
          refine rn_if_ne 67 dX2_readOne_63 rfl (fun h => absurd rfl h) (fun _ => ?_)
          refine rn_vret dX2_readOne_66 rfl (Nat.zero_le _) (Nat.zero_le _) ?_
          exact ⟨rfl, rfl, rfl, rfl, q2, q3⟩
        · rw [if_neg (by omega)] at hr
          obtain ⟨r1, hr1, hr⟩ := pb_some hr
          have hst := tk_step (b := b) hg.2.1.1 (by omega)
          refine rn_if_ne 67 dX2_readOne_63 rfl (fun _ => ?_) (fun h => absurd h (by decide))
          refine r_aload0 dX2_readOne_67 ?_
          refine r_iload1 dX2_readOne_68 ?_
          refine rn_iconst (1) dX2_readOne_69 (by decide) ?_
          refine rn_iadd dX2_readOne_70 ?_
          refine ccvV1 dX2_readOne_71 ov_X2_readOne rfl ml_X2_73 hR.1 rfl (Nat.zero_le _) (Nat.zero_le _) (Nat.zero_le _) (ihO (op + 1) (D + 8) _ S _ r1 (by omega) (by unfold DR at *; omega) (hT.ps q2) q3 lexS_22 (by have := hst.2.2; omega) hr1 (nI_1 op)) (fun iv h71 => ?_)
          rcases r1 with z | q
          · dsimp only at hr
            subst hr
            refine r_aload0 dX2_readOne_74 ?_
            refine rn_bipush (-15) dX2_readOne_75 (by decide) ?_
            refine ccvV1 dX2_readOne_77 ov_X2_put rfl ml_X2_80 hR.1 rfl (Nat.zero_le _) (Nat.zero_le _) (Nat.zero_le _) (ct_putb _ hR h71.2 _) (fun iv h77 => ?_)
            refine rn_goto 122 dX2_readOne_80 rfl ?_
            refine rn_vret dX2_readOne_122 rfl (Nat.zero_le _) (Nat.zero_le _) ?_
            exact ⟨rfl, rfl, rfl, rfl, (q2.trans h71.1).trans h77.1, h77.2⟩
          · dsimp only at hr
            cases hr
            have hgd := (pz_good (b := b) (n := n) (fun _ => 0) f).1 5 (op + 1) 0 [] _ _ (by omega) (by omega) hst.1 hst.2.1 hr1
            have hl2 := hgd.2.2.1
            have hl3 := hgd.1.1
            refine r_aload0 dX2_readOne_74 ?_
            refine rn_bipush (-15) dX2_readOne_75 (by decide) ?_
            refine ccvV1 dX2_readOne_77 ov_X2_put rfl ml_X2_80 hR.1 rfl (Nat.zero_le _) (Nat.zero_le _) (Nat.zero_le _) (ct_put0 _ hR h71.2 (by rw [List.length_append]; have := hT.2.1; have := hst.2.2; omega) _) (fun iv h77 => ?_)
            refine rn_goto 122 dX2_readOne_80 rfl ?_
            refine rn_vret dX2_readOne_122 rfl (Nat.zero_le _) (Nat.zero_le _) ?_
            exact ⟨rfl, rfl, rfl, rfl, (q2.trans h71.1).trans h77.1, by show GdR _ _ _ (S ++ (q.1 ++ [-15])); rw [← List.append_assoc]; exact h77.2⟩
    · have t5 : t.1 ≤ 5 := by
        rw [h4, show (5 : Int32) = nI 5 by decide, nI_ltI (by decide) (by omega)] at c29
        omega
      rw [if_pos t5] at hr
      cases hr
      have hlt := at_lt hg.2.1.1 (by omega)
      refine r_aload0 dX2_readOne_32 ?_
      refine rn_iconst (-1) dX2_readOne_33 (by decide) ?_
      refine r_aload0 dX2_readOne_34 ?_
      refine gf_X2_25 dX2_readOne_35 rfl hR.1 ?_
      refine rn_isub dX2_readOne_38 ?_
      refine rn_eqi (-1 - nI t.1) (by rw [h4]) ?_
      refine ccvV1 dX2_readOne_39 ov_X2_put rfl ml_X2_80 hR.1 rfl (Nat.zero_le _) (Nat.zero_le _) (Nat.zero_le _) (ct_put0 _ hR hg (by have := hT.2.1; omega) _) (fun iv h39 => ?_)
      refine r_aload0 dX2_readOne_42 ?_
      refine ccvV0 dX2_readOne_43 ov_X2_advance rfl ml_X2_59 hR.1 rfl (Nat.zero_le _) (Nat.zero_le _) (Nat.zero_le _) (ct_adv0 _ hR (hT.ps h39.1) h39.2) (fun iv h43 => ?_)
      refine rn_goto 122 dX2_readOne_46 rfl ?_
      refine rn_vret dX2_readOne_122 rfl (Nat.zero_le _) (Nat.zero_le _) ?_
      exact ⟨rfl, rfl, rfl, rfl, h39.1.trans (lxr_ps h43.1), h43.2⟩
  · have t12 : t.1 = 12 := by
      rw [h4, show (12 : Int32) = nI 12 by decide, nI_eq (by omega) (by decide)] at c6
      exact c6
    rw [if_pos t12] at hr
    cases hr
    have hlt := at_lt hg.2.1.1 (by omega)
    refine r_aload0 dX2_readOne_9 ?_
    refine r_aload0 dX2_readOne_10 ?_
    refine gf_X2_31 dX2_readOne_11 rfl hR.1 ?_
    refine rn_eqi t.2.2.1 (hg.2.1.2.2.2.2 t12) ?_
    refine ccvV1 dX2_readOne_14 ov_X2_put rfl ml_X2_80 hR.1 rfl (Nat.zero_le _) (Nat.zero_le _) (Nat.zero_le _) (ct_put0 _ hR hg (by have := hT.2.1; omega) _) (fun iv h14 => ?_)
    refine r_aload0 dX2_readOne_17 ?_
    refine ccvV0 dX2_readOne_18 ov_X2_advance rfl ml_X2_59 hR.1 rfl (Nat.zero_le _) (Nat.zero_le _) (Nat.zero_le _) (ct_adv0 _ hR (hT.ps h14.1) h14.2) (fun iv h18 => ?_)
    refine rn_goto 122 dX2_readOne_21 rfl ?_
    refine rn_vret dX2_readOne_122 rfl (Nat.zero_le _) (Nat.zero_le _) ?_
    exact ⟨rfl, rfl, rfl, rfl, h14.1.trans (lxr_ps h18.1), h18.2⟩
theorem ct_readOneb (d : Nat) (hR : ShR Γ rv) {iv : IV} {z : Nat} (hb : BdR iv z) (x : Int32) : Ct g l mX2_readOne (d + 1) 0 0 [.ref 16, .int x] Γ iv rv lv (qCV Γ rv lv (fun iv' => Off PsR iv iv' ∧ BdR iv' z)) := by
  refine Ct.of (by decide +kernel) (Nat.le_of_ble_eq_true rfl) (Nat.le_of_ble_eq_true rfl) ?_
  refine r_aload0 dX2_readOne_0 ?_
  refine gf_X2_25 dX2_readOne_1 rfl hR.1 ?_
  refine rn_bipush (12) dX2_readOne_4 (by decide) ?_
  refine rn_icmp_ne 24 dX2_readOne_6 rfl (fun _ => ?_) (fun h => absurd h (by rw [hb.2.2.1]; decide))
  refine r_aload0 dX2_readOne_24 ?_
  refine gf_X2_25 dX2_readOne_25 rfl hR.1 ?_
  refine rn_iconst (5) dX2_readOne_28 (by decide) ?_
  refine rn_icmp_gt 49 dX2_readOne_29 rfl (fun _ => ?_) (fun h => absurd (by rw [hb.2.2.1]; decide) h)
  refine r_aload0 dX2_readOne_49 ?_
  refine gf_X2_25 dX2_readOne_50 rfl hR.1 ?_
  refine rn_bipush (19) dX2_readOne_53 (by decide) ?_
  refine rn_icmp_ne 83 dX2_readOne_55 rfl (fun _ => ?_) (fun h => absurd h (by rw [hb.2.2.1]; decide))
  refine r_aload0 dX2_readOne_83 ?_
  refine gf_X2_25 dX2_readOne_84 rfl hR.1 ?_
  refine rn_bipush (15) dX2_readOne_87 (by decide) ?_
  refine rn_icmp_ne 118 dX2_readOne_89 rfl (fun _ => ?_) (fun h => absurd h (by rw [hb.2.2.1]; decide))
  refine r_aload0 dX2_readOne_118 ?_
  refine ccvV0 dX2_readOne_119 ov_X2_refuse rfl ml_X2_70 hR.1 rfl (Nat.zero_le _) (Nat.zero_le _) (Nat.zero_le _) (ct_refuseb _ hR hb) (fun iv h119 => ?_)
  refine rn_vret dX2_readOne_122 rfl (Nat.zero_le _) (Nat.zero_le _) ?_
  exact ⟨rfl, rfl, rfl, rfl, h119⟩
theorem ct_readLevelb (hR : ShR Γ rv) : ∀ (k lev d : Nat), 5 - lev < k → lev ≤ 5 → ∀ (iv : IV) {z : Nat}, BdR iv z → ∀ {x x2 : Int32}, x = nI lev → Ct g l mX2_readLevel (d + k + 2) 0 0 [.ref 16, .int x, .int x2] Γ iv rv lv (qCV Γ rv lv (fun iv' => Off PsR iv iv' ∧ BdR iv' z)) := by
  intro k
  induction k with
  | zero => intro lev d h; omega
  | succ k ih =>
    intro lev d hk hl iv z hb x x2 hx
    subst hx
    rw [show d + (k + 1) + 2 = d + k + 2 + 1 by omega]
    refine Ct.of (by decide +kernel) (Nat.le_of_ble_eq_true rfl) (Nat.le_of_ble_eq_true rfl) ?_
    refine r_iload1 dX2_readLevel_0 ?_
    refine rn_iconst (4) dX2_readLevel_1 (by decide) ?_
    refine rn_icmp_le 11 dX2_readLevel_2 rfl (fun c2 => ?_) (fun c2 => ?_)
    · have hl4 : lev ≤ 4 := by
        rw [show (4 : Int32) = nI 4 by decide, nI_leI (by omega) (by decide)] at c2
        exact c2
      refine r_iload1 dX2_readLevel_11 ?_
      refine rn_iconst (2) dX2_readLevel_12 (by decide) ?_
      refine rn_icmp_ne 49 dX2_readLevel_13 rfl (fun c13 => ?_) (fun c13 => ?_)
      · refine r_aload0 dX2_readLevel_49 ?_
        refine r_iload1 dX2_readLevel_50 ?_
        refine rn_iconst (1) dX2_readLevel_51 (by decide) ?_
        refine rn_iadd dX2_readLevel_52 ?_
        refine r_iload2 dX2_readLevel_53 ?_
        refine ccvV2 dX2_readLevel_54 ov_X2_readLevel rfl ml_X2_66 hR.1 rfl (Nat.zero_le _) (Nat.zero_le _) (Nat.zero_le _) (ih (lev + 1) (d) (by omega) (by omega) _ hb (nI_1 lev)) (fun iv h54 => ?_)
        refine r_iload1 dX2_readLevel_57 ?_
        refine rn_iconst (2) dX2_readLevel_58 (by decide) ?_
        refine rn_icmp_ne 66 dX2_readLevel_59 rfl (fun c59 => ?_) (fun c59 => ?_)
        · refine rn_sipush (160) dX2_readLevel_66 (by decide) ?_
          refine r_istore3 dX2_readLevel_69 rfl ?_
          refine rn_iconst (0) dX2_readLevel_70 (by decide) ?_
          refine r_istore4 dX2_readLevel_71 rfl ?_
          refine r_iload4 dX2_readLevel_73 ?_
          refine r_iload3 dX2_readLevel_75 ?_
          refine rn_icmp_ge 118 dX2_readLevel_76 rfl (fun h => absurd h (by decide)) (fun _ => ?_)
          refine r_aload0 dX2_readLevel_79 ?_
          refine r_iload1 dX2_readLevel_80 ?_
          refine cpiV1 dX2_readLevel_81 ov_X2_stepAt rfl ml_X2_83 hR.1 rfl (Nat.zero_le _) (Nat.zero_le _) (Nat.zero_le _) (ct_stepAt (c := 14) _ hR (by decide) h54.2.2.2.1 (by omega)) ?_
          refine rn_if_ge 118 dX2_readLevel_84 rfl (fun _ => ?_) (fun h => absurd (by rw [show opAt lev 14 = 0 by unfold opAt; simp]; decide) h)
          refine rn_vret dX2_readLevel_118 rfl (Nat.zero_le _) (Nat.zero_le _) ?_
          exact ⟨rfl, rfl, rfl, rfl, h54⟩
        · refine rn_iconst (1) dX2_readLevel_62 (by decide) ?_
          refine rn_goto 69 dX2_readLevel_63 rfl ?_
          refine r_istore3 dX2_readLevel_69 rfl ?_
          refine rn_iconst (0) dX2_readLevel_70 (by decide) ?_
          refine r_istore4 dX2_readLevel_71 rfl ?_
          refine r_iload4 dX2_readLevel_73 ?_
          refine r_iload3 dX2_readLevel_75 ?_
          refine rn_icmp_ge 118 dX2_readLevel_76 rfl (fun h => absurd h (by decide)) (fun _ => ?_)
          refine r_aload0 dX2_readLevel_79 ?_
          refine r_iload1 dX2_readLevel_80 ?_
          refine cpiV1 dX2_readLevel_81 ov_X2_stepAt rfl ml_X2_83 hR.1 rfl (Nat.zero_le _) (Nat.zero_le _) (Nat.zero_le _) (ct_stepAt (c := 14) _ hR (by decide) h54.2.2.2.1 (by omega)) ?_
          refine rn_if_ge 118 dX2_readLevel_84 rfl (fun _ => ?_) (fun h => absurd (by rw [show opAt lev 14 = 0 by unfold opAt; simp]; decide) h)
          refine rn_vret dX2_readLevel_118 rfl (Nat.zero_le _) (Nat.zero_le _) ?_
          exact ⟨rfl, rfl, rfl, rfl, h54⟩
      · refine r_aload0 dX2_readLevel_16 ?_
        refine gf_X2_25 dX2_readLevel_17 rfl hR.1 ?_
        refine rn_bipush (11) dX2_readLevel_20 (by decide) ?_
        refine rn_icmp_ne 49 dX2_readLevel_22 rfl (fun _ => ?_) (fun h => absurd h (by rw [hb.2.2.1]; decide))
        refine r_aload0 dX2_readLevel_49 ?_
        refine r_iload1 dX2_readLevel_50 ?_
        refine rn_iconst (1) dX2_readLevel_51 (by decide) ?_
        refine rn_iadd dX2_readLevel_52 ?_
        refine r_iload2 dX2_readLevel_53 ?_
        refine ccvV2 dX2_readLevel_54 ov_X2_readLevel rfl ml_X2_66 hR.1 rfl (Nat.zero_le _) (Nat.zero_le _) (Nat.zero_le _) (ih (lev + 1) (d) (by omega) (by omega) _ hb (nI_1 lev)) (fun iv h54 => ?_)
        refine r_iload1 dX2_readLevel_57 ?_
        refine rn_iconst (2) dX2_readLevel_58 (by decide) ?_
        refine rn_icmp_ne 66 dX2_readLevel_59 rfl (fun c59 => ?_) (fun c59 => ?_)
        · refine rn_sipush (160) dX2_readLevel_66 (by decide) ?_
          refine r_istore3 dX2_readLevel_69 rfl ?_
          refine rn_iconst (0) dX2_readLevel_70 (by decide) ?_
          refine r_istore4 dX2_readLevel_71 rfl ?_
          refine r_iload4 dX2_readLevel_73 ?_
          refine r_iload3 dX2_readLevel_75 ?_
          refine rn_icmp_ge 118 dX2_readLevel_76 rfl (fun h => absurd h (by decide)) (fun _ => ?_)
          refine r_aload0 dX2_readLevel_79 ?_
          refine r_iload1 dX2_readLevel_80 ?_
          refine cpiV1 dX2_readLevel_81 ov_X2_stepAt rfl ml_X2_83 hR.1 rfl (Nat.zero_le _) (Nat.zero_le _) (Nat.zero_le _) (ct_stepAt (c := 14) _ hR (by decide) h54.2.2.2.1 (by omega)) ?_
          refine rn_if_ge 118 dX2_readLevel_84 rfl (fun _ => ?_) (fun h => absurd (by rw [show opAt lev 14 = 0 by unfold opAt; simp]; decide) h)
          refine rn_vret dX2_readLevel_118 rfl (Nat.zero_le _) (Nat.zero_le _) ?_
          exact ⟨rfl, rfl, rfl, rfl, h54⟩
        · refine rn_iconst (1) dX2_readLevel_62 (by decide) ?_
          refine rn_goto 69 dX2_readLevel_63 rfl ?_
          refine r_istore3 dX2_readLevel_69 rfl ?_
          refine rn_iconst (0) dX2_readLevel_70 (by decide) ?_
          refine r_istore4 dX2_readLevel_71 rfl ?_
          refine r_iload4 dX2_readLevel_73 ?_
          refine r_iload3 dX2_readLevel_75 ?_
          refine rn_icmp_ge 118 dX2_readLevel_76 rfl (fun h => absurd h (by decide)) (fun _ => ?_)
          refine r_aload0 dX2_readLevel_79 ?_
          refine r_iload1 dX2_readLevel_80 ?_
          refine cpiV1 dX2_readLevel_81 ov_X2_stepAt rfl ml_X2_83 hR.1 rfl (Nat.zero_le _) (Nat.zero_le _) (Nat.zero_le _) (ct_stepAt (c := 14) _ hR (by decide) h54.2.2.2.1 (by omega)) ?_
          refine rn_if_ge 118 dX2_readLevel_84 rfl (fun _ => ?_) (fun h => absurd (by rw [show opAt lev 14 = 0 by unfold opAt; simp]; decide) h)
          refine rn_vret dX2_readLevel_118 rfl (Nat.zero_le _) (Nat.zero_le _) ?_
          exact ⟨rfl, rfl, rfl, rfl, h54⟩
    · have hl4 : lev = 5 := by
        rw [show (4 : Int32) = nI 4 by decide, nI_leI (by omega) (by decide)] at c2
        omega
      refine r_aload0 dX2_readLevel_5 ?_
      refine r_iload2 dX2_readLevel_6 ?_
      refine ccvV1 dX2_readLevel_7 ov_X2_readOne rfl ml_X2_73 hR.1 rfl (Nat.zero_le _) (Nat.zero_le _) (Nat.zero_le _) (ct_readOneb _ hR hb _) (fun iv h7 => ?_)
      refine rn_vret dX2_readLevel_10 rfl (Nat.zero_le _) (Nat.zero_le _) ?_
      exact ⟨rfl, rfl, rfl, rfl, h7⟩
theorem RLb {D lev z : Nat} {iv0 iv : IV} {S : List Int32} (hR : ShR Γ rv) (hl : lev ≤ 4) (hoff : Off PsR iv0 iv) (hb : BdR iv z) {x2 x3 x4 : Int32} {v5 : Value} : Rn g l mX2_readLevel (rmA (D + 9) 0 0) (qCV Γ rv lv (fun iv' => Off PsR iv0 iv' ∧ PoX iv' n (.inl z) S)) 0 0 73 [.ref 16, .int (nI lev), .int x2, .int x3, .int x4, v5] [] Γ iv rv lv := by
  refine r_iload4 dX2_readLevel_73 ?_
  refine r_iload3 dX2_readLevel_75 ?_
  refine rn_icmp_ge 118 dX2_readLevel_76 rfl (fun c76 => ?_) (fun c76 => ?_)
  · refine rn_vret dX2_readLevel_118 rfl (Nat.zero_le _) (Nat.zero_le _) ?_
    exact ⟨rfl, rfl, rfl, rfl, hoff, hb⟩
  · refine r_aload0 dX2_readLevel_79 ?_
    refine r_iload1 dX2_readLevel_80 ?_
    refine cpiV1 dX2_readLevel_81 ov_X2_stepAt rfl ml_X2_83 hR.1 rfl (Nat.zero_le _) (Nat.zero_le _) (Nat.zero_le _) (ct_stepAt (c := 14) _ hR (by decide) hb.2.2.1 (by omega)) ?_
    refine rn_if_ge 118 dX2_readLevel_84 rfl (fun _ => ?_) (fun h => absurd (by rw [show opAt lev 14 = 0 by unfold opAt; simp]; decide) h)
    refine rn_vret dX2_readLevel_118 rfl (Nat.zero_le _) (Nat.zero_le _) ?_
    exact ⟨rfl, rfl, rfl, rfl, hoff, hb⟩
theorem RLM (hR : ShR Γ rv) {F : Nat} (hA : ∀ f', f' ≤ F → ARL g l Γ rv lv b n f') : ∀ f, f ≤ F + 1 → ∀ (lev op D k0 m0 : Nat) (S s S1 : List Int32) (t : Tk) (iv0 iv : IV) (r : Nat ⊕ (List Int32 × Tk)), lev ≤ 4 → op ≤ 5 → DR lev op ≤ D + 9 → TxR iv b n → GdR iv n t S1 → T22 t → S1.length ≤ t.2.1 → S1 = S ++ s → Off PsR iv0 iv → m0 ≤ 160 → k0 ≤ m0 → pz b n f 1 lev op (m0 - k0) s t = some r → ∀ {x4 : Int32}, x4 = nI k0 → ∀ {v5 : Value}, v5.category = 1 →
    Rn g l mX2_readLevel (rmA (D + 9) 0 0) (qCV Γ rv lv (fun iv' => Off PsR iv0 iv' ∧ PoX iv' n r S)) 0 0 73 [.ref 16, .int (nI lev), .int (nI op), .int (nI m0), .int x4, v5] [] Γ iv rv lv := by
  intro f
  induction f with
  | zero => intro _ lev op D k0 m0 S s S1 t iv0 iv r _ _ _ _ _ _ _ _ _ _ _ hr; cases hr
  | succ f ih =>
    intro hF lev op D k0 m0 S s S1 t iv0 iv r hl ho hD hT hg h22 hS hS1 hoff hm0 hk0 hr x4 hx4 v5 hv5
    subst hx4
    have h22 : t.1 ≤ 22 := h22
    refine r_iload4 dX2_readLevel_73 ?_
    refine r_iload3 dX2_readLevel_75 ?_
    refine rn_icmp_ge 118 dX2_readLevel_76 rfl (fun c76 => ?_) (fun c76 => ?_)
    · refine rn_vret dX2_readLevel_118 rfl (Nat.zero_le _) (Nat.zero_le _) ?_
      rw [pz1_end (fun z => by rw [nI_leI (by omega) (by omega)] at c76; omega)] at hr
      cases hr
      exact ⟨rfl, rfl, rfl, rfl, hoff, by show GdR _ _ _ (S ++ s); rw [← hS1]; exact hg⟩
    · have hcnt : 0 < m0 - k0 := by
        rw [nI_leI (by omega) (by omega)] at c76
        omega
      refine r_aload0 dX2_readLevel_79 ?_
      refine r_iload1 dX2_readLevel_80 ?_
      refine cpiV1 dX2_readLevel_81 ov_X2_stepAt rfl ml_X2_83 hR.1 rfl (Nat.zero_le _) (Nat.zero_le _) (Nat.zero_le _) (ct_stepAt _ hR h22 hg.2.1.2.2.1 (by omega)) ?_
      refine rn_if_ge 118 dX2_readLevel_84 rfl (fun c84 => ?_) (fun c84 => ?_)
      · refine rn_vret dX2_readLevel_118 rfl (Nat.zero_le _) (Nat.zero_le _) ?_
        rw [pz1_end (fun z => z.2 (opAt_neg.mp c84))] at hr
        cases hr
        exact ⟨rfl, rfl, rfl, rfl, hoff, by show GdR _ _ _ (S ++ s); rw [← hS1]; exact hg⟩
      · have hop : opAt lev t.1 ≠ 0 := fun z => c84 (by rw [z]; decide)
        have h13 := opAt_13 hop
        have hlt := at_lt hg.2.1.1 h13
        have hst := tk_step (b := b) hg.2.1.1 h13
        rw [pz1_go ⟨hcnt, hop⟩] at hr
        obtain ⟨r1, hr1, hr⟩ := pb_some hr
        refine r_aload0 dX2_readLevel_87 ?_
        refine r_iload1 dX2_readLevel_88 ?_
        refine cpiV1 dX2_readLevel_89 ov_X2_stepAt rfl ml_X2_83 hR.1 rfl (Nat.zero_le _) (Nat.zero_le _) (Nat.zero_le _) (ct_stepAt _ hR h22 hg.2.1.2.2.1 (by omega)) ?_
        refine r_istore5 dX2_readLevel_92 rfl ?_
        refine r_aload0 dX2_readLevel_94 ?_
        refine ccvV0 dX2_readLevel_95 ov_X2_advance rfl ml_X2_59 hR.1 rfl (Nat.zero_le _) (Nat.zero_le _) (Nat.zero_le _) (ct_adv0 _ hR hT hg) (fun iv h95 => ?_)
        refine r_aload0 dX2_readLevel_98 ?_
        refine r_iload1 dX2_readLevel_99 ?_
        refine rn_iconst (1) dX2_readLevel_100 (by decide) ?_
        refine rn_iadd dX2_readLevel_101 ?_
        refine r_iload2 dX2_readLevel_102 ?_
        refine ccvV2 dX2_readLevel_103 ov_X2_readLevel rfl ml_X2_66 hR.1 rfl (Nat.zero_le _) (Nat.zero_le _) (Nat.zero_le _) (hA f (by omega) (lev + 1) op (D + 8) _ S1 _ r1 (by omega) ho (by unfold DR at *; omega) (hT.lx h95.1) h95.2 lexS_22 (by have := hst.2.2; omega) hr1 (nI_1 lev) rfl) (fun iv h103 => ?_)
        rcases r1 with z | q
        · dsimp only at hr
          subst hr
          refine r_aload0 dX2_readLevel_106 ?_
          refine r_iload5 dX2_readLevel_107 ?_
          refine ccvV1 dX2_readLevel_109 ov_X2_put rfl ml_X2_80 hR.1 rfl (Nat.zero_le _) (Nat.zero_le _) (Nat.zero_le _) (ct_putb _ hR h103.2 _) (fun iv h109 => ?_)
          refine r_iinc4 _ dX2_readLevel_112 rfl rfl ?_
          refine rn_goto 73 dX2_readLevel_115 rfl ?_
          exact RLb hR (by omega) ((hoff.trans (lxr_ps h95.1)).trans h103.1 |>.trans h109.1) h109.2
        · dsimp only at hr
          have hgd := (pz_good (b := b) (n := n) (fun _ => 0) f).1 (lev + 1) op 0 [] _ _ (by omega) ho hst.1 hst.2.1 hr1
          have hl2 := hgd.2.2.1
          have hl3 := hgd.1.1
          refine r_aload0 dX2_readLevel_106 ?_
          refine r_iload5 dX2_readLevel_107 ?_
          refine ccvV1 dX2_readLevel_109 ov_X2_put rfl ml_X2_80 hR.1 rfl (Nat.zero_le _) (Nat.zero_le _) (Nat.zero_le _) (ct_put0 _ hR h103.2 (by rw [List.length_append]; have := hT.2.1; have := hst.2.2; omega) _) (fun iv h109 => ?_)
          refine r_iinc4 _ dX2_readLevel_112 rfl rfl ?_
          refine rn_goto 73 dX2_readLevel_115 rfl ?_
          have e1 : S ++ (s ++ q.1 ++ [opAt lev t.1]) = S1 ++ q.1 ++ [opAt lev t.1] := by rw [hS1]; simp
          refine ih (by omega) lev op D (k0 + 1) m0 S (s ++ q.1 ++ [opAt lev t.1]) (S1 ++ q.1 ++ [opAt lev t.1]) q.2 iv0 _ r hl ho hD (((hT.lx h95.1).ps h103.1).ps h109.1) h109.2 (pz_22 f 0 (lev + 1) op 0 [] _ _ lexS_22 hr1) ?_ e1.symm (((hoff.trans (lxr_ps h95.1)).trans h103.1).trans h109.1) hm0 (by omega) ?_ (nI_1 k0) rfl
          · rw [List.length_append, List.length_append]; have := hst.2.2; simp only [List.length_cons, List.length_nil] at *; omega
          · rw [show m0 - (k0 + 1) = m0 - k0 - 1 by omega]; exact hr
theorem ARL_step (hR : ShR Γ rv) {F : Nat} (hA : ∀ f', f' ≤ F → ARL g l Γ rv lv b n f') (hO : ARO g l Γ rv lv b n (F + 1)) : ARL g l Γ rv lv b n (F + 1) := by
  intro lev op D t S iv0 r hl ho hD hT hg h22 hS hr x1 x2 hx1 hx2
  subst hx1
  subst hx2
  obtain ⟨D, rfl⟩ : ∃ D', D = D' + 9 := ⟨D - 9, by unfold DR at hD; omega⟩
  have h4 := hg.2.1.2.2.1
  have h22' : t.1 ≤ 22 := h22
  refine Ct.of (by decide +kernel) (Nat.le_of_ble_eq_true rfl) (Nat.le_of_ble_eq_true rfl) ?_
  refine r_iload1 dX2_readLevel_0 ?_
  refine rn_iconst (4) dX2_readLevel_1 (by decide) ?_
  refine rn_icmp_le 11 dX2_readLevel_2 rfl (fun c2 => ?_) (fun c2 => ?_)
  · have hl4 : lev ≤ 4 := by
      rw [show (4 : Int32) = nI 4 by decide, nI_leI (by omega) (by decide)] at c2
      exact c2
    refine r_iload1 dX2_readLevel_11 ?_
    refine rn_iconst (2) dX2_readLevel_12 (by decide) ?_
    refine rn_icmp_ne 49 dX2_readLevel_13 rfl (fun c13 => ?_) (fun c13 => ?_)
    · have hne : ¬ (lev = 2 ∧ t.1 = 11) := fun z => c13 (by rw [z.1]; rfl)
      rw [pzl hl4 hne] at hr
      obtain ⟨r1, hr1, hr⟩ := pb_some hr
      refine r_aload0 dX2_readLevel_49 ?_
      refine r_iload1 dX2_readLevel_50 ?_
      refine rn_iconst (1) dX2_readLevel_51 (by decide) ?_
      refine rn_iadd dX2_readLevel_52 ?_
      refine r_iload2 dX2_readLevel_53 ?_
      refine ccvV2 dX2_readLevel_54 ov_X2_readLevel rfl ml_X2_66 hR.1 rfl (Nat.zero_le _) (Nat.zero_le _) (Nat.zero_le _) (hA F (Nat.le_refl _) (lev + 1) op (D + 8) t S _ r1 (by omega) ho (by unfold DR at *; omega) hT hg h22 hS hr1 (nI_1 lev) rfl) (fun iv h54 => ?_)
      refine r_iload1 dX2_readLevel_57 ?_
      refine rn_iconst (2) dX2_readLevel_58 (by decide) ?_
      refine rn_icmp_ne 66 dX2_readLevel_59 rfl (fun c59 => ?_) (fun c59 => ?_)
      · refine rn_sipush (160) dX2_readLevel_66 (by decide) ?_
        refine r_istore3 dX2_readLevel_69 rfl ?_
        refine rn_iconst (0) dX2_readLevel_70 (by decide) ?_
        refine r_istore4 dX2_readLevel_71 rfl ?_
        rcases r1 with z | q
        · dsimp only at hr
          subst hr
          exact RLb hR hl4 h54.1 h54.2
        · dsimp only at hr
          have hgd := (pz_good (b := b) (n := n) (fun _ => 0) F).1 (lev + 1) op 0 [] _ _ (by omega) ho hg.2.1.1 hg.2.2.1 hr1
          have hl2 := hgd.2.2.1
          rw [if_neg (fun z => c59 (by rw [z]; rfl))] at hr
          exact RLM hR hA F (by omega) lev op D 0 160 S q.1 _ q.2 iv0 _ r hl4 ho hD (hT.ps h54.1) h54.2 (pz_22 F 0 (lev + 1) op 0 [] _ _ h22 hr1) (by rw [List.length_append]; omega) rfl h54.1 (by decide) (Nat.zero_le _) hr nI_0.symm rfl
      · refine rn_iconst (1) dX2_readLevel_62 (by decide) ?_
        refine rn_goto 69 dX2_readLevel_63 rfl ?_
        refine r_istore3 dX2_readLevel_69 rfl ?_
        refine rn_iconst (0) dX2_readLevel_70 (by decide) ?_
        refine r_istore4 dX2_readLevel_71 rfl ?_
        rcases r1 with z | q
        · dsimp only at hr
          subst hr
          exact RLb hR hl4 h54.1 h54.2
        · dsimp only at hr
          have hgd := (pz_good (b := b) (n := n) (fun _ => 0) F).1 (lev + 1) op 0 [] _ _ (by omega) ho hg.2.1.1 hg.2.2.1 hr1
          have hl2 := hgd.2.2.1
          rw [if_pos (by rw [show (2 : Int32) = nI 2 by decide, nI_eq (by omega) (by decide)] at c59; exact c59)] at hr
          exact RLM hR hA F (by omega) lev op D 0 1 S q.1 _ q.2 iv0 _ r hl4 ho hD (hT.ps h54.1) h54.2 (pz_22 F 0 (lev + 1) op 0 [] _ _ h22 hr1) (by rw [List.length_append]; omega) rfl h54.1 (by decide) (Nat.zero_le _) hr nI_0.symm rfl
    · refine r_aload0 dX2_readLevel_16 ?_
      refine gf_X2_25 dX2_readLevel_17 rfl hR.1 ?_
      refine rn_bipush (11) dX2_readLevel_20 (by decide) ?_
      refine rn_icmp_ne 49 dX2_readLevel_22 rfl (fun c22 => ?_) (fun c22 => ?_)
      · have hne : ¬ (lev = 2 ∧ t.1 = 11) := fun z => c22 (by rw [h4, z.2]; rfl)
        rw [pzl hl4 hne] at hr
        obtain ⟨r1, hr1, hr⟩ := pb_some hr
        refine r_aload0 dX2_readLevel_49 ?_
        refine r_iload1 dX2_readLevel_50 ?_
        refine rn_iconst (1) dX2_readLevel_51 (by decide) ?_
        refine rn_iadd dX2_readLevel_52 ?_
        refine r_iload2 dX2_readLevel_53 ?_
        refine ccvV2 dX2_readLevel_54 ov_X2_readLevel rfl ml_X2_66 hR.1 rfl (Nat.zero_le _) (Nat.zero_le _) (Nat.zero_le _) (hA F (Nat.le_refl _) (lev + 1) op (D + 8) t S _ r1 (by omega) ho (by unfold DR at *; omega) hT hg h22 hS hr1 (nI_1 lev) rfl) (fun iv h54 => ?_)
        refine r_iload1 dX2_readLevel_57 ?_
        refine rn_iconst (2) dX2_readLevel_58 (by decide) ?_
        refine rn_icmp_ne 66 dX2_readLevel_59 rfl (fun c59 => ?_) (fun c59 => ?_)
        · refine rn_sipush (160) dX2_readLevel_66 (by decide) ?_
          refine r_istore3 dX2_readLevel_69 rfl ?_
          refine rn_iconst (0) dX2_readLevel_70 (by decide) ?_
          refine r_istore4 dX2_readLevel_71 rfl ?_
          rcases r1 with z | q
          · dsimp only at hr
            subst hr
            exact RLb hR hl4 h54.1 h54.2
          · dsimp only at hr
            have hgd := (pz_good (b := b) (n := n) (fun _ => 0) F).1 (lev + 1) op 0 [] _ _ (by omega) ho hg.2.1.1 hg.2.2.1 hr1
            have hl2 := hgd.2.2.1
            rw [if_neg (fun z => c59 (by rw [z]; rfl))] at hr
            exact RLM hR hA F (by omega) lev op D 0 160 S q.1 _ q.2 iv0 _ r hl4 ho hD (hT.ps h54.1) h54.2 (pz_22 F 0 (lev + 1) op 0 [] _ _ h22 hr1) (by rw [List.length_append]; omega) rfl h54.1 (by decide) (Nat.zero_le _) hr nI_0.symm rfl
        · refine rn_iconst (1) dX2_readLevel_62 (by decide) ?_
          refine rn_goto 69 dX2_readLevel_63 rfl ?_
          refine r_istore3 dX2_readLevel_69 rfl ?_
          refine rn_iconst (0) dX2_readLevel_70 (by decide) ?_
          refine r_istore4 dX2_readLevel_71 rfl ?_
          rcases r1 with z | q
          · dsimp only at hr
            subst hr
            exact RLb hR hl4 h54.1 h54.2
          · dsimp only at hr
            have hgd := (pz_good (b := b) (n := n) (fun _ => 0) F).1 (lev + 1) op 0 [] _ _ (by omega) ho hg.2.1.1 hg.2.2.1 hr1
            have hl2 := hgd.2.2.1
            rw [if_pos (by rw [show (2 : Int32) = nI 2 by decide, nI_eq (by omega) (by decide)] at c59; exact c59)] at hr
            exact RLM hR hA F (by omega) lev op D 0 1 S q.1 _ q.2 iv0 _ r hl4 ho hD (hT.ps h54.1) h54.2 (pz_22 F 0 (lev + 1) op 0 [] _ _ h22 hr1) (by rw [List.length_append]; omega) rfl h54.1 (by decide) (Nat.zero_le _) hr nI_0.symm rfl
      · have hl2 : lev = 2 := by
          rw [show (2 : Int32) = nI 2 by decide, nI_eq (by omega) (by decide)] at c13
          exact c13
        have t11 : t.1 = 11 := by
          rw [h4, show (11 : Int32) = nI 11 by decide, nI_eq (by omega) (by decide)] at c22
          exact c22
        subst hl2
        rw [pz, if_neg (by decide), if_pos ⟨rfl, t11⟩] at hr
        refine r_aload0 dX2_readLevel_25 ?_
        refine r_iload2 dX2_readLevel_26 ?_
        refine cciV1 dX2_readLevel_27 ov_X2_opens rfl ml_X2_76 hR.1 rfl (Nat.zero_le _) (Nat.zero_le _) (Nat.zero_le _) (ct_ropens _ hR hT hg ho) (fun x27 iv h27 => ?_)
        rcases h27 with ⟨q1, rfl, q2, q3⟩ | ⟨q1, rfl, q2, q3⟩
        · rw [if_pos q1] at hr
          cases hr
          refine rn_if_ne 34 dX2_readLevel_30 rfl (fun h => absurd rfl h) (fun _ => ?_)
          refine rn_vret dX2_readLevel_33 rfl (Nat.zero_le _) (Nat.zero_le _) ?_
          exact ⟨rfl, rfl, rfl, rfl, q2, q3⟩
        · rw [if_neg (by omega)] at hr
          obtain ⟨r1, hr1, hr⟩ := pb_some hr
          have hst := tk_step (b := b) hg.2.1.1 (by omega)
          refine rn_if_ne 34 dX2_readLevel_30 rfl (fun _ => ?_) (fun h => absurd h (by decide))
          refine r_aload0 dX2_readLevel_34 ?_
          refine rn_iconst (2) dX2_readLevel_35 (by decide) ?_
          refine r_iload2 dX2_readLevel_36 ?_
          refine rn_iconst (1) dX2_readLevel_37 (by decide) ?_
          refine rn_iadd dX2_readLevel_38 ?_
          refine ccvV2 dX2_readLevel_39 ov_X2_readLevel rfl ml_X2_66 hR.1 rfl (Nat.zero_le _) (Nat.zero_le _) (Nat.zero_le _) (hA F (Nat.le_refl _) 2 (op + 1) (D + 8) _ S _ r1 (by omega) (by omega) (by unfold DR at *; omega) (hT.ps q2) q3 lexS_22 (by have := hst.2.2; omega) hr1 (by decide) (nI_1 op)) (fun iv h39 => ?_)
          rcases r1 with z | q
          · dsimp only at hr
            subst hr
            refine r_aload0 dX2_readLevel_42 ?_
            refine rn_bipush (-9) dX2_readLevel_43 (by decide) ?_
            refine ccvV1 dX2_readLevel_45 ov_X2_put rfl ml_X2_80 hR.1 rfl (Nat.zero_le _) (Nat.zero_le _) (Nat.zero_le _) (ct_putb _ hR h39.2 _) (fun iv h45 => ?_)
            refine rn_vret dX2_readLevel_48 rfl (Nat.zero_le _) (Nat.zero_le _) ?_
            exact ⟨rfl, rfl, rfl, rfl, (q2.trans h39.1).trans h45.1, h45.2⟩
          · dsimp only at hr
            cases hr
            have hgd := (pz_good (b := b) (n := n) (fun _ => 0) F).1 2 (op + 1) 0 [] _ _ (by omega) (by omega) hst.1 hst.2.1 hr1
            have hl2 := hgd.2.2.1
            have hl3 := hgd.1.1
            refine r_aload0 dX2_readLevel_42 ?_
            refine rn_bipush (-9) dX2_readLevel_43 (by decide) ?_
            refine ccvV1 dX2_readLevel_45 ov_X2_put rfl ml_X2_80 hR.1 rfl (Nat.zero_le _) (Nat.zero_le _) (Nat.zero_le _) (ct_put0 _ hR h39.2 (by rw [List.length_append]; have := hT.2.1; have := hst.2.2; omega) _) (fun iv h45 => ?_)
            refine rn_vret dX2_readLevel_48 rfl (Nat.zero_le _) (Nat.zero_le _) ?_
            exact ⟨rfl, rfl, rfl, rfl, (q2.trans h39.1).trans h45.1, by show GdR _ _ _ (S ++ (q.1 ++ [-9])); rw [← List.append_assoc]; exact h45.2⟩
  · have hl5 : lev = 5 := by
      rw [show (4 : Int32) = nI 4 by decide, nI_leI (by omega) (by decide)] at c2
      omega
    subst hl5
    refine r_aload0 dX2_readLevel_5 ?_
    refine r_iload2 dX2_readLevel_6 ?_
    refine ccvV1 dX2_readLevel_7 ov_X2_readOne rfl ml_X2_73 hR.1 rfl (Nat.zero_le _) (Nat.zero_le _) (Nat.zero_le _) (hO op (D + 8) t S iv0 r ho (by unfold DR at *; omega) hT hg h22 hS hr rfl) (fun iv h7 => ?_)
    refine rn_vret dX2_readLevel_10 rfl (Nat.zero_le _) (Nat.zero_le _) ?_
    exact ⟨rfl, rfl, rfl, rfl, h7⟩
theorem AR_all (hR : ShR Γ rv) : ∀ F, ∀ f', f' ≤ F → ARO g l Γ rv lv b n f' ∧ ARL g l Γ rv lv b n f' := by
  intro F
  induction F with
  | zero =>
    intro f' h
    have : f' = 0 := by omega
    subst this
    exact ⟨fun op D t S iv r _ _ _ _ _ _ hr => (by cases hr), fun lev op D t S iv r _ _ _ _ _ _ _ hr => (by cases hr)⟩
  | succ F ih =>
    intro f' h
    rcases Nat.lt_or_ge f' (F + 1) with q | q
    · exact ih f' (by omega)
    · have : f' = F + 1 := by omega
      subst this
      have hO := ARO_step hR (ih F (Nat.le_refl _)).1 (ih F (Nat.le_refl _)).2
      exact ⟨hO, ARL_step hR (fun f' h => (ih f' h).2) hO⟩
end REXPR
