/-! THE REFERENCE: expressions -/
def DM (lev op : Nat) : Nat := 6 + 6 * (5 - op) + (5 - lev)
/-- behind a reading, good or bad -/
def PoM (b : Nat → Int32) (n : Nat) (e : Nat → Int32) (op : Nat) (r : Nat ⊕ (List Int32 × Tk)) (x : Int32) (iv : IV) (lv : LV) : Prop := match r with
  | .inl z => iv 75 33 = 1 ∧ iv 75 34 = nI z
  | .inr q => iv 75 33 = 0 ∧ iv 75 32 = nI op ∧ TokM iv lv b n q.2 ∧ TkV q.2 ∧ x = vl e q.1
/-- what a method that reads at a level has to do -/
def AM (g : GS) (l : Launch) (Γ : Sh) (rv : RV) (b : Nat → Int32) (n f0 : Nat) (e : Nat → Int32) (M : MI) (L f : Nat) : Prop := ∀ (op D : Nat) (t : Tk) (iv : IV) (lv : LV) (r : Nat ⊕ (List Int32 × Tk)), DM L op ≤ D → op ≤ 5 → TxM iv b n f0 → TokM iv lv b n t → TkV t → iv 75 33 = 0 → iv 75 32 = nI op → (∀ j, j < 6 → iv 75 (20 + j) = e j) → pz b n f 0 L op 0 [] t = some r →
    Ct g l M D 0 0 [.ref 75] Γ iv rv lv (qLI Γ rv (fun x iv' lv' => Off Ps iv iv' ∧ PoM b n e op r x iv' lv'))
theorem env_off {iv iv' : IV} {e : Nat → Int32} (h : Off Ps iv iv') (he : ∀ j, j < 6 → iv 75 (20 + j) = e j) : ∀ j, j < 6 → iv' 75 (20 + j) = e j := fun j hj => (h 75 (20 + j) (fun z => by have := z.2; omega)).trans (he j hj)
theorem pb_some {r : PRes} {k : List Int32 → Tk → PRes} {q : Nat ⊕ (List Int32 × Tk)} (h : pb r k = some q) : ∃ r1, r = some r1 ∧ match r1 with
    | .inl z => q = .inl z
    | .inr p => k p.1 p.2 = some q := by
  unfold pb at h
  split at h
  · exact ⟨_, rfl, h⟩
  · rename_i hn
    cases r with
    | none => cases h
    | some r1 =>
      cases r1 with
      | inl z => cases h; exact ⟨.inl z, rfl, rfl⟩
      | inr p => exact absurd rfl (hn p)
theorem pz5 {b : Nat → Int32} {n f op : Nat} {t : Tk} : pz b n (f + 1) 0 5 op 0 [] t = (if t.1 = 12 then some (.inr ([t.2.2.1], lexS b n t.2.2.2))
      else if t.1 ≤ 5 then some (.inr ([-1 - nI t.1], lexS b n t.2.2.2))
      else if t.1 = 19 then (if 5 ≤ op then some (.inl t.2.1) else pb (pz b n f 0 5 (op + 1) 0 [] (lexS b n t.2.2.2)) (fun s t' => some (.inr (s ++ [-15], t'))))
      else if t.1 = 15 then (if 5 ≤ op then some (.inl t.2.1) else pb (pz b n f 0 0 (op + 1) 0 [] (lexS b n t.2.2.2)) (fun s t' => if t'.1 = 16 then some (.inr (s, lexS b n t'.2.2.2)) else some (.inl t'.2.1)))
      else some (.inl t.2.1)) := by
  rw [pz, if_pos (by decide)]
theorem pzl {b : Nat → Int32} {n f lev op : Nat} {t : Tk} (hl : lev ≤ 4) (h : ¬ (lev = 2 ∧ t.1 = 11)) : pz b n (f + 1) 0 lev op 0 [] t = pb (pz b n f 0 (lev + 1) op 0 [] t) (fun s t' => pz b n f 1 lev op (if lev = 2 then 1 else 160) s t') := by
  rw [pz, if_neg (by omega), if_neg h]
theorem pz1_go {b : Nat → Int32} {n f lev op cnt : Nat} {s : List Int32} {t : Tk} (h : 0 < cnt ∧ opAt lev t.1 ≠ 0) : pz b n (f + 1) 1 lev op cnt s t = pb (pz b n f 0 (lev + 1) op 0 [] (lexS b n t.2.2.2)) (fun s' t' => pz b n f 1 lev op (cnt - 1) (s ++ s' ++ [opAt lev t.1]) t') := by
  rw [pz, if_pos h]
theorem pz1_end {b : Nat → Int32} {n f lev op cnt : Nat} {s : List Int32} {t : Tk} (h : ¬ (0 < cnt ∧ opAt lev t.1 ≠ 0)) : pz b n (f + 1) 1 lev op cnt s t = some (.inr (s, t)) := by
  rw [pz, if_neg h]
theorem tok_num {iv : IV} {lv : LV} {b : Nat → Int32} {n : Nat} {t : Tk} (h : TokM iv lv b n t) : (iv 75 29 = 2 ↔ t.1 = 12) ∧ (t.1 = 12 → lv 75 31 = t.2.2.1.toInt64) ∧ (iv 75 29 = 1 ↔ (t.1 ≤ 11 ∨ (t.1 = 14 ∧ iv 75 29 = 1))) := by
  obtain ⟨-, -, h⟩ := h
  rcases h with ⟨h1, h2, -⟩ | ⟨h1, h2, h3, -⟩ | ⟨h1, h2, -⟩ | ⟨h1, h2, h3, h4, -⟩ | ⟨h1, h2⟩
  · rw [h2, h1]; exact ⟨by decide, fun z => absurd z (by decide), by decide⟩
  · rw [h2, h1]; exact ⟨by decide, fun _ => h3, by decide⟩
  · have := wcode_or (wd b t.2.1 t.2.2.2)
    rw [← h1] at this
    rw [h2]
    refine ⟨⟨fun z => absurd z (by decide), fun z => by omega⟩, fun z => by omega, fun _ => ?_, fun _ => rfl⟩
    rcases this with h | h
    · exact Or.inl h
    · exact Or.inr ⟨h, rfl⟩
  · rw [h3]
    refine ⟨⟨fun z => absurd z (by decide), fun z => by omega⟩, fun z => by omega, fun z => absurd z (by decide), fun z => ?_⟩
    rcases z with z | z
    · omega
    · exact absurd z.2 (by decide)
  · rw [h2, h1]; exact ⟨by decide, fun z => absurd z (by decide), by decide⟩
theorem l2i_i2l (x : Int32) : x.toInt64.toInt32 = x := by
  apply Int32.toInt_inj.mp
  simp
section MEXPR
variable {g : GS} {l : Launch} {Γ : Sh} {rv : RV} {b : Nat → Int32} {n f0 f : Nat} {e : Nat → Int32}
theorem AM5_step (hM : ShM Γ rv) (ih5 : AM g l Γ rv b n f0 e mX7_atom 5 f) (ih0 : AM g l Γ rv b n f0 e mX7_either 0 f) : AM g l Γ rv b n f0 e mX7_atom 5 (f + 1) := by
  intro op D t iv lv r hD ho hT ht hv h33 h32 he hr
  obtain ⟨D, rfl⟩ : ∃ D', D = D' + 4 := ⟨D - 4, by unfold DM at hD; omega⟩
  rw [pz5] at hr
  refine Ct.of (by decide +kernel) (Nat.le_of_ble_eq_true rfl) (Nat.le_of_ble_eq_true rfl) ?_
  refine rn_iconst (0) dX7_atom_0 (by decide) ?_
  refine r_istore1 dX7_atom_1 rfl ?_
  refine r_aload0 dX7_atom_2 ?_
  refine rn_bipush (45) dX7_atom_3 (by decide) ?_
  refine cpiV1 dX7_atom_5 ov_X7_isSign rfl ml_X7_223 hM.1 rfl (Nat.zero_le _) (Nat.zero_le _) (Nat.zero_le _) (ct_isS _ hM ht 45 19 (by decide) (by decide)) ?_
  refine rn_if_eq 37 dX7_atom_8 rfl (fun c8 => ?_) (fun c8 => ?_)
  · rw [bI_0] at c8
    have n19 : ¬ t.1 = 19 := fun z => c8 ⟨h33, z⟩
    refine r_aload0 dX7_atom_37 ?_
    refine rn_bipush (40) dX7_atom_38 (by decide) ?_
    refine cpiV1 dX7_atom_40 ov_X7_isSign rfl ml_X7_223 hM.1 rfl (Nat.zero_le _) (Nat.zero_le _) (Nat.zero_le _) (ct_isS _ hM ht 40 15 (by decide) (by decide)) ?_
    refine rn_if_eq 95 dX7_atom_43 rfl (fun c43 => ?_) (fun c43 => ?_)
    · rw [bI_0] at c43
      have n15 : ¬ t.1 = 15 := fun z => c43 ⟨h33, z⟩
      refine r_aload0 dX7_atom_95 ?_
      refine gf_X7_181 dX7_atom_96 rfl hM.1 ?_
      refine rn_if_ne 123 dX7_atom_99 rfl (fun h => absurd h33 h) (fun _ => ?_)
      refine r_aload0 dX7_atom_102 ?_
      refine gf_X7_164 dX7_atom_103 rfl hM.1 ?_
      refine rn_iconst (2) dX7_atom_106 (by decide) ?_
      refine rn_icmp_ne 123 dX7_atom_107 rfl (fun c107 => ?_) (fun c107 => ?_)
      · have n12 : ¬ t.1 = 12 := fun z => c107 ((tok_num ht).1.mpr z)
        refine r_aload0 dX7_atom_123 ?_
        refine gf_X7_181 dX7_atom_124 rfl hM.1 ?_
        refine rn_if_ne 157 dX7_atom_127 rfl (fun h => absurd h33 h) (fun _ => ?_)
        refine r_aload0 dX7_atom_130 ?_
        refine gf_X7_164 dX7_atom_131 rfl hM.1 ?_
        refine rn_iconst (1) dX7_atom_134 (by decide) ?_
        refine rn_icmp_ne 157 dX7_atom_135 rfl (fun c135 => ?_) (fun c135 => ?_)
        · have n1 : ¬ t.1 ≤ 5 := fun z => c135 ((tok_num ht).2.2.mpr (Or.inl (by omega)))
          rw [if_neg n12, if_neg n1, if_neg n19, if_neg n15] at hr
          cases hr
          refine r_aload0 dX7_atom_157 ?_
          refine ccvV0 dX7_atom_158 ov_X7_fail rfl ml_X7_195 hM.1 rfl (Nat.zero_le _) (Nat.zero_le _) (Nat.zero_le _) (ct_fail0 _ hM h33 ht.2.1) (fun iv h158 => ?_)
          refine r_iload1 dX7_atom_161 ?_
          refine rn_iret dX7_atom_162 rfl (Nat.zero_le _) (Nat.zero_le _) ?_
          exact ⟨_, rfl, rfl, rfl, h158.1, h158.2.1, h158.2.2.1⟩
        · refine r_aload0 dX7_atom_138 ?_
          refine cciV0 dX7_atom_139 ov_X7_name rfl ml_X7_236 hM.1 rfl (Nat.zero_le _) (Nat.zero_le _) (Nat.zero_le _) (ct_name _ hM hT ht h33 he) (fun x139 iv h139 => ?_)
          rcases h139 with ⟨q1, rfl, rfl⟩ | ⟨q1, q2, q3, q4, q5⟩
          · rw [if_neg n12, if_pos q1] at hr
            cases hr
            refine r_istore1 dX7_atom_142 rfl ?_
            refine r_aload0 dX7_atom_143 ?_
            refine gf_X7_181 dX7_atom_144 rfl hM.1 ?_
            refine rn_if_ne 161 dX7_atom_147 rfl (fun h => absurd h33 h) (fun _ => ?_)
            refine r_aload0 dX7_atom_150 ?_
            refine clvV0 dX7_atom_151 ov_X7_next rfl ml_X7_198 hM.1 rfl (Nat.zero_le _) (Nat.zero_le _) (Nat.zero_le _) (ct_next _ hM hT t.2.2.2 (tok_here2 ht (by omega)) ht.1.2.1) (fun iv lv h151 => ?_)
            refine rn_goto 161 dX7_atom_154 rfl ?_
            refine r_iload1 dX7_atom_161 ?_
            refine rn_iret dX7_atom_162 rfl (Nat.zero_le _) (Nat.zero_le _) ?_
            refine ⟨_, rfl, rfl, rfl, lx_ps h151.1, (h151.1 75 33 (by decide)).trans h33, (h151.1 75 32 (by decide)).trans h32, h151.2, lexS_v ht.1.2.1, ?_⟩
            rw [one_vl (one_name q1) (by decide)]
          · have t14 := (tok_num ht).2.2.mp c135
            rw [if_neg n12, if_neg (by omega), if_neg n19, if_neg n15] at hr
            cases hr
            refine r_istore1 dX7_atom_142 rfl ?_
            refine r_aload0 dX7_atom_143 ?_
            refine gf_X7_181 dX7_atom_144 rfl hM.1 ?_
            refine rn_if_ne 161 dX7_atom_147 rfl (fun _ => ?_) (fun h => absurd h (by rw [q3]; decide))
            refine r_iload1 dX7_atom_161 ?_
            refine rn_iret dX7_atom_162 rfl (Nat.zero_le _) (Nat.zero_le _) ?_
            exact ⟨_, rfl, rfl, rfl, q2, q3, q4⟩
      · have t12 := (tok_num ht).1.mp c107
        rw [if_pos t12] at hr
        cases hr
        refine r_aload0 dX7_atom_110 ?_
        refine gf_X7_175 dX7_atom_111 rfl hM.1 ?_
        refine rn_l2i dX7_atom_114 ?_
        refine r_istore1 dX7_atom_115 rfl ?_
        refine r_aload0 dX7_atom_116 ?_
        refine clvV0 dX7_atom_117 ov_X7_next rfl ml_X7_198 hM.1 rfl (Nat.zero_le _) (Nat.zero_le _) (Nat.zero_le _) (ct_next _ hM hT t.2.2.2 (tok_here2 ht (by omega)) ht.1.2.1) (fun iv lv h117 => ?_)
        refine rn_goto 161 dX7_atom_120 rfl ?_
        refine r_iload1 dX7_atom_161 ?_
        refine rn_iret dX7_atom_162 rfl (Nat.zero_le _) (Nat.zero_le _) ?_
        refine ⟨_, rfl, rfl, rfl, lx_ps h117.1, (h117.1 75 33 (by decide)).trans h33, (h117.1 75 32 (by decide)).trans h32, h117.2, lexS_v ht.1.2.1, ?_⟩
        rw [one_vl (one_num (hv t12)) (by decide), (tok_num ht).2.1 t12, l2i_i2l]
    · have t15 := (bI_1.mp (bI_or.resolve_left c43)).2
      rw [if_neg (by omega), if_neg (by omega), if_neg n19, if_pos t15] at hr
      refine r_aload0 dX7_atom_46 ?_
      refine cliV0 dX7_atom_47 ov_X7_opens rfl ml_X7_226 hM.1 rfl (Nat.zero_le _) (Nat.zero_le _) (Nat.zero_le _) (ct_opens _ hM hT ht (by omega) h33 h32 ho) (fun x47 iv lv h47 => ?_)
      obtain ⟨ho1, hor⟩ := h47
      rcases hor with ⟨q1, rfl, q3, q4⟩ | ⟨q1, rfl, q3, q4, q5⟩
      · rw [if_pos q1] at hr
        refine rn_if_eq 161 dX7_atom_50 rfl (fun _ => ?_) (fun h => absurd rfl h)
        refine r_iload1 dX7_atom_161 ?_
        refine rn_iret dX7_atom_162 rfl (Nat.zero_le _) (Nat.zero_le _) ?_
        cases hr
        exact ⟨_, rfl, rfl, rfl, ho1, q3, q4⟩
      · rw [if_neg (by omega)] at hr
        obtain ⟨r1, hr1, hr⟩ := pb_some hr
        refine rn_if_eq 161 dX7_atom_50 rfl (fun h => absurd h (by decide)) (fun _ => ?_)
        refine r_aload0 dX7_atom_53 ?_
        refine cliV0 dX7_atom_54 ov_X7_either rfl ml_X7_233 hM.1 rfl (Nat.zero_le _) (Nat.zero_le _) (Nat.zero_le _) (ih0 (op + 1) (D + 3) _ _ _ r1 (by unfold DM at *; omega) (by omega) (hT.ps ho1) q5 (lexS_v ht.1.2.1) q3 q4 (env_off ho1 he) hr1) (fun x54 iv lv h54 => ?_)
        rcases r1 with z | q
        · refine r_istore1 dX7_atom_57 rfl ?_
          refine r_aload0 dX7_atom_58 ?_
          refine rn_bipush (41) dX7_atom_59 (by decide) ?_
          refine cpiV1 dX7_atom_61 ov_X7_isSign rfl ml_X7_223 hM.1 rfl (Nat.zero_le _) (Nat.zero_le _) (Nat.zero_le _) (ct_isSbad _ hM h54.2.1 _) ?_
          refine rn_if_ne 71 dX7_atom_64 rfl (fun h => absurd rfl h) (fun _ => ?_)
          refine r_aload0 dX7_atom_67 ?_
          refine ccvV0 dX7_atom_68 ov_X7_fail rfl ml_X7_195 hM.1 rfl (Nat.zero_le _) (Nat.zero_le _) (Nat.zero_le _) (ct_failb _ hM h54.2.1) (fun iv h68 => ?_)
          subst h68
          refine r_aload0 dX7_atom_71 ?_
          refine rn_dup dX7_atom_72 rfl ?_
          refine gf_X7_192 dX7_atom_73 rfl hM.1 ?_
          refine rn_iconst (1) dX7_atom_76 (by decide) ?_
          refine rn_isub dX7_atom_77 ?_
          refine pf_X7_192 dX7_atom_78 rfl hM.1 ?_
          refine r_aload0 dX7_atom_81 ?_
          refine gf_X7_181 dX7_atom_82 rfl hM.1 ?_
          refine rn_if_ne 161 dX7_atom_85 rfl (fun _ => ?_) (fun h => absurd h (show ¬ iv 75 33 = 0 by rw [h54.2.1]; decide))
          refine r_iload1 dX7_atom_161 ?_
          refine rn_iret dX7_atom_162 rfl (Nat.zero_le _) (Nat.zero_le _) ?_
          subst hr
          exact ⟨_, rfl, rfl, rfl, (ho1.trans h54.1).trans (off_up (by decide)), h54.2.1, h54.2.2⟩
        · obtain ⟨w1, w2, w3, w4, w5⟩ := h54.2
          dsimp only at hr
          refine r_istore1 dX7_atom_57 rfl ?_
          refine r_aload0 dX7_atom_58 ?_
          refine rn_bipush (41) dX7_atom_59 (by decide) ?_
          refine cpiV1 dX7_atom_61 ov_X7_isSign rfl ml_X7_223 hM.1 rfl (Nat.zero_le _) (Nat.zero_le _) (Nat.zero_le _) (ct_isS _ hM w3 41 16 (by decide) (by decide)) ?_
          refine rn_if_ne 71 dX7_atom_64 rfl (fun c64 => ?_) (fun c64 => ?_)
          · have t16 := (bI_1.mp (bI_or.resolve_left c64)).2
            rw [if_pos t16] at hr
            refine r_aload0 dX7_atom_71 ?_
            refine rn_dup dX7_atom_72 rfl ?_
            refine gf_X7_192 dX7_atom_73 rfl hM.1 ?_
            refine rn_iconst (1) dX7_atom_76 (by decide) ?_
            refine rn_isub dX7_atom_77 ?_
            refine pf_X7_192 dX7_atom_78 rfl hM.1 ?_
            refine r_aload0 dX7_atom_81 ?_
            refine gf_X7_181 dX7_atom_82 rfl hM.1 ?_
            refine rn_if_ne 161 dX7_atom_85 rfl (fun h => absurd w1 h) (fun _ => ?_)
            refine r_aload0 dX7_atom_88 ?_
            refine clvV0 dX7_atom_89 ov_X7_next rfl ml_X7_198 hM.1 rfl (Nat.zero_le _) (Nat.zero_le _) (Nat.zero_le _) (ct_next (iv := up iv 75 32 (iv 75 32 - 1)) _ hM ((hT.ps ho1).ps (h54.1.trans (off_up (by decide)))) q.2.2.2.2 (tok_here2 w3 (by omega)) w3.1.2.1) (fun iv lv h89 => ?_)
            refine rn_goto 161 dX7_atom_92 rfl ?_
            refine r_iload1 dX7_atom_161 ?_
            refine rn_iret dX7_atom_162 rfl (Nat.zero_le _) (Nat.zero_le _) ?_
            cases hr
            refine ⟨_, rfl, rfl, rfl, ((ho1.trans h54.1).trans (off_up (by decide))).trans (lx_ps h89.1), (h89.1 75 33 (by decide)).trans w1, (h89.1 75 32 (by decide)).trans ((up_same _ _ _ _).trans (by rw [w2]; exact nI_pred op)), h89.2, lexS_v w3.1.2.1, w5⟩
          · refine r_aload0 dX7_atom_67 ?_
            refine ccvV0 dX7_atom_68 ov_X7_fail rfl ml_X7_195 hM.1 rfl (Nat.zero_le _) (Nat.zero_le _) (Nat.zero_le _) (ct_fail0 _ hM w1 w3.2.1) (fun iv h68 => ?_)
            rw [bI_0] at c64
            rw [if_neg (fun z => c64 ⟨w1, z⟩)] at hr
            refine r_aload0 dX7_atom_71 ?_
            refine rn_dup dX7_atom_72 rfl ?_
            refine gf_X7_192 dX7_atom_73 rfl hM.1 ?_
            refine rn_iconst (1) dX7_atom_76 (by decide) ?_
            refine rn_isub dX7_atom_77 ?_
            refine pf_X7_192 dX7_atom_78 rfl hM.1 ?_
            refine r_aload0 dX7_atom_81 ?_
            refine gf_X7_181 dX7_atom_82 rfl hM.1 ?_
            refine rn_if_ne 161 dX7_atom_85 rfl (fun _ => ?_) (fun h => absurd h (show ¬ iv 75 33 = 0 by rw [h68.2.1]; decide))
            refine r_iload1 dX7_atom_161 ?_
            refine rn_iret dX7_atom_162 rfl (Nat.zero_le _) (Nat.zero_le _) ?_
            cases hr
            exact ⟨_, rfl, rfl, rfl, ((ho1.trans h54.1).trans h68.1).trans (off_up (by decide)), h68.2.1, h68.2.2.1⟩
  · have t19 := (bI_1.mp (bI_or.resolve_left c8)).2
    rw [if_neg (by omega), if_neg (by omega), if_pos t19] at hr
    refine r_aload0 dX7_atom_11 ?_
    refine cliV0 dX7_atom_12 ov_X7_opens rfl ml_X7_226 hM.1 rfl (Nat.zero_le _) (Nat.zero_le _) (Nat.zero_le _) (ct_opens _ hM hT ht (by omega) h33 h32 ho) (fun x12 iv lv h12 => ?_)
    obtain ⟨ho1, hor⟩ := h12
    rcases hor with ⟨q1, rfl, q3, q4⟩ | ⟨q1, rfl, q3, q4, q5⟩
    · rw [if_pos q1] at hr
      refine rn_if_eq 161 dX7_atom_15 rfl (fun _ => ?_) (fun h => absurd rfl h)
      refine r_iload1 dX7_atom_161 ?_
      refine rn_iret dX7_atom_162 rfl (Nat.zero_le _) (Nat.zero_le _) ?_
      cases hr
      exact ⟨_, rfl, rfl, rfl, ho1, q3, q4⟩
    · rw [if_neg (by omega)] at hr
      obtain ⟨r1, hr1, hr⟩ := pb_some hr
      refine rn_if_eq 161 dX7_atom_15 rfl (fun h => absurd h (by decide)) (fun _ => ?_)
      refine r_aload0 dX7_atom_18 ?_
      refine cliV0 dX7_atom_19 ov_X7_atom rfl ml_X7_230 hM.1 rfl (Nat.zero_le _) (Nat.zero_le _) (Nat.zero_le _) (ih5 (op + 1) (D + 3) _ _ _ r1 (by unfold DM at *; omega) (by omega) (hT.ps ho1) q5 (lexS_v ht.1.2.1) q3 q4 (env_off ho1 he) hr1) (fun x19 iv lv h19 => ?_)
      rcases r1 with z | q
      · refine rn_ineg dX7_atom_22 ?_
        refine r_istore1 dX7_atom_23 rfl ?_
        refine r_aload0 dX7_atom_24 ?_
        refine rn_dup dX7_atom_25 rfl ?_
        refine gf_X7_192 dX7_atom_26 rfl hM.1 ?_
        refine rn_iconst (1) dX7_atom_29 (by decide) ?_
        refine rn_isub dX7_atom_30 ?_
        refine pf_X7_192 dX7_atom_31 rfl hM.1 ?_
        refine rn_goto 161 dX7_atom_34 rfl ?_
        refine r_iload1 dX7_atom_161 ?_
        refine rn_iret dX7_atom_162 rfl (Nat.zero_le _) (Nat.zero_le _) ?_
        subst hr
        exact ⟨_, rfl, rfl, rfl, (ho1.trans h19.1).trans (off_up (by decide)), h19.2.1, h19.2.2⟩
      · refine rn_ineg dX7_atom_22 ?_
        refine r_istore1 dX7_atom_23 rfl ?_
        refine r_aload0 dX7_atom_24 ?_
        refine rn_dup dX7_atom_25 rfl ?_
        refine gf_X7_192 dX7_atom_26 rfl hM.1 ?_
        refine rn_iconst (1) dX7_atom_29 (by decide) ?_
        refine rn_isub dX7_atom_30 ?_
        refine pf_X7_192 dX7_atom_31 rfl hM.1 ?_
        refine rn_goto 161 dX7_atom_34 rfl ?_
        refine r_iload1 dX7_atom_161 ?_
        refine rn_iret dX7_atom_162 rfl (Nat.zero_le _) (Nat.zero_le _) ?_
        cases hr
        obtain ⟨w1, w2, w3, w4, w5⟩ := h19.2
        have hg := (pz_good (b := b) (n := n) e f).1 5 (op + 1) 0 [] _ _ (by omega) (by omega) (tk_step (b := b) ht.1 (by omega)).1 (tk_step (b := b) ht.1 (by omega)).2.1 hr1
        refine ⟨_, rfl, rfl, rfl, (ho1.trans h19.1).trans (off_up (by decide)), w1, (up_same _ _ _ _).trans (by rw [w2]; exact nI_pred op), w3, w4, ?_⟩
        rw [w5, one_vl (hg.2.2.2.un (x := -15) (Or.inr rfl)) (by unfold Kf; omega)]
        rfl
end MEXPR
