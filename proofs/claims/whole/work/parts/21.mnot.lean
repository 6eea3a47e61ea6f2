/-! THE REFERENCE: not(); all levels -/
section MNOT
variable {g : GS} {l : Launch} {Γ : Sh} {rv : RV} {b : Nat → Int32} {n f0 : Nat} {e : Nat → Int32}
theorem AM2_step (hM : ShM Γ rv) {F : Nat} (hA : ∀ f', f' ≤ F → AM g l Γ rv b n f0 e mX7_added 3 f') (h2 : AM g l Γ rv b n f0 e mX7_not 2 F) : AM g l Γ rv b n f0 e mX7_not 2 (F + 1) := by
  intro op D t iv lv r hD ho hT ht hv h33 h32 he hr
  obtain ⟨D, rfl⟩ : ∃ D', D = D' + 4 := ⟨D - 4, by unfold DM at hD; omega⟩
  refine Ct.of (by decide +kernel) (Nat.le_of_ble_eq_true rfl) (Nat.le_of_ble_eq_true rfl) ?_
  refine r_aload0 dX7_not_0 ?_
  refine rn_bipush (110) dX7_not_1 (by decide) ?_
  refine rn_bipush (111) dX7_not_3 (by decide) ?_
  refine rn_bipush (116) dX7_not_5 (by decide) ?_
  refine rn_iconst (0) dX7_not_7 (by decide) ?_
  refine rn_iconst (0) dX7_not_8 (by decide) ?_
  refine rn_iconst (0) dX7_not_9 (by decide) ?_
  refine rn_iconst (0) dX7_not_10 (by decide) ?_
  refine rn_iconst (0) dX7_not_11 (by decide) ?_
  refine cpiV8 dX7_not_12 ov_X7_isWord rfl ml_X7_201 hM.1 rfl (Nat.zero_le _) (Nat.zero_le _) (Nat.zero_le _) (ct_isW11 _ hM hT ht) ?_
  refine rn_if_eq 52 dX7_not_15 rfl (fun c15 => ?_) (fun c15 => ?_)
  · rw [bI_0] at c15
    rw [pzl (by decide) (fun z => c15 ⟨h33, z.2⟩)] at hr
    obtain ⟨r1, hr1, hr⟩ := pb_some hr
    refine r_aload0 dX7_not_52 ?_
    refine cliV0 dX7_not_53 ov_X7_added rfl ml_X7_247 hM.1 rfl (Nat.zero_le _) (Nat.zero_le _) (Nat.zero_le _) (hA F (Nat.le_refl _) op (D + 3) _ _ _ r1 (by unfold DM at *; omega) ho hT ht hv h33 h32 he hr1) (fun x53 iv lv h53 => ?_)
    rcases r1 with z | q
    · dsimp only at hr
      subst hr
      refine r_istore1 dX7_not_56 rfl ?_
      refine r_aload0 dX7_not_57 ?_
      refine rn_bipush (60) dX7_not_58 (by decide) ?_
      refine cpiV1 dX7_not_60 ov_X7_isSign rfl ml_X7_223 hM.1 rfl (Nat.zero_le _) (Nat.zero_le _) (Nat.zero_le _) (ct_isSbad _ hM h53.2.1 _) ?_
      refine rn_if_ne 77 dX7_not_63 rfl (fun h => absurd rfl h) (fun _ => ?_)
      refine r_aload0 dX7_not_66 ?_
      refine rn_bipush (61) dX7_not_67 (by decide) ?_
      refine cpiV1 dX7_not_69 ov_X7_isSign rfl ml_X7_223 hM.1 rfl (Nat.zero_le _) (Nat.zero_le _) (Nat.zero_le _) (ct_isSbad _ hM h53.2.1 _) ?_
      refine rn_if_ne 77 dX7_not_72 rfl (fun h => absurd rfl h) (fun _ => ?_)
      refine r_iload1 dX7_not_75 ?_
      refine rn_iret dX7_not_76 rfl (Nat.zero_le _) (Nat.zero_le _) ?_
      exact ⟨_, rfl, rfl, rfl, h53.1, h53.2.1, h53.2.2⟩
    · dsimp only at hr
      obtain ⟨w1, w2, w3, w4, w5⟩ := h53.2
      have hg := (pz_good (b := b) (n := n) e F).1 3 op 0 [] _ _ (by omega) ho ht.1 hv hr1
      obtain ⟨F', rfl⟩ : ∃ F', F = F' + 1 := by
        cases F with
        | zero => cases hr
        | succ F' => exact ⟨F', rfl⟩
      have hn160 : n ≤ 160 := hT.2.2.2.2.1
      refine r_istore1 dX7_not_56 rfl ?_
      refine r_aload0 dX7_not_57 ?_
      refine rn_bipush (60) dX7_not_58 (by decide) ?_
      refine cpiV1 dX7_not_60 ov_X7_isSign rfl ml_X7_223 hM.1 rfl (Nat.zero_le _) (Nat.zero_le _) (Nat.zero_le _) (ct_isS _ hM w3 60 21 (by decide) (by decide)) ?_
      refine rn_if_ne 77 dX7_not_63 rfl (fun c63 => ?_) (fun c63 => ?_)
      · have tw := (bI_1.mp (bI_or.resolve_left c63)).2
        have hl := ((tok_sign w3 (c := 60) (by decide)).mpr tw).2
        have h13 : q.2.1 ≠ 13 := by omega
        rw [pz1_go ⟨by decide, by rw [tw]; decide⟩] at hr
        obtain ⟨r2, hr2, hr⟩ := pb_some hr
        refine r_aload0 dX7_not_77 ?_
        refine gf_X7_175 dX7_not_78 rfl hM.1 ?_
        refine rn_ldc2 (v := _) dX7_not_81 cl_X7_250 ?_
        refine rn_lcmp dX7_not_84 ?_
        refine rn_if_ne 92 dX7_not_85 rfl (fun h => absurd (show lg_cmp (lv 75 31) 60 = 0 by rw [hl]; decide) h) (fun _ => ?_)
        refine rn_iconst (1) dX7_not_88 (by decide) ?_
        refine rn_goto 93 dX7_not_89 rfl ?_
        refine r_istore2 dX7_not_93 rfl ?_
        refine r_aload0 dX7_not_94 ?_
        refine clvV0 dX7_not_95 ov_X7_next rfl ml_X7_198 hM.1 rfl (Nat.zero_le _) (Nat.zero_le _) (Nat.zero_le _) (ct_next _ hM (hT.ps h53.1) q.2.2.2.2 (tok_here2 w3 (by omega)) w3.1.2.1) (fun iv lv h95 => ?_)
        refine r_aload0 dX7_not_98 ?_
        refine cliV0 dX7_not_99 ov_X7_added rfl ml_X7_247 hM.1 rfl (Nat.zero_le _) (Nat.zero_le _) (Nat.zero_le _) (hA F' (by omega) op (D + 3) _ _ _ r2 (by unfold DM at *; omega) ho ((hT.ps h53.1).ps (lx_ps h95.1)) h95.2 (lexS_v w3.1.2.1) ((h95.1 75 33 (by decide)).trans w1) ((h95.1 75 32 (by decide)).trans w2) (env_off (h53.1.trans (lx_ps h95.1)) he) hr2) (fun x99 iv lv h99 => ?_)
        rcases r2 with z | q2
        · dsimp only at hr
          subst hr
          refine r_istore3 dX7_not_102 rfl ?_
          refine r_iload2 dX7_not_103 ?_
          refine rn_if_eq 115 dX7_not_104 rfl (fun h => absurd h (by decide)) (fun _ => ?_)
          refine r_iload1 dX7_not_107 ?_
          refine r_iload3 dX7_not_108 ?_
          refine rn_icmp_ge 124 dX7_not_109 rfl (fun c109 => ?_) (fun c109 => ?_)
          · refine rn_iconst (0) dX7_not_124 (by decide) ?_
            refine rn_iret dX7_not_125 rfl (Nat.zero_le _) (Nat.zero_le _) ?_
            exact ⟨_, rfl, rfl, rfl, ((h53.1.trans (lx_ps h95.1)).trans h99.1), h99.2.1, h99.2.2⟩
          · refine rn_goto 120 dX7_not_112 rfl ?_
            refine rn_iconst (1) dX7_not_120 (by decide) ?_
            refine rn_goto 125 dX7_not_121 rfl ?_
            refine rn_iret dX7_not_125 rfl (Nat.zero_le _) (Nat.zero_le _) ?_
            exact ⟨_, rfl, rfl, rfl, ((h53.1.trans (lx_ps h95.1)).trans h99.1), h99.2.1, h99.2.2⟩
        · dsimp only at hr
          obtain ⟨F2, rfl⟩ : ∃ F2, F' = F2 + 1 := by
            cases F' with
            | zero => cases hr
            | succ F2 => exact ⟨F2, rfl⟩
          rw [pz1_end (fun z => absurd z.1 (by decide))] at hr
          cases hr
          obtain ⟨u1, u2, u3, u4, u5⟩ := h99.2
          have hst := tk_step (b := b) w3.1 h13
          have hg2 := (pz_good (b := b) (n := n) e (F2 + 1)).1 3 op 0 [] _ _ (by omega) ho hst.1 hst.2.1 hr2
          have hb := one_vl (hg.2.2.2.bin hg2.2.2.2 (x := opAt 2 q.2.1) (opAt_bin (by rw [tw]; decide)) (L := Kf 3 op + 1) (by omega) (by omega)) (by unfold Kf; omega)
          rw [tw] at hb
          refine r_istore3 dX7_not_102 rfl ?_
          refine r_iload2 dX7_not_103 ?_
          refine rn_if_eq 115 dX7_not_104 rfl (fun h => absurd h (by decide)) (fun _ => ?_)
          refine r_iload1 dX7_not_107 ?_
          refine r_iload3 dX7_not_108 ?_
          refine rn_icmp_ge 124 dX7_not_109 rfl (fun c109 => ?_) (fun c109 => ?_)
          · refine rn_iconst (0) dX7_not_124 (by decide) ?_
            refine rn_iret dX7_not_125 rfl (Nat.zero_le _) (Nat.zero_le _) ?_
            refine ⟨_, rfl, rfl, rfl, ((h53.1.trans (lx_ps h95.1)).trans h99.1), u1, u2, u3, u4, ?_⟩
            show _ = vl e (q.1 ++ q2.1 ++ [opAt 2 q.2.1])
            rw [tw, hb, ← w5, ← u5]
            show _ = if x53 < x99 then 1 else 0
            rw [if_neg (by rw [← Int32.not_le]; exact fun z => z c109)]
          · refine rn_goto 120 dX7_not_112 rfl ?_
            refine rn_iconst (1) dX7_not_120 (by decide) ?_
            refine rn_goto 125 dX7_not_121 rfl ?_
            refine rn_iret dX7_not_125 rfl (Nat.zero_le _) (Nat.zero_le _) ?_
            refine ⟨_, rfl, rfl, rfl, ((h53.1.trans (lx_ps h95.1)).trans h99.1), u1, u2, u3, u4, ?_⟩
            show _ = vl e (q.1 ++ q2.1 ++ [opAt 2 q.2.1])
            rw [tw, hb, ← w5, ← u5]
            show _ = if x53 < x99 then 1 else 0
            rw [if_pos (Int32.not_le.mp c109)]
      · refine r_aload0 dX7_not_66 ?_
        refine rn_bipush (61) dX7_not_67 (by decide) ?_
        refine cpiV1 dX7_not_69 ov_X7_isSign rfl ml_X7_223 hM.1 rfl (Nat.zero_le _) (Nat.zero_le _) (Nat.zero_le _) (ct_isS _ hM w3 61 22 (by decide) (by decide)) ?_
        refine rn_if_ne 77 dX7_not_72 rfl (fun c72 => ?_) (fun c72 => ?_)
        · have tw := (bI_1.mp (bI_or.resolve_left c72)).2
          have hl := ((tok_sign w3 (c := 61) (by decide)).mpr tw).2
          have h13 : q.2.1 ≠ 13 := by omega
          rw [pz1_go ⟨by decide, by rw [tw]; decide⟩] at hr
          obtain ⟨r2, hr2, hr⟩ := pb_some hr
          refine r_aload0 dX7_not_77 ?_
          refine gf_X7_175 dX7_not_78 rfl hM.1 ?_
          refine rn_ldc2 (v := _) dX7_not_81 cl_X7_250 ?_
          refine rn_lcmp dX7_not_84 ?_
          refine rn_if_ne 92 dX7_not_85 rfl (fun _ => ?_) (fun h => absurd h (show ¬ lg_cmp (lv 75 31) 60 = 0 by rw [hl]; decide))
          refine rn_iconst (0) dX7_not_92 (by decide) ?_
          refine r_istore2 dX7_not_93 rfl ?_
          refine r_aload0 dX7_not_94 ?_
          refine clvV0 dX7_not_95 ov_X7_next rfl ml_X7_198 hM.1 rfl (Nat.zero_le _) (Nat.zero_le _) (Nat.zero_le _) (ct_next _ hM (hT.ps h53.1) q.2.2.2.2 (tok_here2 w3 (by omega)) w3.1.2.1) (fun iv lv h95 => ?_)
          refine r_aload0 dX7_not_98 ?_
          refine cliV0 dX7_not_99 ov_X7_added rfl ml_X7_247 hM.1 rfl (Nat.zero_le _) (Nat.zero_le _) (Nat.zero_le _) (hA F' (by omega) op (D + 3) _ _ _ r2 (by unfold DM at *; omega) ho ((hT.ps h53.1).ps (lx_ps h95.1)) h95.2 (lexS_v w3.1.2.1) ((h95.1 75 33 (by decide)).trans w1) ((h95.1 75 32 (by decide)).trans w2) (env_off (h53.1.trans (lx_ps h95.1)) he) hr2) (fun x99 iv lv h99 => ?_)
          rcases r2 with z | q2
          · dsimp only at hr
            subst hr
            refine r_istore3 dX7_not_102 rfl ?_
            refine r_iload2 dX7_not_103 ?_
            refine rn_if_eq 115 dX7_not_104 rfl (fun _ => ?_) (fun h => absurd rfl h)
            refine r_iload1 dX7_not_115 ?_
            refine r_iload3 dX7_not_116 ?_
            refine rn_icmp_ne 124 dX7_not_117 rfl (fun c117 => ?_) (fun c117 => ?_)
            · refine rn_iconst (0) dX7_not_124 (by decide) ?_
              refine rn_iret dX7_not_125 rfl (Nat.zero_le _) (Nat.zero_le _) ?_
              exact ⟨_, rfl, rfl, rfl, ((h53.1.trans (lx_ps h95.1)).trans h99.1), h99.2.1, h99.2.2⟩
            · refine rn_iconst (1) dX7_not_120 (by decide) ?_
              refine rn_goto 125 dX7_not_121 rfl ?_
              refine rn_iret dX7_not_125 rfl (Nat.zero_le _) (Nat.zero_le _) ?_
              exact ⟨_, rfl, rfl, rfl, ((h53.1.trans (lx_ps h95.1)).trans h99.1), h99.2.1, h99.2.2⟩
          · dsimp only at hr
            obtain ⟨F2, rfl⟩ : ∃ F2, F' = F2 + 1 := by
              cases F' with
              | zero => cases hr
              | succ F2 => exact ⟨F2, rfl⟩
            rw [pz1_end (fun z => absurd z.1 (by decide))] at hr
            cases hr
            obtain ⟨u1, u2, u3, u4, u5⟩ := h99.2
            have hst := tk_step (b := b) w3.1 h13
            have hg2 := (pz_good (b := b) (n := n) e (F2 + 1)).1 3 op 0 [] _ _ (by omega) ho hst.1 hst.2.1 hr2
            have hb := one_vl (hg.2.2.2.bin hg2.2.2.2 (x := opAt 2 q.2.1) (opAt_bin (by rw [tw]; decide)) (L := Kf 3 op + 1) (by omega) (by omega)) (by unfold Kf; omega)
            rw [tw] at hb
            refine r_istore3 dX7_not_102 rfl ?_
            refine r_iload2 dX7_not_103 ?_
            refine rn_if_eq 115 dX7_not_104 rfl (fun _ => ?_) (fun h => absurd rfl h)
            refine r_iload1 dX7_not_115 ?_
            refine r_iload3 dX7_not_116 ?_
            refine rn_icmp_ne 124 dX7_not_117 rfl (fun c117 => ?_) (fun c117 => ?_)
            · refine rn_iconst (0) dX7_not_124 (by decide) ?_
              refine rn_iret dX7_not_125 rfl (Nat.zero_le _) (Nat.zero_le _) ?_
              refine ⟨_, rfl, rfl, rfl, ((h53.1.trans (lx_ps h95.1)).trans h99.1), u1, u2, u3, u4, ?_⟩
              show _ = vl e (q.1 ++ q2.1 ++ [opAt 2 q.2.1])
              rw [tw, hb, ← w5, ← u5]
              show _ = if x53 = x99 then 1 else 0
              rw [if_neg c117]
            · refine rn_iconst (1) dX7_not_120 (by decide) ?_
              refine rn_goto 125 dX7_not_121 rfl ?_
              refine rn_iret dX7_not_125 rfl (Nat.zero_le _) (Nat.zero_le _) ?_
              refine ⟨_, rfl, rfl, rfl, ((h53.1.trans (lx_ps h95.1)).trans h99.1), u1, u2, u3, u4, ?_⟩
              show _ = vl e (q.1 ++ q2.1 ++ [opAt 2 q.2.1])
              rw [tw, hb, ← w5, ← u5]
              show _ = if x53 = x99 then 1 else 0
              rw [if_pos c117]
        · rw [bI_0] at c63 c72
          rw [pz1_end (fun z => z.2 (opAt2 (fun z => c63 ⟨w1, z⟩) (fun z => c72 ⟨w1, z⟩)))] at hr
          cases hr
          refine r_iload1 dX7_not_75 ?_
          refine rn_iret dX7_not_76 rfl (Nat.zero_le _) (Nat.zero_le _) ?_
          exact ⟨_, rfl, rfl, rfl, h53.1, w1, w2, w3, w4, w5⟩
  · have t11 := (bI_1.mp (bI_or.resolve_left c15)).2
    rw [pz, if_neg (by decide), if_pos ⟨rfl, t11⟩] at hr
    refine r_aload0 dX7_not_18 ?_
    refine cliV0 dX7_not_19 ov_X7_opens rfl ml_X7_226 hM.1 rfl (Nat.zero_le _) (Nat.zero_le _) (Nat.zero_le _) (ct_opens _ hM hT ht (by omega) h33 h32 ho) (fun x19 iv lv h19 => ?_)
    obtain ⟨ho1, hor⟩ := h19
    rcases hor with ⟨q1, rfl, q3, q4⟩ | ⟨q1, rfl, q3, q4, q5⟩
    · rw [if_pos q1] at hr
      refine rn_if_ne 27 dX7_not_22 rfl (fun h => absurd rfl h) (fun _ => ?_)
      refine rn_iconst (0) dX7_not_25 (by decide) ?_
      refine rn_iret dX7_not_26 rfl (Nat.zero_le _) (Nat.zero_le _) ?_
      cases hr
      exact ⟨_, rfl, rfl, rfl, ho1, q3, q4⟩
    · rw [if_neg (by omega)] at hr
      obtain ⟨r1, hr1, hr⟩ := pb_some hr
      refine rn_if_ne 27 dX7_not_22 rfl (fun _ => ?_) (fun h => absurd h (by decide))
      refine r_aload0 dX7_not_27 ?_
      refine cliV0 dX7_not_28 ov_X7_not rfl ml_X7_244 hM.1 rfl (Nat.zero_le _) (Nat.zero_le _) (Nat.zero_le _) (h2 (op + 1) (D + 3) _ _ _ r1 (by unfold DM at *; omega) (by omega) (hT.ps ho1) q5 (lexS_v ht.1.2.1) q3 q4 (env_off ho1 he) hr1) (fun x28 iv lv h28 => ?_)
      rcases r1 with z | q
      · dsimp only at hr
        subst hr
        refine r_istore1 dX7_not_31 rfl ?_
        refine r_aload0 dX7_not_32 ?_
        refine rn_dup dX7_not_33 rfl ?_
        refine gf_X7_192 dX7_not_34 rfl hM.1 ?_
        refine rn_iconst (1) dX7_not_37 (by decide) ?_
        refine rn_isub dX7_not_38 ?_
        refine pf_X7_192 dX7_not_39 rfl hM.1 ?_
        refine r_iload1 dX7_not_42 ?_
        refine rn_if_ne 50 dX7_not_43 rfl (fun c43 => ?_) (fun c43 => ?_)
        · refine rn_iconst (0) dX7_not_50 (by decide) ?_
          refine rn_iret dX7_not_51 rfl (Nat.zero_le _) (Nat.zero_le _) ?_
          exact ⟨_, rfl, rfl, rfl, (ho1.trans h28.1).trans (off_up (by decide)), h28.2.1, h28.2.2⟩
        · refine rn_iconst (1) dX7_not_46 (by decide) ?_
          refine rn_goto 51 dX7_not_47 rfl ?_
          refine rn_iret dX7_not_51 rfl (Nat.zero_le _) (Nat.zero_le _) ?_
          exact ⟨_, rfl, rfl, rfl, (ho1.trans h28.1).trans (off_up (by decide)), h28.2.1, h28.2.2⟩
      · dsimp only at hr
        cases hr
        obtain ⟨w1, w2, w3, w4, w5⟩ := h28.2
        have hst := tk_step (b := b) ht.1 (by omega)
        have hg := (pz_good (b := b) (n := n) e F).1 2 (op + 1) 0 [] _ _ (by omega) (by omega) hst.1 hst.2.1 hr1
        have hu := one_vl (hg.2.2.2.un (x := -9) (Or.inl rfl)) (by unfold Kf; omega)
        refine r_istore1 dX7_not_31 rfl ?_
        refine r_aload0 dX7_not_32 ?_
        refine rn_dup dX7_not_33 rfl ?_
        refine gf_X7_192 dX7_not_34 rfl hM.1 ?_
        refine rn_iconst (1) dX7_not_37 (by decide) ?_
        refine rn_isub dX7_not_38 ?_
        refine pf_X7_192 dX7_not_39 rfl hM.1 ?_
        refine r_iload1 dX7_not_42 ?_
        refine rn_if_ne 50 dX7_not_43 rfl (fun c43 => ?_) (fun c43 => ?_)
        · refine rn_iconst (0) dX7_not_50 (by decide) ?_
          refine rn_iret dX7_not_51 rfl (Nat.zero_le _) (Nat.zero_le _) ?_
          refine ⟨_, rfl, rfl, rfl, (ho1.trans h28.1).trans (off_up (by decide)), w1, (up_same _ _ _ _).trans (by rw [w2]; exact nI_pred op), w3, w4, ?_⟩
          rw [hu, ← w5]
          unfold unS
          rw [if_pos rfl, if_neg c43]
        · refine rn_iconst (1) dX7_not_46 (by decide) ?_
          refine rn_goto 51 dX7_not_47 rfl ?_
          refine rn_iret dX7_not_51 rfl (Nat.zero_le _) (Nat.zero_le _) ?_
          refine ⟨_, rfl, rfl, rfl, (ho1.trans h28.1).trans (off_up (by decide)), w1, (up_same _ _ _ _).trans (by rw [w2]; exact nI_pred op), w3, w4, ?_⟩
          rw [hu, ← w5]
          unfold unS
          rw [if_pos rfl, if_pos c43]
theorem AM_none {M : MI} {L : Nat} : AM g l Γ rv b n f0 e M L 0 := by
  intro op D t iv lv r _ _ _ _ _ _ _ _ hr
  cases hr
/-- all levels, by whatever fuel -/
theorem AM_all (hM : ShM Γ rv) : ∀ F, ∀ f', f' ≤ F → AM g l Γ rv b n f0 e mX7_atom 5 f' ∧ AM g l Γ rv b n f0 e mX7_term 4 f' ∧ AM g l Γ rv b n f0 e mX7_added 3 f' ∧ AM g l Γ rv b n f0 e mX7_not 2 f' ∧ AM g l Γ rv b n f0 e mX7_both 1 f' ∧ AM g l Γ rv b n f0 e mX7_either 0 f' := by
  intro F
  induction F with
  | zero =>
    intro f' h
    have : f' = 0 := by omega
    subst this
    exact ⟨AM_none, AM_none, AM_none, AM_none, AM_none, AM_none⟩
  | succ F ih =>
    intro f' h
    rcases Nat.lt_or_ge f' (F + 1) with q | q
    · exact ih f' (by omega)
    · have : f' = F + 1 := by omega
      subst this
      obtain ⟨h5, h4, h3, h2, h1, h0⟩ := ih F (Nat.le_refl _)
      exact ⟨AM5_step hM h5 h0, AM4_step hM (fun f' h => (ih f' h).1), AM3_step hM (fun f' h => (ih f' h).2.1), AM2_step hM (fun f' h => (ih f' h).2.2.1) h2, AM1_step hM (fun f' h => (ih f' h).2.2.2.1), AM0_step hM (fun f' h => (ih f' h).2.2.2.2.1)⟩
theorem AM_either (hM : ShM Γ rv) (f : Nat) : AM g l Γ rv b n f0 e mX7_either 0 f := (AM_all hM f f (Nat.le_refl _)).2.2.2.2.2
end MNOT
/-- there is fuel enough -/
theorem pb_ne {r : PRes} {k : List Int32 → Tk → PRes} (h : r ≠ none) (hk : ∀ s t, r = some (.inr (s, t)) → k s t ≠ none) : pb r k ≠ none := by
  unfold pb
  split
  · exact hk _ _ rfl
  · exact h
theorem pz_total {b : Nat → Int32} {n : Nat} : ∀ f,
    (∀ lev op t, lev ≤ 5 → op ≤ 5 → TkOK n t → TkV t → 10 * (n - t.2.1) + 8 ≤ f + lev → pz b n f 0 lev op 0 [] t ≠ none)
    ∧ (∀ lev op cnt s t, lev ≤ 4 → op ≤ 5 → TkOK n t → TkV t → 10 * (n - t.2.1) + 2 ≤ f → pz b n f 1 lev op cnt s t ≠ none) := by
  intro f
  induction f with
  | zero => exact ⟨fun lev op t h1 _ _ _ h => by omega, fun lev op cnt s t _ _ _ _ h => by omega⟩
  | succ f ih =>
    obtain ⟨ih0, ih1⟩ := ih
    refine ⟨?_, ?_⟩
    · intro lev op t hl ho ht hv hf
      by_cases h5 : lev = 5
      · subst h5
        rw [pz5]
        split
        · intro h; cases h
        split
        · intro h; cases h
        split
        · split
          · intro h; cases h
          · have hst := tk_step (b := b) ht (by omega)
            have hlt := at_lt ht (by omega)
            exact pb_ne (ih0 5 (op + 1) _ (by omega) (by omega) hst.1 hst.2.1 (by omega)) (fun s t _ h => by cases h)
        split
        · split
          · intro h; cases h
          · have hst := tk_step (b := b) ht (by omega)
            have hlt := at_lt ht (by omega)
            refine pb_ne (ih0 0 (op + 1) _ (by omega) (by omega) hst.1 hst.2.1 (by omega)) (fun s t _ => ?_)
            split <;> (intro h; cases h)
        · intro h; cases h
      by_cases h11 : lev = 2 ∧ t.1 = 11
      · obtain ⟨h2, h11⟩ := h11
        subst h2
        rw [pz, if_neg (by decide), if_pos ⟨rfl, h11⟩]
        split
        · intro h; cases h
        · have hst := tk_step (b := b) ht (by omega)
          have hlt := at_lt ht (by omega)
          exact pb_ne (ih0 2 (op + 1) _ (by omega) (by omega) hst.1 hst.2.1 (by omega)) (fun s t _ h => by cases h)
      · rw [pzl (by omega) h11]
        refine pb_ne (ih0 (lev + 1) op _ (by omega) ho ht hv (by omega)) (fun s t1 h => ?_)
        have hg := (pz_good (b := b) (n := n) (fun _ => 0) f).1 (lev + 1) op 0 [] _ _ (by omega) ho ht hv h
        have := hg.2.2.1
        exact ih1 lev op _ s t1 (by omega) ho hg.1 hg.2.1 (by dsimp only at this; omega)
    · intro lev op cnt s t hl ho ht hv hf
      by_cases hc : 0 < cnt ∧ opAt lev t.1 ≠ 0
      · rw [pz1_go hc]
        have hst := tk_step (b := b) ht (opAt_13 hc.2)
        have hlt := at_lt ht (opAt_13 hc.2)
        refine pb_ne (ih0 (lev + 1) op _ (by omega) ho hst.1 hst.2.1 (by omega)) (fun s1 t1 h => ?_)
        have hg := (pz_good (b := b) (n := n) (fun _ => 0) f).1 (lev + 1) op 0 [] _ _ (by omega) ho hst.1 hst.2.1 h
        have := hg.2.2.1
        exact ih1 lev op _ _ t1 hl ho hg.1 hg.2.1 (by dsimp only at this; omega)
      · rw [pz1_end hc]
        intro h; cases h
