/-! THE REFERENCE: turn, passes, runs -/
theorem RM.grd {iv ρ : IV} (h : RM iv ρ) {y : Nat} {x : Int32} : RM (up iv 79 y x) (up ρ 0 y x) := by
  refine ⟨fun z hz => ⟨?_, ?_⟩, fun k γ h1 h2 h3 => ?_, fun k h1 h2 => ?_, ?_⟩
  · by_cases e : z = y
    · subst e; rw [up_same, up_same]
    · rw [up_ne2 e, up_ne2 e]; exact (h.1 z hz).1
  · rw [up_ne1 (by decide), up_ne1 (by decide)]; exact (h.1 z hz).2
  · rw [up_ne1 (by omega), up_ne1 (by omega)]; exact h.2.1 k γ h1 h2 h3
  · rw [up_ne1 (by decide), up_ne1 (by decide)]; exact h.2.2.1 k h1 h2
  · rw [up_ne1 (by decide), up_ne1 (by decide)]; exact h.2.2.2
theorem RM.known {iv ρ : IV} (h : RM iv ρ) {y : Nat} {x : Int32} : RM (up iv 80 y x) (up ρ 1 y x) := by
  refine ⟨fun z hz => ⟨?_, ?_⟩, fun k γ h1 h2 h3 => ?_, fun k h1 h2 => ?_, ?_⟩
  · rw [up_ne1 (by decide), up_ne1 (by decide)]; exact (h.1 z hz).1
  · by_cases e : z = y
    · subst e; rw [up_same, up_same]
    · rw [up_ne2 e, up_ne2 e]; exact (h.1 z hz).2
  · rw [up_ne1 (by omega), up_ne1 (by omega)]; exact h.2.1 k γ h1 h2 h3
  · rw [up_ne1 (by decide), up_ne1 (by decide)]; exact h.2.2.1 k h1 h2
  · rw [up_ne1 (by decide), up_ne1 (by decide)]; exact h.2.2.2
theorem RM.upg {iv ρ : IV} (h : RM iv ρ) (k : Nat) {γ : Nat} {x : Int32} (h1 : 1 ≤ k) (h2 : k ≤ 7) (hγ : γ < 2) : RM (up iv (80 + k) γ x) (up ρ (2 + γ) k x) := by
  refine ⟨fun z hz => ⟨?_, ?_⟩, fun k' γ' q1 q2 q3 => ?_, fun k' q1 q2 => ?_, ?_⟩
  · rw [up_ne1 (by omega), up_ne1 (by omega)]; exact (h.1 z hz).1
  · rw [up_ne1 (by omega), up_ne1 (by omega)]; exact (h.1 z hz).2
  · by_cases e : k' = k ∧ γ' = γ
    · obtain ⟨rfl, rfl⟩ := e; rw [up_same, up_same]
    · rw [up_ne (by omega), up_ne (by omega)]; exact h.2.1 k' γ' q1 q2 q3
  · rw [up_ne1 (by omega), up_ne1 (by omega)]; exact h.2.2.1 k' q1 q2
  · rw [up_ne1 (by omega), up_ne1 (by omega)]; exact h.2.2.2
theorem RM.ups {iv ρ : IV} (h : RM iv ρ) (k : Nat) {x : Int32} (h1 : 4 ≤ k) (h2 : k ≤ 7) : RM (up iv 75 (12 + k) x) (up ρ 4 k x) := by
  refine ⟨fun z hz => ⟨?_, ?_⟩, fun k' γ' q1 q2 q3 => ?_, fun k' q1 q2 => ?_, ?_⟩
  · rw [up_ne1 (by omega), up_ne1 (by omega)]; exact (h.1 z hz).1
  · rw [up_ne1 (by omega), up_ne1 (by omega)]; exact (h.1 z hz).2
  · rw [up_ne1 (by omega), up_ne1 (by omega)]; exact h.2.1 k' γ' q1 q2 q3
  · by_cases e : k' = k
    · subst e; rw [up_same, up_same]
    · rw [up_ne2 (by omega), up_ne2 (by omega)]; exact h.2.2.1 k' q1 q2
  · rw [up_ne2 (by omega), up_ne2 (by omega)]; exact h.2.2.2
theorem RM.upr {iv ρ : IV} (h : RM iv ρ) {x : Int32} : RM (up iv 75 4 x) (up ρ 4 8 x) := by
  refine ⟨fun z hz => ⟨?_, ?_⟩, fun k' γ' q1 q2 q3 => ?_, fun k' q1 q2 => ?_, ?_⟩
  · rw [up_ne1 (by omega), up_ne1 (by omega)]; exact (h.1 z hz).1
  · rw [up_ne1 (by omega), up_ne1 (by omega)]; exact (h.1 z hz).2
  · rw [up_ne1 (by omega), up_ne1 (by omega)]; exact h.2.1 k' γ' q1 q2 q3
  · rw [up_ne2 (by omega), up_ne2 (by omega)]; exact h.2.2.1 k' q1 q2
  · rw [up_same, up_same]
theorem turnS_def {S : Nat → Nat → List Int32} {ρ : IV} {γ : Nat} : turnS S ρ γ = turn3 (turn2 (turn1 S ρ γ) γ) γ := rfl
theorem ylp_stop {S : Nat → Nat → List Int32} {γ n : Nat} {ρ : IV} (h : ¬ 0 < aheadS ρ) : ylp S γ n ρ = ρ := by
  cases n with
  | zero => rfl
  | succ n => unfold ylp; rw [if_neg h]
theorem ylp_no {S : Nat → Nat → List Int32} {γ n : Nat} {ρ : IV} (h : 0 < aheadS ρ) (h2 : ρ (2 + γ) 5 < askS S ρ 1 (nextN ρ γ) (ρ (2 + γ) 3)) : ylp S γ (n + 1) ρ = ρ := by
  unfold ylp; rw [if_pos h, if_pos h2]
theorem ylp_yes {S : Nat → Nat → List Int32} {γ n : Nat} {ρ : IV} (h : 0 < aheadS ρ) (h2 : ¬ ρ (2 + γ) 5 < askS S ρ 1 (nextN ρ γ) (ρ (2 + γ) 3)) : ylp S γ (n + 1) ρ = ylp S γ n (yardS ρ γ (askS S ρ 1 (nextN ρ γ) (ρ (2 + γ) 3))) := by
  rw [ylp, if_pos h, if_neg h2]
theorem rule_yard {ρ : IV} {γ : Nat} {x : Int32} (hγ : γ < 2) : yardS ρ γ x 4 8 = ρ 4 8 := by
  unfold yardS; rw [up_ne1 (by omega), up_ne1 (by omega), up_ne1 (by omega), up_ne1 (by omega)]
theorem rule_ylp {S : Nat → Nat → List Int32} {γ : Nat} (hγ : γ < 2) : ∀ n ρ, ylp S γ n ρ 4 8 = ρ 4 8 := by
  intro n
  induction n with
  | zero => intro ρ; rfl
  | succ n ih => intro ρ; unfold ylp; split; split; rfl; rw [ih]; exact rule_yard hγ; rfl
theorem rule_turn {S : Nat → Nat → List Int32} {ρ : IV} {γ : Nat} (hγ : γ < 2) : turnS S ρ γ 4 8 = ρ 4 8 := by
  have h1 : turn1 S ρ γ 4 8 = ρ 4 8 := by unfold turn1; rw [rule_ylp hγ, up_ne1 (by omega)]
  unfold turnS turn3
  rw [up_ne1 (by omega), up_ne1 (by omega)]
  unfold turn2
  split
  · rw [up_ne1 (by omega)]; exact h1
  · exact h1
theorem rule_half {S : Nat → Nat → List Int32} {ρ : IV} {γ : Nat} {idl : Int32} (hγ : γ < 2) : half1 S ρ γ idl 4 8 = ρ 4 8 := by
  unfold half1; split; exact rule_turn hγ; rfl
theorem rule_pass {S : Nat → Nat → List Int32} {ρ : IV} {idl : Int32} : passS S ρ idl 4 8 = ρ 4 8 := by
  unfold passS dayS
  rw [up_ne2 (by decide), rule_half (by decide), rule_half (by decide)]
theorem rule_run {S : Nat → Nat → List Int32} {idl idle : Int32} : ∀ n k ρ, (runS S idl idle n k ρ).2 4 8 = ρ 4 8 := by
  intro n
  induction n with
  | zero => intro k ρ; rfl
  | succ n ih => intro k ρ; unfold runS; split; rw [ih]; exact rule_pass; rfl
section MTURN
variable {g : GS} {l : Launch} {Γ : Sh} {iv : IV} {rv : RV} {lv : LV}
set_option maxRecDepth 4000 in
theorem tn_loop {D : Nat} {Q : Qt} (hM : ShM Γ rv) {S : Nat → Nat → List Int32} {T : Nat} (hT6 : T ≤ 6) {t : Nat} (htT : t < T) {γ : Nat} {G : Int32} (hG : G = nI γ) (hγ : γ < 2) : ∀ (n : Nat) (iv : IV) (lv : LV) (ρ : IV) (v3 v4 : Value), v3.category = 1 → v4.category = 1 → RM iv ρ → TextsM iv T S → GR ρ → ρ 4 8 = nI t → 24 - (uO ρ + vO ρ) ≤ n →
    (∀ iv' lv' v2 v3 v4, v2.category = 1 → v3.category = 1 → v4.category = 1 → Off Tn iv iv' → RM iv' (ylp S γ n ρ) → Rn g l mX7_turn (rmA (D + 49) 0 0) Q 0 0 106 [.ref 75, .int G, v2, v3, v4] [] Γ iv' rv lv') → Rn g l mX7_turn (rmA (D + 49) 0 0) Q 0 0 16 [.ref 75, .int G, .int 1, v3, v4] [] Γ iv rv lv := by
  intro n
  induction n with
  | zero =>
    intro iv lv ρ v3 v4 a3 a4 hR hX hg ht hn kk
    have hpos : ¬ 0 < aheadS ρ := fun z => by have := (ahead_pos hg).mp z; omega
    refine r_iload2 dX7_turn_16 ?_
    refine rn_if_eq 106 dX7_turn_17 rfl (fun h => absurd h (by decide)) (fun _ => ?_)
    refine r_aload0 dX7_turn_20 ?_
    refine cpiV0 dX7_turn_21 ov_X7_left rfl ml_X7_137 hM.1 rfl (Nat.zero_le _) (Nat.zero_le _) (Nat.zero_le _) (ct_left _ hM) ?_
    refine rn_eqi _ hR.left ?_
    refine rn_if_le 106 dX7_turn_24 rfl (fun _ => ?_) (fun h => absurd (Int32.not_lt.mp hpos) h)
    exact kk _ _ _ _ _ rfl a3 a4 Off.refl (by rw [ylp_stop hpos]; exact hR)
  | succ n ih =>
    intro iv lv ρ v3 v4 a3 a4 hR hX hg ht hn kk
    by_cases hpos : 0 < aheadS ρ
    · have hlt := (ahead_pos hg).mp hpos
      have hy := next_lt (γ := γ) hlt
      refine r_iload2 dX7_turn_16 ?_
      refine rn_if_eq 106 dX7_turn_17 rfl (fun h => absurd h (by decide)) (fun _ => ?_)
      refine r_aload0 dX7_turn_20 ?_
      refine cpiV0 dX7_turn_21 ov_X7_left rfl ml_X7_137 hM.1 rfl (Nat.zero_le _) (Nat.zero_le _) (Nat.zero_le _) (ct_left _ hM) ?_
      refine rn_eqi _ hR.left ?_
      refine rn_if_le 106 dX7_turn_24 rfl (fun h => absurd h (Int32.not_le.mpr hpos)) (fun _ => ?_)
      refine r_aload0 dX7_turn_27 ?_
      refine r_iload1 dX7_turn_28 ?_
      refine cpiV1 dX7_turn_29 ov_X7_nextOf rfl ml_X7_275 hM.1 rfl (Nat.zero_le _) (Nat.zero_le _) (Nat.zero_le _) (ct_nextOf _ hM _) ?_
      refine rn_eqi _ (hR.next hg hlt hγ hG) ?_
      refine r_istore3 dX7_turn_32 rfl ?_
      refine r_aload0 dX7_turn_33 ?_
      refine r_iload3 dX7_turn_34 ?_
      refine r_iload1 dX7_turn_35 ?_
      refine cliV2 dX7_turn_36 ov_X7_needs rfl ml_X7_110 hM.1 rfl (Nat.zero_le _) (Nat.zero_le _) (Nat.zero_le _) (ct_needs D hM hR hX hT6 ht htT rfl hy hG hγ) (fun x36 iv lv h36 => ?_)
      have hR1 := hR.off h36.1
      refine r_istore4 dX7_turn_39 rfl ?_
      refine r_aload0 dX7_turn_41 ?_
      refine gf_X7_41 dX7_turn_42 rfl hM.1 (sm_work hM).1 ?_
      refine r_iload1 dX7_turn_45 ?_
      refine rn_iald γ dX7_turn_46 (sm_work hM).2 hG hγ (by decide) ?_
      refine rn_eqi _ (hR1.gang 5 (by decide) (by decide) hγ) ?_
      refine r_iload4 dX7_turn_47 ?_
      refine rn_icmp_lt 56 dX7_turn_49 rfl (fun c49 => ?_) (fun c49 => ?_)
      · refine rn_iconst (0) dX7_turn_56 (by decide) ?_
        refine r_istore2 dX7_turn_57 rfl ?_
        refine r_iload2 dX7_turn_58 ?_
        refine rn_if_eq 103 dX7_turn_59 rfl (fun _ => ?_) (fun h => absurd (by decide) h)
        refine rn_goto 16 dX7_turn_103 rfl ?_
        refine r_iload2 dX7_turn_16 ?_
        refine rn_if_eq 106 dX7_turn_17 rfl (fun _ => ?_) (fun h => absurd (by decide) h)
        exact kk _ _ _ _ _ rfl rfl rfl (sy_tn h36.1) (by rw [ylp_no hpos (by rw [← h36.2]; exact c49)]; exact hR1)
      · refine rn_iconst (1) dX7_turn_52 (by decide) ?_
        refine rn_goto 57 dX7_turn_53 rfl ?_
        refine r_istore2 dX7_turn_57 rfl ?_
        refine r_iload2 dX7_turn_58 ?_
        refine rn_if_eq 103 dX7_turn_59 rfl (fun h => absurd h (by decide)) (fun _ => ?_)
        refine r_aload0 dX7_turn_62 ?_
        refine gf_X7_26 dX7_turn_63 rfl hM.1 (sm_known hM).1 ?_
        refine r_iload3 dX7_turn_66 ?_
        refine rn_iconst (1) dX7_turn_67 (by decide) ?_
        refine rn_iast (nextN ρ γ) dX7_turn_68 (sm_known hM).2 rfl hy (by decide) ?_
        refine r_aload0 dX7_turn_69 ?_
        refine gf_X7_41 dX7_turn_70 rfl hM.1 (sm_work hM).1 ?_
        refine r_iload1 dX7_turn_73 ?_
        refine rn_dup2 dX7_turn_74 rfl rfl ?_
        refine rn_iald γ dX7_turn_75 (sm_work hM).2 hG hγ (by decide) ?_
        refine rn_eqi (ρ (2 + γ) 5) (hR1.gang 5 (by decide) (by decide) hγ) ?_
        refine r_iload4 dX7_turn_76 ?_
        refine rn_isub dX7_turn_78 ?_
        refine rn_iast γ dX7_turn_79 (sm_work hM).2 hG hγ (by decide) ?_
        refine r_aload0 dX7_turn_80 ?_
        refine gf_X7_44 dX7_turn_81 rfl hM.1 (sm_earned hM).1 ?_
        refine r_iload1 dX7_turn_84 ?_
        refine rn_dup2 dX7_turn_85 rfl rfl ?_
        refine rn_iald γ dX7_turn_86 (sm_earned hM).2 hG hγ (by decide) ?_
        refine rn_eqi (ρ (2 + γ) 6) (hR1.gang 6 (by decide) (by decide) hγ) ?_
        refine r_aload0 dX7_turn_87 ?_
        refine gf_X7_50 dX7_turn_88 rfl hM.1 ?_
        refine rn_eqi (ρ 4 5) (hR1.2.2.1 5 (by decide) (by decide)) ?_
        refine rn_iadd dX7_turn_91 ?_
        refine rn_iast γ dX7_turn_92 (sm_earned hM).2 hG hγ (by decide) ?_
        refine r_aload0 dX7_turn_93 ?_
        refine gf_X7_38 dX7_turn_94 rfl hM.1 (sm_dones hM).1 ?_
        refine r_iload1 dX7_turn_97 ?_
        refine rn_dup2 dX7_turn_98 rfl rfl ?_
        refine rn_iald γ dX7_turn_99 (sm_dones hM).2 hG hγ (by decide) ?_
        refine rn_eqi (ρ (2 + γ) 4) (hR1.gang 4 (by decide) (by decide) hγ) ?_
        refine rn_iconst (1) dX7_turn_100 (by decide) ?_
        refine rn_iadd dX7_turn_101 ?_
        refine rn_iast γ dX7_turn_102 (sm_dones hM).2 hG hγ (by decide) ?_
        refine rn_goto 16 dX7_turn_103 rfl ?_
        have hy1 := hg.yard hγ hlt (askS S ρ 1 (nextN ρ γ) (ρ (2 + γ) 3))
        have hR5 : RM _ (yardS ρ γ (askS S ρ 1 (nextN ρ γ) (ρ (2 + γ) 3))) := (((hR1.known (y := nextN ρ γ) (x := 1)).upg 5 (by decide) (by decide) hγ).upg 6 (by decide) (by decide) hγ).upg 4 (by decide) (by decide) hγ
        have ho5 : Off Tn _ _ := (((off_up (S := Tn) (iv := iv) (i := 80) (k := nextN ρ γ) (x := 1) (by omega)).trans (off_up (i := 85) (k := γ) (x := ρ (2 + γ) 5 - x36) (by omega))).trans (off_up (i := 86) (k := γ) (x := ρ (2 + γ) 6 + ρ 4 5) (by omega))).trans (off_up (i := 84) (k := γ) (x := ρ (2 + γ) 4 + 1) (by omega))
        refine ih _ _ _ _ _ rfl rfl ?_ ((hX.sy h36.1).tn ho5) hy1.1 ((rule_yard hγ).trans ht) (by omega) (fun iv2 lv2 v2 v3 v4 b1 b2 b3 ho hR2 => kk iv2 lv2 v2 v3 v4 b1 b2 b3 (((sy_tn h36.1).trans ho5).trans ho) (by rw [ylp_yes hpos (by rw [← h36.2]; exact c49)]; exact hR2))
        rw [h36.2]; exact hR5
    · skip
      refine r_iload2 dX7_turn_16 ?_
      refine rn_if_eq 106 dX7_turn_17 rfl (fun h => absurd h (by decide)) (fun _ => ?_)
      refine r_aload0 dX7_turn_20 ?_
      refine cpiV0 dX7_turn_21 ov_X7_left rfl ml_X7_137 hM.1 rfl (Nat.zero_le _) (Nat.zero_le _) (Nat.zero_le _) (ct_left _ hM) ?_
      refine rn_eqi _ hR.left ?_
      refine rn_if_le 106 dX7_turn_24 rfl (fun _ => ?_) (fun h => absurd (Int32.not_lt.mp hpos) h)
      exact kk _ _ _ _ _ rfl a3 a4 Off.refl (by rw [ylp_stop hpos]; exact hR)
set_option maxRecDepth 4000 in
theorem ct_mturn (D : Nat) (hM : ShM Γ rv) {ρ : IV} {S : Nat → Nat → List Int32} {T : Nat} (hR : RM iv ρ) (hX : TextsM iv T S) (hT6 : T ≤ 6) {t : Nat} (ht : ρ 4 8 = nI t) (htT : t < T) (hg : GR ρ) (hlt : uO ρ + vO ρ < 24) {γ : Nat} {G : Int32} (hG : G = nI γ) (hγ : γ < 2) : Ct g l mX7_turn (D + 49) 0 0 [.ref 75, .int G] Γ iv rv lv (qLV Γ rv (fun iv' _ => Off Tn iv iv' ∧ RM iv' (turnS S ρ γ))) := by
  refine Ct.of (by decide +kernel) (Nat.le_of_ble_eq_true rfl) (Nat.le_of_ble_eq_true rfl) ?_
  have hgl := turnS_def (S := S) (ρ := ρ) (γ := γ)
  rw [hgl]
  refine r_aload0 dX7_turn_0 ?_
  refine gf_X7_41 dX7_turn_1 rfl hM.1 (sm_work hM).1 ?_
  refine r_iload1 dX7_turn_4 ?_
  refine rn_dup2 dX7_turn_5 rfl rfl ?_
  refine rn_iald γ dX7_turn_6 (sm_work hM).2 hG hγ (by decide) ?_
  refine rn_eqi (ρ (2 + γ) 5) (hR.gang 5 (by decide) (by decide) hγ) ?_
  refine r_aload0 dX7_turn_7 ?_
  refine r_iload1 dX7_turn_8 ?_
  refine cliV1 dX7_turn_9 ov_X7_does rfl ml_X7_141 hM.1 rfl (Nat.le_of_ble_eq_true rfl) (Nat.zero_le _) (Nat.zero_le _) (ct_mdoes D hM hR hX hT6 ht htT hg hlt hG hγ) (fun x9 iv lv h9 => ?_)
  have hR1 := hR.off h9.1
  refine rn_iadd dX7_turn_12 ?_
  refine rn_iast γ dX7_turn_13 (sm_work hM).2 hG hγ (by decide) ?_
  refine rn_iconst (1) dX7_turn_14 (by decide) ?_
  refine r_istore2 dX7_turn_15 rfl ?_
  have hof9 : Off Tn iv (up iv 85 γ (ρ (2 + γ) 5 + x9)) := off_up (by omega)
  have hgu : GR (up ρ (2 + γ) 5 (ρ (2 + γ) 5 + x9)) := hg.upd (by omega) (by omega) (by omega) (by omega)
  have huv := uv_upd (ρ := ρ) (i := 2 + γ) (k := 5) (x := ρ (2 + γ) 5 + x9) (by omega)
  refine tn_loop (ρ := up ρ (2 + γ) 5 (ρ (2 + γ) 5 + x9)) hM hT6 htT hG hγ 24 _ _ _ _ rfl rfl (hR1.upg 5 (by decide) (by decide) hγ) ((hX.sy h9.1).tn hof9) hgu ((up_ne1 (show 4 ≠ 2 + γ by omega)).trans ht) (by omega) (fun iv1 lv1 v2 v3 v4 b2 b3 b4 ho hR2 => ?_)
  have ho1 := ((sy_tn h9.1).trans hof9).trans ho
  rw [h9.2] at hR2 hgu
  have hR3 : RM iv1 (turn1 S ρ γ) := hR2
  have hg3 : GR (turn1 S ρ γ) := gr_ylp hγ 24 _ hgu
  clear hR2 ho
  generalize turn1 S ρ γ = ρ1 at hR3 hg3 hgl
  refine r_aload0 dX7_turn_106 ?_
  refine cpiV0 dX7_turn_107 ov_X7_left rfl ml_X7_137 hM.1 rfl (Nat.zero_le _) (Nat.zero_le _) (Nat.zero_le _) (ct_left _ hM) ?_
  refine rn_eqi _ hR3.left ?_
  refine rn_if_ne 120 dX7_turn_110 rfl (fun c110 => ?_) (fun c110 => ?_)
  · have e2 : turn2 ρ1 γ = ρ1 := by unfold turn2; rw [if_neg c110]
    have hR4 : RM iv1 (turn2 ρ1 γ) := by rw [e2]; exact hR3
    have hg4 : GR (turn2 ρ1 γ) := by rw [e2]; exact hg3
    have ho4 := ho1
    refine r_aload0 dX7_turn_120 ?_
    refine gf_X7_47 dX7_turn_121 rfl hM.1 (sm_spent hM).1 ?_
    refine r_iload1 dX7_turn_124 ?_
    refine rn_dup2 dX7_turn_125 rfl rfl ?_
    refine rn_iald γ dX7_turn_126 (sm_spent hM).2 hG hγ (by decide) ?_
    refine rn_eqi (turn2 ρ1 γ (2 + γ) 7) (hR4.gang 7 (by decide) (by decide) hγ) ?_
    refine r_aload0 dX7_turn_127 ?_
    refine gf_X7_35 dX7_turn_128 rfl hM.1 (sm_men hM).1 ?_
    refine r_iload1 dX7_turn_131 ?_
    refine rn_iald γ dX7_turn_132 (sm_men hM).2 hG hγ (by decide) ?_
    refine rn_eqi (turn2 ρ1 γ (2 + γ) 3) (hR4.gang 3 (by decide) (by decide) hγ) ?_
    refine r_aload0 dX7_turn_133 ?_
    refine gf_X7_53 dX7_turn_134 rfl hM.1 ?_
    refine rn_eqi (turn2 ρ1 γ 4 7) (hR4.2.2.1 7 (by decide) (by decide)) ?_
    refine rn_imul dX7_turn_137 ?_
    refine r_aload0 dX7_turn_138 ?_
    refine r_iload1 dX7_turn_139 ?_
    refine cpiV1 dX7_turn_140 ov_X7_costs rfl ml_X7_134 hM.1 rfl (Nat.le_of_ble_eq_true rfl) (Nat.zero_le _) (Nat.zero_le _) (ct_mcosts _ hM hR4 hg4 hG hγ) ?_
    refine rn_iadd dX7_turn_143 ?_
    refine rn_iadd dX7_turn_144 ?_
    refine rn_iast γ dX7_turn_145 (sm_spent hM).2 hG hγ (by decide) ?_
    refine r_aload0 dX7_turn_146 ?_
    refine gf_X7_44 dX7_turn_147 rfl hM.1 (sm_earned hM).1 ?_
    refine r_iload1 dX7_turn_150 ?_
    refine rn_dup2 dX7_turn_151 rfl rfl ?_
    refine rn_iald γ dX7_turn_152 (sm_earned hM).2 hG hγ (by decide) ?_
    refine rn_eqi (turn2 ρ1 γ (2 + γ) 6) (hR4.gang 6 (by decide) (by decide) hγ) ?_
    refine r_aload0 dX7_turn_153 ?_
    refine gf_X7_129 dX7_turn_154 rfl hM.1 ?_
    refine rn_eqi (turn2 ρ1 γ 4 6) (hR4.2.2.1 6 (by decide) (by decide)) ?_
    refine rn_iadd dX7_turn_157 ?_
    refine rn_iast γ dX7_turn_158 (sm_earned hM).2 hG hγ (by decide) ?_
    refine rn_vret dX7_turn_159 rfl (Nat.zero_le _) (Nat.zero_le _) ?_
    exact ⟨rfl, rfl, rfl, (ho4.trans (off_up (by omega))).trans (off_up (by omega)), (hR4.upg 7 (by decide) (by decide) hγ).upg 6 (by decide) (by decide) hγ⟩
  · refine r_aload0 dX7_turn_113 ?_
    refine gf_X7_41 dX7_turn_114 rfl hM.1 (sm_work hM).1 ?_
    refine r_iload1 dX7_turn_117 ?_
    refine rn_iconst (0) dX7_turn_118 (by decide) ?_
    refine rn_iast γ dX7_turn_119 (sm_work hM).2 hG hγ (by decide) ?_
    have e2 : turn2 ρ1 γ = up ρ1 (2 + γ) 5 0 := by unfold turn2; rw [if_pos c110]
    have hR4 : RM (up iv1 85 γ 0) (turn2 ρ1 γ) := by rw [e2]; exact hR3.upg 5 (by decide) (by decide) hγ
    have hg4 : GR (turn2 ρ1 γ) := by rw [e2]; exact hg3.upd (by omega) (by omega) (by omega) (by omega)
    have ho4 := ho1.trans (off_up (S := Tn) (iv := iv1) (i := 85) (k := γ) (x := 0) (by omega))
    refine r_aload0 dX7_turn_120 ?_
    refine gf_X7_47 dX7_turn_121 rfl hM.1 (sm_spent hM).1 ?_
    refine r_iload1 dX7_turn_124 ?_
    refine rn_dup2 dX7_turn_125 rfl rfl ?_
    refine rn_iald γ dX7_turn_126 (sm_spent hM).2 hG hγ (by decide) ?_
    refine rn_eqi (turn2 ρ1 γ (2 + γ) 7) (hR4.gang 7 (by decide) (by decide) hγ) ?_
    refine r_aload0 dX7_turn_127 ?_
    refine gf_X7_35 dX7_turn_128 rfl hM.1 (sm_men hM).1 ?_
    refine r_iload1 dX7_turn_131 ?_
    refine rn_iald γ dX7_turn_132 (sm_men hM).2 hG hγ (by decide) ?_
    refine rn_eqi (turn2 ρ1 γ (2 + γ) 3) (hR4.gang 3 (by decide) (by decide) hγ) ?_
    refine r_aload0 dX7_turn_133 ?_
    refine gf_X7_53 dX7_turn_134 rfl hM.1 ?_
    refine rn_eqi (turn2 ρ1 γ 4 7) (hR4.2.2.1 7 (by decide) (by decide)) ?_
    refine rn_imul dX7_turn_137 ?_
    refine r_aload0 dX7_turn_138 ?_
    refine r_iload1 dX7_turn_139 ?_
    refine cpiV1 dX7_turn_140 ov_X7_costs rfl ml_X7_134 hM.1 rfl (Nat.le_of_ble_eq_true rfl) (Nat.zero_le _) (Nat.zero_le _) (ct_mcosts _ hM hR4 hg4 hG hγ) ?_
    refine rn_iadd dX7_turn_143 ?_
    refine rn_iadd dX7_turn_144 ?_
    refine rn_iast γ dX7_turn_145 (sm_spent hM).2 hG hγ (by decide) ?_
    refine r_aload0 dX7_turn_146 ?_
    refine gf_X7_44 dX7_turn_147 rfl hM.1 (sm_earned hM).1 ?_
    refine r_iload1 dX7_turn_150 ?_
    refine rn_dup2 dX7_turn_151 rfl rfl ?_
    refine rn_iald γ dX7_turn_152 (sm_earned hM).2 hG hγ (by decide) ?_
    refine rn_eqi (turn2 ρ1 γ (2 + γ) 6) (hR4.gang 6 (by decide) (by decide) hγ) ?_
    refine r_aload0 dX7_turn_153 ?_
    refine gf_X7_129 dX7_turn_154 rfl hM.1 ?_
    refine rn_eqi (turn2 ρ1 γ 4 6) (hR4.2.2.1 6 (by decide) (by decide)) ?_
    refine rn_iadd dX7_turn_157 ?_
    refine rn_iast γ dX7_turn_158 (sm_earned hM).2 hG hγ (by decide) ?_
    refine rn_vret dX7_turn_159 rfl (Nat.zero_le _) (Nat.zero_le _) ?_
    exact ⟨rfl, rfl, rfl, (ho4.trans (off_up (by omega))).trans (off_up (by omega)), (hR4.upg 7 (by decide) (by decide) hγ).upg 6 (by decide) (by decide) hγ⟩
end MTURN
