/-! THE REFERENCE: gain, worthAll, run -/
/-- what no day changes -/
def KeepS (ρ ρ' : IV) : Prop := (∀ k γ, 1 ≤ k → k ≤ 3 → γ < 2 → ρ' (2 + γ) k = ρ (2 + γ) k) ∧ (∀ k, 5 ≤ k → k ≤ 8 → ρ' 4 k = ρ 4 k) ∧ ∀ y, ρ' 0 y = ρ 0 y
theorem KeepS.refl {ρ : IV} : KeepS ρ ρ := ⟨fun _ _ _ _ _ => rfl, fun _ _ _ => rfl, fun _ => rfl⟩
theorem KeepS.trans {a b c : IV} (h1 : KeepS a b) (h2 : KeepS b c) : KeepS a c := ⟨fun k γ x y z => (h2.1 k γ x y z).trans (h1.1 k γ x y z), fun k x y => (h2.2.1 k x y).trans (h1.2.1 k x y), fun y => (h2.2.2 y).trans (h1.2.2 y)⟩
theorem keep_up {ρ : IV} {i k : Nat} {x : Int32} (h : i = 1 ∨ ((i = 2 ∨ i = 3) ∧ 4 ≤ k) ∨ (i = 4 ∧ k = 4)) : KeepS ρ (up ρ i k x) := ⟨fun k' γ a b c => up_ne (by omega), fun k' a b => up_ne (by omega), fun y => up_ne (by omega)⟩
theorem keep_yard {ρ : IV} {γ : Nat} {x : Int32} (hγ : γ < 2) : KeepS ρ (yardS ρ γ x) := (((keep_up (by omega)).trans (keep_up (by omega))).trans (keep_up (by omega))).trans (keep_up (by omega))
theorem keep_ylp {S : Nat → Nat → List Int32} {γ : Nat} (hγ : γ < 2) : ∀ n ρ, KeepS ρ (ylp S γ n ρ) := by
  intro n
  induction n with
  | zero => intro ρ; exact KeepS.refl
  | succ n ih =>
    intro ρ; unfold ylp; split
    · split
      · exact KeepS.refl
      · exact (keep_yard hγ).trans (ih _)
    · exact KeepS.refl
theorem keep_turn {S : Nat → Nat → List Int32} {ρ : IV} {γ : Nat} (hγ : γ < 2) : KeepS ρ (turnS S ρ γ) := by
  have h1 : KeepS ρ (turn1 S ρ γ) := (keep_up (by omega)).trans (keep_ylp hγ 24 _)
  have h2 : KeepS ρ (turn2 (turn1 S ρ γ) γ) := by
    unfold turn2; split
    · exact h1.trans (keep_up (by omega))
    · exact h1
  exact (h2.trans (keep_up (by omega))).trans (keep_up (by omega))
theorem keep_half {S : Nat → Nat → List Int32} {ρ : IV} {γ : Nat} {idl : Int32} (hγ : γ < 2) : KeepS ρ (half1 S ρ γ idl) := by
  unfold half1; split
  · exact keep_turn hγ
  · exact KeepS.refl
theorem keep_pass {S : Nat → Nat → List Int32} {ρ : IV} {idl : Int32} : KeepS ρ (passS S ρ idl) := ((keep_half (by decide)).trans (keep_half (by decide))).trans (keep_up (by decide))
theorem keep_run {S : Nat → Nat → List Int32} {idl idle : Int32} : ∀ n k ρ, KeepS ρ (runS S idl idle n k ρ).2 := by
  intro n
  induction n with
  | zero => intro k ρ; exact KeepS.refl
  | succ n ih =>
    intro k ρ; unfold runS; split
    · exact keep_pass.trans (ih _ _)
    · exact KeepS.refl
theorem KeepS.kp {ρ0 ρ : IV} (h : KeepS ρ0 ρ) : Kp ρ0 ρ := ⟨fun k γ a b c => h.1 k γ a (by omega) c, h.2.1 6 (by decide) (by decide), h.2.1 7 (by decide) (by decide), h.2.1 8 (by decide) (by decide)⟩
/-- cells that a question may write -/
abbrev Scr (a b : Nat) : Prop := (79 ≤ a ∧ a ≤ 90) ∨ (a = 75 ∧ 4 ≤ b ∧ b ≠ 6 ∧ b < 45 ∧ b ≠ 41)
abbrev Scm (a b : Nat) : Prop := (79 ≤ a ∧ a ≤ 90) ∨ (a = 75 ∧ 4 ≤ b ∧ b ≠ 6 ∧ b < 45)
theorem scr_m {iv iv' : IV} (h : Off Scr iv iv') : Off Scm iv iv' := h.mono (fun a b z => by omega)
theorem ru_scr {iv iv' : IV} (h : Off Ru iv iv') : Off Scr iv iv' := h.mono (fun a b z => by omega)
theorem pn_scr {iv iv' : IV} (h : Off Pn iv iv') : Off Scr iv iv' := h.mono (fun a b z => by omega)
theorem sy_scr {iv iv' : IV} (h : Off Sy iv iv') : Off Scr iv iv' := h.mono (fun a b z => by omega)
theorem as_scr {iv iv' : IV} (h : Off As iv iv') : Off Scr iv iv' := h.mono (fun a b z => by omega)
theorem bk_scr {iv iv' : IV} (h : Off Bk iv iv') : Off Scr iv iv' := h.mono (fun a b z => by omega)
theorem AsM.ru {iv iv' ρ : IV} (h : AsM iv ρ) (ho : Off Ru iv iv') : AsM iv' ρ := h.off ho (fun a b z => by omega)
theorem AsM.pn {iv iv' ρ : IV} (h : AsM iv ρ) (ho : Off Pn iv iv') : AsM iv' ρ := h.off ho (fun a b z => by omega)
theorem AsM.bk {iv iv' ρ : IV} (h : AsM iv ρ) (ho : Off Bk iv iv') : AsM iv' ρ := h.off ho (fun a b z => by omega)
theorem TextsM.scr {iv iv' : IV} {T : Nat} {S : Nat → Nat → List Int32} (h : TextsM iv T S) (ho : Off Scr iv iv') : TextsM iv' T S := h.off ho (fun b => ⟨by omega, by omega⟩)
theorem TextsM.scm {iv iv' : IV} {T : Nat} {S : Nat → Nat → List Int32} (h : TextsM iv T S) (ho : Off Scm iv iv') : TextsM iv' T S := h.off ho (fun b => ⟨by omega, by omega⟩)
def gainS (ρ : IV) (γ : Nat) : Int32 := ρ (2 + γ) 6 - ρ (2 + γ) 7
def worthN (S : Nat → Nat → List Int32) (ρ : IV) : Nat → Int32
  | 0 => 0
  | n + 1 => worthN S ρ n + askS S ρ 2 n (ρ 2 3)
/-- the road when they meet -/
def endS (S : Nat → Nat → List Int32) (ρ : IV) : Nat × IV := runS S (-1) 0 300 0 ρ
def runQ (S : Nat → Nat → List Int32) (ρ : IV) (w : Int32) : Int32 := if 0 ≤ w ∧ w ≤ 5 then (if w = 0 then nI (endS S ρ).1 else if w = 1 then (endS S ρ).2 2 4 else if w < 4 then gainS (endS S ρ).2 (w - 2).toNatClampNeg else if w = 4 then (endS S ρ).2 2 6 + (endS S ρ).2 3 6 else worthN S ρ 24 - ((endS S ρ).2 2 6 + (endS S ρ).2 3 6)) else -100000
section MRUN
variable {g : GS} {l : Launch} {Γ : Sh} {iv : IV} {rv : RV} {lv : LV}
set_option maxRecDepth 4000 in
theorem ct_mgain (D : Nat) (hM : ShM Γ rv) {ρ : IV} (hR : RM iv ρ) {γ : Nat} {G : Int32} (hG : G = nI γ) (hγ : γ < 2) : Ct g l mX7_gain (D) 0 0 [.ref 75, .int G] Γ iv rv lv (qPI (gainS ρ γ) Γ iv rv lv) := by
  refine Ct.of (by decide +kernel) (Nat.le_of_ble_eq_true rfl) (Nat.le_of_ble_eq_true rfl) ?_
  refine r_aload0 dX7_gain_0 ?_
  refine gf_X7_44 dX7_gain_1 rfl hM.1 (sm_earned hM).1 ?_
  refine r_iload1 dX7_gain_4 ?_
  refine rn_iald γ dX7_gain_5 (sm_earned hM).2 hG hγ (by decide) ?_
  refine rn_eqi _ (hR.gang 6 (by decide) (by decide) hγ) ?_
  refine r_aload0 dX7_gain_6 ?_
  refine gf_X7_47 dX7_gain_7 rfl hM.1 (sm_spent hM).1 ?_
  refine r_iload1 dX7_gain_10 ?_
  refine rn_iald γ dX7_gain_11 (sm_spent hM).2 hG hγ (by decide) ?_
  refine rn_eqi _ (hR.gang 7 (by decide) (by decide) hγ) ?_
  refine rn_isub dX7_gain_12 ?_
  refine rn_iret dX7_gain_13 rfl (Nat.zero_le _) (Nat.zero_le _) ?_
  exact ⟨rfl, rfl, rfl, rfl, rfl⟩
set_option maxRecDepth 4000 in
theorem wa_loop {D : Nat} {Q : Qt} (hM : ShM Γ rv) {ρ : IV} {S : Nat → Nat → List Int32} {T : Nat} (hT6 : T ≤ 6) {t : Nat} (ht : ρ 4 8 = nI t) (htT : t < T) {iv0 : IV} : ∀ (n i : Nat) (iv : IV) (lv : LV) (s x : Int32), i + n = 24 → s = worthN S ρ i → x = nI i → Off Sy iv0 iv → RM iv ρ → TextsM iv T S → (∀ iv' lv' s x, s = worthN S ρ 24 → x = nI 24 → Off Sy iv0 iv' → RM iv' ρ → Rn g l mX7_worthAll (rmA (D + 48) 0 0) Q 0 0 35 [.ref 75, .int s, .int x] [] Γ iv' rv lv') → Rn g l mX7_worthAll (rmA (D + 48) 0 0) Q 0 0 4 [.ref 75, .int s, .int x] [] Γ iv rv lv := by
  intro n
  induction n with
  | zero =>
    intro i iv lv s x hn hs hx ho hR hX kk
    obtain rfl : i = 24 := by omega
    refine r_iload2 dX7_worthAll_4 ?_
    refine rn_bipush (24) dX7_worthAll_5 (by decide) ?_
    refine rn_icmp_ge 35 dX7_worthAll_7 rfl (fun _ => ?_) (fun h => absurd (by rw [hx]; decide) h)
    exact kk _ _ _ _ hs hx ho hR
  | succ n ih =>
    intro i iv lv s x hn hs hx ho hR hX kk
    refine r_iload2 dX7_worthAll_4 ?_
    refine rn_bipush (24) dX7_worthAll_5 (by decide) ?_
    refine rn_icmp_ge 35 dX7_worthAll_7 rfl (fun h => absurd h (fun z => by rw [hx, show (24 : Int32) = nI 24 by decide, nI_leI (by decide) (by omega)] at z; omega)) (fun _ => ?_)
    refine r_iload1 dX7_worthAll_10 ?_
    refine r_aload0 dX7_worthAll_11 ?_
    refine rn_iconst (2) dX7_worthAll_12 (by decide) ?_
    refine r_iload2 dX7_worthAll_13 ?_
    refine rn_iconst (0) dX7_worthAll_14 (by decide) ?_
    refine cliV3 dX7_worthAll_15 ov_X7_says rfl ml_X7_268 hM.1 rfl (Nat.le_of_ble_eq_true rfl) (Nat.zero_le _) (Nat.zero_le _) (ct_says (γ := 0) D hM hR hX hT6 ht htT 2 hx (by omega) (by decide) (by decide)) (fun x15 iv lv h15 => ?_)
    have hR1 := hR.off h15.1
    refine rn_sipush (-999) dX7_worthAll_18 (by decide) ?_
    refine rn_sipush (999) dX7_worthAll_21 (by decide) ?_
    refine cpiS3 dX7_worthAll_24 os_X7_within rfl ml_X7_272 (Nat.le_of_ble_eq_true rfl) (Nat.zero_le _) (Nat.zero_le _) (ct_mwithin _ _ _ _) ?_
    refine rn_eqi (askS S ρ 2 i (ρ 2 3)) (by rw [h15.2, askS_of ht (by omega)]; rfl) ?_
    refine rn_iadd dX7_worthAll_27 ?_
    refine r_istore1 dX7_worthAll_28 rfl ?_
    refine r_iinc2 _ dX7_worthAll_29 rfl rfl ?_
    refine rn_goto 4 dX7_worthAll_32 rfl ?_
    exact ih (i + 1) _ _ _ _ (by omega) (by rw [hs]; rfl) (by rw [hx]; exact nI_1 i) (ho.trans h15.1) hR1 (hX.sy h15.1) kk
set_option maxRecDepth 4000 in
theorem ct_mworth (D : Nat) (hM : ShM Γ rv) {ρ : IV} {S : Nat → Nat → List Int32} {T : Nat} (hT6 : T ≤ 6) {t : Nat} (ht : ρ 4 8 = nI t) (htT : t < T) (hR : RM iv ρ) (hX : TextsM iv T S) : Ct g l mX7_worthAll (D + 48) 0 0 [.ref 75] Γ iv rv lv (qLI Γ rv (fun x iv' _ => Off Sy iv iv' ∧ x = worthN S ρ 24)) := by
  refine Ct.of (by decide +kernel) (Nat.le_of_ble_eq_true rfl) (Nat.le_of_ble_eq_true rfl) ?_
  refine rn_iconst (0) dX7_worthAll_0 (by decide) ?_
  refine r_istore1 dX7_worthAll_1 rfl ?_
  refine rn_iconst (0) dX7_worthAll_2 (by decide) ?_
  refine r_istore2 dX7_worthAll_3 rfl ?_
  refine wa_loop (iv0 := iv) hM hT6 ht htT 24 0 iv lv _ _ (by decide) rfl rfl Off.refl hR hX (fun iv2 lv2 s x hs hx ho hR2 => ?_)
  refine r_iload1 dX7_worthAll_35 ?_
  refine rn_iret dX7_worthAll_36 rfl (Nat.zero_le _) (Nat.zero_le _) ?_
  exact ⟨_, rfl, rfl, rfl, ho, hs⟩
theorem w23 {w : Int32} (h1 : ¬ w = 0) (h2 : ¬ w = 1) (h3 : ¬ 4 ≤ w) (h0 : 0 ≤ w) : ∃ γ, w - 2 = nI γ ∧ γ < 2 := by
  have h : w = 2 ∨ w = 3 := by
    simp only [Int32.lt_iff_toInt_lt, Int32.le_iff_toInt_le, ← Int32.toInt_inj, Int32.reduceToInt] at *; omega
  rcases h with rfl | rfl
  · exact ⟨0, by decide, by decide⟩
  · exact ⟨1, by decide, by decide⟩
theorem w5 {w : Int32} (h : w ≤ 5) (h1 : 4 ≤ w) (h2 : ¬ w = 4) (h3 : ¬ w = 5) : False := by
  simp only [Int32.lt_iff_toInt_lt, Int32.le_iff_toInt_le, ← Int32.toInt_inj, Int32.reduceToInt] at *; omega
set_option maxRecDepth 4000 in
theorem ct_mrun (D : Nat) (hM : ShM Γ rv) {ρ : IV} {S : Nat → Nat → List Int32} {T : Nat} (hR : RM iv ρ) (hX : TextsM iv T S) (hT6 : T ≤ 6) {t : Nat} (ht : ρ 4 8 = nI t) (htT : t < T) (hg : GR ρ) (w : Int32) : Ct g l mX7_run (D + 52) 0 0 [.ref 75, .int w] Γ iv rv lv (qLI Γ rv (fun x iv' _ => Off Scr iv iv' ∧ RM iv' ρ ∧ x = runQ S ρ w)) := by
  refine Ct.of (by decide +kernel) (Nat.le_of_ble_eq_true rfl) (Nat.le_of_ble_eq_true rfl) ?_
  refine r_iload1 dX7_run_0 ?_
  refine rn_i2l dX7_run_1 ?_
  refine rn_lconst (0) dX7_run_2 (by decide) ?_
  refine rn_ldc2 (v := _) dX7_run_3 cl_X7_117 ?_
  refine cpiS3 dX7_run_6 os_X7_in rfl ml_X7_96 (Nat.zero_le _) (Nat.zero_le _) (Nat.zero_le _) (ct_inI _ (a := 0) (b := 5) (by decide) (by decide)) ?_
  refine rn_if_ne 16 dX7_run_9 rfl (fun c9 => ?_) (fun c9 => ?_)
  · have hw := bI_1.mp (bI_or.resolve_left c9)
    refine r_iload1 dX7_run_16 ?_
    refine rn_iconst (5) dX7_run_17 (by decide) ?_
    refine rn_icmp_ne 28 dX7_run_18 rfl (fun c18 => ?_) (fun c18 => ?_)
    · refine rn_iconst (0) dX7_run_28 (by decide) ?_
      refine r_istore2 dX7_run_29 rfl ?_
      have hRw := hR
      have hXw := hX
      have how := Off.refl (S := Scr) (iv := iv)
      refine r_aload0 dX7_run_30 ?_
      refine ccvV0 dX7_run_31 ov_X7_laysAside rfl ml_X7_298 hM.1 rfl (Nat.zero_le _) (Nat.zero_le _) (Nat.zero_le _) (ct_laysAside _ hM hRw) (fun iv h31 => ?_)
      refine r_aload0 dX7_run_34 ?_
      refine rn_iconst (-1) dX7_run_35 (by decide) ?_
      refine rn_iconst (0) dX7_run_36 (by decide) ?_
      refine clvV2 dX7_run_37 ov_X7_runs rfl ml_X7_301 hM.1 rfl (Nat.zero_le _) (Nat.zero_le _) (Nat.zero_le _) (ct_mruns D hM h31.2.1 (hXw.scr (as_scr h31.1)) hT6 ht htT hg _ _) (fun iv lv h37 => ?_)
      refine r_aload0 dX7_run_40 ?_
      refine gf_X7_44 dX7_run_41 rfl hM.1 (sm_earned hM).1 ?_
      refine rn_iconst (0) dX7_run_44 (by decide) ?_
      refine rn_iald 0 dX7_run_45 (sm_earned hM).2 rfl (by decide) (by decide) ?_
      refine rn_eqi ((endS S ρ).2 2 6) (h37.2.1.gang 6 (γ := 0) (by decide) (by decide) (by decide)) ?_
      refine r_aload0 dX7_run_46 ?_
      refine gf_X7_44 dX7_run_47 rfl hM.1 (sm_earned hM).1 ?_
      refine rn_iconst (1) dX7_run_50 (by decide) ?_
      refine rn_iald 1 dX7_run_51 (sm_earned hM).2 rfl (by decide) (by decide) ?_
      refine rn_eqi ((endS S ρ).2 3 6) (h37.2.1.gang 6 (γ := 1) (by decide) (by decide) (by decide)) ?_
      refine rn_iadd dX7_run_52 ?_
      refine r_istore3 dX7_run_53 rfl ?_
      refine r_iload1 dX7_run_54 ?_
      refine rn_if_ne 65 dX7_run_55 rfl (fun c55 => ?_) (fun c55 => ?_)
      · refine r_iload1 dX7_run_65 ?_
        refine rn_iconst (1) dX7_run_66 (by decide) ?_
        refine rn_icmp_ne 79 dX7_run_67 rfl (fun c67 => ?_) (fun c67 => ?_)
        · refine r_iload1 dX7_run_79 ?_
          refine rn_iconst (4) dX7_run_80 (by decide) ?_
          refine rn_icmp_ge 94 dX7_run_81 rfl (fun c81 => ?_) (fun c81 => ?_)
          · refine r_iload1 dX7_run_94 ?_
            refine rn_iconst (4) dX7_run_95 (by decide) ?_
            refine rn_icmp_ne 103 dX7_run_96 rfl (fun c96 => ?_) (fun c96 => ?_)
            · exfalso
              have hw0 := hw
              clear hw
              exact w5 hw0.2 c81 c96 c18
            · refine r_iload3 dX7_run_99 ?_
              refine rn_goto 106 dX7_run_100 rfl ?_
              refine r_istore4 dX7_run_106 rfl ?_
              refine r_aload0 dX7_run_108 ?_
              refine ccvV0 dX7_run_109 ov_X7_laysBack rfl ml_X7_308 hM.1 rfl (Nat.zero_le _) (Nat.zero_le _) (Nat.zero_le _) (ct_laysBack _ hM h37.2.1 (h31.2.2.ru h37.1) (keep_run _ _ _).kp) (fun iv h109 => ?_)
              refine r_iload4 dX7_run_112 ?_
              refine rn_iret dX7_run_114 rfl (Nat.zero_le _) (Nat.zero_le _) ?_
              refine ⟨_, rfl, rfl, rfl, ((how.trans (as_scr h31.1)).trans (ru_scr h37.1)).trans (bk_scr h109.1), h109.2, ?_⟩
              unfold runQ
              rw [if_pos hw, if_neg c55, if_neg c67, if_neg (Int32.not_lt.mpr c81), if_pos c96]
          · obtain ⟨gq, hq, hql⟩ := w23 c55 c67 c81 hw.1
            refine r_aload0 dX7_run_84 ?_
            refine r_iload1 dX7_run_85 ?_
            refine rn_iconst (2) dX7_run_86 (by decide) ?_
            refine rn_isub dX7_run_87 ?_
            refine cpiV1 dX7_run_88 ov_X7_gain rfl ml_X7_305 hM.1 rfl (Nat.zero_le _) (Nat.zero_le _) (Nat.zero_le _) (ct_mgain _ hM (ρ := (endS S ρ).2) h37.2.1 hq hql) ?_
            refine rn_goto 106 dX7_run_91 rfl ?_
            refine r_istore4 dX7_run_106 rfl ?_
            refine r_aload0 dX7_run_108 ?_
            refine ccvV0 dX7_run_109 ov_X7_laysBack rfl ml_X7_308 hM.1 rfl (Nat.zero_le _) (Nat.zero_le _) (Nat.zero_le _) (ct_laysBack _ hM h37.2.1 (h31.2.2.ru h37.1) (keep_run _ _ _).kp) (fun iv h109 => ?_)
            refine r_iload4 dX7_run_112 ?_
            refine rn_iret dX7_run_114 rfl (Nat.zero_le _) (Nat.zero_le _) ?_
            refine ⟨_, rfl, rfl, rfl, ((how.trans (as_scr h31.1)).trans (ru_scr h37.1)).trans (bk_scr h109.1), h109.2, ?_⟩
            unfold runQ
            rw [if_pos hw, if_neg c55, if_neg c67, if_pos (Int32.not_le.mp c81), hq, nI_clamp (by omega)]
        · refine r_aload0 dX7_run_70 ?_
          refine gf_X7_38 dX7_run_71 rfl hM.1 (sm_dones hM).1 ?_
          refine rn_iconst (0) dX7_run_74 (by decide) ?_
          refine rn_iald 0 dX7_run_75 (sm_dones hM).2 rfl (by decide) (by decide) ?_
          refine rn_eqi ((endS S ρ).2 2 4) (h37.2.1.gang 4 (γ := 0) (by decide) (by decide) (by decide)) ?_
          refine rn_goto 106 dX7_run_76 rfl ?_
          refine r_istore4 dX7_run_106 rfl ?_
          refine r_aload0 dX7_run_108 ?_
          refine ccvV0 dX7_run_109 ov_X7_laysBack rfl ml_X7_308 hM.1 rfl (Nat.zero_le _) (Nat.zero_le _) (Nat.zero_le _) (ct_laysBack _ hM h37.2.1 (h31.2.2.ru h37.1) (keep_run _ _ _).kp) (fun iv h109 => ?_)
          refine r_iload4 dX7_run_112 ?_
          refine rn_iret dX7_run_114 rfl (Nat.zero_le _) (Nat.zero_le _) ?_
          refine ⟨_, rfl, rfl, rfl, ((how.trans (as_scr h31.1)).trans (ru_scr h37.1)).trans (bk_scr h109.1), h109.2, ?_⟩
          unfold runQ
          rw [if_pos hw, if_neg c55, if_pos c67]
      · refine r_aload0 dX7_run_58 ?_
        refine gf_X7_291 dX7_run_59 rfl hM.1 ?_
        refine rn_eqi (nI (endS S ρ).1) h37.2.2 ?_
        refine rn_goto 106 dX7_run_62 rfl ?_
        refine r_istore4 dX7_run_106 rfl ?_
        refine r_aload0 dX7_run_108 ?_
        refine ccvV0 dX7_run_109 ov_X7_laysBack rfl ml_X7_308 hM.1 rfl (Nat.zero_le _) (Nat.zero_le _) (Nat.zero_le _) (ct_laysBack _ hM h37.2.1 (h31.2.2.ru h37.1) (keep_run _ _ _).kp) (fun iv h109 => ?_)
        refine r_iload4 dX7_run_112 ?_
        refine rn_iret dX7_run_114 rfl (Nat.zero_le _) (Nat.zero_le _) ?_
        refine ⟨_, rfl, rfl, rfl, ((how.trans (as_scr h31.1)).trans (ru_scr h37.1)).trans (bk_scr h109.1), h109.2, ?_⟩
        unfold runQ
        rw [if_pos hw, if_pos c55]
    · refine r_aload0 dX7_run_21 ?_
      refine cliV0 dX7_run_22 ov_X7_worthAll rfl ml_X7_295 hM.1 rfl (Nat.zero_le _) (Nat.zero_le _) (Nat.zero_le _) (ct_mworth (D + 3) hM hT6 ht htT hR hX) (fun x22 iv lv h22 => ?_)
      refine rn_goto 29 dX7_run_25 rfl ?_
      refine r_istore2 dX7_run_29 rfl ?_
      have hRw := hR.off h22.1
      have hXw := hX.sy h22.1
      have how := sy_scr h22.1
      refine r_aload0 dX7_run_30 ?_
      refine ccvV0 dX7_run_31 ov_X7_laysAside rfl ml_X7_298 hM.1 rfl (Nat.zero_le _) (Nat.zero_le _) (Nat.zero_le _) (ct_laysAside _ hM hRw) (fun iv h31 => ?_)
      refine r_aload0 dX7_run_34 ?_
      refine rn_iconst (-1) dX7_run_35 (by decide) ?_
      refine rn_iconst (0) dX7_run_36 (by decide) ?_
      refine clvV2 dX7_run_37 ov_X7_runs rfl ml_X7_301 hM.1 rfl (Nat.zero_le _) (Nat.zero_le _) (Nat.zero_le _) (ct_mruns D hM h31.2.1 (hXw.scr (as_scr h31.1)) hT6 ht htT hg _ _) (fun iv lv h37 => ?_)
      refine r_aload0 dX7_run_40 ?_
      refine gf_X7_44 dX7_run_41 rfl hM.1 (sm_earned hM).1 ?_
      refine rn_iconst (0) dX7_run_44 (by decide) ?_
      refine rn_iald 0 dX7_run_45 (sm_earned hM).2 rfl (by decide) (by decide) ?_
      refine rn_eqi ((endS S ρ).2 2 6) (h37.2.1.gang 6 (γ := 0) (by decide) (by decide) (by decide)) ?_
      refine r_aload0 dX7_run_46 ?_
      refine gf_X7_44 dX7_run_47 rfl hM.1 (sm_earned hM).1 ?_
      refine rn_iconst (1) dX7_run_50 (by decide) ?_
      refine rn_iald 1 dX7_run_51 (sm_earned hM).2 rfl (by decide) (by decide) ?_
      refine rn_eqi ((endS S ρ).2 3 6) (h37.2.1.gang 6 (γ := 1) (by decide) (by decide) (by decide)) ?_
      refine rn_iadd dX7_run_52 ?_
      refine r_istore3 dX7_run_53 rfl ?_
      refine r_iload1 dX7_run_54 ?_
      refine rn_if_ne 65 dX7_run_55 rfl (fun c55 => ?_) (fun c55 => ?_)
      · refine r_iload1 dX7_run_65 ?_
        refine rn_iconst (1) dX7_run_66 (by decide) ?_
        refine rn_icmp_ne 79 dX7_run_67 rfl (fun c67 => ?_) (fun c67 => ?_)
        · refine r_iload1 dX7_run_79 ?_
          refine rn_iconst (4) dX7_run_80 (by decide) ?_
          refine rn_icmp_ge 94 dX7_run_81 rfl (fun c81 => ?_) (fun c81 => ?_)
          · refine r_iload1 dX7_run_94 ?_
            refine rn_iconst (4) dX7_run_95 (by decide) ?_
            refine rn_icmp_ne 103 dX7_run_96 rfl (fun c96 => ?_) (fun c96 => ?_)
            · refine r_iload2 dX7_run_103 ?_
              refine r_iload3 dX7_run_104 ?_
              refine rn_isub dX7_run_105 ?_
              refine r_istore4 dX7_run_106 rfl ?_
              refine r_aload0 dX7_run_108 ?_
              refine ccvV0 dX7_run_109 ov_X7_laysBack rfl ml_X7_308 hM.1 rfl (Nat.zero_le _) (Nat.zero_le _) (Nat.zero_le _) (ct_laysBack _ hM h37.2.1 (h31.2.2.ru h37.1) (keep_run _ _ _).kp) (fun iv h109 => ?_)
              refine r_iload4 dX7_run_112 ?_
              refine rn_iret dX7_run_114 rfl (Nat.zero_le _) (Nat.zero_le _) ?_
              refine ⟨_, rfl, rfl, rfl, ((how.trans (as_scr h31.1)).trans (ru_scr h37.1)).trans (bk_scr h109.1), h109.2, ?_⟩
              unfold runQ
              rw [if_pos hw, if_neg c55, if_neg c67, if_neg (Int32.not_lt.mpr c81), if_neg c96]
              rw [h22.2]
            · refine r_iload3 dX7_run_99 ?_
              refine rn_goto 106 dX7_run_100 rfl ?_
              refine r_istore4 dX7_run_106 rfl ?_
              refine r_aload0 dX7_run_108 ?_
              refine ccvV0 dX7_run_109 ov_X7_laysBack rfl ml_X7_308 hM.1 rfl (Nat.zero_le _) (Nat.zero_le _) (Nat.zero_le _) (ct_laysBack _ hM h37.2.1 (h31.2.2.ru h37.1) (keep_run _ _ _).kp) (fun iv h109 => ?_)
              refine r_iload4 dX7_run_112 ?_
              refine rn_iret dX7_run_114 rfl (Nat.zero_le _) (Nat.zero_le _) ?_
              refine ⟨_, rfl, rfl, rfl, ((how.trans (as_scr h31.1)).trans (ru_scr h37.1)).trans (bk_scr h109.1), h109.2, ?_⟩
              unfold runQ
              rw [if_pos hw, if_neg c55, if_neg c67, if_neg (Int32.not_lt.mpr c81), if_pos c96]
          · obtain ⟨gq, hq, hql⟩ := w23 c55 c67 c81 hw.1
            refine r_aload0 dX7_run_84 ?_
            refine r_iload1 dX7_run_85 ?_
            refine rn_iconst (2) dX7_run_86 (by decide) ?_
            refine rn_isub dX7_run_87 ?_
            refine cpiV1 dX7_run_88 ov_X7_gain rfl ml_X7_305 hM.1 rfl (Nat.zero_le _) (Nat.zero_le _) (Nat.zero_le _) (ct_mgain _ hM (ρ := (endS S ρ).2) h37.2.1 hq hql) ?_
            refine rn_goto 106 dX7_run_91 rfl ?_
            refine r_istore4 dX7_run_106 rfl ?_
            refine r_aload0 dX7_run_108 ?_
            refine ccvV0 dX7_run_109 ov_X7_laysBack rfl ml_X7_308 hM.1 rfl (Nat.zero_le _) (Nat.zero_le _) (Nat.zero_le _) (ct_laysBack _ hM h37.2.1 (h31.2.2.ru h37.1) (keep_run _ _ _).kp) (fun iv h109 => ?_)
            refine r_iload4 dX7_run_112 ?_
            refine rn_iret dX7_run_114 rfl (Nat.zero_le _) (Nat.zero_le _) ?_
            refine ⟨_, rfl, rfl, rfl, ((how.trans (as_scr h31.1)).trans (ru_scr h37.1)).trans (bk_scr h109.1), h109.2, ?_⟩
            unfold runQ
            rw [if_pos hw, if_neg c55, if_neg c67, if_pos (Int32.not_le.mp c81), hq, nI_clamp (by omega)]
        · refine r_aload0 dX7_run_70 ?_
          refine gf_X7_38 dX7_run_71 rfl hM.1 (sm_dones hM).1 ?_
          refine rn_iconst (0) dX7_run_74 (by decide) ?_
          refine rn_iald 0 dX7_run_75 (sm_dones hM).2 rfl (by decide) (by decide) ?_
          refine rn_eqi ((endS S ρ).2 2 4) (h37.2.1.gang 4 (γ := 0) (by decide) (by decide) (by decide)) ?_
          refine rn_goto 106 dX7_run_76 rfl ?_
          refine r_istore4 dX7_run_106 rfl ?_
          refine r_aload0 dX7_run_108 ?_
          refine ccvV0 dX7_run_109 ov_X7_laysBack rfl ml_X7_308 hM.1 rfl (Nat.zero_le _) (Nat.zero_le _) (Nat.zero_le _) (ct_laysBack _ hM h37.2.1 (h31.2.2.ru h37.1) (keep_run _ _ _).kp) (fun iv h109 => ?_)
          refine r_iload4 dX7_run_112 ?_
          refine rn_iret dX7_run_114 rfl (Nat.zero_le _) (Nat.zero_le _) ?_
          refine ⟨_, rfl, rfl, rfl, ((how.trans (as_scr h31.1)).trans (ru_scr h37.1)).trans (bk_scr h109.1), h109.2, ?_⟩
          unfold runQ
          rw [if_pos hw, if_neg c55, if_pos c67]
      · refine r_aload0 dX7_run_58 ?_
        refine gf_X7_291 dX7_run_59 rfl hM.1 ?_
        refine rn_eqi (nI (endS S ρ).1) h37.2.2 ?_
        refine rn_goto 106 dX7_run_62 rfl ?_
        refine r_istore4 dX7_run_106 rfl ?_
        refine r_aload0 dX7_run_108 ?_
        refine ccvV0 dX7_run_109 ov_X7_laysBack rfl ml_X7_308 hM.1 rfl (Nat.zero_le _) (Nat.zero_le _) (Nat.zero_le _) (ct_laysBack _ hM h37.2.1 (h31.2.2.ru h37.1) (keep_run _ _ _).kp) (fun iv h109 => ?_)
        refine r_iload4 dX7_run_112 ?_
        refine rn_iret dX7_run_114 rfl (Nat.zero_le _) (Nat.zero_le _) ?_
        refine ⟨_, rfl, rfl, rfl, ((how.trans (as_scr h31.1)).trans (ru_scr h37.1)).trans (bk_scr h109.1), h109.2, ?_⟩
        unfold runQ
        rw [if_pos hw, if_pos c55]
  · refine rn_ldcw (v := _) dX7_run_12 cn_X7_294 ?_
    refine rn_iret dX7_run_15 rfl (Nat.zero_le _) (Nat.zero_le _) ?_
    refine ⟨_, rfl, rfl, rfl, Off.refl, hR, ?_⟩
    unfold runQ
    rw [if_neg (bI_0.mp c9)]
end MRUN
