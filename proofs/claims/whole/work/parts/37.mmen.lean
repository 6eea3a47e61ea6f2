/-! THE REFERENCE: day, done, ease, gainBy, bestMen, men -/
def passN (S : Nat → Nat → List Int32) (ρ : IV) : Nat → IV
  | 0 => ρ
  | n + 1 => passS S (passN S ρ n) (-1)
theorem gr_passN {S : Nat → Nat → List Int32} {ρ : IV} (h : GR ρ) : ∀ n, GR (passN S ρ n)
  | 0 => h
  | n + 1 => gr_pass (gr_passN h n)
theorem keep_passN {S : Nat → Nat → List Int32} {ρ : IV} : ∀ n, KeepS ρ (passN S ρ n)
  | 0 => KeepS.refl
  | n + 1 => (keep_passN n).trans keep_pass
def doneQ (S : Nat → Nat → List Int32) (ρ : IV) (G n : Int32) : Int32 := if (0 ≤ G ∧ G ≤ 1) ∧ 0 ≤ n ∧ n ≤ 300 then passN S ρ n.toNatClampNeg (2 + G.toNatClampNeg) 4 else -2
def easeG (S : Nat → Nat → List Int32) (ρ : IV) (γ i : Nat) : Int32 := gainS (runS S (nI γ) (nI i) 300 0 ρ).2 γ
def easeS (S : Nat → Nat → List Int32) (ρ : IV) (γ : Nat) : Nat → Int32 × Int32
  | 0 => (0, 0)
  | i + 1 => if i = 0 ∨ (easeS S ρ γ i).2 < easeG S ρ γ i then (nI i, easeG S ρ γ i) else easeS S ρ γ i
def easeQ (S : Nat → Nat → List Int32) (ρ : IV) (G w : Int32) : Int32 := if (0 ≤ G ∧ G ≤ 1) ∧ 0 ≤ w ∧ w ≤ 1 then (if w = 0 then (easeS S ρ G.toNatClampNeg 11).1 else (easeS S ρ G.toNatClampNeg 11).2) else -100000
def byS (S : Nat → Nat → List Int32) (ρ : IV) (γ : Nat) (m : Int32) : Int32 := gainS (endS S (up ρ (2 + γ) 3 m)).2 γ
def bestS (S : Nat → Nat → List Int32) (ρ : IV) (γ : Nat) : Nat → Int32 × Int32
  | 0 => (1, byS S ρ γ 1)
  | i + 1 => if (bestS S ρ γ i).2 < byS S ρ γ (nI (i + 2)) then (nI (i + 2), byS S ρ γ (nI (i + 2))) else bestS S ρ γ i
def menQ (S : Nat → Nat → List Int32) (ρ : IV) (G w : Int32) : Int32 := if (0 ≤ G ∧ G ≤ 1) ∧ 0 ≤ w ∧ w ≤ 1 then (if w = 0 then (bestS S ρ G.toNatClampNeg 29).1 else (bestS S ρ G.toNatClampNeg 29).2) else -100000
theorem g01 {G : Int32} (h : 0 ≤ G ∧ G ≤ 1) : G = nI G.toNatClampNeg ∧ G.toNatClampNeg < 2 := by
  have h2 : G = 0 ∨ G = 1 := by
    obtain ⟨h0, h1⟩ := h
    simp only [Int32.lt_iff_toInt_lt, Int32.le_iff_toInt_le, ← Int32.toInt_inj, Int32.reduceToInt] at *; omega
  rcases h2 with rfl | rfl <;> decide
theorem n300 {n : Int32} (h : 0 ≤ n ∧ n ≤ 300) : n = nI n.toNatClampNeg ∧ n.toNatClampNeg ≤ 300 := by
  obtain ⟨h0, h1⟩ := h
  have e : n.toNatClampNeg = n.toInt.toNat := rfl
  simp only [Int32.le_iff_toInt_le, Int32.reduceToInt] at h0 h1
  refine ⟨?_, by omega⟩
  rw [← Int32.toInt_inj, nI_toInt (by omega), e]; omega
theorem RM.menu {iv ρ : IV} (h : RM iv ρ) {γ : Nat} {m : Int32} (hγ : γ < 2) : RM (up iv 83 γ m) (up ρ (2 + γ) 3 m) := h.upg 3 (by decide) (by decide) hγ
theorem Kp.trans {a b c : IV} (h1 : Kp a b) (h2 : Kp b c) : Kp a c := ⟨fun k γ x y z => (h2.1 k γ x y z).trans (h1.1 k γ x y z), h2.2.1.trans h1.2.1, h2.2.2.1.trans h1.2.2.1, h2.2.2.2.trans h1.2.2.2⟩
theorem kp_men {ρ : IV} {γ : Nat} {m : Int32} (hγ : γ < 2) : Kp ρ (up ρ (2 + γ) 3 m) := ⟨fun k γ' x y z => up_ne2 (by omega), up_ne1 (by omega), up_ne1 (by omega), up_ne1 (by omega)⟩
section MMEN
variable {g : GS} {l : Launch} {Γ : Sh} {iv : IV} {rv : RV} {lv : LV}
set_option maxRecDepth 4000 in
theorem ct_mday (D : Nat) (hM : ShM Γ rv) {ρ : IV} {S : Nat → Nat → List Int32} {T : Nat} (hR : RM iv ρ) (hX : TextsM iv T S) (hT6 : T ≤ 6) {t : Nat} (ht : ρ 4 8 = nI t) (htT : t < T) (hg : GR ρ) : Ct g l mX7_day (D + 51) 0 0 [.ref 75] Γ iv rv lv (qLI Γ rv (fun x iv' _ => Off Pn iv iv' ∧ RM iv' (passS S ρ (-1)) ∧ x = aheadS (passS S ρ (-1)))) := by
  refine Ct.of (by decide +kernel) (Nat.le_of_ble_eq_true rfl) (Nat.le_of_ble_eq_true rfl) ?_
  refine r_aload0 dX7_day_0 ?_
  refine rn_iconst (-1) dX7_day_1 (by decide) ?_
  refine clvV1 dX7_day_2 ov_X7_passes rfl ml_X7_282 hM.1 rfl (Nat.zero_le _) (Nat.zero_le _) (Nat.zero_le _) (ct_mpasses D hM hR hX hT6 ht htT hg _) (fun iv lv h2 => ?_)
  refine r_aload0 dX7_day_5 ?_
  refine cpiV0 dX7_day_6 ov_X7_left rfl ml_X7_137 hM.1 rfl (Nat.zero_le _) (Nat.zero_le _) (Nat.zero_le _) (ct_left _ hM) ?_
  refine rn_eqi _ h2.2.left ?_
  refine rn_iret dX7_day_9 rfl (Nat.zero_le _) (Nat.zero_le _) ?_
  exact ⟨_, rfl, rfl, rfl, h2.1, h2.2, rfl⟩
set_option maxRecDepth 4000 in
theorem ct_gainBy (D : Nat) (hM : ShM Γ rv) {ρ : IV} {S : Nat → Nat → List Int32} {T : Nat} (hR : RM iv ρ) (hX : TextsM iv T S) (hT6 : T ≤ 6) {t : Nat} (ht : ρ 4 8 = nI t) (htT : t < T) (hg : GR ρ) {γ : Nat} {G : Int32} (hG : G = nI γ) (hγ : γ < 2) (m : Int32) : Ct g l mX7_gainBy (D + 52) 0 0 [.ref 75, .int G, .int m] Γ iv rv lv (qLI Γ rv (fun x iv' _ => Off Scr iv iv' ∧ RM iv' ρ ∧ x = byS S ρ γ m)) := by
  refine Ct.of (by decide +kernel) (Nat.le_of_ble_eq_true rfl) (Nat.le_of_ble_eq_true rfl) ?_
  refine r_aload0 dX7_gainBy_0 ?_
  refine ccvV0 dX7_gainBy_1 ov_X7_laysAside rfl ml_X7_298 hM.1 rfl (Nat.zero_le _) (Nat.zero_le _) (Nat.zero_le _) (ct_laysAside _ hM hR) (fun iv h1 => ?_)
  refine r_aload0 dX7_gainBy_4 ?_
  refine gf_X7_35 dX7_gainBy_5 rfl hM.1 (sm_men hM).1 ?_
  refine r_iload1 dX7_gainBy_8 ?_
  refine r_iload2 dX7_gainBy_9 ?_
  refine rn_iast γ dX7_gainBy_10 (sm_men hM).2 hG hγ (by decide) ?_
  refine r_aload0 dX7_gainBy_11 ?_
  refine rn_iconst (-1) dX7_gainBy_12 (by decide) ?_
  refine rn_iconst (0) dX7_gainBy_13 (by decide) ?_
  refine clvV2 dX7_gainBy_14 ov_X7_runs rfl ml_X7_301 hM.1 rfl (Nat.zero_le _) (Nat.zero_le _) (Nat.zero_le _) (ct_mruns (ρ := up ρ (2 + γ) 3 m) (iv := up iv 83 γ m) D hM (h1.2.1.menu hγ) ((hX.scr (as_scr h1.1)).scr (off_up (by omega))) hT6 ((up_ne1 (by omega)).trans ht) htT (hg.upd (by omega) (by omega) (by omega) (by omega)) _ _) (fun iv lv h14 => ?_)
  refine r_aload0 dX7_gainBy_17 ?_
  refine r_iload1 dX7_gainBy_18 ?_
  refine cpiV1 dX7_gainBy_19 ov_X7_gain rfl ml_X7_305 hM.1 rfl (Nat.zero_le _) (Nat.zero_le _) (Nat.zero_le _) (ct_mgain _ hM h14.2.1 hG hγ) ?_
  refine r_istore3 dX7_gainBy_22 rfl ?_
  refine r_aload0 dX7_gainBy_23 ?_
  refine ccvV0 dX7_gainBy_24 ov_X7_laysBack rfl ml_X7_308 hM.1 rfl (Nat.zero_le _) (Nat.zero_le _) (Nat.zero_le _) (ct_laysBack _ hM h14.2.1 ((h1.2.2.off (P := fun a _ => a = 83) (off_up (by decide)) (fun a b z => by omega)).ru h14.1) ((kp_men hγ).trans (keep_run _ _ _).kp)) (fun iv h24 => ?_)
  refine r_iload3 dX7_gainBy_27 ?_
  refine rn_iret dX7_gainBy_28 rfl (Nat.zero_le _) (Nat.zero_le _) ?_
  exact ⟨_, rfl, rfl, rfl, (((as_scr h1.1).trans (off_up (by omega))).trans (ru_scr h14.1)).trans (bk_scr h24.1), h24.2, rfl⟩
set_option maxRecDepth 4000 in
theorem bm_loop {D : Nat} {Q : Qt} (hM : ShM Γ rv) {ρ : IV} {S : Nat → Nat → List Int32} {T : Nat} (hT6 : T ≤ 6) {t : Nat} (ht : ρ 4 8 = nI t) (htT : t < T) (hg : GR ρ) {γ : Nat} {G : Int32} (hG : G = nI γ) (hγ : γ < 2) {iv0 : IV} : ∀ (n i : Nat) (iv : IV) (lv : LV) (b : Int32) (v4 : Value) (x : Int32), i + n = 31 → x = nI i → 2 ≤ i → v4.category = 1 → b = (bestS S ρ γ (i - 2)).1 → iv 75 41 = (bestS S ρ γ (i - 2)).2 → Off Scm iv0 iv → RM iv ρ → TextsM iv T S → (∀ (iv : IV) (lv : LV) (b : Int32) (v4 : Value) (x : Int32), x = nI 31 → 2 ≤ 31 → v4.category = 1 → b = (bestS S ρ γ (31 - 2)).1 → iv 75 41 = (bestS S ρ γ (31 - 2)).2 → Off Scm iv0 iv → RM iv ρ → TextsM iv T S → Rn g l mX7_bestMen (rmA (D + 53) 0 0) Q 0 0 51 [.ref 75, .int G, .int b, .int x, v4] [] Γ iv rv lv) → Rn g l mX7_bestMen (rmA (D + 53) 0 0) Q 0 0 14 [.ref 75, .int G, .int b, .int x, v4] [] Γ iv rv lv := by
  intro n
  induction n with
  | zero =>
    intro i iv lv b v4 x hn hx h2 h4 hb hbg ho hR hX kk
    obtain rfl : i = 31 := by omega
    refine r_iload3 dX7_bestMen_14 ?_
    refine rn_bipush (30) dX7_bestMen_15 (by decide) ?_
    refine rn_icmp_gt 51 dX7_bestMen_17 rfl (fun _ => ?_) (fun h => absurd (by rw [hx]; decide) h)
    exact kk _ _ _ _ _ hx h2 h4 hb hbg ho hR hX
  | succ n ih =>
    intro i iv lv b v4 x hn hx h2 h4 hb hbg ho hR hX kk
    have hil : i < 31 := by omega
    obtain ⟨j, rfl⟩ : ∃ j, i = j + 2 := ⟨i - 2, by omega⟩
    have eb : bestS S ρ γ (j + 2 + 1 - 2) = if (bestS S ρ γ j).2 < byS S ρ γ (nI (j + 2)) then (nI (j + 2), byS S ρ γ (nI (j + 2))) else bestS S ρ γ j := rfl
    subst hx
    rw [show j + 2 - 2 = j by omega] at hb hbg
    refine r_iload3 dX7_bestMen_14 ?_
    refine rn_bipush (30) dX7_bestMen_15 (by decide) ?_
    refine rn_icmp_gt 51 dX7_bestMen_17 rfl (fun h => absurd h (fun z => by rw [show (30 : Int32) = nI 30 by decide, nI_ltI (by decide) (by omega)] at z; omega)) (fun _ => ?_)
    refine r_aload0 dX7_bestMen_20 ?_
    refine r_iload1 dX7_bestMen_21 ?_
    refine r_iload3 dX7_bestMen_22 ?_
    refine cliV2 dX7_bestMen_23 ov_X7_gainBy rfl ml_X7_313 hM.1 rfl (Nat.zero_le _) (Nat.zero_le _) (Nat.zero_le _) (ct_gainBy D hM hR hX hT6 ht htT hg hG hγ _) (fun x23 iv lv h23 => ?_)
    have hbz := (h23.1 75 41 (by decide)).trans hbg
    refine r_istore4 dX7_bestMen_26 rfl ?_
    refine r_iload4 dX7_bestMen_28 ?_
    refine r_aload0 dX7_bestMen_30 ?_
    refine gf_X7_316 dX7_bestMen_31 rfl hM.1 ?_
    refine rn_eqi _ hbz ?_
    refine rn_icmp_le 45 dX7_bestMen_34 rfl (fun c34 => ?_) (fun c34 => ?_)
    · refine r_iinc3 _ dX7_bestMen_45 rfl rfl ?_
      refine rn_goto 14 dX7_bestMen_48 rfl ?_
      exact ih (j + 2 + 1) iv _ _ _ _ (by omega) (nI_1 _) (by omega) rfl (by rw [eb, if_neg (Int32.not_lt.mpr (by rw [← h23.2.2]; exact c34))]; exact hb) (by rw [eb, if_neg (Int32.not_lt.mpr (by rw [← h23.2.2]; exact c34))]; exact hbz) (ho.trans (scr_m h23.1)) h23.2.1 (hX.scr h23.1) kk
    · refine r_iload3 dX7_bestMen_37 ?_
      refine r_istore2 dX7_bestMen_38 rfl ?_
      refine r_aload0 dX7_bestMen_39 ?_
      refine r_iload4 dX7_bestMen_40 ?_
      refine pf_X7_316 dX7_bestMen_42 rfl hM.1 ?_
      refine r_iinc3 _ dX7_bestMen_45 rfl rfl ?_
      refine rn_goto 14 dX7_bestMen_48 rfl ?_
      have hof : Off Scm iv (up iv 75 41 x23) := off_up (by decide)
      exact ih (j + 2 + 1) (up iv 75 41 x23) _ _ _ _ (by omega) (nI_1 _) (by omega) rfl (by rw [eb, if_pos (by rw [← h23.2.2]; exact Int32.not_le.mp c34)]) (by rw [eb, if_pos (by rw [← h23.2.2]; exact Int32.not_le.mp c34)]; exact h23.2.2) ((ho.trans (scr_m h23.1)).trans hof) (h23.2.1.offP (P := fun a b => a = 75 ∧ b = 41) (off_up (by decide)) (fun a b z => by omega)) ((hX.scr h23.1).scm hof) kk
set_option maxRecDepth 4000 in
theorem ct_bestMen (D : Nat) (hM : ShM Γ rv) {ρ : IV} {S : Nat → Nat → List Int32} {T : Nat} (hR : RM iv ρ) (hX : TextsM iv T S) (hT6 : T ≤ 6) {t : Nat} (ht : ρ 4 8 = nI t) (htT : t < T) (hg : GR ρ) {γ : Nat} {G : Int32} (hG : G = nI γ) (hγ : γ < 2) : Ct g l mX7_bestMen (D + 53) 0 0 [.ref 75, .int G] Γ iv rv lv (qLI Γ rv (fun x iv' _ => Off Scm iv iv' ∧ RM iv' ρ ∧ x = (bestS S ρ γ 29).1 ∧ iv' 75 41 = (bestS S ρ γ 29).2)) := by
  refine Ct.of (by decide +kernel) (Nat.le_of_ble_eq_true rfl) (Nat.le_of_ble_eq_true rfl) ?_
  refine rn_iconst (1) dX7_bestMen_0 (by decide) ?_
  refine r_istore2 dX7_bestMen_1 rfl ?_
  refine r_aload0 dX7_bestMen_2 ?_
  refine r_aload0 dX7_bestMen_3 ?_
  refine r_iload1 dX7_bestMen_4 ?_
  refine rn_iconst (1) dX7_bestMen_5 (by decide) ?_
  refine cliV2 dX7_bestMen_6 ov_X7_gainBy rfl ml_X7_313 hM.1 rfl (Nat.le_of_ble_eq_true rfl) (Nat.zero_le _) (Nat.zero_le _) (ct_gainBy D hM hR hX hT6 ht htT hg hG hγ _) (fun x6 iv lv h6 => ?_)
  refine pf_X7_316 dX7_bestMen_9 rfl hM.1 ?_
  refine rn_iconst (2) dX7_bestMen_12 (by decide) ?_
  refine r_istore3 dX7_bestMen_13 rfl ?_
  have hof : Off Scm iv (up iv 75 41 x6) := off_up (by decide)
  refine bm_loop (iv0 := _) hM hT6 ht htT hg hG hγ 29 2 (up iv 75 41 x6) _ _ _ _ (by decide) rfl (by decide) rfl rfl h6.2.2 ((scr_m h6.1).trans hof) (h6.2.1.offP (P := fun a b => a = 75 ∧ b = 41) (off_up (by decide)) (fun a b z => by omega)) ((hX.scr h6.1).scm hof) (fun iv lv b v4 x hx h2 h4 hb hbg ho hR hX => ?_)
  refine r_iload2 dX7_bestMen_51 ?_
  refine rn_iret dX7_bestMen_52 rfl (Nat.zero_le _) (Nat.zero_le _) ?_
  exact ⟨_, rfl, rfl, rfl, ho, hR, hb, hbg⟩
set_option maxRecDepth 4000 in
theorem ct_men (D : Nat) (hM : ShM Γ rv) {ρ : IV} {S : Nat → Nat → List Int32} {T : Nat} (hR : RM iv ρ) (hX : TextsM iv T S) (hT6 : T ≤ 6) {t : Nat} (ht : ρ 4 8 = nI t) (htT : t < T) (hg : GR ρ) (G w : Int32) : Ct g l mX7_men (D + 54) 0 0 [.ref 75, .int G, .int w] Γ iv rv lv (qLI Γ rv (fun x iv' _ => Off Scm iv iv' ∧ RM iv' ρ ∧ x = menQ S ρ G w)) := by
  refine Ct.of (by decide +kernel) (Nat.le_of_ble_eq_true rfl) (Nat.le_of_ble_eq_true rfl) ?_
  refine r_iload1 dX7_men_0 ?_
  refine cpiS1 dX7_men_1 os_X7_isGang rfl ml_X7_114 (Nat.zero_le _) (Nat.zero_le _) (Nat.zero_le _) (ct_misGang _ _) ?_
  refine rn_if_eq 17 dX7_men_4 rfl (fun c4 => ?_) (fun c4 => ?_)
  · refine rn_ldcw (v := _) dX7_men_17 cn_X7_294 ?_
    refine rn_iret dX7_men_20 rfl (Nat.zero_le _) (Nat.zero_le _) ?_
    refine ⟨_, rfl, rfl, rfl, Off.refl, hR, ?_⟩
    unfold menQ
    rw [if_neg (fun z => bI_0.mp c4 z.1)]
  · refine r_iload2 dX7_men_7 ?_
    refine rn_i2l dX7_men_8 ?_
    refine rn_lconst (0) dX7_men_9 (by decide) ?_
    refine rn_lconst (1) dX7_men_10 (by decide) ?_
    refine cpiS3 dX7_men_11 os_X7_in rfl ml_X7_96 (Nat.zero_le _) (Nat.zero_le _) (Nat.zero_le _) (ct_inI _ (a := 0) (b := 1) (by decide) (by decide)) ?_
    refine rn_if_ne 21 dX7_men_14 rfl (fun c14 => ?_) (fun c14 => ?_)
    · have hq1 := bI_1.mp (bI_or.resolve_left c4)
      have hq2 := bI_1.mp (bI_or.resolve_left c14)
      refine r_aload0 dX7_men_21 ?_
      refine r_iload1 dX7_men_22 ?_
      refine cliV1 dX7_men_23 ov_X7_bestMen rfl ml_X7_319 hM.1 rfl (Nat.zero_le _) (Nat.zero_le _) (Nat.zero_le _) (ct_bestMen D hM hR hX hT6 ht htT hg (g01 hq1).1 (g01 hq1).2) (fun x23 iv lv h23 => ?_)
      refine r_istore3 dX7_men_26 rfl ?_
      refine r_iload2 dX7_men_27 ?_
      refine rn_if_ne 35 dX7_men_28 rfl (fun c28 => ?_) (fun c28 => ?_)
      · refine r_aload0 dX7_men_35 ?_
        refine gf_X7_316 dX7_men_36 rfl hM.1 ?_
        refine rn_iret dX7_men_39 rfl (Nat.zero_le _) (Nat.zero_le _) ?_
        refine ⟨_, rfl, rfl, rfl, h23.1, h23.2.1, ?_⟩
        unfold menQ
        rw [if_pos ⟨hq1, hq2⟩, if_neg c28]
        exact h23.2.2.2
      · refine r_iload3 dX7_men_31 ?_
        refine rn_goto 39 dX7_men_32 rfl ?_
        refine rn_iret dX7_men_39 rfl (Nat.zero_le _) (Nat.zero_le _) ?_
        refine ⟨_, rfl, rfl, rfl, h23.1, h23.2.1, ?_⟩
        unfold menQ
        rw [if_pos ⟨hq1, hq2⟩, if_pos c28]
        exact h23.2.2.1
    · refine rn_ldcw (v := _) dX7_men_17 cn_X7_294 ?_
      refine rn_iret dX7_men_20 rfl (Nat.zero_le _) (Nat.zero_le _) ?_
      refine ⟨_, rfl, rfl, rfl, Off.refl, hR, ?_⟩
      unfold menQ
      rw [if_neg (fun z => bI_0.mp c14 z.2)]
end MMEN
