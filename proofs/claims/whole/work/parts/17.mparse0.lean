/-! THE REFERENCE: what the reader of texts stands on -/
/-- a letter of a word, or none behind it -/
def LetEq (b : Nat → Int32) (t : Tk) (i : Nat) (x : Int32) : Prop := if t.2.1 + i < t.2.2.2 then b (t.2.1 + i) = x else x = 0
theorem wd_len {b : Nat → Int32} {p q : Nat} : (wd b p q).length = q - p := by unfold wd; simp
theorem wd_get {b : Nat → Int32} {p q i : Nat} (h : p + i < q) : (wd b p q)[i]? = some (b (p + i)) := by
  unfold wd
  rw [List.getElem?_map, List.getElem?_range (by omega)]
  rfl
theorem wd_iff {b : Nat → Int32} {t : Tk} {w : List Int32} (hw : w.length ≤ 8) (hnz : ∀ i, i < w.length → w.getD i 0 ≠ 0) (hle : ∀ j, t.2.1 ≤ j → j < t.2.2.2 → isLe (b j) = true) (ht : t.2.1 ≤ t.2.2.2) :
    (t.2.2.2 ≤ t.2.1 + 8 ∧ ∀ i, i < 8 → LetEq b t i (w.getD i 0)) ↔ wd b t.2.1 t.2.2.2 = w := by
  constructor
  · rintro ⟨h1, h2⟩
    have hlen : t.2.2.2 - t.2.1 = w.length := by
      rcases Nat.lt_trichotomy (t.2.2.2 - t.2.1) w.length with h | h | h
      · have h3 := h2 (t.2.2.2 - t.2.1) (by omega)
        unfold LetEq at h3
        rw [if_neg (by omega)] at h3
        exact absurd h3 (hnz _ h)
      · exact h
      · have h3 := h2 w.length (by omega)
        unfold LetEq at h3
        rw [if_pos (by omega), List.getD_eq_getElem?_getD, List.getElem?_eq_none (Nat.le_refl _)] at h3
        have h3 : b (t.2.1 + w.length) = 0 := h3
        have h4 := hle (t.2.1 + w.length) (by omega) (by omega)
        rw [h3] at h4
        exact absurd h4 (by decide)
    apply List.ext_getElem?
    intro i
    rcases Nat.lt_or_ge i w.length with h | h
    · rw [wd_get (by omega)]
      have h3 := h2 i (by omega)
      unfold LetEq at h3
      rw [if_pos (by omega)] at h3
      rw [h3, List.getD_eq_getElem?_getD, List.getElem?_eq_getElem h]
      rfl
    · rw [List.getElem?_eq_none (by rw [wd_len]; omega), List.getElem?_eq_none h]
  · intro h
    have hlen : t.2.2.2 - t.2.1 = w.length := by rw [← h, wd_len]
    refine ⟨by omega, fun i hi => ?_⟩
    unfold LetEq
    split
    · rename_i h3
      rw [← h, List.getD_eq_getElem?_getD, wd_get h3]
      rfl
    · rw [List.getD_eq_getElem?_getD, List.getElem?_eq_none (by omega)]
      rfl
theorem ite_PD {α : Type} {P : α → Prop} {c : Prop} [Decidable c] {a b : α} (ha : c → P a) (hb : ¬ c → P b) : P (if c then a else b) := by
  by_cases h : c
  · rw [if_pos h]; exact ha h
  · rw [if_neg h]; exact hb h
theorem wcode_of (w : List Int32) : wcode w < 12 → w = wds.getD (wcode w) [] := (ite_PD (P := fun z => z < 12 → w = wds.getD z []) (fun h _ => h) fun _ => (ite_PD (P := fun z => z < 12 → w = wds.getD z []) (fun h _ => h) fun _ => (ite_PD (P := fun z => z < 12 → w = wds.getD z []) (fun h _ => h) fun _ => (ite_PD (P := fun z => z < 12 → w = wds.getD z []) (fun h _ => h) fun _ => (ite_PD (P := fun z => z < 12 → w = wds.getD z []) (fun h _ => h) fun _ => (ite_PD (P := fun z => z < 12 → w = wds.getD z []) (fun h _ => h) fun _ => (ite_PD (P := fun z => z < 12 → w = wds.getD z []) (fun h _ => h) fun _ => (ite_PD (P := fun z => z < 12 → w = wds.getD z []) (fun h _ => h) fun _ => (ite_PD (P := fun z => z < 12 → w = wds.getD z []) (fun h _ => h) fun _ => (ite_PD (P := fun z => z < 12 → w = wds.getD z []) (fun h _ => h) fun _ => (ite_PD (P := fun z => z < 12 → w = wds.getD z []) (fun h _ => h) fun _ => (ite_PD (P := fun z => z < 12 → w = wds.getD z []) (fun h _ => h) (fun _ => fun z => absurd z (by decide))))))))))))))
theorem wcode_iff : ∀ c, c < 12 → ∀ w, wcode w = c ↔ w = wds.getD c [] := by
  intro c hc w
  constructor
  · intro h
    subst h
    exact wcode_of w hc
  · intro h
    subst h
    have : ∀ c, c < 12 → wcode (wds.getD c []) = c := by decide +kernel
    exact this c hc
theorem sgn_inj {x c : Int32} (h : 15 ≤ sgn c) : sgn x = sgn c ↔ x = c := by
  constructor
  · intro h2
    unfold sgn at h h2
    repeat' split at h
    all_goals (try omega)
    all_goals (repeat' split at h2)
    all_goals first | (simp_all; done) | (exfalso; omega)
  · rintro rfl; rfl
theorem tok_sign {iv : IV} {lv : LV} {b : Nat → Int32} {n : Nat} {t : Tk} (h : TokM iv lv b n t) {c : Int32} (hc : 15 ≤ sgn c) : (iv 75 29 = 3 ∧ lv 75 31 = c.toInt64) ↔ t.1 = sgn c := by
  obtain ⟨-, -, h⟩ := h
  rcases h with ⟨h1, h2, -⟩ | ⟨h1, h2, -⟩ | ⟨h1, h2, -⟩ | ⟨h1, h2, h3, h4, -⟩ | ⟨h1, h2⟩
  · rw [h2, h1]; constructor
    · rintro ⟨z, -⟩; exact absurd z (by decide)
    · intro z; omega
  · rw [h2, h1]; constructor
    · rintro ⟨z, -⟩; exact absurd z (by decide)
    · intro z; omega
  · rw [h2]; constructor
    · rintro ⟨z, -⟩; exact absurd z (by decide)
    · intro z; have := (wcode_ne (wd b t.2.1 t.2.2.2)).2.2; omega
  · rw [h3, h4, h1, sgn_inj hc]; constructor
    · rintro ⟨-, z⟩; exact i64_inj z
    · rintro rfl; exact ⟨rfl, rfl⟩
  · rw [h2, h1]; constructor
    · rintro ⟨z, -⟩; exact absurd z (by decide)
    · intro z; omega
theorem wds_ok : ∀ c, c < 12 → (wds.getD c []).length ≤ 8 ∧ ∀ i, i < (wds.getD c []).length → (wds.getD c []).getD i 0 ≠ 0 := by decide +kernel
theorem tok_word {iv : IV} {lv : LV} {b : Nat → Int32} {n : Nat} {t : Tk} (h : TokM iv lv b n t) {c : Nat} (hc : c < 12) : (iv 75 29 = 1 ∧ t.2.2.2 ≤ t.2.1 + 8 ∧ ∀ i, i < 8 → LetEq b t i ((wds.getD c []).getD i 0)) ↔ t.1 = c := by
  obtain ⟨h0, -, h⟩ := h
  rcases h with ⟨h1, h2, -⟩ | ⟨h1, h2, -⟩ | ⟨h1, h2, -, h4⟩ | ⟨h1, h2, h3, h4, -⟩ | ⟨h1, h2⟩
  · rw [h2]; constructor
    · rintro ⟨z, -⟩; exact absurd z (by decide)
    · intro z; omega
  · rw [h2]; constructor
    · rintro ⟨z, -⟩; exact absurd z (by decide)
    · intro z; omega
  · obtain ⟨w1, w2⟩ := wds_ok c hc
    rw [wd_iff w1 w2 h4 h0.2.2.1, h2, h1, wcode_iff c hc]
    simp
  · rw [h3]; constructor
    · rintro ⟨z, -⟩; exact absurd z (by decide)
    · intro z; omega
  · rw [h2]; constructor
    · rintro ⟨z, -⟩; exact absurd z (by decide)
    · intro z; omega
section MPARSE0
variable {g : GS} {l : Launch} {Γ : Sh} {iv : IV} {rv : RV} {lv : LV}
set_option maxRecDepth 4000 in
theorem ct_fail (d : Nat) (hM : ShM Γ rv) : Ct g l mX7_fail (d) 0 0 [.ref 75] Γ iv rv lv (qCV Γ rv lv (fun iv' => iv' = if iv 75 33 = 0 then up (up iv 75 33 1) 75 34 (iv 75 30) else iv)) := by
  refine Ct.of (by decide +kernel) (Nat.le_of_ble_eq_true rfl) (Nat.le_of_ble_eq_true rfl) ?_
  refine r_aload0 dX7_fail_0 ?_
  refine gf_X7_181 dX7_fail_1 rfl hM.1 ?_
  refine rn_if_ne 20 dX7_fail_4 rfl (fun c4 => ?_) (fun c4 => ?_)
  · refine rn_vret dX7_fail_20 rfl (Nat.zero_le _) (Nat.zero_le _) ?_
    exact ⟨rfl, rfl, rfl, rfl, (if_neg c4).symm⟩
  · refine r_aload0 dX7_fail_7 ?_
    refine rn_iconst (1) dX7_fail_8 (by decide) ?_
    refine pf_X7_181 dX7_fail_9 rfl (Or.inr rfl) hM.1 ?_
    refine r_aload0 dX7_fail_12 ?_
    refine r_aload0 dX7_fail_13 ?_
    refine gf_X7_161 dX7_fail_14 rfl hM.1 ?_
    refine pf_X7_185 dX7_fail_17 rfl hM.1 ?_
    refine rn_vret dX7_fail_20 rfl (Nat.zero_le _) (Nat.zero_le _) ?_
    exact ⟨rfl, rfl, rfl, rfl, (if_pos c4).symm⟩
set_option maxRecDepth 4000 in
theorem ct_isSign (d : Nat) (hM : ShM Γ rv) (c : Int32) : Ct g l mX7_isSign (d) 0 0 [.ref 75, .int c] Γ iv rv lv (qPI (bI (iv 75 33 = 0 ∧ iv 75 29 = 3 ∧ lv 75 31 = c.toInt64)) Γ iv rv lv) := by
  refine Ct.of (by decide +kernel) (Nat.le_of_ble_eq_true rfl) (Nat.le_of_ble_eq_true rfl) ?_
  refine r_aload0 dX7_isSign_0 ?_
  refine gf_X7_181 dX7_isSign_1 rfl hM.1 ?_
  refine rn_if_ne 29 dX7_isSign_4 rfl (fun c4 => ?_) (fun c4 => ?_)
  · refine rn_iconst (0) dX7_isSign_29 (by decide) ?_
    refine rn_zret dX7_isSign_30 rfl (by first | decide | exact nar_bI) (Nat.zero_le _) (Nat.zero_le _) ?_
    refine ⟨congrArg (fun z => some (Value.int z)) (bI_f (fun z => c4 z.1)).symm, rfl, rfl, rfl, rfl⟩
  · refine r_aload0 dX7_isSign_7 ?_
    refine gf_X7_164 dX7_isSign_8 rfl hM.1 ?_
    refine rn_iconst (3) dX7_isSign_11 (by decide) ?_
    refine rn_icmp_ne 29 dX7_isSign_12 rfl (fun c12 => ?_) (fun c12 => ?_)
    · refine rn_iconst (0) dX7_isSign_29 (by decide) ?_
      refine rn_zret dX7_isSign_30 rfl (by first | decide | exact nar_bI) (Nat.zero_le _) (Nat.zero_le _) ?_
      refine ⟨congrArg (fun z => some (Value.int z)) (bI_f (fun z => c12 z.2.1)).symm, rfl, rfl, rfl, rfl⟩
    · refine r_aload0 dX7_isSign_15 ?_
      refine gf_X7_175 dX7_isSign_16 rfl hM.1 ?_
      refine r_iload1 dX7_isSign_19 ?_
      refine rn_i2l dX7_isSign_20 ?_
      refine rn_lcmp dX7_isSign_21 ?_
      refine rn_if_ne 29 dX7_isSign_22 rfl (fun c22 => ?_) (fun c22 => ?_)
      · refine rn_iconst (0) dX7_isSign_29 (by decide) ?_
        refine rn_zret dX7_isSign_30 rfl (by first | decide | exact nar_bI) (Nat.zero_le _) (Nat.zero_le _) ?_
        refine ⟨congrArg (fun z => some (Value.int z)) (bI_f (fun z => c22 ((lg_cmp_eq _ _).mpr z.2.2))).symm, rfl, rfl, rfl, rfl⟩
      · refine rn_iconst (1) dX7_isSign_25 (by decide) ?_
        refine rn_goto 30 dX7_isSign_26 rfl ?_
        refine rn_zret dX7_isSign_30 rfl (by first | decide | exact nar_bI) (Nat.zero_le _) (Nat.zero_le _) ?_
        refine ⟨congrArg (fun z => some (Value.int z)) (bI_t ⟨c4, c12, (lg_cmp_eq _ _).mp c22⟩).symm, rfl, rfl, rfl, rfl⟩
set_option maxRecDepth 4000 in
theorem ct_isLetter (d : Nat) (hM : ShM Γ rv) {b : Nat → Int32} {n f : Nat} (hT : TxM iv b n f) {t : Tk} (ht : TkOK n t) (h30 : iv 75 30 = nI t.2.1) (h28 : iv 75 28 = nI t.2.2.2) {y : Int32} (i : Nat) (hy : y = nI i) (hi : i < 8) (x : Int32) : Ct g l mX7_isLetter (d + 1) 0 0 [.ref 75, .int y, .int x] Γ iv rv lv (qCI Γ rv lv (fun z iv' => iv' = iv ∧ (z = 0 ∨ z = 1) ∧ (z = 1 ↔ LetEq b t i x))) := by
  refine Ct.of (by decide +kernel) (Nat.le_of_ble_eq_true rfl) (Nat.le_of_ble_eq_true rfl) ?_
  subst hy
  have hn160 : n ≤ 160 := hT.2.2.2.2.1
  have ht1 := ht.1
  have ht2 := ht.2.1
  unfold LetEq
  refine r_aload0 dX7_isLetter_0 ?_
  refine gf_X7_161 dX7_isLetter_1 rfl hM.1 ?_
  refine r_iload1 dX7_isLetter_4 ?_
  refine rn_iadd dX7_isLetter_5 ?_
  refine r_aload0 dX7_isLetter_6 ?_
  refine gf_X7_155 dX7_isLetter_7 rfl hM.1 ?_
  refine rn_icmp_ge 35 dX7_isLetter_10 rfl (fun c10 => ?_) (fun c10 => ?_)
  · rw [h30, h28, nI_add, nI_leI (by omega) (by omega)] at c10
    rw [if_neg (by omega)]
    refine r_iload2 dX7_isLetter_35 ?_
    refine rn_if_ne 43 dX7_isLetter_36 rfl (fun c36 => ?_) (fun c36 => ?_)
    · refine rn_iconst (0) dX7_isLetter_43 (by decide) ?_
      refine rn_zret dX7_isLetter_44 rfl (by first | decide | exact nar_bI) (Nat.zero_le _) (Nat.zero_le _) ?_
      refine ⟨_, rfl, rfl, rfl, rfl, rfl, Or.inl rfl, ?_⟩
      exact ⟨fun z => absurd z (by decide), fun z => absurd z c36⟩
    · refine rn_iconst (1) dX7_isLetter_39 (by decide) ?_
      refine rn_goto 44 dX7_isLetter_40 rfl ?_
      refine rn_zret dX7_isLetter_44 rfl (by first | decide | exact nar_bI) (Nat.zero_le _) (Nat.zero_le _) ?_
      refine ⟨_, rfl, rfl, rfl, rfl, rfl, Or.inr rfl, ?_⟩
      exact ⟨fun _ => c36, fun _ => rfl⟩
  · rw [h30, h28, nI_add, nI_leI (by omega) (by omega)] at c10
    have c10 : t.2.1 + i < t.2.2.2 := by omega
    rw [if_pos c10]
    refine r_aload0 dX7_isLetter_13 ?_
    refine r_aload0 dX7_isLetter_14 ?_
    refine gf_X7_161 dX7_isLetter_15 rfl hM.1 ?_
    refine r_iload1 dX7_isLetter_18 ?_
    refine rn_iadd dX7_isLetter_19 ?_
    refine cpiV1 dX7_isLetter_20 ov_X7_byteAt rfl ml_X7_158 hM.1 rfl (Nat.zero_le _) (Nat.zero_le _) (Nat.zero_le _) (ct_byteAt _ hM hT (t.2.1 + i) (by rw [h30]; exact nI_add _ _) (by omega)) ?_
    refine r_iload2 dX7_isLetter_23 ?_
    refine rn_icmp_ne 31 dX7_isLetter_24 rfl (fun c24 => ?_) (fun c24 => ?_)
    · refine rn_iconst (0) dX7_isLetter_31 (by decide) ?_
      refine rn_goto 44 dX7_isLetter_32 rfl ?_
      refine rn_zret dX7_isLetter_44 rfl (by first | decide | exact nar_bI) (Nat.zero_le _) (Nat.zero_le _) ?_
      refine ⟨_, rfl, rfl, rfl, rfl, rfl, Or.inl rfl, ?_⟩
      rw [if_pos (by omega)] at c24
      exact ⟨fun z => absurd z (by decide), fun z => absurd z c24⟩
    · refine rn_iconst (1) dX7_isLetter_27 (by decide) ?_
      refine rn_goto 44 dX7_isLetter_28 rfl ?_
      refine rn_zret dX7_isLetter_44 rfl (by first | decide | exact nar_bI) (Nat.zero_le _) (Nat.zero_le _) ?_
      refine ⟨_, rfl, rfl, rfl, rfl, rfl, Or.inr rfl, ?_⟩
      rw [if_pos (by omega)] at c24
      exact ⟨fun _ => c24, fun _ => rfl⟩
set_option maxRecDepth 4000 in
theorem ct_isWord (d : Nat) (hM : ShM Γ rv) {b : Nat → Int32} {n f : Nat} (hT : TxM iv b n f) {t : Tk} (ht : TkOK n t) (h30 : iv 75 30 = nI t.2.1) (h28 : iv 75 29 = 1 → iv 75 28 = nI t.2.2.2) (a : Nat → Int32) : Ct g l mX7_isWord (d + 2) 0 0 [.ref 75, .int (a 0), .int (a 1), .int (a 2), .int (a 3), .int (a 4), .int (a 5), .int (a 6), .int (a 7)] Γ iv rv lv (qCI Γ rv lv (fun z iv' => iv' = iv ∧ (z = 0 ∨ z = 1) ∧ (z = 1 ↔ (iv 75 33 = 0 ∧ iv 75 29 = 1 ∧ t.2.2.2 ≤ t.2.1 + 8 ∧ ∀ i, i < 8 → LetEq b t i (a i))))) := by
  refine Ct.of (by decide +kernel) (Nat.le_of_ble_eq_true rfl) (Nat.le_of_ble_eq_true rfl) ?_
  have hn160 : n ≤ 160 := hT.2.2.2.2.1
  have ht1 := ht.1
  have ht2 := ht.2.1
  refine r_aload0 dX7_isWord_0 ?_
  refine gf_X7_181 dX7_isWord_1 rfl hM.1 ?_
  refine rn_if_ne 112 dX7_isWord_4 rfl (fun c4 => ?_) (fun c4 => ?_)
  · refine rn_iconst (0) dX7_isWord_112 (by decide) ?_
    refine rn_zret dX7_isWord_113 rfl (by first | decide | exact nar_bI) (Nat.zero_le _) (Nat.zero_le _) ?_
    exact ⟨_, rfl, rfl, rfl, rfl, rfl, Or.inl rfl, fun z => absurd z (by decide), fun z => False.elim (c4 z.1)⟩
  · refine r_aload0 dX7_isWord_7 ?_
    refine gf_X7_164 dX7_isWord_8 rfl hM.1 ?_
    refine rn_iconst (1) dX7_isWord_11 (by decide) ?_
    refine rn_icmp_ne 112 dX7_isWord_12 rfl (fun c12 => ?_) (fun c12 => ?_)
    · refine rn_iconst (0) dX7_isWord_112 (by decide) ?_
      refine rn_zret dX7_isWord_113 rfl (by first | decide | exact nar_bI) (Nat.zero_le _) (Nat.zero_le _) ?_
      exact ⟨_, rfl, rfl, rfl, rfl, rfl, Or.inl rfl, fun z => absurd z (by decide), fun z => False.elim (c12 z.2.1)⟩
    · have h28 := h28 c12
      refine r_aload0 dX7_isWord_15 ?_
      refine gf_X7_155 dX7_isWord_16 rfl hM.1 ?_
      refine r_aload0 dX7_isWord_19 ?_
      refine gf_X7_161 dX7_isWord_20 rfl hM.1 ?_
      refine rn_bipush (8) dX7_isWord_23 (by decide) ?_
      refine rn_iadd dX7_isWord_25 ?_
      refine rn_icmp_gt 112 dX7_isWord_26 rfl (fun c26 => ?_) (fun c26 => ?_)
      · rw [h30, h28, show (8 : Int32) = nI 8 by decide, nI_add, nI_ltI (by omega) (by omega)] at c26
        refine rn_iconst (0) dX7_isWord_112 (by decide) ?_
        refine rn_zret dX7_isWord_113 rfl (by first | decide | exact nar_bI) (Nat.zero_le _) (Nat.zero_le _) ?_
        exact ⟨_, rfl, rfl, rfl, rfl, rfl, Or.inl rfl, fun z => absurd z (by decide), fun z => False.elim (absurd z.2.2.1 (by omega))⟩
      · rw [h30, h28, show (8 : Int32) = nI 8 by decide, nI_add, nI_ltI (by omega) (by omega), Nat.not_lt] at c26
        refine r_aload0 dX7_isWord_29 ?_
        refine rn_iconst (0) dX7_isWord_30 (by decide) ?_
        refine r_iload1 dX7_isWord_31 ?_
        refine cciV2 dX7_isWord_32 ov_X7_isLetter rfl ml_X7_188 hM.1 rfl (Nat.zero_le _) (Nat.zero_le _) (Nat.zero_le _) (ct_isLetter _ hM hT ht h30 h28 0 rfl (by decide) _) (fun x32 iv h32 => ?_)
        obtain ⟨rfl, h32o, h32i⟩ := h32
        refine rn_if_eq 112 dX7_isWord_35 rfl (fun c35 => ?_) (fun c35 => ?_)
        · refine rn_iconst (0) dX7_isWord_112 (by decide) ?_
          refine rn_zret dX7_isWord_113 rfl (by first | decide | exact nar_bI) (Nat.zero_le _) (Nat.zero_le _) ?_
          exact ⟨_, rfl, rfl, rfl, rfl, rfl, Or.inl rfl, fun z => absurd z (by decide), fun z => False.elim (absurd (h32i.mpr (z.2.2.2 0 (by decide))) (by rw [c35]; decide))⟩
        · refine r_aload0 dX7_isWord_38 ?_
          refine rn_iconst (1) dX7_isWord_39 (by decide) ?_
          refine r_iload2 dX7_isWord_40 ?_
          refine cciV2 dX7_isWord_41 ov_X7_isLetter rfl ml_X7_188 hM.1 rfl (Nat.zero_le _) (Nat.zero_le _) (Nat.zero_le _) (ct_isLetter _ hM hT ht h30 h28 1 rfl (by decide) _) (fun x41 iv h41 => ?_)
          obtain ⟨rfl, h41o, h41i⟩ := h41
          refine rn_if_eq 112 dX7_isWord_44 rfl (fun c44 => ?_) (fun c44 => ?_)
          · refine rn_iconst (0) dX7_isWord_112 (by decide) ?_
            refine rn_zret dX7_isWord_113 rfl (by first | decide | exact nar_bI) (Nat.zero_le _) (Nat.zero_le _) ?_
            exact ⟨_, rfl, rfl, rfl, rfl, rfl, Or.inl rfl, fun z => absurd z (by decide), fun z => False.elim (absurd (h41i.mpr (z.2.2.2 1 (by decide))) (by rw [c44]; decide))⟩
          · refine r_aload0 dX7_isWord_47 ?_
            refine rn_iconst (2) dX7_isWord_48 (by decide) ?_
            refine r_iload3 dX7_isWord_49 ?_
            refine cciV2 dX7_isWord_50 ov_X7_isLetter rfl ml_X7_188 hM.1 rfl (Nat.zero_le _) (Nat.zero_le _) (Nat.zero_le _) (ct_isLetter _ hM hT ht h30 h28 2 rfl (by decide) _) (fun x50 iv h50 => ?_)
            obtain ⟨rfl, h50o, h50i⟩ := h50
            refine rn_if_eq 112 dX7_isWord_53 rfl (fun c53 => ?_) (fun c53 => ?_)
            · refine rn_iconst (0) dX7_isWord_112 (by decide) ?_
              refine rn_zret dX7_isWord_113 rfl (by first | decide | exact nar_bI) (Nat.zero_le _) (Nat.zero_le _) ?_
              exact ⟨_, rfl, rfl, rfl, rfl, rfl, Or.inl rfl, fun z => absurd z (by decide), fun z => False.elim (absurd (h50i.mpr (z.2.2.2 2 (by decide))) (by rw [c53]; decide))⟩
            · refine r_aload0 dX7_isWord_56 ?_
              refine rn_iconst (3) dX7_isWord_57 (by decide) ?_
              refine r_iload4 dX7_isWord_58 ?_
              refine cciV2 dX7_isWord_60 ov_X7_isLetter rfl ml_X7_188 hM.1 rfl (Nat.zero_le _) (Nat.zero_le _) (Nat.zero_le _) (ct_isLetter _ hM hT ht h30 h28 3 rfl (by decide) _) (fun x60 iv h60 => ?_)
              obtain ⟨rfl, h60o, h60i⟩ := h60
              refine rn_if_eq 112 dX7_isWord_63 rfl (fun c63 => ?_) (fun c63 => ?_)
              · refine rn_iconst (0) dX7_isWord_112 (by decide) ?_
                refine rn_zret dX7_isWord_113 rfl (by first | decide | exact nar_bI) (Nat.zero_le _) (Nat.zero_le _) ?_
                exact ⟨_, rfl, rfl, rfl, rfl, rfl, Or.inl rfl, fun z => absurd z (by decide), fun z => False.elim (absurd (h60i.mpr (z.2.2.2 3 (by decide))) (by rw [c63]; decide))⟩
              · refine r_aload0 dX7_isWord_66 ?_
                refine rn_iconst (4) dX7_isWord_67 (by decide) ?_
                refine r_iload5 dX7_isWord_68 ?_
                refine cciV2 dX7_isWord_70 ov_X7_isLetter rfl ml_X7_188 hM.1 rfl (Nat.zero_le _) (Nat.zero_le _) (Nat.zero_le _) (ct_isLetter _ hM hT ht h30 h28 4 rfl (by decide) _) (fun x70 iv h70 => ?_)
                obtain ⟨rfl, h70o, h70i⟩ := h70
                refine rn_if_eq 112 dX7_isWord_73 rfl (fun c73 => ?_) (fun c73 => ?_)
                · refine rn_iconst (0) dX7_isWord_112 (by decide) ?_
                  refine rn_zret dX7_isWord_113 rfl (by first | decide | exact nar_bI) (Nat.zero_le _) (Nat.zero_le _) ?_
                  exact ⟨_, rfl, rfl, rfl, rfl, rfl, Or.inl rfl, fun z => absurd z (by decide), fun z => False.elim (absurd (h70i.mpr (z.2.2.2 4 (by decide))) (by rw [c73]; decide))⟩
                · refine r_aload0 dX7_isWord_76 ?_
                  refine rn_iconst (5) dX7_isWord_77 (by decide) ?_
                  refine r_iload6 dX7_isWord_78 ?_
                  refine cciV2 dX7_isWord_80 ov_X7_isLetter rfl ml_X7_188 hM.1 rfl (Nat.zero_le _) (Nat.zero_le _) (Nat.zero_le _) (ct_isLetter _ hM hT ht h30 h28 5 rfl (by decide) _) (fun x80 iv h80 => ?_)
                  obtain ⟨rfl, h80o, h80i⟩ := h80
                  refine rn_if_eq 112 dX7_isWord_83 rfl (fun c83 => ?_) (fun c83 => ?_)
                  · refine rn_iconst (0) dX7_isWord_112 (by decide) ?_
                    refine rn_zret dX7_isWord_113 rfl (by first | decide | exact nar_bI) (Nat.zero_le _) (Nat.zero_le _) ?_
                    exact ⟨_, rfl, rfl, rfl, rfl, rfl, Or.inl rfl, fun z => absurd z (by decide), fun z => False.elim (absurd (h80i.mpr (z.2.2.2 5 (by decide))) (by rw [c83]; decide))⟩
                  · refine r_aload0 dX7_isWord_86 ?_
                    refine rn_bipush (6) dX7_isWord_87 (by decide) ?_
                    refine r_iload7 dX7_isWord_89 ?_
                    refine cciV2 dX7_isWord_91 ov_X7_isLetter rfl ml_X7_188 hM.1 rfl (Nat.zero_le _) (Nat.zero_le _) (Nat.zero_le _) (ct_isLetter _ hM hT ht h30 h28 6 rfl (by decide) _) (fun x91 iv h91 => ?_)
                    obtain ⟨rfl, h91o, h91i⟩ := h91
                    refine rn_if_eq 112 dX7_isWord_94 rfl (fun c94 => ?_) (fun c94 => ?_)
                    · refine rn_iconst (0) dX7_isWord_112 (by decide) ?_
                      refine rn_zret dX7_isWord_113 rfl (by first | decide | exact nar_bI) (Nat.zero_le _) (Nat.zero_le _) ?_
                      exact ⟨_, rfl, rfl, rfl, rfl, rfl, Or.inl rfl, fun z => absurd z (by decide), fun z => False.elim (absurd (h91i.mpr (z.2.2.2 6 (by decide))) (by rw [c94]; decide))⟩
                    · refine r_aload0 dX7_isWord_97 ?_
                      refine rn_bipush (7) dX7_isWord_98 (by decide) ?_
                      refine r_iload8 dX7_isWord_100 ?_
                      refine cciV2 dX7_isWord_102 ov_X7_isLetter rfl ml_X7_188 hM.1 rfl (Nat.zero_le _) (Nat.zero_le _) (Nat.zero_le _) (ct_isLetter _ hM hT ht h30 h28 7 rfl (by decide) _) (fun x102 iv h102 => ?_)
                      obtain ⟨rfl, h102o, h102i⟩ := h102
                      refine rn_if_eq 112 dX7_isWord_105 rfl (fun c105 => ?_) (fun c105 => ?_)
                      · refine rn_iconst (0) dX7_isWord_112 (by decide) ?_
                        refine rn_zret dX7_isWord_113 rfl (by first | decide | exact nar_bI) (Nat.zero_le _) (Nat.zero_le _) ?_
                        exact ⟨_, rfl, rfl, rfl, rfl, rfl, Or.inl rfl, fun z => absurd z (by decide), fun z => False.elim (absurd (h102i.mpr (z.2.2.2 7 (by decide))) (by rw [c105]; decide))⟩
                      · refine rn_iconst (1) dX7_isWord_108 (by decide) ?_
                        refine rn_goto 113 dX7_isWord_109 rfl ?_
                        refine rn_zret dX7_isWord_113 rfl (by first | decide | exact nar_bI) (Nat.zero_le _) (Nat.zero_le _) ?_
                        refine ⟨_, rfl, rfl, rfl, rfl, rfl, Or.inr rfl, fun _ => ⟨c4, c12, c26, ?_⟩, fun _ => rfl⟩
                        intro i hi
                        match i, hi with
                        | 0, _ => exact h32i.mp (h32o.resolve_left c35)
                        | 1, _ => exact h41i.mp (h41o.resolve_left c44)
                        | 2, _ => exact h50i.mp (h50o.resolve_left c53)
                        | 3, _ => exact h60i.mp (h60o.resolve_left c63)
                        | 4, _ => exact h70i.mp (h70o.resolve_left c73)
                        | 5, _ => exact h80i.mp (h80o.resolve_left c83)
                        | 6, _ => exact h91i.mp (h91o.resolve_left c94)
                        | 7, _ => exact h102i.mp (h102o.resolve_left c105)
theorem tok_here {b : Nat → Int32} {n : Nat} {t : Tk} (h : TokM iv lv b n t) (h1 : iv 75 29 = 1) : iv 75 28 = nI t.2.2.2 := by
  obtain ⟨-, -, h⟩ := h
  rcases h with ⟨-, h2, h3⟩ | ⟨-, h2, -, h3⟩ | ⟨-, h2, h3, -⟩ | ⟨-, -, h2, -, h3⟩ | ⟨-, h2⟩
  · exact h3
  · exact h3
  · exact h3
  · exact h3
  · rw [h2] at h1; exact absurd h1 (by decide)
theorem ct_isW (d : Nat) (hM : ShM Γ rv) {b : Nat → Int32} {n f : Nat} (hT : TxM iv b n f) {t : Tk} (ht : TokM iv lv b n t) (c : Nat) (hc : c < 12) : Ct g l mX7_isWord (d + 2) 0 0 [.ref 75, .int ((wds.getD c []).getD 0 0), .int ((wds.getD c []).getD 1 0), .int ((wds.getD c []).getD 2 0), .int ((wds.getD c []).getD 3 0), .int ((wds.getD c []).getD 4 0), .int ((wds.getD c []).getD 5 0), .int ((wds.getD c []).getD 6 0), .int ((wds.getD c []).getD 7 0)] Γ iv rv lv (qPI (bI (iv 75 33 = 0 ∧ t.1 = c)) Γ iv rv lv) := by
  refine (ct_isWord d hM hT ht.1 ht.2.1 (tok_here ht) (fun i => (wds.getD c []).getD i 0)).mono ?_
  rintro r Γ2 iv2 rv2 lv2 ⟨x, rfl, rfl, rfl, rfl, rfl, ho, hi⟩
  refine ⟨congrArg (fun z => some (Value.int z)) ?_, rfl, rfl, rfl, rfl⟩
  rw [tok_word ht hc] at hi
  by_cases h : iv2 75 33 = 0 ∧ t.1 = c
  · rw [bI_t h]; exact hi.mpr h
  · rw [bI_f h]; exact ho.resolve_right (fun z => h (hi.mp z))
/-- nothing is a word, where it is bad -/
theorem ct_isWbad (d : Nat) (hM : ShM Γ rv) (hb : iv 75 33 = 1) (v1 v2 v3 v4 v5 v6 v7 v8 : Int32) : Ct g l mX7_isWord d 0 0 [.ref 75, .int v1, .int v2, .int v3, .int v4, .int v5, .int v6, .int v7, .int v8] Γ iv rv lv (qPI 0 Γ iv rv lv) := by
  refine Ct.of (by decide +kernel) (Nat.le_of_ble_eq_true rfl) (Nat.le_of_ble_eq_true rfl) ?_
  refine r_aload0 dX7_isWord_0 ?_
  refine gf_X7_181 dX7_isWord_1 rfl hM.1 ?_
  refine rn_if_ne 112 dX7_isWord_4 rfl (fun _ => ?_) (fun h => absurd h (by rw [hb]; decide))
  refine rn_iconst (0) dX7_isWord_112 (by decide) ?_
  refine rn_zret dX7_isWord_113 rfl (by first | decide | exact nar_bI) (Nat.zero_le _) (Nat.zero_le _) ?_
  exact ⟨rfl, rfl, rfl, rfl, rfl⟩
theorem ct_isW0 (d : Nat) (hM : ShM Γ rv) {b : Nat → Int32} {n f : Nat} (hT : TxM iv b n f) {t : Tk} (ht : TokM iv lv b n t) : Ct g l mX7_isWord (d + 2) 0 0 [.ref 75, .int 103, .int 114, .int 111, .int 117, .int 110, .int 100, .int 0, .int 0] Γ iv rv lv (qPI (bI (iv 75 33 = 0 ∧ t.1 = 0)) Γ iv rv lv) := ct_isW d hM hT ht 0 (by decide)
theorem ct_isW1 (d : Nat) (hM : ShM Γ rv) {b : Nat → Int32} {n f : Nat} (hT : TxM iv b n f) {t : Tk} (ht : TokM iv lv b n t) : Ct g l mX7_isWord (d + 2) 0 0 [.ref 75, .int 109, .int 101, .int 110, .int 0, .int 0, .int 0, .int 0, .int 0] Γ iv rv lv (qPI (bI (iv 75 33 = 0 ∧ t.1 = 1)) Γ iv rv lv) := ct_isW d hM hT ht 1 (by decide)
theorem ct_isW2 (d : Nat) (hM : ShM Γ rv) {b : Nat → Int32} {n f : Nat} (hT : TxM iv b n f) {t : Tk} (ht : TokM iv lv b n t) : Ct g l mX7_isWord (d + 2) 0 0 [.ref 75, .int 121, .int 97, .int 114, .int 100, .int 0, .int 0, .int 0, .int 0] Γ iv rv lv (qPI (bI (iv 75 33 = 0 ∧ t.1 = 2)) Γ iv rv lv) := ct_isW d hM hT ht 2 (by decide)
theorem ct_isW3 (d : Nat) (hM : ShM Γ rv) {b : Nat → Int32} {n f : Nat} (hT : TxM iv b n f) {t : Tk} (ht : TokM iv lv b n t) : Ct g l mX7_isWord (d + 2) 0 0 [.ref 75, .int 97, .int 104, .int 101, .int 97, .int 100, .int 0, .int 0, .int 0] Γ iv rv lv (qPI (bI (iv 75 33 = 0 ∧ t.1 = 3)) Γ iv rv lv) := ct_isW d hM hT ht 3 (by decide)
theorem ct_isW4 (d : Nat) (hM : ShM Γ rv) {b : Nat → Int32} {n f : Nat} (hT : TxM iv b n f) {t : Tk} (ht : TokM iv lv b n t) : Ct g l mX7_isWord (d + 2) 0 0 [.ref 75, .int 100, .int 97, .int 121, .int 0, .int 0, .int 0, .int 0, .int 0] Γ iv rv lv (qPI (bI (iv 75 33 = 0 ∧ t.1 = 4)) Γ iv rv lv) := ct_isW d hM hT ht 4 (by decide)
theorem ct_isW5 (d : Nat) (hM : ShM Γ rv) {b : Nat → Int32} {n f : Nat} (hT : TxM iv b n f) {t : Tk} (ht : TokM iv lv b n t) : Ct g l mX7_isWord (d + 2) 0 0 [.ref 75, .int 107, .int 110, .int 111, .int 119, .int 110, .int 0, .int 0, .int 0] Γ iv rv lv (qPI (bI (iv 75 33 = 0 ∧ t.1 = 5)) Γ iv rv lv) := ct_isW d hM hT ht 5 (by decide)
theorem ct_isW6 (d : Nat) (hM : ShM Γ rv) {b : Nat → Int32} {n f : Nat} (hT : TxM iv b n f) {t : Tk} (ht : TokM iv lv b n t) : Ct g l mX7_isWord (d + 2) 0 0 [.ref 75, .int 114, .int 97, .int 116, .int 101, .int 0, .int 0, .int 0, .int 0] Γ iv rv lv (qPI (bI (iv 75 33 = 0 ∧ t.1 = 6)) Γ iv rv lv) := ct_isW d hM hT ht 6 (by decide)
theorem ct_isW7 (d : Nat) (hM : ShM Γ rv) {b : Nat → Int32} {n f : Nat} (hT : TxM iv b n f) {t : Tk} (ht : TokM iv lv b n t) : Ct g l mX7_isWord (d + 2) 0 0 [.ref 75, .int 110, .int 101, .int 101, .int 100, .int 0, .int 0, .int 0, .int 0] Γ iv rv lv (qPI (bI (iv 75 33 = 0 ∧ t.1 = 7)) Γ iv rv lv) := ct_isW d hM hT ht 7 (by decide)
theorem ct_isW8 (d : Nat) (hM : ShM Γ rv) {b : Nat → Int32} {n f : Nat} (hT : TxM iv b n f) {t : Tk} (ht : TokM iv lv b n t) : Ct g l mX7_isWord (d + 2) 0 0 [.ref 75, .int 119, .int 111, .int 114, .int 116, .int 104, .int 0, .int 0, .int 0] Γ iv rv lv (qPI (bI (iv 75 33 = 0 ∧ t.1 = 8)) Γ iv rv lv) := ct_isW d hM hT ht 8 (by decide)
theorem ct_isW9 (d : Nat) (hM : ShM Γ rv) {b : Nat → Int32} {n f : Nat} (hT : TxM iv b n f) {t : Tk} (ht : TokM iv lv b n t) : Ct g l mX7_isWord (d + 2) 0 0 [.ref 75, .int 111, .int 114, .int 0, .int 0, .int 0, .int 0, .int 0, .int 0] Γ iv rv lv (qPI (bI (iv 75 33 = 0 ∧ t.1 = 9)) Γ iv rv lv) := ct_isW d hM hT ht 9 (by decide)
theorem ct_isW10 (d : Nat) (hM : ShM Γ rv) {b : Nat → Int32} {n f : Nat} (hT : TxM iv b n f) {t : Tk} (ht : TokM iv lv b n t) : Ct g l mX7_isWord (d + 2) 0 0 [.ref 75, .int 97, .int 110, .int 100, .int 0, .int 0, .int 0, .int 0, .int 0] Γ iv rv lv (qPI (bI (iv 75 33 = 0 ∧ t.1 = 10)) Γ iv rv lv) := ct_isW d hM hT ht 10 (by decide)
theorem ct_isW11 (d : Nat) (hM : ShM Γ rv) {b : Nat → Int32} {n f : Nat} (hT : TxM iv b n f) {t : Tk} (ht : TokM iv lv b n t) : Ct g l mX7_isWord (d + 2) 0 0 [.ref 75, .int 110, .int 111, .int 116, .int 0, .int 0, .int 0, .int 0, .int 0] Γ iv rv lv (qPI (bI (iv 75 33 = 0 ∧ t.1 = 11)) Γ iv rv lv) := ct_isW d hM hT ht 11 (by decide)
/-- the sign c -/
theorem ct_isS (d : Nat) (hM : ShM Γ rv) {b : Nat → Int32} {n : Nat} {t : Tk} (ht : TokM iv lv b n t) (c : Int32) (k : Nat) (hc : sgn c = k) (hk : 15 ≤ k) : Ct g l mX7_isSign d 0 0 [.ref 75, .int c] Γ iv rv lv (qPI (bI (iv 75 33 = 0 ∧ t.1 = k)) Γ iv rv lv) := by
  have h := ct_isSign (g := g) (l := l) (Γ := Γ) (iv := iv) (rv := rv) (lv := lv) d hM c
  subst hc
  simp only [tok_sign ht hk] at h
  exact h
theorem ct_isSbad (d : Nat) (hM : ShM Γ rv) (hb : iv 75 33 = 1) (c : Int32) : Ct g l mX7_isSign d 0 0 [.ref 75, .int c] Γ iv rv lv (qPI 0 Γ iv rv lv) := by
  have h := ct_isSign (g := g) (l := l) (Γ := Γ) (iv := iv) (rv := rv) (lv := lv) d hM c
  rw [bI_f (fun z => absurd (z.1.symm.trans hb) (by decide))] at h
  exact h
end MPARSE0
