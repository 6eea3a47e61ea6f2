/-! THE REFERENCE: next() -/
theorem lexS_end {b : Nat → Int32} {n p s : Nat} (hs : scanTo isBl b n p = s) (h : n ≤ s) : lexS b n p = (13, s, 0, s) := by
  unfold lexS; rw [hs, if_pos h]
theorem lexS_num {b : Nat → Int32} {n p s : Nat} (hs : scanTo isBl b n p = s) (h : ¬ n ≤ s) (h2 : isDg (b s) = true) : lexS b n p = (if scanTo isDg b n s - s ≤ 4 then 12 else 14, s, numv b (scanTo isDg b n s - s) s 0, scanTo isDg b n s) := by
  unfold lexS; rw [hs, if_neg h, if_pos h2]
theorem lexS_word {b : Nat → Int32} {n p s : Nat} (hs : scanTo isBl b n p = s) (h : ¬ n ≤ s) (h2 : ¬ isDg (b s) = true) (h3 : isLe (b s) = true) : lexS b n p = (wcode (wd b s (scanTo isLe b n s)), s, 0, scanTo isLe b n s) := by
  unfold lexS; rw [hs, if_neg h, if_neg h2, if_pos h3]
theorem lexS_sign {b : Nat → Int32} {n p s : Nat} (hs : scanTo isBl b n p = s) (h : ¬ n ≤ s) (h2 : ¬ isDg (b s) = true) (h3 : ¬ isLe (b s) = true) : lexS b n p = (sgn (b s), s, 0, s + 1) := by
  unfold lexS; rw [hs, if_neg h, if_neg h2, if_neg h3]
theorem isLe_iff {x : Int32} : isLe x = true ↔ bI ((97 : Int32) ≤ x ∧ x ≤ 122) ≠ 0 := by
  unfold isLe bI; rw [decide_eq_true_iff]; split <;> simp_all
theorem isDg_iff {x : Int32} : isDg x = true ↔ bI ((48 : Int32) ≤ x ∧ x ≤ 57) ≠ 0 := by
  unfold isDg bI; rw [decide_eq_true_iff]; split <;> simp_all
theorem le_not_dg {x : Int32} (h : isLe x = true) : ¬ isDg x = true := by
  have h := of_decide_eq_true h
  intro z
  have z := of_decide_eq_true z
  simp only [Int32.le_iff_toInt_le, Int32.reduceToInt] at *
  omega
/-- a byte that is asked for, where there may be none -/
theorem by_le {q n : Nat} {b : Nat → Int32} : bI ((97 : Int32) ≤ (if q < n then b q else -1) ∧ (if q < n then b q else -1) ≤ 122) = 0 ↔ ¬ (q < n ∧ isLe (b q) = true) := by
  by_cases h : q < n
  · simp only [h, if_true, isLe_iff, true_and, ne_eq, Decidable.not_not]
  · simp only [h, if_false, false_and, not_false_eq_true, iff_true]; decide
theorem by_dg {q n : Nat} {b : Nat → Int32} : bI ((48 : Int32) ≤ (if q < n then b q else -1) ∧ (if q < n then b q else -1) ≤ 57) = 0 ↔ ¬ (q < n ∧ isDg (b q) = true) := by
  by_cases h : q < n
  · simp only [h, if_true, isDg_iff, true_and, ne_eq, Decidable.not_not]
  · simp only [h, if_false, false_and, not_false_eq_true, iff_true]; decide
theorem sgn_wrong {x : Int32} (h1 : ¬ x = 40) (h2 : ¬ x = 41) (h3 : ¬ x = 59) (h4 : ¬ x = 43) (h5 : ¬ x = 45) (h6 : ¬ x = 42) (h7 : ¬ x = 60) (h8 : ¬ x = 61) : sgn x = 14 := by
  unfold sgn
  rw [if_neg h1, if_neg h2, if_neg h3, if_neg h4, if_neg h5, if_neg h6, if_neg h7, if_neg h8]
theorem sgn_one {x : Int32} (h : x = 40 ∨ x = 41 ∨ x = 59 ∨ x = 43 ∨ x = 45 ∨ x = 42 ∨ x = 60 ∨ x = 61) : 15 ≤ sgn x := by
  rcases h with rfl | rfl | rfl | rfl | rfl | rfl | rfl | rfl <;> decide
section MNEXT
variable {g : GS} {l : Launch} {Γ : Sh} {iv : IV} {rv : RV} {lv : LV}
theorem nx_word {d : Nat} {Q : Qt} {v1 v2 : Value} (hM : ShM Γ rv) {b : Nat → Int32} {n f : Nat} : ∀ (k q : Nat) (iv : IV), n - q < k → TxM iv b n f → iv 75 28 = nI q → q ≤ n →
    (∀ iv', Off (fun a b => a = 75 ∧ b = 28) iv iv' → iv' 75 28 = nI (scanTo isLe b n q) → Rn g l mX7_next (rmA (d + 1) 0 0) Q 0 0 321 [.ref 75, v1, v2] [] Γ iv' rv lv) → Rn g l mX7_next (rmA (d + 1) 0 0) Q 0 0 100 [.ref 75, v1, v2] [] Γ iv rv lv := by
  intro k
  induction k with
  | zero => intro q iv h; omega
  | succ k ih =>
    intro q iv hk hT hq hpn kk
    have hn160 : n ≤ 160 := hT.2.2.2.2.1
    refine r_aload0 dX7_next_100 ?_
    refine r_aload0 dX7_next_101 ?_
    refine gf_X7_155 dX7_next_102 rfl hM.1 ?_
    refine cpiV1 dX7_next_105 ov_X7_byteAt rfl ml_X7_158 hM.1 rfl (Nat.zero_le _) (Nat.zero_le _) (Nat.zero_le _) (ct_byteAt _ hM hT q hq (by omega)) ?_
    refine rn_i2l dX7_next_108 ?_
    refine rn_ldc2 (v := _) dX7_next_109 cl_X7_167 ?_
    refine rn_ldc2 (v := _) dX7_next_112 cl_X7_169 ?_
    refine cpiS3 dX7_next_115 os_X7_in rfl ml_X7_96 (Nat.zero_le _) (Nat.zero_le _) (Nat.zero_le _) (ct_inI _ (a := 97) (b := 122) (by decide) (by decide)) ?_
    refine rn_if_eq 321 dX7_next_118 rfl (fun c118 => ?_) (fun c118 => ?_)
    · exact kk iv Off.refl (by rw [scanTo_stop (by_le.mp c118)]; exact hq)
    · refine r_aload0 dX7_next_121 ?_
      refine rn_dup dX7_next_122 rfl ?_
      refine gf_X7_155 dX7_next_123 rfl hM.1 ?_
      refine rn_iconst (1) dX7_next_126 (by decide) ?_
      refine rn_iadd dX7_next_127 ?_
      refine pf_X7_155 dX7_next_128 rfl hM.1 ?_
      refine rn_goto 100 dX7_next_131 rfl ?_
      have c := Decidable.not_not.mp (mt by_le.mpr c118)
      exact ih (q + 1) _ (by omega) (hT.off (off_up (S := Lx) (x := iv 75 28 + 1) (by decide)) (by decide) (by decide) (fun j h => by cases h.1)) (by rw [up_same, hq]; exact nI_1 q) c.1 (fun iv2 h1 h2 => kk iv2 ((off_up (by decide)).trans h1) (by rw [h2, scanTo_go c.1 c.2]))
theorem nx_num {d : Nat} {Q : Qt} {x1 : Int32} (hM : ShM Γ rv) {b : Nat → Int32} {n f s : Nat} : ∀ (k q c : Nat) (iv : IV) (lv : LV), n - q < k → TxM iv b n f → iv 75 28 = nI q → q ≤ n → s + c = q → ∀ {x2 : Int32}, x2 = nI c → (c ≤ 4 → ∃ v : Nat, v < 10 ^ c ∧ numv b c s 0 = nI v ∧ lv 75 31 = lN v) →
    (∀ iv' lv' c', Off (fun a b => a = 75 ∧ b = 28) iv iv' → scanTo isDg b n q = s + c' → iv' 75 28 = nI (s + c') → (c' ≤ 4 → ∃ v : Nat, v < 10 ^ c' ∧ numv b c' s 0 = nI v ∧ lv' 75 31 = lN v) → Rn g l mX7_next (rmA (d + 1) 0 0) Q 0 0 235 [.ref 75, .int x1, .int (nI c')] [] Γ iv' rv lv') → Rn g l mX7_next (rmA (d + 1) 0 0) Q 0 0 160 [.ref 75, .int x1, .int x2] [] Γ iv rv lv := by
  intro k
  induction k with
  | zero => intro q c iv lv h; omega
  | succ k ih =>
    intro q c iv lv hk hT hq hpn hc x2 hx2 hv kk
    subst hx2
    have hn160 : n ≤ 160 := hT.2.2.2.2.1
    refine r_aload0 dX7_next_160 ?_
    refine r_aload0 dX7_next_161 ?_
    refine gf_X7_155 dX7_next_162 rfl hM.1 ?_
    refine cpiV1 dX7_next_165 ov_X7_byteAt rfl ml_X7_158 hM.1 rfl (Nat.zero_le _) (Nat.zero_le _) (Nat.zero_le _) (ct_byteAt _ hM hT q hq (by omega)) ?_
    refine rn_i2l dX7_next_168 ?_
    refine rn_ldc2 (v := _) dX7_next_169 cl_X7_171 ?_
    refine rn_ldc2 (v := _) dX7_next_172 cl_X7_173 ?_
    refine cpiS3 dX7_next_175 os_X7_in rfl ml_X7_96 (Nat.zero_le _) (Nat.zero_le _) (Nat.zero_le _) (ct_inI _ (a := 48) (b := 57) (by decide) (by decide)) ?_
    refine rn_if_eq 235 dX7_next_178 rfl (fun c178 => ?_) (fun c178 => ?_)
    · exact kk iv lv c Off.refl (by rw [scanTo_stop (by_dg.mp c178)]; exact hc.symm) (by rw [hc]; exact hq) hv
    · refine r_aload0 dX7_next_181 ?_
      refine r_iload2 dX7_next_182 ?_
      refine rn_iconst (4) dX7_next_183 (by decide) ?_
      refine rn_icmp_ge 212 dX7_next_184 rfl (fun c184 => ?_) (fun c184 => ?_)
      · refine r_aload0 dX7_next_212 ?_
        refine gf_X7_175 dX7_next_213 rfl hM.1 ?_
        refine pf_X7_175 dX7_next_216 rfl hM.1 ?_
        refine r_iinc2 _ dX7_next_219 rfl rfl ?_
        refine r_aload0 dX7_next_222 ?_
        refine rn_dup dX7_next_223 rfl ?_
        refine gf_X7_155 dX7_next_224 rfl hM.1 ?_
        refine rn_iconst (1) dX7_next_227 (by decide) ?_
        refine rn_iadd dX7_next_228 ?_
        refine pf_X7_155 dX7_next_229 rfl hM.1 ?_
        refine rn_goto 160 dX7_next_232 rfl ?_
        have cc := Decidable.not_not.mp (mt by_dg.mpr c178)
        refine ih (q + 1) (c + 1) _ _ (by omega) (hT.off (off_up (S := Lx) (x := iv 75 28 + 1) (by decide)) (by decide) (by decide) (fun j h => by cases h.1)) (by rw [up_same, hq]; exact nI_1 q) cc.1 (by omega) (nI_1 c) ?_ (fun iv2 lv2 c2 h1 h2 h3 h4 => kk iv2 lv2 c2 ((off_up (by decide)).trans h1) (by rw [scanTo_go cc.1 cc.2]; exact h2) h3 h4)
        exact fun h => absurd h (by rw [show (4 : Int32) = nI 4 by decide, nI_leI (by decide) (by omega)] at c184; omega)
      · refine rn_ldc2 (v := _) dX7_next_187 cl_X7_179 ?_
        refine r_aload0 dX7_next_190 ?_
        refine gf_X7_175 dX7_next_191 rfl hM.1 ?_
        refine rn_lmul dX7_next_194 ?_
        refine r_aload0 dX7_next_195 ?_
        refine r_aload0 dX7_next_196 ?_
        refine gf_X7_155 dX7_next_197 rfl hM.1 ?_
        refine cpiV1 dX7_next_200 ov_X7_byteAt rfl ml_X7_158 hM.1 rfl (Nat.le_of_ble_eq_true rfl) (Nat.zero_le _) (Nat.zero_le _) (ct_byteAt _ hM hT q hq (by omega)) ?_
        refine rn_i2l dX7_next_203 ?_
        refine rn_ladd dX7_next_204 ?_
        refine rn_ldc2 (v := _) dX7_next_205 cl_X7_171 ?_
        refine rn_lsub dX7_next_208 ?_
        refine rn_goto 216 dX7_next_209 rfl ?_
        refine pf_X7_175 dX7_next_216 rfl hM.1 ?_
        refine r_iinc2 _ dX7_next_219 rfl rfl ?_
        refine r_aload0 dX7_next_222 ?_
        refine rn_dup dX7_next_223 rfl ?_
        refine gf_X7_155 dX7_next_224 rfl hM.1 ?_
        refine rn_iconst (1) dX7_next_227 (by decide) ?_
        refine rn_iadd dX7_next_228 ?_
        refine pf_X7_155 dX7_next_229 rfl hM.1 ?_
        refine rn_goto 160 dX7_next_232 rfl ?_
        have cc := Decidable.not_not.mp (mt by_dg.mpr c178)
        refine ih (q + 1) (c + 1) _ _ (by omega) (hT.off (off_up (S := Lx) (x := iv 75 28 + 1) (by decide)) (by decide) (by decide) (fun j h => by cases h.1)) (by rw [up_same, hq]; exact nI_1 q) cc.1 (by omega) (nI_1 c) ?_ (fun iv2 lv2 c2 h1 h2 h3 h4 => kk iv2 lv2 c2 ((off_up (by decide)).trans h1) (by rw [scanTo_go cc.1 cc.2]; exact h2) h3 h4)
        exact fun h => by
          obtain ⟨v, v0, v1, v2⟩ := hv (by omega)
          obtain ⟨z, z1, z2, z3⟩ := dig_of cc.2
          refine ⟨v * 10 + z - 48, by rw [Nat.pow_succ]; omega, ?_, ?_⟩
          · rw [numv_snoc, v1, hc, z3, show (10 : Int32) = nI 10 by decide, show (48 : Int32) = nI 48 by decide, pk_mul, nI_add, pk_sub (by omega)]
          · rw [up_same, v2, if_pos cc.1, z3]; exact ten_step z1 (by omega)
end MNEXT
