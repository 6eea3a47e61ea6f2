/-! THE REFERENCE: copy -/
theorem sub40 {a : Nat} (ha : a ≤ 40) {n : Int32} (hn : 0 ≤ n) : (nI a - n).toInt = (a : Int) - n.toInt := by
  have h1 := Int32.toInt_lt n
  simp only [Int32.le_iff_toInt_le, Int32.reduceToInt] at hn
  rw [Int32.toInt_sub, nI_toInt (by omega)]
  exact Int.bmod_eq_of_le (by omega) (by omega)
theorem nnI {n : Int32} (hn : 0 ≤ n) : n = nI n.toNatClampNeg ∧ (n.toNatClampNeg : Int) = n.toInt ∧ n.toNatClampNeg < 2 ^ 31 := by
  have e : n.toNatClampNeg = n.toInt.toNat := rfl
  have hl := Int32.toInt_lt n
  simp only [Int32.le_iff_toInt_le, Int32.reduceToInt] at hn
  refine ⟨?_, by omega, by omega⟩
  rw [← Int32.toInt_inj, nI_toInt (by omega), e]; omega
theorem spn_iff {a : Nat} (ha : a ≤ 40) {i n : Int32} (hi : 0 ≤ i) (hn : 0 ≤ n) : i ≤ nI a - n ↔ i.toNatClampNeg + n.toNatClampNeg ≤ a := by
  rw [Int32.le_iff_toInt_le, sub40 ha hn, ← (nnI hi).2.1, ← (nnI hn).2.1]
  omega
def cpE (η : IV) (s i o j n : Nat) : IV := fun a b => if a = o ∧ 2 + j ≤ b ∧ b < 2 + j + n then η s (2 + i + (b - (2 + j))) else η a b
abbrev cpOK (η : IV) (s o : Nat) (i j n : Int32) : Prop := (0 ≤ n ∧ 0 ≤ i ∧ 0 ≤ j) ∧ i.toNatClampNeg + n.toNatClampNeg ≤ (η s 1).toNatClampNeg ∧ j.toNatClampNeg + n.toNatClampNeg ≤ (η o 1).toNatClampNeg
def copyQ (η : IV) (s i o j n : Int32) : Int32 × IV := if (0 ≤ s ∧ s ≤ 3) ∧ 0 ≤ o ∧ o ≤ 3 then (if η s.toNatClampNeg 0 = -1 ∨ η o.toNatClampNeg 0 = -1 then (-11, η) else if η s.toNatClampNeg 0 = η o.toNatClampNeg 0 then (if cpOK η s.toNatClampNeg o.toNatClampNeg i j n then (n, cpE η s.toNatClampNeg i.toNatClampNeg o.toNatClampNeg j.toNatClampNeg n.toNatClampNeg) else (-12, η)) else (-13, η)) else (-2, η)
/-- n numbers from src on have come to base on, from lo to hi -/
def Wr (iv0 iv : IV) (base src lo hi : Nat) : Prop := Off (fun a b => a = 97 ∧ base + lo ≤ b ∧ b < base + hi) iv0 iv ∧ ∀ q, lo ≤ q → q < hi → iv 97 (base + q) = iv0 97 (src + q)
theorem Wr.asc {iv0 iv : IV} {base src k : Nat} {x : Int32} (h : Wr iv0 iv base src 0 k) (hx : x = iv0 97 (src + k)) : Wr iv0 (up iv 97 (base + k) x) base src 0 (k + 1) := by
  refine ⟨(h.1.mono (fun a b z => ⟨z.1, by omega, by omega⟩)).trans (off_up ⟨rfl, by omega, by omega⟩), fun q h1 h2 => ?_⟩
  by_cases e : q = k
  · subst e; rw [up_same]; exact hx
  · rw [up_ne2 (by omega)]; exact h.2 q h1 (by omega)
theorem Wr.dsc {iv0 iv : IV} {base src k N : Nat} {x : Int32} (h : Wr iv0 iv base src (k + 1) N) (hk : k < N) (hx : x = iv0 97 (src + k)) : Wr iv0 (up iv 97 (base + k) x) base src k N := by
  refine ⟨(h.1.mono (fun a b z => ⟨z.1, by omega, by omega⟩)).trans (off_up ⟨rfl, by omega, by omega⟩), fun q h1 h2 => ?_⟩
  by_cases e : q = k
  · subst e; rw [up_same]; exact hx
  · rw [up_ne2 (by omega)]; exact h.2 q (by omega) h2
theorem Wr.sheets {iv0 iv η : IV} {s i o j n : Nat} (hS : SheetsM iv0 η) (hg : GSh η) (hs4 : s < 4) (ho4 : o < 4) (hms : ¬ η s 0 = -1) (hmo : ¬ η o 0 = -1) (h1 : i + n ≤ (η s 1).toNatClampNeg) (h2 : j + n ≤ (η o 1).toNatClampNeg) (h : Wr iv0 iv (40 * o + j) (40 * s + i) 0 n) : SheetsM iv (cpE η s i o j n) := by
  have hz := (hg.size ho4 hmo).1
  have e0 : cpE η s i o j n o 0 = η o 0 := if_neg (by omega)
  have e1 : cpE η s i o j n o 1 = η o 1 := if_neg (by omega)
  refine SheetsM.row (η' := cpE η s i o j n) hS hg (s := o) (h.1.mono (fun a b z => Or.inr ⟨z.1, by omega, by omega⟩)) (fun a b z => if_neg (by omega)) ⟨?_, ?_, ?_⟩
  · rw [e0]; exact (h.1 _ _ (by omega)).trans (hS o ho4).1
  · intro _; rw [e0]; exact (h.1 _ _ (by omega)).trans ((hS o ho4).2.1 hmo)
  · intro _
    rw [e1]
    refine ⟨(h.1 _ _ (by omega)).trans ((hS o ho4).2.2 hmo).1, fun t ht => ?_⟩
    unfold cpE
    split
    · rename_i z
      have := h.2 (t - j) (by omega) (by omega)
      rw [show 40 * o + j + (t - j) = 40 * o + t by omega, show 40 * s + i + (t - j) = 40 * s + (i + (t - j)) by omega, ((hS s hs4).2.2 hms).2 _ (by omega)] at this
      rw [this]; congr 1; omega
    · rename_i z
      exact (h.1 _ _ (by omega)).trans (((hS o ho4).2.2 hmo).2 t ht)
section MCOPY
variable {g : GS} {l : Launch} {Γ : Sh} {iv : IV} {rv : RV} {lv : LV}
set_option maxRecDepth 4000 in
theorem cpd_loop {D : Nat} {Q : Qt} (hM : ShM Γ rv) {s i o j nn : Int32} {sn ii on jj N : Nat} (hs : s = nI sn) (hi : i = nI ii) (ho : o = nI on) (hj : j = nI jj) (hN : nn = nI N) (hs4 : sn < 4) (ho4 : on < 4) (hiN : ii + N ≤ 40) (hjN : jj + N ≤ 40) (hsafe : 40 * on + jj ≤ 40 * sn + ii ∨ 40 * sn + ii + N ≤ 40 * on + jj) {iv0 : IV} : ∀ (n i0 : Nat) (iv : IV) (v8 : Value) (x : Int32), i0 + n = N → x = nI i0 → v8.category = 1 → Wr iv0 iv (40 * on + jj) (40 * sn + ii) 0 i0 → (∀ (iv : IV) (v8 : Value) (x : Int32), x = nI N → v8.category = 1 → Wr iv0 iv (40 * on + jj) (40 * sn + ii) 0 N → Rn g l mX7_copy (rmA (D) 0 0) Q 0 0 182 [.ref 75, .int s, .int i, .int o, .int j, .int nn, .int 0, .int x, v8] [] Γ iv rv lv) → Rn g l mX7_copy (rmA (D) 0 0) Q 0 0 121 [.ref 75, .int s, .int i, .int o, .int j, .int nn, .int 0, .int x, v8] [] Γ iv rv lv := by
  intro n
  induction n with
  | zero =>
    intro i0 iv v8 x hn hx h8 hw kk
    obtain rfl : i0 = N := by omega
    refine r_iload7 dX7_copy_121 ?_
    refine r_iload5 dX7_copy_123 ?_
    refine rn_icmp_ge 182 dX7_copy_125 rfl (fun _ => ?_) (fun h => absurd (by rw [hx, hN]; exact nI_le (Nat.le_refl _) (by omega)) h)
    exact kk _ _ _ hx h8 hw
  | succ n ih =>
    intro i0 iv v8 x hn hx h8 hw kk
    have hil : i0 < N := by omega
    skip
    refine r_iload7 dX7_copy_121 ?_
    refine r_iload5 dX7_copy_123 ?_
    refine rn_icmp_ge 182 dX7_copy_125 rfl (fun h => absurd h (fun z => by rw [hx, hN, nI_leI (by omega) (by omega)] at z; omega)) (fun _ => ?_)
    refine r_iload6 dX7_copy_128 ?_
    refine rn_if_eq 143 dX7_copy_130 rfl (fun _ => ?_) (fun h => absurd (by decide) h)
    refine r_iload7 dX7_copy_143 ?_
    refine rn_eqi (nI i0) hx ?_
    refine r_istore8 dX7_copy_145 rfl ?_
    refine r_aload0 dX7_copy_147 ?_
    refine gf_X7_84 dX7_copy_148 rfl hM.1 (sm_items hM).1 ?_
    refine rn_bipush (40) dX7_copy_151 (by decide) ?_
    refine r_iload3 dX7_copy_153 ?_
    refine rn_imul dX7_copy_154 ?_
    refine r_iload4 dX7_copy_155 ?_
    refine rn_iadd dX7_copy_157 ?_
    refine r_iload8 dX7_copy_158 ?_
    refine rn_iadd dX7_copy_160 ?_
    refine r_aload0 dX7_copy_161 ?_
    refine gf_X7_84 dX7_copy_162 rfl hM.1 (sm_items hM).1 ?_
    refine rn_bipush (40) dX7_copy_165 (by decide) ?_
    refine r_iload1 dX7_copy_167 ?_
    refine rn_imul dX7_copy_168 ?_
    refine r_iload2 dX7_copy_169 ?_
    refine rn_iadd dX7_copy_170 ?_
    refine r_iload8 dX7_copy_171 ?_
    refine rn_iadd dX7_copy_173 ?_
    refine rn_iald (40 * sn + ii + i0) dX7_copy_174 (sm_items hM).2 (by rw [hs, hi, show (40 : Int32) = nI 40 by decide, pk_mul, nI_add, nI_add]) (by omega) (by decide) ?_
    refine rn_eqi (iv0 97 (40 * sn + ii + i0)) (hw.1 _ _ (by omega)) ?_
    refine rn_iast (40 * on + jj + i0) dX7_copy_175 (sm_items hM).2 (by rw [ho, hj, show (40 : Int32) = nI 40 by decide, pk_mul, nI_add, nI_add]) (by omega) (by decide) ?_
    refine r_iinc7 _ dX7_copy_176 rfl rfl ?_
    refine rn_goto 121 dX7_copy_179 rfl ?_
    exact ih (i0 + 1) _ _ _ (by omega) (by rw [hx]; exact nI_1 i0) rfl (hw.asc rfl) kk
set_option maxRecDepth 4000 in
theorem cpu_loop {D : Nat} {Q : Qt} (hM : ShM Γ rv) {s i o j nn : Int32} {sn ii on jj N : Nat} (hs : s = nI sn) (hi : i = nI ii) (ho : o = nI on) (hj : j = nI jj) (hN : nn = nI N) (hs4 : sn < 4) (ho4 : on < 4) (hiN : ii + N ≤ 40) (hjN : jj + N ≤ 40) (hsafe : 40 * sn + ii < 40 * on + jj) {iv0 : IV} : ∀ (n i0 : Nat) (iv : IV) (v8 : Value) (x : Int32), i0 + n = N → x = nI i0 → v8.category = 1 → Wr iv0 iv (40 * on + jj) (40 * sn + ii) (N - i0) N → (∀ (iv : IV) (v8 : Value) (x : Int32), x = nI N → v8.category = 1 → Wr iv0 iv (40 * on + jj) (40 * sn + ii) (N - N) N → Rn g l mX7_copy (rmA (D) 0 0) Q 0 0 182 [.ref 75, .int s, .int i, .int o, .int j, .int nn, .int 1, .int x, v8] [] Γ iv rv lv) → Rn g l mX7_copy (rmA (D) 0 0) Q 0 0 121 [.ref 75, .int s, .int i, .int o, .int j, .int nn, .int 1, .int x, v8] [] Γ iv rv lv := by
  intro n
  induction n with
  | zero =>
    intro i0 iv v8 x hn hx h8 hw kk
    obtain rfl : i0 = N := by omega
    refine r_iload7 dX7_copy_121 ?_
    refine r_iload5 dX7_copy_123 ?_
    refine rn_icmp_ge 182 dX7_copy_125 rfl (fun _ => ?_) (fun h => absurd (by rw [hx, hN]; exact nI_le (Nat.le_refl _) (by omega)) h)
    exact kk _ _ _ hx h8 hw
  | succ n ih =>
    intro i0 iv v8 x hn hx h8 hw kk
    have hil : i0 < N := by omega
    skip
    refine r_iload7 dX7_copy_121 ?_
    refine r_iload5 dX7_copy_123 ?_
    refine rn_icmp_ge 182 dX7_copy_125 rfl (fun h => absurd h (fun z => by rw [hx, hN, nI_leI (by omega) (by omega)] at z; omega)) (fun _ => ?_)
    refine r_iload6 dX7_copy_128 ?_
    refine rn_if_eq 143 dX7_copy_130 rfl (fun h => absurd h (by decide)) (fun _ => ?_)
    refine r_iload5 dX7_copy_133 ?_
    refine rn_iconst (1) dX7_copy_135 (by decide) ?_
    refine rn_isub dX7_copy_136 ?_
    refine r_iload7 dX7_copy_137 ?_
    refine rn_isub dX7_copy_139 ?_
    refine rn_eqi (nI (N - 1 - i0)) (by rw [hN, hx, show (1 : Int32) = nI 1 by decide, pk_sub (by omega), pk_sub (by omega)]) ?_
    refine rn_goto 145 dX7_copy_140 rfl ?_
    refine r_istore8 dX7_copy_145 rfl ?_
    refine r_aload0 dX7_copy_147 ?_
    refine gf_X7_84 dX7_copy_148 rfl hM.1 (sm_items hM).1 ?_
    refine rn_bipush (40) dX7_copy_151 (by decide) ?_
    refine r_iload3 dX7_copy_153 ?_
    refine rn_imul dX7_copy_154 ?_
    refine r_iload4 dX7_copy_155 ?_
    refine rn_iadd dX7_copy_157 ?_
    refine r_iload8 dX7_copy_158 ?_
    refine rn_iadd dX7_copy_160 ?_
    refine r_aload0 dX7_copy_161 ?_
    refine gf_X7_84 dX7_copy_162 rfl hM.1 (sm_items hM).1 ?_
    refine rn_bipush (40) dX7_copy_165 (by decide) ?_
    refine r_iload1 dX7_copy_167 ?_
    refine rn_imul dX7_copy_168 ?_
    refine r_iload2 dX7_copy_169 ?_
    refine rn_iadd dX7_copy_170 ?_
    refine r_iload8 dX7_copy_171 ?_
    refine rn_iadd dX7_copy_173 ?_
    refine rn_iald (40 * sn + ii + (N - 1 - i0)) dX7_copy_174 (sm_items hM).2 (by rw [hs, hi, show (40 : Int32) = nI 40 by decide, pk_mul, nI_add, nI_add]) (by omega) (by decide) ?_
    refine rn_eqi (iv0 97 (40 * sn + ii + (N - 1 - i0))) (hw.1 _ _ (by omega)) ?_
    refine rn_iast (40 * on + jj + (N - 1 - i0)) dX7_copy_175 (sm_items hM).2 (by rw [ho, hj, show (40 : Int32) = nI 40 by decide, pk_mul, nI_add, nI_add]) (by omega) (by decide) ?_
    refine r_iinc7 _ dX7_copy_176 rfl rfl ?_
    refine rn_goto 121 dX7_copy_179 rfl ?_
    exact ih (i0 + 1) _ _ _ (by omega) (by rw [hx]; exact nI_1 i0) rfl (by rw [show N - (i0 + 1) = N - 1 - i0 by omega]; exact Wr.dsc (by rw [show N - 1 - i0 + 1 = N - i0 by omega]; exact hw) (by omega) rfl) kk
set_option maxRecDepth 4000 in
theorem ct_mcopy (D : Nat) (hM : ShM Γ rv) {η : IV} (hS : SheetsM iv η) (hgs : GSh η) (s i o j n : Int32) : Ct g l mX7_copy (D + 2) 0 0 [.ref 75, .int s, .int i, .int o, .int j, .int n] Γ iv rv lv (qCI Γ rv lv (fun x iv' => x = (copyQ η s i o j n).1 ∧ SheetsM iv' (copyQ η s i o j n).2 ∧ Off Sc iv iv')) := by
  refine Ct.of (by decide +kernel) (Nat.le_of_ble_eq_true rfl) (Nat.le_of_ble_eq_true rfl) ?_
  refine r_iload1 dX7_copy_0 ?_
  refine cpiS1 dX7_copy_1 os_X7_isSheet rfl ml_X7_326 (Nat.zero_le _) (Nat.zero_le _) (Nat.zero_le _) (ct_misSheet _ _) ?_
  refine rn_if_eq 14 dX7_copy_4 rfl (fun c4 => ?_) (fun c4 => ?_)
  · refine rn_bipush (-2) dX7_copy_14 (by decide) ?_
    refine rn_iret dX7_copy_16 rfl (Nat.zero_le _) (Nat.zero_le _) ?_
    have e : copyQ η s i o j n = (-2, η) := by unfold copyQ; rw [if_neg (fun z => bI_0.mp c4 z.1)]
    exact ⟨_, rfl, rfl, rfl, rfl, by rw [e], by rw [e]; exact hS, Off.refl⟩
  · refine r_iload3 dX7_copy_7 ?_
    refine cpiS1 dX7_copy_8 os_X7_isSheet rfl ml_X7_326 (Nat.zero_le _) (Nat.zero_le _) (Nat.zero_le _) (ct_misSheet _ _) ?_
    refine rn_if_ne 17 dX7_copy_11 rfl (fun c11 => ?_) (fun c11 => ?_)
    · have hq1 := bI_1.mp (bI_or.resolve_left c4)
      have hq2 := bI_1.mp (bI_or.resolve_left c11)
      have hs4 : s.toNatClampNeg < 4 := nB_lt 3 (by decide) hq1 (by decide)
      have ho4 : o.toNatClampNeg < 4 := nB_lt 3 (by decide) hq2 (by decide)
      refine r_aload0 dX7_copy_17 ?_
      refine gf_X7_74 dX7_copy_18 rfl hM.1 (sm_isThere hM).1 ?_
      refine r_iload1 dX7_copy_21 ?_
      refine rn_zald s.toNatClampNeg dX7_copy_22 (sm_isThere hM).2 (nB 3 (by decide) hq1).1 hs4 (by decide) ?_
      refine rn_eqi _ (hS _ hs4).1 ?_
      refine rn_if_eq 35 dX7_copy_23 rfl (fun c23 => ?_) (fun c23 => ?_)
      · refine rn_bipush (-11) dX7_copy_35 (by decide) ?_
        refine rn_iret dX7_copy_37 rfl (Nat.zero_le _) (Nat.zero_le _) ?_
        have e : copyQ η s i o j n = (-11, η) := by unfold copyQ; rw [if_pos ⟨hq1, hq2⟩, if_pos (Or.inl (there_0 rfl c23))]
        exact ⟨_, rfl, rfl, rfl, rfl, by rw [e], by rw [e]; exact hS, Off.refl⟩
      · refine r_aload0 dX7_copy_26 ?_
        refine gf_X7_74 dX7_copy_27 rfl hM.1 (sm_isThere hM).1 ?_
        refine r_iload3 dX7_copy_30 ?_
        refine rn_zald o.toNatClampNeg dX7_copy_31 (sm_isThere hM).2 (nB 3 (by decide) hq2).1 ho4 (by decide) ?_
        refine rn_eqi _ (hS _ ho4).1 ?_
        refine rn_if_ne 38 dX7_copy_32 rfl (fun c32 => ?_) (fun c32 => ?_)
        · have hms := there_1 rfl c23
          have hmo := there_1 rfl c32
          have hzs := hgs.size hs4 hms
          have hzo := hgs.size ho4 hmo
          refine r_aload0 dX7_copy_38 ?_
          refine gf_X7_78 dX7_copy_39 rfl hM.1 (sm_sorts hM).1 ?_
          refine r_iload1 dX7_copy_42 ?_
          refine rn_iald s.toNatClampNeg dX7_copy_43 (sm_sorts hM).2 (nB 3 (by decide) hq1).1 hs4 (by decide) ?_
          refine rn_eqi _ ((hS _ hs4).2.1 hms) ?_
          refine r_aload0 dX7_copy_44 ?_
          refine gf_X7_78 dX7_copy_45 rfl hM.1 (sm_sorts hM).1 ?_
          refine r_iload3 dX7_copy_48 ?_
          refine rn_iald o.toNatClampNeg dX7_copy_49 (sm_sorts hM).2 (nB 3 (by decide) hq2).1 ho4 (by decide) ?_
          refine rn_eqi _ ((hS _ ho4).2.1 hmo) ?_
          refine rn_icmp_eq 56 dX7_copy_50 rfl (fun c50 => ?_) (fun c50 => ?_)
          · refine r_iload5 dX7_copy_56 ?_
            refine rn_if_lt 97 dX7_copy_58 rfl (fun c58 => ?_) (fun c58 => ?_)
            · refine rn_bipush (-12) dX7_copy_97 (by decide) ?_
              refine rn_iret dX7_copy_99 rfl (Nat.zero_le _) (Nat.zero_le _) ?_
              have e : copyQ η s i o j n = (-12, η) := by unfold copyQ; rw [if_pos ⟨hq1, hq2⟩, if_neg (fun z => z.elim hms hmo), if_pos c50, if_neg (fun z => absurd z.1.1 (Int32.not_le.mpr c58))]
              exact ⟨_, rfl, rfl, rfl, rfl, by rw [e], by rw [e]; exact hS, Off.refl⟩
            · refine r_iload2 dX7_copy_61 ?_
              refine rn_if_lt 97 dX7_copy_62 rfl (fun c62 => ?_) (fun c62 => ?_)
              · refine rn_bipush (-12) dX7_copy_97 (by decide) ?_
                refine rn_iret dX7_copy_99 rfl (Nat.zero_le _) (Nat.zero_le _) ?_
                have e : copyQ η s i o j n = (-12, η) := by unfold copyQ; rw [if_pos ⟨hq1, hq2⟩, if_neg (fun z => z.elim hms hmo), if_pos c50, if_neg (fun z => absurd z.1.2.1 (Int32.not_le.mpr c62))]
                exact ⟨_, rfl, rfl, rfl, rfl, by rw [e], by rw [e]; exact hS, Off.refl⟩
              · refine r_iload4 dX7_copy_65 ?_
                refine rn_if_lt 97 dX7_copy_67 rfl (fun c67 => ?_) (fun c67 => ?_)
                · refine rn_bipush (-12) dX7_copy_97 (by decide) ?_
                  refine rn_iret dX7_copy_99 rfl (Nat.zero_le _) (Nat.zero_le _) ?_
                  have e : copyQ η s i o j n = (-12, η) := by unfold copyQ; rw [if_pos ⟨hq1, hq2⟩, if_neg (fun z => z.elim hms hmo), if_pos c50, if_neg (fun z => absurd z.1.2.2 (Int32.not_le.mpr c67))]
                  exact ⟨_, rfl, rfl, rfl, rfl, by rw [e], by rw [e]; exact hS, Off.refl⟩
                · refine r_iload2 dX7_copy_70 ?_
                  refine r_aload0 dX7_copy_71 ?_
                  refine gf_X7_81 dX7_copy_72 rfl hM.1 (sm_sheetSize hM).1 ?_
                  refine r_iload1 dX7_copy_75 ?_
                  refine rn_iald s.toNatClampNeg dX7_copy_76 (sm_sheetSize hM).2 (nB 3 (by decide) hq1).1 hs4 (by decide) ?_
                  refine rn_eqi (nI (η s.toNatClampNeg 1).toNatClampNeg) (((hS _ hs4).2.2 hms).1.trans hzs.2) ?_
                  refine r_iload5 dX7_copy_77 ?_
                  refine rn_isub dX7_copy_79 ?_
                  refine rn_icmp_gt 97 dX7_copy_80 rfl (fun c80 => ?_) (fun c80 => ?_)
                  · refine rn_bipush (-12) dX7_copy_97 (by decide) ?_
                    refine rn_iret dX7_copy_99 rfl (Nat.zero_le _) (Nat.zero_le _) ?_
                    have e : copyQ η s i o j n = (-12, η) := by unfold copyQ; rw [if_pos ⟨hq1, hq2⟩, if_neg (fun z => z.elim hms hmo), if_pos c50, if_neg (fun z => absurd ((spn_iff hzs.1 z.1.2.1 z.1.1).mpr z.2.1) (Int32.not_le.mpr c80))]
                    exact ⟨_, rfl, rfl, rfl, rfl, by rw [e], by rw [e]; exact hS, Off.refl⟩
                  · refine r_iload4 dX7_copy_83 ?_
                    refine r_aload0 dX7_copy_85 ?_
                    refine gf_X7_81 dX7_copy_86 rfl hM.1 (sm_sheetSize hM).1 ?_
                    refine r_iload3 dX7_copy_89 ?_
                    refine rn_iald o.toNatClampNeg dX7_copy_90 (sm_sheetSize hM).2 (nB 3 (by decide) hq2).1 ho4 (by decide) ?_
                    refine rn_eqi (nI (η o.toNatClampNeg 1).toNatClampNeg) (((hS _ ho4).2.2 hmo).1.trans hzo.2) ?_
                    refine r_iload5 dX7_copy_91 ?_
                    refine rn_isub dX7_copy_93 ?_
                    refine rn_icmp_le 100 dX7_copy_94 rfl (fun c94 => ?_) (fun c94 => ?_)
                    · have hn0 := Int32.not_lt.mp c58
                      have hi0 := Int32.not_lt.mp c62
                      have hj0 := Int32.not_lt.mp c67
                      have hi1 := (spn_iff hzs.1 hi0 hn0).mp (Int32.not_lt.mp c80)
                      have hj1 := (spn_iff hzo.1 hj0 hn0).mp c94
                      have hsN := (nB 3 (by decide) hq1).1
                      have hoN := (nB 3 (by decide) hq2).1
                      have hzs1 := hzs.1
                      have hzo1 := hzo.1
                      refine r_iload1 dX7_copy_100 ?_
                      refine r_iload3 dX7_copy_101 ?_
                      refine rn_icmp_ne 115 dX7_copy_102 rfl (fun c102 => ?_) (fun c102 => ?_)
                      · refine rn_iconst (0) dX7_copy_115 (by decide) ?_
                        refine r_istore6 dX7_copy_116 rfl ?_
                        refine rn_iconst (0) dX7_copy_118 (by decide) ?_
                        refine r_istore7 dX7_copy_119 rfl ?_
                        have hne : ¬ s.toNatClampNeg = o.toNatClampNeg := fun z => c102 (by rw [hsN, hoN, z])
                        refine cpd_loop (iv0 := iv) hM hsN (nnI hi0).1 hoN (nnI hj0).1 (nnI hn0).1 hs4 ho4 (by omega) (by omega) (by omega) n.toNatClampNeg 0 iv _ _ (Nat.zero_add _) rfl rfl ⟨Off.refl, fun q _ h => absurd h (Nat.not_lt_zero _)⟩ (fun iv2 v8 x hx h8 hw => ?_)
                        refine r_iload5 dX7_copy_182 ?_
                        refine rn_iret dX7_copy_184 rfl (Nat.zero_le _) (Nat.zero_le _) ?_
                        have e : copyQ η s i o j n = (n, cpE η s.toNatClampNeg i.toNatClampNeg o.toNatClampNeg j.toNatClampNeg n.toNatClampNeg) := by unfold copyQ; rw [if_pos ⟨hq1, hq2⟩, if_neg (fun z => z.elim hms hmo), if_pos c50, if_pos ⟨⟨hn0, hi0, hj0⟩, hi1, hj1⟩]
                        refine ⟨_, rfl, rfl, rfl, rfl, by rw [e], ?_, hw.1.mono (fun a b z => by omega)⟩
                        rw [e]
                        exact Wr.sheets hS hgs hs4 ho4 hms hmo hi1 hj1 hw
                      · refine r_iload2 dX7_copy_105 ?_
                        refine r_iload4 dX7_copy_106 ?_
                        refine rn_icmp_ge 115 dX7_copy_108 rfl (fun c108 => ?_) (fun c108 => ?_)
                        · refine rn_iconst (0) dX7_copy_115 (by decide) ?_
                          refine r_istore6 dX7_copy_116 rfl ?_
                          refine rn_iconst (0) dX7_copy_118 (by decide) ?_
                          refine r_istore7 dX7_copy_119 rfl ?_
                          have hne : s.toNatClampNeg = o.toNatClampNeg := by rw [c102]
                          have hle : j.toNatClampNeg ≤ i.toNatClampNeg := by rw [(nnI hi0).1, (nnI hj0).1, nI_leI (nnI hj0).2.2 (nnI hi0).2.2] at c108; exact c108
                          refine cpd_loop (iv0 := iv) hM hsN (nnI hi0).1 hoN (nnI hj0).1 (nnI hn0).1 hs4 ho4 (by omega) (by omega) (by omega) n.toNatClampNeg 0 iv _ _ (Nat.zero_add _) rfl rfl ⟨Off.refl, fun q _ h => absurd h (Nat.not_lt_zero _)⟩ (fun iv2 v8 x hx h8 hw => ?_)
                          refine r_iload5 dX7_copy_182 ?_
                          refine rn_iret dX7_copy_184 rfl (Nat.zero_le _) (Nat.zero_le _) ?_
                          have e : copyQ η s i o j n = (n, cpE η s.toNatClampNeg i.toNatClampNeg o.toNatClampNeg j.toNatClampNeg n.toNatClampNeg) := by unfold copyQ; rw [if_pos ⟨hq1, hq2⟩, if_neg (fun z => z.elim hms hmo), if_pos c50, if_pos ⟨⟨hn0, hi0, hj0⟩, hi1, hj1⟩]
                          refine ⟨_, rfl, rfl, rfl, rfl, by rw [e], ?_, hw.1.mono (fun a b z => by omega)⟩
                          rw [e]
                          exact Wr.sheets hS hgs hs4 ho4 hms hmo hi1 hj1 hw
                        · refine rn_iconst (1) dX7_copy_111 (by decide) ?_
                          refine rn_goto 116 dX7_copy_112 rfl ?_
                          refine r_istore6 dX7_copy_116 rfl ?_
                          refine rn_iconst (0) dX7_copy_118 (by decide) ?_
                          refine r_istore7 dX7_copy_119 rfl ?_
                          have hne : s.toNatClampNeg = o.toNatClampNeg := by rw [c102]
                          have hle : ¬ j.toNatClampNeg ≤ i.toNatClampNeg := by rw [(nnI hi0).1, (nnI hj0).1, nI_leI (nnI hj0).2.2 (nnI hi0).2.2] at c108; exact c108
                          refine cpu_loop (iv0 := iv) hM hsN (nnI hi0).1 hoN (nnI hj0).1 (nnI hn0).1 hs4 ho4 (by omega) (by omega) (by omega) n.toNatClampNeg 0 iv _ _ (Nat.zero_add _) rfl rfl ⟨Off.refl, fun q h1 h2 => absurd h2 (by omega)⟩ (fun iv2 v8 x hx h8 hw => ?_)
                          refine r_iload5 dX7_copy_182 ?_
                          refine rn_iret dX7_copy_184 rfl (Nat.zero_le _) (Nat.zero_le _) ?_
                          have e : copyQ η s i o j n = (n, cpE η s.toNatClampNeg i.toNatClampNeg o.toNatClampNeg j.toNatClampNeg n.toNatClampNeg) := by unfold copyQ; rw [if_pos ⟨hq1, hq2⟩, if_neg (fun z => z.elim hms hmo), if_pos c50, if_pos ⟨⟨hn0, hi0, hj0⟩, hi1, hj1⟩]
                          refine ⟨_, rfl, rfl, rfl, rfl, by rw [e], ?_, hw.1.mono (fun a b z => by omega)⟩
                          rw [e]
                          exact Wr.sheets hS hgs hs4 ho4 hms hmo hi1 hj1 (by rw [Nat.sub_self] at hw; exact hw)
                    · refine rn_bipush (-12) dX7_copy_97 (by decide) ?_
                      refine rn_iret dX7_copy_99 rfl (Nat.zero_le _) (Nat.zero_le _) ?_
                      have e : copyQ η s i o j n = (-12, η) := by unfold copyQ; rw [if_pos ⟨hq1, hq2⟩, if_neg (fun z => z.elim hms hmo), if_pos c50, if_neg (fun z => absurd ((spn_iff hzo.1 z.1.2.2 z.1.1).mpr z.2.2) c94)]
                      exact ⟨_, rfl, rfl, rfl, rfl, by rw [e], by rw [e]; exact hS, Off.refl⟩
          · refine rn_bipush (-13) dX7_copy_53 (by decide) ?_
            refine rn_iret dX7_copy_55 rfl (Nat.zero_le _) (Nat.zero_le _) ?_
            have e : copyQ η s i o j n = (-13, η) := by unfold copyQ; rw [if_pos ⟨hq1, hq2⟩, if_neg (fun z => z.elim hms hmo), if_neg c50]
            exact ⟨_, rfl, rfl, rfl, rfl, by rw [e], by rw [e]; exact hS, Off.refl⟩
        · refine rn_bipush (-11) dX7_copy_35 (by decide) ?_
          refine rn_iret dX7_copy_37 rfl (Nat.zero_le _) (Nat.zero_le _) ?_
          have e : copyQ η s i o j n = (-11, η) := by unfold copyQ; rw [if_pos ⟨hq1, hq2⟩, if_pos (Or.inr (there_0 rfl c32))]
          exact ⟨_, rfl, rfl, rfl, rfl, by rw [e], by rw [e]; exact hS, Off.refl⟩
    · refine rn_bipush (-2) dX7_copy_14 (by decide) ?_
      refine rn_iret dX7_copy_16 rfl (Nat.zero_le _) (Nat.zero_le _) ?_
      have e : copyQ η s i o j n = (-2, η) := by unfold copyQ; rw [if_neg (fun z => bI_0.mp c11 z.2)]
      exact ⟨_, rfl, rfl, rfl, rfl, by rw [e], by rw [e]; exact hS, Off.refl⟩
end MCOPY
