/-! THE CLASS: bore, well, bet, soonest, cheapest -/
theorem bo_add {c z : Int32} (h : z = 0 ∨ z = 1) : c + (1 - z) = if z = 0 then c + 1 else c := by
  rcases h with rfl | rfl
  · rw [if_pos rfl]; exact congrArg (c + ·) (by decide)
  · rw [if_neg (by decide), show (1 : Int32) - 1 = 0 by decide]; simp
def nxI (ρ : IV) (γ : Nat) : Int32 := if γ = 0 then ρ 2 4 else 23 - ρ 3 4
theorem RC.nxI0 {iv ρ : IV} {r γ : Nat} (h : RC iv r ρ) (hγ : γ < 2) : (if iv (r + 3 + 3 * γ) 0 = 0 then 23 - iv (r + 3 + 3 * γ) 4 else iv (r + 3 + 3 * γ) 4) = nxI ρ γ := by
  rw [h.goes hγ, h.gang 4 (by decide) (by decide) hγ]
  unfold nxI
  rcases (show γ = 0 ∨ γ = 1 by omega) with rfl | rfl
  · rw [if_pos rfl, if_neg (by decide), if_pos rfl]
  · rw [if_pos (by decide), if_neg (by decide)]
theorem wy_dn : ∀ v, v < 25 → ∀ i, i < 24 → v + i < 24 → 23 - nI v + (-1) * nI i = nI (23 - v - i) := by decide +kernel
theorem wy_up : ∀ u, u < 25 → ∀ i, i < 24 → u + i < 24 → nI u + 1 * nI i = nI (u + i) := by decide +kernel
theorem wy_of {ρ : IV} {γ i : Nat} (hg : GR ρ) (hi : i < 24 - uO ρ - vO ρ) : nxI ρ γ + (if γ = 0 then 1 else -1) * nI i = nI (wyS ρ γ i) := by
  have := hg.2.2.1
  unfold nxI wyS
  by_cases h : γ = 0
  · rw [if_pos h, if_pos h, if_pos h, hg.1]; exact wy_up _ (by omega) _ (by omega) (by omega)
  · rw [if_neg h, if_neg h, if_neg h, hg.2.1]; exact wy_dn _ (by omega) _ (by omega) (by omega)
theorem off_small : ∀ a, a < 25 → ∀ m, m < 25 → (if 0 ≤ nI a - nI m then nI a - nI m else 0 - (nI a - nI m)) = offS (nI a) (nI m) ∧ ∃ k, k < 25 ∧ offS (nI a) (nI m) = nI k := by
  have h : ∀ a, a < 25 → ∀ m, m < 25 → (if 0 ≤ nI a - nI m then nI a - nI m else 0 - (nI a - nI m)) = offS (nI a) (nI m) ∧ offS (nI a) (nI m) = nI (if a < m then m - a else a - m) := by decide +kernel
  intro a ha m hm
  refine ⟨(h a ha m hm).1, _, ?_, (h a ha m hm).2⟩
  split <;> omega
theorem neg_toInt {a : Nat} (h : a < 2 ^ 31) : (-nI a).toInt = -(a : Int) := by
  rw [Int32.toInt_neg, nI_toInt h]
  exact Int.bmod_eq_of_le (by omega) (by omega)
theorem neg_le {a b : Nat} (ha : a < 2 ^ 31) (hb : b < 2 ^ 31) : -nI a ≤ -nI b ↔ nI b ≤ nI a := by
  rw [Int32.le_iff_toInt_le, Int32.le_iff_toInt_le, neg_toInt ha, neg_toInt hb, nI_toInt ha, nI_toInt hb]
  omega
theorem so_rng {S : Nat → Nat → List Int32} {ρ : IV} (hg : GR ρ) : ∀ k, ∃ L, L ≤ 300 ∧ (soS S ρ k).2 = nI L
  | 0 => ⟨0, by decide, show (0 : Int32) = nI 0 by decide⟩
  | k + 1 => by
    unfold soS
    split
    · exact ⟨_, by have := (gr_run (S := S) (idl := -1) (idle := 0) 300 0 (splS ρ (k + 1)) (gr_spl hg)).2.2; unfold endS; omega, rfl⟩
    · exact so_rng hg k
theorem so_pos {S : Nat → Nat → List Int32} {ρ : IV} : ∀ k, k < 30 → ¬ (soS S ρ (k + 1)).1 = 0
  | 0, _ => by
    rw [soS, if_pos (Or.inl (show (soS S ρ 0).1 = 0 from rfl))]
    show ¬ nI 1 = 0
    decide
  | k + 1, h => by
    rw [soS]
    split
    · show ¬ nI (k + 1 + 1) = 0
      exact nI_ne0 (by omega) (by omega)
    · exact so_pos k (by omega)
section CBORE
variable {g : GS} {l : Launch} {Γ : Sh} {iv : IV} {rv : RV} {lv : LV}
set_option maxRecDepth 4000 in
theorem cbo_loop {D : Nat} {Q : Qt} (hX : ShX Γ rv) {k n : Int32} {E : Nat} (hE : k + n = nI E) (hE24 : E ≤ 24) : ∀ (m y : Nat) (ρ iv : IV) (c x : Int32), y + m = E → x = nI y → RC iv 27 ρ → (∀ y, y < 24 → ρ 1 y = 0 ∨ ρ 1 y = 1) → (∀ (iv' : IV) (c' x' : Int32), Off (fun a _ => a = 27 + 2) iv iv' → RC iv' 27 (brN m y ρ c).2 → c' = (brN m y ρ c).1 → Rn g l mX6_bore (rmA D 0 0) Q 0 0 74 [.ref 14, .int k, .int n, .int c', .int x'] [] Γ iv' rv lv) → Rn g l mX6_bore (rmA D 0 0) Q 0 0 33 [.ref 14, .int k, .int n, .int c, .int x] [] Γ iv rv lv := by
  intro m
  induction m with
  | zero =>
    intro y ρ iv c x hn hx hR hk kk
    refine r_iload4 dX6_bore_33 ?_
    refine r_iload1 dX6_bore_35 ?_
    refine r_iload2 dX6_bore_36 ?_
    refine rn_iadd dX6_bore_37 ?_
    refine rn_eqi (nI E) hE ?_
    refine rn_icmp_ge 74 dX6_bore_38 rfl (fun _ => ?_) (fun h => absurd (by rw [hx]; exact nI_le (by omega) (by omega)) h)
    exact kk _ _ _ Off.refl hR rfl
  | succ m ih =>
    intro y ρ iv c x hn hx hR hk kk
    refine r_iload4 dX6_bore_33 ?_
    refine r_iload1 dX6_bore_35 ?_
    refine r_iload2 dX6_bore_36 ?_
    refine rn_iadd dX6_bore_37 ?_
    refine rn_eqi (nI E) hE ?_
    refine rn_icmp_ge 74 dX6_bore_38 rfl (fun h => absurd h (fun z => by rw [hx, nI_leI (by omega) (by omega)] at z; omega)) (fun _ => ?_)
    refine r_aload0 dX6_bore_41 ?_
    refine gf_X6_74 dX6_bore_42 rfl hX.1 hX.2.1.1 ?_
    refine gf_X6_103 dX6_bore_45 rfl hX.2.1.2.1 hX.2.1.2.2.2.1.1 ?_
    refine r_iload4 dX6_bore_48 ?_
    refine rn_iald y dX6_bore_50 hX.2.1.2.2.2.1.2 hx (by omega) (by decide) ?_
    refine rn_eqi (ρ 1 y) (hR.1 y (by omega)).2 ?_
    refine rn_if_ne 57 dX6_bore_51 rfl (fun c51 => ?_) (fun c51 => ?_)
    · refine r_aload0 dX6_bore_57 ?_
      refine gf_X6_74 dX6_bore_58 rfl hX.1 hX.2.1.1 ?_
      refine gf_X6_103 dX6_bore_61 rfl hX.2.1.2.1 hX.2.1.2.2.2.1.1 ?_
      refine r_iload4 dX6_bore_64 ?_
      refine rn_iconst (1) dX6_bore_66 (by decide) ?_
      refine rn_iast y dX6_bore_67 hX.2.1.2.2.2.1.2 hx (by omega) (by decide) ?_
      refine r_iinc4 _ dX6_bore_68 rfl rfl ?_
      refine rn_goto 33 dX6_bore_71 rfl ?_
      rw [brN_s, bo_add (hk y (by omega)), if_neg c51] at kk
      exact ih (y + 1) _ _ _ _ (by omega) (by rw [hx]; exact nI_1 y) hR.known (fun z hz => by by_cases e : z = y; (subst e; exact Or.inr (up_same _ _ _ _)); (rw [up_ne2 e]; exact hk z hz)) (fun iv2 c2 x2 ho hR2 e2 => kk iv2 c2 x2 ((off_up (S := fun a _ => a = 27 + 2) rfl).trans ho) hR2 e2)
    · refine r_iinc3 _ dX6_bore_54 rfl rfl ?_
      refine r_aload0 dX6_bore_57 ?_
      refine gf_X6_74 dX6_bore_58 rfl hX.1 hX.2.1.1 ?_
      refine gf_X6_103 dX6_bore_61 rfl hX.2.1.2.1 hX.2.1.2.2.2.1.1 ?_
      refine r_iload4 dX6_bore_64 ?_
      refine rn_iconst (1) dX6_bore_66 (by decide) ?_
      refine rn_iast y dX6_bore_67 hX.2.1.2.2.2.1.2 hx (by omega) (by decide) ?_
      refine r_iinc4 _ dX6_bore_68 rfl rfl ?_
      refine rn_goto 33 dX6_bore_71 rfl ?_
      rw [brN_s, bo_add (hk y (by omega)), if_pos c51] at kk
      exact ih (y + 1) _ _ _ _ (by omega) (by rw [hx]; exact nI_1 y) hR.known (fun z hz => by by_cases e : z = y; (subst e; exact Or.inr (up_same _ _ _ _)); (rw [up_ne2 e]; exact hk z hz)) (fun iv2 c2 x2 ho hR2 e2 => kk iv2 c2 x2 ((off_up (S := fun a _ => a = 27 + 2) rfl).trans ho) hR2 e2)
set_option maxRecDepth 4000 in
theorem ct_cbore (D : Nat) (hX : ShX Γ rv) {ρ : IV} (hR : RC iv 27 ρ) (hg : GR ρ) (k n : Int32) : Ct g l mX6_bore (D + 1) 0 0 [.ref 14, .int k, .int n] Γ iv rv lv (qCI Γ rv lv (fun x iv' => x = (boreQ ρ k n).1 ∧ RC iv' 27 (boreQ ρ k n).2 ∧ Off (fun a _ => a = 27 + 2) iv iv')) := by
  refine Ct.of (by decide +kernel) (Nat.le_of_ble_eq_true rfl) (Nat.le_of_ble_eq_true rfl) ?_
  refine r_iload1 dX6_bore_0 ?_
  refine cpiS1 dX6_bore_1 os_X6_isYard rfl ml_X6_88 (Nat.zero_le _) (Nat.zero_le _) (Nat.zero_le _) (ct_isYard _ _) ?_
  refine rn_if_eq 25 dX6_bore_4 rfl (fun c4 => ?_) (fun c4 => ?_)
  · refine rn_bipush (-2) dX6_bore_25 (by decide) ?_
    refine rn_iret dX6_bore_27 rfl (Nat.zero_le _) (Nat.zero_le _) ?_
    have e : boreQ ρ k n = (-2, ρ) := by unfold boreQ; rw [if_neg (fun z => bI_0.mp c4 (y024.mpr z.1))]
    exact ⟨_, rfl, rfl, rfl, rfl, by rw [e], by rw [e]; exact hR, Off.refl⟩
  · refine r_iload2 dX6_bore_7 ?_
    refine rn_iconst (1) dX6_bore_8 (by decide) ?_
    refine rn_bipush (24) dX6_bore_9 (by decide) ?_
    refine cpiS3 dX6_bore_11 os_X6_within rfl ml_X6_91 (Nat.zero_le _) (Nat.zero_le _) (Nat.zero_le _) (ct_within _ _ _ _) ?_
    refine rn_if_eq 25 dX6_bore_14 rfl (fun c14 => ?_) (fun c14 => ?_)
    · refine rn_bipush (-2) dX6_bore_25 (by decide) ?_
      refine rn_iret dX6_bore_27 rfl (Nat.zero_le _) (Nat.zero_le _) ?_
      have e : boreQ ρ k n = (-2, ρ) := by unfold boreQ; rw [if_neg (fun z => bI_0.mp c14 z.2.1)]
      exact ⟨_, rfl, rfl, rfl, rfl, by rw [e], by rw [e]; exact hR, Off.refl⟩
    · refine r_iload1 dX6_bore_17 ?_
      refine r_iload2 dX6_bore_18 ?_
      refine rn_iadd dX6_bore_19 ?_
      refine rn_bipush (24) dX6_bore_20 (by decide) ?_
      refine rn_icmp_le 28 dX6_bore_22 rfl (fun c22 => ?_) (fun c22 => ?_)
      · have hq1 := y024.mp (bI_1.mp (bI_or.resolve_left c4))
        have hq2 := bI_1.mp (bI_or.resolve_left c14)
        have hE := bore_E hq1 hq2 c22
        refine rn_iconst (0) dX6_bore_28 (by decide) ?_
        refine r_istore3 dX6_bore_29 rfl ?_
        refine r_iload1 dX6_bore_30 ?_
        refine r_istore4 dX6_bore_31 rfl ?_
        refine cbo_loop hX hE.1 hE.2 n.toNatClampNeg k.toNatClampNeg ρ iv _ _ rfl (nB 23 (by decide) hq1).1 hR hg.2.2.2.2.2.1 (fun iv2 c2 x2 ho hR2 e2 => ?_)
        refine r_iload3 dX6_bore_74 ?_
        refine rn_iret dX6_bore_75 rfl (Nat.zero_le _) (Nat.zero_le _) ?_
        have e : boreQ ρ k n = brN n.toNatClampNeg k.toNatClampNeg ρ 0 := by unfold boreQ; rw [if_pos ⟨hq1, hq2, c22⟩]
        exact ⟨_, rfl, rfl, rfl, rfl, by rw [e]; exact e2, by rw [e]; exact hR2, ho⟩
      · refine rn_bipush (-2) dX6_bore_25 (by decide) ?_
        refine rn_iret dX6_bore_27 rfl (Nat.zero_le _) (Nat.zero_le _) ?_
        have e : boreQ ρ k n = (-2, ρ) := by unfold boreQ; rw [if_neg (fun z => c22 z.2.2)]
        exact ⟨_, rfl, rfl, rfl, rfl, by rw [e], by rw [e]; exact hR, Off.refl⟩
set_option maxRecDepth 4000 in
theorem cwe_loop {D : Nat} (hX : ShX Γ rv) {ρ : IV} (hR : RC iv 27 ρ) (hg : GR ρ) {γ : Nat} {G : Int32} {q : Int32} : ∀ (m i : Nat) (x : Int32), i + m = 24 - uO ρ - vO ρ → x = nI i → q = wlS ρ γ m i → Rn g l mX6_well (rmA (D + 2) 0 0) (qPI q Γ iv rv lv) 0 0 44 [.ref 14, .int G, .int (nxI ρ γ), .int (if γ = 0 then 1 else -1), .int (nI (24 - uO ρ - vO ρ)), .int x] [] Γ iv rv lv := by
  intro m
  induction m with
  | zero =>
    intro i x hn hx hq
    refine r_iload5 dX6_well_44 ?_
    refine r_iload4 dX6_well_46 ?_
    refine rn_icmp_ge 77 dX6_well_48 rfl (fun _ => ?_) (fun h => absurd (by rw [hx]; exact nI_le (by omega) (by omega)) h)
    refine rn_iconst (-1) dX6_well_77 (by decide) ?_
    refine rn_iret dX6_well_78 rfl (Nat.zero_le _) (Nat.zero_le _) ?_
    refine ⟨congrArg (fun z => some (Value.int z)) ?_, rfl, rfl, rfl, rfl⟩
    rw [hq]; rfl
  | succ m ih =>
    intro i x hn hx hq
    refine r_iload5 dX6_well_44 ?_
    refine r_iload4 dX6_well_46 ?_
    refine rn_icmp_ge 77 dX6_well_48 rfl (fun h => absurd h (fun z => by rw [hx, nI_leI (by omega) (by omega)] at z; omega)) (fun _ => ?_)
    refine r_aload0 dX6_well_51 ?_
    refine gf_X6_74 dX6_well_52 rfl hX.1 hX.2.1.1 ?_
    refine r_iload2 dX6_well_55 ?_
    refine r_iload3 dX6_well_56 ?_
    refine r_iload5 dX6_well_57 ?_
    refine rn_imul dX6_well_59 ?_
    refine rn_iadd dX6_well_60 ?_
    refine rn_eqi (nI (wyS ρ γ i)) (by rw [hx]; exact wy_of hg (by omega)) ?_
    have hwy : wyS ρ γ i < 24 := by unfold wyS; have := hg.2.2.1; split <;> omega
    refine cpiV1 dX6_well_61 ov_X3_groundOf rfl ml_X6_172 hX.2.1.2.1 rfl (Nat.zero_le _) (Nat.zero_le _) (Nat.zero_le _) (ct_groundOf _ hX.nw hR rfl hwy) ?_
    refine rn_iconst (2) dX6_well_64 (by decide) ?_
    refine rn_icmp_lt 71 dX6_well_65 rfl (fun c65 => ?_) (fun c65 => ?_)
    · refine r_iinc5 _ dX6_well_71 rfl rfl ?_
      refine rn_goto 44 dX6_well_74 rfl ?_
      exact ih (i + 1) _ (by omega) (by rw [hx]; exact nI_1 i) (by rw [hq, wlS, if_neg (Int32.not_le.mpr c65)])
    · refine r_iload5 dX6_well_68 ?_
      refine rn_iret dX6_well_70 rfl (Nat.zero_le _) (Nat.zero_le _) ?_
      refine ⟨congrArg (fun z => some (Value.int z)) ?_, rfl, rfl, rfl, rfl⟩
      rw [hq, wlS, if_pos (Int32.not_lt.mp c65)]
      exact hx
set_option maxRecDepth 4000 in
theorem ct_cwell (D : Nat) (hX : ShX Γ rv) {ρ : IV} (hR : RC iv 27 ρ) (hg : GR ρ) (G : Int32) : Ct g l mX6_well (D + 2) 0 0 [.ref 14, .int G] Γ iv rv lv (qPI (wellQ ρ G) Γ iv rv lv) := by
  refine Ct.of (by decide +kernel) (Nat.le_of_ble_eq_true rfl) (Nat.le_of_ble_eq_true rfl) ?_
  refine r_iload1 dX6_well_0 ?_
  refine cpiS1 dX6_well_1 os_X6_isGang rfl ml_X6_119 (Nat.zero_le _) (Nat.zero_le _) (Nat.zero_le _) (ct_isGang _ _) ?_
  refine rn_if_ne 10 dX6_well_4 rfl (fun c4 => ?_) (fun c4 => ?_)
  · have hq1 := g02.mp (bI_1.mp (bI_or.resolve_left c4))
    refine r_aload0 dX6_well_10 ?_
    refine gf_X6_74 dX6_well_11 rfl hX.1 hX.2.1.1 ?_
    refine r_iload1 dX6_well_14 ?_
    refine cprV1 dX6_well_15 ov_X3_gangOf rfl ml_X6_122 hX.2.1.2.1 rfl (Nat.zero_le _) (Nat.zero_le _) (Nat.zero_le _) (ct_gangOf _ hX.nw (g01 hq1).1 (g01 hq1).2) ?_
    refine cpiV0 dX6_well_18 ov_X1_nextYard rfl ml_X6_169 (hX.nw.gang (g01 hq1).2).1 rfl (Nat.zero_le _) (Nat.zero_le _) (Nat.zero_le _) (ct_nextYard _ (hX.nw.gang (g01 hq1).2)) ?_
    refine rn_eqi _ (hR.nxI0 (g01 hq1).2) ?_
    refine r_istore2 dX6_well_21 rfl ?_
    refine r_iload1 dX6_well_22 ?_
    refine rn_if_ne 30 dX6_well_23 rfl (fun c23 => ?_) (fun c23 => ?_)
    · refine rn_iconst (-1) dX6_well_30 (by decide) ?_
      have hz : ¬ G.toNatClampNeg = 0 := fun z => c23 (by rw [(g01 hq1).1, z]; decide)
      refine rn_eqi (if G.toNatClampNeg = 0 then 1 else -1) (if_neg hz).symm ?_
      refine r_istore3 dX6_well_31 rfl ?_
      refine r_aload0 dX6_well_32 ?_
      refine gf_X6_74 dX6_well_33 rfl hX.1 hX.2.1.1 ?_
      refine cpiV0 dX6_well_36 ov_X3_ahead rfl ml_X6_159 hX.2.1.2.1 rfl (Nat.zero_le _) (Nat.zero_le _) (Nat.zero_le _) (ct_ahead _ hX.nw hR) ?_
      refine rn_eqi _ (ahead_nI hg) ?_
      refine r_istore4 dX6_well_39 rfl ?_
      refine rn_iconst (0) dX6_well_41 (by decide) ?_
      refine r_istore5 dX6_well_42 rfl ?_
      exact cwe_loop hX hR hg _ 0 _ (Nat.zero_add _) rfl (by unfold wellQ; rw [if_pos hq1])
    · refine rn_iconst (1) dX6_well_26 (by decide) ?_
      refine rn_goto 31 dX6_well_27 rfl ?_
      have hz : G.toNatClampNeg = 0 := by rw [c23]; decide
      refine rn_eqi (if G.toNatClampNeg = 0 then 1 else -1) (if_pos hz).symm ?_
      refine r_istore3 dX6_well_31 rfl ?_
      refine r_aload0 dX6_well_32 ?_
      refine gf_X6_74 dX6_well_33 rfl hX.1 hX.2.1.1 ?_
      refine cpiV0 dX6_well_36 ov_X3_ahead rfl ml_X6_159 hX.2.1.2.1 rfl (Nat.zero_le _) (Nat.zero_le _) (Nat.zero_le _) (ct_ahead _ hX.nw hR) ?_
      refine rn_eqi _ (ahead_nI hg) ?_
      refine r_istore4 dX6_well_39 rfl ?_
      refine rn_iconst (0) dX6_well_41 (by decide) ?_
      refine r_istore5 dX6_well_42 rfl ?_
      exact cwe_loop hX hR hg _ 0 _ (Nat.zero_add _) rfl (by unfold wellQ; rw [if_pos hq1])
  · refine rn_bipush (-2) dX6_well_7 (by decide) ?_
    refine rn_iret dX6_well_9 rfl (Nat.zero_le _) (Nat.zero_le _) ?_
    refine ⟨congrArg (fun z => some (Value.int z)) ?_, rfl, rfl, rfl, rfl⟩
    unfold wellQ
    rw [if_neg (fun z => bI_0.mp c4 (g02.mpr z))]
set_option maxRecDepth 4000 in
theorem ct_cbet (D : Nat) {ρ : IV} {S : Nat → Nat → List Int32} {t : Nat} (hC : CQ Γ iv rv ρ S t) (a b c : Int32) : Ct g l mX6_bet (D + 6) 0 0 [.ref 14, .int a, .int b, .int c] Γ iv rv lv (qRI Γ lv (fun x iv' rv' => x = betQ S ρ a b c ∧ QT iv rv iv' rv')) := by
  refine Ct.of (by decide +kernel) (Nat.le_of_ble_eq_true rfl) (Nat.le_of_ble_eq_true rfl) ?_
  refine r_iload1 dX6_bet_0 ?_
  refine rn_iconst (0) dX6_bet_1 (by decide) ?_
  refine rn_bipush (24) dX6_bet_2 (by decide) ?_
  refine cpiS3 dX6_bet_4 os_X6_within rfl ml_X6_91 (Nat.zero_le _) (Nat.zero_le _) (Nat.zero_le _) (ct_within _ _ _ _) ?_
  refine rn_if_eq 30 dX6_bet_7 rfl (fun c7 => ?_) (fun c7 => ?_)
  · refine rn_bipush (-2) dX6_bet_30 (by decide) ?_
    refine rn_iret dX6_bet_32 rfl (Nat.zero_le _) (Nat.zero_le _) ?_
    refine ⟨_, rfl, rfl, rfl, ?_, QT.refl hC.2.2.2.2.2.2.2.2⟩
    unfold betQ
    rw [if_neg (fun z => bI_0.mp c7 z.1)]
  · refine r_iload2 dX6_bet_10 ?_
    refine rn_iconst (0) dX6_bet_11 (by decide) ?_
    refine rn_bipush (24) dX6_bet_12 (by decide) ?_
    refine cpiS3 dX6_bet_14 os_X6_within rfl ml_X6_91 (Nat.zero_le _) (Nat.zero_le _) (Nat.zero_le _) (ct_within _ _ _ _) ?_
    refine rn_if_eq 30 dX6_bet_17 rfl (fun c17 => ?_) (fun c17 => ?_)
    · refine rn_bipush (-2) dX6_bet_30 (by decide) ?_
      refine rn_iret dX6_bet_32 rfl (Nat.zero_le _) (Nat.zero_le _) ?_
      refine ⟨_, rfl, rfl, rfl, ?_, QT.refl hC.2.2.2.2.2.2.2.2⟩
      unfold betQ
      rw [if_neg (fun z => bI_0.mp c17 z.2.1)]
    · refine r_iload3 dX6_bet_20 ?_
      refine rn_iconst (0) dX6_bet_21 (by decide) ?_
      refine rn_bipush (24) dX6_bet_22 (by decide) ?_
      refine cpiS3 dX6_bet_24 os_X6_within rfl ml_X6_91 (Nat.zero_le _) (Nat.zero_le _) (Nat.zero_le _) (ct_within _ _ _ _) ?_
      refine rn_if_ne 33 dX6_bet_27 rfl (fun c27 => ?_) (fun c27 => ?_)
      · have hq1 := bI_1.mp (bI_or.resolve_left c7)
        have hq2 := bI_1.mp (bI_or.resolve_left c17)
        have hq3' := bI_1.mp (bI_or.resolve_left c27)
        refine r_aload0 dX6_bet_33 ?_
        refine gf_X6_84 dX6_bet_34 rfl hC.1.1 hC.1.2.2.2.2.1.1 ?_
        refine r_aload0 dX6_bet_37 ?_
        refine gf_X6_74 dX6_bet_38 rfl hC.1.1 hC.1.2.1.1 ?_
        refine crvV1 dX6_bet_41 ov_X3_copyAll rfl ml_X6_197 hC.1.2.2.2.2.1.2.1 rfl (Nat.zero_le _) (Nat.zero_le _) (Nat.zero_le _) (ct_copyAll _ hC.1.tr hC.1.nw (by decide) (by decide) (by decide) hC.2.2.2.2.2.2.2.2 hC.2.1) (fun iv2 rv2 h41 => ?_)
        obtain ⟨hC, hQ41, hT, hN⟩ := hC.copied h41.1 h41.2.1 h41.2.2.1 h41.2.2.2
        refine r_aload0 dX6_bet_44 ?_
        refine gf_X6_84 dX6_bet_45 rfl hC.1.1 hC.1.2.2.2.2.1.1 ?_
        refine rn_iconst (-1) dX6_bet_48 (by decide) ?_
        refine rn_iconst (0) dX6_bet_49 (by decide) ?_
        refine cciV2 dX6_bet_50 ov_X3_runOut rfl ml_X6_201 hC.1.2.2.2.2.1.2.1 rfl (Nat.zero_le _) (Nat.zero_le _) (Nat.zero_le _) (ct_runOut _ hC.1.tr (by decide) hT.1 hT.2.2.2.2 hT.2.2.2.1 hC.2.2.2.2.2.1 hC.2.2.2.2.2.2.1 hT.2.2.1 hT.2.1 _ _) (fun x50 iv3 h50 => ?_)
        have hE : RC iv3 57 (endS S ρ).2 := h50.2.2
        have hQ50 := QT.own h50.2.1 h50.2.2 (rv := rv2)
        have hC := hC.qt hQ50
        have hgE : GR (endS S ρ).2 := (gr_run 300 0 ρ hC.2.2.1).1
        have hM1 := hgE.1
        have hM2 := hgE.2.2.1
        refine rn_pop dX6_bet_53 rfl ?_
        refine r_aload0 dX6_bet_54 ?_
        refine gf_X6_84 dX6_bet_55 rfl hC.1.1 hC.1.2.2.2.2.1.1 ?_
        refine gf_X6_106 dX6_bet_58 rfl hC.1.2.2.2.2.1.2.1 hC.1.2.2.2.2.1.2.2.2.2.1.1 ?_
        refine gf_X6_147 dX6_bet_61 rfl hC.1.2.2.2.2.1.2.2.2.2.1.2.1 ?_
        refine rn_eqi _ (hE.up0 4 (by decide) (by decide)) ?_
        refine r_istore4 dX6_bet_64 rfl ?_
        refine r_aload0 dX6_bet_66 ?_
        refine gf_X6_10 dX6_bet_67 rfl hC.1.1 hC.1.2.2.2.2.2.1.1 ?_
        refine ccvV0 dX6_bet_70 ov_X0_clear rfl ml_X6_217 hC.1.2.2.2.2.2.1.2 rfl (Nat.zero_le _) (Nat.zero_le _) (Nat.zero_le _) (ct_clear _ hC.1.2.2.2.2.2.1.2) (fun iv70 h70 => ?_)
        subst h70
        refine r_aload0 dX6_bet_73 ?_
        refine gf_X6_10 dX6_bet_74 rfl hC.1.1 hC.1.2.2.2.2.2.1.1 ?_
        refine r_iload1 dX6_bet_77 ?_
        refine r_iload1 dX6_bet_78 ?_
        refine r_iload4 dX6_bet_79 ?_
        refine rn_isub dX6_bet_81 ?_
        refine rn_abs dX6_bet_82 ml_X6_249 math_abs (Nat.le_of_ble_eq_true rfl) (Nat.le_add_left _ _) (by show 100 ≤ 100 * _; omega) (Nat.zero_le _) (Nat.zero_le _) ?_
        have hA := off_small _ (Nat.lt_succ_of_le (nB 24 (by decide) hq1).2) _ (show uO (endS S ρ).2 < 25 by omega)
        rw [← (nB 24 (by decide) hq1).1, ← hM1] at hA
        obtain ⟨hA1, hA2⟩ := hA
        refine rn_eqi _ hA1 ?_
        generalize hAe : offS a ((endS S ρ).2 2 4) = A at hA2 ⊢
        refine rn_ineg dX6_bet_85 ?_
        refine ccvV2 dX6_bet_86 ov_X0_offer rfl ml_X6_220 hC.1.2.2.2.2.2.1.2 rfl (Nat.zero_le _) (Nat.zero_le _) (Nat.zero_le _) (ct_offer _ hC.1.2.2.2.2.2.1.2 _ _) (fun iv86 h86 => ?_)
        subst h86
        refine r_aload0 dX6_bet_89 ?_
        refine gf_X6_10 dX6_bet_90 rfl hC.1.1 hC.1.2.2.2.2.2.1.1 ?_
        refine r_iload2 dX6_bet_93 ?_
        refine r_iload2 dX6_bet_94 ?_
        refine r_iload4 dX6_bet_95 ?_
        refine rn_isub dX6_bet_97 ?_
        refine rn_abs dX6_bet_98 ml_X6_249 math_abs (Nat.le_of_ble_eq_true rfl) (Nat.le_add_left _ _) (by show 100 ≤ 100 * _; omega) (Nat.zero_le _) (Nat.zero_le _) ?_
        have hB := off_small _ (Nat.lt_succ_of_le (nB 24 (by decide) hq2).2) _ (show uO (endS S ρ).2 < 25 by omega)
        rw [← (nB 24 (by decide) hq2).1, ← hM1] at hB
        obtain ⟨hB1, hB2⟩ := hB
        refine rn_eqi _ hB1 ?_
        generalize hBe : offS b ((endS S ρ).2 2 4) = B at hB2 ⊢
        refine rn_ineg dX6_bet_101 ?_
        refine ccvV2 dX6_bet_102 ov_X0_offer rfl ml_X6_220 hC.1.2.2.2.2.2.1.2 rfl (Nat.zero_le _) (Nat.zero_le _) (Nat.zero_le _) (ct_offer _ hC.1.2.2.2.2.2.1.2 _ _) (fun iv102 h102 => ?_)
        subst h102
        refine r_aload0 dX6_bet_105 ?_
        refine gf_X6_10 dX6_bet_106 rfl hC.1.1 hC.1.2.2.2.2.2.1.1 ?_
        refine r_iload3 dX6_bet_109 ?_
        refine r_iload3 dX6_bet_110 ?_
        refine r_iload4 dX6_bet_111 ?_
        refine rn_isub dX6_bet_113 ?_
        refine rn_abs dX6_bet_114 ml_X6_249 math_abs (Nat.le_of_ble_eq_true rfl) (Nat.le_add_left _ _) (by show 100 ≤ 100 * _; omega) (Nat.zero_le _) (Nat.zero_le _) ?_
        have hC := off_small _ (Nat.lt_succ_of_le (nB 24 (by decide) hq3').2) _ (show uO (endS S ρ).2 < 25 by omega)
        rw [← (nB 24 (by decide) hq3').1, ← hM1] at hC
        obtain ⟨hC1, hC2⟩ := hC
        refine rn_eqi _ hC1 ?_
        generalize hCe : offS c ((endS S ρ).2 2 4) = Cc at hC2 ⊢
        refine rn_ineg dX6_bet_117 ?_
        refine ccvV2 dX6_bet_118 ov_X0_offer rfl ml_X6_220 hC.1.2.2.2.2.2.1.2 rfl (Nat.zero_le _) (Nat.zero_le _) (Nat.zero_le _) (ct_offer _ hC.1.2.2.2.2.2.1.2 _ _) (fun iv118 h118 => ?_)
        subst h118
        refine r_aload0 dX6_bet_121 ?_
        refine gf_X6_10 dX6_bet_122 rfl hC.1.1 hC.1.2.2.2.2.2.1.1 ?_
        refine gf_X6_224 dX6_bet_125 rfl hC.1.2.2.2.2.2.1.2 ?_
        refine rn_iret dX6_bet_128 rfl (Nat.zero_le _) (Nat.zero_le _) ?_
        have hofc : Off (fun a _ => a = 15) iv3 (up iv3 15 2 1) := off_up rfl
        have ho3 : Off (fun a _ => a = 15) iv3 (offer (offer (offer (up iv3 15 2 1) a (-A)) b (-B)) c (-Cc)) := ((hofc.trans off_offer).trans off_offer).trans off_offer
        have hq3 : QT iv3 rv2 (offer (offer (offer (up iv3 15 2 1) a (-A)) b (-B)) c (-Cc)) rv2 := ⟨ho3.mono (fun a b z => by omega), OffT.refl, hC.2.2.2.2.2.2.2.2.off ho3 (by decide) (by decide)⟩
        refine ⟨_, rfl, rfl, rfl, ?_, (hQ41.trans hQ50).trans hq3⟩
        have k1 : BsC (offer (up iv3 15 2 1) a (-A)) (a, -A) := offer_take (fun z => absurd z.1 (by rw [up_same]; decide))
        have eR : runQ S ρ 1 = (endS S ρ).2 2 4 := by unfold runQ; rw [if_pos (by decide), if_neg (by decide), if_pos rfl]
        unfold betQ
        rw [if_pos ⟨hq1, hq2, hq3'⟩, eR, hAe, hBe, hCe]
        obtain ⟨ka, ka1, ka2⟩ := hA2
        obtain ⟨kb, kb1, kb2⟩ := hB2
        obtain ⟨kc, kc1, kc2⟩ := hC2
        by_cases d1 : B < A
        · rw [if_pos d1]
          have k2 : BsC (offer (offer (up iv3 15 2 1) a (-A)) b (-B)) (b, -B) := offer_take (fun z => by rw [k1.2.1] at z; exact absurd z.2 (by rw [ka2, kb2, neg_le (by omega) (by omega), ← ka2, ← kb2]; exact Int32.not_le.mpr d1))
          rw [hBe]
          by_cases d2 : Cc < B
          · rw [if_pos d2]; exact (offer_take (c := c) (v := -Cc) (fun z => by rw [k2.2.1] at z; exact absurd z.2 (by rw [kc2, kb2, neg_le (by omega) (by omega), ← kc2, ← kb2]; exact Int32.not_le.mpr d2))).1
          · rw [if_neg d2]; exact (offer_keep (c := c) (v := -Cc) k2 (by show -Cc ≤ -B; rw [kc2, kb2, neg_le (by omega) (by omega), ← kc2, ← kb2]; exact Int32.not_lt.mp d2)).1
        · rw [if_neg d1]
          have k2 : BsC (offer (offer (up iv3 15 2 1) a (-A)) b (-B)) (a, -A) := offer_keep k1 (by show -B ≤ -A; rw [ka2, kb2, neg_le (by omega) (by omega), ← ka2, ← kb2]; exact Int32.not_lt.mp d1)
          rw [hAe]
          by_cases d2 : Cc < A
          · rw [if_pos d2]; exact (offer_take (c := c) (v := -Cc) (fun z => by rw [k2.2.1] at z; exact absurd z.2 (by rw [kc2, ka2, neg_le (by omega) (by omega), ← kc2, ← ka2]; exact Int32.not_le.mpr d2))).1
          · rw [if_neg d2]; exact (offer_keep (c := c) (v := -Cc) k2 (by show -Cc ≤ -A; rw [kc2, ka2, neg_le (by omega) (by omega), ← kc2, ← ka2]; exact Int32.not_lt.mp d2)).1
      · refine rn_bipush (-2) dX6_bet_30 (by decide) ?_
        refine rn_iret dX6_bet_32 rfl (Nat.zero_le _) (Nat.zero_le _) ?_
        refine ⟨_, rfl, rfl, rfl, ?_, QT.refl hC.2.2.2.2.2.2.2.2⟩
        unfold betQ
        rw [if_neg (fun z => bI_0.mp c27 z.2.2)]
end CBORE
