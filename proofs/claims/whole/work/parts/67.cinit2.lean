/-! THE CLASS: its own constructor -/
def q00 : List Int32 × List Int32 × List Int32 := ([-2, 4, -14], [30, -1, 25, -14, -12], [0])
theorem tx00 : txS (oiv0 8) 48 = some (.inr q00) := by decide +kernel
def S00 (_ p : Nat) : List Int32 := prt q00 p
theorem lo_off {m : Nat} {iv iv' : IV} (h : Lo m iv iv') : Off (fun a _ => m ≤ a) iv iv' := fun a b z => h a b (by omega)
theorem ShG.lift {Γ Γ' : Sh} {rv rv' : RV} {a m : Nat} (h : ShG Γ rv a) (hl : ShLe m Γ Γ') (hr : Lo m rv rv') (ha : a + 2 < m) : ShG Γ' rv' a := ⟨hl.k h.1 (by omega), ⟨(hr _ _ (by omega)).trans h.2.1.1, hl.a h.2.1.2 (by omega)⟩, (hr _ _ (by omega)).trans h.2.2.1, hl.a h.2.2.2 (by omega)⟩
theorem ShRd.lift {Γ Γ' : Sh} {rv rv' : RV} {r m : Nat} (h : ShRd Γ rv r) (hl : ShLe m Γ Γ') (hr : Lo m rv rv') (ha : r + 9 < m) : ShRd Γ' rv' r := ⟨hl.k h.1 (by omega), ⟨(hr _ _ (by omega)).trans h.2.1.1, hl.a h.2.1.2 (by omega)⟩, ⟨(hr _ _ (by omega)).trans h.2.2.1.1, hl.a h.2.2.1.2 (by omega)⟩, ⟨(hr _ _ (by omega)).trans h.2.2.2.1.1, h.2.2.2.1.2.lift hl hr (by omega)⟩, ⟨(hr _ _ (by omega)).trans h.2.2.2.2.1.1, h.2.2.2.2.1.2.lift hl hr (by omega)⟩, (hr _ _ (by omega)).trans h.2.2.2.2.2.1, hl.a h.2.2.2.2.2.2 (by omega)⟩
theorem ShR.lift {Γ Γ' : Sh} {rv rv' : RV} {m : Nat} (h : ShR Γ rv) (hl : ShLe m Γ Γ') (hr : Lo m rv rv') (ha : 19 < m) : ShR Γ' rv' := ⟨hl.k h.1 (by omega), (hr _ _ (by omega)).trans h.2.1, hl.a h.2.2.1 (by omega), (hr _ _ (by omega)).trans h.2.2.2.1, hl.a h.2.2.2.2.1 (by omega), (hr _ _ (by omega)).trans h.2.2.2.2.2.1, hl.a h.2.2.2.2.2.2 (by omega)⟩
theorem RuC.lift {Γ Γ' : Sh} {iv iv' : IV} {rv rv' : RV} {t m : Nat} {S : Nat → Nat → List Int32} (h : RuC Γ iv rv t S) (hl : ShLe m Γ Γ') (hi : Lo m iv iv') (hr : Lo m rv rv') (ha : rq t + 4 < m) : RuC Γ' iv' rv' t S := by
  obtain ⟨h0, L, h1, h2, h3⟩ := h
  refine ⟨(hi _ _ (by omega)).trans h0, L, h1, ⟨hl.k h2.1 (by omega), ⟨(hr _ _ (by omega)).trans h2.2.1.1, hl.a h2.2.1.2 (by omega)⟩, ⟨(hr _ _ (by omega)).trans h2.2.2.1.1, hl.a h2.2.2.1.2 (by omega)⟩, ⟨(hr _ _ (by omega)).trans h2.2.2.2.1.1, hl.a h2.2.2.2.1.2 (by omega)⟩, (hr _ _ (by omega)).trans h2.2.2.2.2.1, hl.a h2.2.2.2.2.2 (by omega)⟩, fun p hp => ?_⟩
  obtain ⟨a1, a2, B, b1, b2, b3, b4⟩ := h3 p hp
  exact ⟨(hi _ _ (by omega)).trans a1, a2, B, (hi _ _ (by omega)).trans b1, (hi _ _ (by omega)).trans b2, b3, fun j hj => (hi _ _ (by omega)).trans (b4 j hj)⟩
theorem RC.lift {iv iv' ρ : IV} {r m : Nat} (h : RC iv r ρ) (hi : Lo m iv iv') (ha : r + 6 < m) : RC iv' r ρ := h.off (lo_off hi) (fun a b z => by omega)
/-- what stands of the class's object before its roads -/
def St1 (Γ : Sh) (iv : IV) (rv : RV) : Prop := IsK Γ 14 6 ∧ (rv 14 4 = 15 ∧ IsK Γ 15 0) ∧ (rv 14 5 = 16 ∧ ShR Γ rv) ∧ (rv 14 6 = 20 ∧ IsA Γ 20 23 6) ∧ (rv 14 7 = 21 ∧ IsA Γ 21 24 4) ∧ iv 14 8 = 1 ∧ iv 14 9 = 0 ∧ iv 19 0 = 0
theorem St1.lift {Γ Γ' : Sh} {iv iv' : IV} {rv rv' : RV} {m : Nat} (h : St1 Γ iv rv) (hl : ShLe m Γ Γ') (hi : Lo m iv iv') (hr : Lo m rv rv') (ha : 22 ≤ m) : St1 Γ' iv' rv' := ⟨hl.k h.1 (by omega), ⟨(hr _ _ (by omega)).trans h.2.1.1, hl.k h.2.1.2 (by omega)⟩, ⟨(hr _ _ (by omega)).trans h.2.2.1.1, h.2.2.1.2.lift hl hr (by omega)⟩, ⟨(hr _ _ (by omega)).trans h.2.2.2.1.1, hl.a h.2.2.2.1.2 (by omega)⟩, ⟨(hr _ _ (by omega)).trans h.2.2.2.2.1.1, hl.a h.2.2.2.2.1.2 (by omega)⟩, (hi _ _ (by omega)).trans h.2.2.2.2.2.1, (hi _ _ (by omega)).trans h.2.2.2.2.2.2.1, (hi _ _ (by omega)).trans h.2.2.2.2.2.2.2⟩
/-- and then: so many roads, so many sheets -/
def St2 (Γ : Sh) (iv : IV) (rv : RV) (nr ns : Nat) : Prop := St1 Γ iv rv ∧ iv 16 0 = 0 ∧ rv 20 0 = 22 ∧ RuC Γ iv rv 0 S00 ∧ (∀ i, i < nr → rv 14 i = 27 + 10 * i ∧ ShRd Γ rv (27 + 10 * i) ∧ RC iv (27 + 10 * i) ro0 ∧ rv (27 + 10 * i) 8 = 22) ∧ ∀ s, s < ns → ShS Γ rv s ∧ iv (67 + 2 * s) 1 = -1
theorem St2.lift {Γ Γ' : Sh} {iv iv' : IV} {rv rv' : RV} {m nr ns : Nat} (h : St2 Γ iv rv nr ns) (hl : ShLe m Γ Γ') (hi : Lo m iv iv') (hr : Lo m rv rv') (ha : 27 + 10 * nr ≤ m) (hb : ns = 0 ∨ 67 + 2 * ns ≤ m) : St2 Γ' iv' rv' nr ns :=
  ⟨h.1.lift hl hi hr (by omega), (hi _ _ (by omega)).trans h.2.1, (hr _ _ (by omega)).trans h.2.2.1, h.2.2.2.1.lift hl hi hr (by show 22 + 4 < m; omega), fun i hn => ⟨(hr _ _ (by omega)).trans (h.2.2.2.2.1 i hn).1, (h.2.2.2.2.1 i hn).2.1.lift hl hr (by omega), (h.2.2.2.2.1 i hn).2.2.1.lift hi (by omega), (hr _ _ (by omega)).trans (h.2.2.2.2.1 i hn).2.2.2⟩,
   fun s hs => ⟨⟨(hr _ _ (by omega)).trans (h.2.2.2.2.2 s hs).1.1, hl.k (h.2.2.2.2.2 s hs).1.2.1 (by omega), (hr _ _ (by omega)).trans (h.2.2.2.2.2 s hs).1.2.2.1, hl.a (h.2.2.2.2.2 s hs).1.2.2.2 (by omega)⟩, (hi _ _ (by omega)).trans (h.2.2.2.2.2 s hs).2⟩⟩
/-- a road more -/
theorem St2.road {Γ : Sh} {iv : IV} {rv : RV} {nr : Nat} (h : St2 Γ iv rv nr 0) (h4 : nr < 4) (h1 : ShRd Γ rv (27 + 10 * nr)) (h2 : RC iv (27 + 10 * nr) ro0) (h3 : rv (27 + 10 * nr) 8 = 22) : St2 Γ iv (up rv 14 nr (27 + 10 * nr)) (nr + 1) 0 := by
  have hu : ∀ a b, ¬ (a = 14 ∧ b = nr) → up rv 14 nr (27 + 10 * nr) a b = rv a b := fun a b z => up_ne z
  have hR : ∀ r, 27 ≤ r → ShRd Γ rv r → ShRd Γ (up rv 14 nr (27 + 10 * nr)) r := fun r hr h => ⟨h.1, ⟨(hu _ _ (by omega)).trans h.2.1.1, h.2.1.2⟩, ⟨(hu _ _ (by omega)).trans h.2.2.1.1, h.2.2.1.2⟩, ⟨(hu _ _ (by omega)).trans h.2.2.2.1.1, h.2.2.2.1.2.offv (fun b => hu _ _ (by omega))⟩, ⟨(hu _ _ (by omega)).trans h.2.2.2.2.1.1, h.2.2.2.2.1.2.offv (fun b => hu _ _ (by omega))⟩, (hu _ _ (by omega)).trans h.2.2.2.2.2.1, h.2.2.2.2.2.2⟩
  obtain ⟨⟨a1, a2, a3, a4, a5, a6⟩, b1, b2, b3, b4, -⟩ := h
  have hq := rq_ge 0
  refine ⟨⟨a1, ⟨(hu _ _ (by omega)).trans a2.1, a2.2⟩, ⟨(hu _ _ (by omega)).trans a3.1, ⟨a3.2.1, (hu _ _ (by omega)).trans a3.2.2.1, a3.2.2.2.1, (hu _ _ (by omega)).trans a3.2.2.2.2.1, a3.2.2.2.2.2.1, (hu _ _ (by omega)).trans a3.2.2.2.2.2.2.1, a3.2.2.2.2.2.2.2⟩⟩, ⟨(hu _ _ (by omega)).trans a4.1, a4.2⟩, ⟨(hu _ _ (by omega)).trans a5.1, a5.2⟩, a6⟩, b1, (hu _ _ (by omega)).trans b2, ?_, fun i hi => ?_, fun s hs => absurd hs (Nat.not_lt_zero _)⟩
  · obtain ⟨c0, L, c1, c2, c3⟩ := b3
    exact ⟨c0, L, c1, ⟨c2.1, ⟨(hu _ _ (by omega)).trans c2.2.1.1, c2.2.1.2⟩, ⟨(hu _ _ (by omega)).trans c2.2.2.1.1, c2.2.2.1.2⟩, ⟨(hu _ _ (by omega)).trans c2.2.2.2.1.1, c2.2.2.2.1.2⟩, (hu _ _ (by omega)).trans c2.2.2.2.2.1, c2.2.2.2.2.2⟩, c3⟩
  · by_cases e : i = nr
    · subst e; exact ⟨up_same _ _ _ _, hR _ (by omega) h1, h2, (hu _ _ (by omega)).trans h3⟩
    · obtain ⟨d1, d2, d3, d4⟩ := b4 i (by omega)
      exact ⟨(hu _ _ (by omega)).trans d1, hR _ (by omega) d2, d3, (hu _ _ (by omega)).trans d4⟩
/-- a sheet more -/
theorem St2.sheet {Γ : Sh} {iv : IV} {rv : RV} {ns : Nat} (h : St2 Γ iv rv 4 ns) (h4 : ns < 4) (h1 : IsK Γ (67 + 2 * ns) 5) (h2 : rv (67 + 2 * ns) 0 = 68 + 2 * ns) (h3 : IsA Γ (68 + 2 * ns) 20 40) (h5 : iv (67 + 2 * ns) 1 = -1) : St2 Γ iv (up rv 21 ns (67 + 2 * ns)) 4 (ns + 1) := by
  have hu : ∀ a b, ¬ (a = 21 ∧ b = ns) → up rv 21 ns (67 + 2 * ns) a b = rv a b := fun a b z => up_ne z
  have hR : ∀ r, 27 ≤ r → ShRd Γ rv r → ShRd Γ (up rv 21 ns (67 + 2 * ns)) r := fun r hr h => ⟨h.1, ⟨(hu _ _ (by omega)).trans h.2.1.1, h.2.1.2⟩, ⟨(hu _ _ (by omega)).trans h.2.2.1.1, h.2.2.1.2⟩, ⟨(hu _ _ (by omega)).trans h.2.2.2.1.1, h.2.2.2.1.2.offv (fun b => hu _ _ (by omega))⟩, ⟨(hu _ _ (by omega)).trans h.2.2.2.2.1.1, h.2.2.2.2.1.2.offv (fun b => hu _ _ (by omega))⟩, (hu _ _ (by omega)).trans h.2.2.2.2.2.1, h.2.2.2.2.2.2⟩
  obtain ⟨⟨a1, a2, a3, a4, a5, a6⟩, b1, b2, b3, b4, b5⟩ := h
  have hq : rq 0 = 22 := rfl
  refine ⟨⟨a1, ⟨(hu _ _ (by omega)).trans a2.1, a2.2⟩, ⟨(hu _ _ (by omega)).trans a3.1, ⟨a3.2.1, (hu _ _ (by omega)).trans a3.2.2.1, a3.2.2.2.1, (hu _ _ (by omega)).trans a3.2.2.2.2.1, a3.2.2.2.2.2.1, (hu _ _ (by omega)).trans a3.2.2.2.2.2.2.1, a3.2.2.2.2.2.2.2⟩⟩, ⟨(hu _ _ (by omega)).trans a4.1, a4.2⟩, ⟨(hu _ _ (by omega)).trans a5.1, a5.2⟩, a6⟩, b1, (hu _ _ (by omega)).trans b2, ?_, fun i hi => ?_, fun s hs => ?_⟩
  · obtain ⟨c0, L, c1, c2, c3⟩ := b3
    exact ⟨c0, L, c1, ⟨c2.1, ⟨(hu _ _ (by omega)).trans c2.2.1.1, c2.2.1.2⟩, ⟨(hu _ _ (by omega)).trans c2.2.2.1.1, c2.2.2.1.2⟩, ⟨(hu _ _ (by omega)).trans c2.2.2.2.1.1, c2.2.2.2.1.2⟩, (hu _ _ (by omega)).trans c2.2.2.2.2.1, c2.2.2.2.2.2⟩, c3⟩
  · obtain ⟨d1, d2, d3, d4⟩ := b4 i hi
    exact ⟨(hu _ _ (by omega)).trans d1, hR _ (by omega) d2, d3, (hu _ _ (by omega)).trans d4⟩
  · by_cases e : s = ns
    · subst e; exact ⟨⟨up_same _ _ _ _, h1, (hu _ _ (by omega)).trans h2, h3⟩, h5⟩
    · obtain ⟨⟨d1, d2, d3, d4⟩, d5⟩ := b5 s (by omega)
      exact ⟨⟨(hu _ _ (by omega)).trans d1, d2, (hu _ _ (by omega)).trans d3, d4⟩, d5⟩
section CINITB
variable {g : GS} {l : Launch} {Γ : Sh} {iv : IV} {rv : RV} {lv : LV}
/-- the class's object is made -/
def qXI : Qt := fun r Γ' iv' rv' _ => r = none ∧ Γ'.1 = 75 ∧ St2 Γ' iv' rv' 4 4
set_option maxRecDepth 4000 in
theorem xs_loop {D : Nat} : ∀ (n i : Nat) (k s : Nat) (Γ : Sh) (iv : IV) (rv : RV) (lv : LV) {v1 : Value} {x : Int32}, i + n = 4 → x = nI i → k = 52 + 2 * i → s = 927 + 43 * i → Γ.1 = 67 + 2 * i → St2 Γ iv rv 4 i → v1.category = 1 → Rn g l mX6_init (rmA (D + 62) 60 1099) qXI k s 165 [.ref 14, v1, .int x] [] Γ iv rv lv := by
  intro n
  induction n with
  | zero =>
    intro i k s Γ iv rv lv v1 x hn hx hk hs hm hS h1
    obtain rfl : i = 4 := by omega
    refine r_iload2 dX6_init_165 ?_
    refine rn_iconst (4) dX6_init_166 (by decide) ?_
    refine rn_icmp_ge 189 dX6_init_167 rfl (fun _ => ?_) (fun h => absurd (by rw [hx]; decide) h)
    refine rn_vret dX6_init_189 rfl (by show _ ≤ 60; omega) (by show _ ≤ 1099; omega) ?_
    exact ⟨rfl, hm, hS⟩
  | succ n ih =>
    intro i k s Γ iv rv lv v1 x hn hx hk hs hm hS hv1
    refine r_iload2 dX6_init_165 ?_
    refine rn_iconst (4) dX6_init_166 (by decide) ?_
    refine rn_icmp_ge 189 dX6_init_167 rfl (fun h => absurd h (fun z => by rw [hx, show (4 : Int32) = nI 4 by decide, nI_leI (by decide) (by omega)] at z; omega)) (fun _ => ?_)
    refine r_aload0 dX6_init_170 ?_
    refine gf_X6_31 dX6_init_171 rfl hS.1.1 hS.1.2.2.2.2.1.1 ?_
    refine r_iload2 dX6_init_174 ?_
    refine rn_newN (ci := 5) (67 + 2 * i) hm dX6_init_175 rfl uw_X5 tyX5_ok te_X5 cc_X6_29 ins_X5 ini_X5 (by show _ ≤ 60; omega) (by show _ ≤ 1099; omega) (fun hz175 => ?_)
    have hn175 := isK_newN (c := 5) (len := 0) hm hz175
    refine rn_dup dX6_init_178 rfl ?_
    refine rn_callIN (As := []) (mc := 1) (ms := 40) dX6_init_179 oi_X5_init ml_X6_87 hn175 rfl (Nat.le_of_ble_eq_true rfl) (by show _ ≤ _ + 1; omega) (by show _ ≤ 100 * _; omega) (by show _ ≤ 60; omega) (by show _ ≤ 1099; omega) (ct_sheetI (D + 60) hn175 (by rw [alo_1, hm])) (fun r2 Γ2 iv2 rv2 lv2 h => ?_)
    obtain ⟨rfl, rfl, h1, h2, h3, h4, h5⟩ := h
    refine rn_nst ?_
    have hS := (hS.lift (m := 67 + 2 * i) (Γ' := alo Γ 5 0) ((hm ▸ ShLe.refl (Γ := Γ)).alo) (lo_clr (x := 0) (i := 67 + 2 * i) (Nat.le_refl _)) (lo_clr (x := 0) (i := 67 + 2 * i) (Nat.le_refl _)) (by omega) (by omega)).lift (m := 67 + 2 * i) (Γ' := alo (alo Γ 5 0) 20 40) (⟨by rw [alo_1, hm]; omega, Nat.le_succ _, fun j hj => ⟨alo_k (by rw [alo_1, hm]; omega), alo_l (by rw [alo_1, hm]; omega)⟩⟩) h1 h2 (by omega) (by omega)
    have hk2 := isK_alo (c' := 20) (len := 40) hn175
    have ha2 : IsA (alo (alo Γ 5 0) 20 40) (68 + 2 * i) 20 40 := isA_newN (by rw [alo_1, hm]; omega) (by have : K0 = 14 := rfl; omega)
    refine rn_aast i dX6_init_182 hS.1.2.2.2.2.1.2 (Or.inr rfl) hk2 rfl rfl hx (by omega) (by decide) ?_
    refine r_iinc2 _ dX6_init_183 rfl hv1 ?_
    refine rn_goto 165 dX6_init_186 rfl ?_
    exact ih (i + 1) _ _ _ _ _ _ (by omega) (by rw [hx]; exact nI_1 i) (by omega) (by omega) (by rw [alo_1, alo_1, hm]; omega) (hS.sheet (by omega) hk2 (by rw [h5]; omega) ha2 h4) hv1
set_option maxRecDepth 4000 in
theorem xr_roads {D : Nat} {Γ : Sh} {iv : IV} {rv : RV} {lv : LV} {v2 : Value} (hm : Γ.1 = 27) (hS : St2 Γ iv rv 0 0) : Rn g l mX6_init (rmA (D + 62) 60 1099) qXI 12 559 115 [.ref 14, .ref 22, v2] [] Γ iv rv lv := by
  refine r_aload0 dX6_init_115 ?_
  refine rn_newN (ci := 3) (27) hm dX6_init_116 rfl uw_X3 tyX3_ok te_X3 cc_X6_69 ins_X3 ini_X3 (by show _ ≤ 60; omega) (by show _ ≤ 1099; omega) (fun hz116 => ?_)
  have hn116 := isK_newN (c := 3) (len := 0) hm hz116
  refine rn_dup dX6_init_119 rfl ?_
  refine r_aload1 dX6_init_120 ?_
  refine rn_callI (As := [.ref 22]) (mc := 9) (ms := 82) dX6_init_121 oi_X3_init ml_X6_71 hn116 rfl (Nat.le_of_ble_eq_true rfl) (by show _ ≤ _ + 1; omega) (by show _ ≤ 100 * _; omega) (by show _ ≤ 60; omega) (by show _ ≤ 1099; omega) (ct_roadI (D + 59) (by decide) hn116 (by rw [alo_1, hm])) (fun r2 Γ1 iv1 rv1 lv1 h => ?_)
  obtain ⟨rfl, g1, g2, g3, g4, g5, g6, g7, g8⟩ := h
  refine rn_nst ?_
  have hle : ShLe 27 (alo Γ 3 0) Γ1 := ⟨by rw [alo_1, hm]; omega, g2.2.1, fun j hj => g2.2.2 j (by omega)⟩
  have hS := (hS.lift (m := 27) (Γ' := alo Γ 3 0) ((hm ▸ ShLe.refl (Γ := Γ)).alo) (lo_clr (x := 0) (i := 27) (Nat.le_refl _)) (lo_clr (x := 0) (i := 27) (Nat.le_refl _)) (by omega) (Or.inl rfl)).lift (m := 27) hle g6 g7 (by omega) (Or.inl rfl)
  have hS := hS.road (by decide) g3 g5 g4
  have hm : Γ1.1 = 37 := g1
  refine pf_X6_74 dX6_init_124 rfl rfl hS.1.1 ?_
  refine r_aload0 dX6_init_127 ?_
  refine rn_newN (ci := 3) (37) hm dX6_init_128 rfl uw_X3 tyX3_ok te_X3 cc_X6_69 ins_X3 ini_X3 (by show _ ≤ 60; omega) (by show _ ≤ 1099; omega) (fun hz128 => ?_)
  have hn128 := isK_newN (c := 3) (len := 0) hm hz128
  refine rn_dup dX6_init_131 rfl ?_
  refine r_aload1 dX6_init_132 ?_
  refine rn_callI (As := [.ref 22]) (mc := 9) (ms := 82) dX6_init_133 oi_X3_init ml_X6_71 hn128 rfl (Nat.le_of_ble_eq_true rfl) (by show _ ≤ _ + 1; omega) (by show _ ≤ 100 * _; omega) (by show _ ≤ 60; omega) (by show _ ≤ 1099; omega) (ct_roadI (D + 59) (by decide) hn128 (by rw [alo_1, hm])) (fun r2 Γ2 iv2 rv2 lv2 h => ?_)
  obtain ⟨rfl, g1, g2, g3, g4, g5, g6, g7, g8⟩ := h
  refine rn_nst ?_
  have hle : ShLe 37 (alo Γ1 3 0) Γ2 := ⟨by rw [alo_1, hm]; omega, g2.2.1, fun j hj => g2.2.2 j (by omega)⟩
  have hS := (hS.lift (m := 37) (Γ' := alo Γ1 3 0) ((hm ▸ ShLe.refl (Γ := Γ1)).alo) (lo_clr (x := 0) (i := 37) (Nat.le_refl _)) (lo_clr (x := 0) (i := 37) (Nat.le_refl _)) (by omega) (Or.inl rfl)).lift (m := 37) hle g6 g7 (by omega) (Or.inl rfl)
  have hS := hS.road (by decide) g3 g5 g4
  have hm : Γ2.1 = 47 := g1
  refine pf_X6_78 dX6_init_136 rfl rfl hS.1.1 ?_
  refine r_aload0 dX6_init_139 ?_
  refine rn_newN (ci := 3) (47) hm dX6_init_140 rfl uw_X3 tyX3_ok te_X3 cc_X6_69 ins_X3 ini_X3 (by show _ ≤ 60; omega) (by show _ ≤ 1099; omega) (fun hz140 => ?_)
  have hn140 := isK_newN (c := 3) (len := 0) hm hz140
  refine rn_dup dX6_init_143 rfl ?_
  refine r_aload1 dX6_init_144 ?_
  refine rn_callI (As := [.ref 22]) (mc := 9) (ms := 82) dX6_init_145 oi_X3_init ml_X6_71 hn140 rfl (Nat.le_of_ble_eq_true rfl) (by show _ ≤ _ + 1; omega) (by show _ ≤ 100 * _; omega) (by show _ ≤ 60; omega) (by show _ ≤ 1099; omega) (ct_roadI (D + 59) (by decide) hn140 (by rw [alo_1, hm])) (fun r2 Γ3 iv3 rv3 lv3 h => ?_)
  obtain ⟨rfl, g1, g2, g3, g4, g5, g6, g7, g8⟩ := h
  refine rn_nst ?_
  have hle : ShLe 47 (alo Γ2 3 0) Γ3 := ⟨by rw [alo_1, hm]; omega, g2.2.1, fun j hj => g2.2.2 j (by omega)⟩
  have hS := (hS.lift (m := 47) (Γ' := alo Γ2 3 0) ((hm ▸ ShLe.refl (Γ := Γ2)).alo) (lo_clr (x := 0) (i := 47) (Nat.le_refl _)) (lo_clr (x := 0) (i := 47) (Nat.le_refl _)) (by omega) (Or.inl rfl)).lift (m := 47) hle g6 g7 (by omega) (Or.inl rfl)
  have hS := hS.road (by decide) g3 g5 g4
  have hm : Γ3.1 = 57 := g1
  refine pf_X6_81 dX6_init_148 rfl rfl hS.1.1 ?_
  refine r_aload0 dX6_init_151 ?_
  refine rn_newN (ci := 3) (57) hm dX6_init_152 rfl uw_X3 tyX3_ok te_X3 cc_X6_69 ins_X3 ini_X3 (by show _ ≤ 60; omega) (by show _ ≤ 1099; omega) (fun hz152 => ?_)
  have hn152 := isK_newN (c := 3) (len := 0) hm hz152
  refine rn_dup dX6_init_155 rfl ?_
  refine r_aload1 dX6_init_156 ?_
  refine rn_callI (As := [.ref 22]) (mc := 9) (ms := 82) dX6_init_157 oi_X3_init ml_X6_71 hn152 rfl (Nat.le_of_ble_eq_true rfl) (by show _ ≤ _ + 1; omega) (by show _ ≤ 100 * _; omega) (by show _ ≤ 60; omega) (by show _ ≤ 1099; omega) (ct_roadI (D + 59) (by decide) hn152 (by rw [alo_1, hm])) (fun r2 Γ4 iv4 rv4 lv4 h => ?_)
  obtain ⟨rfl, g1, g2, g3, g4, g5, g6, g7, g8⟩ := h
  refine rn_nst ?_
  have hle : ShLe 57 (alo Γ3 3 0) Γ4 := ⟨by rw [alo_1, hm]; omega, g2.2.1, fun j hj => g2.2.2 j (by omega)⟩
  have hS := (hS.lift (m := 57) (Γ' := alo Γ3 3 0) ((hm ▸ ShLe.refl (Γ := Γ3)).alo) (lo_clr (x := 0) (i := 57) (Nat.le_refl _)) (lo_clr (x := 0) (i := 57) (Nat.le_refl _)) (by omega) (Or.inl rfl)).lift (m := 57) hle g6 g7 (by omega) (Or.inl rfl)
  have hS := hS.road (by decide) g3 g5 g4
  have hm : Γ4.1 = 67 := g1
  refine pf_X6_84 dX6_init_160 rfl rfl hS.1.1 ?_
  refine rn_iconst (0) dX6_init_163 (by decide) ?_
  refine r_istore2 dX6_init_164 rfl ?_
  exact xs_loop (D := D) 4 0 _ _ _ _ _ _ (by decide) rfl rfl rfl hm hS rfl
set_option maxRecDepth 4000 in
theorem xr_rule {D : Nat} {Γ : Sh} {iv : IV} {rv : RV} {lv : LV} {x : Int32} {v2 : Value} (hm : Γ.1 = 22) (hS : St1 Γ iv rv) (hTx : TxR iv (oiv0 8) 48) : Rn g l mX6_init (rmA (D + 62) 60 1099) qXI 7 347 84 [.ref 14, .int x, v2] [] Γ iv rv lv := by
  refine r_aload0 dX6_init_84 ?_
  refine gf_X6_19 dX6_init_85 rfl hS.1 hS.2.2.1.1 ?_
  refine ccvV0 dX6_init_88 ov_X2_readText rfl ml_X6_59 hS.2.2.1.2.1 rfl (Nat.zero_le _) (by show _ ≤ 60; omega) (by show _ ≤ 1099; omega) (ct_readText D hS.2.2.1.2 hTx tx00) (fun iv1 h88 => ?_)
  refine r_aload0 dX6_init_91 ?_
  refine gf_X6_19 dX6_init_92 rfl hS.1 hS.2.2.1.1 ?_
  refine rn_iconst (0) dX6_init_95 (by decide) ?_
  refine pf_X6_62 dX6_init_96 rfl hS.2.2.1.2.1 ?_
  refine r_aload0 dX6_init_99 ?_
  refine gf_X6_19 dX6_init_100 rfl hS.1 hS.2.2.1.1 ?_
  refine rn_iconst (0) dX6_init_103 (by decide) ?_
  obtain ⟨hf1, hst, hb1, hb2, hb3⟩ := h88.2
  have hBv : ∀ p, p ≤ 3 → (up iv1 16 0 0) 19 p = nI (bnd q00 p) := fun p h => match p, h with
    | 0, _ => (up_ne1 (by decide)).trans ((h88.1 _ _ (by omega)).trans hS.2.2.2.2.2.2.2)
    | 1, _ => hb1
    | 2, _ => hb2
    | 3, _ => hb3
  refine rn_ruleOf (m := 22) (c := (q00.1 ++ q00.2.1 ++ q00.2.2).length) (B := bnd q00) (S := prt q00) dX6_init_104 rfl ml_X6_65 hS.2.2.1.2.1 rfl (Nat.zero_le _) (by show _ ≤ 60; omega) (by show _ ≤ 1099; omega) (ct_ruleOf (D + 59) hS.2.2.1.2 hm (by decide) hst.2.1 ((up_ne2 (by decide)).trans hst.1) hBv bnd_s (fun p _ => bnd_le) (fun p h j hj => by
    have h5 := bnd_s (q := q00) p h
    have h6 := bnd_le (q := q00) (p := p + 1)
    exact ((up_ne1 (by decide)).trans (hst.2.2 _ (by omega))).trans (prt_get h hj))) (fun Γ4 iv4 rv4 lv4 hO => ?_)
  obtain ⟨-, hO1, hO2, hO3, hO4, hO5, hO6, hO7, hO8, hO9, hO10⟩ := hO
  have hS1 : St1 Γ (up iv1 16 0 0) rv := ⟨hS.1, hS.2.1, hS.2.2.1, hS.2.2.2.1, hS.2.2.2.2.1, (up_ne1 (by decide)).trans ((h88.1 _ _ (by omega)).trans hS.2.2.2.2.2.1), (up_ne1 (by decide)).trans ((h88.1 _ _ (by omega)).trans hS.2.2.2.2.2.2.1), (up_ne1 (by decide)).trans ((h88.1 _ _ (by omega)).trans hS.2.2.2.2.2.2.2)⟩
  have hS := hS1.lift hO2 hO3 hO4 (Nat.le_refl _)
  refine r_astore1 dX6_init_107 rfl ?_
  refine r_aload0 dX6_init_108 ?_
  refine gf_X6_25 dX6_init_109 rfl hS.1 hS.2.2.2.1.1 ?_
  refine rn_iconst (0) dX6_init_112 (by decide) ?_
  refine r_aload1 dX6_init_113 ?_
  refine rn_aast 0 dX6_init_114 hS.2.2.2.1.2 (Or.inl rfl) hO6.1 rfl rfl rfl (by decide) (by decide) ?_
  have hu : ∀ a b, ¬ (a = 20 ∧ b = 0) → up rv4 20 0 22 a b = rv4 a b := fun a b z => up_ne z
  have hR : RuC Γ4 iv4 (up rv4 20 0 22) 0 S00 := by
    refine ⟨hO7, _, hst.2.1, ⟨hO6.1, ⟨(hu _ _ (by decide)).trans hO6.2.1.1, hO6.2.1.2⟩, ⟨(hu _ _ (by decide)).trans hO6.2.2.1.1, hO6.2.2.1.2⟩, ⟨(hu _ _ (by decide)).trans hO6.2.2.2.1.1, hO6.2.2.2.1.2⟩, (hu _ _ (by decide)).trans hO6.2.2.2.2.1, hO6.2.2.2.2.2⟩, fun p hp => ?_⟩
    refine ⟨hO8 p hp, fun e => ?_, bnd q00 p, hO9 p (by omega), ?_, ?_, fun j hj => hO10 p hp j hj⟩
    · have h1 := txS_one tx00 e
      rcases (show p = 0 ∨ p = 1 ∨ p = 2 by omega) with rfl | rfl | rfl
      · exact h1.1
      · exact h1.2.1
      · exact h1.2.2
    · rw [show S00 0 p = prt q00 p from rfl, ← bnd_s p hp]; exact hO9 (p + 1) (by omega)
    · rw [show S00 0 p = prt q00 p from rfl, ← bnd_s p hp]; exact bnd_le
  have hS2 : St2 Γ4 iv4 (up rv4 20 0 22) 0 0 := by
    obtain ⟨a1, a2, a3, a4, a5, a6⟩ := hS
    exact ⟨⟨a1, ⟨(hu _ _ (by decide)).trans a2.1, a2.2⟩, ⟨(hu _ _ (by decide)).trans a3.1, ⟨a3.2.1, (hu _ _ (by decide)).trans a3.2.2.1, a3.2.2.2.1, (hu _ _ (by decide)).trans a3.2.2.2.2.1, a3.2.2.2.2.2.1, (hu _ _ (by decide)).trans a3.2.2.2.2.2.2.1, a3.2.2.2.2.2.2.2⟩⟩, ⟨(hu _ _ (by decide)).trans a4.1, a4.2⟩, ⟨(hu _ _ (by decide)).trans a5.1, a5.2⟩, a6⟩, (hO3 _ _ (by decide)).trans (up_same _ _ _ _), up_same _ _ _ _, hR, fun i hi => absurd hi (Nat.not_lt_zero _), fun i hi => absurd hi (Nat.not_lt_zero _)⟩
  exact xr_roads (D := D) hO1 hS2
theorem b00 : ∀ j, j < 48 → 0 ≤ oiv0 8 j ∧ oiv0 8 j ≤ 255 := by decide +kernel
set_option maxRecDepth 4000 in
theorem xr_bytes {D : Nat} {Γ : Sh} {rv : RV} {lv : LV} {v2 : Value} (hm : Γ.1 = 22) : ∀ (n i : Nat) (iv : IV) (x : Int32), i + n = 48 → x = nI i → St1 Γ iv rv → iv 16 0 = nI i → (∀ j, j < i → iv 17 j = oiv0 8 j) → Rn g l mX6_init (rmA (D + 62) 60 1099) qXI 7 347 55 [.ref 14, .int x, v2] [] Γ iv rv lv := by
  intro n
  induction n with
  | zero =>
    intro i iv x hn hx hS h0 hb
    obtain rfl : i = 48 := by omega
    refine r_iload1 dX6_init_55 ?_
    refine rn_ldcS (i := 7) dX6_init_56 (by decide) (fun g h => ⟨_, h.2.2.2.2.2.2.1.1⟩) ?_
    refine cpiO0 (j := 0) dX6_init_58 ov_J0_length_8abf5 rfl ml_X6_45 rfl (by decide) rfl (Nat.le_of_ble_eq_true rfl) (by show _ ≤ 60; omega) (by show _ ≤ 1099; omega) (ct_slength _ 0 rfl (by decide)) ?_
    refine rn_icmp_ge 84 dX6_init_61 rfl (fun _ => ?_) (fun h => absurd (by rw [hx]; decide) h)
    exact xr_rule (D := D) hm hS ⟨h0, by decide, hb, b00⟩
  | succ n ih =>
    intro i iv x hn hx hS h0 hb
    refine r_iload1 dX6_init_55 ?_
    refine rn_ldcS (i := 7) dX6_init_56 (by decide) (fun g h => ⟨_, h.2.2.2.2.2.2.1.1⟩) ?_
    refine cpiO0 (j := 0) dX6_init_58 ov_J0_length_8abf5 rfl ml_X6_45 rfl (by decide) rfl (Nat.le_of_ble_eq_true rfl) (by show _ ≤ 60; omega) (by show _ ≤ 1099; omega) (ct_slength _ 0 rfl (by decide)) ?_
    refine rn_icmp_ge 84 dX6_init_61 rfl (fun h => absurd h (fun z => by rw [hx, show nI (oln0 (7 + 1)) = nI 48 by decide, nI_leI (by decide) (by omega)] at z; omega)) (fun _ => ?_)
    refine r_aload0 dX6_init_64 ?_
    refine gf_X6_19 dX6_init_65 rfl hS.1 hS.2.2.1.1 ?_
    refine rn_ldcS (i := 7) dX6_init_68 (by decide) (fun g h => ⟨_, h.2.2.2.2.2.2.1.1⟩) ?_
    refine r_iload1 dX6_init_70 ?_
    refine cpiO1 (j := 0) dX6_init_71 ov_J0_charAt_5068e rfl ml_X6_51 rfl (by decide) rfl (Nat.le_of_ble_eq_true rfl) (by show _ ≤ 60; omega) (by show _ ≤ 1099; omega) (ct_charAt (D + 58) 0 rfl (by decide) i hx (by show i < 48; omega)) ?_
    refine cciV1 dX6_init_74 ov_X2_append rfl ml_X6_55 hS.2.2.1.2.1 rfl (Nat.zero_le _) (by show _ ≤ 60; omega) (by show _ ≤ 1099; omega) (ct_append _ hS.2.2.1.2 h0 (by omega) _) (fun x74 iv2 h74 => ?_)
    refine rn_pop dX6_init_77 rfl ?_
    refine r_iinc1 _ dX6_init_78 rfl rfl ?_
    refine rn_goto 55 dX6_init_81 rfl ?_
    have hi2 := h74.2.1 (by omega)
    subst hi2
    refine ih (i + 1) _ _ (by omega) (by rw [hx]; exact nI_1 i) ⟨hS.1, hS.2.1, hS.2.2.1, hS.2.2.2.1, hS.2.2.2.2.1, hS.2.2.2.2.2.1, hS.2.2.2.2.2.2.1, hS.2.2.2.2.2.2.2⟩ (up_same _ _ _ _) (fun j hj => ?_)
    rw [up_ne1 (by decide)]
    by_cases e : j = i
    · subst e; exact up_same _ _ _ _
    · rw [up_ne2 e]; exact hb j (by omega)
set_option maxRecDepth 4000 in
theorem ct_classI (D : Nat) {Γ : Sh} {iv : IV} {rv : RV} {lv : LV} (hK : IsK Γ 14 6) (hm : Γ.1 = 15) : Ct g l mX6_init (D + 62) 60 1099 [.ref 14] Γ iv rv lv qXI := by
  refine Ct.of (by decide +kernel) (Nat.le_of_ble_eq_true rfl) (Nat.le_of_ble_eq_true rfl) ?_
  refine r_aload0 dX6_init_0 ?_
  refine rn_objInit dX6_init_1 ml_X6_1 oin_1 oin_2 (by decide) (Nat.zero_le _) (Nat.le_add_left _ _) (by show 20 ≤ 100 * _; omega) ?_
  refine r_aload0 dX6_init_4 ?_
  refine rn_newN (ci := 0) (15) (show Γ.1 = 15 from by first | omega | (simp only [alo_1]; omega)) dX6_init_5 rfl uw_X0 tyX0_ok te_X0 cc_X6_7 ins_X0 ini_X0 (by show _ ≤ 60; omega) (by show _ ≤ 1099; omega) (fun hz5 => ?_)
  have hn5 := isK_newN (c := 0) (len := 0) (show Γ.1 = 15 from by first | omega | (simp only [alo_1]; omega)) hz5
  have hK := isK_alo (c' := 0) (len := 0) hK
  refine rn_dup dX6_init_8 rfl ?_
  refine rn_callIN (As := []) (mc := 0) (ms := 0) dX6_init_9 oi_X0_init ml_X6_9 hn5 rfl (Nat.le_of_ble_eq_true rfl) (by show _ ≤ _ + 1; omega) (by show _ ≤ 100 * _; omega) (by show _ ≤ 60; omega) (by show _ ≤ 1099; omega) (ct_bestI (D + 60) hn5) (fun r2 Γ2 iv2 rv2 lv2 h => ?_)
  obtain ⟨rfl, rfl, rfl, rfl, rfl⟩ := h
  refine rn_nst ?_
  refine pf_X6_10 dX6_init_12 rfl rfl hK ?_
  refine r_aload0 dX6_init_15 ?_
  refine rn_newN (ci := 2) (16) (show (alo Γ 0 0).1 = 16 from by first | omega | (simp only [alo_1]; omega)) dX6_init_16 rfl uw_X2 tyX2_ok te_X2 cc_X6_16 ins_X2 ini_X2 (by show _ ≤ 60; omega) (by show _ ≤ 1099; omega) (fun hz16 => ?_)
  have hn16 := isK_newN (c := 2) (len := 0) (show (alo Γ 0 0).1 = 16 from by first | omega | (simp only [alo_1]; omega)) hz16
  have hK := isK_alo (c' := 2) (len := 0) hK
  have hn5 := isK_alo (c' := 2) (len := 0) hn5
  refine rn_dup dX6_init_19 rfl ?_
  refine rn_callIN (As := []) (mc := 3) (ms := 324) dX6_init_20 oi_X2_init ml_X6_18 hn16 rfl (Nat.le_of_ble_eq_true rfl) (by show _ ≤ _ + 1; omega) (by show _ ≤ 100 * _; omega) (by show _ ≤ 60; omega) (by show _ ≤ 1099; omega) (ct_readerI (D + 60) hn16 (by simp only [alo_1]; omega)) (fun r2 Γ2 iv2 rv2 lv2 h => ?_)
  obtain ⟨rfl, rfl, i1, i2, i3, i4, i5, i6, i7, i8⟩ := h
  refine rn_nst ?_
  have hK := isK_alo (c' := 20) (len := 4) (isK_alo (c' := 20) (len := 160) (isK_alo (c' := 20) (len := 160) hK))
  have hn5 := isK_alo (c' := 20) (len := 4) (isK_alo (c' := 20) (len := 160) (isK_alo (c' := 20) (len := 160) hn5))
  have a17 := isA_alo (c' := 20) (len := 4) (isA_alo (c' := 20) (len := 160) (isA_newN (Γ := alo (alo Γ 0 0) 2 0) (c := 20) (len := 160) (m := 17) (by simp only [alo_1]; omega) (by decide)))
  have a18 := isA_alo (c' := 20) (len := 4) (isA_newN (Γ := alo (alo (alo Γ 0 0) 2 0) 20 160) (c := 20) (len := 160) (m := 18) (by simp only [alo_1]; omega) (by decide))
  have a19 := isA_newN (Γ := alo (alo (alo (alo Γ 0 0) 2 0) 20 160) 20 160) (c := 20) (len := 4) (m := 19) (by simp only [alo_1]; omega) (by decide)
  have hn16 := isK_alo (c' := 20) (len := 4) (isK_alo (c' := 20) (len := 160) (isK_alo (c' := 20) (len := 160) hn16))
  refine pf_X6_19 dX6_init_23 rfl rfl hK ?_
  refine r_aload0 dX6_init_26 ?_
  refine rn_bipush (6) dX6_init_27 (by decide) ?_
  refine rn_anewN (c := 23) (6) (20) (show (alo (alo (alo (alo (alo Γ 0 0) 2 0) 20 160) 20 160) 20 4).1 = 20 from by first | omega | (simp only [alo_1]; omega)) dX6_init_29 (Or.inl rfl) rfl cc_X6_23 (by decide) (by omega) (by show _ ≤ 60; omega) (by show _ ≤ 1099; omega) (fun hz29 => ?_)
  have hn29 := isA_newN (c := 23) (len := 6) (show (alo (alo (alo (alo (alo Γ 0 0) 2 0) 20 160) 20 160) 20 4).1 = 20 from by first | omega | (simp only [alo_1]; omega)) hz29
  have hK := isK_alo (c' := 23) (len := 6) hK
  have hn5 := isK_alo (c' := 23) (len := 6) hn5
  have hn16 := isK_alo (c' := 23) (len := 6) hn16
  have a17 := isA_alo (c' := 23) (len := 6) a17
  have a18 := isA_alo (c' := 23) (len := 6) a18
  have a19 := isA_alo (c' := 23) (len := 6) a19
  refine pf_X6_25 dX6_init_32 rfl rfl hK ?_
  refine r_aload0 dX6_init_35 ?_
  refine rn_iconst (4) dX6_init_36 (by decide) ?_
  refine rn_anewN (c := 24) (4) (21) (show (alo (alo (alo (alo (alo (alo Γ 0 0) 2 0) 20 160) 20 160) 20 4) 23 6).1 = 21 from by first | omega | (simp only [alo_1]; omega)) dX6_init_37 (Or.inr rfl) rfl cc_X6_29 (by decide) (by omega) (by show _ ≤ 60; omega) (by show _ ≤ 1099; omega) (fun hz37 => ?_)
  have hn37 := isA_newN (c := 24) (len := 4) (show (alo (alo (alo (alo (alo (alo Γ 0 0) 2 0) 20 160) 20 160) 20 4) 23 6).1 = 21 from by first | omega | (simp only [alo_1]; omega)) hz37
  have hK := isK_alo (c' := 24) (len := 4) hK
  have hn5 := isK_alo (c' := 24) (len := 4) hn5
  have hn16 := isK_alo (c' := 24) (len := 4) hn16
  have a17 := isA_alo (c' := 24) (len := 4) a17
  have a18 := isA_alo (c' := 24) (len := 4) a18
  have a19 := isA_alo (c' := 24) (len := 4) a19
  have hn29 := isA_alo (c' := 24) (len := 4) hn29
  refine pf_X6_31 dX6_init_40 rfl rfl hK ?_
  refine r_aload0 dX6_init_43 ?_
  refine rn_iconst (1) dX6_init_44 (by decide) ?_
  refine pf_X6_35 dX6_init_45 rfl hK ?_
  refine r_aload0 dX6_init_48 ?_
  refine rn_iconst (0) dX6_init_49 (by decide) ?_
  refine pf_X6_39 dX6_init_50 rfl (Or.inl rfl) hK ?_
  refine rn_iconst (0) dX6_init_53 (by decide) ?_
  refine r_istore1 dX6_init_54 rfl ?_
  refine xr_bytes (D := D) (by simp only [alo_1]; omega) 48 0 _ _ (by decide) rfl ⟨hK, ⟨?_, hn5⟩, ⟨?_, hn16, ?_, a17, ?_, a18, ?_, a19⟩, ⟨?_, hn29⟩, ⟨?_, hn37⟩, ?_, ?_, ?_⟩ ?_ (fun j hj => absurd hj (Nat.not_lt_zero _))
  · rw [up_ne2 (by decide), clr_ne (by decide), up_ne2 (by decide), clr_ne (by decide), up_ne2 (by decide), i2 _ _ (by decide), clr_ne (by decide), up_same]
  · rw [up_ne2 (by decide), clr_ne (by decide), up_ne2 (by decide), clr_ne (by decide), up_same]
  · rw [up_ne1 (by decide), clr_ne (by decide), up_ne1 (by decide), clr_ne (by decide), up_ne1 (by decide)]; exact i6
  · rw [up_ne1 (by decide), clr_ne (by decide), up_ne1 (by decide), clr_ne (by decide), up_ne1 (by decide)]; exact i7
  · rw [up_ne1 (by decide), clr_ne (by decide), up_ne1 (by decide), clr_ne (by decide), up_ne1 (by decide)]; exact i8
  · rw [up_ne2 (by decide), clr_ne (by decide), up_same]
  · exact up_same _ _ _ _
  · rw [up_ne2 (by decide), up_same]
  · exact up_same _ _ _ _
  · rw [up_ne1 (by decide), up_ne1 (by decide), clr_ne (by decide), clr_ne (by decide)]; exact i5
  · rw [up_ne1 (by decide), up_ne1 (by decide), clr_ne (by decide), clr_ne (by decide)]; exact i4
end CINITB
