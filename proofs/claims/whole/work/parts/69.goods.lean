/-! THE PURE STATE stays good -/
theorem GR.via {ρ ρ' : IV} (h : GR ρ) (h4 : ρ' 2 4 = ρ 2 4) (h5 : ρ' 3 4 = ρ 3 4) (hk : ∀ γ, γ < 2 → (∃ k, k ≤ 5 ∧ ρ' (2 + γ) 1 = nI k) ∧ ∃ m, m ≤ 9 ∧ ρ' (2 + γ) 2 = nI m) (hd : ∃ d, d ≤ 999 ∧ ρ' 4 4 = nI d) (hn : ∀ y, y < 24 → ρ' 1 y = 0 ∨ ρ' 1 y = 1) (ht : ∃ t, t < 6 ∧ ρ' 4 8 = nI t) : GR ρ' := by
  obtain ⟨a1, a2, a3, -⟩ := h
  have eu : uO ρ' = uO ρ := by unfold uO; rw [h4]
  have ev : vO ρ' = vO ρ := by unfold vO; rw [h5]
  exact ⟨by rw [h4, eu]; exact a1, by rw [h5, ev]; exact a2, by rw [eu, ev]; exact a3, hk, hd, hn, ht⟩
/-- a road that a question may be asked of -/
def GQ (ρ : IV) (T : Nat) : Prop := GR ρ ∧ GM ρ ∧ ∃ t, t < T ∧ ρ 4 8 = nI t
theorem GQ.via {ρ ρ' : IV} {T : Nat} (h : GQ ρ T) (hg : GR ρ') (h3 : ∀ γ, γ < 2 → ρ' (2 + γ) 3 = ρ (2 + γ) 3) (h8 : ρ' 4 8 = ρ 4 8) : GQ ρ' T :=
  ⟨hg, fun γ hγ => by rw [h3 γ hγ]; exact h.2.1 γ hγ, by rw [h8]; exact h.2.2⟩
theorem gk_ground {ρ : IV} {y w v : Int32} {a b : Nat} (ha : 2 ≤ a) : (groundQ ρ y w v).2 a b = ρ a b := by
  unfold groundQ
  by_cases h : (0 ≤ y ∧ y ≤ 23) ∧ (0 ≤ w ∧ w ≤ 1) ∧ 0 ≤ v ∧ v ≤ (if w = 0 then 3 else 1)
  · rw [if_pos h]
    by_cases h0 : w = 0
    · rw [if_pos h0]
      by_cases h1 : whoseS ρ y = -1
      · rw [if_pos h1]; exact up_ne1 (by omega)
      · rw [if_neg h1]
    · rw [if_neg h0]; exact up_ne1 (by omega)
  · rw [if_neg h]
theorem gq_ground {ρ : IV} {T : Nat} {y w v : Int32} (h : GQ ρ T) : GQ (groundQ ρ y w v).2 T := h.via (gr_groundQ h.1) (fun γ _ => gk_ground (by omega)) (gk_ground (by decide))
theorem gq_gang {ρ : IV} {T : Nat} {G k n : Int32} (h : GQ ρ T) : GQ (gangQ ρ G k n).2 T := by
  unfold gangQ
  by_cases hc : (0 ≤ G ∧ G ≤ 1) ∧ (0 ≤ k ∧ k ≤ 5) ∧ 0 ≤ n ∧ n ≤ 9
  · rw [if_pos hc]
    obtain ⟨hG, hk, hn⟩ := hc
    have k1 := nB 5 (by decide) hk
    have n1 := nB 9 (by decide) hn
    generalize hγ : G.toNatClampNeg = γ
    have e : ∀ a b, ¬ (b = 1 ∨ b = 2) → up (up ρ (2 + γ) 1 k) (2 + γ) 2 n a b = ρ a b := fun a b z => (up_ne2 (by omega)).trans (up_ne2 (by omega))
    show GQ (up (up ρ (2 + γ) 1 k) (2 + γ) 2 n) T
    refine h.via (h.1.via (e _ _ (by decide)) (e _ _ (by decide)) (fun β hβ => ?_) ?_ (fun y hy => ?_) ?_) (fun β _ => e _ _ (by decide)) (e _ _ (by decide))
    · by_cases z : β = γ
      · subst z
        exact ⟨⟨_, k1.2, by rw [up_ne2 (by decide), up_same]; exact k1.1⟩, ⟨_, n1.2, by rw [up_same]; exact n1.1⟩⟩
      · rw [up_ne1 (by omega), up_ne1 (by omega), up_ne1 (by omega), up_ne1 (by omega)]
        exact h.1.2.2.2.1 β hβ
    · rw [e _ _ (by decide)]; exact h.1.2.2.2.2.1
    · rw [up_ne1 (by omega), up_ne1 (by omega)]; exact h.1.2.2.2.2.2.1 y hy
    · rw [e _ _ (by decide)]; exact h.1.2.2.2.2.2.2
  · rw [if_neg hc]; exact h
theorem gq_set {ρ : IV} {T : Nat} {w v : Int32} (h : GQ ρ T) : GQ (setQ ρ w v).2 T := by
  unfold setQ
  by_cases hc : (0 ≤ w ∧ w ≤ 4) ∧ loS w.toNatClampNeg ≤ v ∧ v ≤ hiS w.toNatClampNeg
  · rw [if_pos hc]
    obtain ⟨hw, h1, h2⟩ := hc
    have w1 := (nB 4 (by decide) hw).2
    generalize w.toNatClampNeg = j at h1 h2 w1 ⊢
    have hG : ∀ (i c : Nat) (x : Int32), (i = 4 ∧ 5 ≤ c ∧ c ≤ 7) → GQ (up ρ i c x) T := fun i c x z => h.via (h.1.upd (by omega) (by omega) (by omega) (by omega)) (fun γ _ => up_ne1 (by omega)) (up_ne2 (by omega))
    have hM : ∀ (i : Nat), i < 2 → (1 ≤ v ∧ v ≤ 30) → GQ (up ρ (2 + i) 3 v) T := fun i hi hv => by
      refine ⟨h.1.upd (by omega) (by omega) (by omega) (by omega), fun γ hγ => ?_, by rw [up_ne1 (by omega)]; exact h.2.2⟩
      by_cases z : γ = i
      · subst z
        rw [up_same]
        have hv0 : 0 ≤ v := Int32.le_trans (by decide) hv.1
        have v1 := nB 30 (by decide) ⟨hv0, hv.2⟩
        refine ⟨_, ?_, v1.2, v1.1⟩
        have := hv.1
        rw [v1.1, show (1 : Int32) = nI 1 by decide, nI_leI (by decide) (by omega)] at this
        exact this
      · rw [up_ne1 (by omega)]; exact h.2.1 γ hγ
    match j, w1, h1, h2 with
    | 0, _, h1, h2 => exact hM 0 (by decide) ⟨h1, h2⟩
    | 1, _, h1, h2 => exact hM 1 (by decide) ⟨h1, h2⟩
    | 2, _, _, _ => exact hG 4 5 v (by decide)
    | 3, _, _, _ => exact hG 4 6 v (by decide)
    | 4, _, _, _ => exact hG 4 7 v (by decide)
  · rw [if_neg hc]; exact h
theorem men_ylp {S : Nat → Nat → List Int32} {γ a : Nat} (ha : 2 ≤ a) : ∀ n ρ, ylp S γ n ρ a 3 = ρ a 3 := by
  intro n
  induction n with
  | zero => intro ρ; rfl
  | succ n ih =>
    intro ρ
    rw [ylp]
    split
    · split
      · rfl
      · rw [ih]
        unfold yardS
        rw [up_ne2 (by decide), up_ne2 (by decide), up_ne2 (by decide), up_ne1 (by omega)]
    · rfl
theorem men_half {S : Nat → Nat → List Int32} {ρ : IV} {γ : Nat} {idl : Int32} {a : Nat} (ha : 2 ≤ a) : half1 S ρ γ idl a 3 = ρ a 3 := by
  unfold half1
  split
  · unfold turnS turn3
    rw [up_ne2 (by decide), up_ne2 (by decide)]
    have h1 : turn1 S ρ γ a 3 = ρ a 3 := by unfold turn1; rw [men_ylp ha, up_ne2 (by decide)]
    unfold turn2
    split
    · rw [up_ne2 (by decide)]; exact h1
    · exact h1
  · rfl
theorem gq_pass {S : Nat → Nat → List Int32} {ρ : IV} {idl : Int32} {T : Nat} (h : GQ ρ T) : GQ (passS S ρ idl) T :=
  h.via (gr_pass h.1) (fun γ _ => by unfold passS dayS; rw [up_ne2 (by decide), men_half (by omega), men_half (by omega)]) rule_pass
theorem gq_force {ρ : IV} {T : Nat} {t : Int32} (h : GQ ρ T) (h1 : 1 ≤ T) (hT : T ≤ 6) : GQ (forceQ ρ T t).2 T := by
  unfold forceQ
  by_cases hc : 0 ≤ t ∧ t ≤ nI (T - 1)
  · rw [if_pos hc]
    have t1 := nB (T - 1) (nI_toInt (by omega)) hc
    have ht : ∃ j, j < T ∧ up ρ 4 8 t 4 8 = nI j := ⟨t.toNatClampNeg, by omega, by rw [up_same]; exact t1.1⟩
    show GQ (up ρ 4 8 t) T
    refine ⟨h.1.via (up_ne1 (by decide)) (up_ne1 (by decide)) (fun β hβ => ?_) ?_ (fun y hy => ?_) ?_, fun γ hγ => ?_, ht⟩
    · rw [up_ne1 (by omega), up_ne1 (by omega)]; exact h.1.2.2.2.1 β hβ
    · rw [up_ne2 (by decide)]; exact h.1.2.2.2.2.1
    · rw [up_ne1 (by decide)]; exact h.1.2.2.2.2.2.1 y hy
    · obtain ⟨j, a, b⟩ := ht; exact ⟨j, by omega, b⟩
    · rw [up_ne1 (by omega)]; exact h.2.1 γ hγ
  · rw [if_neg hc]; exact h
theorem gq_bore {ρ : IV} {T : Nat} {k n : Int32} (h : GQ ρ T) : GQ (boreQ ρ k n).2 T := by
  have hb : ∀ m y ρ c, GQ ρ T → GQ (brN m y ρ c).2 T := by
    intro m
    induction m with
    | zero => intro y ρ c h; exact h
    | succ m ih =>
      intro y ρ c h
      rw [brN_s]
      exact ih _ _ _ (h.via (h.1.known (Or.inr rfl)) (fun γ _ => up_ne1 (by omega)) (up_ne1 (by decide)))
  unfold boreQ
  split
  · exact hb _ _ _ _ h
  · exact h
theorem gq_grN {it : Nat → Int32} {a : Int32} {N T : Nat} : ∀ m k ρ c, GQ ρ T → GQ (grN it a N m k ρ c).2 T := by
  intro m
  induction m with
  | zero => intro k ρ c h; exact h
  | succ m ih =>
    intro k ρ c h
    rw [grN]
    split
    · exact ih _ _ _ (gq_ground h)
    · exact h
theorem gq_grounds {ρ η : IV} {T : Nat} {s so a n : Int32} (h : GQ ρ T) : GQ (groundsQ ρ η s so a n).2 T := by
  unfold groundsQ
  split
  · split
    · exact h
    · split
      · exact gq_grN _ _ _ _ h
      · exact h
  · exact h
theorem gq_ck {ρ κ : IV} {T : Nat} (h : GQ ρ T) (hk : GQ κ T) : GQ (ckS κ ρ) T := by
  have e : ∀ a b, ¬ ((a = 2 ∨ a = 3) ∧ (b = 1 ∨ b = 2)) → ckS κ ρ a b = κ a b := fun a b z => if_neg z
  refine hk.via (hk.1.via (e _ _ (by decide)) (e _ _ (by decide)) (fun β hβ => ?_) ?_ (fun y hy => ?_) ?_) (fun γ _ => e _ _ (by omega)) (e _ _ (by decide))
  · rw [show ckS κ ρ (2 + β) 1 = ρ (2 + β) 1 from if_pos (by omega), show ckS κ ρ (2 + β) 2 = ρ (2 + β) 2 from if_pos (by omega)]
    exact h.1.2.2.2.1 β hβ
  · rw [e _ _ (by decide)]; exact hk.1.2.2.2.2.1
  · rw [e _ _ (by omega)]; exact hk.1.2.2.2.2.2.1 y hy
  · rw [e _ _ (by decide)]; exact hk.1.2.2.2.2.2.2
theorem GQ.le {ρ : IV} {T T' : Nat} (h : GQ ρ T) (hT : T ≤ T') : GQ ρ T' := ⟨h.1, h.2.1, h.2.2.choose, by have := h.2.2.choose_spec; omega, h.2.2.choose_spec.2⟩
/-! sheets -/
theorem gs_sheet {η : IV} {s so n : Int32} (h : GSh η) : GSh (sheetQ η s so n).2 := by
  unfold sheetQ
  by_cases hc : (0 ≤ s ∧ s ≤ 3) ∧ (-1 ≤ so ∧ so ≤ 2) ∧ ¬ (0 ≤ so ∧ 40 < n)
  · rw [if_pos hc]
    by_cases h1 : 0 ≤ so ∧ n < 0
    · rw [if_pos h1]; exact h
    · rw [if_neg h1]
      show GSh (shE η s.toNatClampNeg so n)
      intro q hq
      by_cases e : q = s.toNatClampNeg
      · have e0 : shE η s.toNatClampNeg so n q 0 = so := by unfold shE; rw [if_pos e]; rfl
        have e1 : shE η s.toNatClampNeg so n q 1 = n := by unfold shE; rw [if_pos e]; rfl
        rw [e0, e1]
        by_cases z : so = -1
        · exact Or.inl z
        · obtain ⟨-, ⟨h2, h3⟩, h4⟩ := hc
          have h0 : 0 ≤ so := by
            have z' : so.toInt ≠ -1 := fun y => z (Int32.toInt_inj.mp y)
            simp only [Int32.le_iff_toInt_le, Int32.reduceToInt] at h2 ⊢
            omega
          have hn0 : 0 ≤ n := Int32.not_lt.mp (fun y => h1 ⟨h0, y⟩)
          have hn4 : n ≤ 40 := Int32.not_lt.mp (fun y => h4 ⟨h0, y⟩)
          have a := nB 2 (by decide) ⟨h0, h3⟩
          have b := nB 40 (by decide) ⟨hn0, hn4⟩
          exact Or.inr ⟨⟨_, a.2, a.1⟩, ⟨_, b.2, b.1⟩⟩
      · have e0 : ∀ b, shE η s.toNatClampNeg so n q b = η q b := fun b => if_neg e
        rw [e0, e0]
        exact h q hq
  · rw [if_neg hc]; exact h
theorem gs_keep {η η' : IV} (h : GSh η) (h0 : ∀ s b, b < 2 → η' s b = η s b) : GSh η' := fun s hs => by rw [h0 s 0 (by decide), h0 s 1 (by decide)]; exact h s hs
theorem gs_cell {η : IV} {s i v : Int32} (h : GSh η) : GSh (cellQ η s i v).2 := by
  unfold cellQ
  split
  · split
    · exact h
    · split
      · exact gs_keep h (fun s b hb => up_ne2 (by omega))
      · exact h
  · exact h
theorem gs_copy {η : IV} {s i o j n : Int32} (h : GSh η) : GSh (copyQ η s i o j n).2 := by
  unfold copyQ
  split
  · split
    · exact h
    · split
      · split
        · exact gs_keep h (fun s b hb => if_neg (by omega))
        · exact h
      · exact h
  · exact h
