/-! BOTH SIDES: text -/
theorem ShG.far {Γ Γ' : Sh} {rv rv' : RV} {a m : Nat} (h : ShG Γ rv a) (hl : ShLe m Γ Γ') (hr : ∀ x y, (a ≤ x ∧ x ≤ a + 2) → rv' x y = rv x y) (ha : a + 2 < m) : ShG Γ' rv' a := ⟨hl.k h.1 (by omega), ⟨(hr _ _ (by omega)).trans h.2.1.1, hl.a h.2.1.2 (by omega)⟩, (hr _ _ (by omega)).trans h.2.2.1, hl.a h.2.2.2 (by omega)⟩
theorem ShRd.far {Γ Γ' : Sh} {rv rv' : RV} {r m : Nat} (h : ShRd Γ rv r) (hl : ShLe m Γ Γ') (hr : ∀ x y, (r ≤ x ∧ x ≤ r + 9) → rv' x y = rv x y) (ha : r + 9 < m) : ShRd Γ' rv' r := ⟨hl.k h.1 (by omega), ⟨(hr _ _ (by omega)).trans h.2.1.1, hl.a h.2.1.2 (by omega)⟩, ⟨(hr _ _ (by omega)).trans h.2.2.1.1, hl.a h.2.2.1.2 (by omega)⟩, ⟨(hr _ _ (by omega)).trans h.2.2.2.1.1, h.2.2.2.1.2.far hl (fun x y z => hr x y (by omega)) (by omega)⟩, ⟨(hr _ _ (by omega)).trans h.2.2.2.2.1.1, h.2.2.2.2.1.2.far hl (fun x y z => hr x y (by omega)) (by omega)⟩, (hr _ _ (by omega)).trans h.2.2.2.2.2.1, hl.a h.2.2.2.2.2.2 (by omega)⟩
theorem RuC.far {Γ Γ' : Sh} {iv iv' : IV} {rv rv' : RV} {t m : Nat} {S : Nat → Nat → List Int32} (h : RuC Γ iv rv t S) (hl : ShLe m Γ Γ') (hi : ∀ x y, (rq t ≤ x ∧ x ≤ rq t + 4) → iv' x y = iv x y) (hr : ∀ x y, (rq t ≤ x ∧ x ≤ rq t + 4) → rv' x y = rv x y) (ha : rq t + 4 < m) : RuC Γ' iv' rv' t S := by
  obtain ⟨h0, L, h1, h2, h3⟩ := h
  refine ⟨(hi _ _ (by omega)).trans h0, L, h1, ⟨hl.k h2.1 (by omega), ⟨(hr _ _ (by omega)).trans h2.2.1.1, hl.a h2.2.1.2 (by omega)⟩, ⟨(hr _ _ (by omega)).trans h2.2.2.1.1, hl.a h2.2.2.1.2 (by omega)⟩, ⟨(hr _ _ (by omega)).trans h2.2.2.2.1.1, hl.a h2.2.2.2.1.2 (by omega)⟩, (hr _ _ (by omega)).trans h2.2.2.2.2.1, hl.a h2.2.2.2.2.2 (by omega)⟩, fun p hp => ?_⟩
  obtain ⟨a1, a2, B, b1, b2, b3, b4⟩ := h3 p hp
  exact ⟨(hi _ _ (by omega)).trans a1, a2, B, (hi _ _ (by omega)).trans b1, (hi _ _ (by omega)).trans b2, b3, fun j hj => (hi _ _ (by omega)).trans (b4 j hj)⟩
theorem ShLe.low {m k : Nat} {Γ Γ' : Sh} (h : ShLe m Γ Γ') (hk : k ≤ m) : ShLe k Γ Γ' := ⟨Nat.le_trans hk h.1, h.2.1, fun i hi => h.2.2 i (by omega)⟩
theorem ShX.far {Γ Γ' : Sh} {rv rv' : RV} (h : ShX Γ rv) (hl : ShLe 75 Γ Γ') (hr : ∀ x y, x < 75 → ¬ x = 20 → rv' x y = rv x y) : ShX Γ' rv' := by
  obtain ⟨a0, a1, a2, a3, a4, a5, a6, a7, a8, a9⟩ := h
  have hR : ∀ r, 27 ≤ r → r + 9 < 75 → ShRd Γ rv r → ShRd Γ' rv' r := fun r h1 h2 h => h.far hl (fun x y z => hr x y (by omega) (by omega)) h2
  exact ⟨hl.k a0 (by decide), ⟨(hr _ _ (by decide) (by decide)).trans a1.1, hR _ (by decide) (by decide) a1.2⟩, ⟨(hr _ _ (by decide) (by decide)).trans a2.1, hR _ (by decide) (by decide) a2.2⟩, ⟨(hr _ _ (by decide) (by decide)).trans a3.1, hR _ (by decide) (by decide) a3.2⟩, ⟨(hr _ _ (by decide) (by decide)).trans a4.1, hR _ (by decide) (by decide) a4.2⟩, ⟨(hr _ _ (by decide) (by decide)).trans a5.1, hl.k a5.2 (by decide)⟩, ⟨(hr _ _ (by decide) (by decide)).trans a6.1, a6.2.lift (m := 20) (hl.low (by decide)) (fun x y z => hr x y (by omega) (by omega)) (by decide)⟩, ⟨(hr _ _ (by decide) (by decide)).trans a7.1, hl.a a7.2 (by decide)⟩, ⟨(hr _ _ (by decide) (by decide)).trans a8.1, hl.a a8.2 (by decide)⟩, fun s hs => ⟨(hr _ _ (by decide) (by decide)).trans (a9 s hs).1, hl.k (a9 s hs).2.1 (by omega), (hr _ _ (by omega) (by omega)).trans (a9 s hs).2.2.1, hl.a (a9 s hs).2.2.2 (by omega)⟩⟩
theorem RuC.cg {Γ : Sh} {iv : IV} {rv : RV} {t : Nat} {S S' : Nat → Nat → List Int32} (h : RuC Γ iv rv t S) (hs : S' t = S t) : RuC Γ iv rv t S' := by
  unfold RuC at h ⊢
  rw [hs]; exact h
theorem rq_far {t T : Nat} (h : t < T) : rq t + 4 < rq T := by
  unfold rq
  by_cases a : t = 0
  · rw [if_pos a, if_neg (by omega)]; omega
  · rw [if_neg a, if_neg (by omega)]; omega
theorem rq_98 {T : Nat} (h : 1 ≤ T) : 98 ≤ rq T := by
  unfold rq; rw [if_neg (by omega)]; omega
/-- texts are read: the class's side -/
theorem CI.far {j : Jt} {Γ Γ' : Sh} {iv iv' : IV} {rv rv' : RV} (h : CI j Γ iv rv) (hT : 1 ≤ j.T) (hl : ShLe (rq j.T) Γ Γ') (hi : ∀ x y, x < rq j.T → ¬ (RtR x y ∨ (x = 16 ∧ y = 0) ∨ (x = 14 ∧ y = 8)) → iv' x y = iv x y) (hr : ∀ x y, x < rq j.T → ¬ (x = 20 ∧ y = j.T) → rv' x y = rv x y) (h0 : iv' 16 0 = 0) {T' : Nat} {S' : Nat → Nat → List Int32} (hT' : j.T ≤ T') (h8 : iv' 14 8 = nI T') (hg : Γ'.1 = rq T') (hS : ∀ t, t < j.T → S' t = j.S t) (hn : ∀ t, j.T ≤ t → t < T' → rv' 20 t = rq t ∧ RuC Γ' iv' rv' t S') : CI (j.r, j.k, j.i, T', S', j.b, 0, j.e) Γ' iv' rv' := by
  have h98 := rq_98 hT
  have hv : ∀ x y, x < 98 → ¬ (RtR x y ∨ (x = 16 ∧ y = 0) ∨ (x = 14 ∧ y = 8)) → iv' x y = iv x y := fun x y a b => hi x y (by omega) b
  have ho : Off (fun x y => 98 ≤ x ∨ RtR x y ∨ (x = 16 ∧ y = 0) ∨ (x = 14 ∧ y = 8)) iv iv' := fun x y z => hv x y (by omega) (fun w => z (Or.inr w))
  obtain ⟨t, t1, t2, t3⟩ := h.rn
  obtain ⟨κ, k1, k2⟩ := h.kp
  refine ⟨h.sh.far (hl.low (by omega)) (fun x y a b => hr x y (by omega) (by omega)), h.rc.off ho (fun a b y => by omega), ⟨t, Nat.lt_of_lt_of_le t1 hT', t2, (hr _ _ (by omega) (by omega)).trans t3⟩, h.g4.off ho (by omega) (by omega), h.g5.off ho (by omega) (by omega), fun q hq => ?_, h8, (hv _ _ (by decide) (by omega)).trans h.i9, ⟨κ, k1.off ho (fun a b y => by omega), fun z => ⟨(k2 z).1, ?_⟩⟩, ⟨h0, Nat.zero_le _, fun q hq => absurd hq (Nat.not_lt_zero _), fun q hq => absurd hq (Nat.not_lt_zero _)⟩, (hv _ _ (by decide) (by omega)).trans h.f9, h.sc.off ho (fun a b y => by omega), hg⟩
  · by_cases z : q < j.T
    · have hf := rq_far z
      have hq1 := rq_ge q
      exact ⟨(hr _ _ (by omega) (by omega)).trans (h.ru q z).1, ((h.ru q z).2.far hl (fun x y w => hi x y (by omega) (by omega)) (fun x y w => hr x y (by omega) (by omega)) hf).cg (hS q z)⟩
    · exact hn q (by omega) hq
  · obtain ⟨u, u1, u2, u3⟩ := (k2 z).2
    exact ⟨u, Nat.lt_of_lt_of_le u1 hT', u2, (hr _ _ (by omega) (by omega)).trans u3⟩
theorem mA_98 : ∀ q ∈ mA, q.2.1 < 98 := by decide
theorem MI_.far {j : Jt} {Γ Γ' : Sh} {iv iv' : IV} {rv rv' : RV} (h : MI_ j Γ iv rv) (hl : ShLe 98 Γ Γ') (hi : ∀ x y, 75 ≤ x → x < 98 → iv' x y = iv x y) (hr : ∀ y, rv' 75 y = rv 75 y) : MI_ j Γ' iv' rv' := by
  have h1 : MI_ j Γ' iv rv := ⟨⟨hl.k h.sh.1 (by decide), fun q hq => ⟨(h.sh.2 q hq).1, hl.a (h.sh.2 q hq).2 (mA_98 q hq)⟩⟩, h.2⟩
  exact h1.ck (P := fun x _ => ¬ (75 ≤ x ∧ x < 98)) (fun x y z => hi x y (by omega) (by omega)) (fun a b y => by omega) hr
section ASKST
variable {g : GS} {l : Launch} {Γ : Sh} {iv : IV} {rv : RV} {lv : LV} {j j' : Jt}
theorem lc_text (D : Nat) (hj : JG j) (hc : CI j Γ iv rv) (hm : MI_ j Γ iv rv) : Ct g l mX6_text (D + 62) 5 212 [.ref 14] Γ iv rv lv (LC j j.tx (.int (textQ j.T j.b j.n))) := by
  refine (ct_ctext D hc.sh hc.t8 hj.t1 hj.t6 hc.tx hc.f9 hc.gm).mono ?_
  rintro _ Γ2 iv2 rv2 _ ⟨rfl, h6, h5⟩
  unfold Jt.tx
  by_cases z : j.T = 6
  · rw [if_pos z]
    obtain ⟨rfl, rfl, rfl, -⟩ := h6 z
    exact ⟨rfl, hc, hm⟩
  · rw [if_neg z]
    obtain ⟨h0, hi, hr, -, hl, hno, hok⟩ := h5 z
    have h98 := rq_98 hj.t1
    have hm2 : MI_ j Γ2 iv2 rv2 := hm.far (hl.low h98) (fun x y a b => hi x y (by omega) (by omega)) (fun y => hr _ _ (by omega) (by omega))
    obtain ⟨w, hw⟩ := txS_some (b := j.b) hj.n6
    rw [hw]
    cases w with
    | inl e =>
      obtain ⟨rfl, a1, rfl⟩ := hno (by unfold textOK; rw [hw]; exact fun y => y)
      exact ⟨rfl, hc.far hj.t1 hl hi hr h0 (Nat.le_refl _) a1 hc.gm (fun _ _ => rfl) (fun t u v => by omega), hm2⟩
    | inr q =>
      obtain ⟨a1, a2, a3, a4⟩ := hok q hw
      refine ⟨rfl, hc.far hj.t1 hl hi hr h0 (Nat.le_succ _) a2 (a1.trans ?_) (fun t ht => stS_ne (by omega)) (fun t u v => ?_), hm2⟩
      · have := hj.t1
        unfold rq; rw [if_neg (by omega), if_neg (by omega)]; omega
      · obtain rfl : t = j.T := by omega
        exact ⟨a3, a4 _ (if_pos rfl) (if_pos rfl) (if_pos rfl)⟩
theorem TextsM.keep {iv iv' : IV} {T : Nat} {S S' : Nat → Nat → List Int32} (h : TextsM iv T S) (ho : Off (Tx T) iv iv') (hS : ∀ t, t < T → S' t = S t) : TextsM iv' T S' := by
  intro t ht
  obtain ⟨b, n, h1, h2, h3, h4, h5⟩ := h t ht
  exact ⟨b, n, (ho _ _ (by omega)).trans h1, h2, fun q hq => (ho _ _ (by omega)).trans (h3 q hq), h4, by rw [hS t ht]; exact h5⟩
theorem lm_text (D : Nat) (hj : JG j) (hc : CI j.tx Γ iv rv) (hm : MI_ j Γ iv rv) : Ct g l mX7_text (D + 47) 0 0 [.ref 75] Γ iv rv lv (LM j.tx (.int (textQ j.T j.b j.n))) := by
  refine (ct_mtext D hm.sh hm.t6 hj.n6 hm.t3 hj.t6 hm.tp hj.bb).mono ?_
  rintro _ _ iv2 _ lv2 ⟨x, rfl, rfl, rfl, rfl, ho, h6, h5, h4, h3⟩
  have hc2 := hc.mk_ ho (fun a b y => by omega)
  refine ⟨rfl, hc2, ?_⟩
  clear hc hc2
  unfold Jt.tx
  by_cases z : j.T = 6
  · rw [if_pos z]
    obtain rfl := h6 z
    exact hm
  · rw [if_neg z]
    obtain ⟨a1, a2, a3⟩ := h5 z
    have hr := hm.rm
    have hR : RM iv2 j.r := ⟨fun y hy => ⟨(ho 79 y (by omega)).trans (hr.1 y hy).1, (ho 80 y (by omega)).trans (hr.1 y hy).2⟩, fun k γ b1 b2 b3 => (ho _ _ (by omega)).trans (hr.2.1 k γ b1 b2 b3), fun k b1 b2 => (ho _ _ (by omega)).trans (hr.2.2.1 k b1 b2), (ho _ _ (by omega)).trans hr.2.2.2⟩
    obtain ⟨w, hw⟩ := txS_some (b := j.b) hj.n6
    rw [hw]
    cases w with
    | inl e =>
      have c3 := h3 (fun y => by have := y.2; unfold textOK at this; rw [hw] at this; exact this)
      exact ⟨hm.sh, hR, (ho _ _ (by omega)).trans hm.im, fun y => (hm.kp y).off ho (fun a b y => by omega), hm.tx.keep ho (fun _ _ => rfl), c3, a1, fun q hq => absurd hq (Nat.not_lt_zero _), hm.sm.kp (fun a b u v => ho _ _ (by omega))⟩
    | inr q =>
      have c3 := h4 z (by unfold textOK; rw [hw]; exact trivial)
      refine ⟨hm.sh, hR, (ho _ _ (by omega)).trans hm.im, fun y => (hm.kp y).off ho (fun a b y => by omega), fun t ht => ?_, c3, a1, fun q hq => absurd hq (Nat.not_lt_zero _), hm.sm.kp (fun a b u v => ho _ _ (by omega))⟩
      by_cases e : t < j.T
      · exact hm.tx.keep (S' := stS j.S j.T q) ho (fun u hu => stS_ne (by omega)) t e
      · have ht' : t < j.T + 1 := ht
        obtain rfl : t = j.T := by omega
        exact ⟨j.b, j.n, a2, hj.n6, a3, hj.bb, by
          show txS j.b j.n = some (.inr (stS j.S j.T q j.T 0, stS j.S j.T q j.T 1, stS j.S j.T q j.T 2))
          rw [hw, show stS j.S j.T q j.T 0 = q.1 from if_pos rfl, show stS j.S j.T q j.T 1 = q.2.1 from if_pos rfl, show stS j.S j.T q j.T 2 = q.2.2 from if_pos rfl]⟩
end ASKST
