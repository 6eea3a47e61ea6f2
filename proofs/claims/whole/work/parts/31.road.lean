/-! THE SPEC OF A ROAD: rows 0 ground, 1 known, 2 and 3 the gangs (1 kind, 2 number, 3 men, 4 done, 5 work, 6 earned, 7 spent), 4 (4 day, 5 and 6 pay for a yard, a day, 7 wage, 8 rule) -/
def uO (ρ : IV) : Nat := (ρ 2 4).toNatClampNeg
def vO (ρ : IV) : Nat := (ρ 3 4).toNatClampNeg
def aheadS (ρ : IV) : Int32 := 24 - ρ 2 4 - ρ 3 4
def nextN (ρ : IV) (γ : Nat) : Nat := if γ = 0 then uO ρ else 23 - vO ρ
def remS (x y : Int32) : Int32 := x - x / y * y
def doesS (k m d gr rate : Int32) : Int32 :=
  if (if k = 2 ∨ k = 4 then (if k = 4 then (if gr = remS m 4 ∧ remS d 2 = 1 then 0 else rate) - 3 * gr else (if gr = remS m 4 ∧ remS d 2 = 1 then 0 else rate)) else if k = 0 then rate else if k = 3 then (if remS d (m + 2) = 0 then (rate / 2 + 10) * 2 else rate / 2 + 10) else if k = 5 ∧ gr = 3 then rate / 2 + 10 + m else rate / 2 + 10) < 0 then 0
  else (if k = 2 ∨ k = 4 then (if k = 4 then (if gr = remS m 4 ∧ remS d 2 = 1 then 0 else rate) - 3 * gr else (if gr = remS m 4 ∧ remS d 2 = 1 then 0 else rate)) else if k = 0 then rate else if k = 3 then (if remS d (m + 2) = 0 then (rate / 2 + 10) * 2 else rate / 2 + 10) else if k = 5 ∧ gr = 3 then rate / 2 + 10 + m else rate / 2 + 10)
def costsS (k m : Int32) : Int32 := if k = 0 ∨ k = 2 then 0 else if k = 4 then 1 else if (if k = 1 then m else if k = 3 then 2 * m + 5 else m - 10) < 0 then 0 else (if k = 1 then m else if k = 3 then 2 * m + 5 else m - 10)
def leastS (p : Nat) : Int32 := if p = 0 then 0 else if p = 1 then 1 else -999
def clampS (p : Nat) (v : Int32) : Int32 := if v < leastS p then leastS p else if 999 < v then 999 else v
def envS (ρ : IV) (y : Nat) (men : Int32) : Nat → Int32 := fun j => if j = 0 then ρ 0 y else if j = 1 then men else if j = 2 then nI y else if j = 3 then aheadS ρ else if j = 4 then ρ 4 4 else ρ 1 y
/-- what the rule says: part p, of yard y, by so many men -/
def askS (S : Nat → Nat → List Int32) (ρ : IV) (p y : Nat) (men : Int32) : Int32 := clampS p (vl (envS ρ y men) (S (ρ 4 8).toNatClampNeg p))
def yardS (ρ : IV) (γ : Nat) (need : Int32) : IV := up (up (up (up ρ 1 (nextN ρ γ) 1) (2 + γ) 5 (ρ (2 + γ) 5 - need)) (2 + γ) 6 (ρ (2 + γ) 6 + ρ 4 5)) (2 + γ) 4 (ρ (2 + γ) 4 + 1)
def ylp (S : Nat → Nat → List Int32) (γ : Nat) : Nat → IV → IV
  | 0, ρ => ρ
  | n + 1, ρ => if 0 < aheadS ρ then (if ρ (2 + γ) 5 < askS S ρ 1 (nextN ρ γ) (ρ (2 + γ) 3) then ρ else ylp S γ n (yardS ρ γ (askS S ρ 1 (nextN ρ γ) (ρ (2 + γ) 3)))) else ρ
def turn1 (S : Nat → Nat → List Int32) (ρ : IV) (γ : Nat) : IV := ylp S γ 24 (up ρ (2 + γ) 5 (ρ (2 + γ) 5 + doesS (ρ (2 + γ) 1) (ρ (2 + γ) 2) (ρ 4 4) (ρ 0 (nextN ρ γ)) (askS S ρ 0 (nextN ρ γ) (ρ (2 + γ) 3))))
def turn2 (ρ : IV) (γ : Nat) : IV := if aheadS ρ = 0 then up ρ (2 + γ) 5 0 else ρ
def turn3 (ρ : IV) (γ : Nat) : IV := up (up ρ (2 + γ) 7 (ρ (2 + γ) 7 + (ρ (2 + γ) 3 * ρ 4 7 + costsS (ρ (2 + γ) 1) (ρ (2 + γ) 2)))) (2 + γ) 6 (ρ (2 + γ) 6 + ρ 4 6)
def turnS (S : Nat → Nat → List Int32) (ρ : IV) (γ : Nat) : IV := turn3 (turn2 (turn1 S ρ γ) γ) γ
def half1 (S : Nat → Nat → List Int32) (ρ : IV) (γ : Nat) (idl : Int32) : IV := if 0 < aheadS ρ ∧ idl ≠ nI γ then turnS S ρ γ else ρ
def dayS (ρ : IV) : IV := up ρ 4 4 (if ρ 4 4 < 999 then ρ 4 4 + 1 else ρ 4 4)
def passS (S : Nat → Nat → List Int32) (ρ : IV) (idl : Int32) : IV := dayS (half1 S (half1 S ρ 0 idl) 1 idl)
def runS (S : Nat → Nat → List Int32) (idl idle : Int32) : Nat → Nat → IV → Nat × IV
  | 0, k, ρ => (k, ρ)
  | n + 1, k, ρ => if 0 < aheadS ρ then runS S idl idle n (k + 1) (passS S ρ (if nI k < idle then idl else -1)) else (k, ρ)
/-- a road as it may be -/
def GR (ρ : IV) : Prop := ρ 2 4 = nI (uO ρ) ∧ ρ 3 4 = nI (vO ρ) ∧ uO ρ + vO ρ ≤ 24 ∧ (∀ γ, γ < 2 → (∃ k, k ≤ 5 ∧ ρ (2 + γ) 1 = nI k) ∧ ∃ m, m ≤ 9 ∧ ρ (2 + γ) 2 = nI m) ∧ (∃ d, d ≤ 999 ∧ ρ 4 4 = nI d) ∧ (∀ y, y < 24 → ρ 1 y = 0 ∨ ρ 1 y = 1) ∧ ∃ t, t < 6 ∧ ρ 4 8 = nI t
theorem ahead_nI {ρ : IV} (h : GR ρ) : aheadS ρ = nI (24 - uO ρ - vO ρ) := by
  unfold aheadS
  rw [h.1, h.2.1, show (24 : Int32) = nI 24 by decide, pk_sub (by have := h.2.2.1; omega), pk_sub (by have := h.2.2.1; omega)]
theorem ahead_pos {ρ : IV} (h : GR ρ) : 0 < aheadS ρ ↔ uO ρ + vO ρ < 24 := by
  rw [ahead_nI h, show (0 : Int32) = nI 0 by decide, nI_ltI (by decide) (by omega)]
  have := h.2.2.1
  omega
theorem ahead_zero {ρ : IV} (h : GR ρ) : aheadS ρ = 0 ↔ ¬ uO ρ + vO ρ < 24 := by
  rw [ahead_nI h, show (0 : Int32) = nI 0 by decide, nI_eq (by omega) (by decide)]
  have := h.2.2.1
  omega
theorem next_lt {ρ : IV} {γ : Nat} (h : uO ρ + vO ρ < 24) : nextN ρ γ < 24 := by
  unfold nextN; split <;> omega
theorem uO_of {ρ : IV} {u : Nat} (h : ρ 2 4 = nI u) (hu : u < 2 ^ 31) : uO ρ = u := by unfold uO; rw [h]; exact nI_clamp hu
theorem vO_of {ρ : IV} {u : Nat} (h : ρ 3 4 = nI u) (hu : u < 2 ^ 31) : vO ρ = u := by unfold vO; rw [h]; exact nI_clamp hu
/-- a cell that GR does not speak of -/
theorem GR.upd {ρ : IV} (h : GR ρ) {i k : Nat} {x : Int32} (h1 : ¬ (i = 2 ∧ (k = 4 ∨ k = 1 ∨ k = 2))) (h2 : ¬ (i = 3 ∧ (k = 4 ∨ k = 1 ∨ k = 2))) (h3 : ¬ (i = 4 ∧ (k = 4 ∨ k = 8))) (h4 : i ≠ 1) : GR (up ρ i k x) := by
  obtain ⟨a1, a2, a3, a4, a5, a6, a7⟩ := h
  have e2 : up ρ i k x 2 4 = ρ 2 4 := up_ne (by omega)
  have e3 : up ρ i k x 3 4 = ρ 3 4 := up_ne (by omega)
  have eu : uO (up ρ i k x) = uO ρ := by unfold uO; rw [e2]
  have ev : vO (up ρ i k x) = vO ρ := by unfold vO; rw [e3]
  refine ⟨by rw [e2, eu]; exact a1, by rw [e3, ev]; exact a2, by rw [eu, ev]; exact a3, fun γ hγ => ?_, ?_, fun y hy => by rw [up_ne1 (fun z => h4 z.symm)]; exact a6 y hy, ?_⟩
  · rw [up_ne (by omega), up_ne (by omega)]; exact a4 γ hγ
  · rw [up_ne (by omega)]; exact a5
  · rw [up_ne (by omega)]; exact a7
theorem GR.known {ρ : IV} (h : GR ρ) {y : Nat} {x : Int32} (hx : x = 0 ∨ x = 1) : GR (up ρ 1 y x) := by
  obtain ⟨a1, a2, a3, a4, a5, a6, a7⟩ := h
  have e2 : up ρ 1 y x 2 4 = ρ 2 4 := up_ne1 (by decide)
  have e3 : up ρ 1 y x 3 4 = ρ 3 4 := up_ne1 (by decide)
  have eu : uO (up ρ 1 y x) = uO ρ := by unfold uO; rw [e2]
  have ev : vO (up ρ 1 y x) = vO ρ := by unfold vO; rw [e3]
  refine ⟨by rw [e2, eu]; exact a1, by rw [e3, ev]; exact a2, by rw [eu, ev]; exact a3, fun γ hγ => ?_, ?_, fun z hz => ?_, ?_⟩
  · rw [up_ne1 (by omega), up_ne1 (by omega)]; exact a4 γ hγ
  · rw [up_ne1 (by decide)]; exact a5
  · by_cases e : z = y
    · subst e; rw [up_same]; exact hx
    · rw [up_ne2 e]; exact a6 z hz
  · rw [up_ne1 (by decide)]; exact a7
theorem GR.done {ρ : IV} (h : GR ρ) {γ : Nat} (hγ : γ < 2) (hlt : uO ρ + vO ρ < 24) : GR (up ρ (2 + γ) 4 (ρ (2 + γ) 4 + 1)) ∧ uO (up ρ (2 + γ) 4 (ρ (2 + γ) 4 + 1)) + vO (up ρ (2 + γ) 4 (ρ (2 + γ) 4 + 1)) = uO ρ + vO ρ + 1 := by
  obtain ⟨a1, a2, a3, a4, a5, a6, a7⟩ := h
  rcases (show γ = 0 ∨ γ = 1 by omega) with rfl | rfl
  · have e2 : up ρ (2 + 0) 4 (ρ (2 + 0) 4 + 1) 2 4 = nI (uO ρ + 1) := by rw [up_same, show (2 + 0 : Nat) = 2 from rfl, a1]; exact nI_1 _
    have e3 : up ρ (2 + 0) 4 (ρ (2 + 0) 4 + 1) 3 4 = ρ 3 4 := up_ne1 (by decide)
    have eu := uO_of e2 (by omega)
    have ev : vO (up ρ (2 + 0) 4 (ρ (2 + 0) 4 + 1)) = vO ρ := by unfold vO; rw [e3]
    refine ⟨⟨by rw [e2, eu], by rw [e3, ev]; exact a2, by rw [eu, ev]; omega, fun γ hγ => ?_, ?_, fun y hy => by rw [up_ne1 (by decide)]; exact a6 y hy, ?_⟩, by rw [eu, ev]; omega⟩
    · rw [up_ne2 (by decide), up_ne2 (by decide)]; exact a4 γ hγ
    · rw [up_ne1 (by decide)]; exact a5
    · rw [up_ne1 (by decide)]; exact a7
  · have e2 : up ρ (2 + 1) 4 (ρ (2 + 1) 4 + 1) 3 4 = nI (vO ρ + 1) := by rw [up_same, show (2 + 1 : Nat) = 3 from rfl, a2]; exact nI_1 _
    have e3 : up ρ (2 + 1) 4 (ρ (2 + 1) 4 + 1) 2 4 = ρ 2 4 := up_ne1 (by decide)
    have eu := vO_of e2 (by omega)
    have ev : uO (up ρ (2 + 1) 4 (ρ (2 + 1) 4 + 1)) = uO ρ := by unfold uO; rw [e3]
    refine ⟨⟨by rw [e3, ev]; exact a1, by rw [e2, eu], by rw [eu, ev]; omega, fun γ hγ => ?_, ?_, fun y hy => by rw [up_ne1 (by decide)]; exact a6 y hy, ?_⟩, by rw [eu, ev]; omega⟩
    · rw [up_ne2 (by decide), up_ne2 (by decide)]; exact a4 γ hγ
    · rw [up_ne1 (by decide)]; exact a5
    · rw [up_ne1 (by decide)]; exact a7
theorem uv_upd {ρ : IV} {i k : Nat} {x : Int32} (h : ¬ (i = 2 ∧ k = 4) ∧ ¬ (i = 3 ∧ k = 4)) : uO (up ρ i k x) = uO ρ ∧ vO (up ρ i k x) = vO ρ := by
  unfold uO vO
  rw [up_ne (fun z => h.1 ⟨z.1.symm, z.2.symm⟩), up_ne (fun z => h.2 ⟨z.1.symm, z.2.symm⟩)]
  exact ⟨rfl, rfl⟩
theorem GR.yard {ρ : IV} (h : GR ρ) {γ : Nat} (hγ : γ < 2) (hlt : uO ρ + vO ρ < 24) (need : Int32) : GR (yardS ρ γ need) ∧ uO (yardS ρ γ need) + vO (yardS ρ γ need) = uO ρ + vO ρ + 1 := by
  have h1 := ((h.known (y := nextN ρ γ) (x := 1) (Or.inr rfl)).upd (i := 2 + γ) (k := 5) (x := ρ (2 + γ) 5 - need) (by omega) (by omega) (by omega) (by omega)).upd (i := 2 + γ) (k := 6) (x := ρ (2 + γ) 6 + ρ 4 5) (by omega) (by omega) (by omega) (by omega)
  have e1 := uv_upd (ρ := ρ) (i := 1) (k := nextN ρ γ) (x := 1) (by omega)
  have e2 := uv_upd (ρ := up ρ 1 (nextN ρ γ) 1) (i := 2 + γ) (k := 5) (x := ρ (2 + γ) 5 - need) (by omega)
  have e3 := uv_upd (ρ := up (up ρ 1 (nextN ρ γ) 1) (2 + γ) 5 (ρ (2 + γ) 5 - need)) (i := 2 + γ) (k := 6) (x := ρ (2 + γ) 6 + ρ 4 5) (by omega)
  have h2 := h1.done hγ (by rw [e3.1, e3.2, e2.1, e2.2, e1.1, e1.2]; exact hlt)
  rw [e3.1, e3.2, e2.1, e2.2, e1.1, e1.2, up_ne2 (by omega), up_ne2 (by omega), up_ne1 (by omega)] at h2
  exact h2
theorem gr_ylp {S : Nat → Nat → List Int32} {γ : Nat} (hγ : γ < 2) : ∀ n ρ, GR ρ → GR (ylp S γ n ρ) := by
  intro n
  induction n with
  | zero => intro ρ h; exact h
  | succ n ih =>
    intro ρ h
    unfold ylp
    split
    · rename_i h1
      split
      · exact h
      · exact ih _ (h.yard hγ ((ahead_pos h).mp h1) _).1
    · exact h
theorem gr_turn {S : Nat → Nat → List Int32} {ρ : IV} {γ : Nat} (hγ : γ < 2) (h : GR ρ) : GR (turnS S ρ γ) := by
  unfold turnS turn3
  have h1 : GR (turn1 S ρ γ) := gr_ylp hγ 24 _ (h.upd (by omega) (by omega) (by omega) (by omega))
  have h2 : GR (turn2 (turn1 S ρ γ) γ) := by
    unfold turn2
    split
    · exact h1.upd (by omega) (by omega) (by omega) (by omega)
    · exact h1
  exact (h2.upd (by omega) (by omega) (by omega) (by omega)).upd (by omega) (by omega) (by omega) (by omega)
theorem gr_half {S : Nat → Nat → List Int32} {ρ : IV} {γ : Nat} {idl : Int32} (hγ : γ < 2) (h : GR ρ) : GR (half1 S ρ γ idl) := by
  unfold half1
  split
  · exact gr_turn hγ h
  · exact h
theorem gr_day {ρ : IV} (h : GR ρ) : GR (dayS ρ) := by
  obtain ⟨a1, a2, a3, a4, ⟨d, d1, d2⟩, a6, a7⟩ := h
  have e := uv_upd (ρ := ρ) (i := 4) (k := 4) (x := if ρ 4 4 < 999 then ρ 4 4 + 1 else ρ 4 4) (by omega)
  unfold dayS
  refine ⟨by rw [up_ne1 (by decide), e.1]; exact a1, by rw [up_ne1 (by decide), e.2]; exact a2, by rw [e.1, e.2]; exact a3, fun γ hγ => ?_, ?_, fun y hy => by rw [up_ne1 (by decide)]; exact a6 y hy, ?_⟩
  · rw [up_ne1 (by omega), up_ne1 (by omega)]; exact a4 γ hγ
  · rw [up_same, d2, show (999 : Int32) = nI 999 by decide]
    by_cases z : d < 999
    · exact ⟨d + 1, by omega, by rw [if_pos (nI_lt z (by decide))]; exact nI_1 d⟩
    · exact ⟨d, d1, by rw [if_neg (fun q => z ((nI_ltI (by omega) (by decide)).mp q))]⟩
  · rw [up_ne2 (by decide)]; exact a7
theorem gr_pass {S : Nat → Nat → List Int32} {ρ : IV} {idl : Int32} (h : GR ρ) : GR (passS S ρ idl) := gr_day (gr_half (by decide) (gr_half (by decide) h))
theorem gr_run {S : Nat → Nat → List Int32} {idl idle : Int32} : ∀ n k ρ, GR ρ → GR (runS S idl idle n k ρ).2 ∧ k ≤ (runS S idl idle n k ρ).1 ∧ (runS S idl idle n k ρ).1 ≤ k + n := by
  intro n
  induction n with
  | zero => intro k ρ h; exact ⟨h, Nat.le_refl _, Nat.le_refl _⟩
  | succ n ih =>
    intro k ρ h
    unfold runS
    split
    · have := ih (k + 1) _ (gr_pass (S := S) (idl := if nI k < idle then idl else -1) h)
      exact ⟨this.1, by omega, by omega⟩
    · exact ⟨h, Nat.le_refl _, by omega⟩
