/-! THE SPEC OF TEXTS: tokens -/
def isBl (x : Int32) : Bool := decide (x = 32 ∨ x = 10)
def isDg (x : Int32) : Bool := decide (48 ≤ x ∧ x ≤ 57)
def isLe (x : Int32) : Bool := decide (97 ≤ x ∧ x ≤ 122)
/-- from p on, over r bytes, as long as they are of that sort -/
def scn (P : Int32 → Bool) (b : Nat → Int32) : Nat → Nat → Nat
  | 0, p => p
  | r + 1, p => if P (b p) then scn P b r (p + 1) else p
def scanTo (P : Int32 → Bool) (b : Nat → Int32) (n p : Nat) : Nat := scn P b (n - p) p
theorem scn_le {P : Int32 → Bool} {b : Nat → Int32} : ∀ (r p : Nat), p ≤ scn P b r p ∧ scn P b r p ≤ p + r := by
  intro r
  induction r with
  | zero => intro p; exact ⟨Nat.le_refl _, Nat.le_refl _⟩
  | succ r ih =>
    intro p
    unfold scn
    split
    · have := ih (p + 1); omega
    · omega
theorem scanTo_le {P : Int32 → Bool} {b : Nat → Int32} {n p : Nat} (h : p ≤ n) : p ≤ scanTo P b n p ∧ scanTo P b n p ≤ n := by
  have := scn_le (P := P) (b := b) (n - p) p
  unfold scanTo
  omega
theorem scanTo_stop {P : Int32 → Bool} {b : Nat → Int32} {n p : Nat} (h : ¬ (p < n ∧ P (b p) = true)) : scanTo P b n p = p := by
  unfold scanTo
  rcases Nat.lt_or_ge p n with q | q
  · rw [show n - p = (n - p - 1) + 1 by omega, scn, if_neg (fun z => h ⟨q, z⟩)]
  · rw [show n - p = 0 by omega, scn]
theorem scanTo_go {P : Int32 → Bool} {b : Nat → Int32} {n p : Nat} (h : p < n) (h2 : P (b p) = true) : scanTo P b n p = scanTo P b n (p + 1) := by
  unfold scanTo
  rw [show n - p = (n - (p + 1)) + 1 by omega, scn, if_pos h2]
theorem scn_congr {P : Int32 → Bool} {b b' : Nat → Int32} : ∀ (r p : Nat), (∀ j, p ≤ j → j < p + r → b j = b' j) → scn P b r p = scn P b' r p := by
  intro r
  induction r with
  | zero => intro p _; rfl
  | succ r ih =>
    intro p h
    unfold scn
    rw [h p (Nat.le_refl _) (by omega), ih (p + 1) (fun j h1 h2 => h j (by omega) (by omega))]
theorem scanTo_congr {P : Int32 → Bool} {b b' : Nat → Int32} {n p : Nat} (h : ∀ j, j < n → b j = b' j) : scanTo P b n p = scanTo P b' n p := by
  unfold scanTo
  rcases Nat.lt_or_ge p n with q | q
  · exact scn_congr _ _ (fun j _ h2 => h j (by omega))
  · rw [show n - p = 0 by omega]; rfl
theorem scanTo_all {P : Int32 → Bool} {b : Nat → Int32} {n : Nat} : ∀ (k p : Nat), n - p = k → ∀ j, p ≤ j → j < scanTo P b n p → P (b j) = true := by
  intro k
  induction k with
  | zero => intro p hk j h1 h2; rw [scanTo_stop (by omega)] at h2; omega
  | succ k ih =>
    intro p hk j h1 h2
    by_cases hp : P (b p) = true
    · rcases Nat.eq_or_lt_of_le h1 with e | e
      · subst e; exact hp
      · rw [scanTo_go (by omega) hp] at h2
        exact ih (p + 1) (by omega) j (by omega) h2
    · rw [scanTo_stop (fun z => hp z.2)] at h2; omega
theorem scanTo_end {P : Int32 → Bool} {b : Nat → Int32} {n : Nat} : ∀ (k p : Nat), n - p = k → scanTo P b n p < n → P (b (scanTo P b n p)) = false := by
  intro k
  induction k with
  | zero => intro p hk h; rw [scanTo_stop (by omega)] at h; omega
  | succ k ih =>
    intro p hk h
    by_cases hp : P (b p) = true
    · rw [scanTo_go (by omega) hp] at h ⊢
      exact ih (p + 1) (by omega) h
    · rw [scanTo_stop (fun z => hp z.2)]
      simpa using hp
/-- the value of c digits from p on -/
def numv (b : Nat → Int32) : Nat → Nat → Int32 → Int32
  | 0, _, a => a
  | c + 1, p, a => numv b c (p + 1) (a * 10 + b p - 48)
theorem numv_congr {b b' : Nat → Int32} : ∀ (c p : Nat) (a : Int32), (∀ j, p ≤ j → j < p + c → b j = b' j) → numv b c p a = numv b' c p a := by
  intro c
  induction c with
  | zero => intro p a _; rfl
  | succ c ih =>
    intro p a h
    unfold numv
    rw [h p (Nat.le_refl _) (by omega), ih (p + 1) _ (fun j h1 h2 => h j (by omega) (by omega))]
def wd (b : Nat → Int32) (p q : Nat) : List Int32 := (List.range (q - p)).map (fun j => b (p + j))
/-- ground men yard ahead day known, rate need worth, or and not -/
def wds : List (List Int32) := [[103, 114, 111, 117, 110, 100], [109, 101, 110], [121, 97, 114, 100], [97, 104, 101, 97, 100], [100, 97, 121], [107, 110, 111, 119, 110], [114, 97, 116, 101], [110, 101, 101, 100], [119, 111, 114, 116, 104], [111, 114], [97, 110, 100], [110, 111, 116]]
def wcode (w : List Int32) : Nat :=
  if w = [103, 114, 111, 117, 110, 100] then 0 else if w = [109, 101, 110] then 1 else if w = [121, 97, 114, 100] then 2 else if w = [97, 104, 101, 97, 100] then 3 else if w = [100, 97, 121] then 4 else if w = [107, 110, 111, 119, 110] then 5
  else if w = [114, 97, 116, 101] then 6 else if w = [110, 101, 101, 100] then 7 else if w = [119, 111, 114, 116, 104] then 8 else if w = [111, 114] then 9 else if w = [97, 110, 100] then 10 else if w = [110, 111, 116] then 11 else 14
def sgn (x : Int32) : Nat := if x = 40 then 15 else if x = 41 then 16 else if x = 59 then 17 else if x = 43 then 18 else if x = 45 then 19 else if x = 42 then 20 else if x = 60 then 21 else if x = 61 then 22 else 14
/-- code, place, value, the place behind -/
abbrev Tk : Type := Nat × Nat × Int32 × Nat
def lexS (b : Nat → Int32) (n p : Nat) : Tk :=
  if n ≤ scanTo isBl b n p then (13, scanTo isBl b n p, 0, scanTo isBl b n p)
  else if isDg (b (scanTo isBl b n p)) then (if scanTo isDg b n (scanTo isBl b n p) - scanTo isBl b n p ≤ 4 then 12 else 14, scanTo isBl b n p, numv b (scanTo isDg b n (scanTo isBl b n p) - scanTo isBl b n p) (scanTo isBl b n p) 0, scanTo isDg b n (scanTo isBl b n p))
  else if isLe (b (scanTo isBl b n p)) then (wcode (wd b (scanTo isBl b n p) (scanTo isLe b n (scanTo isBl b n p))), scanTo isBl b n p, 0, scanTo isLe b n (scanTo isBl b n p))
  else (sgn (b (scanTo isBl b n p)), scanTo isBl b n p, 0, scanTo isBl b n p + 1)
/-- what holds of every token -/
def TkOK (n : Nat) (t : Tk) : Prop := t.2.1 ≤ n ∧ t.2.2.2 ≤ n ∧ t.2.1 ≤ t.2.2.2 ∧ (t.1 ≠ 13 → t.2.1 < t.2.2.2) ∧ (t.1 = 13 → t.2.1 = n ∧ t.2.2.2 = n)
theorem ite_P {α : Type} {P : α → Prop} {c : Prop} [Decidable c] {a b : α} (ha : P a) (hb : P b) : P (if c then a else b) := by
  split <;> assumption
theorem wcode_or (w : List Int32) : wcode w ≤ 11 ∨ wcode w = 14 := by
  exact (ite_P (P := fun z => z ≤ 11 ∨ z = 14) (by decide) (ite_P (P := fun z => z ≤ 11 ∨ z = 14) (by decide) (ite_P (P := fun z => z ≤ 11 ∨ z = 14) (by decide) (ite_P (P := fun z => z ≤ 11 ∨ z = 14) (by decide) (ite_P (P := fun z => z ≤ 11 ∨ z = 14) (by decide) (ite_P (P := fun z => z ≤ 11 ∨ z = 14) (by decide) (ite_P (P := fun z => z ≤ 11 ∨ z = 14) (by decide) (ite_P (P := fun z => z ≤ 11 ∨ z = 14) (by decide) (ite_P (P := fun z => z ≤ 11 ∨ z = 14) (by decide) (ite_P (P := fun z => z ≤ 11 ∨ z = 14) (by decide) (ite_P (P := fun z => z ≤ 11 ∨ z = 14) (by decide) (ite_P (P := fun z => z ≤ 11 ∨ z = 14) (by decide) (Or.inr rfl)))))))))))))
theorem wcode_ne (w : List Int32) : wcode w ≠ 13 ∧ wcode w ≠ 12 ∧ wcode w ≤ 14 := by
  have := wcode_or w
  omega
theorem sgn_ne (x : Int32) : 14 ≤ sgn x := by
  unfold sgn
  repeat' split
  all_goals decide
theorem lexS_ok {b : Nat → Int32} {n p : Nat} (h : p ≤ n) : TkOK n (lexS b n p) ∧ p ≤ (lexS b n p).2.1 := by
  have h1 := scanTo_le (P := isBl) (b := b) h
  unfold lexS
  split
  · refine ⟨⟨by simp; omega, by simp; omega, by simp, fun z => absurd rfl z, fun _ => ⟨by simp; omega, by simp; omega⟩⟩, h1.1⟩
  rename_i h2
  split
  · rename_i h3
    have h4 := scanTo_le (P := isDg) (b := b) (n := n) (p := scanTo isBl b n p + 1) (by omega)
    rw [← scanTo_go (by omega) h3] at h4
    refine ⟨⟨h1.2, h4.2, by simp; omega, fun _ => by simp; omega, fun z => ?_⟩, h1.1⟩
    simp only at z
    split at z <;> cases z
  split
  · rename_i h3
    have h4 := scanTo_le (P := isLe) (b := b) (n := n) (p := scanTo isBl b n p + 1) (by omega)
    rw [← scanTo_go (by omega) h3] at h4
    refine ⟨⟨h1.2, h4.2, by simp; omega, fun _ => by simp; omega, fun z => absurd z (wcode_ne _).1⟩, h1.1⟩
  · refine ⟨⟨h1.2, by simp; omega, by simp, fun _ => by simp, fun z => ?_⟩, h1.1⟩
    have := sgn_ne (b (scanTo isBl b n p))
    simp only at z
    omega
theorem wd_congr {b b' : Nat → Int32} {p q : Nat} (h : ∀ j, j < q → b j = b' j) : wd b p q = wd b' p q := by
  unfold wd
  apply List.map_congr_left
  intro j hj
  have := List.mem_range.mp hj
  exact h _ (by omega)
theorem lexS_congr {b b' : Nat → Int32} {n p : Nat} (h : ∀ j, j < n → b j = b' j) (hp : p ≤ n) : lexS b n p = lexS b' n p := by
  have h1 := scanTo_le (P := isBl) (b := b) hp
  unfold lexS
  rw [← scanTo_congr (P := isBl) (b := b) (b' := b') h]
  split
  · rfl
  rename_i h2
  have e : b (scanTo isBl b n p) = b' (scanTo isBl b n p) := h _ (by omega)
  rw [← scanTo_congr (P := isDg) (b := b) (b' := b') h, ← scanTo_congr (P := isLe) (b := b) (b' := b') h, ← e]
  have h3 := scanTo_le (P := isDg) (b := b) (n := n) (p := scanTo isBl b n p) h1.2
  have h4 := scanTo_le (P := isLe) (b := b) (n := n) (p := scanTo isBl b n p) h1.2
  rw [numv_congr (b := b) (b' := b') _ _ _ (fun j _ hj => h j (by omega)), wd_congr (b := b) (b' := b') (fun j hj => h j (by omega))]
