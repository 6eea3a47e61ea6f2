/-! THE SPEC OF TEXTS: steps, and how they are read -/
/-- the step by which a token joins two of a level; 0: it does not -/
def opAt (lev code : Nat) : Int32 :=
  if lev = 0 ∧ code = 9 then -7 else if lev = 1 ∧ code = 10 then -8 else if lev = 2 ∧ code = 21 then -10 else if lev = 2 ∧ code = 22 then -11
  else if lev = 3 ∧ code = 18 then -12 else if lev = 3 ∧ code = 19 then -13 else if lev = 4 ∧ code = 20 then -14 else 0
/-- none: the fuel is out; inl: the place of the fault; inr: steps, and the token behind -/
abbrev PRes : Type := Option (Nat ⊕ (List Int32 × Tk))
def pb (r : PRes) (k : List Int32 → Tk → PRes) : PRes := match r with
  | some (.inr q) => k q.1 q.2
  | r => r
def pz (b : Nat → Int32) (n : Nat) : Nat → Nat → Nat → Nat → Nat → List Int32 → Tk → PRes
  | 0, _, _, _, _, _, _ => none
  | f + 1, 0, lev, op, _, _, t =>
    if 4 < lev then
      if t.1 = 12 then some (.inr ([t.2.2.1], lexS b n t.2.2.2))
      else if t.1 ≤ 5 then some (.inr ([-1 - nI t.1], lexS b n t.2.2.2))
      else if t.1 = 19 then (if 5 ≤ op then some (.inl t.2.1) else pb (pz b n f 0 5 (op + 1) 0 [] (lexS b n t.2.2.2)) (fun s t' => some (.inr (s ++ [-15], t'))))
      else if t.1 = 15 then (if 5 ≤ op then some (.inl t.2.1) else pb (pz b n f 0 0 (op + 1) 0 [] (lexS b n t.2.2.2)) (fun s t' => if t'.1 = 16 then some (.inr (s, lexS b n t'.2.2.2)) else some (.inl t'.2.1)))
      else some (.inl t.2.1)
    else if lev = 2 ∧ t.1 = 11 then (if 5 ≤ op then some (.inl t.2.1) else pb (pz b n f 0 2 (op + 1) 0 [] (lexS b n t.2.2.2)) (fun s t' => some (.inr (s ++ [-9], t'))))
    else pb (pz b n f 0 (lev + 1) op 0 [] t) (fun s t' => pz b n f 1 lev op (if lev = 2 then 1 else 160) s t')
  | f + 1, _ + 1, lev, op, cnt, s, t =>
    if 0 < cnt ∧ opAt lev t.1 ≠ 0 then pb (pz b n f 0 (lev + 1) op 0 [] (lexS b n t.2.2.2)) (fun s' t' => pz b n f 1 lev op (cnt - 1) (s ++ s' ++ [opAt lev t.1]) t')
    else some (.inr (s, t))
/-! what steps answer: a pile of 40 at most -/
def unS (x a : Int32) : Int32 := if x = -9 then (if a = 0 then 1 else 0) else -a
def binS (x a b : Int32) : Int32 :=
  if x = -7 then (if a ≠ 0 ∨ b ≠ 0 then 1 else 0) else if x = -8 then (if a ≠ 0 ∧ b ≠ 0 then 1 else 0) else if x = -10 then (if a < b then 1 else 0) else if x = -11 then (if a = b then 1 else 0)
  else if x = -12 then a + b else if x = -13 then a - b else if x = -14 then a * b else -a
def st1 (e : Nat → Int32) (x : Int32) (stk : List Int32) : Option (List Int32) :=
  if -6 ≤ x then (if 40 ≤ stk.length then none else some ((if 0 ≤ x then x else e (-1 - x).toNatClampNeg) :: stk))
  else if x = -9 ∨ x = -15 then (match stk with
    | a :: r => some (unS x a :: r)
    | [] => none)
  else (match stk with
    | b :: a :: r => some (binS x a b :: r)
    | _ => none)
def evC (e : Nat → Int32) : List Int32 → List Int32 → Option (List Int32)
  | [], stk => some stk
  | x :: xs, stk => (st1 e x stk).bind (evC e xs)
def vl (e : Nat → Int32) (s : List Int32) : Int32 := match evC e s [] with
  | some (v :: _) => v
  | _ => 0
def OneC (e : Nat → Int32) (K : Nat) (s : List Int32) (v : Int32) : Prop := ∀ stk, stk.length + K ≤ 40 → evC e s stk = some (v :: stk)
theorem evC_app {e : Nat → Int32} : ∀ (s s' stk : List Int32), evC e (s ++ s') stk = (evC e s stk).bind (evC e s') := by
  intro s
  induction s with
  | nil => intro s' stk; rfl
  | cons x xs ih =>
    intro s' stk
    rw [List.cons_append, evC, evC]
    cases st1 e x stk with
    | none => rfl
    | some q => exact ih s' q
theorem one_vl {e : Nat → Int32} {K : Nat} {s : List Int32} {v : Int32} (h : OneC e K s v) (hK : K ≤ 40) : vl e s = v := by
  unfold vl; rw [h [] (by simpa using hK)]
theorem OneC.mono {e : Nat → Int32} {K K' : Nat} {s : List Int32} {v : Int32} (h : OneC e K s v) (hK : K ≤ K') : OneC e K' s v := fun stk hs => h stk (by omega)
def isBin (x : Int32) : Prop := x = -7 ∨ x = -8 ∨ x = -10 ∨ x = -11 ∨ x = -12 ∨ x = -13 ∨ x = -14
theorem st1_bin {e : Nat → Int32} {x a b : Int32} {r : List Int32} (h : isBin x) : st1 e x (b :: a :: r) = some (binS x a b :: r) := by
  rcases h with rfl | rfl | rfl | rfl | rfl | rfl | rfl <;> rfl
theorem OneC.bin {e : Nat → Int32} {K K' L : Nat} {s s' : List Int32} {v v' x : Int32} (h : OneC e K s v) (h' : OneC e K' s' v') (hx : isBin x) (h1 : K ≤ L) (h2 : K' + 1 ≤ L) : OneC e L (s ++ s' ++ [x]) (binS x v v') := by
  intro stk hs
  rw [evC_app, evC_app, h stk (by omega)]
  show ((evC e s' (v :: stk)).bind (evC e [x])) = _
  rw [h' (v :: stk) (by simp; omega)]
  show (st1 e x (v' :: v :: stk)).bind (evC e []) = _
  rw [st1_bin hx]
  rfl
theorem OneC.un {e : Nat → Int32} {K : Nat} {s : List Int32} {v x : Int32} (h : OneC e K s v) (hx : x = -9 ∨ x = -15) : OneC e K (s ++ [x]) (unS x v) := by
  intro stk hs
  rw [evC_app, h stk hs]
  show (st1 e x (v :: stk)).bind (evC e []) = _
  rcases hx with rfl | rfl <;> rfl
theorem one_num {e : Nat → Int32} {v : Int32} (h : 0 ≤ v) : OneC e 1 [v] v := by
  intro stk hs
  show (st1 e v stk).bind (evC e []) = _
  unfold st1
  rw [if_pos (by simp only [Int32.le_iff_toInt_le, Int32.reduceToInt] at *; omega), if_neg (by omega), if_pos h]
  rfl
theorem one_name {e : Nat → Int32} {c : Nat} (h : c ≤ 5) : OneC e 1 [-1 - nI c] (e c) := by
  intro stk hs
  show (st1 e _ stk).bind (evC e []) = _
  have h3 : ∀ c, c ≤ 5 → (-6 : Int32) ≤ -1 - nI c ∧ ¬ (0 : Int32) ≤ -1 - nI c ∧ (-1 - (-1 - nI c)).toNatClampNeg = c := by decide +kernel
  obtain ⟨a1, a2, a3⟩ := h3 c h
  unfold st1
  rw [if_pos a1, if_neg (by omega), if_neg a2, a3]
  rfl
theorem opAt_bin {lev code : Nat} (h : opAt lev code ≠ 0) : isBin (opAt lev code) := by
  unfold isBin
  unfold opAt at h ⊢
  repeat' split at h
  all_goals simp_all
/-- numbers are no less than 0 -/
def TkV (t : Tk) : Prop := t.1 = 12 → 0 ≤ t.2.2.1
theorem lexS_v {b : Nat → Int32} {n p : Nat} (hp : p ≤ n) : TkV (lexS b n p) := by
  have h1 := scanTo_le (P := isBl) (b := b) hp
  intro h
  unfold lexS at h ⊢
  split at h
  · cases h
  rename_i h2
  rw [if_neg h2]
  split at h
  · rename_i h3
    rw [if_pos h3]
    simp only at h ⊢
    split at h
    · rename_i h4
      have h5 := scanTo_le (P := isDg) (b := b) (n := n) (p := scanTo isBl b n p) h1.2
      obtain ⟨v, hv, e⟩ := numv_val (b := b) (p := scanTo isBl b n p) (scanTo isDg b n (scanTo isBl b n p) - scanTo isBl b n p) (fun j a c => scanTo_all (n := n) _ _ rfl j a (by omega)) h4
      rw [e]
      exact nI_pos' (Nat.lt_of_lt_of_le hv (Nat.le_trans (Nat.pow_le_pow_right (by decide) h4) (by decide)))
    · cases h
  split at h
  · exact absurd h (wcode_ne _).2.1
  · have := sgn_ne (b (scanTo isBl b n p))
    simp only at h
    omega
def Kf (lev op : Nat) : Nat := 5 * (5 - op) + 1 + (5 - lev)
/-- what a good reading brings -/
def PGood (n : Nat) (e : Nat → Int32) (K : Nat) (t : Tk) (k0 : Nat) (q : List Int32 × Tk) : Prop := TkOK n q.2 ∧ TkV q.2 ∧ q.1.length + t.2.1 ≤ q.2.2.1 + k0 ∧ OneC e K q.1 (vl e q.1)
theorem tk_step {b : Nat → Int32} {n : Nat} {t : Tk} (h : TkOK n t) (h13 : t.1 ≠ 13) : TkOK n (lexS b n t.2.2.2) ∧ TkV (lexS b n t.2.2.2) ∧ t.2.1 + 1 ≤ (lexS b n t.2.2.2).2.1 := by
  have h1 := lexS_ok (b := b) h.2.1
  have h2 := h.2.2.2.1 h13
  exact ⟨h1.1, lexS_v h.2.1, by omega⟩
theorem opAt_13 {lev : Nat} {t : Tk} (h : opAt lev t.1 ≠ 0) : t.1 ≠ 13 := by
  intro z
  rw [z] at h
  apply h
  unfold opAt
  simp
theorem pb_inr {r : PRes} {k : List Int32 → Tk → PRes} {q : List Int32 × Tk} (h : pb r k = some (.inr q)) : ∃ s t, r = some (.inr (s, t)) ∧ k s t = some (.inr q) := by
  unfold pb at h
  split at h
  · exact ⟨_, _, rfl, h⟩
  · rename_i hn
    exact absurd h (hn _)
theorem pz_good {b : Nat → Int32} {n : Nat} (e : Nat → Int32) : ∀ f,
    (∀ lev op c s0 t q, lev ≤ 5 → op ≤ 5 → TkOK n t → TkV t → pz b n f 0 lev op c s0 t = some (.inr q) → PGood n e (Kf lev op) t 0 q)
    ∧ (∀ m lev op cnt s t q, lev ≤ 4 → op ≤ 5 → TkOK n t → TkV t → OneC e (Kf lev op) s (vl e s) → pz b n f (m + 1) lev op cnt s t = some (.inr q) → PGood n e (Kf lev op) t s.length q) := by
  intro f
  induction f with
  | zero => exact ⟨fun _ _ _ _ _ _ _ _ _ _ h => (by cases h), fun _ _ _ _ _ _ _ _ _ _ _ _ h => (by cases h)⟩
  | succ f ih =>
    obtain ⟨ih0, ih1⟩ := ih
    refine ⟨?_, ?_⟩
    · intro lev op c s0 t q hl ho ht hv h
      unfold pz at h
      split at h
      · rename_i h5
        have h5 : lev = 5 := by omega
        subst h5
        split at h
        · rename_i h12
          have hs := tk_step (b := b) ht (by omega)
          cases h
          have hn := one_num (e := e) (hv h12)
          have hn2 := hn.mono (K' := Kf 5 op) (by unfold Kf; omega)
          refine ⟨hs.1, hs.2.1, by simp; omega, ?_⟩
          rw [one_vl hn (by omega)]; exact hn2
        split at h
        · rename_i h6
          have hs := tk_step (b := b) ht (by omega)
          cases h
          have hn := one_name (e := e) h6
          have hn2 := hn.mono (K' := Kf 5 op) (by unfold Kf; omega)
          refine ⟨hs.1, hs.2.1, by simp; omega, ?_⟩
          rw [one_vl hn (by omega)]; exact hn2
        split at h
        · rename_i h19
          have hs := tk_step (b := b) ht (by omega)
          split at h
          · cases h
          rename_i h5
          obtain ⟨s, t1, e1, e2⟩ := pb_inr h
          cases e2
          have hg := ih0 5 (op + 1) 0 [] _ _ (by omega) (by omega) hs.1 hs.2.1 e1
          have h9 := hg.2.2.2.un (x := -15) (Or.inr rfl)
          refine ⟨hg.1, hg.2.1, by have := hg.2.2.1; simp at this ⊢; omega, ?_⟩
          rw [one_vl h9 (by unfold Kf; omega)]
          exact h9.mono (by unfold Kf; omega)
        split at h
        · rename_i h15
          have hs := tk_step (b := b) ht (by omega)
          split at h
          · cases h
          rename_i h5
          obtain ⟨s, t1, e1, e2⟩ := pb_inr h
          have hg := ih0 0 (op + 1) 0 [] _ _ (by omega) (by omega) hs.1 hs.2.1 e1
          split at e2
          · rename_i h16
            cases e2
            have hs2 := tk_step (b := b) hg.1 (by simp; omega)
            refine ⟨hs2.1, hs2.2.1, by have := hg.2.2.1; have := hs2.2.2; simp at *; omega, hg.2.2.2.mono (by unfold Kf; omega)⟩
          · cases e2
        · cases h
      rename_i h5
      split at h
      · rename_i h11
        obtain ⟨h2, h11⟩ := h11
        subst h2
        have hs := tk_step (b := b) ht (by omega)
        split at h
        · cases h
        obtain ⟨s, t1, e1, e2⟩ := pb_inr h
        cases e2
        have hg := ih0 2 (op + 1) 0 [] _ _ (by omega) (by omega) hs.1 hs.2.1 e1
        have h9 := hg.2.2.2.un (x := -9) (Or.inl rfl)
        refine ⟨hg.1, hg.2.1, by have := hg.2.2.1; simp at this ⊢; omega, ?_⟩
        rw [one_vl h9 (by unfold Kf; omega)]
        exact h9.mono (by unfold Kf; omega)
      · obtain ⟨s, t1, e1, e2⟩ := pb_inr h
        have hg := ih0 (lev + 1) op 0 [] _ _ (by omega) ho ht hv e1
        have hg2 := ih1 0 lev op _ s t1 q (by omega) ho hg.1 hg.2.1 (hg.2.2.2.mono (by unfold Kf; omega)) e2
        refine ⟨hg2.1, hg2.2.1, by have := hg.2.2.1; have := hg2.2.2.1; simp at *; omega, hg2.2.2.2⟩
    · intro m lev op cnt s t q hl ho ht hv hone h
      unfold pz at h
      split at h
      · rename_i hc
        have hs := tk_step (b := b) ht (opAt_13 hc.2)
        obtain ⟨s1, t1, e1, e2⟩ := pb_inr h
        have hg := ih0 (lev + 1) op 0 [] _ _ (by omega) ho hs.1 hs.2.1 e1
        have hb := hone.bin hg.2.2.2 (opAt_bin hc.2) (Nat.le_refl _) (by unfold Kf; omega)
        have hb2 := hb
        rw [← one_vl hb (by unfold Kf; omega)] at hb2
        have hg2 := ih1 0 lev op _ _ t1 q hl ho hg.1 hg.2.1 hb2 e2
        refine ⟨hg2.1, hg2.2.1, by have := hg.2.2.1; have := hg2.2.2.1; simp at *; omega, hg2.2.2.2⟩
      · cases h
        exact ⟨ht, hv, by simp; omega, hone⟩
