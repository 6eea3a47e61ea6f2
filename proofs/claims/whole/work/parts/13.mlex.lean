/-! THE REFERENCE: tokens -/
/-- what is written lies within S -/
def Off (S : Nat → Nat → Prop) (iv iv' : IV) : Prop := ∀ a b, ¬ S a b → iv' a b = iv a b
theorem Off.refl {S : Nat → Nat → Prop} {iv : IV} : Off S iv iv := fun _ _ _ => rfl
theorem Off.trans {S : Nat → Nat → Prop} {iv iv1 iv2 : IV} (h1 : Off S iv iv1) (h2 : Off S iv1 iv2) : Off S iv iv2 := fun a b h => (h2 a b h).trans (h1 a b h)
theorem Off.mono {S T : Nat → Nat → Prop} {iv iv' : IV} (h : Off S iv iv') (hs : ∀ a b, S a b → T a b) : Off T iv iv' := fun a b z => h a b (fun y => z (hs a b y))
theorem off_up {S : Nat → Nat → Prop} {iv : IV} {i k : Nat} {x : Int32} (h : S i k) : Off S iv (up iv i k x) := fun a b z => up_ne (fun y => z (by rw [y.1, y.2]; exact h))
abbrev Lx (a b : Nat) : Prop := a = 75 ∧ 28 ≤ b ∧ b ≤ 30
abbrev Ps (a b : Nat) : Prop := a = 75 ∧ 28 ≤ b ∧ b ≤ 34
/-- the text that is read: its bytes b, n of them, from f on -/
def TxM (iv : IV) (b : Nat → Int32) (n f : Nat) : Prop := iv 75 27 = nI n ∧ iv 75 26 = nI f ∧ (∀ j, j < n → iv 76 (f + j) = b j) ∧ f + n ≤ 960 ∧ n ≤ 160 ∧ ∀ j, j < n → 0 ≤ b j ∧ b j ≤ 255
theorem TxM.off {S : Nat → Nat → Prop} {iv iv' : IV} {b : Nat → Int32} {n f : Nat} (h : TxM iv b n f) (ho : Off S iv iv') (h1 : ¬ S 75 26) (h2 : ¬ S 75 27) (h3 : ∀ j, ¬ S 76 j) : TxM iv' b n f := by
  obtain ⟨a, b, c, d⟩ := h
  exact ⟨(ho _ _ h2).trans a, (ho _ _ h1).trans b, fun j hj => (ho _ _ (h3 _)).trans (c j hj), d⟩
theorem TxM.ps {iv iv' : IV} {b : Nat → Int32} {n f : Nat} (h : TxM iv b n f) (ho : Off Ps iv iv') : TxM iv' b n f := h.off ho (by decide) (by decide) (fun j h => by cases h.1)
theorem lx_ps {iv iv' : IV} (h : Off Lx iv iv') : Off Ps iv iv' := h.mono (fun a b z => ⟨z.1, z.2.1, by omega⟩)
/-- the token on which it stands -/
def TokM (iv : IV) (lv : LV) (b : Nat → Int32) (n : Nat) (t : Tk) : Prop := TkOK n t ∧ iv 75 30 = nI t.2.1 ∧
  ((t.1 = 13 ∧ iv 75 29 = 0 ∧ iv 75 28 = nI t.2.2.2)
  ∨ (t.1 = 12 ∧ iv 75 29 = 2 ∧ lv 75 31 = t.2.2.1.toInt64 ∧ iv 75 28 = nI t.2.2.2)
  ∨ (t.1 = wcode (wd b t.2.1 t.2.2.2) ∧ iv 75 29 = 1 ∧ iv 75 28 = nI t.2.2.2 ∧ ∀ j, t.2.1 ≤ j → j < t.2.2.2 → isLe (b j) = true)
  ∨ (t.1 = sgn (b t.2.1) ∧ 15 ≤ t.1 ∧ iv 75 29 = 3 ∧ lv 75 31 = (b t.2.1).toInt64 ∧ iv 75 28 = nI t.2.2.2)
  ∨ (t.1 = 14 ∧ iv 75 29 = 4))
theorem numv_snoc {b : Nat → Int32} : ∀ (c p : Nat) (a : Int32), numv b (c + 1) p a = numv b c p a * 10 + b (p + c) - 48 := by
  intro c
  induction c with
  | zero => intro p a; rfl
  | succ c ih =>
    intro p a
    rw [numv, ih (p + 1), show p + 1 + c = p + (c + 1) by omega]
    rfl
/-- a digit as a number -/
theorem dig_of {x : Int32} (h : isDg x = true) : ∃ z : Nat, 48 ≤ z ∧ z ≤ 57 ∧ x = nI z := by
  have h := of_decide_eq_true h
  obtain ⟨j, h1, h2⟩ := nI_of2 (x := x) (M := 57) (n := 57) (by decide) (by have := h.1; simp only [Int32.lt_iff_toInt_lt, Int32.le_iff_toInt_le, Int32.reduceToInt] at *; omega) h.2
  refine ⟨j, ?_, h1, h2⟩
  have h3 := h.1
  rw [h2, show (48 : Int32) = nI 48 by decide, nI_leI (by decide) (by omega)] at h3
  exact h3
theorem numv_val {b : Nat → Int32} {p : Nat} : ∀ c, (∀ j, p ≤ j → j < p + c → isDg (b j) = true) → c ≤ 4 → ∃ v : Nat, v < 10 ^ c ∧ numv b c p 0 = nI v := by
  intro c
  induction c with
  | zero => intro _ _; exact ⟨0, by decide, rfl⟩
  | succ c ih =>
    intro h hc
    obtain ⟨v, h1, h2⟩ := ih (fun j a b => h j a (by omega)) (by omega)
    obtain ⟨z, h3, h4, h5⟩ := dig_of (h (p + c) (by omega) (by omega))
    refine ⟨v * 10 + z - 48, ?_, ?_⟩
    · rw [Nat.pow_succ]; omega
    · rw [numv_snoc, h2, h5, show (10 : Int32) = nI 10 by decide, show (48 : Int32) = nI 48 by decide, pk_mul, nI_add, pk_sub (by omega)]
theorem ten_step {v z : Nat} (h : 48 ≤ z) (h2 : z < 2 ^ 31) : (10 : Int64) * lN v + (nI z).toInt64 - 48 = lN (v * 10 + z - 48) := by
  rw [nI_l h2, show (10 : Int64) = lN 10 by decide, show (48 : Int64) = lN 48 by decide, lN_mul, lN_add, lN_sub (by omega), Nat.mul_comm]
section MLEX
variable {g : GS} {l : Launch} {Γ : Sh} {iv : IV} {rv : RV} {lv : LV}
set_option maxRecDepth 4000 in
theorem ct_byteAt (d : Nat) (hM : ShM Γ rv) {b : Nat → Int32} {n f : Nat} (hT : TxM iv b n f) {x : Int32} (j : Nat) (hx : x = nI j) (hj : j ≤ 2000) : Ct g l mX7_byteAt (d) 0 0 [.ref 75, .int x] Γ iv rv lv (qPI (if j < n then b j else -1) Γ iv rv lv) := by
  refine Ct.of (by decide +kernel) (Nat.le_of_ble_eq_true rfl) (Nat.le_of_ble_eq_true rfl) ?_
  obtain ⟨h27, h26, hb, hfn, hn, hbb⟩ := hT
  subst hx
  refine r_iload1 dX7_byteAt_0 ?_
  refine r_aload0 dX7_byteAt_1 ?_
  refine gf_X7_149 dX7_byteAt_2 rfl hM.1 ?_
  refine rn_icmp_ge 22 dX7_byteAt_5 rfl (fun c5 => ?_) (fun c5 => ?_)
  · refine rn_iconst (-1) dX7_byteAt_22 (by decide) ?_
    refine rn_iret dX7_byteAt_23 rfl (Nat.zero_le _) (Nat.zero_le _) ?_
    refine ⟨congrArg (fun z => some (Value.int z)) ?_, rfl, rfl, rfl, rfl⟩
    rw [h27, nI_leI (by omega) (by omega)] at c5
    rw [if_neg (by omega)]
  · refine r_aload0 dX7_byteAt_8 ?_
    refine gf_X7_13 dX7_byteAt_9 rfl hM.1 (sm_texts hM).1 ?_
    refine r_aload0 dX7_byteAt_12 ?_
    refine gf_X7_152 dX7_byteAt_13 rfl hM.1 ?_
    refine r_iload1 dX7_byteAt_16 ?_
    refine rn_iadd dX7_byteAt_17 ?_
    refine rn_iald (f + j) dX7_byteAt_18 (sm_texts hM).2 (by rw [h26]; exact nI_add f j) (by rw [h27, nI_leI (by omega) (by omega)] at c5; omega) (by decide) ?_
    refine rn_goto 23 dX7_byteAt_19 rfl ?_
    refine rn_iret dX7_byteAt_23 rfl (Nat.zero_le _) (Nat.zero_le _) ?_
    refine ⟨congrArg (fun z => some (Value.int z)) ?_, rfl, rfl, rfl, rfl⟩
    rw [h27, nI_leI (by omega) (by omega)] at c5
    rw [if_pos (by omega)]
    exact hb j (by omega)
theorem bl_yes {p n : Nat} {b : Nat → Int32} (h : (if p < n then b p else -1) = 32 ∨ (if p < n then b p else -1) = 10) : p < n ∧ isBl (b p) = true := by
  by_cases hp : p < n
  · rw [if_pos hp] at h; exact ⟨hp, decide_eq_true h⟩
  · rw [if_neg hp] at h; exact absurd h (by decide)
theorem bl_no {p n : Nat} {b : Nat → Int32} (h1 : ¬ (if p < n then b p else -1) = 32) (h2 : ¬ (if p < n then b p else -1) = 10) : ¬ (p < n ∧ isBl (b p) = true) := by
  rintro ⟨hp, h⟩
  rw [if_pos hp] at h1 h2
  exact (of_decide_eq_true h).elim h1 h2
theorem nx_skip {d : Nat} {Q : Qt} {v1 v2 : Value} (hM : ShM Γ rv) {b : Nat → Int32} {n f : Nat} : ∀ (k p : Nat) (iv : IV), n - p < k → TxM iv b n f → iv 75 28 = nI p → p ≤ n →
    (∀ iv', Off (fun a b => a = 75 ∧ b = 28) iv iv' → iv' 75 28 = nI (scanTo isBl b n p) → Rn g l mX7_next (rmA (d + 1) 0 0) Q 0 0 39 [.ref 75, v1, v2] [] Γ iv' rv lv) → Rn g l mX7_next (rmA (d + 1) 0 0) Q 0 0 0 [.ref 75, v1, v2] [] Γ iv rv lv := by
  intro k
  induction k with
  | zero => intro p iv h; omega
  | succ k ih =>
    intro p iv hk hT hp hpn kk
    have hn160 : n ≤ 160 := hT.2.2.2.2.1
    refine r_aload0 dX7_next_0 ?_
    refine r_aload0 dX7_next_1 ?_
    refine gf_X7_155 dX7_next_2 rfl hM.1 ?_
    refine cpiV1 dX7_next_5 ov_X7_byteAt rfl ml_X7_158 hM.1 rfl (Nat.zero_le _) (Nat.zero_le _) (Nat.zero_le _) (ct_byteAt _ hM hT p hp (by omega)) ?_
    refine rn_bipush (32) dX7_next_8 (by decide) ?_
    refine rn_icmp_eq 26 dX7_next_10 rfl (fun c10 => ?_) (fun c10 => ?_)
    · refine r_aload0 dX7_next_26 ?_
      refine rn_dup dX7_next_27 rfl ?_
      refine gf_X7_155 dX7_next_28 rfl hM.1 ?_
      refine rn_iconst (1) dX7_next_31 (by decide) ?_
      refine rn_iadd dX7_next_32 ?_
      refine pf_X7_155 dX7_next_33 rfl hM.1 ?_
      refine rn_goto 0 dX7_next_36 rfl ?_
      exact ih (p + 1) _ (by have := (bl_yes (Or.inl c10)).1; omega) (hT.off (off_up (S := Lx) (x := iv 75 28 + 1) (by decide)) (by decide) (by decide) (fun j h => by cases h.1)) (by rw [up_same, hp]; exact nI_1 p) (by have := (bl_yes (Or.inl c10)).1; omega) (fun iv2 h1 h2 => kk iv2 ((off_up (by decide)).trans h1) (by rw [h2, scanTo_go (bl_yes (Or.inl c10)).1 (bl_yes (Or.inl c10)).2]))
    · refine r_aload0 dX7_next_13 ?_
      refine r_aload0 dX7_next_14 ?_
      refine gf_X7_155 dX7_next_15 rfl hM.1 ?_
      refine cpiV1 dX7_next_18 ov_X7_byteAt rfl ml_X7_158 hM.1 rfl (Nat.zero_le _) (Nat.zero_le _) (Nat.zero_le _) (ct_byteAt _ hM hT p hp (by omega)) ?_
      refine rn_bipush (10) dX7_next_21 (by decide) ?_
      refine rn_icmp_ne 39 dX7_next_23 rfl (fun c23 => ?_) (fun c23 => ?_)
      · exact kk iv Off.refl (by rw [scanTo_stop (bl_no c10 c23)]; exact hp)
      · refine r_aload0 dX7_next_26 ?_
        refine rn_dup dX7_next_27 rfl ?_
        refine gf_X7_155 dX7_next_28 rfl hM.1 ?_
        refine rn_iconst (1) dX7_next_31 (by decide) ?_
        refine rn_iadd dX7_next_32 ?_
        refine pf_X7_155 dX7_next_33 rfl hM.1 ?_
        refine rn_goto 0 dX7_next_36 rfl ?_
        exact ih (p + 1) _ (by have := (bl_yes (Or.inr c23)).1; omega) (hT.off (off_up (S := Lx) (x := iv 75 28 + 1) (by decide)) (by decide) (by decide) (fun j h => by cases h.1)) (by rw [up_same, hp]; exact nI_1 p) (by have := (bl_yes (Or.inr c23)).1; omega) (fun iv2 h1 h2 => kk iv2 ((off_up (by decide)).trans h1) (by rw [h2, scanTo_go (bl_yes (Or.inr c23)).1 (bl_yes (Or.inr c23)).2]))
end MLEX
