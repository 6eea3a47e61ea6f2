/-! THE CLASS: ask, askOfNext -/
abbrev Own (r a _ : Nat) : Prop := (r ≤ a ∧ a ≤ r + 9) ∨ Pl a
theorem RuC.own {Γ : Sh} {iv iv' : IV} {rv : RV} {t r : Nat} {S : Nat → Nat → List Int32} (h : RuC Γ iv rv t S) (hr : 27 ≤ r ∧ r ≤ 57) (ho : Off (Own r) iv iv') : RuC Γ iv' rv t S := h.off ho (fun a b z => by omega)
theorem ak_own {iv iv' : IV} {r : Nat} (h : Off (Ak r) iv iv') : Off (Own r) iv iv' := h.mono (fun a b z => by omega)
theorem aq_own {iv iv' : IV} {r : Nat} (h : Off (Aq r) iv iv') : Off (Own r) iv iv' := h.mono (fun a b z => by omega)
theorem ak_aq {iv iv' : IV} {r : Nat} (h : Off (Ak r) iv iv') : Off (Aq r) iv iv' := h.mono (fun a b z => by omega)
/-- does the part speak of the day -/
def spk (S : Nat → Nat → List Int32) (ρ : IV) (p : Nat) : Prop := (-5 : Int32) ∈ S (ρ 4 8).toNatClampNeg p
theorem evC_congr {e e' : Nat → Int32} : ∀ (xs stk : List Int32), (∀ x, x ∈ xs → -6 ≤ x → ¬ 0 ≤ x → e (-1 - x).toNatClampNeg = e' (-1 - x).toNatClampNeg) → evC e xs stk = evC e' xs stk := by
  intro xs
  induction xs with
  | nil => intro stk h; rfl
  | cons x xs ih =>
    intro stk h
    unfold evC
    have e1 : st1 e x stk = st1 e' x stk := by
      unfold st1
      by_cases h1 : -6 ≤ x
      · rw [if_pos h1, if_pos h1]
        by_cases h2 : 0 ≤ x
        · rw [if_pos h2, if_pos h2]
        · rw [if_neg h2, if_neg h2, h x List.mem_cons_self h1 h2]
      · rw [if_neg h1, if_neg h1]
    rw [e1]
    cases st1 e' x stk with
    | none => rfl
    | some q => exact ih q (fun y hy => h y (List.mem_cons_of_mem _ hy))
theorem ix4 {x : Int32} (h1 : -6 ≤ x) (h2 : ¬ 0 ≤ x) (h3 : ¬ x = -5) : ¬ (-1 - x).toNatClampNeg = 4 := by
  have : x = -6 ∨ x = -5 ∨ x = -4 ∨ x = -3 ∨ x = -2 ∨ x = -1 := by
    simp only [Int32.le_iff_toInt_le, Int32.reduceToInt, ← Int32.toInt_inj] at *; omega
  rcases this with rfl | rfl | rfl | rfl | rfl | rfl
  · decide
  · exact absurd rfl h3
  · decide
  · decide
  · decide
  · decide
theorem vl_day {e e' : Nat → Int32} {xs : List Int32} (h : ∀ j, j ≠ 4 → e j = e' j) (hx : ¬ (-5 : Int32) ∈ xs) : vl e xs = vl e' xs := by
  unfold vl
  rw [evC_congr (e := e) (e' := e') xs [] (fun x hm h1 h2 => h _ (ix4 h1 h2 (fun z => hx (z ▸ hm))))]
/-- another road of which the texts say the same -/
def Same (ρ ρ' : IV) : Prop := (∀ y, ρ' 0 y = ρ 0 y ∧ ρ' 1 y = ρ 1 y) ∧ ρ' 2 4 = ρ 2 4 ∧ ρ' 3 4 = ρ 3 4 ∧ ρ' 2 3 = ρ 2 3 ∧ ρ' 3 3 = ρ 3 3 ∧ ρ' 4 8 = ρ 4 8
theorem same_up {ρ : IV} {i k : Nat} {x : Int32} (h : ((i = 2 ∨ i = 3) ∧ 5 ≤ k) ∨ (i = 4 ∧ k ≠ 8)) : Same ρ (up ρ i k x) := ⟨fun y => ⟨up_ne (by omega), up_ne (by omega)⟩, up_ne (by omega), up_ne (by omega), up_ne (by omega), up_ne (by omega), up_ne (by omega)⟩
theorem Same.uv {ρ ρ' : IV} (h : Same ρ ρ') : uO ρ' = uO ρ ∧ vO ρ' = vO ρ := by unfold uO vO; rw [h.2.1, h.2.2.1]; exact ⟨rfl, rfl⟩
theorem Same.next {ρ ρ' : IV} (h : Same ρ ρ') (γ : Nat) : nextN ρ' γ = nextN ρ γ := by unfold nextN; rw [h.uv.1, h.uv.2]
theorem Same.spk0 {ρ ρ' : IV} {S : Nat → Nat → List Int32} {p : Nat} (h : Same ρ ρ') : spk S ρ' p ↔ spk S ρ p := by unfold spk; rw [h.2.2.2.2.2]
theorem Same.ask {ρ ρ' : IV} {S : Nat → Nat → List Int32} {p y : Nat} {m : Int32} (h : Same ρ ρ') (hs : ¬ spk S ρ p ∨ ρ' 4 4 = ρ 4 4) : askS S ρ' p y m = askS S ρ p y m := by
  have ha : aheadS ρ' = aheadS ρ := by unfold aheadS; rw [h.2.1, h.2.2.1]
  unfold askS
  rw [h.2.2.2.2.2]
  rcases hs with hs | hs
  · rw [vl_day (e := envS ρ' y m) (e' := envS ρ y m) (fun j hj => ?_) hs]
    unfold envS
    rw [if_neg hj, if_neg hj, (h.1 y).1, (h.1 y).2, ha]
  · have : envS ρ' y m = envS ρ y m := by
      unfold envS; funext j; rw [(h.1 y).1, (h.1 y).2, ha, hs]
    rw [this]
/-- what was remembered of the last answers holds -/
def Mm (iv : IV) (r : Nat) (ρ : IV) (S : Nat → Nat → List Int32) : Prop := ∀ γ p, γ < 2 → p < 2 → iv (r + 3 + 3 * γ + 1) p = -1 ∨ ∃ n, n ≤ 24 ∧ iv (r + 3 + 3 * γ + 1) p = nI n ∧ 24 - uO ρ - vO ρ ≤ n ∧ (n = 24 - uO ρ - vO ρ → ¬ spk S ρ p → iv (r + 3 + 3 * γ + 2) p = askS S ρ p (nextN ρ γ) (ρ (2 + γ) 3))
theorem Mm.to {iv iv' ρ ρ' : IV} {r : Nat} {S : Nat → Nat → List Int32} (h : Mm iv r ρ S) (hc : ∀ γ p, γ < 2 → p < 2 → iv' (r + 3 + 3 * γ + 1) p = iv (r + 3 + 3 * γ + 1) p ∧ iv' (r + 3 + 3 * γ + 2) p = iv (r + 3 + 3 * γ + 2) p) (hs : Same ρ ρ') : Mm iv' r ρ' S := by
  intro γ p hγ hp
  rw [(hc γ p hγ hp).1, (hc γ p hγ hp).2, hs.uv.1, hs.uv.2]
  rcases h γ p hγ hp with h1 | ⟨n, h1, h2, h3, h4⟩
  · exact Or.inl h1
  · refine Or.inr ⟨n, h1, h2, h3, fun e hk => ?_⟩
    have hk2 : ¬ spk S ρ p := fun z => hk (hs.spk0.mpr z)
    have hm : ρ' (2 + γ) 3 = ρ (2 + γ) 3 := by
      rcases (show γ = 0 ∨ γ = 1 by omega) with rfl | rfl
      · exact hs.2.2.2.1
      · exact hs.2.2.2.2.1
    rw [h4 e hk2, hs.next, hs.ask (Or.inl hk2), hm]
theorem Mm.less {iv iv' ρ ρ' : IV} {r : Nat} {S : Nat → Nat → List Int32} (h : Mm iv r ρ S) (hc : ∀ γ p, γ < 2 → p < 2 → iv' (r + 3 + 3 * γ + 1) p = iv (r + 3 + 3 * γ + 1) p) (hs : 24 - uO ρ' - vO ρ' < 24 - uO ρ - vO ρ) : Mm iv' r ρ' S := by
  intro γ p hγ hp
  rw [hc γ p hγ hp]
  rcases h γ p hγ hp with h1 | ⟨n, h1, h2, h3, h4⟩
  · exact Or.inl h1
  · exact Or.inr ⟨n, h1, h2, by omega, fun e => by omega⟩
theorem RC.next {iv ρ : IV} {r γ : Nat} (h : RC iv r ρ) (hg : GR ρ) (hlt : uO ρ + vO ρ < 24) (hγ : γ < 2) : (if iv (r + 3 + 3 * γ) 0 = 0 then 23 - iv (r + 3 + 3 * γ) 4 else iv (r + 3 + 3 * γ) 4) = nI (nextN ρ γ) := by
  rw [h.goes hγ, h.gang 4 (by decide) (by decide) hγ]
  unfold nextN
  rcases (show γ = 0 ∨ γ = 1 by omega) with rfl | rfl
  · rw [if_pos rfl, if_neg (by decide), if_pos rfl]; exact hg.1
  · rw [if_pos (by decide), if_neg (by decide), show 2 + 1 = 3 from rfl, hg.2.1, show (23 : Int32) = nI 23 by decide, pk_sub (by omega)]
section CASK
variable {g : GS} {l : Launch} {Γ : Sh} {iv : IV} {rv : RV} {lv : LV}
set_option maxRecDepth 4000 in
theorem ct_ask (D : Nat) {r : Nat} (hS : ShRd Γ rv r) (hr : 27 ≤ r ∧ r ≤ 57) {ρ : IV} (hR : RC iv r ρ) {S : Nat → Nat → List Int32} {t : Nat} (hrl : rv r 8 = rq t) (ht : ρ 4 8 = nI t) (ht6 : t < 6) (hU : RuC Γ iv rv t S) {p y : Nat} {P Y : Int32} (hP : P = nI p) (hp : p < 3) (hY : Y = nI y) (hy : y < 24) (men : Int32) : Ct g l mX3_ask (D + 1) 0 0 [.ref r, .int P, .int Y, .int men] Γ iv rv lv (qCI Γ rv lv (fun x iv' => x = askS S ρ p y men ∧ Off (Ak r) iv iv')) := by
  refine Ct.of (by decide +kernel) (Nat.le_of_ble_eq_true rfl) (Nat.le_of_ble_eq_true rfl) ?_
  refine r_iload2 dX3_ask_0 ?_
  refine cpiSN1 dX3_ask_1 os_X6_isYard rfl ml_X3_52 (Nat.zero_le _) (Nat.zero_le _) (Nat.zero_le _) (ct_isYard _ _) ?_
  refine rn_if_eq 16 dX3_ask_4 rfl (fun h => absurd h (by rw [bI_t ⟨by rw [hY]; exact nI_pos' (by omega), by rw [hY, show (24 : Int32) = nI 24 by decide]; exact nI_lt hy (by decide)⟩]; decide)) (fun _ => ?_)
  refine r_iload1 dX3_ask_7 ?_
  refine rn_iconst (0) dX3_ask_8 (by decide) ?_
  refine rn_iconst (2) dX3_ask_9 (by decide) ?_
  refine cpiSN3 dX3_ask_10 os_X6_within rfl ml_X3_69 (Nat.zero_le _) (Nat.zero_le _) (Nat.zero_le _) (ct_within _ _ _ _) ?_
  refine rn_if_ne 18 dX3_ask_13 rfl (fun _ => ?_) (fun h => absurd h (by rw [bI_t ⟨by rw [hP]; exact nI_pos' (by omega), by rw [hP, show (2 : Int32) = nI 2 by decide]; exact nI_le (by omega) (by decide)⟩]; decide))
  refine r_aload0 dX3_ask_18 ?_
  refine gf_X3_45 dX3_ask_19 rfl hS.1 hS.2.2.2.2.2.1 ?_
  refine rn_iconst (0) dX3_ask_22 (by decide) ?_
  refine r_aload0 dX3_ask_23 ?_
  refine gf_X3_9 dX3_ask_24 rfl hS.1 hS.2.1.1 ?_
  refine r_iload2 dX3_ask_27 ?_
  refine rn_iald y dX3_ask_28 hS.2.1.2 hY hy (by decide) ?_
  refine rn_eqi (ρ 0 y) (hR.1 y hy).1 ?_
  refine rn_iast 0 dX3_ask_29 hS.2.2.2.2.2.2 rfl (by decide) (by decide) ?_
  refine r_aload0 dX3_ask_30 ?_
  refine gf_X3_45 dX3_ask_31 rfl hS.1 hS.2.2.2.2.2.1 ?_
  refine rn_iconst (1) dX3_ask_34 (by decide) ?_
  refine r_iload3 dX3_ask_35 ?_
  refine rn_iast 1 dX3_ask_36 hS.2.2.2.2.2.2 rfl (by decide) (by decide) ?_
  refine r_aload0 dX3_ask_37 ?_
  refine gf_X3_45 dX3_ask_38 rfl hS.1 hS.2.2.2.2.2.1 ?_
  refine rn_iconst (2) dX3_ask_41 (by decide) ?_
  refine r_iload2 dX3_ask_42 ?_
  refine rn_iast 2 dX3_ask_43 hS.2.2.2.2.2.2 rfl (by decide) (by decide) ?_
  refine r_aload0 dX3_ask_44 ?_
  refine gf_X3_45 dX3_ask_45 rfl hS.1 hS.2.2.2.2.2.1 ?_
  refine rn_iconst (3) dX3_ask_48 (by decide) ?_
  refine r_aload0 dX3_ask_49 ?_
  refine cpiV0 dX3_ask_50 ov_X3_ahead rfl ml_X3_73 hS.1 rfl (Nat.le_of_ble_eq_true rfl) (Nat.zero_le _) (Nat.zero_le _) (ct_ahead (iv := (up (up (up iv (r + 9) 0 (ρ 0 y)) (r + 9) 1 men) (r + 9) 2 Y)) _ hS (hR.off (P := Ak r) (((off_up (Or.inl rfl)).trans (off_up (Or.inl rfl))).trans (off_up (Or.inl rfl))) (fun a b z => by omega))) ?_
  refine rn_iast 3 dX3_ask_53 hS.2.2.2.2.2.2 rfl (by decide) (by decide) ?_
  refine r_aload0 dX3_ask_54 ?_
  refine gf_X3_45 dX3_ask_55 rfl hS.1 hS.2.2.2.2.2.1 ?_
  refine rn_iconst (4) dX3_ask_58 (by decide) ?_
  refine r_aload0 dX3_ask_59 ?_
  refine gf_X3_30 dX3_ask_60 rfl hS.1 ?_
  refine rn_eqi (ρ 4 4) (by rw [up_ne1 (by omega), up_ne1 (by omega), up_ne1 (by omega), up_ne1 (by omega)]; exact hR.2.2.1 4 (by decide) (by decide)) ?_
  refine rn_iast 4 dX3_ask_63 hS.2.2.2.2.2.2 rfl (by decide) (by decide) ?_
  refine r_aload0 dX3_ask_64 ?_
  refine gf_X3_45 dX3_ask_65 rfl hS.1 hS.2.2.2.2.2.1 ?_
  refine rn_iconst (5) dX3_ask_68 (by decide) ?_
  refine r_aload0 dX3_ask_69 ?_
  refine gf_X3_15 dX3_ask_70 rfl hS.1 hS.2.2.1.1 ?_
  refine r_iload2 dX3_ask_73 ?_
  refine rn_iald y dX3_ask_74 hS.2.2.1.2 hY hy (by decide) ?_
  refine rn_eqi (ρ 1 y) (by rw [up_ne1 (by omega), up_ne1 (by omega), up_ne1 (by omega), up_ne1 (by omega), up_ne1 (by omega)]; exact (hR.1 y hy).2) ?_
  refine rn_iast 5 dX3_ask_75 hS.2.2.2.2.2.2 rfl (by decide) (by decide) ?_
  have hoff : Off (Ak r) iv (up (up (up (up (up (up iv (r + 9) 0 (ρ 0 y)) (r + 9) 1 men) (r + 9) 2 Y) (r + 9) 3 (aheadS ρ)) (r + 9) 4 (ρ 4 4)) (r + 9) 5 (ρ 1 y)) := (((((off_up (Or.inl rfl)).trans (off_up (Or.inl rfl))).trans (off_up (Or.inl rfl))).trans (off_up (Or.inl rfl))).trans (off_up (Or.inl rfl))).trans (off_up (Or.inl rfl))
  obtain ⟨-, L, hL, hUs, hall⟩ := hU.off hoff (fun a b z => by omega)
  obtain ⟨-, hone, B, hB1, hB2, hB3, hB4⟩ := hall p hp
  have hq := rq_ge t
  have he : ∀ c, c < 6 → (up (up (up (up (up (up iv (r + 9) 0 (ρ 0 y)) (r + 9) 1 men) (r + 9) 2 Y) (r + 9) 3 (aheadS ρ)) (r + 9) 4 (ρ 4 4)) (r + 9) 5 (ρ 1 y)) (r + 9) c = envS ρ y men c := fun c hc => match c, hc with
    | 0, _ => by rw [up_ne2 (by decide), up_ne2 (by decide), up_ne2 (by decide), up_ne2 (by decide), up_ne2 (by decide), up_same]; rfl
    | 1, _ => by rw [up_ne2 (by decide), up_ne2 (by decide), up_ne2 (by decide), up_ne2 (by decide), up_same]; rfl
    | 2, _ => by rw [up_ne2 (by decide), up_ne2 (by decide), up_ne2 (by decide), up_same]; exact hY
    | 3, _ => by rw [up_ne2 (by decide), up_ne2 (by decide), up_same]; rfl
    | 4, _ => by rw [up_ne2 (by decide), up_same]; rfl
    | 5, _ => by rw [up_same]; rfl
  refine rn_getsI (i := 5) dX3_ask_76 fl_X3_77 (by decide) (fun g h => h.2.2.2.2.1.2.2.2.1) ?_
  refine r_iload1 dX3_ask_79 ?_
  refine rn_ialdO p dX3_ask_80 (by decide) hP (by show p < 3; exact hp) (by decide) ?_
  refine rn_eqi (leastS p) (lo_least p hp).1 ?_
  refine rn_getsI (i := 6) dX3_ask_81 fl_X3_80 (by decide) (fun g h => h.2.2.2.2.1.2.2.2.2.1) ?_
  refine r_iload1 dX3_ask_84 ?_
  refine rn_ialdO p dX3_ask_85 (by decide) hP (by show p < 3; exact hp) (by decide) ?_
  refine rn_eqi 999 (lo_least p hp).2 ?_
  refine r_aload0 dX3_ask_86 ?_
  refine gf_X3_48 dX3_ask_87 rfl hS.1 hrl ?_
  refine r_iload1 dX3_ask_90 ?_
  refine r_aload0 dX3_ask_91 ?_
  refine gf_X3_45 dX3_ask_92 rfl hS.1 hS.2.2.2.2.2.1 ?_
  refine cciV2 dX3_ask_95 ov_X4_valueOf rfl ml_X3_83 hUs.1 rfl (Nat.le_of_ble_eq_true rfl) (Nat.zero_le _) (Nat.zero_le _) (ct_valueOf (iv := (up (up (up (up (up (up iv (r + 9) 0 (ρ 0 y)) (r + 9) 1 men) (r + 9) 2 Y) (r + 9) 3 (aheadS ρ)) (r + 9) 4 (ρ 4 4)) (r + 9) 5 (ρ 1 y))) _ hUs hL hS.2.2.2.2.2.2 (by omega) hP hp hB1 hB2 hB3 hB4 rfl he (hone _)) (fun x95 iv h95 => ?_)
  refine rn_min dX3_ask_98 ml_X3_87 math_min (Nat.le_of_ble_eq_true rfl) (Nat.le_add_left _ _) (by show 100 ≤ 100 * _; omega) (Nat.zero_le _) (Nat.zero_le _) ?_
  refine rn_max dX3_ask_101 ml_X3_93 math_max (Nat.le_of_ble_eq_true rfl) (Nat.le_add_left _ _) (by show 100 ≤ 100 * _; omega) (Nat.zero_le _) (Nat.zero_le _) ?_
  refine rn_iret dX3_ask_104 rfl (Nat.zero_le _) (Nat.zero_le _) ?_
  refine ⟨_, rfl, rfl, rfl, rfl, ?_, hoff.trans (h95.2.mono (fun a b z => Or.inr (by rw [z]; exact rq_pl t 0)))⟩
  rw [clamp_eq hp, h95.1, askS_of ht ht6]
set_option maxRecDepth 4000 in
theorem ct_askN (D : Nat) {r : Nat} (hS : ShRd Γ rv r) (hr : 27 ≤ r ∧ r ≤ 57) {ρ : IV} (hR : RC iv r ρ) {S : Nat → Nat → List Int32} {t : Nat} (hrl : rv r 8 = rq t) (ht : ρ 4 8 = nI t) (ht6 : t < 6) (hU : RuC Γ iv rv t S) (hg : GR ρ) (hlt : uO ρ + vO ρ < 24) (hM : Mm iv r ρ S) {γ p : Nat} {P : Int32} (hP : P = nI p) (hp : p < 2) (hγ : γ < 2) : Ct g l mX3_askOfNext (D + 2) 0 0 [.ref r, .int P, .ref (r + 3 + 3 * γ)] Γ iv rv lv (qCI Γ rv lv (fun x iv' => x = askS S ρ p (nextN ρ γ) (ρ (2 + γ) 3) ∧ Off (Aq r) iv iv' ∧ Mm iv' r ρ S)) := by
  refine Ct.of (by decide +kernel) (Nat.le_of_ble_eq_true rfl) (Nat.le_of_ble_eq_true rfl) ?_
  have hUu := hU
  obtain ⟨-, L, hL, hUs, hall⟩ := hUu
  have hnx := next_lt (γ := γ) hlt
  have h24 := hg.2.2.1
  refine r_aload0 dX3_askOfNext_0 ?_
  refine cpiV0 dX3_askOfNext_1 ov_X3_ahead rfl ml_X3_73 hS.1 rfl (Nat.zero_le _) (Nat.zero_le _) (Nat.zero_le _) (ct_ahead _ hS hR) ?_
  refine rn_eqi (nI (24 - uO ρ - vO ρ)) (ahead_nI hg) ?_
  refine r_istore3 dX3_askOfNext_4 rfl ?_
  refine r_aload2 dX3_askOfNext_5 ?_
  refine gf_X3_96 dX3_askOfNext_6 rfl (hS.gang hγ).1 (hS.gang hγ).2.1.1 ?_
  refine r_iload1 dX3_askOfNext_9 ?_
  refine rn_iald p dX3_askOfNext_10 (hS.gang hγ).2.1.2 hP hp (by decide) ?_
  refine r_iload3 dX3_askOfNext_11 ?_
  refine rn_icmp_ne 34 dX3_askOfNext_12 rfl (fun c12 => ?_) (fun c12 => ?_)
  · refine r_aload0 dX3_askOfNext_34 ?_
    refine r_iload1 dX3_askOfNext_35 ?_
    refine r_aload2 dX3_askOfNext_36 ?_
    refine cpiV0 dX3_askOfNext_37 ov_X1_nextYard rfl ml_X3_106 (hS.gang hγ).1 rfl (Nat.le_of_ble_eq_true rfl) (Nat.zero_le _) (Nat.zero_le _) (ct_nextYard _ (hS.gang hγ)) ?_
    refine rn_eqi (nI (nextN ρ γ)) (hR.next hg hlt hγ) ?_
    refine r_aload2 dX3_askOfNext_40 ?_
    refine gf_X3_62 dX3_askOfNext_41 rfl (hS.gang hγ).1 ?_
    refine rn_eqi (ρ (2 + γ) 3) (hR.gang 3 (by decide) (by decide) hγ) ?_
    refine cciV3 dX3_askOfNext_44 ov_X3_ask rfl ml_X3_65 hS.1 rfl (Nat.zero_le _) (Nat.zero_le _) (Nat.zero_le _) (ct_ask (D) hS hr hR hrl ht ht6 hU hP (by omega) rfl hnx _) (fun x44 iv h44 => ?_)
    refine r_istore4 dX3_askOfNext_47 rfl ?_
    refine r_aload2 dX3_askOfNext_49 ?_
    refine gf_X3_96 dX3_askOfNext_50 rfl (hS.gang hγ).1 (hS.gang hγ).2.1.1 ?_
    refine r_iload1 dX3_askOfNext_53 ?_
    refine r_iload3 dX3_askOfNext_54 ?_
    refine rn_iast p dX3_askOfNext_55 (hS.gang hγ).2.1.2 hP hp (by decide) ?_
    refine r_aload2 dX3_askOfNext_56 ?_
    refine gf_X3_103 dX3_askOfNext_57 rfl (hS.gang hγ).1 (hS.gang hγ).2.2.1 ?_
    refine r_iload1 dX3_askOfNext_60 ?_
    refine r_iload4 dX3_askOfNext_61 ?_
    refine rn_iast p dX3_askOfNext_63 (hS.gang hγ).2.2.2 hP hp (by decide) ?_
    refine r_iload4 dX3_askOfNext_64 ?_
    refine rn_iret dX3_askOfNext_66 rfl (Nat.zero_le _) (Nat.zero_le _) ?_
    refine ⟨_, rfl, rfl, rfl, rfl, h44.1, ((ak_aq h44.2).trans (off_up (by omega))).trans (off_up (by omega)), ?_⟩
    intro δ z hδ hz
    by_cases e : δ = γ ∧ z = p
    · obtain ⟨rfl, rfl⟩ := e
      refine Or.inr ⟨24 - uO ρ - vO ρ, by omega, by rw [up_ne1 (by omega), up_same], Nat.le_refl _, fun _ _ => ?_⟩
      rw [up_same]; exact h44.1
    · rw [up_ne (by omega), up_ne (by omega), up_ne (by omega), up_ne (by omega), h44.2 _ _ (by omega), h44.2 _ _ (by omega)]
      exact hM δ z hδ hz
  · refine r_aload0 dX3_askOfNext_15 ?_
    refine gf_X3_48 dX3_askOfNext_16 rfl hS.1 hrl ?_
    refine gf_X3_99 dX3_askOfNext_19 rfl hUs.1 hUs.2.1.1 ?_
    refine r_iload1 dX3_askOfNext_22 ?_
    refine rn_zald p dX3_askOfNext_23 hUs.2.1.2 hP (by omega) (by decide) ?_
    refine rn_eqi _ (hall p (by omega)).1 ?_
    refine rn_if_ne 34 dX3_askOfNext_24 rfl (fun c24 => ?_) (fun c24 => ?_)
    · refine r_aload0 dX3_askOfNext_34 ?_
      refine r_iload1 dX3_askOfNext_35 ?_
      refine r_aload2 dX3_askOfNext_36 ?_
      refine cpiV0 dX3_askOfNext_37 ov_X1_nextYard rfl ml_X3_106 (hS.gang hγ).1 rfl (Nat.le_of_ble_eq_true rfl) (Nat.zero_le _) (Nat.zero_le _) (ct_nextYard _ (hS.gang hγ)) ?_
      refine rn_eqi (nI (nextN ρ γ)) (hR.next hg hlt hγ) ?_
      refine r_aload2 dX3_askOfNext_40 ?_
      refine gf_X3_62 dX3_askOfNext_41 rfl (hS.gang hγ).1 ?_
      refine rn_eqi (ρ (2 + γ) 3) (hR.gang 3 (by decide) (by decide) hγ) ?_
      refine cciV3 dX3_askOfNext_44 ov_X3_ask rfl ml_X3_65 hS.1 rfl (Nat.zero_le _) (Nat.zero_le _) (Nat.zero_le _) (ct_ask (D) hS hr hR hrl ht ht6 hU hP (by omega) rfl hnx _) (fun x44 iv h44 => ?_)
      refine r_istore4 dX3_askOfNext_47 rfl ?_
      refine r_aload2 dX3_askOfNext_49 ?_
      refine gf_X3_96 dX3_askOfNext_50 rfl (hS.gang hγ).1 (hS.gang hγ).2.1.1 ?_
      refine r_iload1 dX3_askOfNext_53 ?_
      refine r_iload3 dX3_askOfNext_54 ?_
      refine rn_iast p dX3_askOfNext_55 (hS.gang hγ).2.1.2 hP hp (by decide) ?_
      refine r_aload2 dX3_askOfNext_56 ?_
      refine gf_X3_103 dX3_askOfNext_57 rfl (hS.gang hγ).1 (hS.gang hγ).2.2.1 ?_
      refine r_iload1 dX3_askOfNext_60 ?_
      refine r_iload4 dX3_askOfNext_61 ?_
      refine rn_iast p dX3_askOfNext_63 (hS.gang hγ).2.2.2 hP hp (by decide) ?_
      refine r_iload4 dX3_askOfNext_64 ?_
      refine rn_iret dX3_askOfNext_66 rfl (Nat.zero_le _) (Nat.zero_le _) ?_
      refine ⟨_, rfl, rfl, rfl, rfl, h44.1, ((ak_aq h44.2).trans (off_up (by omega))).trans (off_up (by omega)), ?_⟩
      intro δ z hδ hz
      by_cases e : δ = γ ∧ z = p
      · obtain ⟨rfl, rfl⟩ := e
        refine Or.inr ⟨24 - uO ρ - vO ρ, by omega, by rw [up_ne1 (by omega), up_same], Nat.le_refl _, fun _ _ => ?_⟩
        rw [up_same]; exact h44.1
      · rw [up_ne (by omega), up_ne (by omega), up_ne (by omega), up_ne (by omega), h44.2 _ _ (by omega), h44.2 _ _ (by omega)]
        exact hM δ z hδ hz
    · have hsp : ¬ spk S ρ p := fun z => by unfold spk at z; rw [ht, nI_clamp (by omega)] at z; rw [if_pos z] at c24; exact absurd c24 (by decide)
      have hval : iv (r + 3 + 3 * γ + 2) p = askS S ρ p (nextN ρ γ) (ρ (2 + γ) 3) := by
        rcases hM γ p hγ hp with h1 | ⟨n, h1, h2, h3, h4⟩
        · rw [h1] at c12; exact absurd c12.symm (nI_m1 (by omega))
        · rw [h2, nI_eq (by omega) (by omega)] at c12; exact h4 c12 hsp
      refine r_aload2 dX3_askOfNext_27 ?_
      refine gf_X3_103 dX3_askOfNext_28 rfl (hS.gang hγ).1 (hS.gang hγ).2.2.1 ?_
      refine r_iload1 dX3_askOfNext_31 ?_
      refine rn_iald p dX3_askOfNext_32 (hS.gang hγ).2.2.2 hP hp (by decide) ?_
      refine rn_iret dX3_askOfNext_33 rfl (Nat.zero_le _) (Nat.zero_le _) ?_
      refine ⟨_, rfl, rfl, rfl, rfl, ?_, Off.refl, hM⟩
      exact hval
end CASK
