/-! THE CLASS: takeTurn -/
theorem up_comm {f : IV} {i k j l : Nat} {x y : Int32} (h : ¬ (i = j ∧ k = l)) : up (up f i k x) j l y = up (up f j l y) i k x := by
  funext a b
  unfold up
  by_cases h1 : a = j ∧ b = l
  · rw [if_pos h1, if_neg (fun z => h ⟨z.1.symm.trans h1.1, z.2.symm.trans h1.2⟩), if_pos h1]
  · rw [if_neg h1, if_neg h1]
theorem RC.upg {iv ρ : IV} {r : Nat} (h : RC iv r ρ) (k : Nat) {γ : Nat} {x : Int32} (h1 : 1 ≤ k) (h2 : k ≤ 7) (hγ : γ < 2) : RC (up iv (r + 3 + 3 * γ) k x) r (up ρ (2 + γ) k x) := by
  refine ⟨fun y hy => ?_, fun k' γ' a b c => ?_, fun k' a b => ?_, ?_, ?_⟩
  · rw [up_ne1 (by omega), up_ne1 (by omega), up_ne1 (by omega), up_ne1 (by omega)]; exact h.1 y hy
  · by_cases e : γ' = γ ∧ k' = k
    · obtain ⟨rfl, rfl⟩ := e; rw [up_same, up_same]
    · rw [up_ne (by omega), up_ne (by omega)]; exact h.2.1 k' γ' a b c
  · rw [up_ne1 (by omega), up_ne1 (by omega)]; exact h.2.2.1 k' a b
  · rw [up_ne2 (by omega)]; exact h.2.2.2.1
  · rw [up_ne2 (by omega)]; exact h.2.2.2.2
theorem RC.ups {iv ρ : IV} {r : Nat} (h : RC iv r ρ) (k : Nat) {x : Int32} (h1 : 4 ≤ k) (h2 : k ≤ 7) : RC (up iv r k x) r (up ρ 4 k x) := by
  refine ⟨fun y hy => ?_, fun k' γ' a b c => ?_, fun k' a b => ?_, ?_, ?_⟩
  · rw [up_ne1 (by omega), up_ne1 (by omega), up_ne1 (by omega), up_ne1 (by omega)]; exact h.1 y hy
  · rw [up_ne1 (by omega), up_ne1 (by omega)]; exact h.2.1 k' γ' a b c
  · by_cases e : k' = k
    · subst e; rw [up_same, up_same]
    · rw [up_ne2 e, up_ne2 e]; exact h.2.2.1 k' a b
  · rw [up_ne1 (by omega)]; exact h.2.2.2.1
  · rw [up_ne1 (by omega)]; exact h.2.2.2.2
theorem RC.known {iv ρ : IV} {r y : Nat} {x : Int32} (h : RC iv r ρ) : RC (up iv (r + 2) y x) r (up ρ 1 y x) := by
  refine ⟨fun z hz => ?_, fun k' γ' a b c => ?_, fun k' a b => ?_, ?_, ?_⟩
  · refine ⟨by rw [up_ne1 (by omega), up_ne1 (by omega)]; exact (h.1 z hz).1, ?_⟩
    by_cases e : z = y
    · subst e; rw [up_same, up_same]
    · rw [up_ne2 e, up_ne2 e]; exact (h.1 z hz).2
  · rw [up_ne1 (by omega), up_ne1 (by omega)]; exact h.2.1 k' γ' a b c
  · rw [up_ne1 (by omega), up_ne1 (by omega)]; exact h.2.2.1 k' a b
  · rw [up_ne1 (by omega)]; exact h.2.2.2.1
  · rw [up_ne1 (by omega)]; exact h.2.2.2.2
theorem RC.grd {iv ρ : IV} {r y : Nat} {x : Int32} (h : RC iv r ρ) : RC (up iv (r + 1) y x) r (up ρ 0 y x) := by
  refine ⟨fun z hz => ?_, fun k' γ' a b c => ?_, fun k' a b => ?_, ?_, ?_⟩
  · refine ⟨?_, by rw [up_ne1 (by omega), up_ne1 (by omega)]; exact (h.1 z hz).2⟩
    by_cases e : z = y
    · subst e; rw [up_same, up_same]
    · rw [up_ne2 e, up_ne2 e]; exact (h.1 z hz).1
  · rw [up_ne1 (by omega), up_ne1 (by omega)]; exact h.2.1 k' γ' a b c
  · rw [up_ne1 (by omega), up_ne1 (by omega)]; exact h.2.2.1 k' a b
  · rw [up_ne1 (by omega)]; exact h.2.2.2.1
  · rw [up_ne1 (by omega)]; exact h.2.2.2.2
theorem RC.aq {iv iv' ρ : IV} {r : Nat} (h : RC iv r ρ) (ho : Off (Aq r) iv iv') (hr : 27 ≤ r ∧ r ≤ 57) : RC iv' r ρ := h.off ho (fun a b z => by omega)
theorem ask_nn {S : Nat → Nat → List Int32} {ρ : IV} {y : Nat} {m : Int32} : ∃ n, n ≤ 999 ∧ askS S ρ 0 y m = nI n := by
  unfold askS clampS
  generalize vl _ _ = v
  rw [show leastS 0 = 0 from rfl]
  by_cases h1 : v < 0
  · exact ⟨0, by decide, by rw [if_pos h1]; decide⟩
  · rw [if_neg h1]
    by_cases h2 : 999 < v
    · exact ⟨999, by decide, by rw [if_pos h2]; decide⟩
    · rw [if_neg h2]
      have := nB (n := v) (k := 999) 999 (by decide) ⟨Int32.not_lt.mp h1, Int32.not_lt.mp h2⟩
      exact ⟨_, this.2, this.1⟩
def thS (S : Nat → Nat → List Int32) (ρ : IV) (γ : Nat) : IV := if 0 < aheadS ρ then turnS S ρ γ else ρ
theorem gr_th {S : Nat → Nat → List Int32} {ρ : IV} {γ : Nat} (hγ : γ < 2) (h : GR ρ) : GR (thS S ρ γ) := by
  unfold thS; split
  · exact gr_turn hγ h
  · exact h
theorem yard_eq {ρ : IV} {γ : Nat} {w e d : Int32} : up (up (up (up ρ 1 (nextN ρ γ) 1) (2 + γ) 4 d) (2 + γ) 5 w) (2 + γ) 6 e = up (up (up (up ρ 1 (nextN ρ γ) 1) (2 + γ) 5 w) (2 + γ) 6 e) (2 + γ) 4 d := by
  rw [up_comm (f := up ρ 1 (nextN ρ γ) 1) (i := 2 + γ) (k := 4) (j := 2 + γ) (l := 5) (by omega), up_comm (i := 2 + γ) (k := 4) (j := 2 + γ) (l := 6) (by omega)]
section CTURN
variable {g : GS} {l : Launch} {Γ : Sh} {iv : IV} {rv : RV} {lv : LV}
set_option maxRecDepth 4000 in
theorem ctn_loop {D : Nat} {Q : Qt} {r : Nat} (hS : ShRd Γ rv r) (hr : 27 ≤ r ∧ r ≤ 57) {S : Nat → Nat → List Int32} {t : Nat} (hrl : rv r 8 = rq t) (ht6 : t < 6) {γ : Nat} (hγ : γ < 2) : ∀ (n i : Nat) (iv ρ : IV) (v3 v4 : Value) {x : Int32}, i + n = 24 → x = nI i → v3.category = 1 → v4.category = 1 → RC iv r ρ → Mm iv r ρ S → GR ρ → ρ 4 8 = nI t → RuC Γ iv rv t S →
    (∀ (iv' : IV) (v2 v3 v4 : Value), v2.category = 1 → v3.category = 1 → v4.category = 1 → Off (Own r) iv iv' → RC iv' r (ylp S γ n ρ) → Mm iv' r (ylp S γ n ρ) S → Rn g l mX3_takeTurn (rmA (D + 3) 0 0) Q 0 0 133 [.ref r, .ref (r + 3 + 3 * γ), v2, v3, v4] [] Γ iv' rv lv) → Rn g l mX3_takeTurn (rmA (D + 3) 0 0) Q 0 0 41 [.ref r, .ref (r + 3 + 3 * γ), .int x, v3, v4] [] Γ iv rv lv := by
  intro n
  induction n with
  | zero =>
    intro i iv ρ v3 v4 x hn hx h3 h4 hR hM hg ht hU kk
    obtain rfl : i = 24 := by omega
    refine r_iload2 dX3_takeTurn_41 ?_
    refine rn_bipush (24) dX3_takeTurn_42 (by decide) ?_
    refine rn_icmp_ge 133 dX3_takeTurn_44 rfl (fun _ => ?_) (fun h => absurd (by rw [hx]; decide) h)
    exact kk _ _ _ _ rfl h3 h4 Off.refl hR hM
  | succ n ih =>
    intro i iv ρ v3 v4 x hn hx h3 h4 hR hM hg ht hU kk
    refine r_iload2 dX3_takeTurn_41 ?_
    refine rn_bipush (24) dX3_takeTurn_42 (by decide) ?_
    refine rn_icmp_ge 133 dX3_takeTurn_44 rfl (fun h => absurd h (fun z => by rw [hx, show (24 : Int32) = nI 24 by decide, nI_leI (by decide) (by omega)] at z; omega)) (fun _ => ?_)
    refine r_aload0 dX3_takeTurn_47 ?_
    refine cpiV0 dX3_takeTurn_48 ov_X3_ahead rfl ml_X3_73 hS.1 rfl (Nat.zero_le _) (Nat.zero_le _) (Nat.zero_le _) (ct_ahead _ hS hR) ?_
    refine rn_if_le 133 dX3_takeTurn_51 rfl (fun c51 => ?_) (fun c51 => ?_)
    · have ee : ylp S γ (n + 1) ρ = ρ := ylp_stop (Int32.not_lt.mpr c51)
      exact kk _ _ _ _ rfl h3 h4 Off.refl (by rw [ee]; exact hR) (by rw [ee]; exact hM)
    · have hpos := Int32.not_le.mp c51
      have hlt := (ahead_pos hg).mp hpos
      have hnx := next_lt (γ := γ) hlt
      refine r_aload0 dX3_takeTurn_54 ?_
      refine rn_iconst (1) dX3_takeTurn_55 (by decide) ?_
      refine r_aload1 dX3_takeTurn_56 ?_
      refine cciV2 dX3_takeTurn_57 ov_X3_askOfNext rfl ml_X3_119 hS.1 rfl (Nat.zero_le _) (Nat.zero_le _) (Nat.zero_le _) (ct_askN D hS hr hR hrl ht ht6 hU (p := 1) hg hlt hM (by decide) (by decide) hγ) (fun x57 iv2 h57 => ?_)
      refine rn_eqi _ h57.1 ?_
      have hR2 := hR.aq h57.2.1 hr
      refine r_istore3 dX3_takeTurn_60 rfl ?_
      refine r_aload1 dX3_takeTurn_61 ?_
      refine gf_X3_112 dX3_takeTurn_62 rfl (hS.gang hγ).1 ?_
      refine rn_eqi (ρ (2 + γ) 5) (hR2.gang 5 (by decide) (by decide) hγ) ?_
      refine r_iload3 dX3_takeTurn_65 ?_
      refine rn_icmp_ge 72 dX3_takeTurn_66 rfl (fun c66 => ?_) (fun c66 => ?_)
      · refine r_aload1 dX3_takeTurn_72 ?_
        refine cpiV0 dX3_takeTurn_73 ov_X1_nextYard rfl ml_X3_106 (hS.gang hγ).1 rfl (Nat.zero_le _) (Nat.zero_le _) (Nat.zero_le _) (ct_nextYard _ (hS.gang hγ)) ?_
        refine rn_eqi (nI (nextN ρ γ)) (hR2.next hg hlt hγ) ?_
        refine r_istore4 dX3_takeTurn_76 rfl ?_
        refine r_iload4 dX3_takeTurn_78 ?_
        refine cpiSN1 dX3_takeTurn_80 os_X6_isYard rfl ml_X3_52 (Nat.zero_le _) (Nat.zero_le _) (Nat.zero_le _) (ct_isYard _ _) ?_
        refine rn_if_eq 94 dX3_takeTurn_83 rfl (fun h => absurd h (by rw [bI_t ⟨nI_pos' (by omega), by rw [show (24 : Int32) = nI 24 by decide]; exact nI_lt hnx (by decide)⟩]; decide)) (fun _ => ?_)
        refine r_aload0 dX3_takeTurn_86 ?_
        refine gf_X3_15 dX3_takeTurn_87 rfl hS.1 hS.2.2.1.1 ?_
        refine r_iload4 dX3_takeTurn_90 ?_
        refine rn_iconst (1) dX3_takeTurn_92 (by decide) ?_
        refine rn_iast (nextN ρ γ) dX3_takeTurn_93 hS.2.2.1.2 rfl hnx (by decide) ?_
        refine r_aload1 dX3_takeTurn_94 ?_
        refine rn_dup dX3_takeTurn_95 rfl ?_
        refine gf_X3_56 dX3_takeTurn_96 rfl (hS.gang hγ).1 ?_
        refine rn_eqi (ρ (2 + γ) 4) ((up_ne1 (by omega)).trans (hR2.gang 4 (by decide) (by decide) hγ)) ?_
        refine rn_iconst (1) dX3_takeTurn_99 (by decide) ?_
        refine rn_iadd dX3_takeTurn_100 ?_
        refine pf_X3_56 dX3_takeTurn_101 rfl (hS.gang hγ).1 ?_
        refine r_aload1 dX3_takeTurn_104 ?_
        refine rn_dup dX3_takeTurn_105 rfl ?_
        refine gf_X3_112 dX3_takeTurn_106 rfl (hS.gang hγ).1 ?_
        refine rn_eqi (ρ (2 + γ) 5) ((up_ne2 (by decide)).trans ((up_ne1 (by omega)).trans (hR2.gang 5 (by decide) (by decide) hγ))) ?_
        refine r_iload3 dX3_takeTurn_109 ?_
        refine rn_isub dX3_takeTurn_110 ?_
        refine pf_X3_112 dX3_takeTurn_111 rfl (hS.gang hγ).1 ?_
        refine r_aload1 dX3_takeTurn_114 ?_
        refine rn_dup dX3_takeTurn_115 rfl ?_
        refine gf_X3_59 dX3_takeTurn_116 rfl (hS.gang hγ).1 ?_
        refine rn_eqi (ρ (2 + γ) 6) ((up_ne2 (by decide)).trans ((up_ne2 (by decide)).trans ((up_ne1 (by omega)).trans (hR2.gang 6 (by decide) (by decide) hγ)))) ?_
        refine r_aload0 dX3_takeTurn_119 ?_
        refine gf_X3_34 dX3_takeTurn_120 rfl hS.1 ?_
        refine rn_eqi (ρ 4 5) ((up_ne1 (by omega)).trans ((up_ne1 (by omega)).trans ((up_ne1 (by omega)).trans (hR2.2.2.1 5 (by decide) (by decide))))) ?_
        refine rn_iadd dX3_takeTurn_123 ?_
        refine pf_X3_59 dX3_takeTurn_124 rfl (hS.gang hγ).1 ?_
        refine r_iinc2 _ dX3_takeTurn_127 rfl rfl ?_
        refine rn_goto 41 dX3_takeTurn_130 rfl ?_
        have hRk := hR2.known (y := nextN ρ γ) (x := 1)
        have hRd := hRk.upg 4 (γ := γ) (x := ρ (2 + γ) 4 + 1) (by decide) (by decide) hγ
        have hRw := hRd.upg 5 (γ := γ) (x := ρ (2 + γ) 5 - askS S ρ 1 (nextN ρ γ) (ρ (2 + γ) 3)) (by decide) (by decide) hγ
        have hRe := hRw.upg 6 (γ := γ) (x := ρ (2 + γ) 6 + ρ 4 5) (by decide) (by decide) hγ
        rw [yard_eq] at hRe
        have hyd := hg.yard hγ hlt (askS S ρ 1 (nextN ρ γ) (ρ (2 + γ) 3))
        have hoy : Off (Own r) iv2 (up (up (up (up iv2 (r + 2) (nextN ρ γ) 1) (r + 3 + 3 * γ) 4 (ρ (2 + γ) 4 + 1)) (r + 3 + 3 * γ) 5 (ρ (2 + γ) 5 - askS S ρ 1 (nextN ρ γ) (ρ (2 + γ) 3))) (r + 3 + 3 * γ) 6 (ρ (2 + γ) 6 + ρ 4 5)) := (((off_up (by omega)).trans (off_up (by omega))).trans (off_up (by omega))).trans (off_up (by omega))
        have hMy : Mm _ r (yardS ρ γ (askS S ρ 1 (nextN ρ γ) (ρ (2 + γ) 3))) S := h57.2.2.less (iv' := (up (up (up (up iv2 (r + 2) (nextN ρ γ) 1) (r + 3 + 3 * γ) 4 (ρ (2 + γ) 4 + 1)) (r + 3 + 3 * γ) 5 (ρ (2 + γ) 5 - askS S ρ 1 (nextN ρ γ) (ρ (2 + γ) 3))) (r + 3 + 3 * γ) 6 (ρ (2 + γ) 6 + ρ 4 5))) (fun δ z h1 h2 => by rw [up_ne1 (by omega), up_ne1 (by omega), up_ne1 (by omega), up_ne1 (by omega)]) (by omega)
        have hey := ylp_yes (S := S) (γ := γ) (n := n) hpos (Int32.not_lt.mpr c66)
        exact ih (x := x + 1) (i + 1) _ _ _ _ (by omega) (by rw [hx]; exact nI_1 i) rfl rfl hRe hMy hyd.1 ((rule_yard hγ).trans ht) ((hU.own hr (aq_own h57.2.1)).own hr hoy) (fun iv3 v2 v3 v4 k2 k3 k4 ho hR3 hM3 => kk iv3 v2 v3 v4 k2 k3 k4 (((aq_own h57.2.1).trans hoy).trans ho) (by rw [hey]; exact hR3) (by rw [hey]; exact hM3))
      · refine rn_goto 133 dX3_takeTurn_69 rfl ?_
        have ee : ylp S γ (n + 1) ρ = ρ := ylp_no hpos (Int32.not_le.mp c66)
        exact kk _ _ _ _ rfl rfl h4 (aq_own h57.2.1) (by rw [ee]; exact hR2) (by rw [ee]; exact h57.2.2)
end CTURN
