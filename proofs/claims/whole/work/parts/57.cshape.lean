/-! THE CLASS: its object; worth, Best -/
abbrev Qs (a _ : Nat) : Prop := a = 15 ∨ (57 ≤ a ∧ a ≤ 66) ∨ Pl a
abbrev Qc (a _ : Nat) : Prop := a = 15 ∨ a = 36 ∨ (47 ≤ a ∧ a ≤ 66) ∨ Pl a
def OffT (rv rv' : RV) : Prop := ∀ a b, ¬ (a = 57 ∧ b = 8) → rv' a b = rv a b
def OffV (rv rv' : RV) : Prop := ∀ a b, ¬ ((a = 47 ∨ a = 57) ∧ b = 8) → rv' a b = rv a b
/-- what a question leaves: it wrote nothing but what is its own -/
def QT (iv : IV) (rv : RV) (iv' : IV) (rv' : RV) : Prop := Off Qs iv iv' ∧ OffT rv rv' ∧ Gu iv' 57
def QX (iv : IV) (rv : RV) (iv' : IV) (rv' : RV) : Prop := Off Qc iv iv' ∧ OffV rv rv' ∧ Gu iv' 47 ∧ Gu iv' 57
theorem OffT.v {rv rv' : RV} (h : OffT rv rv') : OffV rv rv' := fun a b z => h a b (fun y => z ⟨Or.inr y.1, y.2⟩)
theorem OffT.refl {rv : RV} : OffT rv rv := fun _ _ _ => rfl
theorem OffV.refl {rv : RV} : OffV rv rv := fun _ _ _ => rfl
theorem OffT.trans {a b c : RV} (h : OffT a b) (h2 : OffT b c) : OffT a c := fun x y z => (h2 x y z).trans (h x y z)
theorem OffV.trans {a b c : RV} (h : OffV a b) (h2 : OffV b c) : OffV a c := fun x y z => (h2 x y z).trans (h x y z)
theorem QT.trans {a c e : IV} {b d f : RV} (h : QT a b c d) (h2 : QT c d e f) : QT a b e f := ⟨h.1.trans h2.1, h.2.1.trans h2.2.1, h2.2.2⟩
theorem QX.trans {a c e : IV} {b d f : RV} (h : QX a b c d) (h2 : QX c d e f) : QX a b e f := ⟨h.1.trans h2.1, h.2.1.trans h2.2.1, h2.2.2⟩
theorem Gu.off {iv iv' : IV} {r : Nat} {P : Nat → Nat → Prop} (h : Gu iv r) (ho : Off P iv iv') (h1 : ¬ P (r + 3) 0) (h2 : ¬ P (r + 6) 0) : Gu iv' r := ⟨(ho _ _ h1).trans h.1, (ho _ _ h2).trans h.2⟩
theorem QT.x {iv iv' : IV} {rv rv' : RV} (h : QT iv rv iv' rv') (hg : Gu iv 47) : QX iv rv iv' rv' := ⟨h.1.mono (fun a b z => by omega), h.2.1.v, hg.off h.1 (by omega) (by omega), h.2.2⟩
theorem QT.refl {iv : IV} {rv : RV} (h : Gu iv 57) : QT iv rv iv rv := ⟨Off.refl, OffT.refl, h⟩
theorem QX.refl {iv : IV} {rv : RV} (h0 : Gu iv 47) (h : Gu iv 57) : QX iv rv iv rv := ⟨Off.refl, OffV.refl, h0, h⟩
/-- the class's object, its roads, its reader, its rows -/
def ShX (Γ : Sh) (rv : RV) : Prop := IsK Γ 14 6 ∧ (rv 14 0 = 27 ∧ ShRd Γ rv 27) ∧ (rv 14 1 = 37 ∧ ShRd Γ rv 37) ∧ (rv 14 2 = 47 ∧ ShRd Γ rv 47) ∧ (rv 14 3 = 57 ∧ ShRd Γ rv 57) ∧ (rv 14 4 = 15 ∧ IsK Γ 15 0) ∧ (rv 14 5 = 16 ∧ ShR Γ rv) ∧ (rv 14 6 = 20 ∧ IsA Γ 20 23 6) ∧ (rv 14 7 = 21 ∧ IsA Γ 21 24 4) ∧ ∀ s, s < 4 → rv 21 s = 67 + 2 * s ∧ IsK Γ (67 + 2 * s) 5 ∧ rv (67 + 2 * s) 0 = 68 + 2 * s ∧ IsA Γ (68 + 2 * s) 20 40
theorem ShX.nw {Γ : Sh} {rv : RV} (h : ShX Γ rv) : ShRd Γ rv 27 := h.2.1.2
theorem ShX.kp {Γ : Sh} {rv : RV} (h : ShX Γ rv) : ShRd Γ rv 37 := h.2.2.1.2
theorem ShX.pl {Γ : Sh} {rv : RV} (h : ShX Γ rv) : ShRd Γ rv 47 := h.2.2.2.1.2
theorem ShX.tr {Γ : Sh} {rv : RV} (h : ShX Γ rv) : ShRd Γ rv 57 := h.2.2.2.2.1.2
theorem ShG.offv {Γ : Sh} {rv rv' : RV} {a : Nat} (h : ShG Γ rv a) (ho : ∀ b, rv' a b = rv a b) : ShG Γ rv' a := ⟨h.1, ⟨(ho _).trans h.2.1.1, h.2.1.2⟩, (ho _).trans h.2.2.1, h.2.2.2⟩
theorem ShRd.offv {Γ : Sh} {rv rv' : RV} {r : Nat} (h : ShRd Γ rv r) (hr : r % 10 = 7) (ho : ∀ a b, ¬ (a % 10 = 7 ∧ b = 8) → rv' a b = rv a b) : ShRd Γ rv' r := ⟨h.1, ⟨(ho _ _ (by omega)).trans h.2.1.1, h.2.1.2⟩, ⟨(ho _ _ (by omega)).trans h.2.2.1.1, h.2.2.1.2⟩, ⟨(ho _ _ (by omega)).trans h.2.2.2.1.1, h.2.2.2.1.2.offv (fun b => ho _ _ (by omega))⟩, ⟨(ho _ _ (by omega)).trans h.2.2.2.2.1.1, h.2.2.2.2.1.2.offv (fun b => ho _ _ (by omega))⟩, (ho _ _ (by omega)).trans h.2.2.2.2.2.1, h.2.2.2.2.2.2⟩
theorem ShX.offw {Γ : Sh} {rv rv' : RV} (h : ShX Γ rv) (ho : ∀ a b, ¬ (a % 10 = 7 ∧ b = 8) → rv' a b = rv a b) : ShX Γ rv' := by
  obtain ⟨h0, h1, h2, h3, h4, h5, ⟨h6, h6'⟩, h7, h8, h9⟩ := h
  have e : ∀ b, rv' 14 b = rv 14 b := fun b => ho _ _ (by omega)
  have e16 : ∀ b, rv' 16 b = rv 16 b := fun b => ho _ _ (by omega)
  refine ⟨h0, ⟨(e _).trans h1.1, h1.2.offv (by decide) ho⟩, ⟨(e _).trans h2.1, h2.2.offv (by decide) ho⟩, ⟨(e _).trans h3.1, h3.2.offv (by decide) ho⟩, ⟨(e _).trans h4.1, h4.2.offv (by decide) ho⟩, ⟨(e _).trans h5.1, h5.2⟩, ⟨(e _).trans h6, ?_⟩, ⟨(e _).trans h7.1, h7.2⟩, ⟨(e _).trans h8.1, h8.2⟩, fun s hs => ⟨(ho _ _ (by omega)).trans (h9 s hs).1, (h9 s hs).2.1, (ho _ _ (by omega)).trans (h9 s hs).2.2.1, (h9 s hs).2.2.2⟩⟩
  exact ⟨h6'.1, (e16 _).trans h6'.2.1, h6'.2.2.1, (e16 _).trans h6'.2.2.2.1, h6'.2.2.2.2.1, (e16 _).trans h6'.2.2.2.2.2.1, h6'.2.2.2.2.2.2⟩
theorem OffV.w {rv rv' : RV} (h : OffV rv rv') : ∀ a b, ¬ (a % 10 = 7 ∧ b = 8) → rv' a b = rv a b := fun a b z => h a b (by omega)
theorem RuC.offw {Γ : Sh} {iv : IV} {rv rv' : RV} {t : Nat} {S : Nat → Nat → List Int32} (h : RuC Γ iv rv t S) (ho : ∀ a b, ¬ (a % 10 = 7 ∧ b = 8) → rv' a b = rv a b) : RuC Γ iv rv' t S := by
  obtain ⟨h0, L, h1, h2, h3⟩ := h
  exact ⟨h0, L, h1, ⟨h2.1, ⟨(ho _ _ (by omega)).trans h2.2.1.1, h2.2.1.2⟩, ⟨(ho _ _ (by omega)).trans h2.2.2.1.1, h2.2.2.1.2⟩, ⟨(ho _ _ (by omega)).trans h2.2.2.2.1.1, h2.2.2.2.1.2⟩, (ho _ _ (by omega)).trans h2.2.2.2.2.1, h2.2.2.2.2.2⟩, h3⟩
/-- the class at rest: its road is ρ, the rule that of text t -/
def CQ (Γ : Sh) (iv : IV) (rv : RV) (ρ : IV) (S : Nat → Nat → List Int32) (t : Nat) : Prop := ShX Γ rv ∧ RC iv 27 ρ ∧ GR ρ ∧ rv 27 8 = rq t ∧ ρ 4 8 = nI t ∧ t < 6 ∧ RuC Γ iv rv t S ∧ Gu iv 47 ∧ Gu iv 57
theorem CQ.qx {Γ : Sh} {iv iv' : IV} {rv rv' : RV} {ρ : IV} {S : Nat → Nat → List Int32} {t : Nat} (h : CQ Γ iv rv ρ S t) (hq : QX iv rv iv' rv') : CQ Γ iv' rv' ρ S t := by
  obtain ⟨h1, h2, h3, h4, h5, h6, h7, h8, h9⟩ := h
  exact ⟨h1.offw hq.2.1.w, h2.off hq.1 (fun a b z => by omega), h3, (hq.2.1 _ _ (by decide)).trans h4, h5, h6, (h7.off hq.1 (fun a b z => by omega)).offw hq.2.1.w, hq.2.2.1, hq.2.2.2⟩
theorem CQ.qt {Γ : Sh} {iv iv' : IV} {rv rv' : RV} {ρ : IV} {S : Nat → Nat → List Int32} {t : Nat} (h : CQ Γ iv rv ρ S t) (hq : QT iv rv iv' rv') : CQ Γ iv' rv' ρ S t := h.qx (hq.x h.2.2.2.2.2.2.2.1)
/-- the trial's road -/
def TS (iv : IV) (rv : RV) (φ : IV) (S : Nat → Nat → List Int32) (t : Nat) : Prop := RC iv 57 φ ∧ Mm iv 57 φ S ∧ GR φ ∧ φ 4 8 = nI t ∧ rv 57 8 = rq t
theorem CQ.copied {Γ : Sh} {iv iv' : IV} {rv rv' : RV} {ρ : IV} {S : Nat → Nat → List Int32} {t : Nat} (h : CQ Γ iv rv ρ S t) (h1 : rv' = up rv 57 8 (rv 27 8)) (h2 : Off (fun a _ => 57 ≤ a ∧ a ≤ 57 + 9) iv iv') (h3 : RC iv' 57 ρ) (h4 : ∀ ψ S', Mm iv' 57 ψ S') : CQ Γ iv' rv' ρ S t ∧ QT iv rv iv' rv' ∧ TS iv' rv' ρ S t ∧ ∀ ψ S', Mm iv' 57 ψ S' := by
  subst h1
  have hq : QT iv rv iv' (up rv 57 8 (rv 27 8)) := ⟨h2.mono (fun a b z => by omega), fun a b z => up_ne z, h3.gu⟩
  exact ⟨h.qt hq, hq, ⟨h3, h4 _ _, h.2.2.1, h.2.2.2.2.1, (up_same _ _ _ _).trans h.2.2.2.1⟩, h4⟩
/-- a road that the trial is copied from -/
def SF (Γ : Sh) (iv : IV) (rv : RV) (f : Nat) (φ : IV) (t : Nat) : Prop := ShRd Γ rv f ∧ RC iv f φ ∧ rv f 8 = rq t ∧ φ 4 8 = nI t ∧ GR φ
theorem SF.qt {Γ : Sh} {iv iv' : IV} {rv rv' : RV} {f : Nat} {φ : IV} {t : Nat} (h : SF Γ iv rv f φ t) (hf : f = 27 ∨ f = 47) (hq : QT iv rv iv' rv') : SF Γ iv' rv' f φ t :=
  ⟨h.1.offv (by omega) hq.2.1.v.w, h.2.1.off hq.1 (fun a b z => by omega), (hq.2.1 _ _ (by omega)).trans h.2.2.1, h.2.2.2⟩
theorem CQ.sf {Γ : Sh} {iv : IV} {rv : RV} {ρ : IV} {S : Nat → Nat → List Int32} {t : Nat} (h : CQ Γ iv rv ρ S t) : SF Γ iv rv 27 ρ t := ⟨h.1.nw, h.2.1, h.2.2.2.1, h.2.2.2.2.1, h.2.2.1⟩
theorem CQ.copiedF {Γ : Sh} {iv iv' : IV} {rv rv' : RV} {ρ φ : IV} {S : Nat → Nat → List Int32} {t f : Nat} (h : CQ Γ iv rv ρ S t) (hf : f = 27 ∨ f = 47) (hF : SF Γ iv rv f φ t) (h1 : rv' = up rv 57 8 (rv f 8)) (h2 : Off (fun a _ => 57 ≤ a ∧ a ≤ 57 + 9) iv iv') (h3 : RC iv' 57 φ) (h4 : ∀ ψ S', Mm iv' 57 ψ S') : CQ Γ iv' rv' ρ S t ∧ SF Γ iv' rv' f φ t ∧ QT iv rv iv' rv' ∧ TS iv' rv' φ S t ∧ ∀ ψ S', Mm iv' 57 ψ S' := by
  subst h1
  have hq : QT iv rv iv' (up rv 57 8 (rv f 8)) := ⟨h2.mono (fun a b z => by omega), fun a b z => up_ne z, h3.gu⟩
  exact ⟨h.qt hq, hF.qt hf hq, hq, ⟨h3, h4 _ _, hF.2.2.2.2, hF.2.2.2.1, (up_same _ _ _ _).trans hF.2.2.1⟩, h4⟩
theorem QT.own {iv iv' : IV} {rv : RV} {φ : IV} (ho : Off (Own 57) iv iv') (hR : RC iv' 57 φ) : QT iv rv iv' rv := ⟨ho.mono (fun a b z => by omega), OffT.refl, hR.gu⟩
def BsC (iv : IV) (q : Int32 × Int32) : Prop := iv 15 0 = q.1 ∧ iv 15 1 = q.2 ∧ iv 15 2 = 0
theorem BsC.off {iv iv' : IV} {q : Int32 × Int32} {P : Nat → Nat → Prop} (h : BsC iv q) (ho : Off P iv iv') (hp : ∀ b, ¬ P 15 b) : BsC iv' q := ⟨(ho _ _ (hp _)).trans h.1, (ho _ _ (hp _)).trans h.2.1, (ho _ _ (hp _)).trans h.2.2⟩
def offer (iv : IV) (c v : Int32) : IV := if iv 15 2 = 0 ∧ v ≤ iv 15 1 then iv else up (up (up iv 15 0 c) 15 1 v) 15 2 0
theorem off_offer {iv : IV} {c v : Int32} : Off (fun a _ => a = 15) iv (offer iv c v) := by
  unfold offer
  split
  · exact Off.refl
  · exact ((off_up (S := fun a _ => a = 15) rfl).trans (off_up rfl)).trans (off_up rfl)
theorem offer_take {iv : IV} {c v : Int32} (h : ¬ (iv 15 2 = 0 ∧ v ≤ iv 15 1)) : BsC (offer iv c v) (c, v) := by
  unfold offer
  rw [if_neg h]
  exact ⟨rfl, rfl, rfl⟩
theorem offer_keep {iv : IV} {c v : Int32} {q : Int32 × Int32} (h : BsC iv q) (h2 : v ≤ q.2) : BsC (offer iv c v) q := by
  unfold offer
  rw [if_pos ⟨h.2.2, by rw [h.2.1]; exact h2⟩]
  exact h
section CSHAPE
variable {g : GS} {l : Launch} {Γ : Sh} {iv : IV} {rv : RV} {lv : LV}

set_option maxRecDepth 4000 in
theorem cwo_loop {D : Nat} {Q : Qt} {r : Nat} (hS : ShRd Γ rv r) (hr : 27 ≤ r ∧ r ≤ 57) {ρ iv0 : IV} (hR : RC iv0 r ρ) {S : Nat → Nat → List Int32} {t : Nat} (hrl : rv r 8 = rq t) (ht : ρ 4 8 = nI t) (ht6 : t < 6) (hU : RuC Γ iv0 rv t S) : ∀ (n i : Nat) (iv : IV) (s x : Int32), i + n = 24 → s = worthN S ρ i → x = nI i → Off (Ak r) iv0 iv → (∀ (iv' : IV) (s x : Int32), s = worthN S ρ 24 → x = nI 24 → Off (Ak r) iv0 iv' → Rn g l mX3_worth (rmA (D + 2) 0 0) Q 0 0 32 [.ref r, .int s, .int x] [] Γ iv' rv lv) → Rn g l mX3_worth (rmA (D + 2) 0 0) Q 0 0 4 [.ref r, .int s, .int x] [] Γ iv rv lv := by
  intro n
  induction n with
  | zero =>
    intro i iv s x hn hs hx ho kk
    obtain rfl : i = 24 := by omega
    refine r_iload2 dX3_worth_4 ?_
    refine rn_bipush (24) dX3_worth_5 (by decide) ?_
    refine rn_icmp_ge 32 dX3_worth_7 rfl (fun _ => ?_) (fun h => absurd (by rw [hx]; decide) h)
    exact kk _ _ _ hs hx ho
  | succ n ih =>
    intro i iv s x hn hs hx ho kk
    refine r_iload2 dX3_worth_4 ?_
    refine rn_bipush (24) dX3_worth_5 (by decide) ?_
    refine rn_icmp_ge 32 dX3_worth_7 rfl (fun h => absurd h (fun z => by rw [hx, show (24 : Int32) = nI 24 by decide, nI_leI (by decide) (by omega)] at z; omega)) (fun _ => ?_)
    refine r_iload1 dX3_worth_10 ?_
    refine r_aload0 dX3_worth_11 ?_
    refine rn_iconst (2) dX3_worth_12 (by decide) ?_
    refine r_iload2 dX3_worth_13 ?_
    refine r_aload0 dX3_worth_14 ?_
    refine gf_X3_23 dX3_worth_15 rfl hS.1 hS.2.2.2.1.1 ?_
    refine gf_X3_62 dX3_worth_18 rfl hS.2.2.2.1.2.1 ?_
    have hR1 := hR.off ho (fun a b z => by omega)
    refine rn_eqi (ρ 2 3) (hR1.up0 3 (by decide) (by decide)) ?_
    refine cciV3 dX3_worth_21 ov_X3_ask rfl ml_X3_65 hS.1 rfl (Nat.le_of_ble_eq_true rfl) (Nat.zero_le _) (Nat.zero_le _) (ct_ask D hS hr hR1 hrl ht ht6 (hU.own hr (ak_own ho)) (p := 2) (by decide) (by decide) hx (by omega) _) (fun x21 iv h21 => ?_)
    refine rn_eqi _ h21.1 ?_
    refine rn_iadd dX3_worth_24 ?_
    refine r_istore1 dX3_worth_25 rfl ?_
    refine r_iinc2 _ dX3_worth_26 rfl rfl ?_
    refine rn_goto 4 dX3_worth_29 rfl ?_
    exact ih (i + 1) _ _ _ (by omega) (by rw [hs]; rfl) (by rw [hx]; exact nI_1 i) (ho.trans h21.2) kk
set_option maxRecDepth 4000 in
theorem ct_worth (D : Nat) {r : Nat} (hS : ShRd Γ rv r) (hr : 27 ≤ r ∧ r ≤ 57) {ρ : IV} (hR : RC iv r ρ) {S : Nat → Nat → List Int32} {t : Nat} (hrl : rv r 8 = rq t) (ht : ρ 4 8 = nI t) (ht6 : t < 6) (hU : RuC Γ iv rv t S) : Ct g l mX3_worth (D + 2) 0 0 [.ref r] Γ iv rv lv (qCI Γ rv lv (fun x iv' => x = worthN S ρ 24 ∧ Off (Ak r) iv iv')) := by
  refine Ct.of (by decide +kernel) (Nat.le_of_ble_eq_true rfl) (Nat.le_of_ble_eq_true rfl) ?_
  refine rn_iconst (0) dX3_worth_0 (by decide) ?_
  refine r_istore1 dX3_worth_1 rfl ?_
  refine rn_iconst (0) dX3_worth_2 (by decide) ?_
  refine r_istore2 dX3_worth_3 rfl ?_
  refine cwo_loop (D := D) hS hr hR hrl ht ht6 hU 24 0 iv _ _ (by decide) rfl rfl Off.refl (fun iv2 s x hs hx ho => ?_)
  refine r_iload1 dX3_worth_32 ?_
  refine rn_iret dX3_worth_33 rfl (Nat.zero_le _) (Nat.zero_le _) ?_
  exact ⟨_, rfl, rfl, rfl, rfl, hs, ho⟩
set_option maxRecDepth 4000 in
theorem ct_clear (d : Nat) (hB : IsK Γ 15 0) : Ct g l mX0_clear (d) 0 0 [.ref 15] Γ iv rv lv (qCV Γ rv lv (fun iv' => iv' = up iv 15 2 1)) := by
  refine Ct.of (by decide +kernel) (Nat.le_of_ble_eq_true rfl) (Nat.le_of_ble_eq_true rfl) ?_
  refine r_aload0 dX0_clear_0 ?_
  refine rn_iconst (1) dX0_clear_1 (by decide) ?_
  refine pf_X0_18 dX0_clear_2 rfl (Or.inr rfl) hB ?_
  refine rn_vret dX0_clear_5 rfl (Nat.zero_le _) (Nat.zero_le _) ?_
  exact ⟨rfl, rfl, rfl, rfl, rfl⟩
set_option maxRecDepth 4000 in
theorem ct_offer (d : Nat) (hB : IsK Γ 15 0) (c v : Int32) : Ct g l mX0_offer (d) 0 0 [.ref 15, .int c, .int v] Γ iv rv lv (qCV Γ rv lv (fun iv' => iv' = offer iv c v)) := by
  refine Ct.of (by decide +kernel) (Nat.le_of_ble_eq_true rfl) (Nat.le_of_ble_eq_true rfl) ?_
  refine r_aload0 dX0_offer_0 ?_
  refine gf_X0_18 dX0_offer_1 rfl hB ?_
  refine rn_if_ne 16 dX0_offer_4 rfl (fun c4 => ?_) (fun c4 => ?_)
  · refine r_aload0 dX0_offer_16 ?_
    refine r_iload1 dX0_offer_17 ?_
    refine pf_X0_9 dX0_offer_18 rfl hB ?_
    refine r_aload0 dX0_offer_21 ?_
    refine r_iload2 dX0_offer_22 ?_
    refine pf_X0_15 dX0_offer_23 rfl hB ?_
    refine r_aload0 dX0_offer_26 ?_
    refine rn_iconst (0) dX0_offer_27 (by decide) ?_
    refine pf_X0_18 dX0_offer_28 rfl (Or.inl rfl) hB ?_
    refine rn_vret dX0_offer_31 rfl (Nat.zero_le _) (Nat.zero_le _) ?_
    refine ⟨rfl, rfl, rfl, rfl, ?_⟩
    unfold offer
    rw [if_neg (fun z => c4 z.1)]
  · refine r_iload2 dX0_offer_7 ?_
    refine r_aload0 dX0_offer_8 ?_
    refine gf_X0_15 dX0_offer_9 rfl hB ?_
    refine rn_icmp_gt 16 dX0_offer_12 rfl (fun c12 => ?_) (fun c12 => ?_)
    · refine r_aload0 dX0_offer_16 ?_
      refine r_iload1 dX0_offer_17 ?_
      refine pf_X0_9 dX0_offer_18 rfl hB ?_
      refine r_aload0 dX0_offer_21 ?_
      refine r_iload2 dX0_offer_22 ?_
      refine pf_X0_15 dX0_offer_23 rfl hB ?_
      refine r_aload0 dX0_offer_26 ?_
      refine rn_iconst (0) dX0_offer_27 (by decide) ?_
      refine pf_X0_18 dX0_offer_28 rfl (Or.inl rfl) hB ?_
      refine rn_vret dX0_offer_31 rfl (Nat.zero_le _) (Nat.zero_le _) ?_
      refine ⟨rfl, rfl, rfl, rfl, ?_⟩
      unfold offer
      rw [if_neg (fun z => absurd c12 (Int32.not_lt.mpr z.2))]
    · refine rn_vret dX0_offer_15 rfl (Nat.zero_le _) (Nat.zero_le _) ?_
      refine ⟨rfl, rfl, rfl, rfl, ?_⟩
      unfold offer
      rw [if_pos ⟨c4, Int32.not_lt.mp c12⟩]
end CSHAPE
