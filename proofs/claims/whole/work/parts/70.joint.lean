/-! BOTH SIDES: one state -/
/-- road, kept road, is one kept, number of texts, their steps, tape, its length, sheets -/
abbrev Jt : Type := IV × IV × Int32 × Nat × (Nat → Nat → List Int32) × (Nat → Int32) × Nat × IV
abbrev Jt.r (j : Jt) : IV := j.1
abbrev Jt.k (j : Jt) : IV := j.2.1
abbrev Jt.i (j : Jt) : Int32 := j.2.2.1
abbrev Jt.T (j : Jt) : Nat := j.2.2.2.1
abbrev Jt.S (j : Jt) : Nat → Nat → List Int32 := j.2.2.2.2.1
abbrev Jt.b (j : Jt) : Nat → Int32 := j.2.2.2.2.2.1
abbrev Jt.n (j : Jt) : Nat := j.2.2.2.2.2.2.1
abbrev Jt.e (j : Jt) : IV := j.2.2.2.2.2.2.2
abbrev Jt.rd (j : Jt) (r : IV) : Jt := (r, j.2)
def JG (j : Jt) : Prop := (GQ j.r j.T) ∧ (¬ j.i = 0 → GQ j.k j.T) ∧ (1 ≤ j.T) ∧ (j.T ≤ 6) ∧ (j.n ≤ 160) ∧ (∀ q, q < j.n → 0 ≤ j.b q ∧ j.b q ≤ 255) ∧ (GSh j.e)
theorem JG.gq {j : Jt} (h : JG j) : GQ j.r j.T := h.1
theorem JG.gk {j : Jt} (h : JG j) : ¬ j.i = 0 → GQ j.k j.T := h.2.1
theorem JG.t1 {j : Jt} (h : JG j) : 1 ≤ j.T := h.2.2.1
theorem JG.t6 {j : Jt} (h : JG j) : j.T ≤ 6 := h.2.2.2.1
theorem JG.n6 {j : Jt} (h : JG j) : j.n ≤ 160 := h.2.2.2.2.1
theorem JG.bb {j : Jt} (h : JG j) : ∀ q, q < j.n → 0 ≤ j.b q ∧ j.b q ≤ 255 := h.2.2.2.2.2.1
theorem JG.gs {j : Jt} (h : JG j) : GSh j.e := h.2.2.2.2.2.2
def MI_ (j : Jt) (Γ : Sh) (iv : IV) (rv : RV) : Prop := (ShM Γ rv) ∧ (RM iv j.r) ∧ (iv 75 45 = j.i) ∧ (¬ j.i = 0 → KpM iv j.k) ∧ (TextsM iv j.T j.S) ∧ (iv 75 3 = nI j.T) ∧ (iv 75 6 = nI j.n) ∧ (∀ q, q < j.n → iv 78 q = j.b q) ∧ (SheetsM iv j.e)
theorem MI_.sh {j : Jt} {Γ : Sh} {iv : IV} {rv : RV} (h : MI_ j Γ iv rv) : ShM Γ rv := h.1
theorem MI_.rm {j : Jt} {Γ : Sh} {iv : IV} {rv : RV} (h : MI_ j Γ iv rv) : RM iv j.r := h.2.1
theorem MI_.im {j : Jt} {Γ : Sh} {iv : IV} {rv : RV} (h : MI_ j Γ iv rv) : iv 75 45 = j.i := h.2.2.1
theorem MI_.kp {j : Jt} {Γ : Sh} {iv : IV} {rv : RV} (h : MI_ j Γ iv rv) : ¬ j.i = 0 → KpM iv j.k := h.2.2.2.1
theorem MI_.tx {j : Jt} {Γ : Sh} {iv : IV} {rv : RV} (h : MI_ j Γ iv rv) : TextsM iv j.T j.S := h.2.2.2.2.1
theorem MI_.t3 {j : Jt} {Γ : Sh} {iv : IV} {rv : RV} (h : MI_ j Γ iv rv) : iv 75 3 = nI j.T := h.2.2.2.2.2.1
theorem MI_.t6 {j : Jt} {Γ : Sh} {iv : IV} {rv : RV} (h : MI_ j Γ iv rv) : iv 75 6 = nI j.n := h.2.2.2.2.2.2.1
theorem MI_.tp {j : Jt} {Γ : Sh} {iv : IV} {rv : RV} (h : MI_ j Γ iv rv) : ∀ q, q < j.n → iv 78 q = j.b q := h.2.2.2.2.2.2.2.1
theorem MI_.sm {j : Jt} {Γ : Sh} {iv : IV} {rv : RV} (h : MI_ j Γ iv rv) : SheetsM iv j.e := h.2.2.2.2.2.2.2.2
def CI (j : Jt) (Γ : Sh) (iv : IV) (rv : RV) : Prop := (ShX Γ rv) ∧ (RC iv 27 j.r) ∧ (∃ t, t < j.T ∧ j.r 4 8 = nI t ∧ rv 27 8 = rq t) ∧ (Gu iv 47) ∧ (Gu iv 57) ∧ (Rules Γ iv rv j.T j.S) ∧ (iv 14 8 = nI j.T) ∧ (iv 14 9 = j.i) ∧ (∃ κ, RC iv 37 κ ∧ (¬ j.i = 0 → (∀ x, ckS κ x = ckS j.k x) ∧ ∃ t, t < j.T ∧ j.k 4 8 = nI t ∧ rv 37 8 = rq t)) ∧ (TxR iv j.b j.n) ∧ (iv 19 0 = 0) ∧ (SheetsC iv j.e) ∧ (Γ.1 = rq j.T)
theorem CI.sh {j : Jt} {Γ : Sh} {iv : IV} {rv : RV} (h : CI j Γ iv rv) : ShX Γ rv := h.1
theorem CI.rc {j : Jt} {Γ : Sh} {iv : IV} {rv : RV} (h : CI j Γ iv rv) : RC iv 27 j.r := h.2.1
theorem CI.rn {j : Jt} {Γ : Sh} {iv : IV} {rv : RV} (h : CI j Γ iv rv) : ∃ t, t < j.T ∧ j.r 4 8 = nI t ∧ rv 27 8 = rq t := h.2.2.1
theorem CI.g4 {j : Jt} {Γ : Sh} {iv : IV} {rv : RV} (h : CI j Γ iv rv) : Gu iv 47 := h.2.2.2.1
theorem CI.g5 {j : Jt} {Γ : Sh} {iv : IV} {rv : RV} (h : CI j Γ iv rv) : Gu iv 57 := h.2.2.2.2.1
theorem CI.ru {j : Jt} {Γ : Sh} {iv : IV} {rv : RV} (h : CI j Γ iv rv) : Rules Γ iv rv j.T j.S := h.2.2.2.2.2.1
theorem CI.t8 {j : Jt} {Γ : Sh} {iv : IV} {rv : RV} (h : CI j Γ iv rv) : iv 14 8 = nI j.T := h.2.2.2.2.2.2.1
theorem CI.i9 {j : Jt} {Γ : Sh} {iv : IV} {rv : RV} (h : CI j Γ iv rv) : iv 14 9 = j.i := h.2.2.2.2.2.2.2.1
theorem CI.kp {j : Jt} {Γ : Sh} {iv : IV} {rv : RV} (h : CI j Γ iv rv) : ∃ κ, RC iv 37 κ ∧ (¬ j.i = 0 → (∀ x, ckS κ x = ckS j.k x) ∧ ∃ t, t < j.T ∧ j.k 4 8 = nI t ∧ rv 37 8 = rq t) := h.2.2.2.2.2.2.2.2.1
theorem CI.tx {j : Jt} {Γ : Sh} {iv : IV} {rv : RV} (h : CI j Γ iv rv) : TxR iv j.b j.n := h.2.2.2.2.2.2.2.2.2.1
theorem CI.f9 {j : Jt} {Γ : Sh} {iv : IV} {rv : RV} (h : CI j Γ iv rv) : iv 19 0 = 0 := h.2.2.2.2.2.2.2.2.2.2.1
theorem CI.sc {j : Jt} {Γ : Sh} {iv : IV} {rv : RV} (h : CI j Γ iv rv) : SheetsC iv j.e := h.2.2.2.2.2.2.2.2.2.2.2.1
theorem CI.gm {j : Jt} {Γ : Sh} {iv : IV} {rv : RV} (h : CI j Γ iv rv) : Γ.1 = rq j.T := h.2.2.2.2.2.2.2.2.2.2.2.2
theorem SheetsM.kp {iv iv' η : IV} (h : SheetsM iv η) (ho : ∀ a b, 94 ≤ a → a ≤ 97 → iv' a b = iv a b) : SheetsM iv' η := fun s hs => ⟨(ho _ _ (by decide) (by decide)).trans (h s hs).1, fun z => (ho _ _ (by decide) (by decide)).trans ((h s hs).2.1 z), fun z => ⟨(ho _ _ (by decide) (by decide)).trans ((h s hs).2.2 z).1, fun i hi => (ho _ _ (by decide) (by decide)).trans (((h s hs).2.2 z).2 i hi)⟩⟩
theorem RM.kp {iv iv' ρ : IV} (h : RM iv ρ) (ho : ∀ a b, 75 ≤ a → a ≤ 87 → iv' a b = iv a b) : RM iv' ρ :=
  ⟨fun y hy => ⟨(ho 79 y (by decide) (by decide)).trans (h.1 y hy).1, (ho 80 y (by decide) (by decide)).trans (h.1 y hy).2⟩, fun k γ h1 h2 h3 => (ho _ _ (by omega) (by omega)).trans (h.2.1 k γ h1 h2 h3), fun k h1 h2 => (ho _ _ (by decide) (by decide)).trans (h.2.2.1 k h1 h2), (ho _ _ (by decide) (by decide)).trans h.2.2.2⟩
theorem ShM.kp {Γ : Sh} {rv rv' : RV} (h : ShM Γ rv) (hr : ∀ b, rv' 75 b = rv 75 b) : ShM Γ rv' := ⟨h.1, fun q hq => ⟨(hr q.1).trans (h.2 q hq).1, (h.2 q hq).2⟩⟩
/-- the reference's side, where its texts, tape, image, sheets are not written -/
theorem MI_.st {j : Jt} {Γ : Sh} {iv iv' : IV} {rv rv' : RV} {P : Nat → Nat → Prop} (h : MI_ j Γ iv rv) (ho : Off P iv iv') (hp : ∀ a b, P a b → ¬ (75 ≤ a ∧ a ≤ 97) ∨ (79 ≤ a ∧ a ≤ 90) ∨ (a = 75 ∧ ¬ b = 3 ∧ ¬ b = 6 ∧ b < 45)) (hr : ∀ b, rv' 75 b = rv 75 b) {r' : IV} (hR : RM iv' r') : MI_ (j.rd r') Γ iv' rv' :=
  have hn : ∀ a b, ¬ (¬ (75 ≤ a ∧ a ≤ 97) ∨ (79 ≤ a ∧ a ≤ 90) ∨ (a = 75 ∧ ¬ b = 3 ∧ ¬ b = 6 ∧ b < 45)) → iv' a b = iv a b := fun a b z => ho a b (fun y => z (hp a b y))
  ⟨h.sh.kp hr, hR, (hn _ _ (by decide)).trans h.im, fun z => (h.kp z).off ho (fun a b y => by have := hp a b y; omega), h.tx.off ho (fun b => ⟨fun y => by have := hp _ _ y; omega, fun y => by have := hp _ _ y; omega⟩), (hn _ _ (by decide)).trans h.t3, (hn _ _ (by decide)).trans h.t6, fun q hq => (hn _ _ (by omega)).trans (h.tp q hq), h.sm.kp (fun a b y z => hn _ _ (by omega))⟩
/-- what the class writes is none of the reference's -/
theorem MI_.ck {j : Jt} {Γ : Sh} {iv iv' : IV} {rv rv' : RV} {P : Nat → Nat → Prop} (h : MI_ j Γ iv rv) (ho : Off P iv iv') (hp : ∀ a b, P a b → ¬ (75 ≤ a ∧ a ≤ 97)) (hr : ∀ b, rv' 75 b = rv 75 b) : MI_ j Γ iv' rv' :=
  h.st ho (fun a b y => Or.inl (hp a b y)) hr (h.rm.kp (fun a b y z => ho _ _ (fun w => hp _ _ w (by omega))))
/-- the class's side, where its texts, tape, image, sheets are not written -/
theorem CI.st {j : Jt} {Γ : Sh} {iv iv' : IV} {rv rv' : RV} {P : Nat → Nat → Prop} (h : CI j Γ iv rv) (ho : Off P iv iv') (hp : ∀ a b, P a b → a = 15 ∨ (27 ≤ a ∧ a ≤ 36) ∨ (47 ≤ a ∧ a ≤ 66) ∨ Pl a ∨ (75 ≤ a ∧ a ≤ 97)) (hv : ∀ a b, ¬ (a % 10 = 7 ∧ b = 8) → rv' a b = rv a b) (h37 : rv' 37 8 = rv 37 8) {r' : IV} (hR : RC iv' 27 r') (hn : ∃ t, t < j.T ∧ r' 4 8 = nI t ∧ rv' 27 8 = rq t) (g4 : Gu iv' 47) (g5 : Gu iv' 57) : CI (j.rd r') Γ iv' rv' := by
  have hi : ∀ a b, ¬ (a = 15 ∨ (27 ≤ a ∧ a ≤ 36) ∨ (47 ≤ a ∧ a ≤ 66) ∨ Pl a ∨ (75 ≤ a ∧ a ≤ 97)) → iv' a b = iv a b := fun a b z => ho a b (fun y => z (hp a b y))
  refine ⟨h.sh.offw hv, hR, hn, g4, g5, fun t ht => ⟨(hv 20 t (by omega)).trans (h.ru t ht).1, ((h.ru t ht).2.off ho (fun a b y => by have := hp a b y; omega)).offw hv⟩, (hi _ _ (by decide)).trans h.t8, (hi _ _ (by decide)).trans h.i9, ?_, ⟨(hi _ _ (by decide)).trans h.tx.1, h.tx.2.1, fun q hq => (hi _ _ (by decide)).trans (h.tx.2.2.1 q hq), h.tx.2.2.2⟩, (hi _ _ (by decide)).trans h.f9, h.sc.off ho (fun a b y => by have := hp a b y; omega), h.gm⟩
  obtain ⟨κ, a, b⟩ := h.kp
  refine ⟨κ, a.off ho (fun a b y => by have := hp a b y; omega), fun z => ⟨(b z).1, ?_⟩⟩
  obtain ⟨t, b1, b2, b3⟩ := (b z).2
  exact ⟨t, b1, b2, h37.trans b3⟩
theorem CI.cq {j : Jt} {Γ : Sh} {iv : IV} {rv : RV} (h : CI j Γ iv rv) (hj : JG j) : ∃ t, t < j.T ∧ CQ Γ iv rv j.r j.S t := by
  obtain ⟨t, a, b, c⟩ := h.rn
  exact ⟨t, a, h.sh, h.rc, hj.gq.1, c, b, by have := hj.t6; omega, (h.ru t a).2, h.g4, h.g5⟩
theorem CI.qx {j : Jt} {Γ : Sh} {iv iv' : IV} {rv rv' : RV} (h : CI j Γ iv rv) (hq : QX iv rv iv' rv') : CI j Γ iv' rv' := by
  obtain ⟨t, a, b, c⟩ := h.rn
  exact h.st hq.1 (fun a b y => by omega) hq.2.1.w (hq.2.1 _ _ (by decide)) (h.rc.off hq.1 (fun a b y => by omega)) ⟨t, a, b, (hq.2.1 _ _ (by decide)).trans c⟩ hq.2.2.1 hq.2.2.2
theorem CI.qt {j : Jt} {Γ : Sh} {iv iv' : IV} {rv rv' : RV} (h : CI j Γ iv rv) (hq : QT iv rv iv' rv') : CI j Γ iv' rv' := h.qx (hq.x h.g4)
theorem MI_.qx {j : Jt} {Γ : Sh} {iv iv' : IV} {rv rv' : RV} (h : MI_ j Γ iv rv) (hq : QX iv rv iv' rv') : MI_ j Γ iv' rv' := h.ck hq.1 (fun a b y => by omega) (fun b => hq.2.1 _ _ (by omega))
theorem MI_.qt {j : Jt} {Γ : Sh} {iv iv' : IV} {rv rv' : RV} (h : MI_ j Γ iv rv) (hq : QT iv rv iv' rv') : MI_ j Γ iv' rv' := h.ck hq.1 (fun a b y => by omega) (fun b => hq.2.1 _ _ (by omega))
/-- the class's road is another one -/
theorem CI.road {j : Jt} {Γ : Sh} {iv iv' : IV} {rv : RV} {P : Nat → Nat → Prop} (h : CI j Γ iv rv) (ho : Off P iv iv') (hp : ∀ a b, P a b → (27 ≤ a ∧ a ≤ 36) ∨ Pl a) {r' : IV} (hR : RC iv' 27 r') (h8 : r' 4 8 = j.r 4 8) : CI (j.rd r') Γ iv' rv := by
  obtain ⟨t, a, b, c⟩ := h.rn
  exact h.st ho (fun a b y => by have := hp a b y; omega) (fun _ _ _ => rfl) rfl hR ⟨t, a, h8.trans b, c⟩ (h.g4.off ho (fun y => by have := hp _ _ y; omega) (fun y => by have := hp _ _ y; omega)) (h.g5.off ho (fun y => by have := hp _ _ y; omega) (fun y => by have := hp _ _ y; omega))
/-- what the reference writes is none of the class's -/
theorem CI.mk_ {j : Jt} {Γ : Sh} {iv iv' : IV} {rv : RV} {P : Nat → Nat → Prop} (h : CI j Γ iv rv) (ho : Off P iv iv') (hp : ∀ a b, P a b → 75 ≤ a ∧ a ≤ 97) : CI j Γ iv' rv :=
  h.st ho (fun a b y => by have := hp a b y; omega) (fun _ _ _ => rfl) rfl (h.rc.off ho (fun a b y => by have := hp a b y; omega)) h.rn (h.g4.off ho (fun y => by have := hp _ _ y; omega) (fun y => by have := hp _ _ y; omega)) (h.g5.off ho (fun y => by have := hp _ _ y; omega) (fun y => by have := hp _ _ y; omega))
/-- the class has answered; both have answered -/
def LC (j j' : Jt) (x : Value) : Qt := fun r Γ' iv' rv' _ => r = some x ∧ CI j' Γ' iv' rv' ∧ MI_ j Γ' iv' rv'
def LM (j' : Jt) (x : Value) : Qt := fun r Γ' iv' rv' _ => r = some x ∧ CI j' Γ' iv' rv' ∧ MI_ j' Γ' iv' rv' 
section JOINT
variable {g : GS} {l : Launch} {Γ : Sh} {iv : IV} {rv : RV} {lv : LV}
end JOINT
