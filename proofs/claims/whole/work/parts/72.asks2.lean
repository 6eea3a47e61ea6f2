/-! BOTH SIDES: tape, texts, image, sheets -/
/-- tape and sheets are others -/
abbrev Jt.ts (j : Jt) (b : Nat → Int32) (n : Nat) (e : IV) : Jt := (j.r, j.k, j.i, j.T, j.S, b, n, e)
def Jt.fd (j : Jt) (c : Int32) : Jt := if (0 ≤ c ∧ c ≤ 255) ∧ ¬ j.n = 160 then j.ts (up1 j.b j.n c) (j.n + 1) j.e else j
def Jt.im (j : Jt) : Jt := (j.r, j.r, 1, j.T, j.S, j.b, j.n, j.e)
def stS (S : Nat → Nat → List Int32) (T : Nat) (q : List Int32 × List Int32 × List Int32) : Nat → Nat → List Int32 := fun t p => if t = T then (match p with
  | 0 => q.1
  | 1 => q.2.1
  | _ => q.2.2) else S t p
def Jt.tx (j : Jt) : Jt := if j.T = 6 then j else match txS j.b j.n with
  | some (.inr q) => (j.r, j.k, j.i, j.T + 1, stS j.S j.T q, j.b, 0, j.e)
  | _ => (j.r, j.k, j.i, j.T, j.S, j.b, 0, j.e)
theorem stS_ne {S : Nat → Nat → List Int32} {T t : Nat} {q : List Int32 × List Int32 × List Int32} (h : ¬ t = T) : stS S T q t = S t := funext fun p => if_neg h
theorem CI.ts {j : Jt} {Γ : Sh} {iv iv' : IV} {rv : RV} {P : Nat → Nat → Prop} (h : CI j Γ iv rv) (ho : Off P iv iv') (hp : ∀ a b, P a b → a = 16 ∨ a = 17 ∨ (67 ≤ a ∧ a ≤ 74)) {b : Nat → Int32} {n : Nat} {e : IV} (ht : TxR iv' b n) (hs : SheetsC iv' e) : CI (j.ts b n e) Γ iv' rv := by
  have hi : ∀ a b, ¬ (a = 16 ∨ a = 17 ∨ (67 ≤ a ∧ a ≤ 74)) → iv' a b = iv a b := fun a b z => ho a b (fun y => z (hp a b y))
  refine ⟨h.sh, h.rc.off ho (fun a b y => by have := hp a b y; omega), h.rn, h.g4.off ho (fun y => by have := hp _ _ y; omega) (fun y => by have := hp _ _ y; omega), h.g5.off ho (fun y => by have := hp _ _ y; omega) (fun y => by have := hp _ _ y; omega), fun t ht => ⟨(h.ru t ht).1, (h.ru t ht).2.off ho (fun a b y => by have := hp a b y; omega)⟩, (hi _ _ (by decide)).trans h.t8, (hi _ _ (by decide)).trans h.i9, ?_, ht, (hi _ _ (by decide)).trans h.f9, hs, h.gm⟩
  obtain ⟨κ, a, b⟩ := h.kp
  exact ⟨κ, a.off ho (fun a b y => by have := hp a b y; omega), b⟩
theorem MI_.ts {j : Jt} {Γ : Sh} {iv iv' : IV} {rv : RV} {P : Nat → Nat → Prop} (h : MI_ j Γ iv rv) (ho : Off P iv iv') (hp : ∀ a b, P a b → (a = 75 ∧ b = 6) ∨ a = 78 ∨ (94 ≤ a ∧ a ≤ 97)) {b : Nat → Int32} {n : Nat} {e : IV} (h6 : iv' 75 6 = nI n) (hb : ∀ q, q < n → iv' 78 q = b q) (hs : SheetsM iv' e) : MI_ (j.ts b n e) Γ iv' rv := by
  have hi : ∀ a b, ¬ ((a = 75 ∧ b = 6) ∨ a = 78 ∨ (94 ≤ a ∧ a ≤ 97)) → iv' a b = iv a b := fun a b z => ho a b (fun y => z (hp a b y))
  refine ⟨h.sh, ?_, (hi _ _ (by decide)).trans h.im, fun z => (h.kp z).off ho (fun a b y => by have := hp a b y; omega), h.tx.off ho (fun b => ⟨fun y => by have := hp _ _ y; omega, fun y => by have := hp _ _ y; omega⟩), (hi _ _ (by decide)).trans h.t3, h6, hb, hs⟩
  have hr := h.rm
  exact ⟨fun y hy => ⟨(hi 79 y (by omega)).trans (hr.1 y hy).1, (hi 80 y (by omega)).trans (hr.1 y hy).2⟩, fun k γ h1 h2 h3 => (hi _ _ (by omega)).trans (hr.2.1 k γ h1 h2 h3), fun k h1 h2 => (hi _ _ (by omega)).trans (hr.2.2.1 k h1 h2), (hi _ _ (by decide)).trans hr.2.2.2⟩
theorem JG.ts {j : Jt} (h : JG j) {b : Nat → Int32} {n : Nat} {e : IV} (hn : n ≤ 160) (hb : ∀ q, q < n → 0 ≤ b q ∧ b q ≤ 255) (he : GSh e) : JG (j.ts b n e) := ⟨h.gq, h.gk, h.t1, h.t6, hn, hb, he⟩
theorem JG.fd {j : Jt} (h : JG j) (c : Int32) : JG (j.fd c) := by
  unfold Jt.fd
  by_cases z : (0 ≤ c ∧ c ≤ 255) ∧ ¬ j.n = 160
  · rw [if_pos z]
    have := h.n6
    refine h.ts (by omega) (fun q hq => ?_) h.gs
    by_cases e : q = j.n
    · unfold up1; rw [if_pos e]; exact z.1
    · unfold up1; rw [if_neg e]; exact h.bb q (by omega)
  · rw [if_neg z]; exact h
theorem JG.im {j : Jt} (h : JG j) : JG j.im := ⟨h.gq, fun _ => h.gq, h.t1, h.t6, h.n6, h.bb, h.gs⟩
theorem JG.back {j : Jt} (h : JG j) : JG (j.rd (backQ j.i j.k j.r).2) := by
  refine h.rd ?_
  unfold backQ
  by_cases z : j.i = 0
  · rw [if_pos z]; exact h.gq
  · rw [if_neg z]
    show GQ (bkS j.k j.r) j.T
    rw [bk_ck]; exact gq_ck h.gq (h.gk z)
theorem JG.tx {j : Jt} (h : JG j) : JG j.tx := by
  unfold Jt.tx
  by_cases z : j.T = 6
  · rw [if_pos z]; exact h
  · rw [if_neg z]
    have h6 := h.t6
    split
    · exact ⟨h.gq.le (Nat.le_succ _), fun y => (h.gk y).le (Nat.le_succ _), Nat.le_succ_of_le h.t1, by show j.T + 1 ≤ 6; omega, Nat.zero_le _, fun q hq => absurd hq (Nat.not_lt_zero _), h.gs⟩
    · exact ⟨h.gq, h.gk, h.t1, h.t6, Nat.zero_le _, fun q hq => absurd hq (Nat.not_lt_zero _), h.gs⟩
section ASKSB
variable {g : GS} {l : Launch} {Γ : Sh} {iv : IV} {rv : RV} {lv : LV} {j j' : Jt}
theorem lc_sheet (D : Nat) (s so n : Int32) (hj : JG j) (hc : CI j Γ iv rv) (hm : MI_ j Γ iv rv) : Ct g l mX6_sheet (D + 2) 0 0 [.ref 14, .int s, .int so, .int n] Γ iv rv lv (LC j (j.ts j.b j.n (sheetQ j.e s so n).2) (.int ((sheetQ j.e s so n).1))) := by
  refine (ct_csheet D hc.sh hc.sc s so n).mono ?_
  rintro _ _ iv2 _ _ ⟨x, rfl, rfl, rfl, rfl, rfl, hs, ho⟩
  exact ⟨rfl, hc.ts ho (fun a b y => by omega) ⟨(ho _ _ (by omega)).trans hc.tx.1, hc.tx.2.1, fun q hq => (ho _ _ (by omega)).trans (hc.tx.2.2.1 q hq), hc.tx.2.2.2⟩ hs, hm.ck ho (fun a b y => by omega) (fun _ => rfl)⟩
theorem lm_sheet (D : Nat) (s so n : Int32) (hj : JG j) (hc : CI (j.ts j.b j.n (sheetQ j.e s so n).2) Γ iv rv) (hm : MI_ j Γ iv rv) : Ct g l mX7_sheet (D + 2) 0 0 [.ref 75, .int s, .int so, .int n] Γ iv rv lv (LM (j.ts j.b j.n (sheetQ j.e s so n).2) (.int ((sheetQ j.e s so n).1))) := by
  refine (ct_msheet D hm.sh hm.sm hj.gs s so n).mono ?_
  rintro _ _ iv2 _ _ ⟨x, rfl, rfl, rfl, rfl, rfl, hs, ho⟩
  exact ⟨rfl, hc.mk_ ho (fun a b y => by omega), hm.ts ho (fun a b y => by omega) ((ho _ _ (by omega)).trans hm.t6) (fun q hq => (ho _ _ (by omega)).trans (hm.tp q hq)) hs⟩
theorem lc_cell (D : Nat) (s i v : Int32) (hj : JG j) (hc : CI j Γ iv rv) (hm : MI_ j Γ iv rv) : Ct g l mX6_cell (D + 2) 0 0 [.ref 14, .int s, .int i, .int v] Γ iv rv lv (LC j (j.ts j.b j.n (cellQ j.e s i v).2) (.int ((cellQ j.e s i v).1))) := by
  refine (ct_ccell D hc.sh hc.sc hj.gs s i v).mono ?_
  rintro _ _ iv2 _ _ ⟨x, rfl, rfl, rfl, rfl, rfl, hs, ho⟩
  exact ⟨rfl, hc.ts ho (fun a b y => by omega) ⟨(ho _ _ (by omega)).trans hc.tx.1, hc.tx.2.1, fun q hq => (ho _ _ (by omega)).trans (hc.tx.2.2.1 q hq), hc.tx.2.2.2⟩ hs, hm.ck ho (fun a b y => by omega) (fun _ => rfl)⟩
theorem lm_cell (D : Nat) (s i v : Int32) (hj : JG j) (hc : CI (j.ts j.b j.n (cellQ j.e s i v).2) Γ iv rv) (hm : MI_ j Γ iv rv) : Ct g l mX7_cell (D + 2) 0 0 [.ref 75, .int s, .int i, .int v] Γ iv rv lv (LM (j.ts j.b j.n (cellQ j.e s i v).2) (.int ((cellQ j.e s i v).1))) := by
  refine (ct_mcell D hm.sh hm.sm hj.gs s i v).mono ?_
  rintro _ _ iv2 _ _ ⟨x, rfl, rfl, rfl, rfl, rfl, hs, ho⟩
  exact ⟨rfl, hc.mk_ ho (fun a b y => by omega), hm.ts ho (fun a b y => by omega) ((ho _ _ (by omega)).trans hm.t6) (fun q hq => (ho _ _ (by omega)).trans (hm.tp q hq)) hs⟩
theorem lc_copy (D : Nat) (s i o q n : Int32) (hj : JG j) (hc : CI j Γ iv rv) (hm : MI_ j Γ iv rv) : Ct g l mX6_copy (D + 2) 0 0 [.ref 14, .int s, .int i, .int o, .int q, .int n] Γ iv rv lv (LC j (j.ts j.b j.n (copyQ j.e s i o q n).2) (.int ((copyQ j.e s i o q n).1))) := by
  refine (ct_ccopy D hc.sh hc.sc hj.gs s i o q n).mono ?_
  rintro _ _ iv2 _ _ ⟨x, rfl, rfl, rfl, rfl, rfl, hs, ho⟩
  exact ⟨rfl, hc.ts ho (fun a b y => by omega) ⟨(ho _ _ (by omega)).trans hc.tx.1, hc.tx.2.1, fun q hq => (ho _ _ (by omega)).trans (hc.tx.2.2.1 q hq), hc.tx.2.2.2⟩ hs, hm.ck ho (fun a b y => by omega) (fun _ => rfl)⟩
theorem lm_copy (D : Nat) (s i o q n : Int32) (hj : JG j) (hc : CI (j.ts j.b j.n (copyQ j.e s i o q n).2) Γ iv rv) (hm : MI_ j Γ iv rv) : Ct g l mX7_copy (D + 2) 0 0 [.ref 75, .int s, .int i, .int o, .int q, .int n] Γ iv rv lv (LM (j.ts j.b j.n (copyQ j.e s i o q n).2) (.int ((copyQ j.e s i o q n).1))) := by
  refine (ct_mcopy D hm.sh hm.sm hj.gs s i o q n).mono ?_
  rintro _ _ iv2 _ _ ⟨x, rfl, rfl, rfl, rfl, rfl, hs, ho⟩
  exact ⟨rfl, hc.mk_ ho (fun a b y => by omega), hm.ts ho (fun a b y => by omega) ((ho _ _ (by omega)).trans hm.t6) (fun q hq => (ho _ _ (by omega)).trans (hm.tp q hq)) hs⟩
theorem lc_feed (D : Nat) (c : Int32) (hj : JG j) (hc : CI j Γ iv rv) (hm : MI_ j Γ iv rv) : Ct g l mX6_feed (D + 1) 0 0 [.ref 14, .int c] Γ iv rv lv (LC j (j.fd c) (.int (feedQ j.n c))) := by
  refine (ct_cfeed D hc.sh hc.tx.1 hj.n6 c).mono ?_
  rintro _ _ iv2 _ _ ⟨x, rfl, rfl, rfl, rfl, rfl, h1, h2⟩
  unfold Jt.fd
  by_cases z : (0 ≤ c ∧ c ≤ 255) ∧ ¬ j.n = 160
  · rw [if_pos z]
    obtain ⟨a1, a2, ho⟩ := h1 z
    have hn := hj.n6
    refine ⟨rfl, hc.ts ho (fun a b y => by omega) ⟨a1, by omega, fun q hq => ?_, fun q hq => ?_⟩ (hc.sc.off ho (fun a b y => by omega)), hm.ck ho (fun a b y => by omega) (fun _ => rfl)⟩
    · by_cases e : q = j.n
      · subst e; unfold up1; rw [if_pos rfl]; exact a2
      · unfold up1; rw [if_neg e]; exact (ho _ _ (by omega)).trans (hc.tx.2.2.1 q (by omega))
    · by_cases e : q = j.n
      · unfold up1; rw [if_pos e]; exact z.1
      · unfold up1; rw [if_neg e]; exact hj.bb q (by omega)
  · rw [if_neg z]
    obtain rfl := h2 z
    exact ⟨rfl, hc, hm⟩
theorem lm_feed (D : Nat) (c : Int32) (hj : JG j) (hc : CI (j.fd c) Γ iv rv) (hm : MI_ j Γ iv rv) : Ct g l mX7_feed (D + 1) 0 0 [.ref 75, .int c] Γ iv rv lv (LM (j.fd c) (.int (feedQ j.n c))) := by
  refine (ct_mfeed D hm.sh hm.t6 hj.n6 c).mono ?_
  rintro _ _ iv2 _ _ ⟨x, rfl, rfl, rfl, rfl, rfl, h1, h2⟩
  unfold Jt.fd at hc ⊢
  by_cases z : (0 ≤ c ∧ c ≤ 255) ∧ ¬ j.n = 160
  · rw [if_pos z] at hc ⊢
    obtain ⟨a1, a2, ho⟩ := h1 z
    refine ⟨rfl, hc.mk_ ho (fun a b y => by omega), hm.ts ho (fun a b y => by omega) a1 (fun q hq => ?_) (hm.sm.kp (fun a b y w => ho _ _ (by omega)))⟩
    by_cases e : q = j.n
    · subst e; unfold up1; rw [if_pos rfl]; exact a2
    · unfold up1; rw [if_neg e]; exact (ho _ _ (by omega)).trans (hm.tp q (by omega))
  · rw [if_neg z] at hc ⊢
    obtain rfl := h2 z
    exact ⟨rfl, hc, hm⟩
theorem lc_image (D : Nat) (hj : JG j) (hc : CI j Γ iv rv) (hm : MI_ j Γ iv rv) : Ct g l mX6_image (D + 2) 0 0 [.ref 14] Γ iv rv lv (LC j j.im (.int (j.r 4 4))) := by
  obtain ⟨κ, hK, -⟩ := hc.kp
  obtain ⟨t, ht, h8, h27⟩ := hc.rn
  refine (ct_cimage D hc.sh hc.rc hK).mono ?_
  rintro _ _ iv2 rv2 _ ⟨x, rfl, rfl, rfl, rfl, rfl, ho, hK2, h9⟩
  have hv : ∀ a b, ¬ (a % 10 = 7 ∧ b = 8) → up rv 37 8 (rv 27 8) a b = rv a b := fun a b z => up_ne (by omega)
  refine ⟨rfl, ⟨hc.sh.offw hv, hc.rc.off ho (fun a b y => by omega), ⟨t, ht, h8, (up_ne1 (by decide)).trans h27⟩, hc.g4.off ho (by omega) (by omega), hc.g5.off ho (by omega) (by omega), fun t ht => ⟨(hv 20 t (by omega)).trans (hc.ru t ht).1, ((hc.ru t ht).2.off ho (fun a b y => by omega)).offw hv⟩, (ho _ _ (by omega)).trans hc.t8, h9, ⟨_, hK2, fun _ => ⟨fun x => ck_ck, t, ht, h8, (up_same _ _ _ _).trans h27⟩⟩, ⟨(ho _ _ (by omega)).trans hc.tx.1, hc.tx.2.1, fun q hq => (ho _ _ (by omega)).trans (hc.tx.2.2.1 q hq), hc.tx.2.2.2⟩, (ho _ _ (by omega)).trans hc.f9, hc.sc.off ho (fun a b y => by omega), hc.gm⟩, hm.ck ho (fun a b y => by omega) (fun b => up_ne1 (by decide))⟩
theorem lm_image (D : Nat) (hj : JG j) (hc : CI j.im Γ iv rv) (hm : MI_ j Γ iv rv) : Ct g l mX7_image (D + 1) 0 0 [.ref 75] Γ iv rv lv (LM j.im (.int (j.r 4 4))) := by
  refine (ct_mimage D hm.sh hm.rm).mono ?_
  rintro _ _ iv2 _ _ ⟨x, rfl, rfl, rfl, rfl, rfl, ho, hR, h45, hK⟩
  exact ⟨rfl, hc.mk_ ho (fun a b y => by omega), hm.sh, hR, h45, fun _ => hK, hm.tx.off ho (fun b => ⟨by omega, by omega⟩), (ho _ _ (by omega)).trans hm.t3, (ho _ _ (by omega)).trans hm.t6, fun q hq => (ho _ _ (by omega)).trans (hm.tp q hq), hm.sm.kp (fun a b y w => ho _ _ (by omega))⟩
theorem lc_back (D : Nat) (hj : JG j) (hc : CI j Γ iv rv) (hm : MI_ j Γ iv rv) : Ct g l mX6_back (D + 2) 0 0 [.ref 14] Γ iv rv lv (LC j (j.rd (backQ j.i j.k j.r).2) (.int ((backQ j.i j.k j.r).1))) := by
  obtain ⟨κ, hK, hk2⟩ := hc.kp
  refine (ct_cback D hc.sh hc.rc hK hc.i9).mono ?_
  rintro _ _ iv2 rv2 _ ⟨x, rfl, rfl, rfl, rfl, h0, h1⟩
  unfold backQ
  by_cases z : j.i = 0
  · obtain ⟨rfl, rfl⟩ := h0 z
    rw [if_pos z, if_pos z]
    exact ⟨rfl, hc, hm⟩
  · obtain ⟨rfl, ho, hR⟩ := h1 z
    obtain ⟨b1, t, b2, b3, b4⟩ := hk2 z
    rw [if_neg z, if_neg z]
    have e1 : κ 4 4 = j.k 4 4 := by
      have := congrFun (congrFun (b1 j.r) 4) 4
      unfold ckS at this
      rw [if_neg (by decide), if_neg (by decide)] at this
      exact this
    rw [e1]
    rw [b1] at hR
    rw [bk_ck]
    exact ⟨rfl, hc.st ho (fun a b y => by omega) (fun a b y => up_ne (by omega)) (up_ne1 (by decide)) hR ⟨t, b2, (show ckS j.k j.r 4 8 = j.k 4 8 from if_neg (by decide)).trans b3, (up_same _ _ _ _).trans b4⟩ (hc.g4.off ho (by omega) (by omega)) (hc.g5.off ho (by omega) (by omega)), hm.ck ho (fun a b y => by omega) (fun b => up_ne1 (by decide))⟩
theorem lm_back (D : Nat) (hj : JG j) (hc : CI (j.rd (backQ j.i j.k j.r).2) Γ iv rv) (hm : MI_ j Γ iv rv) : Ct g l mX7_back (D + 1) 0 0 [.ref 75] Γ iv rv lv (LM (j.rd (backQ j.i j.k j.r).2) (.int ((backQ j.i j.k j.r).1))) := by
  refine (ct_mback D hm.sh hm.rm hm.im hm.kp).mono ?_
  rintro _ _ iv2 _ _ ⟨x, rfl, rfl, rfl, rfl, rfl, hR, ho⟩
  exact ⟨rfl, hc.mk_ ho (fun a b y => by omega), hm.st ho (fun a b y => by omega) (fun _ => rfl) hR⟩
end ASKSB
