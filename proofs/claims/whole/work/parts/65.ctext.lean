/-! THE CLASS: ruleOf, text -/
theorem txS_one {b : Nat → Int32} {n : Nat} {q : List Int32 × List Int32 × List Int32} (h : txS b n = some (.inr q)) (e : Nat → Int32) : OneC e 31 q.1 (vl e q.1) ∧ OneC e 31 q.2.1 (vl e q.2.1) ∧ OneC e 31 q.2.2 (vl e q.2.2) := by
  have h0 := lexS_ok (b := b) (n := n) (p := 0) (Nat.zero_le _)
  unfold txS at h
  obtain ⟨r1, e1, h⟩ := tb_some h
  cases r1 with
  | inl z => cases h
  | inr q1 =>
    have g1 := (ptS_good e h0.1 (by decide) e1).2
    obtain ⟨r2, e2, h⟩ := tb_some h
    cases r2 with
    | inl z => cases h
    | inr q2 =>
      have g2 := (ptS_good e g1.1 (by decide) e2).2
      obtain ⟨r3, e3, h⟩ := tb_some h
      cases r3 with
      | inl z => cases h
      | inr q3 =>
        have g3 := (ptS_good e g2.1 (by decide) e3).2
        simp only at h
        split at h
        · cases h
          exact ⟨g1.2.2.2, g2.2.2.2, g3.2.2.2⟩
        · cases h
/-- a bigger shape, the same below m -/
def ShLe (m : Nat) (Γ Γ' : Sh) : Prop := m ≤ Γ.1 ∧ Γ.1 ≤ Γ'.1 ∧ ∀ i, i < m → Γ'.2.1 i = Γ.2.1 i ∧ Γ'.2.2 i = Γ.2.2 i
theorem ShLe.k {m : Nat} {Γ Γ' : Sh} (h : ShLe m Γ Γ') {i c : Nat} (hk : IsK Γ i c) (hi : i < m) : IsK Γ' i c := ⟨hk.1, Nat.lt_of_lt_of_le hk.2.1 h.2.1, (h.2.2 i hi).1.trans hk.2.2⟩
theorem ShLe.a {m : Nat} {Γ Γ' : Sh} (h : ShLe m Γ Γ') {i c n : Nat} (hk : IsA Γ i c n) (hi : i < m) : IsA Γ' i c n := ⟨hk.1, Nat.lt_of_lt_of_le hk.2.1 h.2.1, (h.2.2 i hi).1.trans hk.2.2.1, (h.2.2 i hi).2.trans hk.2.2.2⟩
theorem ShLe.refl {Γ : Sh} : ShLe Γ.1 Γ Γ := ⟨Nat.le_refl _, Nat.le_refl _, fun _ _ => ⟨rfl, rfl⟩⟩
theorem ShLe.alo {m : Nat} {Γ Γ' : Sh} {c len : Nat} (h : ShLe m Γ Γ') : ShLe m Γ (alo Γ' c len) := ⟨h.1, Nat.le_succ_of_le h.2.1, fun i hi => ⟨(alo_k (by have := h.1; have := h.2.1; omega)).trans (h.2.2 i hi).1, (alo_l (by have := h.1; have := h.2.1; omega)).trans (h.2.2 i hi).2⟩⟩
/-- the rule's object that ruleOf makes at m -/
def qRO (Γ : Sh) (iv : IV) (rv : RV) (lv : LV) (m c : Nat) (num : Int32) (B : Nat → Nat) (S : Nat → List Int32) : Qt := fun r Γ' iv' rv' lv' => r = some (.ref m) ∧ Γ'.1 = m + 5 ∧ ShLe m Γ Γ' ∧ (∀ x y, x < m → iv' x y = iv x y) ∧ (∀ x y, x < m → rv' x y = rv x y) ∧ (∀ x y, x < m → lv' x y = lv x y) ∧ ShU Γ' rv' m c ∧ iv' m 0 = num ∧ (∀ p, p < 3 → iv' (m + 3) p = (if (-5 : Int32) ∈ S p then 1 else 0)) ∧ (∀ p, p ≤ 3 → iv' (m + 2) p = nI (B p)) ∧ ∀ p, p < 3 → ∀ j, j < (S p).length → iv' (m + 1) (B p + j) = (S p).getD j 0
section RULEOF
variable {g : GS} {l : Launch} {M : MI} {d mc ms : Nat} {Q : Qt} {k n pc : Nat} {ls st : List Value} {Γ : Sh} {iv : IV} {rv : RV} {lv : LV}
theorem rn_copyOf {index a c m : Nat} {own : String} {x : Int32} (hd : decode M.2.1 pc = .ok (.invokestatic index, 3)) (hM : M.1.cls = own) (hl : (Cond.methodLink own index mJ7_copyOf_59c91.1) ∈ gtb) (hst : (st.map fun v => v.category).sum ≤ 8) (hk : k + 1 ≤ mc) (hs : n + 160 ≤ ms) (hx : x = nI c) (hct : Ct g l mJ7_copyOf_59c91 d 1 160 [.ref a, .int (nI c)] Γ iv rv lv (qCp Γ iv rv lv a c m)) (kk : ∀ iv', (∀ x y, x ≠ m → iv' x y = iv x y) → (∀ j, j < c → iv' m j = iv a j) → Rn g l M (rmA (d + 1) mc ms) Q (k + 1) (n + 160) (pc + 3) ls (.ref m :: st) (alo Γ 20 c) iv' (clr rv m 0) (clr lv m 0)) : Rn g l M (rmA (d + 1) mc ms) Q k n pc ls (.int x :: .ref a :: st) Γ iv rv lv := by
  subst hx
  exact rn_callS (As := [.ref a, .int (nI c)]) (mc := 1) (ms := 160) hd os_J7_copyOf_59c91 (by rw [hM]; exact hl) rfl hst (Nat.le_refl _) (Nat.le_refl _) hk hs hct (by rintro _ _ iv2 _ _ ⟨rfl, rfl, h1, h2, rfl, rfl⟩; exact kk iv2 h1 h2)
theorem rn_cloneN {a len index : Nat} (m : Nat) (hm : Γ.1 = m) {R : Room} (hd : decode M.2.1 pc = .ok (.invokevirtual index, 3)) (hl : Cond.methodLink M.1.cls index ⟨"[I", "clone", "()Ljava/lang/Object;"⟩ ∈ gtb)
    (hA : IsA Γ a 20 len) (hst : (st.map fun v => v.category).sum ≤ 8) (hf : 1 ≤ R.frames) (hlo : 100 ≤ R.locals) (hk : k + 1 ≤ R.cells) (hs : n + len ≤ R.slots)
    (kk : K0 ≤ m → Rn g l M R Q (k + 1) (n + len) (pc + 3) ls (.ref m :: st) (alo Γ 20 len) (fun i j => if i = m then iv a j else iv i j) (clr rv m 0) (clr lv m 0)) : Rn g l M R Q k n pc ls (.ref a :: st) Γ iv rv lv := by
  subst hm; exact rn_clone hd hl clw hA hst hf hlo hk hs kk
theorem rn_ruleI {index q s b m : Nat} {own : String} {num : Int32} {S : Nat → List Int32} (hd : decode M.2.1 pc = .ok (.invokespecial index, 3)) (hM : M.1.cls = own) (hl : (Cond.methodLink own index mX4_init.1) ∈ gtb) (hK : IsK Γ q 4) (hst : (st.map fun v => v.category).sum ≤ 8) (hk : k + 2 ≤ mc) (hs : n + 43 ≤ ms) (hct : Ct g l mX4_init d 2 43 [.ref q, .int num, .ref s, .ref b] Γ iv rv lv (qRI4 Γ iv rv lv q s b m num S)) (kk : ∀ Γ' iv' rv' lv', qRI4 Γ iv rv lv q s b m num S none Γ' iv' rv' lv' → Rn g l M (rmA (d + 1) mc ms) Q (k + 2) (n + 43) (pc + 3) ls st Γ' iv' rv' lv') : Rn g l M (rmA (d + 1) mc ms) Q k n pc ls (.ref b :: .ref s :: .int num :: .ref q :: st) Γ iv rv lv :=
  rn_callI (As := [.int num, .ref s, .ref b]) (mc := 2) (ms := 43) hd oi_X4_init (by rw [hM]; exact hl) hK rfl hst (Nat.le_refl _) (Nat.le_refl _) hk hs hct (fun r Γ' iv' rv' lv' h => by obtain ⟨rfl, h⟩ := h; exact kk Γ' iv' rv' lv' ⟨rfl, h⟩)
end RULEOF
section CTEXT
variable {g : GS} {l : Launch} {Γ : Sh} {iv : IV} {rv : RV} {lv : LV}
set_option maxRecDepth 4000 in
theorem ct_ruleOf (D : Nat) (hR : ShR Γ rv) {m c : Nat} (hm : Γ.1 = m) (hm22 : 22 ≤ m) (hc : c ≤ 160) (h8 : iv 16 8 = nI c) {num : Int32} {B : Nat → Nat} {S : Nat → List Int32} (hBv : ∀ p, p ≤ 3 → iv 19 p = nI (B p)) (hBs : ∀ p, p < 3 → B (p + 1) = B p + (S p).length) (hBm : ∀ p, p < 3 → B (p + 1) ≤ c) (hst : ∀ p, p < 3 → ∀ j, j < (S p).length → iv 18 (B p + j) = (S p).getD j 0) : Ct g l mX2_ruleOf (D + 2) 5 212 [.ref 16, .int num] Γ iv rv lv (qRO Γ iv rv lv m c num B S) := by
  have hK0 : K0 = 14 := rfl
  obtain ⟨hR1, -, -, hR4, hR5, hR6, hR7⟩ := hR
  refine Ct.of (by decide +kernel) (Nat.le_of_ble_eq_true rfl) (Nat.le_of_ble_eq_true rfl) ?_
  refine rn_newN (ci := 4) (m) hm dX2_ruleOf_0 rfl uw_X4 tyX4_ok te_X4 cc_X2_40 ins_X4 ini_X4 (by show _ ≤ 5; omega) (by show _ ≤ 212; omega) (fun hz0 => ?_)
  have hn0 := isK_newN (c := 4) (len := 0) hm hz0
  have hR1 := isK_alo (c' := 4) (len := 0) hR1
  have hR5 := isA_alo (c' := 4) (len := 0) hR5
  have hR7 := isA_alo (c' := 4) (len := 0) hR7
  have hR4 : _ = 18 := (clr_ne (i := m) (z := 0) (by omega)).trans hR4
  have hR6 : _ = 19 := (clr_ne (i := m) (z := 0) (by omega)).trans hR6
  have hm1 : (alo Γ 4 0).1 = m + 1 := by rw [alo_1, hm]
  refine rn_dup dX2_ruleOf_3 rfl ?_
  refine r_iload1 dX2_ruleOf_4 ?_
  refine r_aload0 dX2_ruleOf_5 ?_
  refine gf_X2_34 dX2_ruleOf_6 rfl hR1 hR4 ?_
  refine r_aload0 dX2_ruleOf_9 ?_
  refine gf_X2_37 dX2_ruleOf_10 rfl hR1 ?_
  refine rn_eqi (nI c) ((clr_ne (by omega)).trans h8) ?_
  refine rn_copyOf dX2_ruleOf_13 rfl ml_X2_45 (Nat.le_of_ble_eq_true rfl) (by show _ ≤ 5; omega) (by show _ ≤ 212; omega) rfl (ct_copyOf _ hR5 hc hm1 (by omega)) (fun iv2 hi2 hj2 => ?_)
  have hn13 := isA_newN (c := 20) (len := c) hm1 (by omega : K0 ≤ m + 1)
  have hn0 := isK_alo (c' := 20) (len := c) hn0
  have hR1 := isK_alo (c' := 20) (len := c) hR1
  have hR7 := isA_alo (c' := 20) (len := c) hR7
  have hm2 : (alo (alo Γ 4 0) 20 c).1 = m + 2 := by rw [alo_1, alo_1, hm]
  have hR4 : _ = 18 := (clr_ne (i := m + 1) (z := 0) (by omega)).trans hR4
  have hR6 : _ = 19 := (clr_ne (i := m + 1) (z := 0) (by omega)).trans hR6
  refine r_aload0 dX2_ruleOf_16 ?_
  refine gf_X2_42 dX2_ruleOf_17 rfl hR1 hR6 ?_
  refine rn_cloneN (m + 2) hm2 dX2_ruleOf_20 ml_X2_51 hR7 (Nat.le_of_ble_eq_true rfl) (Nat.le_add_left _ _) (by show 100 ≤ 100 * _; omega) (by show _ ≤ 5; omega) (by show _ ≤ 212; omega) (fun hz20 => ?_)
  have hn20 := isA_newN (c := 20) (len := 4) hm2 hz20
  have hn0 := isK_alo (c' := 20) (len := 4) hn0
  have hn13 := isA_alo (c' := 20) (len := 4) hn13
  have hm3 : (alo (alo (alo Γ 4 0) 20 c) 20 4).1 = m + 3 := by rw [alo_1, alo_1, alo_1, hm]
  have ev : ∀ x y, x < m → (fun i j => if i = m + 2 then iv2 19 j else iv2 i j) x y = iv x y := fun x y h => by
    show (if x = m + 2 then iv2 19 y else iv2 x y) = iv x y
    rw [if_neg (by omega), hi2 x y (by omega), clr_ne (by omega)]
  have e19 : ∀ p, p ≤ 3 → (fun i j => if i = m + 2 then iv2 19 j else iv2 i j) (m + 2) p = nI (B p) := fun p h => by
    show (if m + 2 = m + 2 then iv2 19 p else iv2 (m + 2) p) = _
    rw [if_pos rfl, hi2 _ _ (by omega), clr_ne (by omega)]; exact hBv p h
  have e18 : ∀ p, p < 3 → ∀ j, j < (S p).length → (fun i j => if i = m + 2 then iv2 19 j else iv2 i j) (m + 1) (B p + j) = (S p).getD j 0 := fun p h j hj => by
    show (if m + 1 = m + 2 then iv2 19 (B p + j) else iv2 (m + 1) (B p + j)) = _
    have h3 := hBs p h
    have h4 := hBm p h
    rw [if_neg (by omega), hj2 _ (by omega), clr_ne (by omega)]; exact hst p h j hj
  refine rn_castA dX2_ruleOf_23 cc_X2_52 hn20 ?_
  refine rn_ruleI dX2_ruleOf_26 rfl ml_X2_56 hn0 (Nat.le_of_ble_eq_true rfl) (by show _ ≤ 5; omega) (by show _ ≤ 212; omega) (ct_ruleI _ hn0 hn13 hn20 hc hm3 (by omega) (by omega) (by omega) (by omega) (by omega) e19 hBs hBm e18) (fun Γ4 iv4 rv4 lv4 hI => ?_)
  obtain ⟨-, rfl, hI1, hI2, hI3, rfl, rfl⟩ := hI
  refine rn_aret dX2_ruleOf_29 rfl (Or.inl ⟨_, rfl⟩) (by show _ ≤ 5; omega) (by show _ ≤ 212; omega) ?_
  refine ⟨rfl, by rw [alo_1, alo_1, alo_1, alo_1, alo_1, hm], (((((hm ▸ ShLe.refl (Γ := Γ)).alo).alo).alo).alo).alo, fun x y h => (hI1 x y (by omega) (by omega) (by omega)).trans (ev x y h), fun x y h => ?_, fun x y h => ?_, ⟨isK_alo (isK_alo hn0), ⟨?_, isA_alo (isA_newN hm3 (by omega))⟩, ⟨?_, isA_alo (isA_alo hn13)⟩, ⟨?_, isA_alo (isA_alo hn20)⟩, ?_, isA_newN (by rw [alo_1, hm3]) (by omega)⟩, hI2, hI3, fun p h => ?_, fun p h j hj => ?_⟩
  · rw [up_ne1 (by omega), up_ne1 (by omega), up_ne1 (by omega), clr_ne (by omega), up_ne1 (by omega), clr_ne (by omega), clr_ne (by omega), clr_ne (by omega), clr_ne (by omega)]
  · rw [clr_ne (by omega), clr_ne (by omega), clr_ne (by omega), clr_ne (by omega), clr_ne (by omega)]
  · rw [up_ne2 (by decide), up_ne2 (by decide), up_ne2 (by decide), clr_ne (by omega), up_same]
  · rw [up_ne2 (by decide), up_same]
  · rw [up_same]
  · rw [up_ne2 (by decide), up_ne2 (by decide), up_same]
  · exact (hI1 _ _ (by omega) (by omega) (by omega)).trans (e19 p h)
  · exact (hI1 _ _ (by omega) (by omega) (by omega)).trans (e18 p h j hj)
def bnd (q : List Int32 × List Int32 × List Int32) (p : Nat) : Nat := if p = 0 then 0 else if p = 1 then q.1.length else if p = 2 then q.1.length + q.2.1.length else q.1.length + q.2.1.length + q.2.2.length
def prt (q : List Int32 × List Int32 × List Int32) (p : Nat) : List Int32 := if p = 0 then q.1 else if p = 1 then q.2.1 else q.2.2
theorem prt_get {q : List Int32 × List Int32 × List Int32} {p j : Nat} (hp : p < 3) (hj : j < (prt q p).length) : (q.1 ++ q.2.1 ++ q.2.2).getD (bnd q p + j) 0 = (prt q p).getD j 0 := by
  obtain ⟨a, b, c⟩ := q
  rcases (show p = 0 ∨ p = 1 ∨ p = 2 by omega) with rfl | rfl | rfl
  · simp only [prt, bnd, if_pos] at hj ⊢
    rw [Nat.zero_add, List.getD_eq_getElem?_getD, List.getElem?_append_left (by simp; omega), List.getElem?_append_left hj, List.getD_eq_getElem?_getD]
  · simp only [prt, bnd, if_pos, if_neg, Nat.one_ne_zero, if_false, if_true] at hj ⊢
    rw [List.getD_eq_getElem?_getD, List.getElem?_append_left (by simp; omega), List.getElem?_append_right (by omega), show a.length + j - a.length = j by omega, List.getD_eq_getElem?_getD]
  · simp only [prt, bnd, show ¬ (2 = 0) by decide, show ¬ (2 = 1) by decide, if_false, if_true] at hj ⊢
    rw [List.getD_eq_getElem?_getD, List.getElem?_append_right (by simp), show a.length + b.length + j - (a ++ b).length = j by simp, List.getD_eq_getElem?_getD]
theorem bnd_s {q : List Int32 × List Int32 × List Int32} : ∀ p, p < 3 → bnd q (p + 1) = bnd q p + (prt q p).length := by
  intro p hp
  rcases (show p = 0 ∨ p = 1 ∨ p = 2 by omega) with rfl | rfl | rfl
  · show q.1.length = 0 + q.1.length; omega
  · rfl
  · rfl
theorem bnd_le {q : List Int32 × List Int32 × List Int32} {p : Nat} : bnd q p ≤ (q.1 ++ q.2.1 ++ q.2.2).length := by
  unfold bnd; simp only [List.length_append]
  split
  · omega
  · split
    · omega
    · split <;> omega
/-- what text() leaves -/
def qTx (Γ : Sh) (iv : IV) (rv : RV) (lv : LV) (T : Nat) (b : Nat → Int32) (n : Nat) : Qt := fun r Γ' iv' rv' lv' => r = some (.int (textQ T b n)) ∧ (T = 6 → Γ' = Γ ∧ iv' = iv ∧ rv' = rv ∧ lv' = lv) ∧ (¬ T = 6 → iv' 16 0 = 0 ∧ (∀ x y, x < rq T → ¬ (RtR x y ∨ (x = 16 ∧ y = 0) ∨ (x = 14 ∧ y = 8)) → iv' x y = iv x y) ∧ (∀ x y, x < rq T → ¬ (x = 20 ∧ y = T) → rv' x y = rv x y) ∧ (∀ x y, x < rq T → lv' x y = lv x y) ∧ ShLe (rq T) Γ Γ' ∧ (¬ textOK b n → Γ' = Γ ∧ iv' 14 8 = nI T ∧ rv' = rv) ∧ ∀ q, txS b n = some (.inr q) → Γ'.1 = rq T + 5 ∧ iv' 14 8 = nI (T + 1) ∧ rv' 20 T = rq T ∧ ∀ S : Nat → Nat → List Int32, S T 0 = q.1 → S T 1 = q.2.1 → S T 2 = q.2.2 → RuC Γ' iv' rv' T S)
theorem rn_ruleOf {g : GS} {l : Launch} {M : MI} {d mc ms : Nat} {Q : Qt} {k n pc : Nat} {ls st : List Value} {Γ : Sh} {iv : IV} {rv : RV} {lv : LV} {index m c N : Nat} {own : String} {T : u_T} {num : Int32} {B : Nat → Nat} {S : Nat → List Int32} (hd : decode M.2.1 pc = .ok (.invokevirtual index, 3)) (hM : M.1.cls = own) (hl : (Cond.methodLink own index mX2_ruleOf.1) ∈ gtb) (hK : IsK Γ 16 2) (hc : vwCl[2]? = some (mX2_ruleOf.1.cls, T, N)) (hst : (st.map fun v => v.category).sum ≤ 8) (hk : k + 5 ≤ mc) (hs : n + 212 ≤ ms) (hct : Ct g l mX2_ruleOf d 5 212 [.ref 16, .int num] Γ iv rv lv (qRO Γ iv rv lv m c num B S)) (kk : ∀ Γ' iv' rv' lv', qRO Γ iv rv lv m c num B S (some (.ref m)) Γ' iv' rv' lv' → Rn g l M (rmA (d + 1) mc ms) Q (k + 5) (n + 212) (pc + 3) ls (.ref m :: st) Γ' iv' rv' lv') : Rn g l M (rmA (d + 1) mc ms) Q k n pc ls (.int num :: .ref 16 :: st) Γ iv rv lv :=
  rn_callV (As := [.int num]) (mc := 5) (ms := 212) hd ov_X2_ruleOf (by rw [hM]; exact hl) hK hc rfl hst (Nat.le_refl _) (Nat.le_refl _) hk hs hct (fun r Γ' iv' rv' lv' h => by obtain ⟨rfl, h⟩ := h; exact kk Γ' iv' rv' lv' ⟨rfl, h⟩)
set_option maxRecDepth 4000 in
theorem ct_ctext (D : Nat) (hX : ShX Γ rv) {T n : Nat} {b : Nat → Int32} (h8 : iv 14 8 = nI T) (hT1 : 1 ≤ T) (hTT : T ≤ 6) (hTx : TxR iv b n) (h19 : iv 19 0 = 0) (hm : Γ.1 = rq T) : Ct g l mX6_text (D + 62) 5 212 [.ref 14] Γ iv rv lv (qTx Γ iv rv lv T b n) := by
  have hrq := rq_ge T
  have hrq2 : 98 ≤ rq T := by unfold rq; rw [if_neg (by omega)]; omega
  refine Ct.of (by decide +kernel) (Nat.le_of_ble_eq_true rfl) (Nat.le_of_ble_eq_true rfl) ?_
  refine r_aload0 dX6_text_0 ?_
  refine gf_X6_35 dX6_text_1 rfl hX.1 ?_
  refine rn_eqi (nI T) h8 ?_
  refine rn_bipush (6) dX6_text_4 (by decide) ?_
  refine rn_icmp_lt 12 dX6_text_6 rfl (fun c6 => ?_) (fun c6 => ?_)
  · have hT6 : T < 6 := by rw [show (6 : Int32) = nI 6 by decide, nI_ltI (by omega) (by decide)] at c6; exact c6
    have hT6' : ¬ T = 6 := by omega
    obtain ⟨r, hr⟩ := txS_some (b := b) hTx.2.1
    refine r_aload0 dX6_text_12 ?_
    refine gf_X6_19 dX6_text_13 rfl hX.1 hX.2.2.2.2.2.2.1.1 ?_
    refine ccvV0 dX6_text_16 ov_X2_readText rfl ml_X6_59 hX.2.2.2.2.2.2.1.2.1 rfl (Nat.zero_le _) (by show _ ≤ 5; omega) (by show _ ≤ 212; omega) (ct_readText D hX.2.2.2.2.2.2.1.2 hTx hr) (fun iv1 h16 => ?_)
    refine r_aload0 dX6_text_19 ?_
    refine gf_X6_19 dX6_text_20 rfl hX.1 hX.2.2.2.2.2.2.1.1 ?_
    refine rn_iconst (0) dX6_text_23 (by decide) ?_
    refine pf_X6_62 dX6_text_24 rfl hX.2.2.2.2.2.2.1.2.1 ?_
    refine r_aload0 dX6_text_27 ?_
    refine gf_X6_19 dX6_text_28 rfl hX.1 hX.2.2.2.2.2.2.1.1 ?_
    refine gf_X6_181 dX6_text_31 rfl hX.2.2.2.2.2.2.1.2.1 ?_
    cases r with
    | inl z =>
      have hb : BdR iv1 z := h16.2
      refine rn_eqi (nI z) ((up_ne2 (by decide)).trans hb.1) ?_
      refine rn_if_lt 48 dX6_text_34 rfl (fun h => absurd h (nI_pos (by have := hb.2.1; omega))) (fun _ => ?_)
      refine rn_bipush (-100) dX6_text_37 (by decide) ?_
      refine r_aload0 dX6_text_39 ?_
      refine gf_X6_19 dX6_text_40 rfl hX.1 hX.2.2.2.2.2.2.1.1 ?_
      refine gf_X6_181 dX6_text_43 rfl hX.2.2.2.2.2.2.1.2.1 ?_
      refine rn_eqi (nI z) ((up_ne2 (by decide)).trans hb.1) ?_
      refine rn_isub dX6_text_46 ?_
      refine rn_iret dX6_text_47 rfl (by show _ ≤ 5; omega) (by show _ ≤ 212; omega) ?_
      have hno : ¬ textOK b n := fun z => by unfold textOK at z; rw [hr] at z; exact z
      refine ⟨by unfold textQ; rw [if_neg hT6', hr], fun z => absurd z hT6', fun _ => ⟨up_same _ _ _ _, fun x y h z => (up_ne (fun y => z (Or.inr (Or.inl y)))).trans (h16.1 x y (fun y => z (Or.inl y))), fun _ _ _ _ => rfl, fun _ _ _ => rfl, hm ▸ ShLe.refl, fun _ => ⟨rfl, (up_ne1 (by decide)).trans ((h16.1 _ _ (by omega)).trans h8), rfl⟩, fun q hq => by rw [hr] at hq; cases hq⟩⟩
    | inr q =>
      obtain ⟨hf1, hst, hb1, hb2, hb3⟩ := h16.2
      refine rn_eqi (-1) ((up_ne2 (by decide)).trans hf1) ?_
      refine rn_if_lt 48 dX6_text_34 rfl (fun _ => ?_) (fun h => absurd (by decide) h)
      refine r_aload0 dX6_text_48 ?_
      refine gf_X6_35 dX6_text_49 rfl hX.1 ?_
      refine rn_eqi (nI T) ((up_ne1 (by decide)).trans ((h16.1 _ _ (by omega)).trans h8)) ?_
      refine r_istore1 dX6_text_52 rfl ?_
      refine r_aload0 dX6_text_53 ?_
      refine gf_X6_25 dX6_text_54 rfl hX.1 hX.2.2.2.2.2.2.2.1.1 ?_
      refine r_iload1 dX6_text_57 ?_
      refine r_aload0 dX6_text_58 ?_
      refine gf_X6_19 dX6_text_59 rfl hX.1 hX.2.2.2.2.2.2.1.1 ?_
      refine r_iload1 dX6_text_62 ?_
      have hl160 : (q.1 ++ q.2.1 ++ q.2.2).length ≤ 160 := hst.2.1
      have hB0 : (up iv1 16 0 0) 19 0 = nI 0 := (up_ne1 (by decide)).trans ((h16.1 _ _ (by omega)).trans h19)
      have hBv : ∀ p, p ≤ 3 → (up iv1 16 0 0) 19 p = nI (bnd q p) := fun p h => match p, h with
        | 0, _ => hB0
        | 1, _ => hb1
        | 2, _ => hb2
        | 3, _ => hb3
      refine rn_ruleOf (m := rq T) (c := (q.1 ++ q.2.1 ++ q.2.2).length) (B := bnd q) (S := prt q) dX6_text_63 rfl ml_X6_65 hX.2.2.2.2.2.2.1.2.1 rfl (Nat.le_of_ble_eq_true rfl) (by show _ ≤ 5; omega) (by show _ ≤ 212; omega) (ct_ruleOf _ hX.2.2.2.2.2.2.1.2 hm (by omega) hl160 ((up_ne2 (by decide)).trans hst.1) hBv bnd_s (fun p _ => bnd_le) (fun p h j hj => by
        have h5 := bnd_s (q := q) p h
        have h6 := bnd_le (q := q) (p := p + 1)
        exact ((up_ne1 (by decide)).trans (hst.2.2 _ (by omega))).trans (prt_get h hj))) (fun Γ4 iv4 rv4 lv4 hO => ?_)
      obtain ⟨-, hO1, hO2, hO3, hO4, hO5, hO6, hO7, hO8, hO9, hO10⟩ := hO
      have h20 := hO2.a hX.2.2.2.2.2.2.2.1.2 (by omega)
      have h14 := hO2.k hX.1 (by omega)
      refine rn_aast T dX6_text_66 h20 (Or.inl rfl) hO6.1 rfl rfl rfl hT6 (by decide) ?_
      refine r_aload0 dX6_text_67 ?_
      refine rn_dup dX6_text_68 rfl ?_
      refine gf_X6_35 dX6_text_69 rfl h14 ?_
      refine rn_eqi (nI T) ((hO3 _ _ (by omega)).trans ((up_ne1 (by decide)).trans ((h16.1 _ _ (by omega)).trans h8))) ?_
      refine rn_iconst (1) dX6_text_72 (by decide) ?_
      refine rn_iadd dX6_text_73 ?_
      refine rn_eqi (nI (T + 1)) (nI_1 T) ?_
      refine pf_X6_35 dX6_text_74 rfl h14 ?_
      refine r_iload1 dX6_text_77 ?_
      refine rn_iret dX6_text_78 rfl (by show _ ≤ 5; omega) (by show _ ≤ 212; omega) ?_
      have hok : textOK b n := by unfold textOK; rw [hr]; exact trivial
      refine ⟨by unfold textQ; rw [if_neg hT6', hr], fun z => absurd z hT6', fun _ => ⟨?_, fun x y h z => ?_, fun x y h z => ?_, hO5, hO2, fun z => absurd hok z, fun q' hq' => ?_⟩⟩
      · rw [up_ne1 (by decide), hO3 _ _ (by omega)]; exact up_same _ _ _ _
      · rw [up_ne (fun y => z (Or.inr (Or.inr y))), hO3 x y h]; exact (up_ne (fun y => z (Or.inr (Or.inl y)))).trans (h16.1 x y (fun y => z (Or.inl y)))
      · rw [up_ne (fun y => z y)]; exact hO4 x y h
      · rw [hr] at hq'
        cases hq'
        refine ⟨hO1, up_same _ _ _ _, up_same _ _ _ _, fun S s0 s1 s2 => ?_⟩
        have hS : ∀ p, p < 3 → S T p = prt q p := fun p hp => match p, hp with
          | 0, _ => s0
          | 1, _ => s1
          | 2, _ => s2
        have hq98 := rq_ge T
        have hi : ∀ x y, ¬ (x = 14 ∧ y = 8) → up iv4 14 8 (nI (T + 1)) x y = iv4 x y := fun x y z => up_ne z
        have hrr : ∀ x y, ¬ (x = 20 ∧ y = T) → up rv4 20 T (rq T) x y = rv4 x y := fun x y z => up_ne z
        refine ⟨(hi _ _ (by omega)).trans hO7, _, hl160, ⟨hO6.1, ⟨(hrr _ _ (by omega)).trans hO6.2.1.1, hO6.2.1.2⟩, ⟨(hrr _ _ (by omega)).trans hO6.2.2.1.1, hO6.2.2.1.2⟩, ⟨(hrr _ _ (by omega)).trans hO6.2.2.2.1.1, hO6.2.2.2.1.2⟩, (hrr _ _ (by omega)).trans hO6.2.2.2.2.1, hO6.2.2.2.2.2⟩, fun p hp => ?_⟩
        rw [hS p hp]
        refine ⟨(hi _ _ (by omega)).trans (hO8 p hp), fun e => ?_, bnd q p, (hi _ _ (by omega)).trans (hO9 p (by omega)), ?_, ?_, fun j hj => (hi _ _ (by omega)).trans (hO10 p hp j hj)⟩
        · have h1 := txS_one hr e
          rcases (show p = 0 ∨ p = 1 ∨ p = 2 by omega) with rfl | rfl | rfl
          · exact h1.1
          · exact h1.2.1
          · exact h1.2.2
        · rw [← bnd_s p hp]; exact (hi _ _ (by omega)).trans (hO9 (p + 1) (by omega))
        · rw [← bnd_s p hp]; exact bnd_le
  · refine rn_bipush (-4) dX6_text_9 (by decide) ?_
    refine rn_iret dX6_text_11 rfl (by show _ ≤ 5; omega) (by show _ ≤ 212; omega) ?_
    have h6 : T = 6 := Decidable.of_not_not (fun z => c6 (by rw [show (6 : Int32) = nI 6 by decide]; exact nI_lt (by omega) (by decide)))
    exact ⟨by unfold textQ; rw [if_pos h6], fun _ => ⟨rfl, rfl, rfl, rfl⟩, fun z => absurd h6 z⟩
end CTEXT
