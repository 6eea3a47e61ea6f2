/-! THE REFERENCE: part(), read(); the spec of a text -/
def ptS (b : Nat → Int32) (n K : Nat) (t : Tk) : PRes := if t.1 = K then pb (pz b n 2000 0 0 0 0 [] (lexS b n t.2.2.2)) (fun s t1 => if t1.1 = 17 then some (.inr (s, lexS b n t1.2.2.2)) else some (.inl t1.2.1)) else some (.inl t.2.1)
abbrev TRes : Type := Option (Nat ⊕ (List Int32 × List Int32 × List Int32))
def tb (r : PRes) (k : List Int32 → Tk → TRes) : TRes := match r with
  | some (.inr q) => k q.1 q.2
  | some (.inl z) => some (.inl z)
  | none => none
/-- a text: the place of its fault, or the steps of its three parts -/
def txS (b : Nat → Int32) (n : Nat) : TRes := tb (ptS b n 6 (lexS b n 0)) (fun s0 t1 => tb (ptS b n 7 t1) (fun s1 t2 => tb (ptS b n 8 t2) (fun s2 t3 => if t3.1 = 13 then some (.inr (s0, s1, s2)) else some (.inl t3.2.1))))
theorem ptS_some {b : Nat → Int32} {n K : Nat} {t : Tk} (hn : n ≤ 160) (ht : TkOK n t) (hK : K ≠ 13) : ∃ r, ptS b n K t = some r := by
  unfold ptS
  split
  · rename_i h
    have hst := tk_step (b := b) ht (by omega)
    have h1 := (pz_total (b := b) (n := n) 2000).1 0 0 _ (by omega) (by omega) hst.1 hst.2.1 (by omega)
    have h2 := pb_ne (k := fun s t1 => if t1.1 = 17 then some (.inr (s, lexS b n t1.2.2.2)) else some (.inl t1.2.1)) h1 (fun s t1 _ => by split <;> (intro h; cases h))
    exact Option.ne_none_iff_exists'.mp h2
  · exact ⟨_, rfl⟩
theorem ptS_good {b : Nat → Int32} {n K : Nat} {t : Tk} {q : List Int32 × Tk} (e : Nat → Int32) (ht : TkOK n t) (hK : K ≠ 13) (h : ptS b n K t = some (.inr q)) : t.1 = K ∧ PGood n e 31 t 0 q := by
  unfold ptS at h
  split at h
  · rename_i hk
    have hst := tk_step (b := b) ht (by omega)
    obtain ⟨s, t1, e1, e2⟩ := pb_inr h
    have hg := (pz_good (b := b) (n := n) e 2000).1 0 0 0 [] _ _ (by omega) (by omega) hst.1 hst.2.1 e1
    split at e2
    · rename_i h17
      cases e2
      have hs2 := tk_step (b := b) hg.1 (by simp; omega)
      exact ⟨hk, hs2.1, hs2.2.1, by have := hg.2.2.1; have := hs2.2.2; have := hst.2.2; simp at *; omega, hg.2.2.2⟩
    · cases e2
  · cases h
theorem tb_some {r : PRes} {k : List Int32 → Tk → TRes} {q : Nat ⊕ (List Int32 × List Int32 × List Int32)} (h : tb r k = some q) : ∃ r1, r = some r1 ∧ match r1 with
    | .inl z => q = .inl z
    | .inr p => k p.1 p.2 = some q := by
  unfold tb at h
  cases r with
  | none => cases h
  | some r1 =>
    cases r1 with
    | inl z => cases h; exact ⟨.inl z, rfl, rfl⟩
    | inr p => exact ⟨.inr p, rfl, h⟩
theorem tb_ne {r : PRes} {k : List Int32 → Tk → TRes} (h : ∃ r1, r = some r1) (hk : ∀ s t, r = some (.inr (s, t)) → k s t ≠ none) : tb r k ≠ none := by
  obtain ⟨r1, rfl⟩ := h
  cases r1 with
  | inl z => intro h; cases h
  | inr p => exact hk p.1 p.2 rfl
theorem txS_some {b : Nat → Int32} {n : Nat} (hn : n ≤ 160) : ∃ r, txS b n = some r := by
  have h0 := lexS_ok (b := b) (n := n) (p := 0) (Nat.zero_le _)
  apply Option.ne_none_iff_exists'.mp
  unfold txS
  refine tb_ne (ptS_some hn h0.1 (by decide)) (fun s0 t1 e0 => ?_)
  have g0 := (ptS_good (fun _ => 0) h0.1 (by decide) e0).2
  refine tb_ne (ptS_some hn g0.1 (by decide)) (fun s1 t2 e1 => ?_)
  have g1 := (ptS_good (fun _ => 0) g0.1 (by decide) e1).2
  refine tb_ne (ptS_some hn g1.1 (by decide)) (fun s2 t3 e2 => ?_)
  split <;> (intro h; cases h)
abbrev Rd (a b : Nat) : Prop := a = 75 ∧ 26 ≤ b ∧ b ≤ 34
theorem ps_rd {iv iv' : IV} (h : Off Ps iv iv') : Off Rd iv iv' := h.mono (fun a b z => ⟨z.1, by omega, z.2.2⟩)
/-- behind read() -/
def PoR (e : Nat → Int32) (w : Int32) (r : Nat ⊕ (List Int32 × List Int32 × List Int32)) (x : Int32) (iv : IV) : Prop := match r with
  | .inl z => iv 75 33 = 1 ∧ iv 75 34 = nI z
  | .inr q => iv 75 33 = 0 ∧ x = vl e (if w = 0 then q.1 else if w = 1 then q.2.1 else q.2.2)
section MREAD
variable {g : GS} {l : Launch} {Γ : Sh} {iv : IV} {rv : RV} {lv : LV}
set_option maxRecDepth 4000 in
theorem ct_part (D : Nat) (hM : ShM Γ rv) {b : Nat → Int32} {n f : Nat} (hT : TxM iv b n f) {t : Tk} (ht : TokM iv lv b n t) (h33 : iv 75 33 = 0) (h32 : iv 75 32 = nI 0) {e : Nat → Int32} (he : ∀ j, j < 6 → iv 75 (20 + j) = e j) (K : Nat) (hK : K < 12) {x : Int32} (hx : ¬ x = 0 ↔ t.1 = K) {r : Nat ⊕ (List Int32 × Tk)} (hr : ptS b n K t = some r) : Ct g l mX7_part (D + 45) 0 0 [.ref 75, .int x] Γ iv rv lv (qLI Γ rv (fun x iv' lv' => Off Ps iv iv' ∧ PoM b n e 0 r x iv' lv')) := by
  refine Ct.of (by decide +kernel) (Nat.le_of_ble_eq_true rfl) (Nat.le_of_ble_eq_true rfl) ?_
  refine r_iload1 dX7_part_0 ?_
  refine rn_if_ne 8 dX7_part_1 rfl (fun c1 => ?_) (fun c1 => ?_)
  · have tK := hx.mp c1
    unfold ptS at hr
    rw [if_pos tK] at hr
    obtain ⟨r1, hr1, hr⟩ := pb_some hr
    refine r_aload0 dX7_part_8 ?_
    refine gf_X7_181 dX7_part_9 rfl hM.1 ?_
    refine rn_if_ne 19 dX7_part_12 rfl (fun h => absurd h33 h) (fun _ => ?_)
    refine r_aload0 dX7_part_15 ?_
    refine clvV0 dX7_part_16 ov_X7_next rfl ml_X7_198 hM.1 rfl (Nat.zero_le _) (Nat.zero_le _) (Nat.zero_le _) (ct_next _ hM hT t.2.2.2 (tok_here2 ht (by omega)) ht.1.2.1) (fun iv lv h16 => ?_)
    refine r_aload0 dX7_part_19 ?_
    refine gf_X7_181 dX7_part_20 rfl hM.1 ?_
    refine rn_if_eq 30 dX7_part_23 rfl (fun _ => ?_) (fun h => absurd ((h16.1 75 33 (by decide)).trans h33) h)
    refine r_aload0 dX7_part_30 ?_
    refine cliV0 dX7_part_31 ov_X7_either rfl ml_X7_233 hM.1 rfl (Nat.zero_le _) (Nat.zero_le _) (Nat.zero_le _) (AM_either hM 2000 0 (D + 44) _ _ _ r1 (by unfold DM; omega) (by omega) (hT.ps (lx_ps h16.1)) h16.2 (lexS_v ht.1.2.1) ((h16.1 75 33 (by decide)).trans h33) ((h16.1 75 32 (by decide)).trans h32) (env_off (lx_ps h16.1) he) hr1) (fun x31 iv lv h31 => ?_)
    rcases r1 with z | q
    · dsimp only at hr
      subst hr
      refine r_istore2 dX7_part_34 rfl ?_
      refine r_aload0 dX7_part_35 ?_
      refine rn_bipush (59) dX7_part_36 (by decide) ?_
      refine cpiV1 dX7_part_38 ov_X7_isSign rfl ml_X7_223 hM.1 rfl (Nat.zero_le _) (Nat.zero_le _) (Nat.zero_le _) (ct_isSbad _ hM h31.2.1 _) ?_
      refine rn_if_ne 48 dX7_part_41 rfl (fun h => absurd rfl h) (fun _ => ?_)
      refine r_aload0 dX7_part_44 ?_
      refine ccvV0 dX7_part_45 ov_X7_fail rfl ml_X7_195 hM.1 rfl (Nat.zero_le _) (Nat.zero_le _) (Nat.zero_le _) (ct_failb _ hM h31.2.1) (fun iv h45 => ?_)
      subst h45
      refine r_aload0 dX7_part_48 ?_
      refine gf_X7_181 dX7_part_49 rfl hM.1 ?_
      refine rn_if_ne 59 dX7_part_52 rfl (fun _ => ?_) (fun h => absurd h (show ¬ iv 75 33 = 0 by rw [h31.2.1]; decide))
      refine r_iload2 dX7_part_59 ?_
      refine rn_iret dX7_part_60 rfl (Nat.zero_le _) (Nat.zero_le _) ?_
      exact ⟨_, rfl, rfl, rfl, (lx_ps h16.1).trans h31.1, h31.2.1, h31.2.2⟩
    · dsimp only at hr
      obtain ⟨w1, w2, w3, w4, w5⟩ := h31.2
      refine r_istore2 dX7_part_34 rfl ?_
      refine r_aload0 dX7_part_35 ?_
      refine rn_bipush (59) dX7_part_36 (by decide) ?_
      refine cpiV1 dX7_part_38 ov_X7_isSign rfl ml_X7_223 hM.1 rfl (Nat.zero_le _) (Nat.zero_le _) (Nat.zero_le _) (ct_isS _ hM w3 59 17 (by decide) (by decide)) ?_
      refine rn_if_ne 48 dX7_part_41 rfl (fun c41 => ?_) (fun c41 => ?_)
      · have t17 := (bI_1.mp (bI_or.resolve_left c41)).2
        rw [if_pos t17] at hr
        cases hr
        refine r_aload0 dX7_part_48 ?_
        refine gf_X7_181 dX7_part_49 rfl hM.1 ?_
        refine rn_if_ne 59 dX7_part_52 rfl (fun h => absurd w1 h) (fun _ => ?_)
        refine r_aload0 dX7_part_55 ?_
        refine clvV0 dX7_part_56 ov_X7_next rfl ml_X7_198 hM.1 rfl (Nat.zero_le _) (Nat.zero_le _) (Nat.zero_le _) (ct_next _ hM ((hT.ps (lx_ps h16.1)).ps h31.1) q.2.2.2.2 (tok_here2 w3 (by omega)) w3.1.2.1) (fun iv lv h56 => ?_)
        refine r_iload2 dX7_part_59 ?_
        refine rn_iret dX7_part_60 rfl (Nat.zero_le _) (Nat.zero_le _) ?_
        exact ⟨_, rfl, rfl, rfl, ((lx_ps h16.1).trans h31.1).trans (lx_ps h56.1), (h56.1 75 33 (by decide)).trans w1, (h56.1 75 32 (by decide)).trans w2, h56.2, lexS_v w3.1.2.1, w5⟩
      · refine r_aload0 dX7_part_44 ?_
        refine ccvV0 dX7_part_45 ov_X7_fail rfl ml_X7_195 hM.1 rfl (Nat.zero_le _) (Nat.zero_le _) (Nat.zero_le _) (ct_fail0 _ hM w1 w3.2.1) (fun iv h45 => ?_)
        rw [bI_0] at c41
        rw [if_neg (fun z => c41 ⟨w1, z⟩)] at hr
        cases hr
        refine r_aload0 dX7_part_48 ?_
        refine gf_X7_181 dX7_part_49 rfl hM.1 ?_
        refine rn_if_ne 59 dX7_part_52 rfl (fun _ => ?_) (fun h => absurd h (show ¬ iv 75 33 = 0 by rw [h45.2.1]; decide))
        refine r_iload2 dX7_part_59 ?_
        refine rn_iret dX7_part_60 rfl (Nat.zero_le _) (Nat.zero_le _) ?_
        exact ⟨_, rfl, rfl, rfl, ((lx_ps h16.1).trans h31.1).trans h45.1, h45.2.1, h45.2.2.1⟩
  · refine r_aload0 dX7_part_4 ?_
    refine ccvV0 dX7_part_5 ov_X7_fail rfl ml_X7_195 hM.1 rfl (Nat.zero_le _) (Nat.zero_le _) (Nat.zero_le _) (ct_fail0 _ hM h33 ht.2.1) (fun iv h5 => ?_)
    unfold ptS at hr
    rw [if_neg (fun z => absurd c1 (hx.mpr z))] at hr
    cases hr
    refine r_aload0 dX7_part_8 ?_
    refine gf_X7_181 dX7_part_9 rfl hM.1 ?_
    refine rn_if_ne 19 dX7_part_12 rfl (fun _ => ?_) (fun h => absurd h (show ¬ iv 75 33 = 0 by rw [h5.2.1]; decide))
    refine r_aload0 dX7_part_19 ?_
    refine gf_X7_181 dX7_part_20 rfl hM.1 ?_
    refine rn_if_eq 30 dX7_part_23 rfl (fun h => absurd h (show ¬ iv 75 33 = 0 by rw [h5.2.1]; decide)) (fun _ => ?_)
    refine rn_iconst (0) dX7_part_26 (by decide) ?_
    refine rn_goto 34 dX7_part_27 rfl ?_
    refine r_istore2 dX7_part_34 rfl ?_
    refine r_aload0 dX7_part_35 ?_
    refine rn_bipush (59) dX7_part_36 (by decide) ?_
    refine cpiV1 dX7_part_38 ov_X7_isSign rfl ml_X7_223 hM.1 rfl (Nat.zero_le _) (Nat.zero_le _) (Nat.zero_le _) (ct_isSbad _ hM h5.2.1 _) ?_
    refine rn_if_ne 48 dX7_part_41 rfl (fun h => absurd rfl h) (fun _ => ?_)
    refine r_aload0 dX7_part_44 ?_
    refine ccvV0 dX7_part_45 ov_X7_fail rfl ml_X7_195 hM.1 rfl (Nat.zero_le _) (Nat.zero_le _) (Nat.zero_le _) (ct_failb _ hM h5.2.1) (fun iv h45 => ?_)
    subst h45
    refine r_aload0 dX7_part_48 ?_
    refine gf_X7_181 dX7_part_49 rfl hM.1 ?_
    refine rn_if_ne 59 dX7_part_52 rfl (fun _ => ?_) (fun h => absurd h (show ¬ iv 75 33 = 0 by rw [h5.2.1]; decide))
    refine r_iload2 dX7_part_59 ?_
    refine rn_iret dX7_part_60 rfl (Nat.zero_le _) (Nat.zero_le _) ?_
    exact ⟨_, rfl, rfl, rfl, h5.1, h5.2.1, h5.2.2.1⟩
theorem tok_end {b : Nat → Int32} {n : Nat} {t : Tk} (h : TokM iv lv b n t) (h1 : iv 75 29 = 0) : t.1 = 13 := by
  obtain ⟨-, -, h⟩ := h
  rcases h with ⟨h2, -⟩ | ⟨-, h2, -⟩ | ⟨-, h2, -⟩ | ⟨-, -, h2, -⟩ | ⟨-, h2⟩
  · exact h2
  all_goals (rw [h2] at h1; exact absurd h1 (by decide))
theorem tok_end0 {b : Nat → Int32} {n : Nat} {t : Tk} (h : TokM iv lv b n t) (h1 : t.1 = 13) : iv 75 29 = 0 := by
  obtain ⟨-, -, h⟩ := h
  rcases h with ⟨-, h2, -⟩ | ⟨h2, -⟩ | ⟨h2, -⟩ | ⟨-, h2, -⟩ | ⟨h2, -⟩
  · exact h2
  · omega
  · exact absurd (h2.symm.trans h1) (wcode_ne _).1
  · omega
  · omega
theorem kx {c : Int32} {t K : Nat} (h : c = 0) : ¬ bI (c = 0 ∧ t = K) = 0 ↔ t = K := by
  rw [bI_0]; simp [h]
set_option maxRecDepth 4000 in
theorem ct_read (D : Nat) (hM : ShM Γ rv) {b : Nat → Int32} {n ti : Nat} {x : Int32} (hx : x = nI ti) (hti : ti < 6) (h77 : iv 77 ti = nI n) (hn : n ≤ 160) (hb : ∀ j, j < n → iv 76 (160 * ti + j) = b j) (hbb : ∀ j, j < n → 0 ≤ b j ∧ b j ≤ 255) {e : Nat → Int32} (he : ∀ j, j < 6 → iv 75 (20 + j) = e j) (w : Int32) {r : Nat ⊕ (List Int32 × List Int32 × List Int32)} (hr : txS b n = some r) : Ct g l mX7_read (D + 46) 0 0 [.ref 75, .int x, .int w] Γ iv rv lv (qLI Γ rv (fun x iv' lv' => Off Rd iv iv' ∧ PoR e w r x iv')) := by
  refine Ct.of (by decide +kernel) (Nat.le_of_ble_eq_true rfl) (Nat.le_of_ble_eq_true rfl) ?_
  have hT5 : TxM (up (up (up (up (up iv 75 26 (160 * x)) 75 27 (iv 77 ti)) 75 28 0) 75 32 0) 75 33 0) b n (160 * ti) := ⟨h77, by show 160 * x = _; rw [hx, show (160 : Int32) = nI 160 by decide, pk_mul], hb, by omega, hn, hbb⟩
  have he5 : ∀ j, j < 6 → (up (up (up (up (up iv 75 26 (160 * x)) 75 27 (iv 77 ti)) 75 28 0) 75 32 0) 75 33 0) 75 (20 + j) = e j := fun j hj => by rw [← he j hj]; match j, hj with | 0, _ => rfl | 1, _ => rfl | 2, _ => rfl | 3, _ => rfl | 4, _ => rfl | 5, _ => rfl
  have hb5 : Off Rd iv (up (up (up (up (up iv 75 26 (160 * x)) 75 27 (iv 77 ti)) 75 28 0) 75 32 0) 75 33 0) := ((((off_up (by decide)).trans (off_up (by decide))).trans (off_up (by decide))).trans (off_up (by decide))).trans (off_up (by decide))
  unfold txS at hr
  obtain ⟨r1, hr1, hr⟩ := tb_some hr
  refine r_aload0 dX7_read_0 ?_
  refine rn_sipush (160) dX7_read_1 (by decide) ?_
  refine r_iload1 dX7_read_4 ?_
  refine rn_imul dX7_read_5 ?_
  refine pf_X7_152 dX7_read_6 rfl hM.1 ?_
  refine r_aload0 dX7_read_9 ?_
  refine r_aload0 dX7_read_10 ?_
  refine gf_X7_17 dX7_read_11 rfl hM.1 (sm_textSize hM).1 ?_
  refine r_iload1 dX7_read_14 ?_
  refine rn_iald ti dX7_read_15 (sm_textSize hM).2 hx hti (by decide) ?_
  refine pf_X7_149 dX7_read_16 rfl hM.1 ?_
  refine r_aload0 dX7_read_19 ?_
  refine rn_iconst (0) dX7_read_20 (by decide) ?_
  refine pf_X7_155 dX7_read_21 rfl hM.1 ?_
  refine r_aload0 dX7_read_24 ?_
  refine rn_iconst (0) dX7_read_25 (by decide) ?_
  refine pf_X7_192 dX7_read_26 rfl hM.1 ?_
  refine r_aload0 dX7_read_29 ?_
  refine rn_iconst (0) dX7_read_30 (by decide) ?_
  refine pf_X7_181 dX7_read_31 rfl (Or.inl rfl) hM.1 ?_
  refine r_aload0 dX7_read_34 ?_
  refine clvV0 dX7_read_35 ov_X7_next rfl ml_X7_198 hM.1 rfl (Nat.zero_le _) (Nat.zero_le _) (Nat.zero_le _) (ct_next (iv := (up (up (up (up (up iv 75 26 (160 * x)) 75 27 (iv 77 ti)) 75 28 0) 75 32 0) 75 33 0)) _ hM hT5 0 rfl (Nat.zero_le _)) (fun iv lv h35 => ?_)
  refine r_aload0 dX7_read_38 ?_
  refine r_aload0 dX7_read_39 ?_
  refine rn_bipush (114) dX7_read_40 (by decide) ?_
  refine rn_bipush (97) dX7_read_42 (by decide) ?_
  refine rn_bipush (116) dX7_read_44 (by decide) ?_
  refine rn_bipush (101) dX7_read_46 (by decide) ?_
  refine rn_iconst (0) dX7_read_48 (by decide) ?_
  refine rn_iconst (0) dX7_read_49 (by decide) ?_
  refine rn_iconst (0) dX7_read_50 (by decide) ?_
  refine rn_iconst (0) dX7_read_51 (by decide) ?_
  refine cpiV8 dX7_read_52 ov_X7_isWord rfl ml_X7_201 hM.1 rfl (Nat.le_of_ble_eq_true rfl) (Nat.zero_le _) (Nat.zero_le _) (ct_isW6 _ hM (hT5.ps (lx_ps h35.1)) h35.2) ?_
  refine cliV1 dX7_read_55 ov_X7_part rfl ml_X7_255 hM.1 rfl (Nat.zero_le _) (Nat.zero_le _) (Nat.zero_le _) (ct_part D hM (hT5.ps (lx_ps h35.1)) h35.2 (h35.1 75 33 (by decide)) (h35.1 75 32 (by decide)) (env_off (lx_ps h35.1) he5) 6 (by decide) (kx (h35.1 75 33 (by decide))) hr1) (fun x55 iv lv h55 => ?_)
  rcases r1 with z | q
  · dsimp only at hr
    subst hr
    refine r_istore3 dX7_read_58 rfl ?_
    refine r_aload0 dX7_read_59 ?_
    refine gf_X7_181 dX7_read_60 rfl hM.1 ?_
    refine rn_if_eq 70 dX7_read_63 rfl (fun h => absurd h (show ¬ iv 75 33 = 0 by rw [h55.2.1]; decide)) (fun _ => ?_)
    refine rn_iconst (0) dX7_read_66 (by decide) ?_
    refine rn_goto 90 dX7_read_67 rfl ?_
    refine r_istore4 dX7_read_90 rfl ?_
    refine r_aload0 dX7_read_92 ?_
    refine gf_X7_181 dX7_read_93 rfl hM.1 ?_
    refine rn_if_eq 103 dX7_read_96 rfl (fun h => absurd h (show ¬ iv 75 33 = 0 by rw [h55.2.1]; decide)) (fun _ => ?_)
    refine rn_iconst (0) dX7_read_99 (by decide) ?_
    refine rn_goto 124 dX7_read_100 rfl ?_
    refine r_istore5 dX7_read_124 rfl ?_
    refine r_aload0 dX7_read_126 ?_
    refine gf_X7_181 dX7_read_127 rfl hM.1 ?_
    refine rn_if_ne 144 dX7_read_130 rfl (fun _ => ?_) (fun h => absurd h (show ¬ iv 75 33 = 0 by rw [h55.2.1]; decide))
    refine r_iload2 dX7_read_144 ?_
    refine rn_if_ne 152 dX7_read_145 rfl (fun c145 => ?_) (fun c145 => ?_)
    · refine r_iload2 dX7_read_152 ?_
      refine rn_iconst (1) dX7_read_153 (by decide) ?_
      refine rn_icmp_ne 162 dX7_read_154 rfl (fun c154 => ?_) (fun c154 => ?_)
      · refine r_iload5 dX7_read_162 ?_
        refine rn_iret dX7_read_164 rfl (Nat.zero_le _) (Nat.zero_le _) ?_
        exact ⟨_, rfl, rfl, rfl, ((hb5.trans (ps_rd (lx_ps h35.1))).trans (ps_rd h55.1)), h55.2.1, h55.2.2⟩
      · refine r_iload4 dX7_read_157 ?_
        refine rn_goto 164 dX7_read_159 rfl ?_
        refine rn_iret dX7_read_164 rfl (Nat.zero_le _) (Nat.zero_le _) ?_
        exact ⟨_, rfl, rfl, rfl, ((hb5.trans (ps_rd (lx_ps h35.1))).trans (ps_rd h55.1)), h55.2.1, h55.2.2⟩
    · refine r_iload3 dX7_read_148 ?_
      refine rn_goto 164 dX7_read_149 rfl ?_
      refine rn_iret dX7_read_164 rfl (Nat.zero_le _) (Nat.zero_le _) ?_
      exact ⟨_, rfl, rfl, rfl, ((hb5.trans (ps_rd (lx_ps h35.1))).trans (ps_rd h55.1)), h55.2.1, h55.2.2⟩
  · dsimp only at hr
    obtain ⟨a1, a2, a3, a4, a5⟩ := h55.2
    have g0 := (ptS_good e h35.2.1 (by decide) hr1).2
    obtain ⟨r2, hr2, hr⟩ := tb_some hr
    refine r_istore3 dX7_read_58 rfl ?_
    refine r_aload0 dX7_read_59 ?_
    refine gf_X7_181 dX7_read_60 rfl hM.1 ?_
    refine rn_if_eq 70 dX7_read_63 rfl (fun _ => ?_) (fun h => absurd a1 h)
    refine r_aload0 dX7_read_70 ?_
    refine r_aload0 dX7_read_71 ?_
    refine rn_bipush (110) dX7_read_72 (by decide) ?_
    refine rn_bipush (101) dX7_read_74 (by decide) ?_
    refine rn_bipush (101) dX7_read_76 (by decide) ?_
    refine rn_bipush (100) dX7_read_78 (by decide) ?_
    refine rn_iconst (0) dX7_read_80 (by decide) ?_
    refine rn_iconst (0) dX7_read_81 (by decide) ?_
    refine rn_iconst (0) dX7_read_82 (by decide) ?_
    refine rn_iconst (0) dX7_read_83 (by decide) ?_
    refine cpiV8 dX7_read_84 ov_X7_isWord rfl ml_X7_201 hM.1 rfl (Nat.le_of_ble_eq_true rfl) (Nat.zero_le _) (Nat.zero_le _) (ct_isW7 _ hM ((hT5.ps (lx_ps h35.1)).ps h55.1) a3) ?_
    refine cliV1 dX7_read_87 ov_X7_part rfl ml_X7_255 hM.1 rfl (Nat.zero_le _) (Nat.zero_le _) (Nat.zero_le _) (ct_part D hM ((hT5.ps (lx_ps h35.1)).ps h55.1) a3 a1 a2 (env_off ((lx_ps h35.1).trans h55.1) he5) 7 (by decide) (kx a1) hr2) (fun x87 iv lv h87 => ?_)
    rcases r2 with z | q2
    · dsimp only at hr
      subst hr
      refine r_istore4 dX7_read_90 rfl ?_
      refine r_aload0 dX7_read_92 ?_
      refine gf_X7_181 dX7_read_93 rfl hM.1 ?_
      refine rn_if_eq 103 dX7_read_96 rfl (fun h => absurd h (show ¬ iv 75 33 = 0 by rw [h87.2.1]; decide)) (fun _ => ?_)
      refine rn_iconst (0) dX7_read_99 (by decide) ?_
      refine rn_goto 124 dX7_read_100 rfl ?_
      refine r_istore5 dX7_read_124 rfl ?_
      refine r_aload0 dX7_read_126 ?_
      refine gf_X7_181 dX7_read_127 rfl hM.1 ?_
      refine rn_if_ne 144 dX7_read_130 rfl (fun _ => ?_) (fun h => absurd h (show ¬ iv 75 33 = 0 by rw [h87.2.1]; decide))
      refine r_iload2 dX7_read_144 ?_
      refine rn_if_ne 152 dX7_read_145 rfl (fun c145 => ?_) (fun c145 => ?_)
      · refine r_iload2 dX7_read_152 ?_
        refine rn_iconst (1) dX7_read_153 (by decide) ?_
        refine rn_icmp_ne 162 dX7_read_154 rfl (fun c154 => ?_) (fun c154 => ?_)
        · refine r_iload5 dX7_read_162 ?_
          refine rn_iret dX7_read_164 rfl (Nat.zero_le _) (Nat.zero_le _) ?_
          exact ⟨_, rfl, rfl, rfl, (((hb5.trans (ps_rd (lx_ps h35.1))).trans (ps_rd h55.1)).trans (ps_rd h87.1)), h87.2.1, h87.2.2⟩
        · refine r_iload4 dX7_read_157 ?_
          refine rn_goto 164 dX7_read_159 rfl ?_
          refine rn_iret dX7_read_164 rfl (Nat.zero_le _) (Nat.zero_le _) ?_
          exact ⟨_, rfl, rfl, rfl, (((hb5.trans (ps_rd (lx_ps h35.1))).trans (ps_rd h55.1)).trans (ps_rd h87.1)), h87.2.1, h87.2.2⟩
      · refine r_iload3 dX7_read_148 ?_
        refine rn_goto 164 dX7_read_149 rfl ?_
        refine rn_iret dX7_read_164 rfl (Nat.zero_le _) (Nat.zero_le _) ?_
        exact ⟨_, rfl, rfl, rfl, (((hb5.trans (ps_rd (lx_ps h35.1))).trans (ps_rd h55.1)).trans (ps_rd h87.1)), h87.2.1, h87.2.2⟩
    · dsimp only at hr
      obtain ⟨b1, b2, b3, b4, b5⟩ := h87.2
      obtain ⟨r3, hr3, hr⟩ := tb_some hr
      refine r_istore4 dX7_read_90 rfl ?_
      refine r_aload0 dX7_read_92 ?_
      refine gf_X7_181 dX7_read_93 rfl hM.1 ?_
      refine rn_if_eq 103 dX7_read_96 rfl (fun _ => ?_) (fun h => absurd b1 h)
      refine r_aload0 dX7_read_103 ?_
      refine r_aload0 dX7_read_104 ?_
      refine rn_bipush (119) dX7_read_105 (by decide) ?_
      refine rn_bipush (111) dX7_read_107 (by decide) ?_
      refine rn_bipush (114) dX7_read_109 (by decide) ?_
      refine rn_bipush (116) dX7_read_111 (by decide) ?_
      refine rn_bipush (104) dX7_read_113 (by decide) ?_
      refine rn_iconst (0) dX7_read_115 (by decide) ?_
      refine rn_iconst (0) dX7_read_116 (by decide) ?_
      refine rn_iconst (0) dX7_read_117 (by decide) ?_
      refine cpiV8 dX7_read_118 ov_X7_isWord rfl ml_X7_201 hM.1 rfl (Nat.le_of_ble_eq_true rfl) (Nat.zero_le _) (Nat.zero_le _) (ct_isW8 _ hM (((hT5.ps (lx_ps h35.1)).ps h55.1).ps h87.1) b3) ?_
      refine cliV1 dX7_read_121 ov_X7_part rfl ml_X7_255 hM.1 rfl (Nat.zero_le _) (Nat.zero_le _) (Nat.zero_le _) (ct_part D hM (((hT5.ps (lx_ps h35.1)).ps h55.1).ps h87.1) b3 b1 b2 (env_off (((lx_ps h35.1).trans h55.1).trans h87.1) he5) 8 (by decide) (kx b1) hr3) (fun x121 iv lv h121 => ?_)
      rcases r3 with z | q3
      · dsimp only at hr
        subst hr
        refine r_istore5 dX7_read_124 rfl ?_
        refine r_aload0 dX7_read_126 ?_
        refine gf_X7_181 dX7_read_127 rfl hM.1 ?_
        refine rn_if_ne 144 dX7_read_130 rfl (fun _ => ?_) (fun h => absurd h (show ¬ iv 75 33 = 0 by rw [h121.2.1]; decide))
        refine r_iload2 dX7_read_144 ?_
        refine rn_if_ne 152 dX7_read_145 rfl (fun c145 => ?_) (fun c145 => ?_)
        · refine r_iload2 dX7_read_152 ?_
          refine rn_iconst (1) dX7_read_153 (by decide) ?_
          refine rn_icmp_ne 162 dX7_read_154 rfl (fun c154 => ?_) (fun c154 => ?_)
          · refine r_iload5 dX7_read_162 ?_
            refine rn_iret dX7_read_164 rfl (Nat.zero_le _) (Nat.zero_le _) ?_
            exact ⟨_, rfl, rfl, rfl, ((((hb5.trans (ps_rd (lx_ps h35.1))).trans (ps_rd h55.1)).trans (ps_rd h87.1)).trans (ps_rd h121.1)), h121.2.1, h121.2.2⟩
          · refine r_iload4 dX7_read_157 ?_
            refine rn_goto 164 dX7_read_159 rfl ?_
            refine rn_iret dX7_read_164 rfl (Nat.zero_le _) (Nat.zero_le _) ?_
            exact ⟨_, rfl, rfl, rfl, ((((hb5.trans (ps_rd (lx_ps h35.1))).trans (ps_rd h55.1)).trans (ps_rd h87.1)).trans (ps_rd h121.1)), h121.2.1, h121.2.2⟩
        · refine r_iload3 dX7_read_148 ?_
          refine rn_goto 164 dX7_read_149 rfl ?_
          refine rn_iret dX7_read_164 rfl (Nat.zero_le _) (Nat.zero_le _) ?_
          exact ⟨_, rfl, rfl, rfl, ((((hb5.trans (ps_rd (lx_ps h35.1))).trans (ps_rd h55.1)).trans (ps_rd h87.1)).trans (ps_rd h121.1)), h121.2.1, h121.2.2⟩
      · dsimp only at hr
        obtain ⟨c1, c2, c3, c4, c5⟩ := h121.2
        refine r_istore5 dX7_read_124 rfl ?_
        refine r_aload0 dX7_read_126 ?_
        refine gf_X7_181 dX7_read_127 rfl hM.1 ?_
        refine rn_if_ne 144 dX7_read_130 rfl (fun h => absurd c1 h) (fun _ => ?_)
        refine r_aload0 dX7_read_133 ?_
        refine gf_X7_164 dX7_read_134 rfl hM.1 ?_
        refine rn_if_eq 144 dX7_read_137 rfl (fun c137 => ?_) (fun c137 => ?_)
        · have t13 := tok_end c3 c137
          rw [if_pos t13] at hr
          cases hr
          refine r_iload2 dX7_read_144 ?_
          refine rn_if_ne 152 dX7_read_145 rfl (fun c145 => ?_) (fun c145 => ?_)
          · refine r_iload2 dX7_read_152 ?_
            refine rn_iconst (1) dX7_read_153 (by decide) ?_
            refine rn_icmp_ne 162 dX7_read_154 rfl (fun c154 => ?_) (fun c154 => ?_)
            · refine r_iload5 dX7_read_162 ?_
              refine rn_iret dX7_read_164 rfl (Nat.zero_le _) (Nat.zero_le _) ?_
              refine ⟨_, rfl, rfl, rfl, ((((hb5.trans (ps_rd (lx_ps h35.1))).trans (ps_rd h55.1)).trans (ps_rd h87.1)).trans (ps_rd h121.1)), c1, ?_⟩
              show _ = vl e _
              rw [if_neg c145, if_neg c154]; exact c5
            · refine r_iload4 dX7_read_157 ?_
              refine rn_goto 164 dX7_read_159 rfl ?_
              refine rn_iret dX7_read_164 rfl (Nat.zero_le _) (Nat.zero_le _) ?_
              refine ⟨_, rfl, rfl, rfl, ((((hb5.trans (ps_rd (lx_ps h35.1))).trans (ps_rd h55.1)).trans (ps_rd h87.1)).trans (ps_rd h121.1)), c1, ?_⟩
              show _ = vl e _
              rw [if_neg c145, if_pos c154]; exact b5
          · refine r_iload3 dX7_read_148 ?_
            refine rn_goto 164 dX7_read_149 rfl ?_
            refine rn_iret dX7_read_164 rfl (Nat.zero_le _) (Nat.zero_le _) ?_
            refine ⟨_, rfl, rfl, rfl, ((((hb5.trans (ps_rd (lx_ps h35.1))).trans (ps_rd h55.1)).trans (ps_rd h87.1)).trans (ps_rd h121.1)), c1, ?_⟩
            show _ = vl e _
            rw [if_pos c145]; exact a5
        · refine r_aload0 dX7_read_140 ?_
          refine ccvV0 dX7_read_141 ov_X7_fail rfl ml_X7_195 hM.1 rfl (Nat.zero_le _) (Nat.zero_le _) (Nat.zero_le _) (ct_fail0 _ hM c1 c3.2.1) (fun iv h141 => ?_)
          rw [if_neg (fun z => c137 (tok_end0 c3 z))] at hr
          cases hr
          refine r_iload2 dX7_read_144 ?_
          refine rn_if_ne 152 dX7_read_145 rfl (fun c145 => ?_) (fun c145 => ?_)
          · refine r_iload2 dX7_read_152 ?_
            refine rn_iconst (1) dX7_read_153 (by decide) ?_
            refine rn_icmp_ne 162 dX7_read_154 rfl (fun c154 => ?_) (fun c154 => ?_)
            · refine r_iload5 dX7_read_162 ?_
              refine rn_iret dX7_read_164 rfl (Nat.zero_le _) (Nat.zero_le _) ?_
              exact ⟨_, rfl, rfl, rfl, (((((hb5.trans (ps_rd (lx_ps h35.1))).trans (ps_rd h55.1)).trans (ps_rd h87.1)).trans (ps_rd h121.1)).trans (ps_rd h141.1)), h141.2.1, h141.2.2.1⟩
            · refine r_iload4 dX7_read_157 ?_
              refine rn_goto 164 dX7_read_159 rfl ?_
              refine rn_iret dX7_read_164 rfl (Nat.zero_le _) (Nat.zero_le _) ?_
              exact ⟨_, rfl, rfl, rfl, (((((hb5.trans (ps_rd (lx_ps h35.1))).trans (ps_rd h55.1)).trans (ps_rd h87.1)).trans (ps_rd h121.1)).trans (ps_rd h141.1)), h141.2.1, h141.2.2.1⟩
          · refine r_iload3 dX7_read_148 ?_
            refine rn_goto 164 dX7_read_149 rfl ?_
            refine rn_iret dX7_read_164 rfl (Nat.zero_le _) (Nat.zero_le _) ?_
            exact ⟨_, rfl, rfl, rfl, (((((hb5.trans (ps_rd (lx_ps h35.1))).trans (ps_rd h55.1)).trans (ps_rd h87.1)).trans (ps_rd h121.1)).trans (ps_rd h141.1)), h141.2.1, h141.2.2.1⟩
end MREAD
