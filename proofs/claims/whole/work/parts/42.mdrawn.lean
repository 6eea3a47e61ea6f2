/-! THE REFERENCE: drawn -/
def lcg (s : Int32) : Int32 := s * 1103515245 + 12345
def grd (z : Int32) : Int32 := (z.toUInt32 >>> ((12 : Int32).toUInt32 &&& Int32.toUInt32 31)).toInt32 - (z.toUInt32 >>> ((12 : Int32).toUInt32 &&& Int32.toUInt32 31)).toInt32 / 4 * 4
def drG (nx gr : Int32 → Int32) : Nat → Nat → IV → Int32 → IV
  | 0, _, ρ, _ => ρ
  | n + 1, y, ρ, s => drG nx gr n (y + 1) (up ρ 0 y (gr (nx s))) (nx s)
def drR (ρ : IV) (sd : Int32) : IV := drG lcg grd (24 - vO ρ - uO ρ) (uO ρ) ρ sd
def drQ (S : Nat → Nat → List Int32) (ρ : IV) (sd : Int32) : Int32 := nI (endS S (drR ρ sd)).1
theorem drG_s {nx gr : Int32 → Int32} {n y : Nat} {ρ : IV} {s : Int32} : drG nx gr (n + 1) y ρ s = drG nx gr n (y + 1) (up ρ 0 y (gr (nx s))) (nx s) := by rw [drG]
theorem drG_off {nx gr : Int32 → Int32} : ∀ n y ρ s a b, a ≠ 0 → drG nx gr n y ρ s a b = ρ a b := by
  intro n
  induction n with
  | zero => intro y ρ s a b h; rfl
  | succ n ih => intro y ρ s a b h; rw [drG, ih _ _ _ _ _ h, up_ne1 h]
theorem gr_drG {nx gr : Int32 → Int32} : ∀ n y ρ s, GR ρ → GR (drG nx gr n y ρ s) := by
  intro n
  induction n with
  | zero => intro y ρ s h; exact h
  | succ n ih => intro y ρ s h; rw [drG]; exact ih _ _ _ (h.upd (by omega) (by omega) (by omega) (by omega))
theorem kp_drG {nx gr : Int32 → Int32} {n y : Nat} {ρ : IV} {s : Int32} : Kp ρ (drG nx gr n y ρ s) := ⟨fun k γ a b c => drG_off _ _ _ _ _ _ (by omega), drG_off _ _ _ _ _ _ (by decide), drG_off _ _ _ _ _ _ (by decide), drG_off _ _ _ _ _ _ (by decide)⟩
abbrev Gd (a _ : Nat) : Prop := a = 79
section MDRAWN
variable {g : GS} {l : Launch} {Γ : Sh} {iv : IV} {rv : RV} {lv : LV}
set_option maxRecDepth 4000 in
theorem dr_loop {D : Nat} {Q : Qt} (hM : ShM Γ rv) {v : Nat} (hv : v ≤ 24) {sd : Int32} : ∀ (n y : Nat) (ρ iv : IV) (s x : Int32), y + n = 24 - v → x = nI y → iv 90 6 = nI v → RM iv ρ → (∀ (iv' : IV) (s' x' : Int32), Off Gd iv iv' → RM iv' (drG lcg grd n y ρ s) → Rn g l mX7_drawn (rmA (D + 52) 0 0) Q 0 0 55 [.ref 75, .int sd, .int s', .int x'] [] Γ iv' rv lv) → Rn g l mX7_drawn (rmA (D + 52) 0 0) Q 0 0 13 [.ref 75, .int sd, .int s, .int x] [] Γ iv rv lv := by
  intro n
  induction n with
  | zero =>
    intro y ρ iv s x hn hx h6 hR kk
    refine r_iload3 dX7_drawn_13 ?_
    refine rn_bipush (24) dX7_drawn_14 (by decide) ?_
    refine r_aload0 dX7_drawn_16 ?_
    refine gf_X7_62 dX7_drawn_17 rfl hM.1 (sm_gangsWas hM).1 ?_
    refine rn_bipush (6) dX7_drawn_20 (by decide) ?_
    refine rn_iald 6 dX7_drawn_22 (sm_gangsWas hM).2 rfl (by decide) (by decide) ?_
    refine rn_eqi (nI v) h6 ?_
    refine rn_isub dX7_drawn_23 ?_
    refine rn_eqi (nI (24 - v)) (by rw [show (24 : Int32) = nI 24 by decide]; exact pk_sub (by omega)) ?_
    refine rn_icmp_ge 55 dX7_drawn_24 rfl (fun _ => ?_) (fun h => absurd (by rw [hx]; exact nI_le (by omega) (by omega)) h)
    exact kk _ _ _ Off.refl hR
  | succ n ih =>
    intro y ρ iv s x hn hx h6 hR kk
    refine r_iload3 dX7_drawn_13 ?_
    refine rn_bipush (24) dX7_drawn_14 (by decide) ?_
    refine r_aload0 dX7_drawn_16 ?_
    refine gf_X7_62 dX7_drawn_17 rfl hM.1 (sm_gangsWas hM).1 ?_
    refine rn_bipush (6) dX7_drawn_20 (by decide) ?_
    refine rn_iald 6 dX7_drawn_22 (sm_gangsWas hM).2 rfl (by decide) (by decide) ?_
    refine rn_eqi (nI v) h6 ?_
    refine rn_isub dX7_drawn_23 ?_
    refine rn_eqi (nI (24 - v)) (by rw [show (24 : Int32) = nI 24 by decide]; exact pk_sub (by omega)) ?_
    refine rn_icmp_ge 55 dX7_drawn_24 rfl (fun h => absurd h (fun z => by rw [hx, nI_leI (by omega) (by omega)] at z; omega)) (fun _ => ?_)
    refine r_iload2 dX7_drawn_27 ?_
    refine rn_ldcw (v := _) dX7_drawn_28 cn_X7_335 ?_
    refine rn_imul dX7_drawn_31 ?_
    refine rn_sipush (12345) dX7_drawn_32 (by decide) ?_
    refine rn_iadd dX7_drawn_35 ?_
    refine rn_eqi (lcg s) rfl ?_
    refine r_istore2 dX7_drawn_36 rfl ?_
    refine r_aload0 dX7_drawn_37 ?_
    refine gf_X7_23 dX7_drawn_38 rfl hM.1 (sm_grounds hM).1 ?_
    refine r_iload3 dX7_drawn_41 ?_
    refine r_iload2 dX7_drawn_42 ?_
    refine rn_bipush (12) dX7_drawn_43 (by decide) ?_
    refine rn_iushr dX7_drawn_45 ?_
    refine rn_iconst (4) dX7_drawn_46 (by decide) ?_
    refine rn_irem dX7_drawn_47 (by decide) ?_
    refine rn_eqi (grd (lcg s)) rfl ?_
    refine rn_iast y dX7_drawn_48 (sm_grounds hM).2 hx (by omega) (by decide) ?_
    refine r_iinc3 _ dX7_drawn_49 rfl rfl ?_
    refine rn_goto 13 dX7_drawn_52 rfl ?_
    have ee := drG_s (nx := lcg) (gr := grd) (n := n) (y := y) (ρ := ρ) (s := s)
    rw [ee] at kk
    exact ih (y + 1) _ _ _ _ (by omega) (by rw [hx]; exact nI_1 y) ((up_ne1 (by decide)).trans h6) hR.grd (fun iv2 s2 x2 ho hR2 => kk iv2 s2 x2 ((off_up (S := Gd) rfl).trans ho) hR2)
set_option maxRecDepth 4000 in
theorem ct_drawn (D : Nat) (hM : ShM Γ rv) {ρ : IV} {S : Nat → Nat → List Int32} {T : Nat} (hR : RM iv ρ) (hX : TextsM iv T S) (hT6 : T ≤ 6) {t : Nat} (ht : ρ 4 8 = nI t) (htT : t < T) (hg : GR ρ) (sd : Int32) : Ct g l mX7_drawn (D + 52) 0 0 [.ref 75, .int sd] Γ iv rv lv (qLI Γ rv (fun x iv' _ => Off Scr iv iv' ∧ RM iv' ρ ∧ x = drQ S ρ sd)) := by
  refine Ct.of (by decide +kernel) (Nat.le_of_ble_eq_true rfl) (Nat.le_of_ble_eq_true rfl) ?_
  refine r_aload0 dX7_drawn_0 ?_
  refine ccvV0 dX7_drawn_1 ov_X7_laysAside rfl ml_X7_298 hM.1 rfl (Nat.zero_le _) (Nat.zero_le _) (Nat.zero_le _) (ct_laysAside _ hM hR) (fun iv h1 => ?_)
  refine r_iload1 dX7_drawn_4 ?_
  refine r_istore2 dX7_drawn_5 rfl ?_
  refine r_aload0 dX7_drawn_6 ?_
  refine gf_X7_38 dX7_drawn_7 rfl hM.1 (sm_dones hM).1 ?_
  refine rn_iconst (0) dX7_drawn_10 (by decide) ?_
  refine rn_iald 0 dX7_drawn_11 (sm_dones hM).2 rfl (by decide) (by decide) ?_
  refine rn_eqi (nI (uO ρ)) ((h1.2.1.gang 4 (γ := 0) (by decide) (by decide) (by decide)).trans hg.1) ?_
  refine r_istore3 dX7_drawn_12 rfl ?_
  have h24 := hg.2.2.1
  refine dr_loop hM (v := vO ρ) (by omega) (24 - vO ρ - uO ρ) (uO ρ) ρ iv _ _ (by omega) rfl ((h1.2.2.2.1 4 1 (by decide) (by decide) (by decide)).trans hg.2.1) h1.2.1 (fun iv2 s2 x2 ho hR2 => ?_)
  have hX2 := (hX.scr (as_scr h1.1)).scr (ho.mono (fun a b z => by omega))
  refine r_aload0 dX7_drawn_55 ?_
  refine rn_iconst (-1) dX7_drawn_56 (by decide) ?_
  refine rn_iconst (0) dX7_drawn_57 (by decide) ?_
  refine clvV2 dX7_drawn_58 ov_X7_runs rfl ml_X7_301 hM.1 rfl (Nat.zero_le _) (Nat.zero_le _) (Nat.zero_le _) (ct_mruns D hM hR2 hX2 hT6 (kp_drG.2.2.2.trans ht) htT (gr_drG _ _ _ _ hg) _ _) (fun iv lv h58 => ?_)
  refine r_aload0 dX7_drawn_61 ?_
  refine gf_X7_291 dX7_drawn_62 rfl hM.1 ?_
  refine rn_eqi (drQ S ρ sd) h58.2.2 ?_
  refine r_istore3 dX7_drawn_65 rfl ?_
  refine r_aload0 dX7_drawn_66 ?_
  refine ccvV0 dX7_drawn_67 ov_X7_laysBack rfl ml_X7_308 hM.1 rfl (Nat.zero_le _) (Nat.zero_le _) (Nat.zero_le _) (ct_laysBack _ hM h58.2.1 ((h1.2.2.off ho (fun a b z => by omega)).ru h58.1) (kp_drG.trans (keep_run _ _ _).kp)) (fun iv h67 => ?_)
  refine r_iload3 dX7_drawn_70 ?_
  refine rn_iret dX7_drawn_71 rfl (Nat.zero_le _) (Nat.zero_le _) ?_
  exact ⟨_, rfl, rfl, rfl, (((as_scr h1.1).trans (ho.mono (fun a b z => by omega))).trans (ru_scr h58.1)).trans (bk_scr h67.1), h67.2, rfl⟩
end MDRAWN
