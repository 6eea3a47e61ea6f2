/-! THE CLASS: constructors -/
def ro0 : IV := fun a b => if a = 4 then (if b = 5 then 50 else if b = 7 then 3 else 0) else if (a = 2 ∨ a = 3) ∧ b = 3 then 10 else 0
section CTOR
variable {g : GS} {l : Launch} {M : MI} {R : Room} {Q : Qt} {k n pc : Nat} {ls st : List Value} {Γ : Sh} {iv : IV} {rv : RV} {lv : LV}
theorem rn_nst (kk : Rn g l M R Q k n pc ls st Γ iv rv lv) : Rn g l M R Q k n pc ls ((none : Option Value).toList ++ st) Γ iv rv lv := kk
end CTOR
theorem isK_none {Γ : Sh} {m : Nat} (h : IsK Γ 0 m) : False := by have := h.1; have : K0 = 14 := rfl; omega
def Lo {α : Type} (m : Nat) (f f' : Nat → Nat → α) : Prop := ∀ x y, x < m → f' x y = f x y
theorem Lo.refl {α : Type} {m : Nat} {f : Nat → Nat → α} : Lo m f f := fun _ _ _ => rfl
theorem Lo.trans {α : Type} {m : Nat} {a b c : Nat → Nat → α} (h1 : Lo m a b) (h2 : Lo m b c) : Lo m a c := fun x y h => (h2 x y h).trans (h1 x y h)
theorem Lo.mono {α : Type} {m k : Nat} {a b : Nat → Nat → α} (h : Lo m a b) (hk : k ≤ m) : Lo k a b := fun x y z => h x y (by omega)
theorem lo_up {α : Type} {m i k : Nat} {x : α} {f : Nat → Nat → α} (h : m ≤ i) : Lo m f (up f i k x) := fun a b z => up_ne1 (by omega)
theorem lo_clr {α : Type} {m i : Nat} {x : α} {f : Nat → Nat → α} (h : m ≤ i) : Lo m f (clr f i x) := fun a b z => clr_ne (by omega)
section CINIT
variable {g : GS} {l : Launch} {Γ : Sh} {iv : IV} {rv : RV} {lv : LV}
set_option maxRecDepth 4000 in
theorem ct_bestI (D : Nat) {a : Nat} (hK : IsK Γ a 0) : Ct g l mX0_init (D + 1) 0 0 [.ref a] Γ iv rv lv (qCV Γ rv lv (fun iv' => iv' = up (up (up iv a 0 (-1)) a 1 0) a 2 1)) := by
  refine Ct.of (by decide +kernel) (Nat.le_of_ble_eq_true rfl) (Nat.le_of_ble_eq_true rfl) ?_
  refine r_aload0 dX0_init_0 ?_
  refine rn_objInit dX0_init_1 ml_X0_3 oin_1 oin_2 (by have := hK.1; have : K0 = 14 := rfl; omega) (Nat.zero_le _) (Nat.le_add_left _ _) (by show 20 ≤ 100 * _; omega) ?_
  refine r_aload0 dX0_init_4 ?_
  refine rn_iconst (-1) dX0_init_5 (by decide) ?_
  refine pf_X0_9 dX0_init_6 rfl hK ?_
  refine r_aload0 dX0_init_9 ?_
  refine rn_iconst (0) dX0_init_10 (by decide) ?_
  refine pf_X0_15 dX0_init_11 rfl hK ?_
  refine r_aload0 dX0_init_14 ?_
  refine rn_iconst (1) dX0_init_15 (by decide) ?_
  refine pf_X0_18 dX0_init_16 rfl (Or.inr rfl) hK ?_
  refine rn_vret dX0_init_19 rfl (Nat.zero_le _) (Nat.zero_le _) ?_
  exact ⟨rfl, rfl, rfl, rfl, rfl⟩
def qSI (Γ : Sh) (iv : IV) (rv : RV) (lv : LV) (a : Nat) : Qt := fun r Γ' iv' rv' lv' => r = none ∧ Γ' = alo Γ 20 40 ∧ Lo a iv iv' ∧ Lo a rv rv' ∧ Lo a lv lv' ∧ iv' a 1 = -1 ∧ rv' a 0 = a + 1
set_option maxRecDepth 4000 in
theorem ct_sheetI (D : Nat) {a : Nat} (hK : IsK Γ a 5) (hm : Γ.1 = a + 1) : Ct g l mX5_init (D + 1) 1 40 [.ref a] Γ iv rv lv (qSI Γ iv rv lv a) := by
  refine Ct.of (by decide +kernel) (Nat.le_of_ble_eq_true rfl) (Nat.le_of_ble_eq_true rfl) ?_
  refine r_aload0 dX5_init_0 ?_
  refine rn_objInit dX5_init_1 ml_X5_3 oin_1 oin_2 (by have := hK.1; have : K0 = 14 := rfl; omega) (Nat.zero_le _) (Nat.le_add_left _ _) (by show 20 ≤ 100 * _; omega) ?_
  refine r_aload0 dX5_init_4 ?_
  refine rn_bipush (40) dX5_init_5 (by decide) ?_
  refine rn_newaN (c := 20) (40) (a + 1) hm dX5_init_7 (Or.inl rfl) rfl ac_int (by decide) (by omega) (by show _ ≤ 1; omega) (by show _ ≤ 40; omega) (fun hz7 => ?_)
  have hn7 := isA_newN (c := 20) (len := 40) hm hz7
  have hK := isK_alo (c' := 20) (len := 40) hK
  refine pf_X5_9 dX5_init_9 rfl rfl hK ?_
  refine r_aload0 dX5_init_12 ?_
  refine rn_iconst (-1) dX5_init_13 (by decide) ?_
  refine pf_X5_15 dX5_init_14 rfl hK ?_
  refine r_aload0 dX5_init_17 ?_
  refine rn_iconst (0) dX5_init_18 (by decide) ?_
  refine pf_X5_19 dX5_init_19 rfl hK ?_
  refine rn_vret dX5_init_22 rfl (by show _ ≤ 1; omega) (by show _ ≤ 40; omega) ?_
  refine ⟨rfl, rfl, ?_, ?_, ?_, ?_, ?_⟩
  · exact ((lo_clr (by omega)).trans (lo_up (by omega))).trans (lo_up (by omega))
  · exact (lo_clr (by omega)).trans (lo_up (by omega))
  · exact lo_clr (by omega)
  · rw [up_ne2 (by decide), up_same]
  · exact up_same _ _ _ _
def gv (k : Nat) : Int32 := if k = 3 then 10 else 0
def qGI (Γ : Sh) (iv : IV) (rv : RV) (lv : LV) (a : Nat) (z : Int32) : Qt := fun r Γ' iv' rv' lv' => r = none ∧ Γ' = alo (alo Γ 20 2) 20 2 ∧ Lo a iv iv' ∧ Lo a rv rv' ∧ Lo a lv lv' ∧ (∀ k, 1 ≤ k → k ≤ 7 → iv' a k = gv k) ∧ iv' a 0 = z ∧ rv' a 8 = a + 1 ∧ rv' a 9 = a + 2
set_option maxRecDepth 4000 in
theorem ct_gangI (D : Nat) {a : Nat} (hK : IsK Γ a 1) (hm : Γ.1 = a + 1) {z : Int32} (hz : z = 0 ∨ z = 1) : Ct g l mX1_init (D + 1) 2 4 [.ref a, .int z] Γ iv rv lv (qGI Γ iv rv lv a z) := by
  refine Ct.of (by decide +kernel) (Nat.le_of_ble_eq_true rfl) (Nat.le_of_ble_eq_true rfl) ?_
  refine r_aload0 dX1_init_0 ?_
  refine rn_objInit dX1_init_1 ml_X1_3 oin_1 oin_2 (by have := hK.1; have : K0 = 14 := rfl; omega) (Nat.zero_le _) (Nat.le_add_left _ _) (by show 20 ≤ 100 * _; omega) ?_
  refine r_aload0 dX1_init_4 ?_
  refine rn_iconst (0) dX1_init_5 (by decide) ?_
  refine pf_X1_9 dX1_init_6 rfl hK ?_
  refine r_aload0 dX1_init_9 ?_
  refine rn_iconst (0) dX1_init_10 (by decide) ?_
  refine pf_X1_15 dX1_init_11 rfl hK ?_
  refine r_aload0 dX1_init_14 ?_
  refine rn_bipush (10) dX1_init_15 (by decide) ?_
  refine pf_X1_18 dX1_init_17 rfl hK ?_
  refine r_aload0 dX1_init_20 ?_
  refine rn_iconst (0) dX1_init_21 (by decide) ?_
  refine pf_X1_21 dX1_init_22 rfl hK ?_
  refine r_aload0 dX1_init_25 ?_
  refine rn_iconst (0) dX1_init_26 (by decide) ?_
  refine pf_X1_24 dX1_init_27 rfl hK ?_
  refine r_aload0 dX1_init_30 ?_
  refine rn_iconst (0) dX1_init_31 (by decide) ?_
  refine pf_X1_27 dX1_init_32 rfl hK ?_
  refine r_aload0 dX1_init_35 ?_
  refine rn_iconst (0) dX1_init_36 (by decide) ?_
  refine pf_X1_30 dX1_init_37 rfl hK ?_
  refine r_aload0 dX1_init_40 ?_
  refine rn_iconst (2) dX1_init_41 (by decide) ?_
  refine rn_newaN (c := 20) (2) (a + 1) hm dX1_init_42 (Or.inl rfl) rfl ac_int (by decide) (by omega) (by show _ ≤ 2; omega) (by show _ ≤ 4; omega) (fun hz42 => ?_)
  have hn42 := isA_newN (c := 20) (len := 2) hm hz42
  have hK := isK_alo (c' := 20) (len := 2) hK
  have hm2 : (alo Γ 20 2).1 = a + 2 := by rw [alo_1, hm]
  refine rn_dup dX1_init_44 rfl ?_
  refine rn_iconst (0) dX1_init_45 (by decide) ?_
  refine rn_iconst (-1) dX1_init_46 (by decide) ?_
  refine rn_iast 0 dX1_init_47 hn42 rfl (by decide) (by decide) ?_
  refine rn_dup dX1_init_48 rfl ?_
  refine rn_iconst (1) dX1_init_49 (by decide) ?_
  refine rn_iconst (-1) dX1_init_50 (by decide) ?_
  refine rn_iast 1 dX1_init_51 hn42 rfl (by decide) (by decide) ?_
  refine pf_X1_33 dX1_init_52 rfl rfl hK ?_
  refine r_aload0 dX1_init_55 ?_
  refine rn_iconst (2) dX1_init_56 (by decide) ?_
  refine rn_newaN (c := 20) (2) (a + 2) hm2 dX1_init_57 (Or.inl rfl) rfl ac_int (by decide) (by omega) (by show _ ≤ 2; omega) (by show _ ≤ 4; omega) (fun hz57 => ?_)
  have hn57 := isA_newN (c := 20) (len := 2) hm2 hz57
  have hK := isK_alo (c' := 20) (len := 2) hK
  have hn42 := isA_alo (c' := 20) (len := 2) hn42
  refine pf_X1_37 dX1_init_59 rfl rfl hK ?_
  refine r_aload0 dX1_init_62 ?_
  refine r_iload1 dX1_init_63 ?_
  refine pf_X1_40 dX1_init_64 rfl rfl hz hK ?_
  refine rn_vret dX1_init_67 rfl (by show _ ≤ 2; omega) (by show _ ≤ 4; omega) ?_
  refine ⟨rfl, rfl, ?_, ?_, ?_, fun k h1 h2 => match k, h1, h2 with
    | 1, _, _ => by rw [up_ne2 (by decide), clr_ne (by omega), up_ne1 (by omega), up_ne1 (by omega), clr_ne (by omega), up_ne2 (by decide), up_ne2 (by decide), up_ne2 (by decide), up_ne2 (by decide), up_ne2 (by decide), up_ne2 (by decide), up_same]; rfl
    | 2, _, _ => by rw [up_ne2 (by decide), clr_ne (by omega), up_ne1 (by omega), up_ne1 (by omega), clr_ne (by omega), up_ne2 (by decide), up_ne2 (by decide), up_ne2 (by decide), up_ne2 (by decide), up_ne2 (by decide), up_same]; rfl
    | 3, _, _ => by rw [up_ne2 (by decide), clr_ne (by omega), up_ne1 (by omega), up_ne1 (by omega), clr_ne (by omega), up_ne2 (by decide), up_ne2 (by decide), up_ne2 (by decide), up_ne2 (by decide), up_same]; rfl
    | 4, _, _ => by rw [up_ne2 (by decide), clr_ne (by omega), up_ne1 (by omega), up_ne1 (by omega), clr_ne (by omega), up_ne2 (by decide), up_ne2 (by decide), up_ne2 (by decide), up_same]; rfl
    | 5, _, _ => by rw [up_ne2 (by decide), clr_ne (by omega), up_ne1 (by omega), up_ne1 (by omega), clr_ne (by omega), up_ne2 (by decide), up_ne2 (by decide), up_same]; rfl
    | 6, _, _ => by rw [up_ne2 (by decide), clr_ne (by omega), up_ne1 (by omega), up_ne1 (by omega), clr_ne (by omega), up_ne2 (by decide), up_same]; rfl
    | 7, _, _ => by rw [up_ne2 (by decide), clr_ne (by omega), up_ne1 (by omega), up_ne1 (by omega), clr_ne (by omega), up_same]; rfl, up_same _ _ _ _, ⟨?_, ?_⟩⟩
  · exact fun x y h => by rw [up_ne1 (by omega), clr_ne (by omega), up_ne1 (by omega), up_ne1 (by omega), clr_ne (by omega), up_ne1 (by omega), up_ne1 (by omega), up_ne1 (by omega), up_ne1 (by omega), up_ne1 (by omega), up_ne1 (by omega), up_ne1 (by omega)]
  · exact fun x y h => by rw [up_ne1 (by omega), clr_ne (by omega), up_ne1 (by omega), clr_ne (by omega)]
  · exact fun x y h => by rw [clr_ne (by omega), clr_ne (by omega)]
  · rw [up_ne2 (by decide), clr_ne (by omega), up_same]
  · exact up_same _ _ _ _
def qRdI (Γ : Sh) (iv : IV) (rv : RV) (lv : LV) : Qt := fun r Γ' iv' rv' lv' => r = none ∧ Γ' = alo (alo (alo Γ 20 160) 20 160) 20 4 ∧ Lo 16 iv iv' ∧ Lo 16 rv rv' ∧ Lo 16 lv lv' ∧ iv' 16 0 = 0 ∧ iv' 19 0 = 0 ∧ rv' 16 2 = 17 ∧ rv' 16 7 = 18 ∧ rv' 16 9 = 19
set_option maxRecDepth 4000 in
theorem ct_readerI (D : Nat) (hK : IsK Γ 16 2) (hm : Γ.1 = 17) : Ct g l mX2_init (D + 1) 3 324 [.ref 16] Γ iv rv lv (qRdI Γ iv rv lv) := by
  refine Ct.of (by decide +kernel) (Nat.le_of_ble_eq_true rfl) (Nat.le_of_ble_eq_true rfl) ?_
  refine r_aload0 dX2_init_0 ?_
  refine rn_objInit dX2_init_1 ml_X2_3 oin_1 oin_2 (by decide) (Nat.zero_le _) (Nat.le_add_left _ _) (by show 20 ≤ 100 * _; omega) ?_
  refine r_aload0 dX2_init_4 ?_
  refine rn_iconst (0) dX2_init_5 (by decide) ?_
  refine pf_X2_9 dX2_init_6 rfl hK ?_
  refine r_aload0 dX2_init_9 ?_
  refine rn_iconst (-1) dX2_init_10 (by decide) ?_
  refine pf_X2_15 dX2_init_11 rfl hK ?_
  refine r_aload0 dX2_init_14 ?_
  refine rn_sipush (160) dX2_init_15 (by decide) ?_
  refine rn_newaN (c := 20) (160) (17) hm dX2_init_18 (Or.inl rfl) rfl ac_int (by decide) (by omega) (by show _ ≤ 3; omega) (by show _ ≤ 324; omega) (fun hz18 => ?_)
  have hn18 := isA_newN (c := 20) (len := 160) hm hz18
  have hK := isK_alo (c' := 20) (len := 160) hK
  have hm2 : (alo Γ 20 160).1 = 18 := by rw [alo_1, hm]
  refine pf_X2_18 dX2_init_20 rfl rfl hK ?_
  refine r_aload0 dX2_init_23 ?_
  refine rn_iconst (0) dX2_init_24 (by decide) ?_
  refine pf_X2_22 dX2_init_25 rfl hK ?_
  refine r_aload0 dX2_init_28 ?_
  refine rn_bipush (13) dX2_init_29 (by decide) ?_
  refine pf_X2_25 dX2_init_31 rfl hK ?_
  refine r_aload0 dX2_init_34 ?_
  refine rn_iconst (0) dX2_init_35 (by decide) ?_
  refine pf_X2_28 dX2_init_36 rfl hK ?_
  refine r_aload0 dX2_init_39 ?_
  refine rn_iconst (0) dX2_init_40 (by decide) ?_
  refine pf_X2_31 dX2_init_41 rfl hK ?_
  refine r_aload0 dX2_init_44 ?_
  refine rn_sipush (160) dX2_init_45 (by decide) ?_
  refine rn_newaN (c := 20) (160) (18) hm2 dX2_init_48 (Or.inl rfl) rfl ac_int (by decide) (by omega) (by show _ ≤ 3; omega) (by show _ ≤ 324; omega) (fun hz48 => ?_)
  have hn48 := isA_newN (c := 20) (len := 160) hm2 hz48
  have hK := isK_alo (c' := 20) (len := 160) hK
  have hn18 := isA_alo (c' := 20) (len := 160) hn18
  have hm3 : (alo (alo Γ 20 160) 20 160).1 = 19 := by rw [alo_1, alo_1, hm]
  refine pf_X2_34 dX2_init_50 rfl rfl hK ?_
  refine r_aload0 dX2_init_53 ?_
  refine rn_iconst (0) dX2_init_54 (by decide) ?_
  refine pf_X2_37 dX2_init_55 rfl hK ?_
  refine r_aload0 dX2_init_58 ?_
  refine rn_iconst (4) dX2_init_59 (by decide) ?_
  refine rn_newaN (c := 20) (4) (19) hm3 dX2_init_60 (Or.inl rfl) rfl ac_int (by decide) (by omega) (by show _ ≤ 3; omega) (by show _ ≤ 324; omega) (fun hz60 => ?_)
  have hn60 := isA_newN (c := 20) (len := 4) hm3 hz60
  have hK := isK_alo (c' := 20) (len := 4) hK
  have hn18 := isA_alo (c' := 20) (len := 4) hn18
  have hn48 := isA_alo (c' := 20) (len := 4) hn48
  refine pf_X2_42 dX2_init_62 rfl rfl hK ?_
  refine rn_vret dX2_init_65 rfl (by show _ ≤ 3; omega) (by show _ ≤ 324; omega) ?_
  refine ⟨rfl, rfl, ?_, ?_, ?_, ?_, ?_, ?_, ?_, ?_⟩
  · exact fun x y h => by rw [clr_ne (by omega), up_ne1 (by omega), clr_ne (by omega), up_ne1 (by omega), up_ne1 (by omega), up_ne1 (by omega), up_ne1 (by omega), clr_ne (by omega), up_ne1 (by omega), up_ne1 (by omega)]
  · exact fun x y h => by rw [up_ne1 (by omega), clr_ne (by omega), up_ne1 (by omega), clr_ne (by omega), up_ne1 (by omega), clr_ne (by omega)]
  · exact fun x y h => by rw [clr_ne (by omega), clr_ne (by omega), clr_ne (by omega)]
  all_goals rfl
def qRoI (Γ : Sh) (iv : IV) (rv : RV) (lv : LV) (r q : Nat) : Qt := fun x Γ' iv' rv' lv' => x = none ∧ Γ'.1 = r + 10 ∧ ShLe (r + 1) Γ Γ' ∧ ShRd Γ' rv' r ∧ rv' r 8 = q ∧ RC iv' r ro0 ∧ Lo r iv iv' ∧ Lo r rv rv' ∧ Lo r lv lv' 
theorem gv_ro {a k : Nat} (h : a = 2 ∨ a = 3) : gv k = ro0 a k := by
  unfold gv ro0
  rcases h with rfl | rfl <;> simp
set_option maxRecDepth 4000 in
theorem ct_roadI (D : Nat) {r q : Nat} (hr : 22 ≤ r) (hK : IsK Γ r 3) (hm : Γ.1 = r + 1) : Ct g l mX3_init (D + 2) 9 82 [.ref r, .ref q] Γ iv rv lv (qRoI Γ iv rv lv r q) := by
  have hK0 : K0 = 14 := rfl
  refine Ct.of (by decide +kernel) (Nat.le_of_ble_eq_true rfl) (Nat.le_of_ble_eq_true rfl) ?_
  refine r_aload0 dX3_init_0 ?_
  refine rn_objInit dX3_init_1 ml_X3_3 oin_1 oin_2 (by have := hK.1; have : K0 = 14 := rfl; omega) (Nat.zero_le _) (Nat.le_add_left _ _) (by show 20 ≤ 100 * _; omega) ?_
  refine r_aload0 dX3_init_4 ?_
  refine rn_bipush (24) dX3_init_5 (by decide) ?_
  refine rn_newaN (c := 20) (24) (r + 1) hm dX3_init_7 (Or.inl rfl) rfl ac_int (by decide) (by omega) (by show _ ≤ 9; omega) (by show _ ≤ 82; omega) (fun hz7 => ?_)
  have hn7 := isA_newN (c := 20) (len := 24) hm hz7
  have hK := isK_alo (c' := 20) (len := 24) hK
  refine pf_X3_9 dX3_init_9 rfl rfl hK ?_
  refine r_aload0 dX3_init_12 ?_
  refine rn_bipush (24) dX3_init_13 (by decide) ?_
  refine rn_newaN (c := 20) (24) (r + 2) (show (alo Γ 20 24).1 = r + 2 from by first | omega | (simp only [alo_1]; omega)) dX3_init_15 (Or.inl rfl) rfl ac_int (by decide) (by omega) (by show _ ≤ 9; omega) (by show _ ≤ 82; omega) (fun hz15 => ?_)
  have hn15 := isA_newN (c := 20) (len := 24) (show (alo Γ 20 24).1 = r + 2 from by first | omega | (simp only [alo_1]; omega)) hz15
  have hK := isK_alo (c' := 20) (len := 24) hK
  have hn7 := isA_alo (c' := 20) (len := 24) hn7
  refine pf_X3_15 dX3_init_17 rfl rfl hK ?_
  refine r_aload0 dX3_init_20 ?_
  refine rn_newN (ci := 1) (r + 3) (show (alo (alo Γ 20 24) 20 24).1 = r + 3 from by first | omega | (simp only [alo_1]; omega)) dX3_init_21 rfl uw_X1 tyX1_ok te_X1 cc_X3_18 ins_X1 ini_X1 (by show _ ≤ 9; omega) (by show _ ≤ 82; omega) (fun hz21 => ?_)
  have hn21 := isK_newN (c := 1) (len := 0) (show (alo (alo Γ 20 24) 20 24).1 = r + 3 from by first | omega | (simp only [alo_1]; omega)) hz21
  have hK := isK_alo (c' := 1) (len := 0) hK
  have hn7 := isA_alo (c' := 1) (len := 0) hn7
  have hn15 := isA_alo (c' := 1) (len := 0) hn15
  refine rn_dup dX3_init_24 rfl ?_
  refine rn_iconst (1) dX3_init_25 (by decide) ?_
  refine rn_callI (As := [.int 1]) (mc := 2) (ms := 4) dX3_init_26 oi_X1_init ml_X3_20 hn21 rfl (Nat.le_of_ble_eq_true rfl) (Nat.le_refl _) (Nat.le_refl _) (by show _ ≤ 9; omega) (by show _ ≤ 82; omega) (ct_gangI _ hn21 (by simp only [alo_1]; omega) (Or.inr rfl)) (fun r Γa iv26 rv26 lv26 h26 => ?_)
  obtain ⟨rfl, e26, h26a, h26b, h26c, h26d, h26e, h26f, h26g⟩ := h26
  subst e26
  refine rn_nst ?_
  have hK := isK_alo (c' := 20) (len := 2) (isK_alo (c' := 20) (len := 2) hK)
  have hn7 := isA_alo (c' := 20) (len := 2) (isA_alo (c' := 20) (len := 2) hn7)
  have hn15 := isA_alo (c' := 20) (len := 2) (isA_alo (c' := 20) (len := 2) hn15)
  have hn21 := isK_alo (c' := 20) (len := 2) (isK_alo (c' := 20) (len := 2) hn21)
  refine pf_X3_23 dX3_init_29 rfl rfl hK ?_
  refine r_aload0 dX3_init_32 ?_
  refine rn_newN (ci := 1) (r + 6) (show (alo (alo (alo (alo (alo Γ 20 24) 20 24) 1 0) 20 2) 20 2).1 = r + 6 from by first | omega | (simp only [alo_1]; omega)) dX3_init_33 rfl uw_X1 tyX1_ok te_X1 cc_X3_18 ins_X1 ini_X1 (by show _ ≤ 9; omega) (by show _ ≤ 82; omega) (fun hz33 => ?_)
  have hn33 := isK_newN (c := 1) (len := 0) (show (alo (alo (alo (alo (alo Γ 20 24) 20 24) 1 0) 20 2) 20 2).1 = r + 6 from by first | omega | (simp only [alo_1]; omega)) hz33
  have hK := isK_alo (c' := 1) (len := 0) hK
  have hn7 := isA_alo (c' := 1) (len := 0) hn7
  have hn15 := isA_alo (c' := 1) (len := 0) hn15
  have hn21 := isK_alo (c' := 1) (len := 0) hn21
  refine rn_dup dX3_init_36 rfl ?_
  refine rn_iconst (0) dX3_init_37 (by decide) ?_
  refine rn_callI (As := [.int 0]) (mc := 2) (ms := 4) dX3_init_38 oi_X1_init ml_X3_20 hn33 rfl (Nat.le_of_ble_eq_true rfl) (Nat.le_refl _) (Nat.le_refl _) (by show _ ≤ 9; omega) (by show _ ≤ 82; omega) (ct_gangI _ hn33 (by simp only [alo_1]; omega) (Or.inl rfl)) (fun r Γb iv38 rv38 lv38 h38 => ?_)
  obtain ⟨rfl, e38, h38a, h38b, h38c, h38d, h38e, h38f, h38g⟩ := h38
  subst e38
  refine rn_nst ?_
  have hK := isK_alo (c' := 20) (len := 2) (isK_alo (c' := 20) (len := 2) hK)
  have hn7 := isA_alo (c' := 20) (len := 2) (isA_alo (c' := 20) (len := 2) hn7)
  have hn15 := isA_alo (c' := 20) (len := 2) (isA_alo (c' := 20) (len := 2) hn15)
  have hn21 := isK_alo (c' := 20) (len := 2) (isK_alo (c' := 20) (len := 2) hn21)
  have hn33 := isK_alo (c' := 20) (len := 2) (isK_alo (c' := 20) (len := 2) hn33)
  refine pf_X3_27 dX3_init_41 rfl rfl hK ?_
  refine r_aload0 dX3_init_44 ?_
  refine rn_iconst (0) dX3_init_45 (by decide) ?_
  refine pf_X3_30 dX3_init_46 rfl hK ?_
  refine r_aload0 dX3_init_49 ?_
  refine rn_bipush (50) dX3_init_50 (by decide) ?_
  refine pf_X3_34 dX3_init_52 rfl hK ?_
  refine r_aload0 dX3_init_55 ?_
  refine rn_iconst (0) dX3_init_56 (by decide) ?_
  refine pf_X3_37 dX3_init_57 rfl hK ?_
  refine r_aload0 dX3_init_60 ?_
  refine rn_iconst (3) dX3_init_61 (by decide) ?_
  refine pf_X3_40 dX3_init_62 rfl hK ?_
  refine r_aload0 dX3_init_65 ?_
  refine rn_bipush (6) dX3_init_66 (by decide) ?_
  refine rn_newaN (c := 20) (6) (r + 9) (show (alo (alo (alo (alo (alo (alo (alo (alo Γ 20 24) 20 24) 1 0) 20 2) 20 2) 1 0) 20 2) 20 2).1 = r + 9 from by first | omega | (simp only [alo_1]; omega)) dX3_init_68 (Or.inl rfl) rfl ac_int (by decide) (by omega) (by show _ ≤ 9; omega) (by show _ ≤ 82; omega) (fun hz68 => ?_)
  have hn68 := isA_newN (c := 20) (len := 6) (show (alo (alo (alo (alo (alo (alo (alo (alo Γ 20 24) 20 24) 1 0) 20 2) 20 2) 1 0) 20 2) 20 2).1 = r + 9 from by first | omega | (simp only [alo_1]; omega)) hz68
  have hK := isK_alo (c' := 20) (len := 6) hK
  have hn7 := isA_alo (c' := 20) (len := 6) hn7
  have hn15 := isA_alo (c' := 20) (len := 6) hn15
  have hn21 := isK_alo (c' := 20) (len := 6) hn21
  have hn33 := isK_alo (c' := 20) (len := 6) hn33
  refine pf_X3_45 dX3_init_70 rfl rfl hK ?_
  refine r_aload0 dX3_init_73 ?_
  refine r_aload1 dX3_init_74 ?_
  refine pf_X3_48 dX3_init_75 rfl hK ?_
  refine rn_vret dX3_init_78 rfl (by show _ ≤ 9; omega) (by show _ ≤ 82; omega) ?_
  refine ⟨rfl, by simp only [alo_1]; omega, (((((((((hm ▸ ShLe.refl (Γ := Γ)).alo).alo).alo).alo).alo).alo).alo).alo).alo, ⟨hK, ⟨?_, hn7⟩, ⟨?_, hn15⟩, ⟨?_, hn21, ⟨?_, ?_⟩, ?_, ?_⟩, ⟨?_, hn33, ⟨?_, ?_⟩, ?_, ?_⟩, ?_, hn68⟩, ?_, ⟨fun y hy => ⟨?_, ?_⟩, fun k γ a1 a2 a3 => ?_, fun k a1 a2 => ?_, ?_, ?_⟩, fun x y h => ?_, fun x y h => ?_, fun x y h => ?_⟩
  · rw [up_ne2 (by decide), up_ne2 (by decide), clr_ne (by omega), up_ne2 (by decide), h38b _ _ (by omega), clr_ne (by omega), up_ne2 (by decide), h26b _ _ (by omega), clr_ne (by omega), up_ne2 (by decide), clr_ne (by omega), up_same]
  · rw [up_ne2 (by decide), up_ne2 (by decide), clr_ne (by omega), up_ne2 (by decide), h38b _ _ (by omega), clr_ne (by omega), up_ne2 (by decide), h26b _ _ (by omega), clr_ne (by omega), up_same]
  · rw [up_ne2 (by decide), up_ne2 (by decide), clr_ne (by omega), up_ne2 (by decide), h38b _ _ (by omega), clr_ne (by omega), up_same]
  · rw [up_ne1 (by omega), up_ne1 (by omega), clr_ne (by omega), up_ne1 (by omega), h38b _ _ (by omega), clr_ne (by omega), up_ne1 (by omega)]; exact h26f
  · exact isA_alo (isA_alo (isA_alo (isA_alo (isA_alo (isA_newN (by simp only [alo_1]; omega) (by omega))))))
  · rw [up_ne1 (by omega), up_ne1 (by omega), clr_ne (by omega), up_ne1 (by omega), h38b _ _ (by omega), clr_ne (by omega), up_ne1 (by omega)]; exact h26g
  · exact isA_alo (isA_alo (isA_alo (isA_alo (isA_newN (by simp only [alo_1]; omega) (by omega)))))
  · rw [up_ne2 (by decide), up_ne2 (by decide), clr_ne (by omega), up_same]
  · rw [up_ne1 (by omega), up_ne1 (by omega), clr_ne (by omega), up_ne1 (by omega)]; exact h38f
  · exact isA_alo (isA_alo (isA_newN (by simp only [alo_1]; omega) (by omega)))
  · rw [up_ne1 (by omega), up_ne1 (by omega), clr_ne (by omega), up_ne1 (by omega)]; exact h38g
  · exact isA_alo (isA_newN (by simp only [alo_1]; omega) (by omega))
  · rw [up_ne2 (by decide), up_same]
  · exact up_same _ _ _ _
  · rw [clr_ne (by omega), up_ne1 (by omega), up_ne1 (by omega), up_ne1 (by omega), up_ne1 (by omega), h38a _ _ (by omega), clr_ne (by omega), h26a _ _ (by omega), clr_ne (by omega), clr_ne (by omega), clr_same]; rfl
  · rw [clr_ne (by omega), up_ne1 (by omega), up_ne1 (by omega), up_ne1 (by omega), up_ne1 (by omega), h38a _ _ (by omega), clr_ne (by omega), h26a _ _ (by omega), clr_ne (by omega), clr_same]; rfl
  · rw [clr_ne (by omega), up_ne1 (by omega), up_ne1 (by omega), up_ne1 (by omega), up_ne1 (by omega)]
    rcases (show γ = 0 ∨ γ = 1 by omega) with rfl | rfl
    · rw [h38a _ _ (by omega), clr_ne (by omega)]; exact (h26d k a1 a2).trans (gv_ro (Or.inl rfl))
    · exact (h38d k a1 a2).trans (gv_ro (Or.inr rfl))
  · rw [clr_ne (by omega)]
    match k, a1, a2 with
    | 4, _, _ => rw [up_ne2 (by decide), up_ne2 (by decide), up_ne2 (by decide), up_same]; rfl
    | 5, _, _ => rw [up_ne2 (by decide), up_ne2 (by decide), up_same]; rfl
    | 6, _, _ => rw [up_ne2 (by decide), up_same]; rfl
    | 7, _, _ => rw [up_same]; rfl
  · rw [clr_ne (by omega), up_ne1 (by omega), up_ne1 (by omega), up_ne1 (by omega), up_ne1 (by omega), h38a _ _ (by omega), clr_ne (by omega)]; exact h26e
  · rw [clr_ne (by omega), up_ne1 (by omega), up_ne1 (by omega), up_ne1 (by omega), up_ne1 (by omega)]; exact h38e
  · rw [clr_ne (by omega), up_ne1 (by omega), up_ne1 (by omega), up_ne1 (by omega), up_ne1 (by omega), h38a _ _ (by omega), clr_ne (by omega), h26a _ _ (by omega), clr_ne (by omega), clr_ne (by omega), clr_ne (by omega)]
  · rw [up_ne1 (by omega), up_ne1 (by omega), clr_ne (by omega), up_ne1 (by omega), h38b _ _ (by omega), clr_ne (by omega), up_ne1 (by omega), h26b _ _ (by omega), clr_ne (by omega), up_ne1 (by omega), clr_ne (by omega), up_ne1 (by omega), clr_ne (by omega)]
  · rw [clr_ne (by omega), h38c _ _ (by omega), clr_ne (by omega), h26c _ _ (by omega), clr_ne (by omega), clr_ne (by omega), clr_ne (by omega)]
end CINIT
