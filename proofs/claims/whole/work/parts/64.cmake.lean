/-! THE CLASS: rules are made -/
section MAKEN
variable {g : GS} {l : Launch} {M : MI} {R : Room} {Q : Qt} {k n pc : Nat} {ls st : List Value} {Γ : Sh} {iv : IV} {rv : RV} {lv : LV}
theorem rn_newaN {x : Int32} {at_ : ArrayType} {c : Nat} (len m : Nat) (hm : Γ.1 = m) (hd : decode M.2.1 pc = .ok (.newarray at_, 2)) (hc : c = 20 ∨ c = 21) (hty : newarray.typeOf at_ = aty c) (hw : Cond.arrayClass (newarray.typeOf at_) ∈ gtb) (hx' : x = nI len) (hlen : len ≤ 100000) (hk : k + 1 ≤ R.cells) (hs : n + len ≤ R.slots)
    (kk : K0 ≤ m → Rn g l M R Q (k + 1) (n + len) (pc + 2) ls (.ref m :: st) (alo Γ c len) (clr iv m 0) (clr rv m 0) (clr lv m 0)) : Rn g l M R Q k n pc ls (.int x :: st) Γ iv rv lv := by
  subst hm; exact rn_newa len hd hc hty hw hx' hlen hk hs kk
theorem rn_anewN {x : Int32} {index c : Nat} {C : String} (len m : Nat) (hm : Γ.1 = m) (hd : decode M.2.1 pc = .ok (.anewarray index, 3)) (hc : c = 23 ∨ c = 24) (hC : aty c = .object C) (hcl : Cond.classLink M.1.cls index C ∈ gtb) (hx' : x = nI len) (hlen : len ≤ 100000) (hk : k + 1 ≤ R.cells) (hs : n + len ≤ R.slots)
    (kk : K0 ≤ m → Rn g l M R Q (k + 1) (n + len) (pc + 3) ls (.ref m :: st) (alo Γ c len) (clr iv m 0) (clr rv m 0) (clr lv m 0)) : Rn g l M R Q k n pc ls (.int x :: st) Γ iv rv lv := by
  subst hm; exact rn_anew len hd hc hC hcl hx' hlen hk hs kk
theorem rn_newN {ci index : Nat} {C : String} {T : u_T} {N : Nat} {ty0 : Nat → FieldType} (m : Nat) (hm : Γ.1 = m) (hd : decode M.2.1 pc = .ok (.new index, 3)) (hc : vwCl[ci]? = some (C, T, N)) (hin : ∀ w ∈ u_ws C T N, w ∈ gtb) (hty : ∀ k, k < N → parseFieldDescriptor (T k).2.2.1 = some (ty0 k)) (hte : ∀ k, k < N → ty0 k = tyc ci k ∧ ty0 k ≠ .float ∧ ty0 k ≠ .double)
    (hcl : Cond.classLink M.1.cls index C ∈ gtb) (hins : Cond.instantiable C N ∈ gtb) (hini : Cond.initialized C ∈ gtb) (hk : k + 1 ≤ R.cells) (hs : n + N ≤ R.slots)
    (kk : K0 ≤ m → Rn g l M R Q (k + 1) (n + N) (pc + 3) ls (.ref m :: st) (alo Γ ci 0) (clr iv m 0) (clr rv m 0) (clr lv m 0)) : Rn g l M R Q k n pc ls st Γ iv rv lv := by
  subst hm; exact rn_new hd hc hin hty hte hcl hins hini hk hs kk
theorem isK_newN {c len m : Nat} (hm : Γ.1 = m) (h : K0 ≤ m) : IsK (alo Γ c len) m c := by subst hm; exact isK_new h
theorem isA_newN {c len m : Nat} (hm : Γ.1 = m) (h : K0 ≤ m) : IsA (alo Γ c len) m c len := by subst hm; exact isA_new h
end MAKEN
theorem alo_1 {Γ : Sh} {c len : Nat} : (alo Γ c len).1 = Γ.1 + 1 := rfl
/-- copies of a row of ours -/
def qCp (Γ : Sh) (iv : IV) (rv : RV) (lv : LV) (a c m : Nat) : Qt := fun r Γ' iv' rv' lv' => r = some (.ref m) ∧ Γ' = alo Γ 20 c ∧ (∀ x y, x ≠ m → iv' x y = iv x y) ∧ (∀ j, j < c → iv' m j = iv a j) ∧ rv' = clr rv m 0 ∧ lv' = clr lv m 0
theorem getD_s {x : Int32} {xs : List Int32} {j : Nat} : (x :: xs).getD (j + 1) 0 = xs.getD j 0 := rfl
section CMAKE
variable {g : GS} {l : Launch} {Γ : Sh} {iv : IV} {rv : RV} {lv : LV}
set_option maxRecDepth 4000 in
theorem ct_copyOf (D : Nat) {a c m : Nat} (hA : IsA Γ a 20 160) (hc : c ≤ 160) (hm : Γ.1 = m) (ham : a < m) : Ct g l mJ7_copyOf_59c91 (D + 1) 1 160 [.ref a, .int (nI c)] Γ iv rv lv (qCp Γ iv rv lv a c m) := by
  refine Ct.of (by decide +kernel) (Nat.le_of_ble_eq_true rfl) (Nat.le_of_ble_eq_true rfl) ?_
  refine r_iload1 dJ7_copyOf_59c91_0 ?_
  refine r_aload0 dJ7_copyOf_59c91_1 ?_
  refine rn_alen _ dJ7_copyOf_59c91_2 hA (by decide) rfl ?_
  refine rn_icmp_ne 14 dJ7_copyOf_59c91_3 rfl (fun c3 => ?_) (fun c3 => ?_)
  · refine r_iload1 dJ7_copyOf_59c91_14 ?_
    refine rn_newaN (c := 20) (c) (m) hm dJ7_copyOf_59c91_15 (Or.inl rfl) rfl ac_int rfl (by omega) (by show _ ≤ 1; omega) (by show _ ≤ 160; omega) (fun hz15 => ?_)
    have hn15 := isA_newN (c := 20) (len := c) hm hz15
    have hA := isA_alo (c' := 20) (len := c) hA
    refine r_astore2 dJ7_copyOf_59c91_17 rfl ?_
    refine r_aload0 dJ7_copyOf_59c91_18 ?_
    refine rn_iconst (0) dJ7_copyOf_59c91_19 (by decide) ?_
    refine r_aload2 dJ7_copyOf_59c91_20 ?_
    refine rn_iconst (0) dJ7_copyOf_59c91_21 (by decide) ?_
    refine r_aload0 dJ7_copyOf_59c91_22 ?_
    refine rn_alen _ dJ7_copyOf_59c91_23 hA (by decide) rfl ?_
    refine r_iload1 dJ7_copyOf_59c91_24 ?_
    refine rn_min dJ7_copyOf_59c91_25 ml_J7_304 math_min (Nat.le_of_ble_eq_true rfl) (Nat.le_add_left _ _) (by show 100 ≤ 100 * _; omega) (by show _ ≤ 1; omega) (by show _ ≤ 160; omega) ?_
    refine rn_eqi (nI c) ?_ ?_
    · split
      · rfl
      · rename_i h
        rw [nI_ltI (by omega) (by decide)] at h
        obtain rfl : c = 160 := by omega
        rfl
    refine rn_acopy 0 0 c dJ7_copyOf_59c91_28 ml_J7_150 acw hA hn15 (by decide) (by decide) rfl (by omega) (by omega) (by first | decide | omega) (by first | decide | omega) (Nat.zero_le _) (Nat.le_add_left _ _) (by show 100 ≤ 100 * _; omega) ?_
    refine r_aload2 dJ7_copyOf_59c91_31 ?_
    refine rn_aret dJ7_copyOf_59c91_32 rfl (Or.inr ⟨_, rfl⟩) (by show _ ≤ 1; omega) (by show _ ≤ 160; omega) ?_
    refine ⟨rfl, rfl, ?_, ?_, rfl, rfl⟩
    · exact fun x y h => (cpy_out h).trans (clr_ne h)
    · intro j hj
      rw [cpy_in ⟨by omega, by omega⟩, show 0 + (j - 0) = j by omega]
      exact clr_ne (by omega)
  · obtain rfl : c = 160 := (nI_eq (by omega) (by decide)).mp c3
    refine r_aload0 dJ7_copyOf_59c91_6 ?_
    refine rn_clone dJ7_copyOf_59c91_7 ml_J7_316 clw hA (Nat.zero_le _) (Nat.le_add_left _ _) (by show 100 ≤ 100 * _; omega) (by show _ ≤ 1; omega) (by show _ ≤ 160; omega) (fun hz => ?_)
    subst hm
    have hn7 := isA_new (Γ := Γ) (c := 20) (len := 160) hz
    refine rn_castA dJ7_copyOf_59c91_10 cc_J7_317 hn7 ?_
    refine rn_aret dJ7_copyOf_59c91_13 rfl (Or.inr ⟨_, rfl⟩) (by show _ ≤ 1; omega) (by show _ ≤ 160; omega) ?_
    refine ⟨rfl, rfl, ?_, ?_, rfl, rfl⟩
    · exact fun x y h => if_neg h
    · exact fun j _ => if_pos rfl
set_option maxRecDepth 4000 in
theorem ri_in {D : Nat} {Q : Qt} {q s b m c : Nat} (hq : IsK Γ q 4) (hsp : rv q 1 = m) (hm : IsA Γ m 21 3) (hs : IsA Γ s 20 c) (hb : IsA Γ b 20 4) (hc : c ≤ 160) (hms : m ≠ s) (hmb : m ≠ b) {num : Int32} {p E : Nat} {xp : Int32} (hp : xp = nI p) (hp3 : p < 3) (hE : E ≤ c) : ∀ (xs : List Int32) (i : Nat) (iv : IV) (xi : Int32), i + xs.length = E → xi = nI i → iv b (p + 1) = nI E → (∀ j, j < xs.length → iv s (i + j) = xs.getD j 0) → (∀ (iv' : IV) (x' : Int32), Off (fun x y => x = m ∧ y = p) iv iv' → iv' m p = (if (-5 : Int32) ∈ xs then 1 else iv m p) → Rn g l mX4_init (rmA (D + 1) 2 43) Q 2 43 99 [.ref q, .int num, .ref s, .ref b, .int xp, .int x'] [] Γ iv' rv lv) → Rn g l mX4_init (rmA (D + 1) 2 43) Q 2 43 58 [.ref q, .int num, .ref s, .ref b, .int xp, .int xi] [] Γ iv rv lv := by
  intro xs
  induction xs with
  | nil =>
    intro i iv xi hn hi hbE hst kk
    simp at hn
    refine r_iload5 dX4_init_58 ?_
    refine r_aload3 dX4_init_60 ?_
    refine r_iload4 dX4_init_61 ?_
    refine rn_iconst (1) dX4_init_63 (by decide) ?_
    refine rn_iadd dX4_init_64 ?_
    refine rn_iald (p + 1) dX4_init_65 hb (by rw [hp]; exact nI_1 p) (by omega) (by decide) ?_
    refine rn_icmp_ge 99 dX4_init_66 rfl (fun _ => ?_) (fun h => absurd (by rw [hi, hbE]; exact nI_le (by omega) (by omega)) h)
    exact kk _ _ Off.refl (by rw [if_neg (List.not_mem_nil)])
  | cons x xs ih =>
    intro i iv xi hn hi hbE hst kk
    have hn2 : i + 1 + xs.length = E := by simp at hn; omega
    refine r_iload5 dX4_init_58 ?_
    refine r_aload3 dX4_init_60 ?_
    refine r_iload4 dX4_init_61 ?_
    refine rn_iconst (1) dX4_init_63 (by decide) ?_
    refine rn_iadd dX4_init_64 ?_
    refine rn_iald (p + 1) dX4_init_65 hb (by rw [hp]; exact nI_1 p) (by omega) (by decide) ?_
    refine rn_icmp_ge 99 dX4_init_66 rfl (fun h => absurd h (fun z => by rw [hi, hbE, nI_leI (by omega) (by omega)] at z; simp at hn; omega)) (fun _ => ?_)
    refine r_iload5 dX4_init_69 ?_
    refine r_aload2 dX4_init_71 ?_
    refine rn_alen _ dX4_init_72 hs (by decide) rfl ?_
    refine rn_icmp_ge 99 dX4_init_73 rfl (fun h => absurd h (fun z => by rw [hi, nI_leI (by omega) (by omega)] at z; simp at hn; omega)) (fun _ => ?_)
    refine r_aload2 dX4_init_76 ?_
    refine r_iload5 dX4_init_77 ?_
    refine rn_iald i dX4_init_79 hs hi (by simp at hn; omega) (by omega) ?_
    refine rn_eqi x (hst 0 (by simp)) ?_
    refine rn_bipush (-5) dX4_init_80 (by decide) ?_
    refine rn_icmp_ne 93 dX4_init_82 rfl (fun c82 => ?_) (fun c82 => ?_)
    · refine r_iinc5 _ dX4_init_93 rfl rfl ?_
      refine rn_goto 58 dX4_init_96 rfl ?_
      refine ih (i + 1) iv _ hn2 (by rw [hi]; exact nI_1 i) hbE (fun j hj => ?_) (fun iv' x' ho h => kk iv' x' ho ?_)
      · rw [show i + 1 + j = i + (j + 1) by omega, hst (j + 1) (by simp; omega)]; rfl
      · rw [h]
        by_cases hin : (-5 : Int32) ∈ xs
        · rw [if_pos hin, if_pos (List.mem_cons_of_mem _ hin)]
        · rw [if_neg hin, if_neg (fun z => (List.mem_cons.mp z).elim (fun y => c82 y.symm) hin)]
    · refine r_aload0 dX4_init_85 ?_
      refine gf_X4_9 dX4_init_86 rfl hq hsp ?_
      refine r_iload4 dX4_init_89 ?_
      refine rn_iconst (1) dX4_init_91 (by decide) ?_
      refine rn_zast p dX4_init_92 hm hp (by omega) (by decide) rfl ?_
      refine r_iinc5 _ dX4_init_93 rfl rfl ?_
      refine rn_goto 58 dX4_init_96 rfl ?_
      refine ih (i + 1) _ _ hn2 (by rw [hi]; exact nI_1 i) ((up_ne1 (fun z => hmb z.symm)).trans hbE) (fun j hj => ?_) (fun iv' x' ho h => kk iv' x' ((off_up ⟨rfl, rfl⟩).trans ho) ?_)
      · rw [up_ne1 (fun z => hms z.symm), show i + 1 + j = i + (j + 1) by omega, hst (j + 1) (by simp; omega)]; rfl
      · rw [h, up_same, if_pos (show (-5 : Int32) ∈ x :: xs by rw [c82]; exact List.mem_cons_self)]
        split <;> rfl
set_option maxRecDepth 4000 in
theorem ri_out {D : Nat} {Q : Qt} {q s b m c : Nat} (hq : IsK Γ q 4) (hsp : rv q 1 = m) (hm : IsA Γ m 21 3) (hs : IsA Γ s 20 c) (hb : IsA Γ b 20 4) (hc : c ≤ 160) (hms : m ≠ s) (hmb : m ≠ b) {num : Int32} {iv0 : IV} {B : Nat → Nat} {S : Nat → List Int32} (hBv : ∀ p, p ≤ 3 → iv0 b p = nI (B p)) (hBs : ∀ p, p < 3 → B (p + 1) = B p + (S p).length) (hBm : ∀ p, p < 3 → B (p + 1) ≤ c) (hst : ∀ p, p < 3 → ∀ j, j < (S p).length → iv0 s (B p + j) = (S p).getD j 0) : ∀ (n p : Nat) (iv : IV) (xp : Int32) (v5 : Value), p + n = 3 → xp = nI p → v5.category = 1 → Off (fun x _ => x = m) iv0 iv → (∀ z, z < p → iv m z = (if (-5 : Int32) ∈ S z then 1 else 0)) → (∀ z, p ≤ z → iv m z = 0) → (∀ (iv : IV) (xp : Int32) (v5 : Value), Off (fun x _ => x = m) iv0 iv → (∀ z, z < 3 → iv m z = (if (-5 : Int32) ∈ S z then 1 else 0)) → Rn g l mX4_init (rmA (D + 1) 2 43) Q 2 43 105 [.ref q, .int num, .ref s, .ref b, .int xp, v5] [] Γ iv rv lv) → Rn g l mX4_init (rmA (D + 1) 2 43) Q 2 43 37 [.ref q, .int num, .ref s, .ref b, .int xp, v5] [] Γ iv rv lv := by
  intro n
  induction n with
  | zero =>
    intro p iv xp v5 hn hp h5 ho hz hz0 kk
    obtain rfl : p = 3 := by omega
    refine r_iload4 dX4_init_37 ?_
    refine rn_iconst (3) dX4_init_39 (by decide) ?_
    refine rn_icmp_ge 105 dX4_init_40 rfl (fun _ => ?_) (fun h => absurd (by rw [hp]; decide) h)
    exact kk _ _ _ ho hz
  | succ n ih =>
    intro p iv xp v5 hn hp h5 ho hz hz0 kk
    refine r_iload4 dX4_init_37 ?_
    refine rn_iconst (3) dX4_init_39 (by decide) ?_
    refine rn_icmp_ge 105 dX4_init_40 rfl (fun h => absurd h (fun z => by rw [hp, show (3 : Int32) = nI 3 by decide, nI_leI (by decide) (by omega)] at z; omega)) (fun _ => ?_)
    refine r_iload4 dX4_init_43 ?_
    refine rn_iconst (1) dX4_init_45 (by decide) ?_
    refine rn_iadd dX4_init_46 ?_
    refine r_aload3 dX4_init_47 ?_
    refine rn_alen _ dX4_init_48 hb (by decide) rfl ?_
    refine rn_icmp_ge 105 dX4_init_49 rfl (fun h => absurd h (fun z => by rw [hp, nI_1, nI_leI (by decide) (by omega)] at z; omega)) (fun _ => ?_)
    refine r_aload3 dX4_init_52 ?_
    refine r_iload4 dX4_init_53 ?_
    refine rn_iald p dX4_init_55 hb hp (by omega) (by decide) ?_
    refine rn_eqi (nI (B p)) ((ho b _ (fun z => hmb z.symm)).trans (hBv p (by omega))) ?_
    refine r_istore5 dX4_init_56 rfl ?_
    refine ri_in hq hsp hm hs hb hc hms hmb (p := p) hp (by omega) (E := B (p + 1)) (by have := hBm p (by omega); omega) (S p) (B p) iv _ ((hBs p (by omega)).symm) rfl ((ho b _ (fun z => hmb z.symm)).trans (hBv (p + 1) (by omega))) (fun j hj => (ho s _ (fun z => hms z.symm)).trans (hst p (by omega) j hj)) (fun iv2 x5 ho2 h2 => ?_)
    refine r_iinc4 _ dX4_init_99 rfl rfl ?_
    refine rn_goto 37 dX4_init_102 rfl ?_
    refine ih (p + 1) iv2 _ _ (by omega) (by rw [hp]; exact nI_1 p) rfl (ho.trans (ho2.mono (fun x y z => z.1))) (fun z hz2 => ?_) (fun z hz2 => ?_) kk
    · by_cases e : z = p
      · subst e; rw [h2, hz0 z (Nat.le_refl _)]
      · rw [ho2 _ _ (fun y => e y.2)]; exact hz z (by omega)
    · rw [ho2 _ _ (fun y => by omega)]; exact hz0 z (by omega)
/-- a rule's object is made: q, with rows m (does it speak of the day) and m + 1 (a pile) -/
def qRI4 (Γ : Sh) (iv : IV) (rv : RV) (lv : LV) (q s b m : Nat) (num : Int32) (S : Nat → List Int32) : Qt := fun r Γ' iv' rv' lv' => r = none ∧ Γ' = alo (alo Γ 21 3) 20 40 ∧ (∀ x y, x ≠ m → x ≠ m + 1 → ¬ (x = q ∧ y = 0) → iv' x y = iv x y) ∧ iv' q 0 = num ∧ (∀ z, z < 3 → iv' m z = (if (-5 : Int32) ∈ S z then 1 else 0)) ∧ rv' = (up (up (up (clr (up (clr rv m 0) q 1 m) (m + 1) 0) q 4 (m + 1)) q 2 s) q 3 b) ∧ lv' = clr (clr lv m 0) (m + 1) 0
set_option maxRecDepth 4000 in
theorem ct_ruleI (D : Nat) {q s b m c : Nat} (hq : IsK Γ q 4) (hs : IsA Γ s 20 c) (hb : IsA Γ b 20 4) (hc : c ≤ 160) (hm : Γ.1 = m) (hqm : q < m) (hsm : s < m) (hbm : b < m) (hqs : q ≠ s) (hqb : q ≠ b) {num : Int32} {B : Nat → Nat} {S : Nat → List Int32} (hBv : ∀ p, p ≤ 3 → iv b p = nI (B p)) (hBs : ∀ p, p < 3 → B (p + 1) = B p + (S p).length) (hBm : ∀ p, p < 3 → B (p + 1) ≤ c) (hst : ∀ p, p < 3 → ∀ j, j < (S p).length → iv s (B p + j) = (S p).getD j 0) : Ct g l mX4_init (D + 1) 2 43 [.ref q, .int num, .ref s, .ref b] Γ iv rv lv (qRI4 Γ iv rv lv q s b m num S) := by
  refine Ct.of (by decide +kernel) (Nat.le_of_ble_eq_true rfl) (Nat.le_of_ble_eq_true rfl) ?_
  refine r_aload0 dX4_init_0 ?_
  refine rn_objInit dX4_init_1 ml_X4_1 oin_1 oin_2 (by have := hq.1; have : K0 = 14 := rfl; omega) (Nat.zero_le _) (Nat.le_add_left _ _) (by show 20 ≤ 100 * _; omega) ?_
  refine r_aload0 dX4_init_4 ?_
  refine rn_iconst (3) dX4_init_5 (by decide) ?_
  refine rn_newaN (c := 21) (3) (m) hm dX4_init_6 (Or.inr rfl) rfl ac_boolean (by decide) (by omega) (by show _ ≤ 2; omega) (by show _ ≤ 43; omega) (fun hz6 => ?_)
  have hn6 := isA_newN (c := 21) (len := 3) hm hz6
  have hq := isK_alo (c' := 21) (len := 3) hq
  have hs := isA_alo (c' := 21) (len := 3) hs
  have hb := isA_alo (c' := 21) (len := 3) hb
  have hm14 : (alo Γ 21 3).1 = m + 1 := by rw [alo_1, hm]
  refine pf_X4_9 dX4_init_8 rfl rfl hq ?_
  refine r_aload0 dX4_init_11 ?_
  refine rn_bipush (40) dX4_init_12 (by decide) ?_
  refine rn_newaN (c := 20) (40) (m + 1) hm14 dX4_init_14 (Or.inl rfl) rfl ac_int (by decide) (by omega) (by show _ ≤ 2; omega) (by show _ ≤ 43; omega) (fun hz14 => ?_)
  have hn14 := isA_newN (c := 20) (len := 40) hm14 hz14
  have hq := isK_alo (c' := 20) (len := 40) hq
  have hs := isA_alo (c' := 20) (len := 40) hs
  have hb := isA_alo (c' := 20) (len := 40) hb
  have hn6 := isA_alo (c' := 20) (len := 40) hn6
  refine pf_X4_13 dX4_init_16 rfl rfl hq ?_
  refine r_aload0 dX4_init_19 ?_
  refine r_iload1 dX4_init_20 ?_
  refine pf_X4_17 dX4_init_21 rfl rfl hq ?_
  refine r_aload0 dX4_init_24 ?_
  refine r_aload2 dX4_init_25 ?_
  refine pf_X4_21 dX4_init_26 rfl rfl hq ?_
  refine r_aload0 dX4_init_29 ?_
  refine r_aload3 dX4_init_30 ?_
  refine pf_X4_24 dX4_init_31 rfl rfl hq ?_
  refine rn_iconst (0) dX4_init_34 (by decide) ?_
  refine r_istore4 dX4_init_35 rfl ?_
  have hiv : ∀ x y, x ≠ m → x ≠ m + 1 → ¬ (x = q ∧ y = 0) → (up (clr (clr iv m 0) (m + 1) 0) q 0 num) x y = iv x y := fun x y h1 h2 h3 => by rw [up_ne h3, clr_ne h2, clr_ne h1]
  refine ri_out (iv0 := (up (clr (clr iv m 0) (m + 1) 0) q 0 num)) (B := B) (S := S) hq (by rw [up_ne2 (by decide), up_ne2 (by decide), up_ne2 (by decide), clr_ne (by omega), up_same]) hn6 hs hb hc (by omega) (by omega) (fun p h => (hiv b p (by omega) (by omega) (by omega)).trans (hBv p h)) hBs hBm (fun p h j hj => (hiv s _ (by omega) (by omega) (by omega)).trans (hst p h j hj)) 3 0 _ _ _ (by decide) rfl rfl Off.refl (fun z h => absurd h (Nat.not_lt_zero _)) (fun z _ => by rw [up_ne1 (by omega), clr_ne (by omega)]; exact clr_same _ _ _ _) (fun iv2 xp v5 ho hz => ?_)
  refine rn_vret dX4_init_105 rfl (by show _ ≤ 2; omega) (by show _ ≤ 43; omega) ?_
  refine ⟨rfl, rfl, ?_, ?_, hz, rfl, rfl⟩
  · intro x y h1 h2 h3
    rw [ho x y h1]; exact hiv x y h1 h2 h3
  · rw [ho q 0 (by omega), up_same]
end CMAKE
