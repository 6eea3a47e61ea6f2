/-! RULES: valueOf -/
def ShU (Γ : Sh) (rv : RV) (q L : Nat) : Prop := IsK Γ q 4 ∧ (rv q 1 = q + 3 ∧ IsA Γ (q + 3) 21 3) ∧ (rv q 2 = q + 1 ∧ IsA Γ (q + 1) 20 L) ∧ (rv q 3 = q + 2 ∧ IsA Γ (q + 2) 20 4) ∧ rv q 4 = q + 4 ∧ IsA Γ (q + 4) 20 40
theorem rev_get {x : Int32} {r : List Int32} {j : Nat} (h : j ≤ r.length) : (x :: r).reverse.getD j 0 = if j = r.length then x else r.reverse.getD j 0 := by
  rw [List.reverse_cons, List.getD_eq_getElem?_getD]
  split
  · rename_i e
    subst e
    rw [List.getElem?_append_right (by simp)]
    simp
  · rename_i e
    rw [List.getElem?_append_left (by simp; omega), List.getD_eq_getElem?_getD]
def PileOK (iv : IV) (q : Nat) (stk : List Int32) : Prop := ∀ j, j < stk.length → iv (q + 4) j = stk.reverse.getD j 0
theorem pile_push {iv : IV} {q : Nat} {stk : List Int32} (h : PileOK iv q stk) (x : Int32) : PileOK (up iv (q + 4) stk.length x) q (x :: stk) := by
  intro j hj
  rw [rev_get (by simp at hj; omega)]
  split
  · rename_i e; subst e; rw [up_same]
  · rename_i e
    rw [up_ne2 e]
    exact h j (by simp at hj; omega)
theorem pile_tail {iv : IV} {q : Nat} {x : Int32} {r : List Int32} (h : PileOK iv q (x :: r)) : PileOK iv q r ∧ iv (q + 4) r.length = x := by
  refine ⟨fun j hj => ?_, ?_⟩
  · rw [h j (by simp; omega), rev_get (by omega), if_neg (by omega)]
  · rw [h r.length (by simp), rev_get (Nat.le_refl _), if_pos rfl]
theorem st1_push {e : Nat → Int32} {x : Int32} {xs stk fin : List Int32} (h : evC e (x :: xs) stk = some fin) (hx : -6 ≤ x) : stk.length < 40 ∧ evC e xs ((if 0 ≤ x then x else e (-1 - x).toNatClampNeg) :: stk) = some fin := by
  unfold evC st1 at h
  rw [if_pos hx] at h
  split at h
  · cases h
  · rename_i hl
    exact ⟨by omega, h⟩
theorem st1_un {e : Nat → Int32} {x : Int32} {xs stk fin : List Int32} (h : evC e (x :: xs) stk = some fin) (hx : ¬ -6 ≤ x) (hu : x = -9 ∨ x = -15) : ∃ a r, stk = a :: r ∧ evC e xs (unS x a :: r) = some fin := by
  unfold evC st1 at h
  rw [if_neg hx, if_pos hu] at h
  cases stk with
  | nil => cases h
  | cons a r => exact ⟨a, r, rfl, h⟩
theorem st1_bi {e : Nat → Int32} {x : Int32} {xs stk fin : List Int32} (h : evC e (x :: xs) stk = some fin) (hx : ¬ -6 ≤ x) (hu : ¬ (x = -9 ∨ x = -15)) : ∃ b a r, stk = b :: a :: r ∧ evC e xs (binS x a b :: r) = some fin := by
  unfold evC st1 at h
  rw [if_neg hx, if_neg hu] at h
  match stk, h with
  | [], h => cases h
  | [_], h => cases h
  | b :: a :: r, h => exact ⟨b, a, r, rfl, h⟩
theorem pk_mm (n : Nat) : nI (n + 1) + Int32.ofInt (-1) = nI n := by
  rw [show Int32.ofInt (-1) = (-1 : Int32) by decide]; exact pk_m1 n
theorem nm_ix : ∀ {x : Int32}, -6 ≤ x → ¬ 0 ≤ x → ∃ c, c < 6 ∧ -1 - x = nI c ∧ (-1 - x).toNatClampNeg = c := by
  intro x h1 h2
  have h3 : x = -6 ∨ x = -5 ∨ x = -4 ∨ x = -3 ∨ x = -2 ∨ x = -1 := by
    simp only [Int32.le_iff_toInt_le, Int32.reduceToInt, ← Int32.toInt_inj] at *
    omega
  rcases h3 with rfl | rfl | rfl | rfl | rfl | rfl
  · exact ⟨5, by decide⟩
  · exact ⟨4, by decide⟩
  · exact ⟨3, by decide⟩
  · exact ⟨2, by decide⟩
  · exact ⟨1, by decide⟩
  · exact ⟨0, by decide⟩
section RULEV
variable {g : GS} {l : Launch} {Γ : Sh} {iv : IV} {rv : RV} {lv : LV}
theorem vo_loop {d q L mt E : Nat} {iv0 : IV} (hU : ShU Γ rv q L) (hL : L ≤ 160) (hMt : IsA Γ mt 20 6) (hmq : mt ≠ q + 4) (hEL : E ≤ L) {e : Nat → Int32} {v : Int32} {x1 : Int32} : ∀ (xs : List Int32) (i : Nat) (stk : List Int32) (iv : IV), (∀ j, j < xs.length → iv (q + 1) (i + j) = xs.getD j 0) → i + xs.length = E → evC e xs stk = some [v] → (∀ c, c < 6 → iv mt c = e c) → PileOK iv q stk → stk.length ≤ 40 → ∀ {x5 : Int32}, x5 = nI i → ∀ {x4 : Int32}, x4 = nI stk.length → Off (fun a _ => a = q + 4) iv0 iv → ∀ {v6 v7 v8 v9 v10 : Value}, v6.category = 1 → v7.category = 1 → v8.category = 1 → v9.category = 1 →
    Rn g l mX4_valueOf (rmA d 0 0) (qCI Γ rv lv (fun z iv' => z = v ∧ Off (fun a _ => a = q + 4) iv0 iv')) 0 0 68 [.ref q, .int x1, .ref mt, .int (nI E), .int x4, .int x5, v6, v7, v8, v9, v10] [] Γ iv rv lv := by
  intro xs
  induction xs with
  | nil =>
    intro i stk iv hxs hE hev he hpile hlt40 x5 hi5 x4 hi4 hoff v6 v7 v8 v9 v10 hv7 hv8 hv9 hv10
    have hstk : stk = [v] := Option.some.inj hev
    subst hstk
    refine r_iload5 dX4_valueOf_68 ?_
    refine r_iload3 dX4_valueOf_70 ?_
    refine rn_icmp_ge 393 dX4_valueOf_71 rfl (fun _ => ?_) (fun h => absurd (by rw [hi5]; exact nI_le (by simp at hE; omega) (by omega)) h)
    refine r_iload4 dX4_valueOf_393 ?_
    refine rn_if_le 407 dX4_valueOf_395 rfl (fun h => absurd h (by rw [hi4]; exact (by decide : ¬ nI 1 ≤ 0))) (fun _ => ?_)
    refine r_aload0 dX4_valueOf_398 ?_
    refine gf_X4_13 dX4_valueOf_399 rfl hU.1 hU.2.2.2.2.1 ?_
    refine rn_iconst (0) dX4_valueOf_402 (by decide) ?_
    refine rn_iald 0 dX4_valueOf_403 hU.2.2.2.2.2 rfl (by decide) (by decide) ?_
    refine rn_goto 408 dX4_valueOf_404 rfl ?_
    refine rn_iret dX4_valueOf_408 rfl (Nat.zero_le _) (Nat.zero_le _) ?_
    exact ⟨_, rfl, rfl, rfl, rfl, by have := hpile 0 (by simp); simpa using this, hoff⟩
  | cons x xs ih =>
    intro i stk iv hxs hE hev he hpile hlt40 x5 hi5 x4 hi4 hoff v6 v7 v8 v9 v10 hv7 hv8 hv9 hv10
    have hE2 : i < E := by simp at hE; omega
    subst hi4
    subst hi5
    have hi5 : nI i = nI i := rfl
    have hi4 : nI stk.length = nI stk.length := rfl
    refine r_iload5 dX4_valueOf_68 ?_
    refine r_iload3 dX4_valueOf_70 ?_
    refine rn_icmp_ge 393 dX4_valueOf_71 rfl (fun c71 => ?_) (fun c71 => ?_)
    · exact absurd c71 (by rw [hi5, nI_leI (by omega) (by omega)]; simp at hE; omega)
    · refine r_aload0 dX4_valueOf_74 ?_
      refine gf_X4_21 dX4_valueOf_75 rfl hU.1 hU.2.2.1.1 ?_
      refine r_iload5 dX4_valueOf_78 ?_
      refine rn_iald i dX4_valueOf_80 hU.2.2.1.2 hi5 (by omega) (by omega) ?_
      refine rn_eqi x (by have := hxs 0 (by simp); simpa using this) ?_
      refine r_istore6 dX4_valueOf_81 rfl ?_
      refine r_iload6 dX4_valueOf_83 ?_
      refine rn_bipush (-6) dX4_valueOf_85 (by decide) ?_
      refine rn_icmp_lt 128 dX4_valueOf_87 rfl (fun c87 => ?_) (fun c87 => ?_)
      · have hx6 : ¬ -6 ≤ x := Int32.not_le.mpr c87
        refine r_iload6 dX4_valueOf_128 ?_
        refine rn_bipush (-9) dX4_valueOf_130 (by decide) ?_
        refine rn_icmp_eq 142 dX4_valueOf_132 rfl (fun c132 => ?_) (fun c132 => ?_)
        · refine rn_iconst (1) dX4_valueOf_142 (by decide) ?_
          refine rn_goto 147 dX4_valueOf_143 rfl ?_
          refine r_istore7 dX4_valueOf_147 rfl ?_
          have hu : x = -9 ∨ x = -15 := (Or.inl c132)
          obtain ⟨a, r, rfl, hev1⟩ := st1_un hev hx6 hu
          obtain ⟨hp1, hp2⟩ := pile_tail hpile
          have hlen : (a :: r).length = r.length + 1 := rfl
          rw [hlen] at hlt40
          refine r_iload4 dX4_valueOf_149 ?_
          refine r_iload7 dX4_valueOf_151 ?_
          refine rn_if_eq 160 dX4_valueOf_153 rfl (fun h => absurd h (by decide)) (fun _ => ?_)
          refine rn_iconst (1) dX4_valueOf_156 (by decide) ?_
          refine rn_goto 161 dX4_valueOf_157 rfl ?_
          refine rn_icmp_ge 166 dX4_valueOf_161 rfl (fun _ => ?_) (fun h => absurd (show _ ≤ nI _ from by rw [show (1 : Int32) = nI 1 by decide]; exact nI_le (by show 1 ≤ List.length _; rw [hlen]; omega) (by rw [hlen]; omega)) h)
          refine r_iload7 dX4_valueOf_166 ?_
          refine rn_if_ne 174 dX4_valueOf_168 rfl (fun _ => ?_) (fun h => absurd h (by decide))
          refine r_aload0 dX4_valueOf_174 ?_
          refine gf_X4_13 dX4_valueOf_175 rfl hU.1 hU.2.2.2.2.1 ?_
          refine r_iload4 dX4_valueOf_178 ?_
          refine rn_iconst (1) dX4_valueOf_180 (by decide) ?_
          refine rn_isub dX4_valueOf_181 ?_
          refine rn_iald r.length dX4_valueOf_182 hU.2.2.2.2.2 (by show nI (r.length + 1) - 1 = _; exact nI_pred _) (by omega) (by decide) ?_
          refine rn_eqi a hp2 ?_
          refine r_istore8 dX4_valueOf_183 rfl ?_
          refine r_iload7 dX4_valueOf_185 ?_
          refine rn_if_eq 194 dX4_valueOf_187 rfl (fun h => absurd h (by decide)) (fun _ => ?_)
          refine rn_iconst (0) dX4_valueOf_190 (by decide) ?_
          refine rn_goto 201 dX4_valueOf_191 rfl ?_
          refine r_istore9 dX4_valueOf_201 rfl ?_
          refine r_iload6 dX4_valueOf_203 ?_
          refine rn_eqi (-9) c132 ?_
          refine rn_tableIn 292 dX4_valueOf_205 (by decide) (by decide) rfl rfl ?_
          refine r_iload8 dX4_valueOf_292 ?_
          refine rn_if_ne 301 dX4_valueOf_294 rfl (fun c294 => ?_) (fun c294 => ?_)
          · refine rn_iconst (0) dX4_valueOf_301 (by decide) ?_
            refine r_istore10 dX4_valueOf_302 rfl ?_
            refine rn_goto 376 dX4_valueOf_304 rfl ?_
            refine r_aload0 dX4_valueOf_376 ?_
            refine gf_X4_13 dX4_valueOf_377 rfl hU.1 hU.2.2.2.2.1 ?_
            refine r_iload4 dX4_valueOf_380 ?_
            refine rn_iconst (1) dX4_valueOf_382 (by decide) ?_
            refine rn_isub dX4_valueOf_383 ?_
            refine r_iload10 dX4_valueOf_384 ?_
            refine rn_iast r.length dX4_valueOf_386 hU.2.2.2.2.2 (by show nI (r.length + 1) - 1 = _; exact nI_pred _) (by omega) (by decide) ?_
            refine r_iinc5 _ dX4_valueOf_387 rfl rfl ?_
            refine rn_goto 68 dX4_valueOf_390 rfl ?_
            have hval : (0 : Int32) = (unS x a) := by rw [c132]; exact (show (0 : Int32) = unS (-9) a by unfold unS; rw [if_pos rfl, if_neg c294])
            refine ih (i + 1) ((unS x a) :: r) (up iv (q + 4) r.length (0)) (fun j hj => ?_) (by simp at hE; omega) hev1 (fun c hc => ?_) ?_ ?_ (nI_1 i) ?_ (hoff.trans (off_up rfl)) rfl rfl rfl rfl
            · rw [up_ne1 (by omega)]; have := hxs (j + 1) (by simp; omega); rw [show i + (j + 1) = i + 1 + j by omega] at this; simpa using this
            · rw [up_ne1 (by omega)]; exact he c hc
            · rw [hval]; exact pile_push hp1 _
            · show r.length + 1 ≤ 40; omega
            · show nI (r.length + 1) = nI (unS x a :: r).length; rfl
          · refine rn_iconst (1) dX4_valueOf_297 (by decide) ?_
            refine rn_goto 302 dX4_valueOf_298 rfl ?_
            refine r_istore10 dX4_valueOf_302 rfl ?_
            refine rn_goto 376 dX4_valueOf_304 rfl ?_
            refine r_aload0 dX4_valueOf_376 ?_
            refine gf_X4_13 dX4_valueOf_377 rfl hU.1 hU.2.2.2.2.1 ?_
            refine r_iload4 dX4_valueOf_380 ?_
            refine rn_iconst (1) dX4_valueOf_382 (by decide) ?_
            refine rn_isub dX4_valueOf_383 ?_
            refine r_iload10 dX4_valueOf_384 ?_
            refine rn_iast r.length dX4_valueOf_386 hU.2.2.2.2.2 (by show nI (r.length + 1) - 1 = _; exact nI_pred _) (by omega) (by decide) ?_
            refine r_iinc5 _ dX4_valueOf_387 rfl rfl ?_
            refine rn_goto 68 dX4_valueOf_390 rfl ?_
            have hval : (1 : Int32) = (unS x a) := by rw [c132]; exact (show (1 : Int32) = unS (-9) a by unfold unS; rw [if_pos rfl, if_pos c294])
            refine ih (i + 1) ((unS x a) :: r) (up iv (q + 4) r.length (1)) (fun j hj => ?_) (by simp at hE; omega) hev1 (fun c hc => ?_) ?_ ?_ (nI_1 i) ?_ (hoff.trans (off_up rfl)) rfl rfl rfl rfl
            · rw [up_ne1 (by omega)]; have := hxs (j + 1) (by simp; omega); rw [show i + (j + 1) = i + 1 + j by omega] at this; simpa using this
            · rw [up_ne1 (by omega)]; exact he c hc
            · rw [hval]; exact pile_push hp1 _
            · show r.length + 1 ≤ 40; omega
            · show nI (r.length + 1) = nI (unS x a :: r).length; rfl
        · refine r_iload6 dX4_valueOf_135 ?_
          refine rn_bipush (-15) dX4_valueOf_137 (by decide) ?_
          refine rn_icmp_ne 146 dX4_valueOf_139 rfl (fun c139 => ?_) (fun c139 => ?_)
          · refine rn_iconst (0) dX4_valueOf_146 (by decide) ?_
            refine r_istore7 dX4_valueOf_147 rfl ?_
            have hu : ¬ (x = -9 ∨ x = -15) := fun z => z.elim c132 c139
            obtain ⟨b, a, r, rfl, hev1⟩ := st1_bi hev hx6 hu
            obtain ⟨hp0, hp3⟩ := pile_tail hpile
            obtain ⟨hp1, hp2⟩ := pile_tail hp0
            have hlen : (b :: a :: r).length = r.length + 2 := rfl
            rw [hlen] at hlt40
            refine r_iload4 dX4_valueOf_149 ?_
            refine r_iload7 dX4_valueOf_151 ?_
            refine rn_if_eq 160 dX4_valueOf_153 rfl (fun _ => ?_) (fun h => absurd (by decide) h)
            refine rn_iconst (2) dX4_valueOf_160 (by decide) ?_
            refine rn_icmp_ge 166 dX4_valueOf_161 rfl (fun _ => ?_) (fun h => absurd (show _ ≤ nI _ from by rw [show (2 : Int32) = nI 2 by decide]; exact nI_le (by show 2 ≤ List.length _; rw [hlen]; omega) (by rw [hlen]; omega)) h)
            refine r_iload7 dX4_valueOf_166 ?_
            refine rn_if_ne 174 dX4_valueOf_168 rfl (fun h => absurd (by decide) h) (fun _ => ?_)
            refine r_iinc4 _ dX4_valueOf_171 rfl rfl ?_
            refine r_aload0 dX4_valueOf_174 ?_
            refine gf_X4_13 dX4_valueOf_175 rfl hU.1 hU.2.2.2.2.1 ?_
            refine r_iload4 dX4_valueOf_178 ?_
            refine rn_iconst (1) dX4_valueOf_180 (by decide) ?_
            refine rn_isub dX4_valueOf_181 ?_
            refine rn_iald r.length dX4_valueOf_182 hU.2.2.2.2.2 (by show nI (r.length + 1 + 1) + Int32.ofInt (-1) - 1 = _; rw [pk_mm]; exact nI_pred _) (by omega) (by decide) ?_
            refine rn_eqi a hp2 ?_
            refine r_istore8 dX4_valueOf_183 rfl ?_
            refine r_iload7 dX4_valueOf_185 ?_
            refine rn_if_eq 194 dX4_valueOf_187 rfl (fun _ => ?_) (fun h => absurd (by decide) h)
            refine r_aload0 dX4_valueOf_194 ?_
            refine gf_X4_13 dX4_valueOf_195 rfl hU.1 hU.2.2.2.2.1 ?_
            refine r_iload4 dX4_valueOf_198 ?_
            refine rn_iald (r.length + 1) dX4_valueOf_200 hU.2.2.2.2.2 (by show nI (r.length + 1 + 1) + Int32.ofInt (-1) = _; exact pk_mm _) (by omega) (by decide) ?_
            refine rn_eqi b hp3 ?_
            refine r_istore9 dX4_valueOf_201 rfl ?_
            refine r_iload6 dX4_valueOf_203 ?_
            refine rn_topi (fun x205 ex205 => ?_)
            by_cases e205_m14 : x205 = -14
            · subst e205_m14
              refine rn_tableIn 361 dX4_valueOf_205 (by decide) (by decide) rfl rfl ?_
              refine r_iload8 dX4_valueOf_361 ?_
              refine r_iload9 dX4_valueOf_363 ?_
              refine rn_imul dX4_valueOf_365 ?_
              refine r_istore10 dX4_valueOf_366 rfl ?_
              refine rn_goto 376 dX4_valueOf_368 rfl ?_
              refine r_aload0 dX4_valueOf_376 ?_
              refine gf_X4_13 dX4_valueOf_377 rfl hU.1 hU.2.2.2.2.1 ?_
              refine r_iload4 dX4_valueOf_380 ?_
              refine rn_iconst (1) dX4_valueOf_382 (by decide) ?_
              refine rn_isub dX4_valueOf_383 ?_
              refine r_iload10 dX4_valueOf_384 ?_
              refine rn_iast r.length dX4_valueOf_386 hU.2.2.2.2.2 (by show nI (r.length + 1 + 1) + Int32.ofInt (-1) - 1 = _; rw [pk_mm]; exact nI_pred _) (by omega) (by decide) ?_
              refine r_iinc5 _ dX4_valueOf_387 rfl rfl ?_
              refine rn_goto 68 dX4_valueOf_390 rfl ?_
              have hval : (a * b : Int32) = (binS x a b) := by rw [show x = -14 from ex205.symm]; exact (show a * b = binS (-14) a b by rfl)
              refine ih (i + 1) ((binS x a b) :: r) (up iv (q + 4) r.length (a * b)) (fun j hj => ?_) (by simp at hE; omega) hev1 (fun c hc => ?_) ?_ ?_ (nI_1 i) ?_ (hoff.trans (off_up rfl)) rfl rfl rfl rfl
              · rw [up_ne1 (by omega)]; have := hxs (j + 1) (by simp; omega); rw [show i + (j + 1) = i + 1 + j by omega] at this; simpa using this
              · rw [up_ne1 (by omega)]; exact he c hc
              · rw [hval]; exact pile_push hp1 _
              · show r.length + 1 ≤ 40; omega
              · show nI (r.length + 1 + 1) + Int32.ofInt (-1) = nI (binS x a b :: r).length; exact pk_mm _
            by_cases e205_m13 : x205 = -13
            · subst e205_m13
              refine rn_tableIn 351 dX4_valueOf_205 (by decide) (by decide) rfl rfl ?_
              refine r_iload8 dX4_valueOf_351 ?_
              refine r_iload9 dX4_valueOf_353 ?_
              refine rn_isub dX4_valueOf_355 ?_
              refine r_istore10 dX4_valueOf_356 rfl ?_
              refine rn_goto 376 dX4_valueOf_358 rfl ?_
              refine r_aload0 dX4_valueOf_376 ?_
              refine gf_X4_13 dX4_valueOf_377 rfl hU.1 hU.2.2.2.2.1 ?_
              refine r_iload4 dX4_valueOf_380 ?_
              refine rn_iconst (1) dX4_valueOf_382 (by decide) ?_
              refine rn_isub dX4_valueOf_383 ?_
              refine r_iload10 dX4_valueOf_384 ?_
              refine rn_iast r.length dX4_valueOf_386 hU.2.2.2.2.2 (by show nI (r.length + 1 + 1) + Int32.ofInt (-1) - 1 = _; rw [pk_mm]; exact nI_pred _) (by omega) (by decide) ?_
              refine r_iinc5 _ dX4_valueOf_387 rfl rfl ?_
              refine rn_goto 68 dX4_valueOf_390 rfl ?_
              have hval : (a - b : Int32) = (binS x a b) := by rw [show x = -13 from ex205.symm]; exact (show a - b = binS (-13) a b by rfl)
              refine ih (i + 1) ((binS x a b) :: r) (up iv (q + 4) r.length (a - b)) (fun j hj => ?_) (by simp at hE; omega) hev1 (fun c hc => ?_) ?_ ?_ (nI_1 i) ?_ (hoff.trans (off_up rfl)) rfl rfl rfl rfl
              · rw [up_ne1 (by omega)]; have := hxs (j + 1) (by simp; omega); rw [show i + (j + 1) = i + 1 + j by omega] at this; simpa using this
              · rw [up_ne1 (by omega)]; exact he c hc
              · rw [hval]; exact pile_push hp1 _
              · show r.length + 1 ≤ 40; omega
              · show nI (r.length + 1 + 1) + Int32.ofInt (-1) = nI (binS x a b :: r).length; exact pk_mm _
            by_cases e205_m12 : x205 = -12
            · subst e205_m12
              refine rn_tableIn 341 dX4_valueOf_205 (by decide) (by decide) rfl rfl ?_
              refine r_iload8 dX4_valueOf_341 ?_
              refine r_iload9 dX4_valueOf_343 ?_
              refine rn_iadd dX4_valueOf_345 ?_
              refine r_istore10 dX4_valueOf_346 rfl ?_
              refine rn_goto 376 dX4_valueOf_348 rfl ?_
              refine r_aload0 dX4_valueOf_376 ?_
              refine gf_X4_13 dX4_valueOf_377 rfl hU.1 hU.2.2.2.2.1 ?_
              refine r_iload4 dX4_valueOf_380 ?_
              refine rn_iconst (1) dX4_valueOf_382 (by decide) ?_
              refine rn_isub dX4_valueOf_383 ?_
              refine r_iload10 dX4_valueOf_384 ?_
              refine rn_iast r.length dX4_valueOf_386 hU.2.2.2.2.2 (by show nI (r.length + 1 + 1) + Int32.ofInt (-1) - 1 = _; rw [pk_mm]; exact nI_pred _) (by omega) (by decide) ?_
              refine r_iinc5 _ dX4_valueOf_387 rfl rfl ?_
              refine rn_goto 68 dX4_valueOf_390 rfl ?_
              have hval : (a + b : Int32) = (binS x a b) := by rw [show x = -12 from ex205.symm]; exact (show a + b = binS (-12) a b by rfl)
              refine ih (i + 1) ((binS x a b) :: r) (up iv (q + 4) r.length (a + b)) (fun j hj => ?_) (by simp at hE; omega) hev1 (fun c hc => ?_) ?_ ?_ (nI_1 i) ?_ (hoff.trans (off_up rfl)) rfl rfl rfl rfl
              · rw [up_ne1 (by omega)]; have := hxs (j + 1) (by simp; omega); rw [show i + (j + 1) = i + 1 + j by omega] at this; simpa using this
              · rw [up_ne1 (by omega)]; exact he c hc
              · rw [hval]; exact pile_push hp1 _
              · show r.length + 1 ≤ 40; omega
              · show nI (r.length + 1 + 1) + Int32.ofInt (-1) = nI (binS x a b :: r).length; exact pk_mm _
            by_cases e205_m11 : x205 = -11
            · subst e205_m11
              refine rn_tableIn 324 dX4_valueOf_205 (by decide) (by decide) rfl rfl ?_
              refine r_iload8 dX4_valueOf_324 ?_
              refine r_iload9 dX4_valueOf_326 ?_
              refine rn_icmp_ne 335 dX4_valueOf_328 rfl (fun c328 => ?_) (fun c328 => ?_)
              · refine rn_iconst (0) dX4_valueOf_335 (by decide) ?_
                refine r_istore10 dX4_valueOf_336 rfl ?_
                refine rn_goto 376 dX4_valueOf_338 rfl ?_
                refine r_aload0 dX4_valueOf_376 ?_
                refine gf_X4_13 dX4_valueOf_377 rfl hU.1 hU.2.2.2.2.1 ?_
                refine r_iload4 dX4_valueOf_380 ?_
                refine rn_iconst (1) dX4_valueOf_382 (by decide) ?_
                refine rn_isub dX4_valueOf_383 ?_
                refine r_iload10 dX4_valueOf_384 ?_
                refine rn_iast r.length dX4_valueOf_386 hU.2.2.2.2.2 (by show nI (r.length + 1 + 1) + Int32.ofInt (-1) - 1 = _; rw [pk_mm]; exact nI_pred _) (by omega) (by decide) ?_
                refine r_iinc5 _ dX4_valueOf_387 rfl rfl ?_
                refine rn_goto 68 dX4_valueOf_390 rfl ?_
                have hval : (0 : Int32) = (binS x a b) := by rw [show x = -11 from ex205.symm]; exact (show (0 : Int32) = binS (-11) a b by unfold binS; rw [if_neg (by decide), if_neg (by decide), if_neg (by decide), if_pos rfl, if_neg c328])
                refine ih (i + 1) ((binS x a b) :: r) (up iv (q + 4) r.length (0)) (fun j hj => ?_) (by simp at hE; omega) hev1 (fun c hc => ?_) ?_ ?_ (nI_1 i) ?_ (hoff.trans (off_up rfl)) rfl rfl rfl rfl
                · rw [up_ne1 (by omega)]; have := hxs (j + 1) (by simp; omega); rw [show i + (j + 1) = i + 1 + j by omega] at this; simpa using this
                · rw [up_ne1 (by omega)]; exact he c hc
                · rw [hval]; exact pile_push hp1 _
                · show r.length + 1 ≤ 40; omega
                · show nI (r.length + 1 + 1) + Int32.ofInt (-1) = nI (binS x a b :: r).length; exact pk_mm _
              · refine rn_iconst (1) dX4_valueOf_331 (by decide) ?_
                refine rn_goto 336 dX4_valueOf_332 rfl ?_
                refine r_istore10 dX4_valueOf_336 rfl ?_
                refine rn_goto 376 dX4_valueOf_338 rfl ?_
                refine r_aload0 dX4_valueOf_376 ?_
                refine gf_X4_13 dX4_valueOf_377 rfl hU.1 hU.2.2.2.2.1 ?_
                refine r_iload4 dX4_valueOf_380 ?_
                refine rn_iconst (1) dX4_valueOf_382 (by decide) ?_
                refine rn_isub dX4_valueOf_383 ?_
                refine r_iload10 dX4_valueOf_384 ?_
                refine rn_iast r.length dX4_valueOf_386 hU.2.2.2.2.2 (by show nI (r.length + 1 + 1) + Int32.ofInt (-1) - 1 = _; rw [pk_mm]; exact nI_pred _) (by omega) (by decide) ?_
                refine r_iinc5 _ dX4_valueOf_387 rfl rfl ?_
                refine rn_goto 68 dX4_valueOf_390 rfl ?_
                have hval : (1 : Int32) = (binS x a b) := by rw [show x = -11 from ex205.symm]; exact (show (1 : Int32) = binS (-11) a b by unfold binS; rw [if_neg (by decide), if_neg (by decide), if_neg (by decide), if_pos rfl, if_pos c328])
                refine ih (i + 1) ((binS x a b) :: r) (up iv (q + 4) r.length (1)) (fun j hj => ?_) (by simp at hE; omega) hev1 (fun c hc => ?_) ?_ ?_ (nI_1 i) ?_ (hoff.trans (off_up rfl)) rfl rfl rfl rfl
                · rw [up_ne1 (by omega)]; have := hxs (j + 1) (by simp; omega); rw [show i + (j + 1) = i + 1 + j by omega] at this; simpa using this
                · rw [up_ne1 (by omega)]; exact he c hc
                · rw [hval]; exact pile_push hp1 _
                · show r.length + 1 ≤ 40; omega
                · show nI (r.length + 1 + 1) + Int32.ofInt (-1) = nI (binS x a b :: r).length; exact pk_mm _
            by_cases e205_m10 : x205 = -10
            · subst e205_m10
              refine rn_tableIn 307 dX4_valueOf_205 (by decide) (by decide) rfl rfl ?_
              refine r_iload8 dX4_valueOf_307 ?_
              refine r_iload9 dX4_valueOf_309 ?_
              refine rn_icmp_ge 318 dX4_valueOf_311 rfl (fun c311 => ?_) (fun c311 => ?_)
              · refine rn_iconst (0) dX4_valueOf_318 (by decide) ?_
                refine r_istore10 dX4_valueOf_319 rfl ?_
                refine rn_goto 376 dX4_valueOf_321 rfl ?_
                refine r_aload0 dX4_valueOf_376 ?_
                refine gf_X4_13 dX4_valueOf_377 rfl hU.1 hU.2.2.2.2.1 ?_
                refine r_iload4 dX4_valueOf_380 ?_
                refine rn_iconst (1) dX4_valueOf_382 (by decide) ?_
                refine rn_isub dX4_valueOf_383 ?_
                refine r_iload10 dX4_valueOf_384 ?_
                refine rn_iast r.length dX4_valueOf_386 hU.2.2.2.2.2 (by show nI (r.length + 1 + 1) + Int32.ofInt (-1) - 1 = _; rw [pk_mm]; exact nI_pred _) (by omega) (by decide) ?_
                refine r_iinc5 _ dX4_valueOf_387 rfl rfl ?_
                refine rn_goto 68 dX4_valueOf_390 rfl ?_
                have hval : (0 : Int32) = (binS x a b) := by rw [show x = -10 from ex205.symm]; exact (show (0 : Int32) = binS (-10) a b by unfold binS; rw [if_neg (by decide), if_neg (by decide), if_pos rfl, if_neg (Int32.not_lt.mpr c311)])
                refine ih (i + 1) ((binS x a b) :: r) (up iv (q + 4) r.length (0)) (fun j hj => ?_) (by simp at hE; omega) hev1 (fun c hc => ?_) ?_ ?_ (nI_1 i) ?_ (hoff.trans (off_up rfl)) rfl rfl rfl rfl
                · rw [up_ne1 (by omega)]; have := hxs (j + 1) (by simp; omega); rw [show i + (j + 1) = i + 1 + j by omega] at this; simpa using this
                · rw [up_ne1 (by omega)]; exact he c hc
                · rw [hval]; exact pile_push hp1 _
                · show r.length + 1 ≤ 40; omega
                · show nI (r.length + 1 + 1) + Int32.ofInt (-1) = nI (binS x a b :: r).length; exact pk_mm _
              · refine rn_iconst (1) dX4_valueOf_314 (by decide) ?_
                refine rn_goto 319 dX4_valueOf_315 rfl ?_
                refine r_istore10 dX4_valueOf_319 rfl ?_
                refine rn_goto 376 dX4_valueOf_321 rfl ?_
                refine r_aload0 dX4_valueOf_376 ?_
                refine gf_X4_13 dX4_valueOf_377 rfl hU.1 hU.2.2.2.2.1 ?_
                refine r_iload4 dX4_valueOf_380 ?_
                refine rn_iconst (1) dX4_valueOf_382 (by decide) ?_
                refine rn_isub dX4_valueOf_383 ?_
                refine r_iload10 dX4_valueOf_384 ?_
                refine rn_iast r.length dX4_valueOf_386 hU.2.2.2.2.2 (by show nI (r.length + 1 + 1) + Int32.ofInt (-1) - 1 = _; rw [pk_mm]; exact nI_pred _) (by omega) (by decide) ?_
                refine r_iinc5 _ dX4_valueOf_387 rfl rfl ?_
                refine rn_goto 68 dX4_valueOf_390 rfl ?_
                have hval : (1 : Int32) = (binS x a b) := by rw [show x = -10 from ex205.symm]; exact (show (1 : Int32) = binS (-10) a b by unfold binS; rw [if_neg (by decide), if_neg (by decide), if_pos rfl, if_pos (Int32.not_le.mp c311)])
                refine ih (i + 1) ((binS x a b) :: r) (up iv (q + 4) r.length (1)) (fun j hj => ?_) (by simp at hE; omega) hev1 (fun c hc => ?_) ?_ ?_ (nI_1 i) ?_ (hoff.trans (off_up rfl)) rfl rfl rfl rfl
                · rw [up_ne1 (by omega)]; have := hxs (j + 1) (by simp; omega); rw [show i + (j + 1) = i + 1 + j by omega] at this; simpa using this
                · rw [up_ne1 (by omega)]; exact he c hc
                · rw [hval]; exact pile_push hp1 _
                · show r.length + 1 ≤ 40; omega
                · show nI (r.length + 1 + 1) + Int32.ofInt (-1) = nI (binS x a b :: r).length; exact pk_mm _
            by_cases e205_m9 : x205 = -9
            · subst e205_m9
              refine rn_tableIn 292 dX4_valueOf_205 (by decide) (by decide) rfl rfl ?_
              refine r_iload8 dX4_valueOf_292 ?_
              refine rn_if_ne 301 dX4_valueOf_294 rfl (fun c294 => ?_) (fun c294 => ?_)
              · refine rn_iconst (0) dX4_valueOf_301 (by decide) ?_
                refine r_istore10 dX4_valueOf_302 rfl ?_
                refine rn_goto 376 dX4_valueOf_304 rfl ?_
                refine r_aload0 dX4_valueOf_376 ?_
                refine gf_X4_13 dX4_valueOf_377 rfl hU.1 hU.2.2.2.2.1 ?_
                refine r_iload4 dX4_valueOf_380 ?_
                refine rn_iconst (1) dX4_valueOf_382 (by decide) ?_
                refine rn_isub dX4_valueOf_383 ?_
                refine r_iload10 dX4_valueOf_384 ?_
                refine rn_iast r.length dX4_valueOf_386 hU.2.2.2.2.2 (by show nI (r.length + 1 + 1) + Int32.ofInt (-1) - 1 = _; rw [pk_mm]; exact nI_pred _) (by omega) (by decide) ?_
                refine r_iinc5 _ dX4_valueOf_387 rfl rfl ?_
                refine rn_goto 68 dX4_valueOf_390 rfl ?_
                exact absurd (Or.inl ex205.symm) hu
              · refine rn_iconst (1) dX4_valueOf_297 (by decide) ?_
                refine rn_goto 302 dX4_valueOf_298 rfl ?_
                refine r_istore10 dX4_valueOf_302 rfl ?_
                refine rn_goto 376 dX4_valueOf_304 rfl ?_
                refine r_aload0 dX4_valueOf_376 ?_
                refine gf_X4_13 dX4_valueOf_377 rfl hU.1 hU.2.2.2.2.1 ?_
                refine r_iload4 dX4_valueOf_380 ?_
                refine rn_iconst (1) dX4_valueOf_382 (by decide) ?_
                refine rn_isub dX4_valueOf_383 ?_
                refine r_iload10 dX4_valueOf_384 ?_
                refine rn_iast r.length dX4_valueOf_386 hU.2.2.2.2.2 (by show nI (r.length + 1 + 1) + Int32.ofInt (-1) - 1 = _; rw [pk_mm]; exact nI_pred _) (by omega) (by decide) ?_
                refine r_iinc5 _ dX4_valueOf_387 rfl rfl ?_
                refine rn_goto 68 dX4_valueOf_390 rfl ?_
                exact absurd (Or.inl ex205.symm) hu
            by_cases e205_m8 : x205 = -8
            · subst e205_m8
              refine rn_tableIn 272 dX4_valueOf_205 (by decide) (by decide) rfl rfl ?_
              refine r_iload8 dX4_valueOf_272 ?_
              refine rn_if_eq 286 dX4_valueOf_274 rfl (fun c274 => ?_) (fun c274 => ?_)
              · refine rn_iconst (0) dX4_valueOf_286 (by decide) ?_
                refine r_istore10 dX4_valueOf_287 rfl ?_
                refine rn_goto 376 dX4_valueOf_289 rfl ?_
                refine r_aload0 dX4_valueOf_376 ?_
                refine gf_X4_13 dX4_valueOf_377 rfl hU.1 hU.2.2.2.2.1 ?_
                refine r_iload4 dX4_valueOf_380 ?_
                refine rn_iconst (1) dX4_valueOf_382 (by decide) ?_
                refine rn_isub dX4_valueOf_383 ?_
                refine r_iload10 dX4_valueOf_384 ?_
                refine rn_iast r.length dX4_valueOf_386 hU.2.2.2.2.2 (by show nI (r.length + 1 + 1) + Int32.ofInt (-1) - 1 = _; rw [pk_mm]; exact nI_pred _) (by omega) (by decide) ?_
                refine r_iinc5 _ dX4_valueOf_387 rfl rfl ?_
                refine rn_goto 68 dX4_valueOf_390 rfl ?_
                have hval : (0 : Int32) = (binS x a b) := by rw [show x = -8 from ex205.symm]; exact (show (0 : Int32) = binS (-8) a b by unfold binS; rw [if_neg (by decide), if_pos rfl, if_neg (fun z => z.1 c274)])
                refine ih (i + 1) ((binS x a b) :: r) (up iv (q + 4) r.length (0)) (fun j hj => ?_) (by simp at hE; omega) hev1 (fun c hc => ?_) ?_ ?_ (nI_1 i) ?_ (hoff.trans (off_up rfl)) rfl rfl rfl rfl
                · rw [up_ne1 (by omega)]; have := hxs (j + 1) (by simp; omega); rw [show i + (j + 1) = i + 1 + j by omega] at this; simpa using this
                · rw [up_ne1 (by omega)]; exact he c hc
                · rw [hval]; exact pile_push hp1 _
                · show r.length + 1 ≤ 40; omega
                · show nI (r.length + 1 + 1) + Int32.ofInt (-1) = nI (binS x a b :: r).length; exact pk_mm _
              · refine r_iload9 dX4_valueOf_277 ?_
                refine rn_if_eq 286 dX4_valueOf_279 rfl (fun c279 => ?_) (fun c279 => ?_)
                · refine rn_iconst (0) dX4_valueOf_286 (by decide) ?_
                  refine r_istore10 dX4_valueOf_287 rfl ?_
                  refine rn_goto 376 dX4_valueOf_289 rfl ?_
                  refine r_aload0 dX4_valueOf_376 ?_
                  refine gf_X4_13 dX4_valueOf_377 rfl hU.1 hU.2.2.2.2.1 ?_
                  refine r_iload4 dX4_valueOf_380 ?_
                  refine rn_iconst (1) dX4_valueOf_382 (by decide) ?_
                  refine rn_isub dX4_valueOf_383 ?_
                  refine r_iload10 dX4_valueOf_384 ?_
                  refine rn_iast r.length dX4_valueOf_386 hU.2.2.2.2.2 (by show nI (r.length + 1 + 1) + Int32.ofInt (-1) - 1 = _; rw [pk_mm]; exact nI_pred _) (by omega) (by decide) ?_
                  refine r_iinc5 _ dX4_valueOf_387 rfl rfl ?_
                  refine rn_goto 68 dX4_valueOf_390 rfl ?_
                  have hval : (0 : Int32) = (binS x a b) := by rw [show x = -8 from ex205.symm]; exact (show (0 : Int32) = binS (-8) a b by unfold binS; rw [if_neg (by decide), if_pos rfl, if_neg (fun z => z.2 c279)])
                  refine ih (i + 1) ((binS x a b) :: r) (up iv (q + 4) r.length (0)) (fun j hj => ?_) (by simp at hE; omega) hev1 (fun c hc => ?_) ?_ ?_ (nI_1 i) ?_ (hoff.trans (off_up rfl)) rfl rfl rfl rfl
                  · rw [up_ne1 (by omega)]; have := hxs (j + 1) (by simp; omega); rw [show i + (j + 1) = i + 1 + j by omega] at this; simpa using this
                  · rw [up_ne1 (by omega)]; exact he c hc
                  · rw [hval]; exact pile_push hp1 _
                  · show r.length + 1 ≤ 40; omega
                  · show nI (r.length + 1 + 1) + Int32.ofInt (-1) = nI (binS x a b :: r).length; exact pk_mm _
                · refine rn_iconst (1) dX4_valueOf_282 (by decide) ?_
                  refine rn_goto 287 dX4_valueOf_283 rfl ?_
                  refine r_istore10 dX4_valueOf_287 rfl ?_
                  refine rn_goto 376 dX4_valueOf_289 rfl ?_
                  refine r_aload0 dX4_valueOf_376 ?_
                  refine gf_X4_13 dX4_valueOf_377 rfl hU.1 hU.2.2.2.2.1 ?_
                  refine r_iload4 dX4_valueOf_380 ?_
                  refine rn_iconst (1) dX4_valueOf_382 (by decide) ?_
                  refine rn_isub dX4_valueOf_383 ?_
                  refine r_iload10 dX4_valueOf_384 ?_
                  refine rn_iast r.length dX4_valueOf_386 hU.2.2.2.2.2 (by show nI (r.length + 1 + 1) + Int32.ofInt (-1) - 1 = _; rw [pk_mm]; exact nI_pred _) (by omega) (by decide) ?_
                  refine r_iinc5 _ dX4_valueOf_387 rfl rfl ?_
                  refine rn_goto 68 dX4_valueOf_390 rfl ?_
                  have hval : (1 : Int32) = (binS x a b) := by rw [show x = -8 from ex205.symm]; exact (show (1 : Int32) = binS (-8) a b by unfold binS; rw [if_neg (by decide), if_pos rfl, if_pos ⟨c274, c279⟩])
                  refine ih (i + 1) ((binS x a b) :: r) (up iv (q + 4) r.length (1)) (fun j hj => ?_) (by simp at hE; omega) hev1 (fun c hc => ?_) ?_ ?_ (nI_1 i) ?_ (hoff.trans (off_up rfl)) rfl rfl rfl rfl
                  · rw [up_ne1 (by omega)]; have := hxs (j + 1) (by simp; omega); rw [show i + (j + 1) = i + 1 + j by omega] at this; simpa using this
                  · rw [up_ne1 (by omega)]; exact he c hc
                  · rw [hval]; exact pile_push hp1 _
                  · show r.length + 1 ≤ 40; omega
                  · show nI (r.length + 1 + 1) + Int32.ofInt (-1) = nI (binS x a b :: r).length; exact pk_mm _
            by_cases e205_m7 : x205 = -7
            · subst e205_m7
              refine rn_tableIn 252 dX4_valueOf_205 (by decide) (by decide) rfl rfl ?_
              refine r_iload8 dX4_valueOf_252 ?_
              refine rn_if_ne 262 dX4_valueOf_254 rfl (fun c254 => ?_) (fun c254 => ?_)
              · refine rn_iconst (1) dX4_valueOf_262 (by decide) ?_
                refine rn_goto 267 dX4_valueOf_263 rfl ?_
                refine r_istore10 dX4_valueOf_267 rfl ?_
                refine rn_goto 376 dX4_valueOf_269 rfl ?_
                refine r_aload0 dX4_valueOf_376 ?_
                refine gf_X4_13 dX4_valueOf_377 rfl hU.1 hU.2.2.2.2.1 ?_
                refine r_iload4 dX4_valueOf_380 ?_
                refine rn_iconst (1) dX4_valueOf_382 (by decide) ?_
                refine rn_isub dX4_valueOf_383 ?_
                refine r_iload10 dX4_valueOf_384 ?_
                refine rn_iast r.length dX4_valueOf_386 hU.2.2.2.2.2 (by show nI (r.length + 1 + 1) + Int32.ofInt (-1) - 1 = _; rw [pk_mm]; exact nI_pred _) (by omega) (by decide) ?_
                refine r_iinc5 _ dX4_valueOf_387 rfl rfl ?_
                refine rn_goto 68 dX4_valueOf_390 rfl ?_
                have hval : (1 : Int32) = (binS x a b) := by rw [show x = -7 from ex205.symm]; exact (show (1 : Int32) = binS (-7) a b by unfold binS; rw [if_pos rfl, if_pos (Or.inl c254)])
                refine ih (i + 1) ((binS x a b) :: r) (up iv (q + 4) r.length (1)) (fun j hj => ?_) (by simp at hE; omega) hev1 (fun c hc => ?_) ?_ ?_ (nI_1 i) ?_ (hoff.trans (off_up rfl)) rfl rfl rfl rfl
                · rw [up_ne1 (by omega)]; have := hxs (j + 1) (by simp; omega); rw [show i + (j + 1) = i + 1 + j by omega] at this; simpa using this
                · rw [up_ne1 (by omega)]; exact he c hc
                · rw [hval]; exact pile_push hp1 _
                · show r.length + 1 ≤ 40; omega
                · show nI (r.length + 1 + 1) + Int32.ofInt (-1) = nI (binS x a b :: r).length; exact pk_mm _
              · refine r_iload9 dX4_valueOf_257 ?_
                refine rn_if_eq 266 dX4_valueOf_259 rfl (fun c259 => ?_) (fun c259 => ?_)
                · refine rn_iconst (0) dX4_valueOf_266 (by decide) ?_
                  refine r_istore10 dX4_valueOf_267 rfl ?_
                  refine rn_goto 376 dX4_valueOf_269 rfl ?_
                  refine r_aload0 dX4_valueOf_376 ?_
                  refine gf_X4_13 dX4_valueOf_377 rfl hU.1 hU.2.2.2.2.1 ?_
                  refine r_iload4 dX4_valueOf_380 ?_
                  refine rn_iconst (1) dX4_valueOf_382 (by decide) ?_
                  refine rn_isub dX4_valueOf_383 ?_
                  refine r_iload10 dX4_valueOf_384 ?_
                  refine rn_iast r.length dX4_valueOf_386 hU.2.2.2.2.2 (by show nI (r.length + 1 + 1) + Int32.ofInt (-1) - 1 = _; rw [pk_mm]; exact nI_pred _) (by omega) (by decide) ?_
                  refine r_iinc5 _ dX4_valueOf_387 rfl rfl ?_
                  refine rn_goto 68 dX4_valueOf_390 rfl ?_
                  have hval : (0 : Int32) = (binS x a b) := by rw [show x = -7 from ex205.symm]; exact (show (0 : Int32) = binS (-7) a b by unfold binS; rw [if_pos rfl, if_neg (fun z => z.elim (fun y => y c254) (fun y => y c259))])
                  refine ih (i + 1) ((binS x a b) :: r) (up iv (q + 4) r.length (0)) (fun j hj => ?_) (by simp at hE; omega) hev1 (fun c hc => ?_) ?_ ?_ (nI_1 i) ?_ (hoff.trans (off_up rfl)) rfl rfl rfl rfl
                  · rw [up_ne1 (by omega)]; have := hxs (j + 1) (by simp; omega); rw [show i + (j + 1) = i + 1 + j by omega] at this; simpa using this
                  · rw [up_ne1 (by omega)]; exact he c hc
                  · rw [hval]; exact pile_push hp1 _
                  · show r.length + 1 ≤ 40; omega
                  · show nI (r.length + 1 + 1) + Int32.ofInt (-1) = nI (binS x a b :: r).length; exact pk_mm _
                · refine rn_iconst (1) dX4_valueOf_262 (by decide) ?_
                  refine rn_goto 267 dX4_valueOf_263 rfl ?_
                  refine r_istore10 dX4_valueOf_267 rfl ?_
                  refine rn_goto 376 dX4_valueOf_269 rfl ?_
                  refine r_aload0 dX4_valueOf_376 ?_
                  refine gf_X4_13 dX4_valueOf_377 rfl hU.1 hU.2.2.2.2.1 ?_
                  refine r_iload4 dX4_valueOf_380 ?_
                  refine rn_iconst (1) dX4_valueOf_382 (by decide) ?_
                  refine rn_isub dX4_valueOf_383 ?_
                  refine r_iload10 dX4_valueOf_384 ?_
                  refine rn_iast r.length dX4_valueOf_386 hU.2.2.2.2.2 (by show nI (r.length + 1 + 1) + Int32.ofInt (-1) - 1 = _; rw [pk_mm]; exact nI_pred _) (by omega) (by decide) ?_
                  refine r_iinc5 _ dX4_valueOf_387 rfl rfl ?_
                  refine rn_goto 68 dX4_valueOf_390 rfl ?_
                  have hval : (1 : Int32) = (binS x a b) := by rw [show x = -7 from ex205.symm]; exact (show (1 : Int32) = binS (-7) a b by unfold binS; rw [if_pos rfl, if_pos (Or.inr c259)])
                  refine ih (i + 1) ((binS x a b) :: r) (up iv (q + 4) r.length (1)) (fun j hj => ?_) (by simp at hE; omega) hev1 (fun c hc => ?_) ?_ ?_ (nI_1 i) ?_ (hoff.trans (off_up rfl)) rfl rfl rfl rfl
                  · rw [up_ne1 (by omega)]; have := hxs (j + 1) (by simp; omega); rw [show i + (j + 1) = i + 1 + j by omega] at this; simpa using this
                  · rw [up_ne1 (by omega)]; exact he c hc
                  · rw [hval]; exact pile_push hp1 _
                  · show r.length + 1 ≤ 40; omega
                  · show nI (r.length + 1 + 1) + Int32.ofInt (-1) = nI (binS x a b :: r).length; exact pk_mm _
            refine rn_tableOut 371 dX4_valueOf_205 (by have zm14 := lv_neT e205_m14 (by decide : (-14 : Int32).toInt = -14); have zm13 := lv_neT e205_m13 (by decide : (-13 : Int32).toInt = -13); have zm12 := lv_neT e205_m12 (by decide : (-12 : Int32).toInt = -12); have zm11 := lv_neT e205_m11 (by decide : (-11 : Int32).toInt = -11); have zm10 := lv_neT e205_m10 (by decide : (-10 : Int32).toInt = -10); have zm9 := lv_neT e205_m9 (by decide : (-9 : Int32).toInt = -9); have zm8 := lv_neT e205_m8 (by decide : (-8 : Int32).toInt = -8); have zm7 := lv_neT e205_m7 (by decide : (-7 : Int32).toInt = -7); omega) rfl ?_
            refine r_iload8 dX4_valueOf_371 ?_
            refine rn_ineg dX4_valueOf_373 ?_
            refine r_istore10 dX4_valueOf_374 rfl ?_
            refine r_aload0 dX4_valueOf_376 ?_
            refine gf_X4_13 dX4_valueOf_377 rfl hU.1 hU.2.2.2.2.1 ?_
            refine r_iload4 dX4_valueOf_380 ?_
            refine rn_iconst (1) dX4_valueOf_382 (by decide) ?_
            refine rn_isub dX4_valueOf_383 ?_
            refine r_iload10 dX4_valueOf_384 ?_
            refine rn_iast r.length dX4_valueOf_386 hU.2.2.2.2.2 (by show nI (r.length + 1 + 1) + Int32.ofInt (-1) - 1 = _; rw [pk_mm]; exact nI_pred _) (by omega) (by decide) ?_
            refine r_iinc5 _ dX4_valueOf_387 rfl rfl ?_
            refine rn_goto 68 dX4_valueOf_390 rfl ?_
            have hval : (-a : Int32) = (binS x a b) := by exact (show -a = binS x a b by unfold binS; rw [if_neg (fun z => e205_m7 (ex205.trans z)), if_neg (fun z => e205_m8 (ex205.trans z)), if_neg (fun z => e205_m10 (ex205.trans z)), if_neg (fun z => e205_m11 (ex205.trans z)), if_neg (fun z => e205_m12 (ex205.trans z)), if_neg (fun z => e205_m13 (ex205.trans z)), if_neg (fun z => e205_m14 (ex205.trans z))])
            refine ih (i + 1) ((binS x a b) :: r) (up iv (q + 4) r.length (-a)) (fun j hj => ?_) (by simp at hE; omega) hev1 (fun c hc => ?_) ?_ ?_ (nI_1 i) ?_ (hoff.trans (off_up rfl)) rfl rfl rfl rfl
            · rw [up_ne1 (by omega)]; have := hxs (j + 1) (by simp; omega); rw [show i + (j + 1) = i + 1 + j by omega] at this; simpa using this
            · rw [up_ne1 (by omega)]; exact he c hc
            · rw [hval]; exact pile_push hp1 _
            · show r.length + 1 ≤ 40; omega
            · show nI (r.length + 1 + 1) + Int32.ofInt (-1) = nI (binS x a b :: r).length; exact pk_mm _
          · refine rn_iconst (1) dX4_valueOf_142 (by decide) ?_
            refine rn_goto 147 dX4_valueOf_143 rfl ?_
            refine r_istore7 dX4_valueOf_147 rfl ?_
            have hu : x = -9 ∨ x = -15 := (Or.inr c139)
            obtain ⟨a, r, rfl, hev1⟩ := st1_un hev hx6 hu
            obtain ⟨hp1, hp2⟩ := pile_tail hpile
            have hlen : (a :: r).length = r.length + 1 := rfl
            rw [hlen] at hlt40
            refine r_iload4 dX4_valueOf_149 ?_
            refine r_iload7 dX4_valueOf_151 ?_
            refine rn_if_eq 160 dX4_valueOf_153 rfl (fun h => absurd h (by decide)) (fun _ => ?_)
            refine rn_iconst (1) dX4_valueOf_156 (by decide) ?_
            refine rn_goto 161 dX4_valueOf_157 rfl ?_
            refine rn_icmp_ge 166 dX4_valueOf_161 rfl (fun _ => ?_) (fun h => absurd (show _ ≤ nI _ from by rw [show (1 : Int32) = nI 1 by decide]; exact nI_le (by show 1 ≤ List.length _; rw [hlen]; omega) (by rw [hlen]; omega)) h)
            refine r_iload7 dX4_valueOf_166 ?_
            refine rn_if_ne 174 dX4_valueOf_168 rfl (fun _ => ?_) (fun h => absurd h (by decide))
            refine r_aload0 dX4_valueOf_174 ?_
            refine gf_X4_13 dX4_valueOf_175 rfl hU.1 hU.2.2.2.2.1 ?_
            refine r_iload4 dX4_valueOf_178 ?_
            refine rn_iconst (1) dX4_valueOf_180 (by decide) ?_
            refine rn_isub dX4_valueOf_181 ?_
            refine rn_iald r.length dX4_valueOf_182 hU.2.2.2.2.2 (by show nI (r.length + 1) - 1 = _; exact nI_pred _) (by omega) (by decide) ?_
            refine rn_eqi a hp2 ?_
            refine r_istore8 dX4_valueOf_183 rfl ?_
            refine r_iload7 dX4_valueOf_185 ?_
            refine rn_if_eq 194 dX4_valueOf_187 rfl (fun h => absurd h (by decide)) (fun _ => ?_)
            refine rn_iconst (0) dX4_valueOf_190 (by decide) ?_
            refine rn_goto 201 dX4_valueOf_191 rfl ?_
            refine r_istore9 dX4_valueOf_201 rfl ?_
            refine r_iload6 dX4_valueOf_203 ?_
            refine rn_eqi (-15) c139 ?_
            refine rn_tableOut 371 dX4_valueOf_205 (by decide) rfl ?_
            refine r_iload8 dX4_valueOf_371 ?_
            refine rn_ineg dX4_valueOf_373 ?_
            refine r_istore10 dX4_valueOf_374 rfl ?_
            refine r_aload0 dX4_valueOf_376 ?_
            refine gf_X4_13 dX4_valueOf_377 rfl hU.1 hU.2.2.2.2.1 ?_
            refine r_iload4 dX4_valueOf_380 ?_
            refine rn_iconst (1) dX4_valueOf_382 (by decide) ?_
            refine rn_isub dX4_valueOf_383 ?_
            refine r_iload10 dX4_valueOf_384 ?_
            refine rn_iast r.length dX4_valueOf_386 hU.2.2.2.2.2 (by show nI (r.length + 1) - 1 = _; exact nI_pred _) (by omega) (by decide) ?_
            refine r_iinc5 _ dX4_valueOf_387 rfl rfl ?_
            refine rn_goto 68 dX4_valueOf_390 rfl ?_
            have hval : (-a : Int32) = (unS x a) := by rw [c139]; exact (show -a = unS (-15) a by unfold unS; rw [if_neg (by decide)])
            refine ih (i + 1) ((unS x a) :: r) (up iv (q + 4) r.length (-a)) (fun j hj => ?_) (by simp at hE; omega) hev1 (fun c hc => ?_) ?_ ?_ (nI_1 i) ?_ (hoff.trans (off_up rfl)) rfl rfl rfl rfl
            · rw [up_ne1 (by omega)]; have := hxs (j + 1) (by simp; omega); rw [show i + (j + 1) = i + 1 + j by omega] at this; simpa using this
            · rw [up_ne1 (by omega)]; exact he c hc
            · rw [hval]; exact pile_push hp1 _
            · show r.length + 1 ≤ 40; omega
            · show nI (r.length + 1) = nI (unS x a :: r).length; rfl
      · have hx6 : -6 ≤ x := Int32.not_lt.mp c87
        obtain ⟨hl40, hev1⟩ := st1_push hev hx6
        refine r_iload4 dX4_valueOf_90 ?_
        refine rn_bipush (40) dX4_valueOf_92 (by decide) ?_
        refine rn_icmp_lt 99 dX4_valueOf_94 rfl (fun _ => ?_) (fun h => absurd (by rw [show (40 : Int32) = nI 40 by decide]; exact nI_lt hl40 (by omega)) h)
        refine r_aload0 dX4_valueOf_99 ?_
        refine gf_X4_13 dX4_valueOf_100 rfl hU.1 hU.2.2.2.2.1 ?_
        refine r_iload4 dX4_valueOf_103 ?_
        refine r_iload6 dX4_valueOf_105 ?_
        refine rn_if_lt 115 dX4_valueOf_107 rfl (fun c107 => ?_) (fun c107 => ?_)
        · have hx0 : ¬ 0 ≤ x := Int32.not_le.mpr c107
          obtain ⟨cc, hc1, hc2, hc3⟩ := nm_ix hx6 hx0
          refine r_aload2 dX4_valueOf_115 ?_
          refine rn_iconst (-1) dX4_valueOf_116 (by decide) ?_
          refine r_iload6 dX4_valueOf_117 ?_
          refine rn_isub dX4_valueOf_119 ?_
          refine rn_iald cc dX4_valueOf_120 hMt hc2 hc1 (by decide) ?_
          rw [if_neg hx0, hc3] at hev1
          refine rn_eqi (e cc) (he cc hc1) ?_
          refine rn_iast stk.length dX4_valueOf_121 hU.2.2.2.2.2 hi4 hl40 (by decide) ?_
          refine r_iinc4 _ dX4_valueOf_122 rfl rfl ?_
          refine rn_goto 387 dX4_valueOf_125 rfl ?_
          refine r_iinc5 _ dX4_valueOf_387 rfl rfl ?_
          refine rn_goto 68 dX4_valueOf_390 rfl ?_
          refine ih (i + 1) (e cc :: stk) (up iv (q + 4) stk.length (e cc)) (fun j hj => ?_) (by simp at hE; omega) hev1 (fun c hc => ?_) (pile_push hpile _) ?_ (nI_1 i) ?_ (hoff.trans (off_up rfl)) rfl hv8 hv9 hv10
          · rw [up_ne1 (by omega)]; have := hxs (j + 1) (by simp; omega); rw [show i + (j + 1) = i + 1 + j by omega] at this; simpa using this
          · rw [up_ne1 (by omega)]; exact he c hc
          · show stk.length + 1 ≤ 40; omega
          · rw [hi4]; exact nI_1 _
        · refine r_iload6 dX4_valueOf_110 ?_
          refine rn_goto 121 dX4_valueOf_112 rfl ?_
          have hx0 : 0 ≤ x := Int32.not_lt.mp c107
          rw [if_pos hx0] at hev1
          refine rn_iast stk.length dX4_valueOf_121 hU.2.2.2.2.2 hi4 hl40 (by decide) ?_
          refine r_iinc4 _ dX4_valueOf_122 rfl rfl ?_
          refine rn_goto 387 dX4_valueOf_125 rfl ?_
          refine r_iinc5 _ dX4_valueOf_387 rfl rfl ?_
          refine rn_goto 68 dX4_valueOf_390 rfl ?_
          refine ih (i + 1) (x :: stk) (up iv (q + 4) stk.length (x)) (fun j hj => ?_) (by simp at hE; omega) hev1 (fun c hc => ?_) (pile_push hpile _) ?_ (nI_1 i) ?_ (hoff.trans (off_up rfl)) rfl hv8 hv9 hv10
          · rw [up_ne1 (by omega)]; have := hxs (j + 1) (by simp; omega); rw [show i + (j + 1) = i + 1 + j by omega] at this; simpa using this
          · rw [up_ne1 (by omega)]; exact he c hc
          · show stk.length + 1 ≤ 40; omega
          · rw [hi4]; exact nI_1 _
set_option maxRecDepth 4000 in
theorem ct_valueOf (d : Nat) {q L mt p : Nat} (hU : ShU Γ rv q L) (hL : L ≤ 160) (hMt : IsA Γ mt 20 6) (hmq : mt ≠ q + 4) {x : Int32} (hx : x = nI p) (hp : p < 3) {B E : Nat} (h1 : iv (q + 2) p = nI B) (h2 : iv (q + 2) (p + 1) = nI E) (hEL : E ≤ L) {xs : List Int32} (hxs : ∀ j, j < xs.length → iv (q + 1) (B + j) = xs.getD j 0) (hBE : B + xs.length = E) {e : Nat → Int32} (he : ∀ c, c < 6 → iv mt c = e c) {v : Int32} (hone : OneC e 31 xs v) : Ct g l mX4_valueOf (d) 0 0 [.ref q, .int x, .ref mt] Γ iv rv lv (qCI Γ rv lv (fun z iv' => z = v ∧ Off (fun a _ => a = q + 4) iv iv')) := by
  refine Ct.of (by decide +kernel) (Nat.le_of_ble_eq_true rfl) (Nat.le_of_ble_eq_true rfl) ?_
  subst hx
  refine r_iload1 dX4_valueOf_0 ?_
  refine rn_if_lt 22 dX4_valueOf_1 rfl (fun h => absurd h (nI_pos (by omega))) (fun _ => ?_)
  refine r_iload1 dX4_valueOf_4 ?_
  refine rn_iconst (1) dX4_valueOf_5 (by decide) ?_
  refine rn_iadd dX4_valueOf_6 ?_
  refine r_aload0 dX4_valueOf_7 ?_
  refine gf_X4_24 dX4_valueOf_8 rfl hU.1 hU.2.2.2.1.1 ?_
  refine rn_alen _ dX4_valueOf_11 hU.2.2.2.1.2 (by decide) rfl ?_
  refine rn_icmp_ge 22 dX4_valueOf_12 rfl (fun h => absurd h (by rw [nI_1, nI_leI (by decide) (by omega)]; omega)) (fun _ => ?_)
  refine r_aload2 dX4_valueOf_15 ?_
  refine rn_alen _ dX4_valueOf_16 hMt (by decide) rfl ?_
  refine rn_bipush (6) dX4_valueOf_17 (by decide) ?_
  refine rn_icmp_ge 24 dX4_valueOf_19 rfl (fun _ => ?_) (fun h => absurd (by decide) h)
  refine r_aload0 dX4_valueOf_24 ?_
  refine gf_X4_24 dX4_valueOf_25 rfl hU.1 hU.2.2.2.1.1 ?_
  refine r_iload1 dX4_valueOf_28 ?_
  refine rn_iconst (1) dX4_valueOf_29 (by decide) ?_
  refine rn_iadd dX4_valueOf_30 ?_
  refine rn_iald (p + 1) dX4_valueOf_31 hU.2.2.2.1.2 (nI_1 p) (by omega) (by decide) ?_
  refine r_aload0 dX4_valueOf_32 ?_
  refine gf_X4_21 dX4_valueOf_33 rfl hU.1 hU.2.2.1.1 ?_
  refine rn_alen _ dX4_valueOf_36 hU.2.2.1.2 (by decide) rfl ?_
  refine rn_icmp_ge 51 dX4_valueOf_37 rfl (fun c37 => ?_) (fun c37 => ?_)
  · refine r_aload0 dX4_valueOf_51 ?_
    refine gf_X4_21 dX4_valueOf_52 rfl hU.1 hU.2.2.1.1 ?_
    refine rn_alen _ dX4_valueOf_55 hU.2.2.1.2 (by decide) rfl ?_
    refine rn_eqi (nI E) (by rw [h2] at c37; exact congrArg nI (by have := (nI_leI (by omega) (by omega)).mp c37; omega)) ?_
    refine r_istore3 dX4_valueOf_56 rfl ?_
    refine rn_iconst (0) dX4_valueOf_57 (by decide) ?_
    refine r_istore4 dX4_valueOf_58 rfl ?_
    refine r_aload0 dX4_valueOf_60 ?_
    refine gf_X4_24 dX4_valueOf_61 rfl hU.1 hU.2.2.2.1.1 ?_
    refine r_iload1 dX4_valueOf_64 ?_
    refine rn_iald p dX4_valueOf_65 hU.2.2.2.1.2 rfl (by omega) (by decide) ?_
    refine r_istore5 dX4_valueOf_66 rfl ?_
    exact vo_loop hU hL hMt hmq hEL xs B [] iv hxs hBE (hone [] (by decide)) he (fun j hj => absurd hj (Nat.not_lt_zero _)) (by decide) h1 nI_0.symm Off.refl rfl rfl rfl rfl
  · refine r_aload0 dX4_valueOf_40 ?_
    refine gf_X4_24 dX4_valueOf_41 rfl hU.1 hU.2.2.2.1.1 ?_
    refine r_iload1 dX4_valueOf_44 ?_
    refine rn_iconst (1) dX4_valueOf_45 (by decide) ?_
    refine rn_iadd dX4_valueOf_46 ?_
    refine rn_iald (p + 1) dX4_valueOf_47 hU.2.2.2.1.2 (nI_1 p) (by omega) (by decide) ?_
    refine rn_goto 56 dX4_valueOf_48 rfl ?_
    refine rn_eqi (nI E) h2 ?_
    refine r_istore3 dX4_valueOf_56 rfl ?_
    refine rn_iconst (0) dX4_valueOf_57 (by decide) ?_
    refine r_istore4 dX4_valueOf_58 rfl ?_
    refine r_aload0 dX4_valueOf_60 ?_
    refine gf_X4_24 dX4_valueOf_61 rfl hU.1 hU.2.2.2.1.1 ?_
    refine r_iload1 dX4_valueOf_64 ?_
    refine rn_iald p dX4_valueOf_65 hU.2.2.2.1.2 rfl (by omega) (by decide) ?_
    refine r_istore5 dX4_valueOf_66 rfl ?_
    exact vo_loop hU hL hMt hmq hEL xs B [] iv hxs hBE (hone [] (by decide)) he (fun j hj => absurd hj (Nat.not_lt_zero _)) (by decide) h1 nI_0.symm Off.refl rfl rfl rfl rfl
end RULEV
