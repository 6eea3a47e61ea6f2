/-! THE REFERENCE: next(), whole -/
section MNEXT2
variable {g : GS} {l : Launch} {Γ : Sh} {iv : IV} {rv : RV} {lv : LV}
theorem Off.put0 {S : Nat → Nat → Prop} {iv iv1 : IV} {i k : Nat} {x : Int32} (h : Off S iv iv1) (hs : S i k) : Off S iv (up iv1 i k x) := h.trans (off_up hs)
theorem ct_next (d : Nat) (hM : ShM Γ rv) {b : Nat → Int32} {n f : Nat} (hT : TxM iv b n f) (p : Nat) (hp : iv 75 28 = nI p) (hpn : p ≤ n) : Ct g l mX7_next (d + 1) 0 0 [.ref 75] Γ iv rv lv (qLV Γ rv (fun iv' lv' => Off Lx iv iv' ∧ TokM iv' lv' b n (lexS b n p))) := by
  refine Ct.of (by decide +kernel) (Nat.le_of_ble_eq_true rfl) (Nat.le_of_ble_eq_true rfl) ?_
  refine nx_skip hM (n - p + 1) p iv (by omega) hT hp hpn (fun iv1 h1 h2 => ?_)
  have hT1 := hT.off h1 (by decide) (by decide) (fun j h => by cases h.1)
  have hm : Off Lx iv iv1 := h1.mono (fun a b z => by rw [z.1, z.2]; decide)
  have hn160 : n ≤ 160 := hT.2.2.2.2.1
  have hpn1 := (scanTo_le (P := isBl) (b := b) hpn).2
  generalize hs : scanTo isBl b n p = s at h2 hpn1
  refine r_aload0 dX7_next_39 ?_
  refine r_aload0 dX7_next_40 ?_
  refine gf_X7_155 dX7_next_41 rfl hM.1 ?_
  refine pf_X7_161 dX7_next_44 rfl hM.1 ?_
  refine r_aload0 dX7_next_47 ?_
  refine r_aload0 dX7_next_48 ?_
  refine gf_X7_155 dX7_next_49 rfl hM.1 ?_
  refine cpiV1 dX7_next_52 ov_X7_byteAt rfl ml_X7_158 hM.1 rfl (Nat.zero_le _) (Nat.zero_le _) (Nat.zero_le _) (ct_byteAt (iv := up iv1 75 30 (iv1 75 28)) _ hM hT1 s h2 (by omega)) ?_
  refine rn_topi (fun X eX => ?_)
  refine r_istore1 dX7_next_55 rfl ?_
  refine r_aload0 dX7_next_56 ?_
  refine rn_iconst (4) dX7_next_57 (by decide) ?_
  refine pf_X7_164 dX7_next_58 rfl hM.1 ?_
  refine r_iload1 dX7_next_61 ?_
  refine rn_if_ge 81 dX7_next_62 rfl (fun c62 => ?_) (fun c62 => ?_)
  · have hsn : ¬ n ≤ s := fun z => by
      rw [if_neg (by omega)] at eX
      rw [eX] at c62
      exact absurd c62 (by decide)
    rw [if_pos (by omega)] at eX
    subst eX
    refine r_iload1 dX7_next_81 ?_
    refine rn_i2l dX7_next_82 ?_
    refine rn_ldc2 (v := _) dX7_next_83 cl_X7_167 ?_
    refine rn_ldc2 (v := _) dX7_next_86 cl_X7_169 ?_
    refine cpiS3 dX7_next_89 os_X7_in rfl ml_X7_96 (Nat.zero_le _) (Nat.zero_le _) (Nat.zero_le _) (ct_inI _ (a := 97) (b := 122) (by decide) (by decide)) ?_
    refine rn_if_eq 134 dX7_next_92 rfl (fun c92 => ?_) (fun c92 => ?_)
    · refine r_iload1 dX7_next_134 ?_
      refine rn_i2l dX7_next_135 ?_
      refine rn_ldc2 (v := _) dX7_next_136 cl_X7_171 ?_
      refine rn_ldc2 (v := _) dX7_next_139 cl_X7_173 ?_
      refine cpiS3 dX7_next_142 os_X7_in rfl ml_X7_96 (Nat.zero_le _) (Nat.zero_le _) (Nat.zero_le _) (ct_inI _ (a := 48) (b := 57) (by decide) (by decide)) ?_
      refine rn_if_eq 252 dX7_next_145 rfl (fun c145 => ?_) (fun c145 => ?_)
      · refine r_iload1 dX7_next_252 ?_
        refine rn_bipush (40) dX7_next_253 (by decide) ?_
        refine rn_icmp_eq 300 dX7_next_255 rfl (fun c255 => ?_) (fun c255 => ?_)
        · refine r_aload0 dX7_next_300 ?_
          refine rn_iconst (3) dX7_next_301 (by decide) ?_
          refine pf_X7_164 dX7_next_302 rfl hM.1 ?_
          refine r_aload0 dX7_next_305 ?_
          refine r_iload1 dX7_next_306 ?_
          refine rn_i2l dX7_next_307 ?_
          refine pf_X7_175 dX7_next_308 rfl hM.1 ?_
          refine r_aload0 dX7_next_311 ?_
          refine rn_dup dX7_next_312 rfl ?_
          refine gf_X7_155 dX7_next_313 rfl hM.1 ?_
          refine rn_iconst (1) dX7_next_316 (by decide) ?_
          refine rn_iadd dX7_next_317 ?_
          refine pf_X7_155 dX7_next_318 rfl hM.1 ?_
          refine rn_vret dX7_next_321 rfl (Nat.zero_le _) (Nat.zero_le _) ?_
          rw [bI_0] at c92 c145
          have n1 : ¬ isLe (b s) = true := fun z => c92 (of_decide_eq_true z)
          have n2 : ¬ isDg (b s) = true := fun z => c145 (of_decide_eq_true z)
          have hw := sgn_one (Or.inl c255)
          refine ⟨rfl, rfl, rfl, (((hm.put0 (by decide)).put0 (by decide)).put0 (by decide)).put0 (by decide), ?_⟩
          rw [lexS_sign hs hsn n2 n1]
          exact ⟨⟨hpn1, by show s + 1 ≤ n; omega, Nat.le_succ _, fun _ => Nat.lt_succ_self _, fun z => absurd z (by show ¬ sgn (b s) = 13; omega)⟩, h2, Or.inr (Or.inr (Or.inr (Or.inl ⟨rfl, hw, rfl, rfl, by rw [up_same]; show iv1 75 28 + 1 = _; rw [h2]; exact nI_1 s⟩)))⟩
        · refine r_iload1 dX7_next_258 ?_
          refine rn_bipush (41) dX7_next_259 (by decide) ?_
          refine rn_icmp_eq 300 dX7_next_261 rfl (fun c261 => ?_) (fun c261 => ?_)
          · refine r_aload0 dX7_next_300 ?_
            refine rn_iconst (3) dX7_next_301 (by decide) ?_
            refine pf_X7_164 dX7_next_302 rfl hM.1 ?_
            refine r_aload0 dX7_next_305 ?_
            refine r_iload1 dX7_next_306 ?_
            refine rn_i2l dX7_next_307 ?_
            refine pf_X7_175 dX7_next_308 rfl hM.1 ?_
            refine r_aload0 dX7_next_311 ?_
            refine rn_dup dX7_next_312 rfl ?_
            refine gf_X7_155 dX7_next_313 rfl hM.1 ?_
            refine rn_iconst (1) dX7_next_316 (by decide) ?_
            refine rn_iadd dX7_next_317 ?_
            refine pf_X7_155 dX7_next_318 rfl hM.1 ?_
            refine rn_vret dX7_next_321 rfl (Nat.zero_le _) (Nat.zero_le _) ?_
            rw [bI_0] at c92 c145
            have n1 : ¬ isLe (b s) = true := fun z => c92 (of_decide_eq_true z)
            have n2 : ¬ isDg (b s) = true := fun z => c145 (of_decide_eq_true z)
            have hw := sgn_one (Or.inr (Or.inl c261))
            refine ⟨rfl, rfl, rfl, (((hm.put0 (by decide)).put0 (by decide)).put0 (by decide)).put0 (by decide), ?_⟩
            rw [lexS_sign hs hsn n2 n1]
            exact ⟨⟨hpn1, by show s + 1 ≤ n; omega, Nat.le_succ _, fun _ => Nat.lt_succ_self _, fun z => absurd z (by show ¬ sgn (b s) = 13; omega)⟩, h2, Or.inr (Or.inr (Or.inr (Or.inl ⟨rfl, hw, rfl, rfl, by rw [up_same]; show iv1 75 28 + 1 = _; rw [h2]; exact nI_1 s⟩)))⟩
          · refine r_iload1 dX7_next_264 ?_
            refine rn_bipush (59) dX7_next_265 (by decide) ?_
            refine rn_icmp_eq 300 dX7_next_267 rfl (fun c267 => ?_) (fun c267 => ?_)
            · refine r_aload0 dX7_next_300 ?_
              refine rn_iconst (3) dX7_next_301 (by decide) ?_
              refine pf_X7_164 dX7_next_302 rfl hM.1 ?_
              refine r_aload0 dX7_next_305 ?_
              refine r_iload1 dX7_next_306 ?_
              refine rn_i2l dX7_next_307 ?_
              refine pf_X7_175 dX7_next_308 rfl hM.1 ?_
              refine r_aload0 dX7_next_311 ?_
              refine rn_dup dX7_next_312 rfl ?_
              refine gf_X7_155 dX7_next_313 rfl hM.1 ?_
              refine rn_iconst (1) dX7_next_316 (by decide) ?_
              refine rn_iadd dX7_next_317 ?_
              refine pf_X7_155 dX7_next_318 rfl hM.1 ?_
              refine rn_vret dX7_next_321 rfl (Nat.zero_le _) (Nat.zero_le _) ?_
              rw [bI_0] at c92 c145
              have n1 : ¬ isLe (b s) = true := fun z => c92 (of_decide_eq_true z)
              have n2 : ¬ isDg (b s) = true := fun z => c145 (of_decide_eq_true z)
              have hw := sgn_one (Or.inr (Or.inr (Or.inl c267)))
              refine ⟨rfl, rfl, rfl, (((hm.put0 (by decide)).put0 (by decide)).put0 (by decide)).put0 (by decide), ?_⟩
              rw [lexS_sign hs hsn n2 n1]
              exact ⟨⟨hpn1, by show s + 1 ≤ n; omega, Nat.le_succ _, fun _ => Nat.lt_succ_self _, fun z => absurd z (by show ¬ sgn (b s) = 13; omega)⟩, h2, Or.inr (Or.inr (Or.inr (Or.inl ⟨rfl, hw, rfl, rfl, by rw [up_same]; show iv1 75 28 + 1 = _; rw [h2]; exact nI_1 s⟩)))⟩
            · refine r_iload1 dX7_next_270 ?_
              refine rn_bipush (43) dX7_next_271 (by decide) ?_
              refine rn_icmp_eq 300 dX7_next_273 rfl (fun c273 => ?_) (fun c273 => ?_)
              · refine r_aload0 dX7_next_300 ?_
                refine rn_iconst (3) dX7_next_301 (by decide) ?_
                refine pf_X7_164 dX7_next_302 rfl hM.1 ?_
                refine r_aload0 dX7_next_305 ?_
                refine r_iload1 dX7_next_306 ?_
                refine rn_i2l dX7_next_307 ?_
                refine pf_X7_175 dX7_next_308 rfl hM.1 ?_
                refine r_aload0 dX7_next_311 ?_
                refine rn_dup dX7_next_312 rfl ?_
                refine gf_X7_155 dX7_next_313 rfl hM.1 ?_
                refine rn_iconst (1) dX7_next_316 (by decide) ?_
                refine rn_iadd dX7_next_317 ?_
                refine pf_X7_155 dX7_next_318 rfl hM.1 ?_
                refine rn_vret dX7_next_321 rfl (Nat.zero_le _) (Nat.zero_le _) ?_
                rw [bI_0] at c92 c145
                have n1 : ¬ isLe (b s) = true := fun z => c92 (of_decide_eq_true z)
                have n2 : ¬ isDg (b s) = true := fun z => c145 (of_decide_eq_true z)
                have hw := sgn_one (Or.inr (Or.inr (Or.inr (Or.inl c273))))
                refine ⟨rfl, rfl, rfl, (((hm.put0 (by decide)).put0 (by decide)).put0 (by decide)).put0 (by decide), ?_⟩
                rw [lexS_sign hs hsn n2 n1]
                exact ⟨⟨hpn1, by show s + 1 ≤ n; omega, Nat.le_succ _, fun _ => Nat.lt_succ_self _, fun z => absurd z (by show ¬ sgn (b s) = 13; omega)⟩, h2, Or.inr (Or.inr (Or.inr (Or.inl ⟨rfl, hw, rfl, rfl, by rw [up_same]; show iv1 75 28 + 1 = _; rw [h2]; exact nI_1 s⟩)))⟩
              · refine r_iload1 dX7_next_276 ?_
                refine rn_bipush (45) dX7_next_277 (by decide) ?_
                refine rn_icmp_eq 300 dX7_next_279 rfl (fun c279 => ?_) (fun c279 => ?_)
                · refine r_aload0 dX7_next_300 ?_
                  refine rn_iconst (3) dX7_next_301 (by decide) ?_
                  refine pf_X7_164 dX7_next_302 rfl hM.1 ?_
                  refine r_aload0 dX7_next_305 ?_
                  refine r_iload1 dX7_next_306 ?_
                  refine rn_i2l dX7_next_307 ?_
                  refine pf_X7_175 dX7_next_308 rfl hM.1 ?_
                  refine r_aload0 dX7_next_311 ?_
                  refine rn_dup dX7_next_312 rfl ?_
                  refine gf_X7_155 dX7_next_313 rfl hM.1 ?_
                  refine rn_iconst (1) dX7_next_316 (by decide) ?_
                  refine rn_iadd dX7_next_317 ?_
                  refine pf_X7_155 dX7_next_318 rfl hM.1 ?_
                  refine rn_vret dX7_next_321 rfl (Nat.zero_le _) (Nat.zero_le _) ?_
                  rw [bI_0] at c92 c145
                  have n1 : ¬ isLe (b s) = true := fun z => c92 (of_decide_eq_true z)
                  have n2 : ¬ isDg (b s) = true := fun z => c145 (of_decide_eq_true z)
                  have hw := sgn_one (Or.inr (Or.inr (Or.inr (Or.inr (Or.inl c279)))))
                  refine ⟨rfl, rfl, rfl, (((hm.put0 (by decide)).put0 (by decide)).put0 (by decide)).put0 (by decide), ?_⟩
                  rw [lexS_sign hs hsn n2 n1]
                  exact ⟨⟨hpn1, by show s + 1 ≤ n; omega, Nat.le_succ _, fun _ => Nat.lt_succ_self _, fun z => absurd z (by show ¬ sgn (b s) = 13; omega)⟩, h2, Or.inr (Or.inr (Or.inr (Or.inl ⟨rfl, hw, rfl, rfl, by rw [up_same]; show iv1 75 28 + 1 = _; rw [h2]; exact nI_1 s⟩)))⟩
                · refine r_iload1 dX7_next_282 ?_
                  refine rn_bipush (42) dX7_next_283 (by decide) ?_
                  refine rn_icmp_eq 300 dX7_next_285 rfl (fun c285 => ?_) (fun c285 => ?_)
                  · refine r_aload0 dX7_next_300 ?_
                    refine rn_iconst (3) dX7_next_301 (by decide) ?_
                    refine pf_X7_164 dX7_next_302 rfl hM.1 ?_
                    refine r_aload0 dX7_next_305 ?_
                    refine r_iload1 dX7_next_306 ?_
                    refine rn_i2l dX7_next_307 ?_
                    refine pf_X7_175 dX7_next_308 rfl hM.1 ?_
                    refine r_aload0 dX7_next_311 ?_
                    refine rn_dup dX7_next_312 rfl ?_
                    refine gf_X7_155 dX7_next_313 rfl hM.1 ?_
                    refine rn_iconst (1) dX7_next_316 (by decide) ?_
                    refine rn_iadd dX7_next_317 ?_
                    refine pf_X7_155 dX7_next_318 rfl hM.1 ?_
                    refine rn_vret dX7_next_321 rfl (Nat.zero_le _) (Nat.zero_le _) ?_
                    rw [bI_0] at c92 c145
                    have n1 : ¬ isLe (b s) = true := fun z => c92 (of_decide_eq_true z)
                    have n2 : ¬ isDg (b s) = true := fun z => c145 (of_decide_eq_true z)
                    have hw := sgn_one (Or.inr (Or.inr (Or.inr (Or.inr (Or.inr (Or.inl c285))))))
                    refine ⟨rfl, rfl, rfl, (((hm.put0 (by decide)).put0 (by decide)).put0 (by decide)).put0 (by decide), ?_⟩
                    rw [lexS_sign hs hsn n2 n1]
                    exact ⟨⟨hpn1, by show s + 1 ≤ n; omega, Nat.le_succ _, fun _ => Nat.lt_succ_self _, fun z => absurd z (by show ¬ sgn (b s) = 13; omega)⟩, h2, Or.inr (Or.inr (Or.inr (Or.inl ⟨rfl, hw, rfl, rfl, by rw [up_same]; show iv1 75 28 + 1 = _; rw [h2]; exact nI_1 s⟩)))⟩
                  · refine r_iload1 dX7_next_288 ?_
                    refine rn_bipush (60) dX7_next_289 (by decide) ?_
                    refine rn_icmp_eq 300 dX7_next_291 rfl (fun c291 => ?_) (fun c291 => ?_)
                    · refine r_aload0 dX7_next_300 ?_
                      refine rn_iconst (3) dX7_next_301 (by decide) ?_
                      refine pf_X7_164 dX7_next_302 rfl hM.1 ?_
                      refine r_aload0 dX7_next_305 ?_
                      refine r_iload1 dX7_next_306 ?_
                      refine rn_i2l dX7_next_307 ?_
                      refine pf_X7_175 dX7_next_308 rfl hM.1 ?_
                      refine r_aload0 dX7_next_311 ?_
                      refine rn_dup dX7_next_312 rfl ?_
                      refine gf_X7_155 dX7_next_313 rfl hM.1 ?_
                      refine rn_iconst (1) dX7_next_316 (by decide) ?_
                      refine rn_iadd dX7_next_317 ?_
                      refine pf_X7_155 dX7_next_318 rfl hM.1 ?_
                      refine rn_vret dX7_next_321 rfl (Nat.zero_le _) (Nat.zero_le _) ?_
                      rw [bI_0] at c92 c145
                      have n1 : ¬ isLe (b s) = true := fun z => c92 (of_decide_eq_true z)
                      have n2 : ¬ isDg (b s) = true := fun z => c145 (of_decide_eq_true z)
                      have hw := sgn_one (Or.inr (Or.inr (Or.inr (Or.inr (Or.inr (Or.inr (Or.inl c291)))))))
                      refine ⟨rfl, rfl, rfl, (((hm.put0 (by decide)).put0 (by decide)).put0 (by decide)).put0 (by decide), ?_⟩
                      rw [lexS_sign hs hsn n2 n1]
                      exact ⟨⟨hpn1, by show s + 1 ≤ n; omega, Nat.le_succ _, fun _ => Nat.lt_succ_self _, fun z => absurd z (by show ¬ sgn (b s) = 13; omega)⟩, h2, Or.inr (Or.inr (Or.inr (Or.inl ⟨rfl, hw, rfl, rfl, by rw [up_same]; show iv1 75 28 + 1 = _; rw [h2]; exact nI_1 s⟩)))⟩
                    · refine r_iload1 dX7_next_294 ?_
                      refine rn_bipush (61) dX7_next_295 (by decide) ?_
                      refine rn_icmp_ne 321 dX7_next_297 rfl (fun c297 => ?_) (fun c297 => ?_)
                      · refine rn_vret dX7_next_321 rfl (Nat.zero_le _) (Nat.zero_le _) ?_
                        rw [bI_0] at c92 c145
                        have n1 : ¬ isLe (b s) = true := fun z => c92 (of_decide_eq_true z)
                        have n2 : ¬ isDg (b s) = true := fun z => c145 (of_decide_eq_true z)
                        have hw := sgn_wrong c255 c261 c267 c273 c279 c285 c291 c297
                        refine ⟨rfl, rfl, rfl, (hm.put0 (by decide)).put0 (by decide), ?_⟩
                        rw [lexS_sign hs hsn n2 n1, hw]
                        exact ⟨⟨hpn1, by show s + 1 ≤ n; omega, Nat.le_succ _, fun _ => Nat.lt_succ_self _, fun z => absurd z (show ¬ (14 : Nat) = 13 by decide)⟩, h2, Or.inr (Or.inr (Or.inr (Or.inr ⟨rfl, rfl⟩)))⟩
                      · refine r_aload0 dX7_next_300 ?_
                        refine rn_iconst (3) dX7_next_301 (by decide) ?_
                        refine pf_X7_164 dX7_next_302 rfl hM.1 ?_
                        refine r_aload0 dX7_next_305 ?_
                        refine r_iload1 dX7_next_306 ?_
                        refine rn_i2l dX7_next_307 ?_
                        refine pf_X7_175 dX7_next_308 rfl hM.1 ?_
                        refine r_aload0 dX7_next_311 ?_
                        refine rn_dup dX7_next_312 rfl ?_
                        refine gf_X7_155 dX7_next_313 rfl hM.1 ?_
                        refine rn_iconst (1) dX7_next_316 (by decide) ?_
                        refine rn_iadd dX7_next_317 ?_
                        refine pf_X7_155 dX7_next_318 rfl hM.1 ?_
                        refine rn_vret dX7_next_321 rfl (Nat.zero_le _) (Nat.zero_le _) ?_
                        rw [bI_0] at c92 c145
                        have n1 : ¬ isLe (b s) = true := fun z => c92 (of_decide_eq_true z)
                        have n2 : ¬ isDg (b s) = true := fun z => c145 (of_decide_eq_true z)
                        have hw := sgn_one (Or.inr (Or.inr (Or.inr (Or.inr (Or.inr (Or.inr (Or.inr (c297))))))))
                        refine ⟨rfl, rfl, rfl, (((hm.put0 (by decide)).put0 (by decide)).put0 (by decide)).put0 (by decide), ?_⟩
                        rw [lexS_sign hs hsn n2 n1]
                        exact ⟨⟨hpn1, by show s + 1 ≤ n; omega, Nat.le_succ _, fun _ => Nat.lt_succ_self _, fun z => absurd z (by show ¬ sgn (b s) = 13; omega)⟩, h2, Or.inr (Or.inr (Or.inr (Or.inl ⟨rfl, hw, rfl, rfl, by rw [up_same]; show iv1 75 28 + 1 = _; rw [h2]; exact nI_1 s⟩)))⟩
      · refine r_aload0 dX7_next_148 ?_
        refine rn_iconst (2) dX7_next_149 (by decide) ?_
        refine pf_X7_164 dX7_next_150 rfl hM.1 ?_
        refine r_aload0 dX7_next_153 ?_
        refine rn_lconst (0) dX7_next_154 (by decide) ?_
        refine pf_X7_175 dX7_next_155 rfl hM.1 ?_
        refine rn_iconst (0) dX7_next_158 (by decide) ?_
        refine r_istore2 dX7_next_159 rfl ?_
        have c145 := isDg_iff.mpr c145
        refine nx_num hM (n - s + 1) s 0 (up (up (up iv1 75 30 (iv1 75 28)) 75 29 4) 75 29 2) (up lv 75 31 0) (by omega) hT1 h2 hpn1 rfl nI_0.symm (fun _ => ⟨0, by decide, rfl, (up_same _ _ _ _).trans (by decide)⟩) (fun iv3 lv3 c h3 h4 h5 h6 => ?_)
        have hle := scanTo_le (P := isDg) (b := b) (n := n) (p := s + 1) (by omega)
        rw [← scanTo_go (by omega) c145, h4] at hle
        have hlx := (((hm.put0 (k := 30) (x := iv1 75 28) (by decide)).put0 (k := 29) (x := 4) (by decide)).put0 (k := 29) (x := 2) (by decide)).trans (h3.mono (fun a b z => by rw [z.1, z.2]; decide))
        have e30 : iv3 75 30 = nI s := (h3 75 30 (by decide)).trans h2
        refine r_aload0 dX7_next_235 ?_
        refine r_iload2 dX7_next_236 ?_
        refine rn_iconst (4) dX7_next_237 (by decide) ?_
        refine rn_icmp_le 245 dX7_next_238 rfl (fun c238 => ?_) (fun c238 => ?_)
        · refine rn_iconst (2) dX7_next_245 (by decide) ?_
          refine pf_X7_164 dX7_next_246 rfl hM.1 ?_
          refine rn_goto 321 dX7_next_249 rfl ?_
          refine rn_vret dX7_next_321 rfl (Nat.zero_le _) (Nat.zero_le _) ?_
          refine ⟨rfl, rfl, rfl, hlx.put0 (by decide), ?_⟩
          rw [lexS_num hs hsn c145, h4, show s + c - s = c by omega]
          rw [show (4 : Int32) = nI 4 by decide, nI_leI (by omega) (by decide)] at c238
          obtain ⟨v, hv0, hv1, hv2⟩ := h6 c238
          rw [if_pos c238]
          exact ⟨⟨hpn1, hle.2, by show s ≤ s + c; omega, fun _ => by show s < s + c; omega, fun z => absurd z (show ¬ (12 : Nat) = 13 by decide)⟩, e30, Or.inr (Or.inl ⟨rfl, rfl, by rw [hv1, nI_l (Nat.lt_of_lt_of_le hv0 (Nat.le_trans (Nat.pow_le_pow_right (by decide) c238) (by decide)))]; exact hv2, h5⟩)⟩
        · refine rn_iconst (4) dX7_next_241 (by decide) ?_
          refine rn_goto 246 dX7_next_242 rfl ?_
          refine pf_X7_164 dX7_next_246 rfl hM.1 ?_
          refine rn_goto 321 dX7_next_249 rfl ?_
          refine rn_vret dX7_next_321 rfl (Nat.zero_le _) (Nat.zero_le _) ?_
          refine ⟨rfl, rfl, rfl, hlx.put0 (by decide), ?_⟩
          rw [lexS_num hs hsn c145, h4, show s + c - s = c by omega]
          rw [show (4 : Int32) = nI 4 by decide, nI_leI (by omega) (by decide)] at c238
          rw [if_neg c238]
          exact ⟨⟨hpn1, hle.2, by show s ≤ s + c; omega, fun _ => by show s < s + c; omega, fun z => absurd z (show ¬ (14 : Nat) = 13 by decide)⟩, e30, Or.inr (Or.inr (Or.inr (Or.inr ⟨rfl, rfl⟩)))⟩
    · refine r_aload0 dX7_next_95 ?_
      refine rn_iconst (1) dX7_next_96 (by decide) ?_
      refine pf_X7_164 dX7_next_97 rfl hM.1 ?_
      have c92 := isLe_iff.mpr c92
      refine nx_word hM (n - s + 1) s _ (by omega) hT1 h2 hpn1 (fun iv3 h3 h4 => ?_)
      refine rn_vret dX7_next_321 rfl (Nat.zero_le _) (Nat.zero_le _) ?_
      refine ⟨rfl, rfl, rfl, (((hm.put0 (by decide)).put0 (by decide)).put0 (by decide)).trans (h3.mono (fun a b z => by rw [z.1, z.2]; decide)), ?_⟩
      rw [lexS_word hs hsn (le_not_dg c92) c92]
      have hle := scanTo_le (P := isLe) (b := b) (n := n) (p := s + 1) (by omega)
      rw [← scanTo_go (by omega) c92] at hle
      exact ⟨⟨hpn1, hle.2, by show s ≤ scanTo isLe b n s; omega, fun _ => by show s < scanTo isLe b n s; omega, fun z => absurd z (wcode_ne _).1⟩, (h3 75 30 (by decide)).trans h2, Or.inr (Or.inr (Or.inl ⟨rfl, h3 75 29 (by decide), h4, fun j h5 h6 => scanTo_all (n - s) s rfl j h5 h6⟩))⟩
  · refine r_aload0 dX7_next_65 ?_
    refine rn_iconst (0) dX7_next_66 (by decide) ?_
    refine pf_X7_164 dX7_next_67 rfl hM.1 ?_
    refine r_aload0 dX7_next_70 ?_
    refine r_aload0 dX7_next_71 ?_
    refine gf_X7_149 dX7_next_72 rfl hM.1 ?_
    refine pf_X7_161 dX7_next_75 rfl hM.1 ?_
    refine rn_goto 321 dX7_next_78 rfl ?_
    refine rn_vret dX7_next_321 rfl (Nat.zero_le _) (Nat.zero_le _) ?_
    have hsn : n ≤ s := by
      rcases Nat.lt_or_ge s n with z | z
      · rw [if_pos z] at eX
        have := (hT1.2.2.2.2.2 s z).1
        rw [eX] at c62
        exact absurd this c62
      · exact z
    refine ⟨rfl, rfl, rfl, (((hm.put0 (by decide)).put0 (by decide)).put0 (by decide)).put0 (by decide), ?_⟩
    rw [lexS_end hs hsn]
    have e : s = n := by omega
    subst e
    exact ⟨⟨Nat.le_refl _, Nat.le_refl _, Nat.le_refl _, fun z => absurd rfl z, fun _ => ⟨rfl, rfl⟩⟩, hT1.1, Or.inl ⟨rfl, rfl, h2⟩⟩
end MNEXT2
