/-! RULES of the texts that are constants -/
section STRR
variable {g : GS} {l : Launch} {M M' : MI} {R : Room} {Q Qc : Qt} {k n pc : Nat} {ls st : List Value} {Γ : Sh} {iv : IV} {rv : RV} {lv : LV}
theorem rn_ldcS {index i : Nat} (hd : decode M.2.1 pc = .ok (.ldc index, 2)) (hi : 0 < i ∧ i < K0) (hZ : ∀ g : GS, GoodG g → ∃ tx, vk_R M.1.cls index tx (g.ro i) g.s0) (kk : Rn g l M R Q k n (pc + 2) ls (.ref i :: st) Γ iv rv lv) : Rn g l M R Q k n pc ls st Γ iv rv lv := by
  intro p e s m args below meth c H locs lsC hG cx hR hlo' hls
  have kk := kk p e s m args below meth c H locs lsC hG cx hR hlo' hls
  obtain ⟨hx, hb, hr, hml, hown, hnm, hts, hlk, hwm⟩ := id cx
  obtain ⟨tx, hz⟩ := hZ g hG
  rw [List.map_cons, cv_ref g hi.1, rho_old hi.2] at kk
  exact va_ldcS hx hb hown (hz.warm hwm) hd kk
theorem str_old {i j : Nat} (h : i = 7 + 2 * j) (hj : j < 3) : 0 < i ∧ i < K0 ∧ i + 1 = 8 + 2 * j ∧ i + 1 < K0 := by
  have : K0 = 14 := rfl
  omega
theorem rn_getOC {index i : Nat} (j : Nat) (hij : i = 7 + 2 * j) (hj : j < 3) (hd : decode M.2.1 pc = .ok (.getfield index, 3)) (hl : Cond.fieldLink M.1.cls index "java/lang/String" "coder" "B" ∈ gtb) (kk : Rn g l M R Q k n (pc + 3) ls (.int 0 :: st) Γ iv rv lv) : Rn g l M R Q k n pc ls (.ref i :: st) Γ iv rv lv := by
  intro p e s m args below meth c H locs lsC hG cx hR hlo' hls
  have kk := kk p e s m args below meth c H locs lsC hG cx hR hlo' hls
  obtain ⟨hx, hb, hr, hml, hown, hnm, hts, hlk, hwm⟩ := id cx
  obtain ⟨i1, i2, i3, i4⟩ := str_old hij hj
  obtain ⟨cf, k', fi, f, cell, h1, h2, h3, h4, h5, h6⟩ := (hG.2.2.2.2.2.1 j hj).2.1.moved hwm.alike
  rw [List.map_cons, cv_ref g i1, rho_old i2, hij]
  exact W.getf hx hb hown (hts _ hl) h1 h2 (by rw [hR.2.2.1 _ (Nat.not_le.mp h6)]; exact h3) h4 (v := .int 0) h5 rfl rfl hd kk
theorem rn_getOV {index i : Nat} (j : Nat) (hij : i = 7 + 2 * j) (hj : j < 3) (hd : decode M.2.1 pc = .ok (.getfield index, 3)) (hl : Cond.fieldLink M.1.cls index "java/lang/String" "value" "[B" ∈ gtb) (kk : Rn g l M R Q k n (pc + 3) ls (.ref (i + 1) :: st) Γ iv rv lv) : Rn g l M R Q k n pc ls (.ref i :: st) Γ iv rv lv := by
  intro p e s m args below meth c H locs lsC hG cx hR hlo' hls
  have kk := kk p e s m args below meth c H locs lsC hG cx hR hlo' hls
  obtain ⟨hx, hb, hr, hml, hown, hnm, hts, hlk, hwm⟩ := id cx
  obtain ⟨i1, i2, i3, i4⟩ := str_old hij hj
  obtain ⟨cf, k', fi, f, cell, h1, h2, h3, h4, h5, h6⟩ := (hG.2.2.2.2.2.1 j hj).2.2.1.moved hwm.alike
  rw [List.map_cons, cv_ref g (by omega), rho_old i4, i3] at kk
  rw [List.map_cons, cv_ref g i1, rho_old i2, hij]
  exact W.getf hx hb hown (hts _ hl) h1 h2 (by rw [hR.2.2.1 _ (Nat.not_le.mp h6)]; exact h3) h4 (v := .ref (g.ro (8 + 2 * j))) h5 rfl rfl hd kk
theorem rn_alenB {i : Nat} (j : Nat) (hij : i = 8 + 2 * j) (hj : j < 3) (v : Int32) (hv : nI (oln0 i) = v) (hd : decode M.2.1 pc = .ok (.arraylength, 1)) (kk : Rn g l M R Q k n (pc + 1) ls (.int v :: st) Γ iv rv lv) : Rn g l M R Q k n pc ls (.ref i :: st) Γ iv rv lv := by
  intro p e s m args below meth c H locs lsC hG cx hR hlo' hls
  have kk := kk p e s m args below meth c H locs lsC hG cx hR hlo' hls
  obtain ⟨hx, hb, hr, hml, hown, hnm, hts, hlk, hwm⟩ := id cx
  obtain ⟨cell, h1, h2, h3, h4, h5, h6, h7⟩ := (hG.2.2.2.2.2.1 j hj).2.2.2
  have : K0 = 14 := rfl
  rw [List.map_cons, cv_ref g (by omega), rho_old (by omega), hij]
  exact W.alen (n := v) hx hb (by rw [hR.2.2.1 _ (Nat.not_le.mp h7)]; exact h1) (State.isArrayOf_alike hwm.alike h2) (by rw [h5, ← hv, hij]; rfl) rfl rfl hd kk
theorem rn_baldO {i : Nat} {x : Int32} (j : Nat) (hij : i = 8 + 2 * j) (hj : j < 3) (q : Nat) (hd : decode M.2.1 pc = .ok (.baload, 1)) (hx' : x = nI q) (hq : q < oln0 i) (kk : Rn g l M R Q k n (pc + 1) ls (.int (oiv0 i q) :: st) Γ iv rv lv) : Rn g l M R Q k n pc ls (.int x :: .ref i :: st) Γ iv rv lv := by
  intro p e s m args below meth c H locs lsC hG cx hR hlo' hls
  have kk := kk p e s m args below meth c H locs lsC hG cx hR hlo' hls
  obtain ⟨hx, hb, hr, hml, hown, hnm, hts, hlk, hwm⟩ := id cx
  obtain ⟨cell, h1, h2, h3, h4, h5, h6, h7⟩ := (hG.2.2.2.2.2.1 j hj).2.2.2
  have : K0 = 14 := rfl
  subst hij
  have hl : oln0 (8 + 2 * j) < 2 ^ 31 := by
    have : ∀ j, j < 3 → oln0 (8 + 2 * j) < 2 ^ 31 := by decide +kernel
    exact this j hj
  obtain ⟨hin, hcl⟩ := in_of hx' hq hl
  rw [List.map_cons, List.map_cons, cv_ref g (by omega), rho_old (by omega)]
  exact W.bald (v := .int (oiv0 (8 + 2 * j) q)) hx hb (by rw [hR.2.2.1 _ (Nat.not_le.mp h7)]; exact h1) (State.isArrayOf_alike hwm.alike h2) h3 (fun h => hin (h.imp id (fun z => Nat.le_trans h4 z))) (by rw [hcl]; exact h6 q hq) rfl rfl hd kk
theorem rn_callVO {b j np d' mc ms index : Nat} {As : List Value} (hd : decode M.2.1 pc = .ok (.invokevirtual index, 3)) (ok : OkV M' np) (hl : (Cond.methodLink M.1.cls index M'.1) ∈ gtb) (hij : b = 7 + 2 * j) (hj : j < 3) (hc : M'.1.cls = "java/lang/String") (hn : As.length = np) (hst : (st.map fun v => v.category).sum ≤ 8)
    (hf : d' + 1 ≤ R.frames) (hlo : 100 * d' + 100 ≤ R.locals) (hk : k + mc ≤ R.cells) (hs : n + ms ≤ R.slots) (hct : Ct g l M' d' mc ms (.ref b :: As) Γ iv rv lv Qc)
    (kk : ∀ r Γ' iv' rv' lv', Qc r Γ' iv' rv' lv' → Rn g l M R Q (k + mc) (n + ms) (pc + 3) ls (r.toList ++ st) Γ' iv' rv' lv') : Rn g l M R Q k n pc ls (As.reverse ++ .ref b :: st) Γ iv rv lv := by
  intro p e s m args below meth c H locs lsC hG cx hR hlo' hls
  obtain ⟨hx, hb, hr, hml, hown, hnm, hts, hlk, hwm⟩ := id cx
  obtain ⟨i1, i2, i3, i4⟩ := str_old hij hj
  obtain ⟨cell, q1, q2, q3, q4⟩ := (hG.2.2.2.2.2.1 j hj).1.moved hwm.alike
  rw [← hij] at q1 q4
  have h2 := pcA_at (as := .ref b :: As) hwm hR
  have e0 : cv g (.ref b) = .ref (g.ro b) := by rw [cv_ref g i1, rho_old i2]
  have e1 : (Value.ref b :: As).map (cv g) = .ref (g.ro b) :: As.map (cv g) := by rw [List.map_cons, e0]
  rw [e1] at h2
  refine ofRun (a := (Value.ref (g.ro b) :: As.map (cv g)).toArray) (mc := mc) (ms := ms) (va_runV (As := As.map (cv g)) (b := g.ro b) (C := M'.1.cls) (n := np) (bytes := M'.2.1) (maxL := M'.2.2.1) (ret := M'.2.2.2) ⟨hx, hb, hml, hown, hts⟩ (hct hG) ⟨callB_A hts ok.1 hl hf hlo, hts _ ok.2.1, hts _ ok.2.2⟩ ⟨pcA_blind, ⟨cell, by rw [hR.2.2.1 _ (Nat.not_le.mp q4)]; exact q1, q2, by rw [hc]; exact q3⟩, h2⟩ rfl (by rw [List.length_map]; exact hn) hls.1 ?_ ?_ hd ⟨hk, hs⟩) hG cx hlo' hls kk
  · show List.map (cv g) _ = _
    rw [List.map_append, List.map_reverse, List.map_cons, e0]
  · exact lv_room (by rw [cat_map]; exact hst)
theorem cpiO0 {d mc ms b j index : Nat} {own : String} {x : Int32} (hd : decode M.2.1 pc = .ok (.invokevirtual index, 3)) (ok : OkV M' 0) (hM : M.1.cls = own) (hl : (Cond.methodLink own index M'.1) ∈ gtb) (hij : b = 7 + 2 * j) (hj : j < 3) (hc : M'.1.cls = "java/lang/String") (hst : (st.map fun v => v.category).sum ≤ 8) (hk : k ≤ mc) (hs : n ≤ ms) (hct : Ct g l M' d 0 0 [.ref b] Γ iv rv lv (qPI x Γ iv rv lv)) (kk : Rn g l M (rmA (d + 1) mc ms) Q k n (pc + 3) ls (.int x :: st) Γ iv rv lv) : Rn g l M (rmA (d + 1) mc ms) Q k n pc ls (.ref b :: st) Γ iv rv lv :=
  rn_callVO (As := []) (mc := 0) (ms := 0) hd ok (by rw [hM]; exact hl) hij hj hc rfl hst (Nat.le_refl _) (Nat.le_refl _) hk hs hct (by rintro _ _ _ _ _ ⟨rfl, rfl, rfl, rfl, rfl⟩; exact kk)
theorem cpiO1 {d mc ms b j index : Nat} {own : String} {v1 : Value} {x : Int32} (hd : decode M.2.1 pc = .ok (.invokevirtual index, 3)) (ok : OkV M' 1) (hM : M.1.cls = own) (hl : (Cond.methodLink own index M'.1) ∈ gtb) (hij : b = 7 + 2 * j) (hj : j < 3) (hc : M'.1.cls = "java/lang/String") (hst : (st.map fun v => v.category).sum ≤ 8) (hk : k ≤ mc) (hs : n ≤ ms) (hct : Ct g l M' d 0 0 [.ref b, v1] Γ iv rv lv (qPI x Γ iv rv lv)) (kk : Rn g l M (rmA (d + 1) mc ms) Q k n (pc + 3) ls (.int x :: st) Γ iv rv lv) : Rn g l M (rmA (d + 1) mc ms) Q k n pc ls (v1 :: .ref b :: st) Γ iv rv lv :=
  rn_callVO (As := [v1]) (mc := 0) (ms := 0) hd ok (by rw [hM]; exact hl) hij hj hc rfl hst (Nat.le_refl _) (Nat.le_refl _) hk hs hct (by rintro _ _ _ _ _ ⟨rfl, rfl, rfl, rfl, rfl⟩; exact kk)
theorem cpiO2 {d mc ms b j index : Nat} {own : String} {v1 v2 : Value} {x : Int32} (hd : decode M.2.1 pc = .ok (.invokevirtual index, 3)) (ok : OkV M' 2) (hM : M.1.cls = own) (hl : (Cond.methodLink own index M'.1) ∈ gtb) (hij : b = 7 + 2 * j) (hj : j < 3) (hc : M'.1.cls = "java/lang/String") (hst : (st.map fun v => v.category).sum ≤ 8) (hk : k ≤ mc) (hs : n ≤ ms) (hct : Ct g l M' d 0 0 [.ref b, v1, v2] Γ iv rv lv (qPI x Γ iv rv lv)) (kk : Rn g l M (rmA (d + 1) mc ms) Q k n (pc + 3) ls (.int x :: st) Γ iv rv lv) : Rn g l M (rmA (d + 1) mc ms) Q k n pc ls (v2 :: v1 :: .ref b :: st) Γ iv rv lv :=
  rn_callVO (As := [v1, v2]) (mc := 0) (ms := 0) hd ok (by rw [hM]; exact hl) hij hj hc rfl hst (Nat.le_refl _) (Nat.le_refl _) hk hs hct (by rintro _ _ _ _ _ ⟨rfl, rfl, rfl, rfl, rfl⟩; exact kk)
end STRR
