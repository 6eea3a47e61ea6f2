/-! RULES of the heap: fields, arrays, ends -/
section HEAPR
variable {g : GS} {l : Launch} {M : MI} {R : Room} {Q : Qt} {k n pc : Nat} {ls st : List Value} {Γ : Sh} {iv : IV} {rv : RV} {lv : LV}
theorem kS {s : State} (hG : GoodG g) (hw : g.s0.WarmedH s.vm) : va_K g.dd vwCl [] s := va_K.moved hw.alike hG.1
theorem cl_lt {ci : Nat} {q : vw_C} (h : vwCl[ci]? = some q) : ci < 8 := (List.getElem?_eq_some_iff.mp h).1
/-- the object's cell -/
theorem obj_at {H : Heap} {i ci : Nat} {q : vw_C} (hR : RepH g Γ iv rv lv H) (hK : IsK Γ i ci) (hc : vwCl[ci]? = some q) : t_OB (rho g i) (g.dd.1 ci) q.2.2 (g.dd.2 ci) H (fun k => cv g (sv (tyc ci k) iv rv lv i k)) := by
  obtain ⟨h1, h2, h3⟩ := hK
  rcases hR.2.2.2 i h1 h2 with ⟨r, a, b⟩ | ⟨a, b, c⟩
  · rw [h3] at a b
    cases hc.symm.trans a
    exact b
  · have := cl_lt hc
    rw [h3] at a
    omega
theorem arr_at {H : Heap} {i c m : Nat} (hR : RepH g Γ iv rv lv H) (hA : IsA Γ i c m) (hc : 20 ≤ c) : H[rho g i]? = some (arrV (g.ac c) m (fun j => cv g (sv (aty c) iv rv lv i j))) ∧ c < 25 := by
  obtain ⟨h1, h2, h3, h4⟩ := hA
  rcases hR.2.2.2 i h1 h2 with ⟨r, a, b⟩ | ⟨a, b, c⟩
  · have := cl_lt a
    rw [h3] at this
    omega
  · rw [h3, h4] at c
    exact ⟨c, h3 ▸ b⟩
theorem rn_iret {v : Int32} (hd : decode M.2.1 pc = .ok (.ireturn, 1)) (hret : M.2.2.2 = some .int) (hk : k ≤ R.cells) (hn : n ≤ R.slots) (hq : Q (some (.int v)) Γ iv rv lv) : Rn g l M R Q k n pc ls [.int v] Γ iv rv lv := by
  intro p e s m args below meth c H locs lsC hG cx hR hlo hls
  obtain ⟨hx, hb, hr, hml, hown, hnm, hts, hlk, hwm⟩ := id cx
  exact W.widen hk hn (W.iret hx hb (hr.trans hret) (fun t ht hW => ⟨some (.int v), Γ, iv, rv, lv, rfl, hq, by rw [ht]; exact hR⟩) hlo hd)
theorem rn_zret {v : Int32} {ty : FieldType} (hd : decode M.2.1 pc = .ok (.ireturn, 1)) (hret : M.2.2.2 = some ty) (hv : narrow ty (.int v) = .int v) (hk : k ≤ R.cells) (hn : n ≤ R.slots) (hq : Q (some (.int v)) Γ iv rv lv) : Rn g l M R Q k n pc ls [.int v] Γ iv rv lv := by
  intro p e s m args below meth c H locs lsC hG cx hR hlo hls
  obtain ⟨hx, hb, hr, hml, hown, hnm, hts, hlk, hwm⟩ := id cx
  exact W.widen hk hn (W.zret hx hb (hr.trans hret) hv (fun t ht hW => ⟨some (.int v), Γ, iv, rv, lv, rfl, hq, by rw [ht]; exact hR⟩) hlo hd)
theorem rn_lret {v : Int64} (hd : decode M.2.1 pc = .ok (.lreturn, 1)) (hret : M.2.2.2 = some .long) (hk : k ≤ R.cells) (hn : n ≤ R.slots) (hq : Q (some (.long v)) Γ iv rv lv) : Rn g l M R Q k n pc ls [.long v] Γ iv rv lv := by
  intro p e s m args below meth c H locs lsC hG cx hR hlo hls
  obtain ⟨hx, hb, hr, hml, hown, hnm, hts, hlk, hwm⟩ := id cx
  exact W.widen hk hn (W.lret hx hb (hr.trans hret) (fun t ht hW => ⟨some (.long v), Γ, iv, rv, lv, rfl, hq, by rw [ht]; exact hR⟩) hlo hd)
theorem rn_vret (hd : decode M.2.1 pc = .ok (.return_, 1)) (hret : M.2.2.2 = none) (hk : k ≤ R.cells) (hn : n ≤ R.slots) (hq : Q none Γ iv rv lv) : Rn g l M R Q k n pc ls [] Γ iv rv lv := by
  intro p e s m args below meth c H locs lsC hG cx hR hlo hls
  obtain ⟨hx, hb, hr, hml, hown, hnm, hts, hlk, hwm⟩ := id cx
  exact W.widen hk hn (W.vret hx hb (hr.trans hret) (fun t ht hW => ⟨none, Γ, iv, rv, lv, rfl, hq, by rw [ht]; exact hR⟩) hlo hd)
theorem rn_aret {i : Nat} {rt : FieldType} (hd : decode M.2.1 pc = .ok (.areturn, 1)) (hret : M.2.2.2 = some rt) (hrt : (∃ n, rt = .object n) ∨ ∃ t, rt = .array t) (hk : k ≤ R.cells) (hn : n ≤ R.slots) (hq : Q (some (.ref i)) Γ iv rv lv) : Rn g l M R Q k n pc ls [.ref i] Γ iv rv lv := by
  intro p e s m args below meth c H locs lsC hG cx hR hlo hls
  obtain ⟨hx, hb, hr, hml, hown, hnm, hts, hlk, hwm⟩ := id cx
  have hv : cv g (.ref i) = .null ∨ ∃ a, cv g (.ref i) = .ref a := by
    by_cases h : i = 0
    · subst h; exact Or.inl rfl
    · exact Or.inr ⟨_, cv_ref g (by omega)⟩
  exact W.widen hk hn (W.aret hx hb (hr.trans hret) hrt hv (fun t ht hW => ⟨some (.ref i), Γ, iv, rv, lv, rfl, hq, by rw [ht]; exact hR⟩) hlo hd)
theorem rn_get {i ci fk index : Nat} {C : String} {T : u_T} {N : Nat} (hd : decode M.2.1 pc = .ok (.getfield index, 3)) (hK : IsK Γ i ci) (hc : vwCl[ci]? = some (C, T, N)) (hin : ∀ w ∈ u_ws C T N, w ∈ gtb) (hkN : fk < N) (hl : Cond.fieldLink M.1.cls index (T fk).1 (T fk).2.1 (T fk).2.2.1 ∈ gtb)
    (kk : Rn g l M R Q k n (pc + 3) ls (sv (tyc ci fk) iv rv lv i fk :: st) Γ iv rv lv) : Rn g l M R Q k n pc ls (.ref i :: st) Γ iv rv lv := by
  intro p e s m args below meth c H locs lsC hG cx hR hlo hls
  have kk := kk p e s m args below meth c H locs lsC hG cx hR hlo hls
  obtain ⟨hx, hb, hr, hml, hown, hnm, hts, hlk, hwm⟩ := id cx
  obtain ⟨cell, q1, q2, q3, q4⟩ := obj_at hR hK hc
  obtain ⟨hS, hfc, kC, hkC, hkind⟩ := (kS hG hwm).1 ci _ hc
  obtain ⟨cf, kf, fi, f, hi, hsl⟩ := hS fk hkN
  rw [List.map_cons, cv_new hK.1]
  refine W.getf hx hb hown (hts _ hl) hi (u_facts hfc hkC (u_lays hts hin hkN) hi).1 q1 (by rw [q3]; exact fun h => by cases h) (v := cv g (sv (tyc ci fk) iv rv lv i fk)) ?_ rfl rfl hd kk
  rw [hsl, q4 fk hkN]
theorem rn_put {i ci fk index : Nat} {C : String} {T : u_T} {N : Nat} {v : Value} {iv' : IV} {rv' : RV} {lv' : LV} {ty0 : Nat → FieldType} (hd : decode M.2.1 pc = .ok (.putfield index, 3)) (hK : IsK Γ i ci) (hc : vwCl[ci]? = some (C, T, N)) (hin : ∀ w ∈ u_ws C T N, w ∈ gtb) (hkN : fk < N) (hl : Cond.fieldLink M.1.cls index (T fk).1 (T fk).2.1 (T fk).2.2.1 ∈ gtb)
    (hty : ∀ k, k < N → parseFieldDescriptor (T k).2.2.1 = some (ty0 k)) (hnm' : ∀ a, a < N → ∀ b, b < N → a ≠ b → (T a).2.1 ≠ (T b).2.1)
    (hfin : (T fk).2.2.2 = false ∨ (M.1.name = "<init>" ∧ (T fk).2.2.2 = true ∧ (T fk).1 = M.1.cls)) (hnar : narrow (ty0 fk) (cv g v) = cv g v) (hfit : fits (ty0 fk) (cv g v) = true)
    (hs : ∀ k, sv (tyc ci k) iv' rv' lv' i k = if k = fk then v else sv (tyc ci k) iv rv lv i k) (h1 : ∀ j k, j ≠ i → iv' j k = iv j k) (h2 : ∀ j k, j ≠ i → rv' j k = rv j k) (h3 : ∀ j k, j ≠ i → lv' j k = lv j k)
    (kk : Rn g l M R Q k n (pc + 3) ls st Γ iv' rv' lv') : Rn g l M R Q k n pc ls (v :: .ref i :: st) Γ iv rv lv := by
  intro p e s m args below meth c H locs lsC hG cx hR hlo hls
  obtain ⟨hx, hb, hr, hml, hown, hnm, hts, hlk, hwm⟩ := id cx
  have hKs := kS hG hwm
  have hap := va_apart (own := M.1.cls) hts hin ty0 hty hnm' hKs hc
  obtain ⟨cell, q1, q2, q3, q4⟩ := obj_at hR hK hc
  obtain ⟨hS, hfc, kC, hkC, hkind⟩ := hKs.1 ci _ hc
  obtain ⟨cf, kf, fi, f, hi, hsl⟩ := hS fk hkN
  have hlay := hts _ (hin _ (u_in_lay hkN))
  have hst := (u_facts hfc hkC (u_lays hts hin hkN) hi).1
  rw [List.map_cons, List.map_cons, cv_new hK.1]
  have fin : ∀ H' : Heap, H'[rho g i]? = some (cell.setSlot f.slot (cv g v)) → H'.size = H.size → (∀ q, q ≠ rho g i → H'[q]? = H[q]?) → W p l e R s m args below meth c H' (locs ++ [⟨rho g i, f.slot⟩]) k n (MQ below (QcA g Q) args s R.cells R.slots (oldA g)) (F0 m (pc + 3) lsC (st.map (cv g))) := by
    intro H' e1 e2 e3
    rw [hsl] at e1
    refine kk p e s m args below meth c H' _ lsC hG cx (hR.put hK.1 e2 e3 ?_ h1 h2 h3) (t_lc hlo (rho_base hK.1)) hls
    refine Or.inl ⟨(C, T, N), by rw [hK.2.2]; exact hc, ?_⟩
    rw [hK.2.2]
    refine t_OB.to (V := updV (fun k => cv g (sv (tyc ci k) iv rv lv i k)) fk (cv g v)) ⟨_, e1, q2, q3, t_set q4 hap hkN _⟩ (fun j _ => ?_)
    rw [hs j]
    unfold updV
    split <;> rfl
  rcases hfin with hfin | ⟨hin2, hfin, hdecl⟩
  · unfold u_lay at hlay
    rw [if_neg (by rw [hfin]; decide)] at hlay
    have h6 := u_store hfc hkC hkind hlay hi (hty fk hkN) hnar hfit
    exact W.putK hx hb (f := f) ⟨hown, hts _ hl, ⟨_, _, _, hi⟩, hst⟩ (by rw [q2]; exact h6) q1 q3 (by rw [hsl]; exact k2_hasslot (q4 fk hkN)) rfl rfl hd fin
  · unfold u_lay at hlay
    rw [if_pos hfin] at hlay
    have hcf : m.cls = cf := by
      obtain ⟨_, _, c', _, _, _, -, -, hf', -, -, -, hown2, -⟩ := Cond.laysFinal_spec hlay
      have e1 : c' = cf := by have := hi.symm.trans hf'; simp at this; exact this.1.symm
      rw [hdecl] at hown2
      rw [← e1]; exact Option.some.inj (hown.symm.trans hown2)
    have h6 := u_fits hfc hkC hkind (Or.inr hlay) hi (hty fk hkN) hnar hfit
    exact W.putFinK hx hb hown (hts _ hl) hi hst hcf ((hnm hin2).trans hin2) (by rw [q2]; exact h6) q1 q3 (by rw [hsl]; exact k2_hasslot (q4 fk hkN)) rfl rfl hd fin
/-- arrays: a place by its number -/
theorem in_of {x : Int32} {q len : Nat} (hj : x = nI q) (hq : q < len) (hl : len < 2 ^ 31) : ¬ (x < 0 ∨ len ≤ x.toNatClampNeg) ∧ x.toNatClampNeg = q := by
  subst hj
  exact ⟨nI_in hq hl, nI_clamp (by omega)⟩
theorem arrOf {s : State} (hG : GoodG g) (hw : g.s0.WarmedH s.vm) {c m : Nat} (h1 : 20 ≤ c) (h2 : c < 25) (z : Nat → Value) : s.isArrayOf (arrV (g.ac c) m z) (aty c) := arrOfT_moved hw.alike (hG.2.1 c h1 h2).1 m z
theorem rn_iald {a len : Nat} {x : Int32} (q : Nat) (hd : decode M.2.1 pc = .ok (.iaload, 1)) (hA : IsA Γ a 20 len) (hj : x = nI q) (hq : q < len) (hl : len < 2 ^ 31) (kk : Rn g l M R Q k n (pc + 1) ls (.int (iv a q) :: st) Γ iv rv lv) : Rn g l M R Q k n pc ls (.int x :: .ref a :: st) Γ iv rv lv := by
  intro p e s m args below meth c H locs lsC hG cx hR hlo hls
  have kk := kk p e s m args below meth c H locs lsC hG cx hR hlo hls
  obtain ⟨hx, hb, hr, hml, hown, hnm, hts, hlk, hwm⟩ := id cx
  obtain ⟨hcell, -⟩ := arr_at hR hA (by omega)
  obtain ⟨hin, hcl⟩ := in_of hj hq hl
  rw [List.map_cons, List.map_cons, cv_new hA.1]
  exact W.iald (v := .int (iv a q)) hx hb hcell (arrOf hG hwm (by omega) (by omega) _) (fun h => by cases h) (by rw [arrV_size]; exact hin) (by rw [hcl]; exact arrV_read _ _ hq) rfl rfl hd kk
theorem rn_zald {a len : Nat} {x : Int32} (q : Nat) (hd : decode M.2.1 pc = .ok (.baload, 1)) (hA : IsA Γ a 21 len) (hj : x = nI q) (hq : q < len) (hl : len < 2 ^ 31) (kk : Rn g l M R Q k n (pc + 1) ls (.int (iv a q) :: st) Γ iv rv lv) : Rn g l M R Q k n pc ls (.int x :: .ref a :: st) Γ iv rv lv := by
  intro p e s m args below meth c H locs lsC hG cx hR hlo hls
  have kk := kk p e s m args below meth c H locs lsC hG cx hR hlo hls
  obtain ⟨hx, hb, hr, hml, hown, hnm, hts, hlk, hwm⟩ := id cx
  obtain ⟨hcell, -⟩ := arr_at hR hA (by omega)
  obtain ⟨hin, hcl⟩ := in_of hj hq hl
  rw [List.map_cons, List.map_cons, cv_new hA.1]
  exact W.zald (v := .int (iv a q)) hx hb hcell (arrOf hG hwm (by omega) (by omega) _) (fun h => by cases h) (by rw [arrV_size]; exact hin) (by rw [hcl]; exact arrV_read _ _ hq) rfl rfl hd kk
theorem rn_aald {a c len : Nat} {x : Int32} (q : Nat) (hd : decode M.2.1 pc = .ok (.aaload, 1)) (hA : IsA Γ a c len) (h23 : c = 23 ∨ c = 24) (hj : x = nI q) (hq : q < len) (hl : len < 2 ^ 31) (kk : Rn g l M R Q k n (pc + 1) ls (.ref (rv a q) :: st) Γ iv rv lv) : Rn g l M R Q k n pc ls (.int x :: .ref a :: st) Γ iv rv lv := by
  intro p e s m args below meth c H locs lsC hG cx hR hlo hls
  have kk := kk p e s m args below meth c H locs lsC hG cx hR hlo hls
  obtain ⟨hx, hb, hr, hml, hown, hnm, hts, hlk, hwm⟩ := id cx
  obtain ⟨hcell, -⟩ := arr_at hR hA (by omega)
  obtain ⟨hin, hcl⟩ := in_of hj hq hl
  rw [List.map_cons, List.map_cons, cv_new hA.1]
  refine W.aald (v := cv g (.ref (rv a q))) hx hb hcell (arrOf hG hwm (by omega) (by omega) _) ?_ (fun h => by cases h) (by rw [arrV_size]; exact hin) (by rw [hcl, arrV_read _ _ hq]; rcases h23 with rfl | rfl <;> rfl) rfl rfl hd kk
  rcases h23 with rfl | rfl <;> rfl
theorem rn_alen {a c len : Nat} (v : Int32) (hd : decode M.2.1 pc = .ok (.arraylength, 1)) (hA : IsA Γ a c len) (hc : 20 ≤ c) (hv : nI len = v) (kk : Rn g l M R Q k n (pc + 1) ls (.int v :: st) Γ iv rv lv) : Rn g l M R Q k n pc ls (.ref a :: st) Γ iv rv lv := by
  intro p e s m args below meth cc H locs lsC hG cx hR hlo hls
  have kk := kk p e s m args below meth cc H locs lsC hG cx hR hlo hls
  obtain ⟨hx, hb, hr, hml, hown, hnm, hts, hlk, hwm⟩ := id cx
  obtain ⟨hcell, h25⟩ := arr_at hR hA hc
  rw [List.map_cons, cv_new hA.1]
  exact W.alen (n := v) hx hb hcell (arrOf hG hwm hc h25 _) (by rw [arrV_size, ← hv]; rfl) rfl rfl hd kk
/-- a store into an array -/
theorem rep_ast {H H' : Heap} {a c len q : Nat} {v : Value} {iv' : IV} {rv' : RV} {lv' : LV} (hR : RepH g Γ iv rv lv H) (hA : IsA Γ a c len) (hc : 20 ≤ c) (h25 : c < 25) (e1 : H'[rho g a]? = some ((arrV (g.ac c) len (fun j => cv g (sv (aty c) iv rv lv a j))).setSlot q (cv g v))) (e2 : H'.size = H.size) (e3 : ∀ z, z ≠ rho g a → H'[z]? = H[z]?)
    (hs : ∀ j, sv (aty c) iv' rv' lv' a j = if j = q then v else sv (aty c) iv rv lv a j) (h1 : ∀ j k, j ≠ a → iv' j k = iv j k) (h2 : ∀ j k, j ≠ a → rv' j k = rv j k) (h3 : ∀ j k, j ≠ a → lv' j k = lv j k) : RepH g Γ iv' rv' lv' H' := by
  refine hR.put hA.1 e2 e3 ?_ h1 h2 h3
  refine Or.inr ⟨by rw [hA.2.2.1]; exact hc, by rw [hA.2.2.1]; exact h25, ?_⟩
  rw [hA.2.2.1, hA.2.2.2, e1, arrV_store]
  congr 2
  funext j
  rw [hs j]
  unfold updV
  split <;> rfl
theorem rn_iast {a len : Nat} {x w : Int32} (q : Nat) (hd : decode M.2.1 pc = .ok (.iastore, 1)) (hA : IsA Γ a 20 len) (hj : x = nI q) (hq : q < len) (hl : len < 2 ^ 31) (kk : Rn g l M R Q k n (pc + 1) ls st Γ (up iv a q w) rv lv) : Rn g l M R Q k n pc ls (.int w :: .int x :: .ref a :: st) Γ iv rv lv := by
  intro p e s m args below meth c H locs lsC hG cx hR hlo hls
  obtain ⟨hx, hb, hr, hml, hown, hnm, hts, hlk, hwm⟩ := id cx
  obtain ⟨hcell, -⟩ := arr_at hR hA (by omega)
  obtain ⟨hin, hcl⟩ := in_of hj hq hl
  rw [List.map_cons, List.map_cons, List.map_cons, cv_new hA.1]
  refine W.iast hx hb hcell (arrOf hG hwm (by omega) (by omega) _) (fun h => by cases h) (by rw [arrV_size]; exact hin) rfl rfl hd (fun H' e1 e2 e3 => ?_)
  rw [hcl] at e1
  refine kk p e s m args below meth c H' _ lsC hG cx (rep_ast (v := .int w) hR hA (by omega) (by omega) e1 e2 e3 (fun j => ?_) (fun j k h => up_ne1 h) (fun _ _ _ => rfl) (fun _ _ _ => rfl)) (t_lc hlo (rho_base hA.1)) hls
  show Value.int (up iv a q w a j) = _
  by_cases h : j = q
  · subst h; rw [up_same, if_pos rfl]
  · rw [up_ne2 h, if_neg h]; rfl
theorem rn_zast {a len : Nat} {x w : Int32} (q : Nat) (hd : decode M.2.1 pc = .ok (.bastore, 1)) (hA : IsA Γ a 21 len) (hj : x = nI q) (hq : q < len) (hl : len < 2 ^ 31) (hw : narrow .boolean (.int w) = .int w) (kk : Rn g l M R Q k n (pc + 1) ls st Γ (up iv a q w) rv lv) : Rn g l M R Q k n pc ls (.int w :: .int x :: .ref a :: st) Γ iv rv lv := by
  intro p e s m args below meth c H locs lsC hG cx hR hlo hls
  obtain ⟨hx, hb, hr, hml, hown, hnm, hts, hlk, hwm⟩ := id cx
  obtain ⟨hcell, -⟩ := arr_at hR hA (by omega)
  obtain ⟨hin, hcl⟩ := in_of hj hq hl
  rw [List.map_cons, List.map_cons, List.map_cons, cv_new hA.1]
  refine W.zast hx hb hcell (arrOf hG hwm (by omega) (by omega) _) (fun h => by cases h) (by rw [arrV_size]; exact hin) rfl rfl hd (fun H' e1 e2 e3 => ?_)
  rw [hcl, hw] at e1
  refine kk p e s m args below meth c H' _ lsC hG cx (rep_ast (v := .int w) hR hA (by omega) (by omega) e1 e2 e3 (fun j => ?_) (fun j k h => up_ne1 h) (fun _ _ _ => rfl) (fun _ _ _ => rfl)) (t_lc hlo (rho_base hA.1)) hls
  show Value.int (up iv a q w a j) = _
  by_cases h : j = q
  · subst h; rw [up_same, if_pos rfl]
  · rw [up_ne2 h, if_neg h]; rfl
end HEAPR
