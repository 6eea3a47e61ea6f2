/-! RULES of new cells, copies, texts -/
def alo (Γ : Sh) (c len : Nat) : Sh := (Γ.1 + 1, up1 Γ.2.1 Γ.1 c, up1 Γ.2.2 Γ.1 len)
def cpy (iv : IV) (src sp dst dp n : Nat) : IV := fun a b => if a = dst ∧ dp ≤ b ∧ b < dp + n then iv src (sp + (b - dp)) else iv a b
section MAKER
variable {g : GS} {l : Launch} {M M' : MI} {R : Room} {Q Qc : Qt} {k n pc : Nat} {ls st : List Value} {Γ : Sh} {iv : IV} {rv : RV} {lv : LV}
theorem alo_k {c len i : Nat} (h : i ≠ Γ.1) : (alo Γ c len).2.1 i = Γ.2.1 i := if_neg h
theorem alo_l {c len i : Nat} (h : i ≠ Γ.1) : (alo Γ c len).2.2 i = Γ.2.2 i := if_neg h
theorem alo_kn {c len : Nat} : (alo Γ c len).2.1 Γ.1 = c := if_pos rfl
theorem alo_ln {c len : Nat} : (alo Γ c len).2.2 Γ.1 = len := if_pos rfl
theorem isK_alo {i c c' len : Nat} (h : IsK Γ i c) : IsK (alo Γ c' len) i c := ⟨h.1, Nat.lt_succ_of_lt h.2.1, by rw [alo_k (Nat.ne_of_lt h.2.1)]; exact h.2.2⟩
theorem isA_alo {i c m c' len : Nat} (h : IsA Γ i c m) : IsA (alo Γ c' len) i c m := ⟨h.1, Nat.lt_succ_of_lt h.2.1, by rw [alo_k (Nat.ne_of_lt h.2.1)]; exact h.2.2.1, by rw [alo_l (Nat.ne_of_lt h.2.1)]; exact h.2.2.2⟩
theorem isK_new {c len : Nat} (h : K0 ≤ Γ.1) : IsK (alo Γ c len) Γ.1 c := ⟨h, Nat.lt_succ_self _, alo_kn⟩
theorem isA_new {c len : Nat} (h : K0 ≤ Γ.1) : IsA (alo Γ c len) Γ.1 c len := ⟨h, Nat.lt_succ_self _, alo_kn, alo_ln⟩
theorem cellOK.sh {Γ' : Sh} {H : Heap} {j : Nat} (h : cellOK g Γ iv rv lv H j) (h1 : Γ'.2.1 j = Γ.2.1 j) (h2 : Γ'.2.2 j = Γ.2.2 j) : cellOK g Γ' iv rv lv H j := by
  unfold cellOK at h ⊢
  rw [h1, h2]
  exact h
theorem clr_ne {α : Type} {f : Nat → Nat → α} {i a b : Nat} {z : α} (h : a ≠ i) : clr f i z a b = f a b := if_neg h
theorem clr_same {α : Type} (f : Nat → Nat → α) (i b : Nat) (z : α) : clr f i z i b = z := if_pos rfl
theorem RepH.alloc {H H' : Heap} {c len : Nat} {iv' : IV} {rv' : RV} {lv' : LV} (h : RepH g Γ iv rv lv H) (hz : H'.size = H.size + 1) (ho : ∀ q : Nat, q < H.size → H'[q]? = H[q]?) (hc : cellOK g (alo Γ c len) iv' rv' lv' H' Γ.1)
    (h1 : ∀ j k, j ≠ Γ.1 → iv' j k = iv j k) (h2 : ∀ j k, j ≠ Γ.1 → rv' j k = rv j k) (h3 : ∀ j k, j ≠ Γ.1 → lv' j k = lv j k) : RepH g (alo Γ c len) iv' rv' lv' H' := by
  obtain ⟨a, b, c, d⟩ := h
  refine ⟨by show K0 ≤ Γ.1 + 1; omega, by rw [hz, b]; show _ = gbase g + (Γ.1 + 1 - K0); omega, fun q hq => by rw [ho q (by omega)]; exact c q hq, fun j hj hn => ?_⟩
  by_cases e : j = Γ.1
  · subst e; exact hc
  · have hlt : j < Γ.1 := by have : j < Γ.1 + 1 := hn; omega
    exact ((d j hj hlt).off (ho _ (by rw [rho_new hj, b]; omega)) (fun k => h1 j k e) (fun k => h2 j k e) (fun k => h3 j k e)).sh (alo_k e) (alo_l e)
theorem rep_size {H : Heap} (h : RepH g Γ iv rv lv H) : rho g Γ.1 = H.size := by rw [rho_new h.1, h.2.1]
theorem rep_k0 {H : Heap} (h : RepH g Γ iv rv lv H) : K0 ≤ Γ.1 := h.1
theorem sv_zero {ty : FieldType} {i k : Nat} : cv g (sv ty (clr iv i 0) (clr rv i 0) (clr lv i 0) i k) = defaultValue ty ∨ ty = .float ∨ ty = .double := by
  cases ty <;> first | (right; left; rfl) | (right; right; rfl) | (left; simp only [sv, clr_same]; rfl)
theorem rn_new {ci index : Nat} {C : String} {T : u_T} {N : Nat} {ty0 : Nat → FieldType} (hd : decode M.2.1 pc = .ok (.new index, 3)) (hc : vwCl[ci]? = some (C, T, N)) (hin : ∀ w ∈ u_ws C T N, w ∈ gtb) (hty : ∀ k, k < N → parseFieldDescriptor (T k).2.2.1 = some (ty0 k)) (hte : ∀ k, k < N → ty0 k = tyc ci k ∧ ty0 k ≠ .float ∧ ty0 k ≠ .double)
    (hcl : Cond.classLink M.1.cls index C ∈ gtb) (hins : Cond.instantiable C N ∈ gtb) (hini : Cond.initialized C ∈ gtb) (hk : k + 1 ≤ R.cells) (hs : n + N ≤ R.slots)
    (kk : K0 ≤ Γ.1 → Rn g l M R Q (k + 1) (n + N) (pc + 3) ls (.ref Γ.1 :: st) (alo Γ ci 0) (clr iv Γ.1 0) (clr rv Γ.1 0) (clr lv Γ.1 0)) : Rn g l M R Q k n pc ls st Γ iv rv lv := by
  intro p e s m args below meth c H locs lsC hG cx hR hlo hls
  obtain ⟨hx, hb, hr, hml, hown, hnm, hts, hlk, hwm⟩ := id cx
  have hKn := (kS hG hwm).1 ci _ hc
  refine W.newcK hx hb hown (hts _ hcl) (hts _ hins) (hts _ hini) rfl hd hk hs hKn.2.1 rfl fun H1 kC hkC e1 z1 o1 => ?_
  have kk := kk hR.1 p e s m args below meth c H1 locs lsC hG cx (hR.alloc z1 o1 ?_ (fun j k h => clr_ne h) (fun j k h => clr_ne h) (fun j k h => clr_ne h)) hlo hls
  · rw [List.map_cons, cv_new hR.1, rep_size hR] at kk
    exact kk
  · refine Or.inl ⟨(C, T, N), by rw [alo_kn]; exact hc, ?_⟩
    rw [alo_kn, rep_size hR]
    refine (u_born ty0 hts hin hKn hkC e1 hty).to (fun j hj => ?_)
    obtain ⟨a1, a2, a3⟩ := hte j hj
    rw [← a1]
    rcases sv_zero (g := g) (ty := ty0 j) (iv := iv) (rv := rv) (lv := lv) (i := Γ.1) (k := j) with h | h | h
    · exact h.symm
    · exact absurd h a2
    · exact absurd h a3
theorem rn_newa {x : Int32} {at_ : ArrayType} {c : Nat} (len : Nat) (hd : decode M.2.1 pc = .ok (.newarray at_, 2)) (hc : c = 20 ∨ c = 21) (hty : newarray.typeOf at_ = aty c) (hw : Cond.arrayClass (newarray.typeOf at_) ∈ gtb) (hx' : x = nI len) (hlen : len ≤ 100000) (hk : k + 1 ≤ R.cells) (hs : n + len ≤ R.slots)
    (kk : K0 ≤ Γ.1 → Rn g l M R Q (k + 1) (n + len) (pc + 2) ls (.ref Γ.1 :: st) (alo Γ c len) (clr iv Γ.1 0) (clr rv Γ.1 0) (clr lv Γ.1 0)) : Rn g l M R Q k n pc ls (.int x :: st) Γ iv rv lv := by
  intro p e s m args below meth cd H locs lsC hG cx hR hlo hls
  obtain ⟨hx, hb, hr, hml, hown, hnm, hts, hlk, hwm⟩ := id cx
  have h25 : 20 ≤ c ∧ c < 25 := by omega
  refine va_newaK hx hb (hts _ hw) rfl hd rfl (n := x) (N := len) (by rw [hx']; exact nI_pos (by omega)) (by rw [hx']; exact nI_clamp (by omega)) ?_ hk hs rfl fun H1 cA e1 z1 o1 hAr hNm => ?_
  · rw [hty]; rcases hc with rfl | rfl <;> (simp only [aty, componentBytes]; omega)
  have hcA : cA = g.ac c := by
    have h1 := (hG.2.1 c h25.1 h25.2).2.moved hwm.alike
    rw [hty] at hNm
    rcases hc with rfl | rfl <;> exact Option.some.inj (hNm.symm.trans h1)
  have kk := kk hR.1 p e s m args below meth cd H1 locs lsC hG cx (hR.alloc (c := c) (len := len) z1 o1 ?_ (fun j k h => clr_ne h) (fun j k h => clr_ne h) (fun j k h => clr_ne h)) hlo hls
  · rw [List.map_cons, cv_new hR.1, rep_size hR] at kk
    exact kk
  · refine Or.inr ⟨by rw [alo_kn]; exact h25.1, by rw [alo_kn]; exact h25.2, ?_⟩
    rw [alo_kn, alo_ln, rep_size hR, e1, hcA, hty]
    congr 2
    funext j
    rcases hc with rfl | rfl <;> (simp only [aty, sv, clr_same]; rfl)
theorem rn_anew {x : Int32} {index c : Nat} {C : String} (len : Nat) (hd : decode M.2.1 pc = .ok (.anewarray index, 3)) (hc : c = 23 ∨ c = 24) (hC : aty c = .object C) (hcl : Cond.classLink M.1.cls index C ∈ gtb) (hx' : x = nI len) (hlen : len ≤ 100000) (hk : k + 1 ≤ R.cells) (hs : n + len ≤ R.slots)
    (kk : K0 ≤ Γ.1 → Rn g l M R Q (k + 1) (n + len) (pc + 3) ls (.ref Γ.1 :: st) (alo Γ c len) (clr iv Γ.1 0) (clr rv Γ.1 0) (clr lv Γ.1 0)) : Rn g l M R Q k n pc ls (.int x :: st) Γ iv rv lv := by
  intro p e s m args below meth cd H locs lsC hG cx hR hlo hls
  obtain ⟨hx, hb, hr, hml, hown, hnm, hts, hlk, hwm⟩ := id cx
  have h25 : 20 ≤ c ∧ c < 25 := by omega
  have hao : va_AO C s := by
    have h := hG.2.2.2.2.2.2.2.2
    rcases hc with rfl | rfl
    · cases hC; exact (va_AO.of (C := "TillTheyMeet$Rule") h.1).moved hwm.alike
    · cases hC; exact (va_AO.of (C := "TillTheyMeet$Sheet") h.2.1).moved hwm.alike
  have hcn : x.toNatClampNeg = len := by rw [hx']; exact nI_clamp (by omega)
  refine W.anew hx hb hown (hts _ hcl) hao.use rfl hd (n := x) rfl (by rw [hx']; exact nI_pos (by omega)) (by rw [hcn]; omega) hk (by rw [hcn]; exact hs) fun cA kA comp h1 h2 h3 h4 => ?_
  rw [hcn, arrV_new]
  have hcA : cA = g.ac c := by
    have h5 := (hG.2.1 c h25.1 h25.2).2.moved hwm.alike
    rw [hC] at h5
    obtain ⟨_, _, _, _, _, h6⟩ := h5
    exact Option.some.inj (h1.symm.trans h6)
  have kk := kk hR.1 p e s m args below meth cd (H.push (arrV cA len fun _ => .null)) locs lsC hG cx (hR.alloc (c := c) (len := len) (by simp) (fun q hq => by rw [Array.getElem?_push, if_neg (Nat.ne_of_lt hq)]) ?_ (fun j k h => clr_ne h) (fun j k h => clr_ne h) (fun j k h => clr_ne h)) hlo hls
  · rw [List.map_cons, cv_new hR.1, rep_size hR] at kk
    exact kk
  · refine Or.inr ⟨by rw [alo_kn]; exact h25.1, by rw [alo_kn]; exact h25.2, ?_⟩
    rw [alo_kn, alo_ln, rep_size hR, Array.getElem?_push_size, hcA]
    congr 2
    funext j
    rw [hC]
    simp only [sv, clr_same]
    rfl
theorem rn_aast {a c len v ci : Nat} {x : Int32} {r : vw_C} (q : Nat) (hd : decode M.2.1 pc = .ok (.aastore, 1)) (hA : IsA Γ a c len) (h23 : c = 23 ∨ c = 24) (hK : IsK Γ v ci) (hc : vwCl[ci]? = some r) (hC : aty c = .object r.1) (hj : x = nI q) (hq : q < len) (hl : len < 2 ^ 31)
    (kk : Rn g l M R Q k n (pc + 1) ls st Γ iv (up rv a q v) lv) : Rn g l M R Q k n pc ls (.ref v :: .int x :: .ref a :: st) Γ iv rv lv := by
  intro p e s m args below meth cd H locs lsC hG cx hR hlo hls
  obtain ⟨hx, hb, hr, hml, hown, hnm, hts, hlk, hwm⟩ := id cx
  have h25 : 20 ≤ c ∧ c < 25 := by omega
  obtain ⟨hcell, -⟩ := arr_at hR hA h25.1
  obtain ⟨hin, hcn⟩ := in_of hj hq hl
  obtain ⟨cellV, g1, g2, g3, -⟩ := obj_at hR hK hc
  have hcls := ((kS hG hwm).1 ci r hc).2
  have h5 := (hG.2.1 c h25.1 h25.2).2.moved hwm.alike
  rw [hC] at h5
  obtain ⟨kA, comp, k1, k2, k3, -⟩ := h5
  have hcomp : comp = g.dd.1 ci := Option.some.inj (k3.symm.trans hcls.1)
  subst hcomp
  obtain ⟨kC, hkC, -⟩ := hcls.2
  rw [List.map_cons, List.map_cons, List.map_cons, cv_new hA.1, cv_new hK.1]
  refine W.aast hx hb hcell (fun q h => by cases h) (fun h => by cases h) k1 k2 rfl hkC ⟨fun z => hin (Or.inl z), by rw [arrV_size, hcn]; exact hq⟩ g1 (fun q h => by rw [g3] at h; cases h) (by rw [g2]; exact hkC) (by rw [g2]; exact va_assign hcls) rfl rfl hd fun H' e1 e2 e3 => ?_
  rw [hcn, ← cv_new hK.1] at e1
  refine kk p e s m args below meth cd H' _ lsC hG cx (rep_ast (v := .ref v) hR hA h25.1 h25.2 e1 e2 e3 (fun j => ?_) (fun _ _ _ => rfl) (fun j k h => up_ne1 h) (fun _ _ _ => rfl)) (t_lc hlo (rho_base hA.1)) hls
  rw [hC]
  show Value.ref (up rv a q v a j) = _
  by_cases h : j = q
  · subst h; rw [up_same, if_pos rfl]
  · rw [up_ne2 h, if_neg h]; rfl
theorem rn_acopy {a0 a n0 n1 index : Nat} {xs xd xn : Int32} (sp dp m0 : Nat) (hd : decode M.2.1 pc = .ok (.invokestatic index, 3)) (hl : Cond.methodLink M.1.cls index arraycopyName ∈ gtb) (hw : Cond.native arraycopyName ∈ gtb ∧ Cond.static arraycopyName ∈ gtb ∧ Cond.initialized "java/lang/System" ∈ gtb) (hA0 : IsA Γ a0 20 n0) (hA : IsA Γ a 20 n1)
    (e1 : xs = nI sp) (e2 : xd = nI dp) (e3 : xn = nI m0) (h4 : sp + m0 ≤ n0) (h5 : dp + m0 ≤ n1) (hb0 : n0 < 2 ^ 31) (hb1 : n1 < 2 ^ 31) (hst : (st.map fun v => v.category).sum ≤ 8) (hf : 1 ≤ R.frames) (hlo : 100 ≤ R.locals)
    (kk : Rn g l M R Q k n (pc + 3) ls st Γ (cpy iv a0 sp a dp m0) rv lv) : Rn g l M R Q k n pc ls (.int xn :: .int xd :: .ref a :: .int xs :: .ref a0 :: st) Γ iv rv lv := by
  intro p e s m args below meth c H locs lsC hG cx hR hlo' hls
  obtain ⟨hx, hb, hr, hml, hown, hnm, hts, hlk, hwm⟩ := id cx
  obtain ⟨hc0, -⟩ := arr_at hR hA0 (by omega)
  obtain ⟨hc1, -⟩ := arr_at hR hA (by omega)
  have hc0 : H[rho g a0]? = some (arrV (g.ac 20) n0 (fun j => .int (iv a0 j))) := hc0
  have hc1 : H[rho g a]? = some (arrV (g.ac 20) n1 (fun j => .int (iv a j))) := hc1
  obtain ⟨-, k0, hk0, cm0, hkk0⟩ := arrOf (s := s) hG hwm (c := 20) (m := n0) (by omega) (by omega) (fun j => .int (iv a0 j))
  obtain ⟨-, k1, hk1, cm1, hkk1⟩ := arrOf (s := s) hG hwm (c := 20) (m := n1) (by omega) (by omega) (fun j => .int (iv a j))
  have c1 : xs.toNatClampNeg = sp := by rw [e1]; exact nI_clamp (by omega)
  have c2 : xd.toNatClampNeg = dp := by rw [e2]; exact nI_clamp (by omega)
  have c3 : xn.toNatClampNeg = m0 := by rw [e3]; exact nI_clamp (by omega)
  have i1 : xs.toInt = (sp : Int) := by rw [e1]; exact nI_toInt (by omega)
  have i2 : xd.toInt = (dp : Int) := by rw [e2]; exact nI_toInt (by omega)
  have i3 : xn.toInt = (m0 : Int) := by rw [e3]; exact nI_toInt (by omega)
  simp only [List.map_cons]
  rw [cv_new hA0.1, cv_new hA.1]
  intro T hT X
  obtain ⟨vm', X', step⟩ := X.arraycopy hx hown (hts _ hl) (hts _ hw.1) (hts _ hw.2.1) (hts _ hw.2.2) (src := rho g a0) (dst := rho g a) (cs := arrV (g.ac 20) n0 (fun j => .int (iv a0 j))) (cd := arrV (g.ac 20) n1 (fun j => .int (iv a j))) (srcPos := xs) (destPos := xd) (n := xn) (by rw [hT]; exact hc0) (by rw [hT]; exact hc1)
    (fun _ h => by cases h) (fun _ h => by cases h) (fun h => by cases h) (fun h => by cases h) hk0 hk1 hkk0 hkk1 (by simp [aty, refKind]) (by rw [e1]; exact nI_pos (by omega)) (by rw [e2]; exact nI_pos (by omega)) (by rw [e3]; exact nI_pos (by omega))
    (by rw [i1, i3, arrV_size]; omega)
    (by rw [i2, i3, arrV_size]; omega)
    (fun vm₁ _ i hi => by
      have e : (arrV (g.ac 20) n0 (fun j => .int (iv a0 j))).slots.getD (xs.toNatClampNeg + i) .null = .int (iv a0 (xs.toNatClampNeg + i)) := by
        rw [Array.getD_eq_getD_getElem?, arrV_read _ _ (by rw [c3] at hi; rw [c1]; omega)]
        rfl
      refine ⟨?_, ?_⟩
      · rw [e]; rfl
      · rw [e]; exact trivial)
    (g := F0 m pc lsC (cv g (.int xn) :: cv g (.int xd) :: .ref (rho g a) :: cv g (.int xs) :: .ref (rho g a0) :: st.map (cv g))) rfl (by rw [hml]; exact hls.1) (rest := st.map (cv g)) rfl (by rw [hb]; exact hd) hf (by
      have h9 : nativeFrameWords "java/lang/System" "arraycopy" 5 ≤ 60 := by decide
      rw [cat_map]
      show 2 * 0 + _ + _ ≤ _; omega)
  have e9 : copied (arrV (g.ac 20) n0 (fun j => .int (iv a0 j))) (arrV (g.ac 20) n1 (fun j => .int (iv a j))) xs xd xn = arrV (g.ac 20) n1 (fun j => .int (va_cpy (iv a0) (iv a) xs.toNatClampNeg xd.toNatClampNeg xn.toNatClampNeg j)) := va_copied (fun z => .int z) _ _ (iv a0) (iv a) (by rw [c1, c3]; exact h4)
  rw [e9] at X' step
  have hlt : rho g a < H.size := (Array.getElem?_eq_some_iff.mp hc1).1
  obtain ⟨t, a1, b1⟩ := kk p e s m args below meth c (H.setIfInBounds (rho g a) (arrV (g.ac 20) n1 (fun j => .int (va_cpy (iv a0) (iv a) xs.toNatClampNeg xd.toNatClampNeg xn.toNatClampNeg j)))) _ lsC hG cx
    (hR.put (i := a) hA.1 (by simp) (fun q hq => by simp [Array.getElem?_setIfInBounds, Ne.symm hq]) (Or.inr ⟨by rw [hA.2.2.1]; omega, by rw [hA.2.2.1]; omega, by
      rw [hA.2.2.1, hA.2.2.2]
      simp only [Array.getElem?_setIfInBounds_self_of_lt hlt]
      congr 2
      funext j
      rw [c1, c2, c3]
      simp only [aty, sv, cpy, va_cpy]
      by_cases h : dp ≤ j ∧ j < dp + m0
      · rw [if_pos h, if_pos ⟨trivial, h⟩]; rfl
      · rw [if_neg h, if_neg (fun z => h z.2)]; rfl⟩) (fun j k h => if_neg (fun z => h z.1)) (fun _ _ _ => rfl) (fun _ _ _ => rfl))
    (fun q hq => by
      rcases List.mem_append.mp hq with h | h
      · exact hlo' q h
      · obtain ⟨z, -, hz⟩ := List.mem_map.mp h
        rw [← hz]
        exact rho_base hA.1) hls _ (by rw [← hT]; rfl) X'
  exact ⟨t, step t a1, b1⟩
theorem rn_clone {a len index : Nat} (hd : decode M.2.1 pc = .ok (.invokevirtual index, 3)) (hl : Cond.methodLink M.1.cls index ⟨"[I", "clone", "()Ljava/lang/Object;"⟩ ∈ gtb) (hw : Cond.sameMethod "[I" "java/lang/Object" "clone" "()Ljava/lang/Object;" ∈ gtb ∧ Cond.native ⟨"java/lang/Object", "clone", "()Ljava/lang/Object;"⟩ ∈ gtb ∧ Cond.instanceMethod ⟨"java/lang/Object", "clone", "()Ljava/lang/Object;"⟩ ∈ gtb ∧ Cond.selects "[I" ⟨"[I", "clone", "()Ljava/lang/Object;"⟩ ⟨"java/lang/Object", "clone", "()Ljava/lang/Object;"⟩ ∈ gtb)
    (hA : IsA Γ a 20 len) (hst : (st.map fun v => v.category).sum ≤ 8) (hf : 1 ≤ R.frames) (hlo : 100 ≤ R.locals) (hk : k + 1 ≤ R.cells) (hs : n + len ≤ R.slots)
    (kk : K0 ≤ Γ.1 → Rn g l M R Q (k + 1) (n + len) (pc + 3) ls (.ref Γ.1 :: st) (alo Γ 20 len) (fun i j => if i = Γ.1 then iv a j else iv i j) (clr rv Γ.1 0) (clr lv Γ.1 0)) : Rn g l M R Q k n pc ls (.ref a :: st) Γ iv rv lv := by
  intro p e s m args below meth c H locs lsC hG cx hR hlo' hls
  obtain ⟨hx, hb, hr, hml, hown, hnm, hts, hlk, hwm⟩ := id cx
  obtain ⟨hc1, -⟩ := arr_at hR hA (by omega)
  have hc1 : H[rho g a]? = some (arrV (g.ac 20) len (fun j => .int (iv a j))) := hc1
  obtain ⟨c0, t0', f1, f2, f3⟩ := Cond.castable_spec (va_Nw.use (A := args) rfl (hG.2.2.2.2.2.2.2.2.2.2.warmC hwm))
  have hnm' : s.vm.findClass "[I" = some (g.ac 20) := by
    have h1 := (hG.2.1 20 (by omega) (by omega)).2.moved hwm.alike
    exact h1
  cases hnm'.symm.trans f1
  rw [List.map_cons, cv_new hA.1]
  intro T hT X
  have hcellT : T.heap[rho g a]? = some (arrV (g.ac 20) len (fun j => .int (iv a j))) := by rw [hT]; exact hc1
  obtain ⟨-, kA, hkA, comp, hkind⟩ := State.isArrayOf_alike X.warmed.alike (arrOf (s := s) hG hwm (c := 20) (m := 0) (by omega) (by omega) (fun _ => .null))
  obtain ⟨-, kS', hkS, compS, hkindS⟩ := arrOf (s := s) hG hwm (c := 20) (m := 0) (by omega) (by omega) (fun _ => .null)
  obtain ⟨vm', X', step⟩ := X.cloneArray hx hown (hts _ hl) (hts _ hw.1) (hts _ hw.2.1) (hts _ hw.2.2.1) (hts _ hw.2.2.2) (a := rho g a) (cell := arrV (g.ac 20) len (fun j => .int (iv a j))) hcellT (fun k h => by cases h) (fun h => by cases h) hnm' f2 f3
    (fun i v hv => by
      have hk' : T.vm.classes[g.ac 20]? = some kA := hkA
      have hlt : i < len := by
        have := (Array.getElem?_eq_some_iff.mp hv).1
        rwa [arrV_size] at this
      rw [arrV_read _ _ hlt] at hv
      cases hv
      show T.fitsSlot (g.ac 20) _ _ _ = true
      simp [State.fitsSlot, State.slotType?, hk', hkind, aty, fits])
    (g := F0 m pc lsC (.ref (rho g a) :: st.map (cv g))) rfl (by rw [hml]; exact hls.1) rfl (by rw [hb]; exact hd) hf (by
      rw [cat_map]
      show 2 * 0 + _ + 14 ≤ _; omega) hk (by rw [arrV_size]; exact hs) (hloader := Vm.clonesLoader_of_array hkS hkindS)
  rw [arrV_size] at X'
  obtain ⟨t, b1, b2⟩ := kk hR.1 p e s m args below meth c (H.push (arrV (g.ac 20) len (fun j => .int (iv a j)))) locs lsC hG cx (hR.alloc (c := 20) (len := len) (by simp) (fun q hq => by rw [Array.getElem?_push, if_neg (Nat.ne_of_lt hq)]) (Or.inr ⟨by rw [alo_kn]; omega, by rw [alo_kn]; omega, by
      rw [alo_kn, alo_ln, rep_size hR, Array.getElem?_push_size]
      congr 2
      funext j
      simp only [aty, sv]
      rw [if_pos trivial]
      rfl⟩) (fun j k h => if_neg h) (fun j k h => clr_ne h) (fun j k h => clr_ne h)) hlo' hls ((T.setVm vm').pushCell (arrV (g.ac 20) len (fun j => .int (iv a j)))) (by rw [← hT]; rfl) X'
  refine ⟨t, step t ?_, b2⟩
  rw [List.map_cons, cv_new hR.1, rep_size hR] at b1
  rw [hT]
  exact b1
/-- checkcast to int[] -/
theorem rn_castA {a len index : Nat} (hd : decode M.2.1 pc = .ok (.checkcast index, 3)) (hl : Cond.classLink M.1.cls index "[I" ∈ gtb) (hA : IsA Γ a 20 len) (kk : Rn g l M R Q k n (pc + 3) ls (.ref a :: st) Γ iv rv lv) : Rn g l M R Q k n pc ls (.ref a :: st) Γ iv rv lv := by
  intro p e s m args below meth c H locs lsC hG cx hR hlo' hls
  have kk := kk p e s m args below meth c H locs lsC hG cx hR hlo' hls
  obtain ⟨hx, hb, hr, hml, hown, hnm, hts, hlk, hwm⟩ := id cx
  obtain ⟨hc1, -⟩ := arr_at hR hA (by omega)
  have hnm' : s.vm.findClass "[I" = some (g.ac 20) := (hG.2.1 20 (by omega) (by omega)).2.moved hwm.alike
  rw [List.map_cons, cv_new hA.1] at kk ⊢
  exact va_castE hx hb hown (hts _ hl) ⟨_, hc1, rfl, hnm'⟩ hd kk
end MAKER
