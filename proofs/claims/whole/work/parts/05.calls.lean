/-! RULES of calls, statics, texts, new cells, natives -/
section CALLR
variable {g : GS} {l : Launch} {M M' : MI} {R : Room} {Q Qc : Qt} {k n pc : Nat} {ls st : List Value} {Γ : Sh} {iv : IV} {rv : RV} {lv : LV}
theorem pcA_blind {as : List Value} : FrameBlind (PcA g as Γ iv rv lv) := fun _ _ _ _ q => ⟨q.1, q.2.1, q.2.2⟩
theorem pcA_at {as : List Value} {s : State} {H : Heap} (hw : g.s0.WarmedH s.vm) (hR : RepH g Γ iv rv lv H) : ∀ U : State, U.heap = H → s.WarmedH U.vm → PcA g as Γ iv rv lv (as.map (cv g)).toArray U := fun U hU hW => ⟨rfl, State.WarmedH.trans hw hW, by rw [hU]; exact hR⟩
theorem good_sub {ws : List Cond} (h : ∀ w ∈ ws, w ∈ gtb) : GoodIn gtb ws := fun w hw => gtb_good w (h w hw)
/-- what a callee's name must bring -/
def OkM (M : MI) (np : Nat) : Prop := Cond.code M.1 M.2.1 M.2.2.1 M.2.2.2 ∈ gtb ∧ Cond.initialized M.1.cls ∈ gtb ∧ M.1.cls ≠ "java/lang/invoke/MethodHandle" ∧ M.1.cls ≠ "java/lang/invoke/VarHandle" ∧ (parseMethodDescriptor M.1.desc).map (fun d => d.parameters.length) = some np ∧ M.2.2.1 ≤ 80
def OkV (M : MI) (np : Nat) : Prop := OkM M np ∧ Cond.instanceMethod M.1 ∈ gtb ∧ Cond.selects M.1.cls M.1 M.1 ∈ gtb
def OkS (M : MI) (np : Nat) : Prop := OkM M np ∧ Cond.static M.1 ∈ gtb
def OkI (M : MI) (np : Nat) : Prop := OkM M np ∧ Cond.instanceMethod M.1 ∈ gtb ∧ M.1.name = "<init>" ∧ M.2.2.2 = none
theorem codes_in (h : Cond.code M'.1 M'.2.1 M'.2.2.1 M'.2.2.2 ∈ gtb) : ∀ w ∈ (Cond.code M'.1 M'.2.1 M'.2.2.1 M'.2.2.2 :: gtb), w ∈ gtb := fun w hw => by
  rcases List.mem_cons.mp hw with rfl | h1
  · exact h
  · exact h1
theorem callB_A {np d' mc ms index : Nat} {s : State} {args : Array Value} (hts : ∀ w ∈ gtb, w.before args s = true) (ok : OkM M' np) (hl : (Cond.methodLink M.1.cls index M'.1) ∈ gtb) (hf : d' + 1 ≤ R.frames) (hlo : 100 * d' + 100 ≤ R.locals) :
    CallB R s args M.1.cls index M'.1 M'.2.1 M'.2.2.1 M'.2.2.2 (Cond.code M'.1 M'.2.1 M'.2.2.1 M'.2.2.2 :: gtb) (rmA d' mc ms) mc ms np := by
  obtain ⟨h1, h2, h3, h4, h5, h6⟩ := ok
  exact callB_of np hts (good_sub (codes_in h1)) rfl rfl rfl (hts _ h2) (hts _ hl) ⟨h3, h4, h5⟩ ⟨hf, by show 8 + (M'.2.2.1 + 11) + 100 * d' ≤ _; omega⟩
theorem ofRun {p : Program} {e : Env} {s : State} {m : MethodId} {args : Array Value} {below : List Frame} {meth : Method} {c : Code} {H : Heap} {locs : List Loc} {lsC : Array Slot} {mc ms : Nat} {st0 : List Value} {a : Array Value}
    (hr : va_Run p l e R s m args below meth c H locs k n mc ms (F0 m pc lsC st0) (st.map (cv g)) (QcA g Qc a) (oldA g)) (hG : GoodG g) (cx : Cx g M p s m args meth c) (hlo : ∀ q ∈ locs, gbase g ≤ q.base) (hls : lsOK g M.2.2.1 ls lsC)
    (kk : ∀ r Γ' iv' rv' lv', Qc r Γ' iv' rv' lv' → Rn g l M R Q (k + mc) (n + ms) (pc + 3) ls (r.toList ++ st) Γ' iv' rv' lv') :
    W p l e R s m args below meth c H locs k n (MQ below (QcA g Q) args s R.cells R.slots (oldA g)) (F0 m pc lsC st0) := by
  intro T hT X
  obtain ⟨v, st₀, t, T', L, h0, X', hL, e1, e2, ⟨r, Γ', iv', rv', lv', hv, hq, hrep⟩, sp⟩ := hr T hT X
  cases hv
  obtain ⟨t2, a1, b1⟩ := kk r Γ' iv' rv' lv' hq p e s m args below meth c T'.heap (locs ++ L) lsC hG cx (by rw [e1]; exact hrep) (t_lL hlo hL) hls T' rfl X'
  refine ⟨t2, sp t2 ?_, b1⟩
  have : (r.map (cv g)).toList ++ st.map (cv g) = (r.toList ++ st).map (cv g) := by cases r <;> rfl
  rw [this]
  exact a1
theorem cat_map (st : List Value) : ((st.map (cv g)).map fun v => v.category).sum = (st.map fun v => v.category).sum := by
  rw [List.map_map]
  congr 1
  exact List.map_congr_left (fun v _ => cv_cat g v)
theorem rn_callV {b ci np d' mc ms index : Nat} {As : List Value} {T : u_T} {N : Nat} (hd : decode M.2.1 pc = .ok (.invokevirtual index, 3)) (ok : OkV M' np) (hl : (Cond.methodLink M.1.cls index M'.1) ∈ gtb) (hK : IsK Γ b ci) (hc : vwCl[ci]? = some (M'.1.cls, T, N)) (hn : As.length = np) (hst : (st.map fun v => v.category).sum ≤ 8)
    (hf : d' + 1 ≤ R.frames) (hlo : 100 * d' + 100 ≤ R.locals) (hk : k + mc ≤ R.cells) (hs : n + ms ≤ R.slots) (hct : Ct g l M' d' mc ms (.ref b :: As) Γ iv rv lv Qc)
    (kk : ∀ r Γ' iv' rv' lv', Qc r Γ' iv' rv' lv' → Rn g l M R Q (k + mc) (n + ms) (pc + 3) ls (r.toList ++ st) Γ' iv' rv' lv') : Rn g l M R Q k n pc ls (As.reverse ++ .ref b :: st) Γ iv rv lv := by
  intro p e s m args below meth c H locs lsC hG cx hR hlo' hls
  obtain ⟨hx, hb, hr, hml, hown, hnm, hts, hlk, hwm⟩ := id cx
  obtain ⟨cell, q1, q2, q3, q4⟩ := obj_at hR hK hc
  obtain ⟨-, hfc, -⟩ := (kS hG hwm).1 ci _ hc
  have h2 := pcA_at (as := .ref b :: As) hwm hR
  have e1 : (Value.ref b :: As).map (cv g) = .ref (rho g b) :: As.map (cv g) := by rw [List.map_cons, cv_new hK.1]
  rw [e1] at h2
  refine ofRun (a := (Value.ref (rho g b) :: As.map (cv g)).toArray) (mc := mc) (ms := ms) (va_runV (As := As.map (cv g)) (b := rho g b) (C := M'.1.cls) (n := np) (bytes := M'.2.1) (maxL := M'.2.2.1) (ret := M'.2.2.2) ⟨hx, hb, hml, hown, hts⟩ (hct hG) ⟨callB_A hts ok.1 hl hf hlo, hts _ ok.2.1, hts _ ok.2.2⟩ ⟨pcA_blind, ⟨cell, q1, by rw [q3]; rfl, by rw [q2]; exact hfc⟩, h2⟩ rfl (by rw [List.length_map]; exact hn) hls.1 ?_ ?_ hd ⟨hk, hs⟩) hG cx hlo' hls kk
  · show List.map (cv g) _ = _
    rw [List.map_append, List.map_reverse, List.map_cons, cv_new hK.1]
  · exact lv_room (by rw [cat_map]; exact hst)
theorem rn_callS {np d' mc ms index : Nat} {As : List Value} (hd : decode M.2.1 pc = .ok (.invokestatic index, 3)) (ok : OkS M' np) (hl : (Cond.methodLink M.1.cls index M'.1) ∈ gtb) (hn : As.length = np) (hst : (st.map fun v => v.category).sum ≤ 8)
    (hf : d' + 1 ≤ R.frames) (hlo : 100 * d' + 100 ≤ R.locals) (hk : k + mc ≤ R.cells) (hs : n + ms ≤ R.slots) (hct : Ct g l M' d' mc ms As Γ iv rv lv Qc)
    (kk : ∀ r Γ' iv' rv' lv', Qc r Γ' iv' rv' lv' → Rn g l M R Q (k + mc) (n + ms) (pc + 3) ls (r.toList ++ st) Γ' iv' rv' lv') : Rn g l M R Q k n pc ls (As.reverse ++ st) Γ iv rv lv := by
  intro p e s m args below meth c H locs lsC hG cx hR hlo' hls
  obtain ⟨hx, hb, hr, hml, hown, hnm, hts, hlk, hwm⟩ := id cx
  refine ofRun (a := (As.map (cv g)).toArray) (mc := mc) (ms := ms) (va_runS (As := As.map (cv g)) (n := np) (bytes := M'.2.1) (maxL := M'.2.2.1) (ret := M'.2.2.2) ⟨hx, hb, hml, hown, hts⟩ (hct hG) ⟨callB_A hts ok.1 hl hf hlo, hts _ ok.2⟩ ⟨pcA_blind, pcA_at hwm hR⟩ rfl (by rw [List.length_map]; exact hn) hls.1 ?_ ?_ hd ⟨hk, hs⟩) hG cx hlo' hls kk
  · show List.map (cv g) _ = _
    rw [List.map_append, List.map_reverse]
  · exact lv_room (by rw [cat_map]; exact hst)
theorem rn_callI {b ci np d' mc ms index : Nat} {As : List Value} (hd : decode M.2.1 pc = .ok (.invokespecial index, 3)) (ok : OkI M' np) (hl : (Cond.methodLink M.1.cls index M'.1) ∈ gtb) (hK : IsK Γ b ci) (hn : As.length = np) (hst : (st.map fun v => v.category).sum ≤ 8)
    (hf : d' + 1 ≤ R.frames) (hlo : 100 * d' + 100 ≤ R.locals) (hk : k + mc ≤ R.cells) (hs : n + ms ≤ R.slots) (hct : Ct g l M' d' mc ms (.ref b :: As) Γ iv rv lv Qc)
    (kk : ∀ r Γ' iv' rv' lv', Qc r Γ' iv' rv' lv' → Rn g l M R Q (k + mc) (n + ms) (pc + 3) ls (r.toList ++ st) Γ' iv' rv' lv') : Rn g l M R Q k n pc ls (As.reverse ++ .ref b :: st) Γ iv rv lv := by
  intro p e s m args below meth c H locs lsC hG cx hR hlo' hls
  obtain ⟨hx, hb, hr, hml, hown, hnm, hts, hlk, hwm⟩ := id cx
  have h2 := pcA_at (as := .ref b :: As) hwm hR
  have e1 : (Value.ref b :: As).map (cv g) = .ref (rho g b) :: As.map (cv g) := by rw [List.map_cons, cv_new hK.1]
  rw [e1] at h2
  have hcb := callB_A (R := R) (M := M) (M' := M') (mc := mc) (ms := ms) hts ok.1 hl hf hlo
  have hm := hct hG
  rw [ok.2.2.2] at hcb hm
  refine ofRun (a := (Value.ref (rho g b) :: As.map (cv g)).toArray) (mc := mc) (ms := ms) (va_runI (As := As.map (cv g)) (b := rho g b) (n := np) (bytes := M'.2.1) (maxL := M'.2.2.1) ⟨hx, hb, hml, hown, hts⟩ hm ⟨hcb, ok.2.2.1, hts _ ok.2.1⟩ ⟨pcA_blind, h2⟩ rfl (by rw [List.length_map]; exact hn) hls.1 ?_ ?_ hd ⟨hk, hs⟩) hG cx hlo' hls kk
  · show List.map (cv g) _ = _
    rw [List.map_append, List.map_reverse, List.map_cons, cv_new hK.1]
  · exact lv_room (by rw [cat_map]; exact hst)
theorem callN_A {np d' mc ms index : Nat} {host : String} {s : State} {args : Array Value} (hG : GoodG g) (hw : g.s0.WarmedH s.vm) (hts : ∀ w ∈ gtb, w.before args s = true) (ok : OkM M' np) (hl : (Cond.methodLinkNest M.1.cls index M'.1 host) ∈ lw_tbl) (hf : d' + 1 ≤ R.frames) (hlo : 100 * d' + 100 ≤ R.locals) :
    va_CN R s args M.1.cls index M'.1 host M'.2.1 M'.2.2.1 M'.2.2.2 (Cond.code M'.1 M'.2.1 M'.2.2.1 M'.2.2.2 :: gtb) (rmA d' mc ms) mc ms np := by
  obtain ⟨h1, h2, h3, h4, h5, h6⟩ := ok
  exact va_cnB np hts (good_sub (codes_in h1)) rfl rfl rfl ((hG.2.2.2.2.2.2.2.1 _ hl ⟨_, _, _, _, rfl⟩).warmM hw) (hts _ h2) ⟨h3, h4, h5⟩ ⟨hf, by show 8 + (M'.2.2.1 + 11) + 100 * d' ≤ _; omega⟩
theorem rn_callSN {np d' mc ms index : Nat} {host : String} {As : List Value} (hd : decode M.2.1 pc = .ok (.invokestatic index, 3)) (ok : OkS M' np) (hl : (Cond.methodLinkNest M.1.cls index M'.1 host) ∈ lw_tbl) (hn : As.length = np) (hst : (st.map fun v => v.category).sum ≤ 8)
    (hf : d' + 1 ≤ R.frames) (hlo : 100 * d' + 100 ≤ R.locals) (hk : k + mc ≤ R.cells) (hs : n + ms ≤ R.slots) (hct : Ct g l M' d' mc ms As Γ iv rv lv Qc)
    (kk : ∀ r Γ' iv' rv' lv', Qc r Γ' iv' rv' lv' → Rn g l M R Q (k + mc) (n + ms) (pc + 3) ls (r.toList ++ st) Γ' iv' rv' lv') : Rn g l M R Q k n pc ls (As.reverse ++ st) Γ iv rv lv := by
  intro p e s m args below meth c H locs lsC hG cx hR hlo' hls
  obtain ⟨hx, hb, hr, hml, hown, hnm, hts, hlk, hwm⟩ := id cx
  refine ofRun (a := (As.map (cv g)).toArray) (mc := mc) (ms := ms) (va_runSN (As := As.map (cv g)) (n := np) (bytes := M'.2.1) (maxL := M'.2.2.1) (ret := M'.2.2.2) ⟨hx, hb, hml, hown, hts⟩ (hct hG) ⟨callN_A hG hwm hts ok.1 hl hf hlo, hts _ ok.2, trivial⟩ ⟨pcA_blind, pcA_at hwm hR⟩ rfl (by rw [List.length_map]; exact hn) hls.1 ?_ ?_ hd ⟨hk, hs⟩) hG cx hlo' hls kk
  · show List.map (cv g) _ = _
    rw [List.map_append, List.map_reverse]
  · exact lv_room (by rw [cat_map]; exact hst)
theorem rn_callIN {b ci np d' mc ms index : Nat} {host : String} {As : List Value} (hd : decode M.2.1 pc = .ok (.invokespecial index, 3)) (ok : OkI M' np) (hl : (Cond.methodLinkNest M.1.cls index M'.1 host) ∈ lw_tbl) (hK : IsK Γ b ci) (hn : As.length = np) (hst : (st.map fun v => v.category).sum ≤ 8)
    (hf : d' + 1 ≤ R.frames) (hlo : 100 * d' + 100 ≤ R.locals) (hk : k + mc ≤ R.cells) (hs : n + ms ≤ R.slots) (hct : Ct g l M' d' mc ms (.ref b :: As) Γ iv rv lv Qc)
    (kk : ∀ r Γ' iv' rv' lv', Qc r Γ' iv' rv' lv' → Rn g l M R Q (k + mc) (n + ms) (pc + 3) ls (r.toList ++ st) Γ' iv' rv' lv') : Rn g l M R Q k n pc ls (As.reverse ++ .ref b :: st) Γ iv rv lv := by
  intro p e s m args below meth c H locs lsC hG cx hR hlo' hls
  obtain ⟨hx, hb, hr, hml, hown, hnm, hts, hlk, hwm⟩ := id cx
  have h2 := pcA_at (as := .ref b :: As) hwm hR
  have e1 : (Value.ref b :: As).map (cv g) = .ref (rho g b) :: As.map (cv g) := by rw [List.map_cons, cv_new hK.1]
  rw [e1] at h2
  have hcb := callN_A (R := R) (M := M) (M' := M') (mc := mc) (ms := ms) hG hwm hts ok.1 hl hf hlo
  have hm := hct hG
  rw [ok.2.2.2] at hcb hm
  refine ofRun (a := (Value.ref (rho g b) :: As.map (cv g)).toArray) (mc := mc) (ms := ms) (va_runIN (As := As.map (cv g)) (b := rho g b) (n := np) (bytes := M'.2.1) (maxL := M'.2.2.1) ⟨hx, hb, hml, hown, hts⟩ hm ⟨hcb, ok.2.2.1, hts _ ok.2.1⟩ ⟨pcA_blind, h2⟩ rfl (by rw [List.length_map]; exact hn) hls.1 ?_ ?_ hd ⟨hk, hs⟩) hG cx hlo' hls kk
  · show List.map (cv g) _ = _
    rw [List.map_append, List.map_reverse, List.map_cons, cv_new hK.1]
  · exact lv_room (by rw [cat_map]; exact hst)
/-- Object.<init> -/
theorem rn_objInit {b index : Nat} (hd : decode M.2.1 pc = .ok (.invokespecial index, 3)) (hl : (Cond.methodLink M.1.cls index Lib.objectInit) ∈ gtb) (hin : (Cond.instanceMethod Lib.objectInit) ∈ gtb) (hco : (Cond.code Lib.objectInit ⟨#[0xb1]⟩ 1 none) ∈ gtb) (hb0 : 0 < b) (hst : (st.map fun v => v.category).sum ≤ 8) (hf : 1 ≤ R.frames) (hlo : 20 ≤ R.locals)
    (kk : Rn g l M R Q k n (pc + 3) ls st Γ iv rv lv) : Rn g l M R Q k n pc ls (.ref b :: st) Γ iv rv lv := by
  intro p e s m args below meth c H locs lsC hG cx hR hlo' hls
  have kk := kk p e s m args below meth c H locs lsC hG cx hR hlo' hls
  obtain ⟨hx, hb, hr, hml, hown, hnm, hts, hlk, hwm⟩ := id cx
  rw [List.map_cons, cv_ref g hb0]
  refine W.objInit hx hb hown (hts _ hl) (hts _ hin) (hts _ hco) rfl (by rw [hml]; exact hls.1) rfl hd hf ?_ kk
  have := lv_room (m := m) (pc := pc) (ls := lsC) (rest := List.map (cv g) st) (st := st.map (cv g)) (by rw [cat_map]; exact hst)
  have h3 : 2 * (F0 m pc lsC (.ref (rho g b) :: st.map (cv g))).monitorRoom + ((st.map (cv g)).map fun v => v.category).sum ≤ 8 := this
  omega
/-- statics -/
theorem rn_getsI {index i : Nat} {C f : String} (hd : decode M.2.1 pc = .ok (.getstatic index, 3)) (hl : Cond.fieldLink M.1.cls index C f "[I" ∈ gtb) (hi : 0 < i ∧ i < K0) (hZ : ∀ g : GS, GoodG g → va_Z C f "[I" (.ref (g.ro i)) (oldA g) g.s0 g.s0.heap)
    (kk : Rn g l M R Q k n (pc + 3) ls (.ref i :: st) Γ iv rv lv) : Rn g l M R Q k n pc ls st Γ iv rv lv := by
  intro p e s m args below meth c H locs lsC hG cx hR hlo' hls
  have kk := kk p e s m args below meth c H locs lsC hG cx hR hlo' hls
  obtain ⟨hx, hb, hr, hml, hown, hnm, hts, hlk, hwm⟩ := id cx
  obtain ⟨cf, kf, fi, f', a, cell, h1, h2, h3, h4, h5, h6, h7, h8⟩ := (hZ g hG).moved hwm.alike
  rw [List.map_cons, cv_ref g hi.1, rho_old hi.2] at kk
  exact W.gets hx hb hown (hts _ hl) h1 h2 h3 h4 (by rw [hR.2.2.1 a (Nat.not_le.mp h8)]; exact h5) (fun e => by rw [e] at h6; cases h6) h7 rfl hd kk
theorem rn_getsC {index : Nat} (hd : decode M.2.1 pc = .ok (.getstatic index, 3)) (hl : Cond.fieldLink M.1.cls index "java/lang/String" "COMPACT_STRINGS" "Z" ∈ gtb)
    (kk : Rn g l M R Q k n (pc + 3) ls (.int 1 :: st) Γ iv rv lv) : Rn g l M R Q k n pc ls st Γ iv rv lv := by
  intro p e s m args below meth c H locs lsC hG cx hR hlo' hls
  have kk := kk p e s m args below meth c H locs lsC hG cx hR hlo' hls
  obtain ⟨hx, hb, hr, hml, hown, hnm, hts, hlk, hwm⟩ := id cx
  obtain ⟨cf, kf, fi, f', a, cell, h1, h2, h3, h4, h5, h6, h7, h8⟩ := hG.2.2.2.2.1.2.2.2.2.2.1.moved hwm.alike
  exact W.gets hx hb hown (hts _ hl) h1 h2 h3 h4 (by rw [hR.2.2.1 a (Nat.not_le.mp h8)]; exact h5) (fun e => by rw [e] at h6; cases h6) h7 rfl hd kk
theorem rn_getsF {index : Nat} (hd : decode M.2.1 pc = .ok (.getstatic index, 3)) (hl : Cond.fieldLink M.1.cls index "jdk/internal/util/Preconditions" "SIOOBE_FORMATTER" "Ljava/util/function/BiFunction;" ∈ gtb)
    (kk : ∀ z, Rn g l M R Q k n (pc + 3) ls (.ref z :: st) Γ iv rv lv) : Rn g l M R Q k n pc ls st Γ iv rv lv := by
  intro p e s m args below meth c H locs lsC hG cx hR hlo' hls
  obtain ⟨hx, hb, hr, hml, hown, hnm, hts, hlk, hwm⟩ := id cx
  rcases hG.2.2.2.2.1.2.2.2.2.2.2 with hz | hz
  · have kk := kk 0 p e s m args below meth c H locs lsC hG cx hR hlo' hls
    obtain ⟨cf, kf, fi, f', a, cell, h1, h2, h3, h4, h5, h6, h7, h8⟩ := hz.moved hwm.alike
    exact W.gets hx hb hown (hts _ hl) h1 h2 h3 h4 (by rw [hR.2.2.1 a (Nat.not_le.mp h8)]; exact h5) (fun e => by rw [e] at h6; cases h6) h7 rfl hd kk
  · have kk := kk 13 p e s m args below meth c H locs lsC hG cx hR hlo' hls
    obtain ⟨cf, kf, fi, f', a, cell, h1, h2, h3, h4, h5, h6, h7, h8⟩ := hz.moved hwm.alike
    exact W.gets hx hb hown (hts _ hl) h1 h2 h3 h4 (by rw [hR.2.2.1 a (Nat.not_le.mp h8)]; exact h5) (fun e => by rw [e] at h6; cases h6) h7 rfl hd kk
/-- old rows: 2 .. 6 -/
theorem rn_ialdO {i : Nat} {x : Int32} (q : Nat) (hd : decode M.2.1 pc = .ok (.iaload, 1)) (hi : 2 ≤ i ∧ i < 7) (hj : x = nI q) (hq : q < oln0 i) (hl : oln0 i < 2 ^ 31) (kk : Rn g l M R Q k n (pc + 1) ls (.int (oiv0 i q) :: st) Γ iv rv lv) : Rn g l M R Q k n pc ls (.int x :: .ref i :: st) Γ iv rv lv := by
  intro p e s m args below meth c H locs lsC hG cx hR hlo' hls
  have kk := kk p e s m args below meth c H locs lsC hG cx hR hlo' hls
  obtain ⟨hx, hb, hr, hml, hown, hnm, hts, hlk, hwm⟩ := id cx
  obtain ⟨cell, h1, h2, h3, h4, h5, h6, h7⟩ := hG.2.2.2.1 i hi.1 hi.2
  obtain ⟨hin, hcl⟩ := in_of hj hq hl
  rw [List.map_cons, List.map_cons, cv_ref g (by omega), rho_old (by have : K0 = 14 := rfl; omega)]
  exact W.iald (v := .int (oiv0 i q)) hx hb (by rw [hR.2.2.1 _ (Nat.not_le.mp h7)]; exact h1) (State.isArrayOf_alike hwm.alike h2) h3 (fun h => hin (h.imp id (fun z => Nat.le_trans h4 z))) (by rw [hcl]; exact h6 q hq) rfl rfl hd kk
theorem rn_alenO {i : Nat} (v : Int32) (hd : decode M.2.1 pc = .ok (.arraylength, 1)) (hi : 2 ≤ i ∧ i < 7) (hv : nI (oln0 i) = v) (kk : Rn g l M R Q k n (pc + 1) ls (.int v :: st) Γ iv rv lv) : Rn g l M R Q k n pc ls (.ref i :: st) Γ iv rv lv := by
  intro p e s m args below meth c H locs lsC hG cx hR hlo' hls
  have kk := kk p e s m args below meth c H locs lsC hG cx hR hlo' hls
  obtain ⟨hx, hb, hr, hml, hown, hnm, hts, hlk, hwm⟩ := id cx
  obtain ⟨cell, h1, h2, h3, h4, h5, h6, h7⟩ := hG.2.2.2.1 i hi.1 hi.2
  rw [List.map_cons, cv_ref g (by omega), rho_old (by have : K0 = 14 := rfl; omega)]
  exact W.alen (n := v) hx hb (by rw [hR.2.2.1 _ (Nat.not_le.mp h7)]; exact h1) (State.isArrayOf_alike hwm.alike h2) (by rw [h5, ← hv]; rfl) rfl rfl hd kk
/-- the script -/
theorem rn_sald {x : Int32} (q : Nat) (hd : decode M.2.1 pc = .ok (.iaload, 1)) (hj : x = nI q) (hq : q < g.oln 1) (hl : g.oln 1 < 2 ^ 31) (kk : Rn g l M R Q k n (pc + 1) ls (.int (g.oiv 1 q) :: st) Γ iv rv lv) : Rn g l M R Q k n pc ls (.int x :: .ref 1 :: st) Γ iv rv lv := by
  intro p e s m args below meth c H locs lsC hG cx hR hlo' hls
  have kk := kk p e s m args below meth c H locs lsC hG cx hR hlo' hls
  obtain ⟨hx, hb, hr, hml, hown, hnm, hts, hlk, hwm⟩ := id cx
  obtain ⟨⟨scr, h1, h2, h3, h4, h5⟩, h6⟩ := hG.2.2.1
  obtain ⟨hin, hcl⟩ := in_of hj hq hl
  rw [List.map_cons, List.map_cons, cv_ref g (by omega), rho_old (by decide)]
  exact W.iald (v := .int (g.oiv 1 q)) hx hb (by rw [hR.2.2.1 _ h6]; exact h1) (State.isArrayOf_alike hwm.alike h2) h3 (by rw [h4]; exact hin) (by rw [hcl]; exact h5 q hq) rfl rfl hd kk
theorem rn_slen (v : Int32) (hd : decode M.2.1 pc = .ok (.arraylength, 1)) (hv : nI (g.oln 1) = v) (kk : Rn g l M R Q k n (pc + 1) ls (.int v :: st) Γ iv rv lv) : Rn g l M R Q k n pc ls (.ref 1 :: st) Γ iv rv lv := by
  intro p e s m args below meth c H locs lsC hG cx hR hlo' hls
  have kk := kk p e s m args below meth c H locs lsC hG cx hR hlo' hls
  obtain ⟨hx, hb, hr, hml, hown, hnm, hts, hlk, hwm⟩ := id cx
  obtain ⟨⟨scr, h1, h2, h3, h4, h5⟩, h6⟩ := hG.2.2.1
  rw [List.map_cons, cv_ref g (by omega), rho_old (by decide)]
  exact W.alen (n := v) hx hb (by rw [hR.2.2.1 _ h6]; exact h1) (State.isArrayOf_alike hwm.alike h2) (by rw [h4, ← hv]; rfl) rfl rfl hd kk
/-- Math -/
theorem rn_max {index : Nat} {x y : Int32} (hd : decode M.2.1 pc = .ok (.invokestatic index, 3)) (hl : Cond.methodLink M.1.cls index Lib.Math.max.name ∈ gtb) (hw : Cond.static Lib.Math.max.name ∈ gtb ∧ Cond.initialized "java/lang/Math" ∈ gtb ∧ Cond.code Lib.Math.max.name Lib.Math.max.code 2 (some .int) ∈ gtb) (hst : (st.map fun v => v.category).sum ≤ 8) (hf : 1 ≤ R.frames) (hlo : 100 ≤ R.locals) (hk : k ≤ R.cells) (hs : n ≤ R.slots)
    (kk : Rn g l M R Q k n (pc + 3) ls (.int (if x < y then y else x) :: st) Γ iv rv lv) : Rn g l M R Q k n pc ls (.int y :: .int x :: st) Γ iv rv lv := by
  intro p e s m args below meth c H locs lsC hG cx hR hlo' hls
  have kk := kk p e s m args below meth c H locs lsC hG cx hR hlo' hls
  obtain ⟨hx, hb, hr, hml, hown, hnm, hts, hlk, hwm⟩ := id cx
  exact va_mmax hx hb (by rw [hml, hls.1]) hown (hts _ hl) (hts _ hw.1) (hts _ hw.2.1) (hts _ hw.2.2) hf (by rw [cat_map]; omega) hk hs hd kk
theorem rn_min {index : Nat} {x y : Int32} (hd : decode M.2.1 pc = .ok (.invokestatic index, 3)) (hl : Cond.methodLink M.1.cls index Lib.Math.min.name ∈ gtb) (hw : Cond.static Lib.Math.min.name ∈ gtb ∧ Cond.initialized "java/lang/Math" ∈ gtb ∧ Cond.code Lib.Math.min.name Lib.Math.min.code 2 (some .int) ∈ gtb) (hst : (st.map fun v => v.category).sum ≤ 8) (hf : 1 ≤ R.frames) (hlo : 100 ≤ R.locals) (hk : k ≤ R.cells) (hs : n ≤ R.slots)
    (kk : Rn g l M R Q k n (pc + 3) ls (.int (if y < x then y else x) :: st) Γ iv rv lv) : Rn g l M R Q k n pc ls (.int y :: .int x :: st) Γ iv rv lv := by
  intro p e s m args below meth c H locs lsC hG cx hR hlo' hls
  have kk := kk p e s m args below meth c H locs lsC hG cx hR hlo' hls
  obtain ⟨hx, hb, hr, hml, hown, hnm, hts, hlk, hwm⟩ := id cx
  exact va_mmin hx hb (by rw [hml, hls.1]) hown (hts _ hl) (hts _ hw.1) (hts _ hw.2.1) (hts _ hw.2.2) hf (by rw [cat_map]; omega) hk hs hd kk
theorem rn_abs {index : Nat} {x : Int32} (hd : decode M.2.1 pc = .ok (.invokestatic index, 3)) (hl : Cond.methodLink M.1.cls index Lib.Math.abs.name ∈ gtb) (hw : Cond.static Lib.Math.abs.name ∈ gtb ∧ Cond.initialized "java/lang/Math" ∈ gtb ∧ Cond.code Lib.Math.abs.name Lib.Math.abs.code 1 (some .int) ∈ gtb) (hst : (st.map fun v => v.category).sum ≤ 8) (hf : 1 ≤ R.frames) (hlo : 100 ≤ R.locals) (hk : k ≤ R.cells) (hs : n ≤ R.slots)
    (kk : Rn g l M R Q k n (pc + 3) ls (.int (if 0 ≤ x then x else 0 - x) :: st) Γ iv rv lv) : Rn g l M R Q k n pc ls (.int x :: st) Γ iv rv lv := by
  intro p e s m args below meth c H locs lsC hG cx hR hlo' hls
  have kk := kk p e s m args below meth c H locs lsC hG cx hR hlo' hls
  obtain ⟨hx, hb, hr, hml, hown, hnm, hts, hlk, hwm⟩ := id cx
  exact va_mabs hx hb (by rw [hml, hls.1]) hown (hts _ hl) (hts _ hw.1) (hts _ hw.2.1) (hts _ hw.2.2) hf (by rw [cat_map]; omega) hk hs hd kk
end CALLR
