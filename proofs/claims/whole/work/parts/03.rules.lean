/-! RULES: goal first, an instruction a rule -/
section RULES
variable {g : GS} {l : Launch} {M : MI} {R : Room} {Q : Qt} {k n pc : Nat} {ls st : List Value} {Γ : Sh} {iv : IV} {rv : RV} {lv : LV}
theorem rn_iadd {x y : Int32} (hd : decode M.2.1 pc = .ok (.iadd, 1)) (kk : Rn g l M R Q k n (pc + 1) ls (.int (x + y) :: st) Γ iv rv lv) : Rn g l M R Q k n pc ls (.int y :: .int x :: st) Γ iv rv lv := by
  intro p e s m args below meth c H locs lsC hG cx hR hlo hls
  have kk := kk p e s m args below meth c H locs lsC hG cx hR hlo hls
  obtain ⟨hx, hb, hr, hml, hown, hnm, hts, hlk, hwm⟩ := id cx
  exact lv_iadd hx hb hd kk
theorem rn_isub {x y : Int32} (hd : decode M.2.1 pc = .ok (.isub, 1)) (kk : Rn g l M R Q k n (pc + 1) ls (.int (x - y) :: st) Γ iv rv lv) : Rn g l M R Q k n pc ls (.int y :: .int x :: st) Γ iv rv lv := by
  intro p e s m args below meth c H locs lsC hG cx hR hlo hls
  have kk := kk p e s m args below meth c H locs lsC hG cx hR hlo hls
  obtain ⟨hx, hb, hr, hml, hown, hnm, hts, hlk, hwm⟩ := id cx
  exact lv_isub hx hb hd kk
theorem rn_imul {x y : Int32} (hd : decode M.2.1 pc = .ok (.imul, 1)) (kk : Rn g l M R Q k n (pc + 1) ls (.int (x * y) :: st) Γ iv rv lv) : Rn g l M R Q k n pc ls (.int y :: .int x :: st) Γ iv rv lv := by
  intro p e s m args below meth c H locs lsC hG cx hR hlo hls
  have kk := kk p e s m args below meth c H locs lsC hG cx hR hlo hls
  obtain ⟨hx, hb, hr, hml, hown, hnm, hts, hlk, hwm⟩ := id cx
  exact lv_imul hx hb hd kk
theorem rn_iand {x y : Int32} (hd : decode M.2.1 pc = .ok (.iand, 1)) (kk : Rn g l M R Q k n (pc + 1) ls (.int (x &&& y) :: st) Γ iv rv lv) : Rn g l M R Q k n pc ls (.int y :: .int x :: st) Γ iv rv lv := by
  intro p e s m args below meth c H locs lsC hG cx hR hlo hls
  have kk := kk p e s m args below meth c H locs lsC hG cx hR hlo hls
  obtain ⟨hx, hb, hr, hml, hown, hnm, hts, hlk, hwm⟩ := id cx
  exact lv_iand hx hb hd kk
theorem rn_ior {x y : Int32} (hd : decode M.2.1 pc = .ok (.ior, 1)) (kk : Rn g l M R Q k n (pc + 1) ls (.int (x ||| y) :: st) Γ iv rv lv) : Rn g l M R Q k n pc ls (.int y :: .int x :: st) Γ iv rv lv := by
  intro p e s m args below meth c H locs lsC hG cx hR hlo hls
  have kk := kk p e s m args below meth c H locs lsC hG cx hR hlo hls
  obtain ⟨hx, hb, hr, hml, hown, hnm, hts, hlk, hwm⟩ := id cx
  exact lv_ior hx hb hd kk
theorem rn_idiv {x y : Int32} (hd : decode M.2.1 pc = .ok (.idiv, 1)) (hne : ¬ y = 0) (kk : Rn g l M R Q k n (pc + 1) ls (.int (x / y) :: st) Γ iv rv lv) : Rn g l M R Q k n pc ls (.int y :: .int x :: st) Γ iv rv lv := by
  intro p e s m args below meth c H locs lsC hG cx hR hlo hls
  have kk := kk p e s m args below meth c H locs lsC hG cx hR hlo hls
  obtain ⟨hx, hb, hr, hml, hown, hnm, hts, hlk, hwm⟩ := id cx
  exact lv_idiv hx hb hd hne kk
theorem rn_irem {x y : Int32} (hd : decode M.2.1 pc = .ok (.irem, 1)) (hne : ¬ y = 0) (kk : Rn g l M R Q k n (pc + 1) ls (.int (x - x / y * y) :: st) Γ iv rv lv) : Rn g l M R Q k n pc ls (.int y :: .int x :: st) Γ iv rv lv := by
  intro p e s m args below meth c H locs lsC hG cx hR hlo hls
  have kk := kk p e s m args below meth c H locs lsC hG cx hR hlo hls
  obtain ⟨hx, hb, hr, hml, hown, hnm, hts, hlk, hwm⟩ := id cx
  exact lv_irem hx hb hd hne kk
theorem rn_ineg {x : Int32} (hd : decode M.2.1 pc = .ok (.ineg, 1)) (kk : Rn g l M R Q k n (pc + 1) ls (.int (-x) :: st) Γ iv rv lv) : Rn g l M R Q k n pc ls (.int x :: st) Γ iv rv lv := by
  intro p e s m args below meth c H locs lsC hG cx hR hlo hls
  have kk := kk p e s m args below meth c H locs lsC hG cx hR hlo hls
  obtain ⟨hx, hb, hr, hml, hown, hnm, hts, hlk, hwm⟩ := id cx
  exact lv_ineg hx hb hd kk
theorem rn_ishl {x y : Int32} (hd : decode M.2.1 pc = .ok (.ishl, 1)) (kk : Rn g l M R Q k n (pc + 1) ls (.int (x <<< (y &&& 31)) :: st) Γ iv rv lv) : Rn g l M R Q k n pc ls (.int y :: .int x :: st) Γ iv rv lv := by
  intro p e s m args below meth c H locs lsC hG cx hR hlo hls
  have kk := kk p e s m args below meth c H locs lsC hG cx hR hlo hls
  obtain ⟨hx, hb, hr, hml, hown, hnm, hts, hlk, hwm⟩ := id cx
  exact lv_ishl hx hb hd kk
theorem rn_iushr {x y : Int32} (hd : decode M.2.1 pc = .ok (.iushr, 1)) (kk : Rn g l M R Q k n (pc + 1) ls (.int ((x.toUInt32 >>> (y.toUInt32 &&& Int32.toUInt32 31)).toInt32) :: st) Γ iv rv lv) : Rn g l M R Q k n pc ls (.int y :: .int x :: st) Γ iv rv lv := by
  intro p e s m args below meth c H locs lsC hG cx hR hlo hls
  have kk := kk p e s m args below meth c H locs lsC hG cx hR hlo hls
  obtain ⟨hx, hb, hr, hml, hown, hnm, hts, hlk, hwm⟩ := id cx
  exact lv_iushr hx hb hd rfl kk
theorem rn_ishr {x y : Int32} (hd : decode M.2.1 pc = .ok (.ishr, 1)) (kk : Rn g l M R Q k n (pc + 1) ls (.int (x >>> (y &&& 31)) :: st) Γ iv rv lv) : Rn g l M R Q k n pc ls (.int y :: .int x :: st) Γ iv rv lv := by
  intro p e s m args below meth c H locs lsC hG cx hR hlo hls
  have kk := kk p e s m args below meth c H locs lsC hG cx hR hlo hls
  obtain ⟨hx, hb, hr, hml, hown, hnm, hts, hlk, hwm⟩ := id cx
  exact lv_ishr hx hb hd kk
theorem rn_ladd {x y : Int64} (hd : decode M.2.1 pc = .ok (.ladd, 1)) (kk : Rn g l M R Q k n (pc + 1) ls (.long (x + y) :: st) Γ iv rv lv) : Rn g l M R Q k n pc ls (.long y :: .long x :: st) Γ iv rv lv := by
  intro p e s m args below meth c H locs lsC hG cx hR hlo hls
  have kk := kk p e s m args below meth c H locs lsC hG cx hR hlo hls
  obtain ⟨hx, hb, hr, hml, hown, hnm, hts, hlk, hwm⟩ := id cx
  exact lv_ladd hx hb hd kk
theorem rn_lsub {x y : Int64} (hd : decode M.2.1 pc = .ok (.lsub, 1)) (kk : Rn g l M R Q k n (pc + 1) ls (.long (x - y) :: st) Γ iv rv lv) : Rn g l M R Q k n pc ls (.long y :: .long x :: st) Γ iv rv lv := by
  intro p e s m args below meth c H locs lsC hG cx hR hlo hls
  have kk := kk p e s m args below meth c H locs lsC hG cx hR hlo hls
  obtain ⟨hx, hb, hr, hml, hown, hnm, hts, hlk, hwm⟩ := id cx
  exact lv_lsub hx hb hd kk
theorem rn_lmul {x y : Int64} (hd : decode M.2.1 pc = .ok (.lmul, 1)) (kk : Rn g l M R Q k n (pc + 1) ls (.long (x * y) :: st) Γ iv rv lv) : Rn g l M R Q k n pc ls (.long y :: .long x :: st) Γ iv rv lv := by
  intro p e s m args below meth c H locs lsC hG cx hR hlo hls
  have kk := kk p e s m args below meth c H locs lsC hG cx hR hlo hls
  obtain ⟨hx, hb, hr, hml, hown, hnm, hts, hlk, hwm⟩ := id cx
  exact lv_lmul hx hb hd kk
theorem rn_ldiv {x y : Int64} (hd : decode M.2.1 pc = .ok (.ldiv, 1)) (hne : ¬ y = 0) (kk : Rn g l M R Q k n (pc + 1) ls (.long (x / y) :: st) Γ iv rv lv) : Rn g l M R Q k n pc ls (.long y :: .long x :: st) Γ iv rv lv := by
  intro p e s m args below meth c H locs lsC hG cx hR hlo hls
  have kk := kk p e s m args below meth c H locs lsC hG cx hR hlo hls
  obtain ⟨hx, hb, hr, hml, hown, hnm, hts, hlk, hwm⟩ := id cx
  exact lv_ldiv hx hb hd hne kk
theorem rn_lrem {x y : Int64} (hd : decode M.2.1 pc = .ok (.lrem, 1)) (hne : ¬ y = 0) (kk : Rn g l M R Q k n (pc + 1) ls (.long (x - x / y * y) :: st) Γ iv rv lv) : Rn g l M R Q k n pc ls (.long y :: .long x :: st) Γ iv rv lv := by
  intro p e s m args below meth c H locs lsC hG cx hR hlo hls
  have kk := kk p e s m args below meth c H locs lsC hG cx hR hlo hls
  obtain ⟨hx, hb, hr, hml, hown, hnm, hts, hlk, hwm⟩ := id cx
  exact lv_lrem hx hb hd hne kk
theorem rn_lcmp {x y : Int64} (hd : decode M.2.1 pc = .ok (.lcmp, 1)) (kk : Rn g l M R Q k n (pc + 1) ls (.int (lg_cmp x y) :: st) Γ iv rv lv) : Rn g l M R Q k n pc ls (.long y :: .long x :: st) Γ iv rv lv := by
  intro p e s m args below meth c H locs lsC hG cx hR hlo hls
  have kk := kk p e s m args below meth c H locs lsC hG cx hR hlo hls
  obtain ⟨hx, hb, hr, hml, hown, hnm, hts, hlk, hwm⟩ := id cx
  exact W.lcmp hx hb hd kk
theorem rn_i2l {x : Int32} (hd : decode M.2.1 pc = .ok (.i2l, 1)) (kk : Rn g l M R Q k n (pc + 1) ls (.long x.toInt64 :: st) Γ iv rv lv) : Rn g l M R Q k n pc ls (.int x :: st) Γ iv rv lv := by
  intro p e s m args below meth c H locs lsC hG cx hR hlo hls
  have kk := kk p e s m args below meth c H locs lsC hG cx hR hlo hls
  obtain ⟨hx, hb, hr, hml, hown, hnm, hts, hlk, hwm⟩ := id cx
  exact lv_i2l hx hb hd rfl kk
theorem rn_l2i {x : Int64} (hd : decode M.2.1 pc = .ok (.l2i, 1)) (kk : Rn g l M R Q k n (pc + 1) ls (.int x.toInt32 :: st) Γ iv rv lv) : Rn g l M R Q k n pc ls (.long x :: st) Γ iv rv lv := by
  intro p e s m args below meth c H locs lsC hG cx hR hlo hls
  have kk := kk p e s m args below meth c H locs lsC hG cx hR hlo hls
  obtain ⟨hx, hb, hr, hml, hown, hnm, hts, hlk, hwm⟩ := id cx
  exact lv_l2i hx hb hd rfl kk
theorem rn_i2b {x : Int32} (hd : decode M.2.1 pc = .ok (.i2b, 1)) (kk : Rn g l M R Q k n (pc + 1) ls (.int x.toInt8.toInt32 :: st) Γ iv rv lv) : Rn g l M R Q k n pc ls (.int x :: st) Γ iv rv lv := by
  intro p e s m args below meth c H locs lsC hG cx hR hlo hls
  have kk := kk p e s m args below meth c H locs lsC hG cx hR hlo hls
  obtain ⟨hx, hb, hr, hml, hown, hnm, hts, hlk, hwm⟩ := id cx
  exact lv_i2b hx hb hd rfl kk
theorem rn_i2s {x : Int32} (hd : decode M.2.1 pc = .ok (.i2s, 1)) (kk : Rn g l M R Q k n (pc + 1) ls (.int x.toInt16.toInt32 :: st) Γ iv rv lv) : Rn g l M R Q k n pc ls (.int x :: st) Γ iv rv lv := by
  intro p e s m args below meth c H locs lsC hG cx hR hlo hls
  have kk := kk p e s m args below meth c H locs lsC hG cx hR hlo hls
  obtain ⟨hx, hb, hr, hml, hown, hnm, hts, hlk, hwm⟩ := id cx
  exact lv_i2s hx hb hd rfl kk
theorem rn_i2c {x : Int32} (hd : decode M.2.1 pc = .ok (.i2c, 1)) (kk : Rn g l M R Q k n (pc + 1) ls (.int (x.toUInt32 % 65536).toInt32 :: st) Γ iv rv lv) : Rn g l M R Q k n pc ls (.int x :: st) Γ iv rv lv := by
  intro p e s m args below meth c H locs lsC hG cx hR hlo hls
  have kk := kk p e s m args below meth c H locs lsC hG cx hR hlo hls
  obtain ⟨hx, hb, hr, hml, hown, hnm, hts, hlk, hwm⟩ := id cx
  exact lv_i2c hx hb hd rfl kk
theorem rn_iconst {z : Int} (v : Int32) (hd : decode M.2.1 pc = .ok (.iconst z, 1)) (hv : Int32.ofInt z = v) (kk : Rn g l M R Q k n (pc + 1) ls (.int v :: st) Γ iv rv lv) : Rn g l M R Q k n pc ls (st) Γ iv rv lv := by
  intro p e s m args below meth c H locs lsC hG cx hR hlo hls
  have kk := kk p e s m args below meth c H locs lsC hG cx hR hlo hls
  obtain ⟨hx, hb, hr, hml, hown, hnm, hts, hlk, hwm⟩ := id cx
  exact lv_iconst hx hb hd hv kk
theorem rn_bipush {z : Int} (v : Int32) (hd : decode M.2.1 pc = .ok (.bipush z, 2)) (hv : (Int8.ofInt z).toInt32 = v) (kk : Rn g l M R Q k n (pc + 2) ls (.int v :: st) Γ iv rv lv) : Rn g l M R Q k n pc ls (st) Γ iv rv lv := by
  intro p e s m args below meth c H locs lsC hG cx hR hlo hls
  have kk := kk p e s m args below meth c H locs lsC hG cx hR hlo hls
  obtain ⟨hx, hb, hr, hml, hown, hnm, hts, hlk, hwm⟩ := id cx
  exact lv_bipush hx hb hd hv kk
theorem rn_sipush {z : Int} (v : Int32) (hd : decode M.2.1 pc = .ok (.sipush z, 3)) (hv : (Int16.ofInt z).toInt32 = v) (kk : Rn g l M R Q k n (pc + 3) ls (.int v :: st) Γ iv rv lv) : Rn g l M R Q k n pc ls (st) Γ iv rv lv := by
  intro p e s m args below meth c H locs lsC hG cx hR hlo hls
  have kk := kk p e s m args below meth c H locs lsC hG cx hR hlo hls
  obtain ⟨hx, hb, hr, hml, hown, hnm, hts, hlk, hwm⟩ := id cx
  exact lv_sipush hx hb hd hv kk
theorem rn_lconst {z : Fin 2} (v : Int64) (hd : decode M.2.1 pc = .ok (.lconst z, 1)) (hv : Int64.ofNat (z : Nat) = v) (kk : Rn g l M R Q k n (pc + 1) ls (.long v :: st) Γ iv rv lv) : Rn g l M R Q k n pc ls (st) Γ iv rv lv := by
  intro p e s m args below meth c H locs lsC hG cx hR hlo hls
  have kk := kk p e s m args below meth c H locs lsC hG cx hR hlo hls
  obtain ⟨hx, hb, hr, hml, hown, hnm, hts, hlk, hwm⟩ := id cx
  exact lv_lconst hx hb hd hv kk
theorem rn_null  (hd : decode M.2.1 pc = .ok (.aconst_null, 1)) (kk : Rn g l M R Q k n (pc + 1) ls (.ref 0 :: st) Γ iv rv lv) : Rn g l M R Q k n pc ls (st) Γ iv rv lv := by
  intro p e s m args below meth c H locs lsC hG cx hR hlo hls
  have kk := kk p e s m args below meth c H locs lsC hG cx hR hlo hls
  obtain ⟨hx, hb, hr, hml, hown, hnm, hts, hlk, hwm⟩ := id cx
  exact lv_null hx hb hd kk
theorem rn_dup {v : Value} (hd : decode M.2.1 pc = .ok (.dup, 1)) (hc : v.category = 1) (kk : Rn g l M R Q k n (pc + 1) ls (v :: v :: st) Γ iv rv lv) : Rn g l M R Q k n pc ls (v :: st) Γ iv rv lv := by
  intro p e s m args below meth c H locs lsC hG cx hR hlo hls
  have kk := kk p e s m args below meth c H locs lsC hG cx hR hlo hls
  obtain ⟨hx, hb, hr, hml, hown, hnm, hts, hlk, hwm⟩ := id cx
  exact lv_dup hx hb hd (by rw [cv_cat]; exact hc) kk
theorem rn_pop {v : Value} (hd : decode M.2.1 pc = .ok (.pop, 1)) (hc : v.category = 1) (kk : Rn g l M R Q k n (pc + 1) ls (st) Γ iv rv lv) : Rn g l M R Q k n pc ls (v :: st) Γ iv rv lv := by
  intro p e s m args below meth c H locs lsC hG cx hR hlo hls
  have kk := kk p e s m args below meth c H locs lsC hG cx hR hlo hls
  obtain ⟨hx, hb, hr, hml, hown, hnm, hts, hlk, hwm⟩ := id cx
  exact lv_pop hx hb hd (by rw [cv_cat]; exact hc) kk
theorem rn_dup2 {v w : Value} (hd : decode M.2.1 pc = .ok (.dup2, 1)) (hc : v.category = 1) (hc2 : w.category = 1) (kk : Rn g l M R Q k n (pc + 1) ls (v :: w :: v :: w :: st) Γ iv rv lv) : Rn g l M R Q k n pc ls (v :: w :: st) Γ iv rv lv := by
  intro p e s m args below meth c H locs lsC hG cx hR hlo hls
  have kk := kk p e s m args below meth c H locs lsC hG cx hR hlo hls
  obtain ⟨hx, hb, hr, hml, hown, hnm, hts, hlk, hwm⟩ := id cx
  exact lv_dup2_11 hx hb hd (by rw [cv_cat]; exact hc) (by rw [cv_cat]; exact hc2) kk
theorem rn_ldc {index : Nat} {v : Int32} (hd : decode M.2.1 pc = .ok (.ldc index, 2)) (hw : Cond.constant M.1.cls index v ∈ gtb) (kk : Rn g l M R Q k n (pc + 2) ls (.int v :: st) Γ iv rv lv) : Rn g l M R Q k n pc ls (st) Γ iv rv lv := by
  intro p e s m args below meth c H locs lsC hG cx hR hlo hls
  have kk := kk p e s m args below meth c H locs lsC hG cx hR hlo hls
  obtain ⟨hx, hb, hr, hml, hown, hnm, hts, hlk, hwm⟩ := id cx
  exact lv_ldc hx hb hown (hts _ hw) hd kk
theorem rn_ldcw {index : Nat} {v : Int32} (hd : decode M.2.1 pc = .ok (.ldc_w index, 3)) (hw : Cond.constant M.1.cls index v ∈ gtb) (kk : Rn g l M R Q k n (pc + 3) ls (.int v :: st) Γ iv rv lv) : Rn g l M R Q k n pc ls (st) Γ iv rv lv := by
  intro p e s m args below meth c H locs lsC hG cx hR hlo hls
  have kk := kk p e s m args below meth c H locs lsC hG cx hR hlo hls
  obtain ⟨hx, hb, hr, hml, hown, hnm, hts, hlk, hwm⟩ := id cx
  exact lv_ldcw hx hb hown (hts _ hw) hd kk
theorem rn_ldc2 {index : Nat} {v : Int64} (hd : decode M.2.1 pc = .ok (.ldc2_w index, 3)) (hw : Cond.constantLong M.1.cls index v ∈ gtb) (kk : Rn g l M R Q k n (pc + 3) ls (.long v :: st) Γ iv rv lv) : Rn g l M R Q k n pc ls (st) Γ iv rv lv := by
  intro p e s m args below meth c H locs lsC hG cx hR hlo hls
  have kk := kk p e s m args below meth c H locs lsC hG cx hR hlo hls
  obtain ⟨hx, hb, hr, hml, hown, hnm, hts, hlk, hwm⟩ := id cx
  exact lv_ldc2 hx hb hown (hts _ hw) hd kk
theorem rn_if_eq {x : Int32} {off : Int} (tgt : Nat) (hd : decode M.2.1 pc = .ok (.ifCond .eq off, 3)) (ht : (pc : Int) + off = (tgt : Int)) (kt : x = 0 → Rn g l M R Q k n tgt ls st Γ iv rv lv) (kf : ¬ (x = 0) → Rn g l M R Q k n (pc + 3) ls st Γ iv rv lv) : Rn g l M R Q k n pc ls (.int x :: st) Γ iv rv lv := by
  intro p e s m args below meth c H locs lsC hG cx hR hlo hls
  obtain ⟨hx, hb, hr, hml, hown, hnm, hts, hlk, hwm⟩ := id cx
  refine lv_if_eq hx hb hd ht (fun h => kt ?_ p e s m args below meth c H locs lsC hG cx hR hlo hls) (fun h => kf ?_ p e s m args below meth c H locs lsC hG cx hR hlo hls) <;> first | exact h | exact Decidable.not_not.mp h
theorem rn_icmp_eq {x y : Int32} {off : Int} (tgt : Nat) (hd : decode M.2.1 pc = .ok (.if_icmp .eq off, 3)) (ht : (pc : Int) + off = (tgt : Int)) (kt : x = y → Rn g l M R Q k n tgt ls st Γ iv rv lv) (kf : ¬ (x = y) → Rn g l M R Q k n (pc + 3) ls st Γ iv rv lv) : Rn g l M R Q k n pc ls (.int y :: .int x :: st) Γ iv rv lv := by
  intro p e s m args below meth c H locs lsC hG cx hR hlo hls
  obtain ⟨hx, hb, hr, hml, hown, hnm, hts, hlk, hwm⟩ := id cx
  refine lv_icmp_eq hx hb hd ht (fun h => kt ?_ p e s m args below meth c H locs lsC hG cx hR hlo hls) (fun h => kf ?_ p e s m args below meth c H locs lsC hG cx hR hlo hls) <;> first | exact h | exact Decidable.not_not.mp h
theorem rn_if_ne {x : Int32} {off : Int} (tgt : Nat) (hd : decode M.2.1 pc = .ok (.ifCond .ne off, 3)) (ht : (pc : Int) + off = (tgt : Int)) (kt : ¬ x = 0 → Rn g l M R Q k n tgt ls st Γ iv rv lv) (kf : x = 0 → Rn g l M R Q k n (pc + 3) ls st Γ iv rv lv) : Rn g l M R Q k n pc ls (.int x :: st) Γ iv rv lv := by
  intro p e s m args below meth c H locs lsC hG cx hR hlo hls
  obtain ⟨hx, hb, hr, hml, hown, hnm, hts, hlk, hwm⟩ := id cx
  refine lv_if_ne hx hb hd ht (fun h => kt ?_ p e s m args below meth c H locs lsC hG cx hR hlo hls) (fun h => kf ?_ p e s m args below meth c H locs lsC hG cx hR hlo hls) <;> first | exact h | exact Decidable.not_not.mp h
theorem rn_icmp_ne {x y : Int32} {off : Int} (tgt : Nat) (hd : decode M.2.1 pc = .ok (.if_icmp .ne off, 3)) (ht : (pc : Int) + off = (tgt : Int)) (kt : ¬ x = y → Rn g l M R Q k n tgt ls st Γ iv rv lv) (kf : x = y → Rn g l M R Q k n (pc + 3) ls st Γ iv rv lv) : Rn g l M R Q k n pc ls (.int y :: .int x :: st) Γ iv rv lv := by
  intro p e s m args below meth c H locs lsC hG cx hR hlo hls
  obtain ⟨hx, hb, hr, hml, hown, hnm, hts, hlk, hwm⟩ := id cx
  refine lv_icmp_ne hx hb hd ht (fun h => kt ?_ p e s m args below meth c H locs lsC hG cx hR hlo hls) (fun h => kf ?_ p e s m args below meth c H locs lsC hG cx hR hlo hls) <;> first | exact h | exact Decidable.not_not.mp h
theorem rn_if_lt {x : Int32} {off : Int} (tgt : Nat) (hd : decode M.2.1 pc = .ok (.ifCond .lt off, 3)) (ht : (pc : Int) + off = (tgt : Int)) (kt : x < 0 → Rn g l M R Q k n tgt ls st Γ iv rv lv) (kf : ¬ (x < 0) → Rn g l M R Q k n (pc + 3) ls st Γ iv rv lv) : Rn g l M R Q k n pc ls (.int x :: st) Γ iv rv lv := by
  intro p e s m args below meth c H locs lsC hG cx hR hlo hls
  obtain ⟨hx, hb, hr, hml, hown, hnm, hts, hlk, hwm⟩ := id cx
  refine lv_if_lt hx hb hd ht (fun h => kt ?_ p e s m args below meth c H locs lsC hG cx hR hlo hls) (fun h => kf ?_ p e s m args below meth c H locs lsC hG cx hR hlo hls) <;> first | exact h | exact Decidable.not_not.mp h
theorem rn_icmp_lt {x y : Int32} {off : Int} (tgt : Nat) (hd : decode M.2.1 pc = .ok (.if_icmp .lt off, 3)) (ht : (pc : Int) + off = (tgt : Int)) (kt : x < y → Rn g l M R Q k n tgt ls st Γ iv rv lv) (kf : ¬ (x < y) → Rn g l M R Q k n (pc + 3) ls st Γ iv rv lv) : Rn g l M R Q k n pc ls (.int y :: .int x :: st) Γ iv rv lv := by
  intro p e s m args below meth c H locs lsC hG cx hR hlo hls
  obtain ⟨hx, hb, hr, hml, hown, hnm, hts, hlk, hwm⟩ := id cx
  refine lv_icmp_lt hx hb hd ht (fun h => kt ?_ p e s m args below meth c H locs lsC hG cx hR hlo hls) (fun h => kf ?_ p e s m args below meth c H locs lsC hG cx hR hlo hls) <;> first | exact h | exact Decidable.not_not.mp h
theorem rn_if_ge {x : Int32} {off : Int} (tgt : Nat) (hd : decode M.2.1 pc = .ok (.ifCond .ge off, 3)) (ht : (pc : Int) + off = (tgt : Int)) (kt : 0 ≤ x → Rn g l M R Q k n tgt ls st Γ iv rv lv) (kf : ¬ (0 ≤ x) → Rn g l M R Q k n (pc + 3) ls st Γ iv rv lv) : Rn g l M R Q k n pc ls (.int x :: st) Γ iv rv lv := by
  intro p e s m args below meth c H locs lsC hG cx hR hlo hls
  obtain ⟨hx, hb, hr, hml, hown, hnm, hts, hlk, hwm⟩ := id cx
  refine lv_if_ge hx hb hd ht (fun h => kt ?_ p e s m args below meth c H locs lsC hG cx hR hlo hls) (fun h => kf ?_ p e s m args below meth c H locs lsC hG cx hR hlo hls) <;> first | exact h | exact Decidable.not_not.mp h
theorem rn_icmp_ge {x y : Int32} {off : Int} (tgt : Nat) (hd : decode M.2.1 pc = .ok (.if_icmp .ge off, 3)) (ht : (pc : Int) + off = (tgt : Int)) (kt : y ≤ x → Rn g l M R Q k n tgt ls st Γ iv rv lv) (kf : ¬ (y ≤ x) → Rn g l M R Q k n (pc + 3) ls st Γ iv rv lv) : Rn g l M R Q k n pc ls (.int y :: .int x :: st) Γ iv rv lv := by
  intro p e s m args below meth c H locs lsC hG cx hR hlo hls
  obtain ⟨hx, hb, hr, hml, hown, hnm, hts, hlk, hwm⟩ := id cx
  refine lv_icmp_ge hx hb hd ht (fun h => kt ?_ p e s m args below meth c H locs lsC hG cx hR hlo hls) (fun h => kf ?_ p e s m args below meth c H locs lsC hG cx hR hlo hls) <;> first | exact h | exact Decidable.not_not.mp h
theorem rn_if_gt {x : Int32} {off : Int} (tgt : Nat) (hd : decode M.2.1 pc = .ok (.ifCond .gt off, 3)) (ht : (pc : Int) + off = (tgt : Int)) (kt : 0 < x → Rn g l M R Q k n tgt ls st Γ iv rv lv) (kf : ¬ (0 < x) → Rn g l M R Q k n (pc + 3) ls st Γ iv rv lv) : Rn g l M R Q k n pc ls (.int x :: st) Γ iv rv lv := by
  intro p e s m args below meth c H locs lsC hG cx hR hlo hls
  obtain ⟨hx, hb, hr, hml, hown, hnm, hts, hlk, hwm⟩ := id cx
  refine lv_if_gt hx hb hd ht (fun h => kt ?_ p e s m args below meth c H locs lsC hG cx hR hlo hls) (fun h => kf ?_ p e s m args below meth c H locs lsC hG cx hR hlo hls) <;> first | exact h | exact Decidable.not_not.mp h
theorem rn_icmp_gt {x y : Int32} {off : Int} (tgt : Nat) (hd : decode M.2.1 pc = .ok (.if_icmp .gt off, 3)) (ht : (pc : Int) + off = (tgt : Int)) (kt : y < x → Rn g l M R Q k n tgt ls st Γ iv rv lv) (kf : ¬ (y < x) → Rn g l M R Q k n (pc + 3) ls st Γ iv rv lv) : Rn g l M R Q k n pc ls (.int y :: .int x :: st) Γ iv rv lv := by
  intro p e s m args below meth c H locs lsC hG cx hR hlo hls
  obtain ⟨hx, hb, hr, hml, hown, hnm, hts, hlk, hwm⟩ := id cx
  refine lv_icmp_gt hx hb hd ht (fun h => kt ?_ p e s m args below meth c H locs lsC hG cx hR hlo hls) (fun h => kf ?_ p e s m args below meth c H locs lsC hG cx hR hlo hls) <;> first | exact h | exact Decidable.not_not.mp h
theorem rn_if_le {x : Int32} {off : Int} (tgt : Nat) (hd : decode M.2.1 pc = .ok (.ifCond .le off, 3)) (ht : (pc : Int) + off = (tgt : Int)) (kt : x ≤ 0 → Rn g l M R Q k n tgt ls st Γ iv rv lv) (kf : ¬ (x ≤ 0) → Rn g l M R Q k n (pc + 3) ls st Γ iv rv lv) : Rn g l M R Q k n pc ls (.int x :: st) Γ iv rv lv := by
  intro p e s m args below meth c H locs lsC hG cx hR hlo hls
  obtain ⟨hx, hb, hr, hml, hown, hnm, hts, hlk, hwm⟩ := id cx
  refine lv_if_le hx hb hd ht (fun h => kt ?_ p e s m args below meth c H locs lsC hG cx hR hlo hls) (fun h => kf ?_ p e s m args below meth c H locs lsC hG cx hR hlo hls) <;> first | exact h | exact Decidable.not_not.mp h
theorem rn_icmp_le {x y : Int32} {off : Int} (tgt : Nat) (hd : decode M.2.1 pc = .ok (.if_icmp .le off, 3)) (ht : (pc : Int) + off = (tgt : Int)) (kt : x ≤ y → Rn g l M R Q k n tgt ls st Γ iv rv lv) (kf : ¬ (x ≤ y) → Rn g l M R Q k n (pc + 3) ls st Γ iv rv lv) : Rn g l M R Q k n pc ls (.int y :: .int x :: st) Γ iv rv lv := by
  intro p e s m args below meth c H locs lsC hG cx hR hlo hls
  obtain ⟨hx, hb, hr, hml, hown, hnm, hts, hlk, hwm⟩ := id cx
  refine lv_icmp_le hx hb hd ht (fun h => kt ?_ p e s m args below meth c H locs lsC hG cx hR hlo hls) (fun h => kf ?_ p e s m args below meth c H locs lsC hG cx hR hlo hls) <;> first | exact h | exact Decidable.not_not.mp h
theorem rn_goto {off : Int} (tgt : Nat) (hd : decode M.2.1 pc = .ok (.goto off, 3)) (ht : (pc : Int) + off = (tgt : Int)) (kk : Rn g l M R Q k n tgt ls st Γ iv rv lv) : Rn g l M R Q k n pc ls st Γ iv rv lv := by
  intro p e s m args below meth c H locs lsC hG cx hR hlo hls
  have kk := kk p e s m args below meth c H locs lsC hG cx hR hlo hls
  obtain ⟨hx, hb, hr, hml, hown, hnm, hts, hlk, hwm⟩ := id cx
  exact lv_goto hx hb hd ht kk
theorem rn_ifnull {i : Nat} {off : Int} (tgt : Nat) (hd : decode M.2.1 pc = .ok (.ifnull off, 3)) (ht : (pc : Int) + off = (tgt : Int)) (kt : i = 0 → Rn g l M R Q k n tgt ls st Γ iv rv lv) (kf : ¬ (i = 0) → Rn g l M R Q k n (pc + 3) ls st Γ iv rv lv) : Rn g l M R Q k n pc ls (.ref i :: st) Γ iv rv lv := by
  intro p e s m args below meth c H locs lsC hG cx hR hlo hls
  obtain ⟨hx, hb, hr, hml, hown, hnm, hts, hlk, hwm⟩ := id cx
  by_cases hz : i = 0
  · subst hz
    exact lv_ifnullN hx hb hd ht (kt rfl p e s m args below meth c H locs lsC hG cx hR hlo hls)
  · rw [List.map_cons, cv_ref g (by omega)]
    exact lv_ifnull hx hb hd (kf hz p e s m args below meth c H locs lsC hG cx hR hlo hls)
theorem rn_ifnonnull {i : Nat} {off : Int} (tgt : Nat) (hd : decode M.2.1 pc = .ok (.ifnonnull off, 3)) (ht : (pc : Int) + off = (tgt : Int)) (kt : ¬ i = 0 → Rn g l M R Q k n tgt ls st Γ iv rv lv) (kf : ¬ (¬ i = 0) → Rn g l M R Q k n (pc + 3) ls st Γ iv rv lv) : Rn g l M R Q k n pc ls (.ref i :: st) Γ iv rv lv := by
  intro p e s m args below meth c H locs lsC hG cx hR hlo hls
  obtain ⟨hx, hb, hr, hml, hown, hnm, hts, hlk, hwm⟩ := id cx
  by_cases hz : i = 0
  · subst hz
    exact lv_ifnonnullN hx hb hd (kf (fun h => h rfl) p e s m args below meth c H locs lsC hG cx hR hlo hls)
  · rw [List.map_cons, cv_ref g (by omega)]
    exact lv_ifnonnull hx hb hd ht (kt hz p e s m args below meth c H locs lsC hG cx hR hlo hls)
theorem rn_tableOut {dflt lo hi : Int} {offs : Array Int} {len : Nat} {x : Int32} (tgt : Nat) (hd : decode M.2.1 pc = .ok (.tableswitch dflt lo hi offs, len)) (h : x.toInt < lo ∨ hi < x.toInt) (ht : (pc : Int) + dflt = (tgt : Int)) (kk : Rn g l M R Q k n tgt ls st Γ iv rv lv) : Rn g l M R Q k n pc ls (.int x :: st) Γ iv rv lv := by
  intro p e s m args below meth c H locs lsC hG cx hR hlo hls
  have kk := kk p e s m args below meth c H locs lsC hG cx hR hlo hls
  obtain ⟨hx, hb, hr, hml, hown, hnm, hts, hlk, hwm⟩ := id cx
  exact lv_tableOut hx hb hd h ht kk
theorem rn_tableIn {dflt lo hi : Int} {offs : Array Int} {len : Nat} {x : Int32} {off : Int} (tgt : Nat) (hd : decode M.2.1 pc = .ok (.tableswitch dflt lo hi offs, len)) (h1 : ¬ x.toInt < lo) (h2 : ¬ hi < x.toInt) (ho : offs[(x.toInt - lo).toNat]? = some off) (ht : (pc : Int) + off = (tgt : Int)) (kk : Rn g l M R Q k n tgt ls st Γ iv rv lv) : Rn g l M R Q k n pc ls (.int x :: st) Γ iv rv lv := by
  intro p e s m args below meth c H locs lsC hG cx hR hlo hls
  have kk := kk p e s m args below meth c H locs lsC hG cx hR hlo hls
  obtain ⟨hx, hb, hr, hml, hown, hnm, hts, hlk, hwm⟩ := id cx
  exact lv_tableIn hx hb hd h1 h2 ho ht kk
theorem rn_iload_n {i : Nat} {q : Fin 4} {x : Int32} (hd : decode M.2.1 pc = .ok (.iload_n q, 1)) (hi : (q : Nat) = i) (hv : ls[i]? = some (.int x)) (kk : Rn g l M R Q k n (pc + 1) ls (.int x :: st) Γ iv rv lv) : Rn g l M R Q k n pc ls st Γ iv rv lv := by
  intro p e s m args below meth c H locs lsC hG cx hR hlo hls
  have kk := kk p e s m args below meth c H locs lsC hG cx hR hlo hls
  obtain ⟨hx, hb, hr, hml, hown, hnm, hts, hlk, hwm⟩ := id cx
  exact lv_iload_n hx hb hd hi (hls.at hv rfl) kk
theorem rn_iload {i : Nat}  {x : Int32} (hd : decode M.2.1 pc = .ok (.iload i, 2)) (hv : ls[i]? = some (.int x)) (kk : Rn g l M R Q k n (pc + 2) ls (.int x :: st) Γ iv rv lv) : Rn g l M R Q k n pc ls st Γ iv rv lv := by
  intro p e s m args below meth c H locs lsC hG cx hR hlo hls
  have kk := kk p e s m args below meth c H locs lsC hG cx hR hlo hls
  obtain ⟨hx, hb, hr, hml, hown, hnm, hts, hlk, hwm⟩ := id cx
  exact lv_iload hx hb hd (hls.at hv rfl) kk
theorem rn_istore_n {i : Nat} {q : Fin 4} {x : Int32} (hd : decode M.2.1 pc = .ok (.istore_n q, 1)) (hi : (q : Nat) = i) (hn : i < ls.length) (hp : ∀ w, ls[i - 1]? = some w → 0 < i → w.category = 1) (kk : Rn g l M R Q k n (pc + 1) (ls.set i (.int x)) st Γ iv rv lv) : Rn g l M R Q k n pc ls (.int x :: st) Γ iv rv lv := by
  intro p e s m args below meth c H locs lsC hG cx hR hlo hls
  obtain ⟨hx, hb, hr, hml, hown, hnm, hts, hlk, hwm⟩ := id cx
  exact lv_istore_n hx hb hd hi hls.has (Nat.lt_of_lt_of_le hn hls.2.2.1) rfl (fun ls2 h => kk p e s m args below meth c H locs ls2 hG cx hR hlo (hls.store (v := .int x) hp h))
theorem rn_istore {i : Nat}  {x : Int32} (hd : decode M.2.1 pc = .ok (.istore i, 2)) (hn : i < ls.length) (hp : ∀ w, ls[i - 1]? = some w → 0 < i → w.category = 1) (kk : Rn g l M R Q k n (pc + 2) (ls.set i (.int x)) st Γ iv rv lv) : Rn g l M R Q k n pc ls (.int x :: st) Γ iv rv lv := by
  intro p e s m args below meth c H locs lsC hG cx hR hlo hls
  obtain ⟨hx, hb, hr, hml, hown, hnm, hts, hlk, hwm⟩ := id cx
  exact lv_istore hx hb hd hls.has (Nat.lt_of_lt_of_le hn hls.2.2.1) rfl (fun ls2 h => kk p e s m args below meth c H locs ls2 hG cx hR hlo (hls.store (v := .int x) hp h))
theorem rn_lload_n {i : Nat} {q : Fin 4} {x : Int64} (hd : decode M.2.1 pc = .ok (.lload_n q, 1)) (hi : (q : Nat) = i) (hv : ls[i]? = some (.long x)) (kk : Rn g l M R Q k n (pc + 1) ls (.long x :: st) Γ iv rv lv) : Rn g l M R Q k n pc ls st Γ iv rv lv := by
  intro p e s m args below meth c H locs lsC hG cx hR hlo hls
  have kk := kk p e s m args below meth c H locs lsC hG cx hR hlo hls
  obtain ⟨hx, hb, hr, hml, hown, hnm, hts, hlk, hwm⟩ := id cx
  exact lv_lload_n hx hb hd hi (hls.at hv rfl) kk
theorem rn_lload {i : Nat}  {x : Int64} (hd : decode M.2.1 pc = .ok (.lload i, 2)) (hv : ls[i]? = some (.long x)) (kk : Rn g l M R Q k n (pc + 2) ls (.long x :: st) Γ iv rv lv) : Rn g l M R Q k n pc ls st Γ iv rv lv := by
  intro p e s m args below meth c H locs lsC hG cx hR hlo hls
  have kk := kk p e s m args below meth c H locs lsC hG cx hR hlo hls
  obtain ⟨hx, hb, hr, hml, hown, hnm, hts, hlk, hwm⟩ := id cx
  exact lv_lload hx hb hd (hls.at hv rfl) kk
theorem rn_lstore_n {i : Nat} {q : Fin 4} {x : Int64} (hd : decode M.2.1 pc = .ok (.lstore_n q, 1)) (hi : (q : Nat) = i) (hn : i + 1 < ls.length) (hp : ∀ w, ls[i - 1]? = some w → 0 < i → w.category = 1) (kk : Rn g l M R Q k n (pc + 1) ((ls.set i (.long x)).set (i + 1) (.retAddr 0)) st Γ iv rv lv) : Rn g l M R Q k n pc ls (.long x :: st) Γ iv rv lv := by
  intro p e s m args below meth c H locs lsC hG cx hR hlo hls
  obtain ⟨hx, hb, hr, hml, hown, hnm, hts, hlk, hwm⟩ := id cx
  exact lv_lstore_n hx hb hd hi hls.has (Nat.lt_of_lt_of_le hn hls.2.2.1) rfl (fun ls2 h => kk p e s m args below meth c H locs ls2 hG cx hR hlo (hls.store2 (v := .long x) (z := 0) hp h))
theorem rn_lstore {i : Nat}  {x : Int64} (hd : decode M.2.1 pc = .ok (.lstore i, 2)) (hn : i + 1 < ls.length) (hp : ∀ w, ls[i - 1]? = some w → 0 < i → w.category = 1) (kk : Rn g l M R Q k n (pc + 2) ((ls.set i (.long x)).set (i + 1) (.retAddr 0)) st Γ iv rv lv) : Rn g l M R Q k n pc ls (.long x :: st) Γ iv rv lv := by
  intro p e s m args below meth c H locs lsC hG cx hR hlo hls
  obtain ⟨hx, hb, hr, hml, hown, hnm, hts, hlk, hwm⟩ := id cx
  exact lv_lstore hx hb hd hls.has (Nat.lt_of_lt_of_le hn hls.2.2.1) rfl (fun ls2 h => kk p e s m args below meth c H locs ls2 hG cx hR hlo (hls.store2 (v := .long x) (z := 0) hp h))
theorem rn_aload_n {i : Nat} {q : Fin 4} {x : Nat} (hd : decode M.2.1 pc = .ok (.aload_n q, 1)) (hi : (q : Nat) = i) (hv : ls[i]? = some (.ref x)) (kk : Rn g l M R Q k n (pc + 1) ls (.ref x :: st) Γ iv rv lv) : Rn g l M R Q k n pc ls st Γ iv rv lv := by
  intro p e s m args below meth c H locs lsC hG cx hR hlo hls
  have kk := kk p e s m args below meth c H locs lsC hG cx hR hlo hls
  obtain ⟨hx, hb, hr, hml, hown, hnm, hts, hlk, hwm⟩ := id cx
  by_cases hz : x = 0
  · subst hz
    exact lv_aload_nN hx hb hd hi (hls.at hv rfl) kk
  · have h1 := hls.at hv rfl
    rw [List.map_cons, cv_ref g (by omega)] at kk
    rw [cv_ref g (by omega)] at h1
    exact lv_aload_n hx hb hd hi h1 kk
theorem rn_aload {i : Nat}  {x : Nat} (hd : decode M.2.1 pc = .ok (.aload i, 2)) (hv : ls[i]? = some (.ref x)) (kk : Rn g l M R Q k n (pc + 2) ls (.ref x :: st) Γ iv rv lv) : Rn g l M R Q k n pc ls st Γ iv rv lv := by
  intro p e s m args below meth c H locs lsC hG cx hR hlo hls
  have kk := kk p e s m args below meth c H locs lsC hG cx hR hlo hls
  obtain ⟨hx, hb, hr, hml, hown, hnm, hts, hlk, hwm⟩ := id cx
  by_cases hz : x = 0
  · subst hz
    exact lv_aloadN hx hb hd (hls.at hv rfl) kk
  · have h1 := hls.at hv rfl
    rw [List.map_cons, cv_ref g (by omega)] at kk
    rw [cv_ref g (by omega)] at h1
    exact lv_aload hx hb hd h1 kk
theorem rn_astore_n {i : Nat} {q : Fin 4} {x : Nat} (hd : decode M.2.1 pc = .ok (.astore_n q, 1)) (hi : (q : Nat) = i) (hn : i < ls.length) (hp : ∀ w, ls[i - 1]? = some w → 0 < i → w.category = 1) (kk : Rn g l M R Q k n (pc + 1) (ls.set i (.ref x)) st Γ iv rv lv) : Rn g l M R Q k n pc ls (.ref x :: st) Γ iv rv lv := by
  intro p e s m args below meth c H locs lsC hG cx hR hlo hls
  obtain ⟨hx, hb, hr, hml, hown, hnm, hts, hlk, hwm⟩ := id cx
  by_cases hz : x = 0
  · subst hz
    exact lv_astore_nN hx hb hd hi hls.has (Nat.lt_of_lt_of_le hn hls.2.2.1) rfl (fun ls2 h => kk p e s m args below meth c H locs ls2 hG cx hR hlo (hls.store (v := .ref 0) hp h))
  · rw [List.map_cons, cv_ref g (by omega)]
    refine lv_astore_n hx hb hd hi hls.has (Nat.lt_of_lt_of_le hn hls.2.2.1) rfl (fun ls2 h => ?_)
    rw [← cv_ref g (by omega)] at h
    exact kk p e s m args below meth c H locs ls2 hG cx hR hlo (hls.store (v := .ref x) hp h)
theorem rn_astore {i : Nat}  {x : Nat} (hd : decode M.2.1 pc = .ok (.astore i, 2)) (hn : i < ls.length) (hp : ∀ w, ls[i - 1]? = some w → 0 < i → w.category = 1) (kk : Rn g l M R Q k n (pc + 2) (ls.set i (.ref x)) st Γ iv rv lv) : Rn g l M R Q k n pc ls (.ref x :: st) Γ iv rv lv := by
  intro p e s m args below meth c H locs lsC hG cx hR hlo hls
  obtain ⟨hx, hb, hr, hml, hown, hnm, hts, hlk, hwm⟩ := id cx
  by_cases hz : x = 0
  · subst hz
    exact lv_astoreN hx hb hd hls.has (Nat.lt_of_lt_of_le hn hls.2.2.1) rfl (fun ls2 h => kk p e s m args below meth c H locs ls2 hG cx hR hlo (hls.store (v := .ref 0) hp h))
  · rw [List.map_cons, cv_ref g (by omega)]
    refine lv_astore hx hb hd hls.has (Nat.lt_of_lt_of_le hn hls.2.2.1) rfl (fun ls2 h => ?_)
    rw [← cv_ref g (by omega)] at h
    exact kk p e s m args below meth c H locs ls2 hG cx hR hlo (hls.store (v := .ref x) hp h)
theorem prs_get {ls : List Value} {i : Nat} {x : Int32} (hv : ls[i]? = some (.int x)) : ∃ q : Nat, (prs g 0 ls)[q]? = some (i, Value.int x) := by
  have h : ((i, Value.int x) : Nat × Value) ∈ prs g 0 ls := mem_prs.mpr ⟨i, Value.int x, hv, rfl, by simp [cv]⟩
  exact List.getElem?_of_mem h
theorem rn_iinc {i : Nat} {z : Int} {x : Int32} (v : Int32) (hd : decode M.2.1 pc = .ok (.iinc i z, 3)) (hx' : ls[i]? = some (.int x)) (hv : x + Int32.ofInt z = v) (hp : ∀ w, ls[i - 1]? = some w → 0 < i → w.category = 1) (kk : Rn g l M R Q k n (pc + 3) (ls.set i (.int v)) st Γ iv rv lv) : Rn g l M R Q k n pc ls st Γ iv rv lv := by
  intro p e s m args below meth c H locs lsC hG cx hR hlo hls
  obtain ⟨hx, hb, hr, hml, hown, hnm, hts, hlk, hwm⟩ := id cx
  obtain ⟨q, hq⟩ := prs_get (g := g) hx'
  exact lv_iinc hx hb hd hls.has hq hv (Nat.lt_of_lt_of_le (List.getElem?_eq_some_iff.mp hx').1 hls.2.2.1) rfl (fun ls2 h => kk p e s m args below meth c H locs ls2 hG cx hR hlo (hls.store (v := .int v) hp h))
theorem r_iload0 {r : List Value} {x : Int32} (hd : decode M.2.1 pc = .ok (.iload_n 0, 1)) (kk : Rn g l M R Q k n (pc + 1) (.int x :: r) (.int x :: st) Γ iv rv lv) : Rn g l M R Q k n pc (.int x :: r) st Γ iv rv lv := rn_iload_n (i := 0) hd rfl rfl kk
theorem r_istore0 {b0 : Value} {r : List Value} {x : Int32} (hd : decode M.2.1 pc = .ok (.istore_n 0, 1)) (kk : Rn g l M R Q k n (pc + 1) (.int x :: r) st Γ iv rv lv) : Rn g l M R Q k n pc (b0 :: r) (.int x :: st) Γ iv rv lv := rn_istore_n (i := 0) hd rfl (by simp) (fun w _ h => by cases h) kk
theorem r_lload0 {r : List Value} {x : Int64} (hd : decode M.2.1 pc = .ok (.lload_n 0, 1)) (kk : Rn g l M R Q k n (pc + 1) (.long x :: r) (.long x :: st) Γ iv rv lv) : Rn g l M R Q k n pc (.long x :: r) st Γ iv rv lv := rn_lload_n (i := 0) hd rfl rfl kk
theorem r_lstore0 {b0 b1 : Value} {r : List Value} {x : Int64} (hd : decode M.2.1 pc = .ok (.lstore_n 0, 1)) (kk : Rn g l M R Q k n (pc + 1) (.long x :: .retAddr 0 :: r) st Γ iv rv lv) : Rn g l M R Q k n pc (b0 :: b1 :: r) (.long x :: st) Γ iv rv lv := rn_lstore_n (i := 0) hd rfl (by simp) (fun w _ h => by cases h) kk
theorem r_aload0 {r : List Value} {x : Nat} (hd : decode M.2.1 pc = .ok (.aload_n 0, 1)) (kk : Rn g l M R Q k n (pc + 1) (.ref x :: r) (.ref x :: st) Γ iv rv lv) : Rn g l M R Q k n pc (.ref x :: r) st Γ iv rv lv := rn_aload_n (i := 0) hd rfl rfl kk
theorem r_astore0 {b0 : Value} {r : List Value} {x : Nat} (hd : decode M.2.1 pc = .ok (.astore_n 0, 1)) (kk : Rn g l M R Q k n (pc + 1) (.ref x :: r) st Γ iv rv lv) : Rn g l M R Q k n pc (b0 :: r) (.ref x :: st) Γ iv rv lv := rn_astore_n (i := 0) hd rfl (by simp) (fun w _ h => by cases h) kk
theorem r_iinc0 {r : List Value} {x : Int32} {z : Int} (v : Int32) (hd : decode M.2.1 pc = .ok (.iinc 0 z, 3)) (hv : x + Int32.ofInt z = v) (kk : Rn g l M R Q k n (pc + 3) (.int v :: r) st Γ iv rv lv) : Rn g l M R Q k n pc (.int x :: r) st Γ iv rv lv := rn_iinc (i := 0) v hd rfl hv (fun w _ h => by cases h) kk
theorem r_iload1 {a0 : Value} {r : List Value} {x : Int32} (hd : decode M.2.1 pc = .ok (.iload_n 1, 1)) (kk : Rn g l M R Q k n (pc + 1) (a0 :: .int x :: r) (.int x :: st) Γ iv rv lv) : Rn g l M R Q k n pc (a0 :: .int x :: r) st Γ iv rv lv := rn_iload_n (i := 1) hd rfl rfl kk
theorem r_istore1 {a0 : Value} {b0 : Value} {r : List Value} {x : Int32} (hd : decode M.2.1 pc = .ok (.istore_n 1, 1)) (hc : a0.category = 1) (kk : Rn g l M R Q k n (pc + 1) (a0 :: .int x :: r) st Γ iv rv lv) : Rn g l M R Q k n pc (a0 :: b0 :: r) (.int x :: st) Γ iv rv lv := rn_istore_n (i := 1) hd rfl (by simp) (fun w h _ => by cases h; exact hc) kk
theorem r_lload1 {a0 : Value} {r : List Value} {x : Int64} (hd : decode M.2.1 pc = .ok (.lload_n 1, 1)) (kk : Rn g l M R Q k n (pc + 1) (a0 :: .long x :: r) (.long x :: st) Γ iv rv lv) : Rn g l M R Q k n pc (a0 :: .long x :: r) st Γ iv rv lv := rn_lload_n (i := 1) hd rfl rfl kk
theorem r_lstore1 {a0 : Value} {b0 b1 : Value} {r : List Value} {x : Int64} (hd : decode M.2.1 pc = .ok (.lstore_n 1, 1)) (hc : a0.category = 1) (kk : Rn g l M R Q k n (pc + 1) (a0 :: .long x :: .retAddr 0 :: r) st Γ iv rv lv) : Rn g l M R Q k n pc (a0 :: b0 :: b1 :: r) (.long x :: st) Γ iv rv lv := rn_lstore_n (i := 1) hd rfl (by simp) (fun w h _ => by cases h; exact hc) kk
theorem r_aload1 {a0 : Value} {r : List Value} {x : Nat} (hd : decode M.2.1 pc = .ok (.aload_n 1, 1)) (kk : Rn g l M R Q k n (pc + 1) (a0 :: .ref x :: r) (.ref x :: st) Γ iv rv lv) : Rn g l M R Q k n pc (a0 :: .ref x :: r) st Γ iv rv lv := rn_aload_n (i := 1) hd rfl rfl kk
theorem r_astore1 {a0 : Value} {b0 : Value} {r : List Value} {x : Nat} (hd : decode M.2.1 pc = .ok (.astore_n 1, 1)) (hc : a0.category = 1) (kk : Rn g l M R Q k n (pc + 1) (a0 :: .ref x :: r) st Γ iv rv lv) : Rn g l M R Q k n pc (a0 :: b0 :: r) (.ref x :: st) Γ iv rv lv := rn_astore_n (i := 1) hd rfl (by simp) (fun w h _ => by cases h; exact hc) kk
theorem r_iinc1 {a0 : Value} {r : List Value} {x : Int32} {z : Int} (v : Int32) (hd : decode M.2.1 pc = .ok (.iinc 1 z, 3)) (hv : x + Int32.ofInt z = v) (hc : a0.category = 1) (kk : Rn g l M R Q k n (pc + 3) (a0 :: .int v :: r) st Γ iv rv lv) : Rn g l M R Q k n pc (a0 :: .int x :: r) st Γ iv rv lv := rn_iinc (i := 1) v hd rfl hv (fun w h _ => by cases h; exact hc) kk
theorem r_iload2 {a0 a1 : Value} {r : List Value} {x : Int32} (hd : decode M.2.1 pc = .ok (.iload_n 2, 1)) (kk : Rn g l M R Q k n (pc + 1) (a0 :: a1 :: .int x :: r) (.int x :: st) Γ iv rv lv) : Rn g l M R Q k n pc (a0 :: a1 :: .int x :: r) st Γ iv rv lv := rn_iload_n (i := 2) hd rfl rfl kk
theorem r_istore2 {a0 a1 : Value} {b0 : Value} {r : List Value} {x : Int32} (hd : decode M.2.1 pc = .ok (.istore_n 2, 1)) (hc : a1.category = 1) (kk : Rn g l M R Q k n (pc + 1) (a0 :: a1 :: .int x :: r) st Γ iv rv lv) : Rn g l M R Q k n pc (a0 :: a1 :: b0 :: r) (.int x :: st) Γ iv rv lv := rn_istore_n (i := 2) hd rfl (by simp) (fun w h _ => by cases h; exact hc) kk
theorem r_lload2 {a0 a1 : Value} {r : List Value} {x : Int64} (hd : decode M.2.1 pc = .ok (.lload_n 2, 1)) (kk : Rn g l M R Q k n (pc + 1) (a0 :: a1 :: .long x :: r) (.long x :: st) Γ iv rv lv) : Rn g l M R Q k n pc (a0 :: a1 :: .long x :: r) st Γ iv rv lv := rn_lload_n (i := 2) hd rfl rfl kk
theorem r_lstore2 {a0 a1 : Value} {b0 b1 : Value} {r : List Value} {x : Int64} (hd : decode M.2.1 pc = .ok (.lstore_n 2, 1)) (hc : a1.category = 1) (kk : Rn g l M R Q k n (pc + 1) (a0 :: a1 :: .long x :: .retAddr 0 :: r) st Γ iv rv lv) : Rn g l M R Q k n pc (a0 :: a1 :: b0 :: b1 :: r) (.long x :: st) Γ iv rv lv := rn_lstore_n (i := 2) hd rfl (by simp) (fun w h _ => by cases h; exact hc) kk
theorem r_aload2 {a0 a1 : Value} {r : List Value} {x : Nat} (hd : decode M.2.1 pc = .ok (.aload_n 2, 1)) (kk : Rn g l M R Q k n (pc + 1) (a0 :: a1 :: .ref x :: r) (.ref x :: st) Γ iv rv lv) : Rn g l M R Q k n pc (a0 :: a1 :: .ref x :: r) st Γ iv rv lv := rn_aload_n (i := 2) hd rfl rfl kk
theorem r_astore2 {a0 a1 : Value} {b0 : Value} {r : List Value} {x : Nat} (hd : decode M.2.1 pc = .ok (.astore_n 2, 1)) (hc : a1.category = 1) (kk : Rn g l M R Q k n (pc + 1) (a0 :: a1 :: .ref x :: r) st Γ iv rv lv) : Rn g l M R Q k n pc (a0 :: a1 :: b0 :: r) (.ref x :: st) Γ iv rv lv := rn_astore_n (i := 2) hd rfl (by simp) (fun w h _ => by cases h; exact hc) kk
theorem r_iinc2 {a0 a1 : Value} {r : List Value} {x : Int32} {z : Int} (v : Int32) (hd : decode M.2.1 pc = .ok (.iinc 2 z, 3)) (hv : x + Int32.ofInt z = v) (hc : a1.category = 1) (kk : Rn g l M R Q k n (pc + 3) (a0 :: a1 :: .int v :: r) st Γ iv rv lv) : Rn g l M R Q k n pc (a0 :: a1 :: .int x :: r) st Γ iv rv lv := rn_iinc (i := 2) v hd rfl hv (fun w h _ => by cases h; exact hc) kk
theorem r_iload3 {a0 a1 a2 : Value} {r : List Value} {x : Int32} (hd : decode M.2.1 pc = .ok (.iload_n 3, 1)) (kk : Rn g l M R Q k n (pc + 1) (a0 :: a1 :: a2 :: .int x :: r) (.int x :: st) Γ iv rv lv) : Rn g l M R Q k n pc (a0 :: a1 :: a2 :: .int x :: r) st Γ iv rv lv := rn_iload_n (i := 3) hd rfl rfl kk
theorem r_istore3 {a0 a1 a2 : Value} {b0 : Value} {r : List Value} {x : Int32} (hd : decode M.2.1 pc = .ok (.istore_n 3, 1)) (hc : a2.category = 1) (kk : Rn g l M R Q k n (pc + 1) (a0 :: a1 :: a2 :: .int x :: r) st Γ iv rv lv) : Rn g l M R Q k n pc (a0 :: a1 :: a2 :: b0 :: r) (.int x :: st) Γ iv rv lv := rn_istore_n (i := 3) hd rfl (by simp) (fun w h _ => by cases h; exact hc) kk
theorem r_lload3 {a0 a1 a2 : Value} {r : List Value} {x : Int64} (hd : decode M.2.1 pc = .ok (.lload_n 3, 1)) (kk : Rn g l M R Q k n (pc + 1) (a0 :: a1 :: a2 :: .long x :: r) (.long x :: st) Γ iv rv lv) : Rn g l M R Q k n pc (a0 :: a1 :: a2 :: .long x :: r) st Γ iv rv lv := rn_lload_n (i := 3) hd rfl rfl kk
theorem r_lstore3 {a0 a1 a2 : Value} {b0 b1 : Value} {r : List Value} {x : Int64} (hd : decode M.2.1 pc = .ok (.lstore_n 3, 1)) (hc : a2.category = 1) (kk : Rn g l M R Q k n (pc + 1) (a0 :: a1 :: a2 :: .long x :: .retAddr 0 :: r) st Γ iv rv lv) : Rn g l M R Q k n pc (a0 :: a1 :: a2 :: b0 :: b1 :: r) (.long x :: st) Γ iv rv lv := rn_lstore_n (i := 3) hd rfl (by simp) (fun w h _ => by cases h; exact hc) kk
theorem r_aload3 {a0 a1 a2 : Value} {r : List Value} {x : Nat} (hd : decode M.2.1 pc = .ok (.aload_n 3, 1)) (kk : Rn g l M R Q k n (pc + 1) (a0 :: a1 :: a2 :: .ref x :: r) (.ref x :: st) Γ iv rv lv) : Rn g l M R Q k n pc (a0 :: a1 :: a2 :: .ref x :: r) st Γ iv rv lv := rn_aload_n (i := 3) hd rfl rfl kk
theorem r_astore3 {a0 a1 a2 : Value} {b0 : Value} {r : List Value} {x : Nat} (hd : decode M.2.1 pc = .ok (.astore_n 3, 1)) (hc : a2.category = 1) (kk : Rn g l M R Q k n (pc + 1) (a0 :: a1 :: a2 :: .ref x :: r) st Γ iv rv lv) : Rn g l M R Q k n pc (a0 :: a1 :: a2 :: b0 :: r) (.ref x :: st) Γ iv rv lv := rn_astore_n (i := 3) hd rfl (by simp) (fun w h _ => by cases h; exact hc) kk
theorem r_iinc3 {a0 a1 a2 : Value} {r : List Value} {x : Int32} {z : Int} (v : Int32) (hd : decode M.2.1 pc = .ok (.iinc 3 z, 3)) (hv : x + Int32.ofInt z = v) (hc : a2.category = 1) (kk : Rn g l M R Q k n (pc + 3) (a0 :: a1 :: a2 :: .int v :: r) st Γ iv rv lv) : Rn g l M R Q k n pc (a0 :: a1 :: a2 :: .int x :: r) st Γ iv rv lv := rn_iinc (i := 3) v hd rfl hv (fun w h _ => by cases h; exact hc) kk
theorem r_iload4 {a0 a1 a2 a3 : Value} {r : List Value} {x : Int32} (hd : decode M.2.1 pc = .ok (.iload 4, 2)) (kk : Rn g l M R Q k n (pc + 2) (a0 :: a1 :: a2 :: a3 :: .int x :: r) (.int x :: st) Γ iv rv lv) : Rn g l M R Q k n pc (a0 :: a1 :: a2 :: a3 :: .int x :: r) st Γ iv rv lv := rn_iload (i := 4) hd rfl kk
theorem r_istore4 {a0 a1 a2 a3 : Value} {b0 : Value} {r : List Value} {x : Int32} (hd : decode M.2.1 pc = .ok (.istore 4, 2)) (hc : a3.category = 1) (kk : Rn g l M R Q k n (pc + 2) (a0 :: a1 :: a2 :: a3 :: .int x :: r) st Γ iv rv lv) : Rn g l M R Q k n pc (a0 :: a1 :: a2 :: a3 :: b0 :: r) (.int x :: st) Γ iv rv lv := rn_istore (i := 4) hd (by simp) (fun w h _ => by cases h; exact hc) kk
theorem r_lload4 {a0 a1 a2 a3 : Value} {r : List Value} {x : Int64} (hd : decode M.2.1 pc = .ok (.lload 4, 2)) (kk : Rn g l M R Q k n (pc + 2) (a0 :: a1 :: a2 :: a3 :: .long x :: r) (.long x :: st) Γ iv rv lv) : Rn g l M R Q k n pc (a0 :: a1 :: a2 :: a3 :: .long x :: r) st Γ iv rv lv := rn_lload (i := 4) hd rfl kk
theorem r_lstore4 {a0 a1 a2 a3 : Value} {b0 b1 : Value} {r : List Value} {x : Int64} (hd : decode M.2.1 pc = .ok (.lstore 4, 2)) (hc : a3.category = 1) (kk : Rn g l M R Q k n (pc + 2) (a0 :: a1 :: a2 :: a3 :: .long x :: .retAddr 0 :: r) st Γ iv rv lv) : Rn g l M R Q k n pc (a0 :: a1 :: a2 :: a3 :: b0 :: b1 :: r) (.long x :: st) Γ iv rv lv := rn_lstore (i := 4) hd (by simp) (fun w h _ => by cases h; exact hc) kk
theorem r_aload4 {a0 a1 a2 a3 : Value} {r : List Value} {x : Nat} (hd : decode M.2.1 pc = .ok (.aload 4, 2)) (kk : Rn g l M R Q k n (pc + 2) (a0 :: a1 :: a2 :: a3 :: .ref x :: r) (.ref x :: st) Γ iv rv lv) : Rn g l M R Q k n pc (a0 :: a1 :: a2 :: a3 :: .ref x :: r) st Γ iv rv lv := rn_aload (i := 4) hd rfl kk
theorem r_astore4 {a0 a1 a2 a3 : Value} {b0 : Value} {r : List Value} {x : Nat} (hd : decode M.2.1 pc = .ok (.astore 4, 2)) (hc : a3.category = 1) (kk : Rn g l M R Q k n (pc + 2) (a0 :: a1 :: a2 :: a3 :: .ref x :: r) st Γ iv rv lv) : Rn g l M R Q k n pc (a0 :: a1 :: a2 :: a3 :: b0 :: r) (.ref x :: st) Γ iv rv lv := rn_astore (i := 4) hd (by simp) (fun w h _ => by cases h; exact hc) kk
theorem r_iinc4 {a0 a1 a2 a3 : Value} {r : List Value} {x : Int32} {z : Int} (v : Int32) (hd : decode M.2.1 pc = .ok (.iinc 4 z, 3)) (hv : x + Int32.ofInt z = v) (hc : a3.category = 1) (kk : Rn g l M R Q k n (pc + 3) (a0 :: a1 :: a2 :: a3 :: .int v :: r) st Γ iv rv lv) : Rn g l M R Q k n pc (a0 :: a1 :: a2 :: a3 :: .int x :: r) st Γ iv rv lv := rn_iinc (i := 4) v hd rfl hv (fun w h _ => by cases h; exact hc) kk
theorem r_iload5 {a0 a1 a2 a3 a4 : Value} {r : List Value} {x : Int32} (hd : decode M.2.1 pc = .ok (.iload 5, 2)) (kk : Rn g l M R Q k n (pc + 2) (a0 :: a1 :: a2 :: a3 :: a4 :: .int x :: r) (.int x :: st) Γ iv rv lv) : Rn g l M R Q k n pc (a0 :: a1 :: a2 :: a3 :: a4 :: .int x :: r) st Γ iv rv lv := rn_iload (i := 5) hd rfl kk
theorem r_istore5 {a0 a1 a2 a3 a4 : Value} {b0 : Value} {r : List Value} {x : Int32} (hd : decode M.2.1 pc = .ok (.istore 5, 2)) (hc : a4.category = 1) (kk : Rn g l M R Q k n (pc + 2) (a0 :: a1 :: a2 :: a3 :: a4 :: .int x :: r) st Γ iv rv lv) : Rn g l M R Q k n pc (a0 :: a1 :: a2 :: a3 :: a4 :: b0 :: r) (.int x :: st) Γ iv rv lv := rn_istore (i := 5) hd (by simp) (fun w h _ => by cases h; exact hc) kk
theorem r_lload5 {a0 a1 a2 a3 a4 : Value} {r : List Value} {x : Int64} (hd : decode M.2.1 pc = .ok (.lload 5, 2)) (kk : Rn g l M R Q k n (pc + 2) (a0 :: a1 :: a2 :: a3 :: a4 :: .long x :: r) (.long x :: st) Γ iv rv lv) : Rn g l M R Q k n pc (a0 :: a1 :: a2 :: a3 :: a4 :: .long x :: r) st Γ iv rv lv := rn_lload (i := 5) hd rfl kk
theorem r_lstore5 {a0 a1 a2 a3 a4 : Value} {b0 b1 : Value} {r : List Value} {x : Int64} (hd : decode M.2.1 pc = .ok (.lstore 5, 2)) (hc : a4.category = 1) (kk : Rn g l M R Q k n (pc + 2) (a0 :: a1 :: a2 :: a3 :: a4 :: .long x :: .retAddr 0 :: r) st Γ iv rv lv) : Rn g l M R Q k n pc (a0 :: a1 :: a2 :: a3 :: a4 :: b0 :: b1 :: r) (.long x :: st) Γ iv rv lv := rn_lstore (i := 5) hd (by simp) (fun w h _ => by cases h; exact hc) kk
theorem r_aload5 {a0 a1 a2 a3 a4 : Value} {r : List Value} {x : Nat} (hd : decode M.2.1 pc = .ok (.aload 5, 2)) (kk : Rn g l M R Q k n (pc + 2) (a0 :: a1 :: a2 :: a3 :: a4 :: .ref x :: r) (.ref x :: st) Γ iv rv lv) : Rn g l M R Q k n pc (a0 :: a1 :: a2 :: a3 :: a4 :: .ref x :: r) st Γ iv rv lv := rn_aload (i := 5) hd rfl kk
theorem r_astore5 {a0 a1 a2 a3 a4 : Value} {b0 : Value} {r : List Value} {x : Nat} (hd : decode M.2.1 pc = .ok (.astore 5, 2)) (hc : a4.category = 1) (kk : Rn g l M R Q k n (pc + 2) (a0 :: a1 :: a2 :: a3 :: a4 :: .ref x :: r) st Γ iv rv lv) : Rn g l M R Q k n pc (a0 :: a1 :: a2 :: a3 :: a4 :: b0 :: r) (.ref x :: st) Γ iv rv lv := rn_astore (i := 5) hd (by simp) (fun w h _ => by cases h; exact hc) kk
theorem r_iinc5 {a0 a1 a2 a3 a4 : Value} {r : List Value} {x : Int32} {z : Int} (v : Int32) (hd : decode M.2.1 pc = .ok (.iinc 5 z, 3)) (hv : x + Int32.ofInt z = v) (hc : a4.category = 1) (kk : Rn g l M R Q k n (pc + 3) (a0 :: a1 :: a2 :: a3 :: a4 :: .int v :: r) st Γ iv rv lv) : Rn g l M R Q k n pc (a0 :: a1 :: a2 :: a3 :: a4 :: .int x :: r) st Γ iv rv lv := rn_iinc (i := 5) v hd rfl hv (fun w h _ => by cases h; exact hc) kk
theorem r_iload6 {a0 a1 a2 a3 a4 a5 : Value} {r : List Value} {x : Int32} (hd : decode M.2.1 pc = .ok (.iload 6, 2)) (kk : Rn g l M R Q k n (pc + 2) (a0 :: a1 :: a2 :: a3 :: a4 :: a5 :: .int x :: r) (.int x :: st) Γ iv rv lv) : Rn g l M R Q k n pc (a0 :: a1 :: a2 :: a3 :: a4 :: a5 :: .int x :: r) st Γ iv rv lv := rn_iload (i := 6) hd rfl kk
theorem r_istore6 {a0 a1 a2 a3 a4 a5 : Value} {b0 : Value} {r : List Value} {x : Int32} (hd : decode M.2.1 pc = .ok (.istore 6, 2)) (hc : a5.category = 1) (kk : Rn g l M R Q k n (pc + 2) (a0 :: a1 :: a2 :: a3 :: a4 :: a5 :: .int x :: r) st Γ iv rv lv) : Rn g l M R Q k n pc (a0 :: a1 :: a2 :: a3 :: a4 :: a5 :: b0 :: r) (.int x :: st) Γ iv rv lv := rn_istore (i := 6) hd (by simp) (fun w h _ => by cases h; exact hc) kk
theorem r_lload6 {a0 a1 a2 a3 a4 a5 : Value} {r : List Value} {x : Int64} (hd : decode M.2.1 pc = .ok (.lload 6, 2)) (kk : Rn g l M R Q k n (pc + 2) (a0 :: a1 :: a2 :: a3 :: a4 :: a5 :: .long x :: r) (.long x :: st) Γ iv rv lv) : Rn g l M R Q k n pc (a0 :: a1 :: a2 :: a3 :: a4 :: a5 :: .long x :: r) st Γ iv rv lv := rn_lload (i := 6) hd rfl kk
theorem r_lstore6 {a0 a1 a2 a3 a4 a5 : Value} {b0 b1 : Value} {r : List Value} {x : Int64} (hd : decode M.2.1 pc = .ok (.lstore 6, 2)) (hc : a5.category = 1) (kk : Rn g l M R Q k n (pc + 2) (a0 :: a1 :: a2 :: a3 :: a4 :: a5 :: .long x :: .retAddr 0 :: r) st Γ iv rv lv) : Rn g l M R Q k n pc (a0 :: a1 :: a2 :: a3 :: a4 :: a5 :: b0 :: b1 :: r) (.long x :: st) Γ iv rv lv := rn_lstore (i := 6) hd (by simp) (fun w h _ => by cases h; exact hc) kk
theorem r_aload6 {a0 a1 a2 a3 a4 a5 : Value} {r : List Value} {x : Nat} (hd : decode M.2.1 pc = .ok (.aload 6, 2)) (kk : Rn g l M R Q k n (pc + 2) (a0 :: a1 :: a2 :: a3 :: a4 :: a5 :: .ref x :: r) (.ref x :: st) Γ iv rv lv) : Rn g l M R Q k n pc (a0 :: a1 :: a2 :: a3 :: a4 :: a5 :: .ref x :: r) st Γ iv rv lv := rn_aload (i := 6) hd rfl kk
theorem r_astore6 {a0 a1 a2 a3 a4 a5 : Value} {b0 : Value} {r : List Value} {x : Nat} (hd : decode M.2.1 pc = .ok (.astore 6, 2)) (hc : a5.category = 1) (kk : Rn g l M R Q k n (pc + 2) (a0 :: a1 :: a2 :: a3 :: a4 :: a5 :: .ref x :: r) st Γ iv rv lv) : Rn g l M R Q k n pc (a0 :: a1 :: a2 :: a3 :: a4 :: a5 :: b0 :: r) (.ref x :: st) Γ iv rv lv := rn_astore (i := 6) hd (by simp) (fun w h _ => by cases h; exact hc) kk
theorem r_iinc6 {a0 a1 a2 a3 a4 a5 : Value} {r : List Value} {x : Int32} {z : Int} (v : Int32) (hd : decode M.2.1 pc = .ok (.iinc 6 z, 3)) (hv : x + Int32.ofInt z = v) (hc : a5.category = 1) (kk : Rn g l M R Q k n (pc + 3) (a0 :: a1 :: a2 :: a3 :: a4 :: a5 :: .int v :: r) st Γ iv rv lv) : Rn g l M R Q k n pc (a0 :: a1 :: a2 :: a3 :: a4 :: a5 :: .int x :: r) st Γ iv rv lv := rn_iinc (i := 6) v hd rfl hv (fun w h _ => by cases h; exact hc) kk
theorem r_iload7 {a0 a1 a2 a3 a4 a5 a6 : Value} {r : List Value} {x : Int32} (hd : decode M.2.1 pc = .ok (.iload 7, 2)) (kk : Rn g l M R Q k n (pc + 2) (a0 :: a1 :: a2 :: a3 :: a4 :: a5 :: a6 :: .int x :: r) (.int x :: st) Γ iv rv lv) : Rn g l M R Q k n pc (a0 :: a1 :: a2 :: a3 :: a4 :: a5 :: a6 :: .int x :: r) st Γ iv rv lv := rn_iload (i := 7) hd rfl kk
theorem r_istore7 {a0 a1 a2 a3 a4 a5 a6 : Value} {b0 : Value} {r : List Value} {x : Int32} (hd : decode M.2.1 pc = .ok (.istore 7, 2)) (hc : a6.category = 1) (kk : Rn g l M R Q k n (pc + 2) (a0 :: a1 :: a2 :: a3 :: a4 :: a5 :: a6 :: .int x :: r) st Γ iv rv lv) : Rn g l M R Q k n pc (a0 :: a1 :: a2 :: a3 :: a4 :: a5 :: a6 :: b0 :: r) (.int x :: st) Γ iv rv lv := rn_istore (i := 7) hd (by simp) (fun w h _ => by cases h; exact hc) kk
theorem r_lload7 {a0 a1 a2 a3 a4 a5 a6 : Value} {r : List Value} {x : Int64} (hd : decode M.2.1 pc = .ok (.lload 7, 2)) (kk : Rn g l M R Q k n (pc + 2) (a0 :: a1 :: a2 :: a3 :: a4 :: a5 :: a6 :: .long x :: r) (.long x :: st) Γ iv rv lv) : Rn g l M R Q k n pc (a0 :: a1 :: a2 :: a3 :: a4 :: a5 :: a6 :: .long x :: r) st Γ iv rv lv := rn_lload (i := 7) hd rfl kk
theorem r_lstore7 {a0 a1 a2 a3 a4 a5 a6 : Value} {b0 b1 : Value} {r : List Value} {x : Int64} (hd : decode M.2.1 pc = .ok (.lstore 7, 2)) (hc : a6.category = 1) (kk : Rn g l M R Q k n (pc + 2) (a0 :: a1 :: a2 :: a3 :: a4 :: a5 :: a6 :: .long x :: .retAddr 0 :: r) st Γ iv rv lv) : Rn g l M R Q k n pc (a0 :: a1 :: a2 :: a3 :: a4 :: a5 :: a6 :: b0 :: b1 :: r) (.long x :: st) Γ iv rv lv := rn_lstore (i := 7) hd (by simp) (fun w h _ => by cases h; exact hc) kk
theorem r_aload7 {a0 a1 a2 a3 a4 a5 a6 : Value} {r : List Value} {x : Nat} (hd : decode M.2.1 pc = .ok (.aload 7, 2)) (kk : Rn g l M R Q k n (pc + 2) (a0 :: a1 :: a2 :: a3 :: a4 :: a5 :: a6 :: .ref x :: r) (.ref x :: st) Γ iv rv lv) : Rn g l M R Q k n pc (a0 :: a1 :: a2 :: a3 :: a4 :: a5 :: a6 :: .ref x :: r) st Γ iv rv lv := rn_aload (i := 7) hd rfl kk
theorem r_astore7 {a0 a1 a2 a3 a4 a5 a6 : Value} {b0 : Value} {r : List Value} {x : Nat} (hd : decode M.2.1 pc = .ok (.astore 7, 2)) (hc : a6.category = 1) (kk : Rn g l M R Q k n (pc + 2) (a0 :: a1 :: a2 :: a3 :: a4 :: a5 :: a6 :: .ref x :: r) st Γ iv rv lv) : Rn g l M R Q k n pc (a0 :: a1 :: a2 :: a3 :: a4 :: a5 :: a6 :: b0 :: r) (.ref x :: st) Γ iv rv lv := rn_astore (i := 7) hd (by simp) (fun w h _ => by cases h; exact hc) kk
theorem r_iinc7 {a0 a1 a2 a3 a4 a5 a6 : Value} {r : List Value} {x : Int32} {z : Int} (v : Int32) (hd : decode M.2.1 pc = .ok (.iinc 7 z, 3)) (hv : x + Int32.ofInt z = v) (hc : a6.category = 1) (kk : Rn g l M R Q k n (pc + 3) (a0 :: a1 :: a2 :: a3 :: a4 :: a5 :: a6 :: .int v :: r) st Γ iv rv lv) : Rn g l M R Q k n pc (a0 :: a1 :: a2 :: a3 :: a4 :: a5 :: a6 :: .int x :: r) st Γ iv rv lv := rn_iinc (i := 7) v hd rfl hv (fun w h _ => by cases h; exact hc) kk
theorem r_iload8 {a0 a1 a2 a3 a4 a5 a6 a7 : Value} {r : List Value} {x : Int32} (hd : decode M.2.1 pc = .ok (.iload 8, 2)) (kk : Rn g l M R Q k n (pc + 2) (a0 :: a1 :: a2 :: a3 :: a4 :: a5 :: a6 :: a7 :: .int x :: r) (.int x :: st) Γ iv rv lv) : Rn g l M R Q k n pc (a0 :: a1 :: a2 :: a3 :: a4 :: a5 :: a6 :: a7 :: .int x :: r) st Γ iv rv lv := rn_iload (i := 8) hd rfl kk
theorem r_istore8 {a0 a1 a2 a3 a4 a5 a6 a7 : Value} {b0 : Value} {r : List Value} {x : Int32} (hd : decode M.2.1 pc = .ok (.istore 8, 2)) (hc : a7.category = 1) (kk : Rn g l M R Q k n (pc + 2) (a0 :: a1 :: a2 :: a3 :: a4 :: a5 :: a6 :: a7 :: .int x :: r) st Γ iv rv lv) : Rn g l M R Q k n pc (a0 :: a1 :: a2 :: a3 :: a4 :: a5 :: a6 :: a7 :: b0 :: r) (.int x :: st) Γ iv rv lv := rn_istore (i := 8) hd (by simp) (fun w h _ => by cases h; exact hc) kk
theorem r_lload8 {a0 a1 a2 a3 a4 a5 a6 a7 : Value} {r : List Value} {x : Int64} (hd : decode M.2.1 pc = .ok (.lload 8, 2)) (kk : Rn g l M R Q k n (pc + 2) (a0 :: a1 :: a2 :: a3 :: a4 :: a5 :: a6 :: a7 :: .long x :: r) (.long x :: st) Γ iv rv lv) : Rn g l M R Q k n pc (a0 :: a1 :: a2 :: a3 :: a4 :: a5 :: a6 :: a7 :: .long x :: r) st Γ iv rv lv := rn_lload (i := 8) hd rfl kk
theorem r_lstore8 {a0 a1 a2 a3 a4 a5 a6 a7 : Value} {b0 b1 : Value} {r : List Value} {x : Int64} (hd : decode M.2.1 pc = .ok (.lstore 8, 2)) (hc : a7.category = 1) (kk : Rn g l M R Q k n (pc + 2) (a0 :: a1 :: a2 :: a3 :: a4 :: a5 :: a6 :: a7 :: .long x :: .retAddr 0 :: r) st Γ iv rv lv) : Rn g l M R Q k n pc (a0 :: a1 :: a2 :: a3 :: a4 :: a5 :: a6 :: a7 :: b0 :: b1 :: r) (.long x :: st) Γ iv rv lv := rn_lstore (i := 8) hd (by simp) (fun w h _ => by cases h; exact hc) kk
theorem r_aload8 {a0 a1 a2 a3 a4 a5 a6 a7 : Value} {r : List Value} {x : Nat} (hd : decode M.2.1 pc = .ok (.aload 8, 2)) (kk : Rn g l M R Q k n (pc + 2) (a0 :: a1 :: a2 :: a3 :: a4 :: a5 :: a6 :: a7 :: .ref x :: r) (.ref x :: st) Γ iv rv lv) : Rn g l M R Q k n pc (a0 :: a1 :: a2 :: a3 :: a4 :: a5 :: a6 :: a7 :: .ref x :: r) st Γ iv rv lv := rn_aload (i := 8) hd rfl kk
theorem r_astore8 {a0 a1 a2 a3 a4 a5 a6 a7 : Value} {b0 : Value} {r : List Value} {x : Nat} (hd : decode M.2.1 pc = .ok (.astore 8, 2)) (hc : a7.category = 1) (kk : Rn g l M R Q k n (pc + 2) (a0 :: a1 :: a2 :: a3 :: a4 :: a5 :: a6 :: a7 :: .ref x :: r) st Γ iv rv lv) : Rn g l M R Q k n pc (a0 :: a1 :: a2 :: a3 :: a4 :: a5 :: a6 :: a7 :: b0 :: r) (.ref x :: st) Γ iv rv lv := rn_astore (i := 8) hd (by simp) (fun w h _ => by cases h; exact hc) kk
theorem r_iinc8 {a0 a1 a2 a3 a4 a5 a6 a7 : Value} {r : List Value} {x : Int32} {z : Int} (v : Int32) (hd : decode M.2.1 pc = .ok (.iinc 8 z, 3)) (hv : x + Int32.ofInt z = v) (hc : a7.category = 1) (kk : Rn g l M R Q k n (pc + 3) (a0 :: a1 :: a2 :: a3 :: a4 :: a5 :: a6 :: a7 :: .int v :: r) st Γ iv rv lv) : Rn g l M R Q k n pc (a0 :: a1 :: a2 :: a3 :: a4 :: a5 :: a6 :: a7 :: .int x :: r) st Γ iv rv lv := rn_iinc (i := 8) v hd rfl hv (fun w h _ => by cases h; exact hc) kk
theorem r_iload9 {a0 a1 a2 a3 a4 a5 a6 a7 a8 : Value} {r : List Value} {x : Int32} (hd : decode M.2.1 pc = .ok (.iload 9, 2)) (kk : Rn g l M R Q k n (pc + 2) (a0 :: a1 :: a2 :: a3 :: a4 :: a5 :: a6 :: a7 :: a8 :: .int x :: r) (.int x :: st) Γ iv rv lv) : Rn g l M R Q k n pc (a0 :: a1 :: a2 :: a3 :: a4 :: a5 :: a6 :: a7 :: a8 :: .int x :: r) st Γ iv rv lv := rn_iload (i := 9) hd rfl kk
theorem r_istore9 {a0 a1 a2 a3 a4 a5 a6 a7 a8 : Value} {b0 : Value} {r : List Value} {x : Int32} (hd : decode M.2.1 pc = .ok (.istore 9, 2)) (hc : a8.category = 1) (kk : Rn g l M R Q k n (pc + 2) (a0 :: a1 :: a2 :: a3 :: a4 :: a5 :: a6 :: a7 :: a8 :: .int x :: r) st Γ iv rv lv) : Rn g l M R Q k n pc (a0 :: a1 :: a2 :: a3 :: a4 :: a5 :: a6 :: a7 :: a8 :: b0 :: r) (.int x :: st) Γ iv rv lv := rn_istore (i := 9) hd (by simp) (fun w h _ => by cases h; exact hc) kk
theorem r_aload9 {a0 a1 a2 a3 a4 a5 a6 a7 a8 : Value} {r : List Value} {x : Nat} (hd : decode M.2.1 pc = .ok (.aload 9, 2)) (kk : Rn g l M R Q k n (pc + 2) (a0 :: a1 :: a2 :: a3 :: a4 :: a5 :: a6 :: a7 :: a8 :: .ref x :: r) (.ref x :: st) Γ iv rv lv) : Rn g l M R Q k n pc (a0 :: a1 :: a2 :: a3 :: a4 :: a5 :: a6 :: a7 :: a8 :: .ref x :: r) st Γ iv rv lv := rn_aload (i := 9) hd rfl kk
theorem r_astore9 {a0 a1 a2 a3 a4 a5 a6 a7 a8 : Value} {b0 : Value} {r : List Value} {x : Nat} (hd : decode M.2.1 pc = .ok (.astore 9, 2)) (hc : a8.category = 1) (kk : Rn g l M R Q k n (pc + 2) (a0 :: a1 :: a2 :: a3 :: a4 :: a5 :: a6 :: a7 :: a8 :: .ref x :: r) st Γ iv rv lv) : Rn g l M R Q k n pc (a0 :: a1 :: a2 :: a3 :: a4 :: a5 :: a6 :: a7 :: a8 :: b0 :: r) (.ref x :: st) Γ iv rv lv := rn_astore (i := 9) hd (by simp) (fun w h _ => by cases h; exact hc) kk
theorem r_iinc9 {a0 a1 a2 a3 a4 a5 a6 a7 a8 : Value} {r : List Value} {x : Int32} {z : Int} (v : Int32) (hd : decode M.2.1 pc = .ok (.iinc 9 z, 3)) (hv : x + Int32.ofInt z = v) (hc : a8.category = 1) (kk : Rn g l M R Q k n (pc + 3) (a0 :: a1 :: a2 :: a3 :: a4 :: a5 :: a6 :: a7 :: a8 :: .int v :: r) st Γ iv rv lv) : Rn g l M R Q k n pc (a0 :: a1 :: a2 :: a3 :: a4 :: a5 :: a6 :: a7 :: a8 :: .int x :: r) st Γ iv rv lv := rn_iinc (i := 9) v hd rfl hv (fun w h _ => by cases h; exact hc) kk
theorem r_iload10 {a0 a1 a2 a3 a4 a5 a6 a7 a8 a9 : Value} {r : List Value} {x : Int32} (hd : decode M.2.1 pc = .ok (.iload 10, 2)) (kk : Rn g l M R Q k n (pc + 2) (a0 :: a1 :: a2 :: a3 :: a4 :: a5 :: a6 :: a7 :: a8 :: a9 :: .int x :: r) (.int x :: st) Γ iv rv lv) : Rn g l M R Q k n pc (a0 :: a1 :: a2 :: a3 :: a4 :: a5 :: a6 :: a7 :: a8 :: a9 :: .int x :: r) st Γ iv rv lv := rn_iload (i := 10) hd rfl kk
theorem r_istore10 {a0 a1 a2 a3 a4 a5 a6 a7 a8 a9 : Value} {b0 : Value} {r : List Value} {x : Int32} (hd : decode M.2.1 pc = .ok (.istore 10, 2)) (hc : a9.category = 1) (kk : Rn g l M R Q k n (pc + 2) (a0 :: a1 :: a2 :: a3 :: a4 :: a5 :: a6 :: a7 :: a8 :: a9 :: .int x :: r) st Γ iv rv lv) : Rn g l M R Q k n pc (a0 :: a1 :: a2 :: a3 :: a4 :: a5 :: a6 :: a7 :: a8 :: a9 :: b0 :: r) (.int x :: st) Γ iv rv lv := rn_istore (i := 10) hd (by simp) (fun w h _ => by cases h; exact hc) kk
theorem r_aload10 {a0 a1 a2 a3 a4 a5 a6 a7 a8 a9 : Value} {r : List Value} {x : Nat} (hd : decode M.2.1 pc = .ok (.aload 10, 2)) (kk : Rn g l M R Q k n (pc + 2) (a0 :: a1 :: a2 :: a3 :: a4 :: a5 :: a6 :: a7 :: a8 :: a9 :: .ref x :: r) (.ref x :: st) Γ iv rv lv) : Rn g l M R Q k n pc (a0 :: a1 :: a2 :: a3 :: a4 :: a5 :: a6 :: a7 :: a8 :: a9 :: .ref x :: r) st Γ iv rv lv := rn_aload (i := 10) hd rfl kk
theorem r_astore10 {a0 a1 a2 a3 a4 a5 a6 a7 a8 a9 : Value} {b0 : Value} {r : List Value} {x : Nat} (hd : decode M.2.1 pc = .ok (.astore 10, 2)) (hc : a9.category = 1) (kk : Rn g l M R Q k n (pc + 2) (a0 :: a1 :: a2 :: a3 :: a4 :: a5 :: a6 :: a7 :: a8 :: a9 :: .ref x :: r) st Γ iv rv lv) : Rn g l M R Q k n pc (a0 :: a1 :: a2 :: a3 :: a4 :: a5 :: a6 :: a7 :: a8 :: a9 :: b0 :: r) (.ref x :: st) Γ iv rv lv := rn_astore (i := 10) hd (by simp) (fun w h _ => by cases h; exact hc) kk
theorem r_iinc10 {a0 a1 a2 a3 a4 a5 a6 a7 a8 a9 : Value} {r : List Value} {x : Int32} {z : Int} (v : Int32) (hd : decode M.2.1 pc = .ok (.iinc 10 z, 3)) (hv : x + Int32.ofInt z = v) (hc : a9.category = 1) (kk : Rn g l M R Q k n (pc + 3) (a0 :: a1 :: a2 :: a3 :: a4 :: a5 :: a6 :: a7 :: a8 :: a9 :: .int v :: r) st Γ iv rv lv) : Rn g l M R Q k n pc (a0 :: a1 :: a2 :: a3 :: a4 :: a5 :: a6 :: a7 :: a8 :: a9 :: .int x :: r) st Γ iv rv lv := rn_iinc (i := 10) v hd rfl hv (fun w h _ => by cases h; exact hc) kk
theorem r_iload11 {a0 a1 a2 a3 a4 a5 a6 a7 a8 a9 a10 : Value} {r : List Value} {x : Int32} (hd : decode M.2.1 pc = .ok (.iload 11, 2)) (kk : Rn g l M R Q k n (pc + 2) (a0 :: a1 :: a2 :: a3 :: a4 :: a5 :: a6 :: a7 :: a8 :: a9 :: a10 :: .int x :: r) (.int x :: st) Γ iv rv lv) : Rn g l M R Q k n pc (a0 :: a1 :: a2 :: a3 :: a4 :: a5 :: a6 :: a7 :: a8 :: a9 :: a10 :: .int x :: r) st Γ iv rv lv := rn_iload (i := 11) hd rfl kk
theorem r_istore11 {a0 a1 a2 a3 a4 a5 a6 a7 a8 a9 a10 : Value} {b0 : Value} {r : List Value} {x : Int32} (hd : decode M.2.1 pc = .ok (.istore 11, 2)) (hc : a10.category = 1) (kk : Rn g l M R Q k n (pc + 2) (a0 :: a1 :: a2 :: a3 :: a4 :: a5 :: a6 :: a7 :: a8 :: a9 :: a10 :: .int x :: r) st Γ iv rv lv) : Rn g l M R Q k n pc (a0 :: a1 :: a2 :: a3 :: a4 :: a5 :: a6 :: a7 :: a8 :: a9 :: a10 :: b0 :: r) (.int x :: st) Γ iv rv lv := rn_istore (i := 11) hd (by simp) (fun w h _ => by cases h; exact hc) kk
theorem r_aload11 {a0 a1 a2 a3 a4 a5 a6 a7 a8 a9 a10 : Value} {r : List Value} {x : Nat} (hd : decode M.2.1 pc = .ok (.aload 11, 2)) (kk : Rn g l M R Q k n (pc + 2) (a0 :: a1 :: a2 :: a3 :: a4 :: a5 :: a6 :: a7 :: a8 :: a9 :: a10 :: .ref x :: r) (.ref x :: st) Γ iv rv lv) : Rn g l M R Q k n pc (a0 :: a1 :: a2 :: a3 :: a4 :: a5 :: a6 :: a7 :: a8 :: a9 :: a10 :: .ref x :: r) st Γ iv rv lv := rn_aload (i := 11) hd rfl kk
theorem r_astore11 {a0 a1 a2 a3 a4 a5 a6 a7 a8 a9 a10 : Value} {b0 : Value} {r : List Value} {x : Nat} (hd : decode M.2.1 pc = .ok (.astore 11, 2)) (hc : a10.category = 1) (kk : Rn g l M R Q k n (pc + 2) (a0 :: a1 :: a2 :: a3 :: a4 :: a5 :: a6 :: a7 :: a8 :: a9 :: a10 :: .ref x :: r) st Γ iv rv lv) : Rn g l M R Q k n pc (a0 :: a1 :: a2 :: a3 :: a4 :: a5 :: a6 :: a7 :: a8 :: a9 :: a10 :: b0 :: r) (.ref x :: st) Γ iv rv lv := rn_astore (i := 11) hd (by simp) (fun w h _ => by cases h; exact hc) kk
theorem r_iinc11 {a0 a1 a2 a3 a4 a5 a6 a7 a8 a9 a10 : Value} {r : List Value} {x : Int32} {z : Int} (v : Int32) (hd : decode M.2.1 pc = .ok (.iinc 11 z, 3)) (hv : x + Int32.ofInt z = v) (hc : a10.category = 1) (kk : Rn g l M R Q k n (pc + 3) (a0 :: a1 :: a2 :: a3 :: a4 :: a5 :: a6 :: a7 :: a8 :: a9 :: a10 :: .int v :: r) st Γ iv rv lv) : Rn g l M R Q k n pc (a0 :: a1 :: a2 :: a3 :: a4 :: a5 :: a6 :: a7 :: a8 :: a9 :: a10 :: .int x :: r) st Γ iv rv lv := rn_iinc (i := 11) v hd rfl hv (fun w h _ => by cases h; exact hc) kk
end RULES
