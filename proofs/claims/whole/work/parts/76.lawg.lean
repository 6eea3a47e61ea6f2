/-! THE LAW: what its entry gives -/
abbrev narC : List Cond := flatC (Jvm.Cond.and given_1 narrow_1)
section ENTRY
variable {s : State} {args : Array Value} {A : Nat → Prop}
theorem tab_of (hA : ∀ a : Nat, a < s.heap.size → ¬ A a) {C n : String} (i : Nat) (h31 : oln0 i < 2 ^ 31) (h0 : (Cond.laysStatic C n "[I").before args s = true) (h1 : (Cond.initialized C).before args s = true) (h2 : (Cond.arrayOf (.static C n "[I") .int).before args s = true) (h3 : (Cond.eq (.length (.static C n "[I")) (.int (Int32.ofNat (oln0 i)))).before args s = true) (h4 : ∀ j, j < oln0 i → (Cond.eq (.elem (.static C n "[I") (.int (Int32.ofNat j))) (.int (oiv0 i j))).before args s = true) : ∃ t : Nat, va_Z C n "[I" (.ref t) A s s.heap ∧ va_T .int t (oln0 i) (fun j => .int (oiv0 i j)) A s s.heap := by
  obtain ⟨t, ht, hT⟩ := va_Tof (f := fun j => .int (oiv0 i j)) (A := A) h31 h2 (va_eqt h3) (fun j hj => va_eqt (h4 j hj)) hA
  exact ⟨t, va_Zof h0 h1 ht hA, hT⟩
theorem txt_of (hA : ∀ a : Nat, a < s.heap.size → ¬ A a) (t : Term) (i : Nat) (h31 : oln0 i < 2 ^ 31) (h1 : (Cond.exactly t "java/lang/String").before args s = true) (h2 : (Cond.eq (.field t "java/lang/String" "coder" "B") (.int 0)).before args s = true) (h3 : (Cond.arrayOf (.field t "java/lang/String" "value" "[B") .byte).before args s = true) (h4 : (Cond.eq (.length (.field t "java/lang/String" "value" "[B")) (.int (Int32.ofNat (oln0 i)))).before args s = true) (h5 : ∀ j, j < oln0 i → (Cond.eq (.elem (.field t "java/lang/String" "value" "[B") (.int (Int32.ofNat j))) (.int (oiv0 i j))).before args s = true) : ∃ a d : Nat, (va_O "java/lang/String" a A s s.heap ∧ va_OF "java/lang/String" "coder" "B" (.int 0) a A s s.heap ∧ va_OF "java/lang/String" "value" "[B" (.ref d) a A s s.heap ∧ va_T .byte d (oln0 i) (fun q => .int (oiv0 i q)) A s s.heap) ∧ t.eval args s none [] s = some (.ref a) := by
  have e0 : ∀ k, k < 1 → k = 0 := fun k h => by omega
  obtain ⟨aK, aV, h, hv⟩ := vk_Sof (args := args) (s := s) (N := 1) (tm := fun _ => t) (len := [oln0 i]) (byt := [ob0 i]) (A := A) (fun k hk => by rw [e0 k hk]; exact h31) (fun _ _ => h1) (fun _ _ => h2) (fun _ _ => h3) (fun k hk => by rw [e0 k hk]; exact h4) (fun k hk j hj => by
    rw [e0 k hk] at hj ⊢
    exact h5 j hj) (fun a b ha hb hne => absurd (show a = b by omega) hne) hA
  exact ⟨aK 0, aV 0, h.1 0 (by decide), hv 0 (by decide)⟩
end ENTRY
theorem nr_t2 : ∀ j, j < oln0 2 → narC[([32, 33, 34, 35, 36] : List Nat).getD j 0]? = some (Cond.eq (.elem (.static "TillTheyMeet" "SET_LEAST" "[I") (.int (Int32.ofNat j))) (.int (oiv0 2 j))) := by decide +kernel
theorem nr_t3 : ∀ j, j < oln0 3 → narC[([24, 25, 26, 27, 28] : List Nat).getD j 0]? = some (Cond.eq (.elem (.static "TillTheyMeet" "SET_MOST" "[I") (.int (Int32.ofNat j))) (.int (oiv0 3 j))) := by decide +kernel
theorem nr_t4 : ∀ j, j < oln0 4 → narC[([40, 41, 42, 43, 44, 45] : List Nat).getD j 0]? = some (Cond.eq (.elem (.static "TillTheyMeet$Gang" "UNDER" "[I") (.int (Int32.ofNat j))) (.int (oiv0 4 j))) := by decide +kernel
theorem nr_t5 : ∀ j, j < oln0 5 → narC[([12, 13, 14] : List Nat).getD j 0]? = some (Cond.eq (.elem (.static "TillTheyMeet$Road" "LEAST" "[I") (.int (Int32.ofNat j))) (.int (oiv0 5 j))) := by decide +kernel
theorem nr_t6 : ∀ j, j < oln0 6 → narC[([18, 19, 20] : List Nat).getD j 0]? = some (Cond.eq (.elem (.static "TillTheyMeet$Road" "MOST" "[I") (.int (Int32.ofNat j))) (.int (oiv0 6 j))) := by decide +kernel
theorem nr_s8 : ∀ j, j < oln0 8 → narC[66 + j]? = some (Cond.eq (.elem (.field (.string "TillTheyMeet" 43) "java/lang/String" "value" "[B") (.int (Int32.ofNat j))) (.int (oiv0 8 j))) := by decide +kernel
theorem nr_s10 : ∀ j, j < oln0 10 → narC[118 + j]? = some (Cond.eq (.elem (.field (.string "TillTheyMeet$Reader" 108) "java/lang/String" "value" "[B") (.int (Int32.ofNat j))) (.int (oiv0 10 j))) := by decide +kernel
theorem nr_s12 : ∀ j, j < oln0 12 → narC[207 + j]? = some (Cond.eq (.elem (.field (.string "TillTheyMeet$Reader" 116) "java/lang/String" "value" "[B") (.int (Int32.ofNat j))) (.int (oiv0 12 j))) := by decide +kernel
set_option maxRecDepth 8000 in
theorem good_g {s : State} {b L : Nat} {xs : Nat → Int32} (hts : ∀ w ∈ lw_tbl, w.before #[Value.ref b] s = true) (hX : va_X b L xs s s.heap) (hbl : b < s.heap.size) (hgv : (Jvm.Cond.and given_1 narrow_1).before #[Value.ref b] s = true) : ∃ g : GS, g.1 = s ∧ GoodG g ∧ g.ro 1 = b ∧ g.oln 1 = L ∧ g.oiv 1 = xs := by
  have hs := flat_of_before _ hgv
  have hA : ∀ a : Nat, a < s.heap.size → ¬ (fun q : Nat => s.heap.size ≤ q) a := fun a h => Nat.not_le.mpr h
  have htg : ∀ w ∈ gtb, w.before #[Value.ref b] s = true := fun w h => hts w (List.mem_filter.mp h).1
  obtain ⟨c0, i0, hK0⟩ := u_known (C := RX0) (T := TX0) (N := 3) (n := 3) htg uw_X0 (htg _ ins_X0)
  obtain ⟨c1, i1, hK1⟩ := u_known (C := RX1) (T := TX1) (N := 10) (n := 10) htg uw_X1 (htg _ ins_X1)
  obtain ⟨c2, i2, hK2⟩ := u_known (C := RX2) (T := TX2) (N := 10) (n := 10) htg uw_X2 (htg _ ins_X2)
  obtain ⟨c3, i3, hK3⟩ := u_known (C := RX3) (T := TX3) (N := 10) (n := 10) htg uw_X3 (htg _ ins_X3)
  obtain ⟨c4, i4, hK4⟩ := u_known (C := RX4) (T := TX4) (N := 5) (n := 5) htg uw_X4 (htg _ ins_X4)
  obtain ⟨c5, i5, hK5⟩ := u_known (C := RX5) (T := TX5) (N := 3) (n := 3) htg uw_X5 (htg _ ins_X5)
  obtain ⟨c6, i6, hK6⟩ := u_known (C := RX6) (T := TX6) (N := 10) (n := 10) htg uw_X6 (htg _ ins_X6)
  obtain ⟨c7, i7, hK7⟩ := u_known (C := RX7) (T := TX7) (N := 55) (n := 55) htg uw_X7 (htg _ ins_X7)
  obtain ⟨t2, z2, y2⟩ := tab_of (args := #[Value.ref b]) hA (C := "TillTheyMeet") (n := "SET_LEAST") 2 (by decide) (hts _ (List.mem_of_getElem? (i := 565) (by decide +kernel))) (hts _ (List.mem_of_getElem? (i := 53) (by decide +kernel))) (hs _ (List.mem_of_getElem? (i := 30) (by decide +kernel))) (hs _ (List.mem_of_getElem? (i := 31) (by decide +kernel))) (fun j hj => hs _ (List.mem_of_getElem? (nr_t2 j hj)))
  obtain ⟨t3, z3, y3⟩ := tab_of (args := #[Value.ref b]) hA (C := "TillTheyMeet") (n := "SET_MOST") 3 (by decide) (hts _ (List.mem_of_getElem? (i := 563) (by decide +kernel))) (hts _ (List.mem_of_getElem? (i := 53) (by decide +kernel))) (hs _ (List.mem_of_getElem? (i := 22) (by decide +kernel))) (hs _ (List.mem_of_getElem? (i := 23) (by decide +kernel))) (fun j hj => hs _ (List.mem_of_getElem? (nr_t3 j hj)))
  obtain ⟨t4, z4, y4⟩ := tab_of (args := #[Value.ref b]) hA (C := "TillTheyMeet$Gang") (n := "UNDER") 4 (by decide) (hts _ (List.mem_of_getElem? (i := 814) (by decide +kernel))) (hts _ (List.mem_of_getElem? (i := 66) (by decide +kernel))) (hs _ (List.mem_of_getElem? (i := 38) (by decide +kernel))) (hs _ (List.mem_of_getElem? (i := 39) (by decide +kernel))) (fun j hj => hs _ (List.mem_of_getElem? (nr_t4 j hj)))
  obtain ⟨t5, z5, y5⟩ := tab_of (args := #[Value.ref b]) hA (C := "TillTheyMeet$Road") (n := "LEAST") 5 (by decide) (hts _ (List.mem_of_getElem? (i := 538) (by decide +kernel))) (hts _ (List.mem_of_getElem? (i := 65) (by decide +kernel))) (hs _ (List.mem_of_getElem? (i := 10) (by decide +kernel))) (hs _ (List.mem_of_getElem? (i := 11) (by decide +kernel))) (fun j hj => hs _ (List.mem_of_getElem? (nr_t5 j hj)))
  obtain ⟨t6, z6, y6⟩ := tab_of (args := #[Value.ref b]) hA (C := "TillTheyMeet$Road") (n := "MOST") 6 (by decide) (hts _ (List.mem_of_getElem? (i := 540) (by decide +kernel))) (hts _ (List.mem_of_getElem? (i := 65) (by decide +kernel))) (hs _ (List.mem_of_getElem? (i := 16) (by decide +kernel))) (hs _ (List.mem_of_getElem? (i := 17) (by decide +kernel))) (fun j hj => hs _ (List.mem_of_getElem? (nr_t6 j hj)))
  obtain ⟨a8, d8, o8, v8⟩ := txt_of (args := #[Value.ref b]) hA (.string "TillTheyMeet" 43) 8 (by decide) (hs _ (List.mem_of_getElem? (i := 62) (by decide +kernel))) (hs _ (List.mem_of_getElem? (i := 63) (by decide +kernel))) (hs _ (List.mem_of_getElem? (i := 64) (by decide +kernel))) (hs _ (List.mem_of_getElem? (i := 65) (by decide +kernel))) (fun j hj => hs _ (List.mem_of_getElem? (nr_s8 j hj)))
  obtain ⟨a10, d10, o10, v10⟩ := txt_of (args := #[Value.ref b]) hA (.string "TillTheyMeet$Reader" 108) 10 (by decide) (hs _ (List.mem_of_getElem? (i := 114) (by decide +kernel))) (hs _ (List.mem_of_getElem? (i := 115) (by decide +kernel))) (hs _ (List.mem_of_getElem? (i := 116) (by decide +kernel))) (hs _ (List.mem_of_getElem? (i := 117) (by decide +kernel))) (fun j hj => hs _ (List.mem_of_getElem? (nr_s10 j hj)))
  obtain ⟨a12, d12, o12, v12⟩ := txt_of (args := #[Value.ref b]) hA (.string "TillTheyMeet$Reader" 116) 12 (by decide) (hs _ (List.mem_of_getElem? (i := 203) (by decide +kernel))) (hs _ (List.mem_of_getElem? (i := 204) (by decide +kernel))) (hs _ (List.mem_of_getElem? (i := 205) (by decide +kernel))) (hs _ (List.mem_of_getElem? (i := 206) (by decide +kernel))) (fun j hj => hs _ (List.mem_of_getElem? (nr_s12 j hj)))
  have w_8 : (Cond.stringRef "TillTheyMeet" 43 "rate men * 4 ; need 30 + ground * 25 ; worth 0 ;").before #[Value.ref b] s = true := (hts _ (List.mem_of_getElem? (i := 139) (by decide +kernel)))
  have w_10 : (Cond.stringRef "TillTheyMeet$Reader" 108 "ground men    yard   ahead  day    known  rate   need   worth  or     and    not    ").before #[Value.ref b] s = true := (hts _ (List.mem_of_getElem? (i := 221) (by decide +kernel)))
  have w_12 : (Cond.stringRef "TillTheyMeet$Reader" 116 "();+-*<=").before #[Value.ref b] s = true := (hts _ (List.mem_of_getElem? (i := 227) (by decide +kernel)))
  obtain ⟨q_int, k_int, m_int, f1_int, f2_int, f3_int⟩ := Cond.arrayClass_spec (htg _ ac_int)
  obtain ⟨q_byte, k_byte, m_byte, f1_byte, f2_byte, f3_byte⟩ := Cond.arrayClass_spec (htg _ ac_byte)
  obtain ⟨q_boolean, k_boolean, m_boolean, f1_boolean, f2_boolean, f3_boolean⟩ := Cond.arrayClass_spec (htg _ ac_boolean)
  have w_Rule : (Cond.arrayOver (.object "TillTheyMeet$Rule")).before #[Value.ref b] s = true := (hts _ (List.mem_of_getElem? (i := 136) (by decide +kernel)))
  obtain ⟨p_Rule, q_Rule, k_Rule, f0_Rule, f4_Rule, f2_Rule, f3_Rule, f1_Rule⟩ := Cond.arrayOver_spec w_Rule
  have w_Sheet : (Cond.arrayOver (.object "TillTheyMeet$Sheet")).before #[Value.ref b] s = true := (hts _ (List.mem_of_getElem? (i := 138) (by decide +kernel)))
  obtain ⟨p_Sheet, q_Sheet, k_Sheet, f0_Sheet, f4_Sheet, f2_Sheet, f3_Sheet, f1_Sheet⟩ := Cond.arrayOver_spec w_Sheet
  obtain ⟨z, hz⟩ : ∃ z : Nat, va_Z "jdk/internal/util/Preconditions" "SIOOBE_FORMATTER" "Ljava/util/function/BiFunction;" .null (fun q : Nat => s.heap.size ≤ q) s s.heap ∨ va_Z "jdk/internal/util/Preconditions" "SIOOBE_FORMATTER" "Ljava/util/function/BiFunction;" (.ref z) (fun q : Nat => s.heap.size ≤ q) s s.heap := by
    rcases va_Zqof (args := #[Value.ref b]) (C := "jdk/internal/util/Preconditions") (n := "SIOOBE_FORMATTER") (d := "Ljava/util/function/BiFunction;") (hts _ (List.mem_of_getElem? (i := 165) (by decide +kernel))) (hts _ (List.mem_of_getElem? (i := 58) (by decide +kernel))) (hs _ (List.mem_of_getElem? (i := 5) (by decide +kernel))) hA with h | ⟨t, h⟩
    · exact ⟨0, Or.inl h⟩
    · exact ⟨t, Or.inr h⟩
  have hcs : va_Z "java/lang/String" "COMPACT_STRINGS" "Z" (.int 1) (fun q : Nat => s.heap.size ≤ q) s s.heap := va_Zof (args := #[Value.ref b]) (hts _ (List.mem_of_getElem? (i := 149) (by decide +kernel))) (hts _ (List.mem_of_getElem? (i := 56) (by decide +kernel))) (va_eqi (hs _ (List.mem_of_getElem? (i := 4) (by decide +kernel)))) hA
  have hKc : va_K (fun k => [c0, c1, c2, c3, c4, c5, c6, c7].getD k c0, fun k => [i0, i1, i2, i3, i4, i5, i6, i7].getD k i0) vwCl [] s := by
    refine ⟨fun k q hq => ?_, fun k q h => by simp at h⟩
    have hk := (List.getElem?_eq_some_iff.mp hq).1
    match k, hk, hq with
    | 0, _, hq => cases hq; exact hK0
    | 1, _, hq => cases hq; exact hK1
    | 2, _, hq => cases hq; exact hK2
    | 3, _, hq => cases hq; exact hK3
    | 4, _, hq => cases hq; exact hK4
    | 5, _, hq => cases hq; exact hK5
    | 6, _, hq => cases hq; exact hK6
    | 7, _, hq => cases hq; exact hK7
  refine ⟨(s, (fun k => [c0, c1, c2, c3, c4, c5, c6, c7].getD k c0, fun k => [i0, i1, i2, i3, i4, i5, i6, i7].getD k i0), fun k => [q_int, q_boolean, q_byte, q_Rule, q_Sheet].getD (k - 20) q_int, fun i => [0, b, t2, t3, t4, t5, t6, a8, d8, a10, d10, a12, d12, z].getD i 0, fun _ => L, fun _ => xs), rfl, ⟨hKc, fun k h1 h2 => ?_, ⟨hX, hbl⟩, fun i h1 h2 => ?_, ⟨z2, z3, z4, z5, z6, hcs, hz⟩, fun j hj => ?_, ⟨⟨w_8, v8⟩, ⟨_, w_10, v10⟩, ⟨_, w_12, v12⟩⟩, fun q hq hq2 => ?_, ⟨w_Rule, w_Sheet, ?_⟩⟩, rfl, rfl, rfl⟩
  · rcases (show k = 20 ∨ k = 21 ∨ k = 22 ∨ k = 23 ∨ k = 24 by omega) with rfl | rfl | rfl | rfl | rfl
    · exact ⟨fun N y => ⟨(fun k h => by cases h), k_int, f2_int, m_int, f3_int⟩, f1_int⟩
    · exact ⟨fun N y => ⟨(fun k h => by cases h), k_boolean, f2_boolean, m_boolean, f3_boolean⟩, f1_boolean⟩
    · exact ⟨fun N y => ⟨(fun k h => by cases h), k_byte, f2_byte, m_byte, f3_byte⟩, f1_byte⟩
    · exact ⟨fun N y => ⟨(fun k h => by cases h), k_Rule, f2_Rule, p_Rule, f3_Rule⟩, k_Rule, p_Rule, f2_Rule, f3_Rule, f0_Rule, f1_Rule⟩
    · exact ⟨fun N y => ⟨(fun k h => by cases h), k_Sheet, f2_Sheet, p_Sheet, f3_Sheet⟩, k_Sheet, p_Sheet, f2_Sheet, f3_Sheet, f0_Sheet, f1_Sheet⟩
  · match i, h1, h2 with
    | 2, _, _ => exact y2
    | 3, _, _ => exact y3
    | 4, _, _ => exact y4
    | 5, _, _ => exact y5
    | 6, _, _ => exact y6
  · match j, hj with
    | 0, _ => exact o8
    | 1, _ => exact o10
    | 2, _ => exact o12
  · obtain ⟨a, i, y, h, rfl⟩ := hq2
    exact va_tabs (A := #[Value.ref b]) (u := s) rfl rfl (hts _ hq)
  · exact va_tabs (A := #[Value.ref b]) (u := s) rfl rfl (hts _ (List.mem_of_getElem? (i := 329) (by decide +kernel)))
