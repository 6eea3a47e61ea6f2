/-! THE REFERENCE: lowest, chance -/
def nL (n : Nat) : Int64 := Int64.ofNat n
theorem nL_0 : ∀ n, n < 31 → (nL n = 0 ↔ n = 0) := by decide +kernel
theorem nL_mod : ∀ a, a < 31 → ∀ b, b < 31 → b ≠ 0 → nL a - nL a / nL b * nL b = nL (a % b) := by decide +kernel
theorem nL_div : ∀ a, a < 31 → ∀ b, b < 31 → b ≠ 0 → nL a / nL b = nL (a / b) := by decide +kernel
theorem nL_i32 : ∀ n, n < 31 → (nI n).toInt64 = nL n := by decide +kernel
theorem nL_1 : ∀ n, n < 31 → nL n + 1 = nL (n + 1) := by decide +kernel
theorem nL_a0 : ∀ n, n < 31 → nL n + 0 = nL n := by decide +kernel
/-- forms for long answers -/
def qPL (x : Int64) (Γ : Sh) (iv : IV) (rv : RV) (lv : LV) : Qt := fun r Γ' iv' rv' lv' => r = some (.long x) ∧ Γ' = Γ ∧ iv' = iv ∧ rv' = rv ∧ lv' = lv
def qLL (Γ : Sh) (rv : RV) (P : Int64 → IV → LV → Prop) : Qt := fun r Γ' iv' rv' lv' => ∃ x, r = some (.long x) ∧ Γ' = Γ ∧ rv' = rv ∧ P x iv' lv'
def qRL (Γ : Sh) (lv : LV) (P : Int64 → IV → RV → Prop) : Qt := fun r Γ' iv' rv' lv' => ∃ x, r = some (.long x) ∧ Γ' = Γ ∧ lv' = lv ∧ P x iv' rv'
section LFORMS
variable {g : GS} {l : Launch} {M M' : MI} {R : Room} {d mc ms : Nat} {Q : Qt} {k n pc : Nat} {ls st : List Value} {Γ : Sh} {iv : IV} {rv : RV} {lv : LV}
theorem rn_eql {x : Int64} (y : Int64) (h : x = y) (kk : Rn g l M R Q k n pc ls (.long y :: st) Γ iv rv lv) : Rn g l M R Q k n pc ls (.long x :: st) Γ iv rv lv := by subst h; exact kk
theorem r_lload9 {a0 a1 a2 a3 a4 a5 a6 a7 a8 : Value} {r : List Value} {x : Int64} (hd : decode M.2.1 pc = .ok (.lload 9, 2)) (kk : Rn g l M R Q k n (pc + 2) (a0 :: a1 :: a2 :: a3 :: a4 :: a5 :: a6 :: a7 :: a8 :: .long x :: r) (.long x :: st) Γ iv rv lv) : Rn g l M R Q k n pc (a0 :: a1 :: a2 :: a3 :: a4 :: a5 :: a6 :: a7 :: a8 :: .long x :: r) st Γ iv rv lv := rn_lload (i := 9) hd rfl kk
theorem r_lstore9 {a0 a1 a2 a3 a4 a5 a6 a7 a8 : Value} {b0 b1 : Value} {r : List Value} {x : Int64} (hd : decode M.2.1 pc = .ok (.lstore 9, 2)) (hc : a8.category = 1) (kk : Rn g l M R Q k n (pc + 2) (a0 :: a1 :: a2 :: a3 :: a4 :: a5 :: a6 :: a7 :: a8 :: .long x :: .retAddr 0 :: r) st Γ iv rv lv) : Rn g l M R Q k n pc (a0 :: a1 :: a2 :: a3 :: a4 :: a5 :: a6 :: a7 :: a8 :: b0 :: b1 :: r) (.long x :: st) Γ iv rv lv := rn_lstore (i := 9) hd (by simp) (fun w h _ => by cases h; exact hc) kk
theorem cplS3 {v1 v2 v3 : Value} {index : Nat} {own : String} {x : Int64} (hd : decode M.2.1 pc = .ok (.invokestatic index, 3)) (ok : OkS M' 3) (hM : M.1.cls = own) (hl : (Cond.methodLink own index M'.1) ∈ gtb) (hst : (st.map fun v => v.category).sum ≤ 8) (hk : k ≤ mc) (hs : n ≤ ms) (hct : Ct g l M' d 0 0 [v1, v2, v3] Γ iv rv lv (qPL x Γ iv rv lv)) (kk : Rn g l M (rmA (d + 1) mc ms) Q k n (pc + 3) ls (.long x :: st) Γ iv rv lv) : Rn g l M (rmA (d + 1) mc ms) Q k n pc ls (v3 :: v2 :: v1 :: st) Γ iv rv lv :=
  rn_callS (As := [v1, v2, v3]) (mc := 0) (ms := 0) hd ok (by rw [hM]; exact hl) rfl hst (Nat.le_refl _) (Nat.le_refl _) hk hs hct (by rintro _ _ _ _ _ ⟨rfl, rfl, rfl, rfl, rfl⟩; exact kk)
end LFORMS
def hitS (S : Nat → Nat → List Int32) (ρ : IV) (sd mo : Int32) : Nat → Nat
  | 0 => 0
  | k + 1 => hitS S ρ sd mo k + (if drQ S ρ (sd + nI k) ≤ mo then 1 else 0)
theorem hit_le {S : Nat → Nat → List Int32} {ρ : IV} {sd mo : Int32} : ∀ k, hitS S ρ sd mo k ≤ k
  | 0 => Nat.le_refl _
  | k + 1 => by
    have := hit_le (S := S) (ρ := ρ) (sd := sd) (mo := mo) k
    unfold hitS
    split <;> omega
def lowS (a b : Nat) (pt : Int32) : Int64 := if pt = 0 then nL (a / Nat.gcd b a) else nL (b / Nat.gcd b a)
def chanQ (S : Nat → Nat → List Int32) (ρ : IV) (sd m mo pt : Int32) : Int64 := if (1 ≤ m ∧ m ≤ 30) ∧ (0 ≤ mo ∧ mo ≤ 300) ∧ 0 ≤ pt ∧ pt ≤ 1 then lowS (hitS S ρ sd mo m.toNatClampNeg) m.toNatClampNeg pt else -4611686018427387904
theorem n30 {n : Int32} (h : 1 ≤ n ∧ n ≤ 30) : n = nI n.toNatClampNeg ∧ n.toNatClampNeg ≤ 30 ∧ 1 ≤ n.toNatClampNeg := by
  obtain ⟨h0, h1⟩ := h
  have e : n.toNatClampNeg = n.toInt.toNat := rfl
  simp only [Int32.le_iff_toInt_le, Int32.reduceToInt] at h0 h1
  refine ⟨?_, by omega, by omega⟩
  rw [← Int32.toInt_inj, nI_toInt (by omega), e]; omega
section MCHANCE
variable {g : GS} {l : Launch} {Γ : Sh} {iv : IV} {rv : RV} {lv : LV}
set_option maxRecDepth 4000 in
theorem lo_loop {d : Nat} {Q : Qt} {A B : Int64} {pt : Int32} : ∀ (f p q : Nat) (v9 v10 : Value), q < f → p < 31 → q < 31 → (∀ v9 v10 : Value, Rn g l mX7_lowest (rmA d 0 0) Q 0 0 31 [.long A, .retAddr 0, .long B, .retAddr 0, .int pt, .long (nL (Nat.gcd q p)), .retAddr 0, .long (nL 0), .retAddr 0, v9, v10] [] Γ iv rv lv) → Rn g l mX7_lowest (rmA d 0 0) Q 0 0 6 [.long A, .retAddr 0, .long B, .retAddr 0, .int pt, .long (nL p), .retAddr 0, .long (nL q), .retAddr 0, v9, v10] [] Γ iv rv lv := by
  intro f
  induction f with
  | zero => intro p q v9 v10 hf hp hq kk; omega
  | succ f ih =>
    intro p q v9 v10 hf hp hq kk
    refine r_lload7 dX7_lowest_6 ?_
    refine rn_lconst (0) dX7_lowest_8 (by decide) ?_
    refine rn_lcmp dX7_lowest_9 ?_
    refine rn_if_eq 31 dX7_lowest_10 rfl (fun c10 => ?_) (fun c10 => ?_)
    · obtain rfl : q = 0 := (nL_0 q hq).mp ((lg_cmp_eq _ _).mp c10)
      rw [Nat.gcd_zero_left] at kk
      exact kk _ _
    · have hq0 : ¬ q = 0 := fun z => c10 ((lg_cmp_eq _ _).mpr ((nL_0 q hq).mpr z))
      refine r_lload5 dX7_lowest_13 ?_
      refine r_lload7 dX7_lowest_15 ?_
      refine rn_lrem dX7_lowest_17 (fun z => hq0 ((nL_0 q hq).mp z)) ?_
      refine rn_eql (nL (p % q)) (nL_mod p hp q hq hq0) ?_
      refine r_lstore9 dX7_lowest_18 rfl ?_
      refine r_lload7 dX7_lowest_20 ?_
      refine r_lstore5 dX7_lowest_22 rfl ?_
      refine r_lload9 dX7_lowest_24 ?_
      refine r_lstore7 dX7_lowest_26 rfl ?_
      refine rn_goto 6 dX7_lowest_28 rfl ?_
      have hml := Nat.mod_lt p (Nat.pos_of_ne_zero hq0)
      exact ih q (p % q) _ _ (by omega) hq (by omega) (by rw [← Nat.gcd_rec]; exact kk)
set_option maxRecDepth 4000 in
theorem ct_lowest (d : Nat) {a b : Nat} (ha : a ≤ 30) (hb : b ≤ 30) (hb1 : 1 ≤ b) {A B : Int64} (hA : A = nL a) (hB : B = nL b) (pt : Int32) : Ct g l mX7_lowest (d) 0 0 [.long A, .long B, .int pt] Γ iv rv lv (qPL (lowS a b pt) Γ iv rv lv) := by
  refine Ct.of (by decide +kernel) (Nat.le_of_ble_eq_true rfl) (Nat.le_of_ble_eq_true rfl) ?_
  subst hA
  subst hB
  have hgb : Nat.gcd b a ≤ b := Nat.gcd_le_left a hb1
  have hg0 : ¬ Nat.gcd b a = 0 := fun z => by have := Nat.gcd_pos_of_pos_left a hb1; omega
  refine r_lload0 dX7_lowest_0 ?_
  refine r_lstore5 dX7_lowest_1 rfl ?_
  refine r_lload2 dX7_lowest_3 ?_
  refine r_lstore7 dX7_lowest_4 rfl ?_
  refine lo_loop 31 a b _ _ (by omega) (by omega) (by omega) (fun v9 v10 => ?_)
  refine r_iload4 dX7_lowest_31 ?_
  refine rn_if_ne 43 dX7_lowest_33 rfl (fun c33 => ?_) (fun c33 => ?_)
  · refine r_lload2 dX7_lowest_43 ?_
    refine r_lload5 dX7_lowest_44 ?_
    refine rn_ldiv dX7_lowest_46 (fun z => hg0 ((nL_0 _ (by omega)).mp z)) ?_
    refine rn_lret dX7_lowest_47 rfl (Nat.zero_le _) (Nat.zero_le _) ?_
    refine ⟨congrArg (fun z => some (Value.long z)) ?_, rfl, rfl, rfl, rfl⟩
    unfold lowS
    rw [if_neg c33]
    exact nL_div _ (by omega) _ (by omega) hg0
  · refine r_lload0 dX7_lowest_36 ?_
    refine r_lload5 dX7_lowest_37 ?_
    refine rn_ldiv dX7_lowest_39 (fun z => hg0 ((nL_0 _ (by omega)).mp z)) ?_
    refine rn_goto 47 dX7_lowest_40 rfl ?_
    refine rn_lret dX7_lowest_47 rfl (Nat.zero_le _) (Nat.zero_le _) ?_
    refine ⟨congrArg (fun z => some (Value.long z)) ?_, rfl, rfl, rfl, rfl⟩
    unfold lowS
    rw [if_pos c33]
    exact nL_div _ (by omega) _ (by omega) hg0
set_option maxRecDepth 4000 in
theorem chc_loop {D : Nat} {Q : Qt} (hM : ShM Γ rv) {ρ : IV} {S : Nat → Nat → List Int32} {T : Nat} (hT6 : T ≤ 6) {t : Nat} (ht : ρ 4 8 = nI t) (htT : t < T) (hg : GR ρ) {sd m mo pt : Int32} {N : Nat} (hN : m = nI N) (hN3 : N ≤ 30) {iv0 : IV} : ∀ (n i : Nat) (iv : IV) (lv : LV) (x5 : Int64) (x : Int32), i + n = N → x = nI i → x5 = nL (hitS S ρ sd mo i) → Off Scr iv0 iv → RM iv ρ → TextsM iv T S → (∀ (iv : IV) (lv : LV) (x5 : Int64) (x : Int32), x = nI N → x5 = nL (hitS S ρ sd mo N) → Off Scr iv0 iv → RM iv ρ → TextsM iv T S → Rn g l mX7_chance (rmA (D + 53) 0 0) Q 0 0 79 [.ref 75, .int sd, .int m, .int mo, .int pt, .long x5, .retAddr 0, .int x] [] Γ iv rv lv) → Rn g l mX7_chance (rmA (D + 53) 0 0) Q 0 0 45 [.ref 75, .int sd, .int m, .int mo, .int pt, .long x5, .retAddr 0, .int x] [] Γ iv rv lv := by
  intro n
  induction n with
  | zero =>
    intro i iv lv x5 x hn hx h5 ho hR hX kk
    obtain rfl : i = N := by omega
    refine r_iload7 dX7_chance_45 ?_
    refine r_iload2 dX7_chance_47 ?_
    refine rn_icmp_ge 79 dX7_chance_48 rfl (fun _ => ?_) (fun h => absurd (by rw [hx, hN]; exact nI_le (Nat.le_refl _) (by omega)) h)
    exact kk _ _ _ _ hx h5 ho hR hX
  | succ n ih =>
    intro i iv lv x5 x hn hx h5 ho hR hX kk
    have hil : i < N := by omega
    skip
    refine r_iload7 dX7_chance_45 ?_
    refine r_iload2 dX7_chance_47 ?_
    refine rn_icmp_ge 79 dX7_chance_48 rfl (fun h => absurd h (fun z => by rw [hx, hN, nI_leI (by omega) (by omega)] at z; omega)) (fun _ => ?_)
    refine r_lload5 dX7_chance_51 ?_
    refine r_aload0 dX7_chance_53 ?_
    refine r_iload1 dX7_chance_54 ?_
    refine r_iload7 dX7_chance_55 ?_
    refine rn_iadd dX7_chance_57 ?_
    refine cliV1 dX7_chance_58 ov_X7_drawn rfl ml_X7_338 hM.1 rfl (Nat.le_of_ble_eq_true rfl) (Nat.zero_le _) (Nat.zero_le _) (ct_drawn D hM hR hX hT6 ht htT hg _) (fun x58 iv lv h58 => ?_)
    refine r_iload3 dX7_chance_61 ?_
    refine rn_icmp_gt 69 dX7_chance_62 rfl (fun c62 => ?_) (fun c62 => ?_)
    · refine rn_lconst (0) dX7_chance_69 (by decide) ?_
      refine rn_ladd dX7_chance_70 ?_
      refine r_lstore5 dX7_chance_71 rfl ?_
      refine r_iinc7 _ dX7_chance_73 rfl rfl ?_
      refine rn_goto 45 dX7_chance_76 rfl ?_
      have ee : hitS S ρ sd mo (i + 1) = hitS S ρ sd mo i + 0 := by rw [hitS, if_neg (by rw [← hx, ← h58.2.2]; exact Int32.not_le.mpr c62)]
      have hle := hit_le (S := S) (ρ := ρ) (sd := sd) (mo := mo) i
      exact ih (i + 1) iv lv _ _ (by omega) (by rw [hx]; exact nI_1 i) (by rw [ee, h5]; exact nL_a0 _ (by omega)) (ho.trans h58.1) h58.2.1 (hX.scr h58.1) kk
    · refine rn_lconst (1) dX7_chance_65 (by decide) ?_
      refine rn_goto 70 dX7_chance_66 rfl ?_
      refine rn_ladd dX7_chance_70 ?_
      refine r_lstore5 dX7_chance_71 rfl ?_
      refine r_iinc7 _ dX7_chance_73 rfl rfl ?_
      refine rn_goto 45 dX7_chance_76 rfl ?_
      have ee : hitS S ρ sd mo (i + 1) = hitS S ρ sd mo i + 1 := by rw [hitS, if_pos (by rw [← hx, ← h58.2.2]; exact Int32.not_lt.mp c62)]
      have hle := hit_le (S := S) (ρ := ρ) (sd := sd) (mo := mo) i
      exact ih (i + 1) iv lv _ _ (by omega) (by rw [hx]; exact nI_1 i) (by rw [ee, h5]; exact nL_1 _ (by omega)) (ho.trans h58.1) h58.2.1 (hX.scr h58.1) kk
set_option maxRecDepth 4000 in
theorem ct_chance (D : Nat) (hM : ShM Γ rv) {ρ : IV} {S : Nat → Nat → List Int32} {T : Nat} (hR : RM iv ρ) (hX : TextsM iv T S) (hT6 : T ≤ 6) {t : Nat} (ht : ρ 4 8 = nI t) (htT : t < T) (hg : GR ρ) (sd m mo pt : Int32) : Ct g l mX7_chance (D + 53) 0 0 [.ref 75, .int sd, .int m, .int mo, .int pt] Γ iv rv lv (qLL Γ rv (fun x iv' _ => Off Scr iv iv' ∧ RM iv' ρ ∧ x = chanQ S ρ sd m mo pt)) := by
  refine Ct.of (by decide +kernel) (Nat.le_of_ble_eq_true rfl) (Nat.le_of_ble_eq_true rfl) ?_
  refine r_iload2 dX7_chance_0 ?_
  refine rn_i2l dX7_chance_1 ?_
  refine rn_lconst (1) dX7_chance_2 (by decide) ?_
  refine rn_ldc2 (v := _) dX7_chance_3 cl_X7_123 ?_
  refine cpiS3 dX7_chance_6 os_X7_in rfl ml_X7_96 (Nat.zero_le _) (Nat.zero_le _) (Nat.zero_le _) (ct_inI _ (a := 1) (b := 30) (by decide) (by decide)) ?_
  refine rn_if_eq 35 dX7_chance_9 rfl (fun c9 => ?_) (fun c9 => ?_)
  · refine rn_ldc2 (v := _) dX7_chance_35 cl_X7_336 ?_
    refine rn_lret dX7_chance_38 rfl (Nat.zero_le _) (Nat.zero_le _) ?_
    refine ⟨_, rfl, rfl, rfl, Off.refl, hR, ?_⟩
    unfold chanQ
    rw [if_neg (fun z => bI_0.mp c9 z.1)]
  · refine r_iload3 dX7_chance_12 ?_
    refine rn_i2l dX7_chance_13 ?_
    refine rn_lconst (0) dX7_chance_14 (by decide) ?_
    refine rn_ldc2 (v := _) dX7_chance_15 cl_X7_311 ?_
    refine cpiS3 dX7_chance_18 os_X7_in rfl ml_X7_96 (Nat.zero_le _) (Nat.zero_le _) (Nat.zero_le _) (ct_inI _ (a := 0) (b := 300) (by decide) (by decide)) ?_
    refine rn_if_eq 35 dX7_chance_21 rfl (fun c21 => ?_) (fun c21 => ?_)
    · refine rn_ldc2 (v := _) dX7_chance_35 cl_X7_336 ?_
      refine rn_lret dX7_chance_38 rfl (Nat.zero_le _) (Nat.zero_le _) ?_
      refine ⟨_, rfl, rfl, rfl, Off.refl, hR, ?_⟩
      unfold chanQ
      rw [if_neg (fun z => bI_0.mp c21 z.2.1)]
    · refine r_iload4 dX7_chance_24 ?_
      refine rn_i2l dX7_chance_26 ?_
      refine rn_lconst (0) dX7_chance_27 (by decide) ?_
      refine rn_lconst (1) dX7_chance_28 (by decide) ?_
      refine cpiS3 dX7_chance_29 os_X7_in rfl ml_X7_96 (Nat.zero_le _) (Nat.zero_le _) (Nat.zero_le _) (ct_inI _ (a := 0) (b := 1) (by decide) (by decide)) ?_
      refine rn_if_ne 39 dX7_chance_32 rfl (fun c32 => ?_) (fun c32 => ?_)
      · have hq1 := bI_1.mp (bI_or.resolve_left c9)
        have hq2 := bI_1.mp (bI_or.resolve_left c21)
        have hq3 := bI_1.mp (bI_or.resolve_left c32)
        refine rn_lconst (0) dX7_chance_39 (by decide) ?_
        refine r_lstore5 dX7_chance_40 rfl ?_
        refine rn_iconst (0) dX7_chance_42 (by decide) ?_
        refine r_istore7 dX7_chance_43 rfl ?_
        refine chc_loop (iv0 := iv) hM hT6 ht htT hg (n30 hq1).1 (n30 hq1).2.1 _ 0 iv _ _ _ (Nat.zero_add _) rfl rfl Off.refl hR hX (fun iv lv x5 x hx h5 ho hRn hXn => ?_)
        refine r_lload5 dX7_chance_79 ?_
        refine r_iload2 dX7_chance_81 ?_
        refine rn_i2l dX7_chance_82 ?_
        refine r_iload4 dX7_chance_83 ?_
        refine cplS3 dX7_chance_85 os_X7_lowest rfl ml_X7_341 (Nat.zero_le _) (Nat.zero_le _) (Nat.zero_le _) (ct_lowest _ (Nat.le_trans (hit_le (S := S) (ρ := ρ) (sd := sd) (mo := mo) _) (n30 hq1).2.1) (n30 hq1).2.1 (n30 hq1).2.2 h5 (by rw [(n30 hq1).1, nI_clamp (by have := (n30 hq1).2.1; omega)]; exact nL_i32 _ (by have := (n30 hq1).2.1; omega)) _) ?_
        refine rn_lret dX7_chance_88 rfl (Nat.zero_le _) (Nat.zero_le _) ?_
        refine ⟨_, rfl, rfl, rfl, ho, hRn, ?_⟩
        unfold chanQ
        rw [if_pos ⟨hq1, hq2, hq3⟩]
      · refine rn_ldc2 (v := _) dX7_chance_35 cl_X7_336 ?_
        refine rn_lret dX7_chance_38 rfl (Nat.zero_le _) (Nat.zero_le _) ?_
        refine ⟨_, rfl, rfl, rfl, Off.refl, hR, ?_⟩
        unfold chanQ
        rw [if_neg (fun z => bI_0.mp c32 z.2.2)]
end MCHANCE
