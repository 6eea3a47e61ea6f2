/-! THE LOGIC: a heap by numbers of cells. A cell's number is its place in the order of making: its address is fixed by it.
    iv, rv, lv: what int-like, reference and long slots hold, by cell and slot; a reference is a cell's number, 0 is null.
    Cells 1 .. K0-1 are old (script, static rows, texts) and never written. -/
abbrev IV : Type := Nat → Nat → Int32
abbrev RV : Type := Nat → Nat → Nat
abbrev LV : Type := Nat → Nat → Int64
/-- how many cells there are, each one's kind, each one's length -/
abbrev Sh : Type := Nat × (Nat → Nat) × (Nat → Nat)
abbrev K0 : Nat := 14
/-- the state at the law's entry, classes and slots, array classes by kind, old cells: address, kind, length, ints, references -/
abbrev GS : Type := State × va_G × (Nat → ClassId) × (Nat → Nat) × (Nat → Nat) × (Nat → Nat → Int32)
abbrev GS.s0 (g : GS) : State := g.1
abbrev GS.dd (g : GS) : va_G := g.2.1
abbrev GS.ac (g : GS) : Nat → ClassId := g.2.2.1
abbrev GS.ro (g : GS) : Nat → Nat := g.2.2.2.1
abbrev GS.oln (g : GS) : Nat → Nat := g.2.2.2.2.1
abbrev GS.oiv (g : GS) : Nat → Nat → Int32 := g.2.2.2.2.2
def gbase (g : GS) : Nat := g.s0.heap.size
def rho (g : GS) (i : Nat) : Nat := if i < K0 then g.ro i else gbase g + (i - K0)
def cv (g : GS) (v : Value) : Value := match v with
  | .ref i => if i = 0 then .null else .ref (rho g i)
  | v => v
theorem cv_int (g : GS) (x : Int32) : cv g (.int x) = .int x := rfl
theorem cv_long (g : GS) (x : Int64) : cv g (.long x) = .long x := rfl
theorem cv_null (g : GS) : cv g (.ref 0) = .null := rfl
theorem cv_ref (g : GS) {i : Nat} (h : 0 < i) : cv g (.ref i) = .ref (rho g i) := if_neg (Nat.pos_iff_ne_zero.mp h)
theorem cv_cat (g : GS) (v : Value) : (cv g v).category = v.category := by
  cases v <;> first | rfl | skip
  unfold cv
  dsimp only
  split <;> rfl
/-- a slot's value by its type -/
def sv (ty : FieldType) (iv : IV) (rv : RV) (lv : LV) (i k : Nat) : Value := match ty with
  | .long => .long (lv i k)
  | .object _ => .ref (rv i k)
  | .array _ => .ref (rv i k)
  | _ => .int (iv i k)
/-- element types of array kinds: 20 int, 21 boolean, 22 byte, 23 Rule, 24 Sheet -/
def aty (k : Nat) : FieldType := match k with
  | 20 => .int
  | 21 => .boolean
  | 22 => .byte
  | 23 => .object "TillTheyMeet$Rule"
  | _ => .object "TillTheyMeet$Sheet"
def up {α : Type} (f : Nat → Nat → α) (i k : Nat) (x : α) : Nat → Nat → α := fun a b => if a = i ∧ b = k then x else f a b
def clr {α : Type} (f : Nat → Nat → α) (i : Nat) (z : α) : Nat → Nat → α := fun a b => if a = i then z else f a b
def up1 {α : Type} (f : Nat → α) (i : Nat) (x : α) : Nat → α := fun a => if a = i then x else f a
theorem up_same {α : Type} (f : Nat → Nat → α) (i k : Nat) (x : α) : up f i k x i k = x := if_pos ⟨rfl, rfl⟩
theorem up_ne {α : Type} {f : Nat → Nat → α} {i k a b : Nat} {x : α} (h : ¬ (a = i ∧ b = k)) : up f i k x a b = f a b := if_neg h
theorem up_ne1 {α : Type} {f : Nat → Nat → α} {i k a b : Nat} {x : α} (h : a ≠ i) : up f i k x a b = f a b := if_neg (fun q => h q.1)
theorem up_ne2 {α : Type} {f : Nat → Nat → α} {i k a b : Nat} {x : α} (h : b ≠ k) : up f i k x a b = f a b := if_neg (fun q => h q.2)
/-- old cells: 2 SET_LEAST, 3 SET_MOST, 4 UNDER, 5 LEAST, 6 MOST, 8, 10, 12 the bytes of the texts -/
def ob0 (i : Nat) : List Int32 := match i with
  | 2 => [1, 1, 0, 0, 0]
  | 3 => [30, 30, 999, 999, 99]
  | 4 => [-1, 0, 0, 1, 2, 1]
  | 5 => [0, 1, -999]
  | 6 => [999, 999, 999]
  | 8 => [114, 97, 116, 101, 32, 109, 101, 110, 32, 42, 32, 52, 32, 59, 32, 110, 101, 101, 100, 32, 51, 48, 32, 43, 32, 103, 114, 111, 117, 110, 100, 32, 42, 32, 50, 53, 32, 59, 32, 119, 111, 114, 116, 104, 32, 48, 32, 59]
  | 10 => [103, 114, 111, 117, 110, 100, 32, 109, 101, 110, 32, 32, 32, 32, 121, 97, 114, 100, 32, 32, 32, 97, 104, 101, 97, 100, 32, 32, 100, 97, 121, 32, 32, 32, 32, 107, 110, 111, 119, 110, 32, 32, 114, 97, 116, 101, 32, 32, 32, 110, 101, 101, 100, 32, 32, 32, 119, 111, 114, 116, 104, 32, 32, 111, 114, 32, 32, 32, 32, 32, 97, 110, 100, 32, 32, 32, 32, 110, 111, 116, 32, 32, 32, 32]
  | 12 => [40, 41, 59, 43, 45, 42, 60, 61]
  | _ => []
def oln0 (i : Nat) : Nat := (ob0 i).length
def oiv0 (i q : Nat) : Int32 := (ob0 i).getD q 0
abbrev oldA (g : GS) : Nat → Prop := fun q => gbase g ≤ q
/-- what the old cells are, and the tables: 1 script, 2 .. 6 static rows, 7 .. 12 texts (object, bytes), 13 what nobody asks -/
def GoodG (g : GS) : Prop :=
  va_K g.dd vwCl [] g.s0
  ∧ (∀ k, 20 ≤ k → k < 25 → ArrOfT g.s0 (g.ac k) (aty k) ∧ va_RA g.s0 (g.ac k) (aty k))
  ∧ (va_X (g.ro 1) (g.oln 1) (g.oiv 1) g.s0 g.s0.heap ∧ g.ro 1 < gbase g)
  ∧ (∀ i, 2 ≤ i → i < 7 → va_T .int (g.ro i) (oln0 i) (fun j => .int (oiv0 i j)) (oldA g) g.s0 g.s0.heap)
  ∧ (va_Z "TillTheyMeet" "SET_LEAST" "[I" (.ref (g.ro 2)) (oldA g) g.s0 g.s0.heap
     ∧ va_Z "TillTheyMeet" "SET_MOST" "[I" (.ref (g.ro 3)) (oldA g) g.s0 g.s0.heap
     ∧ va_Z "TillTheyMeet$Gang" "UNDER" "[I" (.ref (g.ro 4)) (oldA g) g.s0 g.s0.heap
     ∧ va_Z "TillTheyMeet$Road" "LEAST" "[I" (.ref (g.ro 5)) (oldA g) g.s0 g.s0.heap
     ∧ va_Z "TillTheyMeet$Road" "MOST" "[I" (.ref (g.ro 6)) (oldA g) g.s0 g.s0.heap
     ∧ va_Z "java/lang/String" "COMPACT_STRINGS" "Z" (.int 1) (oldA g) g.s0 g.s0.heap
     ∧ (va_Z "jdk/internal/util/Preconditions" "SIOOBE_FORMATTER" "Ljava/util/function/BiFunction;" .null (oldA g) g.s0 g.s0.heap ∨ va_Z "jdk/internal/util/Preconditions" "SIOOBE_FORMATTER" "Ljava/util/function/BiFunction;" (.ref (g.ro 13)) (oldA g) g.s0 g.s0.heap))
  ∧ (∀ j, j < 3 → va_O "java/lang/String" (g.ro (7 + 2 * j)) (oldA g) g.s0 g.s0.heap ∧ va_OF "java/lang/String" "coder" "B" (.int 0) (g.ro (7 + 2 * j)) (oldA g) g.s0 g.s0.heap ∧ va_OF "java/lang/String" "value" "[B" (.ref (g.ro (8 + 2 * j))) (g.ro (7 + 2 * j)) (oldA g) g.s0 g.s0.heap ∧ va_T .byte (g.ro (8 + 2 * j)) (oln0 (8 + 2 * j)) (fun q => .int (oiv0 (8 + 2 * j) q)) (oldA g) g.s0 g.s0.heap)
  ∧ (vk_R "TillTheyMeet" 43 "rate men * 4 ; need 30 + ground * 25 ; worth 0 ;" (g.ro 7) g.s0 ∧ (∃ tx, vk_R "TillTheyMeet$Reader" 108 tx (g.ro 9) g.s0) ∧ ∃ tx, vk_R "TillTheyMeet$Reader" 116 tx (g.ro 11) g.s0)
  ∧ (∀ q ∈ lw_tbl, (∃ a i y h, q = Cond.methodLinkNest a i y h) → va_Nw q g.s0)
  ∧ ((Cond.arrayOver (.object "TillTheyMeet$Rule")).before #[] g.s0 = true ∧ (Cond.arrayOver (.object "TillTheyMeet$Sheet")).before #[] g.s0 = true ∧ va_Nw (.castable "[I" "java/lang/Cloneable") g.s0)
/-- a cell that was made since -/
def cellOK (g : GS) (Γ : Sh) (iv : IV) (rv : RV) (lv : LV) (H : Heap) (i : Nat) : Prop :=
  (∃ r : vw_C, vwCl[Γ.2.1 i]? = some r ∧ t_OB (rho g i) (g.dd.1 (Γ.2.1 i)) r.2.2 (g.dd.2 (Γ.2.1 i)) H (fun k => cv g (sv (tyc (Γ.2.1 i) k) iv rv lv i k)))
  ∨ (20 ≤ Γ.2.1 i ∧ Γ.2.1 i < 25 ∧ H[rho g i]? = some (arrV (g.ac (Γ.2.1 i)) (Γ.2.2 i) (fun j => cv g (sv (aty (Γ.2.1 i)) iv rv lv i j))))
def RepH (g : GS) (Γ : Sh) (iv : IV) (rv : RV) (lv : LV) (H : Heap) : Prop :=
  K0 ≤ Γ.1 ∧ H.size = gbase g + (Γ.1 - K0) ∧ (∀ q : Nat, q < gbase g → H[q]? = g.s0.heap[q]?) ∧ ∀ i, K0 ≤ i → i < Γ.1 → cellOK g Γ iv rv lv H i
/-- a cell of ours of a kind; an array of a kind and length -/
def IsK (Γ : Sh) (i c : Nat) : Prop := K0 ≤ i ∧ i < Γ.1 ∧ Γ.2.1 i = c
def IsA (Γ : Sh) (i c n : Nat) : Prop := K0 ≤ i ∧ i < Γ.1 ∧ Γ.2.1 i = c ∧ Γ.2.2 i = n
theorem rho_new {g : GS} {i : Nat} (h : K0 ≤ i) : rho g i = gbase g + (i - K0) := if_neg (by omega)
theorem rho_old {g : GS} {i : Nat} (h : i < K0) : rho g i = g.ro i := if_pos h
theorem rho_inj {g : GS} {i j : Nat} (hi : K0 ≤ i) (hj : K0 ≤ j) (h : i ≠ j) : rho g i ≠ rho g j := by
  rw [rho_new hi, rho_new hj]; omega
theorem rho_base {g : GS} {i : Nat} (h : K0 ≤ i) : gbase g ≤ rho g i := by rw [rho_new h]; omega
theorem cv_new {g : GS} {i : Nat} (h : K0 ≤ i) : cv g (.ref i) = .ref (rho g i) := cv_ref g (by have : K0 = 14 := rfl; omega)
theorem sv_off {ty : FieldType} {iv iv' : IV} {rv rv' : RV} {lv lv' : LV} {i k : Nat} (h1 : iv' i k = iv i k) (h2 : rv' i k = rv i k) (h3 : lv' i k = lv i k) : sv ty iv' rv' lv' i k = sv ty iv rv lv i k := by
  unfold sv; cases ty <;> simp only [h1, h2, h3]
theorem cellOK.off {g : GS} {Γ : Sh} {iv iv' : IV} {rv rv' : RV} {lv lv' : LV} {H H' : Heap} {j : Nat} (h : cellOK g Γ iv rv lv H j) (hH : H'[rho g j]? = H[rho g j]?) (h1 : ∀ k, iv' j k = iv j k) (h2 : ∀ k, rv' j k = rv j k) (h3 : ∀ k, lv' j k = lv j k) : cellOK g Γ iv' rv' lv' H' j := by
  rcases h with ⟨r, a, b⟩ | ⟨a, b, c⟩
  · exact Or.inl ⟨r, a, (b.kept hH).to (fun k _ => by rw [sv_off (h1 k) (h2 k) (h3 k)])⟩
  · refine Or.inr ⟨a, b, ?_⟩
    rw [hH, c]
    congr 3
    funext k
    rw [sv_off (h1 k) (h2 k) (h3 k)]
/-- one cell is written -/
theorem RepH.put {g : GS} {Γ : Sh} {iv iv' : IV} {rv rv' : RV} {lv lv' : LV} {H H' : Heap} {i : Nat} (h : RepH g Γ iv rv lv H) (hi : K0 ≤ i) (hz : H'.size = H.size) (ho : ∀ q : Nat, q ≠ rho g i → H'[q]? = H[q]?) (hc : cellOK g Γ iv' rv' lv' H' i)
    (h1 : ∀ j k, j ≠ i → iv' j k = iv j k) (h2 : ∀ j k, j ≠ i → rv' j k = rv j k) (h3 : ∀ j k, j ≠ i → lv' j k = lv j k) : RepH g Γ iv' rv' lv' H' := by
  obtain ⟨a, b, c, d⟩ := h
  refine ⟨a, by rw [hz]; exact b, fun q hq => by rw [ho q (by have := rho_base (g := g) hi; omega)]; exact c q hq, fun j hj hn => ?_⟩
  by_cases e : j = i
  · subst e; exact hc
  · exact (d j hj hn).off (ho _ (rho_inj hj hi e)) (fun k => h1 j k e) (fun k => h2 j k e) (fun k => h3 j k e)
/-! locals: one value a place; '.retAddr' says that nothing is known there -/
def isD (v : Value) : Bool := match v with
  | .retAddr _ => true
  | _ => false
def lsOK (g : GS) (nL : Nat) (ls : List Value) (lsC : Array Slot) : Prop := lsC.size = nL ∧ lv_wf lsC ∧ ls.length ≤ nL ∧ ∀ (i : Nat) (v : Value), ls[i]? = some v → isD v = false → lsC[i]? = some (.val (cv g v))
def prs (g : GS) : Nat → List Value → List (Nat × Value)
  | _, [] => []
  | i, v :: vs => if isD v then prs g (i + 1) vs else (i, cv g v) :: prs g (i + 1) vs
theorem mem_prs {g : GS} {ls : List Value} : ∀ {i : Nat} {q : Nat × Value}, q ∈ prs g i ls ↔ ∃ (j : Nat) (v : Value), ls[j]? = some v ∧ isD v = false ∧ q = (i + j, cv g v) := by
  induction ls with
  | nil => intro i q; simp [prs]
  | cons v vs ih =>
    intro i q
    unfold prs
    constructor
    · intro h
      split at h
      · obtain ⟨j, w, h1, h2, h3⟩ := ih.mp h
        exact ⟨j + 1, w, by simpa using h1, h2, by rw [h3]; congr 1; omega⟩
      · rename_i hv
        rcases List.mem_cons.mp h with e | h
        · exact ⟨0, v, by simp, by simpa using hv, by simpa using e⟩
        · obtain ⟨j, w, h1, h2, h3⟩ := ih.mp h
          exact ⟨j + 1, w, by simpa using h1, h2, by rw [h3]; congr 1; omega⟩
    · rintro ⟨j, w, h1, h2, h3⟩
      cases j with
      | zero =>
        simp at h1
        subst h1
        rw [if_neg (by simp [h2])]
        exact List.mem_cons.mpr (Or.inl (by simpa using h3))
      | succ j =>
        have : q ∈ prs g (i + 1) vs := ih.mpr ⟨j, w, by simpa using h1, h2, by rw [h3]; congr 1; omega⟩
        split
        · exact this
        · exact List.mem_cons_of_mem _ this
theorem lsOK.has {g : GS} {nL : Nat} {ls : List Value} {lsC : Array Slot} (h : lsOK g nL ls lsC) : lv_has lsC nL (prs g 0 ls) := by
  refine ⟨h.1, h.2.1, fun q hq => ?_⟩
  obtain ⟨j, v, h1, h2, rfl⟩ := mem_prs.mp hq
  simpa using h.2.2.2 j v h1 h2
theorem lsOK.at {g : GS} {nL : Nat} {ls : List Value} {lsC : Array Slot} (h : lsOK g nL ls lsC) {i : Nat} {v : Value} (hi : ls[i]? = some v) (hd : isD v = false) : lsC[i]? = some (.val (cv g v)) := h.2.2.2 i v hi hd
/-- a place of category 1 is written -/
theorem lsOK.store {g : GS} {nL : Nat} {ls : List Value} {lsC : Array Slot} (h : lsOK g nL ls lsC) {i : Nat} {v : Value} {ls' : Array Slot} (hp : ∀ w, ls[i - 1]? = some w → 0 < i → w.category = 1)
    (h' : lv_has ls' nL ((i, cv g v) :: (prs g 0 ls).filter (fun q => !(q.1 == i) && !(q.1 + 1 == i && q.2.category == 2)))) : lsOK g nL (ls.set i v) ls' := by
  refine ⟨h'.1, h'.2.1, by rw [List.length_set]; exact h.2.2.1, fun j w hj hw => ?_⟩
  by_cases e : j = i
  · subst e
    have hlt : j < ls.length := by
      have := (List.getElem?_eq_some_iff.mp hj).1
      simpa using this
    rw [List.getElem?_set_self hlt] at hj
    cases hj
    exact h'.2.2 (j, cv g v) List.mem_cons_self
  · rw [List.getElem?_set_ne (fun z => e z.symm)] at hj
    refine h'.2.2 (j, cv g w) (List.mem_cons_of_mem _ (List.mem_filter.mpr ⟨mem_prs.mpr ⟨j, w, hj, hw, by simp⟩, ?_⟩))
    have : ¬ (j + 1 = i ∧ w.category = 2) := by
      rintro ⟨a, b⟩
      have := hp w (by rw [← a]; simpa using hj) (by omega)
      omega
    simp [e, cv_cat]
    exact Decidable.not_and_iff_or_not.mp this
theorem lsOK.store2 {g : GS} {nL : Nat} {ls : List Value} {lsC : Array Slot} (h : lsOK g nL ls lsC) {i z : Nat} {v : Value} {ls' : Array Slot} (hp : ∀ w, ls[i - 1]? = some w → 0 < i → w.category = 1)
    (h' : lv_has ls' nL ((i, cv g v) :: (prs g 0 ls).filter (fun q => !(q.1 == i) && (!(q.1 == i + 1) && !(q.1 + 1 == i && q.2.category == 2))))) : lsOK g nL ((ls.set i v).set (i + 1) (.retAddr z)) ls' := by
  refine ⟨h'.1, h'.2.1, by rw [List.length_set, List.length_set]; exact h.2.2.1, fun j w hj hw => ?_⟩
  by_cases e : j = i + 1
  · subst e
    have hlt := (List.getElem?_eq_some_iff.mp hj).1
    rw [List.getElem?_set_self (by simpa using hlt)] at hj
    cases hj
    cases hw
  rw [List.getElem?_set_ne (fun z => e z.symm)] at hj
  by_cases e : j = i
  · subst e
    have hlt : j < ls.length := by
      have := (List.getElem?_eq_some_iff.mp hj).1
      simpa using this
    rw [List.getElem?_set_self hlt] at hj
    cases hj
    exact h'.2.2 (j, cv g v) List.mem_cons_self
  · rw [List.getElem?_set_ne (fun z => e z.symm)] at hj
    refine h'.2.2 (j, cv g w) (List.mem_cons_of_mem _ (List.mem_filter.mpr ⟨mem_prs.mpr ⟨j, w, hj, hw, by simp⟩, ?_⟩))
    have : ¬ (j + 1 = i ∧ w.category = 2) := by
      rintro ⟨a, b⟩
      have := hp w (by rw [← a]; simpa using hj) (by omega)
      omega
    simp [e, cv_cat]
    refine ⟨by assumption, Decidable.not_and_iff_or_not.mp this⟩
/-! the judgements -/
abbrev Qt : Type := Option Value → Sh → IV → RV → LV → Prop
def rmA (d mc ms : Nat) : Room := { frames := d, cells := mc, slots := ms, locals := 100 * d }
def Cx (g : GS) (M : MI) (p : Program) (s : State) (m : MethodId) (args : Array Value) (meth : Method) (c : Code) : Prop :=
  p.tables.exec = Jvm.exec ∧ c.code = M.2.1 ∧ meth.sig.returnType = M.2.2.2 ∧ c.maxLocals = M.2.2.1 ∧ s.vm.findClass M.1.cls = some m.cls ∧ (M.1.name = "<init>" → meth.name = M.1.name) ∧ (∀ w ∈ gtb, w.before args s = true) ∧ meth.locks = false ∧ g.s0.WarmedH s.vm
def QcA (g : GS) (Q : Qt) : Array Value → State → Outcome → State → Prop := fun _ _ oc t => ∃ (r : Option Value) (Γ : Sh) (iv : IV) (rv : RV) (lv : LV), oc = .returned (r.map (cv g)) ∧ Q r Γ iv rv lv ∧ RepH g Γ iv rv lv t.heap
def PcA (g : GS) (as : List Value) (Γ : Sh) (iv : IV) (rv : RV) (lv : LV) : Array Value → State → Prop := fun v U => v = (as.map (cv g)).toArray ∧ g.s0.WarmedH U.vm ∧ RepH g Γ iv rv lv U.heap
/-- from here the method comes to its end, with Q -/
def Rn (g : GS) (l : Launch) (M : MI) (R : Room) (Q : Qt) (k n pc : Nat) (ls st : List Value) (Γ : Sh) (iv : IV) (rv : RV) (lv : LV) : Prop :=
  ∀ (p : Program) (e : Env) (s : State) (m : MethodId) (args : Array Value) (below : List Frame) (meth : Method) (c : Code) (H : Heap) (locs : List Loc) (lsC : Array Slot),
    GoodG g → Cx g M p s m args meth c → RepH g Γ iv rv lv H → (∀ q ∈ locs, gbase g ≤ q.base) → lsOK g M.2.2.1 ls lsC →
    W p l e R s m args below meth c H locs k n (MQ below (QcA g Q) args s R.cells R.slots (oldA g)) (F0 m pc lsC (st.map (cv g)))
/-- a method's contract at these arguments and this heap -/
def Ct (g : GS) (l : Launch) (M : MI) (d mc ms : Nat) (as : List Value) (Γ : Sh) (iv : IV) (rv : RV) (lv : LV) (Q : Qt) : Prop :=
  GoodG g → Met l M.1 (Cond.code M.1 M.2.1 M.2.2.1 M.2.2.2 :: gtb) (rmA d mc ms) (PcA g as Γ iv rv lv) (QcA g Q) mc ms (oldA g)
def ent : List Value → Nat → List Value
  | [], n => List.replicate n (.retAddr 0)
  | v :: vs, n => if v.category = 2 then v :: .retAddr 0 :: ent vs (n - 2) else v :: ent vs (n - 1)
theorem ent_args {g : GS} : ∀ (as : List Value) (n i j : Nat) (v : Value), (ent as n)[j]? = some v → isD v = false → (i + j, cv g v) ∈ lv_args i (as.map (cv g)) := by
  intro as
  induction as with
  | nil =>
    intro n i j v h hd
    unfold ent at h
    rw [List.getElem?_replicate] at h
    split at h
    · cases h; cases hd
    · cases h
  | cons a as ih =>
    intro n i j v h hd
    unfold ent at h
    rw [List.map_cons, lv_args, cv_cat]
    split at h
    · rename_i hc
      match j, h with
      | 0, h => simp at h; subst h; exact List.mem_cons_self
      | 1, h => simp at h; subst h; cases hd
      | j + 2, h =>
        have := ih (n - 2) (i + 2) j v (by simpa using h) hd
        refine List.mem_cons_of_mem _ ?_
        rw [if_pos hc, show i + (j + 2) = i + 2 + j by omega]
        exact this
    · rename_i hc
      match j, h with
      | 0, h => simp at h; subst h; exact List.mem_cons_self
      | j + 1, h =>
        have := ih (n - 1) (i + 1) j v (by simpa using h) hd
        refine List.mem_cons_of_mem _ ?_
        rw [if_neg hc, show i + (j + 1) = i + 1 + j by omega]
        exact this
theorem lg_sl_len {g : GS} : ∀ (as : List Value), (lg_sl (as.map (cv g))).length = (lg_sl as).length := by
  intro as
  induction as with
  | nil => rfl
  | cons a as ih =>
    unfold lg_sl at ih ⊢
    rw [List.map_cons, List.flatMap_cons, List.flatMap_cons, List.length_append, List.length_append, ih, cv_cat]
    split <;> rfl
theorem Ct.of {g : GS} {l : Launch} {M : MI} {d mc ms : Nat} {as : List Value} {Γ : Sh} {iv : IV} {rv : RV} {lv : LV} {Q : Qt} (hy : plainName M.1.cls = true) (hlen : (lg_sl as).length ≤ M.2.2.1) (hent : (ent as M.2.2.1).length ≤ M.2.2.1)
    (h : Rn g l M (rmA d mc ms) Q 0 0 0 (ent as M.2.2.1) [] Γ iv rv lv) : Ct g l M d mc ms as Γ iv rv lv Q := by
  intro hG
  refine Met.ofW (cc := M.2.1) (maxL := M.2.2.1) (ret := M.2.2.2) hy rfl ?_
  intro p e s m args below meth c s₁ B hml hv
  obtain ⟨rfl, hw, hrep⟩ := hv
  have hts := atoms_spec (ws := Cond.code M.1 M.2.1 M.2.2.1 M.2.2.2 :: gtb) B.pre
  have hl := lv_entry (as.map (cv g)) (n := M.2.2.1) (by rw [lg_sl_len]; exact hlen)
  rw [lg_entry_eq]
  refine h p e s m _ below meth c s.heap [] _ hG ⟨B.exec, B.bytes, B.returns, hml, findClass_of_methodNamed B.named, fun _ => (name_of_methodNamed B.named B.method).1, fun w hw => hts w (List.mem_cons_of_mem _ hw), B.notSynchronized, hw⟩ hrep (fun _ h => by cases h) ⟨hl.1, hl.2.1, hent, fun i v hi hd => ?_⟩
  have := hl.2.2 (0 + i, cv g v) (ent_args as _ 0 i v hi hd)
  simpa using this
theorem Ct.mono {g : GS} {l : Launch} {M : MI} {d mc ms : Nat} {as : List Value} {Γ : Sh} {iv : IV} {rv : RV} {lv : LV} {Q Q' : Qt} (h : Ct g l M d mc ms as Γ iv rv lv Q) (hq : ∀ r Γ iv rv lv, Q r Γ iv rv lv → Q' r Γ iv rv lv) : Ct g l M d mc ms as Γ iv rv lv Q' := by
  intro hG p e ha hc hk s m args below hf hpre hP hK
  obtain ⟨t, o, h1, h2, h3, ⟨r, Γ', iv', rv', lv', e1, e2, e3⟩, h4⟩ := h hG p e ha hc hk s m args below hf hpre hP hK
  exact ⟨t, o, h1, h2, h3, ⟨r, Γ', iv', rv', lv', e1, hq _ _ _ _ _ e2, e3⟩, h4⟩
