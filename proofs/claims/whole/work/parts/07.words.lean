/-! WORDS by their places; fields, callees, links (by program) -/
theorem nar_ref {g : GS} {ty : FieldType} {j : Nat} (h : refKind ty = true) : narrow ty (cv g (.ref j)) = cv g (.ref j) := by
  by_cases z : j = 0
  · subst z; cases ty <;> first | rfl | cases h
  · rw [cv_ref g (by omega)]; cases ty <;> first | rfl | cases h
theorem fit_ref {g : GS} {ty : FieldType} {j : Nat} (h : refKind ty = true) : fits ty (cv g (.ref j)) = true := by
  by_cases z : j = 0
  · subst z; cases ty <;> first | rfl | cases h
  · rw [cv_ref g (by omega)]; cases ty <;> first | rfl | cases h
section WORDS
variable {g : GS} {l : Launch} {M : MI} {R : Room} {Q : Qt} {k n pc : Nat} {ls st : List Value} {Γ : Sh} {iv : IV} {rv : RV} {lv : LV}
theorem uwe_X0 : u_ws RX0 TX0 3 = [Cond.lays "TillTheyMeet$Best" "TillTheyMeet$Best" "at" "I", Cond.lays "TillTheyMeet$Best" "TillTheyMeet$Best" "worth" "I", Cond.lays "TillTheyMeet$Best" "TillTheyMeet$Best" "empty" "Z"] := by decide +kernel
theorem uw_X0 : ∀ w ∈ u_ws RX0 TX0 3, w ∈ gtb := by
  rw [uwe_X0]
  exact List.forall_mem_cons.mpr ⟨(gtb_in 88 (by decide +kernel) (by decide +kernel)), List.forall_mem_cons.mpr ⟨(gtb_in 90 (by decide +kernel) (by decide +kernel)), List.forall_mem_cons.mpr ⟨(gtb_in 92 (by decide +kernel) (by decide +kernel)), fun _ h => absurd h List.not_mem_nil⟩⟩⟩
theorem te_X0 : ∀ k, k < 3 → tyX0 k = tyc 0 k ∧ tyX0 k ≠ .float ∧ tyX0 k ≠ .double := by decide +kernel
theorem uwe_X1 : u_ws RX1 TX1 10 = [Cond.laysFinal "TillTheyMeet$Gang" "TillTheyMeet$Gang" "goesUp" "Z", Cond.lays "TillTheyMeet$Gang" "TillTheyMeet$Gang" "kind" "I", Cond.lays "TillTheyMeet$Gang" "TillTheyMeet$Gang" "number" "I", Cond.lays "TillTheyMeet$Gang" "TillTheyMeet$Gang" "men" "I", Cond.lays "TillTheyMeet$Gang" "TillTheyMeet$Gang" "done" "I", Cond.lays "TillTheyMeet$Gang" "TillTheyMeet$Gang" "work" "I", Cond.lays "TillTheyMeet$Gang" "TillTheyMeet$Gang" "earned" "I", Cond.lays "TillTheyMeet$Gang" "TillTheyMeet$Gang" "spent" "I", Cond.laysFinal "TillTheyMeet$Gang" "TillTheyMeet$Gang" "askedAt" "[I", Cond.laysFinal "TillTheyMeet$Gang" "TillTheyMeet$Gang" "answered" "[I"] := by decide +kernel
theorem uw_X1 : ∀ w ∈ u_ws RX1 TX1 10, w ∈ gtb := by
  rw [uwe_X1]
  exact List.forall_mem_cons.mpr ⟨(gtb_in 399 (by decide +kernel) (by decide +kernel)), List.forall_mem_cons.mpr ⟨(gtb_in 401 (by decide +kernel) (by decide +kernel)), List.forall_mem_cons.mpr ⟨(gtb_in 403 (by decide +kernel) (by decide +kernel)), List.forall_mem_cons.mpr ⟨(gtb_in 405 (by decide +kernel) (by decide +kernel)), List.forall_mem_cons.mpr ⟨(gtb_in 407 (by decide +kernel) (by decide +kernel)), List.forall_mem_cons.mpr ⟨(gtb_in 409 (by decide +kernel) (by decide +kernel)), List.forall_mem_cons.mpr ⟨(gtb_in 411 (by decide +kernel) (by decide +kernel)), List.forall_mem_cons.mpr ⟨(gtb_in 413 (by decide +kernel) (by decide +kernel)), List.forall_mem_cons.mpr ⟨(gtb_in 415 (by decide +kernel) (by decide +kernel)), List.forall_mem_cons.mpr ⟨(gtb_in 417 (by decide +kernel) (by decide +kernel)), fun _ h => absurd h List.not_mem_nil⟩⟩⟩⟩⟩⟩⟩⟩⟩⟩
theorem te_X1 : ∀ k, k < 10 → tyX1 k = tyc 1 k ∧ tyX1 k ≠ .float ∧ tyX1 k ≠ .double := by decide +kernel
theorem uwe_X2 : u_ws RX2 TX2 10 = [Cond.lays "TillTheyMeet$Reader" "TillTheyMeet$Reader" "size" "I", Cond.lays "TillTheyMeet$Reader" "TillTheyMeet$Reader" "fault" "I", Cond.laysFinal "TillTheyMeet$Reader" "TillTheyMeet$Reader" "tape" "[I", Cond.lays "TillTheyMeet$Reader" "TillTheyMeet$Reader" "place" "I", Cond.lays "TillTheyMeet$Reader" "TillTheyMeet$Reader" "token" "I", Cond.lays "TillTheyMeet$Reader" "TillTheyMeet$Reader" "tokenAt" "I", Cond.lays "TillTheyMeet$Reader" "TillTheyMeet$Reader" "value" "I", Cond.laysFinal "TillTheyMeet$Reader" "TillTheyMeet$Reader" "steps" "[I", Cond.lays "TillTheyMeet$Reader" "TillTheyMeet$Reader" "stepCount" "I", Cond.laysFinal "TillTheyMeet$Reader" "TillTheyMeet$Reader" "bounds" "[I"] := by decide +kernel
theorem uw_X2 : ∀ w ∈ u_ws RX2 TX2 10, w ∈ gtb := by
  rw [uwe_X2]
  exact List.forall_mem_cons.mpr ⟨(gtb_in 113 (by decide +kernel) (by decide +kernel)), List.forall_mem_cons.mpr ⟨(gtb_in 115 (by decide +kernel) (by decide +kernel)), List.forall_mem_cons.mpr ⟨(gtb_in 117 (by decide +kernel) (by decide +kernel)), List.forall_mem_cons.mpr ⟨(gtb_in 119 (by decide +kernel) (by decide +kernel)), List.forall_mem_cons.mpr ⟨(gtb_in 121 (by decide +kernel) (by decide +kernel)), List.forall_mem_cons.mpr ⟨(gtb_in 123 (by decide +kernel) (by decide +kernel)), List.forall_mem_cons.mpr ⟨(gtb_in 125 (by decide +kernel) (by decide +kernel)), List.forall_mem_cons.mpr ⟨(gtb_in 127 (by decide +kernel) (by decide +kernel)), List.forall_mem_cons.mpr ⟨(gtb_in 129 (by decide +kernel) (by decide +kernel)), List.forall_mem_cons.mpr ⟨(gtb_in 131 (by decide +kernel) (by decide +kernel)), fun _ h => absurd h List.not_mem_nil⟩⟩⟩⟩⟩⟩⟩⟩⟩⟩
theorem te_X2 : ∀ k, k < 10 → tyX2 k = tyc 2 k ∧ tyX2 k ≠ .float ∧ tyX2 k ≠ .double := by decide +kernel
theorem uwe_X3 : u_ws RX3 TX3 10 = [Cond.laysFinal "TillTheyMeet$Road" "TillTheyMeet$Road" "ground" "[I", Cond.laysFinal "TillTheyMeet$Road" "TillTheyMeet$Road" "known" "[I", Cond.laysFinal "TillTheyMeet$Road" "TillTheyMeet$Road" "upward" "LTillTheyMeet$Gang;", Cond.laysFinal "TillTheyMeet$Road" "TillTheyMeet$Road" "downward" "LTillTheyMeet$Gang;", Cond.lays "TillTheyMeet$Road" "TillTheyMeet$Road" "day" "I", Cond.lays "TillTheyMeet$Road" "TillTheyMeet$Road" "payYard" "I", Cond.lays "TillTheyMeet$Road" "TillTheyMeet$Road" "payDay" "I", Cond.lays "TillTheyMeet$Road" "TillTheyMeet$Road" "wage" "I", Cond.lays "TillTheyMeet$Road" "TillTheyMeet$Road" "rule" "LTillTheyMeet$Rule;", Cond.laysFinal "TillTheyMeet$Road" "TillTheyMeet$Road" "meant" "[I"] := by decide +kernel
theorem uw_X3 : ∀ w ∈ u_ws RX3 TX3 10, w ∈ gtb := by
  rw [uwe_X3]
  exact List.forall_mem_cons.mpr ⟨(gtb_in 439 (by decide +kernel) (by decide +kernel)), List.forall_mem_cons.mpr ⟨(gtb_in 441 (by decide +kernel) (by decide +kernel)), List.forall_mem_cons.mpr ⟨(gtb_in 443 (by decide +kernel) (by decide +kernel)), List.forall_mem_cons.mpr ⟨(gtb_in 445 (by decide +kernel) (by decide +kernel)), List.forall_mem_cons.mpr ⟨(gtb_in 447 (by decide +kernel) (by decide +kernel)), List.forall_mem_cons.mpr ⟨(gtb_in 449 (by decide +kernel) (by decide +kernel)), List.forall_mem_cons.mpr ⟨(gtb_in 451 (by decide +kernel) (by decide +kernel)), List.forall_mem_cons.mpr ⟨(gtb_in 453 (by decide +kernel) (by decide +kernel)), List.forall_mem_cons.mpr ⟨(gtb_in 455 (by decide +kernel) (by decide +kernel)), List.forall_mem_cons.mpr ⟨(gtb_in 457 (by decide +kernel) (by decide +kernel)), fun _ h => absurd h List.not_mem_nil⟩⟩⟩⟩⟩⟩⟩⟩⟩⟩
theorem te_X3 : ∀ k, k < 10 → tyX3 k = tyc 3 k ∧ tyX3 k ≠ .float ∧ tyX3 k ≠ .double := by decide +kernel
theorem uwe_X4 : u_ws RX4 TX4 5 = [Cond.laysFinal "TillTheyMeet$Rule" "TillTheyMeet$Rule" "number" "I", Cond.laysFinal "TillTheyMeet$Rule" "TillTheyMeet$Rule" "speaksOfDay" "[Z", Cond.laysFinal "TillTheyMeet$Rule" "TillTheyMeet$Rule" "steps" "[I", Cond.laysFinal "TillTheyMeet$Rule" "TillTheyMeet$Rule" "bounds" "[I", Cond.laysFinal "TillTheyMeet$Rule" "TillTheyMeet$Rule" "pile" "[I"] := by decide +kernel
theorem uw_X4 : ∀ w ∈ u_ws RX4 TX4 5, w ∈ gtb := by
  rw [uwe_X4]
  exact List.forall_mem_cons.mpr ⟨(gtb_in 348 (by decide +kernel) (by decide +kernel)), List.forall_mem_cons.mpr ⟨(gtb_in 350 (by decide +kernel) (by decide +kernel)), List.forall_mem_cons.mpr ⟨(gtb_in 352 (by decide +kernel) (by decide +kernel)), List.forall_mem_cons.mpr ⟨(gtb_in 354 (by decide +kernel) (by decide +kernel)), List.forall_mem_cons.mpr ⟨(gtb_in 356 (by decide +kernel) (by decide +kernel)), fun _ h => absurd h List.not_mem_nil⟩⟩⟩⟩⟩
theorem te_X4 : ∀ k, k < 5 → tyX4 k = tyc 4 k ∧ tyX4 k ≠ .float ∧ tyX4 k ≠ .double := by decide +kernel
theorem uwe_X5 : u_ws RX5 TX5 3 = [Cond.laysFinal "TillTheyMeet$Sheet" "TillTheyMeet$Sheet" "items" "[I", Cond.lays "TillTheyMeet$Sheet" "TillTheyMeet$Sheet" "sort" "I", Cond.lays "TillTheyMeet$Sheet" "TillTheyMeet$Sheet" "size" "I"] := by decide +kernel
theorem uw_X5 : ∀ w ∈ u_ws RX5 TX5 3, w ∈ gtb := by
  rw [uwe_X5]
  exact List.forall_mem_cons.mpr ⟨(gtb_in 471 (by decide +kernel) (by decide +kernel)), List.forall_mem_cons.mpr ⟨(gtb_in 473 (by decide +kernel) (by decide +kernel)), List.forall_mem_cons.mpr ⟨(gtb_in 475 (by decide +kernel) (by decide +kernel)), fun _ h => absurd h List.not_mem_nil⟩⟩⟩
theorem te_X5 : ∀ k, k < 3 → tyX5 k = tyc 5 k ∧ tyX5 k ≠ .float ∧ tyX5 k ≠ .double := by decide +kernel
theorem uwe_X6 : u_ws RX6 TX6 10 = [Cond.laysFinal "TillTheyMeet" "TillTheyMeet" "now" "LTillTheyMeet$Road;", Cond.laysFinal "TillTheyMeet" "TillTheyMeet" "kept" "LTillTheyMeet$Road;", Cond.laysFinal "TillTheyMeet" "TillTheyMeet" "plan" "LTillTheyMeet$Road;", Cond.laysFinal "TillTheyMeet" "TillTheyMeet" "trial" "LTillTheyMeet$Road;", Cond.laysFinal "TillTheyMeet" "TillTheyMeet" "best" "LTillTheyMeet$Best;", Cond.laysFinal "TillTheyMeet" "TillTheyMeet" "reader" "LTillTheyMeet$Reader;", Cond.laysFinal "TillTheyMeet" "TillTheyMeet" "rules" "[LTillTheyMeet$Rule;", Cond.laysFinal "TillTheyMeet" "TillTheyMeet" "sheets" "[LTillTheyMeet$Sheet;", Cond.lays "TillTheyMeet" "TillTheyMeet" "texts" "I", Cond.lays "TillTheyMeet" "TillTheyMeet" "hasImage" "Z"] := by decide +kernel
theorem uw_X6 : ∀ w ∈ u_ws RX6 TX6 10, w ∈ gtb := by
  rw [uwe_X6]
  exact List.forall_mem_cons.mpr ⟨(gtb_in 488 (by decide +kernel) (by decide +kernel)), List.forall_mem_cons.mpr ⟨(gtb_in 490 (by decide +kernel) (by decide +kernel)), List.forall_mem_cons.mpr ⟨(gtb_in 492 (by decide +kernel) (by decide +kernel)), List.forall_mem_cons.mpr ⟨(gtb_in 494 (by decide +kernel) (by decide +kernel)), List.forall_mem_cons.mpr ⟨(gtb_in 496 (by decide +kernel) (by decide +kernel)), List.forall_mem_cons.mpr ⟨(gtb_in 498 (by decide +kernel) (by decide +kernel)), List.forall_mem_cons.mpr ⟨(gtb_in 500 (by decide +kernel) (by decide +kernel)), List.forall_mem_cons.mpr ⟨(gtb_in 502 (by decide +kernel) (by decide +kernel)), List.forall_mem_cons.mpr ⟨(gtb_in 504 (by decide +kernel) (by decide +kernel)), List.forall_mem_cons.mpr ⟨(gtb_in 506 (by decide +kernel) (by decide +kernel)), fun _ h => absurd h List.not_mem_nil⟩⟩⟩⟩⟩⟩⟩⟩⟩⟩
theorem te_X6 : ∀ k, k < 10 → tyX6 k = tyc 6 k ∧ tyX6 k ≠ .float ∧ tyX6 k ≠ .double := by decide +kernel
theorem uwe_X7 : u_ws RX7 TX7 55 = [Cond.lays "TillTheyMeetModel" "TillTheyMeetModel" "thrown" "I", Cond.laysFinal "TillTheyMeetModel" "TillTheyMeetModel" "texts" "[I", Cond.laysFinal "TillTheyMeetModel" "TillTheyMeetModel" "textSize" "[I", Cond.lays "TillTheyMeetModel" "TillTheyMeetModel" "textCount" "I", Cond.lays "TillTheyMeetModel" "TillTheyMeetModel" "rule" "I", Cond.laysFinal "TillTheyMeetModel" "TillTheyMeetModel" "tape" "[I", Cond.lays "TillTheyMeetModel" "TillTheyMeetModel" "taped" "I", Cond.laysFinal "TillTheyMeetModel" "TillTheyMeetModel" "grounds" "[I", Cond.laysFinal "TillTheyMeetModel" "TillTheyMeetModel" "known" "[I", Cond.laysFinal "TillTheyMeetModel" "TillTheyMeetModel" "kinds" "[I", Cond.laysFinal "TillTheyMeetModel" "TillTheyMeetModel" "numbers" "[I", Cond.laysFinal "TillTheyMeetModel" "TillTheyMeetModel" "men" "[I", Cond.laysFinal "TillTheyMeetModel" "TillTheyMeetModel" "dones" "[I", Cond.laysFinal "TillTheyMeetModel" "TillTheyMeetModel" "work" "[I", Cond.laysFinal "TillTheyMeetModel" "TillTheyMeetModel" "earned" "[I", Cond.laysFinal "TillTheyMeetModel" "TillTheyMeetModel" "spent" "[I", Cond.lays "TillTheyMeetModel" "TillTheyMeetModel" "day" "I", Cond.lays "TillTheyMeetModel" "TillTheyMeetModel" "payYard" "I", Cond.lays "TillTheyMeetModel" "TillTheyMeetModel" "payDay" "I", Cond.lays "TillTheyMeetModel" "TillTheyMeetModel" "wage" "I", Cond.lays "TillTheyMeetModel" "TillTheyMeetModel" "ofGround" "I", Cond.lays "TillTheyMeetModel" "TillTheyMeetModel" "ofMen" "I", Cond.lays "TillTheyMeetModel" "TillTheyMeetModel" "ofYard" "I", Cond.lays "TillTheyMeetModel" "TillTheyMeetModel" "ofAhead" "I", Cond.lays "TillTheyMeetModel" "TillTheyMeetModel" "ofDay" "I", Cond.lays "TillTheyMeetModel" "TillTheyMeetModel" "ofKnown" "I", Cond.lays "TillTheyMeetModel" "TillTheyMeetModel" "from" "I", Cond.lays "TillTheyMeetModel" "TillTheyMeetModel" "size" "I", Cond.lays "TillTheyMeetModel" "TillTheyMeetModel" "here" "I", Cond.lays "TillTheyMeetModel" "TillTheyMeetModel" "token" "I", Cond.lays "TillTheyMeetModel" "TillTheyMeetModel" "tokenAt" "I", Cond.lays "TillTheyMeetModel" "TillTheyMeetModel" "tokenWorth" "J", Cond.lays "TillTheyMeetModel" "TillTheyMeetModel" "open" "I", Cond.lays "TillTheyMeetModel" "TillTheyMeetModel" "bad" "Z", Cond.lays "TillTheyMeetModel" "TillTheyMeetModel" "fault" "I", Cond.laysFinal "TillTheyMeetModel" "TillTheyMeetModel" "groundsWas" "[I", Cond.laysFinal "TillTheyMeetModel" "TillTheyMeetModel" "knownWas" "[I", Cond.laysFinal "TillTheyMeetModel" "TillTheyMeetModel" "gangsWas" "[I", Cond.lays "TillTheyMeetModel" "TillTheyMeetModel" "dayWas" "I", Cond.lays "TillTheyMeetModel" "TillTheyMeetModel" "payWas" "I", Cond.lays "TillTheyMeetModel" "TillTheyMeetModel" "ends" "I", Cond.lays "TillTheyMeetModel" "TillTheyMeetModel" "bestGain" "I", Cond.laysFinal "TillTheyMeetModel" "TillTheyMeetModel" "groundsKept" "[I", Cond.laysFinal "TillTheyMeetModel" "TillTheyMeetModel" "knownKept" "[I", Cond.laysFinal "TillTheyMeetModel" "TillTheyMeetModel" "gangsKept" "[I", Cond.lays "TillTheyMeetModel" "TillTheyMeetModel" "isKept" "Z", Cond.lays "TillTheyMeetModel" "TillTheyMeetModel" "dayKept" "I", Cond.lays "TillTheyMeetModel" "TillTheyMeetModel" "payYardKept" "I", Cond.lays "TillTheyMeetModel" "TillTheyMeetModel" "payDayKept" "I", Cond.lays "TillTheyMeetModel" "TillTheyMeetModel" "wageKept" "I", Cond.lays "TillTheyMeetModel" "TillTheyMeetModel" "ruleKept" "I", Cond.laysFinal "TillTheyMeetModel" "TillTheyMeetModel" "isThere" "[Z", Cond.laysFinal "TillTheyMeetModel" "TillTheyMeetModel" "sorts" "[I", Cond.laysFinal "TillTheyMeetModel" "TillTheyMeetModel" "sheetSize" "[I", Cond.laysFinal "TillTheyMeetModel" "TillTheyMeetModel" "items" "[I"] := by decide +kernel
theorem uw_X7 : ∀ w ∈ u_ws RX7 TX7 55, w ∈ gtb := by
  rw [uwe_X7]
  exact List.forall_mem_cons.mpr ⟨(gtb_in 879 (by decide +kernel) (by decide +kernel)), List.forall_mem_cons.mpr ⟨(gtb_in 881 (by decide +kernel) (by decide +kernel)), List.forall_mem_cons.mpr ⟨(gtb_in 883 (by decide +kernel) (by decide +kernel)), List.forall_mem_cons.mpr ⟨(gtb_in 885 (by decide +kernel) (by decide +kernel)), List.forall_mem_cons.mpr ⟨(gtb_in 887 (by decide +kernel) (by decide +kernel)), List.forall_mem_cons.mpr ⟨(gtb_in 889 (by decide +kernel) (by decide +kernel)), List.forall_mem_cons.mpr ⟨(gtb_in 891 (by decide +kernel) (by decide +kernel)), List.forall_mem_cons.mpr ⟨(gtb_in 893 (by decide +kernel) (by decide +kernel)), List.forall_mem_cons.mpr ⟨(gtb_in 895 (by decide +kernel) (by decide +kernel)), List.forall_mem_cons.mpr ⟨(gtb_in 897 (by decide +kernel) (by decide +kernel)), List.forall_mem_cons.mpr ⟨(gtb_in 899 (by decide +kernel) (by decide +kernel)), List.forall_mem_cons.mpr ⟨(gtb_in 901 (by decide +kernel) (by decide +kernel)), List.forall_mem_cons.mpr ⟨(gtb_in 903 (by decide +kernel) (by decide +kernel)), List.forall_mem_cons.mpr ⟨(gtb_in 905 (by decide +kernel) (by decide +kernel)), List.forall_mem_cons.mpr ⟨(gtb_in 907 (by decide +kernel) (by decide +kernel)), List.forall_mem_cons.mpr ⟨(gtb_in 909 (by decide +kernel) (by decide +kernel)), List.forall_mem_cons.mpr ⟨(gtb_in 911 (by decide +kernel) (by decide +kernel)), List.forall_mem_cons.mpr ⟨(gtb_in 913 (by decide +kernel) (by decide +kernel)), List.forall_mem_cons.mpr ⟨(gtb_in 915 (by decide +kernel) (by decide +kernel)), List.forall_mem_cons.mpr ⟨(gtb_in 917 (by decide +kernel) (by decide +kernel)), List.forall_mem_cons.mpr ⟨(gtb_in 919 (by decide +kernel) (by decide +kernel)), List.forall_mem_cons.mpr ⟨(gtb_in 921 (by decide +kernel) (by decide +kernel)), List.forall_mem_cons.mpr ⟨(gtb_in 923 (by decide +kernel) (by decide +kernel)), List.forall_mem_cons.mpr ⟨(gtb_in 925 (by decide +kernel) (by decide +kernel)), List.forall_mem_cons.mpr ⟨(gtb_in 927 (by decide +kernel) (by decide +kernel)), List.forall_mem_cons.mpr ⟨(gtb_in 929 (by decide +kernel) (by decide +kernel)), List.forall_mem_cons.mpr ⟨(gtb_in 931 (by decide +kernel) (by decide +kernel)), List.forall_mem_cons.mpr ⟨(gtb_in 933 (by decide +kernel) (by decide +kernel)), List.forall_mem_cons.mpr ⟨(gtb_in 935 (by decide +kernel) (by decide +kernel)), List.forall_mem_cons.mpr ⟨(gtb_in 937 (by decide +kernel) (by decide +kernel)), List.forall_mem_cons.mpr ⟨(gtb_in 939 (by decide +kernel) (by decide +kernel)), List.forall_mem_cons.mpr ⟨(gtb_in 941 (by decide +kernel) (by decide +kernel)), List.forall_mem_cons.mpr ⟨(gtb_in 943 (by decide +kernel) (by decide +kernel)), List.forall_mem_cons.mpr ⟨(gtb_in 945 (by decide +kernel) (by decide +kernel)), List.forall_mem_cons.mpr ⟨(gtb_in 947 (by decide +kernel) (by decide +kernel)), List.forall_mem_cons.mpr ⟨(gtb_in 949 (by decide +kernel) (by decide +kernel)), List.forall_mem_cons.mpr ⟨(gtb_in 951 (by decide +kernel) (by decide +kernel)), List.forall_mem_cons.mpr ⟨(gtb_in 953 (by decide +kernel) (by decide +kernel)), List.forall_mem_cons.mpr ⟨(gtb_in 955 (by decide +kernel) (by decide +kernel)), List.forall_mem_cons.mpr ⟨(gtb_in 957 (by decide +kernel) (by decide +kernel)), List.forall_mem_cons.mpr ⟨(gtb_in 959 (by decide +kernel) (by decide +kernel)), List.forall_mem_cons.mpr ⟨(gtb_in 961 (by decide +kernel) (by decide +kernel)), List.forall_mem_cons.mpr ⟨(gtb_in 963 (by decide +kernel) (by decide +kernel)), List.forall_mem_cons.mpr ⟨(gtb_in 965 (by decide +kernel) (by decide +kernel)), List.forall_mem_cons.mpr ⟨(gtb_in 967 (by decide +kernel) (by decide +kernel)), List.forall_mem_cons.mpr ⟨(gtb_in 969 (by decide +kernel) (by decide +kernel)), List.forall_mem_cons.mpr ⟨(gtb_in 971 (by decide +kernel) (by decide +kernel)), List.forall_mem_cons.mpr ⟨(gtb_in 973 (by decide +kernel) (by decide +kernel)), List.forall_mem_cons.mpr ⟨(gtb_in 975 (by decide +kernel) (by decide +kernel)), List.forall_mem_cons.mpr ⟨(gtb_in 977 (by decide +kernel) (by decide +kernel)), List.forall_mem_cons.mpr ⟨(gtb_in 979 (by decide +kernel) (by decide +kernel)), List.forall_mem_cons.mpr ⟨(gtb_in 981 (by decide +kernel) (by decide +kernel)), List.forall_mem_cons.mpr ⟨(gtb_in 983 (by decide +kernel) (by decide +kernel)), List.forall_mem_cons.mpr ⟨(gtb_in 985 (by decide +kernel) (by decide +kernel)), List.forall_mem_cons.mpr ⟨(gtb_in 987 (by decide +kernel) (by decide +kernel)), fun _ h => absurd h List.not_mem_nil⟩⟩⟩⟩⟩⟩⟩⟩⟩⟩⟩⟩⟩⟩⟩⟩⟩⟩⟩⟩⟩⟩⟩⟩⟩⟩⟩⟩⟩⟩⟩⟩⟩⟩⟩⟩⟩⟩⟩⟩⟩⟩⟩⟩⟩⟩⟩⟩⟩⟩⟩⟩⟩⟩⟩
theorem te_X7 : ∀ k, k < 55 → tyX7 k = tyc 7 k ∧ tyX7 k ≠ .float ∧ tyX7 k ≠ .double := by decide +kernel
theorem fl_X6_10 : Cond.fieldLink "TillTheyMeet" 10 "TillTheyMeet" "best" "LTillTheyMeet$Best;" ∈ gtb := (gtb_in 482 (by decide +kernel) (by decide +kernel))
theorem gf_X6_10 {i j : Nat} (hd : decode M.2.1 pc = .ok (.getfield 10, 3)) (hM : M.1.cls = "TillTheyMeet") (hK : IsK Γ i 6) (hj : rv i 4 = j) (kk : Rn g l M R Q k n (pc + 3) ls (.ref j :: st) Γ iv rv lv) : Rn g l M R Q k n pc ls (.ref i :: st) Γ iv rv lv := rn_get (ci := 6) (fk := 4) (C := RX6) (T := TX6) (N := 10) hd hK rfl uw_X6 (by decide) (by rw [hM]; exact fl_X6_10) (by subst hj; exact kk)
theorem pf_X6_10 {i j : Nat} (hd : decode M.2.1 pc = .ok (.putfield 10, 3)) (hM : M.1.cls = "TillTheyMeet") (hI : M.1.name = "<init>") (hK : IsK Γ i 6) (kk : Rn g l M R Q k n (pc + 3) ls st Γ iv (up rv i 4 j) lv) : Rn g l M R Q k n pc ls (.ref j :: .ref i :: st) Γ iv rv lv := rn_put (ci := 6) (fk := 4) (C := RX6) (T := TX6) (N := 10) (ty0 := tyX6) (v := .ref j) hd hK rfl uw_X6 (by decide) (by rw [hM]; exact fl_X6_10) tyX6_ok nmX6 (Or.inr ⟨hI, rfl, by rw [hM]; rfl⟩) (nar_ref rfl) (fit_ref rfl) (fun q => by
    by_cases h : q = 4
    · subst h; rw [if_pos rfl]; show Value.ref (up rv i 4 j i 4) = _; rw [up_same]
    · rw [if_neg h]; exact sv_off rfl (up_ne2 h) rfl) (fun _ _ _ => rfl) (fun j q h => up_ne1 h) (fun _ _ _ => rfl) kk
theorem fl_X6_19 : Cond.fieldLink "TillTheyMeet" 19 "TillTheyMeet" "reader" "LTillTheyMeet$Reader;" ∈ gtb := (gtb_in 483 (by decide +kernel) (by decide +kernel))
theorem gf_X6_19 {i j : Nat} (hd : decode M.2.1 pc = .ok (.getfield 19, 3)) (hM : M.1.cls = "TillTheyMeet") (hK : IsK Γ i 6) (hj : rv i 5 = j) (kk : Rn g l M R Q k n (pc + 3) ls (.ref j :: st) Γ iv rv lv) : Rn g l M R Q k n pc ls (.ref i :: st) Γ iv rv lv := rn_get (ci := 6) (fk := 5) (C := RX6) (T := TX6) (N := 10) hd hK rfl uw_X6 (by decide) (by rw [hM]; exact fl_X6_19) (by subst hj; exact kk)
theorem pf_X6_19 {i j : Nat} (hd : decode M.2.1 pc = .ok (.putfield 19, 3)) (hM : M.1.cls = "TillTheyMeet") (hI : M.1.name = "<init>") (hK : IsK Γ i 6) (kk : Rn g l M R Q k n (pc + 3) ls st Γ iv (up rv i 5 j) lv) : Rn g l M R Q k n pc ls (.ref j :: .ref i :: st) Γ iv rv lv := rn_put (ci := 6) (fk := 5) (C := RX6) (T := TX6) (N := 10) (ty0 := tyX6) (v := .ref j) hd hK rfl uw_X6 (by decide) (by rw [hM]; exact fl_X6_19) tyX6_ok nmX6 (Or.inr ⟨hI, rfl, by rw [hM]; rfl⟩) (nar_ref rfl) (fit_ref rfl) (fun q => by
    by_cases h : q = 5
    · subst h; rw [if_pos rfl]; show Value.ref (up rv i 5 j i 5) = _; rw [up_same]
    · rw [if_neg h]; exact sv_off rfl (up_ne2 h) rfl) (fun _ _ _ => rfl) (fun j q h => up_ne1 h) (fun _ _ _ => rfl) kk
theorem fl_X6_25 : Cond.fieldLink "TillTheyMeet" 25 "TillTheyMeet" "rules" "[LTillTheyMeet$Rule;" ∈ gtb := (gtb_in 484 (by decide +kernel) (by decide +kernel))
theorem gf_X6_25 {i j : Nat} (hd : decode M.2.1 pc = .ok (.getfield 25, 3)) (hM : M.1.cls = "TillTheyMeet") (hK : IsK Γ i 6) (hj : rv i 6 = j) (kk : Rn g l M R Q k n (pc + 3) ls (.ref j :: st) Γ iv rv lv) : Rn g l M R Q k n pc ls (.ref i :: st) Γ iv rv lv := rn_get (ci := 6) (fk := 6) (C := RX6) (T := TX6) (N := 10) hd hK rfl uw_X6 (by decide) (by rw [hM]; exact fl_X6_25) (by subst hj; exact kk)
theorem pf_X6_25 {i j : Nat} (hd : decode M.2.1 pc = .ok (.putfield 25, 3)) (hM : M.1.cls = "TillTheyMeet") (hI : M.1.name = "<init>") (hK : IsK Γ i 6) (kk : Rn g l M R Q k n (pc + 3) ls st Γ iv (up rv i 6 j) lv) : Rn g l M R Q k n pc ls (.ref j :: .ref i :: st) Γ iv rv lv := rn_put (ci := 6) (fk := 6) (C := RX6) (T := TX6) (N := 10) (ty0 := tyX6) (v := .ref j) hd hK rfl uw_X6 (by decide) (by rw [hM]; exact fl_X6_25) tyX6_ok nmX6 (Or.inr ⟨hI, rfl, by rw [hM]; rfl⟩) (nar_ref rfl) (fit_ref rfl) (fun q => by
    by_cases h : q = 6
    · subst h; rw [if_pos rfl]; show Value.ref (up rv i 6 j i 6) = _; rw [up_same]
    · rw [if_neg h]; exact sv_off rfl (up_ne2 h) rfl) (fun _ _ _ => rfl) (fun j q h => up_ne1 h) (fun _ _ _ => rfl) kk
theorem fl_X6_31 : Cond.fieldLink "TillTheyMeet" 31 "TillTheyMeet" "sheets" "[LTillTheyMeet$Sheet;" ∈ gtb := (gtb_in 485 (by decide +kernel) (by decide +kernel))
theorem gf_X6_31 {i j : Nat} (hd : decode M.2.1 pc = .ok (.getfield 31, 3)) (hM : M.1.cls = "TillTheyMeet") (hK : IsK Γ i 6) (hj : rv i 7 = j) (kk : Rn g l M R Q k n (pc + 3) ls (.ref j :: st) Γ iv rv lv) : Rn g l M R Q k n pc ls (.ref i :: st) Γ iv rv lv := rn_get (ci := 6) (fk := 7) (C := RX6) (T := TX6) (N := 10) hd hK rfl uw_X6 (by decide) (by rw [hM]; exact fl_X6_31) (by subst hj; exact kk)
theorem pf_X6_31 {i j : Nat} (hd : decode M.2.1 pc = .ok (.putfield 31, 3)) (hM : M.1.cls = "TillTheyMeet") (hI : M.1.name = "<init>") (hK : IsK Γ i 6) (kk : Rn g l M R Q k n (pc + 3) ls st Γ iv (up rv i 7 j) lv) : Rn g l M R Q k n pc ls (.ref j :: .ref i :: st) Γ iv rv lv := rn_put (ci := 6) (fk := 7) (C := RX6) (T := TX6) (N := 10) (ty0 := tyX6) (v := .ref j) hd hK rfl uw_X6 (by decide) (by rw [hM]; exact fl_X6_31) tyX6_ok nmX6 (Or.inr ⟨hI, rfl, by rw [hM]; rfl⟩) (nar_ref rfl) (fit_ref rfl) (fun q => by
    by_cases h : q = 7
    · subst h; rw [if_pos rfl]; show Value.ref (up rv i 7 j i 7) = _; rw [up_same]
    · rw [if_neg h]; exact sv_off rfl (up_ne2 h) rfl) (fun _ _ _ => rfl) (fun j q h => up_ne1 h) (fun _ _ _ => rfl) kk
theorem fl_X6_35 : Cond.fieldLink "TillTheyMeet" 35 "TillTheyMeet" "texts" "I" ∈ gtb := (gtb_in 486 (by decide +kernel) (by decide +kernel))
theorem gf_X6_35 {i : Nat} (hd : decode M.2.1 pc = .ok (.getfield 35, 3)) (hM : M.1.cls = "TillTheyMeet") (hK : IsK Γ i 6) (kk : Rn g l M R Q k n (pc + 3) ls (.int (iv i 8) :: st) Γ iv rv lv) : Rn g l M R Q k n pc ls (.ref i :: st) Γ iv rv lv := rn_get (ci := 6) (fk := 8) (C := RX6) (T := TX6) (N := 10) hd hK rfl uw_X6 (by decide) (by rw [hM]; exact fl_X6_35) kk
theorem pf_X6_35 {i : Nat} {x : Int32} (hd : decode M.2.1 pc = .ok (.putfield 35, 3)) (hM : M.1.cls = "TillTheyMeet") (hK : IsK Γ i 6) (kk : Rn g l M R Q k n (pc + 3) ls st Γ (up iv i 8 x) rv lv) : Rn g l M R Q k n pc ls (.int x :: .ref i :: st) Γ iv rv lv := rn_put (ci := 6) (fk := 8) (C := RX6) (T := TX6) (N := 10) (ty0 := tyX6) (v := .int x) hd hK rfl uw_X6 (by decide) (by rw [hM]; exact fl_X6_35) tyX6_ok nmX6 (Or.inl rfl) rfl rfl (fun q => by
    by_cases h : q = 8
    · subst h; rw [if_pos rfl]; show Value.int (up iv i 8 x i 8) = _; rw [up_same]
    · rw [if_neg h]; exact sv_off (up_ne2 h) rfl rfl) (fun j q h => up_ne1 h) (fun _ _ _ => rfl) (fun _ _ _ => rfl) kk
theorem fl_X6_39 : Cond.fieldLink "TillTheyMeet" 39 "TillTheyMeet" "hasImage" "Z" ∈ gtb := (gtb_in 487 (by decide +kernel) (by decide +kernel))
theorem gf_X6_39 {i : Nat} (hd : decode M.2.1 pc = .ok (.getfield 39, 3)) (hM : M.1.cls = "TillTheyMeet") (hK : IsK Γ i 6) (kk : Rn g l M R Q k n (pc + 3) ls (.int (iv i 9) :: st) Γ iv rv lv) : Rn g l M R Q k n pc ls (.ref i :: st) Γ iv rv lv := rn_get (ci := 6) (fk := 9) (C := RX6) (T := TX6) (N := 10) hd hK rfl uw_X6 (by decide) (by rw [hM]; exact fl_X6_39) kk
theorem pf_X6_39 {i : Nat} {x : Int32} (hd : decode M.2.1 pc = .ok (.putfield 39, 3)) (hM : M.1.cls = "TillTheyMeet") (hn : x = 0 ∨ x = 1) (hK : IsK Γ i 6) (kk : Rn g l M R Q k n (pc + 3) ls st Γ (up iv i 9 x) rv lv) : Rn g l M R Q k n pc ls (.int x :: .ref i :: st) Γ iv rv lv := rn_put (ci := 6) (fk := 9) (C := RX6) (T := TX6) (N := 10) (ty0 := tyX6) (v := .int x) hd hK rfl uw_X6 (by decide) (by rw [hM]; exact fl_X6_39) tyX6_ok nmX6 (Or.inl rfl) (by rcases hn with rfl | rfl <;> rfl) (by rcases hn with rfl | rfl <;> rfl) (fun q => by
    by_cases h : q = 9
    · subst h; rw [if_pos rfl]; show Value.int (up iv i 9 x i 9) = _; rw [up_same]
    · rw [if_neg h]; exact sv_off (up_ne2 h) rfl rfl) (fun j q h => up_ne1 h) (fun _ _ _ => rfl) (fun _ _ _ => rfl) kk
theorem fl_X6_62 : Cond.fieldLink "TillTheyMeet" 62 "TillTheyMeet$Reader" "size" "I" ∈ gtb := (gtb_in 102 (by decide +kernel) (by decide +kernel))
theorem gf_X6_62 {i : Nat} (hd : decode M.2.1 pc = .ok (.getfield 62, 3)) (hM : M.1.cls = "TillTheyMeet") (hK : IsK Γ i 2) (kk : Rn g l M R Q k n (pc + 3) ls (.int (iv i 0) :: st) Γ iv rv lv) : Rn g l M R Q k n pc ls (.ref i :: st) Γ iv rv lv := rn_get (ci := 2) (fk := 0) (C := RX2) (T := TX2) (N := 10) hd hK rfl uw_X2 (by decide) (by rw [hM]; exact fl_X6_62) kk
theorem pf_X6_62 {i : Nat} {x : Int32} (hd : decode M.2.1 pc = .ok (.putfield 62, 3)) (hM : M.1.cls = "TillTheyMeet") (hK : IsK Γ i 2) (kk : Rn g l M R Q k n (pc + 3) ls st Γ (up iv i 0 x) rv lv) : Rn g l M R Q k n pc ls (.int x :: .ref i :: st) Γ iv rv lv := rn_put (ci := 2) (fk := 0) (C := RX2) (T := TX2) (N := 10) (ty0 := tyX2) (v := .int x) hd hK rfl uw_X2 (by decide) (by rw [hM]; exact fl_X6_62) tyX2_ok nmX2 (Or.inl rfl) rfl rfl (fun q => by
    by_cases h : q = 0
    · subst h; rw [if_pos rfl]; show Value.int (up iv i 0 x i 0) = _; rw [up_same]
    · rw [if_neg h]; exact sv_off (up_ne2 h) rfl rfl) (fun j q h => up_ne1 h) (fun _ _ _ => rfl) (fun _ _ _ => rfl) kk
theorem fl_X6_74 : Cond.fieldLink "TillTheyMeet" 74 "TillTheyMeet" "now" "LTillTheyMeet$Road;" ∈ gtb := (gtb_in 478 (by decide +kernel) (by decide +kernel))
theorem gf_X6_74 {i j : Nat} (hd : decode M.2.1 pc = .ok (.getfield 74, 3)) (hM : M.1.cls = "TillTheyMeet") (hK : IsK Γ i 6) (hj : rv i 0 = j) (kk : Rn g l M R Q k n (pc + 3) ls (.ref j :: st) Γ iv rv lv) : Rn g l M R Q k n pc ls (.ref i :: st) Γ iv rv lv := rn_get (ci := 6) (fk := 0) (C := RX6) (T := TX6) (N := 10) hd hK rfl uw_X6 (by decide) (by rw [hM]; exact fl_X6_74) (by subst hj; exact kk)
theorem pf_X6_74 {i j : Nat} (hd : decode M.2.1 pc = .ok (.putfield 74, 3)) (hM : M.1.cls = "TillTheyMeet") (hI : M.1.name = "<init>") (hK : IsK Γ i 6) (kk : Rn g l M R Q k n (pc + 3) ls st Γ iv (up rv i 0 j) lv) : Rn g l M R Q k n pc ls (.ref j :: .ref i :: st) Γ iv rv lv := rn_put (ci := 6) (fk := 0) (C := RX6) (T := TX6) (N := 10) (ty0 := tyX6) (v := .ref j) hd hK rfl uw_X6 (by decide) (by rw [hM]; exact fl_X6_74) tyX6_ok nmX6 (Or.inr ⟨hI, rfl, by rw [hM]; rfl⟩) (nar_ref rfl) (fit_ref rfl) (fun q => by
    by_cases h : q = 0
    · subst h; rw [if_pos rfl]; show Value.ref (up rv i 0 j i 0) = _; rw [up_same]
    · rw [if_neg h]; exact sv_off rfl (up_ne2 h) rfl) (fun _ _ _ => rfl) (fun j q h => up_ne1 h) (fun _ _ _ => rfl) kk
theorem fl_X6_78 : Cond.fieldLink "TillTheyMeet" 78 "TillTheyMeet" "kept" "LTillTheyMeet$Road;" ∈ gtb := (gtb_in 479 (by decide +kernel) (by decide +kernel))
theorem gf_X6_78 {i j : Nat} (hd : decode M.2.1 pc = .ok (.getfield 78, 3)) (hM : M.1.cls = "TillTheyMeet") (hK : IsK Γ i 6) (hj : rv i 1 = j) (kk : Rn g l M R Q k n (pc + 3) ls (.ref j :: st) Γ iv rv lv) : Rn g l M R Q k n pc ls (.ref i :: st) Γ iv rv lv := rn_get (ci := 6) (fk := 1) (C := RX6) (T := TX6) (N := 10) hd hK rfl uw_X6 (by decide) (by rw [hM]; exact fl_X6_78) (by subst hj; exact kk)
theorem pf_X6_78 {i j : Nat} (hd : decode M.2.1 pc = .ok (.putfield 78, 3)) (hM : M.1.cls = "TillTheyMeet") (hI : M.1.name = "<init>") (hK : IsK Γ i 6) (kk : Rn g l M R Q k n (pc + 3) ls st Γ iv (up rv i 1 j) lv) : Rn g l M R Q k n pc ls (.ref j :: .ref i :: st) Γ iv rv lv := rn_put (ci := 6) (fk := 1) (C := RX6) (T := TX6) (N := 10) (ty0 := tyX6) (v := .ref j) hd hK rfl uw_X6 (by decide) (by rw [hM]; exact fl_X6_78) tyX6_ok nmX6 (Or.inr ⟨hI, rfl, by rw [hM]; rfl⟩) (nar_ref rfl) (fit_ref rfl) (fun q => by
    by_cases h : q = 1
    · subst h; rw [if_pos rfl]; show Value.ref (up rv i 1 j i 1) = _; rw [up_same]
    · rw [if_neg h]; exact sv_off rfl (up_ne2 h) rfl) (fun _ _ _ => rfl) (fun j q h => up_ne1 h) (fun _ _ _ => rfl) kk
theorem fl_X6_81 : Cond.fieldLink "TillTheyMeet" 81 "TillTheyMeet" "plan" "LTillTheyMeet$Road;" ∈ gtb := (gtb_in 480 (by decide +kernel) (by decide +kernel))
theorem gf_X6_81 {i j : Nat} (hd : decode M.2.1 pc = .ok (.getfield 81, 3)) (hM : M.1.cls = "TillTheyMeet") (hK : IsK Γ i 6) (hj : rv i 2 = j) (kk : Rn g l M R Q k n (pc + 3) ls (.ref j :: st) Γ iv rv lv) : Rn g l M R Q k n pc ls (.ref i :: st) Γ iv rv lv := rn_get (ci := 6) (fk := 2) (C := RX6) (T := TX6) (N := 10) hd hK rfl uw_X6 (by decide) (by rw [hM]; exact fl_X6_81) (by subst hj; exact kk)
theorem pf_X6_81 {i j : Nat} (hd : decode M.2.1 pc = .ok (.putfield 81, 3)) (hM : M.1.cls = "TillTheyMeet") (hI : M.1.name = "<init>") (hK : IsK Γ i 6) (kk : Rn g l M R Q k n (pc + 3) ls st Γ iv (up rv i 2 j) lv) : Rn g l M R Q k n pc ls (.ref j :: .ref i :: st) Γ iv rv lv := rn_put (ci := 6) (fk := 2) (C := RX6) (T := TX6) (N := 10) (ty0 := tyX6) (v := .ref j) hd hK rfl uw_X6 (by decide) (by rw [hM]; exact fl_X6_81) tyX6_ok nmX6 (Or.inr ⟨hI, rfl, by rw [hM]; rfl⟩) (nar_ref rfl) (fit_ref rfl) (fun q => by
    by_cases h : q = 2
    · subst h; rw [if_pos rfl]; show Value.ref (up rv i 2 j i 2) = _; rw [up_same]
    · rw [if_neg h]; exact sv_off rfl (up_ne2 h) rfl) (fun _ _ _ => rfl) (fun j q h => up_ne1 h) (fun _ _ _ => rfl) kk
theorem fl_X6_84 : Cond.fieldLink "TillTheyMeet" 84 "TillTheyMeet" "trial" "LTillTheyMeet$Road;" ∈ gtb := (gtb_in 481 (by decide +kernel) (by decide +kernel))
theorem gf_X6_84 {i j : Nat} (hd : decode M.2.1 pc = .ok (.getfield 84, 3)) (hM : M.1.cls = "TillTheyMeet") (hK : IsK Γ i 6) (hj : rv i 3 = j) (kk : Rn g l M R Q k n (pc + 3) ls (.ref j :: st) Γ iv rv lv) : Rn g l M R Q k n pc ls (.ref i :: st) Γ iv rv lv := rn_get (ci := 6) (fk := 3) (C := RX6) (T := TX6) (N := 10) hd hK rfl uw_X6 (by decide) (by rw [hM]; exact fl_X6_84) (by subst hj; exact kk)
theorem pf_X6_84 {i j : Nat} (hd : decode M.2.1 pc = .ok (.putfield 84, 3)) (hM : M.1.cls = "TillTheyMeet") (hI : M.1.name = "<init>") (hK : IsK Γ i 6) (kk : Rn g l M R Q k n (pc + 3) ls st Γ iv (up rv i 3 j) lv) : Rn g l M R Q k n pc ls (.ref j :: .ref i :: st) Γ iv rv lv := rn_put (ci := 6) (fk := 3) (C := RX6) (T := TX6) (N := 10) (ty0 := tyX6) (v := .ref j) hd hK rfl uw_X6 (by decide) (by rw [hM]; exact fl_X6_84) tyX6_ok nmX6 (Or.inr ⟨hI, rfl, by rw [hM]; rfl⟩) (nar_ref rfl) (fit_ref rfl) (fun q => by
    by_cases h : q = 3
    · subst h; rw [if_pos rfl]; show Value.ref (up rv i 3 j i 3) = _; rw [up_same]
    · rw [if_neg h]; exact sv_off rfl (up_ne2 h) rfl) (fun _ _ _ => rfl) (fun j q h => up_ne1 h) (fun _ _ _ => rfl) kk
theorem fl_X6_99 : Cond.fieldLink "TillTheyMeet" 99 "TillTheyMeet$Road" "ground" "[I" ∈ gtb := (gtb_in 421 (by decide +kernel) (by decide +kernel))
theorem gf_X6_99 {i j : Nat} (hd : decode M.2.1 pc = .ok (.getfield 99, 3)) (hM : M.1.cls = "TillTheyMeet") (hK : IsK Γ i 3) (hj : rv i 0 = j) (kk : Rn g l M R Q k n (pc + 3) ls (.ref j :: st) Γ iv rv lv) : Rn g l M R Q k n pc ls (.ref i :: st) Γ iv rv lv := rn_get (ci := 3) (fk := 0) (C := RX3) (T := TX3) (N := 10) hd hK rfl uw_X3 (by decide) (by rw [hM]; exact fl_X6_99) (by subst hj; exact kk)
theorem fl_X6_103 : Cond.fieldLink "TillTheyMeet" 103 "TillTheyMeet$Road" "known" "[I" ∈ gtb := (gtb_in 423 (by decide +kernel) (by decide +kernel))
theorem gf_X6_103 {i j : Nat} (hd : decode M.2.1 pc = .ok (.getfield 103, 3)) (hM : M.1.cls = "TillTheyMeet") (hK : IsK Γ i 3) (hj : rv i 1 = j) (kk : Rn g l M R Q k n (pc + 3) ls (.ref j :: st) Γ iv rv lv) : Rn g l M R Q k n pc ls (.ref i :: st) Γ iv rv lv := rn_get (ci := 3) (fk := 1) (C := RX3) (T := TX3) (N := 10) hd hK rfl uw_X3 (by decide) (by rw [hM]; exact fl_X6_103) (by subst hj; exact kk)
theorem fl_X6_106 : Cond.fieldLink "TillTheyMeet" 106 "TillTheyMeet$Road" "upward" "LTillTheyMeet$Gang;" ∈ gtb := (gtb_in 425 (by decide +kernel) (by decide +kernel))
theorem gf_X6_106 {i j : Nat} (hd : decode M.2.1 pc = .ok (.getfield 106, 3)) (hM : M.1.cls = "TillTheyMeet") (hK : IsK Γ i 3) (hj : rv i 2 = j) (kk : Rn g l M R Q k n (pc + 3) ls (.ref j :: st) Γ iv rv lv) : Rn g l M R Q k n pc ls (.ref i :: st) Γ iv rv lv := rn_get (ci := 3) (fk := 2) (C := RX3) (T := TX3) (N := 10) hd hK rfl uw_X3 (by decide) (by rw [hM]; exact fl_X6_106) (by subst hj; exact kk)
theorem fl_X6_110 : Cond.fieldLink "TillTheyMeet" 110 "TillTheyMeet$Gang" "men" "I" ∈ gtb := (gtb_in 381 (by decide +kernel) (by decide +kernel))
theorem gf_X6_110 {i : Nat} (hd : decode M.2.1 pc = .ok (.getfield 110, 3)) (hM : M.1.cls = "TillTheyMeet") (hK : IsK Γ i 1) (kk : Rn g l M R Q k n (pc + 3) ls (.int (iv i 3) :: st) Γ iv rv lv) : Rn g l M R Q k n pc ls (.ref i :: st) Γ iv rv lv := rn_get (ci := 1) (fk := 3) (C := RX1) (T := TX1) (N := 10) hd hK rfl uw_X1 (by decide) (by rw [hM]; exact fl_X6_110) kk
theorem pf_X6_110 {i : Nat} {x : Int32} (hd : decode M.2.1 pc = .ok (.putfield 110, 3)) (hM : M.1.cls = "TillTheyMeet") (hK : IsK Γ i 1) (kk : Rn g l M R Q k n (pc + 3) ls st Γ (up iv i 3 x) rv lv) : Rn g l M R Q k n pc ls (.int x :: .ref i :: st) Γ iv rv lv := rn_put (ci := 1) (fk := 3) (C := RX1) (T := TX1) (N := 10) (ty0 := tyX1) (v := .int x) hd hK rfl uw_X1 (by decide) (by rw [hM]; exact fl_X6_110) tyX1_ok nmX1 (Or.inl rfl) rfl rfl (fun q => by
    by_cases h : q = 3
    · subst h; rw [if_pos rfl]; show Value.int (up iv i 3 x i 3) = _; rw [up_same]
    · rw [if_neg h]; exact sv_off (up_ne2 h) rfl rfl) (fun j q h => up_ne1 h) (fun _ _ _ => rfl) (fun _ _ _ => rfl) kk
theorem fl_X6_126 : Cond.fieldLink "TillTheyMeet" 126 "TillTheyMeet$Gang" "kind" "I" ∈ gtb := (gtb_in 375 (by decide +kernel) (by decide +kernel))
theorem gf_X6_126 {i : Nat} (hd : decode M.2.1 pc = .ok (.getfield 126, 3)) (hM : M.1.cls = "TillTheyMeet") (hK : IsK Γ i 1) (kk : Rn g l M R Q k n (pc + 3) ls (.int (iv i 1) :: st) Γ iv rv lv) : Rn g l M R Q k n pc ls (.ref i :: st) Γ iv rv lv := rn_get (ci := 1) (fk := 1) (C := RX1) (T := TX1) (N := 10) hd hK rfl uw_X1 (by decide) (by rw [hM]; exact fl_X6_126) kk
theorem pf_X6_126 {i : Nat} {x : Int32} (hd : decode M.2.1 pc = .ok (.putfield 126, 3)) (hM : M.1.cls = "TillTheyMeet") (hK : IsK Γ i 1) (kk : Rn g l M R Q k n (pc + 3) ls st Γ (up iv i 1 x) rv lv) : Rn g l M R Q k n pc ls (.int x :: .ref i :: st) Γ iv rv lv := rn_put (ci := 1) (fk := 1) (C := RX1) (T := TX1) (N := 10) (ty0 := tyX1) (v := .int x) hd hK rfl uw_X1 (by decide) (by rw [hM]; exact fl_X6_126) tyX1_ok nmX1 (Or.inl rfl) rfl rfl (fun q => by
    by_cases h : q = 1
    · subst h; rw [if_pos rfl]; show Value.int (up iv i 1 x i 1) = _; rw [up_same]
    · rw [if_neg h]; exact sv_off (up_ne2 h) rfl rfl) (fun j q h => up_ne1 h) (fun _ _ _ => rfl) (fun _ _ _ => rfl) kk
theorem fl_X6_129 : Cond.fieldLink "TillTheyMeet" 129 "TillTheyMeet$Gang" "number" "I" ∈ gtb := (gtb_in 378 (by decide +kernel) (by decide +kernel))
theorem gf_X6_129 {i : Nat} (hd : decode M.2.1 pc = .ok (.getfield 129, 3)) (hM : M.1.cls = "TillTheyMeet") (hK : IsK Γ i 1) (kk : Rn g l M R Q k n (pc + 3) ls (.int (iv i 2) :: st) Γ iv rv lv) : Rn g l M R Q k n pc ls (.ref i :: st) Γ iv rv lv := rn_get (ci := 1) (fk := 2) (C := RX1) (T := TX1) (N := 10) hd hK rfl uw_X1 (by decide) (by rw [hM]; exact fl_X6_129) kk
theorem pf_X6_129 {i : Nat} {x : Int32} (hd : decode M.2.1 pc = .ok (.putfield 129, 3)) (hM : M.1.cls = "TillTheyMeet") (hK : IsK Γ i 1) (kk : Rn g l M R Q k n (pc + 3) ls st Γ (up iv i 2 x) rv lv) : Rn g l M R Q k n pc ls (.int x :: .ref i :: st) Γ iv rv lv := rn_put (ci := 1) (fk := 2) (C := RX1) (T := TX1) (N := 10) (ty0 := tyX1) (v := .int x) hd hK rfl uw_X1 (by decide) (by rw [hM]; exact fl_X6_129) tyX1_ok nmX1 (Or.inl rfl) rfl rfl (fun q => by
    by_cases h : q = 2
    · subst h; rw [if_pos rfl]; show Value.int (up iv i 2 x i 2) = _; rw [up_same]
    · rw [if_neg h]; exact sv_off (up_ne2 h) rfl rfl) (fun j q h => up_ne1 h) (fun _ _ _ => rfl) (fun _ _ _ => rfl) kk
theorem fl_X6_132 : Cond.fieldLink "TillTheyMeet" 132 "TillTheyMeet" "SET_MOST" "[I" ∈ gtb := (gtb_in 562 (by decide +kernel) (by decide +kernel))
theorem fl_X6_135 : Cond.fieldLink "TillTheyMeet" 135 "TillTheyMeet" "SET_LEAST" "[I" ∈ gtb := (gtb_in 564 (by decide +kernel) (by decide +kernel))
theorem fl_X6_138 : Cond.fieldLink "TillTheyMeet" 138 "TillTheyMeet$Road" "payYard" "I" ∈ gtb := (gtb_in 431 (by decide +kernel) (by decide +kernel))
theorem gf_X6_138 {i : Nat} (hd : decode M.2.1 pc = .ok (.getfield 138, 3)) (hM : M.1.cls = "TillTheyMeet") (hK : IsK Γ i 3) (kk : Rn g l M R Q k n (pc + 3) ls (.int (iv i 5) :: st) Γ iv rv lv) : Rn g l M R Q k n pc ls (.ref i :: st) Γ iv rv lv := rn_get (ci := 3) (fk := 5) (C := RX3) (T := TX3) (N := 10) hd hK rfl uw_X3 (by decide) (by rw [hM]; exact fl_X6_138) kk
theorem pf_X6_138 {i : Nat} {x : Int32} (hd : decode M.2.1 pc = .ok (.putfield 138, 3)) (hM : M.1.cls = "TillTheyMeet") (hK : IsK Γ i 3) (kk : Rn g l M R Q k n (pc + 3) ls st Γ (up iv i 5 x) rv lv) : Rn g l M R Q k n pc ls (.int x :: .ref i :: st) Γ iv rv lv := rn_put (ci := 3) (fk := 5) (C := RX3) (T := TX3) (N := 10) (ty0 := tyX3) (v := .int x) hd hK rfl uw_X3 (by decide) (by rw [hM]; exact fl_X6_138) tyX3_ok nmX3 (Or.inl rfl) rfl rfl (fun q => by
    by_cases h : q = 5
    · subst h; rw [if_pos rfl]; show Value.int (up iv i 5 x i 5) = _; rw [up_same]
    · rw [if_neg h]; exact sv_off (up_ne2 h) rfl rfl) (fun j q h => up_ne1 h) (fun _ _ _ => rfl) (fun _ _ _ => rfl) kk
theorem fl_X6_141 : Cond.fieldLink "TillTheyMeet" 141 "TillTheyMeet$Road" "payDay" "I" ∈ gtb := (gtb_in 433 (by decide +kernel) (by decide +kernel))
theorem gf_X6_141 {i : Nat} (hd : decode M.2.1 pc = .ok (.getfield 141, 3)) (hM : M.1.cls = "TillTheyMeet") (hK : IsK Γ i 3) (kk : Rn g l M R Q k n (pc + 3) ls (.int (iv i 6) :: st) Γ iv rv lv) : Rn g l M R Q k n pc ls (.ref i :: st) Γ iv rv lv := rn_get (ci := 3) (fk := 6) (C := RX3) (T := TX3) (N := 10) hd hK rfl uw_X3 (by decide) (by rw [hM]; exact fl_X6_141) kk
theorem pf_X6_141 {i : Nat} {x : Int32} (hd : decode M.2.1 pc = .ok (.putfield 141, 3)) (hM : M.1.cls = "TillTheyMeet") (hK : IsK Γ i 3) (kk : Rn g l M R Q k n (pc + 3) ls st Γ (up iv i 6 x) rv lv) : Rn g l M R Q k n pc ls (.int x :: .ref i :: st) Γ iv rv lv := rn_put (ci := 3) (fk := 6) (C := RX3) (T := TX3) (N := 10) (ty0 := tyX3) (v := .int x) hd hK rfl uw_X3 (by decide) (by rw [hM]; exact fl_X6_141) tyX3_ok nmX3 (Or.inl rfl) rfl rfl (fun q => by
    by_cases h : q = 6
    · subst h; rw [if_pos rfl]; show Value.int (up iv i 6 x i 6) = _; rw [up_same]
    · rw [if_neg h]; exact sv_off (up_ne2 h) rfl rfl) (fun j q h => up_ne1 h) (fun _ _ _ => rfl) (fun _ _ _ => rfl) kk
theorem fl_X6_144 : Cond.fieldLink "TillTheyMeet" 144 "TillTheyMeet$Road" "wage" "I" ∈ gtb := (gtb_in 435 (by decide +kernel) (by decide +kernel))
theorem gf_X6_144 {i : Nat} (hd : decode M.2.1 pc = .ok (.getfield 144, 3)) (hM : M.1.cls = "TillTheyMeet") (hK : IsK Γ i 3) (kk : Rn g l M R Q k n (pc + 3) ls (.int (iv i 7) :: st) Γ iv rv lv) : Rn g l M R Q k n pc ls (.ref i :: st) Γ iv rv lv := rn_get (ci := 3) (fk := 7) (C := RX3) (T := TX3) (N := 10) hd hK rfl uw_X3 (by decide) (by rw [hM]; exact fl_X6_144) kk
theorem pf_X6_144 {i : Nat} {x : Int32} (hd : decode M.2.1 pc = .ok (.putfield 144, 3)) (hM : M.1.cls = "TillTheyMeet") (hK : IsK Γ i 3) (kk : Rn g l M R Q k n (pc + 3) ls st Γ (up iv i 7 x) rv lv) : Rn g l M R Q k n pc ls (.int x :: .ref i :: st) Γ iv rv lv := rn_put (ci := 3) (fk := 7) (C := RX3) (T := TX3) (N := 10) (ty0 := tyX3) (v := .int x) hd hK rfl uw_X3 (by decide) (by rw [hM]; exact fl_X6_144) tyX3_ok nmX3 (Or.inl rfl) rfl rfl (fun q => by
    by_cases h : q = 7
    · subst h; rw [if_pos rfl]; show Value.int (up iv i 7 x i 7) = _; rw [up_same]
    · rw [if_neg h]; exact sv_off (up_ne2 h) rfl rfl) (fun j q h => up_ne1 h) (fun _ _ _ => rfl) (fun _ _ _ => rfl) kk
theorem fl_X6_147 : Cond.fieldLink "TillTheyMeet" 147 "TillTheyMeet$Gang" "done" "I" ∈ gtb := (gtb_in 385 (by decide +kernel) (by decide +kernel))
theorem gf_X6_147 {i : Nat} (hd : decode M.2.1 pc = .ok (.getfield 147, 3)) (hM : M.1.cls = "TillTheyMeet") (hK : IsK Γ i 1) (kk : Rn g l M R Q k n (pc + 3) ls (.int (iv i 4) :: st) Γ iv rv lv) : Rn g l M R Q k n pc ls (.ref i :: st) Γ iv rv lv := rn_get (ci := 1) (fk := 4) (C := RX1) (T := TX1) (N := 10) hd hK rfl uw_X1 (by decide) (by rw [hM]; exact fl_X6_147) kk
theorem fl_X6_150 : Cond.fieldLink "TillTheyMeet" 150 "TillTheyMeet$Gang" "work" "I" ∈ gtb := (gtb_in 387 (by decide +kernel) (by decide +kernel))
theorem gf_X6_150 {i : Nat} (hd : decode M.2.1 pc = .ok (.getfield 150, 3)) (hM : M.1.cls = "TillTheyMeet") (hK : IsK Γ i 1) (kk : Rn g l M R Q k n (pc + 3) ls (.int (iv i 5) :: st) Γ iv rv lv) : Rn g l M R Q k n pc ls (.ref i :: st) Γ iv rv lv := rn_get (ci := 1) (fk := 5) (C := RX1) (T := TX1) (N := 10) hd hK rfl uw_X1 (by decide) (by rw [hM]; exact fl_X6_150) kk
theorem fl_X6_153 : Cond.fieldLink "TillTheyMeet" 153 "TillTheyMeet$Gang" "earned" "I" ∈ gtb := (gtb_in 391 (by decide +kernel) (by decide +kernel))
theorem gf_X6_153 {i : Nat} (hd : decode M.2.1 pc = .ok (.getfield 153, 3)) (hM : M.1.cls = "TillTheyMeet") (hK : IsK Γ i 1) (kk : Rn g l M R Q k n (pc + 3) ls (.int (iv i 6) :: st) Γ iv rv lv) : Rn g l M R Q k n pc ls (.ref i :: st) Γ iv rv lv := rn_get (ci := 1) (fk := 6) (C := RX1) (T := TX1) (N := 10) hd hK rfl uw_X1 (by decide) (by rw [hM]; exact fl_X6_153) kk
theorem fl_X6_156 : Cond.fieldLink "TillTheyMeet" 156 "TillTheyMeet$Gang" "spent" "I" ∈ gtb := (gtb_in 393 (by decide +kernel) (by decide +kernel))
theorem gf_X6_156 {i : Nat} (hd : decode M.2.1 pc = .ok (.getfield 156, 3)) (hM : M.1.cls = "TillTheyMeet") (hK : IsK Γ i 1) (kk : Rn g l M R Q k n (pc + 3) ls (.int (iv i 7) :: st) Γ iv rv lv) : Rn g l M R Q k n pc ls (.ref i :: st) Γ iv rv lv := rn_get (ci := 1) (fk := 7) (C := RX1) (T := TX1) (N := 10) hd hK rfl uw_X1 (by decide) (by rw [hM]; exact fl_X6_156) kk
theorem fl_X6_175 : Cond.fieldLink "TillTheyMeet" 175 "TillTheyMeet$Road" "day" "I" ∈ gtb := (gtb_in 429 (by decide +kernel) (by decide +kernel))
theorem gf_X6_175 {i : Nat} (hd : decode M.2.1 pc = .ok (.getfield 175, 3)) (hM : M.1.cls = "TillTheyMeet") (hK : IsK Γ i 3) (kk : Rn g l M R Q k n (pc + 3) ls (.int (iv i 4) :: st) Γ iv rv lv) : Rn g l M R Q k n pc ls (.ref i :: st) Γ iv rv lv := rn_get (ci := 3) (fk := 4) (C := RX3) (T := TX3) (N := 10) hd hK rfl uw_X3 (by decide) (by rw [hM]; exact fl_X6_175) kk
theorem fl_X6_181 : Cond.fieldLink "TillTheyMeet" 181 "TillTheyMeet$Reader" "fault" "I" ∈ gtb := (gtb_in 104 (by decide +kernel) (by decide +kernel))
theorem gf_X6_181 {i : Nat} (hd : decode M.2.1 pc = .ok (.getfield 181, 3)) (hM : M.1.cls = "TillTheyMeet") (hK : IsK Γ i 2) (kk : Rn g l M R Q k n (pc + 3) ls (.int (iv i 1) :: st) Γ iv rv lv) : Rn g l M R Q k n pc ls (.ref i :: st) Γ iv rv lv := rn_get (ci := 2) (fk := 1) (C := RX2) (T := TX2) (N := 10) hd hK rfl uw_X2 (by decide) (by rw [hM]; exact fl_X6_181) kk
theorem fl_X6_184 : Cond.fieldLink "TillTheyMeet" 184 "TillTheyMeet$Road" "rule" "LTillTheyMeet$Rule;" ∈ gtb := (gtb_in 437 (by decide +kernel) (by decide +kernel))
theorem gf_X6_184 {i j : Nat} (hd : decode M.2.1 pc = .ok (.getfield 184, 3)) (hM : M.1.cls = "TillTheyMeet") (hK : IsK Γ i 3) (hj : rv i 8 = j) (kk : Rn g l M R Q k n (pc + 3) ls (.ref j :: st) Γ iv rv lv) : Rn g l M R Q k n pc ls (.ref i :: st) Γ iv rv lv := rn_get (ci := 3) (fk := 8) (C := RX3) (T := TX3) (N := 10) hd hK rfl uw_X3 (by decide) (by rw [hM]; exact fl_X6_184) (by subst hj; exact kk)
theorem pf_X6_184 {i j : Nat} (hd : decode M.2.1 pc = .ok (.putfield 184, 3)) (hM : M.1.cls = "TillTheyMeet") (hK : IsK Γ i 3) (kk : Rn g l M R Q k n (pc + 3) ls st Γ iv (up rv i 8 j) lv) : Rn g l M R Q k n pc ls (.ref j :: .ref i :: st) Γ iv rv lv := rn_put (ci := 3) (fk := 8) (C := RX3) (T := TX3) (N := 10) (ty0 := tyX3) (v := .ref j) hd hK rfl uw_X3 (by decide) (by rw [hM]; exact fl_X6_184) tyX3_ok nmX3 (Or.inl rfl) (nar_ref rfl) (fit_ref rfl) (fun q => by
    by_cases h : q = 8
    · subst h; rw [if_pos rfl]; show Value.ref (up rv i 8 j i 8) = _; rw [up_same]
    · rw [if_neg h]; exact sv_off rfl (up_ne2 h) rfl) (fun _ _ _ => rfl) (fun j q h => up_ne1 h) (fun _ _ _ => rfl) kk
theorem fl_X6_188 : Cond.fieldLink "TillTheyMeet" 188 "TillTheyMeet$Rule" "number" "I" ∈ gtb := (gtb_in 342 (by decide +kernel) (by decide +kernel))
theorem gf_X6_188 {i : Nat} (hd : decode M.2.1 pc = .ok (.getfield 188, 3)) (hM : M.1.cls = "TillTheyMeet") (hK : IsK Γ i 4) (kk : Rn g l M R Q k n (pc + 3) ls (.int (iv i 0) :: st) Γ iv rv lv) : Rn g l M R Q k n pc ls (.ref i :: st) Γ iv rv lv := rn_get (ci := 4) (fk := 0) (C := RX4) (T := TX4) (N := 5) hd hK rfl uw_X4 (by decide) (by rw [hM]; exact fl_X6_188) kk
theorem fl_X6_208 : Cond.fieldLink "TillTheyMeet" 208 "TillTheyMeet$Road" "downward" "LTillTheyMeet$Gang;" ∈ gtb := (gtb_in 427 (by decide +kernel) (by decide +kernel))
theorem gf_X6_208 {i j : Nat} (hd : decode M.2.1 pc = .ok (.getfield 208, 3)) (hM : M.1.cls = "TillTheyMeet") (hK : IsK Γ i 3) (hj : rv i 3 = j) (kk : Rn g l M R Q k n (pc + 3) ls (.ref j :: st) Γ iv rv lv) : Rn g l M R Q k n pc ls (.ref i :: st) Γ iv rv lv := rn_get (ci := 3) (fk := 3) (C := RX3) (T := TX3) (N := 10) hd hK rfl uw_X3 (by decide) (by rw [hM]; exact fl_X6_208) (by subst hj; exact kk)
theorem fl_X6_224 : Cond.fieldLink "TillTheyMeet" 224 "TillTheyMeet$Best" "at" "I" ∈ gtb := (gtb_in 84 (by decide +kernel) (by decide +kernel))
theorem gf_X6_224 {i : Nat} (hd : decode M.2.1 pc = .ok (.getfield 224, 3)) (hM : M.1.cls = "TillTheyMeet") (hK : IsK Γ i 0) (kk : Rn g l M R Q k n (pc + 3) ls (.int (iv i 0) :: st) Γ iv rv lv) : Rn g l M R Q k n pc ls (.ref i :: st) Γ iv rv lv := rn_get (ci := 0) (fk := 0) (C := RX0) (T := TX0) (N := 3) hd hK rfl uw_X0 (by decide) (by rw [hM]; exact fl_X6_224) kk
theorem fl_X6_227 : Cond.fieldLink "TillTheyMeet" 227 "TillTheyMeet$Best" "worth" "I" ∈ gtb := (gtb_in 86 (by decide +kernel) (by decide +kernel))
theorem gf_X6_227 {i : Nat} (hd : decode M.2.1 pc = .ok (.getfield 227, 3)) (hM : M.1.cls = "TillTheyMeet") (hK : IsK Γ i 0) (kk : Rn g l M R Q k n (pc + 3) ls (.int (iv i 1) :: st) Γ iv rv lv) : Rn g l M R Q k n pc ls (.ref i :: st) Γ iv rv lv := rn_get (ci := 0) (fk := 1) (C := RX0) (T := TX0) (N := 3) hd hK rfl uw_X0 (by decide) (by rw [hM]; exact fl_X6_227) kk
theorem fl_X6_245 : Cond.fieldLink "TillTheyMeet" 245 "TillTheyMeet$Sheet" "size" "I" ∈ gtb := (gtb_in 470 (by decide +kernel) (by decide +kernel))
theorem gf_X6_245 {i : Nat} (hd : decode M.2.1 pc = .ok (.getfield 245, 3)) (hM : M.1.cls = "TillTheyMeet") (hK : IsK Γ i 5) (kk : Rn g l M R Q k n (pc + 3) ls (.int (iv i 2) :: st) Γ iv rv lv) : Rn g l M R Q k n pc ls (.ref i :: st) Γ iv rv lv := rn_get (ci := 5) (fk := 2) (C := RX5) (T := TX5) (N := 3) hd hK rfl uw_X5 (by decide) (by rw [hM]; exact fl_X6_245) kk
theorem fl_X6_246 : Cond.fieldLink "TillTheyMeet" 246 "TillTheyMeet$Sheet" "items" "[I" ∈ gtb := (gtb_in 466 (by decide +kernel) (by decide +kernel))
theorem gf_X6_246 {i j : Nat} (hd : decode M.2.1 pc = .ok (.getfield 246, 3)) (hM : M.1.cls = "TillTheyMeet") (hK : IsK Γ i 5) (hj : rv i 0 = j) (kk : Rn g l M R Q k n (pc + 3) ls (.ref j :: st) Γ iv rv lv) : Rn g l M R Q k n pc ls (.ref i :: st) Γ iv rv lv := rn_get (ci := 5) (fk := 0) (C := RX5) (T := TX5) (N := 3) hd hK rfl uw_X5 (by decide) (by rw [hM]; exact fl_X6_246) (by subst hj; exact kk)
theorem fl_X6_275 : Cond.fieldLink "TillTheyMeet" 275 "TillTheyMeet$Sheet" "sort" "I" ∈ gtb := (gtb_in 468 (by decide +kernel) (by decide +kernel))
theorem gf_X6_275 {i : Nat} (hd : decode M.2.1 pc = .ok (.getfield 275, 3)) (hM : M.1.cls = "TillTheyMeet") (hK : IsK Γ i 5) (kk : Rn g l M R Q k n (pc + 3) ls (.int (iv i 1) :: st) Γ iv rv lv) : Rn g l M R Q k n pc ls (.ref i :: st) Γ iv rv lv := rn_get (ci := 5) (fk := 1) (C := RX5) (T := TX5) (N := 3) hd hK rfl uw_X5 (by decide) (by rw [hM]; exact fl_X6_275) kk
theorem fl_X0_9 : Cond.fieldLink "TillTheyMeet$Best" 9 "TillTheyMeet$Best" "at" "I" ∈ gtb := (gtb_in 83 (by decide +kernel) (by decide +kernel))
theorem gf_X0_9 {i : Nat} (hd : decode M.2.1 pc = .ok (.getfield 9, 3)) (hM : M.1.cls = "TillTheyMeet$Best") (hK : IsK Γ i 0) (kk : Rn g l M R Q k n (pc + 3) ls (.int (iv i 0) :: st) Γ iv rv lv) : Rn g l M R Q k n pc ls (.ref i :: st) Γ iv rv lv := rn_get (ci := 0) (fk := 0) (C := RX0) (T := TX0) (N := 3) hd hK rfl uw_X0 (by decide) (by rw [hM]; exact fl_X0_9) kk
theorem pf_X0_9 {i : Nat} {x : Int32} (hd : decode M.2.1 pc = .ok (.putfield 9, 3)) (hM : M.1.cls = "TillTheyMeet$Best") (hK : IsK Γ i 0) (kk : Rn g l M R Q k n (pc + 3) ls st Γ (up iv i 0 x) rv lv) : Rn g l M R Q k n pc ls (.int x :: .ref i :: st) Γ iv rv lv := rn_put (ci := 0) (fk := 0) (C := RX0) (T := TX0) (N := 3) (ty0 := tyX0) (v := .int x) hd hK rfl uw_X0 (by decide) (by rw [hM]; exact fl_X0_9) tyX0_ok nmX0 (Or.inl rfl) rfl rfl (fun q => by
    by_cases h : q = 0
    · subst h; rw [if_pos rfl]; show Value.int (up iv i 0 x i 0) = _; rw [up_same]
    · rw [if_neg h]; exact sv_off (up_ne2 h) rfl rfl) (fun j q h => up_ne1 h) (fun _ _ _ => rfl) (fun _ _ _ => rfl) kk
theorem fl_X0_15 : Cond.fieldLink "TillTheyMeet$Best" 15 "TillTheyMeet$Best" "worth" "I" ∈ gtb := (gtb_in 85 (by decide +kernel) (by decide +kernel))
theorem gf_X0_15 {i : Nat} (hd : decode M.2.1 pc = .ok (.getfield 15, 3)) (hM : M.1.cls = "TillTheyMeet$Best") (hK : IsK Γ i 0) (kk : Rn g l M R Q k n (pc + 3) ls (.int (iv i 1) :: st) Γ iv rv lv) : Rn g l M R Q k n pc ls (.ref i :: st) Γ iv rv lv := rn_get (ci := 0) (fk := 1) (C := RX0) (T := TX0) (N := 3) hd hK rfl uw_X0 (by decide) (by rw [hM]; exact fl_X0_15) kk
theorem pf_X0_15 {i : Nat} {x : Int32} (hd : decode M.2.1 pc = .ok (.putfield 15, 3)) (hM : M.1.cls = "TillTheyMeet$Best") (hK : IsK Γ i 0) (kk : Rn g l M R Q k n (pc + 3) ls st Γ (up iv i 1 x) rv lv) : Rn g l M R Q k n pc ls (.int x :: .ref i :: st) Γ iv rv lv := rn_put (ci := 0) (fk := 1) (C := RX0) (T := TX0) (N := 3) (ty0 := tyX0) (v := .int x) hd hK rfl uw_X0 (by decide) (by rw [hM]; exact fl_X0_15) tyX0_ok nmX0 (Or.inl rfl) rfl rfl (fun q => by
    by_cases h : q = 1
    · subst h; rw [if_pos rfl]; show Value.int (up iv i 1 x i 1) = _; rw [up_same]
    · rw [if_neg h]; exact sv_off (up_ne2 h) rfl rfl) (fun j q h => up_ne1 h) (fun _ _ _ => rfl) (fun _ _ _ => rfl) kk
theorem fl_X0_18 : Cond.fieldLink "TillTheyMeet$Best" 18 "TillTheyMeet$Best" "empty" "Z" ∈ gtb := (gtb_in 87 (by decide +kernel) (by decide +kernel))
theorem gf_X0_18 {i : Nat} (hd : decode M.2.1 pc = .ok (.getfield 18, 3)) (hM : M.1.cls = "TillTheyMeet$Best") (hK : IsK Γ i 0) (kk : Rn g l M R Q k n (pc + 3) ls (.int (iv i 2) :: st) Γ iv rv lv) : Rn g l M R Q k n pc ls (.ref i :: st) Γ iv rv lv := rn_get (ci := 0) (fk := 2) (C := RX0) (T := TX0) (N := 3) hd hK rfl uw_X0 (by decide) (by rw [hM]; exact fl_X0_18) kk
theorem pf_X0_18 {i : Nat} {x : Int32} (hd : decode M.2.1 pc = .ok (.putfield 18, 3)) (hM : M.1.cls = "TillTheyMeet$Best") (hn : x = 0 ∨ x = 1) (hK : IsK Γ i 0) (kk : Rn g l M R Q k n (pc + 3) ls st Γ (up iv i 2 x) rv lv) : Rn g l M R Q k n pc ls (.int x :: .ref i :: st) Γ iv rv lv := rn_put (ci := 0) (fk := 2) (C := RX0) (T := TX0) (N := 3) (ty0 := tyX0) (v := .int x) hd hK rfl uw_X0 (by decide) (by rw [hM]; exact fl_X0_18) tyX0_ok nmX0 (Or.inl rfl) (by rcases hn with rfl | rfl <;> rfl) (by rcases hn with rfl | rfl <;> rfl) (fun q => by
    by_cases h : q = 2
    · subst h; rw [if_pos rfl]; show Value.int (up iv i 2 x i 2) = _; rw [up_same]
    · rw [if_neg h]; exact sv_off (up_ne2 h) rfl rfl) (fun j q h => up_ne1 h) (fun _ _ _ => rfl) (fun _ _ _ => rfl) kk
theorem fl_X1_9 : Cond.fieldLink "TillTheyMeet$Gang" 9 "TillTheyMeet$Gang" "kind" "I" ∈ gtb := (gtb_in 374 (by decide +kernel) (by decide +kernel))
theorem gf_X1_9 {i : Nat} (hd : decode M.2.1 pc = .ok (.getfield 9, 3)) (hM : M.1.cls = "TillTheyMeet$Gang") (hK : IsK Γ i 1) (kk : Rn g l M R Q k n (pc + 3) ls (.int (iv i 1) :: st) Γ iv rv lv) : Rn g l M R Q k n pc ls (.ref i :: st) Γ iv rv lv := rn_get (ci := 1) (fk := 1) (C := RX1) (T := TX1) (N := 10) hd hK rfl uw_X1 (by decide) (by rw [hM]; exact fl_X1_9) kk
theorem pf_X1_9 {i : Nat} {x : Int32} (hd : decode M.2.1 pc = .ok (.putfield 9, 3)) (hM : M.1.cls = "TillTheyMeet$Gang") (hK : IsK Γ i 1) (kk : Rn g l M R Q k n (pc + 3) ls st Γ (up iv i 1 x) rv lv) : Rn g l M R Q k n pc ls (.int x :: .ref i :: st) Γ iv rv lv := rn_put (ci := 1) (fk := 1) (C := RX1) (T := TX1) (N := 10) (ty0 := tyX1) (v := .int x) hd hK rfl uw_X1 (by decide) (by rw [hM]; exact fl_X1_9) tyX1_ok nmX1 (Or.inl rfl) rfl rfl (fun q => by
    by_cases h : q = 1
    · subst h; rw [if_pos rfl]; show Value.int (up iv i 1 x i 1) = _; rw [up_same]
    · rw [if_neg h]; exact sv_off (up_ne2 h) rfl rfl) (fun j q h => up_ne1 h) (fun _ _ _ => rfl) (fun _ _ _ => rfl) kk
theorem fl_X1_15 : Cond.fieldLink "TillTheyMeet$Gang" 15 "TillTheyMeet$Gang" "number" "I" ∈ gtb := (gtb_in 377 (by decide +kernel) (by decide +kernel))
theorem gf_X1_15 {i : Nat} (hd : decode M.2.1 pc = .ok (.getfield 15, 3)) (hM : M.1.cls = "TillTheyMeet$Gang") (hK : IsK Γ i 1) (kk : Rn g l M R Q k n (pc + 3) ls (.int (iv i 2) :: st) Γ iv rv lv) : Rn g l M R Q k n pc ls (.ref i :: st) Γ iv rv lv := rn_get (ci := 1) (fk := 2) (C := RX1) (T := TX1) (N := 10) hd hK rfl uw_X1 (by decide) (by rw [hM]; exact fl_X1_15) kk
theorem pf_X1_15 {i : Nat} {x : Int32} (hd : decode M.2.1 pc = .ok (.putfield 15, 3)) (hM : M.1.cls = "TillTheyMeet$Gang") (hK : IsK Γ i 1) (kk : Rn g l M R Q k n (pc + 3) ls st Γ (up iv i 2 x) rv lv) : Rn g l M R Q k n pc ls (.int x :: .ref i :: st) Γ iv rv lv := rn_put (ci := 1) (fk := 2) (C := RX1) (T := TX1) (N := 10) (ty0 := tyX1) (v := .int x) hd hK rfl uw_X1 (by decide) (by rw [hM]; exact fl_X1_15) tyX1_ok nmX1 (Or.inl rfl) rfl rfl (fun q => by
    by_cases h : q = 2
    · subst h; rw [if_pos rfl]; show Value.int (up iv i 2 x i 2) = _; rw [up_same]
    · rw [if_neg h]; exact sv_off (up_ne2 h) rfl rfl) (fun j q h => up_ne1 h) (fun _ _ _ => rfl) (fun _ _ _ => rfl) kk
theorem fl_X1_18 : Cond.fieldLink "TillTheyMeet$Gang" 18 "TillTheyMeet$Gang" "men" "I" ∈ gtb := (gtb_in 380 (by decide +kernel) (by decide +kernel))
theorem gf_X1_18 {i : Nat} (hd : decode M.2.1 pc = .ok (.getfield 18, 3)) (hM : M.1.cls = "TillTheyMeet$Gang") (hK : IsK Γ i 1) (kk : Rn g l M R Q k n (pc + 3) ls (.int (iv i 3) :: st) Γ iv rv lv) : Rn g l M R Q k n pc ls (.ref i :: st) Γ iv rv lv := rn_get (ci := 1) (fk := 3) (C := RX1) (T := TX1) (N := 10) hd hK rfl uw_X1 (by decide) (by rw [hM]; exact fl_X1_18) kk
theorem pf_X1_18 {i : Nat} {x : Int32} (hd : decode M.2.1 pc = .ok (.putfield 18, 3)) (hM : M.1.cls = "TillTheyMeet$Gang") (hK : IsK Γ i 1) (kk : Rn g l M R Q k n (pc + 3) ls st Γ (up iv i 3 x) rv lv) : Rn g l M R Q k n pc ls (.int x :: .ref i :: st) Γ iv rv lv := rn_put (ci := 1) (fk := 3) (C := RX1) (T := TX1) (N := 10) (ty0 := tyX1) (v := .int x) hd hK rfl uw_X1 (by decide) (by rw [hM]; exact fl_X1_18) tyX1_ok nmX1 (Or.inl rfl) rfl rfl (fun q => by
    by_cases h : q = 3
    · subst h; rw [if_pos rfl]; show Value.int (up iv i 3 x i 3) = _; rw [up_same]
    · rw [if_neg h]; exact sv_off (up_ne2 h) rfl rfl) (fun j q h => up_ne1 h) (fun _ _ _ => rfl) (fun _ _ _ => rfl) kk
theorem fl_X1_21 : Cond.fieldLink "TillTheyMeet$Gang" 21 "TillTheyMeet$Gang" "done" "I" ∈ gtb := (gtb_in 383 (by decide +kernel) (by decide +kernel))
theorem gf_X1_21 {i : Nat} (hd : decode M.2.1 pc = .ok (.getfield 21, 3)) (hM : M.1.cls = "TillTheyMeet$Gang") (hK : IsK Γ i 1) (kk : Rn g l M R Q k n (pc + 3) ls (.int (iv i 4) :: st) Γ iv rv lv) : Rn g l M R Q k n pc ls (.ref i :: st) Γ iv rv lv := rn_get (ci := 1) (fk := 4) (C := RX1) (T := TX1) (N := 10) hd hK rfl uw_X1 (by decide) (by rw [hM]; exact fl_X1_21) kk
theorem pf_X1_21 {i : Nat} {x : Int32} (hd : decode M.2.1 pc = .ok (.putfield 21, 3)) (hM : M.1.cls = "TillTheyMeet$Gang") (hK : IsK Γ i 1) (kk : Rn g l M R Q k n (pc + 3) ls st Γ (up iv i 4 x) rv lv) : Rn g l M R Q k n pc ls (.int x :: .ref i :: st) Γ iv rv lv := rn_put (ci := 1) (fk := 4) (C := RX1) (T := TX1) (N := 10) (ty0 := tyX1) (v := .int x) hd hK rfl uw_X1 (by decide) (by rw [hM]; exact fl_X1_21) tyX1_ok nmX1 (Or.inl rfl) rfl rfl (fun q => by
    by_cases h : q = 4
    · subst h; rw [if_pos rfl]; show Value.int (up iv i 4 x i 4) = _; rw [up_same]
    · rw [if_neg h]; exact sv_off (up_ne2 h) rfl rfl) (fun j q h => up_ne1 h) (fun _ _ _ => rfl) (fun _ _ _ => rfl) kk
theorem fl_X1_24 : Cond.fieldLink "TillTheyMeet$Gang" 24 "TillTheyMeet$Gang" "work" "I" ∈ gtb := (gtb_in 386 (by decide +kernel) (by decide +kernel))
theorem gf_X1_24 {i : Nat} (hd : decode M.2.1 pc = .ok (.getfield 24, 3)) (hM : M.1.cls = "TillTheyMeet$Gang") (hK : IsK Γ i 1) (kk : Rn g l M R Q k n (pc + 3) ls (.int (iv i 5) :: st) Γ iv rv lv) : Rn g l M R Q k n pc ls (.ref i :: st) Γ iv rv lv := rn_get (ci := 1) (fk := 5) (C := RX1) (T := TX1) (N := 10) hd hK rfl uw_X1 (by decide) (by rw [hM]; exact fl_X1_24) kk
theorem pf_X1_24 {i : Nat} {x : Int32} (hd : decode M.2.1 pc = .ok (.putfield 24, 3)) (hM : M.1.cls = "TillTheyMeet$Gang") (hK : IsK Γ i 1) (kk : Rn g l M R Q k n (pc + 3) ls st Γ (up iv i 5 x) rv lv) : Rn g l M R Q k n pc ls (.int x :: .ref i :: st) Γ iv rv lv := rn_put (ci := 1) (fk := 5) (C := RX1) (T := TX1) (N := 10) (ty0 := tyX1) (v := .int x) hd hK rfl uw_X1 (by decide) (by rw [hM]; exact fl_X1_24) tyX1_ok nmX1 (Or.inl rfl) rfl rfl (fun q => by
    by_cases h : q = 5
    · subst h; rw [if_pos rfl]; show Value.int (up iv i 5 x i 5) = _; rw [up_same]
    · rw [if_neg h]; exact sv_off (up_ne2 h) rfl rfl) (fun j q h => up_ne1 h) (fun _ _ _ => rfl) (fun _ _ _ => rfl) kk
theorem fl_X1_27 : Cond.fieldLink "TillTheyMeet$Gang" 27 "TillTheyMeet$Gang" "earned" "I" ∈ gtb := (gtb_in 389 (by decide +kernel) (by decide +kernel))
theorem gf_X1_27 {i : Nat} (hd : decode M.2.1 pc = .ok (.getfield 27, 3)) (hM : M.1.cls = "TillTheyMeet$Gang") (hK : IsK Γ i 1) (kk : Rn g l M R Q k n (pc + 3) ls (.int (iv i 6) :: st) Γ iv rv lv) : Rn g l M R Q k n pc ls (.ref i :: st) Γ iv rv lv := rn_get (ci := 1) (fk := 6) (C := RX1) (T := TX1) (N := 10) hd hK rfl uw_X1 (by decide) (by rw [hM]; exact fl_X1_27) kk
theorem pf_X1_27 {i : Nat} {x : Int32} (hd : decode M.2.1 pc = .ok (.putfield 27, 3)) (hM : M.1.cls = "TillTheyMeet$Gang") (hK : IsK Γ i 1) (kk : Rn g l M R Q k n (pc + 3) ls st Γ (up iv i 6 x) rv lv) : Rn g l M R Q k n pc ls (.int x :: .ref i :: st) Γ iv rv lv := rn_put (ci := 1) (fk := 6) (C := RX1) (T := TX1) (N := 10) (ty0 := tyX1) (v := .int x) hd hK rfl uw_X1 (by decide) (by rw [hM]; exact fl_X1_27) tyX1_ok nmX1 (Or.inl rfl) rfl rfl (fun q => by
    by_cases h : q = 6
    · subst h; rw [if_pos rfl]; show Value.int (up iv i 6 x i 6) = _; rw [up_same]
    · rw [if_neg h]; exact sv_off (up_ne2 h) rfl rfl) (fun j q h => up_ne1 h) (fun _ _ _ => rfl) (fun _ _ _ => rfl) kk
theorem fl_X1_30 : Cond.fieldLink "TillTheyMeet$Gang" 30 "TillTheyMeet$Gang" "spent" "I" ∈ gtb := (gtb_in 392 (by decide +kernel) (by decide +kernel))
theorem gf_X1_30 {i : Nat} (hd : decode M.2.1 pc = .ok (.getfield 30, 3)) (hM : M.1.cls = "TillTheyMeet$Gang") (hK : IsK Γ i 1) (kk : Rn g l M R Q k n (pc + 3) ls (.int (iv i 7) :: st) Γ iv rv lv) : Rn g l M R Q k n pc ls (.ref i :: st) Γ iv rv lv := rn_get (ci := 1) (fk := 7) (C := RX1) (T := TX1) (N := 10) hd hK rfl uw_X1 (by decide) (by rw [hM]; exact fl_X1_30) kk
theorem pf_X1_30 {i : Nat} {x : Int32} (hd : decode M.2.1 pc = .ok (.putfield 30, 3)) (hM : M.1.cls = "TillTheyMeet$Gang") (hK : IsK Γ i 1) (kk : Rn g l M R Q k n (pc + 3) ls st Γ (up iv i 7 x) rv lv) : Rn g l M R Q k n pc ls (.int x :: .ref i :: st) Γ iv rv lv := rn_put (ci := 1) (fk := 7) (C := RX1) (T := TX1) (N := 10) (ty0 := tyX1) (v := .int x) hd hK rfl uw_X1 (by decide) (by rw [hM]; exact fl_X1_30) tyX1_ok nmX1 (Or.inl rfl) rfl rfl (fun q => by
    by_cases h : q = 7
    · subst h; rw [if_pos rfl]; show Value.int (up iv i 7 x i 7) = _; rw [up_same]
    · rw [if_neg h]; exact sv_off (up_ne2 h) rfl rfl) (fun j q h => up_ne1 h) (fun _ _ _ => rfl) (fun _ _ _ => rfl) kk
theorem fl_X1_33 : Cond.fieldLink "TillTheyMeet$Gang" 33 "TillTheyMeet$Gang" "askedAt" "[I" ∈ gtb := (gtb_in 395 (by decide +kernel) (by decide +kernel))
theorem gf_X1_33 {i j : Nat} (hd : decode M.2.1 pc = .ok (.getfield 33, 3)) (hM : M.1.cls = "TillTheyMeet$Gang") (hK : IsK Γ i 1) (hj : rv i 8 = j) (kk : Rn g l M R Q k n (pc + 3) ls (.ref j :: st) Γ iv rv lv) : Rn g l M R Q k n pc ls (.ref i :: st) Γ iv rv lv := rn_get (ci := 1) (fk := 8) (C := RX1) (T := TX1) (N := 10) hd hK rfl uw_X1 (by decide) (by rw [hM]; exact fl_X1_33) (by subst hj; exact kk)
theorem pf_X1_33 {i j : Nat} (hd : decode M.2.1 pc = .ok (.putfield 33, 3)) (hM : M.1.cls = "TillTheyMeet$Gang") (hI : M.1.name = "<init>") (hK : IsK Γ i 1) (kk : Rn g l M R Q k n (pc + 3) ls st Γ iv (up rv i 8 j) lv) : Rn g l M R Q k n pc ls (.ref j :: .ref i :: st) Γ iv rv lv := rn_put (ci := 1) (fk := 8) (C := RX1) (T := TX1) (N := 10) (ty0 := tyX1) (v := .ref j) hd hK rfl uw_X1 (by decide) (by rw [hM]; exact fl_X1_33) tyX1_ok nmX1 (Or.inr ⟨hI, rfl, by rw [hM]; rfl⟩) (nar_ref rfl) (fit_ref rfl) (fun q => by
    by_cases h : q = 8
    · subst h; rw [if_pos rfl]; show Value.ref (up rv i 8 j i 8) = _; rw [up_same]
    · rw [if_neg h]; exact sv_off rfl (up_ne2 h) rfl) (fun _ _ _ => rfl) (fun j q h => up_ne1 h) (fun _ _ _ => rfl) kk
theorem fl_X1_37 : Cond.fieldLink "TillTheyMeet$Gang" 37 "TillTheyMeet$Gang" "answered" "[I" ∈ gtb := (gtb_in 397 (by decide +kernel) (by decide +kernel))
theorem gf_X1_37 {i j : Nat} (hd : decode M.2.1 pc = .ok (.getfield 37, 3)) (hM : M.1.cls = "TillTheyMeet$Gang") (hK : IsK Γ i 1) (hj : rv i 9 = j) (kk : Rn g l M R Q k n (pc + 3) ls (.ref j :: st) Γ iv rv lv) : Rn g l M R Q k n pc ls (.ref i :: st) Γ iv rv lv := rn_get (ci := 1) (fk := 9) (C := RX1) (T := TX1) (N := 10) hd hK rfl uw_X1 (by decide) (by rw [hM]; exact fl_X1_37) (by subst hj; exact kk)
theorem pf_X1_37 {i j : Nat} (hd : decode M.2.1 pc = .ok (.putfield 37, 3)) (hM : M.1.cls = "TillTheyMeet$Gang") (hI : M.1.name = "<init>") (hK : IsK Γ i 1) (kk : Rn g l M R Q k n (pc + 3) ls st Γ iv (up rv i 9 j) lv) : Rn g l M R Q k n pc ls (.ref j :: .ref i :: st) Γ iv rv lv := rn_put (ci := 1) (fk := 9) (C := RX1) (T := TX1) (N := 10) (ty0 := tyX1) (v := .ref j) hd hK rfl uw_X1 (by decide) (by rw [hM]; exact fl_X1_37) tyX1_ok nmX1 (Or.inr ⟨hI, rfl, by rw [hM]; rfl⟩) (nar_ref rfl) (fit_ref rfl) (fun q => by
    by_cases h : q = 9
    · subst h; rw [if_pos rfl]; show Value.ref (up rv i 9 j i 9) = _; rw [up_same]
    · rw [if_neg h]; exact sv_off rfl (up_ne2 h) rfl) (fun _ _ _ => rfl) (fun j q h => up_ne1 h) (fun _ _ _ => rfl) kk
theorem fl_X1_40 : Cond.fieldLink "TillTheyMeet$Gang" 40 "TillTheyMeet$Gang" "goesUp" "Z" ∈ gtb := (gtb_in 373 (by decide +kernel) (by decide +kernel))
theorem gf_X1_40 {i : Nat} (hd : decode M.2.1 pc = .ok (.getfield 40, 3)) (hM : M.1.cls = "TillTheyMeet$Gang") (hK : IsK Γ i 1) (kk : Rn g l M R Q k n (pc + 3) ls (.int (iv i 0) :: st) Γ iv rv lv) : Rn g l M R Q k n pc ls (.ref i :: st) Γ iv rv lv := rn_get (ci := 1) (fk := 0) (C := RX1) (T := TX1) (N := 10) hd hK rfl uw_X1 (by decide) (by rw [hM]; exact fl_X1_40) kk
theorem pf_X1_40 {i : Nat} {x : Int32} (hd : decode M.2.1 pc = .ok (.putfield 40, 3)) (hM : M.1.cls = "TillTheyMeet$Gang") (hI : M.1.name = "<init>") (hn : x = 0 ∨ x = 1) (hK : IsK Γ i 1) (kk : Rn g l M R Q k n (pc + 3) ls st Γ (up iv i 0 x) rv lv) : Rn g l M R Q k n pc ls (.int x :: .ref i :: st) Γ iv rv lv := rn_put (ci := 1) (fk := 0) (C := RX1) (T := TX1) (N := 10) (ty0 := tyX1) (v := .int x) hd hK rfl uw_X1 (by decide) (by rw [hM]; exact fl_X1_40) tyX1_ok nmX1 (Or.inr ⟨hI, rfl, by rw [hM]; rfl⟩) (by rcases hn with rfl | rfl <;> rfl) (by rcases hn with rfl | rfl <;> rfl) (fun q => by
    by_cases h : q = 0
    · subst h; rw [if_pos rfl]; show Value.int (up iv i 0 x i 0) = _; rw [up_same]
    · rw [if_neg h]; exact sv_off (up_ne2 h) rfl rfl) (fun j q h => up_ne1 h) (fun _ _ _ => rfl) (fun _ _ _ => rfl) kk
theorem fl_X1_58 : Cond.fieldLink "TillTheyMeet$Gang" 58 "TillTheyMeet$Gang" "UNDER" "[I" ∈ gtb := (gtb_in 813 (by decide +kernel) (by decide +kernel))
theorem fl_X2_9 : Cond.fieldLink "TillTheyMeet$Reader" 9 "TillTheyMeet$Reader" "size" "I" ∈ gtb := (gtb_in 101 (by decide +kernel) (by decide +kernel))
theorem gf_X2_9 {i : Nat} (hd : decode M.2.1 pc = .ok (.getfield 9, 3)) (hM : M.1.cls = "TillTheyMeet$Reader") (hK : IsK Γ i 2) (kk : Rn g l M R Q k n (pc + 3) ls (.int (iv i 0) :: st) Γ iv rv lv) : Rn g l M R Q k n pc ls (.ref i :: st) Γ iv rv lv := rn_get (ci := 2) (fk := 0) (C := RX2) (T := TX2) (N := 10) hd hK rfl uw_X2 (by decide) (by rw [hM]; exact fl_X2_9) kk
theorem pf_X2_9 {i : Nat} {x : Int32} (hd : decode M.2.1 pc = .ok (.putfield 9, 3)) (hM : M.1.cls = "TillTheyMeet$Reader") (hK : IsK Γ i 2) (kk : Rn g l M R Q k n (pc + 3) ls st Γ (up iv i 0 x) rv lv) : Rn g l M R Q k n pc ls (.int x :: .ref i :: st) Γ iv rv lv := rn_put (ci := 2) (fk := 0) (C := RX2) (T := TX2) (N := 10) (ty0 := tyX2) (v := .int x) hd hK rfl uw_X2 (by decide) (by rw [hM]; exact fl_X2_9) tyX2_ok nmX2 (Or.inl rfl) rfl rfl (fun q => by
    by_cases h : q = 0
    · subst h; rw [if_pos rfl]; show Value.int (up iv i 0 x i 0) = _; rw [up_same]
    · rw [if_neg h]; exact sv_off (up_ne2 h) rfl rfl) (fun j q h => up_ne1 h) (fun _ _ _ => rfl) (fun _ _ _ => rfl) kk
theorem fl_X2_15 : Cond.fieldLink "TillTheyMeet$Reader" 15 "TillTheyMeet$Reader" "fault" "I" ∈ gtb := (gtb_in 103 (by decide +kernel) (by decide +kernel))
theorem gf_X2_15 {i : Nat} (hd : decode M.2.1 pc = .ok (.getfield 15, 3)) (hM : M.1.cls = "TillTheyMeet$Reader") (hK : IsK Γ i 2) (kk : Rn g l M R Q k n (pc + 3) ls (.int (iv i 1) :: st) Γ iv rv lv) : Rn g l M R Q k n pc ls (.ref i :: st) Γ iv rv lv := rn_get (ci := 2) (fk := 1) (C := RX2) (T := TX2) (N := 10) hd hK rfl uw_X2 (by decide) (by rw [hM]; exact fl_X2_15) kk
theorem pf_X2_15 {i : Nat} {x : Int32} (hd : decode M.2.1 pc = .ok (.putfield 15, 3)) (hM : M.1.cls = "TillTheyMeet$Reader") (hK : IsK Γ i 2) (kk : Rn g l M R Q k n (pc + 3) ls st Γ (up iv i 1 x) rv lv) : Rn g l M R Q k n pc ls (.int x :: .ref i :: st) Γ iv rv lv := rn_put (ci := 2) (fk := 1) (C := RX2) (T := TX2) (N := 10) (ty0 := tyX2) (v := .int x) hd hK rfl uw_X2 (by decide) (by rw [hM]; exact fl_X2_15) tyX2_ok nmX2 (Or.inl rfl) rfl rfl (fun q => by
    by_cases h : q = 1
    · subst h; rw [if_pos rfl]; show Value.int (up iv i 1 x i 1) = _; rw [up_same]
    · rw [if_neg h]; exact sv_off (up_ne2 h) rfl rfl) (fun j q h => up_ne1 h) (fun _ _ _ => rfl) (fun _ _ _ => rfl) kk
theorem fl_X2_18 : Cond.fieldLink "TillTheyMeet$Reader" 18 "TillTheyMeet$Reader" "tape" "[I" ∈ gtb := (gtb_in 105 (by decide +kernel) (by decide +kernel))
theorem gf_X2_18 {i j : Nat} (hd : decode M.2.1 pc = .ok (.getfield 18, 3)) (hM : M.1.cls = "TillTheyMeet$Reader") (hK : IsK Γ i 2) (hj : rv i 2 = j) (kk : Rn g l M R Q k n (pc + 3) ls (.ref j :: st) Γ iv rv lv) : Rn g l M R Q k n pc ls (.ref i :: st) Γ iv rv lv := rn_get (ci := 2) (fk := 2) (C := RX2) (T := TX2) (N := 10) hd hK rfl uw_X2 (by decide) (by rw [hM]; exact fl_X2_18) (by subst hj; exact kk)
theorem pf_X2_18 {i j : Nat} (hd : decode M.2.1 pc = .ok (.putfield 18, 3)) (hM : M.1.cls = "TillTheyMeet$Reader") (hI : M.1.name = "<init>") (hK : IsK Γ i 2) (kk : Rn g l M R Q k n (pc + 3) ls st Γ iv (up rv i 2 j) lv) : Rn g l M R Q k n pc ls (.ref j :: .ref i :: st) Γ iv rv lv := rn_put (ci := 2) (fk := 2) (C := RX2) (T := TX2) (N := 10) (ty0 := tyX2) (v := .ref j) hd hK rfl uw_X2 (by decide) (by rw [hM]; exact fl_X2_18) tyX2_ok nmX2 (Or.inr ⟨hI, rfl, by rw [hM]; rfl⟩) (nar_ref rfl) (fit_ref rfl) (fun q => by
    by_cases h : q = 2
    · subst h; rw [if_pos rfl]; show Value.ref (up rv i 2 j i 2) = _; rw [up_same]
    · rw [if_neg h]; exact sv_off rfl (up_ne2 h) rfl) (fun _ _ _ => rfl) (fun j q h => up_ne1 h) (fun _ _ _ => rfl) kk
theorem fl_X2_22 : Cond.fieldLink "TillTheyMeet$Reader" 22 "TillTheyMeet$Reader" "place" "I" ∈ gtb := (gtb_in 106 (by decide +kernel) (by decide +kernel))
theorem gf_X2_22 {i : Nat} (hd : decode M.2.1 pc = .ok (.getfield 22, 3)) (hM : M.1.cls = "TillTheyMeet$Reader") (hK : IsK Γ i 2) (kk : Rn g l M R Q k n (pc + 3) ls (.int (iv i 3) :: st) Γ iv rv lv) : Rn g l M R Q k n pc ls (.ref i :: st) Γ iv rv lv := rn_get (ci := 2) (fk := 3) (C := RX2) (T := TX2) (N := 10) hd hK rfl uw_X2 (by decide) (by rw [hM]; exact fl_X2_22) kk
theorem pf_X2_22 {i : Nat} {x : Int32} (hd : decode M.2.1 pc = .ok (.putfield 22, 3)) (hM : M.1.cls = "TillTheyMeet$Reader") (hK : IsK Γ i 2) (kk : Rn g l M R Q k n (pc + 3) ls st Γ (up iv i 3 x) rv lv) : Rn g l M R Q k n pc ls (.int x :: .ref i :: st) Γ iv rv lv := rn_put (ci := 2) (fk := 3) (C := RX2) (T := TX2) (N := 10) (ty0 := tyX2) (v := .int x) hd hK rfl uw_X2 (by decide) (by rw [hM]; exact fl_X2_22) tyX2_ok nmX2 (Or.inl rfl) rfl rfl (fun q => by
    by_cases h : q = 3
    · subst h; rw [if_pos rfl]; show Value.int (up iv i 3 x i 3) = _; rw [up_same]
    · rw [if_neg h]; exact sv_off (up_ne2 h) rfl rfl) (fun j q h => up_ne1 h) (fun _ _ _ => rfl) (fun _ _ _ => rfl) kk
theorem fl_X2_25 : Cond.fieldLink "TillTheyMeet$Reader" 25 "TillTheyMeet$Reader" "token" "I" ∈ gtb := (gtb_in 107 (by decide +kernel) (by decide +kernel))
theorem gf_X2_25 {i : Nat} (hd : decode M.2.1 pc = .ok (.getfield 25, 3)) (hM : M.1.cls = "TillTheyMeet$Reader") (hK : IsK Γ i 2) (kk : Rn g l M R Q k n (pc + 3) ls (.int (iv i 4) :: st) Γ iv rv lv) : Rn g l M R Q k n pc ls (.ref i :: st) Γ iv rv lv := rn_get (ci := 2) (fk := 4) (C := RX2) (T := TX2) (N := 10) hd hK rfl uw_X2 (by decide) (by rw [hM]; exact fl_X2_25) kk
theorem pf_X2_25 {i : Nat} {x : Int32} (hd : decode M.2.1 pc = .ok (.putfield 25, 3)) (hM : M.1.cls = "TillTheyMeet$Reader") (hK : IsK Γ i 2) (kk : Rn g l M R Q k n (pc + 3) ls st Γ (up iv i 4 x) rv lv) : Rn g l M R Q k n pc ls (.int x :: .ref i :: st) Γ iv rv lv := rn_put (ci := 2) (fk := 4) (C := RX2) (T := TX2) (N := 10) (ty0 := tyX2) (v := .int x) hd hK rfl uw_X2 (by decide) (by rw [hM]; exact fl_X2_25) tyX2_ok nmX2 (Or.inl rfl) rfl rfl (fun q => by
    by_cases h : q = 4
    · subst h; rw [if_pos rfl]; show Value.int (up iv i 4 x i 4) = _; rw [up_same]
    · rw [if_neg h]; exact sv_off (up_ne2 h) rfl rfl) (fun j q h => up_ne1 h) (fun _ _ _ => rfl) (fun _ _ _ => rfl) kk
theorem fl_X2_28 : Cond.fieldLink "TillTheyMeet$Reader" 28 "TillTheyMeet$Reader" "tokenAt" "I" ∈ gtb := (gtb_in 108 (by decide +kernel) (by decide +kernel))
theorem gf_X2_28 {i : Nat} (hd : decode M.2.1 pc = .ok (.getfield 28, 3)) (hM : M.1.cls = "TillTheyMeet$Reader") (hK : IsK Γ i 2) (kk : Rn g l M R Q k n (pc + 3) ls (.int (iv i 5) :: st) Γ iv rv lv) : Rn g l M R Q k n pc ls (.ref i :: st) Γ iv rv lv := rn_get (ci := 2) (fk := 5) (C := RX2) (T := TX2) (N := 10) hd hK rfl uw_X2 (by decide) (by rw [hM]; exact fl_X2_28) kk
theorem pf_X2_28 {i : Nat} {x : Int32} (hd : decode M.2.1 pc = .ok (.putfield 28, 3)) (hM : M.1.cls = "TillTheyMeet$Reader") (hK : IsK Γ i 2) (kk : Rn g l M R Q k n (pc + 3) ls st Γ (up iv i 5 x) rv lv) : Rn g l M R Q k n pc ls (.int x :: .ref i :: st) Γ iv rv lv := rn_put (ci := 2) (fk := 5) (C := RX2) (T := TX2) (N := 10) (ty0 := tyX2) (v := .int x) hd hK rfl uw_X2 (by decide) (by rw [hM]; exact fl_X2_28) tyX2_ok nmX2 (Or.inl rfl) rfl rfl (fun q => by
    by_cases h : q = 5
    · subst h; rw [if_pos rfl]; show Value.int (up iv i 5 x i 5) = _; rw [up_same]
    · rw [if_neg h]; exact sv_off (up_ne2 h) rfl rfl) (fun j q h => up_ne1 h) (fun _ _ _ => rfl) (fun _ _ _ => rfl) kk
theorem fl_X2_31 : Cond.fieldLink "TillTheyMeet$Reader" 31 "TillTheyMeet$Reader" "value" "I" ∈ gtb := (gtb_in 109 (by decide +kernel) (by decide +kernel))
theorem gf_X2_31 {i : Nat} (hd : decode M.2.1 pc = .ok (.getfield 31, 3)) (hM : M.1.cls = "TillTheyMeet$Reader") (hK : IsK Γ i 2) (kk : Rn g l M R Q k n (pc + 3) ls (.int (iv i 6) :: st) Γ iv rv lv) : Rn g l M R Q k n pc ls (.ref i :: st) Γ iv rv lv := rn_get (ci := 2) (fk := 6) (C := RX2) (T := TX2) (N := 10) hd hK rfl uw_X2 (by decide) (by rw [hM]; exact fl_X2_31) kk
theorem pf_X2_31 {i : Nat} {x : Int32} (hd : decode M.2.1 pc = .ok (.putfield 31, 3)) (hM : M.1.cls = "TillTheyMeet$Reader") (hK : IsK Γ i 2) (kk : Rn g l M R Q k n (pc + 3) ls st Γ (up iv i 6 x) rv lv) : Rn g l M R Q k n pc ls (.int x :: .ref i :: st) Γ iv rv lv := rn_put (ci := 2) (fk := 6) (C := RX2) (T := TX2) (N := 10) (ty0 := tyX2) (v := .int x) hd hK rfl uw_X2 (by decide) (by rw [hM]; exact fl_X2_31) tyX2_ok nmX2 (Or.inl rfl) rfl rfl (fun q => by
    by_cases h : q = 6
    · subst h; rw [if_pos rfl]; show Value.int (up iv i 6 x i 6) = _; rw [up_same]
    · rw [if_neg h]; exact sv_off (up_ne2 h) rfl rfl) (fun j q h => up_ne1 h) (fun _ _ _ => rfl) (fun _ _ _ => rfl) kk
theorem fl_X2_34 : Cond.fieldLink "TillTheyMeet$Reader" 34 "TillTheyMeet$Reader" "steps" "[I" ∈ gtb := (gtb_in 110 (by decide +kernel) (by decide +kernel))
theorem gf_X2_34 {i j : Nat} (hd : decode M.2.1 pc = .ok (.getfield 34, 3)) (hM : M.1.cls = "TillTheyMeet$Reader") (hK : IsK Γ i 2) (hj : rv i 7 = j) (kk : Rn g l M R Q k n (pc + 3) ls (.ref j :: st) Γ iv rv lv) : Rn g l M R Q k n pc ls (.ref i :: st) Γ iv rv lv := rn_get (ci := 2) (fk := 7) (C := RX2) (T := TX2) (N := 10) hd hK rfl uw_X2 (by decide) (by rw [hM]; exact fl_X2_34) (by subst hj; exact kk)
theorem pf_X2_34 {i j : Nat} (hd : decode M.2.1 pc = .ok (.putfield 34, 3)) (hM : M.1.cls = "TillTheyMeet$Reader") (hI : M.1.name = "<init>") (hK : IsK Γ i 2) (kk : Rn g l M R Q k n (pc + 3) ls st Γ iv (up rv i 7 j) lv) : Rn g l M R Q k n pc ls (.ref j :: .ref i :: st) Γ iv rv lv := rn_put (ci := 2) (fk := 7) (C := RX2) (T := TX2) (N := 10) (ty0 := tyX2) (v := .ref j) hd hK rfl uw_X2 (by decide) (by rw [hM]; exact fl_X2_34) tyX2_ok nmX2 (Or.inr ⟨hI, rfl, by rw [hM]; rfl⟩) (nar_ref rfl) (fit_ref rfl) (fun q => by
    by_cases h : q = 7
    · subst h; rw [if_pos rfl]; show Value.ref (up rv i 7 j i 7) = _; rw [up_same]
    · rw [if_neg h]; exact sv_off rfl (up_ne2 h) rfl) (fun _ _ _ => rfl) (fun j q h => up_ne1 h) (fun _ _ _ => rfl) kk
theorem fl_X2_37 : Cond.fieldLink "TillTheyMeet$Reader" 37 "TillTheyMeet$Reader" "stepCount" "I" ∈ gtb := (gtb_in 111 (by decide +kernel) (by decide +kernel))
theorem gf_X2_37 {i : Nat} (hd : decode M.2.1 pc = .ok (.getfield 37, 3)) (hM : M.1.cls = "TillTheyMeet$Reader") (hK : IsK Γ i 2) (kk : Rn g l M R Q k n (pc + 3) ls (.int (iv i 8) :: st) Γ iv rv lv) : Rn g l M R Q k n pc ls (.ref i :: st) Γ iv rv lv := rn_get (ci := 2) (fk := 8) (C := RX2) (T := TX2) (N := 10) hd hK rfl uw_X2 (by decide) (by rw [hM]; exact fl_X2_37) kk
theorem pf_X2_37 {i : Nat} {x : Int32} (hd : decode M.2.1 pc = .ok (.putfield 37, 3)) (hM : M.1.cls = "TillTheyMeet$Reader") (hK : IsK Γ i 2) (kk : Rn g l M R Q k n (pc + 3) ls st Γ (up iv i 8 x) rv lv) : Rn g l M R Q k n pc ls (.int x :: .ref i :: st) Γ iv rv lv := rn_put (ci := 2) (fk := 8) (C := RX2) (T := TX2) (N := 10) (ty0 := tyX2) (v := .int x) hd hK rfl uw_X2 (by decide) (by rw [hM]; exact fl_X2_37) tyX2_ok nmX2 (Or.inl rfl) rfl rfl (fun q => by
    by_cases h : q = 8
    · subst h; rw [if_pos rfl]; show Value.int (up iv i 8 x i 8) = _; rw [up_same]
    · rw [if_neg h]; exact sv_off (up_ne2 h) rfl rfl) (fun j q h => up_ne1 h) (fun _ _ _ => rfl) (fun _ _ _ => rfl) kk
theorem fl_X2_42 : Cond.fieldLink "TillTheyMeet$Reader" 42 "TillTheyMeet$Reader" "bounds" "[I" ∈ gtb := (gtb_in 112 (by decide +kernel) (by decide +kernel))
theorem gf_X2_42 {i j : Nat} (hd : decode M.2.1 pc = .ok (.getfield 42, 3)) (hM : M.1.cls = "TillTheyMeet$Reader") (hK : IsK Γ i 2) (hj : rv i 9 = j) (kk : Rn g l M R Q k n (pc + 3) ls (.ref j :: st) Γ iv rv lv) : Rn g l M R Q k n pc ls (.ref i :: st) Γ iv rv lv := rn_get (ci := 2) (fk := 9) (C := RX2) (T := TX2) (N := 10) hd hK rfl uw_X2 (by decide) (by rw [hM]; exact fl_X2_42) (by subst hj; exact kk)
theorem pf_X2_42 {i j : Nat} (hd : decode M.2.1 pc = .ok (.putfield 42, 3)) (hM : M.1.cls = "TillTheyMeet$Reader") (hI : M.1.name = "<init>") (hK : IsK Γ i 2) (kk : Rn g l M R Q k n (pc + 3) ls st Γ iv (up rv i 9 j) lv) : Rn g l M R Q k n pc ls (.ref j :: .ref i :: st) Γ iv rv lv := rn_put (ci := 2) (fk := 9) (C := RX2) (T := TX2) (N := 10) (ty0 := tyX2) (v := .ref j) hd hK rfl uw_X2 (by decide) (by rw [hM]; exact fl_X2_42) tyX2_ok nmX2 (Or.inr ⟨hI, rfl, by rw [hM]; rfl⟩) (nar_ref rfl) (fit_ref rfl) (fun q => by
    by_cases h : q = 9
    · subst h; rw [if_pos rfl]; show Value.ref (up rv i 9 j i 9) = _; rw [up_same]
    · rw [if_neg h]; exact sv_off rfl (up_ne2 h) rfl) (fun _ _ _ => rfl) (fun j q h => up_ne1 h) (fun _ _ _ => rfl) kk
theorem fl_X3_9 : Cond.fieldLink "TillTheyMeet$Road" 9 "TillTheyMeet$Road" "ground" "[I" ∈ gtb := (gtb_in 420 (by decide +kernel) (by decide +kernel))
theorem gf_X3_9 {i j : Nat} (hd : decode M.2.1 pc = .ok (.getfield 9, 3)) (hM : M.1.cls = "TillTheyMeet$Road") (hK : IsK Γ i 3) (hj : rv i 0 = j) (kk : Rn g l M R Q k n (pc + 3) ls (.ref j :: st) Γ iv rv lv) : Rn g l M R Q k n pc ls (.ref i :: st) Γ iv rv lv := rn_get (ci := 3) (fk := 0) (C := RX3) (T := TX3) (N := 10) hd hK rfl uw_X3 (by decide) (by rw [hM]; exact fl_X3_9) (by subst hj; exact kk)
theorem pf_X3_9 {i j : Nat} (hd : decode M.2.1 pc = .ok (.putfield 9, 3)) (hM : M.1.cls = "TillTheyMeet$Road") (hI : M.1.name = "<init>") (hK : IsK Γ i 3) (kk : Rn g l M R Q k n (pc + 3) ls st Γ iv (up rv i 0 j) lv) : Rn g l M R Q k n pc ls (.ref j :: .ref i :: st) Γ iv rv lv := rn_put (ci := 3) (fk := 0) (C := RX3) (T := TX3) (N := 10) (ty0 := tyX3) (v := .ref j) hd hK rfl uw_X3 (by decide) (by rw [hM]; exact fl_X3_9) tyX3_ok nmX3 (Or.inr ⟨hI, rfl, by rw [hM]; rfl⟩) (nar_ref rfl) (fit_ref rfl) (fun q => by
    by_cases h : q = 0
    · subst h; rw [if_pos rfl]; show Value.ref (up rv i 0 j i 0) = _; rw [up_same]
    · rw [if_neg h]; exact sv_off rfl (up_ne2 h) rfl) (fun _ _ _ => rfl) (fun j q h => up_ne1 h) (fun _ _ _ => rfl) kk
theorem fl_X3_15 : Cond.fieldLink "TillTheyMeet$Road" 15 "TillTheyMeet$Road" "known" "[I" ∈ gtb := (gtb_in 422 (by decide +kernel) (by decide +kernel))
theorem gf_X3_15 {i j : Nat} (hd : decode M.2.1 pc = .ok (.getfield 15, 3)) (hM : M.1.cls = "TillTheyMeet$Road") (hK : IsK Γ i 3) (hj : rv i 1 = j) (kk : Rn g l M R Q k n (pc + 3) ls (.ref j :: st) Γ iv rv lv) : Rn g l M R Q k n pc ls (.ref i :: st) Γ iv rv lv := rn_get (ci := 3) (fk := 1) (C := RX3) (T := TX3) (N := 10) hd hK rfl uw_X3 (by decide) (by rw [hM]; exact fl_X3_15) (by subst hj; exact kk)
theorem pf_X3_15 {i j : Nat} (hd : decode M.2.1 pc = .ok (.putfield 15, 3)) (hM : M.1.cls = "TillTheyMeet$Road") (hI : M.1.name = "<init>") (hK : IsK Γ i 3) (kk : Rn g l M R Q k n (pc + 3) ls st Γ iv (up rv i 1 j) lv) : Rn g l M R Q k n pc ls (.ref j :: .ref i :: st) Γ iv rv lv := rn_put (ci := 3) (fk := 1) (C := RX3) (T := TX3) (N := 10) (ty0 := tyX3) (v := .ref j) hd hK rfl uw_X3 (by decide) (by rw [hM]; exact fl_X3_15) tyX3_ok nmX3 (Or.inr ⟨hI, rfl, by rw [hM]; rfl⟩) (nar_ref rfl) (fit_ref rfl) (fun q => by
    by_cases h : q = 1
    · subst h; rw [if_pos rfl]; show Value.ref (up rv i 1 j i 1) = _; rw [up_same]
    · rw [if_neg h]; exact sv_off rfl (up_ne2 h) rfl) (fun _ _ _ => rfl) (fun j q h => up_ne1 h) (fun _ _ _ => rfl) kk
theorem fl_X3_23 : Cond.fieldLink "TillTheyMeet$Road" 23 "TillTheyMeet$Road" "upward" "LTillTheyMeet$Gang;" ∈ gtb := (gtb_in 424 (by decide +kernel) (by decide +kernel))
theorem gf_X3_23 {i j : Nat} (hd : decode M.2.1 pc = .ok (.getfield 23, 3)) (hM : M.1.cls = "TillTheyMeet$Road") (hK : IsK Γ i 3) (hj : rv i 2 = j) (kk : Rn g l M R Q k n (pc + 3) ls (.ref j :: st) Γ iv rv lv) : Rn g l M R Q k n pc ls (.ref i :: st) Γ iv rv lv := rn_get (ci := 3) (fk := 2) (C := RX3) (T := TX3) (N := 10) hd hK rfl uw_X3 (by decide) (by rw [hM]; exact fl_X3_23) (by subst hj; exact kk)
theorem pf_X3_23 {i j : Nat} (hd : decode M.2.1 pc = .ok (.putfield 23, 3)) (hM : M.1.cls = "TillTheyMeet$Road") (hI : M.1.name = "<init>") (hK : IsK Γ i 3) (kk : Rn g l M R Q k n (pc + 3) ls st Γ iv (up rv i 2 j) lv) : Rn g l M R Q k n pc ls (.ref j :: .ref i :: st) Γ iv rv lv := rn_put (ci := 3) (fk := 2) (C := RX3) (T := TX3) (N := 10) (ty0 := tyX3) (v := .ref j) hd hK rfl uw_X3 (by decide) (by rw [hM]; exact fl_X3_23) tyX3_ok nmX3 (Or.inr ⟨hI, rfl, by rw [hM]; rfl⟩) (nar_ref rfl) (fit_ref rfl) (fun q => by
    by_cases h : q = 2
    · subst h; rw [if_pos rfl]; show Value.ref (up rv i 2 j i 2) = _; rw [up_same]
    · rw [if_neg h]; exact sv_off rfl (up_ne2 h) rfl) (fun _ _ _ => rfl) (fun j q h => up_ne1 h) (fun _ _ _ => rfl) kk
theorem fl_X3_27 : Cond.fieldLink "TillTheyMeet$Road" 27 "TillTheyMeet$Road" "downward" "LTillTheyMeet$Gang;" ∈ gtb := (gtb_in 426 (by decide +kernel) (by decide +kernel))
theorem gf_X3_27 {i j : Nat} (hd : decode M.2.1 pc = .ok (.getfield 27, 3)) (hM : M.1.cls = "TillTheyMeet$Road") (hK : IsK Γ i 3) (hj : rv i 3 = j) (kk : Rn g l M R Q k n (pc + 3) ls (.ref j :: st) Γ iv rv lv) : Rn g l M R Q k n pc ls (.ref i :: st) Γ iv rv lv := rn_get (ci := 3) (fk := 3) (C := RX3) (T := TX3) (N := 10) hd hK rfl uw_X3 (by decide) (by rw [hM]; exact fl_X3_27) (by subst hj; exact kk)
theorem pf_X3_27 {i j : Nat} (hd : decode M.2.1 pc = .ok (.putfield 27, 3)) (hM : M.1.cls = "TillTheyMeet$Road") (hI : M.1.name = "<init>") (hK : IsK Γ i 3) (kk : Rn g l M R Q k n (pc + 3) ls st Γ iv (up rv i 3 j) lv) : Rn g l M R Q k n pc ls (.ref j :: .ref i :: st) Γ iv rv lv := rn_put (ci := 3) (fk := 3) (C := RX3) (T := TX3) (N := 10) (ty0 := tyX3) (v := .ref j) hd hK rfl uw_X3 (by decide) (by rw [hM]; exact fl_X3_27) tyX3_ok nmX3 (Or.inr ⟨hI, rfl, by rw [hM]; rfl⟩) (nar_ref rfl) (fit_ref rfl) (fun q => by
    by_cases h : q = 3
    · subst h; rw [if_pos rfl]; show Value.ref (up rv i 3 j i 3) = _; rw [up_same]
    · rw [if_neg h]; exact sv_off rfl (up_ne2 h) rfl) (fun _ _ _ => rfl) (fun j q h => up_ne1 h) (fun _ _ _ => rfl) kk
theorem fl_X3_30 : Cond.fieldLink "TillTheyMeet$Road" 30 "TillTheyMeet$Road" "day" "I" ∈ gtb := (gtb_in 428 (by decide +kernel) (by decide +kernel))
theorem gf_X3_30 {i : Nat} (hd : decode M.2.1 pc = .ok (.getfield 30, 3)) (hM : M.1.cls = "TillTheyMeet$Road") (hK : IsK Γ i 3) (kk : Rn g l M R Q k n (pc + 3) ls (.int (iv i 4) :: st) Γ iv rv lv) : Rn g l M R Q k n pc ls (.ref i :: st) Γ iv rv lv := rn_get (ci := 3) (fk := 4) (C := RX3) (T := TX3) (N := 10) hd hK rfl uw_X3 (by decide) (by rw [hM]; exact fl_X3_30) kk
theorem pf_X3_30 {i : Nat} {x : Int32} (hd : decode M.2.1 pc = .ok (.putfield 30, 3)) (hM : M.1.cls = "TillTheyMeet$Road") (hK : IsK Γ i 3) (kk : Rn g l M R Q k n (pc + 3) ls st Γ (up iv i 4 x) rv lv) : Rn g l M R Q k n pc ls (.int x :: .ref i :: st) Γ iv rv lv := rn_put (ci := 3) (fk := 4) (C := RX3) (T := TX3) (N := 10) (ty0 := tyX3) (v := .int x) hd hK rfl uw_X3 (by decide) (by rw [hM]; exact fl_X3_30) tyX3_ok nmX3 (Or.inl rfl) rfl rfl (fun q => by
    by_cases h : q = 4
    · subst h; rw [if_pos rfl]; show Value.int (up iv i 4 x i 4) = _; rw [up_same]
    · rw [if_neg h]; exact sv_off (up_ne2 h) rfl rfl) (fun j q h => up_ne1 h) (fun _ _ _ => rfl) (fun _ _ _ => rfl) kk
theorem fl_X3_34 : Cond.fieldLink "TillTheyMeet$Road" 34 "TillTheyMeet$Road" "payYard" "I" ∈ gtb := (gtb_in 430 (by decide +kernel) (by decide +kernel))
theorem gf_X3_34 {i : Nat} (hd : decode M.2.1 pc = .ok (.getfield 34, 3)) (hM : M.1.cls = "TillTheyMeet$Road") (hK : IsK Γ i 3) (kk : Rn g l M R Q k n (pc + 3) ls (.int (iv i 5) :: st) Γ iv rv lv) : Rn g l M R Q k n pc ls (.ref i :: st) Γ iv rv lv := rn_get (ci := 3) (fk := 5) (C := RX3) (T := TX3) (N := 10) hd hK rfl uw_X3 (by decide) (by rw [hM]; exact fl_X3_34) kk
theorem pf_X3_34 {i : Nat} {x : Int32} (hd : decode M.2.1 pc = .ok (.putfield 34, 3)) (hM : M.1.cls = "TillTheyMeet$Road") (hK : IsK Γ i 3) (kk : Rn g l M R Q k n (pc + 3) ls st Γ (up iv i 5 x) rv lv) : Rn g l M R Q k n pc ls (.int x :: .ref i :: st) Γ iv rv lv := rn_put (ci := 3) (fk := 5) (C := RX3) (T := TX3) (N := 10) (ty0 := tyX3) (v := .int x) hd hK rfl uw_X3 (by decide) (by rw [hM]; exact fl_X3_34) tyX3_ok nmX3 (Or.inl rfl) rfl rfl (fun q => by
    by_cases h : q = 5
    · subst h; rw [if_pos rfl]; show Value.int (up iv i 5 x i 5) = _; rw [up_same]
    · rw [if_neg h]; exact sv_off (up_ne2 h) rfl rfl) (fun j q h => up_ne1 h) (fun _ _ _ => rfl) (fun _ _ _ => rfl) kk
theorem fl_X3_37 : Cond.fieldLink "TillTheyMeet$Road" 37 "TillTheyMeet$Road" "payDay" "I" ∈ gtb := (gtb_in 432 (by decide +kernel) (by decide +kernel))
theorem gf_X3_37 {i : Nat} (hd : decode M.2.1 pc = .ok (.getfield 37, 3)) (hM : M.1.cls = "TillTheyMeet$Road") (hK : IsK Γ i 3) (kk : Rn g l M R Q k n (pc + 3) ls (.int (iv i 6) :: st) Γ iv rv lv) : Rn g l M R Q k n pc ls (.ref i :: st) Γ iv rv lv := rn_get (ci := 3) (fk := 6) (C := RX3) (T := TX3) (N := 10) hd hK rfl uw_X3 (by decide) (by rw [hM]; exact fl_X3_37) kk
theorem pf_X3_37 {i : Nat} {x : Int32} (hd : decode M.2.1 pc = .ok (.putfield 37, 3)) (hM : M.1.cls = "TillTheyMeet$Road") (hK : IsK Γ i 3) (kk : Rn g l M R Q k n (pc + 3) ls st Γ (up iv i 6 x) rv lv) : Rn g l M R Q k n pc ls (.int x :: .ref i :: st) Γ iv rv lv := rn_put (ci := 3) (fk := 6) (C := RX3) (T := TX3) (N := 10) (ty0 := tyX3) (v := .int x) hd hK rfl uw_X3 (by decide) (by rw [hM]; exact fl_X3_37) tyX3_ok nmX3 (Or.inl rfl) rfl rfl (fun q => by
    by_cases h : q = 6
    · subst h; rw [if_pos rfl]; show Value.int (up iv i 6 x i 6) = _; rw [up_same]
    · rw [if_neg h]; exact sv_off (up_ne2 h) rfl rfl) (fun j q h => up_ne1 h) (fun _ _ _ => rfl) (fun _ _ _ => rfl) kk
theorem fl_X3_40 : Cond.fieldLink "TillTheyMeet$Road" 40 "TillTheyMeet$Road" "wage" "I" ∈ gtb := (gtb_in 434 (by decide +kernel) (by decide +kernel))
theorem gf_X3_40 {i : Nat} (hd : decode M.2.1 pc = .ok (.getfield 40, 3)) (hM : M.1.cls = "TillTheyMeet$Road") (hK : IsK Γ i 3) (kk : Rn g l M R Q k n (pc + 3) ls (.int (iv i 7) :: st) Γ iv rv lv) : Rn g l M R Q k n pc ls (.ref i :: st) Γ iv rv lv := rn_get (ci := 3) (fk := 7) (C := RX3) (T := TX3) (N := 10) hd hK rfl uw_X3 (by decide) (by rw [hM]; exact fl_X3_40) kk
theorem pf_X3_40 {i : Nat} {x : Int32} (hd : decode M.2.1 pc = .ok (.putfield 40, 3)) (hM : M.1.cls = "TillTheyMeet$Road") (hK : IsK Γ i 3) (kk : Rn g l M R Q k n (pc + 3) ls st Γ (up iv i 7 x) rv lv) : Rn g l M R Q k n pc ls (.int x :: .ref i :: st) Γ iv rv lv := rn_put (ci := 3) (fk := 7) (C := RX3) (T := TX3) (N := 10) (ty0 := tyX3) (v := .int x) hd hK rfl uw_X3 (by decide) (by rw [hM]; exact fl_X3_40) tyX3_ok nmX3 (Or.inl rfl) rfl rfl (fun q => by
    by_cases h : q = 7
    · subst h; rw [if_pos rfl]; show Value.int (up iv i 7 x i 7) = _; rw [up_same]
    · rw [if_neg h]; exact sv_off (up_ne2 h) rfl rfl) (fun j q h => up_ne1 h) (fun _ _ _ => rfl) (fun _ _ _ => rfl) kk
theorem fl_X3_45 : Cond.fieldLink "TillTheyMeet$Road" 45 "TillTheyMeet$Road" "meant" "[I" ∈ gtb := (gtb_in 438 (by decide +kernel) (by decide +kernel))
theorem gf_X3_45 {i j : Nat} (hd : decode M.2.1 pc = .ok (.getfield 45, 3)) (hM : M.1.cls = "TillTheyMeet$Road") (hK : IsK Γ i 3) (hj : rv i 9 = j) (kk : Rn g l M R Q k n (pc + 3) ls (.ref j :: st) Γ iv rv lv) : Rn g l M R Q k n pc ls (.ref i :: st) Γ iv rv lv := rn_get (ci := 3) (fk := 9) (C := RX3) (T := TX3) (N := 10) hd hK rfl uw_X3 (by decide) (by rw [hM]; exact fl_X3_45) (by subst hj; exact kk)
theorem pf_X3_45 {i j : Nat} (hd : decode M.2.1 pc = .ok (.putfield 45, 3)) (hM : M.1.cls = "TillTheyMeet$Road") (hI : M.1.name = "<init>") (hK : IsK Γ i 3) (kk : Rn g l M R Q k n (pc + 3) ls st Γ iv (up rv i 9 j) lv) : Rn g l M R Q k n pc ls (.ref j :: .ref i :: st) Γ iv rv lv := rn_put (ci := 3) (fk := 9) (C := RX3) (T := TX3) (N := 10) (ty0 := tyX3) (v := .ref j) hd hK rfl uw_X3 (by decide) (by rw [hM]; exact fl_X3_45) tyX3_ok nmX3 (Or.inr ⟨hI, rfl, by rw [hM]; rfl⟩) (nar_ref rfl) (fit_ref rfl) (fun q => by
    by_cases h : q = 9
    · subst h; rw [if_pos rfl]; show Value.ref (up rv i 9 j i 9) = _; rw [up_same]
    · rw [if_neg h]; exact sv_off rfl (up_ne2 h) rfl) (fun _ _ _ => rfl) (fun j q h => up_ne1 h) (fun _ _ _ => rfl) kk
theorem fl_X3_48 : Cond.fieldLink "TillTheyMeet$Road" 48 "TillTheyMeet$Road" "rule" "LTillTheyMeet$Rule;" ∈ gtb := (gtb_in 436 (by decide +kernel) (by decide +kernel))
theorem gf_X3_48 {i j : Nat} (hd : decode M.2.1 pc = .ok (.getfield 48, 3)) (hM : M.1.cls = "TillTheyMeet$Road") (hK : IsK Γ i 3) (hj : rv i 8 = j) (kk : Rn g l M R Q k n (pc + 3) ls (.ref j :: st) Γ iv rv lv) : Rn g l M R Q k n pc ls (.ref i :: st) Γ iv rv lv := rn_get (ci := 3) (fk := 8) (C := RX3) (T := TX3) (N := 10) hd hK rfl uw_X3 (by decide) (by rw [hM]; exact fl_X3_48) (by subst hj; exact kk)
theorem pf_X3_48 {i j : Nat} (hd : decode M.2.1 pc = .ok (.putfield 48, 3)) (hM : M.1.cls = "TillTheyMeet$Road") (hK : IsK Γ i 3) (kk : Rn g l M R Q k n (pc + 3) ls st Γ iv (up rv i 8 j) lv) : Rn g l M R Q k n pc ls (.ref j :: .ref i :: st) Γ iv rv lv := rn_put (ci := 3) (fk := 8) (C := RX3) (T := TX3) (N := 10) (ty0 := tyX3) (v := .ref j) hd hK rfl uw_X3 (by decide) (by rw [hM]; exact fl_X3_48) tyX3_ok nmX3 (Or.inl rfl) (nar_ref rfl) (fit_ref rfl) (fun q => by
    by_cases h : q = 8
    · subst h; rw [if_pos rfl]; show Value.ref (up rv i 8 j i 8) = _; rw [up_same]
    · rw [if_neg h]; exact sv_off rfl (up_ne2 h) rfl) (fun _ _ _ => rfl) (fun j q h => up_ne1 h) (fun _ _ _ => rfl) kk
theorem fl_X3_56 : Cond.fieldLink "TillTheyMeet$Road" 56 "TillTheyMeet$Gang" "done" "I" ∈ gtb := (gtb_in 384 (by decide +kernel) (by decide +kernel))
theorem gf_X3_56 {i : Nat} (hd : decode M.2.1 pc = .ok (.getfield 56, 3)) (hM : M.1.cls = "TillTheyMeet$Road") (hK : IsK Γ i 1) (kk : Rn g l M R Q k n (pc + 3) ls (.int (iv i 4) :: st) Γ iv rv lv) : Rn g l M R Q k n pc ls (.ref i :: st) Γ iv rv lv := rn_get (ci := 1) (fk := 4) (C := RX1) (T := TX1) (N := 10) hd hK rfl uw_X1 (by decide) (by rw [hM]; exact fl_X3_56) kk
theorem pf_X3_56 {i : Nat} {x : Int32} (hd : decode M.2.1 pc = .ok (.putfield 56, 3)) (hM : M.1.cls = "TillTheyMeet$Road") (hK : IsK Γ i 1) (kk : Rn g l M R Q k n (pc + 3) ls st Γ (up iv i 4 x) rv lv) : Rn g l M R Q k n pc ls (.int x :: .ref i :: st) Γ iv rv lv := rn_put (ci := 1) (fk := 4) (C := RX1) (T := TX1) (N := 10) (ty0 := tyX1) (v := .int x) hd hK rfl uw_X1 (by decide) (by rw [hM]; exact fl_X3_56) tyX1_ok nmX1 (Or.inl rfl) rfl rfl (fun q => by
    by_cases h : q = 4
    · subst h; rw [if_pos rfl]; show Value.int (up iv i 4 x i 4) = _; rw [up_same]
    · rw [if_neg h]; exact sv_off (up_ne2 h) rfl rfl) (fun j q h => up_ne1 h) (fun _ _ _ => rfl) (fun _ _ _ => rfl) kk
theorem fl_X3_59 : Cond.fieldLink "TillTheyMeet$Road" 59 "TillTheyMeet$Gang" "earned" "I" ∈ gtb := (gtb_in 390 (by decide +kernel) (by decide +kernel))
theorem gf_X3_59 {i : Nat} (hd : decode M.2.1 pc = .ok (.getfield 59, 3)) (hM : M.1.cls = "TillTheyMeet$Road") (hK : IsK Γ i 1) (kk : Rn g l M R Q k n (pc + 3) ls (.int (iv i 6) :: st) Γ iv rv lv) : Rn g l M R Q k n pc ls (.ref i :: st) Γ iv rv lv := rn_get (ci := 1) (fk := 6) (C := RX1) (T := TX1) (N := 10) hd hK rfl uw_X1 (by decide) (by rw [hM]; exact fl_X3_59) kk
theorem pf_X3_59 {i : Nat} {x : Int32} (hd : decode M.2.1 pc = .ok (.putfield 59, 3)) (hM : M.1.cls = "TillTheyMeet$Road") (hK : IsK Γ i 1) (kk : Rn g l M R Q k n (pc + 3) ls st Γ (up iv i 6 x) rv lv) : Rn g l M R Q k n pc ls (.int x :: .ref i :: st) Γ iv rv lv := rn_put (ci := 1) (fk := 6) (C := RX1) (T := TX1) (N := 10) (ty0 := tyX1) (v := .int x) hd hK rfl uw_X1 (by decide) (by rw [hM]; exact fl_X3_59) tyX1_ok nmX1 (Or.inl rfl) rfl rfl (fun q => by
    by_cases h : q = 6
    · subst h; rw [if_pos rfl]; show Value.int (up iv i 6 x i 6) = _; rw [up_same]
    · rw [if_neg h]; exact sv_off (up_ne2 h) rfl rfl) (fun j q h => up_ne1 h) (fun _ _ _ => rfl) (fun _ _ _ => rfl) kk
theorem fl_X3_62 : Cond.fieldLink "TillTheyMeet$Road" 62 "TillTheyMeet$Gang" "men" "I" ∈ gtb := (gtb_in 382 (by decide +kernel) (by decide +kernel))
theorem gf_X3_62 {i : Nat} (hd : decode M.2.1 pc = .ok (.getfield 62, 3)) (hM : M.1.cls = "TillTheyMeet$Road") (hK : IsK Γ i 1) (kk : Rn g l M R Q k n (pc + 3) ls (.int (iv i 3) :: st) Γ iv rv lv) : Rn g l M R Q k n pc ls (.ref i :: st) Γ iv rv lv := rn_get (ci := 1) (fk := 3) (C := RX1) (T := TX1) (N := 10) hd hK rfl uw_X1 (by decide) (by rw [hM]; exact fl_X3_62) kk
theorem fl_X3_77 : Cond.fieldLink "TillTheyMeet$Road" 77 "TillTheyMeet$Road" "LEAST" "[I" ∈ gtb := (gtb_in 537 (by decide +kernel) (by decide +kernel))
theorem fl_X3_80 : Cond.fieldLink "TillTheyMeet$Road" 80 "TillTheyMeet$Road" "MOST" "[I" ∈ gtb := (gtb_in 539 (by decide +kernel) (by decide +kernel))
theorem fl_X3_96 : Cond.fieldLink "TillTheyMeet$Road" 96 "TillTheyMeet$Gang" "askedAt" "[I" ∈ gtb := (gtb_in 396 (by decide +kernel) (by decide +kernel))
theorem gf_X3_96 {i j : Nat} (hd : decode M.2.1 pc = .ok (.getfield 96, 3)) (hM : M.1.cls = "TillTheyMeet$Road") (hK : IsK Γ i 1) (hj : rv i 8 = j) (kk : Rn g l M R Q k n (pc + 3) ls (.ref j :: st) Γ iv rv lv) : Rn g l M R Q k n pc ls (.ref i :: st) Γ iv rv lv := rn_get (ci := 1) (fk := 8) (C := RX1) (T := TX1) (N := 10) hd hK rfl uw_X1 (by decide) (by rw [hM]; exact fl_X3_96) (by subst hj; exact kk)
theorem fl_X3_99 : Cond.fieldLink "TillTheyMeet$Road" 99 "TillTheyMeet$Rule" "speaksOfDay" "[Z" ∈ gtb := (gtb_in 344 (by decide +kernel) (by decide +kernel))
theorem gf_X3_99 {i j : Nat} (hd : decode M.2.1 pc = .ok (.getfield 99, 3)) (hM : M.1.cls = "TillTheyMeet$Road") (hK : IsK Γ i 4) (hj : rv i 1 = j) (kk : Rn g l M R Q k n (pc + 3) ls (.ref j :: st) Γ iv rv lv) : Rn g l M R Q k n pc ls (.ref i :: st) Γ iv rv lv := rn_get (ci := 4) (fk := 1) (C := RX4) (T := TX4) (N := 5) hd hK rfl uw_X4 (by decide) (by rw [hM]; exact fl_X3_99) (by subst hj; exact kk)
theorem fl_X3_103 : Cond.fieldLink "TillTheyMeet$Road" 103 "TillTheyMeet$Gang" "answered" "[I" ∈ gtb := (gtb_in 398 (by decide +kernel) (by decide +kernel))
theorem gf_X3_103 {i j : Nat} (hd : decode M.2.1 pc = .ok (.getfield 103, 3)) (hM : M.1.cls = "TillTheyMeet$Road") (hK : IsK Γ i 1) (hj : rv i 9 = j) (kk : Rn g l M R Q k n (pc + 3) ls (.ref j :: st) Γ iv rv lv) : Rn g l M R Q k n pc ls (.ref i :: st) Γ iv rv lv := rn_get (ci := 1) (fk := 9) (C := RX1) (T := TX1) (N := 10) hd hK rfl uw_X1 (by decide) (by rw [hM]; exact fl_X3_103) (by subst hj; exact kk)
theorem fl_X3_112 : Cond.fieldLink "TillTheyMeet$Road" 112 "TillTheyMeet$Gang" "work" "I" ∈ gtb := (gtb_in 388 (by decide +kernel) (by decide +kernel))
theorem gf_X3_112 {i : Nat} (hd : decode M.2.1 pc = .ok (.getfield 112, 3)) (hM : M.1.cls = "TillTheyMeet$Road") (hK : IsK Γ i 1) (kk : Rn g l M R Q k n (pc + 3) ls (.int (iv i 5) :: st) Γ iv rv lv) : Rn g l M R Q k n pc ls (.ref i :: st) Γ iv rv lv := rn_get (ci := 1) (fk := 5) (C := RX1) (T := TX1) (N := 10) hd hK rfl uw_X1 (by decide) (by rw [hM]; exact fl_X3_112) kk
theorem pf_X3_112 {i : Nat} {x : Int32} (hd : decode M.2.1 pc = .ok (.putfield 112, 3)) (hM : M.1.cls = "TillTheyMeet$Road") (hK : IsK Γ i 1) (kk : Rn g l M R Q k n (pc + 3) ls st Γ (up iv i 5 x) rv lv) : Rn g l M R Q k n pc ls (.int x :: .ref i :: st) Γ iv rv lv := rn_put (ci := 1) (fk := 5) (C := RX1) (T := TX1) (N := 10) (ty0 := tyX1) (v := .int x) hd hK rfl uw_X1 (by decide) (by rw [hM]; exact fl_X3_112) tyX1_ok nmX1 (Or.inl rfl) rfl rfl (fun q => by
    by_cases h : q = 5
    · subst h; rw [if_pos rfl]; show Value.int (up iv i 5 x i 5) = _; rw [up_same]
    · rw [if_neg h]; exact sv_off (up_ne2 h) rfl rfl) (fun j q h => up_ne1 h) (fun _ _ _ => rfl) (fun _ _ _ => rfl) kk
theorem fl_X3_126 : Cond.fieldLink "TillTheyMeet$Road" 126 "TillTheyMeet$Gang" "spent" "I" ∈ gtb := (gtb_in 394 (by decide +kernel) (by decide +kernel))
theorem gf_X3_126 {i : Nat} (hd : decode M.2.1 pc = .ok (.getfield 126, 3)) (hM : M.1.cls = "TillTheyMeet$Road") (hK : IsK Γ i 1) (kk : Rn g l M R Q k n (pc + 3) ls (.int (iv i 7) :: st) Γ iv rv lv) : Rn g l M R Q k n pc ls (.ref i :: st) Γ iv rv lv := rn_get (ci := 1) (fk := 7) (C := RX1) (T := TX1) (N := 10) hd hK rfl uw_X1 (by decide) (by rw [hM]; exact fl_X3_126) kk
theorem pf_X3_126 {i : Nat} {x : Int32} (hd : decode M.2.1 pc = .ok (.putfield 126, 3)) (hM : M.1.cls = "TillTheyMeet$Road") (hK : IsK Γ i 1) (kk : Rn g l M R Q k n (pc + 3) ls st Γ (up iv i 7 x) rv lv) : Rn g l M R Q k n pc ls (.int x :: .ref i :: st) Γ iv rv lv := rn_put (ci := 1) (fk := 7) (C := RX1) (T := TX1) (N := 10) (ty0 := tyX1) (v := .int x) hd hK rfl uw_X1 (by decide) (by rw [hM]; exact fl_X3_126) tyX1_ok nmX1 (Or.inl rfl) rfl rfl (fun q => by
    by_cases h : q = 7
    · subst h; rw [if_pos rfl]; show Value.int (up iv i 7 x i 7) = _; rw [up_same]
    · rw [if_neg h]; exact sv_off (up_ne2 h) rfl rfl) (fun j q h => up_ne1 h) (fun _ _ _ => rfl) (fun _ _ _ => rfl) kk
theorem fl_X3_152 : Cond.fieldLink "TillTheyMeet$Road" 152 "TillTheyMeet$Gang" "kind" "I" ∈ gtb := (gtb_in 376 (by decide +kernel) (by decide +kernel))
theorem gf_X3_152 {i : Nat} (hd : decode M.2.1 pc = .ok (.getfield 152, 3)) (hM : M.1.cls = "TillTheyMeet$Road") (hK : IsK Γ i 1) (kk : Rn g l M R Q k n (pc + 3) ls (.int (iv i 1) :: st) Γ iv rv lv) : Rn g l M R Q k n pc ls (.ref i :: st) Γ iv rv lv := rn_get (ci := 1) (fk := 1) (C := RX1) (T := TX1) (N := 10) hd hK rfl uw_X1 (by decide) (by rw [hM]; exact fl_X3_152) kk
theorem pf_X3_152 {i : Nat} {x : Int32} (hd : decode M.2.1 pc = .ok (.putfield 152, 3)) (hM : M.1.cls = "TillTheyMeet$Road") (hK : IsK Γ i 1) (kk : Rn g l M R Q k n (pc + 3) ls st Γ (up iv i 1 x) rv lv) : Rn g l M R Q k n pc ls (.int x :: .ref i :: st) Γ iv rv lv := rn_put (ci := 1) (fk := 1) (C := RX1) (T := TX1) (N := 10) (ty0 := tyX1) (v := .int x) hd hK rfl uw_X1 (by decide) (by rw [hM]; exact fl_X3_152) tyX1_ok nmX1 (Or.inl rfl) rfl rfl (fun q => by
    by_cases h : q = 1
    · subst h; rw [if_pos rfl]; show Value.int (up iv i 1 x i 1) = _; rw [up_same]
    · rw [if_neg h]; exact sv_off (up_ne2 h) rfl rfl) (fun j q h => up_ne1 h) (fun _ _ _ => rfl) (fun _ _ _ => rfl) kk
theorem fl_X3_155 : Cond.fieldLink "TillTheyMeet$Road" 155 "TillTheyMeet$Gang" "number" "I" ∈ gtb := (gtb_in 379 (by decide +kernel) (by decide +kernel))
theorem gf_X3_155 {i : Nat} (hd : decode M.2.1 pc = .ok (.getfield 155, 3)) (hM : M.1.cls = "TillTheyMeet$Road") (hK : IsK Γ i 1) (kk : Rn g l M R Q k n (pc + 3) ls (.int (iv i 2) :: st) Γ iv rv lv) : Rn g l M R Q k n pc ls (.ref i :: st) Γ iv rv lv := rn_get (ci := 1) (fk := 2) (C := RX1) (T := TX1) (N := 10) hd hK rfl uw_X1 (by decide) (by rw [hM]; exact fl_X3_155) kk
theorem pf_X3_155 {i : Nat} {x : Int32} (hd : decode M.2.1 pc = .ok (.putfield 155, 3)) (hM : M.1.cls = "TillTheyMeet$Road") (hK : IsK Γ i 1) (kk : Rn g l M R Q k n (pc + 3) ls st Γ (up iv i 2 x) rv lv) : Rn g l M R Q k n pc ls (.int x :: .ref i :: st) Γ iv rv lv := rn_put (ci := 1) (fk := 2) (C := RX1) (T := TX1) (N := 10) (ty0 := tyX1) (v := .int x) hd hK rfl uw_X1 (by decide) (by rw [hM]; exact fl_X3_155) tyX1_ok nmX1 (Or.inl rfl) rfl rfl (fun q => by
    by_cases h : q = 2
    · subst h; rw [if_pos rfl]; show Value.int (up iv i 2 x i 2) = _; rw [up_same]
    · rw [if_neg h]; exact sv_off (up_ne2 h) rfl rfl) (fun j q h => up_ne1 h) (fun _ _ _ => rfl) (fun _ _ _ => rfl) kk
theorem fl_X4_9 : Cond.fieldLink "TillTheyMeet$Rule" 9 "TillTheyMeet$Rule" "speaksOfDay" "[Z" ∈ gtb := (gtb_in 343 (by decide +kernel) (by decide +kernel))
theorem gf_X4_9 {i j : Nat} (hd : decode M.2.1 pc = .ok (.getfield 9, 3)) (hM : M.1.cls = "TillTheyMeet$Rule") (hK : IsK Γ i 4) (hj : rv i 1 = j) (kk : Rn g l M R Q k n (pc + 3) ls (.ref j :: st) Γ iv rv lv) : Rn g l M R Q k n pc ls (.ref i :: st) Γ iv rv lv := rn_get (ci := 4) (fk := 1) (C := RX4) (T := TX4) (N := 5) hd hK rfl uw_X4 (by decide) (by rw [hM]; exact fl_X4_9) (by subst hj; exact kk)
theorem pf_X4_9 {i j : Nat} (hd : decode M.2.1 pc = .ok (.putfield 9, 3)) (hM : M.1.cls = "TillTheyMeet$Rule") (hI : M.1.name = "<init>") (hK : IsK Γ i 4) (kk : Rn g l M R Q k n (pc + 3) ls st Γ iv (up rv i 1 j) lv) : Rn g l M R Q k n pc ls (.ref j :: .ref i :: st) Γ iv rv lv := rn_put (ci := 4) (fk := 1) (C := RX4) (T := TX4) (N := 5) (ty0 := tyX4) (v := .ref j) hd hK rfl uw_X4 (by decide) (by rw [hM]; exact fl_X4_9) tyX4_ok nmX4 (Or.inr ⟨hI, rfl, by rw [hM]; rfl⟩) (nar_ref rfl) (fit_ref rfl) (fun q => by
    by_cases h : q = 1
    · subst h; rw [if_pos rfl]; show Value.ref (up rv i 1 j i 1) = _; rw [up_same]
    · rw [if_neg h]; exact sv_off rfl (up_ne2 h) rfl) (fun _ _ _ => rfl) (fun j q h => up_ne1 h) (fun _ _ _ => rfl) kk
theorem fl_X4_13 : Cond.fieldLink "TillTheyMeet$Rule" 13 "TillTheyMeet$Rule" "pile" "[I" ∈ gtb := (gtb_in 347 (by decide +kernel) (by decide +kernel))
theorem gf_X4_13 {i j : Nat} (hd : decode M.2.1 pc = .ok (.getfield 13, 3)) (hM : M.1.cls = "TillTheyMeet$Rule") (hK : IsK Γ i 4) (hj : rv i 4 = j) (kk : Rn g l M R Q k n (pc + 3) ls (.ref j :: st) Γ iv rv lv) : Rn g l M R Q k n pc ls (.ref i :: st) Γ iv rv lv := rn_get (ci := 4) (fk := 4) (C := RX4) (T := TX4) (N := 5) hd hK rfl uw_X4 (by decide) (by rw [hM]; exact fl_X4_13) (by subst hj; exact kk)
theorem pf_X4_13 {i j : Nat} (hd : decode M.2.1 pc = .ok (.putfield 13, 3)) (hM : M.1.cls = "TillTheyMeet$Rule") (hI : M.1.name = "<init>") (hK : IsK Γ i 4) (kk : Rn g l M R Q k n (pc + 3) ls st Γ iv (up rv i 4 j) lv) : Rn g l M R Q k n pc ls (.ref j :: .ref i :: st) Γ iv rv lv := rn_put (ci := 4) (fk := 4) (C := RX4) (T := TX4) (N := 5) (ty0 := tyX4) (v := .ref j) hd hK rfl uw_X4 (by decide) (by rw [hM]; exact fl_X4_13) tyX4_ok nmX4 (Or.inr ⟨hI, rfl, by rw [hM]; rfl⟩) (nar_ref rfl) (fit_ref rfl) (fun q => by
    by_cases h : q = 4
    · subst h; rw [if_pos rfl]; show Value.ref (up rv i 4 j i 4) = _; rw [up_same]
    · rw [if_neg h]; exact sv_off rfl (up_ne2 h) rfl) (fun _ _ _ => rfl) (fun j q h => up_ne1 h) (fun _ _ _ => rfl) kk
theorem fl_X4_17 : Cond.fieldLink "TillTheyMeet$Rule" 17 "TillTheyMeet$Rule" "number" "I" ∈ gtb := (gtb_in 341 (by decide +kernel) (by decide +kernel))
theorem gf_X4_17 {i : Nat} (hd : decode M.2.1 pc = .ok (.getfield 17, 3)) (hM : M.1.cls = "TillTheyMeet$Rule") (hK : IsK Γ i 4) (kk : Rn g l M R Q k n (pc + 3) ls (.int (iv i 0) :: st) Γ iv rv lv) : Rn g l M R Q k n pc ls (.ref i :: st) Γ iv rv lv := rn_get (ci := 4) (fk := 0) (C := RX4) (T := TX4) (N := 5) hd hK rfl uw_X4 (by decide) (by rw [hM]; exact fl_X4_17) kk
theorem pf_X4_17 {i : Nat} {x : Int32} (hd : decode M.2.1 pc = .ok (.putfield 17, 3)) (hM : M.1.cls = "TillTheyMeet$Rule") (hI : M.1.name = "<init>") (hK : IsK Γ i 4) (kk : Rn g l M R Q k n (pc + 3) ls st Γ (up iv i 0 x) rv lv) : Rn g l M R Q k n pc ls (.int x :: .ref i :: st) Γ iv rv lv := rn_put (ci := 4) (fk := 0) (C := RX4) (T := TX4) (N := 5) (ty0 := tyX4) (v := .int x) hd hK rfl uw_X4 (by decide) (by rw [hM]; exact fl_X4_17) tyX4_ok nmX4 (Or.inr ⟨hI, rfl, by rw [hM]; rfl⟩) rfl rfl (fun q => by
    by_cases h : q = 0
    · subst h; rw [if_pos rfl]; show Value.int (up iv i 0 x i 0) = _; rw [up_same]
    · rw [if_neg h]; exact sv_off (up_ne2 h) rfl rfl) (fun j q h => up_ne1 h) (fun _ _ _ => rfl) (fun _ _ _ => rfl) kk
theorem fl_X4_21 : Cond.fieldLink "TillTheyMeet$Rule" 21 "TillTheyMeet$Rule" "steps" "[I" ∈ gtb := (gtb_in 345 (by decide +kernel) (by decide +kernel))
theorem gf_X4_21 {i j : Nat} (hd : decode M.2.1 pc = .ok (.getfield 21, 3)) (hM : M.1.cls = "TillTheyMeet$Rule") (hK : IsK Γ i 4) (hj : rv i 2 = j) (kk : Rn g l M R Q k n (pc + 3) ls (.ref j :: st) Γ iv rv lv) : Rn g l M R Q k n pc ls (.ref i :: st) Γ iv rv lv := rn_get (ci := 4) (fk := 2) (C := RX4) (T := TX4) (N := 5) hd hK rfl uw_X4 (by decide) (by rw [hM]; exact fl_X4_21) (by subst hj; exact kk)
theorem pf_X4_21 {i j : Nat} (hd : decode M.2.1 pc = .ok (.putfield 21, 3)) (hM : M.1.cls = "TillTheyMeet$Rule") (hI : M.1.name = "<init>") (hK : IsK Γ i 4) (kk : Rn g l M R Q k n (pc + 3) ls st Γ iv (up rv i 2 j) lv) : Rn g l M R Q k n pc ls (.ref j :: .ref i :: st) Γ iv rv lv := rn_put (ci := 4) (fk := 2) (C := RX4) (T := TX4) (N := 5) (ty0 := tyX4) (v := .ref j) hd hK rfl uw_X4 (by decide) (by rw [hM]; exact fl_X4_21) tyX4_ok nmX4 (Or.inr ⟨hI, rfl, by rw [hM]; rfl⟩) (nar_ref rfl) (fit_ref rfl) (fun q => by
    by_cases h : q = 2
    · subst h; rw [if_pos rfl]; show Value.ref (up rv i 2 j i 2) = _; rw [up_same]
    · rw [if_neg h]; exact sv_off rfl (up_ne2 h) rfl) (fun _ _ _ => rfl) (fun j q h => up_ne1 h) (fun _ _ _ => rfl) kk
theorem fl_X4_24 : Cond.fieldLink "TillTheyMeet$Rule" 24 "TillTheyMeet$Rule" "bounds" "[I" ∈ gtb := (gtb_in 346 (by decide +kernel) (by decide +kernel))
theorem gf_X4_24 {i j : Nat} (hd : decode M.2.1 pc = .ok (.getfield 24, 3)) (hM : M.1.cls = "TillTheyMeet$Rule") (hK : IsK Γ i 4) (hj : rv i 3 = j) (kk : Rn g l M R Q k n (pc + 3) ls (.ref j :: st) Γ iv rv lv) : Rn g l M R Q k n pc ls (.ref i :: st) Γ iv rv lv := rn_get (ci := 4) (fk := 3) (C := RX4) (T := TX4) (N := 5) hd hK rfl uw_X4 (by decide) (by rw [hM]; exact fl_X4_24) (by subst hj; exact kk)
theorem pf_X4_24 {i j : Nat} (hd : decode M.2.1 pc = .ok (.putfield 24, 3)) (hM : M.1.cls = "TillTheyMeet$Rule") (hI : M.1.name = "<init>") (hK : IsK Γ i 4) (kk : Rn g l M R Q k n (pc + 3) ls st Γ iv (up rv i 3 j) lv) : Rn g l M R Q k n pc ls (.ref j :: .ref i :: st) Γ iv rv lv := rn_put (ci := 4) (fk := 3) (C := RX4) (T := TX4) (N := 5) (ty0 := tyX4) (v := .ref j) hd hK rfl uw_X4 (by decide) (by rw [hM]; exact fl_X4_24) tyX4_ok nmX4 (Or.inr ⟨hI, rfl, by rw [hM]; rfl⟩) (nar_ref rfl) (fit_ref rfl) (fun q => by
    by_cases h : q = 3
    · subst h; rw [if_pos rfl]; show Value.ref (up rv i 3 j i 3) = _; rw [up_same]
    · rw [if_neg h]; exact sv_off rfl (up_ne2 h) rfl) (fun _ _ _ => rfl) (fun j q h => up_ne1 h) (fun _ _ _ => rfl) kk
theorem fl_X5_9 : Cond.fieldLink "TillTheyMeet$Sheet" 9 "TillTheyMeet$Sheet" "items" "[I" ∈ gtb := (gtb_in 465 (by decide +kernel) (by decide +kernel))
theorem gf_X5_9 {i j : Nat} (hd : decode M.2.1 pc = .ok (.getfield 9, 3)) (hM : M.1.cls = "TillTheyMeet$Sheet") (hK : IsK Γ i 5) (hj : rv i 0 = j) (kk : Rn g l M R Q k n (pc + 3) ls (.ref j :: st) Γ iv rv lv) : Rn g l M R Q k n pc ls (.ref i :: st) Γ iv rv lv := rn_get (ci := 5) (fk := 0) (C := RX5) (T := TX5) (N := 3) hd hK rfl uw_X5 (by decide) (by rw [hM]; exact fl_X5_9) (by subst hj; exact kk)
theorem pf_X5_9 {i j : Nat} (hd : decode M.2.1 pc = .ok (.putfield 9, 3)) (hM : M.1.cls = "TillTheyMeet$Sheet") (hI : M.1.name = "<init>") (hK : IsK Γ i 5) (kk : Rn g l M R Q k n (pc + 3) ls st Γ iv (up rv i 0 j) lv) : Rn g l M R Q k n pc ls (.ref j :: .ref i :: st) Γ iv rv lv := rn_put (ci := 5) (fk := 0) (C := RX5) (T := TX5) (N := 3) (ty0 := tyX5) (v := .ref j) hd hK rfl uw_X5 (by decide) (by rw [hM]; exact fl_X5_9) tyX5_ok nmX5 (Or.inr ⟨hI, rfl, by rw [hM]; rfl⟩) (nar_ref rfl) (fit_ref rfl) (fun q => by
    by_cases h : q = 0
    · subst h; rw [if_pos rfl]; show Value.ref (up rv i 0 j i 0) = _; rw [up_same]
    · rw [if_neg h]; exact sv_off rfl (up_ne2 h) rfl) (fun _ _ _ => rfl) (fun j q h => up_ne1 h) (fun _ _ _ => rfl) kk
theorem fl_X5_15 : Cond.fieldLink "TillTheyMeet$Sheet" 15 "TillTheyMeet$Sheet" "sort" "I" ∈ gtb := (gtb_in 467 (by decide +kernel) (by decide +kernel))
theorem gf_X5_15 {i : Nat} (hd : decode M.2.1 pc = .ok (.getfield 15, 3)) (hM : M.1.cls = "TillTheyMeet$Sheet") (hK : IsK Γ i 5) (kk : Rn g l M R Q k n (pc + 3) ls (.int (iv i 1) :: st) Γ iv rv lv) : Rn g l M R Q k n pc ls (.ref i :: st) Γ iv rv lv := rn_get (ci := 5) (fk := 1) (C := RX5) (T := TX5) (N := 3) hd hK rfl uw_X5 (by decide) (by rw [hM]; exact fl_X5_15) kk
theorem pf_X5_15 {i : Nat} {x : Int32} (hd : decode M.2.1 pc = .ok (.putfield 15, 3)) (hM : M.1.cls = "TillTheyMeet$Sheet") (hK : IsK Γ i 5) (kk : Rn g l M R Q k n (pc + 3) ls st Γ (up iv i 1 x) rv lv) : Rn g l M R Q k n pc ls (.int x :: .ref i :: st) Γ iv rv lv := rn_put (ci := 5) (fk := 1) (C := RX5) (T := TX5) (N := 3) (ty0 := tyX5) (v := .int x) hd hK rfl uw_X5 (by decide) (by rw [hM]; exact fl_X5_15) tyX5_ok nmX5 (Or.inl rfl) rfl rfl (fun q => by
    by_cases h : q = 1
    · subst h; rw [if_pos rfl]; show Value.int (up iv i 1 x i 1) = _; rw [up_same]
    · rw [if_neg h]; exact sv_off (up_ne2 h) rfl rfl) (fun j q h => up_ne1 h) (fun _ _ _ => rfl) (fun _ _ _ => rfl) kk
theorem fl_X5_19 : Cond.fieldLink "TillTheyMeet$Sheet" 19 "TillTheyMeet$Sheet" "size" "I" ∈ gtb := (gtb_in 469 (by decide +kernel) (by decide +kernel))
theorem gf_X5_19 {i : Nat} (hd : decode M.2.1 pc = .ok (.getfield 19, 3)) (hM : M.1.cls = "TillTheyMeet$Sheet") (hK : IsK Γ i 5) (kk : Rn g l M R Q k n (pc + 3) ls (.int (iv i 2) :: st) Γ iv rv lv) : Rn g l M R Q k n pc ls (.ref i :: st) Γ iv rv lv := rn_get (ci := 5) (fk := 2) (C := RX5) (T := TX5) (N := 3) hd hK rfl uw_X5 (by decide) (by rw [hM]; exact fl_X5_19) kk
theorem pf_X5_19 {i : Nat} {x : Int32} (hd : decode M.2.1 pc = .ok (.putfield 19, 3)) (hM : M.1.cls = "TillTheyMeet$Sheet") (hK : IsK Γ i 5) (kk : Rn g l M R Q k n (pc + 3) ls st Γ (up iv i 2 x) rv lv) : Rn g l M R Q k n pc ls (.int x :: .ref i :: st) Γ iv rv lv := rn_put (ci := 5) (fk := 2) (C := RX5) (T := TX5) (N := 3) (ty0 := tyX5) (v := .int x) hd hK rfl uw_X5 (by decide) (by rw [hM]; exact fl_X5_19) tyX5_ok nmX5 (Or.inl rfl) rfl rfl (fun q => by
    by_cases h : q = 2
    · subst h; rw [if_pos rfl]; show Value.int (up iv i 2 x i 2) = _; rw [up_same]
    · rw [if_neg h]; exact sv_off (up_ne2 h) rfl rfl) (fun j q h => up_ne1 h) (fun _ _ _ => rfl) (fun _ _ _ => rfl) kk
theorem fl_X7_13 : Cond.fieldLink "TillTheyMeetModel" 13 "TillTheyMeetModel" "texts" "[I" ∈ gtb := (gtb_in 825 (by decide +kernel) (by decide +kernel))
theorem gf_X7_13 {i j : Nat} (hd : decode M.2.1 pc = .ok (.getfield 13, 3)) (hM : M.1.cls = "TillTheyMeetModel") (hK : IsK Γ i 7) (hj : rv i 1 = j) (kk : Rn g l M R Q k n (pc + 3) ls (.ref j :: st) Γ iv rv lv) : Rn g l M R Q k n pc ls (.ref i :: st) Γ iv rv lv := rn_get (ci := 7) (fk := 1) (C := RX7) (T := TX7) (N := 55) hd hK rfl uw_X7 (by decide) (by rw [hM]; exact fl_X7_13) (by subst hj; exact kk)
theorem pf_X7_13 {i j : Nat} (hd : decode M.2.1 pc = .ok (.putfield 13, 3)) (hM : M.1.cls = "TillTheyMeetModel") (hI : M.1.name = "<init>") (hK : IsK Γ i 7) (kk : Rn g l M R Q k n (pc + 3) ls st Γ iv (up rv i 1 j) lv) : Rn g l M R Q k n pc ls (.ref j :: .ref i :: st) Γ iv rv lv := rn_put (ci := 7) (fk := 1) (C := RX7) (T := TX7) (N := 55) (ty0 := tyX7) (v := .ref j) hd hK rfl uw_X7 (by decide) (by rw [hM]; exact fl_X7_13) tyX7_ok nmX7 (Or.inr ⟨hI, rfl, by rw [hM]; rfl⟩) (nar_ref rfl) (fit_ref rfl) (fun q => by
    by_cases h : q = 1
    · subst h; rw [if_pos rfl]; show Value.ref (up rv i 1 j i 1) = _; rw [up_same]
    · rw [if_neg h]; exact sv_off rfl (up_ne2 h) rfl) (fun _ _ _ => rfl) (fun j q h => up_ne1 h) (fun _ _ _ => rfl) kk
theorem fl_X7_17 : Cond.fieldLink "TillTheyMeetModel" 17 "TillTheyMeetModel" "textSize" "[I" ∈ gtb := (gtb_in 826 (by decide +kernel) (by decide +kernel))
theorem gf_X7_17 {i j : Nat} (hd : decode M.2.1 pc = .ok (.getfield 17, 3)) (hM : M.1.cls = "TillTheyMeetModel") (hK : IsK Γ i 7) (hj : rv i 2 = j) (kk : Rn g l M R Q k n (pc + 3) ls (.ref j :: st) Γ iv rv lv) : Rn g l M R Q k n pc ls (.ref i :: st) Γ iv rv lv := rn_get (ci := 7) (fk := 2) (C := RX7) (T := TX7) (N := 55) hd hK rfl uw_X7 (by decide) (by rw [hM]; exact fl_X7_17) (by subst hj; exact kk)
theorem pf_X7_17 {i j : Nat} (hd : decode M.2.1 pc = .ok (.putfield 17, 3)) (hM : M.1.cls = "TillTheyMeetModel") (hI : M.1.name = "<init>") (hK : IsK Γ i 7) (kk : Rn g l M R Q k n (pc + 3) ls st Γ iv (up rv i 2 j) lv) : Rn g l M R Q k n pc ls (.ref j :: .ref i :: st) Γ iv rv lv := rn_put (ci := 7) (fk := 2) (C := RX7) (T := TX7) (N := 55) (ty0 := tyX7) (v := .ref j) hd hK rfl uw_X7 (by decide) (by rw [hM]; exact fl_X7_17) tyX7_ok nmX7 (Or.inr ⟨hI, rfl, by rw [hM]; rfl⟩) (nar_ref rfl) (fit_ref rfl) (fun q => by
    by_cases h : q = 2
    · subst h; rw [if_pos rfl]; show Value.ref (up rv i 2 j i 2) = _; rw [up_same]
    · rw [if_neg h]; exact sv_off rfl (up_ne2 h) rfl) (fun _ _ _ => rfl) (fun j q h => up_ne1 h) (fun _ _ _ => rfl) kk
theorem fl_X7_20 : Cond.fieldLink "TillTheyMeetModel" 20 "TillTheyMeetModel" "tape" "[I" ∈ gtb := (gtb_in 829 (by decide +kernel) (by decide +kernel))
theorem gf_X7_20 {i j : Nat} (hd : decode M.2.1 pc = .ok (.getfield 20, 3)) (hM : M.1.cls = "TillTheyMeetModel") (hK : IsK Γ i 7) (hj : rv i 5 = j) (kk : Rn g l M R Q k n (pc + 3) ls (.ref j :: st) Γ iv rv lv) : Rn g l M R Q k n pc ls (.ref i :: st) Γ iv rv lv := rn_get (ci := 7) (fk := 5) (C := RX7) (T := TX7) (N := 55) hd hK rfl uw_X7 (by decide) (by rw [hM]; exact fl_X7_20) (by subst hj; exact kk)
theorem pf_X7_20 {i j : Nat} (hd : decode M.2.1 pc = .ok (.putfield 20, 3)) (hM : M.1.cls = "TillTheyMeetModel") (hI : M.1.name = "<init>") (hK : IsK Γ i 7) (kk : Rn g l M R Q k n (pc + 3) ls st Γ iv (up rv i 5 j) lv) : Rn g l M R Q k n pc ls (.ref j :: .ref i :: st) Γ iv rv lv := rn_put (ci := 7) (fk := 5) (C := RX7) (T := TX7) (N := 55) (ty0 := tyX7) (v := .ref j) hd hK rfl uw_X7 (by decide) (by rw [hM]; exact fl_X7_20) tyX7_ok nmX7 (Or.inr ⟨hI, rfl, by rw [hM]; rfl⟩) (nar_ref rfl) (fit_ref rfl) (fun q => by
    by_cases h : q = 5
    · subst h; rw [if_pos rfl]; show Value.ref (up rv i 5 j i 5) = _; rw [up_same]
    · rw [if_neg h]; exact sv_off rfl (up_ne2 h) rfl) (fun _ _ _ => rfl) (fun j q h => up_ne1 h) (fun _ _ _ => rfl) kk
theorem fl_X7_23 : Cond.fieldLink "TillTheyMeetModel" 23 "TillTheyMeetModel" "grounds" "[I" ∈ gtb := (gtb_in 831 (by decide +kernel) (by decide +kernel))
theorem gf_X7_23 {i j : Nat} (hd : decode M.2.1 pc = .ok (.getfield 23, 3)) (hM : M.1.cls = "TillTheyMeetModel") (hK : IsK Γ i 7) (hj : rv i 7 = j) (kk : Rn g l M R Q k n (pc + 3) ls (.ref j :: st) Γ iv rv lv) : Rn g l M R Q k n pc ls (.ref i :: st) Γ iv rv lv := rn_get (ci := 7) (fk := 7) (C := RX7) (T := TX7) (N := 55) hd hK rfl uw_X7 (by decide) (by rw [hM]; exact fl_X7_23) (by subst hj; exact kk)
theorem pf_X7_23 {i j : Nat} (hd : decode M.2.1 pc = .ok (.putfield 23, 3)) (hM : M.1.cls = "TillTheyMeetModel") (hI : M.1.name = "<init>") (hK : IsK Γ i 7) (kk : Rn g l M R Q k n (pc + 3) ls st Γ iv (up rv i 7 j) lv) : Rn g l M R Q k n pc ls (.ref j :: .ref i :: st) Γ iv rv lv := rn_put (ci := 7) (fk := 7) (C := RX7) (T := TX7) (N := 55) (ty0 := tyX7) (v := .ref j) hd hK rfl uw_X7 (by decide) (by rw [hM]; exact fl_X7_23) tyX7_ok nmX7 (Or.inr ⟨hI, rfl, by rw [hM]; rfl⟩) (nar_ref rfl) (fit_ref rfl) (fun q => by
    by_cases h : q = 7
    · subst h; rw [if_pos rfl]; show Value.ref (up rv i 7 j i 7) = _; rw [up_same]
    · rw [if_neg h]; exact sv_off rfl (up_ne2 h) rfl) (fun _ _ _ => rfl) (fun j q h => up_ne1 h) (fun _ _ _ => rfl) kk
theorem fl_X7_26 : Cond.fieldLink "TillTheyMeetModel" 26 "TillTheyMeetModel" "known" "[I" ∈ gtb := (gtb_in 832 (by decide +kernel) (by decide +kernel))
theorem gf_X7_26 {i j : Nat} (hd : decode M.2.1 pc = .ok (.getfield 26, 3)) (hM : M.1.cls = "TillTheyMeetModel") (hK : IsK Γ i 7) (hj : rv i 8 = j) (kk : Rn g l M R Q k n (pc + 3) ls (.ref j :: st) Γ iv rv lv) : Rn g l M R Q k n pc ls (.ref i :: st) Γ iv rv lv := rn_get (ci := 7) (fk := 8) (C := RX7) (T := TX7) (N := 55) hd hK rfl uw_X7 (by decide) (by rw [hM]; exact fl_X7_26) (by subst hj; exact kk)
theorem pf_X7_26 {i j : Nat} (hd : decode M.2.1 pc = .ok (.putfield 26, 3)) (hM : M.1.cls = "TillTheyMeetModel") (hI : M.1.name = "<init>") (hK : IsK Γ i 7) (kk : Rn g l M R Q k n (pc + 3) ls st Γ iv (up rv i 8 j) lv) : Rn g l M R Q k n pc ls (.ref j :: .ref i :: st) Γ iv rv lv := rn_put (ci := 7) (fk := 8) (C := RX7) (T := TX7) (N := 55) (ty0 := tyX7) (v := .ref j) hd hK rfl uw_X7 (by decide) (by rw [hM]; exact fl_X7_26) tyX7_ok nmX7 (Or.inr ⟨hI, rfl, by rw [hM]; rfl⟩) (nar_ref rfl) (fit_ref rfl) (fun q => by
    by_cases h : q = 8
    · subst h; rw [if_pos rfl]; show Value.ref (up rv i 8 j i 8) = _; rw [up_same]
    · rw [if_neg h]; exact sv_off rfl (up_ne2 h) rfl) (fun _ _ _ => rfl) (fun j q h => up_ne1 h) (fun _ _ _ => rfl) kk
theorem fl_X7_29 : Cond.fieldLink "TillTheyMeetModel" 29 "TillTheyMeetModel" "kinds" "[I" ∈ gtb := (gtb_in 833 (by decide +kernel) (by decide +kernel))
theorem gf_X7_29 {i j : Nat} (hd : decode M.2.1 pc = .ok (.getfield 29, 3)) (hM : M.1.cls = "TillTheyMeetModel") (hK : IsK Γ i 7) (hj : rv i 9 = j) (kk : Rn g l M R Q k n (pc + 3) ls (.ref j :: st) Γ iv rv lv) : Rn g l M R Q k n pc ls (.ref i :: st) Γ iv rv lv := rn_get (ci := 7) (fk := 9) (C := RX7) (T := TX7) (N := 55) hd hK rfl uw_X7 (by decide) (by rw [hM]; exact fl_X7_29) (by subst hj; exact kk)
theorem pf_X7_29 {i j : Nat} (hd : decode M.2.1 pc = .ok (.putfield 29, 3)) (hM : M.1.cls = "TillTheyMeetModel") (hI : M.1.name = "<init>") (hK : IsK Γ i 7) (kk : Rn g l M R Q k n (pc + 3) ls st Γ iv (up rv i 9 j) lv) : Rn g l M R Q k n pc ls (.ref j :: .ref i :: st) Γ iv rv lv := rn_put (ci := 7) (fk := 9) (C := RX7) (T := TX7) (N := 55) (ty0 := tyX7) (v := .ref j) hd hK rfl uw_X7 (by decide) (by rw [hM]; exact fl_X7_29) tyX7_ok nmX7 (Or.inr ⟨hI, rfl, by rw [hM]; rfl⟩) (nar_ref rfl) (fit_ref rfl) (fun q => by
    by_cases h : q = 9
    · subst h; rw [if_pos rfl]; show Value.ref (up rv i 9 j i 9) = _; rw [up_same]
    · rw [if_neg h]; exact sv_off rfl (up_ne2 h) rfl) (fun _ _ _ => rfl) (fun j q h => up_ne1 h) (fun _ _ _ => rfl) kk
theorem fl_X7_32 : Cond.fieldLink "TillTheyMeetModel" 32 "TillTheyMeetModel" "numbers" "[I" ∈ gtb := (gtb_in 834 (by decide +kernel) (by decide +kernel))
theorem gf_X7_32 {i j : Nat} (hd : decode M.2.1 pc = .ok (.getfield 32, 3)) (hM : M.1.cls = "TillTheyMeetModel") (hK : IsK Γ i 7) (hj : rv i 10 = j) (kk : Rn g l M R Q k n (pc + 3) ls (.ref j :: st) Γ iv rv lv) : Rn g l M R Q k n pc ls (.ref i :: st) Γ iv rv lv := rn_get (ci := 7) (fk := 10) (C := RX7) (T := TX7) (N := 55) hd hK rfl uw_X7 (by decide) (by rw [hM]; exact fl_X7_32) (by subst hj; exact kk)
theorem pf_X7_32 {i j : Nat} (hd : decode M.2.1 pc = .ok (.putfield 32, 3)) (hM : M.1.cls = "TillTheyMeetModel") (hI : M.1.name = "<init>") (hK : IsK Γ i 7) (kk : Rn g l M R Q k n (pc + 3) ls st Γ iv (up rv i 10 j) lv) : Rn g l M R Q k n pc ls (.ref j :: .ref i :: st) Γ iv rv lv := rn_put (ci := 7) (fk := 10) (C := RX7) (T := TX7) (N := 55) (ty0 := tyX7) (v := .ref j) hd hK rfl uw_X7 (by decide) (by rw [hM]; exact fl_X7_32) tyX7_ok nmX7 (Or.inr ⟨hI, rfl, by rw [hM]; rfl⟩) (nar_ref rfl) (fit_ref rfl) (fun q => by
    by_cases h : q = 10
    · subst h; rw [if_pos rfl]; show Value.ref (up rv i 10 j i 10) = _; rw [up_same]
    · rw [if_neg h]; exact sv_off rfl (up_ne2 h) rfl) (fun _ _ _ => rfl) (fun j q h => up_ne1 h) (fun _ _ _ => rfl) kk
theorem fl_X7_35 : Cond.fieldLink "TillTheyMeetModel" 35 "TillTheyMeetModel" "men" "[I" ∈ gtb := (gtb_in 835 (by decide +kernel) (by decide +kernel))
theorem gf_X7_35 {i j : Nat} (hd : decode M.2.1 pc = .ok (.getfield 35, 3)) (hM : M.1.cls = "TillTheyMeetModel") (hK : IsK Γ i 7) (hj : rv i 11 = j) (kk : Rn g l M R Q k n (pc + 3) ls (.ref j :: st) Γ iv rv lv) : Rn g l M R Q k n pc ls (.ref i :: st) Γ iv rv lv := rn_get (ci := 7) (fk := 11) (C := RX7) (T := TX7) (N := 55) hd hK rfl uw_X7 (by decide) (by rw [hM]; exact fl_X7_35) (by subst hj; exact kk)
theorem pf_X7_35 {i j : Nat} (hd : decode M.2.1 pc = .ok (.putfield 35, 3)) (hM : M.1.cls = "TillTheyMeetModel") (hI : M.1.name = "<init>") (hK : IsK Γ i 7) (kk : Rn g l M R Q k n (pc + 3) ls st Γ iv (up rv i 11 j) lv) : Rn g l M R Q k n pc ls (.ref j :: .ref i :: st) Γ iv rv lv := rn_put (ci := 7) (fk := 11) (C := RX7) (T := TX7) (N := 55) (ty0 := tyX7) (v := .ref j) hd hK rfl uw_X7 (by decide) (by rw [hM]; exact fl_X7_35) tyX7_ok nmX7 (Or.inr ⟨hI, rfl, by rw [hM]; rfl⟩) (nar_ref rfl) (fit_ref rfl) (fun q => by
    by_cases h : q = 11
    · subst h; rw [if_pos rfl]; show Value.ref (up rv i 11 j i 11) = _; rw [up_same]
    · rw [if_neg h]; exact sv_off rfl (up_ne2 h) rfl) (fun _ _ _ => rfl) (fun j q h => up_ne1 h) (fun _ _ _ => rfl) kk
theorem fl_X7_38 : Cond.fieldLink "TillTheyMeetModel" 38 "TillTheyMeetModel" "dones" "[I" ∈ gtb := (gtb_in 836 (by decide +kernel) (by decide +kernel))
theorem gf_X7_38 {i j : Nat} (hd : decode M.2.1 pc = .ok (.getfield 38, 3)) (hM : M.1.cls = "TillTheyMeetModel") (hK : IsK Γ i 7) (hj : rv i 12 = j) (kk : Rn g l M R Q k n (pc + 3) ls (.ref j :: st) Γ iv rv lv) : Rn g l M R Q k n pc ls (.ref i :: st) Γ iv rv lv := rn_get (ci := 7) (fk := 12) (C := RX7) (T := TX7) (N := 55) hd hK rfl uw_X7 (by decide) (by rw [hM]; exact fl_X7_38) (by subst hj; exact kk)
theorem pf_X7_38 {i j : Nat} (hd : decode M.2.1 pc = .ok (.putfield 38, 3)) (hM : M.1.cls = "TillTheyMeetModel") (hI : M.1.name = "<init>") (hK : IsK Γ i 7) (kk : Rn g l M R Q k n (pc + 3) ls st Γ iv (up rv i 12 j) lv) : Rn g l M R Q k n pc ls (.ref j :: .ref i :: st) Γ iv rv lv := rn_put (ci := 7) (fk := 12) (C := RX7) (T := TX7) (N := 55) (ty0 := tyX7) (v := .ref j) hd hK rfl uw_X7 (by decide) (by rw [hM]; exact fl_X7_38) tyX7_ok nmX7 (Or.inr ⟨hI, rfl, by rw [hM]; rfl⟩) (nar_ref rfl) (fit_ref rfl) (fun q => by
    by_cases h : q = 12
    · subst h; rw [if_pos rfl]; show Value.ref (up rv i 12 j i 12) = _; rw [up_same]
    · rw [if_neg h]; exact sv_off rfl (up_ne2 h) rfl) (fun _ _ _ => rfl) (fun j q h => up_ne1 h) (fun _ _ _ => rfl) kk
theorem fl_X7_41 : Cond.fieldLink "TillTheyMeetModel" 41 "TillTheyMeetModel" "work" "[I" ∈ gtb := (gtb_in 837 (by decide +kernel) (by decide +kernel))
theorem gf_X7_41 {i j : Nat} (hd : decode M.2.1 pc = .ok (.getfield 41, 3)) (hM : M.1.cls = "TillTheyMeetModel") (hK : IsK Γ i 7) (hj : rv i 13 = j) (kk : Rn g l M R Q k n (pc + 3) ls (.ref j :: st) Γ iv rv lv) : Rn g l M R Q k n pc ls (.ref i :: st) Γ iv rv lv := rn_get (ci := 7) (fk := 13) (C := RX7) (T := TX7) (N := 55) hd hK rfl uw_X7 (by decide) (by rw [hM]; exact fl_X7_41) (by subst hj; exact kk)
theorem pf_X7_41 {i j : Nat} (hd : decode M.2.1 pc = .ok (.putfield 41, 3)) (hM : M.1.cls = "TillTheyMeetModel") (hI : M.1.name = "<init>") (hK : IsK Γ i 7) (kk : Rn g l M R Q k n (pc + 3) ls st Γ iv (up rv i 13 j) lv) : Rn g l M R Q k n pc ls (.ref j :: .ref i :: st) Γ iv rv lv := rn_put (ci := 7) (fk := 13) (C := RX7) (T := TX7) (N := 55) (ty0 := tyX7) (v := .ref j) hd hK rfl uw_X7 (by decide) (by rw [hM]; exact fl_X7_41) tyX7_ok nmX7 (Or.inr ⟨hI, rfl, by rw [hM]; rfl⟩) (nar_ref rfl) (fit_ref rfl) (fun q => by
    by_cases h : q = 13
    · subst h; rw [if_pos rfl]; show Value.ref (up rv i 13 j i 13) = _; rw [up_same]
    · rw [if_neg h]; exact sv_off rfl (up_ne2 h) rfl) (fun _ _ _ => rfl) (fun j q h => up_ne1 h) (fun _ _ _ => rfl) kk
theorem fl_X7_44 : Cond.fieldLink "TillTheyMeetModel" 44 "TillTheyMeetModel" "earned" "[I" ∈ gtb := (gtb_in 838 (by decide +kernel) (by decide +kernel))
theorem gf_X7_44 {i j : Nat} (hd : decode M.2.1 pc = .ok (.getfield 44, 3)) (hM : M.1.cls = "TillTheyMeetModel") (hK : IsK Γ i 7) (hj : rv i 14 = j) (kk : Rn g l M R Q k n (pc + 3) ls (.ref j :: st) Γ iv rv lv) : Rn g l M R Q k n pc ls (.ref i :: st) Γ iv rv lv := rn_get (ci := 7) (fk := 14) (C := RX7) (T := TX7) (N := 55) hd hK rfl uw_X7 (by decide) (by rw [hM]; exact fl_X7_44) (by subst hj; exact kk)
theorem pf_X7_44 {i j : Nat} (hd : decode M.2.1 pc = .ok (.putfield 44, 3)) (hM : M.1.cls = "TillTheyMeetModel") (hI : M.1.name = "<init>") (hK : IsK Γ i 7) (kk : Rn g l M R Q k n (pc + 3) ls st Γ iv (up rv i 14 j) lv) : Rn g l M R Q k n pc ls (.ref j :: .ref i :: st) Γ iv rv lv := rn_put (ci := 7) (fk := 14) (C := RX7) (T := TX7) (N := 55) (ty0 := tyX7) (v := .ref j) hd hK rfl uw_X7 (by decide) (by rw [hM]; exact fl_X7_44) tyX7_ok nmX7 (Or.inr ⟨hI, rfl, by rw [hM]; rfl⟩) (nar_ref rfl) (fit_ref rfl) (fun q => by
    by_cases h : q = 14
    · subst h; rw [if_pos rfl]; show Value.ref (up rv i 14 j i 14) = _; rw [up_same]
    · rw [if_neg h]; exact sv_off rfl (up_ne2 h) rfl) (fun _ _ _ => rfl) (fun j q h => up_ne1 h) (fun _ _ _ => rfl) kk
theorem fl_X7_47 : Cond.fieldLink "TillTheyMeetModel" 47 "TillTheyMeetModel" "spent" "[I" ∈ gtb := (gtb_in 839 (by decide +kernel) (by decide +kernel))
theorem gf_X7_47 {i j : Nat} (hd : decode M.2.1 pc = .ok (.getfield 47, 3)) (hM : M.1.cls = "TillTheyMeetModel") (hK : IsK Γ i 7) (hj : rv i 15 = j) (kk : Rn g l M R Q k n (pc + 3) ls (.ref j :: st) Γ iv rv lv) : Rn g l M R Q k n pc ls (.ref i :: st) Γ iv rv lv := rn_get (ci := 7) (fk := 15) (C := RX7) (T := TX7) (N := 55) hd hK rfl uw_X7 (by decide) (by rw [hM]; exact fl_X7_47) (by subst hj; exact kk)
theorem pf_X7_47 {i j : Nat} (hd : decode M.2.1 pc = .ok (.putfield 47, 3)) (hM : M.1.cls = "TillTheyMeetModel") (hI : M.1.name = "<init>") (hK : IsK Γ i 7) (kk : Rn g l M R Q k n (pc + 3) ls st Γ iv (up rv i 15 j) lv) : Rn g l M R Q k n pc ls (.ref j :: .ref i :: st) Γ iv rv lv := rn_put (ci := 7) (fk := 15) (C := RX7) (T := TX7) (N := 55) (ty0 := tyX7) (v := .ref j) hd hK rfl uw_X7 (by decide) (by rw [hM]; exact fl_X7_47) tyX7_ok nmX7 (Or.inr ⟨hI, rfl, by rw [hM]; rfl⟩) (nar_ref rfl) (fit_ref rfl) (fun q => by
    by_cases h : q = 15
    · subst h; rw [if_pos rfl]; show Value.ref (up rv i 15 j i 15) = _; rw [up_same]
    · rw [if_neg h]; exact sv_off rfl (up_ne2 h) rfl) (fun _ _ _ => rfl) (fun j q h => up_ne1 h) (fun _ _ _ => rfl) kk
theorem fl_X7_50 : Cond.fieldLink "TillTheyMeetModel" 50 "TillTheyMeetModel" "payYard" "I" ∈ gtb := (gtb_in 841 (by decide +kernel) (by decide +kernel))
theorem gf_X7_50 {i : Nat} (hd : decode M.2.1 pc = .ok (.getfield 50, 3)) (hM : M.1.cls = "TillTheyMeetModel") (hK : IsK Γ i 7) (kk : Rn g l M R Q k n (pc + 3) ls (.int (iv i 17) :: st) Γ iv rv lv) : Rn g l M R Q k n pc ls (.ref i :: st) Γ iv rv lv := rn_get (ci := 7) (fk := 17) (C := RX7) (T := TX7) (N := 55) hd hK rfl uw_X7 (by decide) (by rw [hM]; exact fl_X7_50) kk
theorem pf_X7_50 {i : Nat} {x : Int32} (hd : decode M.2.1 pc = .ok (.putfield 50, 3)) (hM : M.1.cls = "TillTheyMeetModel") (hK : IsK Γ i 7) (kk : Rn g l M R Q k n (pc + 3) ls st Γ (up iv i 17 x) rv lv) : Rn g l M R Q k n pc ls (.int x :: .ref i :: st) Γ iv rv lv := rn_put (ci := 7) (fk := 17) (C := RX7) (T := TX7) (N := 55) (ty0 := tyX7) (v := .int x) hd hK rfl uw_X7 (by decide) (by rw [hM]; exact fl_X7_50) tyX7_ok nmX7 (Or.inl rfl) rfl rfl (fun q => by
    by_cases h : q = 17
    · subst h; rw [if_pos rfl]; show Value.int (up iv i 17 x i 17) = _; rw [up_same]
    · rw [if_neg h]; exact sv_off (up_ne2 h) rfl rfl) (fun j q h => up_ne1 h) (fun _ _ _ => rfl) (fun _ _ _ => rfl) kk
theorem fl_X7_53 : Cond.fieldLink "TillTheyMeetModel" 53 "TillTheyMeetModel" "wage" "I" ∈ gtb := (gtb_in 843 (by decide +kernel) (by decide +kernel))
theorem gf_X7_53 {i : Nat} (hd : decode M.2.1 pc = .ok (.getfield 53, 3)) (hM : M.1.cls = "TillTheyMeetModel") (hK : IsK Γ i 7) (kk : Rn g l M R Q k n (pc + 3) ls (.int (iv i 19) :: st) Γ iv rv lv) : Rn g l M R Q k n pc ls (.ref i :: st) Γ iv rv lv := rn_get (ci := 7) (fk := 19) (C := RX7) (T := TX7) (N := 55) hd hK rfl uw_X7 (by decide) (by rw [hM]; exact fl_X7_53) kk
theorem pf_X7_53 {i : Nat} {x : Int32} (hd : decode M.2.1 pc = .ok (.putfield 53, 3)) (hM : M.1.cls = "TillTheyMeetModel") (hK : IsK Γ i 7) (kk : Rn g l M R Q k n (pc + 3) ls st Γ (up iv i 19 x) rv lv) : Rn g l M R Q k n pc ls (.int x :: .ref i :: st) Γ iv rv lv := rn_put (ci := 7) (fk := 19) (C := RX7) (T := TX7) (N := 55) (ty0 := tyX7) (v := .int x) hd hK rfl uw_X7 (by decide) (by rw [hM]; exact fl_X7_53) tyX7_ok nmX7 (Or.inl rfl) rfl rfl (fun q => by
    by_cases h : q = 19
    · subst h; rw [if_pos rfl]; show Value.int (up iv i 19 x i 19) = _; rw [up_same]
    · rw [if_neg h]; exact sv_off (up_ne2 h) rfl rfl) (fun j q h => up_ne1 h) (fun _ _ _ => rfl) (fun _ _ _ => rfl) kk
theorem fl_X7_56 : Cond.fieldLink "TillTheyMeetModel" 56 "TillTheyMeetModel" "groundsWas" "[I" ∈ gtb := (gtb_in 859 (by decide +kernel) (by decide +kernel))
theorem gf_X7_56 {i j : Nat} (hd : decode M.2.1 pc = .ok (.getfield 56, 3)) (hM : M.1.cls = "TillTheyMeetModel") (hK : IsK Γ i 7) (hj : rv i 35 = j) (kk : Rn g l M R Q k n (pc + 3) ls (.ref j :: st) Γ iv rv lv) : Rn g l M R Q k n pc ls (.ref i :: st) Γ iv rv lv := rn_get (ci := 7) (fk := 35) (C := RX7) (T := TX7) (N := 55) hd hK rfl uw_X7 (by decide) (by rw [hM]; exact fl_X7_56) (by subst hj; exact kk)
theorem pf_X7_56 {i j : Nat} (hd : decode M.2.1 pc = .ok (.putfield 56, 3)) (hM : M.1.cls = "TillTheyMeetModel") (hI : M.1.name = "<init>") (hK : IsK Γ i 7) (kk : Rn g l M R Q k n (pc + 3) ls st Γ iv (up rv i 35 j) lv) : Rn g l M R Q k n pc ls (.ref j :: .ref i :: st) Γ iv rv lv := rn_put (ci := 7) (fk := 35) (C := RX7) (T := TX7) (N := 55) (ty0 := tyX7) (v := .ref j) hd hK rfl uw_X7 (by decide) (by rw [hM]; exact fl_X7_56) tyX7_ok nmX7 (Or.inr ⟨hI, rfl, by rw [hM]; rfl⟩) (nar_ref rfl) (fit_ref rfl) (fun q => by
    by_cases h : q = 35
    · subst h; rw [if_pos rfl]; show Value.ref (up rv i 35 j i 35) = _; rw [up_same]
    · rw [if_neg h]; exact sv_off rfl (up_ne2 h) rfl) (fun _ _ _ => rfl) (fun j q h => up_ne1 h) (fun _ _ _ => rfl) kk
theorem fl_X7_59 : Cond.fieldLink "TillTheyMeetModel" 59 "TillTheyMeetModel" "knownWas" "[I" ∈ gtb := (gtb_in 860 (by decide +kernel) (by decide +kernel))
theorem gf_X7_59 {i j : Nat} (hd : decode M.2.1 pc = .ok (.getfield 59, 3)) (hM : M.1.cls = "TillTheyMeetModel") (hK : IsK Γ i 7) (hj : rv i 36 = j) (kk : Rn g l M R Q k n (pc + 3) ls (.ref j :: st) Γ iv rv lv) : Rn g l M R Q k n pc ls (.ref i :: st) Γ iv rv lv := rn_get (ci := 7) (fk := 36) (C := RX7) (T := TX7) (N := 55) hd hK rfl uw_X7 (by decide) (by rw [hM]; exact fl_X7_59) (by subst hj; exact kk)
theorem pf_X7_59 {i j : Nat} (hd : decode M.2.1 pc = .ok (.putfield 59, 3)) (hM : M.1.cls = "TillTheyMeetModel") (hI : M.1.name = "<init>") (hK : IsK Γ i 7) (kk : Rn g l M R Q k n (pc + 3) ls st Γ iv (up rv i 36 j) lv) : Rn g l M R Q k n pc ls (.ref j :: .ref i :: st) Γ iv rv lv := rn_put (ci := 7) (fk := 36) (C := RX7) (T := TX7) (N := 55) (ty0 := tyX7) (v := .ref j) hd hK rfl uw_X7 (by decide) (by rw [hM]; exact fl_X7_59) tyX7_ok nmX7 (Or.inr ⟨hI, rfl, by rw [hM]; rfl⟩) (nar_ref rfl) (fit_ref rfl) (fun q => by
    by_cases h : q = 36
    · subst h; rw [if_pos rfl]; show Value.ref (up rv i 36 j i 36) = _; rw [up_same]
    · rw [if_neg h]; exact sv_off rfl (up_ne2 h) rfl) (fun _ _ _ => rfl) (fun j q h => up_ne1 h) (fun _ _ _ => rfl) kk
theorem fl_X7_62 : Cond.fieldLink "TillTheyMeetModel" 62 "TillTheyMeetModel" "gangsWas" "[I" ∈ gtb := (gtb_in 861 (by decide +kernel) (by decide +kernel))
theorem gf_X7_62 {i j : Nat} (hd : decode M.2.1 pc = .ok (.getfield 62, 3)) (hM : M.1.cls = "TillTheyMeetModel") (hK : IsK Γ i 7) (hj : rv i 37 = j) (kk : Rn g l M R Q k n (pc + 3) ls (.ref j :: st) Γ iv rv lv) : Rn g l M R Q k n pc ls (.ref i :: st) Γ iv rv lv := rn_get (ci := 7) (fk := 37) (C := RX7) (T := TX7) (N := 55) hd hK rfl uw_X7 (by decide) (by rw [hM]; exact fl_X7_62) (by subst hj; exact kk)
theorem pf_X7_62 {i j : Nat} (hd : decode M.2.1 pc = .ok (.putfield 62, 3)) (hM : M.1.cls = "TillTheyMeetModel") (hI : M.1.name = "<init>") (hK : IsK Γ i 7) (kk : Rn g l M R Q k n (pc + 3) ls st Γ iv (up rv i 37 j) lv) : Rn g l M R Q k n pc ls (.ref j :: .ref i :: st) Γ iv rv lv := rn_put (ci := 7) (fk := 37) (C := RX7) (T := TX7) (N := 55) (ty0 := tyX7) (v := .ref j) hd hK rfl uw_X7 (by decide) (by rw [hM]; exact fl_X7_62) tyX7_ok nmX7 (Or.inr ⟨hI, rfl, by rw [hM]; rfl⟩) (nar_ref rfl) (fit_ref rfl) (fun q => by
    by_cases h : q = 37
    · subst h; rw [if_pos rfl]; show Value.ref (up rv i 37 j i 37) = _; rw [up_same]
    · rw [if_neg h]; exact sv_off rfl (up_ne2 h) rfl) (fun _ _ _ => rfl) (fun j q h => up_ne1 h) (fun _ _ _ => rfl) kk
theorem fl_X7_65 : Cond.fieldLink "TillTheyMeetModel" 65 "TillTheyMeetModel" "groundsKept" "[I" ∈ gtb := (gtb_in 866 (by decide +kernel) (by decide +kernel))
theorem gf_X7_65 {i j : Nat} (hd : decode M.2.1 pc = .ok (.getfield 65, 3)) (hM : M.1.cls = "TillTheyMeetModel") (hK : IsK Γ i 7) (hj : rv i 42 = j) (kk : Rn g l M R Q k n (pc + 3) ls (.ref j :: st) Γ iv rv lv) : Rn g l M R Q k n pc ls (.ref i :: st) Γ iv rv lv := rn_get (ci := 7) (fk := 42) (C := RX7) (T := TX7) (N := 55) hd hK rfl uw_X7 (by decide) (by rw [hM]; exact fl_X7_65) (by subst hj; exact kk)
theorem pf_X7_65 {i j : Nat} (hd : decode M.2.1 pc = .ok (.putfield 65, 3)) (hM : M.1.cls = "TillTheyMeetModel") (hI : M.1.name = "<init>") (hK : IsK Γ i 7) (kk : Rn g l M R Q k n (pc + 3) ls st Γ iv (up rv i 42 j) lv) : Rn g l M R Q k n pc ls (.ref j :: .ref i :: st) Γ iv rv lv := rn_put (ci := 7) (fk := 42) (C := RX7) (T := TX7) (N := 55) (ty0 := tyX7) (v := .ref j) hd hK rfl uw_X7 (by decide) (by rw [hM]; exact fl_X7_65) tyX7_ok nmX7 (Or.inr ⟨hI, rfl, by rw [hM]; rfl⟩) (nar_ref rfl) (fit_ref rfl) (fun q => by
    by_cases h : q = 42
    · subst h; rw [if_pos rfl]; show Value.ref (up rv i 42 j i 42) = _; rw [up_same]
    · rw [if_neg h]; exact sv_off rfl (up_ne2 h) rfl) (fun _ _ _ => rfl) (fun j q h => up_ne1 h) (fun _ _ _ => rfl) kk
theorem fl_X7_68 : Cond.fieldLink "TillTheyMeetModel" 68 "TillTheyMeetModel" "knownKept" "[I" ∈ gtb := (gtb_in 867 (by decide +kernel) (by decide +kernel))
theorem gf_X7_68 {i j : Nat} (hd : decode M.2.1 pc = .ok (.getfield 68, 3)) (hM : M.1.cls = "TillTheyMeetModel") (hK : IsK Γ i 7) (hj : rv i 43 = j) (kk : Rn g l M R Q k n (pc + 3) ls (.ref j :: st) Γ iv rv lv) : Rn g l M R Q k n pc ls (.ref i :: st) Γ iv rv lv := rn_get (ci := 7) (fk := 43) (C := RX7) (T := TX7) (N := 55) hd hK rfl uw_X7 (by decide) (by rw [hM]; exact fl_X7_68) (by subst hj; exact kk)
theorem pf_X7_68 {i j : Nat} (hd : decode M.2.1 pc = .ok (.putfield 68, 3)) (hM : M.1.cls = "TillTheyMeetModel") (hI : M.1.name = "<init>") (hK : IsK Γ i 7) (kk : Rn g l M R Q k n (pc + 3) ls st Γ iv (up rv i 43 j) lv) : Rn g l M R Q k n pc ls (.ref j :: .ref i :: st) Γ iv rv lv := rn_put (ci := 7) (fk := 43) (C := RX7) (T := TX7) (N := 55) (ty0 := tyX7) (v := .ref j) hd hK rfl uw_X7 (by decide) (by rw [hM]; exact fl_X7_68) tyX7_ok nmX7 (Or.inr ⟨hI, rfl, by rw [hM]; rfl⟩) (nar_ref rfl) (fit_ref rfl) (fun q => by
    by_cases h : q = 43
    · subst h; rw [if_pos rfl]; show Value.ref (up rv i 43 j i 43) = _; rw [up_same]
    · rw [if_neg h]; exact sv_off rfl (up_ne2 h) rfl) (fun _ _ _ => rfl) (fun j q h => up_ne1 h) (fun _ _ _ => rfl) kk
theorem fl_X7_71 : Cond.fieldLink "TillTheyMeetModel" 71 "TillTheyMeetModel" "gangsKept" "[I" ∈ gtb := (gtb_in 868 (by decide +kernel) (by decide +kernel))
theorem gf_X7_71 {i j : Nat} (hd : decode M.2.1 pc = .ok (.getfield 71, 3)) (hM : M.1.cls = "TillTheyMeetModel") (hK : IsK Γ i 7) (hj : rv i 44 = j) (kk : Rn g l M R Q k n (pc + 3) ls (.ref j :: st) Γ iv rv lv) : Rn g l M R Q k n pc ls (.ref i :: st) Γ iv rv lv := rn_get (ci := 7) (fk := 44) (C := RX7) (T := TX7) (N := 55) hd hK rfl uw_X7 (by decide) (by rw [hM]; exact fl_X7_71) (by subst hj; exact kk)
theorem pf_X7_71 {i j : Nat} (hd : decode M.2.1 pc = .ok (.putfield 71, 3)) (hM : M.1.cls = "TillTheyMeetModel") (hI : M.1.name = "<init>") (hK : IsK Γ i 7) (kk : Rn g l M R Q k n (pc + 3) ls st Γ iv (up rv i 44 j) lv) : Rn g l M R Q k n pc ls (.ref j :: .ref i :: st) Γ iv rv lv := rn_put (ci := 7) (fk := 44) (C := RX7) (T := TX7) (N := 55) (ty0 := tyX7) (v := .ref j) hd hK rfl uw_X7 (by decide) (by rw [hM]; exact fl_X7_71) tyX7_ok nmX7 (Or.inr ⟨hI, rfl, by rw [hM]; rfl⟩) (nar_ref rfl) (fit_ref rfl) (fun q => by
    by_cases h : q = 44
    · subst h; rw [if_pos rfl]; show Value.ref (up rv i 44 j i 44) = _; rw [up_same]
    · rw [if_neg h]; exact sv_off rfl (up_ne2 h) rfl) (fun _ _ _ => rfl) (fun j q h => up_ne1 h) (fun _ _ _ => rfl) kk
theorem fl_X7_74 : Cond.fieldLink "TillTheyMeetModel" 74 "TillTheyMeetModel" "isThere" "[Z" ∈ gtb := (gtb_in 875 (by decide +kernel) (by decide +kernel))
theorem gf_X7_74 {i j : Nat} (hd : decode M.2.1 pc = .ok (.getfield 74, 3)) (hM : M.1.cls = "TillTheyMeetModel") (hK : IsK Γ i 7) (hj : rv i 51 = j) (kk : Rn g l M R Q k n (pc + 3) ls (.ref j :: st) Γ iv rv lv) : Rn g l M R Q k n pc ls (.ref i :: st) Γ iv rv lv := rn_get (ci := 7) (fk := 51) (C := RX7) (T := TX7) (N := 55) hd hK rfl uw_X7 (by decide) (by rw [hM]; exact fl_X7_74) (by subst hj; exact kk)
theorem pf_X7_74 {i j : Nat} (hd : decode M.2.1 pc = .ok (.putfield 74, 3)) (hM : M.1.cls = "TillTheyMeetModel") (hI : M.1.name = "<init>") (hK : IsK Γ i 7) (kk : Rn g l M R Q k n (pc + 3) ls st Γ iv (up rv i 51 j) lv) : Rn g l M R Q k n pc ls (.ref j :: .ref i :: st) Γ iv rv lv := rn_put (ci := 7) (fk := 51) (C := RX7) (T := TX7) (N := 55) (ty0 := tyX7) (v := .ref j) hd hK rfl uw_X7 (by decide) (by rw [hM]; exact fl_X7_74) tyX7_ok nmX7 (Or.inr ⟨hI, rfl, by rw [hM]; rfl⟩) (nar_ref rfl) (fit_ref rfl) (fun q => by
    by_cases h : q = 51
    · subst h; rw [if_pos rfl]; show Value.ref (up rv i 51 j i 51) = _; rw [up_same]
    · rw [if_neg h]; exact sv_off rfl (up_ne2 h) rfl) (fun _ _ _ => rfl) (fun j q h => up_ne1 h) (fun _ _ _ => rfl) kk
theorem fl_X7_78 : Cond.fieldLink "TillTheyMeetModel" 78 "TillTheyMeetModel" "sorts" "[I" ∈ gtb := (gtb_in 876 (by decide +kernel) (by decide +kernel))
theorem gf_X7_78 {i j : Nat} (hd : decode M.2.1 pc = .ok (.getfield 78, 3)) (hM : M.1.cls = "TillTheyMeetModel") (hK : IsK Γ i 7) (hj : rv i 52 = j) (kk : Rn g l M R Q k n (pc + 3) ls (.ref j :: st) Γ iv rv lv) : Rn g l M R Q k n pc ls (.ref i :: st) Γ iv rv lv := rn_get (ci := 7) (fk := 52) (C := RX7) (T := TX7) (N := 55) hd hK rfl uw_X7 (by decide) (by rw [hM]; exact fl_X7_78) (by subst hj; exact kk)
theorem pf_X7_78 {i j : Nat} (hd : decode M.2.1 pc = .ok (.putfield 78, 3)) (hM : M.1.cls = "TillTheyMeetModel") (hI : M.1.name = "<init>") (hK : IsK Γ i 7) (kk : Rn g l M R Q k n (pc + 3) ls st Γ iv (up rv i 52 j) lv) : Rn g l M R Q k n pc ls (.ref j :: .ref i :: st) Γ iv rv lv := rn_put (ci := 7) (fk := 52) (C := RX7) (T := TX7) (N := 55) (ty0 := tyX7) (v := .ref j) hd hK rfl uw_X7 (by decide) (by rw [hM]; exact fl_X7_78) tyX7_ok nmX7 (Or.inr ⟨hI, rfl, by rw [hM]; rfl⟩) (nar_ref rfl) (fit_ref rfl) (fun q => by
    by_cases h : q = 52
    · subst h; rw [if_pos rfl]; show Value.ref (up rv i 52 j i 52) = _; rw [up_same]
    · rw [if_neg h]; exact sv_off rfl (up_ne2 h) rfl) (fun _ _ _ => rfl) (fun j q h => up_ne1 h) (fun _ _ _ => rfl) kk
theorem fl_X7_81 : Cond.fieldLink "TillTheyMeetModel" 81 "TillTheyMeetModel" "sheetSize" "[I" ∈ gtb := (gtb_in 877 (by decide +kernel) (by decide +kernel))
theorem gf_X7_81 {i j : Nat} (hd : decode M.2.1 pc = .ok (.getfield 81, 3)) (hM : M.1.cls = "TillTheyMeetModel") (hK : IsK Γ i 7) (hj : rv i 53 = j) (kk : Rn g l M R Q k n (pc + 3) ls (.ref j :: st) Γ iv rv lv) : Rn g l M R Q k n pc ls (.ref i :: st) Γ iv rv lv := rn_get (ci := 7) (fk := 53) (C := RX7) (T := TX7) (N := 55) hd hK rfl uw_X7 (by decide) (by rw [hM]; exact fl_X7_81) (by subst hj; exact kk)
theorem pf_X7_81 {i j : Nat} (hd : decode M.2.1 pc = .ok (.putfield 81, 3)) (hM : M.1.cls = "TillTheyMeetModel") (hI : M.1.name = "<init>") (hK : IsK Γ i 7) (kk : Rn g l M R Q k n (pc + 3) ls st Γ iv (up rv i 53 j) lv) : Rn g l M R Q k n pc ls (.ref j :: .ref i :: st) Γ iv rv lv := rn_put (ci := 7) (fk := 53) (C := RX7) (T := TX7) (N := 55) (ty0 := tyX7) (v := .ref j) hd hK rfl uw_X7 (by decide) (by rw [hM]; exact fl_X7_81) tyX7_ok nmX7 (Or.inr ⟨hI, rfl, by rw [hM]; rfl⟩) (nar_ref rfl) (fit_ref rfl) (fun q => by
    by_cases h : q = 53
    · subst h; rw [if_pos rfl]; show Value.ref (up rv i 53 j i 53) = _; rw [up_same]
    · rw [if_neg h]; exact sv_off rfl (up_ne2 h) rfl) (fun _ _ _ => rfl) (fun j q h => up_ne1 h) (fun _ _ _ => rfl) kk
theorem fl_X7_84 : Cond.fieldLink "TillTheyMeetModel" 84 "TillTheyMeetModel" "items" "[I" ∈ gtb := (gtb_in 878 (by decide +kernel) (by decide +kernel))
theorem gf_X7_84 {i j : Nat} (hd : decode M.2.1 pc = .ok (.getfield 84, 3)) (hM : M.1.cls = "TillTheyMeetModel") (hK : IsK Γ i 7) (hj : rv i 54 = j) (kk : Rn g l M R Q k n (pc + 3) ls (.ref j :: st) Γ iv rv lv) : Rn g l M R Q k n pc ls (.ref i :: st) Γ iv rv lv := rn_get (ci := 7) (fk := 54) (C := RX7) (T := TX7) (N := 55) hd hK rfl uw_X7 (by decide) (by rw [hM]; exact fl_X7_84) (by subst hj; exact kk)
theorem pf_X7_84 {i j : Nat} (hd : decode M.2.1 pc = .ok (.putfield 84, 3)) (hM : M.1.cls = "TillTheyMeetModel") (hI : M.1.name = "<init>") (hK : IsK Γ i 7) (kk : Rn g l M R Q k n (pc + 3) ls st Γ iv (up rv i 54 j) lv) : Rn g l M R Q k n pc ls (.ref j :: .ref i :: st) Γ iv rv lv := rn_put (ci := 7) (fk := 54) (C := RX7) (T := TX7) (N := 55) (ty0 := tyX7) (v := .ref j) hd hK rfl uw_X7 (by decide) (by rw [hM]; exact fl_X7_84) tyX7_ok nmX7 (Or.inr ⟨hI, rfl, by rw [hM]; rfl⟩) (nar_ref rfl) (fit_ref rfl) (fun q => by
    by_cases h : q = 54
    · subst h; rw [if_pos rfl]; show Value.ref (up rv i 54 j i 54) = _; rw [up_same]
    · rw [if_neg h]; exact sv_off rfl (up_ne2 h) rfl) (fun _ _ _ => rfl) (fun j q h => up_ne1 h) (fun _ _ _ => rfl) kk
theorem fl_X7_91 : Cond.fieldLink "TillTheyMeetModel" 91 "TillTheyMeetModel" "textCount" "I" ∈ gtb := (gtb_in 827 (by decide +kernel) (by decide +kernel))
theorem gf_X7_91 {i : Nat} (hd : decode M.2.1 pc = .ok (.getfield 91, 3)) (hM : M.1.cls = "TillTheyMeetModel") (hK : IsK Γ i 7) (kk : Rn g l M R Q k n (pc + 3) ls (.int (iv i 3) :: st) Γ iv rv lv) : Rn g l M R Q k n pc ls (.ref i :: st) Γ iv rv lv := rn_get (ci := 7) (fk := 3) (C := RX7) (T := TX7) (N := 55) hd hK rfl uw_X7 (by decide) (by rw [hM]; exact fl_X7_91) kk
theorem pf_X7_91 {i : Nat} {x : Int32} (hd : decode M.2.1 pc = .ok (.putfield 91, 3)) (hM : M.1.cls = "TillTheyMeetModel") (hK : IsK Γ i 7) (kk : Rn g l M R Q k n (pc + 3) ls st Γ (up iv i 3 x) rv lv) : Rn g l M R Q k n pc ls (.int x :: .ref i :: st) Γ iv rv lv := rn_put (ci := 7) (fk := 3) (C := RX7) (T := TX7) (N := 55) (ty0 := tyX7) (v := .int x) hd hK rfl uw_X7 (by decide) (by rw [hM]; exact fl_X7_91) tyX7_ok nmX7 (Or.inl rfl) rfl rfl (fun q => by
    by_cases h : q = 3
    · subst h; rw [if_pos rfl]; show Value.int (up iv i 3 x i 3) = _; rw [up_same]
    · rw [if_neg h]; exact sv_off (up_ne2 h) rfl rfl) (fun j q h => up_ne1 h) (fun _ _ _ => rfl) (fun _ _ _ => rfl) kk
theorem fl_X7_129 : Cond.fieldLink "TillTheyMeetModel" 129 "TillTheyMeetModel" "payDay" "I" ∈ gtb := (gtb_in 842 (by decide +kernel) (by decide +kernel))
theorem gf_X7_129 {i : Nat} (hd : decode M.2.1 pc = .ok (.getfield 129, 3)) (hM : M.1.cls = "TillTheyMeetModel") (hK : IsK Γ i 7) (kk : Rn g l M R Q k n (pc + 3) ls (.int (iv i 18) :: st) Γ iv rv lv) : Rn g l M R Q k n pc ls (.ref i :: st) Γ iv rv lv := rn_get (ci := 7) (fk := 18) (C := RX7) (T := TX7) (N := 55) hd hK rfl uw_X7 (by decide) (by rw [hM]; exact fl_X7_129) kk
theorem pf_X7_129 {i : Nat} {x : Int32} (hd : decode M.2.1 pc = .ok (.putfield 129, 3)) (hM : M.1.cls = "TillTheyMeetModel") (hK : IsK Γ i 7) (kk : Rn g l M R Q k n (pc + 3) ls st Γ (up iv i 18 x) rv lv) : Rn g l M R Q k n pc ls (.int x :: .ref i :: st) Γ iv rv lv := rn_put (ci := 7) (fk := 18) (C := RX7) (T := TX7) (N := 55) (ty0 := tyX7) (v := .int x) hd hK rfl uw_X7 (by decide) (by rw [hM]; exact fl_X7_129) tyX7_ok nmX7 (Or.inl rfl) rfl rfl (fun q => by
    by_cases h : q = 18
    · subst h; rw [if_pos rfl]; show Value.int (up iv i 18 x i 18) = _; rw [up_same]
    · rw [if_neg h]; exact sv_off (up_ne2 h) rfl rfl) (fun j q h => up_ne1 h) (fun _ _ _ => rfl) (fun _ _ _ => rfl) kk
theorem fl_X7_146 : Cond.fieldLink "TillTheyMeetModel" 146 "TillTheyMeetModel" "taped" "I" ∈ gtb := (gtb_in 830 (by decide +kernel) (by decide +kernel))
theorem gf_X7_146 {i : Nat} (hd : decode M.2.1 pc = .ok (.getfield 146, 3)) (hM : M.1.cls = "TillTheyMeetModel") (hK : IsK Γ i 7) (kk : Rn g l M R Q k n (pc + 3) ls (.int (iv i 6) :: st) Γ iv rv lv) : Rn g l M R Q k n pc ls (.ref i :: st) Γ iv rv lv := rn_get (ci := 7) (fk := 6) (C := RX7) (T := TX7) (N := 55) hd hK rfl uw_X7 (by decide) (by rw [hM]; exact fl_X7_146) kk
theorem pf_X7_146 {i : Nat} {x : Int32} (hd : decode M.2.1 pc = .ok (.putfield 146, 3)) (hM : M.1.cls = "TillTheyMeetModel") (hK : IsK Γ i 7) (kk : Rn g l M R Q k n (pc + 3) ls st Γ (up iv i 6 x) rv lv) : Rn g l M R Q k n pc ls (.int x :: .ref i :: st) Γ iv rv lv := rn_put (ci := 7) (fk := 6) (C := RX7) (T := TX7) (N := 55) (ty0 := tyX7) (v := .int x) hd hK rfl uw_X7 (by decide) (by rw [hM]; exact fl_X7_146) tyX7_ok nmX7 (Or.inl rfl) rfl rfl (fun q => by
    by_cases h : q = 6
    · subst h; rw [if_pos rfl]; show Value.int (up iv i 6 x i 6) = _; rw [up_same]
    · rw [if_neg h]; exact sv_off (up_ne2 h) rfl rfl) (fun j q h => up_ne1 h) (fun _ _ _ => rfl) (fun _ _ _ => rfl) kk
theorem fl_X7_149 : Cond.fieldLink "TillTheyMeetModel" 149 "TillTheyMeetModel" "size" "I" ∈ gtb := (gtb_in 851 (by decide +kernel) (by decide +kernel))
theorem gf_X7_149 {i : Nat} (hd : decode M.2.1 pc = .ok (.getfield 149, 3)) (hM : M.1.cls = "TillTheyMeetModel") (hK : IsK Γ i 7) (kk : Rn g l M R Q k n (pc + 3) ls (.int (iv i 27) :: st) Γ iv rv lv) : Rn g l M R Q k n pc ls (.ref i :: st) Γ iv rv lv := rn_get (ci := 7) (fk := 27) (C := RX7) (T := TX7) (N := 55) hd hK rfl uw_X7 (by decide) (by rw [hM]; exact fl_X7_149) kk
theorem pf_X7_149 {i : Nat} {x : Int32} (hd : decode M.2.1 pc = .ok (.putfield 149, 3)) (hM : M.1.cls = "TillTheyMeetModel") (hK : IsK Γ i 7) (kk : Rn g l M R Q k n (pc + 3) ls st Γ (up iv i 27 x) rv lv) : Rn g l M R Q k n pc ls (.int x :: .ref i :: st) Γ iv rv lv := rn_put (ci := 7) (fk := 27) (C := RX7) (T := TX7) (N := 55) (ty0 := tyX7) (v := .int x) hd hK rfl uw_X7 (by decide) (by rw [hM]; exact fl_X7_149) tyX7_ok nmX7 (Or.inl rfl) rfl rfl (fun q => by
    by_cases h : q = 27
    · subst h; rw [if_pos rfl]; show Value.int (up iv i 27 x i 27) = _; rw [up_same]
    · rw [if_neg h]; exact sv_off (up_ne2 h) rfl rfl) (fun j q h => up_ne1 h) (fun _ _ _ => rfl) (fun _ _ _ => rfl) kk
theorem fl_X7_152 : Cond.fieldLink "TillTheyMeetModel" 152 "TillTheyMeetModel" "from" "I" ∈ gtb := (gtb_in 850 (by decide +kernel) (by decide +kernel))
theorem gf_X7_152 {i : Nat} (hd : decode M.2.1 pc = .ok (.getfield 152, 3)) (hM : M.1.cls = "TillTheyMeetModel") (hK : IsK Γ i 7) (kk : Rn g l M R Q k n (pc + 3) ls (.int (iv i 26) :: st) Γ iv rv lv) : Rn g l M R Q k n pc ls (.ref i :: st) Γ iv rv lv := rn_get (ci := 7) (fk := 26) (C := RX7) (T := TX7) (N := 55) hd hK rfl uw_X7 (by decide) (by rw [hM]; exact fl_X7_152) kk
theorem pf_X7_152 {i : Nat} {x : Int32} (hd : decode M.2.1 pc = .ok (.putfield 152, 3)) (hM : M.1.cls = "TillTheyMeetModel") (hK : IsK Γ i 7) (kk : Rn g l M R Q k n (pc + 3) ls st Γ (up iv i 26 x) rv lv) : Rn g l M R Q k n pc ls (.int x :: .ref i :: st) Γ iv rv lv := rn_put (ci := 7) (fk := 26) (C := RX7) (T := TX7) (N := 55) (ty0 := tyX7) (v := .int x) hd hK rfl uw_X7 (by decide) (by rw [hM]; exact fl_X7_152) tyX7_ok nmX7 (Or.inl rfl) rfl rfl (fun q => by
    by_cases h : q = 26
    · subst h; rw [if_pos rfl]; show Value.int (up iv i 26 x i 26) = _; rw [up_same]
    · rw [if_neg h]; exact sv_off (up_ne2 h) rfl rfl) (fun j q h => up_ne1 h) (fun _ _ _ => rfl) (fun _ _ _ => rfl) kk
theorem fl_X7_155 : Cond.fieldLink "TillTheyMeetModel" 155 "TillTheyMeetModel" "here" "I" ∈ gtb := (gtb_in 852 (by decide +kernel) (by decide +kernel))
theorem gf_X7_155 {i : Nat} (hd : decode M.2.1 pc = .ok (.getfield 155, 3)) (hM : M.1.cls = "TillTheyMeetModel") (hK : IsK Γ i 7) (kk : Rn g l M R Q k n (pc + 3) ls (.int (iv i 28) :: st) Γ iv rv lv) : Rn g l M R Q k n pc ls (.ref i :: st) Γ iv rv lv := rn_get (ci := 7) (fk := 28) (C := RX7) (T := TX7) (N := 55) hd hK rfl uw_X7 (by decide) (by rw [hM]; exact fl_X7_155) kk
theorem pf_X7_155 {i : Nat} {x : Int32} (hd : decode M.2.1 pc = .ok (.putfield 155, 3)) (hM : M.1.cls = "TillTheyMeetModel") (hK : IsK Γ i 7) (kk : Rn g l M R Q k n (pc + 3) ls st Γ (up iv i 28 x) rv lv) : Rn g l M R Q k n pc ls (.int x :: .ref i :: st) Γ iv rv lv := rn_put (ci := 7) (fk := 28) (C := RX7) (T := TX7) (N := 55) (ty0 := tyX7) (v := .int x) hd hK rfl uw_X7 (by decide) (by rw [hM]; exact fl_X7_155) tyX7_ok nmX7 (Or.inl rfl) rfl rfl (fun q => by
    by_cases h : q = 28
    · subst h; rw [if_pos rfl]; show Value.int (up iv i 28 x i 28) = _; rw [up_same]
    · rw [if_neg h]; exact sv_off (up_ne2 h) rfl rfl) (fun j q h => up_ne1 h) (fun _ _ _ => rfl) (fun _ _ _ => rfl) kk
theorem fl_X7_161 : Cond.fieldLink "TillTheyMeetModel" 161 "TillTheyMeetModel" "tokenAt" "I" ∈ gtb := (gtb_in 854 (by decide +kernel) (by decide +kernel))
theorem gf_X7_161 {i : Nat} (hd : decode M.2.1 pc = .ok (.getfield 161, 3)) (hM : M.1.cls = "TillTheyMeetModel") (hK : IsK Γ i 7) (kk : Rn g l M R Q k n (pc + 3) ls (.int (iv i 30) :: st) Γ iv rv lv) : Rn g l M R Q k n pc ls (.ref i :: st) Γ iv rv lv := rn_get (ci := 7) (fk := 30) (C := RX7) (T := TX7) (N := 55) hd hK rfl uw_X7 (by decide) (by rw [hM]; exact fl_X7_161) kk
theorem pf_X7_161 {i : Nat} {x : Int32} (hd : decode M.2.1 pc = .ok (.putfield 161, 3)) (hM : M.1.cls = "TillTheyMeetModel") (hK : IsK Γ i 7) (kk : Rn g l M R Q k n (pc + 3) ls st Γ (up iv i 30 x) rv lv) : Rn g l M R Q k n pc ls (.int x :: .ref i :: st) Γ iv rv lv := rn_put (ci := 7) (fk := 30) (C := RX7) (T := TX7) (N := 55) (ty0 := tyX7) (v := .int x) hd hK rfl uw_X7 (by decide) (by rw [hM]; exact fl_X7_161) tyX7_ok nmX7 (Or.inl rfl) rfl rfl (fun q => by
    by_cases h : q = 30
    · subst h; rw [if_pos rfl]; show Value.int (up iv i 30 x i 30) = _; rw [up_same]
    · rw [if_neg h]; exact sv_off (up_ne2 h) rfl rfl) (fun j q h => up_ne1 h) (fun _ _ _ => rfl) (fun _ _ _ => rfl) kk
theorem fl_X7_164 : Cond.fieldLink "TillTheyMeetModel" 164 "TillTheyMeetModel" "token" "I" ∈ gtb := (gtb_in 853 (by decide +kernel) (by decide +kernel))
theorem gf_X7_164 {i : Nat} (hd : decode M.2.1 pc = .ok (.getfield 164, 3)) (hM : M.1.cls = "TillTheyMeetModel") (hK : IsK Γ i 7) (kk : Rn g l M R Q k n (pc + 3) ls (.int (iv i 29) :: st) Γ iv rv lv) : Rn g l M R Q k n pc ls (.ref i :: st) Γ iv rv lv := rn_get (ci := 7) (fk := 29) (C := RX7) (T := TX7) (N := 55) hd hK rfl uw_X7 (by decide) (by rw [hM]; exact fl_X7_164) kk
theorem pf_X7_164 {i : Nat} {x : Int32} (hd : decode M.2.1 pc = .ok (.putfield 164, 3)) (hM : M.1.cls = "TillTheyMeetModel") (hK : IsK Γ i 7) (kk : Rn g l M R Q k n (pc + 3) ls st Γ (up iv i 29 x) rv lv) : Rn g l M R Q k n pc ls (.int x :: .ref i :: st) Γ iv rv lv := rn_put (ci := 7) (fk := 29) (C := RX7) (T := TX7) (N := 55) (ty0 := tyX7) (v := .int x) hd hK rfl uw_X7 (by decide) (by rw [hM]; exact fl_X7_164) tyX7_ok nmX7 (Or.inl rfl) rfl rfl (fun q => by
    by_cases h : q = 29
    · subst h; rw [if_pos rfl]; show Value.int (up iv i 29 x i 29) = _; rw [up_same]
    · rw [if_neg h]; exact sv_off (up_ne2 h) rfl rfl) (fun j q h => up_ne1 h) (fun _ _ _ => rfl) (fun _ _ _ => rfl) kk
theorem fl_X7_175 : Cond.fieldLink "TillTheyMeetModel" 175 "TillTheyMeetModel" "tokenWorth" "J" ∈ gtb := (gtb_in 855 (by decide +kernel) (by decide +kernel))
theorem gf_X7_175 {i : Nat} (hd : decode M.2.1 pc = .ok (.getfield 175, 3)) (hM : M.1.cls = "TillTheyMeetModel") (hK : IsK Γ i 7) (kk : Rn g l M R Q k n (pc + 3) ls (.long (lv i 31) :: st) Γ iv rv lv) : Rn g l M R Q k n pc ls (.ref i :: st) Γ iv rv lv := rn_get (ci := 7) (fk := 31) (C := RX7) (T := TX7) (N := 55) hd hK rfl uw_X7 (by decide) (by rw [hM]; exact fl_X7_175) kk
theorem pf_X7_175 {i : Nat} {x : Int64} (hd : decode M.2.1 pc = .ok (.putfield 175, 3)) (hM : M.1.cls = "TillTheyMeetModel") (hK : IsK Γ i 7) (kk : Rn g l M R Q k n (pc + 3) ls st Γ iv rv (up lv i 31 x)) : Rn g l M R Q k n pc ls (.long x :: .ref i :: st) Γ iv rv lv := rn_put (ci := 7) (fk := 31) (C := RX7) (T := TX7) (N := 55) (ty0 := tyX7) (v := .long x) hd hK rfl uw_X7 (by decide) (by rw [hM]; exact fl_X7_175) tyX7_ok nmX7 (Or.inl rfl) rfl rfl (fun q => by
    by_cases h : q = 31
    · subst h; rw [if_pos rfl]; show Value.long (up lv i 31 x i 31) = _; rw [up_same]
    · rw [if_neg h]; exact sv_off rfl rfl (up_ne2 h)) (fun _ _ _ => rfl) (fun _ _ _ => rfl) (fun j q h => up_ne1 h) kk
theorem fl_X7_181 : Cond.fieldLink "TillTheyMeetModel" 181 "TillTheyMeetModel" "bad" "Z" ∈ gtb := (gtb_in 857 (by decide +kernel) (by decide +kernel))
theorem gf_X7_181 {i : Nat} (hd : decode M.2.1 pc = .ok (.getfield 181, 3)) (hM : M.1.cls = "TillTheyMeetModel") (hK : IsK Γ i 7) (kk : Rn g l M R Q k n (pc + 3) ls (.int (iv i 33) :: st) Γ iv rv lv) : Rn g l M R Q k n pc ls (.ref i :: st) Γ iv rv lv := rn_get (ci := 7) (fk := 33) (C := RX7) (T := TX7) (N := 55) hd hK rfl uw_X7 (by decide) (by rw [hM]; exact fl_X7_181) kk
theorem pf_X7_181 {i : Nat} {x : Int32} (hd : decode M.2.1 pc = .ok (.putfield 181, 3)) (hM : M.1.cls = "TillTheyMeetModel") (hn : x = 0 ∨ x = 1) (hK : IsK Γ i 7) (kk : Rn g l M R Q k n (pc + 3) ls st Γ (up iv i 33 x) rv lv) : Rn g l M R Q k n pc ls (.int x :: .ref i :: st) Γ iv rv lv := rn_put (ci := 7) (fk := 33) (C := RX7) (T := TX7) (N := 55) (ty0 := tyX7) (v := .int x) hd hK rfl uw_X7 (by decide) (by rw [hM]; exact fl_X7_181) tyX7_ok nmX7 (Or.inl rfl) (by rcases hn with rfl | rfl <;> rfl) (by rcases hn with rfl | rfl <;> rfl) (fun q => by
    by_cases h : q = 33
    · subst h; rw [if_pos rfl]; show Value.int (up iv i 33 x i 33) = _; rw [up_same]
    · rw [if_neg h]; exact sv_off (up_ne2 h) rfl rfl) (fun j q h => up_ne1 h) (fun _ _ _ => rfl) (fun _ _ _ => rfl) kk
theorem fl_X7_185 : Cond.fieldLink "TillTheyMeetModel" 185 "TillTheyMeetModel" "fault" "I" ∈ gtb := (gtb_in 858 (by decide +kernel) (by decide +kernel))
theorem gf_X7_185 {i : Nat} (hd : decode M.2.1 pc = .ok (.getfield 185, 3)) (hM : M.1.cls = "TillTheyMeetModel") (hK : IsK Γ i 7) (kk : Rn g l M R Q k n (pc + 3) ls (.int (iv i 34) :: st) Γ iv rv lv) : Rn g l M R Q k n pc ls (.ref i :: st) Γ iv rv lv := rn_get (ci := 7) (fk := 34) (C := RX7) (T := TX7) (N := 55) hd hK rfl uw_X7 (by decide) (by rw [hM]; exact fl_X7_185) kk
theorem pf_X7_185 {i : Nat} {x : Int32} (hd : decode M.2.1 pc = .ok (.putfield 185, 3)) (hM : M.1.cls = "TillTheyMeetModel") (hK : IsK Γ i 7) (kk : Rn g l M R Q k n (pc + 3) ls st Γ (up iv i 34 x) rv lv) : Rn g l M R Q k n pc ls (.int x :: .ref i :: st) Γ iv rv lv := rn_put (ci := 7) (fk := 34) (C := RX7) (T := TX7) (N := 55) (ty0 := tyX7) (v := .int x) hd hK rfl uw_X7 (by decide) (by rw [hM]; exact fl_X7_185) tyX7_ok nmX7 (Or.inl rfl) rfl rfl (fun q => by
    by_cases h : q = 34
    · subst h; rw [if_pos rfl]; show Value.int (up iv i 34 x i 34) = _; rw [up_same]
    · rw [if_neg h]; exact sv_off (up_ne2 h) rfl rfl) (fun j q h => up_ne1 h) (fun _ _ _ => rfl) (fun _ _ _ => rfl) kk
theorem fl_X7_192 : Cond.fieldLink "TillTheyMeetModel" 192 "TillTheyMeetModel" "open" "I" ∈ gtb := (gtb_in 856 (by decide +kernel) (by decide +kernel))
theorem gf_X7_192 {i : Nat} (hd : decode M.2.1 pc = .ok (.getfield 192, 3)) (hM : M.1.cls = "TillTheyMeetModel") (hK : IsK Γ i 7) (kk : Rn g l M R Q k n (pc + 3) ls (.int (iv i 32) :: st) Γ iv rv lv) : Rn g l M R Q k n pc ls (.ref i :: st) Γ iv rv lv := rn_get (ci := 7) (fk := 32) (C := RX7) (T := TX7) (N := 55) hd hK rfl uw_X7 (by decide) (by rw [hM]; exact fl_X7_192) kk
theorem pf_X7_192 {i : Nat} {x : Int32} (hd : decode M.2.1 pc = .ok (.putfield 192, 3)) (hM : M.1.cls = "TillTheyMeetModel") (hK : IsK Γ i 7) (kk : Rn g l M R Q k n (pc + 3) ls st Γ (up iv i 32 x) rv lv) : Rn g l M R Q k n pc ls (.int x :: .ref i :: st) Γ iv rv lv := rn_put (ci := 7) (fk := 32) (C := RX7) (T := TX7) (N := 55) (ty0 := tyX7) (v := .int x) hd hK rfl uw_X7 (by decide) (by rw [hM]; exact fl_X7_192) tyX7_ok nmX7 (Or.inl rfl) rfl rfl (fun q => by
    by_cases h : q = 32
    · subst h; rw [if_pos rfl]; show Value.int (up iv i 32 x i 32) = _; rw [up_same]
    · rw [if_neg h]; exact sv_off (up_ne2 h) rfl rfl) (fun j q h => up_ne1 h) (fun _ _ _ => rfl) (fun _ _ _ => rfl) kk
theorem fl_X7_205 : Cond.fieldLink "TillTheyMeetModel" 205 "TillTheyMeetModel" "ofGround" "I" ∈ gtb := (gtb_in 844 (by decide +kernel) (by decide +kernel))
theorem gf_X7_205 {i : Nat} (hd : decode M.2.1 pc = .ok (.getfield 205, 3)) (hM : M.1.cls = "TillTheyMeetModel") (hK : IsK Γ i 7) (kk : Rn g l M R Q k n (pc + 3) ls (.int (iv i 20) :: st) Γ iv rv lv) : Rn g l M R Q k n pc ls (.ref i :: st) Γ iv rv lv := rn_get (ci := 7) (fk := 20) (C := RX7) (T := TX7) (N := 55) hd hK rfl uw_X7 (by decide) (by rw [hM]; exact fl_X7_205) kk
theorem pf_X7_205 {i : Nat} {x : Int32} (hd : decode M.2.1 pc = .ok (.putfield 205, 3)) (hM : M.1.cls = "TillTheyMeetModel") (hK : IsK Γ i 7) (kk : Rn g l M R Q k n (pc + 3) ls st Γ (up iv i 20 x) rv lv) : Rn g l M R Q k n pc ls (.int x :: .ref i :: st) Γ iv rv lv := rn_put (ci := 7) (fk := 20) (C := RX7) (T := TX7) (N := 55) (ty0 := tyX7) (v := .int x) hd hK rfl uw_X7 (by decide) (by rw [hM]; exact fl_X7_205) tyX7_ok nmX7 (Or.inl rfl) rfl rfl (fun q => by
    by_cases h : q = 20
    · subst h; rw [if_pos rfl]; show Value.int (up iv i 20 x i 20) = _; rw [up_same]
    · rw [if_neg h]; exact sv_off (up_ne2 h) rfl rfl) (fun j q h => up_ne1 h) (fun _ _ _ => rfl) (fun _ _ _ => rfl) kk
theorem fl_X7_208 : Cond.fieldLink "TillTheyMeetModel" 208 "TillTheyMeetModel" "ofMen" "I" ∈ gtb := (gtb_in 845 (by decide +kernel) (by decide +kernel))
theorem gf_X7_208 {i : Nat} (hd : decode M.2.1 pc = .ok (.getfield 208, 3)) (hM : M.1.cls = "TillTheyMeetModel") (hK : IsK Γ i 7) (kk : Rn g l M R Q k n (pc + 3) ls (.int (iv i 21) :: st) Γ iv rv lv) : Rn g l M R Q k n pc ls (.ref i :: st) Γ iv rv lv := rn_get (ci := 7) (fk := 21) (C := RX7) (T := TX7) (N := 55) hd hK rfl uw_X7 (by decide) (by rw [hM]; exact fl_X7_208) kk
theorem pf_X7_208 {i : Nat} {x : Int32} (hd : decode M.2.1 pc = .ok (.putfield 208, 3)) (hM : M.1.cls = "TillTheyMeetModel") (hK : IsK Γ i 7) (kk : Rn g l M R Q k n (pc + 3) ls st Γ (up iv i 21 x) rv lv) : Rn g l M R Q k n pc ls (.int x :: .ref i :: st) Γ iv rv lv := rn_put (ci := 7) (fk := 21) (C := RX7) (T := TX7) (N := 55) (ty0 := tyX7) (v := .int x) hd hK rfl uw_X7 (by decide) (by rw [hM]; exact fl_X7_208) tyX7_ok nmX7 (Or.inl rfl) rfl rfl (fun q => by
    by_cases h : q = 21
    · subst h; rw [if_pos rfl]; show Value.int (up iv i 21 x i 21) = _; rw [up_same]
    · rw [if_neg h]; exact sv_off (up_ne2 h) rfl rfl) (fun j q h => up_ne1 h) (fun _ _ _ => rfl) (fun _ _ _ => rfl) kk
theorem fl_X7_211 : Cond.fieldLink "TillTheyMeetModel" 211 "TillTheyMeetModel" "ofYard" "I" ∈ gtb := (gtb_in 846 (by decide +kernel) (by decide +kernel))
theorem gf_X7_211 {i : Nat} (hd : decode M.2.1 pc = .ok (.getfield 211, 3)) (hM : M.1.cls = "TillTheyMeetModel") (hK : IsK Γ i 7) (kk : Rn g l M R Q k n (pc + 3) ls (.int (iv i 22) :: st) Γ iv rv lv) : Rn g l M R Q k n pc ls (.ref i :: st) Γ iv rv lv := rn_get (ci := 7) (fk := 22) (C := RX7) (T := TX7) (N := 55) hd hK rfl uw_X7 (by decide) (by rw [hM]; exact fl_X7_211) kk
theorem pf_X7_211 {i : Nat} {x : Int32} (hd : decode M.2.1 pc = .ok (.putfield 211, 3)) (hM : M.1.cls = "TillTheyMeetModel") (hK : IsK Γ i 7) (kk : Rn g l M R Q k n (pc + 3) ls st Γ (up iv i 22 x) rv lv) : Rn g l M R Q k n pc ls (.int x :: .ref i :: st) Γ iv rv lv := rn_put (ci := 7) (fk := 22) (C := RX7) (T := TX7) (N := 55) (ty0 := tyX7) (v := .int x) hd hK rfl uw_X7 (by decide) (by rw [hM]; exact fl_X7_211) tyX7_ok nmX7 (Or.inl rfl) rfl rfl (fun q => by
    by_cases h : q = 22
    · subst h; rw [if_pos rfl]; show Value.int (up iv i 22 x i 22) = _; rw [up_same]
    · rw [if_neg h]; exact sv_off (up_ne2 h) rfl rfl) (fun j q h => up_ne1 h) (fun _ _ _ => rfl) (fun _ _ _ => rfl) kk
theorem fl_X7_214 : Cond.fieldLink "TillTheyMeetModel" 214 "TillTheyMeetModel" "ofAhead" "I" ∈ gtb := (gtb_in 847 (by decide +kernel) (by decide +kernel))
theorem gf_X7_214 {i : Nat} (hd : decode M.2.1 pc = .ok (.getfield 214, 3)) (hM : M.1.cls = "TillTheyMeetModel") (hK : IsK Γ i 7) (kk : Rn g l M R Q k n (pc + 3) ls (.int (iv i 23) :: st) Γ iv rv lv) : Rn g l M R Q k n pc ls (.ref i :: st) Γ iv rv lv := rn_get (ci := 7) (fk := 23) (C := RX7) (T := TX7) (N := 55) hd hK rfl uw_X7 (by decide) (by rw [hM]; exact fl_X7_214) kk
theorem pf_X7_214 {i : Nat} {x : Int32} (hd : decode M.2.1 pc = .ok (.putfield 214, 3)) (hM : M.1.cls = "TillTheyMeetModel") (hK : IsK Γ i 7) (kk : Rn g l M R Q k n (pc + 3) ls st Γ (up iv i 23 x) rv lv) : Rn g l M R Q k n pc ls (.int x :: .ref i :: st) Γ iv rv lv := rn_put (ci := 7) (fk := 23) (C := RX7) (T := TX7) (N := 55) (ty0 := tyX7) (v := .int x) hd hK rfl uw_X7 (by decide) (by rw [hM]; exact fl_X7_214) tyX7_ok nmX7 (Or.inl rfl) rfl rfl (fun q => by
    by_cases h : q = 23
    · subst h; rw [if_pos rfl]; show Value.int (up iv i 23 x i 23) = _; rw [up_same]
    · rw [if_neg h]; exact sv_off (up_ne2 h) rfl rfl) (fun j q h => up_ne1 h) (fun _ _ _ => rfl) (fun _ _ _ => rfl) kk
theorem fl_X7_217 : Cond.fieldLink "TillTheyMeetModel" 217 "TillTheyMeetModel" "ofDay" "I" ∈ gtb := (gtb_in 848 (by decide +kernel) (by decide +kernel))
theorem gf_X7_217 {i : Nat} (hd : decode M.2.1 pc = .ok (.getfield 217, 3)) (hM : M.1.cls = "TillTheyMeetModel") (hK : IsK Γ i 7) (kk : Rn g l M R Q k n (pc + 3) ls (.int (iv i 24) :: st) Γ iv rv lv) : Rn g l M R Q k n pc ls (.ref i :: st) Γ iv rv lv := rn_get (ci := 7) (fk := 24) (C := RX7) (T := TX7) (N := 55) hd hK rfl uw_X7 (by decide) (by rw [hM]; exact fl_X7_217) kk
theorem pf_X7_217 {i : Nat} {x : Int32} (hd : decode M.2.1 pc = .ok (.putfield 217, 3)) (hM : M.1.cls = "TillTheyMeetModel") (hK : IsK Γ i 7) (kk : Rn g l M R Q k n (pc + 3) ls st Γ (up iv i 24 x) rv lv) : Rn g l M R Q k n pc ls (.int x :: .ref i :: st) Γ iv rv lv := rn_put (ci := 7) (fk := 24) (C := RX7) (T := TX7) (N := 55) (ty0 := tyX7) (v := .int x) hd hK rfl uw_X7 (by decide) (by rw [hM]; exact fl_X7_217) tyX7_ok nmX7 (Or.inl rfl) rfl rfl (fun q => by
    by_cases h : q = 24
    · subst h; rw [if_pos rfl]; show Value.int (up iv i 24 x i 24) = _; rw [up_same]
    · rw [if_neg h]; exact sv_off (up_ne2 h) rfl rfl) (fun j q h => up_ne1 h) (fun _ _ _ => rfl) (fun _ _ _ => rfl) kk
theorem fl_X7_220 : Cond.fieldLink "TillTheyMeetModel" 220 "TillTheyMeetModel" "ofKnown" "I" ∈ gtb := (gtb_in 849 (by decide +kernel) (by decide +kernel))
theorem gf_X7_220 {i : Nat} (hd : decode M.2.1 pc = .ok (.getfield 220, 3)) (hM : M.1.cls = "TillTheyMeetModel") (hK : IsK Γ i 7) (kk : Rn g l M R Q k n (pc + 3) ls (.int (iv i 25) :: st) Γ iv rv lv) : Rn g l M R Q k n pc ls (.ref i :: st) Γ iv rv lv := rn_get (ci := 7) (fk := 25) (C := RX7) (T := TX7) (N := 55) hd hK rfl uw_X7 (by decide) (by rw [hM]; exact fl_X7_220) kk
theorem pf_X7_220 {i : Nat} {x : Int32} (hd : decode M.2.1 pc = .ok (.putfield 220, 3)) (hM : M.1.cls = "TillTheyMeetModel") (hK : IsK Γ i 7) (kk : Rn g l M R Q k n (pc + 3) ls st Γ (up iv i 25 x) rv lv) : Rn g l M R Q k n pc ls (.int x :: .ref i :: st) Γ iv rv lv := rn_put (ci := 7) (fk := 25) (C := RX7) (T := TX7) (N := 55) (ty0 := tyX7) (v := .int x) hd hK rfl uw_X7 (by decide) (by rw [hM]; exact fl_X7_220) tyX7_ok nmX7 (Or.inl rfl) rfl rfl (fun q => by
    by_cases h : q = 25
    · subst h; rw [if_pos rfl]; show Value.int (up iv i 25 x i 25) = _; rw [up_same]
    · rw [if_neg h]; exact sv_off (up_ne2 h) rfl rfl) (fun j q h => up_ne1 h) (fun _ _ _ => rfl) (fun _ _ _ => rfl) kk
theorem fl_X7_262 : Cond.fieldLink "TillTheyMeetModel" 262 "TillTheyMeetModel" "rule" "I" ∈ gtb := (gtb_in 828 (by decide +kernel) (by decide +kernel))
theorem gf_X7_262 {i : Nat} (hd : decode M.2.1 pc = .ok (.getfield 262, 3)) (hM : M.1.cls = "TillTheyMeetModel") (hK : IsK Γ i 7) (kk : Rn g l M R Q k n (pc + 3) ls (.int (iv i 4) :: st) Γ iv rv lv) : Rn g l M R Q k n pc ls (.ref i :: st) Γ iv rv lv := rn_get (ci := 7) (fk := 4) (C := RX7) (T := TX7) (N := 55) hd hK rfl uw_X7 (by decide) (by rw [hM]; exact fl_X7_262) kk
theorem pf_X7_262 {i : Nat} {x : Int32} (hd : decode M.2.1 pc = .ok (.putfield 262, 3)) (hM : M.1.cls = "TillTheyMeetModel") (hK : IsK Γ i 7) (kk : Rn g l M R Q k n (pc + 3) ls st Γ (up iv i 4 x) rv lv) : Rn g l M R Q k n pc ls (.int x :: .ref i :: st) Γ iv rv lv := rn_put (ci := 7) (fk := 4) (C := RX7) (T := TX7) (N := 55) (ty0 := tyX7) (v := .int x) hd hK rfl uw_X7 (by decide) (by rw [hM]; exact fl_X7_262) tyX7_ok nmX7 (Or.inl rfl) rfl rfl (fun q => by
    by_cases h : q = 4
    · subst h; rw [if_pos rfl]; show Value.int (up iv i 4 x i 4) = _; rw [up_same]
    · rw [if_neg h]; exact sv_off (up_ne2 h) rfl rfl) (fun j q h => up_ne1 h) (fun _ _ _ => rfl) (fun _ _ _ => rfl) kk
theorem fl_X7_265 : Cond.fieldLink "TillTheyMeetModel" 265 "TillTheyMeetModel" "day" "I" ∈ gtb := (gtb_in 840 (by decide +kernel) (by decide +kernel))
theorem gf_X7_265 {i : Nat} (hd : decode M.2.1 pc = .ok (.getfield 265, 3)) (hM : M.1.cls = "TillTheyMeetModel") (hK : IsK Γ i 7) (kk : Rn g l M R Q k n (pc + 3) ls (.int (iv i 16) :: st) Γ iv rv lv) : Rn g l M R Q k n pc ls (.ref i :: st) Γ iv rv lv := rn_get (ci := 7) (fk := 16) (C := RX7) (T := TX7) (N := 55) hd hK rfl uw_X7 (by decide) (by rw [hM]; exact fl_X7_265) kk
theorem pf_X7_265 {i : Nat} {x : Int32} (hd : decode M.2.1 pc = .ok (.putfield 265, 3)) (hM : M.1.cls = "TillTheyMeetModel") (hK : IsK Γ i 7) (kk : Rn g l M R Q k n (pc + 3) ls st Γ (up iv i 16 x) rv lv) : Rn g l M R Q k n pc ls (.int x :: .ref i :: st) Γ iv rv lv := rn_put (ci := 7) (fk := 16) (C := RX7) (T := TX7) (N := 55) (ty0 := tyX7) (v := .int x) hd hK rfl uw_X7 (by decide) (by rw [hM]; exact fl_X7_265) tyX7_ok nmX7 (Or.inl rfl) rfl rfl (fun q => by
    by_cases h : q = 16
    · subst h; rw [if_pos rfl]; show Value.int (up iv i 16 x i 16) = _; rw [up_same]
    · rw [if_neg h]; exact sv_off (up_ne2 h) rfl rfl) (fun j q h => up_ne1 h) (fun _ _ _ => rfl) (fun _ _ _ => rfl) kk
theorem fl_X7_285 : Cond.fieldLink "TillTheyMeetModel" 285 "TillTheyMeetModel" "dayWas" "I" ∈ gtb := (gtb_in 862 (by decide +kernel) (by decide +kernel))
theorem gf_X7_285 {i : Nat} (hd : decode M.2.1 pc = .ok (.getfield 285, 3)) (hM : M.1.cls = "TillTheyMeetModel") (hK : IsK Γ i 7) (kk : Rn g l M R Q k n (pc + 3) ls (.int (iv i 38) :: st) Γ iv rv lv) : Rn g l M R Q k n pc ls (.ref i :: st) Γ iv rv lv := rn_get (ci := 7) (fk := 38) (C := RX7) (T := TX7) (N := 55) hd hK rfl uw_X7 (by decide) (by rw [hM]; exact fl_X7_285) kk
theorem pf_X7_285 {i : Nat} {x : Int32} (hd : decode M.2.1 pc = .ok (.putfield 285, 3)) (hM : M.1.cls = "TillTheyMeetModel") (hK : IsK Γ i 7) (kk : Rn g l M R Q k n (pc + 3) ls st Γ (up iv i 38 x) rv lv) : Rn g l M R Q k n pc ls (.int x :: .ref i :: st) Γ iv rv lv := rn_put (ci := 7) (fk := 38) (C := RX7) (T := TX7) (N := 55) (ty0 := tyX7) (v := .int x) hd hK rfl uw_X7 (by decide) (by rw [hM]; exact fl_X7_285) tyX7_ok nmX7 (Or.inl rfl) rfl rfl (fun q => by
    by_cases h : q = 38
    · subst h; rw [if_pos rfl]; show Value.int (up iv i 38 x i 38) = _; rw [up_same]
    · rw [if_neg h]; exact sv_off (up_ne2 h) rfl rfl) (fun j q h => up_ne1 h) (fun _ _ _ => rfl) (fun _ _ _ => rfl) kk
theorem fl_X7_288 : Cond.fieldLink "TillTheyMeetModel" 288 "TillTheyMeetModel" "payWas" "I" ∈ gtb := (gtb_in 863 (by decide +kernel) (by decide +kernel))
theorem gf_X7_288 {i : Nat} (hd : decode M.2.1 pc = .ok (.getfield 288, 3)) (hM : M.1.cls = "TillTheyMeetModel") (hK : IsK Γ i 7) (kk : Rn g l M R Q k n (pc + 3) ls (.int (iv i 39) :: st) Γ iv rv lv) : Rn g l M R Q k n pc ls (.ref i :: st) Γ iv rv lv := rn_get (ci := 7) (fk := 39) (C := RX7) (T := TX7) (N := 55) hd hK rfl uw_X7 (by decide) (by rw [hM]; exact fl_X7_288) kk
theorem pf_X7_288 {i : Nat} {x : Int32} (hd : decode M.2.1 pc = .ok (.putfield 288, 3)) (hM : M.1.cls = "TillTheyMeetModel") (hK : IsK Γ i 7) (kk : Rn g l M R Q k n (pc + 3) ls st Γ (up iv i 39 x) rv lv) : Rn g l M R Q k n pc ls (.int x :: .ref i :: st) Γ iv rv lv := rn_put (ci := 7) (fk := 39) (C := RX7) (T := TX7) (N := 55) (ty0 := tyX7) (v := .int x) hd hK rfl uw_X7 (by decide) (by rw [hM]; exact fl_X7_288) tyX7_ok nmX7 (Or.inl rfl) rfl rfl (fun q => by
    by_cases h : q = 39
    · subst h; rw [if_pos rfl]; show Value.int (up iv i 39 x i 39) = _; rw [up_same]
    · rw [if_neg h]; exact sv_off (up_ne2 h) rfl rfl) (fun j q h => up_ne1 h) (fun _ _ _ => rfl) (fun _ _ _ => rfl) kk
theorem fl_X7_291 : Cond.fieldLink "TillTheyMeetModel" 291 "TillTheyMeetModel" "ends" "I" ∈ gtb := (gtb_in 864 (by decide +kernel) (by decide +kernel))
theorem gf_X7_291 {i : Nat} (hd : decode M.2.1 pc = .ok (.getfield 291, 3)) (hM : M.1.cls = "TillTheyMeetModel") (hK : IsK Γ i 7) (kk : Rn g l M R Q k n (pc + 3) ls (.int (iv i 40) :: st) Γ iv rv lv) : Rn g l M R Q k n pc ls (.ref i :: st) Γ iv rv lv := rn_get (ci := 7) (fk := 40) (C := RX7) (T := TX7) (N := 55) hd hK rfl uw_X7 (by decide) (by rw [hM]; exact fl_X7_291) kk
theorem pf_X7_291 {i : Nat} {x : Int32} (hd : decode M.2.1 pc = .ok (.putfield 291, 3)) (hM : M.1.cls = "TillTheyMeetModel") (hK : IsK Γ i 7) (kk : Rn g l M R Q k n (pc + 3) ls st Γ (up iv i 40 x) rv lv) : Rn g l M R Q k n pc ls (.int x :: .ref i :: st) Γ iv rv lv := rn_put (ci := 7) (fk := 40) (C := RX7) (T := TX7) (N := 55) (ty0 := tyX7) (v := .int x) hd hK rfl uw_X7 (by decide) (by rw [hM]; exact fl_X7_291) tyX7_ok nmX7 (Or.inl rfl) rfl rfl (fun q => by
    by_cases h : q = 40
    · subst h; rw [if_pos rfl]; show Value.int (up iv i 40 x i 40) = _; rw [up_same]
    · rw [if_neg h]; exact sv_off (up_ne2 h) rfl rfl) (fun j q h => up_ne1 h) (fun _ _ _ => rfl) (fun _ _ _ => rfl) kk
theorem fl_X7_316 : Cond.fieldLink "TillTheyMeetModel" 316 "TillTheyMeetModel" "bestGain" "I" ∈ gtb := (gtb_in 865 (by decide +kernel) (by decide +kernel))
theorem gf_X7_316 {i : Nat} (hd : decode M.2.1 pc = .ok (.getfield 316, 3)) (hM : M.1.cls = "TillTheyMeetModel") (hK : IsK Γ i 7) (kk : Rn g l M R Q k n (pc + 3) ls (.int (iv i 41) :: st) Γ iv rv lv) : Rn g l M R Q k n pc ls (.ref i :: st) Γ iv rv lv := rn_get (ci := 7) (fk := 41) (C := RX7) (T := TX7) (N := 55) hd hK rfl uw_X7 (by decide) (by rw [hM]; exact fl_X7_316) kk
theorem pf_X7_316 {i : Nat} {x : Int32} (hd : decode M.2.1 pc = .ok (.putfield 316, 3)) (hM : M.1.cls = "TillTheyMeetModel") (hK : IsK Γ i 7) (kk : Rn g l M R Q k n (pc + 3) ls st Γ (up iv i 41 x) rv lv) : Rn g l M R Q k n pc ls (.int x :: .ref i :: st) Γ iv rv lv := rn_put (ci := 7) (fk := 41) (C := RX7) (T := TX7) (N := 55) (ty0 := tyX7) (v := .int x) hd hK rfl uw_X7 (by decide) (by rw [hM]; exact fl_X7_316) tyX7_ok nmX7 (Or.inl rfl) rfl rfl (fun q => by
    by_cases h : q = 41
    · subst h; rw [if_pos rfl]; show Value.int (up iv i 41 x i 41) = _; rw [up_same]
    · rw [if_neg h]; exact sv_off (up_ne2 h) rfl rfl) (fun j q h => up_ne1 h) (fun _ _ _ => rfl) (fun _ _ _ => rfl) kk
theorem fl_X7_345 : Cond.fieldLink "TillTheyMeetModel" 345 "TillTheyMeetModel" "isKept" "Z" ∈ gtb := (gtb_in 869 (by decide +kernel) (by decide +kernel))
theorem gf_X7_345 {i : Nat} (hd : decode M.2.1 pc = .ok (.getfield 345, 3)) (hM : M.1.cls = "TillTheyMeetModel") (hK : IsK Γ i 7) (kk : Rn g l M R Q k n (pc + 3) ls (.int (iv i 45) :: st) Γ iv rv lv) : Rn g l M R Q k n pc ls (.ref i :: st) Γ iv rv lv := rn_get (ci := 7) (fk := 45) (C := RX7) (T := TX7) (N := 55) hd hK rfl uw_X7 (by decide) (by rw [hM]; exact fl_X7_345) kk
theorem pf_X7_345 {i : Nat} {x : Int32} (hd : decode M.2.1 pc = .ok (.putfield 345, 3)) (hM : M.1.cls = "TillTheyMeetModel") (hn : x = 0 ∨ x = 1) (hK : IsK Γ i 7) (kk : Rn g l M R Q k n (pc + 3) ls st Γ (up iv i 45 x) rv lv) : Rn g l M R Q k n pc ls (.int x :: .ref i :: st) Γ iv rv lv := rn_put (ci := 7) (fk := 45) (C := RX7) (T := TX7) (N := 55) (ty0 := tyX7) (v := .int x) hd hK rfl uw_X7 (by decide) (by rw [hM]; exact fl_X7_345) tyX7_ok nmX7 (Or.inl rfl) (by rcases hn with rfl | rfl <;> rfl) (by rcases hn with rfl | rfl <;> rfl) (fun q => by
    by_cases h : q = 45
    · subst h; rw [if_pos rfl]; show Value.int (up iv i 45 x i 45) = _; rw [up_same]
    · rw [if_neg h]; exact sv_off (up_ne2 h) rfl rfl) (fun j q h => up_ne1 h) (fun _ _ _ => rfl) (fun _ _ _ => rfl) kk
theorem fl_X7_348 : Cond.fieldLink "TillTheyMeetModel" 348 "TillTheyMeetModel" "dayKept" "I" ∈ gtb := (gtb_in 870 (by decide +kernel) (by decide +kernel))
theorem gf_X7_348 {i : Nat} (hd : decode M.2.1 pc = .ok (.getfield 348, 3)) (hM : M.1.cls = "TillTheyMeetModel") (hK : IsK Γ i 7) (kk : Rn g l M R Q k n (pc + 3) ls (.int (iv i 46) :: st) Γ iv rv lv) : Rn g l M R Q k n pc ls (.ref i :: st) Γ iv rv lv := rn_get (ci := 7) (fk := 46) (C := RX7) (T := TX7) (N := 55) hd hK rfl uw_X7 (by decide) (by rw [hM]; exact fl_X7_348) kk
theorem pf_X7_348 {i : Nat} {x : Int32} (hd : decode M.2.1 pc = .ok (.putfield 348, 3)) (hM : M.1.cls = "TillTheyMeetModel") (hK : IsK Γ i 7) (kk : Rn g l M R Q k n (pc + 3) ls st Γ (up iv i 46 x) rv lv) : Rn g l M R Q k n pc ls (.int x :: .ref i :: st) Γ iv rv lv := rn_put (ci := 7) (fk := 46) (C := RX7) (T := TX7) (N := 55) (ty0 := tyX7) (v := .int x) hd hK rfl uw_X7 (by decide) (by rw [hM]; exact fl_X7_348) tyX7_ok nmX7 (Or.inl rfl) rfl rfl (fun q => by
    by_cases h : q = 46
    · subst h; rw [if_pos rfl]; show Value.int (up iv i 46 x i 46) = _; rw [up_same]
    · rw [if_neg h]; exact sv_off (up_ne2 h) rfl rfl) (fun j q h => up_ne1 h) (fun _ _ _ => rfl) (fun _ _ _ => rfl) kk
theorem fl_X7_351 : Cond.fieldLink "TillTheyMeetModel" 351 "TillTheyMeetModel" "payYardKept" "I" ∈ gtb := (gtb_in 871 (by decide +kernel) (by decide +kernel))
theorem gf_X7_351 {i : Nat} (hd : decode M.2.1 pc = .ok (.getfield 351, 3)) (hM : M.1.cls = "TillTheyMeetModel") (hK : IsK Γ i 7) (kk : Rn g l M R Q k n (pc + 3) ls (.int (iv i 47) :: st) Γ iv rv lv) : Rn g l M R Q k n pc ls (.ref i :: st) Γ iv rv lv := rn_get (ci := 7) (fk := 47) (C := RX7) (T := TX7) (N := 55) hd hK rfl uw_X7 (by decide) (by rw [hM]; exact fl_X7_351) kk
theorem pf_X7_351 {i : Nat} {x : Int32} (hd : decode M.2.1 pc = .ok (.putfield 351, 3)) (hM : M.1.cls = "TillTheyMeetModel") (hK : IsK Γ i 7) (kk : Rn g l M R Q k n (pc + 3) ls st Γ (up iv i 47 x) rv lv) : Rn g l M R Q k n pc ls (.int x :: .ref i :: st) Γ iv rv lv := rn_put (ci := 7) (fk := 47) (C := RX7) (T := TX7) (N := 55) (ty0 := tyX7) (v := .int x) hd hK rfl uw_X7 (by decide) (by rw [hM]; exact fl_X7_351) tyX7_ok nmX7 (Or.inl rfl) rfl rfl (fun q => by
    by_cases h : q = 47
    · subst h; rw [if_pos rfl]; show Value.int (up iv i 47 x i 47) = _; rw [up_same]
    · rw [if_neg h]; exact sv_off (up_ne2 h) rfl rfl) (fun j q h => up_ne1 h) (fun _ _ _ => rfl) (fun _ _ _ => rfl) kk
theorem fl_X7_354 : Cond.fieldLink "TillTheyMeetModel" 354 "TillTheyMeetModel" "payDayKept" "I" ∈ gtb := (gtb_in 872 (by decide +kernel) (by decide +kernel))
theorem gf_X7_354 {i : Nat} (hd : decode M.2.1 pc = .ok (.getfield 354, 3)) (hM : M.1.cls = "TillTheyMeetModel") (hK : IsK Γ i 7) (kk : Rn g l M R Q k n (pc + 3) ls (.int (iv i 48) :: st) Γ iv rv lv) : Rn g l M R Q k n pc ls (.ref i :: st) Γ iv rv lv := rn_get (ci := 7) (fk := 48) (C := RX7) (T := TX7) (N := 55) hd hK rfl uw_X7 (by decide) (by rw [hM]; exact fl_X7_354) kk
theorem pf_X7_354 {i : Nat} {x : Int32} (hd : decode M.2.1 pc = .ok (.putfield 354, 3)) (hM : M.1.cls = "TillTheyMeetModel") (hK : IsK Γ i 7) (kk : Rn g l M R Q k n (pc + 3) ls st Γ (up iv i 48 x) rv lv) : Rn g l M R Q k n pc ls (.int x :: .ref i :: st) Γ iv rv lv := rn_put (ci := 7) (fk := 48) (C := RX7) (T := TX7) (N := 55) (ty0 := tyX7) (v := .int x) hd hK rfl uw_X7 (by decide) (by rw [hM]; exact fl_X7_354) tyX7_ok nmX7 (Or.inl rfl) rfl rfl (fun q => by
    by_cases h : q = 48
    · subst h; rw [if_pos rfl]; show Value.int (up iv i 48 x i 48) = _; rw [up_same]
    · rw [if_neg h]; exact sv_off (up_ne2 h) rfl rfl) (fun j q h => up_ne1 h) (fun _ _ _ => rfl) (fun _ _ _ => rfl) kk
theorem fl_X7_357 : Cond.fieldLink "TillTheyMeetModel" 357 "TillTheyMeetModel" "wageKept" "I" ∈ gtb := (gtb_in 873 (by decide +kernel) (by decide +kernel))
theorem gf_X7_357 {i : Nat} (hd : decode M.2.1 pc = .ok (.getfield 357, 3)) (hM : M.1.cls = "TillTheyMeetModel") (hK : IsK Γ i 7) (kk : Rn g l M R Q k n (pc + 3) ls (.int (iv i 49) :: st) Γ iv rv lv) : Rn g l M R Q k n pc ls (.ref i :: st) Γ iv rv lv := rn_get (ci := 7) (fk := 49) (C := RX7) (T := TX7) (N := 55) hd hK rfl uw_X7 (by decide) (by rw [hM]; exact fl_X7_357) kk
theorem pf_X7_357 {i : Nat} {x : Int32} (hd : decode M.2.1 pc = .ok (.putfield 357, 3)) (hM : M.1.cls = "TillTheyMeetModel") (hK : IsK Γ i 7) (kk : Rn g l M R Q k n (pc + 3) ls st Γ (up iv i 49 x) rv lv) : Rn g l M R Q k n pc ls (.int x :: .ref i :: st) Γ iv rv lv := rn_put (ci := 7) (fk := 49) (C := RX7) (T := TX7) (N := 55) (ty0 := tyX7) (v := .int x) hd hK rfl uw_X7 (by decide) (by rw [hM]; exact fl_X7_357) tyX7_ok nmX7 (Or.inl rfl) rfl rfl (fun q => by
    by_cases h : q = 49
    · subst h; rw [if_pos rfl]; show Value.int (up iv i 49 x i 49) = _; rw [up_same]
    · rw [if_neg h]; exact sv_off (up_ne2 h) rfl rfl) (fun j q h => up_ne1 h) (fun _ _ _ => rfl) (fun _ _ _ => rfl) kk
theorem fl_X7_360 : Cond.fieldLink "TillTheyMeetModel" 360 "TillTheyMeetModel" "ruleKept" "I" ∈ gtb := (gtb_in 874 (by decide +kernel) (by decide +kernel))
theorem gf_X7_360 {i : Nat} (hd : decode M.2.1 pc = .ok (.getfield 360, 3)) (hM : M.1.cls = "TillTheyMeetModel") (hK : IsK Γ i 7) (kk : Rn g l M R Q k n (pc + 3) ls (.int (iv i 50) :: st) Γ iv rv lv) : Rn g l M R Q k n pc ls (.ref i :: st) Γ iv rv lv := rn_get (ci := 7) (fk := 50) (C := RX7) (T := TX7) (N := 55) hd hK rfl uw_X7 (by decide) (by rw [hM]; exact fl_X7_360) kk
theorem pf_X7_360 {i : Nat} {x : Int32} (hd : decode M.2.1 pc = .ok (.putfield 360, 3)) (hM : M.1.cls = "TillTheyMeetModel") (hK : IsK Γ i 7) (kk : Rn g l M R Q k n (pc + 3) ls st Γ (up iv i 50 x) rv lv) : Rn g l M R Q k n pc ls (.int x :: .ref i :: st) Γ iv rv lv := rn_put (ci := 7) (fk := 50) (C := RX7) (T := TX7) (N := 55) (ty0 := tyX7) (v := .int x) hd hK rfl uw_X7 (by decide) (by rw [hM]; exact fl_X7_360) tyX7_ok nmX7 (Or.inl rfl) rfl rfl (fun q => by
    by_cases h : q = 50
    · subst h; rw [if_pos rfl]; show Value.int (up iv i 50 x i 50) = _; rw [up_same]
    · rw [if_neg h]; exact sv_off (up_ne2 h) rfl rfl) (fun j q h => up_ne1 h) (fun _ _ _ => rfl) (fun _ _ _ => rfl) kk
theorem fl_J0_9 : Cond.fieldLink "java/lang/String" 9 "java/lang/String" "value" "[B" ∈ gtb := (gtb_in 1291 (by decide +kernel) (by decide +kernel))
theorem fl_J0_15 : Cond.fieldLink "java/lang/String" 15 "java/lang/String" "coder" "B" ∈ gtb := (gtb_in 1292 (by decide +kernel) (by decide +kernel))
theorem fl_J0_38 : Cond.fieldLink "java/lang/String" 38 "java/lang/String" "COMPACT_STRINGS" "Z" ∈ gtb := (gtb_in 148 (by decide +kernel) (by decide +kernel))
theorem fl_J0_1053 : Cond.fieldLink "java/lang/String" 1053 "jdk/internal/util/Preconditions" "SIOOBE_FORMATTER" "Ljava/util/function/BiFunction;" ∈ gtb := (gtb_in 164 (by decide +kernel) (by decide +kernel))
theorem fl_J2_44 : Cond.fieldLink "java/lang/StringUTF16" 44 "java/lang/StringUTF16" "$assertionsDisabled" "Z" ∈ gtb := (gtb_in 182 (by decide +kernel) (by decide +kernel))
theorem fl_J2_59 : Cond.fieldLink "java/lang/StringUTF16" 59 "java/lang/StringUTF16" "HI_BYTE_SHIFT" "I" ∈ gtb := (gtb_in 184 (by decide +kernel) (by decide +kernel))
theorem fl_J2_63 : Cond.fieldLink "java/lang/StringUTF16" 63 "java/lang/StringUTF16" "LO_BYTE_SHIFT" "I" ∈ gtb := (gtb_in 186 (by decide +kernel) (by decide +kernel))
theorem ok_X0_init : OkM mX0_init 0 := ⟨gtb_in 81 (by decide +kernel) (by decide +kernel), gtb_in 54 (by decide +kernel) (by decide +kernel), by decide +kernel, by decide +kernel, by decide +kernel, by decide +kernel⟩
theorem oi_X0_init : OkI mX0_init 0 := ⟨ok_X0_init, (gtb_in 80 (by decide +kernel) (by decide +kernel)), rfl, rfl⟩
theorem ok_X0_clear : OkM mX0_clear 0 := ⟨gtb_in 684 (by decide +kernel) (by decide +kernel), gtb_in 54 (by decide +kernel) (by decide +kernel), by decide +kernel, by decide +kernel, by decide +kernel, by decide +kernel⟩
theorem ov_X0_clear : OkV mX0_clear 0 := ⟨ok_X0_clear, (gtb_in 682 (by decide +kernel) (by decide +kernel)), gtb_in 683 (by decide +kernel) (by decide +kernel)⟩
theorem ok_X0_offer : OkM mX0_offer 2 := ⟨gtb_in 688 (by decide +kernel) (by decide +kernel), gtb_in 54 (by decide +kernel) (by decide +kernel), by decide +kernel, by decide +kernel, by decide +kernel, by decide +kernel⟩
theorem ov_X0_offer : OkV mX0_offer 2 := ⟨ok_X0_offer, (gtb_in 686 (by decide +kernel) (by decide +kernel)), gtb_in 687 (by decide +kernel) (by decide +kernel)⟩
theorem ok_X1_init : OkM mX1_init 1 := ⟨gtb_in 371 (by decide +kernel) (by decide +kernel), gtb_in 66 (by decide +kernel) (by decide +kernel), by decide +kernel, by decide +kernel, by decide +kernel, by decide +kernel⟩
theorem oi_X1_init : OkI mX1_init 1 := ⟨ok_X1_init, (gtb_in 370 (by decide +kernel) (by decide +kernel)), rfl, rfl⟩
theorem ok_X1_nextYard : OkM mX1_nextYard 0 := ⟨gtb_in 578 (by decide +kernel) (by decide +kernel), gtb_in 66 (by decide +kernel) (by decide +kernel), by decide +kernel, by decide +kernel, by decide +kernel, by decide +kernel⟩
theorem ov_X1_nextYard : OkV mX1_nextYard 0 := ⟨ok_X1_nextYard, (gtb_in 576 (by decide +kernel) (by decide +kernel)), gtb_in 577 (by decide +kernel) (by decide +kernel)⟩
theorem ok_X1_gain : OkM mX1_gain 0 := ⟨gtb_in 664 (by decide +kernel) (by decide +kernel), gtb_in 66 (by decide +kernel) (by decide +kernel), by decide +kernel, by decide +kernel, by decide +kernel, by decide +kernel⟩
theorem ov_X1_gain : OkV mX1_gain 0 := ⟨ok_X1_gain, (gtb_in 662 (by decide +kernel) (by decide +kernel)), gtb_in 663 (by decide +kernel) (by decide +kernel)⟩
theorem ok_X1_does : OkM mX1_does 3 := ⟨gtb_in 586 (by decide +kernel) (by decide +kernel), gtb_in 66 (by decide +kernel) (by decide +kernel), by decide +kernel, by decide +kernel, by decide +kernel, by decide +kernel⟩
theorem ov_X1_does : OkV mX1_does 3 := ⟨ok_X1_does, (gtb_in 584 (by decide +kernel) (by decide +kernel)), gtb_in 585 (by decide +kernel) (by decide +kernel)⟩
theorem ok_X1_isNight : OkM mX1_isNight 1 := ⟨gtb_in 590 (by decide +kernel) (by decide +kernel), gtb_in 66 (by decide +kernel) (by decide +kernel), by decide +kernel, by decide +kernel, by decide +kernel, by decide +kernel⟩
theorem ov_X1_isNight : OkV mX1_isNight 1 := ⟨ok_X1_isNight, (gtb_in 589 (by decide +kernel) (by decide +kernel)), gtb_in 13 (by decide +kernel) (by decide +kernel)⟩
theorem ok_X1_costs : OkM mX1_costs 0 := ⟨gtb_in 595 (by decide +kernel) (by decide +kernel), gtb_in 66 (by decide +kernel) (by decide +kernel), by decide +kernel, by decide +kernel, by decide +kernel, by decide +kernel⟩
theorem ov_X1_costs : OkV mX1_costs 0 := ⟨ok_X1_costs, (gtb_in 593 (by decide +kernel) (by decide +kernel)), gtb_in 594 (by decide +kernel) (by decide +kernel)⟩
theorem ok_X1_isUnder : OkM mX1_isUnder 1 := ⟨gtb_in 811 (by decide +kernel) (by decide +kernel), gtb_in 66 (by decide +kernel) (by decide +kernel), by decide +kernel, by decide +kernel, by decide +kernel, by decide +kernel⟩
theorem ov_X1_isUnder : OkV mX1_isUnder 1 := ⟨ok_X1_isUnder, (gtb_in 809 (by decide +kernel) (by decide +kernel)), gtb_in 810 (by decide +kernel) (by decide +kernel)⟩
theorem ok_X1_copyKept : OkM mX1_copyKept 1 := ⟨gtb_in 654 (by decide +kernel) (by decide +kernel), gtb_in 66 (by decide +kernel) (by decide +kernel), by decide +kernel, by decide +kernel, by decide +kernel, by decide +kernel⟩
theorem ov_X1_copyKept : OkV mX1_copyKept 1 := ⟨ok_X1_copyKept, (gtb_in 652 (by decide +kernel) (by decide +kernel)), gtb_in 653 (by decide +kernel) (by decide +kernel)⟩
theorem ok_X1_forgetAnswers : OkM mX1_forgetAnswers 0 := ⟨gtb_in 619 (by decide +kernel) (by decide +kernel), gtb_in 66 (by decide +kernel) (by decide +kernel), by decide +kernel, by decide +kernel, by decide +kernel, by decide +kernel⟩
theorem ov_X1_forgetAnswers : OkV mX1_forgetAnswers 0 := ⟨ok_X1_forgetAnswers, (gtb_in 617 (by decide +kernel) (by decide +kernel)), gtb_in 618 (by decide +kernel) (by decide +kernel)⟩
theorem ok_X2_init : OkM mX2_init 0 := ⟨gtb_in 99 (by decide +kernel) (by decide +kernel), gtb_in 55 (by decide +kernel) (by decide +kernel), by decide +kernel, by decide +kernel, by decide +kernel, by decide +kernel⟩
theorem oi_X2_init : OkI mX2_init 0 := ⟨ok_X2_init, (gtb_in 98 (by decide +kernel) (by decide +kernel)), rfl, rfl⟩
theorem ok_X2_append : OkM mX2_append 1 := ⟨gtb_in 191 (by decide +kernel) (by decide +kernel), gtb_in 55 (by decide +kernel) (by decide +kernel), by decide +kernel, by decide +kernel, by decide +kernel, by decide +kernel⟩
theorem ov_X2_append : OkV mX2_append 1 := ⟨ok_X2_append, (gtb_in 189 (by decide +kernel) (by decide +kernel)), gtb_in 190 (by decide +kernel) (by decide +kernel)⟩
theorem ok_X2_ruleOf : OkM mX2_ruleOf 1 := ⟨gtb_in 318 (by decide +kernel) (by decide +kernel), gtb_in 55 (by decide +kernel) (by decide +kernel), by decide +kernel, by decide +kernel, by decide +kernel, by decide +kernel⟩
theorem ov_X2_ruleOf : OkV mX2_ruleOf 1 := ⟨ok_X2_ruleOf, (gtb_in 316 (by decide +kernel) (by decide +kernel)), gtb_in 317 (by decide +kernel) (by decide +kernel)⟩
theorem ok_X2_readText : OkM mX2_readText 0 := ⟨gtb_in 195 (by decide +kernel) (by decide +kernel), gtb_in 55 (by decide +kernel) (by decide +kernel), by decide +kernel, by decide +kernel, by decide +kernel, by decide +kernel⟩
theorem ov_X2_readText : OkV mX2_readText 0 := ⟨ok_X2_readText, (gtb_in 193 (by decide +kernel) (by decide +kernel)), gtb_in 194 (by decide +kernel) (by decide +kernel)⟩
theorem ok_X2_refuse : OkM mX2_refuse 0 := ⟨gtb_in 294 (by decide +kernel) (by decide +kernel), gtb_in 55 (by decide +kernel) (by decide +kernel), by decide +kernel, by decide +kernel, by decide +kernel, by decide +kernel⟩
theorem ov_X2_refuse : OkV mX2_refuse 0 := ⟨ok_X2_refuse, (gtb_in 293 (by decide +kernel) (by decide +kernel)), gtb_in 6 (by decide +kernel) (by decide +kernel)⟩
theorem ok_X2_expect : OkM mX2_expect 1 := ⟨gtb_in 290 (by decide +kernel) (by decide +kernel), gtb_in 55 (by decide +kernel) (by decide +kernel), by decide +kernel, by decide +kernel, by decide +kernel, by decide +kernel⟩
theorem ov_X2_expect : OkV mX2_expect 1 := ⟨ok_X2_expect, (gtb_in 289 (by decide +kernel) (by decide +kernel)), gtb_in 5 (by decide +kernel) (by decide +kernel)⟩
theorem ok_X2_put : OkM mX2_put 1 := ⟨gtb_in 306 (by decide +kernel) (by decide +kernel), gtb_in 55 (by decide +kernel) (by decide +kernel), by decide +kernel, by decide +kernel, by decide +kernel, by decide +kernel⟩
theorem ov_X2_put : OkV mX2_put 1 := ⟨ok_X2_put, (gtb_in 305 (by decide +kernel) (by decide +kernel)), gtb_in 9 (by decide +kernel) (by decide +kernel)⟩
theorem ok_X2_readLevel : OkM mX2_readLevel 2 := ⟨gtb_in 298 (by decide +kernel) (by decide +kernel), gtb_in 55 (by decide +kernel) (by decide +kernel), by decide +kernel, by decide +kernel, by decide +kernel, by decide +kernel⟩
theorem ov_X2_readLevel : OkV mX2_readLevel 2 := ⟨ok_X2_readLevel, (gtb_in 297 (by decide +kernel) (by decide +kernel)), gtb_in 7 (by decide +kernel) (by decide +kernel)⟩
theorem ok_X2_readOne : OkM mX2_readOne 1 := ⟨gtb_in 302 (by decide +kernel) (by decide +kernel), gtb_in 55 (by decide +kernel) (by decide +kernel), by decide +kernel, by decide +kernel, by decide +kernel, by decide +kernel⟩
theorem ov_X2_readOne : OkV mX2_readOne 1 := ⟨ok_X2_readOne, (gtb_in 301 (by decide +kernel) (by decide +kernel)), gtb_in 8 (by decide +kernel) (by decide +kernel)⟩
theorem ok_X2_opens : OkM mX2_opens 1 := ⟨gtb_in 310 (by decide +kernel) (by decide +kernel), gtb_in 55 (by decide +kernel) (by decide +kernel), by decide +kernel, by decide +kernel, by decide +kernel, by decide +kernel⟩
theorem ov_X2_opens : OkV mX2_opens 1 := ⟨ok_X2_opens, (gtb_in 309 (by decide +kernel) (by decide +kernel)), gtb_in 10 (by decide +kernel) (by decide +kernel)⟩
theorem ok_X2_stepAt : OkM mX2_stepAt 1 := ⟨gtb_in 314 (by decide +kernel) (by decide +kernel), gtb_in 55 (by decide +kernel) (by decide +kernel), by decide +kernel, by decide +kernel, by decide +kernel, by decide +kernel⟩
theorem ov_X2_stepAt : OkV mX2_stepAt 1 := ⟨ok_X2_stepAt, (gtb_in 313 (by decide +kernel) (by decide +kernel)), gtb_in 11 (by decide +kernel) (by decide +kernel)⟩
theorem ok_X2_advance : OkM mX2_advance 0 := ⟨gtb_in 199 (by decide +kernel) (by decide +kernel), gtb_in 55 (by decide +kernel) (by decide +kernel), by decide +kernel, by decide +kernel, by decide +kernel, by decide +kernel⟩
theorem ov_X2_advance : OkV mX2_advance 0 := ⟨ok_X2_advance, (gtb_in 198 (by decide +kernel) (by decide +kernel)), gtb_in 0 (by decide +kernel) (by decide +kernel)⟩
theorem ok_X2_readNumber : OkM mX2_readNumber 0 := ⟨gtb_in 209 (by decide +kernel) (by decide +kernel), gtb_in 55 (by decide +kernel) (by decide +kernel), by decide +kernel, by decide +kernel, by decide +kernel, by decide +kernel⟩
theorem ov_X2_readNumber : OkV mX2_readNumber 0 := ⟨ok_X2_readNumber, (gtb_in 208 (by decide +kernel) (by decide +kernel)), gtb_in 1 (by decide +kernel) (by decide +kernel)⟩
theorem ok_X2_readWord : OkM mX2_readWord 0 := ⟨gtb_in 216 (by decide +kernel) (by decide +kernel), gtb_in 55 (by decide +kernel) (by decide +kernel), by decide +kernel, by decide +kernel, by decide +kernel, by decide +kernel⟩
theorem ov_X2_readWord : OkV mX2_readWord 0 := ⟨ok_X2_readWord, (gtb_in 215 (by decide +kernel) (by decide +kernel)), gtb_in 2 (by decide +kernel) (by decide +kernel)⟩
theorem ok_X2_spells : OkM mX2_spells 1 := ⟨gtb_in 220 (by decide +kernel) (by decide +kernel), gtb_in 55 (by decide +kernel) (by decide +kernel), by decide +kernel, by decide +kernel, by decide +kernel, by decide +kernel⟩
theorem ov_X2_spells : OkV mX2_spells 1 := ⟨ok_X2_spells, (gtb_in 219 (by decide +kernel) (by decide +kernel)), gtb_in 3 (by decide +kernel) (by decide +kernel)⟩
theorem ok_X2_readSign : OkM mX2_readSign 1 := ⟨gtb_in 226 (by decide +kernel) (by decide +kernel), gtb_in 55 (by decide +kernel) (by decide +kernel), by decide +kernel, by decide +kernel, by decide +kernel, by decide +kernel⟩
theorem ov_X2_readSign : OkV mX2_readSign 1 := ⟨ok_X2_readSign, (gtb_in 225 (by decide +kernel) (by decide +kernel)), gtb_in 4 (by decide +kernel) (by decide +kernel)⟩
theorem ok_X2_isBlank : OkM mX2_isBlank 1 := ⟨gtb_in 202 (by decide +kernel) (by decide +kernel), gtb_in 55 (by decide +kernel) (by decide +kernel), by decide +kernel, by decide +kernel, by decide +kernel, by decide +kernel⟩
theorem os_X2_isBlank : OkS mX2_isBlank 1 := ⟨ok_X2_isBlank, (gtb_in 201 (by decide +kernel) (by decide +kernel))⟩
theorem ok_X2_isDigit : OkM mX2_isDigit 1 := ⟨gtb_in 205 (by decide +kernel) (by decide +kernel), gtb_in 55 (by decide +kernel) (by decide +kernel), by decide +kernel, by decide +kernel, by decide +kernel, by decide +kernel⟩
theorem os_X2_isDigit : OkS mX2_isDigit 1 := ⟨ok_X2_isDigit, (gtb_in 204 (by decide +kernel) (by decide +kernel))⟩
theorem ok_X2_isLetter : OkM mX2_isLetter 1 := ⟨gtb_in 212 (by decide +kernel) (by decide +kernel), gtb_in 55 (by decide +kernel) (by decide +kernel), by decide +kernel, by decide +kernel, by decide +kernel, by decide +kernel⟩
theorem os_X2_isLetter : OkS mX2_isLetter 1 := ⟨ok_X2_isLetter, (gtb_in 211 (by decide +kernel) (by decide +kernel))⟩
theorem ok_X3_init : OkM mX3_init 1 := ⟨gtb_in 365 (by decide +kernel) (by decide +kernel), gtb_in 65 (by decide +kernel) (by decide +kernel), by decide +kernel, by decide +kernel, by decide +kernel, by decide +kernel⟩
theorem oi_X3_init : OkI mX3_init 1 := ⟨ok_X3_init, (gtb_in 364 (by decide +kernel) (by decide +kernel)), rfl, rfl⟩
theorem ok_X3_gangOf : OkM mX3_gangOf 1 := ⟨gtb_in 557 (by decide +kernel) (by decide +kernel), gtb_in 65 (by decide +kernel) (by decide +kernel), by decide +kernel, by decide +kernel, by decide +kernel, by decide +kernel⟩
theorem ov_X3_gangOf : OkV mX3_gangOf 1 := ⟨ok_X3_gangOf, (gtb_in 555 (by decide +kernel) (by decide +kernel)), gtb_in 556 (by decide +kernel) (by decide +kernel)⟩
theorem ok_X3_groundOf : OkM mX3_groundOf 1 := ⟨gtb_in 582 (by decide +kernel) (by decide +kernel), gtb_in 65 (by decide +kernel) (by decide +kernel), by decide +kernel, by decide +kernel, by decide +kernel, by decide +kernel⟩
theorem ov_X3_groundOf : OkV mX3_groundOf 1 := ⟨ok_X3_groundOf, (gtb_in 580 (by decide +kernel) (by decide +kernel)), gtb_in 581 (by decide +kernel) (by decide +kernel)⟩
theorem ok_X3_ahead : OkM mX3_ahead 0 := ⟨gtb_in 536 (by decide +kernel) (by decide +kernel), gtb_in 65 (by decide +kernel) (by decide +kernel), by decide +kernel, by decide +kernel, by decide +kernel, by decide +kernel⟩
theorem ov_X3_ahead : OkV mX3_ahead 0 := ⟨ok_X3_ahead, (gtb_in 534 (by decide +kernel) (by decide +kernel)), gtb_in 535 (by decide +kernel) (by decide +kernel)⟩
theorem ok_X3_doerOf : OkM mX3_doerOf 1 := ⟨gtb_in 522 (by decide +kernel) (by decide +kernel), gtb_in 65 (by decide +kernel) (by decide +kernel), by decide +kernel, by decide +kernel, by decide +kernel, by decide +kernel⟩
theorem ov_X3_doerOf : OkV mX3_doerOf 1 := ⟨ok_X3_doerOf, (gtb_in 520 (by decide +kernel) (by decide +kernel)), gtb_in 521 (by decide +kernel) (by decide +kernel)⟩
theorem ok_X3_paid : OkM mX3_paid 0 := ⟨gtb_in 668 (by decide +kernel) (by decide +kernel), gtb_in 65 (by decide +kernel) (by decide +kernel), by decide +kernel, by decide +kernel, by decide +kernel, by decide +kernel⟩
theorem ov_X3_paid : OkV mX3_paid 0 := ⟨ok_X3_paid, (gtb_in 666 (by decide +kernel) (by decide +kernel)), gtb_in 667 (by decide +kernel) (by decide +kernel)⟩
theorem ok_X3_worth : OkM mX3_worth 0 := ⟨gtb_in 672 (by decide +kernel) (by decide +kernel), gtb_in 65 (by decide +kernel) (by decide +kernel), by decide +kernel, by decide +kernel, by decide +kernel, by decide +kernel⟩
theorem ov_X3_worth : OkV mX3_worth 0 := ⟨ok_X3_worth, (gtb_in 670 (by decide +kernel) (by decide +kernel)), gtb_in 671 (by decide +kernel) (by decide +kernel)⟩
theorem ok_X3_ask : OkM mX3_ask 3 := ⟨gtb_in 530 (by decide +kernel) (by decide +kernel), gtb_in 65 (by decide +kernel) (by decide +kernel), by decide +kernel, by decide +kernel, by decide +kernel, by decide +kernel⟩
theorem ov_X3_ask : OkV mX3_ask 3 := ⟨ok_X3_ask, (gtb_in 528 (by decide +kernel) (by decide +kernel)), gtb_in 529 (by decide +kernel) (by decide +kernel)⟩
theorem ok_X3_askOfNext : OkM mX3_askOfNext 2 := ⟨gtb_in 633 (by decide +kernel) (by decide +kernel), gtb_in 65 (by decide +kernel) (by decide +kernel), by decide +kernel, by decide +kernel, by decide +kernel, by decide +kernel⟩
theorem ov_X3_askOfNext : OkV mX3_askOfNext 2 := ⟨ok_X3_askOfNext, (gtb_in 632 (by decide +kernel) (by decide +kernel)), gtb_in 15 (by decide +kernel) (by decide +kernel)⟩
theorem ok_X3_forgetAnswers : OkM mX3_forgetAnswers 0 := ⟨gtb_in 615 (by decide +kernel) (by decide +kernel), gtb_in 65 (by decide +kernel) (by decide +kernel), by decide +kernel, by decide +kernel, by decide +kernel, by decide +kernel⟩
theorem ov_X3_forgetAnswers : OkV mX3_forgetAnswers 0 := ⟨ok_X3_forgetAnswers, (gtb_in 613 (by decide +kernel) (by decide +kernel)), gtb_in 614 (by decide +kernel) (by decide +kernel)⟩
theorem ok_X3_takeTurn : OkM mX3_takeTurn 1 := ⟨gtb_in 627 (by decide +kernel) (by decide +kernel), gtb_in 65 (by decide +kernel) (by decide +kernel), by decide +kernel, by decide +kernel, by decide +kernel, by decide +kernel⟩
theorem ov_X3_takeTurn : OkV mX3_takeTurn 1 := ⟨ok_X3_takeTurn, (gtb_in 626 (by decide +kernel) (by decide +kernel)), gtb_in 14 (by decide +kernel) (by decide +kernel)⟩
theorem ok_X3_passDay : OkM mX3_passDay 1 := ⟨gtb_in 623 (by decide +kernel) (by decide +kernel), gtb_in 65 (by decide +kernel) (by decide +kernel), by decide +kernel, by decide +kernel, by decide +kernel, by decide +kernel⟩
theorem ov_X3_passDay : OkV mX3_passDay 1 := ⟨ok_X3_passDay, (gtb_in 621 (by decide +kernel) (by decide +kernel)), gtb_in 622 (by decide +kernel) (by decide +kernel)⟩
theorem ok_X3_runOut : OkM mX3_runOut 2 := ⟨gtb_in 659 (by decide +kernel) (by decide +kernel), gtb_in 65 (by decide +kernel) (by decide +kernel), by decide +kernel, by decide +kernel, by decide +kernel, by decide +kernel⟩
theorem ov_X3_runOut : OkV mX3_runOut 2 := ⟨ok_X3_runOut, (gtb_in 657 (by decide +kernel) (by decide +kernel)), gtb_in 658 (by decide +kernel) (by decide +kernel)⟩
theorem ok_X3_copyKept : OkM mX3_copyKept 1 := ⟨gtb_in 649 (by decide +kernel) (by decide +kernel), gtb_in 65 (by decide +kernel) (by decide +kernel), by decide +kernel, by decide +kernel, by decide +kernel, by decide +kernel⟩
theorem ov_X3_copyKept : OkV mX3_copyKept 1 := ⟨ok_X3_copyKept, (gtb_in 647 (by decide +kernel) (by decide +kernel)), gtb_in 648 (by decide +kernel) (by decide +kernel)⟩
theorem ok_X3_copyAll : OkM mX3_copyAll 1 := ⟨gtb_in 645 (by decide +kernel) (by decide +kernel), gtb_in 65 (by decide +kernel) (by decide +kernel), by decide +kernel, by decide +kernel, by decide +kernel, by decide +kernel⟩
theorem ov_X3_copyAll : OkV mX3_copyAll 1 := ⟨ok_X3_copyAll, (gtb_in 643 (by decide +kernel) (by decide +kernel)), gtb_in 644 (by decide +kernel) (by decide +kernel)⟩
theorem ok_X4_init : OkM mX4_init 3 := ⟨gtb_in 339 (by decide +kernel) (by decide +kernel), gtb_in 62 (by decide +kernel) (by decide +kernel), by decide +kernel, by decide +kernel, by decide +kernel, by decide +kernel⟩
theorem oi_X4_init : OkI mX4_init 3 := ⟨ok_X4_init, (gtb_in 338 (by decide +kernel) (by decide +kernel)), rfl, rfl⟩
theorem ok_X4_valueOf : OkM mX4_valueOf 2 := ⟨gtb_in 544 (by decide +kernel) (by decide +kernel), gtb_in 62 (by decide +kernel) (by decide +kernel), by decide +kernel, by decide +kernel, by decide +kernel, by decide +kernel⟩
theorem ov_X4_valueOf : OkV mX4_valueOf 2 := ⟨ok_X4_valueOf, (gtb_in 542 (by decide +kernel) (by decide +kernel)), gtb_in 543 (by decide +kernel) (by decide +kernel)⟩
theorem ok_X5_init : OkM mX5_init 0 := ⟨gtb_in 463 (by decide +kernel) (by decide +kernel), gtb_in 67 (by decide +kernel) (by decide +kernel), by decide +kernel, by decide +kernel, by decide +kernel, by decide +kernel⟩
theorem oi_X5_init : OkI mX5_init 0 := ⟨ok_X5_init, (gtb_in 462 (by decide +kernel) (by decide +kernel)), rfl, rfl⟩
theorem ok_X5_isMissing : OkM mX5_isMissing 0 := ⟨gtb_in 720 (by decide +kernel) (by decide +kernel), gtb_in 67 (by decide +kernel) (by decide +kernel), by decide +kernel, by decide +kernel, by decide +kernel, by decide +kernel⟩
theorem ov_X5_isMissing : OkV mX5_isMissing 0 := ⟨ok_X5_isMissing, (gtb_in 718 (by decide +kernel) (by decide +kernel)), gtb_in 719 (by decide +kernel) (by decide +kernel)⟩
theorem ok_X5_become : OkM mX5_become 2 := ⟨gtb_in 774 (by decide +kernel) (by decide +kernel), gtb_in 67 (by decide +kernel) (by decide +kernel), by decide +kernel, by decide +kernel, by decide +kernel, by decide +kernel⟩
theorem ov_X5_become : OkV mX5_become 2 := ⟨ok_X5_become, (gtb_in 772 (by decide +kernel) (by decide +kernel)), gtb_in 773 (by decide +kernel) (by decide +kernel)⟩
theorem ok_X5_has : OkM mX5_has 1 := ⟨gtb_in 785 (by decide +kernel) (by decide +kernel), gtb_in 67 (by decide +kernel) (by decide +kernel), by decide +kernel, by decide +kernel, by decide +kernel, by decide +kernel⟩
theorem ov_X5_has : OkV mX5_has 1 := ⟨ok_X5_has, (gtb_in 783 (by decide +kernel) (by decide +kernel)), gtb_in 784 (by decide +kernel) (by decide +kernel)⟩
theorem ok_X5_hasSpan : OkM mX5_hasSpan 2 := ⟨gtb_in 797 (by decide +kernel) (by decide +kernel), gtb_in 67 (by decide +kernel) (by decide +kernel), by decide +kernel, by decide +kernel, by decide +kernel, by decide +kernel⟩
theorem ov_X5_hasSpan : OkV mX5_hasSpan 2 := ⟨ok_X5_hasSpan, (gtb_in 795 (by decide +kernel) (by decide +kernel)), gtb_in 796 (by decide +kernel) (by decide +kernel)⟩
theorem ok_X5_cut : OkM mX5_cut 1 := ⟨gtb_in 789 (by decide +kernel) (by decide +kernel), gtb_in 67 (by decide +kernel) (by decide +kernel), by decide +kernel, by decide +kernel, by decide +kernel, by decide +kernel⟩
theorem ov_X5_cut : OkV mX5_cut 1 := ⟨ok_X5_cut, (gtb_in 787 (by decide +kernel) (by decide +kernel)), gtb_in 788 (by decide +kernel) (by decide +kernel)⟩
theorem ok_X6_init : OkM mX6_init 0 := ⟨gtb_in 73 (by decide +kernel) (by decide +kernel), gtb_in 53 (by decide +kernel) (by decide +kernel), by decide +kernel, by decide +kernel, by decide +kernel, by decide +kernel⟩
theorem oi_X6_init : OkI mX6_init 0 := ⟨ok_X6_init, (gtb_in 72 (by decide +kernel) (by decide +kernel)), rfl, rfl⟩
theorem ok_X6_ground : OkM mX6_ground 3 := ⟨gtb_in 512 (by decide +kernel) (by decide +kernel), gtb_in 53 (by decide +kernel) (by decide +kernel), by decide +kernel, by decide +kernel, by decide +kernel, by decide +kernel⟩
theorem ov_X6_ground : OkV mX6_ground 3 := ⟨ok_X6_ground, (gtb_in 510 (by decide +kernel) (by decide +kernel)), gtb_in 511 (by decide +kernel) (by decide +kernel)⟩
theorem ok_X6_yard : OkM mX6_yard 2 := ⟨gtb_in 526 (by decide +kernel) (by decide +kernel), gtb_in 53 (by decide +kernel) (by decide +kernel), by decide +kernel, by decide +kernel, by decide +kernel, by decide +kernel⟩
theorem ov_X6_yard : OkV mX6_yard 2 := ⟨ok_X6_yard, (gtb_in 524 (by decide +kernel) (by decide +kernel)), gtb_in 525 (by decide +kernel) (by decide +kernel)⟩
theorem ok_X6_gang : OkM mX6_gang 3 := ⟨gtb_in 550 (by decide +kernel) (by decide +kernel), gtb_in 53 (by decide +kernel) (by decide +kernel), by decide +kernel, by decide +kernel, by decide +kernel, by decide +kernel⟩
theorem ov_X6_gang : OkV mX6_gang 3 := ⟨ok_X6_gang, (gtb_in 548 (by decide +kernel) (by decide +kernel)), gtb_in 549 (by decide +kernel) (by decide +kernel)⟩
theorem ok_X6_set : OkM mX6_set 2 := ⟨gtb_in 561 (by decide +kernel) (by decide +kernel), gtb_in 53 (by decide +kernel) (by decide +kernel), by decide +kernel, by decide +kernel, by decide +kernel, by decide +kernel⟩
theorem ov_X6_set : OkV mX6_set 2 := ⟨ok_X6_set, (gtb_in 559 (by decide +kernel) (by decide +kernel)), gtb_in 560 (by decide +kernel) (by decide +kernel)⟩
theorem ok_X6_told : OkM mX6_told 2 := ⟨gtb_in 569 (by decide +kernel) (by decide +kernel), gtb_in 53 (by decide +kernel) (by decide +kernel), by decide +kernel, by decide +kernel, by decide +kernel, by decide +kernel⟩
theorem ov_X6_told : OkV mX6_told 2 := ⟨ok_X6_told, (gtb_in 567 (by decide +kernel) (by decide +kernel)), gtb_in 568 (by decide +kernel) (by decide +kernel)⟩
theorem ok_X6_doesToday : OkM mX6_doesToday 1 := ⟨gtb_in 574 (by decide +kernel) (by decide +kernel), gtb_in 53 (by decide +kernel) (by decide +kernel), by decide +kernel, by decide +kernel, by decide +kernel, by decide +kernel⟩
theorem ov_X6_doesToday : OkV mX6_doesToday 1 := ⟨ok_X6_doesToday, (gtb_in 573 (by decide +kernel) (by decide +kernel)), gtb_in 12 (by decide +kernel) (by decide +kernel)⟩
theorem ok_X6_feed : OkM mX6_feed 1 := ⟨gtb_in 599 (by decide +kernel) (by decide +kernel), gtb_in 53 (by decide +kernel) (by decide +kernel), by decide +kernel, by decide +kernel, by decide +kernel, by decide +kernel⟩
theorem ov_X6_feed : OkV mX6_feed 1 := ⟨ok_X6_feed, (gtb_in 597 (by decide +kernel) (by decide +kernel)), gtb_in 598 (by decide +kernel) (by decide +kernel)⟩
theorem ok_X6_text : OkM mX6_text 0 := ⟨gtb_in 603 (by decide +kernel) (by decide +kernel), gtb_in 53 (by decide +kernel) (by decide +kernel), by decide +kernel, by decide +kernel, by decide +kernel, by decide +kernel⟩
theorem ov_X6_text : OkV mX6_text 0 := ⟨ok_X6_text, (gtb_in 601 (by decide +kernel) (by decide +kernel)), gtb_in 602 (by decide +kernel) (by decide +kernel)⟩
theorem ok_X6_force : OkM mX6_force 1 := ⟨gtb_in 607 (by decide +kernel) (by decide +kernel), gtb_in 53 (by decide +kernel) (by decide +kernel), by decide +kernel, by decide +kernel, by decide +kernel, by decide +kernel⟩
theorem ov_X6_force : OkV mX6_force 1 := ⟨ok_X6_force, (gtb_in 605 (by decide +kernel) (by decide +kernel)), gtb_in 606 (by decide +kernel) (by decide +kernel)⟩
theorem ok_X6_day : OkM mX6_day 0 := ⟨gtb_in 611 (by decide +kernel) (by decide +kernel), gtb_in 53 (by decide +kernel) (by decide +kernel), by decide +kernel, by decide +kernel, by decide +kernel, by decide +kernel⟩
theorem ov_X6_day : OkV mX6_day 0 := ⟨ok_X6_day, (gtb_in 609 (by decide +kernel) (by decide +kernel)), gtb_in 610 (by decide +kernel) (by decide +kernel)⟩
theorem ok_X6_run : OkM mX6_run 1 := ⟨gtb_in 640 (by decide +kernel) (by decide +kernel), gtb_in 53 (by decide +kernel) (by decide +kernel), by decide +kernel, by decide +kernel, by decide +kernel, by decide +kernel⟩
theorem ov_X6_run : OkV mX6_run 1 := ⟨ok_X6_run, (gtb_in 638 (by decide +kernel) (by decide +kernel)), gtb_in 639 (by decide +kernel) (by decide +kernel)⟩
theorem ok_X6_done : OkM mX6_done 2 := ⟨gtb_in 676 (by decide +kernel) (by decide +kernel), gtb_in 53 (by decide +kernel) (by decide +kernel), by decide +kernel, by decide +kernel, by decide +kernel, by decide +kernel⟩
theorem ov_X6_done : OkV mX6_done 2 := ⟨ok_X6_done, (gtb_in 674 (by decide +kernel) (by decide +kernel)), gtb_in 675 (by decide +kernel) (by decide +kernel)⟩
theorem ok_X6_ease : OkM mX6_ease 2 := ⟨gtb_in 680 (by decide +kernel) (by decide +kernel), gtb_in 53 (by decide +kernel) (by decide +kernel), by decide +kernel, by decide +kernel, by decide +kernel, by decide +kernel⟩
theorem ov_X6_ease : OkV mX6_ease 2 := ⟨ok_X6_ease, (gtb_in 678 (by decide +kernel) (by decide +kernel)), gtb_in 679 (by decide +kernel) (by decide +kernel)⟩
theorem ok_X6_men : OkM mX6_men 2 := ⟨gtb_in 692 (by decide +kernel) (by decide +kernel), gtb_in 53 (by decide +kernel) (by decide +kernel), by decide +kernel, by decide +kernel, by decide +kernel, by decide +kernel⟩
theorem ov_X6_men : OkV mX6_men 2 := ⟨ok_X6_men, (gtb_in 690 (by decide +kernel) (by decide +kernel)), gtb_in 691 (by decide +kernel) (by decide +kernel)⟩
theorem ok_X6_seekMen : OkM mX6_seekMen 2 := ⟨gtb_in 696 (by decide +kernel) (by decide +kernel), gtb_in 53 (by decide +kernel) (by decide +kernel), by decide +kernel, by decide +kernel, by decide +kernel, by decide +kernel⟩
theorem ov_X6_seekMen : OkV mX6_seekMen 2 := ⟨ok_X6_seekMen, (gtb_in 695 (by decide +kernel) (by decide +kernel)), gtb_in 16 (by decide +kernel) (by decide +kernel)⟩
theorem ok_X6_quarrel : OkM mX6_quarrel 1 := ⟨gtb_in 700 (by decide +kernel) (by decide +kernel), gtb_in 53 (by decide +kernel) (by decide +kernel), by decide +kernel, by decide +kernel, by decide +kernel, by decide +kernel⟩
theorem ov_X6_quarrel : OkV mX6_quarrel 1 := ⟨ok_X6_quarrel, (gtb_in 698 (by decide +kernel) (by decide +kernel)), gtb_in 699 (by decide +kernel) (by decide +kernel)⟩
theorem ok_X6_bore : OkM mX6_bore 2 := ⟨gtb_in 704 (by decide +kernel) (by decide +kernel), gtb_in 53 (by decide +kernel) (by decide +kernel), by decide +kernel, by decide +kernel, by decide +kernel, by decide +kernel⟩
theorem ov_X6_bore : OkV mX6_bore 2 := ⟨ok_X6_bore, (gtb_in 702 (by decide +kernel) (by decide +kernel)), gtb_in 703 (by decide +kernel) (by decide +kernel)⟩
theorem ok_X6_well : OkM mX6_well 1 := ⟨gtb_in 708 (by decide +kernel) (by decide +kernel), gtb_in 53 (by decide +kernel) (by decide +kernel), by decide +kernel, by decide +kernel, by decide +kernel, by decide +kernel⟩
theorem ov_X6_well : OkV mX6_well 1 := ⟨ok_X6_well, (gtb_in 706 (by decide +kernel) (by decide +kernel)), gtb_in 707 (by decide +kernel) (by decide +kernel)⟩
theorem ok_X6_slowed : OkM mX6_slowed 2 := ⟨gtb_in 712 (by decide +kernel) (by decide +kernel), gtb_in 53 (by decide +kernel) (by decide +kernel), by decide +kernel, by decide +kernel, by decide +kernel, by decide +kernel⟩
theorem ov_X6_slowed : OkV mX6_slowed 2 := ⟨ok_X6_slowed, (gtb_in 710 (by decide +kernel) (by decide +kernel)), gtb_in 711 (by decide +kernel) (by decide +kernel)⟩
theorem ok_X6_goesAs : OkM mX6_goesAs 2 := ⟨gtb_in 724 (by decide +kernel) (by decide +kernel), gtb_in 53 (by decide +kernel) (by decide +kernel), by decide +kernel, by decide +kernel, by decide +kernel, by decide +kernel⟩
theorem ov_X6_goesAs : OkV mX6_goesAs 2 := ⟨ok_X6_goesAs, (gtb_in 723 (by decide +kernel) (by decide +kernel)), gtb_in 18 (by decide +kernel) (by decide +kernel)⟩
theorem ok_X6_bet : OkM mX6_bet 3 := ⟨gtb_in 728 (by decide +kernel) (by decide +kernel), gtb_in 53 (by decide +kernel) (by decide +kernel), by decide +kernel, by decide +kernel, by decide +kernel, by decide +kernel⟩
theorem ov_X6_bet : OkV mX6_bet 3 := ⟨ok_X6_bet, (gtb_in 726 (by decide +kernel) (by decide +kernel)), gtb_in 727 (by decide +kernel) (by decide +kernel)⟩
theorem ok_X6_soonest : OkM mX6_soonest 1 := ⟨gtb_in 735 (by decide +kernel) (by decide +kernel), gtb_in 53 (by decide +kernel) (by decide +kernel), by decide +kernel, by decide +kernel, by decide +kernel, by decide +kernel⟩
theorem ov_X6_soonest : OkV mX6_soonest 1 := ⟨ok_X6_soonest, (gtb_in 733 (by decide +kernel) (by decide +kernel)), gtb_in 734 (by decide +kernel) (by decide +kernel)⟩
theorem ok_X6_cheapest : OkM mX6_cheapest 0 := ⟨gtb_in 739 (by decide +kernel) (by decide +kernel), gtb_in 53 (by decide +kernel) (by decide +kernel), by decide +kernel, by decide +kernel, by decide +kernel, by decide +kernel⟩
theorem ov_X6_cheapest : OkV mX6_cheapest 0 := ⟨ok_X6_cheapest, (gtb_in 737 (by decide +kernel) (by decide +kernel)), gtb_in 738 (by decide +kernel) (by decide +kernel)⟩
theorem ok_X6_drawn : OkM mX6_drawn 1 := ⟨gtb_in 743 (by decide +kernel) (by decide +kernel), gtb_in 53 (by decide +kernel) (by decide +kernel), by decide +kernel, by decide +kernel, by decide +kernel, by decide +kernel⟩
theorem ov_X6_drawn : OkV mX6_drawn 1 := ⟨ok_X6_drawn, (gtb_in 741 (by decide +kernel) (by decide +kernel)), gtb_in 742 (by decide +kernel) (by decide +kernel)⟩
theorem ok_X6_chance : OkM mX6_chance 4 := ⟨gtb_in 748 (by decide +kernel) (by decide +kernel), gtb_in 53 (by decide +kernel) (by decide +kernel), by decide +kernel, by decide +kernel, by decide +kernel, by decide +kernel⟩
theorem ov_X6_chance : OkV mX6_chance 4 := ⟨ok_X6_chance, (gtb_in 746 (by decide +kernel) (by decide +kernel)), gtb_in 747 (by decide +kernel) (by decide +kernel)⟩
theorem ok_X6_commonPart : OkM mX6_commonPart 2 := ⟨gtb_in 753 (by decide +kernel) (by decide +kernel), gtb_in 53 (by decide +kernel) (by decide +kernel), by decide +kernel, by decide +kernel, by decide +kernel, by decide +kernel⟩
theorem os_X6_commonPart : OkS mX6_commonPart 2 := ⟨ok_X6_commonPart, (gtb_in 752 (by decide +kernel) (by decide +kernel))⟩
theorem ok_X6_image : OkM mX6_image 0 := ⟨gtb_in 757 (by decide +kernel) (by decide +kernel), gtb_in 53 (by decide +kernel) (by decide +kernel), by decide +kernel, by decide +kernel, by decide +kernel, by decide +kernel⟩
theorem ov_X6_image : OkV mX6_image 0 := ⟨ok_X6_image, (gtb_in 755 (by decide +kernel) (by decide +kernel)), gtb_in 756 (by decide +kernel) (by decide +kernel)⟩
theorem ok_X6_back : OkM mX6_back 0 := ⟨gtb_in 762 (by decide +kernel) (by decide +kernel), gtb_in 53 (by decide +kernel) (by decide +kernel), by decide +kernel, by decide +kernel, by decide +kernel, by decide +kernel⟩
theorem ov_X6_back : OkV mX6_back 0 := ⟨ok_X6_back, (gtb_in 760 (by decide +kernel) (by decide +kernel)), gtb_in 761 (by decide +kernel) (by decide +kernel)⟩
theorem ok_X6_count : OkM mX6_count 1 := ⟨gtb_in 766 (by decide +kernel) (by decide +kernel), gtb_in 53 (by decide +kernel) (by decide +kernel), by decide +kernel, by decide +kernel, by decide +kernel, by decide +kernel⟩
theorem ov_X6_count : OkV mX6_count 1 := ⟨ok_X6_count, (gtb_in 764 (by decide +kernel) (by decide +kernel)), gtb_in 765 (by decide +kernel) (by decide +kernel)⟩
theorem ok_X6_sheet : OkM mX6_sheet 3 := ⟨gtb_in 770 (by decide +kernel) (by decide +kernel), gtb_in 53 (by decide +kernel) (by decide +kernel), by decide +kernel, by decide +kernel, by decide +kernel, by decide +kernel⟩
theorem ov_X6_sheet : OkV mX6_sheet 3 := ⟨ok_X6_sheet, (gtb_in 768 (by decide +kernel) (by decide +kernel)), gtb_in 769 (by decide +kernel) (by decide +kernel)⟩
theorem ok_X6_cell : OkM mX6_cell 3 := ⟨gtb_in 781 (by decide +kernel) (by decide +kernel), gtb_in 53 (by decide +kernel) (by decide +kernel), by decide +kernel, by decide +kernel, by decide +kernel, by decide +kernel⟩
theorem ov_X6_cell : OkV mX6_cell 3 := ⟨ok_X6_cell, (gtb_in 779 (by decide +kernel) (by decide +kernel)), gtb_in 780 (by decide +kernel) (by decide +kernel)⟩
theorem ok_X6_copy : OkM mX6_copy 5 := ⟨gtb_in 793 (by decide +kernel) (by decide +kernel), gtb_in 53 (by decide +kernel) (by decide +kernel), by decide +kernel, by decide +kernel, by decide +kernel, by decide +kernel⟩
theorem ov_X6_copy : OkV mX6_copy 5 := ⟨ok_X6_copy, (gtb_in 791 (by decide +kernel) (by decide +kernel)), gtb_in 792 (by decide +kernel) (by decide +kernel)⟩
theorem ok_X6_grounds : OkM mX6_grounds 4 := ⟨gtb_in 802 (by decide +kernel) (by decide +kernel), gtb_in 53 (by decide +kernel) (by decide +kernel), by decide +kernel, by decide +kernel, by decide +kernel, by decide +kernel⟩
theorem ov_X6_grounds : OkV mX6_grounds 4 := ⟨ok_X6_grounds, (gtb_in 800 (by decide +kernel) (by decide +kernel)), gtb_in 801 (by decide +kernel) (by decide +kernel)⟩
theorem ok_X6_taken : OkM mX6_taken 2 := ⟨gtb_in 807 (by decide +kernel) (by decide +kernel), gtb_in 53 (by decide +kernel) (by decide +kernel), by decide +kernel, by decide +kernel, by decide +kernel, by decide +kernel⟩
theorem ov_X6_taken : OkV mX6_taken 2 := ⟨ok_X6_taken, (gtb_in 805 (by decide +kernel) (by decide +kernel)), gtb_in 806 (by decide +kernel) (by decide +kernel)⟩
theorem ok_X6_within : OkM mX6_within 3 := ⟨gtb_in 518 (by decide +kernel) (by decide +kernel), gtb_in 53 (by decide +kernel) (by decide +kernel), by decide +kernel, by decide +kernel, by decide +kernel, by decide +kernel⟩
theorem os_X6_within : OkS mX6_within 3 := ⟨ok_X6_within, (gtb_in 517 (by decide +kernel) (by decide +kernel))⟩
theorem ok_X6_isYard : OkM mX6_isYard 1 := ⟨gtb_in 515 (by decide +kernel) (by decide +kernel), gtb_in 53 (by decide +kernel) (by decide +kernel), by decide +kernel, by decide +kernel, by decide +kernel, by decide +kernel⟩
theorem os_X6_isYard : OkS mX6_isYard 1 := ⟨ok_X6_isYard, (gtb_in 514 (by decide +kernel) (by decide +kernel))⟩
theorem ok_X6_isGang : OkM mX6_isGang 1 := ⟨gtb_in 553 (by decide +kernel) (by decide +kernel), gtb_in 53 (by decide +kernel) (by decide +kernel), by decide +kernel, by decide +kernel, by decide +kernel, by decide +kernel⟩
theorem os_X6_isGang : OkS mX6_isGang 1 := ⟨ok_X6_isGang, (gtb_in 552 (by decide +kernel) (by decide +kernel))⟩
theorem ok_X6_sheetOf : OkM mX6_sheetOf 1 := ⟨gtb_in 716 (by decide +kernel) (by decide +kernel), gtb_in 53 (by decide +kernel) (by decide +kernel), by decide +kernel, by decide +kernel, by decide +kernel, by decide +kernel⟩
theorem ov_X6_sheetOf : OkV mX6_sheetOf 1 := ⟨ok_X6_sheetOf, (gtb_in 715 (by decide +kernel) (by decide +kernel)), gtb_in 17 (by decide +kernel) (by decide +kernel)⟩
theorem ok_X7_in : OkM mX7_in 3 := ⟨gtb_in 1000 (by decide +kernel) (by decide +kernel), gtb_in 68 (by decide +kernel) (by decide +kernel), by decide +kernel, by decide +kernel, by decide +kernel, by decide +kernel⟩
theorem os_X7_in : OkS mX7_in 3 := ⟨ok_X7_in, (gtb_in 999 (by decide +kernel) (by decide +kernel))⟩
theorem ok_X7_within : OkM mX7_within 3 := ⟨gtb_in 1095 (by decide +kernel) (by decide +kernel), gtb_in 68 (by decide +kernel) (by decide +kernel), by decide +kernel, by decide +kernel, by decide +kernel, by decide +kernel⟩
theorem os_X7_within : OkS mX7_within 3 := ⟨ok_X7_within, (gtb_in 1094 (by decide +kernel) (by decide +kernel))⟩
theorem ok_X7_init : OkM mX7_init 0 := ⟨gtb_in 819 (by decide +kernel) (by decide +kernel), gtb_in 68 (by decide +kernel) (by decide +kernel), by decide +kernel, by decide +kernel, by decide +kernel, by decide +kernel⟩
theorem oi_X7_init : OkI mX7_init 0 := ⟨ok_X7_init, (gtb_in 818 (by decide +kernel) (by decide +kernel)), rfl, rfl⟩
theorem ok_X7_spell : OkM mX7_spell 9 := ⟨gtb_in 824 (by decide +kernel) (by decide +kernel), gtb_in 68 (by decide +kernel) (by decide +kernel), by decide +kernel, by decide +kernel, by decide +kernel, by decide +kernel⟩
theorem ov_X7_spell : OkV mX7_spell 9 := ⟨ok_X7_spell, (gtb_in 823 (by decide +kernel) (by decide +kernel)), gtb_in 19 (by decide +kernel) (by decide +kernel)⟩
theorem ok_X7_isYard : OkM mX7_isYard 1 := ⟨gtb_in 996 (by decide +kernel) (by decide +kernel), gtb_in 68 (by decide +kernel) (by decide +kernel), by decide +kernel, by decide +kernel, by decide +kernel, by decide +kernel⟩
theorem os_X7_isYard : OkS mX7_isYard 1 := ⟨ok_X7_isYard, (gtb_in 995 (by decide +kernel) (by decide +kernel))⟩
theorem ok_X7_isGang : OkM mX7_isGang 1 := ⟨gtb_in 1102 (by decide +kernel) (by decide +kernel), gtb_in 68 (by decide +kernel) (by decide +kernel), by decide +kernel, by decide +kernel, by decide +kernel, by decide +kernel⟩
theorem os_X7_isGang : OkS mX7_isGang 1 := ⟨ok_X7_isGang, (gtb_in 1101 (by decide +kernel) (by decide +kernel))⟩
theorem ok_X7_left : OkM mX7_left 0 := ⟨gtb_in 1021 (by decide +kernel) (by decide +kernel), gtb_in 68 (by decide +kernel) (by decide +kernel), by decide +kernel, by decide +kernel, by decide +kernel, by decide +kernel⟩
theorem ov_X7_left : OkV mX7_left 0 := ⟨ok_X7_left, (gtb_in 1020 (by decide +kernel) (by decide +kernel)), gtb_in 23 (by decide +kernel) (by decide +kernel)⟩
theorem ok_X7_whose : OkM mX7_whose 1 := ⟨gtb_in 1005 (by decide +kernel) (by decide +kernel), gtb_in 68 (by decide +kernel) (by decide +kernel), by decide +kernel, by decide +kernel, by decide +kernel, by decide +kernel⟩
theorem ov_X7_whose : OkV mX7_whose 1 := ⟨ok_X7_whose, (gtb_in 1004 (by decide +kernel) (by decide +kernel)), gtb_in 20 (by decide +kernel) (by decide +kernel)⟩
theorem ok_X7_nextOf : OkM mX7_nextOf 1 := ⟨gtb_in 1129 (by decide +kernel) (by decide +kernel), gtb_in 68 (by decide +kernel) (by decide +kernel), by decide +kernel, by decide +kernel, by decide +kernel, by decide +kernel⟩
theorem ov_X7_nextOf : OkV mX7_nextOf 1 := ⟨ok_X7_nextOf, (gtb_in 1128 (by decide +kernel) (by decide +kernel)), gtb_in 42 (by decide +kernel) (by decide +kernel)⟩
theorem ok_X7_ground : OkM mX7_ground 3 := ⟨gtb_in 993 (by decide +kernel) (by decide +kernel), gtb_in 68 (by decide +kernel) (by decide +kernel), by decide +kernel, by decide +kernel, by decide +kernel, by decide +kernel⟩
theorem ov_X7_ground : OkV mX7_ground 3 := ⟨ok_X7_ground, (gtb_in 991 (by decide +kernel) (by decide +kernel)), gtb_in 992 (by decide +kernel) (by decide +kernel)⟩
theorem ok_X7_yard : OkM mX7_yard 2 := ⟨gtb_in 1009 (by decide +kernel) (by decide +kernel), gtb_in 68 (by decide +kernel) (by decide +kernel), by decide +kernel, by decide +kernel, by decide +kernel, by decide +kernel⟩
theorem ov_X7_yard : OkV mX7_yard 2 := ⟨ok_X7_yard, (gtb_in 1007 (by decide +kernel) (by decide +kernel)), gtb_in 1008 (by decide +kernel) (by decide +kernel)⟩
theorem ok_X7_gang : OkM mX7_gang 3 := ⟨gtb_in 1099 (by decide +kernel) (by decide +kernel), gtb_in 68 (by decide +kernel) (by decide +kernel), by decide +kernel, by decide +kernel, by decide +kernel, by decide +kernel⟩
theorem ov_X7_gang : OkV mX7_gang 3 := ⟨ok_X7_gang, (gtb_in 1097 (by decide +kernel) (by decide +kernel)), gtb_in 1098 (by decide +kernel) (by decide +kernel)⟩
theorem ok_X7_set : OkM mX7_set 2 := ⟨gtb_in 1108 (by decide +kernel) (by decide +kernel), gtb_in 68 (by decide +kernel) (by decide +kernel), by decide +kernel, by decide +kernel, by decide +kernel, by decide +kernel⟩
theorem ov_X7_set : OkV mX7_set 2 := ⟨ok_X7_set, (gtb_in 1106 (by decide +kernel) (by decide +kernel)), gtb_in 1107 (by decide +kernel) (by decide +kernel)⟩
theorem ok_X7_told : OkM mX7_told 2 := ⟨gtb_in 1116 (by decide +kernel) (by decide +kernel), gtb_in 68 (by decide +kernel) (by decide +kernel), by decide +kernel, by decide +kernel, by decide +kernel, by decide +kernel⟩
theorem ov_X7_told : OkV mX7_told 2 := ⟨ok_X7_told, (gtb_in 1114 (by decide +kernel) (by decide +kernel)), gtb_in 1115 (by decide +kernel) (by decide +kernel)⟩
theorem ok_X7_feed : OkM mX7_feed 1 := ⟨gtb_in 1133 (by decide +kernel) (by decide +kernel), gtb_in 68 (by decide +kernel) (by decide +kernel), by decide +kernel, by decide +kernel, by decide +kernel, by decide +kernel⟩
theorem ov_X7_feed : OkV mX7_feed 1 := ⟨ok_X7_feed, (gtb_in 1131 (by decide +kernel) (by decide +kernel)), gtb_in 1132 (by decide +kernel) (by decide +kernel)⟩
theorem ok_X7_byteAt : OkM mX7_byteAt 1 := ⟨gtb_in 1033 (by decide +kernel) (by decide +kernel), gtb_in 68 (by decide +kernel) (by decide +kernel), by decide +kernel, by decide +kernel, by decide +kernel, by decide +kernel⟩
theorem ov_X7_byteAt : OkV mX7_byteAt 1 := ⟨ok_X7_byteAt, (gtb_in 1032 (by decide +kernel) (by decide +kernel)), gtb_in 26 (by decide +kernel) (by decide +kernel)⟩
theorem ok_X7_next : OkM mX7_next 0 := ⟨gtb_in 1029 (by decide +kernel) (by decide +kernel), gtb_in 68 (by decide +kernel) (by decide +kernel), by decide +kernel, by decide +kernel, by decide +kernel, by decide +kernel⟩
theorem ov_X7_next : OkV mX7_next 0 := ⟨ok_X7_next, (gtb_in 1028 (by decide +kernel) (by decide +kernel)), gtb_in 25 (by decide +kernel) (by decide +kernel)⟩
theorem ok_X7_fail : OkM mX7_fail 0 := ⟨gtb_in 1054 (by decide +kernel) (by decide +kernel), gtb_in 68 (by decide +kernel) (by decide +kernel), by decide +kernel, by decide +kernel, by decide +kernel, by decide +kernel⟩
theorem ov_X7_fail : OkV mX7_fail 0 := ⟨ok_X7_fail, (gtb_in 1053 (by decide +kernel) (by decide +kernel)), gtb_in 30 (by decide +kernel) (by decide +kernel)⟩
theorem ok_X7_isLetter : OkM mX7_isLetter 2 := ⟨gtb_in 1046 (by decide +kernel) (by decide +kernel), gtb_in 68 (by decide +kernel) (by decide +kernel), by decide +kernel, by decide +kernel, by decide +kernel, by decide +kernel⟩
theorem ov_X7_isLetter : OkV mX7_isLetter 2 := ⟨ok_X7_isLetter, (gtb_in 1045 (by decide +kernel) (by decide +kernel)), gtb_in 28 (by decide +kernel) (by decide +kernel)⟩
theorem ok_X7_isWord : OkM mX7_isWord 8 := ⟨gtb_in 1042 (by decide +kernel) (by decide +kernel), gtb_in 68 (by decide +kernel) (by decide +kernel), by decide +kernel, by decide +kernel, by decide +kernel, by decide +kernel⟩
theorem ov_X7_isWord : OkV mX7_isWord 8 := ⟨ok_X7_isWord, (gtb_in 1041 (by decide +kernel) (by decide +kernel)), gtb_in 27 (by decide +kernel) (by decide +kernel)⟩
theorem ok_X7_isSign : OkM mX7_isSign 1 := ⟨gtb_in 1086 (by decide +kernel) (by decide +kernel), gtb_in 68 (by decide +kernel) (by decide +kernel), by decide +kernel, by decide +kernel, by decide +kernel, by decide +kernel⟩
theorem ov_X7_isSign : OkV mX7_isSign 1 := ⟨ok_X7_isSign, (gtb_in 1085 (by decide +kernel) (by decide +kernel)), gtb_in 38 (by decide +kernel) (by decide +kernel)⟩
theorem ok_X7_opens : OkM mX7_opens 0 := ⟨gtb_in 1070 (by decide +kernel) (by decide +kernel), gtb_in 68 (by decide +kernel) (by decide +kernel), by decide +kernel, by decide +kernel, by decide +kernel, by decide +kernel⟩
theorem ov_X7_opens : OkV mX7_opens 0 := ⟨ok_X7_opens, (gtb_in 1069 (by decide +kernel) (by decide +kernel)), gtb_in 34 (by decide +kernel) (by decide +kernel)⟩
theorem ok_X7_name : OkM mX7_name 0 := ⟨gtb_in 1090 (by decide +kernel) (by decide +kernel), gtb_in 68 (by decide +kernel) (by decide +kernel), by decide +kernel, by decide +kernel, by decide +kernel, by decide +kernel⟩
theorem ov_X7_name : OkV mX7_name 0 := ⟨ok_X7_name, (gtb_in 1089 (by decide +kernel) (by decide +kernel)), gtb_in 39 (by decide +kernel) (by decide +kernel)⟩
theorem ok_X7_atom : OkM mX7_atom 0 := ⟨gtb_in 1082 (by decide +kernel) (by decide +kernel), gtb_in 68 (by decide +kernel) (by decide +kernel), by decide +kernel, by decide +kernel, by decide +kernel, by decide +kernel⟩
theorem ov_X7_atom : OkV mX7_atom 0 := ⟨ok_X7_atom, (gtb_in 1081 (by decide +kernel) (by decide +kernel)), gtb_in 37 (by decide +kernel) (by decide +kernel)⟩
theorem ok_X7_term : OkM mX7_term 0 := ⟨gtb_in 1078 (by decide +kernel) (by decide +kernel), gtb_in 68 (by decide +kernel) (by decide +kernel), by decide +kernel, by decide +kernel, by decide +kernel, by decide +kernel⟩
theorem ov_X7_term : OkV mX7_term 0 := ⟨ok_X7_term, (gtb_in 1077 (by decide +kernel) (by decide +kernel)), gtb_in 36 (by decide +kernel) (by decide +kernel)⟩
theorem ok_X7_added : OkM mX7_added 0 := ⟨gtb_in 1074 (by decide +kernel) (by decide +kernel), gtb_in 68 (by decide +kernel) (by decide +kernel), by decide +kernel, by decide +kernel, by decide +kernel, by decide +kernel⟩
theorem ov_X7_added : OkV mX7_added 0 := ⟨ok_X7_added, (gtb_in 1073 (by decide +kernel) (by decide +kernel)), gtb_in 35 (by decide +kernel) (by decide +kernel)⟩
theorem ok_X7_not : OkM mX7_not 0 := ⟨gtb_in 1066 (by decide +kernel) (by decide +kernel), gtb_in 68 (by decide +kernel) (by decide +kernel), by decide +kernel, by decide +kernel, by decide +kernel, by decide +kernel⟩
theorem ov_X7_not : OkV mX7_not 0 := ⟨ok_X7_not, (gtb_in 1065 (by decide +kernel) (by decide +kernel)), gtb_in 33 (by decide +kernel) (by decide +kernel)⟩
theorem ok_X7_both : OkM mX7_both 0 := ⟨gtb_in 1062 (by decide +kernel) (by decide +kernel), gtb_in 68 (by decide +kernel) (by decide +kernel), by decide +kernel, by decide +kernel, by decide +kernel, by decide +kernel⟩
theorem ov_X7_both : OkV mX7_both 0 := ⟨ok_X7_both, (gtb_in 1061 (by decide +kernel) (by decide +kernel)), gtb_in 32 (by decide +kernel) (by decide +kernel)⟩
theorem ok_X7_either : OkM mX7_either 0 := ⟨gtb_in 1058 (by decide +kernel) (by decide +kernel), gtb_in 68 (by decide +kernel) (by decide +kernel), by decide +kernel, by decide +kernel, by decide +kernel, by decide +kernel⟩
theorem ov_X7_either : OkV mX7_either 0 := ⟨ok_X7_either, (gtb_in 1057 (by decide +kernel) (by decide +kernel)), gtb_in 31 (by decide +kernel) (by decide +kernel)⟩
theorem ok_X7_part : OkM mX7_part 1 := ⟨gtb_in 1050 (by decide +kernel) (by decide +kernel), gtb_in 68 (by decide +kernel) (by decide +kernel), by decide +kernel, by decide +kernel, by decide +kernel, by decide +kernel⟩
theorem ov_X7_part : OkV mX7_part 1 := ⟨ok_X7_part, (gtb_in 1049 (by decide +kernel) (by decide +kernel)), gtb_in 29 (by decide +kernel) (by decide +kernel)⟩
theorem ok_X7_read : OkM mX7_read 2 := ⟨gtb_in 1025 (by decide +kernel) (by decide +kernel), gtb_in 68 (by decide +kernel) (by decide +kernel), by decide +kernel, by decide +kernel, by decide +kernel, by decide +kernel⟩
theorem ov_X7_read : OkV mX7_read 2 := ⟨ok_X7_read, (gtb_in 1024 (by decide +kernel) (by decide +kernel)), gtb_in 24 (by decide +kernel) (by decide +kernel)⟩
theorem ok_X7_text : OkM mX7_text 0 := ⟨gtb_in 1138 (by decide +kernel) (by decide +kernel), gtb_in 68 (by decide +kernel) (by decide +kernel), by decide +kernel, by decide +kernel, by decide +kernel, by decide +kernel⟩
theorem ov_X7_text : OkV mX7_text 0 := ⟨ok_X7_text, (gtb_in 1136 (by decide +kernel) (by decide +kernel)), gtb_in 1137 (by decide +kernel) (by decide +kernel)⟩
theorem ok_X7_force : OkM mX7_force 1 := ⟨gtb_in 1142 (by decide +kernel) (by decide +kernel), gtb_in 68 (by decide +kernel) (by decide +kernel), by decide +kernel, by decide +kernel, by decide +kernel, by decide +kernel⟩
theorem ov_X7_force : OkV mX7_force 1 := ⟨ok_X7_force, (gtb_in 1140 (by decide +kernel) (by decide +kernel)), gtb_in 1141 (by decide +kernel) (by decide +kernel)⟩
theorem ok_X7_says : OkM mX7_says 3 := ⟨gtb_in 1017 (by decide +kernel) (by decide +kernel), gtb_in 68 (by decide +kernel) (by decide +kernel), by decide +kernel, by decide +kernel, by decide +kernel, by decide +kernel⟩
theorem ov_X7_says : OkV mX7_says 3 := ⟨ok_X7_says, (gtb_in 1016 (by decide +kernel) (by decide +kernel)), gtb_in 22 (by decide +kernel) (by decide +kernel)⟩
theorem ok_X7_needs : OkM mX7_needs 2 := ⟨gtb_in 1013 (by decide +kernel) (by decide +kernel), gtb_in 68 (by decide +kernel) (by decide +kernel), by decide +kernel, by decide +kernel, by decide +kernel, by decide +kernel⟩
theorem ov_X7_needs : OkV mX7_needs 2 := ⟨ok_X7_needs, (gtb_in 1012 (by decide +kernel) (by decide +kernel)), gtb_in 21 (by decide +kernel) (by decide +kernel)⟩
theorem ok_X7_does : OkM mX7_does 1 := ⟨gtb_in 1125 (by decide +kernel) (by decide +kernel), gtb_in 68 (by decide +kernel) (by decide +kernel), by decide +kernel, by decide +kernel, by decide +kernel, by decide +kernel⟩
theorem ov_X7_does : OkV mX7_does 1 := ⟨ok_X7_does, (gtb_in 1124 (by decide +kernel) (by decide +kernel)), gtb_in 41 (by decide +kernel) (by decide +kernel)⟩
theorem ok_X7_costs : OkM mX7_costs 1 := ⟨gtb_in 1121 (by decide +kernel) (by decide +kernel), gtb_in 68 (by decide +kernel) (by decide +kernel), by decide +kernel, by decide +kernel, by decide +kernel, by decide +kernel⟩
theorem ov_X7_costs : OkV mX7_costs 1 := ⟨ok_X7_costs, (gtb_in 1120 (by decide +kernel) (by decide +kernel)), gtb_in 40 (by decide +kernel) (by decide +kernel)⟩
theorem ok_X7_turn : OkM mX7_turn 1 := ⟨gtb_in 1154 (by decide +kernel) (by decide +kernel), gtb_in 68 (by decide +kernel) (by decide +kernel), by decide +kernel, by decide +kernel, by decide +kernel, by decide +kernel⟩
theorem ov_X7_turn : OkV mX7_turn 1 := ⟨ok_X7_turn, (gtb_in 1153 (by decide +kernel) (by decide +kernel)), gtb_in 44 (by decide +kernel) (by decide +kernel)⟩
theorem ok_X7_passes : OkM mX7_passes 1 := ⟨gtb_in 1150 (by decide +kernel) (by decide +kernel), gtb_in 68 (by decide +kernel) (by decide +kernel), by decide +kernel, by decide +kernel, by decide +kernel, by decide +kernel⟩
theorem ov_X7_passes : OkV mX7_passes 1 := ⟨ok_X7_passes, (gtb_in 1149 (by decide +kernel) (by decide +kernel)), gtb_in 43 (by decide +kernel) (by decide +kernel)⟩
theorem ok_X7_day : OkM mX7_day 0 := ⟨gtb_in 1146 (by decide +kernel) (by decide +kernel), gtb_in 68 (by decide +kernel) (by decide +kernel), by decide +kernel, by decide +kernel, by decide +kernel, by decide +kernel⟩
theorem ov_X7_day : OkV mX7_day 0 := ⟨ok_X7_day, (gtb_in 1144 (by decide +kernel) (by decide +kernel)), gtb_in 1145 (by decide +kernel) (by decide +kernel)⟩
theorem ok_X7_laysAside : OkM mX7_laysAside 0 := ⟨gtb_in 1167 (by decide +kernel) (by decide +kernel), gtb_in 68 (by decide +kernel) (by decide +kernel), by decide +kernel, by decide +kernel, by decide +kernel, by decide +kernel⟩
theorem ov_X7_laysAside : OkV mX7_laysAside 0 := ⟨ok_X7_laysAside, (gtb_in 1166 (by decide +kernel) (by decide +kernel)), gtb_in 46 (by decide +kernel) (by decide +kernel)⟩
theorem ok_X7_laysBack : OkM mX7_laysBack 0 := ⟨gtb_in 1179 (by decide +kernel) (by decide +kernel), gtb_in 68 (by decide +kernel) (by decide +kernel), by decide +kernel, by decide +kernel, by decide +kernel, by decide +kernel⟩
theorem ov_X7_laysBack : OkV mX7_laysBack 0 := ⟨ok_X7_laysBack, (gtb_in 1178 (by decide +kernel) (by decide +kernel)), gtb_in 49 (by decide +kernel) (by decide +kernel)⟩
theorem ok_X7_runs : OkM mX7_runs 2 := ⟨gtb_in 1171 (by decide +kernel) (by decide +kernel), gtb_in 68 (by decide +kernel) (by decide +kernel), by decide +kernel, by decide +kernel, by decide +kernel, by decide +kernel⟩
theorem ov_X7_runs : OkV mX7_runs 2 := ⟨ok_X7_runs, (gtb_in 1170 (by decide +kernel) (by decide +kernel)), gtb_in 47 (by decide +kernel) (by decide +kernel)⟩
theorem ok_X7_gain : OkM mX7_gain 1 := ⟨gtb_in 1175 (by decide +kernel) (by decide +kernel), gtb_in 68 (by decide +kernel) (by decide +kernel), by decide +kernel, by decide +kernel, by decide +kernel, by decide +kernel⟩
theorem ov_X7_gain : OkV mX7_gain 1 := ⟨ok_X7_gain, (gtb_in 1174 (by decide +kernel) (by decide +kernel)), gtb_in 48 (by decide +kernel) (by decide +kernel)⟩
theorem ok_X7_worthAll : OkM mX7_worthAll 0 := ⟨gtb_in 1163 (by decide +kernel) (by decide +kernel), gtb_in 68 (by decide +kernel) (by decide +kernel), by decide +kernel, by decide +kernel, by decide +kernel, by decide +kernel⟩
theorem ov_X7_worthAll : OkV mX7_worthAll 0 := ⟨ok_X7_worthAll, (gtb_in 1162 (by decide +kernel) (by decide +kernel)), gtb_in 45 (by decide +kernel) (by decide +kernel)⟩
theorem ok_X7_run : OkM mX7_run 1 := ⟨gtb_in 1158 (by decide +kernel) (by decide +kernel), gtb_in 68 (by decide +kernel) (by decide +kernel), by decide +kernel, by decide +kernel, by decide +kernel, by decide +kernel⟩
theorem ov_X7_run : OkV mX7_run 1 := ⟨ok_X7_run, (gtb_in 1156 (by decide +kernel) (by decide +kernel)), gtb_in 1157 (by decide +kernel) (by decide +kernel)⟩
theorem ok_X7_done : OkM mX7_done 2 := ⟨gtb_in 1183 (by decide +kernel) (by decide +kernel), gtb_in 68 (by decide +kernel) (by decide +kernel), by decide +kernel, by decide +kernel, by decide +kernel, by decide +kernel⟩
theorem ov_X7_done : OkV mX7_done 2 := ⟨ok_X7_done, (gtb_in 1181 (by decide +kernel) (by decide +kernel)), gtb_in 1182 (by decide +kernel) (by decide +kernel)⟩
theorem ok_X7_ease : OkM mX7_ease 2 := ⟨gtb_in 1188 (by decide +kernel) (by decide +kernel), gtb_in 68 (by decide +kernel) (by decide +kernel), by decide +kernel, by decide +kernel, by decide +kernel, by decide +kernel⟩
theorem ov_X7_ease : OkV mX7_ease 2 := ⟨ok_X7_ease, (gtb_in 1186 (by decide +kernel) (by decide +kernel)), gtb_in 1187 (by decide +kernel) (by decide +kernel)⟩
theorem ok_X7_gainBy : OkM mX7_gainBy 2 := ⟨gtb_in 1200 (by decide +kernel) (by decide +kernel), gtb_in 68 (by decide +kernel) (by decide +kernel), by decide +kernel, by decide +kernel, by decide +kernel, by decide +kernel⟩
theorem ov_X7_gainBy : OkV mX7_gainBy 2 := ⟨ok_X7_gainBy, (gtb_in 1199 (by decide +kernel) (by decide +kernel)), gtb_in 51 (by decide +kernel) (by decide +kernel)⟩
theorem ok_X7_bestMen : OkM mX7_bestMen 1 := ⟨gtb_in 1196 (by decide +kernel) (by decide +kernel), gtb_in 68 (by decide +kernel) (by decide +kernel), by decide +kernel, by decide +kernel, by decide +kernel, by decide +kernel⟩
theorem ov_X7_bestMen : OkV mX7_bestMen 1 := ⟨ok_X7_bestMen, (gtb_in 1195 (by decide +kernel) (by decide +kernel)), gtb_in 50 (by decide +kernel) (by decide +kernel)⟩
theorem ok_X7_men : OkM mX7_men 2 := ⟨gtb_in 1192 (by decide +kernel) (by decide +kernel), gtb_in 68 (by decide +kernel) (by decide +kernel), by decide +kernel, by decide +kernel, by decide +kernel, by decide +kernel⟩
theorem ov_X7_men : OkV mX7_men 2 := ⟨ok_X7_men, (gtb_in 1190 (by decide +kernel) (by decide +kernel)), gtb_in 1191 (by decide +kernel) (by decide +kernel)⟩
theorem ok_X7_quarrel : OkM mX7_quarrel 1 := ⟨gtb_in 1204 (by decide +kernel) (by decide +kernel), gtb_in 68 (by decide +kernel) (by decide +kernel), by decide +kernel, by decide +kernel, by decide +kernel, by decide +kernel⟩
theorem ov_X7_quarrel : OkV mX7_quarrel 1 := ⟨ok_X7_quarrel, (gtb_in 1202 (by decide +kernel) (by decide +kernel)), gtb_in 1203 (by decide +kernel) (by decide +kernel)⟩
theorem ok_X7_bore : OkM mX7_bore 2 := ⟨gtb_in 1209 (by decide +kernel) (by decide +kernel), gtb_in 68 (by decide +kernel) (by decide +kernel), by decide +kernel, by decide +kernel, by decide +kernel, by decide +kernel⟩
theorem ov_X7_bore : OkV mX7_bore 2 := ⟨ok_X7_bore, (gtb_in 1207 (by decide +kernel) (by decide +kernel)), gtb_in 1208 (by decide +kernel) (by decide +kernel)⟩
theorem ok_X7_well : OkM mX7_well 1 := ⟨gtb_in 1214 (by decide +kernel) (by decide +kernel), gtb_in 68 (by decide +kernel) (by decide +kernel), by decide +kernel, by decide +kernel, by decide +kernel, by decide +kernel⟩
theorem ov_X7_well : OkV mX7_well 1 := ⟨ok_X7_well, (gtb_in 1212 (by decide +kernel) (by decide +kernel)), gtb_in 1213 (by decide +kernel) (by decide +kernel)⟩
theorem ok_X7_slowed : OkM mX7_slowed 2 := ⟨gtb_in 1218 (by decide +kernel) (by decide +kernel), gtb_in 68 (by decide +kernel) (by decide +kernel), by decide +kernel, by decide +kernel, by decide +kernel, by decide +kernel⟩
theorem ov_X7_slowed : OkV mX7_slowed 2 := ⟨ok_X7_slowed, (gtb_in 1216 (by decide +kernel) (by decide +kernel)), gtb_in 1217 (by decide +kernel) (by decide +kernel)⟩
theorem ok_X7_off : OkM mX7_off 2 := ⟨gtb_in 1229 (by decide +kernel) (by decide +kernel), gtb_in 68 (by decide +kernel) (by decide +kernel), by decide +kernel, by decide +kernel, by decide +kernel, by decide +kernel⟩
theorem os_X7_off : OkS mX7_off 2 := ⟨ok_X7_off, (gtb_in 1228 (by decide +kernel) (by decide +kernel))⟩
theorem ok_X7_bet : OkM mX7_bet 3 := ⟨gtb_in 1225 (by decide +kernel) (by decide +kernel), gtb_in 68 (by decide +kernel) (by decide +kernel), by decide +kernel, by decide +kernel, by decide +kernel, by decide +kernel⟩
theorem ov_X7_bet : OkV mX7_bet 3 := ⟨ok_X7_bet, (gtb_in 1223 (by decide +kernel) (by decide +kernel)), gtb_in 1224 (by decide +kernel) (by decide +kernel)⟩
theorem ok_X7_soonest : OkM mX7_soonest 1 := ⟨gtb_in 1233 (by decide +kernel) (by decide +kernel), gtb_in 68 (by decide +kernel) (by decide +kernel), by decide +kernel, by decide +kernel, by decide +kernel, by decide +kernel⟩
theorem ov_X7_soonest : OkV mX7_soonest 1 := ⟨ok_X7_soonest, (gtb_in 1231 (by decide +kernel) (by decide +kernel)), gtb_in 1232 (by decide +kernel) (by decide +kernel)⟩
theorem ok_X7_cheapest : OkM mX7_cheapest 0 := ⟨gtb_in 1237 (by decide +kernel) (by decide +kernel), gtb_in 68 (by decide +kernel) (by decide +kernel), by decide +kernel, by decide +kernel, by decide +kernel, by decide +kernel⟩
theorem ov_X7_cheapest : OkV mX7_cheapest 0 := ⟨ok_X7_cheapest, (gtb_in 1235 (by decide +kernel) (by decide +kernel)), gtb_in 1236 (by decide +kernel) (by decide +kernel)⟩
theorem ok_X7_drawn : OkM mX7_drawn 1 := ⟨gtb_in 1241 (by decide +kernel) (by decide +kernel), gtb_in 68 (by decide +kernel) (by decide +kernel), by decide +kernel, by decide +kernel, by decide +kernel, by decide +kernel⟩
theorem ov_X7_drawn : OkV mX7_drawn 1 := ⟨ok_X7_drawn, (gtb_in 1239 (by decide +kernel) (by decide +kernel)), gtb_in 1240 (by decide +kernel) (by decide +kernel)⟩
theorem ok_X7_lowest : OkM mX7_lowest 3 := ⟨gtb_in 1251 (by decide +kernel) (by decide +kernel), gtb_in 68 (by decide +kernel) (by decide +kernel), by decide +kernel, by decide +kernel, by decide +kernel, by decide +kernel⟩
theorem os_X7_lowest : OkS mX7_lowest 3 := ⟨ok_X7_lowest, (gtb_in 1250 (by decide +kernel) (by decide +kernel))⟩
theorem ok_X7_chance : OkM mX7_chance 4 := ⟨gtb_in 1246 (by decide +kernel) (by decide +kernel), gtb_in 68 (by decide +kernel) (by decide +kernel), by decide +kernel, by decide +kernel, by decide +kernel, by decide +kernel⟩
theorem ov_X7_chance : OkV mX7_chance 4 := ⟨ok_X7_chance, (gtb_in 1244 (by decide +kernel) (by decide +kernel)), gtb_in 1245 (by decide +kernel) (by decide +kernel)⟩
theorem ok_X7_image : OkM mX7_image 0 := ⟨gtb_in 1255 (by decide +kernel) (by decide +kernel), gtb_in 68 (by decide +kernel) (by decide +kernel), by decide +kernel, by decide +kernel, by decide +kernel, by decide +kernel⟩
theorem ov_X7_image : OkV mX7_image 0 := ⟨ok_X7_image, (gtb_in 1253 (by decide +kernel) (by decide +kernel)), gtb_in 1254 (by decide +kernel) (by decide +kernel)⟩
theorem ok_X7_back : OkM mX7_back 0 := ⟨gtb_in 1259 (by decide +kernel) (by decide +kernel), gtb_in 68 (by decide +kernel) (by decide +kernel), by decide +kernel, by decide +kernel, by decide +kernel, by decide +kernel⟩
theorem ov_X7_back : OkV mX7_back 0 := ⟨ok_X7_back, (gtb_in 1257 (by decide +kernel) (by decide +kernel)), gtb_in 1258 (by decide +kernel) (by decide +kernel)⟩
theorem ok_X7_count : OkM mX7_count 1 := ⟨gtb_in 1263 (by decide +kernel) (by decide +kernel), gtb_in 68 (by decide +kernel) (by decide +kernel), by decide +kernel, by decide +kernel, by decide +kernel, by decide +kernel⟩
theorem ov_X7_count : OkV mX7_count 1 := ⟨ok_X7_count, (gtb_in 1261 (by decide +kernel) (by decide +kernel)), gtb_in 1262 (by decide +kernel) (by decide +kernel)⟩
theorem ok_X7_isSheet : OkM mX7_isSheet 1 := ⟨gtb_in 1221 (by decide +kernel) (by decide +kernel), gtb_in 68 (by decide +kernel) (by decide +kernel), by decide +kernel, by decide +kernel, by decide +kernel, by decide +kernel⟩
theorem os_X7_isSheet : OkS mX7_isSheet 1 := ⟨ok_X7_isSheet, (gtb_in 1220 (by decide +kernel) (by decide +kernel))⟩
theorem ok_X7_sheet : OkM mX7_sheet 3 := ⟨gtb_in 1268 (by decide +kernel) (by decide +kernel), gtb_in 68 (by decide +kernel) (by decide +kernel), by decide +kernel, by decide +kernel, by decide +kernel, by decide +kernel⟩
theorem ov_X7_sheet : OkV mX7_sheet 3 := ⟨ok_X7_sheet, (gtb_in 1266 (by decide +kernel) (by decide +kernel)), gtb_in 1267 (by decide +kernel) (by decide +kernel)⟩
theorem ok_X7_cell : OkM mX7_cell 3 := ⟨gtb_in 1273 (by decide +kernel) (by decide +kernel), gtb_in 68 (by decide +kernel) (by decide +kernel), by decide +kernel, by decide +kernel, by decide +kernel, by decide +kernel⟩
theorem ov_X7_cell : OkV mX7_cell 3 := ⟨ok_X7_cell, (gtb_in 1271 (by decide +kernel) (by decide +kernel)), gtb_in 1272 (by decide +kernel) (by decide +kernel)⟩
theorem ok_X7_copy : OkM mX7_copy 5 := ⟨gtb_in 1277 (by decide +kernel) (by decide +kernel), gtb_in 68 (by decide +kernel) (by decide +kernel), by decide +kernel, by decide +kernel, by decide +kernel, by decide +kernel⟩
theorem ov_X7_copy : OkV mX7_copy 5 := ⟨ok_X7_copy, (gtb_in 1275 (by decide +kernel) (by decide +kernel)), gtb_in 1276 (by decide +kernel) (by decide +kernel)⟩
theorem ok_X7_grounds : OkM mX7_grounds 4 := ⟨gtb_in 1281 (by decide +kernel) (by decide +kernel), gtb_in 68 (by decide +kernel) (by decide +kernel), by decide +kernel, by decide +kernel, by decide +kernel, by decide +kernel⟩
theorem ov_X7_grounds : OkV mX7_grounds 4 := ⟨ok_X7_grounds, (gtb_in 1279 (by decide +kernel) (by decide +kernel)), gtb_in 1280 (by decide +kernel) (by decide +kernel)⟩
theorem ok_X7_over : OkM mX7_over 1 := ⟨gtb_in 1290 (by decide +kernel) (by decide +kernel), gtb_in 68 (by decide +kernel) (by decide +kernel), by decide +kernel, by decide +kernel, by decide +kernel, by decide +kernel⟩
theorem os_X7_over : OkS mX7_over 1 := ⟨ok_X7_over, (gtb_in 1289 (by decide +kernel) (by decide +kernel))⟩
theorem ok_X7_taken : OkM mX7_taken 2 := ⟨gtb_in 1287 (by decide +kernel) (by decide +kernel), gtb_in 68 (by decide +kernel) (by decide +kernel), by decide +kernel, by decide +kernel, by decide +kernel, by decide +kernel⟩
theorem ov_X7_taken : OkV mX7_taken 2 := ⟨ok_X7_taken, (gtb_in 1285 (by decide +kernel) (by decide +kernel)), gtb_in 1286 (by decide +kernel) (by decide +kernel)⟩
theorem ok_J11_isValidCodePoint_9a6ad : OkM mJ11_isValidCodePoint_9a6ad 1 := ⟨gtb_in 278 (by decide +kernel) (by decide +kernel), gtb_in 61 (by decide +kernel) (by decide +kernel), by decide +kernel, by decide +kernel, by decide +kernel, by decide +kernel⟩
theorem os_J11_isValidCodePoint_9a6ad : OkS mJ11_isValidCodePoint_9a6ad 1 := ⟨ok_J11_isValidCodePoint_9a6ad, (gtb_in 277 (by decide +kernel) (by decide +kernel))⟩
theorem ok_J11_highSurrogate_5068e : OkM mJ11_highSurrogate_5068e 1 := ⟨gtb_in 281 (by decide +kernel) (by decide +kernel), gtb_in 61 (by decide +kernel) (by decide +kernel), by decide +kernel, by decide +kernel, by decide +kernel, by decide +kernel⟩
theorem os_J11_highSurrogate_5068e : OkS mJ11_highSurrogate_5068e 1 := ⟨ok_J11_highSurrogate_5068e, (gtb_in 280 (by decide +kernel) (by decide +kernel))⟩
theorem ok_J11_lowSurrogate_5068e : OkM mJ11_lowSurrogate_5068e 1 := ⟨gtb_in 285 (by decide +kernel) (by decide +kernel), gtb_in 61 (by decide +kernel) (by decide +kernel), by decide +kernel, by decide +kernel, by decide +kernel, by decide +kernel⟩
theorem os_J11_lowSurrogate_5068e : OkS mJ11_lowSurrogate_5068e 1 := ⟨ok_J11_lowSurrogate_5068e, (gtb_in 284 (by decide +kernel) (by decide +kernel))⟩
theorem ok_J9_abs_0f7a4 : OkM mJ9_abs_0f7a4 1 := ⟨gtb_in 731 (by decide +kernel) (by decide +kernel), gtb_in 60 (by decide +kernel) (by decide +kernel), by decide +kernel, by decide +kernel, by decide +kernel, by decide +kernel⟩
theorem os_J9_abs_0f7a4 : OkS mJ9_abs_0f7a4 1 := ⟨ok_J9_abs_0f7a4, (gtb_in 730 (by decide +kernel) (by decide +kernel))⟩
theorem ok_J9_max_7cf53 : OkM mJ9_max_7cf53 2 := ⟨gtb_in 245 (by decide +kernel) (by decide +kernel), gtb_in 60 (by decide +kernel) (by decide +kernel), by decide +kernel, by decide +kernel, by decide +kernel, by decide +kernel⟩
theorem os_J9_max_7cf53 : OkS mJ9_max_7cf53 2 := ⟨ok_J9_max_7cf53, (gtb_in 244 (by decide +kernel) (by decide +kernel))⟩
theorem ok_J9_min_7cf53 : OkM mJ9_min_7cf53 2 := ⟨gtb_in 248 (by decide +kernel) (by decide +kernel), gtb_in 60 (by decide +kernel) (by decide +kernel), by decide +kernel, by decide +kernel, by decide +kernel, by decide +kernel⟩
theorem os_J9_min_7cf53 : OkS mJ9_min_7cf53 2 := ⟨ok_J9_min_7cf53, (gtb_in 247 (by decide +kernel) (by decide +kernel))⟩
theorem ok_J0_length_8abf5 : OkM mJ0_length_8abf5 0 := ⟨gtb_in 143 (by decide +kernel) (by decide +kernel), gtb_in 56 (by decide +kernel) (by decide +kernel), by decide +kernel, by decide +kernel, by decide +kernel, by decide +kernel⟩
theorem ov_J0_length_8abf5 : OkV mJ0_length_8abf5 0 := ⟨ok_J0_length_8abf5, (gtb_in 141 (by decide +kernel) (by decide +kernel)), gtb_in 142 (by decide +kernel) (by decide +kernel)⟩
theorem ok_J0_charAt_5068e : OkM mJ0_charAt_5068e 1 := ⟨gtb_in 153 (by decide +kernel) (by decide +kernel), gtb_in 56 (by decide +kernel) (by decide +kernel), by decide +kernel, by decide +kernel, by decide +kernel, by decide +kernel⟩
theorem ov_J0_charAt_5068e : OkV mJ0_charAt_5068e 1 := ⟨ok_J0_charAt_5068e, (gtb_in 151 (by decide +kernel) (by decide +kernel)), gtb_in 152 (by decide +kernel) (by decide +kernel)⟩
theorem ok_J0_indexOf_0f7a4 : OkM mJ0_indexOf_0f7a4 1 := ⟨gtb_in 231 (by decide +kernel) (by decide +kernel), gtb_in 56 (by decide +kernel) (by decide +kernel), by decide +kernel, by decide +kernel, by decide +kernel, by decide +kernel⟩
theorem ov_J0_indexOf_0f7a4 : OkV mJ0_indexOf_0f7a4 1 := ⟨ok_J0_indexOf_0f7a4, (gtb_in 229 (by decide +kernel) (by decide +kernel)), gtb_in 230 (by decide +kernel) (by decide +kernel)⟩
theorem ok_J0_indexOf_7cf53 : OkM mJ0_indexOf_7cf53 2 := ⟨gtb_in 235 (by decide +kernel) (by decide +kernel), gtb_in 56 (by decide +kernel) (by decide +kernel), by decide +kernel, by decide +kernel, by decide +kernel, by decide +kernel⟩
theorem ov_J0_indexOf_7cf53 : OkV mJ0_indexOf_7cf53 2 := ⟨ok_J0_indexOf_7cf53, (gtb_in 233 (by decide +kernel) (by decide +kernel)), gtb_in 234 (by decide +kernel) (by decide +kernel)⟩
theorem ok_J0_coder_7d493 : OkM mJ0_coder_7d493 0 := ⟨gtb_in 147 (by decide +kernel) (by decide +kernel), gtb_in 56 (by decide +kernel) (by decide +kernel), by decide +kernel, by decide +kernel, by decide +kernel, by decide +kernel⟩
theorem ov_J0_coder_7d493 : OkV mJ0_coder_7d493 0 := ⟨ok_J0_coder_7d493, (gtb_in 145 (by decide +kernel) (by decide +kernel)), gtb_in 146 (by decide +kernel) (by decide +kernel)⟩
theorem ok_J0_isLatin1_aae02 : OkM mJ0_isLatin1_aae02 0 := ⟨gtb_in 157 (by decide +kernel) (by decide +kernel), gtb_in 56 (by decide +kernel) (by decide +kernel), by decide +kernel, by decide +kernel, by decide +kernel, by decide +kernel⟩
theorem ov_J0_isLatin1_aae02 : OkV mJ0_isLatin1_aae02 0 := ⟨ok_J0_isLatin1_aae02, (gtb_in 155 (by decide +kernel) (by decide +kernel)), gtb_in 156 (by decide +kernel) (by decide +kernel)⟩
theorem ok_J0_checkIndex_df160 : OkM mJ0_checkIndex_df160 2 := ⟨gtb_in 163 (by decide +kernel) (by decide +kernel), gtb_in 56 (by decide +kernel) (by decide +kernel), by decide +kernel, by decide +kernel, by decide +kernel, by decide +kernel⟩
theorem os_J0_checkIndex_df160 : OkS mJ0_checkIndex_df160 2 := ⟨ok_J0_checkIndex_df160, (gtb_in 162 (by decide +kernel) (by decide +kernel))⟩
theorem ok_J0_checkBoundsBeginEnd_23922 : OkM mJ0_checkBoundsBeginEnd_23922 3 := ⟨gtb_in 266 (by decide +kernel) (by decide +kernel), gtb_in 56 (by decide +kernel) (by decide +kernel), by decide +kernel, by decide +kernel, by decide +kernel, by decide +kernel⟩
theorem os_J0_checkBoundsBeginEnd_23922 : OkS mJ0_checkBoundsBeginEnd_23922 3 := ⟨ok_J0_checkBoundsBeginEnd_23922, (gtb_in 265 (by decide +kernel) (by decide +kernel))⟩
theorem ok_J1_charAt_3b067 : OkM mJ1_charAt_3b067 2 := ⟨gtb_in 160 (by decide +kernel) (by decide +kernel), gtb_in 57 (by decide +kernel) (by decide +kernel), by decide +kernel, by decide +kernel, by decide +kernel, by decide +kernel⟩
theorem os_J1_charAt_3b067 : OkS mJ1_charAt_3b067 2 := ⟨ok_J1_charAt_3b067, (gtb_in 159 (by decide +kernel) (by decide +kernel))⟩
theorem ok_J1_canEncode_9a6ad : OkM mJ1_canEncode_9a6ad 1 := ⟨gtb_in 242 (by decide +kernel) (by decide +kernel), gtb_in 57 (by decide +kernel) (by decide +kernel), by decide +kernel, by decide +kernel, by decide +kernel, by decide +kernel⟩
theorem os_J1_canEncode_9a6ad : OkS mJ1_canEncode_9a6ad 1 := ⟨ok_J1_canEncode_9a6ad, (gtb_in 241 (by decide +kernel) (by decide +kernel))⟩
theorem ok_J1_indexOf_4cfef : OkM mJ1_indexOf_4cfef 4 := ⟨gtb_in 239 (by decide +kernel) (by decide +kernel), gtb_in 57 (by decide +kernel) (by decide +kernel), by decide +kernel, by decide +kernel, by decide +kernel, by decide +kernel⟩
theorem os_J1_indexOf_4cfef : OkS mJ1_indexOf_4cfef 4 := ⟨ok_J1_indexOf_4cfef, (gtb_in 238 (by decide +kernel) (by decide +kernel))⟩
theorem ok_J1_indexOfChar_4cfef : OkM mJ1_indexOfChar_4cfef 4 := ⟨gtb_in 251 (by decide +kernel) (by decide +kernel), gtb_in 57 (by decide +kernel) (by decide +kernel), by decide +kernel, by decide +kernel, by decide +kernel, by decide +kernel⟩
theorem os_J1_indexOfChar_4cfef : OkS mJ1_indexOfChar_4cfef 4 := ⟨ok_J1_indexOfChar_4cfef, (gtb_in 250 (by decide +kernel) (by decide +kernel))⟩
theorem ok_J2_getChar_3b067 : OkM mJ2_getChar_3b067 2 := ⟨gtb_in 181 (by decide +kernel) (by decide +kernel), gtb_in 59 (by decide +kernel) (by decide +kernel), by decide +kernel, by decide +kernel, by decide +kernel, by decide +kernel⟩
theorem os_J2_getChar_3b067 : OkS mJ2_getChar_3b067 2 := ⟨ok_J2_getChar_3b067, (gtb_in 180 (by decide +kernel) (by decide +kernel))⟩
theorem ok_J2_length_9d52b : OkM mJ2_length_9d52b 1 := ⟨gtb_in 177 (by decide +kernel) (by decide +kernel), gtb_in 59 (by decide +kernel) (by decide +kernel), by decide +kernel, by decide +kernel, by decide +kernel, by decide +kernel⟩
theorem os_J2_length_9d52b : OkS mJ2_length_9d52b 1 := ⟨ok_J2_length_9d52b, (gtb_in 176 (by decide +kernel) (by decide +kernel))⟩
theorem ok_J2_indexOf_4cfef : OkM mJ2_indexOf_4cfef 4 := ⟨gtb_in 254 (by decide +kernel) (by decide +kernel), gtb_in 59 (by decide +kernel) (by decide +kernel), by decide +kernel, by decide +kernel, by decide +kernel, by decide +kernel⟩
theorem os_J2_indexOf_4cfef : OkS mJ2_indexOf_4cfef 4 := ⟨ok_J2_indexOf_4cfef, (gtb_in 253 (by decide +kernel) (by decide +kernel))⟩
theorem ok_J2_indexOfChar_4cfef : OkM mJ2_indexOfChar_4cfef 4 := ⟨gtb_in 260 (by decide +kernel) (by decide +kernel), gtb_in 59 (by decide +kernel) (by decide +kernel), by decide +kernel, by decide +kernel, by decide +kernel, by decide +kernel⟩
theorem os_J2_indexOfChar_4cfef : OkS mJ2_indexOfChar_4cfef 4 := ⟨ok_J2_indexOfChar_4cfef, (gtb_in 259 (by decide +kernel) (by decide +kernel))⟩
theorem ok_J2_indexOfCharUnsafe_4cfef : OkM mJ2_indexOfCharUnsafe_4cfef 4 := ⟨gtb_in 272 (by decide +kernel) (by decide +kernel), gtb_in 59 (by decide +kernel) (by decide +kernel), by decide +kernel, by decide +kernel, by decide +kernel, by decide +kernel⟩
theorem os_J2_indexOfCharUnsafe_4cfef : OkS mJ2_indexOfCharUnsafe_4cfef 4 := ⟨ok_J2_indexOfCharUnsafe_4cfef, (gtb_in 271 (by decide +kernel) (by decide +kernel))⟩
theorem ok_J2_indexOfSupplementary_4cfef : OkM mJ2_indexOfSupplementary_4cfef 4 := ⟨gtb_in 275 (by decide +kernel) (by decide +kernel), gtb_in 59 (by decide +kernel) (by decide +kernel), by decide +kernel, by decide +kernel, by decide +kernel, by decide +kernel⟩
theorem os_J2_indexOfSupplementary_4cfef : OkS mJ2_indexOfSupplementary_4cfef 4 := ⟨ok_J2_indexOfSupplementary_4cfef, (gtb_in 274 (by decide +kernel) (by decide +kernel))⟩
theorem ok_J2_charAt_3b067 : OkM mJ2_charAt_3b067 2 := ⟨gtb_in 171 (by decide +kernel) (by decide +kernel), gtb_in 59 (by decide +kernel) (by decide +kernel), by decide +kernel, by decide +kernel, by decide +kernel, by decide +kernel⟩
theorem os_J2_charAt_3b067 : OkS mJ2_charAt_3b067 2 := ⟨ok_J2_charAt_3b067, (gtb_in 170 (by decide +kernel) (by decide +kernel))⟩
theorem ok_J2_checkIndex_2214a : OkM mJ2_checkIndex_2214a 2 := ⟨gtb_in 174 (by decide +kernel) (by decide +kernel), gtb_in 59 (by decide +kernel) (by decide +kernel), by decide +kernel, by decide +kernel, by decide +kernel, by decide +kernel⟩
theorem os_J2_checkIndex_2214a : OkS mJ2_checkIndex_2214a 2 := ⟨ok_J2_checkIndex_2214a, (gtb_in 173 (by decide +kernel) (by decide +kernel))⟩
theorem ok_J2_checkBoundsBeginEnd_d044e : OkM mJ2_checkBoundsBeginEnd_d044e 3 := ⟨gtb_in 263 (by decide +kernel) (by decide +kernel), gtb_in 59 (by decide +kernel) (by decide +kernel), by decide +kernel, by decide +kernel, by decide +kernel, by decide +kernel⟩
theorem os_J2_checkBoundsBeginEnd_d044e : OkS mJ2_checkBoundsBeginEnd_d044e 3 := ⟨ok_J2_checkBoundsBeginEnd_d044e, (gtb_in 262 (by decide +kernel) (by decide +kernel))⟩
theorem ok_J7_fill_53178 : OkM mJ7_fill_53178 2 := ⟨gtb_in 777 (by decide +kernel) (by decide +kernel), gtb_in 63 (by decide +kernel) (by decide +kernel), by decide +kernel, by decide +kernel, by decide +kernel, by decide +kernel⟩
theorem os_J7_fill_53178 : OkS mJ7_fill_53178 2 := ⟨ok_J7_fill_53178, (gtb_in 776 (by decide +kernel) (by decide +kernel))⟩
theorem ok_J7_copyOf_59c91 : OkM mJ7_copyOf_59c91 2 := ⟨gtb_in 323 (by decide +kernel) (by decide +kernel), gtb_in 63 (by decide +kernel) (by decide +kernel), by decide +kernel, by decide +kernel, by decide +kernel, by decide +kernel⟩
theorem os_J7_copyOf_59c91 : OkS mJ7_copyOf_59c91 2 := ⟨ok_J7_copyOf_59c91, (gtb_in 322 (by decide +kernel) (by decide +kernel))⟩
theorem ok_J3_checkIndex_8e157 : OkM mJ3_checkIndex_8e157 3 := ⟨gtb_in 168 (by decide +kernel) (by decide +kernel), gtb_in 58 (by decide +kernel) (by decide +kernel), by decide +kernel, by decide +kernel, by decide +kernel, by decide +kernel⟩
theorem os_J3_checkIndex_8e157 : OkS mJ3_checkIndex_8e157 3 := ⟨ok_J3_checkIndex_8e157, (gtb_in 167 (by decide +kernel) (by decide +kernel))⟩
theorem ok_J3_checkFromToIndex_8c36e : OkM mJ3_checkFromToIndex_8c36e 4 := ⟨gtb_in 269 (by decide +kernel) (by decide +kernel), gtb_in 58 (by decide +kernel) (by decide +kernel), by decide +kernel, by decide +kernel, by decide +kernel, by decide +kernel⟩
theorem os_J3_checkFromToIndex_8c36e : OkS mJ3_checkFromToIndex_8c36e 4 := ⟨ok_J3_checkFromToIndex_8c36e, (gtb_in 268 (by decide +kernel) (by decide +kernel))⟩
theorem ml_X6_1 : Cond.methodLink "TillTheyMeet" 1 ⟨"java/lang/Object", "<init>", "()V"⟩ ∈ gtb := (gtb_in 74 (by decide +kernel) (by decide +kernel))
theorem ml_X6_45 : Cond.methodLink "TillTheyMeet" 45 ⟨"java/lang/String", "length", "()I"⟩ ∈ gtb := (gtb_in 140 (by decide +kernel) (by decide +kernel))
theorem ml_X6_51 : Cond.methodLink "TillTheyMeet" 51 ⟨"java/lang/String", "charAt", "(I)C"⟩ ∈ gtb := (gtb_in 150 (by decide +kernel) (by decide +kernel))
theorem ml_X6_55 : Cond.methodLink "TillTheyMeet" 55 ⟨"TillTheyMeet$Reader", "append", "(I)Z"⟩ ∈ gtb := (gtb_in 188 (by decide +kernel) (by decide +kernel))
theorem ml_X6_59 : Cond.methodLink "TillTheyMeet" 59 ⟨"TillTheyMeet$Reader", "readText", "()V"⟩ ∈ gtb := (gtb_in 192 (by decide +kernel) (by decide +kernel))
theorem ml_X6_65 : Cond.methodLink "TillTheyMeet" 65 ⟨"TillTheyMeet$Reader", "ruleOf", "(I)LTillTheyMeet$Rule;"⟩ ∈ gtb := (gtb_in 315 (by decide +kernel) (by decide +kernel))
theorem ml_X6_71 : Cond.methodLink "TillTheyMeet" 71 ⟨"TillTheyMeet$Road", "<init>", "(LTillTheyMeet$Rule;)V"⟩ ∈ gtb := (gtb_in 363 (by decide +kernel) (by decide +kernel))
theorem ml_X6_88 : Cond.methodLink "TillTheyMeet" 88 ⟨"TillTheyMeet", "isYard", "(I)Z"⟩ ∈ gtb := (gtb_in 513 (by decide +kernel) (by decide +kernel))
theorem ml_X6_91 : Cond.methodLink "TillTheyMeet" 91 ⟨"TillTheyMeet", "within", "(III)Z"⟩ ∈ gtb := (gtb_in 516 (by decide +kernel) (by decide +kernel))
theorem ml_X6_95 : Cond.methodLink "TillTheyMeet" 95 ⟨"TillTheyMeet$Road", "doerOf", "(I)I"⟩ ∈ gtb := (gtb_in 519 (by decide +kernel) (by decide +kernel))
theorem ml_X6_115 : Cond.methodLink "TillTheyMeet" 115 ⟨"TillTheyMeet$Road", "ask", "(III)I"⟩ ∈ gtb := (gtb_in 527 (by decide +kernel) (by decide +kernel))
theorem ml_X6_119 : Cond.methodLink "TillTheyMeet" 119 ⟨"TillTheyMeet", "isGang", "(I)Z"⟩ ∈ gtb := (gtb_in 551 (by decide +kernel) (by decide +kernel))
theorem ml_X6_122 : Cond.methodLink "TillTheyMeet" 122 ⟨"TillTheyMeet$Road", "gangOf", "(I)LTillTheyMeet$Gang;"⟩ ∈ gtb := (gtb_in 554 (by decide +kernel) (by decide +kernel))
theorem ml_X6_159 : Cond.methodLink "TillTheyMeet" 159 ⟨"TillTheyMeet$Road", "ahead", "()I"⟩ ∈ gtb := (gtb_in 570 (by decide +kernel) (by decide +kernel))
theorem ml_X6_162 : Cond.methodLink "TillTheyMeet" 162 ⟨"TillTheyMeet", "doesToday", "(LTillTheyMeet$Gang;)I"⟩ ∈ gtb := (gtb_in 571 (by decide +kernel) (by decide +kernel))
theorem ml_X6_166 : Cond.methodLink "TillTheyMeet" 166 ⟨"TillTheyMeet$Gang", "costs", "()I"⟩ ∈ gtb := (gtb_in 592 (by decide +kernel) (by decide +kernel))
theorem ml_X6_169 : Cond.methodLink "TillTheyMeet" 169 ⟨"TillTheyMeet$Gang", "nextYard", "()I"⟩ ∈ gtb := (gtb_in 575 (by decide +kernel) (by decide +kernel))
theorem ml_X6_172 : Cond.methodLink "TillTheyMeet" 172 ⟨"TillTheyMeet$Road", "groundOf", "(I)I"⟩ ∈ gtb := (gtb_in 579 (by decide +kernel) (by decide +kernel))
theorem ml_X6_178 : Cond.methodLink "TillTheyMeet" 178 ⟨"TillTheyMeet$Gang", "does", "(III)I"⟩ ∈ gtb := (gtb_in 583 (by decide +kernel) (by decide +kernel))
theorem ml_X6_189 : Cond.methodLink "TillTheyMeet" 189 ⟨"TillTheyMeet$Road", "forgetAnswers", "()V"⟩ ∈ gtb := (gtb_in 612 (by decide +kernel) (by decide +kernel))
theorem ml_X6_192 : Cond.methodLink "TillTheyMeet" 192 ⟨"TillTheyMeet$Road", "passDay", "(I)V"⟩ ∈ gtb := (gtb_in 620 (by decide +kernel) (by decide +kernel))
theorem ml_X6_197 : Cond.methodLink "TillTheyMeet" 197 ⟨"TillTheyMeet$Road", "copyAll", "(LTillTheyMeet$Road;)V"⟩ ∈ gtb := (gtb_in 642 (by decide +kernel) (by decide +kernel))
theorem ml_X6_201 : Cond.methodLink "TillTheyMeet" 201 ⟨"TillTheyMeet$Road", "runOut", "(II)I"⟩ ∈ gtb := (gtb_in 656 (by decide +kernel) (by decide +kernel))
theorem ml_X6_205 : Cond.methodLink "TillTheyMeet" 205 ⟨"TillTheyMeet$Gang", "gain", "()I"⟩ ∈ gtb := (gtb_in 661 (by decide +kernel) (by decide +kernel))
theorem ml_X6_211 : Cond.methodLink "TillTheyMeet" 211 ⟨"TillTheyMeet$Road", "paid", "()I"⟩ ∈ gtb := (gtb_in 665 (by decide +kernel) (by decide +kernel))
theorem ml_X6_214 : Cond.methodLink "TillTheyMeet" 214 ⟨"TillTheyMeet$Road", "worth", "()I"⟩ ∈ gtb := (gtb_in 669 (by decide +kernel) (by decide +kernel))
theorem ml_X6_217 : Cond.methodLink "TillTheyMeet" 217 ⟨"TillTheyMeet$Best", "clear", "()V"⟩ ∈ gtb := (gtb_in 681 (by decide +kernel) (by decide +kernel))
theorem ml_X6_220 : Cond.methodLink "TillTheyMeet" 220 ⟨"TillTheyMeet$Best", "offer", "(II)V"⟩ ∈ gtb := (gtb_in 685 (by decide +kernel) (by decide +kernel))
theorem ml_X6_229 : Cond.methodLink "TillTheyMeet" 229 ⟨"TillTheyMeet", "seekMen", "(LTillTheyMeet$Road;I)I"⟩ ∈ gtb := (gtb_in 693 (by decide +kernel) (by decide +kernel))
theorem ml_X6_233 : Cond.methodLink "TillTheyMeet" 233 ⟨"TillTheyMeet", "sheetOf", "(I)LTillTheyMeet$Sheet;"⟩ ∈ gtb := (gtb_in 713 (by decide +kernel) (by decide +kernel))
theorem ml_X6_237 : Cond.methodLink "TillTheyMeet" 237 ⟨"TillTheyMeet$Sheet", "isMissing", "()Z"⟩ ∈ gtb := (gtb_in 717 (by decide +kernel) (by decide +kernel))
theorem ml_X6_241 : Cond.methodLink "TillTheyMeet" 241 ⟨"TillTheyMeet", "goesAs", "(LTillTheyMeet$Sheet;I)Z"⟩ ∈ gtb := (gtb_in 721 (by decide +kernel) (by decide +kernel))
theorem ml_X6_249 : Cond.methodLink "TillTheyMeet" 249 ⟨"java/lang/Math", "abs", "(I)I"⟩ ∈ gtb := (gtb_in 729 (by decide +kernel) (by decide +kernel))
theorem ml_X6_257 : Cond.methodLink "TillTheyMeet" 257 ⟨"TillTheyMeet", "drawn", "(I)I"⟩ ∈ gtb := (gtb_in 750 (by decide +kernel) (by decide +kernel))
theorem ml_X6_260 : Cond.methodLink "TillTheyMeet" 260 ⟨"TillTheyMeet", "commonPart", "(II)I"⟩ ∈ gtb := (gtb_in 751 (by decide +kernel) (by decide +kernel))
theorem ml_X6_263 : Cond.methodLink "TillTheyMeet" 263 ⟨"TillTheyMeet$Road", "copyKept", "(LTillTheyMeet$Road;)V"⟩ ∈ gtb := (gtb_in 758 (by decide +kernel) (by decide +kernel))
theorem ml_X6_266 : Cond.methodLink "TillTheyMeet" 266 ⟨"TillTheyMeet$Sheet", "become", "(II)V"⟩ ∈ gtb := (gtb_in 771 (by decide +kernel) (by decide +kernel))
theorem ml_X6_269 : Cond.methodLink "TillTheyMeet" 269 ⟨"TillTheyMeet$Sheet", "has", "(I)Z"⟩ ∈ gtb := (gtb_in 782 (by decide +kernel) (by decide +kernel))
theorem ml_X6_272 : Cond.methodLink "TillTheyMeet" 272 ⟨"TillTheyMeet$Sheet", "cut", "(I)I"⟩ ∈ gtb := (gtb_in 786 (by decide +kernel) (by decide +kernel))
theorem ml_X6_278 : Cond.methodLink "TillTheyMeet" 278 ⟨"TillTheyMeet$Sheet", "hasSpan", "(II)Z"⟩ ∈ gtb := (gtb_in 794 (by decide +kernel) (by decide +kernel))
theorem ml_X6_282 : Cond.methodLink "TillTheyMeet" 282 ⟨"java/lang/System", "arraycopy", "(Ljava/lang/Object;ILjava/lang/Object;II)V"⟩ ∈ gtb := (gtb_in 798 (by decide +kernel) (by decide +kernel))
theorem ml_X6_288 : Cond.methodLink "TillTheyMeet" 288 ⟨"TillTheyMeet", "ground", "(III)I"⟩ ∈ gtb := (gtb_in 803 (by decide +kernel) (by decide +kernel))
theorem ml_X6_290 : Cond.methodLink "TillTheyMeet" 290 ⟨"TillTheyMeet$Gang", "isUnder", "(I)Z"⟩ ∈ gtb := (gtb_in 808 (by decide +kernel) (by decide +kernel))
theorem ml_X0_3 : Cond.methodLink "TillTheyMeet$Best" 3 ⟨"java/lang/Object", "<init>", "()V"⟩ ∈ gtb := (gtb_in 82 (by decide +kernel) (by decide +kernel))
theorem ml_X1_3 : Cond.methodLink "TillTheyMeet$Gang" 3 ⟨"java/lang/Object", "<init>", "()V"⟩ ∈ gtb := (gtb_in 372 (by decide +kernel) (by decide +kernel))
theorem ml_X1_44 : Cond.methodLink "TillTheyMeet$Gang" 44 ⟨"TillTheyMeet$Gang", "isNight", "(I)Z"⟩ ∈ gtb := (gtb_in 587 (by decide +kernel) (by decide +kernel))
theorem ml_X1_48 : Cond.methodLink "TillTheyMeet$Gang" 48 ⟨"java/lang/Math", "max", "(II)I"⟩ ∈ gtb := (gtb_in 591 (by decide +kernel) (by decide +kernel))
theorem ml_X2_3 : Cond.methodLink "TillTheyMeet$Reader" 3 ⟨"java/lang/Object", "<init>", "()V"⟩ ∈ gtb := (gtb_in 100 (by decide +kernel) (by decide +kernel))
theorem ml_X2_45 : Cond.methodLink "TillTheyMeet$Reader" 45 ⟨"java/util/Arrays", "copyOf", "([II)[I"⟩ ∈ gtb := (gtb_in 321 (by decide +kernel) (by decide +kernel))
theorem ml_X2_51 : Cond.methodLink "TillTheyMeet$Reader" 51 ⟨"[I", "clone", "()Ljava/lang/Object;"⟩ ∈ gtb := (gtb_in 335 (by decide +kernel) (by decide +kernel))
theorem ml_X2_56 : Cond.methodLink "TillTheyMeet$Reader" 56 ⟨"TillTheyMeet$Rule", "<init>", "(I[I[I)V"⟩ ∈ gtb := (gtb_in 337 (by decide +kernel) (by decide +kernel))
theorem ml_X2_59 : Cond.methodLink "TillTheyMeet$Reader" 59 ⟨"TillTheyMeet$Reader", "advance", "()V"⟩ ∈ gtb := (gtb_in 196 (by decide +kernel) (by decide +kernel))
theorem ml_X2_62 : Cond.methodLink "TillTheyMeet$Reader" 62 ⟨"TillTheyMeet$Reader", "expect", "(I)V"⟩ ∈ gtb := (gtb_in 287 (by decide +kernel) (by decide +kernel))
theorem ml_X2_66 : Cond.methodLink "TillTheyMeet$Reader" 66 ⟨"TillTheyMeet$Reader", "readLevel", "(II)V"⟩ ∈ gtb := (gtb_in 295 (by decide +kernel) (by decide +kernel))
theorem ml_X2_70 : Cond.methodLink "TillTheyMeet$Reader" 70 ⟨"TillTheyMeet$Reader", "refuse", "()V"⟩ ∈ gtb := (gtb_in 291 (by decide +kernel) (by decide +kernel))
theorem ml_X2_73 : Cond.methodLink "TillTheyMeet$Reader" 73 ⟨"TillTheyMeet$Reader", "readOne", "(I)V"⟩ ∈ gtb := (gtb_in 299 (by decide +kernel) (by decide +kernel))
theorem ml_X2_76 : Cond.methodLink "TillTheyMeet$Reader" 76 ⟨"TillTheyMeet$Reader", "opens", "(I)Z"⟩ ∈ gtb := (gtb_in 307 (by decide +kernel) (by decide +kernel))
theorem ml_X2_80 : Cond.methodLink "TillTheyMeet$Reader" 80 ⟨"TillTheyMeet$Reader", "put", "(I)V"⟩ ∈ gtb := (gtb_in 303 (by decide +kernel) (by decide +kernel))
theorem ml_X2_83 : Cond.methodLink "TillTheyMeet$Reader" 83 ⟨"TillTheyMeet$Reader", "stepAt", "(I)I"⟩ ∈ gtb := (gtb_in 311 (by decide +kernel) (by decide +kernel))
theorem ml_X2_87 : Cond.methodLink "TillTheyMeet$Reader" 87 ⟨"TillTheyMeet$Reader", "isBlank", "(I)Z"⟩ ∈ gtb := (gtb_in 200 (by decide +kernel) (by decide +kernel))
theorem ml_X2_90 : Cond.methodLink "TillTheyMeet$Reader" 90 ⟨"TillTheyMeet$Reader", "isDigit", "(I)Z"⟩ ∈ gtb := (gtb_in 203 (by decide +kernel) (by decide +kernel))
theorem ml_X2_93 : Cond.methodLink "TillTheyMeet$Reader" 93 ⟨"TillTheyMeet$Reader", "readNumber", "()V"⟩ ∈ gtb := (gtb_in 206 (by decide +kernel) (by decide +kernel))
theorem ml_X2_96 : Cond.methodLink "TillTheyMeet$Reader" 96 ⟨"TillTheyMeet$Reader", "isLetter", "(I)Z"⟩ ∈ gtb := (gtb_in 210 (by decide +kernel) (by decide +kernel))
theorem ml_X2_99 : Cond.methodLink "TillTheyMeet$Reader" 99 ⟨"TillTheyMeet$Reader", "readWord", "()V"⟩ ∈ gtb := (gtb_in 213 (by decide +kernel) (by decide +kernel))
theorem ml_X2_102 : Cond.methodLink "TillTheyMeet$Reader" 102 ⟨"TillTheyMeet$Reader", "readSign", "(I)V"⟩ ∈ gtb := (gtb_in 223 (by decide +kernel) (by decide +kernel))
theorem ml_X2_105 : Cond.methodLink "TillTheyMeet$Reader" 105 ⟨"TillTheyMeet$Reader", "spells", "(I)Z"⟩ ∈ gtb := (gtb_in 217 (by decide +kernel) (by decide +kernel))
theorem ml_X2_110 : Cond.methodLink "TillTheyMeet$Reader" 110 ⟨"java/lang/String", "charAt", "(I)C"⟩ ∈ gtb := (gtb_in 222 (by decide +kernel) (by decide +kernel))
theorem ml_X2_118 : Cond.methodLink "TillTheyMeet$Reader" 118 ⟨"java/lang/String", "indexOf", "(I)I"⟩ ∈ gtb := (gtb_in 228 (by decide +kernel) (by decide +kernel))
theorem ml_X3_3 : Cond.methodLink "TillTheyMeet$Road" 3 ⟨"java/lang/Object", "<init>", "()V"⟩ ∈ gtb := (gtb_in 366 (by decide +kernel) (by decide +kernel))
theorem ml_X3_20 : Cond.methodLink "TillTheyMeet$Road" 20 ⟨"TillTheyMeet$Gang", "<init>", "(Z)V"⟩ ∈ gtb := (gtb_in 369 (by decide +kernel) (by decide +kernel))
theorem ml_X3_65 : Cond.methodLink "TillTheyMeet$Road" 65 ⟨"TillTheyMeet$Road", "ask", "(III)I"⟩ ∈ gtb := (gtb_in 634 (by decide +kernel) (by decide +kernel))
theorem ml_X3_73 : Cond.methodLink "TillTheyMeet$Road" 73 ⟨"TillTheyMeet$Road", "ahead", "()I"⟩ ∈ gtb := (gtb_in 533 (by decide +kernel) (by decide +kernel))
theorem ml_X3_83 : Cond.methodLink "TillTheyMeet$Road" 83 ⟨"TillTheyMeet$Rule", "valueOf", "(I[I)I"⟩ ∈ gtb := (gtb_in 541 (by decide +kernel) (by decide +kernel))
theorem ml_X3_87 : Cond.methodLink "TillTheyMeet$Road" 87 ⟨"java/lang/Math", "min", "(II)I"⟩ ∈ gtb := (gtb_in 545 (by decide +kernel) (by decide +kernel))
theorem ml_X3_93 : Cond.methodLink "TillTheyMeet$Road" 93 ⟨"java/lang/Math", "max", "(II)I"⟩ ∈ gtb := (gtb_in 546 (by decide +kernel) (by decide +kernel))
theorem ml_X3_106 : Cond.methodLink "TillTheyMeet$Road" 106 ⟨"TillTheyMeet$Gang", "nextYard", "()I"⟩ ∈ gtb := (gtb_in 628 (by decide +kernel) (by decide +kernel))
theorem ml_X3_109 : Cond.methodLink "TillTheyMeet$Road" 109 ⟨"TillTheyMeet$Gang", "forgetAnswers", "()V"⟩ ∈ gtb := (gtb_in 616 (by decide +kernel) (by decide +kernel))
theorem ml_X3_115 : Cond.methodLink "TillTheyMeet$Road" 115 ⟨"TillTheyMeet$Road", "groundOf", "(I)I"⟩ ∈ gtb := (gtb_in 629 (by decide +kernel) (by decide +kernel))
theorem ml_X3_119 : Cond.methodLink "TillTheyMeet$Road" 119 ⟨"TillTheyMeet$Road", "askOfNext", "(ILTillTheyMeet$Gang;)I"⟩ ∈ gtb := (gtb_in 630 (by decide +kernel) (by decide +kernel))
theorem ml_X3_123 : Cond.methodLink "TillTheyMeet$Road" 123 ⟨"TillTheyMeet$Gang", "does", "(III)I"⟩ ∈ gtb := (gtb_in 635 (by decide +kernel) (by decide +kernel))
theorem ml_X3_129 : Cond.methodLink "TillTheyMeet$Road" 129 ⟨"TillTheyMeet$Gang", "costs", "()I"⟩ ∈ gtb := (gtb_in 636 (by decide +kernel) (by decide +kernel))
theorem ml_X3_132 : Cond.methodLink "TillTheyMeet$Road" 132 ⟨"TillTheyMeet$Road", "takeTurn", "(LTillTheyMeet$Gang;)V"⟩ ∈ gtb := (gtb_in 624 (by decide +kernel) (by decide +kernel))
theorem ml_X3_136 : Cond.methodLink "TillTheyMeet$Road" 136 ⟨"TillTheyMeet$Road", "passDay", "(I)V"⟩ ∈ gtb := (gtb_in 660 (by decide +kernel) (by decide +kernel))
theorem ml_X3_140 : Cond.methodLink "TillTheyMeet$Road" 140 ⟨"java/lang/System", "arraycopy", "(Ljava/lang/Object;ILjava/lang/Object;II)V"⟩ ∈ gtb := (gtb_in 650 (by decide +kernel) (by decide +kernel))
theorem ml_X3_146 : Cond.methodLink "TillTheyMeet$Road" 146 ⟨"TillTheyMeet$Gang", "copyKept", "(LTillTheyMeet$Gang;)V"⟩ ∈ gtb := (gtb_in 651 (by decide +kernel) (by decide +kernel))
theorem ml_X3_149 : Cond.methodLink "TillTheyMeet$Road" 149 ⟨"TillTheyMeet$Road", "copyKept", "(LTillTheyMeet$Road;)V"⟩ ∈ gtb := (gtb_in 646 (by decide +kernel) (by decide +kernel))
theorem ml_X3_158 : Cond.methodLink "TillTheyMeet$Road" 158 ⟨"TillTheyMeet$Road", "forgetAnswers", "()V"⟩ ∈ gtb := (gtb_in 655 (by decide +kernel) (by decide +kernel))
theorem ml_X4_1 : Cond.methodLink "TillTheyMeet$Rule" 1 ⟨"java/lang/Object", "<init>", "()V"⟩ ∈ gtb := (gtb_in 340 (by decide +kernel) (by decide +kernel))
theorem ml_X5_3 : Cond.methodLink "TillTheyMeet$Sheet" 3 ⟨"java/lang/Object", "<init>", "()V"⟩ ∈ gtb := (gtb_in 464 (by decide +kernel) (by decide +kernel))
theorem ml_X5_22 : Cond.methodLink "TillTheyMeet$Sheet" 22 ⟨"java/util/Arrays", "fill", "([II)V"⟩ ∈ gtb := (gtb_in 775 (by decide +kernel) (by decide +kernel))
theorem ml_L_9 : Cond.methodLink "TillTheyMeetLaw" 9 ⟨"TillTheyMeet", "<init>", "()V"⟩ ∈ gtb := (gtb_in 71 (by decide +kernel) (by decide +kernel))
theorem ml_L_12 : Cond.methodLink "TillTheyMeetLaw" 12 ⟨"TillTheyMeetModel", "<init>", "()V"⟩ ∈ gtb := (gtb_in 817 (by decide +kernel) (by decide +kernel))
theorem ml_L_13 : Cond.methodLink "TillTheyMeetLaw" 13 ⟨"TillTheyMeet", "ground", "(III)I"⟩ ∈ gtb := (gtb_in 509 (by decide +kernel) (by decide +kernel))
theorem ml_L_17 : Cond.methodLink "TillTheyMeetLaw" 17 ⟨"TillTheyMeetModel", "ground", "(III)I"⟩ ∈ gtb := (gtb_in 990 (by decide +kernel) (by decide +kernel))
theorem ml_L_18 : Cond.methodLink "TillTheyMeetLaw" 18 ⟨"TillTheyMeet", "yard", "(II)I"⟩ ∈ gtb := (gtb_in 523 (by decide +kernel) (by decide +kernel))
theorem ml_L_22 : Cond.methodLink "TillTheyMeetLaw" 22 ⟨"TillTheyMeetModel", "yard", "(II)I"⟩ ∈ gtb := (gtb_in 1006 (by decide +kernel) (by decide +kernel))
theorem ml_L_23 : Cond.methodLink "TillTheyMeetLaw" 23 ⟨"TillTheyMeet", "gang", "(III)I"⟩ ∈ gtb := (gtb_in 547 (by decide +kernel) (by decide +kernel))
theorem ml_L_26 : Cond.methodLink "TillTheyMeetLaw" 26 ⟨"TillTheyMeetModel", "gang", "(III)I"⟩ ∈ gtb := (gtb_in 1096 (by decide +kernel) (by decide +kernel))
theorem ml_L_27 : Cond.methodLink "TillTheyMeetLaw" 27 ⟨"TillTheyMeet", "set", "(II)I"⟩ ∈ gtb := (gtb_in 558 (by decide +kernel) (by decide +kernel))
theorem ml_L_30 : Cond.methodLink "TillTheyMeetLaw" 30 ⟨"TillTheyMeetModel", "set", "(II)I"⟩ ∈ gtb := (gtb_in 1105 (by decide +kernel) (by decide +kernel))
theorem ml_L_31 : Cond.methodLink "TillTheyMeetLaw" 31 ⟨"TillTheyMeet", "told", "(II)I"⟩ ∈ gtb := (gtb_in 566 (by decide +kernel) (by decide +kernel))
theorem ml_L_34 : Cond.methodLink "TillTheyMeetLaw" 34 ⟨"TillTheyMeetModel", "told", "(II)I"⟩ ∈ gtb := (gtb_in 1113 (by decide +kernel) (by decide +kernel))
theorem ml_L_35 : Cond.methodLink "TillTheyMeetLaw" 35 ⟨"TillTheyMeet", "feed", "(I)I"⟩ ∈ gtb := (gtb_in 596 (by decide +kernel) (by decide +kernel))
theorem ml_L_39 : Cond.methodLink "TillTheyMeetLaw" 39 ⟨"TillTheyMeetModel", "feed", "(I)I"⟩ ∈ gtb := (gtb_in 1130 (by decide +kernel) (by decide +kernel))
theorem ml_L_40 : Cond.methodLink "TillTheyMeetLaw" 40 ⟨"TillTheyMeet", "text", "()I"⟩ ∈ gtb := (gtb_in 600 (by decide +kernel) (by decide +kernel))
theorem ml_L_44 : Cond.methodLink "TillTheyMeetLaw" 44 ⟨"TillTheyMeetModel", "text", "()I"⟩ ∈ gtb := (gtb_in 1135 (by decide +kernel) (by decide +kernel))
theorem ml_L_45 : Cond.methodLink "TillTheyMeetLaw" 45 ⟨"TillTheyMeet", "force", "(I)I"⟩ ∈ gtb := (gtb_in 604 (by decide +kernel) (by decide +kernel))
theorem ml_L_48 : Cond.methodLink "TillTheyMeetLaw" 48 ⟨"TillTheyMeetModel", "force", "(I)I"⟩ ∈ gtb := (gtb_in 1139 (by decide +kernel) (by decide +kernel))
theorem ml_L_49 : Cond.methodLink "TillTheyMeetLaw" 49 ⟨"TillTheyMeet", "day", "()I"⟩ ∈ gtb := (gtb_in 608 (by decide +kernel) (by decide +kernel))
theorem ml_L_52 : Cond.methodLink "TillTheyMeetLaw" 52 ⟨"TillTheyMeetModel", "day", "()I"⟩ ∈ gtb := (gtb_in 1143 (by decide +kernel) (by decide +kernel))
theorem ml_L_53 : Cond.methodLink "TillTheyMeetLaw" 53 ⟨"TillTheyMeet", "run", "(I)I"⟩ ∈ gtb := (gtb_in 637 (by decide +kernel) (by decide +kernel))
theorem ml_L_56 : Cond.methodLink "TillTheyMeetLaw" 56 ⟨"TillTheyMeetModel", "run", "(I)I"⟩ ∈ gtb := (gtb_in 1155 (by decide +kernel) (by decide +kernel))
theorem ml_L_57 : Cond.methodLink "TillTheyMeetLaw" 57 ⟨"TillTheyMeet", "done", "(II)I"⟩ ∈ gtb := (gtb_in 673 (by decide +kernel) (by decide +kernel))
theorem ml_L_60 : Cond.methodLink "TillTheyMeetLaw" 60 ⟨"TillTheyMeetModel", "done", "(II)I"⟩ ∈ gtb := (gtb_in 1180 (by decide +kernel) (by decide +kernel))
theorem ml_L_61 : Cond.methodLink "TillTheyMeetLaw" 61 ⟨"TillTheyMeet", "ease", "(II)I"⟩ ∈ gtb := (gtb_in 677 (by decide +kernel) (by decide +kernel))
theorem ml_L_64 : Cond.methodLink "TillTheyMeetLaw" 64 ⟨"TillTheyMeetModel", "ease", "(II)I"⟩ ∈ gtb := (gtb_in 1185 (by decide +kernel) (by decide +kernel))
theorem ml_L_65 : Cond.methodLink "TillTheyMeetLaw" 65 ⟨"TillTheyMeet", "men", "(II)I"⟩ ∈ gtb := (gtb_in 689 (by decide +kernel) (by decide +kernel))
theorem ml_L_68 : Cond.methodLink "TillTheyMeetLaw" 68 ⟨"TillTheyMeetModel", "men", "(II)I"⟩ ∈ gtb := (gtb_in 1189 (by decide +kernel) (by decide +kernel))
theorem ml_L_69 : Cond.methodLink "TillTheyMeetLaw" 69 ⟨"TillTheyMeet", "quarrel", "(I)I"⟩ ∈ gtb := (gtb_in 697 (by decide +kernel) (by decide +kernel))
theorem ml_L_72 : Cond.methodLink "TillTheyMeetLaw" 72 ⟨"TillTheyMeetModel", "quarrel", "(I)I"⟩ ∈ gtb := (gtb_in 1201 (by decide +kernel) (by decide +kernel))
theorem ml_L_73 : Cond.methodLink "TillTheyMeetLaw" 73 ⟨"TillTheyMeet", "bore", "(II)I"⟩ ∈ gtb := (gtb_in 701 (by decide +kernel) (by decide +kernel))
theorem ml_L_76 : Cond.methodLink "TillTheyMeetLaw" 76 ⟨"TillTheyMeetModel", "bore", "(II)I"⟩ ∈ gtb := (gtb_in 1206 (by decide +kernel) (by decide +kernel))
theorem ml_L_77 : Cond.methodLink "TillTheyMeetLaw" 77 ⟨"TillTheyMeet", "well", "(I)I"⟩ ∈ gtb := (gtb_in 705 (by decide +kernel) (by decide +kernel))
theorem ml_L_80 : Cond.methodLink "TillTheyMeetLaw" 80 ⟨"TillTheyMeetModel", "well", "(I)I"⟩ ∈ gtb := (gtb_in 1211 (by decide +kernel) (by decide +kernel))
theorem ml_L_81 : Cond.methodLink "TillTheyMeetLaw" 81 ⟨"TillTheyMeet", "slowed", "(II)I"⟩ ∈ gtb := (gtb_in 709 (by decide +kernel) (by decide +kernel))
theorem ml_L_84 : Cond.methodLink "TillTheyMeetLaw" 84 ⟨"TillTheyMeetModel", "slowed", "(II)I"⟩ ∈ gtb := (gtb_in 1215 (by decide +kernel) (by decide +kernel))
theorem ml_L_85 : Cond.methodLink "TillTheyMeetLaw" 85 ⟨"TillTheyMeet", "bet", "(III)I"⟩ ∈ gtb := (gtb_in 725 (by decide +kernel) (by decide +kernel))
theorem ml_L_88 : Cond.methodLink "TillTheyMeetLaw" 88 ⟨"TillTheyMeetModel", "bet", "(III)I"⟩ ∈ gtb := (gtb_in 1222 (by decide +kernel) (by decide +kernel))
theorem ml_L_89 : Cond.methodLink "TillTheyMeetLaw" 89 ⟨"TillTheyMeet", "soonest", "(I)I"⟩ ∈ gtb := (gtb_in 732 (by decide +kernel) (by decide +kernel))
theorem ml_L_92 : Cond.methodLink "TillTheyMeetLaw" 92 ⟨"TillTheyMeetModel", "soonest", "(I)I"⟩ ∈ gtb := (gtb_in 1230 (by decide +kernel) (by decide +kernel))
theorem ml_L_93 : Cond.methodLink "TillTheyMeetLaw" 93 ⟨"TillTheyMeet", "cheapest", "()I"⟩ ∈ gtb := (gtb_in 736 (by decide +kernel) (by decide +kernel))
theorem ml_L_96 : Cond.methodLink "TillTheyMeetLaw" 96 ⟨"TillTheyMeetModel", "cheapest", "()I"⟩ ∈ gtb := (gtb_in 1234 (by decide +kernel) (by decide +kernel))
theorem ml_L_97 : Cond.methodLink "TillTheyMeetLaw" 97 ⟨"TillTheyMeet", "drawn", "(I)I"⟩ ∈ gtb := (gtb_in 740 (by decide +kernel) (by decide +kernel))
theorem ml_L_100 : Cond.methodLink "TillTheyMeetLaw" 100 ⟨"TillTheyMeetModel", "drawn", "(I)I"⟩ ∈ gtb := (gtb_in 1238 (by decide +kernel) (by decide +kernel))
theorem ml_L_101 : Cond.methodLink "TillTheyMeetLaw" 101 ⟨"TillTheyMeet", "chance", "(IIII)J"⟩ ∈ gtb := (gtb_in 745 (by decide +kernel) (by decide +kernel))
theorem ml_L_105 : Cond.methodLink "TillTheyMeetLaw" 105 ⟨"TillTheyMeetModel", "chance", "(IIII)J"⟩ ∈ gtb := (gtb_in 1243 (by decide +kernel) (by decide +kernel))
theorem ml_L_106 : Cond.methodLink "TillTheyMeetLaw" 106 ⟨"TillTheyMeet", "image", "()I"⟩ ∈ gtb := (gtb_in 754 (by decide +kernel) (by decide +kernel))
theorem ml_L_109 : Cond.methodLink "TillTheyMeetLaw" 109 ⟨"TillTheyMeetModel", "image", "()I"⟩ ∈ gtb := (gtb_in 1252 (by decide +kernel) (by decide +kernel))
theorem ml_L_110 : Cond.methodLink "TillTheyMeetLaw" 110 ⟨"TillTheyMeet", "back", "()I"⟩ ∈ gtb := (gtb_in 759 (by decide +kernel) (by decide +kernel))
theorem ml_L_113 : Cond.methodLink "TillTheyMeetLaw" 113 ⟨"TillTheyMeetModel", "back", "()I"⟩ ∈ gtb := (gtb_in 1256 (by decide +kernel) (by decide +kernel))
theorem ml_L_114 : Cond.methodLink "TillTheyMeetLaw" 114 ⟨"TillTheyMeet", "count", "(I)I"⟩ ∈ gtb := (gtb_in 763 (by decide +kernel) (by decide +kernel))
theorem ml_L_117 : Cond.methodLink "TillTheyMeetLaw" 117 ⟨"TillTheyMeetModel", "count", "(I)I"⟩ ∈ gtb := (gtb_in 1260 (by decide +kernel) (by decide +kernel))
theorem ml_L_118 : Cond.methodLink "TillTheyMeetLaw" 118 ⟨"TillTheyMeet", "sheet", "(III)I"⟩ ∈ gtb := (gtb_in 767 (by decide +kernel) (by decide +kernel))
theorem ml_L_121 : Cond.methodLink "TillTheyMeetLaw" 121 ⟨"TillTheyMeetModel", "sheet", "(III)I"⟩ ∈ gtb := (gtb_in 1265 (by decide +kernel) (by decide +kernel))
theorem ml_L_122 : Cond.methodLink "TillTheyMeetLaw" 122 ⟨"TillTheyMeet", "cell", "(III)I"⟩ ∈ gtb := (gtb_in 778 (by decide +kernel) (by decide +kernel))
theorem ml_L_125 : Cond.methodLink "TillTheyMeetLaw" 125 ⟨"TillTheyMeetModel", "cell", "(III)I"⟩ ∈ gtb := (gtb_in 1270 (by decide +kernel) (by decide +kernel))
theorem ml_L_126 : Cond.methodLink "TillTheyMeetLaw" 126 ⟨"TillTheyMeet", "copy", "(IIIII)I"⟩ ∈ gtb := (gtb_in 790 (by decide +kernel) (by decide +kernel))
theorem ml_L_130 : Cond.methodLink "TillTheyMeetLaw" 130 ⟨"TillTheyMeetModel", "copy", "(IIIII)I"⟩ ∈ gtb := (gtb_in 1274 (by decide +kernel) (by decide +kernel))
theorem ml_L_131 : Cond.methodLink "TillTheyMeetLaw" 131 ⟨"TillTheyMeet", "grounds", "(IIII)I"⟩ ∈ gtb := (gtb_in 799 (by decide +kernel) (by decide +kernel))
theorem ml_L_135 : Cond.methodLink "TillTheyMeetLaw" 135 ⟨"TillTheyMeetModel", "grounds", "(IIII)I"⟩ ∈ gtb := (gtb_in 1278 (by decide +kernel) (by decide +kernel))
theorem ml_L_136 : Cond.methodLink "TillTheyMeetLaw" 136 ⟨"TillTheyMeet", "taken", "(II)I"⟩ ∈ gtb := (gtb_in 804 (by decide +kernel) (by decide +kernel))
theorem ml_L_139 : Cond.methodLink "TillTheyMeetLaw" 139 ⟨"TillTheyMeetModel", "taken", "(II)I"⟩ ∈ gtb := (gtb_in 1284 (by decide +kernel) (by decide +kernel))
theorem ml_X7_7 : Cond.methodLink "TillTheyMeetModel" 7 ⟨"java/lang/Object", "<init>", "()V"⟩ ∈ gtb := (gtb_in 820 (by decide +kernel) (by decide +kernel))
theorem ml_X7_87 : Cond.methodLink "TillTheyMeetModel" 87 ⟨"TillTheyMeetModel", "spell", "(IIIIIIIII)V"⟩ ∈ gtb := (gtb_in 821 (by decide +kernel) (by decide +kernel))
theorem ml_X7_96 : Cond.methodLink "TillTheyMeetModel" 96 ⟨"TillTheyMeetModel", "in", "(JJJ)Z"⟩ ∈ gtb := (gtb_in 998 (by decide +kernel) (by decide +kernel))
theorem ml_X7_100 : Cond.methodLink "TillTheyMeetModel" 100 ⟨"TillTheyMeetModel", "isYard", "(I)Z"⟩ ∈ gtb := (gtb_in 994 (by decide +kernel) (by decide +kernel))
theorem ml_X7_106 : Cond.methodLink "TillTheyMeetModel" 106 ⟨"TillTheyMeetModel", "whose", "(I)I"⟩ ∈ gtb := (gtb_in 1002 (by decide +kernel) (by decide +kernel))
theorem ml_X7_110 : Cond.methodLink "TillTheyMeetModel" 110 ⟨"TillTheyMeetModel", "needs", "(II)I"⟩ ∈ gtb := (gtb_in 1010 (by decide +kernel) (by decide +kernel))
theorem ml_X7_114 : Cond.methodLink "TillTheyMeetModel" 114 ⟨"TillTheyMeetModel", "isGang", "(I)Z"⟩ ∈ gtb := (gtb_in 1100 (by decide +kernel) (by decide +kernel))
theorem ml_X7_134 : Cond.methodLink "TillTheyMeetModel" 134 ⟨"TillTheyMeetModel", "costs", "(I)I"⟩ ∈ gtb := (gtb_in 1118 (by decide +kernel) (by decide +kernel))
theorem ml_X7_137 : Cond.methodLink "TillTheyMeetModel" 137 ⟨"TillTheyMeetModel", "left", "()I"⟩ ∈ gtb := (gtb_in 1018 (by decide +kernel) (by decide +kernel))
theorem ml_X7_141 : Cond.methodLink "TillTheyMeetModel" 141 ⟨"TillTheyMeetModel", "does", "(I)I"⟩ ∈ gtb := (gtb_in 1122 (by decide +kernel) (by decide +kernel))
theorem ml_X7_158 : Cond.methodLink "TillTheyMeetModel" 158 ⟨"TillTheyMeetModel", "byteAt", "(I)I"⟩ ∈ gtb := (gtb_in 1030 (by decide +kernel) (by decide +kernel))
theorem ml_X7_188 : Cond.methodLink "TillTheyMeetModel" 188 ⟨"TillTheyMeetModel", "isLetter", "(II)Z"⟩ ∈ gtb := (gtb_in 1043 (by decide +kernel) (by decide +kernel))
theorem ml_X7_195 : Cond.methodLink "TillTheyMeetModel" 195 ⟨"TillTheyMeetModel", "fail", "()V"⟩ ∈ gtb := (gtb_in 1051 (by decide +kernel) (by decide +kernel))
theorem ml_X7_198 : Cond.methodLink "TillTheyMeetModel" 198 ⟨"TillTheyMeetModel", "next", "()V"⟩ ∈ gtb := (gtb_in 1026 (by decide +kernel) (by decide +kernel))
theorem ml_X7_201 : Cond.methodLink "TillTheyMeetModel" 201 ⟨"TillTheyMeetModel", "isWord", "(IIIIIIII)Z"⟩ ∈ gtb := (gtb_in 1039 (by decide +kernel) (by decide +kernel))
theorem ml_X7_223 : Cond.methodLink "TillTheyMeetModel" 223 ⟨"TillTheyMeetModel", "isSign", "(I)Z"⟩ ∈ gtb := (gtb_in 1083 (by decide +kernel) (by decide +kernel))
theorem ml_X7_226 : Cond.methodLink "TillTheyMeetModel" 226 ⟨"TillTheyMeetModel", "opens", "()Z"⟩ ∈ gtb := (gtb_in 1067 (by decide +kernel) (by decide +kernel))
theorem ml_X7_230 : Cond.methodLink "TillTheyMeetModel" 230 ⟨"TillTheyMeetModel", "atom", "()I"⟩ ∈ gtb := (gtb_in 1079 (by decide +kernel) (by decide +kernel))
theorem ml_X7_233 : Cond.methodLink "TillTheyMeetModel" 233 ⟨"TillTheyMeetModel", "either", "()I"⟩ ∈ gtb := (gtb_in 1055 (by decide +kernel) (by decide +kernel))
theorem ml_X7_236 : Cond.methodLink "TillTheyMeetModel" 236 ⟨"TillTheyMeetModel", "name", "()I"⟩ ∈ gtb := (gtb_in 1087 (by decide +kernel) (by decide +kernel))
theorem ml_X7_239 : Cond.methodLink "TillTheyMeetModel" 239 ⟨"TillTheyMeetModel", "term", "()I"⟩ ∈ gtb := (gtb_in 1075 (by decide +kernel) (by decide +kernel))
theorem ml_X7_244 : Cond.methodLink "TillTheyMeetModel" 244 ⟨"TillTheyMeetModel", "not", "()I"⟩ ∈ gtb := (gtb_in 1063 (by decide +kernel) (by decide +kernel))
theorem ml_X7_247 : Cond.methodLink "TillTheyMeetModel" 247 ⟨"TillTheyMeetModel", "added", "()I"⟩ ∈ gtb := (gtb_in 1071 (by decide +kernel) (by decide +kernel))
theorem ml_X7_252 : Cond.methodLink "TillTheyMeetModel" 252 ⟨"TillTheyMeetModel", "both", "()I"⟩ ∈ gtb := (gtb_in 1059 (by decide +kernel) (by decide +kernel))
theorem ml_X7_255 : Cond.methodLink "TillTheyMeetModel" 255 ⟨"TillTheyMeetModel", "part", "(Z)I"⟩ ∈ gtb := (gtb_in 1047 (by decide +kernel) (by decide +kernel))
theorem ml_X7_259 : Cond.methodLink "TillTheyMeetModel" 259 ⟨"TillTheyMeetModel", "read", "(II)I"⟩ ∈ gtb := (gtb_in 1022 (by decide +kernel) (by decide +kernel))
theorem ml_X7_268 : Cond.methodLink "TillTheyMeetModel" 268 ⟨"TillTheyMeetModel", "says", "(III)I"⟩ ∈ gtb := (gtb_in 1014 (by decide +kernel) (by decide +kernel))
theorem ml_X7_272 : Cond.methodLink "TillTheyMeetModel" 272 ⟨"TillTheyMeetModel", "within", "(III)I"⟩ ∈ gtb := (gtb_in 1093 (by decide +kernel) (by decide +kernel))
theorem ml_X7_275 : Cond.methodLink "TillTheyMeetModel" 275 ⟨"TillTheyMeetModel", "nextOf", "(I)I"⟩ ∈ gtb := (gtb_in 1126 (by decide +kernel) (by decide +kernel))
theorem ml_X7_278 : Cond.methodLink "TillTheyMeetModel" 278 ⟨"TillTheyMeetModel", "turn", "(I)V"⟩ ∈ gtb := (gtb_in 1151 (by decide +kernel) (by decide +kernel))
theorem ml_X7_282 : Cond.methodLink "TillTheyMeetModel" 282 ⟨"TillTheyMeetModel", "passes", "(I)V"⟩ ∈ gtb := (gtb_in 1147 (by decide +kernel) (by decide +kernel))
theorem ml_X7_295 : Cond.methodLink "TillTheyMeetModel" 295 ⟨"TillTheyMeetModel", "worthAll", "()I"⟩ ∈ gtb := (gtb_in 1160 (by decide +kernel) (by decide +kernel))
theorem ml_X7_298 : Cond.methodLink "TillTheyMeetModel" 298 ⟨"TillTheyMeetModel", "laysAside", "()V"⟩ ∈ gtb := (gtb_in 1164 (by decide +kernel) (by decide +kernel))
theorem ml_X7_301 : Cond.methodLink "TillTheyMeetModel" 301 ⟨"TillTheyMeetModel", "runs", "(II)V"⟩ ∈ gtb := (gtb_in 1168 (by decide +kernel) (by decide +kernel))
theorem ml_X7_305 : Cond.methodLink "TillTheyMeetModel" 305 ⟨"TillTheyMeetModel", "gain", "(I)I"⟩ ∈ gtb := (gtb_in 1172 (by decide +kernel) (by decide +kernel))
theorem ml_X7_308 : Cond.methodLink "TillTheyMeetModel" 308 ⟨"TillTheyMeetModel", "laysBack", "()V"⟩ ∈ gtb := (gtb_in 1176 (by decide +kernel) (by decide +kernel))
theorem ml_X7_313 : Cond.methodLink "TillTheyMeetModel" 313 ⟨"TillTheyMeetModel", "gainBy", "(II)I"⟩ ∈ gtb := (gtb_in 1197 (by decide +kernel) (by decide +kernel))
theorem ml_X7_319 : Cond.methodLink "TillTheyMeetModel" 319 ⟨"TillTheyMeetModel", "bestMen", "(I)I"⟩ ∈ gtb := (gtb_in 1193 (by decide +kernel) (by decide +kernel))
theorem ml_X7_326 : Cond.methodLink "TillTheyMeetModel" 326 ⟨"TillTheyMeetModel", "isSheet", "(I)Z"⟩ ∈ gtb := (gtb_in 1219 (by decide +kernel) (by decide +kernel))
theorem ml_X7_329 : Cond.methodLink "TillTheyMeetModel" 329 ⟨"TillTheyMeetModel", "run", "(I)I"⟩ ∈ gtb := (gtb_in 1226 (by decide +kernel) (by decide +kernel))
theorem ml_X7_332 : Cond.methodLink "TillTheyMeetModel" 332 ⟨"TillTheyMeetModel", "off", "(II)I"⟩ ∈ gtb := (gtb_in 1227 (by decide +kernel) (by decide +kernel))
theorem ml_X7_338 : Cond.methodLink "TillTheyMeetModel" 338 ⟨"TillTheyMeetModel", "drawn", "(I)I"⟩ ∈ gtb := (gtb_in 1248 (by decide +kernel) (by decide +kernel))
theorem ml_X7_341 : Cond.methodLink "TillTheyMeetModel" 341 ⟨"TillTheyMeetModel", "lowest", "(JJI)J"⟩ ∈ gtb := (gtb_in 1249 (by decide +kernel) (by decide +kernel))
theorem ml_X7_369 : Cond.methodLink "TillTheyMeetModel" 369 ⟨"TillTheyMeetModel", "ground", "(III)I"⟩ ∈ gtb := (gtb_in 1283 (by decide +kernel) (by decide +kernel))
theorem ml_X7_372 : Cond.methodLink "TillTheyMeetModel" 372 ⟨"TillTheyMeetModel", "over", "(I)I"⟩ ∈ gtb := (gtb_in 1288 (by decide +kernel) (by decide +kernel))
theorem ml_J0_335 : Cond.methodLink "java/lang/String" 335 ⟨"java/lang/String", "coder", "()B"⟩ ∈ gtb := (gtb_in 144 (by decide +kernel) (by decide +kernel))
theorem ml_J0_492 : Cond.methodLink "java/lang/String" 492 ⟨"java/lang/String", "isLatin1", "()Z"⟩ ∈ gtb := (gtb_in 154 (by decide +kernel) (by decide +kernel))
theorem ml_J0_495 : Cond.methodLink "java/lang/String" 495 ⟨"java/lang/StringLatin1", "charAt", "([BI)C"⟩ ∈ gtb := (gtb_in 158 (by decide +kernel) (by decide +kernel))
theorem ml_J0_498 : Cond.methodLink "java/lang/String" 498 ⟨"java/lang/StringUTF16", "charAt", "([BI)C"⟩ ∈ gtb := (gtb_in 169 (by decide +kernel) (by decide +kernel))
theorem ml_J0_505 : Cond.methodLink "java/lang/String" 505 ⟨"java/lang/String", "length", "()I"⟩ ∈ gtb := (gtb_in 236 (by decide +kernel) (by decide +kernel))
theorem ml_J0_633 : Cond.methodLink "java/lang/String" 633 ⟨"java/lang/String", "indexOf", "(II)I"⟩ ∈ gtb := (gtb_in 232 (by decide +kernel) (by decide +kernel))
theorem ml_J0_637 : Cond.methodLink "java/lang/String" 637 ⟨"java/lang/StringLatin1", "indexOf", "([BIII)I"⟩ ∈ gtb := (gtb_in 237 (by decide +kernel) (by decide +kernel))
theorem ml_J0_640 : Cond.methodLink "java/lang/String" 640 ⟨"java/lang/StringUTF16", "indexOf", "([BIII)I"⟩ ∈ gtb := (gtb_in 252 (by decide +kernel) (by decide +kernel))
theorem ml_J0_1059 : Cond.methodLink "java/lang/String" 1059 ⟨"jdk/internal/util/Preconditions", "checkIndex", "(IILjava/util/function/BiFunction;)I"⟩ ∈ gtb := (gtb_in 166 (by decide +kernel) (by decide +kernel))
theorem ml_J0_1062 : Cond.methodLink "java/lang/String" 1062 ⟨"jdk/internal/util/Preconditions", "checkFromToIndex", "(IIILjava/util/function/BiFunction;)I"⟩ ∈ gtb := (gtb_in 267 (by decide +kernel) (by decide +kernel))
theorem ml_J1_9 : Cond.methodLink "java/lang/StringLatin1" 9 ⟨"java/lang/String", "checkIndex", "(II)V"⟩ ∈ gtb := (gtb_in 161 (by decide +kernel) (by decide +kernel))
theorem ml_J1_38 : Cond.methodLink "java/lang/StringLatin1" 38 ⟨"java/lang/Math", "min", "(II)I"⟩ ∈ gtb := (gtb_in 246 (by decide +kernel) (by decide +kernel))
theorem ml_J1_88 : Cond.methodLink "java/lang/StringLatin1" 88 ⟨"java/lang/StringLatin1", "canEncode", "(I)Z"⟩ ∈ gtb := (gtb_in 240 (by decide +kernel) (by decide +kernel))
theorem ml_J1_92 : Cond.methodLink "java/lang/StringLatin1" 92 ⟨"java/lang/Math", "max", "(II)I"⟩ ∈ gtb := (gtb_in 243 (by decide +kernel) (by decide +kernel))
theorem ml_J1_95 : Cond.methodLink "java/lang/StringLatin1" 95 ⟨"java/lang/StringLatin1", "indexOfChar", "([BIII)I"⟩ ∈ gtb := (gtb_in 249 (by decide +kernel) (by decide +kernel))
theorem ml_J2_48 : Cond.methodLink "java/lang/StringUTF16" 48 ⟨"java/lang/StringUTF16", "length", "([B)I"⟩ ∈ gtb := (gtb_in 175 (by decide +kernel) (by decide +kernel))
theorem ml_J2_67 : Cond.methodLink "java/lang/StringUTF16" 67 ⟨"java/lang/StringUTF16", "checkIndex", "(I[B)V"⟩ ∈ gtb := (gtb_in 172 (by decide +kernel) (by decide +kernel))
theorem ml_J2_71 : Cond.methodLink "java/lang/StringUTF16" 71 ⟨"java/lang/StringUTF16", "getChar", "([BI)C"⟩ ∈ gtb := (gtb_in 179 (by decide +kernel) (by decide +kernel))
theorem ml_J2_96 : Cond.methodLink "java/lang/StringUTF16" 96 ⟨"java/lang/StringUTF16", "checkBoundsBeginEnd", "(II[B)V"⟩ ∈ gtb := (gtb_in 261 (by decide +kernel) (by decide +kernel))
theorem ml_J2_157 : Cond.methodLink "java/lang/StringUTF16" 157 ⟨"java/lang/Character", "highSurrogate", "(I)C"⟩ ∈ gtb := (gtb_in 279 (by decide +kernel) (by decide +kernel))
theorem ml_J2_161 : Cond.methodLink "java/lang/StringUTF16" 161 ⟨"java/lang/Character", "lowSurrogate", "(I)C"⟩ ∈ gtb := (gtb_in 283 (by decide +kernel) (by decide +kernel))
theorem ml_J2_164 : Cond.methodLink "java/lang/StringUTF16" 164 ⟨"java/lang/Character", "isValidCodePoint", "(I)Z"⟩ ∈ gtb := (gtb_in 276 (by decide +kernel) (by decide +kernel))
theorem ml_J2_183 : Cond.methodLink "java/lang/StringUTF16" 183 ⟨"java/lang/Math", "min", "(II)I"⟩ ∈ gtb := (gtb_in 256 (by decide +kernel) (by decide +kernel))
theorem ml_J2_224 : Cond.methodLink "java/lang/StringUTF16" 224 ⟨"java/lang/Math", "max", "(II)I"⟩ ∈ gtb := (gtb_in 255 (by decide +kernel) (by decide +kernel))
theorem ml_J2_228 : Cond.methodLink "java/lang/StringUTF16" 228 ⟨"java/lang/StringUTF16", "indexOfChar", "([BIII)I"⟩ ∈ gtb := (gtb_in 258 (by decide +kernel) (by decide +kernel))
theorem ml_J2_232 : Cond.methodLink "java/lang/StringUTF16" 232 ⟨"java/lang/StringUTF16", "indexOfSupplementary", "([BIII)I"⟩ ∈ gtb := (gtb_in 273 (by decide +kernel) (by decide +kernel))
theorem ml_J2_241 : Cond.methodLink "java/lang/StringUTF16" 241 ⟨"java/lang/String", "checkBoundsBeginEnd", "(III)V"⟩ ∈ gtb := (gtb_in 264 (by decide +kernel) (by decide +kernel))
theorem ml_J2_244 : Cond.methodLink "java/lang/StringUTF16" 244 ⟨"java/lang/StringUTF16", "indexOfCharUnsafe", "([BIII)I"⟩ ∈ gtb := (gtb_in 270 (by decide +kernel) (by decide +kernel))
theorem ml_J2_414 : Cond.methodLink "java/lang/StringUTF16" 414 ⟨"java/lang/String", "checkIndex", "(II)V"⟩ ∈ gtb := (gtb_in 178 (by decide +kernel) (by decide +kernel))
theorem ml_J7_150 : Cond.methodLink "java/util/Arrays" 150 ⟨"java/lang/System", "arraycopy", "(Ljava/lang/Object;ILjava/lang/Object;II)V"⟩ ∈ gtb := (gtb_in 332 (by decide +kernel) (by decide +kernel))
theorem ml_J7_304 : Cond.methodLink "java/util/Arrays" 304 ⟨"java/lang/Math", "min", "(II)I"⟩ ∈ gtb := (gtb_in 331 (by decide +kernel) (by decide +kernel))
theorem ml_J7_316 : Cond.methodLink "java/util/Arrays" 316 ⟨"[I", "clone", "()Ljava/lang/Object;"⟩ ∈ gtb := (gtb_in 324 (by decide +kernel) (by decide +kernel))
theorem ml_X6_9 : Cond.methodLinkNest "TillTheyMeet" 9 ⟨"TillTheyMeet$Best", "<init>", "()V"⟩ "TillTheyMeet" ∈ lw_tbl := List.mem_of_getElem? (i := 79) (by decide +kernel)
theorem ml_X6_18 : Cond.methodLinkNest "TillTheyMeet" 18 ⟨"TillTheyMeet$Reader", "<init>", "()V"⟩ "TillTheyMeet" ∈ lw_tbl := List.mem_of_getElem? (i := 97) (by decide +kernel)
theorem ml_X6_87 : Cond.methodLinkNest "TillTheyMeet" 87 ⟨"TillTheyMeet$Sheet", "<init>", "()V"⟩ "TillTheyMeet" ∈ lw_tbl := List.mem_of_getElem? (i := 461) (by decide +kernel)
theorem ml_X1_54 : Cond.methodLinkNest "TillTheyMeet$Gang" 54 ⟨"TillTheyMeet", "within", "(III)Z"⟩ "TillTheyMeet" ∈ lw_tbl := List.mem_of_getElem? (i := 812) (by decide +kernel)
theorem ml_X3_52 : Cond.methodLinkNest "TillTheyMeet$Road" 52 ⟨"TillTheyMeet", "isYard", "(I)Z"⟩ "TillTheyMeet" ∈ lw_tbl := List.mem_of_getElem? (i := 531) (by decide +kernel)
theorem ml_X3_69 : Cond.methodLinkNest "TillTheyMeet$Road" 69 ⟨"TillTheyMeet", "within", "(III)Z"⟩ "TillTheyMeet" ∈ lw_tbl := List.mem_of_getElem? (i := 532) (by decide +kernel)
theorem cc_L_7 : Cond.classLink "TillTheyMeetLaw" 7 "TillTheyMeet" ∈ gtb := (gtb_in 69 (by decide +kernel) (by decide +kernel))
theorem ins_X6 : Cond.instantiable "TillTheyMeet" 10 ∈ gtb := (gtb_in 70 (by decide +kernel) (by decide +kernel))
theorem ini_X6 : Cond.initialized "TillTheyMeet" ∈ gtb := (gtb_in 53 (by decide +kernel) (by decide +kernel))
theorem cc_X6_7 : Cond.classLink "TillTheyMeet" 7 "TillTheyMeet$Best" ∈ gtb := (gtb_in 77 (by decide +kernel) (by decide +kernel))
theorem ins_X0 : Cond.instantiable "TillTheyMeet$Best" 3 ∈ gtb := (gtb_in 78 (by decide +kernel) (by decide +kernel))
theorem ini_X0 : Cond.initialized "TillTheyMeet$Best" ∈ gtb := (gtb_in 54 (by decide +kernel) (by decide +kernel))
theorem cc_X6_16 : Cond.classLink "TillTheyMeet" 16 "TillTheyMeet$Reader" ∈ gtb := (gtb_in 95 (by decide +kernel) (by decide +kernel))
theorem ins_X2 : Cond.instantiable "TillTheyMeet$Reader" 10 ∈ gtb := (gtb_in 96 (by decide +kernel) (by decide +kernel))
theorem ini_X2 : Cond.initialized "TillTheyMeet$Reader" ∈ gtb := (gtb_in 55 (by decide +kernel) (by decide +kernel))
theorem ac_int : Cond.arrayClass .int ∈ gtb := (gtb_in 134 (by decide +kernel) (by decide +kernel))
theorem cc_X6_23 : Cond.classLink "TillTheyMeet" 23 "TillTheyMeet$Rule" ∈ gtb := (gtb_in 135 (by decide +kernel) (by decide +kernel))
theorem cc_X6_29 : Cond.classLink "TillTheyMeet" 29 "TillTheyMeet$Sheet" ∈ gtb := (gtb_in 137 (by decide +kernel) (by decide +kernel))
theorem cn_J2_227 : Cond.constant "java/lang/StringUTF16" 227 (65536 : Int32) ∈ gtb := (gtb_in 257 (by decide +kernel) (by decide +kernel))
theorem cn_J11_110 : Cond.constant "java/lang/Character" 110 (55232 : Int32) ∈ gtb := (gtb_in 282 (by decide +kernel) (by decide +kernel))
theorem cn_J11_76 : Cond.constant "java/lang/Character" 76 (56320 : Int32) ∈ gtb := (gtb_in 286 (by decide +kernel) (by decide +kernel))
theorem cc_X2_40 : Cond.classLink "TillTheyMeet$Reader" 40 "TillTheyMeet$Rule" ∈ gtb := (gtb_in 319 (by decide +kernel) (by decide +kernel))
theorem ins_X4 : Cond.instantiable "TillTheyMeet$Rule" 5 ∈ gtb := (gtb_in 320 (by decide +kernel) (by decide +kernel))
theorem ini_X4 : Cond.initialized "TillTheyMeet$Rule" ∈ gtb := (gtb_in 62 (by decide +kernel) (by decide +kernel))
theorem cc_J7_317 : Cond.classLink "java/util/Arrays" 317 "[I" ∈ gtb := (gtb_in 330 (by decide +kernel) (by decide +kernel))
theorem cc_X2_52 : Cond.classLink "TillTheyMeet$Reader" 52 "[I" ∈ gtb := (gtb_in 336 (by decide +kernel) (by decide +kernel))
theorem ac_byte : Cond.arrayClass .byte ∈ gtb := (gtb_in 359 (by decide +kernel) (by decide +kernel))
theorem ac_boolean : Cond.arrayClass .boolean ∈ gtb := (gtb_in 360 (by decide +kernel) (by decide +kernel))
theorem cc_X6_69 : Cond.classLink "TillTheyMeet" 69 "TillTheyMeet$Road" ∈ gtb := (gtb_in 361 (by decide +kernel) (by decide +kernel))
theorem ins_X3 : Cond.instantiable "TillTheyMeet$Road" 10 ∈ gtb := (gtb_in 362 (by decide +kernel) (by decide +kernel))
theorem ini_X3 : Cond.initialized "TillTheyMeet$Road" ∈ gtb := (gtb_in 65 (by decide +kernel) (by decide +kernel))
theorem cc_X3_18 : Cond.classLink "TillTheyMeet$Road" 18 "TillTheyMeet$Gang" ∈ gtb := (gtb_in 367 (by decide +kernel) (by decide +kernel))
theorem ins_X1 : Cond.instantiable "TillTheyMeet$Gang" 10 ∈ gtb := (gtb_in 368 (by decide +kernel) (by decide +kernel))
theorem ini_X1 : Cond.initialized "TillTheyMeet$Gang" ∈ gtb := (gtb_in 66 (by decide +kernel) (by decide +kernel))
theorem ins_X5 : Cond.instantiable "TillTheyMeet$Sheet" 3 ∈ gtb := (gtb_in 460 (by decide +kernel) (by decide +kernel))
theorem ini_X5 : Cond.initialized "TillTheyMeet$Sheet" ∈ gtb := (gtb_in 67 (by decide +kernel) (by decide +kernel))
theorem cn_X6_196 : Cond.constant "TillTheyMeet" 196 (-100000 : Int32) ∈ gtb := (gtb_in 641 (by decide +kernel) (by decide +kernel))
theorem cn_X6_254 : Cond.constant "TillTheyMeet" 254 (1103515245 : Int32) ∈ gtb := (gtb_in 744 (by decide +kernel) (by decide +kernel))
theorem cl_X6_255 : Cond.constantLong "TillTheyMeet" 255 (-4611686018427387904 : Int64) ∈ gtb := (gtb_in 749 (by decide +kernel) (by decide +kernel))
theorem cc_L_10 : Cond.classLink "TillTheyMeetLaw" 10 "TillTheyMeetModel" ∈ gtb := (gtb_in 815 (by decide +kernel) (by decide +kernel))
theorem ins_X7 : Cond.instantiable "TillTheyMeetModel" 55 ∈ gtb := (gtb_in 816 (by decide +kernel) (by decide +kernel))
theorem ini_X7 : Cond.initialized "TillTheyMeetModel" ∈ gtb := (gtb_in 68 (by decide +kernel) (by decide +kernel))
theorem cl_X7_94 : Cond.constantLong "TillTheyMeetModel" 94 (23 : Int64) ∈ gtb := (gtb_in 997 (by decide +kernel) (by decide +kernel))
theorem cl_X7_104 : Cond.constantLong "TillTheyMeetModel" 104 (3 : Int64) ∈ gtb := (gtb_in 1001 (by decide +kernel) (by decide +kernel))
theorem cl_X7_167 : Cond.constantLong "TillTheyMeetModel" 167 (97 : Int64) ∈ gtb := (gtb_in 1034 (by decide +kernel) (by decide +kernel))
theorem cl_X7_169 : Cond.constantLong "TillTheyMeetModel" 169 (122 : Int64) ∈ gtb := (gtb_in 1035 (by decide +kernel) (by decide +kernel))
theorem cl_X7_171 : Cond.constantLong "TillTheyMeetModel" 171 (48 : Int64) ∈ gtb := (gtb_in 1036 (by decide +kernel) (by decide +kernel))
theorem cl_X7_173 : Cond.constantLong "TillTheyMeetModel" 173 (57 : Int64) ∈ gtb := (gtb_in 1037 (by decide +kernel) (by decide +kernel))
theorem cl_X7_179 : Cond.constantLong "TillTheyMeetModel" 179 (10 : Int64) ∈ gtb := (gtb_in 1038 (by decide +kernel) (by decide +kernel))
theorem cl_X7_242 : Cond.constantLong "TillTheyMeetModel" 242 (43 : Int64) ∈ gtb := (gtb_in 1091 (by decide +kernel) (by decide +kernel))
theorem cl_X7_250 : Cond.constantLong "TillTheyMeetModel" 250 (60 : Int64) ∈ gtb := (gtb_in 1092 (by decide +kernel) (by decide +kernel))
theorem cl_X7_117 : Cond.constantLong "TillTheyMeetModel" 117 (5 : Int64) ∈ gtb := (gtb_in 1103 (by decide +kernel) (by decide +kernel))
theorem cl_X7_119 : Cond.constantLong "TillTheyMeetModel" 119 (9 : Int64) ∈ gtb := (gtb_in 1104 (by decide +kernel) (by decide +kernel))
theorem cl_X7_121 : Cond.constantLong "TillTheyMeetModel" 121 (4 : Int64) ∈ gtb := (gtb_in 1109 (by decide +kernel) (by decide +kernel))
theorem cl_X7_123 : Cond.constantLong "TillTheyMeetModel" 123 (30 : Int64) ∈ gtb := (gtb_in 1110 (by decide +kernel) (by decide +kernel))
theorem cl_X7_125 : Cond.constantLong "TillTheyMeetModel" 125 (99 : Int64) ∈ gtb := (gtb_in 1111 (by decide +kernel) (by decide +kernel))
theorem cl_X7_127 : Cond.constantLong "TillTheyMeetModel" 127 (999 : Int64) ∈ gtb := (gtb_in 1112 (by decide +kernel) (by decide +kernel))
theorem cl_X7_132 : Cond.constantLong "TillTheyMeetModel" 132 (8 : Int64) ∈ gtb := (gtb_in 1117 (by decide +kernel) (by decide +kernel))
theorem cl_X7_144 : Cond.constantLong "TillTheyMeetModel" 144 (255 : Int64) ∈ gtb := (gtb_in 1134 (by decide +kernel) (by decide +kernel))
theorem cn_X7_294 : Cond.constant "TillTheyMeetModel" 294 (-100000 : Int32) ∈ gtb := (gtb_in 1159 (by decide +kernel) (by decide +kernel))
theorem cl_X7_311 : Cond.constantLong "TillTheyMeetModel" 311 (300 : Int64) ∈ gtb := (gtb_in 1184 (by decide +kernel) (by decide +kernel))
theorem cl_X7_322 : Cond.constantLong "TillTheyMeetModel" 322 (2 : Int64) ∈ gtb := (gtb_in 1205 (by decide +kernel) (by decide +kernel))
theorem cl_X7_324 : Cond.constantLong "TillTheyMeetModel" 324 (24 : Int64) ∈ gtb := (gtb_in 1210 (by decide +kernel) (by decide +kernel))
theorem cn_X7_335 : Cond.constant "TillTheyMeetModel" 335 (1103515245 : Int32) ∈ gtb := (gtb_in 1242 (by decide +kernel) (by decide +kernel))
theorem cl_X7_336 : Cond.constantLong "TillTheyMeetModel" 336 (-4611686018427387904 : Int64) ∈ gtb := (gtb_in 1247 (by decide +kernel) (by decide +kernel))
theorem cl_X7_363 : Cond.constantLong "TillTheyMeetModel" 363 (7 : Int64) ∈ gtb := (gtb_in 1264 (by decide +kernel) (by decide +kernel))
theorem cl_X7_365 : Cond.constantLong "TillTheyMeetModel" 365 (-1 : Int64) ∈ gtb := (gtb_in 1269 (by decide +kernel) (by decide +kernel))
theorem cl_X7_367 : Cond.constantLong "TillTheyMeetModel" 367 (20 : Int64) ∈ gtb := (gtb_in 1282 (by decide +kernel) (by decide +kernel))
theorem oin_1 : Cond.instanceMethod Lib.objectInit ∈ gtb := (gtb_in 75 (by decide +kernel) (by decide +kernel))
theorem oin_2 : Cond.code Lib.objectInit ⟨#[0xb1]⟩ 1 none ∈ gtb := gtb_in 76 (by decide +kernel) (by decide +kernel)
theorem math_max : Cond.static Lib.Math.max.name ∈ gtb ∧ Cond.initialized "java/lang/Math" ∈ gtb ∧ Cond.code Lib.Math.max.name Lib.Math.max.code 2 (some .int) ∈ gtb := ⟨(gtb_in 244 (by decide +kernel) (by decide +kernel)), (gtb_in 60 (by decide +kernel) (by decide +kernel)), gtb_in 245 (by decide +kernel) (by decide +kernel)⟩
theorem math_min : Cond.static Lib.Math.min.name ∈ gtb ∧ Cond.initialized "java/lang/Math" ∈ gtb ∧ Cond.code Lib.Math.min.name Lib.Math.min.code 2 (some .int) ∈ gtb := ⟨(gtb_in 247 (by decide +kernel) (by decide +kernel)), (gtb_in 60 (by decide +kernel) (by decide +kernel)), gtb_in 248 (by decide +kernel) (by decide +kernel)⟩
theorem math_abs : Cond.static Lib.Math.abs.name ∈ gtb ∧ Cond.initialized "java/lang/Math" ∈ gtb ∧ Cond.code Lib.Math.abs.name Lib.Math.abs.code 1 (some .int) ∈ gtb := ⟨(gtb_in 730 (by decide +kernel) (by decide +kernel)), (gtb_in 60 (by decide +kernel) (by decide +kernel)), gtb_in 731 (by decide +kernel) (by decide +kernel)⟩
theorem acw : Cond.native arraycopyName ∈ gtb ∧ Cond.static arraycopyName ∈ gtb ∧ Cond.initialized "java/lang/System" ∈ gtb := ⟨(gtb_in 334 (by decide +kernel) (by decide +kernel)), (gtb_in 333 (by decide +kernel) (by decide +kernel)), (gtb_in 64 (by decide +kernel) (by decide +kernel))⟩
theorem clw : Cond.sameMethod "[I" "java/lang/Object" "clone" "()Ljava/lang/Object;" ∈ gtb ∧ Cond.native ⟨"java/lang/Object", "clone", "()Ljava/lang/Object;"⟩ ∈ gtb ∧ Cond.instanceMethod ⟨"java/lang/Object", "clone", "()Ljava/lang/Object;"⟩ ∈ gtb ∧ Cond.selects "[I" ⟨"[I", "clone", "()Ljava/lang/Object;"⟩ ⟨"java/lang/Object", "clone", "()Ljava/lang/Object;"⟩ ∈ gtb := ⟨(gtb_in 325 (by decide +kernel) (by decide +kernel)), (gtb_in 326 (by decide +kernel) (by decide +kernel)), (gtb_in 327 (by decide +kernel) (by decide +kernel)), (gtb_in 328 (by decide +kernel) (by decide +kernel))⟩
end WORDS
