/-! BOTH SIDES: each question -/
theorem k8_gang {ρ : IV} {G k n : Int32} : (gangQ ρ G k n).2 4 8 = ρ 4 8 := by
  unfold gangQ
  split
  · exact (up_ne2 (by decide)).trans (up_ne2 (by decide))
  · rfl
theorem k8_set {ρ : IV} {w v : Int32} : (setQ ρ w v).2 4 8 = ρ 4 8 := by
  unfold setQ
  split
  · generalize w.toNatClampNeg = j
    match j with
    | 0 => exact (up_ne2 (by decide) : up ρ 2 3 v 4 8 = ρ 4 8)
    | 1 => exact (up_ne2 (by decide) : up ρ 3 3 v 4 8 = ρ 4 8)
    | 2 => exact (up_ne2 (by decide) : up ρ 4 5 v 4 8 = ρ 4 8)
    | 3 => exact (up_ne2 (by decide) : up ρ 4 6 v 4 8 = ρ 4 8)
    | _ + 4 => exact (up_ne2 (by decide) : up ρ 4 7 v 4 8 = ρ 4 8)
  · rfl
theorem k8_bore {ρ : IV} {k n : Int32} : (boreQ ρ k n).2 4 8 = ρ 4 8 := by
  have hb : ∀ m y ρ c, (brN m y ρ c).2 4 8 = ρ 4 8 := by
    intro m
    induction m with
    | zero => intro y ρ c; rfl
    | succ m ih => intro y ρ c; rw [brN_s, ih]; exact up_ne1 (by decide)
  unfold boreQ
  split
  · exact hb _ _ _ _
  · rfl
theorem k8_grounds {ρ η : IV} {s so a n : Int32} : (groundsQ ρ η s so a n).2 4 8 = ρ 4 8 := by
  have hb : ∀ (it : Nat → Int32) (a : Int32) (N m k : Nat) (ρ : IV) (c : Int32), (grN it a N m k ρ c).2 4 8 = ρ 4 8 := by
    intro it a N m
    induction m with
    | zero => intro k ρ c; rfl
    | succ m ih =>
      intro k ρ c
      rw [grN]
      split
      · rw [ih]; exact gk_ground (by decide)
      · rfl
  unfold groundsQ
  split
  · split
    · rfl
    · split
      · exact hb _ _ _ _ _ _ _
      · rfl
  · rfl
theorem JG.rd {j : Jt} (h : JG j) {r : IV} (hr : GQ r j.T) : JG (j.rd r) := ⟨hr, h.2⟩
section ASKS
variable {g : GS} {l : Launch} {Γ : Sh} {iv : IV} {rv : RV} {lv : LV} {j j' : Jt}
theorem lc_run (D : Nat) (w : Int32) (hj : JG j) (hc : CI j Γ iv rv) (hm : MI_ j Γ iv rv) : Ct g l mX6_run (D + 6) 0 0 [.ref 14, .int w] Γ iv rv lv (LC j j (.int (runQ j.S j.r w))) := by
  obtain ⟨t, -, hC⟩ := hc.cq hj
  refine (ct_crun D hC w).mono ?_
  rintro _ _ iv2 rv2 _ ⟨x, rfl, rfl, rfl, rfl, hq⟩
  exact ⟨rfl, hc.qx hq, hm.qx hq⟩
theorem lm_run (D : Nat) (w : Int32) (hj : JG j) (hc : CI j Γ iv rv) (hm : MI_ j Γ iv rv) : Ct g l mX7_run (D + 52) 0 0 [.ref 75, .int w] Γ iv rv lv (LM j (.int (runQ j.S j.r w))) := by
  obtain ⟨t, ht, h8⟩ := hj.gq.2.2
  refine (ct_mrun D hm.sh hm.rm hm.tx hj.t6 h8 ht hj.gq.1 w).mono ?_
  rintro _ _ iv2 _ lv2 ⟨x, rfl, rfl, rfl, ho, hR, rfl⟩
  exact ⟨rfl, hc.mk_ ho (fun a b y => by omega), hm.st ho (fun a b y => by omega) (fun _ => rfl) hR⟩
theorem lc_done (D : Nat) (G w : Int32) (hj : JG j) (hc : CI j Γ iv rv) (hm : MI_ j Γ iv rv) : Ct g l mX6_done (D + 5) 0 0 [.ref 14, .int G, .int w] Γ iv rv lv (LC j j (.int (doneQ j.S j.r G w))) := by
  obtain ⟨t, -, hC⟩ := hc.cq hj
  refine (ct_cdone D hC G w).mono ?_
  rintro _ _ iv2 rv2 _ ⟨x, rfl, rfl, rfl, rfl, hq⟩
  exact ⟨rfl, hc.qt hq, hm.qt hq⟩
theorem lm_done (D : Nat) (G w : Int32) (hj : JG j) (hc : CI j Γ iv rv) (hm : MI_ j Γ iv rv) : Ct g l mX7_done (D + 52) 0 0 [.ref 75, .int G, .int w] Γ iv rv lv (LM j (.int (doneQ j.S j.r G w))) := by
  obtain ⟨t, ht, h8⟩ := hj.gq.2.2
  refine (ct_done D hm.sh hm.rm hm.tx hj.t6 h8 ht hj.gq.1 G w).mono ?_
  rintro _ _ iv2 _ lv2 ⟨x, rfl, rfl, rfl, ho, hR, rfl⟩
  exact ⟨rfl, hc.mk_ ho (fun a b y => by omega), hm.st ho (fun a b y => by omega) (fun _ => rfl) hR⟩
theorem lc_ease (D : Nat) (G w : Int32) (hj : JG j) (hc : CI j Γ iv rv) (hm : MI_ j Γ iv rv) : Ct g l mX6_ease (D + 6) 0 0 [.ref 14, .int G, .int w] Γ iv rv lv (LC j j (.int (easeQ j.S j.r G w))) := by
  obtain ⟨t, -, hC⟩ := hc.cq hj
  refine (ct_cease D hC G w).mono ?_
  rintro _ _ iv2 rv2 _ ⟨x, rfl, rfl, rfl, rfl, hq⟩
  exact ⟨rfl, hc.qt hq, hm.qt hq⟩
theorem lm_ease (D : Nat) (G w : Int32) (hj : JG j) (hc : CI j Γ iv rv) (hm : MI_ j Γ iv rv) : Ct g l mX7_ease (D + 52) 0 0 [.ref 75, .int G, .int w] Γ iv rv lv (LM j (.int (easeQ j.S j.r G w))) := by
  obtain ⟨t, ht, h8⟩ := hj.gq.2.2
  refine (ct_ease D hm.sh hm.rm hm.tx hj.t6 h8 ht hj.gq.1 G w).mono ?_
  rintro _ _ iv2 _ lv2 ⟨x, rfl, rfl, rfl, ho, hR, rfl⟩
  exact ⟨rfl, hc.mk_ ho (fun a b y => by omega), hm.st ho (fun a b y => by omega) (fun _ => rfl) hR⟩
theorem lc_men (D : Nat) (G w : Int32) (hj : JG j) (hc : CI j Γ iv rv) (hm : MI_ j Γ iv rv) : Ct g l mX6_men (D + 7) 0 0 [.ref 14, .int G, .int w] Γ iv rv lv (LC j j (.int (menQ j.S j.r G w))) := by
  obtain ⟨t, -, hC⟩ := hc.cq hj
  refine (ct_cmen D hC hj.gq.2.1 G w).mono ?_
  rintro _ _ iv2 rv2 _ ⟨x, rfl, rfl, rfl, rfl, hq⟩
  exact ⟨rfl, hc.qt hq, hm.qt hq⟩
theorem lm_men (D : Nat) (G w : Int32) (hj : JG j) (hc : CI j Γ iv rv) (hm : MI_ j Γ iv rv) : Ct g l mX7_men (D + 54) 0 0 [.ref 75, .int G, .int w] Γ iv rv lv (LM j (.int (menQ j.S j.r G w))) := by
  obtain ⟨t, ht, h8⟩ := hj.gq.2.2
  refine (ct_men D hm.sh hm.rm hm.tx hj.t6 h8 ht hj.gq.1 G w).mono ?_
  rintro _ _ iv2 _ lv2 ⟨x, rfl, rfl, rfl, ho, hR, rfl⟩
  exact ⟨rfl, hc.mk_ ho (fun a b y => by omega), hm.st ho (fun a b y => by omega) (fun _ => rfl) hR⟩
theorem lc_quarrel (D : Nat) (w : Int32) (hj : JG j) (hc : CI j Γ iv rv) (hm : MI_ j Γ iv rv) : Ct g l mX6_quarrel (D + 7) 0 0 [.ref 14, .int w] Γ iv rv lv (LC j j (.int (quQ j.S j.r w))) := by
  obtain ⟨t, -, hC⟩ := hc.cq hj
  refine (ct_cquarrel D hC hj.gq.2.1 w).mono ?_
  rintro _ _ iv2 rv2 _ ⟨x, rfl, rfl, rfl, rfl, hq⟩
  exact ⟨rfl, hc.qx hq, hm.qx hq⟩
theorem lm_quarrel (D : Nat) (w : Int32) (hj : JG j) (hc : CI j Γ iv rv) (hm : MI_ j Γ iv rv) : Ct g l mX7_quarrel (D + 54) 0 0 [.ref 75, .int w] Γ iv rv lv (LM j (.int (quQ j.S j.r w))) := by
  obtain ⟨t, ht, h8⟩ := hj.gq.2.2
  refine (ct_quarrel D hm.sh hm.rm hm.tx hj.t6 h8 ht hj.gq.1 w).mono ?_
  rintro _ _ iv2 _ lv2 ⟨x, rfl, rfl, rfl, ho, hR, rfl⟩
  exact ⟨rfl, hc.mk_ ho (fun a b y => by omega), hm.st ho (fun a b y => by omega) (fun _ => rfl) hR⟩
theorem lc_bet (D : Nat) (a b c : Int32) (hj : JG j) (hc : CI j Γ iv rv) (hm : MI_ j Γ iv rv) : Ct g l mX6_bet (D + 6) 0 0 [.ref 14, .int a, .int b, .int c] Γ iv rv lv (LC j j (.int (betQ j.S j.r a b c))) := by
  obtain ⟨t, -, hC⟩ := hc.cq hj
  refine (ct_cbet D hC a b c).mono ?_
  rintro _ _ iv2 rv2 _ ⟨x, rfl, rfl, rfl, rfl, hq⟩
  exact ⟨rfl, hc.qt hq, hm.qt hq⟩
theorem lm_bet (D : Nat) (a b c : Int32) (hj : JG j) (hc : CI j Γ iv rv) (hm : MI_ j Γ iv rv) : Ct g l mX7_bet (D + 53) 0 0 [.ref 75, .int a, .int b, .int c] Γ iv rv lv (LM j (.int (betQ j.S j.r a b c))) := by
  obtain ⟨t, ht, h8⟩ := hj.gq.2.2
  refine (ct_bet D hm.sh hm.rm hm.tx hj.t6 h8 ht hj.gq.1 a b c).mono ?_
  rintro _ _ iv2 _ lv2 ⟨x, rfl, rfl, rfl, ho, hR, rfl⟩
  exact ⟨rfl, hc.mk_ ho (fun a b y => by omega), hm.st ho (fun a b y => by omega) (fun _ => rfl) hR⟩
theorem lc_soonest (D : Nat) (w : Int32) (hj : JG j) (hc : CI j Γ iv rv) (hm : MI_ j Γ iv rv) : Ct g l mX6_soonest (D + 6) 0 0 [.ref 14, .int w] Γ iv rv lv (LC j j (.int (soQ j.S j.r w))) := by
  obtain ⟨t, -, hC⟩ := hc.cq hj
  refine (ct_csoonest D hC w).mono ?_
  rintro _ _ iv2 rv2 _ ⟨x, rfl, rfl, rfl, rfl, hq⟩
  exact ⟨rfl, hc.qt hq, hm.qt hq⟩
theorem lm_soonest (D : Nat) (w : Int32) (hj : JG j) (hc : CI j Γ iv rv) (hm : MI_ j Γ iv rv) : Ct g l mX7_soonest (D + 52) 0 0 [.ref 75, .int w] Γ iv rv lv (LM j (.int (soQ j.S j.r w))) := by
  obtain ⟨t, ht, h8⟩ := hj.gq.2.2
  refine (ct_soonest D hm.sh hm.rm hm.tx hj.t6 h8 ht hj.gq.1 w).mono ?_
  rintro _ _ iv2 _ lv2 ⟨x, rfl, rfl, rfl, ho, hR, rfl⟩
  exact ⟨rfl, hc.mk_ ho (fun a b y => by omega), hm.st ho (fun a b y => by omega) (fun _ => rfl) hR⟩
theorem lc_cheapest (D : Nat) (hj : JG j) (hc : CI j Γ iv rv) (hm : MI_ j Γ iv rv) : Ct g l mX6_cheapest (D + 6) 0 0 [.ref 14] Γ iv rv lv (LC j j (.int (chS j.S j.r 21 0))) := by
  obtain ⟨t, -, hC⟩ := hc.cq hj
  refine (ct_ccheapest D hC ).mono ?_
  rintro _ _ iv2 rv2 _ ⟨x, rfl, rfl, rfl, rfl, hq⟩
  exact ⟨rfl, hc.qt hq, hm.qt hq⟩
theorem lm_cheapest (D : Nat) (hj : JG j) (hc : CI j Γ iv rv) (hm : MI_ j Γ iv rv) : Ct g l mX7_cheapest (D + 52) 0 0 [.ref 75] Γ iv rv lv (LM j (.int (chS j.S j.r 21 0))) := by
  obtain ⟨t, ht, h8⟩ := hj.gq.2.2
  refine (ct_cheapest D hm.sh hm.rm hm.tx hj.t6 h8 ht hj.gq.1 ).mono ?_
  rintro _ _ iv2 _ lv2 ⟨x, rfl, rfl, rfl, ho, hR, rfl⟩
  exact ⟨rfl, hc.mk_ ho (fun a b y => by omega), hm.st ho (fun a b y => by omega) (fun _ => rfl) hR⟩
theorem lc_drawn (D : Nat) (w : Int32) (hj : JG j) (hc : CI j Γ iv rv) (hm : MI_ j Γ iv rv) : Ct g l mX6_drawn (D + 6) 0 0 [.ref 14, .int w] Γ iv rv lv (LC j j (.int (drQ j.S j.r w))) := by
  obtain ⟨t, -, hC⟩ := hc.cq hj
  refine (ct_cdrawn D hC w).mono ?_
  rintro _ _ iv2 rv2 _ ⟨x, rfl, rfl, rfl, rfl, hq⟩
  exact ⟨rfl, hc.qt hq, hm.qt hq⟩
theorem lm_drawn (D : Nat) (w : Int32) (hj : JG j) (hc : CI j Γ iv rv) (hm : MI_ j Γ iv rv) : Ct g l mX7_drawn (D + 52) 0 0 [.ref 75, .int w] Γ iv rv lv (LM j (.int (drQ j.S j.r w))) := by
  obtain ⟨t, ht, h8⟩ := hj.gq.2.2
  refine (ct_drawn D hm.sh hm.rm hm.tx hj.t6 h8 ht hj.gq.1 w).mono ?_
  rintro _ _ iv2 _ lv2 ⟨x, rfl, rfl, rfl, ho, hR, rfl⟩
  exact ⟨rfl, hc.mk_ ho (fun a b y => by omega), hm.st ho (fun a b y => by omega) (fun _ => rfl) hR⟩
theorem lc_chance (D : Nat) (a b c d : Int32) (hj : JG j) (hc : CI j Γ iv rv) (hm : MI_ j Γ iv rv) : Ct g l mX6_chance (D + 7) 0 0 [.ref 14, .int a, .int b, .int c, .int d] Γ iv rv lv (LC j j (.long (chanQ j.S j.r a b c d))) := by
  obtain ⟨t, -, hC⟩ := hc.cq hj
  refine (ct_cchance D hC a b c d).mono ?_
  rintro _ _ iv2 rv2 _ ⟨x, rfl, rfl, rfl, rfl, hq⟩
  exact ⟨rfl, hc.qt hq, hm.qt hq⟩
theorem lm_chance (D : Nat) (a b c d : Int32) (hj : JG j) (hc : CI j Γ iv rv) (hm : MI_ j Γ iv rv) : Ct g l mX7_chance (D + 53) 0 0 [.ref 75, .int a, .int b, .int c, .int d] Γ iv rv lv (LM j (.long (chanQ j.S j.r a b c d))) := by
  obtain ⟨t, ht, h8⟩ := hj.gq.2.2
  refine (ct_chance D hm.sh hm.rm hm.tx hj.t6 h8 ht hj.gq.1 a b c d).mono ?_
  rintro _ _ iv2 _ lv2 ⟨x, rfl, rfl, rfl, ho, hR, rfl⟩
  exact ⟨rfl, hc.mk_ ho (fun a b y => by omega), hm.st ho (fun a b y => by omega) (fun _ => rfl) hR⟩
theorem lc_slowed (D : Nat) (G s : Int32) (hj : JG j) (hc : CI j Γ iv rv) (hm : MI_ j Γ iv rv) : Ct g l mX6_slowed (D + 6) 0 0 [.ref 14, .int G, .int s] Γ iv rv lv (LC j j (.int (slowQ j.S j.r j.e G s))) := by
  obtain ⟨t, -, hC⟩ := hc.cq hj
  refine (ct_cslowed D hC hc.sc hj.gs G s).mono ?_
  rintro _ _ iv2 rv2 _ ⟨x, rfl, rfl, rfl, rfl, hq⟩
  exact ⟨rfl, hc.qt hq, hm.qt hq⟩
theorem lm_slowed (D : Nat) (G s : Int32) (hj : JG j) (hc : CI j Γ iv rv) (hm : MI_ j Γ iv rv) : Ct g l mX7_slowed (D + 52) 0 0 [.ref 75, .int G, .int s] Γ iv rv lv (LM j (.int (slowQ j.S j.r j.e G s))) := by
  obtain ⟨t, ht, h8⟩ := hj.gq.2.2
  refine (ct_mslowed D hm.sh hm.rm hm.tx hj.t6 h8 ht hj.gq.1 hm.sm hj.gs G s).mono ?_
  rintro _ _ iv2 _ lv2 ⟨x, rfl, rfl, rfl, ho, hR, rfl⟩
  exact ⟨rfl, hc.mk_ ho (fun a b y => by omega), hm.st ho (fun a b y => by omega) (fun _ => rfl) hR⟩
theorem lc_ground (D : Nat) (y w v : Int32) (hj : JG j) (hc : CI j Γ iv rv) (hm : MI_ j Γ iv rv) : Ct g l mX6_ground (D + 1) 0 0 [.ref 14, .int y, .int w, .int v] Γ iv rv lv (LC j (j.rd (groundQ j.r y w v).2) (.int ((groundQ j.r y w v).1))) := by
  refine (ct_cground D hc.sh hc.rc hj.gq.1 y w v).mono ?_
  rintro _ _ iv2 _ _ ⟨x, rfl, rfl, rfl, rfl, rfl, hR, ho⟩
  exact ⟨rfl, hc.road ho (fun a b y => by omega) hR (gk_ground (by decide)), hm.ck ho (fun a b y => by omega) (fun _ => rfl)⟩
theorem lm_ground (D : Nat) (y w v : Int32) (hj : JG j) (hc : CI (j.rd (groundQ j.r y w v).2) Γ iv rv) (hm : MI_ j Γ iv rv) : Ct g l mX7_ground (D + 2) 0 0 [.ref 75, .int y, .int w, .int v] Γ iv rv lv (LM (j.rd (groundQ j.r y w v).2) (.int ((groundQ j.r y w v).1))) := by
  refine (ct_mground D hm.sh hm.rm y w v).mono ?_
  rintro _ _ iv2 _ _ ⟨x, rfl, rfl, rfl, rfl, rfl, hR, ho⟩
  exact ⟨rfl, hc.mk_ ho (fun a b y => by omega), hm.st ho (fun a b y => by omega) (fun _ => rfl) hR⟩
theorem lc_gang (D : Nat) (G k n : Int32) (hj : JG j) (hc : CI j Γ iv rv) (hm : MI_ j Γ iv rv) : Ct g l mX6_gang (D + 1) 0 0 [.ref 14, .int G, .int k, .int n] Γ iv rv lv (LC j (j.rd (gangQ j.r G k n).2) (.int ((gangQ j.r G k n).1))) := by
  refine (ct_cgang D hc.sh hc.rc hj.gq.1 G k n).mono ?_
  rintro _ _ iv2 _ _ ⟨x, rfl, rfl, rfl, rfl, rfl, hR, ho⟩
  exact ⟨rfl, hc.road ho (fun a b y => by omega) hR k8_gang, hm.ck ho (fun a b y => by omega) (fun _ => rfl)⟩
theorem lm_gang (D : Nat) (G k n : Int32) (hj : JG j) (hc : CI (j.rd (gangQ j.r G k n).2) Γ iv rv) (hm : MI_ j Γ iv rv) : Ct g l mX7_gang (D + 2) 0 0 [.ref 75, .int G, .int k, .int n] Γ iv rv lv (LM (j.rd (gangQ j.r G k n).2) (.int ((gangQ j.r G k n).1))) := by
  refine (ct_mgang D hm.sh hm.rm G k n).mono ?_
  rintro _ _ iv2 _ _ ⟨x, rfl, rfl, rfl, rfl, rfl, hR, ho⟩
  exact ⟨rfl, hc.mk_ ho (fun a b y => by omega), hm.st ho (fun a b y => by omega) (fun _ => rfl) hR⟩
theorem lc_set (D : Nat) (w v : Int32) (hj : JG j) (hc : CI j Γ iv rv) (hm : MI_ j Γ iv rv) : Ct g l mX6_set (D + 1) 0 0 [.ref 14, .int w, .int v] Γ iv rv lv (LC j (j.rd (setQ j.r w v).2) (.int ((setQ j.r w v).1))) := by
  refine (ct_cset D hc.sh hc.rc hj.gq.1 w v).mono ?_
  rintro _ _ iv2 _ _ ⟨x, rfl, rfl, rfl, rfl, rfl, hR, ho⟩
  exact ⟨rfl, hc.road ho (fun a b y => by omega) hR k8_set, hm.ck ho (fun a b y => by omega) (fun _ => rfl)⟩
theorem lm_set (D : Nat) (w v : Int32) (hj : JG j) (hc : CI (j.rd (setQ j.r w v).2) Γ iv rv) (hm : MI_ j Γ iv rv) : Ct g l mX7_set (D + 1) 0 0 [.ref 75, .int w, .int v] Γ iv rv lv (LM (j.rd (setQ j.r w v).2) (.int ((setQ j.r w v).1))) := by
  refine (ct_mset D hm.sh hm.rm w v).mono ?_
  rintro _ _ iv2 _ _ ⟨x, rfl, rfl, rfl, rfl, rfl, hR, ho⟩
  exact ⟨rfl, hc.mk_ ho (fun a b y => by omega), hm.st ho (fun a b y => by omega) (fun _ => rfl) hR⟩
theorem lc_bore (D : Nat) (k n : Int32) (hj : JG j) (hc : CI j Γ iv rv) (hm : MI_ j Γ iv rv) : Ct g l mX6_bore (D + 1) 0 0 [.ref 14, .int k, .int n] Γ iv rv lv (LC j (j.rd (boreQ j.r k n).2) (.int ((boreQ j.r k n).1))) := by
  refine (ct_cbore D hc.sh hc.rc hj.gq.1 k n).mono ?_
  rintro _ _ iv2 _ _ ⟨x, rfl, rfl, rfl, rfl, rfl, hR, ho⟩
  exact ⟨rfl, hc.road ho (fun a b y => by omega) hR k8_bore, hm.ck ho (fun a b y => by omega) (fun _ => rfl)⟩
theorem lm_bore (D : Nat) (k n : Int32) (hj : JG j) (hc : CI (j.rd (boreQ j.r k n).2) Γ iv rv) (hm : MI_ j Γ iv rv) : Ct g l mX7_bore (D + 2) 0 0 [.ref 75, .int k, .int n] Γ iv rv lv (LM (j.rd (boreQ j.r k n).2) (.int ((boreQ j.r k n).1))) := by
  refine (ct_mbore D hm.sh hm.rm k n).mono ?_
  rintro _ _ iv2 _ _ ⟨x, rfl, rfl, rfl, rfl, rfl, hR, ho⟩
  exact ⟨rfl, hc.mk_ ho (fun a b y => by omega), hm.st ho (fun a b y => by omega) (fun _ => rfl) hR⟩
theorem lc_grounds (D : Nat) (s so a n : Int32) (hj : JG j) (hc : CI j Γ iv rv) (hm : MI_ j Γ iv rv) : Ct g l mX6_grounds (D + 2) 0 0 [.ref 14, .int s, .int so, .int a, .int n] Γ iv rv lv (LC j (j.rd (groundsQ j.r j.e s so a n).2) (.int ((groundsQ j.r j.e s so a n).1))) := by
  refine (ct_cgrounds D hc.sh hc.rc hj.gq.1 hc.sc hj.gs s so a n).mono ?_
  rintro _ _ iv2 _ _ ⟨x, rfl, rfl, rfl, rfl, rfl, hR, ho⟩
  exact ⟨rfl, hc.road ho (fun a b y => by omega) hR k8_grounds, hm.ck ho (fun a b y => by omega) (fun _ => rfl)⟩
theorem lm_grounds (D : Nat) (s so a n : Int32) (hj : JG j) (hc : CI (j.rd (groundsQ j.r j.e s so a n).2) Γ iv rv) (hm : MI_ j Γ iv rv) : Ct g l mX7_grounds (D + 4) 0 0 [.ref 75, .int s, .int so, .int a, .int n] Γ iv rv lv (LM (j.rd (groundsQ j.r j.e s so a n).2) (.int ((groundsQ j.r j.e s so a n).1))) := by
  refine (ct_mgrounds D hm.sh hm.rm hm.sm hj.gs s so a n).mono ?_
  rintro _ _ iv2 _ _ ⟨x, rfl, rfl, rfl, rfl, rfl, hR, ho⟩
  exact ⟨rfl, hc.mk_ ho (fun a b y => by omega), hm.st ho (fun a b y => by omega) (fun _ => rfl) hR⟩
theorem lc_day (D : Nat) (hj : JG j) (hc : CI j Γ iv rv) (hm : MI_ j Γ iv rv) : Ct g l mX6_day (D + 5) 0 0 [.ref 14] Γ iv rv lv (LC j (j.rd (passS j.S j.r (-1))) (.int (aheadS (passS j.S j.r (-1))))) := by
  obtain ⟨t, -, hC⟩ := hc.cq hj
  refine (ct_cday D hC).mono ?_
  rintro _ _ iv2 _ _ ⟨x, rfl, rfl, rfl, rfl, rfl, hR, ho⟩
  exact ⟨rfl, hc.road ho (fun a b y => by omega) hR rule_pass, hm.ck ho (fun a b y => by omega) (fun _ => rfl)⟩
theorem lm_day (D : Nat) (hj : JG j) (hc : CI (j.rd (passS j.S j.r (-1))) Γ iv rv) (hm : MI_ j Γ iv rv) : Ct g l mX7_day (D + 51) 0 0 [.ref 75] Γ iv rv lv (LM (j.rd (passS j.S j.r (-1))) (.int (aheadS (passS j.S j.r (-1))))) := by
  obtain ⟨t, ht, h8⟩ := hj.gq.2.2
  refine (ct_mday D hm.sh hm.rm hm.tx hj.t6 h8 ht hj.gq.1).mono ?_
  rintro _ _ iv2 _ lv2 ⟨x, rfl, rfl, rfl, ho, hR, rfl⟩
  exact ⟨rfl, hc.mk_ ho (fun a b y => by omega), hm.st ho (fun a b y => by omega) (fun _ => rfl) hR⟩
theorem lc_yard (D : Nat) (y w : Int32) (hj : JG j) (hc : CI j Γ iv rv) (hm : MI_ j Γ iv rv) : Ct g l mX6_yard (D + 2) 0 0 [.ref 14, .int y, .int w] Γ iv rv lv (LC j j (.int (yardQ j.S j.r y w))) := by
  obtain ⟨t, -, hC⟩ := hc.cq hj
  refine (ct_cyard D hC y w).mono ?_
  rintro _ _ iv2 _ _ ⟨x, rfl, rfl, rfl, rfl, rfl, ho⟩
  exact ⟨rfl, hc.road ho (fun a b y => by omega) (hc.rc.off ho (fun a b y => by omega)) rfl, hm.ck ho (fun a b y => by omega) (fun _ => rfl)⟩
theorem lm_yard (D : Nat) (y w : Int32) (hj : JG j) (hc : CI j Γ iv rv) (hm : MI_ j Γ iv rv) : Ct g l mX7_yard (D + 49) 0 0 [.ref 75, .int y, .int w] Γ iv rv lv (LM j (.int (yardQ j.S j.r y w))) := by
  obtain ⟨t, ht, h8⟩ := hj.gq.2.2
  refine (ct_myard D hm.sh hm.rm hm.tx hj.t6 h8 ht hj.gq.1 y w).mono ?_
  rintro _ _ iv2 _ lv2 ⟨x, rfl, rfl, rfl, ho, rfl⟩
  exact ⟨rfl, hc.mk_ ho (fun a b y => by omega), hm.st ho (fun a b y => by omega) (fun _ => rfl) (hm.rm.off ho)⟩
theorem lc_told (D : Nat) (G w : Int32) (hj : JG j) (hc : CI j Γ iv rv) (hm : MI_ j Γ iv rv) : Ct g l mX6_told (D + 3) 0 0 [.ref 14, .int G, .int w] Γ iv rv lv (LC j j (.int (toldQ j.S j.r G w))) := by
  obtain ⟨t, -, hC⟩ := hc.cq hj
  refine (ct_ctold D hC G w).mono ?_
  rintro _ _ iv2 _ _ ⟨x, rfl, rfl, rfl, rfl, rfl, ho⟩
  exact ⟨rfl, hc.road ho (fun a b y => by omega) (hc.rc.off ho (fun a b y => by omega)) rfl, hm.ck ho (fun a b y => by omega) (fun _ => rfl)⟩
theorem lm_told (D : Nat) (G w : Int32) (hj : JG j) (hc : CI j Γ iv rv) (hm : MI_ j Γ iv rv) : Ct g l mX7_told (D + 49) 0 0 [.ref 75, .int G, .int w] Γ iv rv lv (LM j (.int (toldQ j.S j.r G w))) := by
  obtain ⟨t, ht, h8⟩ := hj.gq.2.2
  refine (ct_mtold D hm.sh hm.rm hm.tx hj.t6 h8 ht hj.gq.1 G w).mono ?_
  rintro _ _ iv2 _ lv2 ⟨x, rfl, rfl, rfl, ho, rfl⟩
  exact ⟨rfl, hc.mk_ ho (fun a b y => by omega), hm.st ho (fun a b y => by omega) (fun _ => rfl) (hm.rm.off ho)⟩
theorem lc_well (D : Nat) (G : Int32) (hj : JG j) (hc : CI j Γ iv rv) (hm : MI_ j Γ iv rv) : Ct g l mX6_well (D + 2) 0 0 [.ref 14, .int G] Γ iv rv lv (LC j j (.int (wellQ j.r G))) := by
  refine (ct_cwell D hc.sh hc.rc hj.gq.1 G).mono ?_
  rintro _ _ _ _ _ ⟨rfl, rfl, rfl, rfl, rfl⟩
  exact ⟨rfl, hc, hm⟩
theorem lm_well (D : Nat) (G : Int32) (hj : JG j) (hc : CI j Γ iv rv) (hm : MI_ j Γ iv rv) : Ct g l mX7_well (D + 2) 0 0 [.ref 75, .int G] Γ iv rv lv (LM j (.int (wellQ j.r G))) := by
  refine (ct_mwell D hm.sh hm.rm hj.gq.1 G).mono ?_
  rintro _ _ _ _ _ ⟨rfl, rfl, rfl, rfl, rfl⟩
  exact ⟨rfl, hc, hm⟩
theorem lc_taken (D : Nat) (G k : Int32) (hj : JG j) (hc : CI j Γ iv rv) (hm : MI_ j Γ iv rv) : Ct g l mX6_taken (D + 2) 0 0 [.ref 14, .int G, .int k] Γ iv rv lv (LC j j (.int (takenQ j.r G k))) := by
  refine (ct_ctaken D hc.sh hc.rc hj.gq.1 G k).mono ?_
  rintro _ _ _ _ _ ⟨rfl, rfl, rfl, rfl, rfl⟩
  exact ⟨rfl, hc, hm⟩
theorem lm_taken (D : Nat) (G k : Int32) (hj : JG j) (hc : CI j Γ iv rv) (hm : MI_ j Γ iv rv) : Ct g l mX7_taken (D + 2) 0 0 [.ref 75, .int G, .int k] Γ iv rv lv (LM j (.int (takenQ j.r G k))) := by
  refine (ct_mtaken D hm.sh hm.rm hj.gq.1 G k).mono ?_
  rintro _ _ _ _ _ ⟨rfl, rfl, rfl, rfl, rfl⟩
  exact ⟨rfl, hc, hm⟩
theorem lc_count (D : Nat) (w : Int32) (hj : JG j) (hc : CI j Γ iv rv) (hm : MI_ j Γ iv rv) : Ct g l mX6_count (D + 1) 0 0 [.ref 14, .int w] Γ iv rv lv (LC j j (.int (countQ j.r j.T j.n w))) := by
  obtain ⟨t, -, hC⟩ := hc.cq hj
  refine (ct_ccount D hC hc.t8 hc.tx.1 w).mono ?_
  rintro _ _ _ _ _ ⟨rfl, rfl, rfl, rfl, rfl⟩
  exact ⟨rfl, hc, hm⟩
theorem lm_count (D : Nat) (w : Int32) (hj : JG j) (hc : CI j Γ iv rv) (hm : MI_ j Γ iv rv) : Ct g l mX7_count (D + 1) 0 0 [.ref 75, .int w] Γ iv rv lv (LM j (.int (countQ j.r j.T j.n w))) := by
  refine (ct_mcount D hm.sh hm.rm hm.t3 hm.t6 w).mono ?_
  rintro _ _ _ _ _ ⟨rfl, rfl, rfl, rfl, rfl⟩
  exact ⟨rfl, hc, hm⟩
theorem lc_force (D : Nat) (w : Int32) (hj : JG j) (hc : CI j Γ iv rv) (hm : MI_ j Γ iv rv) : Ct g l mX6_force (D + 1) 0 0 [.ref 14, .int w] Γ iv rv lv (LC j (j.rd (forceQ j.r j.T w).2) (.int ((forceQ j.r j.T w).1))) := by
  obtain ⟨t, ht, hC⟩ := hc.cq hj
  refine (ct_cforce D hC hc.t8 hj.t1 hj.t6 ht hc.ru w).mono ?_
  rintro _ _ iv2 rv2 _ ⟨x, rfl, rfl, rfl, rfl, rfl, t', h1, h2, rfl, hR⟩
  exact ⟨rfl, hc.st (P := fun _ _ => False) Off.refl (fun a b y => y.elim) (fun a b y => up_ne (by omega)) (up_ne1 (by decide)) hR ⟨t', h1, h2, up_same _ _ _ _⟩ hc.g4 hc.g5, hm.ck (P := fun _ _ => False) Off.refl (fun a b y => y.elim) (fun b => up_ne1 (by decide))⟩
theorem lm_force (D : Nat) (w : Int32) (hj : JG j) (hc : CI (j.rd (forceQ j.r j.T w).2) Γ iv rv) (hm : MI_ j Γ iv rv) : Ct g l mX7_force (D + 1) 0 0 [.ref 75, .int w] Γ iv rv lv (LM (j.rd (forceQ j.r j.T w).2) (.int ((forceQ j.r j.T w).1))) := by
  refine (ct_mforce D hm.sh hm.rm hm.t3 hj.t1 w).mono ?_
  rintro _ _ iv2 _ _ ⟨x, rfl, rfl, rfl, rfl, rfl, hR, ho⟩
  exact ⟨rfl, hc.mk_ ho (fun a b y => by omega), hm.st ho (fun a b y => by omega) (fun _ => rfl) hR⟩
end ASKS
