set_option maxHeartbeats 4000000 in
set_option maxRecDepth 100000 in
theorem la_begin {p : Program} {e : Env} {s : State} {m : MethodId} {below : List Frame} {meth : Method} {c : Code} (l : Launch) {args : Array Value} {A : Nat → Prop} {Q : State → Prop} {D : va_G} {cI cZ cS : ClassId} (x0 : Nat) (xs : Nat) (xv : Nat) (ho0 : Nat) (ho1 : Nat) (pd0 : Nat) (pd1 : Nat) (m0 : Nat) (ts0 : Nat) (ts1 : Nat) (a : Nat → Nat) (ha : Nat → Nat → Nat) (sa : Nat → Nat → Nat) (cn : Nat → Nat → Int32) (cs : Nat → Nat → Nat → Int32) (sc : Nat → Nat → Nat → Int32) (tm : Nat → Int32) (tv : Nat → Int32) (pd : Nat → Int32) (sv : Nat → Int32) (old : Int32) (sz : Int32) (z : Nat → Int32) (past : Nat → Int32) (slots : Nat → Int32) (bd : Int) (p1 p2 ho y : Int32) (hLI : LI bd cn cs sc sv (0 : Int32) old sz z past slots) (hbd : bd ≤ 99000) (hx : p.tables.exec = Jvm.exec) (hb : c.code = cL_act) (hr : meth.sig.returnType = (some .int)) (hts : ∀ w ∈ Cond.code yL_act cL_act 10 (some .int) :: wsL_law, w.before args s = true) (hown : s.vm.findClass yL_act.cls = some m.cls) (hlocks : meth.locks = false) (hml : c.maxLocals = 10) (hK : va_K D vwCl (xTy cI cZ cS) s) (hA : ∀ q : Nat, s.heap.size ≤ q → A q) (hN : xN s) (hZ : xZ A s) (hQ : Q = MQ below (va_Qi (fun (r : Int32) (u : (Nat → Nat → Int32) × (Nat → Nat → Nat → Int32) × (Nat → Int32) × (Nat → Int32) × (Int32) × (Int32) × (Nat → Int32)) => ((r = 1 ∧ LI (bd + 500) u.1 u.2.1 sc sv (0 : Int32) u.2.2.2.2.1 u.2.2.2.2.2.1 u.2.2.2.2.2.2 (recP z past sz) slots ∧ u.2.2.2.2.2.1 = recS sz) ∨ (r = 0 ∧ LI bd u.1 u.2.1 sc sv (0 : Int32) u.2.2.2.2.1 u.2.2.2.2.2.1 u.2.2.2.2.2.2 past slots ∧ u.2.2.2.2.2.2 = z ∧ u.2.2.2.2.2.1 = sz)) ∧ (∀ k : Nat, 190 ≤ k → u.2.2.2.2.2.2 k = z k)) (fun u t => va_P D vwCl ((fun (u : (Nat → Nat → Int32) × (Nat → Nat → Nat → Int32) × (Nat → Int32) × (Nat → Int32) × (Int32) × (Int32) × (Nat → Int32)) => (xwW cI cZ cS x0 xs xv ho0 ho1 pd0 pd1 m0 ts0 ts1 a ha sa u.1 u.2.1 sc u.2.2.1 tv u.2.2.2.1 sv (0 : Int32) u.2.2.2.2.1 u.2.2.2.2.2.1 u.2.2.2.2.2.2)) u) t.heap) A) args s 0 0 A) (hy : 0 ≤ y.toInt) (H : Heap) (locs : List Loc) (hP : va_P D vwCl (xwW cI cZ cS x0 xs xv ho0 ho1 pd0 pd1 m0 ts0 ts1 a ha sa cn cs sc tm tv pd sv (0 : Int32) old sz z) H) (hD : va_D A (xwW cI cZ cS x0 xs xv ho0 ho1 pd0 pd1 m0 ts0 ts1 a ha sa cn cs sc tm tv pd sv (0 : Int32) old sz z)) (hS : va_S A s.heap H locs) (ls : Array Slot) (hl : lv_has ls 10 [(4, .int y), (3, .int ho), (0, .ref x0), (1, .int p1), (2, .int p2)]) : W p l e ({ frames := 7, cells := 0, slots := 0, locals := 159 } : Room) s m args below meth c H locs 0 0 Q (F0 m 542 ls []) := by
  obtain ⟨hRS, hI, hBD, ⟨hold, hszz, hlnn⟩, hmcs, hmsc, hRH, hRL⟩ := id hLI
  obtain ⟨⟨hb74, hb74u⟩, ⟨hb86, hb86u⟩, hIP⟩ := id hBD
  have hs0 : (1 ≤ (z 0).toInt ∧ (z 0).toInt ≤ 9) ∧ (0 ≤ (z 1).toInt ∧ (z 1).toInt ≤ 9) ∧ (1 ≤ (z 2).toInt ∧ (z 2).toInt ≤ 9) ∧ (1 ≤ (z 3).toInt ∧ (z 3).toInt ≤ 20) ∧ (2 ≤ (z 5).toInt ∧ (z 5).toInt ≤ 9) := hI.1
  have hg6 : 0 ≤ (z 6).toInt ∧ (z 6).toInt ≤ 10 := hI.2.1.1
  have hr7 : 0 ≤ (z 7).toInt ∧ (z 7).toInt ≤ 12 := hI.2.2.1.1
  have z0 : (0 : Int32).toInt = 0 := by decide
  refine lv_aload_n hx hb dL_act_542 rfl (lv_at hl 2 rfl) ?_
  refine lv_iconst (v := 0) hx hb dL_act_543 (by decide) ?_
  refine xo_Vi (As := [.int 0]) (rest := []) hx hb hml hown hts hK hN hZ hP hD hS hA mb_X7_walk mw_1_238 mw_1_239 mw_2_0 (k_X7_walk l D cI cZ cS x0 xs xv ho0 ho1 pd0 pd1 m0 ts0 ts1 a ha sa cn cs sc tm tv pd sv (0 : Int32) old sz z (0 : Int32) hRS hI) 0 7 rfl rfl (fun _ => xwW_f) (by decide) (by decide) rfl hl.1 rfl (Nat.le_of_ble_eq_true rfl) dL_act_544 ⟨Nat.zero_le _, Nat.zero_le _⟩ (fun r544 u544 H locs hw hP hD hS => ?_)
  have p544 : r544 = walkR z (0 : Int32) := hw
  have hP : va_P D vwCl (xwW cI cZ cS x0 xs xv ho0 ho1 pd0 pd1 m0 ts0 ts1 a ha sa cn cs sc tm tv pd sv (0 : Int32) old sz z) H := hP
  have hD : va_D A (xwW cI cZ cS x0 xs xv ho0 ho1 pd0 pd1 m0 ts0 ts1 a ha sa cn cs sc tm tv pd sv (0 : Int32) old sz z) := hD
  refine xk_top (z := (z 174)) (by exact p544.trans (wk_0 _)) ?_
  refine lv_istore (lv' := [(5, .int (z 174)), (4, .int y), (3, .int ho), (0, .ref x0), (1, .int p1), (2, .int p2)]) hx hb dL_act_547 hl (by decide) rfl (fun ls hl => ?_)
  refine lv_aload_n hx hb dL_act_549 rfl (lv_at hl 3 rfl) ?_
  refine xo_Vi (As := []) (rest := []) hx hb hml hown hts hK hN hZ hP hD hS hA mb_X7_begin mw_3_106 mw_3_107 mw_3_108 (k_X7_begin l D cI cZ cS x0 xs xv ho0 ho1 pd0 pd1 m0 ts0 ts1 a ha sa cn cs sc tm tv pd sv (0 : Int32) old sz z hRS hI hold hszz) 0 7 rfl rfl (fun _ => xwW_f) (by decide) (by decide) rfl hl.1 rfl (Nat.le_of_ble_eq_true rfl) dL_act_550 ⟨Nat.zero_le _, Nat.zero_le _⟩ (fun r550 u550 H locs hw hP hD hS => ?_)
  obtain ⟨cq_550, zq_550, old1_550, sz1_550, cs1_550⟩ := u550
  have p550 : r550 = z 174 ∧ Chg cn z old sz cs (beginZ z) cq_550 zq_550 old1_550 sz1_550 cs1_550 := hw
  have hP : va_P D vwCl (xwW cI cZ cS x0 xs xv ho0 ho1 pd0 pd1 m0 ts0 ts1 a ha sa cq_550 cs1_550 sc tm tv pd sv (0 : Int32) old1_550 sz1_550 zq_550) H := hP
  have hD : va_D A (xwW cI cZ cS x0 xs xv ho0 ho1 pd0 pd1 m0 ts0 ts1 a ha sa cq_550 cs1_550 sc tm tv pd sv (0 : Int32) old1_550 sz1_550 zq_550) := hD
  obtain ⟨hLI2, hz2, hs2⟩ := act_begin hLI (p550.2)
  rw [hz2, hs2] at hP hD
  rw [hs2] at hLI2
  obtain ⟨z1, hz1⟩ : ∃ q, q = beginZ z := ⟨_, rfl⟩
  rw [← hz1] at hP hD hLI2
  obtain ⟨hRS2, hI2, -, ⟨hold2, hsz2, -⟩, -⟩ := id hLI2
  have hbg1 : begP0 z1 := by rw [hz1]; exact begP_b _
  have h811 : z1 181 = z1 4 := by rw [hz1, begin_181, beginZ_lo _ (by omega)]
  have htl : ∀ k : Nat, 190 ≤ k → z1 k = z k := fun k hk => by rw [hz1]; exact beginZ_hi _ hk
  have hP : va_P D vwCl (xwW cI cZ cS x0 xs xv ho0 ho1 pd0 pd1 m0 ts0 ts1 a ha sa cq_550 cs1_550 sc tm tv pd sv (0 : Int32) old1_550 (recS sz) z1) H := hP
  have hD : va_D A (xwW cI cZ cS x0 xs xv ho0 ho1 pd0 pd1 m0 ts0 ts1 a ha sa cq_550 cs1_550 sc tm tv pd sv (0 : Int32) old1_550 (recS sz) z1) := hD
  refine lv_iload hx hb dL_act_553 (lv_at hl 0 rfl) ?_
  refine lv_icmp_ne (tgt := 569) hx hb dL_act_555 (by decide) (fun c555 => ?_) (fun c555 => ?_)
  · have t555 : ¬ r550.toInt = (z 174).toInt := xi_ne rfl rfl c555
    have d555 : ¬ r550 = (z 174) := c555
    exact absurd p550.1 c555
  · have t555 : r550.toInt = (z 174).toInt := xi_eq rfl rfl c555
    have d555 : r550 = (z 174) := c555
    refine lv_aload_n hx hb dL_act_558 rfl (lv_at hl 3 rfl) ?_
    refine xo_Si (As := [.ref x0]) (rest := []) hx hb hml hown hts hK hN hZ hP hD hS hA mb_L_isBegun mw_3_81 mw_3_82 (c_L_isBegun l D cI cZ cS x0 xs xv ho0 ho1 pd0 pd1 m0 ts0 ts1 a ha sa cq_550 cs1_550 sc tm tv pd sv (0 : Int32) old1_550 (recS sz) z1 (recP z past sz) slots (bd + 500) hLI2 (by first | omega | assumption) hbg1 h811) (fun _ => xwW_f) (by decide) (by decide) rfl hl.1 rfl (Nat.le_of_ble_eq_true rfl) dL_act_559 ⟨Nat.zero_le _, Nat.zero_le _⟩ (fun r559 u559 H locs hw hP hD hS => ?_)
    have p559 : r559 = (1 : Int32) := hw
    have hP : va_P D vwCl (xwW cI cZ cS x0 xs xv ho0 ho1 pd0 pd1 m0 ts0 ts1 a ha sa cq_550 cs1_550 sc tm tv pd sv (0 : Int32) old1_550 (recS sz) z1) H := hP
    have hD : va_D A (xwW cI cZ cS x0 xs xv ho0 ho1 pd0 pd1 m0 ts0 ts1 a ha sa cq_550 cs1_550 sc tm tv pd sv (0 : Int32) old1_550 (recS sz) z1) := hD
    refine xk_top (z := 1) (by exact p559) ?_
    refine lv_if_eq (tgt := 569) hx hb dL_act_562 (by decide) (fun c562 => absurd c562 (by decide)) (fun _ => ?_)
    refine lv_iconst (v := 1) hx hb dL_act_565 (by decide) ?_
    refine lv_goto (tgt := 571) hx hb dL_act_566 (by decide) ?_
    exact xk_reti (cq_550, cs1_550, tm, pd, old1_550, (recS sz), z1) hx hb hr hlocks (xk_P hP (by rfl)) (by (try dsimp only); exact ⟨Or.inl ⟨rfl, hLI2, rfl⟩, htl⟩) hS dL_act_571 hQ

set_option maxHeartbeats 4000000 in
set_option maxRecDepth 100000 in
theorem la_march {p : Program} {e : Env} {s : State} {m : MethodId} {below : List Frame} {meth : Method} {c : Code} (l : Launch) {args : Array Value} {A : Nat → Prop} {Q : State → Prop} {D : va_G} {cI cZ cS : ClassId} (x0 : Nat) (xs : Nat) (xv : Nat) (ho0 : Nat) (ho1 : Nat) (pd0 : Nat) (pd1 : Nat) (m0 : Nat) (ts0 : Nat) (ts1 : Nat) (a : Nat → Nat) (ha : Nat → Nat → Nat) (sa : Nat → Nat → Nat) (cn : Nat → Nat → Int32) (cs : Nat → Nat → Nat → Int32) (sc : Nat → Nat → Nat → Int32) (tm : Nat → Int32) (tv : Nat → Int32) (pd : Nat → Int32) (sv : Nat → Int32) (old : Int32) (sz : Int32) (z : Nat → Int32) (past : Nat → Int32) (slots : Nat → Int32) (bd : Int) (p1 p2 ho y : Int32) (hLI : LI bd cn cs sc sv (0 : Int32) old sz z past slots) (hbd : bd ≤ 99000) (hx : p.tables.exec = Jvm.exec) (hb : c.code = cL_act) (hr : meth.sig.returnType = (some .int)) (hts : ∀ w ∈ Cond.code yL_act cL_act 10 (some .int) :: wsL_law, w.before args s = true) (hown : s.vm.findClass yL_act.cls = some m.cls) (hlocks : meth.locks = false) (hml : c.maxLocals = 10) (hK : va_K D vwCl (xTy cI cZ cS) s) (hA : ∀ q : Nat, s.heap.size ≤ q → A q) (hN : xN s) (hZ : xZ A s) (hQ : Q = MQ below (va_Qi (fun (r : Int32) (u : (Nat → Nat → Int32) × (Nat → Nat → Nat → Int32) × (Nat → Int32) × (Nat → Int32) × (Int32) × (Int32) × (Nat → Int32)) => ((r = 1 ∧ LI (bd + 500) u.1 u.2.1 sc sv (0 : Int32) u.2.2.2.2.1 u.2.2.2.2.2.1 u.2.2.2.2.2.2 (recP z past sz) slots ∧ u.2.2.2.2.2.1 = recS sz) ∨ (r = 0 ∧ LI bd u.1 u.2.1 sc sv (0 : Int32) u.2.2.2.2.1 u.2.2.2.2.2.1 u.2.2.2.2.2.2 past slots ∧ u.2.2.2.2.2.2 = z ∧ u.2.2.2.2.2.1 = sz)) ∧ (∀ k : Nat, 190 ≤ k → u.2.2.2.2.2.2 k = z k)) (fun u t => va_P D vwCl ((fun (u : (Nat → Nat → Int32) × (Nat → Nat → Nat → Int32) × (Nat → Int32) × (Nat → Int32) × (Int32) × (Int32) × (Nat → Int32)) => (xwW cI cZ cS x0 xs xv ho0 ho1 pd0 pd1 m0 ts0 ts1 a ha sa u.1 u.2.1 sc u.2.2.1 tv u.2.2.2.1 sv (0 : Int32) u.2.2.2.2.1 u.2.2.2.2.2.1 u.2.2.2.2.2.2)) u) t.heap) A) args s 0 0 A) (hy : 0 ≤ y.toInt) (H : Heap) (locs : List Loc) (hP : va_P D vwCl (xwW cI cZ cS x0 xs xv ho0 ho1 pd0 pd1 m0 ts0 ts1 a ha sa cn cs sc tm tv pd sv (0 : Int32) old sz z) H) (hD : va_D A (xwW cI cZ cS x0 xs xv ho0 ho1 pd0 pd1 m0 ts0 ts1 a ha sa cn cs sc tm tv pd sv (0 : Int32) old sz z)) (hS : va_S A s.heap H locs) (ls : Array Slot) (hl : lv_has ls 10 [(4, .int y), (3, .int ho), (0, .ref x0), (1, .int p1), (2, .int p2)]) : W p l e ({ frames := 7, cells := 0, slots := 0, locals := 159 } : Room) s m args below meth c H locs 0 0 Q (F0 m 578 ls []) := by
  obtain ⟨hRS, hI, hBD, ⟨hold, hszz, hlnn⟩, hmcs, hmsc, hRH, hRL⟩ := id hLI
  obtain ⟨⟨hb74, hb74u⟩, ⟨hb86, hb86u⟩, hIP⟩ := id hBD
  have hs0 : (1 ≤ (z 0).toInt ∧ (z 0).toInt ≤ 9) ∧ (0 ≤ (z 1).toInt ∧ (z 1).toInt ≤ 9) ∧ (1 ≤ (z 2).toInt ∧ (z 2).toInt ≤ 9) ∧ (1 ≤ (z 3).toInt ∧ (z 3).toInt ≤ 20) ∧ (2 ≤ (z 5).toInt ∧ (z 5).toInt ≤ 9) := hI.1
  have hg6 : 0 ≤ (z 6).toInt ∧ (z 6).toInt ≤ 10 := hI.2.1.1
  have hr7 : 0 ≤ (z 7).toInt ∧ (z 7).toInt ≤ 12 := hI.2.2.1.1
  have z0 : (0 : Int32).toInt = 0 := by decide
  have J607 : ∀ (mb : Int32) (hmb : 1 ≤ mb.toInt ∧ mb.toInt ≤ 500) (H : Heap) (locs : List Loc), va_P D vwCl (xwW cI cZ cS x0 xs xv ho0 ho1 pd0 pd1 m0 ts0 ts1 a ha sa cn cs sc tm tv pd sv (0 : Int32) old sz z) H → va_D A (xwW cI cZ cS x0 xs xv ho0 ho1 pd0 pd1 m0 ts0 ts1 a ha sa cn cs sc tm tv pd sv (0 : Int32) old sz z) → va_S A s.heap H locs → ∀ ls : Array Slot, lv_has ls 10 [(4, .int y), (3, .int ho), (0, .ref x0), (1, .int p1), (2, .int p2)] → W p l e ({ frames := 7, cells := 0, slots := 0, locals := 159 } : Room) s m args below meth c H locs 0 0 Q (F0 m 607 ls [.int mb]) := by
    intro mb hmb H locs hP hD hS ls hl
    refine lv_istore (lv' := [(5, .int mb), (4, .int y), (3, .int ho), (0, .ref x0), (1, .int p1), (2, .int p2)]) hx hb dL_act_607 hl (by decide) rfl (fun ls hl => ?_)
    have J643 : ∀ (g6 : Int32) (hg6b : (g6.toInt = 1 ∧ canZ z ∧ ¬ z 188 = 1) ∨ (g6.toInt = 0 ∧ ¬ (canZ z ∧ ¬ z 188 = 1))) (H : Heap) (locs : List Loc), va_P D vwCl (xwW cI cZ cS x0 xs xv ho0 ho1 pd0 pd1 m0 ts0 ts1 a ha sa cn cs sc tm tv pd sv (0 : Int32) old sz z) H → va_D A (xwW cI cZ cS x0 xs xv ho0 ho1 pd0 pd1 m0 ts0 ts1 a ha sa cn cs sc tm tv pd sv (0 : Int32) old sz z) → va_S A s.heap H locs → ∀ ls : Array Slot, lv_has ls 10 [(5, .int mb), (4, .int y), (3, .int ho), (0, .ref x0), (1, .int p1), (2, .int p2), (6, .int g6)] → W p l e ({ frames := 7, cells := 0, slots := 0, locals := 159 } : Room) s m args below meth c H locs 0 0 Q (F0 m 643 ls []) := by
      intro g6 hg6b H locs hP hD hS ls hl
      refine lv_iload hx hb dL_act_643 (lv_at hl 6 rfl) ?_
      refine lv_if_eq (tgt := 656) hx hb dL_act_645 (by decide) (fun c645 => ?_) (fun c645 => ?_)
      · have t645 : g6.toInt = 0 := xi_eq rfl (by decide) c645
        have d645 : g6 = 0 := c645
        have hng : ¬ (canZ z ∧ ¬ z 188 = 1) := hg6b.elim (fun h9 => absurd h9.1 (by omega)) (fun h9 => h9.2)
        refine lv_iconst (v := 0) hx hb dL_act_656 (by decide) ?_
        refine lv_istore (lv' := [(7, .int 0), (5, .int mb), (4, .int y), (3, .int ho), (0, .ref x0), (1, .int p1), (2, .int p2), (6, .int g6)]) hx hb dL_act_657 hl (by decide) rfl (fun ls hl => ?_)
        refine lv_aload_n hx hb dL_act_659 rfl (lv_at hl 4 rfl) ?_
        refine lv_iconst (v := 0) hx hb dL_act_660 (by decide) ?_
        refine xo_Vi (As := [.int 0]) (rest := []) hx hb hml hown hts hK hN hZ hP hD hS hA mb_X7_walk mw_1_238 mw_1_239 mw_2_0 (k_X7_walk l D cI cZ cS x0 xs xv ho0 ho1 pd0 pd1 m0 ts0 ts1 a ha sa cn cs sc tm tv pd sv (0 : Int32) old sz z (0 : Int32) hRS hI) 0 7 rfl rfl (fun _ => xwW_f) (by decide) (by decide) rfl hl.1 rfl (Nat.le_of_ble_eq_true rfl) dL_act_661 ⟨Nat.zero_le _, Nat.zero_le _⟩ (fun r661 u661 H locs hw hP hD hS => ?_)
        have p661 : r661 = walkR z (0 : Int32) := hw
        have hP : va_P D vwCl (xwW cI cZ cS x0 xs xv ho0 ho1 pd0 pd1 m0 ts0 ts1 a ha sa cn cs sc tm tv pd sv (0 : Int32) old sz z) H := hP
        have hD : va_D A (xwW cI cZ cS x0 xs xv ho0 ho1 pd0 pd1 m0 ts0 ts1 a ha sa cn cs sc tm tv pd sv (0 : Int32) old sz z) := hD
        refine xk_top (z := (z 174)) (by exact p661.trans (wk_0 _)) ?_
        refine lv_istore (lv' := [(8, .int (z 174)), (7, .int 0), (5, .int mb), (4, .int y), (3, .int ho), (0, .ref x0), (1, .int p1), (2, .int p2), (6, .int g6)]) hx hb dL_act_664 hl (by decide) rfl (fun ls hl => ?_)
        refine lv_aload_n hx hb dL_act_666 rfl (lv_at hl 5 rfl) ?_
        refine lv_iload hx hb dL_act_667 (lv_at hl 2 rfl) ?_
        refine xo_Vi (As := [.int mb]) (rest := []) hx hb hml hown hts hK hN hZ hP hD hS hA mb_X7_march mw_3_33 mw_3_34 mw_3_35 (k_X7_march l D cI cZ cS x0 xs xv ho0 ho1 pd0 pd1 m0 ts0 ts1 a ha sa cn cs sc tm tv pd sv (0 : Int32) old sz z mb hRS hI hold hszz ⟨hb74, by omega⟩) 0 7 rfl rfl (fun _ => xwW_f) (by decide) (by decide) rfl hl.1 rfl (Nat.le_of_ble_eq_true rfl) dL_act_669 ⟨Nat.zero_le _, Nat.zero_le _⟩ (fun r669 u669 H locs hw hP hD hS => ?_)
        obtain ⟨cq_669, zq_669, old1_669, sz1_669, cs1_669⟩ := u669
        have p669 : marchA z mb r669 ∧ ((marchC z mb ∧ Chg cn z old sz cs (walkZ mb.toInt.toNat z) cq_669 zq_669 old1_669 sz1_669 cs1_669) ∨ (¬ marchC z mb ∧ Same cn z old sz cs cq_669 zq_669 old1_669 sz1_669 cs1_669)) := hw
        have hP : va_P D vwCl (xwW cI cZ cS x0 xs xv ho0 ho1 pd0 pd1 m0 ts0 ts1 a ha sa cq_669 cs1_669 sc tm tv pd sv (0 : Int32) old1_669 sz1_669 zq_669) H := hP
        have hD : va_D A (xwW cI cZ cS x0 xs xv ho0 ho1 pd0 pd1 m0 ts0 ts1 a ha sa cq_669 cs1_669 sc tm tv pd sv (0 : Int32) old1_669 sz1_669 zq_669) := hD
        refine lv_istore (lv' := [(9, .int r669), (8, .int (z 174)), (7, .int 0), (5, .int mb), (4, .int y), (3, .int ho), (0, .ref x0), (1, .int p1), (2, .int p2), (6, .int g6)]) hx hb dL_act_672 hl (by decide) rfl (fun ls hl => ?_)
        refine lv_iload hx hb dL_act_674 (lv_at hl 9 rfl) ?_
        refine lv_if_ne (tgt := 695) hx hb dL_act_676 (by decide) (fun c676 => ?_) (fun c676 => ?_)
        · have t676 : ¬ g6.toInt = 0 := xi_ne rfl (by decide) c676
          have d676 : ¬ g6 = 0 := c676
          omega
        · have t676 : g6.toInt = 0 := xi_eq rfl (by decide) c676
          have d676 : g6 = 0 := c676
          have hr669 : r669.toInt = -5 := by rw [mc_not hmb hng p669.1]; decide
          obtain ⟨k1, k2, k3, k4, k5⟩ : cq_669 = cn ∧ zq_669 = z ∧ old1_669 = old ∧ sz1_669 = sz ∧ cs1_669 = cs := (p669.2.resolve_left (fun h9 => hng h9.1.2)).2
          rw [k1, k2, k3, k4, k5] at hP hD
          have hP : va_P D vwCl (xwW cI cZ cS x0 xs xv ho0 ho1 pd0 pd1 m0 ts0 ts1 a ha sa cn cs sc tm tv pd sv (0 : Int32) old sz z) H := hP
          have hD : va_D A (xwW cI cZ cS x0 xs xv ho0 ho1 pd0 pd1 m0 ts0 ts1 a ha sa cn cs sc tm tv pd sv (0 : Int32) old sz z) := hD
          refine lv_iload hx hb dL_act_679 (lv_at hl 0 rfl) ?_
          refine lv_bipush (v := (-5)) hx hb dL_act_681 (by decide) ?_
          refine lv_icmp_ne (tgt := 690) hx hb dL_act_683 (by decide) (fun c683 => ?_) (fun c683 => ?_)
          · have t683 : ¬ r669.toInt = -5 := xi_ne rfl (by decide) c683
            have d683 : ¬ r669 = (-5) := c683
            omega
          · have t683 : r669.toInt = -5 := xi_eq rfl (by decide) c683
            have d683 : r669 = (-5) := c683
            refine lv_iconst (v := 0) hx hb dL_act_686 (by decide) ?_
            refine lv_goto (tgt := 770) hx hb dL_act_687 (by decide) ?_
            exact xk_reti (cn, cs, tm, pd, old, sz, z) hx hb hr hlocks (xk_P hP (by rfl)) (by (try dsimp only); exact ⟨Or.inr ⟨rfl, hLI, rfl, rfl⟩, fun _ _ => rfl⟩) hS dL_act_770 hQ
      · have t645 : ¬ g6.toInt = 0 := xi_ne rfl (by decide) c645
        have d645 : ¬ g6 = 0 := c645
        have hgo : canZ z ∧ ¬ z 188 = 1 := hg6b.elim (fun h9 => h9.2) (fun h9 => absurd h9.1 (by omega))
        refine lv_aload_n hx hb dL_act_648 rfl (lv_at hl 3 rfl) ?_
        refine lv_iconst (v := 0) hx hb dL_act_649 (by decide) ?_
        refine xo_Vi (As := [.int 0]) (rest := []) hx hb hml hown hts hK hN hZ hP hD hS hA mb_X7_untilWalked mw_2_177 mw_2_178 mw_2_179 (k_X7_untilWalked l D cI cZ cS x0 xs xv ho0 ho1 pd0 pd1 m0 ts0 ts1 a ha sa cn cs sc tm tv pd sv (0 : Int32) old sz z (0 : Int32) hRS hI) 0 7 rfl rfl (fun _ => xwW_f) (by decide) (by decide) rfl hl.1 rfl (Nat.le_of_ble_eq_true rfl) dL_act_650 ⟨Nat.zero_le _, Nat.zero_le _⟩ (fun r650 u650 H locs hw hP hD hS => ?_)
        obtain ⟨tq_650, rfl⟩ : ∃ q, q = u650 := ⟨_, rfl⟩
        have p650 : r650 = untR z (0 : Int32) := hw
        have hP : va_P D vwCl (xwW cI cZ cS x0 xs xv ho0 ho1 pd0 pd1 m0 ts0 ts1 a ha sa cn cs sc tq_650 tv pd sv (0 : Int32) old sz z) H := hP
        have hD : va_D A (xwW cI cZ cS x0 xs xv ho0 ho1 pd0 pd1 m0 ts0 ts1 a ha sa cn cs sc tq_650 tv pd sv (0 : Int32) old sz z) := hD
        obtain ⟨-, hun2⟩ := until_is hI hIP hgo.1 ⟨hb74, by omega⟩ ⟨hb86, by omega⟩ p650
        have hun3 : (r650.toInt = -6 ∧ walkZ 5000 z 188 = 0) ∨ (walkZ 5000 z 188 = 1 ∧ r650.toInt = (walkN 5000 z : Int)) := hun2.elim Or.inl (fun h9 => Or.inr ⟨h9.1, h9.2.1⟩)
        refine lv_goto (tgt := 657) hx hb dL_act_653 (by decide) ?_
        refine lv_istore (lv' := [(7, .int r650), (5, .int mb), (4, .int y), (3, .int ho), (0, .ref x0), (1, .int p1), (2, .int p2), (6, .int g6)]) hx hb dL_act_657 hl (by decide) rfl (fun ls hl => ?_)
        refine lv_aload_n hx hb dL_act_659 rfl (lv_at hl 4 rfl) ?_
        refine lv_iconst (v := 0) hx hb dL_act_660 (by decide) ?_
        refine xo_Vi (As := [.int 0]) (rest := []) hx hb hml hown hts hK hN hZ hP hD hS hA mb_X7_walk mw_1_238 mw_1_239 mw_2_0 (k_X7_walk l D cI cZ cS x0 xs xv ho0 ho1 pd0 pd1 m0 ts0 ts1 a ha sa cn cs sc tq_650 tv pd sv (0 : Int32) old sz z (0 : Int32) hRS hI) 0 7 rfl rfl (fun _ => xwW_f) (by decide) (by decide) rfl hl.1 rfl (Nat.le_of_ble_eq_true rfl) dL_act_661 ⟨Nat.zero_le _, Nat.zero_le _⟩ (fun r661 u661 H locs hw hP hD hS => ?_)
        have p661 : r661 = walkR z (0 : Int32) := hw
        have hP : va_P D vwCl (xwW cI cZ cS x0 xs xv ho0 ho1 pd0 pd1 m0 ts0 ts1 a ha sa cn cs sc tq_650 tv pd sv (0 : Int32) old sz z) H := hP
        have hD : va_D A (xwW cI cZ cS x0 xs xv ho0 ho1 pd0 pd1 m0 ts0 ts1 a ha sa cn cs sc tq_650 tv pd sv (0 : Int32) old sz z) := hD
        refine xk_top (z := (z 174)) (by exact p661.trans (wk_0 _)) ?_
        refine lv_istore (lv' := [(8, .int (z 174)), (7, .int r650), (5, .int mb), (4, .int y), (3, .int ho), (0, .ref x0), (1, .int p1), (2, .int p2), (6, .int g6)]) hx hb dL_act_664 hl (by decide) rfl (fun ls hl => ?_)
        refine lv_aload_n hx hb dL_act_666 rfl (lv_at hl 5 rfl) ?_
        refine lv_iload hx hb dL_act_667 (lv_at hl 2 rfl) ?_
        refine xo_Vi (As := [.int mb]) (rest := []) hx hb hml hown hts hK hN hZ hP hD hS hA mb_X7_march mw_3_33 mw_3_34 mw_3_35 (k_X7_march l D cI cZ cS x0 xs xv ho0 ho1 pd0 pd1 m0 ts0 ts1 a ha sa cn cs sc tq_650 tv pd sv (0 : Int32) old sz z mb hRS hI hold hszz ⟨hb74, by omega⟩) 0 7 rfl rfl (fun _ => xwW_f) (by decide) (by decide) rfl hl.1 rfl (Nat.le_of_ble_eq_true rfl) dL_act_669 ⟨Nat.zero_le _, Nat.zero_le _⟩ (fun r669 u669 H locs hw hP hD hS => ?_)
        obtain ⟨cq_669, zq_669, old1_669, sz1_669, cs1_669⟩ := u669
        have p669 : marchA z mb r669 ∧ ((marchC z mb ∧ Chg cn z old sz cs (walkZ mb.toInt.toNat z) cq_669 zq_669 old1_669 sz1_669 cs1_669) ∨ (¬ marchC z mb ∧ Same cn z old sz cs cq_669 zq_669 old1_669 sz1_669 cs1_669)) := hw
        have hP : va_P D vwCl (xwW cI cZ cS x0 xs xv ho0 ho1 pd0 pd1 m0 ts0 ts1 a ha sa cq_669 cs1_669 sc tq_650 tv pd sv (0 : Int32) old1_669 sz1_669 zq_669) H := hP
        have hD : va_D A (xwW cI cZ cS x0 xs xv ho0 ho1 pd0 pd1 m0 ts0 ts1 a ha sa cq_669 cs1_669 sc tq_650 tv pd sv (0 : Int32) old1_669 sz1_669 zq_669) := hD
        refine lv_istore (lv' := [(9, .int r669), (8, .int (z 174)), (7, .int r650), (5, .int mb), (4, .int y), (3, .int ho), (0, .ref x0), (1, .int p1), (2, .int p2), (6, .int g6)]) hx hb dL_act_672 hl (by decide) rfl (fun ls hl => ?_)
        refine lv_iload hx hb dL_act_674 (lv_at hl 9 rfl) ?_
        refine lv_if_ne (tgt := 695) hx hb dL_act_676 (by decide) (fun c676 => ?_) (fun c676 => ?_)
        · have t676 : ¬ g6.toInt = 0 := xi_ne rfl (by decide) c676
          have d676 : ¬ g6 = 0 := c676
          have hmc : marchC z mb := ⟨hmb, hgo⟩
          have hr669 : r669.toInt = (walkN mb.toInt.toNat z : Int) := mc_is hmb hgo p669.1
          have htold := march_told hI hgo.1 hmb hr669 hun3
          obtain ⟨hLI2, hz2, hs2⟩ := act_march hLI (by omega) hmc ((p669.2.resolve_right (fun h9 => h9.1 hmc)).2)
          rw [hz2, hs2] at hP hD
          rw [hs2] at hLI2
          obtain ⟨z1, hz1⟩ : ∃ q, q = walkZ mb.toInt.toNat z := ⟨_, rfl⟩
          rw [← hz1] at hP hD hLI2
          obtain ⟨hRS2, hI2, -, ⟨hold2, hsz2, -⟩, -⟩ := id hLI2
          have htl : ∀ k : Nat, 190 ≤ k → z1 k = z k := fun k hk => by rw [hz1]; exact walk_hi _ z hk
          have hn9 := walkN_le mb.toInt.toNat z
          have hw174 := walk_174b mb.toInt.toNat z _ rfl hb74 (by omega)
          rw [← hz1] at htold hw174
          have hP : va_P D vwCl (xwW cI cZ cS x0 xs xv ho0 ho1 pd0 pd1 m0 ts0 ts1 a ha sa cq_669 cs1_669 sc tq_650 tv pd sv (0 : Int32) old1_669 (recS sz) z1) H := hP
          have hD : va_D A (xwW cI cZ cS x0 xs xv ho0 ho1 pd0 pd1 m0 ts0 ts1 a ha sa cq_669 cs1_669 sc tq_650 tv pd sv (0 : Int32) old1_669 (recS sz) z1) := hD
          refine lv_iload hx hb dL_act_695 (lv_at hl 0 rfl) ?_
          have J718 : ∀ (pv : Int32) (hpv : pv.toInt = r669.toInt) (H : Heap) (locs : List Loc), va_P D vwCl (xwW cI cZ cS x0 xs xv ho0 ho1 pd0 pd1 m0 ts0 ts1 a ha sa cq_669 cs1_669 sc tq_650 tv pd sv (0 : Int32) old1_669 (recS sz) z1) H → va_D A (xwW cI cZ cS x0 xs xv ho0 ho1 pd0 pd1 m0 ts0 ts1 a ha sa cq_669 cs1_669 sc tq_650 tv pd sv (0 : Int32) old1_669 (recS sz) z1) → va_S A s.heap H locs → ∀ ls : Array Slot, lv_has ls 10 [(9, .int r669), (8, .int (z 174)), (7, .int r650), (5, .int mb), (4, .int y), (3, .int ho), (0, .ref x0), (1, .int p1), (2, .int p2), (6, .int g6)] → W p l e ({ frames := 7, cells := 0, slots := 0, locals := 159 } : Room) s m args below meth c H locs 0 0 Q (F0 m 718 ls [.int pv, .int r669]) := by
            intro pv hpv H locs hP hD hS ls hl
            refine lv_icmp_ne (tgt := 768) hx hb dL_act_718 (by decide) (fun c718 => ?_) (fun c718 => ?_)
            · have t718 : ¬ r669.toInt = pv.toInt := xi_ne rfl rfl c718
              have d718 : ¬ r669 = pv := c718
              omega
            · have t718 : r669.toInt = pv.toInt := xi_eq rfl rfl c718
              have d718 : r669 = pv := c718
              refine lv_aload_n hx hb dL_act_721 rfl (lv_at hl 6 rfl) ?_
              refine lv_iconst (v := 0) hx hb dL_act_722 (by decide) ?_
              refine xo_Vi (As := [.int 0]) (rest := []) hx hb hml hown hts hK hN hZ hP hD hS hA mb_X7_walk mw_1_238 mw_1_239 mw_2_0 (k_X7_walk l D cI cZ cS x0 xs xv ho0 ho1 pd0 pd1 m0 ts0 ts1 a ha sa cq_669 cs1_669 sc tq_650 tv pd sv (0 : Int32) old1_669 (recS sz) z1 (0 : Int32) hRS2 hI2) 0 7 rfl rfl (fun _ => xwW_f) (by decide) (by decide) rfl hl.1 rfl (Nat.le_of_ble_eq_true rfl) dL_act_723 ⟨Nat.zero_le _, Nat.zero_le _⟩ (fun r723 u723 H locs hw hP hD hS => ?_)
              have p723 : r723 = walkR z1 (0 : Int32) := hw
              have hP : va_P D vwCl (xwW cI cZ cS x0 xs xv ho0 ho1 pd0 pd1 m0 ts0 ts1 a ha sa cq_669 cs1_669 sc tq_650 tv pd sv (0 : Int32) old1_669 (recS sz) z1) H := hP
              have hD : va_D A (xwW cI cZ cS x0 xs xv ho0 ho1 pd0 pd1 m0 ts0 ts1 a ha sa cq_669 cs1_669 sc tq_650 tv pd sv (0 : Int32) old1_669 (recS sz) z1) := hD
              refine xk_top (z := (z1 174)) (by exact p723.trans (wk_0 _)) ?_
              refine lv_iload hx hb dL_act_726 (lv_at hl 1 rfl) ?_
              refine lv_iload hx hb dL_act_728 (lv_at hl 0 rfl) ?_
              refine lv_iadd hx hb dL_act_730 ?_
              refine lv_topi (fun x730 e730 => ?_)
              have t730 : x730.toInt = ((z 174).toInt) + r669.toInt := by rw [e730]; exact xi_add rfl rfl (by omega) (by omega)
              refine lv_icmp_ne (tgt := 768) hx hb dL_act_731 (by decide) (fun c731 => ?_) (fun c731 => ?_)
              · have t731 : ¬ (z1 174).toInt = x730.toInt := xi_ne rfl rfl c731
                have d731 : ¬ (z1 174) = x730 := c731
                omega
              · have t731 : (z1 174).toInt = x730.toInt := xi_eq rfl rfl c731
                have d731 : (z1 174) = x730 := c731
                refine lv_aload_n hx hb dL_act_734 rfl (lv_at hl 6 rfl) ?_
                refine lv_bipush (v := 14) hx hb dL_act_735 (by decide) ?_
                refine xo_Vi (As := [.int 14]) (rest := []) hx hb hml hown hts hK hN hZ hP hD hS hA mb_X7_walk mw_1_238 mw_1_239 mw_2_0 (k_X7_walk l D cI cZ cS x0 xs xv ho0 ho1 pd0 pd1 m0 ts0 ts1 a ha sa cq_669 cs1_669 sc tq_650 tv pd sv (0 : Int32) old1_669 (recS sz) z1 (14 : Int32) hRS2 hI2) 0 7 rfl rfl (fun _ => xwW_f) (by decide) (by decide) rfl hl.1 rfl (Nat.le_of_ble_eq_true rfl) dL_act_737 ⟨Nat.zero_le _, Nat.zero_le _⟩ (fun r737 u737 H locs hw hP hD hS => ?_)
                have p737 : r737 = walkR z1 (14 : Int32) := hw
                have hP : va_P D vwCl (xwW cI cZ cS x0 xs xv ho0 ho1 pd0 pd1 m0 ts0 ts1 a ha sa cq_669 cs1_669 sc tq_650 tv pd sv (0 : Int32) old1_669 (recS sz) z1) H := hP
                have hD : va_D A (xwW cI cZ cS x0 xs xv ho0 ho1 pd0 pd1 m0 ts0 ts1 a ha sa cq_669 cs1_669 sc tq_650 tv pd sv (0 : Int32) old1_669 (recS sz) z1) := hD
                refine xk_top (z := (z1 188)) (by exact p737.trans (wk_14 _)) ?_
                refine lv_iconst (v := 1) hx hb dL_act_740 (by decide) ?_
                refine lv_icmp_ne (tgt := 748) hx hb dL_act_741 (by decide) (fun c741 => ?_) (fun c741 => ?_)
                · have t741 : ¬ (z1 188).toInt = 1 := xi_ne rfl (by decide) c741
                  have d741 : ¬ (z1 188) = 1 := c741
                  refine lv_iconst (v := 0) hx hb dL_act_748 (by decide) ?_
                  refine lv_iload hx hb dL_act_749 (lv_at hl 0 rfl) ?_
                  refine lv_iload hx hb dL_act_751 (lv_at hl 2 rfl) ?_
                  refine lv_icmp_ne (tgt := 760) hx hb dL_act_753 (by decide) (fun c753 => ?_) (fun c753 => ?_)
                  · have t753 : ¬ r669.toInt = r650.toInt := xi_ne rfl rfl c753
                    have d753 : ¬ r669 = r650 := c753
                    refine lv_iconst (v := 0) hx hb dL_act_760 (by decide) ?_
                    refine lv_icmp_ne (tgt := 768) hx hb dL_act_761 (by decide) (fun c761 => absurd (by decide) c761) (fun _ => ?_)
                    refine lv_iconst (v := 1) hx hb dL_act_764 (by decide) ?_
                    refine lv_goto (tgt := 770) hx hb dL_act_765 (by decide) ?_
                    exact xk_reti (cq_669, cs1_669, tq_650, pd, old1_669, (recS sz), z1) hx hb hr hlocks (xk_P hP (by rfl)) (by (try dsimp only); exact ⟨Or.inl ⟨rfl, hLI2, rfl⟩, htl⟩) hS dL_act_770 hQ
                  · have t753 : r669.toInt = r650.toInt := xi_eq rfl rfl c753
                    have d753 : r669 = r650 := c753
                    omega
                · have t741 : (z1 188).toInt = 1 := xi_eq rfl (by decide) c741
                  have d741 : (z1 188) = 1 := c741
                  refine lv_iconst (v := 1) hx hb dL_act_744 (by decide) ?_
                  refine lv_goto (tgt := 749) hx hb dL_act_745 (by decide) ?_
                  refine lv_iload hx hb dL_act_749 (lv_at hl 0 rfl) ?_
                  refine lv_iload hx hb dL_act_751 (lv_at hl 2 rfl) ?_
                  refine lv_icmp_ne (tgt := 760) hx hb dL_act_753 (by decide) (fun c753 => ?_) (fun c753 => ?_)
                  · have t753 : ¬ r669.toInt = r650.toInt := xi_ne rfl rfl c753
                    have d753 : ¬ r669 = r650 := c753
                    omega
                  · have t753 : r669.toInt = r650.toInt := xi_eq rfl rfl c753
                    have d753 : r669 = r650 := c753
                    refine lv_iconst (v := 1) hx hb dL_act_756 (by decide) ?_
                    refine lv_goto (tgt := 761) hx hb dL_act_757 (by decide) ?_
                    refine lv_icmp_ne (tgt := 768) hx hb dL_act_761 (by decide) (fun c761 => absurd (by decide) c761) (fun _ => ?_)
                    refine lv_iconst (v := 1) hx hb dL_act_764 (by decide) ?_
                    refine lv_goto (tgt := 770) hx hb dL_act_765 (by decide) ?_
                    exact xk_reti (cq_669, cs1_669, tq_650, pd, old1_669, (recS sz), z1) hx hb hr hlocks (xk_P hP (by rfl)) (by (try dsimp only); exact ⟨Or.inl ⟨rfl, hLI2, rfl⟩, htl⟩) hS dL_act_770 hQ
          refine lv_iload hx hb dL_act_697 (lv_at hl 2 rfl) ?_
          refine lv_bipush (v := (-6)) hx hb dL_act_699 (by decide) ?_
          refine lv_icmp_eq (tgt := 711) hx hb dL_act_701 (by decide) (fun c701 => ?_) (fun c701 => ?_)
          · have t701 : r650.toInt = -6 := xi_eq rfl (by decide) c701
            have d701 : r650 = (-6) := c701
            refine lv_iload hx hb dL_act_711 (lv_at hl 3 rfl) ?_
            refine lv_goto (tgt := 718) hx hb dL_act_713 (by decide) ?_
            exact J718 mb (by first | omega | assumption) _ _ hP hD hS ls (lv_sub hl [0, 1, 2, 3, 4, 5, 6, 7, 8, 9] rfl)
          · have t701 : ¬ r650.toInt = -6 := xi_ne rfl (by decide) c701
            have d701 : ¬ r650 = (-6) := c701
            refine lv_iload hx hb dL_act_704 (lv_at hl 2 rfl) ?_
            refine lv_iload hx hb dL_act_706 (lv_at hl 3 rfl) ?_
            refine lv_icmp_le (tgt := 716) hx hb dL_act_708 (by decide) (fun c708 => ?_) (fun c708 => ?_)
            · have t708 : r650.toInt ≤ mb.toInt := xi_le rfl rfl c708
              refine lv_iload hx hb dL_act_716 (lv_at hl 2 rfl) ?_
              exact J718 r650 (by first | omega | assumption) _ _ hP hD hS ls (lv_sub hl [0, 1, 2, 3, 4, 5, 6, 7, 8, 9] rfl)
            · have t708 : mb.toInt < r650.toInt := xi_nle rfl rfl c708
              refine lv_iload hx hb dL_act_711 (lv_at hl 3 rfl) ?_
              refine lv_goto (tgt := 718) hx hb dL_act_713 (by decide) ?_
              exact J718 mb (by first | omega | assumption) _ _ hP hD hS ls (lv_sub hl [0, 1, 2, 3, 4, 5, 6, 7, 8, 9] rfl)
        · have t676 : g6.toInt = 0 := xi_eq rfl (by decide) c676
          have d676 : g6 = 0 := c676
          omega
    refine lv_aload_n hx hb dL_act_609 rfl (lv_at hl 3 rfl) ?_
    refine lv_bipush (v := 6) hx hb dL_act_610 (by decide) ?_
    refine xo_Vi (As := [.int 6]) (rest := []) hx hb hml hown hts hK hN hZ hP hD hS hA mb_X7_count mw_2_6 mw_2_7 mw_2_8 (k_X7_count l D cI cZ cS x0 xs xv ho0 ho1 pd0 pd1 m0 ts0 ts1 a ha sa cn cs sc tm tv pd sv (0 : Int32) old sz z (6 : Int32) hRS hI) 0 7 rfl rfl (fun _ => xwW_f) (by decide) (by decide) rfl hl.1 rfl (Nat.le_of_ble_eq_true rfl) dL_act_612 ⟨Nat.zero_le _, Nat.zero_le _⟩ (fun r612 u612 H locs hw hP hD hS => ?_)
    have p612 : r612 = cntR z (0 : Int32) sz (6 : Int32) := hw
    have hP : va_P D vwCl (xwW cI cZ cS x0 xs xv ho0 ho1 pd0 pd1 m0 ts0 ts1 a ha sa cn cs sc tm tv pd sv (0 : Int32) old sz z) H := hP
    have hD : va_D A (xwW cI cZ cS x0 xs xv ho0 ho1 pd0 pd1 m0 ts0 ts1 a ha sa cn cs sc tm tv pd sv (0 : Int32) old sz z) := hD
    refine xk_top (z := (z 6)) (by exact p612.trans (ct_6 _ _ _)) ?_
    refine lv_if_le (tgt := 640) hx hb dL_act_615 (by decide) (fun c615 => ?_) (fun c615 => ?_)
    · have t615 : (z 6).toInt ≤ 0 := xi_le rfl (by decide) c615
      refine lv_iconst (v := 0) hx hb dL_act_640 (by decide) ?_
      refine lv_istore (lv' := [(6, .int 0), (5, .int mb), (4, .int y), (3, .int ho), (0, .ref x0), (1, .int p1), (2, .int p2)]) hx hb dL_act_641 hl (by decide) rfl (fun ls hl => ?_)
      exact J643 (0 : Int32) (by exact Or.inr ⟨by decide, fun h9 => by have h8 := h9.1.1; omega⟩) _ _ hP hD hS ls (lv_sub hl [1, 2, 3, 4, 5, 6, 0] rfl)
    · have t615 : 0 < (z 6).toInt := xi_nle rfl (by decide) c615
      refine lv_aload_n hx hb dL_act_618 rfl (lv_at hl 3 rfl) ?_
      refine lv_bipush (v := 9) hx hb dL_act_619 (by decide) ?_
      refine xo_Vi (As := [.int 9]) (rest := []) hx hb hml hown hts hK hN hZ hP hD hS hA mb_X7_count mw_2_6 mw_2_7 mw_2_8 (k_X7_count l D cI cZ cS x0 xs xv ho0 ho1 pd0 pd1 m0 ts0 ts1 a ha sa cn cs sc tm tv pd sv (0 : Int32) old sz z (9 : Int32) hRS hI) 0 7 rfl rfl (fun _ => xwW_f) (by decide) (by decide) rfl hl.1 rfl (Nat.le_of_ble_eq_true rfl) dL_act_621 ⟨Nat.zero_le _, Nat.zero_le _⟩ (fun r621 u621 H locs hw hP hD hS => ?_)
      have p621 : r621 = cntR z (0 : Int32) sz (9 : Int32) := hw
      have hP : va_P D vwCl (xwW cI cZ cS x0 xs xv ho0 ho1 pd0 pd1 m0 ts0 ts1 a ha sa cn cs sc tm tv pd sv (0 : Int32) old sz z) H := hP
      have hD : va_D A (xwW cI cZ cS x0 xs xv ho0 ho1 pd0 pd1 m0 ts0 ts1 a ha sa cn cs sc tm tv pd sv (0 : Int32) old sz z) := hD
      refine xk_top (z := (z 7)) (by exact p621.trans (ct_9 _ _ _)) ?_
      refine lv_if_le (tgt := 640) hx hb dL_act_624 (by decide) (fun c624 => ?_) (fun c624 => ?_)
      · have t624 : (z 7).toInt ≤ 0 := xi_le rfl (by decide) c624
        refine lv_iconst (v := 0) hx hb dL_act_640 (by decide) ?_
        refine lv_istore (lv' := [(6, .int 0), (5, .int mb), (4, .int y), (3, .int ho), (0, .ref x0), (1, .int p1), (2, .int p2)]) hx hb dL_act_641 hl (by decide) rfl (fun ls hl => ?_)
        exact J643 (0 : Int32) (by exact Or.inr ⟨by decide, fun h9 => by have h8 := h9.1.2; omega⟩) _ _ hP hD hS ls (lv_sub hl [1, 2, 3, 4, 5, 6, 0] rfl)
      · have t624 : 0 < (z 7).toInt := xi_nle rfl (by decide) c624
        refine lv_aload_n hx hb dL_act_627 rfl (lv_at hl 3 rfl) ?_
        refine lv_bipush (v := 14) hx hb dL_act_628 (by decide) ?_
        refine xo_Vi (As := [.int 14]) (rest := []) hx hb hml hown hts hK hN hZ hP hD hS hA mb_X7_walk mw_1_238 mw_1_239 mw_2_0 (k_X7_walk l D cI cZ cS x0 xs xv ho0 ho1 pd0 pd1 m0 ts0 ts1 a ha sa cn cs sc tm tv pd sv (0 : Int32) old sz z (14 : Int32) hRS hI) 0 7 rfl rfl (fun _ => xwW_f) (by decide) (by decide) rfl hl.1 rfl (Nat.le_of_ble_eq_true rfl) dL_act_630 ⟨Nat.zero_le _, Nat.zero_le _⟩ (fun r630 u630 H locs hw hP hD hS => ?_)
        have p630 : r630 = walkR z (14 : Int32) := hw
        have hP : va_P D vwCl (xwW cI cZ cS x0 xs xv ho0 ho1 pd0 pd1 m0 ts0 ts1 a ha sa cn cs sc tm tv pd sv (0 : Int32) old sz z) H := hP
        have hD : va_D A (xwW cI cZ cS x0 xs xv ho0 ho1 pd0 pd1 m0 ts0 ts1 a ha sa cn cs sc tm tv pd sv (0 : Int32) old sz z) := hD
        refine xk_top (z := (z 188)) (by exact p630.trans (wk_14 _)) ?_
        refine lv_if_ne (tgt := 640) hx hb dL_act_633 (by decide) (fun c633 => ?_) (fun c633 => ?_)
        · have t633 : ¬ (z 188).toInt = 0 := xi_ne rfl (by decide) c633
          have d633 : ¬ (z 188) = 0 := c633
          refine lv_iconst (v := 0) hx hb dL_act_640 (by decide) ?_
          refine lv_istore (lv' := [(6, .int 0), (5, .int mb), (4, .int y), (3, .int ho), (0, .ref x0), (1, .int p1), (2, .int p2)]) hx hb dL_act_641 hl (by decide) rfl (fun ls hl => ?_)
          exact J643 (0 : Int32) (by exact Or.inr ⟨by decide, fun h9 => (walked01 hI).elim (fun h8 => t633 (by rw [h8]; decide)) (fun h8 => h9.2 h8)⟩) _ _ hP hD hS ls (lv_sub hl [1, 2, 3, 4, 5, 6, 0] rfl)
        · have t633 : (z 188).toInt = 0 := xi_eq rfl (by decide) c633
          have d633 : (z 188) = 0 := c633
          refine lv_iconst (v := 1) hx hb dL_act_636 (by decide) ?_
          refine lv_goto (tgt := 641) hx hb dL_act_637 (by decide) ?_
          refine lv_istore (lv' := [(6, .int 1), (5, .int mb), (4, .int y), (3, .int ho), (0, .ref x0), (1, .int p1), (2, .int p2)]) hx hb dL_act_641 hl (by decide) rfl (fun ls hl => ?_)
          exact J643 (1 : Int32) (by exact Or.inl ⟨by decide, ⟨by omega, by omega⟩, fun h9 => by rw [h9] at t633; exact absurd t633 (by decide)⟩) _ _ hP hD hS ls (lv_sub hl [1, 2, 3, 4, 5, 6, 0] rfl)
  refine lv_iload hx hb dL_act_578 (lv_at hl 0 rfl) ?_
  refine lv_iconst (v := 4) hx hb dL_act_580 (by decide) ?_
  refine lv_irem hx hb dL_act_581 (by decide) ?_
  refine lv_topi (fun x581 e581 => ?_)
  have t581 : x581.toInt = y.toInt % 4 := by rw [e581]; exact xi_rem rfl (by decide) (by omega) (by omega)
  refine lv_if_ne (tgt := 598) hx hb dL_act_582 (by decide) (fun c582 => ?_) (fun c582 => ?_)
  · have t582 : ¬ x581.toInt = 0 := xi_ne rfl (by decide) c582
    have d582 : ¬ x581 = 0 := c582
    refine lv_iconst (v := 1) hx hb dL_act_598 (by decide) ?_
    refine lv_iload hx hb dL_act_599 (lv_at hl 0 rfl) ?_
    refine lv_iconst (v := 4) hx hb dL_act_601 (by decide) ?_
    refine lv_idiv hx hb dL_act_602 (by decide) ?_
    refine lv_topi (fun x602 e602 => ?_)
    have t602 : x602.toInt = y.toInt / 4 := by rw [e602]; exact xi_div rfl (by decide) (by omega) (by omega)
    refine lv_bipush (v := 25) hx hb dL_act_603 (by decide) ?_
    refine lv_irem hx hb dL_act_605 (by decide) ?_
    refine lv_topi (fun x605 e605 => ?_)
    have t605 : x605.toInt = x602.toInt % 25 := by rw [e605]; exact xi_rem rfl (by decide) (by omega) (by omega)
    refine lv_iadd hx hb dL_act_606 ?_
    refine lv_topi (fun x606 e606 => ?_)
    have t606 : x606.toInt = 1 + x605.toInt := by rw [e606]; exact xi_add (by decide) rfl (by omega) (by omega)
    exact J607 x606 (by first | omega | assumption) _ _ hP hD hS ls (lv_sub hl [0, 1, 2, 3, 4] rfl)
  · have t582 : x581.toInt = 0 := xi_eq rfl (by decide) c582
    have d582 : x581 = 0 := c582
    refine lv_iconst (v := 1) hx hb dL_act_585 (by decide) ?_
    refine lv_iload hx hb dL_act_586 (lv_at hl 0 rfl) ?_
    refine lv_iconst (v := 4) hx hb dL_act_588 (by decide) ?_
    refine lv_idiv hx hb dL_act_589 (by decide) ?_
    refine lv_topi (fun x589 e589 => ?_)
    have t589 : x589.toInt = y.toInt / 4 := by rw [e589]; exact xi_div rfl (by decide) (by omega) (by omega)
    refine lv_sipush (v := 500) hx hb dL_act_590 (by decide) ?_
    refine lv_irem hx hb dL_act_593 (by decide) ?_
    refine lv_topi (fun x593 e593 => ?_)
    have t593 : x593.toInt = x589.toInt % 500 := by rw [e593]; exact xi_rem rfl (by decide) (by omega) (by omega)
    refine lv_iadd hx hb dL_act_594 ?_
    refine lv_topi (fun x594 e594 => ?_)
    have t594 : x594.toInt = 1 + x593.toInt := by rw [e594]; exact xi_add (by decide) rfl (by omega) (by omega)
    refine lv_goto (tgt := 607) hx hb dL_act_595 (by decide) ?_
    exact J607 x594 (by first | omega | assumption) _ _ hP hD hS ls (lv_sub hl [0, 1, 2, 3, 4] rfl)

set_option maxHeartbeats 4000000 in
set_option maxRecDepth 100000 in
theorem la_set {p : Program} {e : Env} {s : State} {m : MethodId} {below : List Frame} {meth : Method} {c : Code} (l : Launch) {args : Array Value} {A : Nat → Prop} {Q : State → Prop} {D : va_G} {cI cZ cS : ClassId} (x0 : Nat) (xs : Nat) (xv : Nat) (ho0 : Nat) (ho1 : Nat) (pd0 : Nat) (pd1 : Nat) (m0 : Nat) (ts0 : Nat) (ts1 : Nat) (a : Nat → Nat) (ha : Nat → Nat → Nat) (sa : Nat → Nat → Nat) (cn : Nat → Nat → Int32) (cs : Nat → Nat → Nat → Int32) (sc : Nat → Nat → Nat → Int32) (tm : Nat → Int32) (tv : Nat → Int32) (pd : Nat → Int32) (sv : Nat → Int32) (old : Int32) (sz : Int32) (z : Nat → Int32) (past : Nat → Int32) (slots : Nat → Int32) (bd : Int) (p1 p2 ho y : Int32) (hLI : LI bd cn cs sc sv (0 : Int32) old sz z past slots) (hbd : bd ≤ 99000) (hx : p.tables.exec = Jvm.exec) (hb : c.code = cL_act) (hr : meth.sig.returnType = (some .int)) (hts : ∀ w ∈ Cond.code yL_act cL_act 10 (some .int) :: wsL_law, w.before args s = true) (hown : s.vm.findClass yL_act.cls = some m.cls) (hlocks : meth.locks = false) (hml : c.maxLocals = 10) (hK : va_K D vwCl (xTy cI cZ cS) s) (hA : ∀ q : Nat, s.heap.size ≤ q → A q) (hN : xN s) (hZ : xZ A s) (hQ : Q = MQ below (va_Qi (fun (r : Int32) (u : (Nat → Nat → Int32) × (Nat → Nat → Nat → Int32) × (Nat → Int32) × (Nat → Int32) × (Int32) × (Int32) × (Nat → Int32)) => ((r = 1 ∧ LI (bd + 500) u.1 u.2.1 sc sv (0 : Int32) u.2.2.2.2.1 u.2.2.2.2.2.1 u.2.2.2.2.2.2 (recP z past sz) slots ∧ u.2.2.2.2.2.1 = recS sz) ∨ (r = 0 ∧ LI bd u.1 u.2.1 sc sv (0 : Int32) u.2.2.2.2.1 u.2.2.2.2.2.1 u.2.2.2.2.2.2 past slots ∧ u.2.2.2.2.2.2 = z ∧ u.2.2.2.2.2.1 = sz)) ∧ (∀ k : Nat, 190 ≤ k → u.2.2.2.2.2.2 k = z k)) (fun u t => va_P D vwCl ((fun (u : (Nat → Nat → Int32) × (Nat → Nat → Nat → Int32) × (Nat → Int32) × (Nat → Int32) × (Int32) × (Int32) × (Nat → Int32)) => (xwW cI cZ cS x0 xs xv ho0 ho1 pd0 pd1 m0 ts0 ts1 a ha sa u.1 u.2.1 sc u.2.2.1 tv u.2.2.2.1 sv (0 : Int32) u.2.2.2.2.1 u.2.2.2.2.2.1 u.2.2.2.2.2.2)) u) t.heap) A) args s 0 0 A) (hy : 0 ≤ y.toInt) (H : Heap) (locs : List Loc) (hP : va_P D vwCl (xwW cI cZ cS x0 xs xv ho0 ho1 pd0 pd1 m0 ts0 ts1 a ha sa cn cs sc tm tv pd sv (0 : Int32) old sz z) H) (hD : va_D A (xwW cI cZ cS x0 xs xv ho0 ho1 pd0 pd1 m0 ts0 ts1 a ha sa cn cs sc tm tv pd sv (0 : Int32) old sz z)) (hS : va_S A s.heap H locs) (ls : Array Slot) (hl : lv_has ls 10 [(4, .int y), (3, .int ho), (0, .ref x0), (1, .int p1), (2, .int p2)]) : W p l e ({ frames := 7, cells := 0, slots := 0, locals := 159 } : Room) s m args below meth c H locs 0 0 Q (F0 m 771 ls []) := by
  obtain ⟨hRS, hI, hBD, ⟨hold, hszz, hlnn⟩, hmcs, hmsc, hRH, hRL⟩ := id hLI
  obtain ⟨⟨hb74, hb74u⟩, ⟨hb86, hb86u⟩, hIP⟩ := id hBD
  have hs0 : (1 ≤ (z 0).toInt ∧ (z 0).toInt ≤ 9) ∧ (0 ≤ (z 1).toInt ∧ (z 1).toInt ≤ 9) ∧ (1 ≤ (z 2).toInt ∧ (z 2).toInt ≤ 9) ∧ (1 ≤ (z 3).toInt ∧ (z 3).toInt ≤ 20) ∧ (2 ≤ (z 5).toInt ∧ (z 5).toInt ≤ 9) := hI.1
  have hg6 : 0 ≤ (z 6).toInt ∧ (z 6).toInt ≤ 10 := hI.2.1.1
  have hr7 : 0 ≤ (z 7).toInt ∧ (z 7).toInt ≤ 12 := hI.2.2.1.1
  have z0 : (0 : Int32).toInt = 0 := by decide
  refine lv_iload hx hb dL_act_771 (lv_at hl 0 rfl) ?_
  refine lv_bipush (v := 6) hx hb dL_act_773 (by decide) ?_
  refine lv_irem hx hb dL_act_775 (by decide) ?_
  refine lv_topi (fun x775 e775 => ?_)
  have t775 : x775.toInt = y.toInt % 6 := by rw [e775]; exact xi_rem rfl (by decide) (by omega) (by omega)
  refine lv_istore (lv' := [(5, .int x775), (4, .int y), (3, .int ho), (0, .ref x0), (1, .int p1), (2, .int p2)]) hx hb dL_act_776 hl (by decide) rfl (fun ls hl => ?_)
  refine lv_iload hx hb dL_act_778 (lv_at hl 1 rfl) ?_
  refine lv_bipush (v := 6) hx hb dL_act_780 (by decide) ?_
  refine lv_idiv hx hb dL_act_782 (by decide) ?_
  refine lv_topi (fun x782 e782 => ?_)
  have t782 : x782.toInt = y.toInt / 6 := by rw [e782]; exact xi_div rfl (by decide) (by omega) (by omega)
  refine lv_istore (lv' := [(6, .int x782), (5, .int x775), (4, .int y), (3, .int ho), (0, .ref x0), (1, .int p1), (2, .int p2)]) hx hb dL_act_783 hl (by decide) rfl (fun ls hl => ?_)
  have J859 : ∀ (vl : Int32) (hsv : setV x775 vl) (H : Heap) (locs : List Loc), va_P D vwCl (xwW cI cZ cS x0 xs xv ho0 ho1 pd0 pd1 m0 ts0 ts1 a ha sa cn cs sc tm tv pd sv (0 : Int32) old sz z) H → va_D A (xwW cI cZ cS x0 xs xv ho0 ho1 pd0 pd1 m0 ts0 ts1 a ha sa cn cs sc tm tv pd sv (0 : Int32) old sz z) → va_S A s.heap H locs → ∀ ls : Array Slot, lv_has ls 10 [(6, .int x782), (5, .int x775), (4, .int y), (3, .int ho), (0, .ref x0), (1, .int p1), (2, .int p2)] → W p l e ({ frames := 7, cells := 0, slots := 0, locals := 159 } : Room) s m args below meth c H locs 0 0 Q (F0 m 859 ls [.int vl]) := by
    intro vl hsv H locs hP hD hS ls hl
    refine lv_istore (lv' := [(7, .int vl), (6, .int x782), (5, .int x775), (4, .int y), (3, .int ho), (0, .ref x0), (1, .int p1), (2, .int p2)]) hx hb dL_act_859 hl (by decide) rfl (fun ls hl => ?_)
    refine lv_aload_n hx hb dL_act_861 rfl (lv_at hl 5 rfl) ?_
    refine lv_iload hx hb dL_act_862 (lv_at hl 2 rfl) ?_
    refine xo_Vi (As := [.int x775]) (rest := []) hx hb hml hown hts hK hN hZ hP hD hS hA mb_X7_count mw_2_6 mw_2_7 mw_2_8 (k_X7_count l D cI cZ cS x0 xs xv ho0 ho1 pd0 pd1 m0 ts0 ts1 a ha sa cn cs sc tm tv pd sv (0 : Int32) old sz z x775 hRS hI) 0 7 rfl rfl (fun _ => xwW_f) (by decide) (by decide) rfl hl.1 rfl (Nat.le_of_ble_eq_true rfl) dL_act_864 ⟨Nat.zero_le _, Nat.zero_le _⟩ (fun r864 u864 H locs hw hP hD hS => ?_)
    have p864 : r864 = cntR z (0 : Int32) sz x775 := hw
    have hP : va_P D vwCl (xwW cI cZ cS x0 xs xv ho0 ho1 pd0 pd1 m0 ts0 ts1 a ha sa cn cs sc tm tv pd sv (0 : Int32) old sz z) H := hP
    have hD : va_D A (xwW cI cZ cS x0 xs xv ho0 ho1 pd0 pd1 m0 ts0 ts1 a ha sa cn cs sc tm tv pd sv (0 : Int32) old sz z) := hD
    refine xk_top (z := (z x775.toInt.toNat)) (by exact p864.trans (ct_lo _ _ _ (by omega))) ?_
    refine lv_istore (lv' := [(8, .int (z x775.toInt.toNat)), (7, .int vl), (6, .int x782), (5, .int x775), (4, .int y), (3, .int ho), (0, .ref x0), (1, .int p1), (2, .int p2)]) hx hb dL_act_867 hl (by decide) rfl (fun ls hl => ?_)
    refine lv_aload_n hx hb dL_act_869 rfl (lv_at hl 6 rfl) ?_
    refine lv_iload hx hb dL_act_870 (lv_at hl 3 rfl) ?_
    refine lv_iload hx hb dL_act_872 (lv_at hl 1 rfl) ?_
    refine xo_Vi (As := [.int x775, .int vl]) (rest := []) hx hb hml hown hts hK hN hZ hP hD hS hA mb_X7_set mw_3_8 mw_3_9 mw_3_10 (k_X7_set l D cI cZ cS x0 xs xv ho0 ho1 pd0 pd1 m0 ts0 ts1 a ha sa cn cs sc tm tv pd sv (0 : Int32) old sz z x775 vl hRS hI hold hszz) 0 7 rfl rfl (fun _ => xwW_f) (by decide) (by decide) rfl hl.1 rfl (Nat.le_of_ble_eq_true rfl) dL_act_874 ⟨Nat.zero_le _, Nat.zero_le _⟩ (fun r874 u874 H locs hw hP hD hS => ?_)
    obtain ⟨cq_874, zq_874, old1_874, sz1_874, cs1_874⟩ := u874
    have p874 : (setV x775 vl ∧ r874 = z x775.toInt.toNat ∧ Chg cn z old sz cs (beginZ (upd z x775.toInt.toNat vl)) cq_874 zq_874 old1_874 sz1_874 cs1_874) ∨ (¬ setV x775 vl ∧ r874 = -2 ∧ Same cn z old sz cs cq_874 zq_874 old1_874 sz1_874 cs1_874) := hw
    have hP : va_P D vwCl (xwW cI cZ cS x0 xs xv ho0 ho1 pd0 pd1 m0 ts0 ts1 a ha sa cq_874 cs1_874 sc tm tv pd sv (0 : Int32) old1_874 sz1_874 zq_874) H := hP
    have hD : va_D A (xwW cI cZ cS x0 xs xv ho0 ho1 pd0 pd1 m0 ts0 ts1 a ha sa cq_874 cs1_874 sc tm tv pd sv (0 : Int32) old1_874 sz1_874 zq_874) := hD
    have hr874 : r874 = z x775.toInt.toNat := (p874.resolve_right (fun h9 => h9.1 hsv)).2.1
    obtain ⟨hLI2, hz2, hs2⟩ := act_set hLI hsv ((p874.resolve_right (fun h9 => h9.1 hsv)).2.2)
    rw [hz2, hs2] at hP hD
    rw [hs2] at hLI2
    obtain ⟨z1, hz1⟩ : ∃ q, q = beginZ (upd z x775.toInt.toNat vl) := ⟨_, rfl⟩
    rw [← hz1] at hP hD hLI2
    obtain ⟨hRS2, hI2, -, ⟨hold2, hsz2, -⟩, -⟩ := id hLI2
    have hbg1 : begP0 z1 := by rw [hz1]; exact begP_b _
    have h811 : z1 181 = z1 4 := by rw [hz1, begin_181, beginZ_lo _ (by omega)]
    have htl : ∀ k : Nat, 190 ≤ k → z1 k = z k := fun k hk => by rw [hz1]; exact set_hi (by omega) hk
    have hat : z1 x775.toInt.toNat = vl := by rw [hz1]; exact set_at (by omega)
    have hP : va_P D vwCl (xwW cI cZ cS x0 xs xv ho0 ho1 pd0 pd1 m0 ts0 ts1 a ha sa cq_874 cs1_874 sc tm tv pd sv (0 : Int32) old1_874 (recS sz) z1) H := hP
    have hD : va_D A (xwW cI cZ cS x0 xs xv ho0 ho1 pd0 pd1 m0 ts0 ts1 a ha sa cq_874 cs1_874 sc tm tv pd sv (0 : Int32) old1_874 (recS sz) z1) := hD
    refine lv_iload hx hb dL_act_877 (lv_at hl 0 rfl) ?_
    refine lv_icmp_ne (tgt := 904) hx hb dL_act_879 (by decide) (fun c879 => ?_) (fun c879 => ?_)
    · have t879 : ¬ r874.toInt = (z x775.toInt.toNat).toInt := xi_ne rfl rfl c879
      have d879 : ¬ r874 = (z x775.toInt.toNat) := c879
      exact absurd hr874 c879
    · have t879 : r874.toInt = (z x775.toInt.toNat).toInt := xi_eq rfl rfl c879
      have d879 : r874 = (z x775.toInt.toNat) := c879
      refine lv_aload_n hx hb dL_act_882 rfl (lv_at hl 6 rfl) ?_
      refine lv_iload hx hb dL_act_883 (lv_at hl 3 rfl) ?_
      refine xo_Vi (As := [.int x775]) (rest := []) hx hb hml hown hts hK hN hZ hP hD hS hA mb_X7_count mw_2_6 mw_2_7 mw_2_8 (k_X7_count l D cI cZ cS x0 xs xv ho0 ho1 pd0 pd1 m0 ts0 ts1 a ha sa cq_874 cs1_874 sc tm tv pd sv (0 : Int32) old1_874 (recS sz) z1 x775 hRS2 hI2) 0 7 rfl rfl (fun _ => xwW_f) (by decide) (by decide) rfl hl.1 rfl (Nat.le_of_ble_eq_true rfl) dL_act_885 ⟨Nat.zero_le _, Nat.zero_le _⟩ (fun r885 u885 H locs hw hP hD hS => ?_)
      have p885 : r885 = cntR z1 (0 : Int32) (recS sz) x775 := hw
      have hP : va_P D vwCl (xwW cI cZ cS x0 xs xv ho0 ho1 pd0 pd1 m0 ts0 ts1 a ha sa cq_874 cs1_874 sc tm tv pd sv (0 : Int32) old1_874 (recS sz) z1) H := hP
      have hD : va_D A (xwW cI cZ cS x0 xs xv ho0 ho1 pd0 pd1 m0 ts0 ts1 a ha sa cq_874 cs1_874 sc tm tv pd sv (0 : Int32) old1_874 (recS sz) z1) := hD
      refine xk_top (z := vl) (by exact (p885.trans (ct_lo _ _ _ (by omega))).trans hat) ?_
      refine lv_iload hx hb dL_act_888 (lv_at hl 1 rfl) ?_
      refine lv_icmp_ne (tgt := 904) hx hb dL_act_890 (by decide) (fun c890 => ?_) (fun c890 => ?_)
      · have t890 : ¬ vl.toInt = vl.toInt := xi_ne rfl rfl c890
        have d890 : ¬ vl = vl := c890
        exact absurd rfl c890
      · have t890 : vl.toInt = vl.toInt := xi_eq rfl rfl c890
        have d890 : vl = vl := c890
        refine lv_aload_n hx hb dL_act_893 rfl (lv_at hl 6 rfl) ?_
        refine xo_Si (As := [.ref x0]) (rest := []) hx hb hml hown hts hK hN hZ hP hD hS hA mb_L_isBegun mw_3_81 mw_3_82 (c_L_isBegun l D cI cZ cS x0 xs xv ho0 ho1 pd0 pd1 m0 ts0 ts1 a ha sa cq_874 cs1_874 sc tm tv pd sv (0 : Int32) old1_874 (recS sz) z1 (recP z past sz) slots (bd + 500) hLI2 (by first | omega | assumption) (by first | omega | assumption) (by first | omega | assumption)) (fun _ => xwW_f) (by decide) (by decide) rfl hl.1 rfl (Nat.le_of_ble_eq_true rfl) dL_act_894 ⟨Nat.zero_le _, Nat.zero_le _⟩ (fun r894 u894 H locs hw hP hD hS => ?_)
        have p894 : r894 = (1 : Int32) := hw
        have hP : va_P D vwCl (xwW cI cZ cS x0 xs xv ho0 ho1 pd0 pd1 m0 ts0 ts1 a ha sa cq_874 cs1_874 sc tm tv pd sv (0 : Int32) old1_874 (recS sz) z1) H := hP
        have hD : va_D A (xwW cI cZ cS x0 xs xv ho0 ho1 pd0 pd1 m0 ts0 ts1 a ha sa cq_874 cs1_874 sc tm tv pd sv (0 : Int32) old1_874 (recS sz) z1) := hD
        refine xk_top (z := 1) (by exact p894) ?_
        refine lv_if_eq (tgt := 904) hx hb dL_act_897 (by decide) (fun c897 => absurd c897 (by decide)) (fun _ => ?_)
        refine lv_iconst (v := 1) hx hb dL_act_900 (by decide) ?_
        refine lv_goto (tgt := 906) hx hb dL_act_901 (by decide) ?_
        exact xk_reti (cq_874, cs1_874, tm, pd, old1_874, (recS sz), z1) hx hb hr hlocks (xk_P hP (by rfl)) (by (try dsimp only); exact ⟨Or.inl ⟨rfl, hLI2, rfl⟩, htl⟩) hS dL_act_906 hQ
  refine lv_iload hx hb dL_act_785 (lv_at hl 1 rfl) ?_
  refine lv_if_eq (tgt := 796) hx hb dL_act_787 (by decide) (fun c787 => ?_) (fun c787 => ?_)
  · have t787 : x775.toInt = 0 := xi_eq rfl (by decide) c787
    have d787 : x775 = 0 := c787
    refine lv_iconst (v := 1) hx hb dL_act_796 (by decide) ?_
    refine lv_iload hx hb dL_act_797 (lv_at hl 0 rfl) ?_
    refine lv_bipush (v := 9) hx hb dL_act_799 (by decide) ?_
    refine lv_irem hx hb dL_act_801 (by decide) ?_
    refine lv_topi (fun x801 e801 => ?_)
    have t801 : x801.toInt = x782.toInt % 9 := by rw [e801]; exact xi_rem rfl (by decide) (by omega) (by omega)
    refine lv_iadd hx hb dL_act_802 ?_
    refine lv_topi (fun x802 e802 => ?_)
    have t802 : x802.toInt = 1 + x801.toInt := by rw [e802]; exact xi_add (by decide) rfl (by omega) (by omega)
    refine lv_goto (tgt := 859) hx hb dL_act_803 (by decide) ?_
    exact J859 x802 (by unfold setV; omega) _ _ hP hD hS ls (lv_sub hl [0, 1, 2, 3, 4, 5, 6] rfl)
  · have t787 : ¬ x775.toInt = 0 := xi_ne rfl (by decide) c787
    have d787 : ¬ x775 = 0 := c787
    refine lv_iload hx hb dL_act_790 (lv_at hl 1 rfl) ?_
    refine lv_iconst (v := 2) hx hb dL_act_792 (by decide) ?_
    refine lv_icmp_ne (tgt := 806) hx hb dL_act_793 (by decide) (fun c793 => ?_) (fun c793 => ?_)
    · have t793 : ¬ x775.toInt = 2 := xi_ne rfl (by decide) c793
      have d793 : ¬ x775 = 2 := c793
      refine lv_iload hx hb dL_act_806 (lv_at hl 1 rfl) ?_
      refine lv_iconst (v := 1) hx hb dL_act_808 (by decide) ?_
      refine lv_icmp_ne (tgt := 820) hx hb dL_act_809 (by decide) (fun c809 => ?_) (fun c809 => ?_)
      · have t809 : ¬ x775.toInt = 1 := xi_ne rfl (by decide) c809
        have d809 : ¬ x775 = 1 := c809
        refine lv_iload hx hb dL_act_820 (lv_at hl 1 rfl) ?_
        refine lv_iconst (v := 3) hx hb dL_act_822 (by decide) ?_
        refine lv_icmp_ne (tgt := 836) hx hb dL_act_823 (by decide) (fun c823 => ?_) (fun c823 => ?_)
        · have t823 : ¬ x775.toInt = 3 := xi_ne rfl (by decide) c823
          have d823 : ¬ x775 = 3 := c823
          refine lv_iload hx hb dL_act_836 (lv_at hl 1 rfl) ?_
          refine lv_iconst (v := 4) hx hb dL_act_838 (by decide) ?_
          refine lv_icmp_ne (tgt := 852) hx hb dL_act_839 (by decide) (fun c839 => ?_) (fun c839 => ?_)
          · have t839 : ¬ x775.toInt = 4 := xi_ne rfl (by decide) c839
            have d839 : ¬ x775 = 4 := c839
            refine lv_iconst (v := 2) hx hb dL_act_852 (by decide) ?_
            refine lv_iload hx hb dL_act_853 (lv_at hl 0 rfl) ?_
            refine lv_bipush (v := 8) hx hb dL_act_855 (by decide) ?_
            refine lv_irem hx hb dL_act_857 (by decide) ?_
            refine lv_topi (fun x857 e857 => ?_)
            have t857 : x857.toInt = x782.toInt % 8 := by rw [e857]; exact xi_rem rfl (by decide) (by omega) (by omega)
            refine lv_iadd hx hb dL_act_858 ?_
            refine lv_topi (fun x858 e858 => ?_)
            have t858 : x858.toInt = 2 + x857.toInt := by rw [e858]; exact xi_add (by decide) rfl (by omega) (by omega)
            exact J859 x858 (by unfold setV; omega) _ _ hP hD hS ls (lv_sub hl [0, 1, 2, 3, 4, 5, 6] rfl)
          · have t839 : x775.toInt = 4 := xi_eq rfl (by decide) c839
            have d839 : x775 = 4 := c839
            refine lv_iconst (v := 5) hx hb dL_act_842 (by decide) ?_
            refine lv_iload hx hb dL_act_843 (lv_at hl 0 rfl) ?_
            refine lv_bipush (v := 56) hx hb dL_act_845 (by decide) ?_
            refine lv_irem hx hb dL_act_847 (by decide) ?_
            refine lv_topi (fun x847 e847 => ?_)
            have t847 : x847.toInt = x782.toInt % 56 := by rw [e847]; exact xi_rem rfl (by decide) (by omega) (by omega)
            refine lv_iadd hx hb dL_act_848 ?_
            refine lv_topi (fun x848 e848 => ?_)
            have t848 : x848.toInt = 5 + x847.toInt := by rw [e848]; exact xi_add (by decide) rfl (by omega) (by omega)
            refine lv_goto (tgt := 859) hx hb dL_act_849 (by decide) ?_
            exact J859 x848 (by unfold setV; omega) _ _ hP hD hS ls (lv_sub hl [0, 1, 2, 3, 4, 5, 6] rfl)
        · have t823 : x775.toInt = 3 := xi_eq rfl (by decide) c823
          have d823 : x775 = 3 := c823
          refine lv_iconst (v := 1) hx hb dL_act_826 (by decide) ?_
          refine lv_iload hx hb dL_act_827 (lv_at hl 0 rfl) ?_
          refine lv_bipush (v := 20) hx hb dL_act_829 (by decide) ?_
          refine lv_irem hx hb dL_act_831 (by decide) ?_
          refine lv_topi (fun x831 e831 => ?_)
          have t831 : x831.toInt = x782.toInt % 20 := by rw [e831]; exact xi_rem rfl (by decide) (by omega) (by omega)
          refine lv_iadd hx hb dL_act_832 ?_
          refine lv_topi (fun x832 e832 => ?_)
          have t832 : x832.toInt = 1 + x831.toInt := by rw [e832]; exact xi_add (by decide) rfl (by omega) (by omega)
          refine lv_goto (tgt := 859) hx hb dL_act_833 (by decide) ?_
          exact J859 x832 (by unfold setV; omega) _ _ hP hD hS ls (lv_sub hl [0, 1, 2, 3, 4, 5, 6] rfl)
      · have t809 : x775.toInt = 1 := xi_eq rfl (by decide) c809
        have d809 : x775 = 1 := c809
        refine lv_iload hx hb dL_act_812 (lv_at hl 0 rfl) ?_
        refine lv_bipush (v := 10) hx hb dL_act_814 (by decide) ?_
        refine lv_irem hx hb dL_act_816 (by decide) ?_
        refine lv_topi (fun x816 e816 => ?_)
        have t816 : x816.toInt = x782.toInt % 10 := by rw [e816]; exact xi_rem rfl (by decide) (by omega) (by omega)
        refine lv_goto (tgt := 859) hx hb dL_act_817 (by decide) ?_
        exact J859 x816 (by unfold setV; omega) _ _ hP hD hS ls (lv_sub hl [0, 1, 2, 3, 4, 5, 6] rfl)
    · have t793 : x775.toInt = 2 := xi_eq rfl (by decide) c793
      have d793 : x775 = 2 := c793
      refine lv_iconst (v := 1) hx hb dL_act_796 (by decide) ?_
      refine lv_iload hx hb dL_act_797 (lv_at hl 0 rfl) ?_
      refine lv_bipush (v := 9) hx hb dL_act_799 (by decide) ?_
      refine lv_irem hx hb dL_act_801 (by decide) ?_
      refine lv_topi (fun x801 e801 => ?_)
      have t801 : x801.toInt = x782.toInt % 9 := by rw [e801]; exact xi_rem rfl (by decide) (by omega) (by omega)
      refine lv_iadd hx hb dL_act_802 ?_
      refine lv_topi (fun x802 e802 => ?_)
      have t802 : x802.toInt = 1 + x801.toInt := by rw [e802]; exact xi_add (by decide) rfl (by omega) (by omega)
      refine lv_goto (tgt := 859) hx hb dL_act_803 (by decide) ?_
      exact J859 x802 (by unfold setV; omega) _ _ hP hD hS ls (lv_sub hl [0, 1, 2, 3, 4, 5, 6] rfl)
