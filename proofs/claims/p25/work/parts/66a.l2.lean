set_option maxHeartbeats 4000000 in
set_option maxRecDepth 100000 in
theorem lb_587 {p : Program} {e : Env} {s : State} {m : MethodId} {below : List Frame} {meth : Method} {c : Code} (l : Launch) {args : Array Value} {A : Nat → Prop} {Q : State → Prop} {D : va_G} {cI cZ cS : ClassId} (x0 : Nat) (xs : Nat) (xv : Nat) (ho0 : Nat) (ho1 : Nat) (pd0 : Nat) (pd1 : Nat) (m0 : Nat) (ts0 : Nat) (ts1 : Nat) (a : Nat → Nat) (ha : Nat → Nat → Nat) (sa : Nat → Nat → Nat) (cn : Nat → Nat → Int32) (cs : Nat → Nat → Nat → Int32) (sc : Nat → Nat → Nat → Int32) (tm : Nat → Int32) (tv : Nat → Int32) (pd : Nat → Int32) (sv : Nat → Int32) (old : Int32) (sz : Int32) (z : Nat → Int32) (past : Nat → Int32) (slots : Nat → Int32) (bd : Int) (p1 : Int32) (no : Int32) (hLI : LI bd cn cs sc sv (0 : Int32) old sz z past slots) (hbd : bd ≤ 100000) (hp1 : 0 ≤ p1.toInt) (hno : no.toInt < 0 ∨ 12 ≤ no.toInt) (hx : p.tables.exec = Jvm.exec) (hb : c.code = cL_refusesAny) (hr : meth.sig.returnType = (some .boolean)) (hts : ∀ w ∈ Cond.code yL_refusesAny cL_refusesAny 5 (some .boolean) :: wsL_law, w.before args s = true) (hown : s.vm.findClass yL_refusesAny.cls = some m.cls) (hlocks : meth.locks = false) (hml : c.maxLocals = 5) (hK : va_K D vwCl (xTy cI cZ cS) s) (hA : ∀ q : Nat, s.heap.size ≤ q → A q) (hN : xN s) (hZ : xZ A s) (hQ : Q = MQ below (va_Qi (fun (r : Int32) (u : (Nat → Int32)) => r = (1 : Int32)) (fun u t => va_P D vwCl ((fun (u : (Nat → Int32)) => (xwW cI cZ cS x0 xs xv ho0 ho1 pd0 pd1 m0 ts0 ts1 a ha sa cn cs sc u tv pd sv (0 : Int32) old sz z)) u) t.heap) A) args s 0 0 A) (H : Heap) (locs : List Loc) (hP : va_P D vwCl (xwW cI cZ cS x0 xs xv ho0 ho1 pd0 pd1 m0 ts0 ts1 a ha sa cn cs sc tm tv pd sv (0 : Int32) old sz z) H) (hD : va_D A (xwW cI cZ cS x0 xs xv ho0 ho1 pd0 pd1 m0 ts0 ts1 a ha sa cn cs sc tm tv pd sv (0 : Int32) old sz z)) (hS : va_S A s.heap H locs) (ls : Array Slot) (hl : lv_has ls 5 [(0, .ref x0), (1, .int p1), (2, .int no), (4, .int 1)]) : W p l e ({ frames := 7, cells := 0, slots := 0, locals := 159 } : Room) s m args below meth c H locs 0 0 Q (F0 m 587 ls []) := by
  obtain ⟨hRS, hI, hBD, ⟨hold, hszz, hlnn⟩, hmcs, hmsc, hRH, hRL⟩ := id hLI
  obtain ⟨⟨hb74, hb74u⟩, ⟨hb86, hb86u⟩, hIP⟩ := id hBD
  have hs0 : (1 ≤ (z 0).toInt ∧ (z 0).toInt ≤ 9) ∧ (0 ≤ (z 1).toInt ∧ (z 1).toInt ≤ 9) ∧ (1 ≤ (z 2).toInt ∧ (z 2).toInt ≤ 9) ∧ (1 ≤ (z 3).toInt ∧ (z 3).toInt ≤ 20) ∧ (2 ≤ (z 5).toInt ∧ (z 5).toInt ≤ 9) := hI.1
  have hg6 : 0 ≤ (z 6).toInt ∧ (z 6).toInt ≤ 10 := hI.2.1.1
  have hr7 : 0 ≤ (z 7).toInt ∧ (z 7).toInt ≤ 12 := hI.2.2.1.1
  have z0 : (0 : Int32).toInt = 0 := by decide
  refine lv_aload_n hx hb dL_refusesAny_587 rfl (lv_at hl 0 rfl) ?_
  have J599 : ∀ (v591 : Int32) (hv591 : v591 = (-1) ∨ v591 = 2) (H : Heap) (locs : List Loc), va_P D vwCl (xwW cI cZ cS x0 xs xv ho0 ho1 pd0 pd1 m0 ts0 ts1 a ha sa cn cs sc tm tv pd sv (0 : Int32) old sz z) H → va_D A (xwW cI cZ cS x0 xs xv ho0 ho1 pd0 pd1 m0 ts0 ts1 a ha sa cn cs sc tm tv pd sv (0 : Int32) old sz z) → va_S A s.heap H locs → ∀ ls : Array Slot, lv_has ls 5 [(0, .ref x0), (1, .int p1), (2, .int no), (4, .int 1)] → W p l e ({ frames := 7, cells := 0, slots := 0, locals := 159 } : Room) s m args below meth c H locs 0 0 Q (F0 m 599 ls [.int v591, .ref x0]) := by
    intro v591 hv591 H locs hP hD hS ls hl
    refine xo_Vi (As := [.int v591]) (rest := []) hx hb hml hown hts hK hN hZ hP hD hS hA mb_X7_save mw_2_94 mw_2_95 mw_2_96 (k_X7_save l D cI cZ cS x0 xs xv ho0 ho1 pd0 pd1 m0 ts0 ts1 a ha sa cn cs sc tm tv pd sv (0 : Int32) old sz z v591 hRS hI) 0 7 rfl rfl (fun _ => xwW_f) (by decide) (by decide) rfl hl.1 rfl (Nat.le_of_ble_eq_true rfl) dL_refusesAny_599 ⟨Nat.zero_le _, Nat.zero_le _⟩ (fun r599 u599 H locs hw hP hD hS => ?_)
    obtain ⟨sc1_599, sv1_599⟩ := u599
    have p599 : r599 = (if slotV v591 then z 174 else -2) ∧ ((slotV v591 ∧ sc1_599 = recC sc (cZm cn z) v591.toInt.toNat ∧ sv1_599 = upd sv v591.toInt.toNat 1) ∨ (¬ slotV v591 ∧ sc1_599 = sc ∧ sv1_599 = sv)) := hw
    have hP : va_P D vwCl (xwW cI cZ cS x0 xs xv ho0 ho1 pd0 pd1 m0 ts0 ts1 a ha sa cn cs sc1_599 tm tv pd sv1_599 (0 : Int32) old sz z) H := hP
    have hD : va_D A (xwW cI cZ cS x0 xs xv ho0 ho1 pd0 pd1 m0 ts0 ts1 a ha sa cn cs sc1_599 tm tv pd sv1_599 (0 : Int32) old sz z) := hD
    have w599 : r599 = -2 ∧ sc1_599 = sc ∧ sv1_599 = sv := by
      refine ⟨p599.1.trans (if_neg (by rcases hv591 with h9 | h9 <;> rw [h9] <;> decide)), ?_⟩
      rcases p599.2 with ⟨c9, -⟩ | ⟨-, h9⟩
      · exact absurd c9 (by rcases hv591 with h9 | h9 <;> rw [h9] <;> decide)
      · exact h9
    obtain ⟨w599, w599_0, w599_1⟩ := w599
    rw [w599_0, w599_1] at hP hD
    have hP : va_P D vwCl (xwW cI cZ cS x0 xs xv ho0 ho1 pd0 pd1 m0 ts0 ts1 a ha sa cn cs sc tm tv pd sv (0 : Int32) old sz z) H := hP
    have hD : va_D A (xwW cI cZ cS x0 xs xv ho0 ho1 pd0 pd1 m0 ts0 ts1 a ha sa cn cs sc tm tv pd sv (0 : Int32) old sz z) := hD
    refine xk_top (z := (-2)) (by exact w599) ?_
    refine lv_bipush (v := (-2)) hx hb dL_refusesAny_602 (by decide) ?_
    refine lv_icmp_ne (tgt := 631) hx hb dL_refusesAny_604 (by decide) (fun c604 => absurd (by decide) c604) (fun _ => ?_)
    refine lv_aload_n hx hb dL_refusesAny_607 rfl (lv_at hl 0 rfl) ?_
    have J619 : ∀ (v611 : Int32) (hv611 : v611 = (-1) ∨ v611 = 2) (H : Heap) (locs : List Loc), va_P D vwCl (xwW cI cZ cS x0 xs xv ho0 ho1 pd0 pd1 m0 ts0 ts1 a ha sa cn cs sc tm tv pd sv (0 : Int32) old sz z) H → va_D A (xwW cI cZ cS x0 xs xv ho0 ho1 pd0 pd1 m0 ts0 ts1 a ha sa cn cs sc tm tv pd sv (0 : Int32) old sz z) → va_S A s.heap H locs → ∀ ls : Array Slot, lv_has ls 5 [(0, .ref x0), (1, .int p1), (2, .int no), (4, .int 1)] → W p l e ({ frames := 7, cells := 0, slots := 0, locals := 159 } : Room) s m args below meth c H locs 0 0 Q (F0 m 619 ls [.int v611, .ref x0]) := by
      intro v611 hv611 H locs hP hD hS ls hl
      refine xo_Vi (As := [.int v611]) (rest := []) hx hb hml hown hts hK hN hZ hP hD hS hA mb_X7_restore mw_2_102 mw_2_103 mw_2_104 (k_X7_restore l D cI cZ cS x0 xs xv ho0 ho1 pd0 pd1 m0 ts0 ts1 a ha sa cn cs sc tm tv pd sv (0 : Int32) old sz z z v611 hRS hI hold hszz (fun i hi => (hmsc i hi).1) (fun i hi => (hmsc i hi).2) (fun c9 => absurd c9.1 (by rcases hv611 with h9 | h9 <;> rw [h9] <;> decide))) 0 7 rfl rfl (fun _ => xwW_f) (by decide) (by decide) rfl hl.1 rfl (Nat.le_of_ble_eq_true rfl) dL_refusesAny_619 ⟨Nat.zero_le _, Nat.zero_le _⟩ (fun r619 u619 H locs hw hP hD hS => ?_)
      obtain ⟨cq_619, zq_619, old1_619, sz1_619, cs1_619⟩ := u619
      have p619 : r619 = (if slotV v611 then (if sv v611.toInt.toNat = 0 then -5 else z 174) else -2) ∧ ((restC v611 sv ∧ cq_619 = sc v611.toInt.toNat ∧ zq_619 = z ∧ old1_619 = oldR old sz ∧ sz1_619 = szR sz ∧ cs1_619 = recC cs (cZm cn z) (jR old sz)) ∨ (¬ restC v611 sv ∧ Same cn z old sz cs cq_619 zq_619 old1_619 sz1_619 cs1_619)) := hw
      have hP : va_P D vwCl (xwW cI cZ cS x0 xs xv ho0 ho1 pd0 pd1 m0 ts0 ts1 a ha sa cq_619 cs1_619 sc tm tv pd sv (0 : Int32) old1_619 sz1_619 zq_619) H := hP
      have hD : va_D A (xwW cI cZ cS x0 xs xv ho0 ho1 pd0 pd1 m0 ts0 ts1 a ha sa cq_619 cs1_619 sc tm tv pd sv (0 : Int32) old1_619 sz1_619 zq_619) := hD
      have w619 : r619 = -2 ∧ cq_619 = cn ∧ zq_619 = z ∧ old1_619 = old ∧ sz1_619 = sz ∧ cs1_619 = cs := by
        refine ⟨p619.1.trans (if_neg (by rcases hv611 with h9 | h9 <;> rw [h9] <;> decide)), ?_⟩
        rcases p619.2 with ⟨c9, -⟩ | ⟨-, h9⟩
        · exact absurd c9 (fun c8 => absurd c8.1 (by rcases hv611 with h9 | h9 <;> rw [h9] <;> decide))
        · exact h9
      obtain ⟨w619, w619_0, w619_1, w619_2, w619_3, w619_4⟩ := w619
      rw [w619_0, w619_1, w619_2, w619_3, w619_4] at hP hD
      have hP : va_P D vwCl (xwW cI cZ cS x0 xs xv ho0 ho1 pd0 pd1 m0 ts0 ts1 a ha sa cn cs sc tm tv pd sv (0 : Int32) old sz z) H := hP
      have hD : va_D A (xwW cI cZ cS x0 xs xv ho0 ho1 pd0 pd1 m0 ts0 ts1 a ha sa cn cs sc tm tv pd sv (0 : Int32) old sz z) := hD
      refine xk_top (z := (-2)) (by exact w619) ?_
      refine lv_bipush (v := (-2)) hx hb dL_refusesAny_622 (by decide) ?_
      refine lv_icmp_ne (tgt := 631) hx hb dL_refusesAny_624 (by decide) (fun c624 => absurd (by decide) c624) (fun _ => ?_)
      refine lv_iconst (v := 1) hx hb dL_refusesAny_627 (by decide) ?_
      refine lv_goto (tgt := 632) hx hb dL_refusesAny_628 (by decide) ?_
      refine lv_istore (lv' := [(4, .int 1), (0, .ref x0), (1, .int p1), (2, .int no)]) hx hb dL_refusesAny_632 hl (by decide) rfl (fun ls hl => ?_)
      refine lv_iload hx hb dL_refusesAny_634 (lv_at hl 0 rfl) ?_
      refine lv_if_eq (tgt := 666) hx hb dL_refusesAny_636 (by decide) (fun c636 => absurd c636 (by decide)) (fun _ => ?_)
      refine lv_aload_n hx hb dL_refusesAny_639 rfl (lv_at hl 1 rfl) ?_
      refine xo_Vi (As := []) (rest := []) hx hb hml hown hts hK hN hZ hP hD hS hA mb_X7_wipe mw_3_37 mw_3_38 mw_3_39 (k_X7_wipe l D cI cZ cS x0 xs xv ho0 ho1 pd0 pd1 m0 ts0 ts1 a ha sa cn cs sc tm tv pd sv (0 : Int32) old sz z hRS hI) 0 7 rfl rfl (fun _ => xwW_f) (by decide) (by decide) rfl hl.1 rfl (Nat.le_of_ble_eq_true rfl) dL_refusesAny_640 ⟨Nat.zero_le _, Nat.zero_le _⟩ (fun r640 u640 H locs hw hP hD hS => ?_)
      have p640 : r640 = (0 : Int32) := hw
      have hP : va_P D vwCl (xwW cI cZ cS x0 xs xv ho0 ho1 pd0 pd1 m0 ts0 ts1 a ha sa cn cs sc tm tv pd sv (0 : Int32) old sz z) H := hP
      have hD : va_D A (xwW cI cZ cS x0 xs xv ho0 ho1 pd0 pd1 m0 ts0 ts1 a ha sa cn cs sc tm tv pd sv (0 : Int32) old sz z) := hD
      refine xk_top (z := 0) (by exact p640) ?_
      refine lv_if_ne (tgt := 666) hx hb dL_refusesAny_643 (by decide) (fun c643 => absurd (by decide) c643) (fun _ => ?_)
      refine lv_aload_n hx hb dL_refusesAny_646 rfl (lv_at hl 1 rfl) ?_
      refine xo_Vi (As := []) (rest := []) hx hb hml hown hts hK hN hZ hP hD hS hA mb_X7_read mw_3_45 mw_3_46 mw_3_47 (k_X7_read l D cI cZ cS x0 xs xv ho0 ho1 pd0 pd1 m0 ts0 ts1 a ha sa cn cs sc tm tv pd sv (0 : Int32) old sz z hRS hI hold hszz hlnn) 0 7 rfl rfl (fun _ => xwW_f) (by decide) (by decide) rfl hl.1 rfl (Nat.le_of_ble_eq_true rfl) dL_refusesAny_647 ⟨Nat.zero_le _, Nat.zero_le _⟩ (fun r647 u647 H locs hw hP hD hS => ?_)
      obtain ⟨cq_647, zq_647, old1_647, sz1_647, cs1_647, ln1_647⟩ := u647
      have p647 : (FN pd 0 ∧ r647 = cq_647 7 0 ∧ ln1_647 = 0 ∧ zq_647 = beginZ z ∧ WrI pd 0 (cq_647 7 0) (cq_647 1) (cq_647 2) (cq_647 3) ∧ cq_647 0 = cn 0 ∧ cq_647 4 = cn 4 ∧ cq_647 5 = cn 5 ∧ cq_647 6 = cn 6 ∧ cq_647 7 1 = cn 7 1 ∧ old1_647 = oldR old sz ∧ sz1_647 = szR sz ∧ cs1_647 = recC cs (cZm cn z) (jR old sz)) ∨ (¬ FN pd 0 ∧ r647 = -3 ∧ ln1_647 = (0 : Int32) ∧ Same cn z old sz cs cq_647 zq_647 old1_647 sz1_647 cs1_647) := hw
      have hP : va_P D vwCl (xwW cI cZ cS x0 xs xv ho0 ho1 pd0 pd1 m0 ts0 ts1 a ha sa cq_647 cs1_647 sc tm tv pd sv ln1_647 old1_647 sz1_647 zq_647) H := hP
      have hD : va_D A (xwW cI cZ cS x0 xs xv ho0 ho1 pd0 pd1 m0 ts0 ts1 a ha sa cq_647 cs1_647 sc tm tv pd sv ln1_647 old1_647 sz1_647 zq_647) := hD
      have w647 : r647 = -3 ∧ ln1_647 = (0 : Int32) ∧ cq_647 = cn ∧ zq_647 = z ∧ old1_647 = old ∧ sz1_647 = sz ∧ cs1_647 = cs := by
        rcases p647 with ⟨c9, -⟩ | ⟨-, h9⟩
        · exact absurd c9 (FN_0 pd)
        · exact h9
      obtain ⟨w647, w647_0, w647_1, w647_2, w647_3, w647_4, w647_5⟩ := w647
      rw [w647_0, w647_1, w647_2, w647_3, w647_4, w647_5] at hP hD
      have hP : va_P D vwCl (xwW cI cZ cS x0 xs xv ho0 ho1 pd0 pd1 m0 ts0 ts1 a ha sa cn cs sc tm tv pd sv (0 : Int32) old sz z) H := hP
      have hD : va_D A (xwW cI cZ cS x0 xs xv ho0 ho1 pd0 pd1 m0 ts0 ts1 a ha sa cn cs sc tm tv pd sv (0 : Int32) old sz z) := hD
      refine xk_top (z := (-3)) (by exact w647) ?_
      refine lv_bipush (v := (-3)) hx hb dL_refusesAny_650 (by decide) ?_
      refine lv_icmp_ne (tgt := 666) hx hb dL_refusesAny_652 (by decide) (fun c652 => absurd (by decide) c652) (fun _ => ?_)
      refine lv_aload_n hx hb dL_refusesAny_655 rfl (lv_at hl 1 rfl) ?_
      refine xo_Vi (As := []) (rest := []) hx hb hml hown hts hK hN hZ hP hD hS hA mb_X7_fault mw_3_77 mw_3_78 mw_3_79 (k_X7_fault l D cI cZ cS x0 xs xv ho0 ho1 pd0 pd1 m0 ts0 ts1 a ha sa cn cs sc tm tv pd sv (0 : Int32) old sz z hRS hI hlnn) 0 7 rfl rfl (fun _ => xwW_f) (by decide) (by decide) rfl hl.1 rfl (Nat.le_of_ble_eq_true rfl) dL_refusesAny_656 ⟨Nat.zero_le _, Nat.zero_le _⟩ (fun r656 u656 H locs hw hP hD hS => ?_)
      have p656 : (FN pd 0 ∧ r656 = -6) ∨ (FA pd 0 r656.toInt.toNat ∧ 0 ≤ r656.toInt ∧ r656.toInt ≤ 0) := hw
      have hP : va_P D vwCl (xwW cI cZ cS x0 xs xv ho0 ho1 pd0 pd1 m0 ts0 ts1 a ha sa cn cs sc tm tv pd sv (0 : Int32) old sz z) H := hP
      have hD : va_D A (xwW cI cZ cS x0 xs xv ho0 ho1 pd0 pd1 m0 ts0 ts1 a ha sa cn cs sc tm tv pd sv (0 : Int32) old sz z) := hD
      refine xk_top (z := 0) (by exact p656.elim (fun h9 => absurd h9.1 (FN_0 pd)) (fun h9 => xi_ext (by have := h9.2; omega))) ?_
      refine lv_if_ne (tgt := 666) hx hb dL_refusesAny_659 (by decide) (fun c659 => absurd (by decide) c659) (fun _ => ?_)
      refine lv_iconst (v := 1) hx hb dL_refusesAny_662 (by decide) ?_
      refine lv_goto (tgt := 667) hx hb dL_refusesAny_663 (by decide) ?_
      exact xk_retz tm hx hb hr hlocks (by decide) (xk_P hP (by rfl)) (by rfl) hS dL_refusesAny_667 hQ
    refine lv_iload_n hx hb dL_refusesAny_608 rfl (lv_at hl 1 rfl) ?_
    refine lv_iconst (v := 2) hx hb dL_refusesAny_609 (by decide) ?_
    refine lv_irem hx hb dL_refusesAny_610 (by decide) ?_
    refine lv_topi (fun x610 e610 => ?_)
    have t610 : x610.toInt = p1.toInt % 2 := by rw [e610]; exact xi_rem rfl (by decide) (by omega) (by omega)
    refine lv_if_ne (tgt := 618) hx hb dL_refusesAny_611 (by decide) (fun c611 => ?_) (fun c611 => ?_)
    · have t611 : ¬ x610.toInt = 0 := xi_ne rfl (by decide) c611
      have d611 : ¬ x610 = 0 := c611
      refine lv_iconst (v := 2) hx hb dL_refusesAny_618 (by decide) ?_
      exact J619 (2 : Int32) (by first | exact Or.inl rfl | exact Or.inr rfl) _ _ hP hD hS ls (lv_sub hl [0, 1, 2, 3] rfl)
    · have t611 : x610.toInt = 0 := xi_eq rfl (by decide) c611
      have d611 : x610 = 0 := c611
      refine lv_iconst (v := (-1)) hx hb dL_refusesAny_614 (by decide) ?_
      refine lv_goto (tgt := 619) hx hb dL_refusesAny_615 (by decide) ?_
      exact J619 (-1 : Int32) (by first | exact Or.inl rfl | exact Or.inr rfl) _ _ hP hD hS ls (lv_sub hl [0, 1, 2, 3] rfl)
  refine lv_iload_n hx hb dL_refusesAny_588 rfl (lv_at hl 1 rfl) ?_
  refine lv_iconst (v := 2) hx hb dL_refusesAny_589 (by decide) ?_
  refine lv_irem hx hb dL_refusesAny_590 (by decide) ?_
  refine lv_topi (fun x590 e590 => ?_)
  have t590 : x590.toInt = p1.toInt % 2 := by rw [e590]; exact xi_rem rfl (by decide) (by omega) (by omega)
  refine lv_if_ne (tgt := 598) hx hb dL_refusesAny_591 (by decide) (fun c591 => ?_) (fun c591 => ?_)
  · have t591 : ¬ x590.toInt = 0 := xi_ne rfl (by decide) c591
    have d591 : ¬ x590 = 0 := c591
    refine lv_iconst (v := 2) hx hb dL_refusesAny_598 (by decide) ?_
    exact J599 (2 : Int32) (by first | exact Or.inl rfl | exact Or.inr rfl) _ _ hP hD hS ls (lv_sub hl [0, 1, 2, 3] rfl)
  · have t591 : x590.toInt = 0 := xi_eq rfl (by decide) c591
    have d591 : x590 = 0 := c591
    refine lv_iconst (v := (-1)) hx hb dL_refusesAny_594 (by decide) ?_
    refine lv_goto (tgt := 599) hx hb dL_refusesAny_595 (by decide) ?_
    exact J599 (-1 : Int32) (by first | exact Or.inl rfl | exact Or.inr rfl) _ _ hP hD hS ls (lv_sub hl [0, 1, 2, 3] rfl)

set_option maxHeartbeats 4000000 in
set_option maxRecDepth 100000 in
theorem lb_514 {p : Program} {e : Env} {s : State} {m : MethodId} {below : List Frame} {meth : Method} {c : Code} (l : Launch) {args : Array Value} {A : Nat → Prop} {Q : State → Prop} {D : va_G} {cI cZ cS : ClassId} (x0 : Nat) (xs : Nat) (xv : Nat) (ho0 : Nat) (ho1 : Nat) (pd0 : Nat) (pd1 : Nat) (m0 : Nat) (ts0 : Nat) (ts1 : Nat) (a : Nat → Nat) (ha : Nat → Nat → Nat) (sa : Nat → Nat → Nat) (cn : Nat → Nat → Int32) (cs : Nat → Nat → Nat → Int32) (sc : Nat → Nat → Nat → Int32) (tm : Nat → Int32) (tv : Nat → Int32) (pd : Nat → Int32) (sv : Nat → Int32) (old : Int32) (sz : Int32) (z : Nat → Int32) (past : Nat → Int32) (slots : Nat → Int32) (bd : Int) (p1 : Int32) (no : Int32) (hLI : LI bd cn cs sc sv (0 : Int32) old sz z past slots) (hbd : bd ≤ 100000) (hp1 : 0 ≤ p1.toInt) (hno : no.toInt < 0 ∨ 12 ≤ no.toInt) (hx : p.tables.exec = Jvm.exec) (hb : c.code = cL_refusesAny) (hr : meth.sig.returnType = (some .boolean)) (hts : ∀ w ∈ Cond.code yL_refusesAny cL_refusesAny 5 (some .boolean) :: wsL_law, w.before args s = true) (hown : s.vm.findClass yL_refusesAny.cls = some m.cls) (hlocks : meth.locks = false) (hml : c.maxLocals = 5) (hK : va_K D vwCl (xTy cI cZ cS) s) (hA : ∀ q : Nat, s.heap.size ≤ q → A q) (hN : xN s) (hZ : xZ A s) (hQ : Q = MQ below (va_Qi (fun (r : Int32) (u : (Nat → Int32)) => r = (1 : Int32)) (fun u t => va_P D vwCl ((fun (u : (Nat → Int32)) => (xwW cI cZ cS x0 xs xv ho0 ho1 pd0 pd1 m0 ts0 ts1 a ha sa cn cs sc u tv pd sv (0 : Int32) old sz z)) u) t.heap) A) args s 0 0 A) (H : Heap) (locs : List Loc) (hP : va_P D vwCl (xwW cI cZ cS x0 xs xv ho0 ho1 pd0 pd1 m0 ts0 ts1 a ha sa cn cs sc tm tv pd sv (0 : Int32) old sz z) H) (hD : va_D A (xwW cI cZ cS x0 xs xv ho0 ho1 pd0 pd1 m0 ts0 ts1 a ha sa cn cs sc tm tv pd sv (0 : Int32) old sz z)) (hS : va_S A s.heap H locs) (ls : Array Slot) (hl : lv_has ls 5 [(0, .ref x0), (1, .int p1), (2, .int no), (4, .int 1)]) : W p l e ({ frames := 7, cells := 0, slots := 0, locals := 159 } : Room) s m args below meth c H locs 0 0 Q (F0 m 514 ls []) := by
  obtain ⟨hRS, hI, hBD, ⟨hold, hszz, hlnn⟩, hmcs, hmsc, hRH, hRL⟩ := id hLI
  obtain ⟨⟨hb74, hb74u⟩, ⟨hb86, hb86u⟩, hIP⟩ := id hBD
  have hs0 : (1 ≤ (z 0).toInt ∧ (z 0).toInt ≤ 9) ∧ (0 ≤ (z 1).toInt ∧ (z 1).toInt ≤ 9) ∧ (1 ≤ (z 2).toInt ∧ (z 2).toInt ≤ 9) ∧ (1 ≤ (z 3).toInt ∧ (z 3).toInt ≤ 20) ∧ (2 ≤ (z 5).toInt ∧ (z 5).toInt ≤ 9) := hI.1
  have hg6 : 0 ≤ (z 6).toInt ∧ (z 6).toInt ≤ 10 := hI.2.1.1
  have hr7 : 0 ≤ (z 7).toInt ∧ (z 7).toInt ≤ 12 := hI.2.2.1.1
  have z0 : (0 : Int32).toInt = 0 := by decide
  refine lv_aload_n hx hb dL_refusesAny_514 rfl (lv_at hl 0 rfl) ?_
  have J527 : ∀ (v518 : Int32) (hv518 : v518 = (-1) ∨ v518 = 15) (H : Heap) (locs : List Loc), va_P D vwCl (xwW cI cZ cS x0 xs xv ho0 ho1 pd0 pd1 m0 ts0 ts1 a ha sa cn cs sc tm tv pd sv (0 : Int32) old sz z) H → va_D A (xwW cI cZ cS x0 xs xv ho0 ho1 pd0 pd1 m0 ts0 ts1 a ha sa cn cs sc tm tv pd sv (0 : Int32) old sz z) → va_S A s.heap H locs → ∀ ls : Array Slot, lv_has ls 5 [(0, .ref x0), (1, .int p1), (2, .int no), (4, .int 1)] → W p l e ({ frames := 7, cells := 0, slots := 0, locals := 159 } : Room) s m args below meth c H locs 0 0 Q (F0 m 527 ls [.int v518, .ref x0]) := by
    intro v518 hv518 H locs hP hD hS ls hl
    refine xo_Vi (As := [.int v518]) (rest := []) hx hb hml hown hts hK hN hZ hP hD hS hA mb_X7_walk mw_1_238 mw_1_239 mw_2_0 (k_X7_walk l D cI cZ cS x0 xs xv ho0 ho1 pd0 pd1 m0 ts0 ts1 a ha sa cn cs sc tm tv pd sv (0 : Int32) old sz z v518 hRS hI) 0 7 rfl rfl (fun _ => xwW_f) (by decide) (by decide) rfl hl.1 rfl (Nat.le_of_ble_eq_true rfl) dL_refusesAny_527 ⟨Nat.zero_le _, Nat.zero_le _⟩ (fun r527 u527 H locs hw hP hD hS => ?_)
    have p527 : r527 = walkR z v518 := hw
    have hP : va_P D vwCl (xwW cI cZ cS x0 xs xv ho0 ho1 pd0 pd1 m0 ts0 ts1 a ha sa cn cs sc tm tv pd sv (0 : Int32) old sz z) H := hP
    have hD : va_D A (xwW cI cZ cS x0 xs xv ho0 ho1 pd0 pd1 m0 ts0 ts1 a ha sa cn cs sc tm tv pd sv (0 : Int32) old sz z) := hD
    refine xk_top (z := (-2)) (by exact p527.trans (wk_bad z (by rcases hv518 with h9 | h9 <;> rw [h9] <;> decide))) ?_
    refine lv_bipush (v := (-2)) hx hb dL_refusesAny_530 (by decide) ?_
    refine lv_icmp_ne (tgt := 631) hx hb dL_refusesAny_532 (by decide) (fun c532 => absurd (by decide) c532) (fun _ => ?_)
    refine lv_aload_n hx hb dL_refusesAny_535 rfl (lv_at hl 0 rfl) ?_
    have J548 : ∀ (v539 : Int32) (hv539 : v539 = (-1) ∨ v539 = 13) (H : Heap) (locs : List Loc), va_P D vwCl (xwW cI cZ cS x0 xs xv ho0 ho1 pd0 pd1 m0 ts0 ts1 a ha sa cn cs sc tm tv pd sv (0 : Int32) old sz z) H → va_D A (xwW cI cZ cS x0 xs xv ho0 ho1 pd0 pd1 m0 ts0 ts1 a ha sa cn cs sc tm tv pd sv (0 : Int32) old sz z) → va_S A s.heap H locs → ∀ ls : Array Slot, lv_has ls 5 [(0, .ref x0), (1, .int p1), (2, .int no), (4, .int 1)] → W p l e ({ frames := 7, cells := 0, slots := 0, locals := 159 } : Room) s m args below meth c H locs 0 0 Q (F0 m 548 ls [.int v539, .ref x0]) := by
      intro v539 hv539 H locs hP hD hS ls hl
      refine xo_Vi (As := [.int v539]) (rest := []) hx hb hml hown hts hK hN hZ hP hD hS hA mb_X7_count mw_2_6 mw_2_7 mw_2_8 (k_X7_count l D cI cZ cS x0 xs xv ho0 ho1 pd0 pd1 m0 ts0 ts1 a ha sa cn cs sc tm tv pd sv (0 : Int32) old sz z v539 hRS hI) 0 7 rfl rfl (fun _ => xwW_f) (by decide) (by decide) rfl hl.1 rfl (Nat.le_of_ble_eq_true rfl) dL_refusesAny_548 ⟨Nat.zero_le _, Nat.zero_le _⟩ (fun r548 u548 H locs hw hP hD hS => ?_)
      have p548 : r548 = cntR z (0 : Int32) sz v539 := hw
      have hP : va_P D vwCl (xwW cI cZ cS x0 xs xv ho0 ho1 pd0 pd1 m0 ts0 ts1 a ha sa cn cs sc tm tv pd sv (0 : Int32) old sz z) H := hP
      have hD : va_D A (xwW cI cZ cS x0 xs xv ho0 ho1 pd0 pd1 m0 ts0 ts1 a ha sa cn cs sc tm tv pd sv (0 : Int32) old sz z) := hD
      refine xk_top (z := (-2)) (by exact p548.trans (ct_bad z _ _ (by rcases hv539 with h9 | h9 <;> rw [h9] <;> decide))) ?_
      refine lv_bipush (v := (-2)) hx hb dL_refusesAny_551 (by decide) ?_
      refine lv_icmp_ne (tgt := 631) hx hb dL_refusesAny_553 (by decide) (fun c553 => absurd (by decide) c553) (fun _ => ?_)
      refine lv_aload_n hx hb dL_refusesAny_556 rfl (lv_at hl 0 rfl) ?_
      have J568 : ∀ (v560 : Int32) (hv560 : v560 = (-1) ∨ v560 = 4) (H : Heap) (locs : List Loc), va_P D vwCl (xwW cI cZ cS x0 xs xv ho0 ho1 pd0 pd1 m0 ts0 ts1 a ha sa cn cs sc tm tv pd sv (0 : Int32) old sz z) H → va_D A (xwW cI cZ cS x0 xs xv ho0 ho1 pd0 pd1 m0 ts0 ts1 a ha sa cn cs sc tm tv pd sv (0 : Int32) old sz z) → va_S A s.heap H locs → ∀ ls : Array Slot, lv_has ls 5 [(0, .ref x0), (1, .int p1), (2, .int no), (4, .int 1)] → W p l e ({ frames := 7, cells := 0, slots := 0, locals := 159 } : Room) s m args below meth c H locs 0 0 Q (F0 m 568 ls [.int v560, .ref x0]) := by
        intro v560 hv560 H locs hP hD hS ls hl
        refine xo_Vi (As := [.int v560]) (rest := []) hx hb hml hown hts hK hN hZ hP hD hS hA mb_X7_untilWalked mw_2_177 mw_2_178 mw_2_179 (k_X7_untilWalked l D cI cZ cS x0 xs xv ho0 ho1 pd0 pd1 m0 ts0 ts1 a ha sa cn cs sc tm tv pd sv (0 : Int32) old sz z v560 hRS hI) 0 7 rfl rfl (fun _ => xwW_f) (by decide) (by decide) rfl hl.1 rfl (Nat.le_of_ble_eq_true rfl) dL_refusesAny_568 ⟨Nat.zero_le _, Nat.zero_le _⟩ (fun r568 u568 H locs hw hP hD hS => ?_)
        obtain ⟨tq_568, rfl⟩ : ∃ q, q = u568 := ⟨_, rfl⟩
        have p568 : r568 = untR z v560 := hw
        have hP : va_P D vwCl (xwW cI cZ cS x0 xs xv ho0 ho1 pd0 pd1 m0 ts0 ts1 a ha sa cn cs sc tq_568 tv pd sv (0 : Int32) old sz z) H := hP
        have hD : va_D A (xwW cI cZ cS x0 xs xv ho0 ho1 pd0 pd1 m0 ts0 ts1 a ha sa cn cs sc tq_568 tv pd sv (0 : Int32) old sz z) := hD
        refine xk_top (z := (-2)) (by exact p568.trans (un_bad z (by rcases hv560 with h9 | h9 <;> rw [h9] <;> decide))) ?_
        refine lv_bipush (v := (-2)) hx hb dL_refusesAny_571 (by decide) ?_
        refine lv_icmp_ne (tgt := 631) hx hb dL_refusesAny_573 (by decide) (fun c573 => absurd (by decide) c573) (fun _ => ?_)
        refine lv_aload_n hx hb dL_refusesAny_576 rfl (lv_at hl 0 rfl) ?_
        refine lv_iload_n hx hb dL_refusesAny_577 rfl (lv_at hl 2 rfl) ?_
        refine lv_bipush (v := 9) hx hb dL_refusesAny_578 (by decide) ?_
        refine xo_Vi (As := [.int no, .int 9]) (rest := []) hx hb hml hown hts hK hN hZ hP hD hS hA mb_X7_meets mw_2_161 mw_2_162 mw_2_163 (k_X7_meets l D cI cZ cS x0 xs xv ho0 ho1 pd0 pd1 m0 ts0 ts1 a ha sa cn cs sc tq_568 tv pd sv (0 : Int32) old sz z no (9 : Int32) hRS hI) 0 7 rfl rfl (fun _ => xwW_f) (by decide) (by decide) rfl hl.1 rfl (Nat.le_of_ble_eq_true rfl) dL_refusesAny_580 ⟨Nat.zero_le _, Nat.zero_le _⟩ (fun r580 u580 H locs hw hP hD hS => ?_)
        have p580 : meetA z no (9 : Int32) r580 := hw
        have hP : va_P D vwCl (xwW cI cZ cS x0 xs xv ho0 ho1 pd0 pd1 m0 ts0 ts1 a ha sa cn cs sc tq_568 tv pd sv (0 : Int32) old sz z) H := hP
        have hD : va_D A (xwW cI cZ cS x0 xs xv ho0 ho1 pd0 pd1 m0 ts0 ts1 a ha sa cn cs sc tq_568 tv pd sv (0 : Int32) old sz z) := hD
        refine xk_top (z := (-1)) (by exact mt_no (fun c8 => by have := c8.1; have := c8.2; omega) p580) ?_
        refine lv_iconst (v := (-1)) hx hb dL_refusesAny_583 (by decide) ?_
        refine lv_icmp_ne (tgt := 631) hx hb dL_refusesAny_584 (by decide) (fun c584 => absurd (by decide) c584) (fun _ => ?_)
        exact lb_587 l x0 xs xv ho0 ho1 pd0 pd1 m0 ts0 ts1 a ha sa cn cs sc tq_568 tv pd sv old sz z past slots bd p1 no hLI (by first | assumption | omega) (by first | assumption | omega) (by first | assumption | omega) hx hb hr hts hown hlocks hml hK hA hN hZ hQ _ _ hP hD hS ls (lv_sub hl [0, 1, 2, 3] rfl)
      refine lv_iload_n hx hb dL_refusesAny_557 rfl (lv_at hl 1 rfl) ?_
      refine lv_iconst (v := 2) hx hb dL_refusesAny_558 (by decide) ?_
      refine lv_irem hx hb dL_refusesAny_559 (by decide) ?_
      refine lv_topi (fun x559 e559 => ?_)
      have t559 : x559.toInt = p1.toInt % 2 := by rw [e559]; exact xi_rem rfl (by decide) (by omega) (by omega)
      refine lv_if_ne (tgt := 567) hx hb dL_refusesAny_560 (by decide) (fun c560 => ?_) (fun c560 => ?_)
      · have t560 : ¬ x559.toInt = 0 := xi_ne rfl (by decide) c560
        have d560 : ¬ x559 = 0 := c560
        refine lv_iconst (v := 4) hx hb dL_refusesAny_567 (by decide) ?_
        exact J568 (4 : Int32) (by first | exact Or.inl rfl | exact Or.inr rfl) _ _ hP hD hS ls (lv_sub hl [0, 1, 2, 3] rfl)
      · have t560 : x559.toInt = 0 := xi_eq rfl (by decide) c560
        have d560 : x559 = 0 := c560
        refine lv_iconst (v := (-1)) hx hb dL_refusesAny_563 (by decide) ?_
        refine lv_goto (tgt := 568) hx hb dL_refusesAny_564 (by decide) ?_
        exact J568 (-1 : Int32) (by first | exact Or.inl rfl | exact Or.inr rfl) _ _ hP hD hS ls (lv_sub hl [0, 1, 2, 3] rfl)
    refine lv_iload_n hx hb dL_refusesAny_536 rfl (lv_at hl 1 rfl) ?_
    refine lv_iconst (v := 2) hx hb dL_refusesAny_537 (by decide) ?_
    refine lv_irem hx hb dL_refusesAny_538 (by decide) ?_
    refine lv_topi (fun x538 e538 => ?_)
    have t538 : x538.toInt = p1.toInt % 2 := by rw [e538]; exact xi_rem rfl (by decide) (by omega) (by omega)
    refine lv_if_ne (tgt := 546) hx hb dL_refusesAny_539 (by decide) (fun c539 => ?_) (fun c539 => ?_)
    · have t539 : ¬ x538.toInt = 0 := xi_ne rfl (by decide) c539
      have d539 : ¬ x538 = 0 := c539
      refine lv_bipush (v := 13) hx hb dL_refusesAny_546 (by decide) ?_
      exact J548 (13 : Int32) (by first | exact Or.inl rfl | exact Or.inr rfl) _ _ hP hD hS ls (lv_sub hl [0, 1, 2, 3] rfl)
    · have t539 : x538.toInt = 0 := xi_eq rfl (by decide) c539
      have d539 : x538 = 0 := c539
      refine lv_iconst (v := (-1)) hx hb dL_refusesAny_542 (by decide) ?_
      refine lv_goto (tgt := 548) hx hb dL_refusesAny_543 (by decide) ?_
      exact J548 (-1 : Int32) (by first | exact Or.inl rfl | exact Or.inr rfl) _ _ hP hD hS ls (lv_sub hl [0, 1, 2, 3] rfl)
  refine lv_iload_n hx hb dL_refusesAny_515 rfl (lv_at hl 1 rfl) ?_
  refine lv_iconst (v := 2) hx hb dL_refusesAny_516 (by decide) ?_
  refine lv_irem hx hb dL_refusesAny_517 (by decide) ?_
  refine lv_topi (fun x517 e517 => ?_)
  have t517 : x517.toInt = p1.toInt % 2 := by rw [e517]; exact xi_rem rfl (by decide) (by omega) (by omega)
  refine lv_if_ne (tgt := 525) hx hb dL_refusesAny_518 (by decide) (fun c518 => ?_) (fun c518 => ?_)
  · have t518 : ¬ x517.toInt = 0 := xi_ne rfl (by decide) c518
    have d518 : ¬ x517 = 0 := c518
    refine lv_bipush (v := 15) hx hb dL_refusesAny_525 (by decide) ?_
    exact J527 (15 : Int32) (by first | exact Or.inl rfl | exact Or.inr rfl) _ _ hP hD hS ls (lv_sub hl [0, 1, 2, 3] rfl)
  · have t518 : x517.toInt = 0 := xi_eq rfl (by decide) c518
    have d518 : x517 = 0 := c518
    refine lv_iconst (v := (-1)) hx hb dL_refusesAny_521 (by decide) ?_
    refine lv_goto (tgt := 527) hx hb dL_refusesAny_522 (by decide) ?_
    exact J527 (-1 : Int32) (by first | exact Or.inl rfl | exact Or.inr rfl) _ _ hP hD hS ls (lv_sub hl [0, 1, 2, 3] rfl)
