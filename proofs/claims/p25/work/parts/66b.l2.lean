set_option maxHeartbeats 4000000 in
set_option maxRecDepth 100000 in
theorem lb_440 {p : Program} {e : Env} {s : State} {m : MethodId} {below : List Frame} {meth : Method} {c : Code} (l : Launch) {args : Array Value} {A : Nat → Prop} {Q : State → Prop} {D : va_G} {cI cZ cS : ClassId} (x0 : Nat) (xs : Nat) (xv : Nat) (ho0 : Nat) (ho1 : Nat) (pd0 : Nat) (pd1 : Nat) (m0 : Nat) (ts0 : Nat) (ts1 : Nat) (a : Nat → Nat) (ha : Nat → Nat → Nat) (sa : Nat → Nat → Nat) (cn : Nat → Nat → Int32) (cs : Nat → Nat → Nat → Int32) (sc : Nat → Nat → Nat → Int32) (tm : Nat → Int32) (tv : Nat → Int32) (pd : Nat → Int32) (sv : Nat → Int32) (old : Int32) (sz : Int32) (z : Nat → Int32) (past : Nat → Int32) (slots : Nat → Int32) (bd : Int) (p1 : Int32) (no : Int32) (hLI : LI bd cn cs sc sv (0 : Int32) old sz z past slots) (hbd : bd ≤ 100000) (hp1 : 0 ≤ p1.toInt) (hno : no.toInt < 0 ∨ 12 ≤ no.toInt) (hx : p.tables.exec = Jvm.exec) (hb : c.code = cL_refusesAny) (hr : meth.sig.returnType = (some .boolean)) (hts : ∀ w ∈ Cond.code yL_refusesAny cL_refusesAny 5 (some .boolean) :: wsL_law, w.before args s = true) (hown : s.vm.findClass yL_refusesAny.cls = some m.cls) (hlocks : meth.locks = false) (hml : c.maxLocals = 5) (hK : va_K D vwCl (xTy cI cZ cS) s) (hA : ∀ q : Nat, s.heap.size ≤ q → A q) (hN : xN s) (hZ : xZ A s) (hQ : Q = MQ below (va_Qi (fun (r : Int32) (u : (Nat → Int32)) => r = (1 : Int32)) (fun u t => va_P D vwCl ((fun (u : (Nat → Int32)) => (xwW cI cZ cS x0 xs xv ho0 ho1 pd0 pd1 m0 ts0 ts1 a ha sa cn cs sc u tv pd sv (0 : Int32) old sz z)) u) t.heap) A) args s 0 0 A) (H : Heap) (locs : List Loc) (hP : va_P D vwCl (xwW cI cZ cS x0 xs xv ho0 ho1 pd0 pd1 m0 ts0 ts1 a ha sa cn cs sc tm tv pd sv (0 : Int32) old sz z) H) (hD : va_D A (xwW cI cZ cS x0 xs xv ho0 ho1 pd0 pd1 m0 ts0 ts1 a ha sa cn cs sc tm tv pd sv (0 : Int32) old sz z)) (hS : va_S A s.heap H locs) (ls : Array Slot) (hl : lv_has ls 5 [(0, .ref x0), (1, .int p1), (2, .int no), (4, .int 1)]) : W p l e ({ frames := 7, cells := 0, slots := 0, locals := 159 } : Room) s m args below meth c H locs 0 0 Q (F0 m 440 ls []) := by
  obtain ⟨hRS, hI, hBD, ⟨hold, hszz, hlnn⟩, hmcs, hmsc, hRH, hRL⟩ := id hLI
  obtain ⟨⟨hb74, hb74u⟩, ⟨hb86, hb86u⟩, hIP⟩ := id hBD
  have hs0 : (1 ≤ (z 0).toInt ∧ (z 0).toInt ≤ 9) ∧ (0 ≤ (z 1).toInt ∧ (z 1).toInt ≤ 9) ∧ (1 ≤ (z 2).toInt ∧ (z 2).toInt ≤ 9) ∧ (1 ≤ (z 3).toInt ∧ (z 3).toInt ≤ 20) ∧ (2 ≤ (z 5).toInt ∧ (z 5).toInt ≤ 9) := hI.1
  have hg6 : 0 ≤ (z 6).toInt ∧ (z 6).toInt ≤ 10 := hI.2.1.1
  have hr7 : 0 ≤ (z 7).toInt ∧ (z 7).toInt ≤ 12 := hI.2.2.1.1
  have z0 : (0 : Int32).toInt = 0 := by decide
  refine lv_aload_n hx hb dL_refusesAny_440 rfl (lv_at hl 0 rfl) ?_
  refine lv_iload_n hx hb dL_refusesAny_441 rfl (lv_at hl 2 rfl) ?_
  refine lv_iconst (v := 0) hx hb dL_refusesAny_442 (by decide) ?_
  refine lv_bipush (v := 9) hx hb dL_refusesAny_443 (by decide) ?_
  refine xo_Vi (As := [.int no, .int 0, .int 9]) (rest := []) hx hb hml hown hts hK hN hZ hP hD hS hA mb_X7_foot mw_2_140 mw_2_141 mw_2_142 (k_X7_foot l D cI cZ cS x0 xs xv ho0 ho1 pd0 pd1 m0 ts0 ts1 a ha sa cn cs sc tm tv pd sv (0 : Int32) old sz z no (0 : Int32) (9 : Int32) hRS hI) 0 7 rfl rfl (fun _ => xwW_f) (by decide) (by decide) rfl hl.1 rfl (Nat.le_of_ble_eq_true rfl) dL_refusesAny_445 ⟨Nat.zero_le _, Nat.zero_le _⟩ (fun r445 u445 H locs hw hP hD hS => ?_)
  have p445 : r445 = footR z no (0 : Int32) (9 : Int32) := hw
  have hP : va_P D vwCl (xwW cI cZ cS x0 xs xv ho0 ho1 pd0 pd1 m0 ts0 ts1 a ha sa cn cs sc tm tv pd sv (0 : Int32) old sz z) H := hP
  have hD : va_D A (xwW cI cZ cS x0 xs xv ho0 ho1 pd0 pd1 m0 ts0 ts1 a ha sa cn cs sc tm tv pd sv (0 : Int32) old sz z) := hD
  refine xk_top (z := (-1)) (by exact p445.trans (ft_no (fun c8 => by have := c8.1.1; have := c8.1.2; omega))) ?_
  refine lv_iconst (v := (-1)) hx hb dL_refusesAny_448 (by decide) ?_
  refine lv_icmp_ne (tgt := 631) hx hb dL_refusesAny_449 (by decide) (fun c449 => absurd (by decide) c449) (fun _ => ?_)
  refine lv_aload_n hx hb dL_refusesAny_452 rfl (lv_at hl 0 rfl) ?_
  refine lv_iload_n hx hb dL_refusesAny_453 rfl (lv_at hl 2 rfl) ?_
  refine lv_bipush (v := 9) hx hb dL_refusesAny_454 (by decide) ?_
  refine xo_Vi (As := [.int no, .int 9]) (rest := []) hx hb hml hown hts hK hN hZ hP hD hS hA mb_X7_stretch mw_2_121 mw_2_122 mw_2_123 (k_X7_stretch l D cI cZ cS x0 xs xv ho0 ho1 pd0 pd1 m0 ts0 ts1 a ha sa cn cs sc tm tv pd sv (0 : Int32) old sz z no (9 : Int32) hRS hI) 0 7 rfl rfl (fun _ => xwW_f) (by decide) (by decide) rfl hl.1 rfl (Nat.le_of_ble_eq_true rfl) dL_refusesAny_456 ⟨Nat.zero_le _, Nat.zero_le _⟩ (fun r456 u456 H locs hw hP hD hS => ?_)
  have p456 : strA z no (9 : Int32) r456 := hw
  have hP : va_P D vwCl (xwW cI cZ cS x0 xs xv ho0 ho1 pd0 pd1 m0 ts0 ts1 a ha sa cn cs sc tm tv pd sv (0 : Int32) old sz z) H := hP
  have hD : va_D A (xwW cI cZ cS x0 xs xv ho0 ho1 pd0 pd1 m0 ts0 ts1 a ha sa cn cs sc tm tv pd sv (0 : Int32) old sz z) := hD
  refine xk_top (z := (-1)) (by exact st_no (fun c8 => by have := c8.1; have := c8.2; omega) p456) ?_
  refine lv_iconst (v := (-1)) hx hb dL_refusesAny_459 (by decide) ?_
  refine lv_icmp_ne (tgt := 631) hx hb dL_refusesAny_460 (by decide) (fun c460 => absurd (by decide) c460) (fun _ => ?_)
  refine lv_aload_n hx hb dL_refusesAny_463 rfl (lv_at hl 0 rfl) ?_
  refine lv_bipush (v := 9) hx hb dL_refusesAny_464 (by decide) ?_
  refine xo_Vi (As := [.int 9]) (rest := []) hx hb hml hown hts hK hN hZ hP hD hS hA mb_X7_count mw_2_6 mw_2_7 mw_2_8 (k_X7_count l D cI cZ cS x0 xs xv ho0 ho1 pd0 pd1 m0 ts0 ts1 a ha sa cn cs sc tm tv pd sv (0 : Int32) old sz z (9 : Int32) hRS hI) 0 7 rfl rfl (fun _ => xwW_f) (by decide) (by decide) rfl hl.1 rfl (Nat.le_of_ble_eq_true rfl) dL_refusesAny_466 ⟨Nat.zero_le _, Nat.zero_le _⟩ (fun r466 u466 H locs hw hP hD hS => ?_)
  have p466 : r466 = cntR z (0 : Int32) sz (9 : Int32) := hw
  have hP : va_P D vwCl (xwW cI cZ cS x0 xs xv ho0 ho1 pd0 pd1 m0 ts0 ts1 a ha sa cn cs sc tm tv pd sv (0 : Int32) old sz z) H := hP
  have hD : va_D A (xwW cI cZ cS x0 xs xv ho0 ho1 pd0 pd1 m0 ts0 ts1 a ha sa cn cs sc tm tv pd sv (0 : Int32) old sz z) := hD
  refine xk_top (z := (z 7)) (by exact p466.trans (ct_9 _ _ _)) ?_
  refine lv_if_eq (tgt := 514) hx hb dL_refusesAny_469 (by decide) (fun c469 => ?_) (fun c469 => ?_)
  · have t469 : (z 7).toInt = 0 := xi_eq rfl (by decide) c469
    have d469 : (z 7) = 0 := c469
    exact lb_514 l x0 xs xv ho0 ho1 pd0 pd1 m0 ts0 ts1 a ha sa cn cs sc tm tv pd sv old sz z past slots bd p1 no hLI (by first | assumption | omega) (by first | assumption | omega) (by first | assumption | omega) hx hb hr hts hown hlocks hml hK hA hN hZ hQ _ _ hP hD hS ls (lv_sub hl [0, 1, 2, 3] rfl)
  · have t469 : ¬ (z 7).toInt = 0 := xi_ne rfl (by decide) c469
    have d469 : ¬ (z 7) = 0 := c469
    have h70 : 0 < (z 7).toInt := by omega
    refine lv_aload_n hx hb dL_refusesAny_472 rfl (lv_at hl 0 rfl) ?_
    refine lv_iconst (v := 0) hx hb dL_refusesAny_473 (by decide) ?_
    have J485 : ∀ (v477 : Int32) (hv477 : v477 = (-1) ∨ v477 = 4) (H : Heap) (locs : List Loc), va_P D vwCl (xwW cI cZ cS x0 xs xv ho0 ho1 pd0 pd1 m0 ts0 ts1 a ha sa cn cs sc tm tv pd sv (0 : Int32) old sz z) H → va_D A (xwW cI cZ cS x0 xs xv ho0 ho1 pd0 pd1 m0 ts0 ts1 a ha sa cn cs sc tm tv pd sv (0 : Int32) old sz z) → va_S A s.heap H locs → ∀ ls : Array Slot, lv_has ls 5 [(0, .ref x0), (1, .int p1), (2, .int no), (4, .int 1)] → W p l e ({ frames := 7, cells := 0, slots := 0, locals := 159 } : Room) s m args below meth c H locs 0 0 Q (F0 m 485 ls [.int v477, .int 0, .ref x0]) := by
      intro v477 hv477 H locs hP hD hS ls hl
      refine xo_Vi (As := [.int 0, .int v477]) (rest := []) hx hb hml hown hts hK hN hZ hP hD hS hA mb_X7_stretch mw_2_121 mw_2_122 mw_2_123 (k_X7_stretch l D cI cZ cS x0 xs xv ho0 ho1 pd0 pd1 m0 ts0 ts1 a ha sa cn cs sc tm tv pd sv (0 : Int32) old sz z (0 : Int32) v477 hRS hI) 0 7 rfl rfl (fun _ => xwW_f) (by decide) (by decide) rfl hl.1 rfl (Nat.le_of_ble_eq_true rfl) dL_refusesAny_485 ⟨Nat.zero_le _, Nat.zero_le _⟩ (fun r485 u485 H locs hw hP hD hS => ?_)
      have p485 : strA z (0 : Int32) v477 r485 := hw
      have hP : va_P D vwCl (xwW cI cZ cS x0 xs xv ho0 ho1 pd0 pd1 m0 ts0 ts1 a ha sa cn cs sc tm tv pd sv (0 : Int32) old sz z) H := hP
      have hD : va_D A (xwW cI cZ cS x0 xs xv ho0 ho1 pd0 pd1 m0 ts0 ts1 a ha sa cn cs sc tm tv pd sv (0 : Int32) old sz z) := hD
      refine xk_top (z := (-2)) (by exact st_bad (str0 h70) (by rcases hv477 with h9 | h9 <;> rw [h9] <;> decide) p485) ?_
      refine lv_bipush (v := (-2)) hx hb dL_refusesAny_488 (by decide) ?_
      refine lv_icmp_ne (tgt := 631) hx hb dL_refusesAny_490 (by decide) (fun c490 => absurd (by decide) c490) (fun _ => ?_)
      refine lv_aload_n hx hb dL_refusesAny_493 rfl (lv_at hl 0 rfl) ?_
      refine lv_iconst (v := 0) hx hb dL_refusesAny_494 (by decide) ?_
      have J506 : ∀ (v498 : Int32) (hv498 : v498 = (-1) ∨ v498 = 2) (H : Heap) (locs : List Loc), va_P D vwCl (xwW cI cZ cS x0 xs xv ho0 ho1 pd0 pd1 m0 ts0 ts1 a ha sa cn cs sc tm tv pd sv (0 : Int32) old sz z) H → va_D A (xwW cI cZ cS x0 xs xv ho0 ho1 pd0 pd1 m0 ts0 ts1 a ha sa cn cs sc tm tv pd sv (0 : Int32) old sz z) → va_S A s.heap H locs → ∀ ls : Array Slot, lv_has ls 5 [(0, .ref x0), (1, .int p1), (2, .int no), (4, .int 1)] → W p l e ({ frames := 7, cells := 0, slots := 0, locals := 159 } : Room) s m args below meth c H locs 0 0 Q (F0 m 506 ls [.int v498, .int 0, .ref x0]) := by
        intro v498 hv498 H locs hP hD hS ls hl
        refine xo_Vi (As := [.int 0, .int v498]) (rest := []) hx hb hml hown hts hK hN hZ hP hD hS hA mb_X7_meets mw_2_161 mw_2_162 mw_2_163 (k_X7_meets l D cI cZ cS x0 xs xv ho0 ho1 pd0 pd1 m0 ts0 ts1 a ha sa cn cs sc tm tv pd sv (0 : Int32) old sz z (0 : Int32) v498 hRS hI) 0 7 rfl rfl (fun _ => xwW_f) (by decide) (by decide) rfl hl.1 rfl (Nat.le_of_ble_eq_true rfl) dL_refusesAny_506 ⟨Nat.zero_le _, Nat.zero_le _⟩ (fun r506 u506 H locs hw hP hD hS => ?_)
        have p506 : meetA z (0 : Int32) v498 r506 := hw
        have hP : va_P D vwCl (xwW cI cZ cS x0 xs xv ho0 ho1 pd0 pd1 m0 ts0 ts1 a ha sa cn cs sc tm tv pd sv (0 : Int32) old sz z) H := hP
        have hD : va_D A (xwW cI cZ cS x0 xs xv ho0 ho1 pd0 pd1 m0 ts0 ts1 a ha sa cn cs sc tm tv pd sv (0 : Int32) old sz z) := hD
        refine xk_top (z := (-2)) (by exact mt_bad (str0 h70) (by rcases hv498 with h9 | h9 <;> rw [h9] <;> decide) p506) ?_
        refine lv_bipush (v := (-2)) hx hb dL_refusesAny_509 (by decide) ?_
        refine lv_icmp_ne (tgt := 631) hx hb dL_refusesAny_511 (by decide) (fun c511 => absurd (by decide) c511) (fun _ => ?_)
        exact lb_514 l x0 xs xv ho0 ho1 pd0 pd1 m0 ts0 ts1 a ha sa cn cs sc tm tv pd sv old sz z past slots bd p1 no hLI (by first | assumption | omega) (by first | assumption | omega) (by first | assumption | omega) hx hb hr hts hown hlocks hml hK hA hN hZ hQ _ _ hP hD hS ls (lv_sub hl [0, 1, 2, 3] rfl)
      refine lv_iload_n hx hb dL_refusesAny_495 rfl (lv_at hl 1 rfl) ?_
      refine lv_iconst (v := 2) hx hb dL_refusesAny_496 (by decide) ?_
      refine lv_irem hx hb dL_refusesAny_497 (by decide) ?_
      refine lv_topi (fun x497 e497 => ?_)
      have t497 : x497.toInt = p1.toInt % 2 := by rw [e497]; exact xi_rem rfl (by decide) (by omega) (by omega)
      refine lv_if_ne (tgt := 505) hx hb dL_refusesAny_498 (by decide) (fun c498 => ?_) (fun c498 => ?_)
      · have t498 : ¬ x497.toInt = 0 := xi_ne rfl (by decide) c498
        have d498 : ¬ x497 = 0 := c498
        refine lv_iconst (v := 2) hx hb dL_refusesAny_505 (by decide) ?_
        exact J506 (2 : Int32) (by first | exact Or.inl rfl | exact Or.inr rfl) _ _ hP hD hS ls (lv_sub hl [0, 1, 2, 3] rfl)
      · have t498 : x497.toInt = 0 := xi_eq rfl (by decide) c498
        have d498 : x497 = 0 := c498
        refine lv_iconst (v := (-1)) hx hb dL_refusesAny_501 (by decide) ?_
        refine lv_goto (tgt := 506) hx hb dL_refusesAny_502 (by decide) ?_
        exact J506 (-1 : Int32) (by first | exact Or.inl rfl | exact Or.inr rfl) _ _ hP hD hS ls (lv_sub hl [0, 1, 2, 3] rfl)
    refine lv_iload_n hx hb dL_refusesAny_474 rfl (lv_at hl 1 rfl) ?_
    refine lv_iconst (v := 2) hx hb dL_refusesAny_475 (by decide) ?_
    refine lv_irem hx hb dL_refusesAny_476 (by decide) ?_
    refine lv_topi (fun x476 e476 => ?_)
    have t476 : x476.toInt = p1.toInt % 2 := by rw [e476]; exact xi_rem rfl (by decide) (by omega) (by omega)
    refine lv_if_ne (tgt := 484) hx hb dL_refusesAny_477 (by decide) (fun c477 => ?_) (fun c477 => ?_)
    · have t477 : ¬ x476.toInt = 0 := xi_ne rfl (by decide) c477
      have d477 : ¬ x476 = 0 := c477
      refine lv_iconst (v := 4) hx hb dL_refusesAny_484 (by decide) ?_
      exact J485 (4 : Int32) (by first | exact Or.inl rfl | exact Or.inr rfl) _ _ hP hD hS ls (lv_sub hl [0, 1, 2, 3] rfl)
    · have t477 : x476.toInt = 0 := xi_eq rfl (by decide) c477
      have d477 : x476 = 0 := c477
      refine lv_iconst (v := (-1)) hx hb dL_refusesAny_480 (by decide) ?_
      refine lv_goto (tgt := 485) hx hb dL_refusesAny_481 (by decide) ?_
      exact J485 (-1 : Int32) (by first | exact Or.inl rfl | exact Or.inr rfl) _ _ hP hD hS ls (lv_sub hl [0, 1, 2, 3] rfl)

set_option maxHeartbeats 4000000 in
set_option maxRecDepth 100000 in
theorem lb_345 {p : Program} {e : Env} {s : State} {m : MethodId} {below : List Frame} {meth : Method} {c : Code} (l : Launch) {args : Array Value} {A : Nat → Prop} {Q : State → Prop} {D : va_G} {cI cZ cS : ClassId} (x0 : Nat) (xs : Nat) (xv : Nat) (ho0 : Nat) (ho1 : Nat) (pd0 : Nat) (pd1 : Nat) (m0 : Nat) (ts0 : Nat) (ts1 : Nat) (a : Nat → Nat) (ha : Nat → Nat → Nat) (sa : Nat → Nat → Nat) (cn : Nat → Nat → Int32) (cs : Nat → Nat → Nat → Int32) (sc : Nat → Nat → Nat → Int32) (tm : Nat → Int32) (tv : Nat → Int32) (pd : Nat → Int32) (sv : Nat → Int32) (old : Int32) (sz : Int32) (z : Nat → Int32) (past : Nat → Int32) (slots : Nat → Int32) (bd : Int) (p1 : Int32) (no : Int32) (hLI : LI bd cn cs sc sv (0 : Int32) old sz z past slots) (hbd : bd ≤ 100000) (hp1 : 0 ≤ p1.toInt) (hno : no.toInt < 0 ∨ 12 ≤ no.toInt) (hx : p.tables.exec = Jvm.exec) (hb : c.code = cL_refusesAny) (hr : meth.sig.returnType = (some .boolean)) (hts : ∀ w ∈ Cond.code yL_refusesAny cL_refusesAny 5 (some .boolean) :: wsL_law, w.before args s = true) (hown : s.vm.findClass yL_refusesAny.cls = some m.cls) (hlocks : meth.locks = false) (hml : c.maxLocals = 5) (hK : va_K D vwCl (xTy cI cZ cS) s) (hA : ∀ q : Nat, s.heap.size ≤ q → A q) (hN : xN s) (hZ : xZ A s) (hQ : Q = MQ below (va_Qi (fun (r : Int32) (u : (Nat → Int32)) => r = (1 : Int32)) (fun u t => va_P D vwCl ((fun (u : (Nat → Int32)) => (xwW cI cZ cS x0 xs xv ho0 ho1 pd0 pd1 m0 ts0 ts1 a ha sa cn cs sc u tv pd sv (0 : Int32) old sz z)) u) t.heap) A) args s 0 0 A) (H : Heap) (locs : List Loc) (hP : va_P D vwCl (xwW cI cZ cS x0 xs xv ho0 ho1 pd0 pd1 m0 ts0 ts1 a ha sa cn cs sc tm tv pd sv (0 : Int32) old sz z) H) (hD : va_D A (xwW cI cZ cS x0 xs xv ho0 ho1 pd0 pd1 m0 ts0 ts1 a ha sa cn cs sc tm tv pd sv (0 : Int32) old sz z)) (hS : va_S A s.heap H locs) (ls : Array Slot) (hl : lv_has ls 5 [(0, .ref x0), (1, .int p1), (2, .int no), (4, .int 1)]) : W p l e ({ frames := 7, cells := 0, slots := 0, locals := 159 } : Room) s m args below meth c H locs 0 0 Q (F0 m 345 ls []) := by
  obtain ⟨hRS, hI, hBD, ⟨hold, hszz, hlnn⟩, hmcs, hmsc, hRH, hRL⟩ := id hLI
  obtain ⟨⟨hb74, hb74u⟩, ⟨hb86, hb86u⟩, hIP⟩ := id hBD
  have hs0 : (1 ≤ (z 0).toInt ∧ (z 0).toInt ≤ 9) ∧ (0 ≤ (z 1).toInt ∧ (z 1).toInt ≤ 9) ∧ (1 ≤ (z 2).toInt ∧ (z 2).toInt ≤ 9) ∧ (1 ≤ (z 3).toInt ∧ (z 3).toInt ≤ 20) ∧ (2 ≤ (z 5).toInt ∧ (z 5).toInt ≤ 9) := hI.1
  have hg6 : 0 ≤ (z 6).toInt ∧ (z 6).toInt ≤ 10 := hI.2.1.1
  have hr7 : 0 ≤ (z 7).toInt ∧ (z 7).toInt ≤ 12 := hI.2.2.1.1
  have z0 : (0 : Int32).toInt = 0 := by decide
  refine lv_iload hx hb dL_refusesAny_345 (lv_at hl 3 rfl) ?_
  refine lv_if_eq (tgt := 631) hx hb dL_refusesAny_347 (by decide) (fun c347 => absurd c347 (by decide)) (fun _ => ?_)
  refine lv_aload_n hx hb dL_refusesAny_350 rfl (lv_at hl 0 rfl) ?_
  refine lv_iload_n hx hb dL_refusesAny_351 rfl (lv_at hl 2 rfl) ?_
  refine lv_bipush (v := 9) hx hb dL_refusesAny_352 (by decide) ?_
  refine xo_Vi (As := [.int no, .int 9]) (rest := []) hx hb hml hown hts hK hN hZ hP hD hS hA mb_X7_line mw_2_150 mw_2_151 mw_2_152 (k_X7_line l D cI cZ cS x0 xs xv ho0 ho1 pd0 pd1 m0 ts0 ts1 a ha sa cn cs sc tm tv pd sv (0 : Int32) old sz z no (9 : Int32) hRS hI) 0 7 rfl rfl (fun _ => xwW_f) (by decide) (by decide) rfl hl.1 rfl (Nat.le_of_ble_eq_true rfl) dL_refusesAny_354 ⟨Nat.zero_le _, Nat.zero_le _⟩ (fun r354 u354 H locs hw hP hD hS => ?_)
  have p354 : r354 = lineR z no (9 : Int32) := hw
  have hP : va_P D vwCl (xwW cI cZ cS x0 xs xv ho0 ho1 pd0 pd1 m0 ts0 ts1 a ha sa cn cs sc tm tv pd sv (0 : Int32) old sz z) H := hP
  have hD : va_D A (xwW cI cZ cS x0 xs xv ho0 ho1 pd0 pd1 m0 ts0 ts1 a ha sa cn cs sc tm tv pd sv (0 : Int32) old sz z) := hD
  refine xk_top (z := (-1)) (by exact p354.trans (ln_no (fun c8 => by have := c8.1; have := c8.2; omega))) ?_
  refine lv_iconst (v := (-1)) hx hb dL_refusesAny_357 (by decide) ?_
  refine lv_icmp_ne (tgt := 631) hx hb dL_refusesAny_358 (by decide) (fun c358 => absurd (by decide) c358) (fun _ => ?_)
  refine lv_aload_n hx hb dL_refusesAny_361 rfl (lv_at hl 0 rfl) ?_
  refine lv_aload_n hx hb dL_refusesAny_362 rfl (lv_at hl 0 rfl) ?_
  refine lv_bipush (v := 6) hx hb dL_refusesAny_363 (by decide) ?_
  refine xo_Vi (As := [.int 6]) (rest := [.ref x0]) hx hb hml hown hts hK hN hZ hP hD hS hA mb_X7_count mw_2_6 mw_2_7 mw_2_8 (k_X7_count l D cI cZ cS x0 xs xv ho0 ho1 pd0 pd1 m0 ts0 ts1 a ha sa cn cs sc tm tv pd sv (0 : Int32) old sz z (6 : Int32) hRS hI) 0 7 rfl rfl (fun _ => xwW_f) (by decide) (by decide) rfl hl.1 rfl (Nat.le_of_ble_eq_true rfl) dL_refusesAny_365 ⟨Nat.zero_le _, Nat.zero_le _⟩ (fun r365 u365 H locs hw hP hD hS => ?_)
  have p365 : r365 = cntR z (0 : Int32) sz (6 : Int32) := hw
  have hP : va_P D vwCl (xwW cI cZ cS x0 xs xv ho0 ho1 pd0 pd1 m0 ts0 ts1 a ha sa cn cs sc tm tv pd sv (0 : Int32) old sz z) H := hP
  have hD : va_D A (xwW cI cZ cS x0 xs xv ho0 ho1 pd0 pd1 m0 ts0 ts1 a ha sa cn cs sc tm tv pd sv (0 : Int32) old sz z) := hD
  refine xk_top (z := (z 6)) (by exact p365.trans (ct_6 _ _ _)) ?_
  refine lv_iconst (v := 0) hx hb dL_refusesAny_368 (by decide) ?_
  refine xo_Vi (As := [.int (z 6), .int 0]) (rest := []) hx hb hml hown hts hK hN hZ hP hD hS hA mb_X7_line mw_2_150 mw_2_151 mw_2_152 (k_X7_line l D cI cZ cS x0 xs xv ho0 ho1 pd0 pd1 m0 ts0 ts1 a ha sa cn cs sc tm tv pd sv (0 : Int32) old sz z (z 6) (0 : Int32) hRS hI) 0 7 rfl rfl (fun _ => xwW_f) (by decide) (by decide) rfl hl.1 rfl (Nat.le_of_ble_eq_true rfl) dL_refusesAny_369 ⟨Nat.zero_le _, Nat.zero_le _⟩ (fun r369 u369 H locs hw hP hD hS => ?_)
  have p369 : r369 = lineR z (z 6) (0 : Int32) := hw
  have hP : va_P D vwCl (xwW cI cZ cS x0 xs xv ho0 ho1 pd0 pd1 m0 ts0 ts1 a ha sa cn cs sc tm tv pd sv (0 : Int32) old sz z) H := hP
  have hD : va_D A (xwW cI cZ cS x0 xs xv ho0 ho1 pd0 pd1 m0 ts0 ts1 a ha sa cn cs sc tm tv pd sv (0 : Int32) old sz z) := hD
  refine xk_top (z := (-1)) (by exact p369.trans (ln_no (fun c8 => by have := c8.1; have := c8.2; omega))) ?_
  refine lv_iconst (v := (-1)) hx hb dL_refusesAny_372 (by decide) ?_
  refine lv_icmp_ne (tgt := 631) hx hb dL_refusesAny_373 (by decide) (fun c373 => absurd (by decide) c373) (fun _ => ?_)
  refine lv_aload_n hx hb dL_refusesAny_376 rfl (lv_at hl 0 rfl) ?_
  refine lv_bipush (v := 6) hx hb dL_refusesAny_377 (by decide) ?_
  refine xo_Vi (As := [.int 6]) (rest := []) hx hb hml hown hts hK hN hZ hP hD hS hA mb_X7_count mw_2_6 mw_2_7 mw_2_8 (k_X7_count l D cI cZ cS x0 xs xv ho0 ho1 pd0 pd1 m0 ts0 ts1 a ha sa cn cs sc tm tv pd sv (0 : Int32) old sz z (6 : Int32) hRS hI) 0 7 rfl rfl (fun _ => xwW_f) (by decide) (by decide) rfl hl.1 rfl (Nat.le_of_ble_eq_true rfl) dL_refusesAny_379 ⟨Nat.zero_le _, Nat.zero_le _⟩ (fun r379 u379 H locs hw hP hD hS => ?_)
  have p379 : r379 = cntR z (0 : Int32) sz (6 : Int32) := hw
  have hP : va_P D vwCl (xwW cI cZ cS x0 xs xv ho0 ho1 pd0 pd1 m0 ts0 ts1 a ha sa cn cs sc tm tv pd sv (0 : Int32) old sz z) H := hP
  have hD : va_D A (xwW cI cZ cS x0 xs xv ho0 ho1 pd0 pd1 m0 ts0 ts1 a ha sa cn cs sc tm tv pd sv (0 : Int32) old sz z) := hD
  refine xk_top (z := (z 6)) (by exact p379.trans (ct_6 _ _ _)) ?_
  refine lv_if_eq (tgt := 440) hx hb dL_refusesAny_382 (by decide) (fun c382 => ?_) (fun c382 => ?_)
  · have t382 : (z 6).toInt = 0 := xi_eq rfl (by decide) c382
    have d382 : (z 6) = 0 := c382
    exact lb_440 l x0 xs xv ho0 ho1 pd0 pd1 m0 ts0 ts1 a ha sa cn cs sc tm tv pd sv old sz z past slots bd p1 no hLI (by first | assumption | omega) (by first | assumption | omega) (by first | assumption | omega) hx hb hr hts hown hlocks hml hK hA hN hZ hQ _ _ hP hD hS ls (lv_sub hl [0, 1, 2, 3] rfl)
  · have t382 : ¬ (z 6).toInt = 0 := xi_ne rfl (by decide) c382
    have d382 : ¬ (z 6) = 0 := c382
    have h60 : 0 < (z 6).toInt := by omega
    refine lv_aload_n hx hb dL_refusesAny_385 rfl (lv_at hl 0 rfl) ?_
    refine lv_iconst (v := 0) hx hb dL_refusesAny_386 (by decide) ?_
    have J398 : ∀ (v390 : Int32) (hv390 : v390 = (-1) ∨ v390 = 4) (H : Heap) (locs : List Loc), va_P D vwCl (xwW cI cZ cS x0 xs xv ho0 ho1 pd0 pd1 m0 ts0 ts1 a ha sa cn cs sc tm tv pd sv (0 : Int32) old sz z) H → va_D A (xwW cI cZ cS x0 xs xv ho0 ho1 pd0 pd1 m0 ts0 ts1 a ha sa cn cs sc tm tv pd sv (0 : Int32) old sz z) → va_S A s.heap H locs → ∀ ls : Array Slot, lv_has ls 5 [(0, .ref x0), (1, .int p1), (2, .int no), (4, .int 1)] → W p l e ({ frames := 7, cells := 0, slots := 0, locals := 159 } : Room) s m args below meth c H locs 0 0 Q (F0 m 398 ls [.int v390, .int 0, .ref x0]) := by
      intro v390 hv390 H locs hP hD hS ls hl
      refine xo_Vi (As := [.int 0, .int v390]) (rest := []) hx hb hml hown hts hK hN hZ hP hD hS hA mb_X7_line mw_2_150 mw_2_151 mw_2_152 (k_X7_line l D cI cZ cS x0 xs xv ho0 ho1 pd0 pd1 m0 ts0 ts1 a ha sa cn cs sc tm tv pd sv (0 : Int32) old sz z (0 : Int32) v390 hRS hI) 0 7 rfl rfl (fun _ => xwW_f) (by decide) (by decide) rfl hl.1 rfl (Nat.le_of_ble_eq_true rfl) dL_refusesAny_398 ⟨Nat.zero_le _, Nat.zero_le _⟩ (fun r398 u398 H locs hw hP hD hS => ?_)
      have p398 : r398 = lineR z (0 : Int32) v390 := hw
      have hP : va_P D vwCl (xwW cI cZ cS x0 xs xv ho0 ho1 pd0 pd1 m0 ts0 ts1 a ha sa cn cs sc tm tv pd sv (0 : Int32) old sz z) H := hP
      have hD : va_D A (xwW cI cZ cS x0 xs xv ho0 ho1 pd0 pd1 m0 ts0 ts1 a ha sa cn cs sc tm tv pd sv (0 : Int32) old sz z) := hD
      refine xk_top (z := (-2)) (by exact p398.trans (ln_bad (line0 h60) (by rcases hv390 with h9 | h9 <;> rw [h9] <;> decide))) ?_
      refine lv_bipush (v := (-2)) hx hb dL_refusesAny_401 (by decide) ?_
      refine lv_icmp_ne (tgt := 631) hx hb dL_refusesAny_403 (by decide) (fun c403 => absurd (by decide) c403) (fun _ => ?_)
      refine lv_aload_n hx hb dL_refusesAny_406 rfl (lv_at hl 0 rfl) ?_
      refine lv_iconst (v := 0) hx hb dL_refusesAny_407 (by decide) ?_
      refine lv_iconst (v := 0) hx hb dL_refusesAny_408 (by decide) ?_
      have J420 : ∀ (v412 : Int32) (hv412 : v412 = (-1) ∨ v412 = 2) (H : Heap) (locs : List Loc), va_P D vwCl (xwW cI cZ cS x0 xs xv ho0 ho1 pd0 pd1 m0 ts0 ts1 a ha sa cn cs sc tm tv pd sv (0 : Int32) old sz z) H → va_D A (xwW cI cZ cS x0 xs xv ho0 ho1 pd0 pd1 m0 ts0 ts1 a ha sa cn cs sc tm tv pd sv (0 : Int32) old sz z) → va_S A s.heap H locs → ∀ ls : Array Slot, lv_has ls 5 [(0, .ref x0), (1, .int p1), (2, .int no), (4, .int 1)] → W p l e ({ frames := 7, cells := 0, slots := 0, locals := 159 } : Room) s m args below meth c H locs 0 0 Q (F0 m 420 ls [.int v412, .int 0, .int 0, .ref x0]) := by
        intro v412 hv412 H locs hP hD hS ls hl
        refine xo_Vi (As := [.int 0, .int 0, .int v412]) (rest := []) hx hb hml hown hts hK hN hZ hP hD hS hA mb_X7_foot mw_2_140 mw_2_141 mw_2_142 (k_X7_foot l D cI cZ cS x0 xs xv ho0 ho1 pd0 pd1 m0 ts0 ts1 a ha sa cn cs sc tm tv pd sv (0 : Int32) old sz z (0 : Int32) (0 : Int32) v412 hRS hI) 0 7 rfl rfl (fun _ => xwW_f) (by decide) (by decide) rfl hl.1 rfl (Nat.le_of_ble_eq_true rfl) dL_refusesAny_420 ⟨Nat.zero_le _, Nat.zero_le _⟩ (fun r420 u420 H locs hw hP hD hS => ?_)
        have p420 : r420 = footR z (0 : Int32) (0 : Int32) v412 := hw
        have hP : va_P D vwCl (xwW cI cZ cS x0 xs xv ho0 ho1 pd0 pd1 m0 ts0 ts1 a ha sa cn cs sc tm tv pd sv (0 : Int32) old sz z) H := hP
        have hD : va_D A (xwW cI cZ cS x0 xs xv ho0 ho1 pd0 pd1 m0 ts0 ts1 a ha sa cn cs sc tm tv pd sv (0 : Int32) old sz z) := hD
        refine xk_top (z := (-2)) (by exact p420.trans (ft_bad (foot00 hI.2.1 h60) (by rcases hv412 with h9 | h9 <;> rw [h9] <;> decide))) ?_
        refine lv_bipush (v := (-2)) hx hb dL_refusesAny_423 (by decide) ?_
        refine lv_icmp_ne (tgt := 631) hx hb dL_refusesAny_425 (by decide) (fun c425 => absurd (by decide) c425) (fun _ => ?_)
        refine lv_aload_n hx hb dL_refusesAny_428 rfl (lv_at hl 0 rfl) ?_
        refine lv_iconst (v := 0) hx hb dL_refusesAny_429 (by decide) ?_
        refine lv_iload_n hx hb dL_refusesAny_430 rfl (lv_at hl 2 rfl) ?_
        refine lv_bipush (v := 9) hx hb dL_refusesAny_431 (by decide) ?_
        refine xo_Vi (As := [.int 0, .int no, .int 9]) (rest := []) hx hb hml hown hts hK hN hZ hP hD hS hA mb_X7_foot mw_2_140 mw_2_141 mw_2_142 (k_X7_foot l D cI cZ cS x0 xs xv ho0 ho1 pd0 pd1 m0 ts0 ts1 a ha sa cn cs sc tm tv pd sv (0 : Int32) old sz z (0 : Int32) no (9 : Int32) hRS hI) 0 7 rfl rfl (fun _ => xwW_f) (by decide) (by decide) rfl hl.1 rfl (Nat.le_of_ble_eq_true rfl) dL_refusesAny_433 ⟨Nat.zero_le _, Nat.zero_le _⟩ (fun r433 u433 H locs hw hP hD hS => ?_)
        have p433 : r433 = footR z (0 : Int32) no (9 : Int32) := hw
        have hP : va_P D vwCl (xwW cI cZ cS x0 xs xv ho0 ho1 pd0 pd1 m0 ts0 ts1 a ha sa cn cs sc tm tv pd sv (0 : Int32) old sz z) H := hP
        have hD : va_D A (xwW cI cZ cS x0 xs xv ho0 ho1 pd0 pd1 m0 ts0 ts1 a ha sa cn cs sc tm tv pd sv (0 : Int32) old sz z) := hD
        refine xk_top (z := (-1)) (by exact p433.trans (ft_no (foot0no hI.2.1 (by omega)))) ?_
        refine lv_iconst (v := (-1)) hx hb dL_refusesAny_436 (by decide) ?_
        refine lv_icmp_ne (tgt := 631) hx hb dL_refusesAny_437 (by decide) (fun c437 => absurd (by decide) c437) (fun _ => ?_)
        exact lb_440 l x0 xs xv ho0 ho1 pd0 pd1 m0 ts0 ts1 a ha sa cn cs sc tm tv pd sv old sz z past slots bd p1 no hLI (by first | assumption | omega) (by first | assumption | omega) (by first | assumption | omega) hx hb hr hts hown hlocks hml hK hA hN hZ hQ _ _ hP hD hS ls (lv_sub hl [0, 1, 2, 3] rfl)
      refine lv_iload_n hx hb dL_refusesAny_409 rfl (lv_at hl 1 rfl) ?_
      refine lv_iconst (v := 2) hx hb dL_refusesAny_410 (by decide) ?_
      refine lv_irem hx hb dL_refusesAny_411 (by decide) ?_
      refine lv_topi (fun x411 e411 => ?_)
      have t411 : x411.toInt = p1.toInt % 2 := by rw [e411]; exact xi_rem rfl (by decide) (by omega) (by omega)
      refine lv_if_ne (tgt := 419) hx hb dL_refusesAny_412 (by decide) (fun c412 => ?_) (fun c412 => ?_)
      · have t412 : ¬ x411.toInt = 0 := xi_ne rfl (by decide) c412
        have d412 : ¬ x411 = 0 := c412
        refine lv_iconst (v := 2) hx hb dL_refusesAny_419 (by decide) ?_
        exact J420 (2 : Int32) (by first | exact Or.inl rfl | exact Or.inr rfl) _ _ hP hD hS ls (lv_sub hl [0, 1, 2, 3] rfl)
      · have t412 : x411.toInt = 0 := xi_eq rfl (by decide) c412
        have d412 : x411 = 0 := c412
        refine lv_iconst (v := (-1)) hx hb dL_refusesAny_415 (by decide) ?_
        refine lv_goto (tgt := 420) hx hb dL_refusesAny_416 (by decide) ?_
        exact J420 (-1 : Int32) (by first | exact Or.inl rfl | exact Or.inr rfl) _ _ hP hD hS ls (lv_sub hl [0, 1, 2, 3] rfl)
    refine lv_iload_n hx hb dL_refusesAny_387 rfl (lv_at hl 1 rfl) ?_
    refine lv_iconst (v := 2) hx hb dL_refusesAny_388 (by decide) ?_
    refine lv_irem hx hb dL_refusesAny_389 (by decide) ?_
    refine lv_topi (fun x389 e389 => ?_)
    have t389 : x389.toInt = p1.toInt % 2 := by rw [e389]; exact xi_rem rfl (by decide) (by omega) (by omega)
    refine lv_if_ne (tgt := 397) hx hb dL_refusesAny_390 (by decide) (fun c390 => ?_) (fun c390 => ?_)
    · have t390 : ¬ x389.toInt = 0 := xi_ne rfl (by decide) c390
      have d390 : ¬ x389 = 0 := c390
      refine lv_iconst (v := 4) hx hb dL_refusesAny_397 (by decide) ?_
      exact J398 (4 : Int32) (by first | exact Or.inl rfl | exact Or.inr rfl) _ _ hP hD hS ls (lv_sub hl [0, 1, 2, 3] rfl)
    · have t390 : x389.toInt = 0 := xi_eq rfl (by decide) c390
      have d390 : x389 = 0 := c390
      refine lv_iconst (v := (-1)) hx hb dL_refusesAny_393 (by decide) ?_
      refine lv_goto (tgt := 398) hx hb dL_refusesAny_394 (by decide) ?_
      exact J398 (-1 : Int32) (by first | exact Or.inl rfl | exact Or.inr rfl) _ _ hP hD hS ls (lv_sub hl [0, 1, 2, 3] rfl)
