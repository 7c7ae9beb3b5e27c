set_option maxHeartbeats 4000000 in
set_option maxRecDepth 100000 in
theorem lb_293 {p : Program} {e : Env} {s : State} {m : MethodId} {below : List Frame} {meth : Method} {c : Code} (l : Launch) {args : Array Value} {A : Nat → Prop} {Q : State → Prop} {D : va_G} {cI cZ cS : ClassId} (x0 : Nat) (xs : Nat) (xv : Nat) (ho0 : Nat) (ho1 : Nat) (pd0 : Nat) (pd1 : Nat) (m0 : Nat) (ts0 : Nat) (ts1 : Nat) (a : Nat → Nat) (ha : Nat → Nat → Nat) (sa : Nat → Nat → Nat) (cn : Nat → Nat → Int32) (cs : Nat → Nat → Nat → Int32) (sc : Nat → Nat → Nat → Int32) (tm : Nat → Int32) (tv : Nat → Int32) (pd : Nat → Int32) (sv : Nat → Int32) (old : Int32) (sz : Int32) (z : Nat → Int32) (past : Nat → Int32) (slots : Nat → Int32) (bd : Int) (p1 : Int32) (no : Int32) (b : Int32) (hLI : LI bd cn cs sc sv (0 : Int32) old sz z past slots) (hbd : bd ≤ 100000) (hp1 : 0 ≤ p1.toInt) (hno : no.toInt < 0 ∨ 12 ≤ no.toInt) (hb47 : (b.toInt = 1 ∧ canZ z) ∨ (b.toInt = 0 ∧ ¬ canZ z)) (hx : p.tables.exec = Jvm.exec) (hb : c.code = cL_refusesAny) (hr : meth.sig.returnType = (some .boolean)) (hts : ∀ w ∈ Cond.code yL_refusesAny cL_refusesAny 5 (some .boolean) :: wsL_law, w.before args s = true) (hown : s.vm.findClass yL_refusesAny.cls = some m.cls) (hlocks : meth.locks = false) (hml : c.maxLocals = 5) (hK : va_K D vwCl (xTy cI cZ cS) s) (hA : ∀ q : Nat, s.heap.size ≤ q → A q) (hN : xN s) (hZ : xZ A s) (hQ : Q = MQ below (va_Qi (fun (r : Int32) (u : (Nat → Int32)) => r = (1 : Int32)) (fun u t => va_P D vwCl ((fun (u : (Nat → Int32)) => (xwW cI cZ cS x0 xs xv ho0 ho1 pd0 pd1 m0 ts0 ts1 a ha sa cn cs sc u tv pd sv (0 : Int32) old sz z)) u) t.heap) A) args s 0 0 A) (H : Heap) (locs : List Loc) (hP : va_P D vwCl (xwW cI cZ cS x0 xs xv ho0 ho1 pd0 pd1 m0 ts0 ts1 a ha sa cn cs sc tm tv pd sv (0 : Int32) old sz z) H) (hD : va_D A (xwW cI cZ cS x0 xs xv ho0 ho1 pd0 pd1 m0 ts0 ts1 a ha sa cn cs sc tm tv pd sv (0 : Int32) old sz z)) (hS : va_S A s.heap H locs) (ls : Array Slot) (hl : lv_has ls 5 [(0, .ref x0), (1, .int p1), (2, .int no), (3, .int b)]) : W p l e ({ frames := 7, cells := 0, slots := 0, locals := 159 } : Room) s m args below meth c H locs 0 0 Q (F0 m 293 ls []) := by
  obtain ⟨hRS, hI, hBD, ⟨hold, hszz, hlnn⟩, hmcs, hmsc, hRH, hRL⟩ := id hLI
  obtain ⟨⟨hb74, hb74u⟩, ⟨hb86, hb86u⟩, hIP⟩ := id hBD
  have hs0 : (1 ≤ (z 0).toInt ∧ (z 0).toInt ≤ 9) ∧ (0 ≤ (z 1).toInt ∧ (z 1).toInt ≤ 9) ∧ (1 ≤ (z 2).toInt ∧ (z 2).toInt ≤ 9) ∧ (1 ≤ (z 3).toInt ∧ (z 3).toInt ≤ 20) ∧ (2 ≤ (z 5).toInt ∧ (z 5).toInt ≤ 9) := hI.1
  have hg6 : 0 ≤ (z 6).toInt ∧ (z 6).toInt ≤ 10 := hI.2.1.1
  have hr7 : 0 ≤ (z 7).toInt ∧ (z 7).toInt ≤ 12 := hI.2.2.1.1
  have z0 : (0 : Int32).toInt = 0 := by decide
  refine lv_aload_n hx hb dL_refusesAny_293 rfl (lv_at hl 0 rfl) ?_
  have J307 : ∀ (v297 : Int32) (hv297 : v297 = 0 ∨ v297 = 501) (H : Heap) (locs : List Loc), va_P D vwCl (xwW cI cZ cS x0 xs xv ho0 ho1 pd0 pd1 m0 ts0 ts1 a ha sa cn cs sc tm tv pd sv (0 : Int32) old sz z) H → va_D A (xwW cI cZ cS x0 xs xv ho0 ho1 pd0 pd1 m0 ts0 ts1 a ha sa cn cs sc tm tv pd sv (0 : Int32) old sz z) → va_S A s.heap H locs → ∀ ls : Array Slot, lv_has ls 5 [(0, .ref x0), (1, .int p1), (2, .int no), (3, .int b)] → W p l e ({ frames := 7, cells := 0, slots := 0, locals := 159 } : Room) s m args below meth c H locs 0 0 Q (F0 m 307 ls [.int v297, .ref x0]) := by
    intro v297 hv297 H locs hP hD hS ls hl
    refine xo_Vi (As := [.int v297]) (rest := []) hx hb hml hown hts hK hN hZ hP hD hS hA mb_X7_march mw_3_33 mw_3_34 mw_3_35 (k_X7_march l D cI cZ cS x0 xs xv ho0 ho1 pd0 pd1 m0 ts0 ts1 a ha sa cn cs sc tm tv pd sv (0 : Int32) old sz z v297 hRS hI hold hszz ⟨hb74, by omega⟩) 0 7 rfl rfl (fun _ => xwW_f) (by decide) (by decide) rfl hl.1 rfl (Nat.le_of_ble_eq_true rfl) dL_refusesAny_307 ⟨Nat.zero_le _, Nat.zero_le _⟩ (fun r307 u307 H locs hw hP hD hS => ?_)
    obtain ⟨cq_307, zq_307, old1_307, sz1_307, cs1_307⟩ := u307
    have p307 : marchA z v297 r307 ∧ ((marchC z v297 ∧ Chg cn z old sz cs (walkZ v297.toInt.toNat z) cq_307 zq_307 old1_307 sz1_307 cs1_307) ∨ (¬ marchC z v297 ∧ Same cn z old sz cs cq_307 zq_307 old1_307 sz1_307 cs1_307)) := hw
    have hP : va_P D vwCl (xwW cI cZ cS x0 xs xv ho0 ho1 pd0 pd1 m0 ts0 ts1 a ha sa cq_307 cs1_307 sc tm tv pd sv (0 : Int32) old1_307 sz1_307 zq_307) H := hP
    have hD : va_D A (xwW cI cZ cS x0 xs xv ho0 ho1 pd0 pd1 m0 ts0 ts1 a ha sa cq_307 cs1_307 sc tm tv pd sv (0 : Int32) old1_307 sz1_307 zq_307) := hD
    have w307 : r307 = -2 ∧ cq_307 = cn ∧ zq_307 = z ∧ old1_307 = old ∧ sz1_307 = sz ∧ cs1_307 = cs := by
      refine ⟨mc_bad (by rcases hv297 with h9 | h9 <;> rw [h9] <;> decide) p307.1, ?_⟩
      rcases p307.2 with ⟨c9, -⟩ | ⟨-, h9⟩
      · exact absurd c9 (fun c8 => absurd c8.1 (by rcases hv297 with h9 | h9 <;> rw [h9] <;> decide))
      · exact h9
    obtain ⟨w307, w307_0, w307_1, w307_2, w307_3, w307_4⟩ := w307
    rw [w307_0, w307_1, w307_2, w307_3, w307_4] at hP hD
    have hP : va_P D vwCl (xwW cI cZ cS x0 xs xv ho0 ho1 pd0 pd1 m0 ts0 ts1 a ha sa cn cs sc tm tv pd sv (0 : Int32) old sz z) H := hP
    have hD : va_D A (xwW cI cZ cS x0 xs xv ho0 ho1 pd0 pd1 m0 ts0 ts1 a ha sa cn cs sc tm tv pd sv (0 : Int32) old sz z) := hD
    refine xk_top (z := (-2)) (by exact w307) ?_
    refine lv_bipush (v := (-2)) hx hb dL_refusesAny_310 (by decide) ?_
    refine lv_icmp_ne (tgt := 342) hx hb dL_refusesAny_312 (by decide) (fun c312 => absurd (by decide) c312) (fun _ => ?_)
    have J338 : ∀   (H : Heap) (locs : List Loc), va_P D vwCl (xwW cI cZ cS x0 xs xv ho0 ho1 pd0 pd1 m0 ts0 ts1 a ha sa cn cs sc tm tv pd sv (0 : Int32) old sz z) H → va_D A (xwW cI cZ cS x0 xs xv ho0 ho1 pd0 pd1 m0 ts0 ts1 a ha sa cn cs sc tm tv pd sv (0 : Int32) old sz z) → va_S A s.heap H locs → ∀ ls : Array Slot, lv_has ls 5 [(0, .ref x0), (1, .int p1), (2, .int no), (3, .int b)] → W p l e ({ frames := 7, cells := 0, slots := 0, locals := 159 } : Room) s m args below meth c H locs 0 0 Q (F0 m 338 ls []) := by
      intro  H locs hP hD hS ls hl
      refine lv_iconst (v := 1) hx hb dL_refusesAny_338 (by decide) ?_
      refine lv_goto (tgt := 343) hx hb dL_refusesAny_339 (by decide) ?_
      refine lv_istore (lv' := [(4, .int 1), (0, .ref x0), (1, .int p1), (2, .int no), (3, .int b)]) hx hb dL_refusesAny_343 hl (by decide) rfl (fun ls hl => ?_)
      exact lb_345 l x0 xs xv ho0 ho1 pd0 pd1 m0 ts0 ts1 a ha sa cn cs sc tm tv pd sv old sz z past slots bd p1 no hLI (by first | assumption | omega) (by first | assumption | omega) (by first | assumption | omega) hx hb hr hts hown hlocks hml hK hA hN hZ hQ _ _ hP hD hS ls (lv_sub hl [1, 2, 3, 0] rfl)
    refine lv_iload_n hx hb dL_refusesAny_315 rfl (lv_at hl 3 rfl) ?_
    refine lv_if_eq (tgt := 328) hx hb dL_refusesAny_316 (by decide) (fun c316 => ?_) (fun c316 => ?_)
    · have t316 : b.toInt = 0 := xi_eq rfl (by decide) c316
      have d316 : b = 0 := c316
      have hnm : ¬ (canZ z ∧ ¬ z 188 = 1) := fun c9 => hb47.elim (fun g => by have := g.1; omega) (fun g => g.2 c9.1)
      refine lv_aload_n hx hb dL_refusesAny_328 rfl (lv_at hl 0 rfl) ?_
      refine lv_iconst (v := 5) hx hb dL_refusesAny_329 (by decide) ?_
      refine xo_Vi (As := [.int 5]) (rest := []) hx hb hml hown hts hK hN hZ hP hD hS hA mb_X7_march mw_3_33 mw_3_34 mw_3_35 (k_X7_march l D cI cZ cS x0 xs xv ho0 ho1 pd0 pd1 m0 ts0 ts1 a ha sa cn cs sc tm tv pd sv (0 : Int32) old sz z (5 : Int32) hRS hI hold hszz ⟨hb74, by omega⟩) 0 7 rfl rfl (fun _ => xwW_f) (by decide) (by decide) rfl hl.1 rfl (Nat.le_of_ble_eq_true rfl) dL_refusesAny_330 ⟨Nat.zero_le _, Nat.zero_le _⟩ (fun r330 u330 H locs hw hP hD hS => ?_)
      obtain ⟨cq_330, zq_330, old1_330, sz1_330, cs1_330⟩ := u330
      have p330 : marchA z (5 : Int32) r330 ∧ ((marchC z (5 : Int32) ∧ Chg cn z old sz cs (walkZ 5 z) cq_330 zq_330 old1_330 sz1_330 cs1_330) ∨ (¬ marchC z (5 : Int32) ∧ Same cn z old sz cs cq_330 zq_330 old1_330 sz1_330 cs1_330)) := hw
      have hP : va_P D vwCl (xwW cI cZ cS x0 xs xv ho0 ho1 pd0 pd1 m0 ts0 ts1 a ha sa cq_330 cs1_330 sc tm tv pd sv (0 : Int32) old1_330 sz1_330 zq_330) H := hP
      have hD : va_D A (xwW cI cZ cS x0 xs xv ho0 ho1 pd0 pd1 m0 ts0 ts1 a ha sa cq_330 cs1_330 sc tm tv pd sv (0 : Int32) old1_330 sz1_330 zq_330) := hD
      have w330 : r330 = -5 ∧ cq_330 = cn ∧ zq_330 = z ∧ old1_330 = old ∧ sz1_330 = sz ∧ cs1_330 = cs := by
        refine ⟨mc_not (by decide) hnm p330.1, ?_⟩
        rcases p330.2 with ⟨c9, -⟩ | ⟨-, h9⟩
        · exact absurd c9 (fun c8 => hnm c8.2)
        · exact h9
      obtain ⟨w330, w330_0, w330_1, w330_2, w330_3, w330_4⟩ := w330
      rw [w330_0, w330_1, w330_2, w330_3, w330_4] at hP hD
      have hP : va_P D vwCl (xwW cI cZ cS x0 xs xv ho0 ho1 pd0 pd1 m0 ts0 ts1 a ha sa cn cs sc tm tv pd sv (0 : Int32) old sz z) H := hP
      have hD : va_D A (xwW cI cZ cS x0 xs xv ho0 ho1 pd0 pd1 m0 ts0 ts1 a ha sa cn cs sc tm tv pd sv (0 : Int32) old sz z) := hD
      refine xk_top (z := (-5)) (by exact w330) ?_
      refine lv_bipush (v := (-5)) hx hb dL_refusesAny_333 (by decide) ?_
      refine lv_icmp_ne (tgt := 342) hx hb dL_refusesAny_335 (by decide) (fun c335 => absurd (by decide) c335) (fun _ => ?_)
      exact J338   _ _ hP hD hS ls (lv_sub hl [0, 1, 2, 3] rfl)
    · have t316 : ¬ b.toInt = 0 := xi_ne rfl (by decide) c316
      have d316 : ¬ b = 0 := c316
      refine lv_aload_n hx hb dL_refusesAny_319 rfl (lv_at hl 0 rfl) ?_
      refine lv_bipush (v := 14) hx hb dL_refusesAny_320 (by decide) ?_
      refine xo_Vi (As := [.int 14]) (rest := []) hx hb hml hown hts hK hN hZ hP hD hS hA mb_X7_walk mw_1_238 mw_1_239 mw_2_0 (k_X7_walk l D cI cZ cS x0 xs xv ho0 ho1 pd0 pd1 m0 ts0 ts1 a ha sa cn cs sc tm tv pd sv (0 : Int32) old sz z (14 : Int32) hRS hI) 0 7 rfl rfl (fun _ => xwW_f) (by decide) (by decide) rfl hl.1 rfl (Nat.le_of_ble_eq_true rfl) dL_refusesAny_322 ⟨Nat.zero_le _, Nat.zero_le _⟩ (fun r322 u322 H locs hw hP hD hS => ?_)
      have p322 : r322 = walkR z (14 : Int32) := hw
      have hP : va_P D vwCl (xwW cI cZ cS x0 xs xv ho0 ho1 pd0 pd1 m0 ts0 ts1 a ha sa cn cs sc tm tv pd sv (0 : Int32) old sz z) H := hP
      have hD : va_D A (xwW cI cZ cS x0 xs xv ho0 ho1 pd0 pd1 m0 ts0 ts1 a ha sa cn cs sc tm tv pd sv (0 : Int32) old sz z) := hD
      refine xk_top (z := (z 188)) (by exact p322.trans (wk_14 _)) ?_
      refine lv_if_eq (tgt := 338) hx hb dL_refusesAny_325 (by decide) (fun c325 => ?_) (fun c325 => ?_)
      · have t325 : (z 188).toInt = 0 := xi_eq rfl (by decide) c325
        have d325 : (z 188) = 0 := c325
        exact J338   _ _ hP hD hS ls (lv_sub hl [0, 1, 2, 3] rfl)
      · have t325 : ¬ (z 188).toInt = 0 := xi_ne rfl (by decide) c325
        have d325 : ¬ (z 188) = 0 := c325
        have hnm : ¬ (canZ z ∧ ¬ z 188 = 1) := fun c9 => (walked01 hI).elim (fun h8 => d325 h8) (fun h8 => c9.2 h8)
        refine lv_aload_n hx hb dL_refusesAny_328 rfl (lv_at hl 0 rfl) ?_
        refine lv_iconst (v := 5) hx hb dL_refusesAny_329 (by decide) ?_
        refine xo_Vi (As := [.int 5]) (rest := []) hx hb hml hown hts hK hN hZ hP hD hS hA mb_X7_march mw_3_33 mw_3_34 mw_3_35 (k_X7_march l D cI cZ cS x0 xs xv ho0 ho1 pd0 pd1 m0 ts0 ts1 a ha sa cn cs sc tm tv pd sv (0 : Int32) old sz z (5 : Int32) hRS hI hold hszz ⟨hb74, by omega⟩) 0 7 rfl rfl (fun _ => xwW_f) (by decide) (by decide) rfl hl.1 rfl (Nat.le_of_ble_eq_true rfl) dL_refusesAny_330 ⟨Nat.zero_le _, Nat.zero_le _⟩ (fun r330 u330 H locs hw hP hD hS => ?_)
        obtain ⟨cq_330, zq_330, old1_330, sz1_330, cs1_330⟩ := u330
        have p330 : marchA z (5 : Int32) r330 ∧ ((marchC z (5 : Int32) ∧ Chg cn z old sz cs (walkZ 5 z) cq_330 zq_330 old1_330 sz1_330 cs1_330) ∨ (¬ marchC z (5 : Int32) ∧ Same cn z old sz cs cq_330 zq_330 old1_330 sz1_330 cs1_330)) := hw
        have hP : va_P D vwCl (xwW cI cZ cS x0 xs xv ho0 ho1 pd0 pd1 m0 ts0 ts1 a ha sa cq_330 cs1_330 sc tm tv pd sv (0 : Int32) old1_330 sz1_330 zq_330) H := hP
        have hD : va_D A (xwW cI cZ cS x0 xs xv ho0 ho1 pd0 pd1 m0 ts0 ts1 a ha sa cq_330 cs1_330 sc tm tv pd sv (0 : Int32) old1_330 sz1_330 zq_330) := hD
        have w330 : r330 = -5 ∧ cq_330 = cn ∧ zq_330 = z ∧ old1_330 = old ∧ sz1_330 = sz ∧ cs1_330 = cs := by
          refine ⟨mc_not (by decide) hnm p330.1, ?_⟩
          rcases p330.2 with ⟨c9, -⟩ | ⟨-, h9⟩
          · exact absurd c9 (fun c8 => hnm c8.2)
          · exact h9
        obtain ⟨w330, w330_0, w330_1, w330_2, w330_3, w330_4⟩ := w330
        rw [w330_0, w330_1, w330_2, w330_3, w330_4] at hP hD
        have hP : va_P D vwCl (xwW cI cZ cS x0 xs xv ho0 ho1 pd0 pd1 m0 ts0 ts1 a ha sa cn cs sc tm tv pd sv (0 : Int32) old sz z) H := hP
        have hD : va_D A (xwW cI cZ cS x0 xs xv ho0 ho1 pd0 pd1 m0 ts0 ts1 a ha sa cn cs sc tm tv pd sv (0 : Int32) old sz z) := hD
        refine xk_top (z := (-5)) (by exact w330) ?_
        refine lv_bipush (v := (-5)) hx hb dL_refusesAny_333 (by decide) ?_
        refine lv_icmp_ne (tgt := 342) hx hb dL_refusesAny_335 (by decide) (fun c335 => absurd (by decide) c335) (fun _ => ?_)
        exact J338   _ _ hP hD hS ls (lv_sub hl [0, 1, 2, 3] rfl)
  refine lv_iload_n hx hb dL_refusesAny_294 rfl (lv_at hl 1 rfl) ?_
  refine lv_iconst (v := 2) hx hb dL_refusesAny_295 (by decide) ?_
  refine lv_irem hx hb dL_refusesAny_296 (by decide) ?_
  refine lv_topi (fun x296 e296 => ?_)
  have t296 : x296.toInt = p1.toInt % 2 := by rw [e296]; exact xi_rem rfl (by decide) (by omega) (by omega)
  refine lv_if_ne (tgt := 304) hx hb dL_refusesAny_297 (by decide) (fun c297 => ?_) (fun c297 => ?_)
  · have t297 : ¬ x296.toInt = 0 := xi_ne rfl (by decide) c297
    have d297 : ¬ x296 = 0 := c297
    refine lv_sipush (v := 501) hx hb dL_refusesAny_304 (by decide) ?_
    exact J307 (501 : Int32) (by first | exact Or.inl rfl | exact Or.inr rfl) _ _ hP hD hS ls (lv_sub hl [0, 1, 2, 3] rfl)
  · have t297 : x296.toInt = 0 := xi_eq rfl (by decide) c297
    have d297 : x296 = 0 := c297
    refine lv_iconst (v := 0) hx hb dL_refusesAny_300 (by decide) ?_
    refine lv_goto (tgt := 307) hx hb dL_refusesAny_301 (by decide) ?_
    exact J307 (0 : Int32) (by first | exact Or.inl rfl | exact Or.inr rfl) _ _ hP hD hS ls (lv_sub hl [0, 1, 2, 3] rfl)

set_option maxHeartbeats 4000000 in
set_option maxRecDepth 100000 in
theorem lb_247 {p : Program} {e : Env} {s : State} {m : MethodId} {below : List Frame} {meth : Method} {c : Code} (l : Launch) {args : Array Value} {A : Nat → Prop} {Q : State → Prop} {D : va_G} {cI cZ cS : ClassId} (x0 : Nat) (xs : Nat) (xv : Nat) (ho0 : Nat) (ho1 : Nat) (pd0 : Nat) (pd1 : Nat) (m0 : Nat) (ts0 : Nat) (ts1 : Nat) (a : Nat → Nat) (ha : Nat → Nat → Nat) (sa : Nat → Nat → Nat) (cn : Nat → Nat → Int32) (cs : Nat → Nat → Nat → Int32) (sc : Nat → Nat → Nat → Int32) (tm : Nat → Int32) (tv : Nat → Int32) (pd : Nat → Int32) (sv : Nat → Int32) (old : Int32) (sz : Int32) (z : Nat → Int32) (past : Nat → Int32) (slots : Nat → Int32) (bd : Int) (p1 : Int32) (no : Int32) (b : Int32) (hLI : LI bd cn cs sc sv (0 : Int32) old sz z past slots) (hbd : bd ≤ 100000) (hp1 : 0 ≤ p1.toInt) (hno : no.toInt < 0 ∨ 12 ≤ no.toInt) (hb47 : (b.toInt = 1 ∧ canZ z) ∨ (b.toInt = 0 ∧ ¬ canZ z)) (hx : p.tables.exec = Jvm.exec) (hb : c.code = cL_refusesAny) (hr : meth.sig.returnType = (some .boolean)) (hts : ∀ w ∈ Cond.code yL_refusesAny cL_refusesAny 5 (some .boolean) :: wsL_law, w.before args s = true) (hown : s.vm.findClass yL_refusesAny.cls = some m.cls) (hlocks : meth.locks = false) (hml : c.maxLocals = 5) (hK : va_K D vwCl (xTy cI cZ cS) s) (hA : ∀ q : Nat, s.heap.size ≤ q → A q) (hN : xN s) (hZ : xZ A s) (hQ : Q = MQ below (va_Qi (fun (r : Int32) (u : (Nat → Int32)) => r = (1 : Int32)) (fun u t => va_P D vwCl ((fun (u : (Nat → Int32)) => (xwW cI cZ cS x0 xs xv ho0 ho1 pd0 pd1 m0 ts0 ts1 a ha sa cn cs sc u tv pd sv (0 : Int32) old sz z)) u) t.heap) A) args s 0 0 A) (H : Heap) (locs : List Loc) (hP : va_P D vwCl (xwW cI cZ cS x0 xs xv ho0 ho1 pd0 pd1 m0 ts0 ts1 a ha sa cn cs sc tm tv pd sv (0 : Int32) old sz z) H) (hD : va_D A (xwW cI cZ cS x0 xs xv ho0 ho1 pd0 pd1 m0 ts0 ts1 a ha sa cn cs sc tm tv pd sv (0 : Int32) old sz z)) (hS : va_S A s.heap H locs) (ls : Array Slot) (hl : lv_has ls 5 [(0, .ref x0), (1, .int p1), (2, .int no), (3, .int b)]) : W p l e ({ frames := 7, cells := 0, slots := 0, locals := 159 } : Room) s m args below meth c H locs 0 0 Q (F0 m 247 ls []) := by
  obtain ⟨hRS, hI, hBD, ⟨hold, hszz, hlnn⟩, hmcs, hmsc, hRH, hRL⟩ := id hLI
  obtain ⟨⟨hb74, hb74u⟩, ⟨hb86, hb86u⟩, hIP⟩ := id hBD
  have hs0 : (1 ≤ (z 0).toInt ∧ (z 0).toInt ≤ 9) ∧ (0 ≤ (z 1).toInt ∧ (z 1).toInt ≤ 9) ∧ (1 ≤ (z 2).toInt ∧ (z 2).toInt ≤ 9) ∧ (1 ≤ (z 3).toInt ∧ (z 3).toInt ≤ 20) ∧ (2 ≤ (z 5).toInt ∧ (z 5).toInt ≤ 9) := hI.1
  have hg6 : 0 ≤ (z 6).toInt ∧ (z 6).toInt ≤ 10 := hI.2.1.1
  have hr7 : 0 ≤ (z 7).toInt ∧ (z 7).toInt ≤ 12 := hI.2.2.1.1
  have z0 : (0 : Int32).toInt = 0 := by decide
  have J270 : ∀   (H : Heap) (locs : List Loc), va_P D vwCl (xwW cI cZ cS x0 xs xv ho0 ho1 pd0 pd1 m0 ts0 ts1 a ha sa cn cs sc tm tv pd sv (0 : Int32) old sz z) H → va_D A (xwW cI cZ cS x0 xs xv ho0 ho1 pd0 pd1 m0 ts0 ts1 a ha sa cn cs sc tm tv pd sv (0 : Int32) old sz z) → va_S A s.heap H locs → ∀ ls : Array Slot, lv_has ls 5 [(0, .ref x0), (1, .int p1), (2, .int no), (3, .int b)] → W p l e ({ frames := 7, cells := 0, slots := 0, locals := 159 } : Room) s m args below meth c H locs 0 0 Q (F0 m 270 ls []) := by
    intro  H locs hP hD hS ls hl
    refine lv_aload_n hx hb dL_refusesAny_270 rfl (lv_at hl 0 rfl) ?_
    refine lv_iload_n hx hb dL_refusesAny_271 rfl (lv_at hl 2 rfl) ?_
    refine xo_Vi (As := [.int no]) (rest := []) hx hb hml hown hts hK hN hZ hP hD hS hA mb_X7_tear mw_3_25 mw_3_26 mw_3_27 (k_X7_tear l D cI cZ cS x0 xs xv ho0 ho1 pd0 pd1 m0 ts0 ts1 a ha sa cn cs sc tm tv pd sv (0 : Int32) old sz z no hRS hI hold hszz) 0 7 rfl rfl (fun _ => xwW_f) (by decide) (by decide) rfl hl.1 rfl (Nat.le_of_ble_eq_true rfl) dL_refusesAny_272 ⟨Nat.zero_le _, Nat.zero_le _⟩ (fun r272 u272 H locs hw hP hD hS => ?_)
    obtain ⟨cq_272, zq_272, old1_272, sz1_272, cs1_272⟩ := u272
    have p272 : (tearC z no ∧ r272 = ofZ z no.toInt.toNat 0 ∧ Chg cn z old sz cs (tearZ z no) cq_272 zq_272 old1_272 sz1_272 cs1_272) ∨ (¬ tearC z no ∧ r272 = -1 ∧ Same cn z old sz cs cq_272 zq_272 old1_272 sz1_272 cs1_272) := hw
    have hP : va_P D vwCl (xwW cI cZ cS x0 xs xv ho0 ho1 pd0 pd1 m0 ts0 ts1 a ha sa cq_272 cs1_272 sc tm tv pd sv (0 : Int32) old1_272 sz1_272 zq_272) H := hP
    have hD : va_D A (xwW cI cZ cS x0 xs xv ho0 ho1 pd0 pd1 m0 ts0 ts1 a ha sa cq_272 cs1_272 sc tm tv pd sv (0 : Int32) old1_272 sz1_272 zq_272) := hD
    have w272 : r272 = -1 ∧ cq_272 = cn ∧ zq_272 = z ∧ old1_272 = old ∧ sz1_272 = sz ∧ cs1_272 = cs := by
      rcases p272 with ⟨c9, -⟩ | ⟨-, h9⟩
      · exact absurd c9 (fun c8 => by have := c8.1; have := c8.2; omega)
      · exact h9
    obtain ⟨w272, w272_0, w272_1, w272_2, w272_3, w272_4⟩ := w272
    rw [w272_0, w272_1, w272_2, w272_3, w272_4] at hP hD
    have hP : va_P D vwCl (xwW cI cZ cS x0 xs xv ho0 ho1 pd0 pd1 m0 ts0 ts1 a ha sa cn cs sc tm tv pd sv (0 : Int32) old sz z) H := hP
    have hD : va_D A (xwW cI cZ cS x0 xs xv ho0 ho1 pd0 pd1 m0 ts0 ts1 a ha sa cn cs sc tm tv pd sv (0 : Int32) old sz z) := hD
    refine xk_top (z := (-1)) (by exact w272) ?_
    refine lv_iconst (v := (-1)) hx hb dL_refusesAny_275 (by decide) ?_
    refine lv_icmp_ne (tgt := 342) hx hb dL_refusesAny_276 (by decide) (fun c276 => absurd (by decide) c276) (fun _ => ?_)
    refine lv_aload_n hx hb dL_refusesAny_279 rfl (lv_at hl 0 rfl) ?_
    refine lv_aload_n hx hb dL_refusesAny_280 rfl (lv_at hl 0 rfl) ?_
    refine lv_bipush (v := 9) hx hb dL_refusesAny_281 (by decide) ?_
    refine xo_Vi (As := [.int 9]) (rest := [.ref x0]) hx hb hml hown hts hK hN hZ hP hD hS hA mb_X7_count mw_2_6 mw_2_7 mw_2_8 (k_X7_count l D cI cZ cS x0 xs xv ho0 ho1 pd0 pd1 m0 ts0 ts1 a ha sa cn cs sc tm tv pd sv (0 : Int32) old sz z (9 : Int32) hRS hI) 0 7 rfl rfl (fun _ => xwW_f) (by decide) (by decide) rfl hl.1 rfl (Nat.le_of_ble_eq_true rfl) dL_refusesAny_283 ⟨Nat.zero_le _, Nat.zero_le _⟩ (fun r283 u283 H locs hw hP hD hS => ?_)
    have p283 : r283 = cntR z (0 : Int32) sz (9 : Int32) := hw
    have hP : va_P D vwCl (xwW cI cZ cS x0 xs xv ho0 ho1 pd0 pd1 m0 ts0 ts1 a ha sa cn cs sc tm tv pd sv (0 : Int32) old sz z) H := hP
    have hD : va_D A (xwW cI cZ cS x0 xs xv ho0 ho1 pd0 pd1 m0 ts0 ts1 a ha sa cn cs sc tm tv pd sv (0 : Int32) old sz z) := hD
    refine xk_top (z := (z 7)) (by exact p283.trans (ct_9 _ _ _)) ?_
    refine xo_Vi (As := [.int (z 7)]) (rest := []) hx hb hml hown hts hK hN hZ hP hD hS hA mb_X7_tear mw_3_25 mw_3_26 mw_3_27 (k_X7_tear l D cI cZ cS x0 xs xv ho0 ho1 pd0 pd1 m0 ts0 ts1 a ha sa cn cs sc tm tv pd sv (0 : Int32) old sz z (z 7) hRS hI hold hszz) 0 7 rfl rfl (fun _ => xwW_f) (by decide) (by decide) rfl hl.1 rfl (Nat.le_of_ble_eq_true rfl) dL_refusesAny_286 ⟨Nat.zero_le _, Nat.zero_le _⟩ (fun r286 u286 H locs hw hP hD hS => ?_)
    obtain ⟨cq_286, zq_286, old1_286, sz1_286, cs1_286⟩ := u286
    have p286 : (tearC z (z 7) ∧ r286 = ofZ z (z 7).toInt.toNat 0 ∧ Chg cn z old sz cs (tearZ z (z 7)) cq_286 zq_286 old1_286 sz1_286 cs1_286) ∨ (¬ tearC z (z 7) ∧ r286 = -1 ∧ Same cn z old sz cs cq_286 zq_286 old1_286 sz1_286 cs1_286) := hw
    have hP : va_P D vwCl (xwW cI cZ cS x0 xs xv ho0 ho1 pd0 pd1 m0 ts0 ts1 a ha sa cq_286 cs1_286 sc tm tv pd sv (0 : Int32) old1_286 sz1_286 zq_286) H := hP
    have hD : va_D A (xwW cI cZ cS x0 xs xv ho0 ho1 pd0 pd1 m0 ts0 ts1 a ha sa cq_286 cs1_286 sc tm tv pd sv (0 : Int32) old1_286 sz1_286 zq_286) := hD
    have w286 : r286 = -1 ∧ cq_286 = cn ∧ zq_286 = z ∧ old1_286 = old ∧ sz1_286 = sz ∧ cs1_286 = cs := by
      rcases p286 with ⟨c9, -⟩ | ⟨-, h9⟩
      · exact absurd c9 (fun c8 => by have := c8.1; have := c8.2; omega)
      · exact h9
    obtain ⟨w286, w286_0, w286_1, w286_2, w286_3, w286_4⟩ := w286
    rw [w286_0, w286_1, w286_2, w286_3, w286_4] at hP hD
    have hP : va_P D vwCl (xwW cI cZ cS x0 xs xv ho0 ho1 pd0 pd1 m0 ts0 ts1 a ha sa cn cs sc tm tv pd sv (0 : Int32) old sz z) H := hP
    have hD : va_D A (xwW cI cZ cS x0 xs xv ho0 ho1 pd0 pd1 m0 ts0 ts1 a ha sa cn cs sc tm tv pd sv (0 : Int32) old sz z) := hD
    refine xk_top (z := (-1)) (by exact w286) ?_
    refine lv_iconst (v := (-1)) hx hb dL_refusesAny_289 (by decide) ?_
    refine lv_icmp_ne (tgt := 342) hx hb dL_refusesAny_290 (by decide) (fun c290 => absurd (by decide) c290) (fun _ => ?_)
    exact lb_293 l x0 xs xv ho0 ho1 pd0 pd1 m0 ts0 ts1 a ha sa cn cs sc tm tv pd sv old sz z past slots bd p1 no b hLI (by first | assumption | omega) (by first | assumption | omega) (by first | assumption | omega) (by assumption) hx hb hr hts hown hlocks hml hK hA hN hZ hQ _ _ hP hD hS ls (lv_sub hl [0, 1, 2, 3] rfl)
  refine lv_aload_n hx hb dL_refusesAny_247 rfl (lv_at hl 0 rfl) ?_
  refine lv_bipush (v := 9) hx hb dL_refusesAny_248 (by decide) ?_
  refine xo_Vi (As := [.int 9]) (rest := []) hx hb hml hown hts hK hN hZ hP hD hS hA mb_X7_count mw_2_6 mw_2_7 mw_2_8 (k_X7_count l D cI cZ cS x0 xs xv ho0 ho1 pd0 pd1 m0 ts0 ts1 a ha sa cn cs sc tm tv pd sv (0 : Int32) old sz z (9 : Int32) hRS hI) 0 7 rfl rfl (fun _ => xwW_f) (by decide) (by decide) rfl hl.1 rfl (Nat.le_of_ble_eq_true rfl) dL_refusesAny_250 ⟨Nat.zero_le _, Nat.zero_le _⟩ (fun r250 u250 H locs hw hP hD hS => ?_)
  have p250 : r250 = cntR z (0 : Int32) sz (9 : Int32) := hw
  have hP : va_P D vwCl (xwW cI cZ cS x0 xs xv ho0 ho1 pd0 pd1 m0 ts0 ts1 a ha sa cn cs sc tm tv pd sv (0 : Int32) old sz z) H := hP
  have hD : va_D A (xwW cI cZ cS x0 xs xv ho0 ho1 pd0 pd1 m0 ts0 ts1 a ha sa cn cs sc tm tv pd sv (0 : Int32) old sz z) := hD
  refine xk_top (z := (z 7)) (by exact p250.trans (ct_9 _ _ _)) ?_
  refine lv_bipush (v := 12) hx hb dL_refusesAny_253 (by decide) ?_
  refine lv_icmp_lt (tgt := 270) hx hb dL_refusesAny_255 (by decide) (fun c255 => ?_) (fun c255 => ?_)
  · have t255 : (z 7).toInt < 12 := xi_lt rfl (by decide) c255
    exact J270   _ _ hP hD hS ls (lv_sub hl [0, 1, 2, 3] rfl)
  · have t255 : 12 ≤ (z 7).toInt := xi_nlt rfl (by decide) c255
    refine lv_aload_n hx hb dL_refusesAny_258 rfl (lv_at hl 0 rfl) ?_
    refine lv_iconst (v := 5) hx hb dL_refusesAny_259 (by decide) ?_
    refine lv_iconst (v := 0) hx hb dL_refusesAny_260 (by decide) ?_
    refine lv_iconst (v := 0) hx hb dL_refusesAny_261 (by decide) ?_
    refine xo_Vi (As := [.int 5, .int 0, .int 0]) (rest := []) hx hb hml hown hts hK hN hZ hP hD hS hA mb_X7_pave mw_3_17 mw_3_18 mw_3_19 (k_X7_pave l D cI cZ cS x0 xs xv ho0 ho1 pd0 pd1 m0 ts0 ts1 a ha sa cn cs sc tm tv pd sv (0 : Int32) old sz z (5 : Int32) (0 : Int32) (0 : Int32) hRS hI hold hszz (Or.inl rfl)) 0 7 rfl rfl (fun _ => xwW_f) (by decide) (by decide) rfl hl.1 rfl (Nat.le_of_ble_eq_true rfl) dL_refusesAny_262 ⟨Nat.zero_le _, Nat.zero_le _⟩ (fun r262 u262 H locs hw hP hD hS => ?_)
    obtain ⟨cq_262, zq_262, old1_262, sz1_262, cs1_262⟩ := u262
    have p262 : r262 = paveR z (5 : Int32) (0 : Int32) ∧ ((paveC z (5 : Int32) (0 : Int32) ∧ Chg cn z old sz cs (paveZ z (5 : Int32) (0 : Int32) (0 : Int32)) cq_262 zq_262 old1_262 sz1_262 cs1_262) ∨ (¬ paveC z (5 : Int32) (0 : Int32) ∧ Same cn z old sz cs cq_262 zq_262 old1_262 sz1_262 cs1_262)) := hw
    have hP : va_P D vwCl (xwW cI cZ cS x0 xs xv ho0 ho1 pd0 pd1 m0 ts0 ts1 a ha sa cq_262 cs1_262 sc tm tv pd sv (0 : Int32) old1_262 sz1_262 zq_262) H := hP
    have hD : va_D A (xwW cI cZ cS x0 xs xv ho0 ho1 pd0 pd1 m0 ts0 ts1 a ha sa cq_262 cs1_262 sc tm tv pd sv (0 : Int32) old1_262 sz1_262 zq_262) := hD
    have h712 : z 7 = 12 := xi_ext (by rw [show (12 : Int32).toInt = 12 from by decide]; omega)
    have w262 : r262 = -4 ∧ cq_262 = cn ∧ zq_262 = z ∧ old1_262 = old ∧ sz1_262 = sz ∧ cs1_262 = cs := by
      refine ⟨p262.1.trans (pv_full (by decide) h712), ?_⟩
      rcases p262.2 with ⟨c9, -⟩ | ⟨-, h9⟩
      · exact absurd c9 (fun c8 => c8.2 h712)
      · exact h9
    obtain ⟨w262, w262_0, w262_1, w262_2, w262_3, w262_4⟩ := w262
    rw [w262_0, w262_1, w262_2, w262_3, w262_4] at hP hD
    have hP : va_P D vwCl (xwW cI cZ cS x0 xs xv ho0 ho1 pd0 pd1 m0 ts0 ts1 a ha sa cn cs sc tm tv pd sv (0 : Int32) old sz z) H := hP
    have hD : va_D A (xwW cI cZ cS x0 xs xv ho0 ho1 pd0 pd1 m0 ts0 ts1 a ha sa cn cs sc tm tv pd sv (0 : Int32) old sz z) := hD
    refine xk_top (z := (-4)) (by exact w262) ?_
    refine lv_bipush (v := (-4)) hx hb dL_refusesAny_265 (by decide) ?_
    refine lv_icmp_ne (tgt := 342) hx hb dL_refusesAny_267 (by decide) (fun c267 => absurd (by decide) c267) (fun _ => ?_)
    exact J270   _ _ hP hD hS ls (lv_sub hl [0, 1, 2, 3] rfl)
