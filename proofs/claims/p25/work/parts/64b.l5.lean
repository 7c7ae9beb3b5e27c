set_option maxHeartbeats 4000000 in
set_option maxRecDepth 100000 in
theorem la_pave {p : Program} {e : Env} {s : State} {m : MethodId} {below : List Frame} {meth : Method} {c : Code} (l : Launch) {args : Array Value} {A : Nat → Prop} {Q : State → Prop} {D : va_G} {cI cZ cS : ClassId} (x0 : Nat) (xs : Nat) (xv : Nat) (ho0 : Nat) (ho1 : Nat) (pd0 : Nat) (pd1 : Nat) (m0 : Nat) (ts0 : Nat) (ts1 : Nat) (a : Nat → Nat) (ha : Nat → Nat → Nat) (sa : Nat → Nat → Nat) (cn : Nat → Nat → Int32) (cs : Nat → Nat → Nat → Int32) (sc : Nat → Nat → Nat → Int32) (tm : Nat → Int32) (tv : Nat → Int32) (pd : Nat → Int32) (sv : Nat → Int32) (old : Int32) (sz : Int32) (z : Nat → Int32) (past : Nat → Int32) (slots : Nat → Int32) (bd : Int) (p1 p2 ho y : Int32) (hLI : LI bd cn cs sc sv (0 : Int32) old sz z past slots) (hbd : bd ≤ 99000) (hx : p.tables.exec = Jvm.exec) (hb : c.code = cL_act) (hr : meth.sig.returnType = (some .int)) (hts : ∀ w ∈ Cond.code yL_act cL_act 10 (some .int) :: wsL_law, w.before args s = true) (hown : s.vm.findClass yL_act.cls = some m.cls) (hlocks : meth.locks = false) (hml : c.maxLocals = 10) (hK : va_K D vwCl (xTy cI cZ cS) s) (hA : ∀ q : Nat, s.heap.size ≤ q → A q) (hN : xN s) (hZ : xZ A s) (hQ : Q = MQ below (va_Qi (fun (r : Int32) (u : (Nat → Nat → Int32) × (Nat → Nat → Nat → Int32) × (Nat → Int32) × (Nat → Int32) × (Int32) × (Int32) × (Nat → Int32)) => ((r = 1 ∧ LI (bd + 500) u.1 u.2.1 sc sv (0 : Int32) u.2.2.2.2.1 u.2.2.2.2.2.1 u.2.2.2.2.2.2 (recP z past sz) slots ∧ u.2.2.2.2.2.1 = recS sz) ∨ (r = 0 ∧ LI bd u.1 u.2.1 sc sv (0 : Int32) u.2.2.2.2.1 u.2.2.2.2.2.1 u.2.2.2.2.2.2 past slots ∧ u.2.2.2.2.2.2 = z ∧ u.2.2.2.2.2.1 = sz)) ∧ (∀ k : Nat, 190 ≤ k → u.2.2.2.2.2.2 k = z k)) (fun u t => va_P D vwCl ((fun (u : (Nat → Nat → Int32) × (Nat → Nat → Nat → Int32) × (Nat → Int32) × (Nat → Int32) × (Int32) × (Int32) × (Nat → Int32)) => (xwW cI cZ cS x0 xs xv ho0 ho1 pd0 pd1 m0 ts0 ts1 a ha sa u.1 u.2.1 sc u.2.2.1 tv u.2.2.2.1 sv (0 : Int32) u.2.2.2.2.1 u.2.2.2.2.2.1 u.2.2.2.2.2.2)) u) t.heap) A) args s 0 0 A) (hy : 0 ≤ y.toInt) (H : Heap) (locs : List Loc) (hP : va_P D vwCl (xwW cI cZ cS x0 xs xv ho0 ho1 pd0 pd1 m0 ts0 ts1 a ha sa cn cs sc tm tv pd sv (0 : Int32) old sz z) H) (hD : va_D A (xwW cI cZ cS x0 xs xv ho0 ho1 pd0 pd1 m0 ts0 ts1 a ha sa cn cs sc tm tv pd sv (0 : Int32) old sz z)) (hS : va_S A s.heap H locs) (ls : Array Slot) (hl : lv_has ls 10 [(4, .int y), (3, .int ho), (0, .ref x0), (1, .int p1), (2, .int p2)]) : W p l e ({ frames := 7, cells := 0, slots := 0, locals := 159 } : Room) s m args below meth c H locs 0 0 Q (F0 m 259 ls []) := by
  obtain ⟨hRS, hI, hBD, ⟨hold, hszz, hlnn⟩, hmcs, hmsc, hRH, hRL⟩ := id hLI
  obtain ⟨⟨hb74, hb74u⟩, ⟨hb86, hb86u⟩, hIP⟩ := id hBD
  have hs0 : (1 ≤ (z 0).toInt ∧ (z 0).toInt ≤ 9) ∧ (0 ≤ (z 1).toInt ∧ (z 1).toInt ≤ 9) ∧ (1 ≤ (z 2).toInt ∧ (z 2).toInt ≤ 9) ∧ (1 ≤ (z 3).toInt ∧ (z 3).toInt ≤ 20) ∧ (2 ≤ (z 5).toInt ∧ (z 5).toInt ≤ 9) := hI.1
  have hg6 : 0 ≤ (z 6).toInt ∧ (z 6).toInt ≤ 10 := hI.2.1.1
  have hr7 : 0 ≤ (z 7).toInt ∧ (z 7).toInt ≤ 12 := hI.2.2.1.1
  have z0 : (0 : Int32).toInt = 0 := by decide
  refine lv_aload_n hx hb dL_act_259 rfl (lv_at hl 2 rfl) ?_
  refine lv_bipush (v := 9) hx hb dL_act_260 (by decide) ?_
  refine xo_Vi (As := [.int 9]) (rest := []) hx hb hml hown hts hK hN hZ hP hD hS hA mb_X7_count mw_2_6 mw_2_7 mw_2_8 (k_X7_count l D cI cZ cS x0 xs xv ho0 ho1 pd0 pd1 m0 ts0 ts1 a ha sa cn cs sc tm tv pd sv (0 : Int32) old sz z (9 : Int32) hRS hI) 0 7 rfl rfl (fun _ => xwW_f) (by decide) (by decide) rfl hl.1 rfl (Nat.le_of_ble_eq_true rfl) dL_act_262 ⟨Nat.zero_le _, Nat.zero_le _⟩ (fun r262 u262 H locs hw hP hD hS => ?_)
  have p262 : r262 = cntR z (0 : Int32) sz (9 : Int32) := hw
  have hP : va_P D vwCl (xwW cI cZ cS x0 xs xv ho0 ho1 pd0 pd1 m0 ts0 ts1 a ha sa cn cs sc tm tv pd sv (0 : Int32) old sz z) H := hP
  have hD : va_D A (xwW cI cZ cS x0 xs xv ho0 ho1 pd0 pd1 m0 ts0 ts1 a ha sa cn cs sc tm tv pd sv (0 : Int32) old sz z) := hD
  refine xk_top (z := (z 7)) (by exact p262.trans (ct_9 _ _ _)) ?_
  refine lv_istore (lv' := [(5, .int (z 7)), (4, .int y), (3, .int ho), (0, .ref x0), (1, .int p1), (2, .int p2)]) hx hb dL_act_265 hl (by decide) rfl (fun ls hl => ?_)
  have J288 : ∀ (st0 : Int32) (hst0 : 1 ≤ st0.toInt ∧ st0.toInt ≤ 99) (H : Heap) (locs : List Loc), va_P D vwCl (xwW cI cZ cS x0 xs xv ho0 ho1 pd0 pd1 m0 ts0 ts1 a ha sa cn cs sc tm tv pd sv (0 : Int32) old sz z) H → va_D A (xwW cI cZ cS x0 xs xv ho0 ho1 pd0 pd1 m0 ts0 ts1 a ha sa cn cs sc tm tv pd sv (0 : Int32) old sz z) → va_S A s.heap H locs → ∀ ls : Array Slot, lv_has ls 10 [(5, .int (z 7)), (4, .int y), (3, .int ho), (0, .ref x0), (1, .int p1), (2, .int p2), (6, .int st0)] → W p l e ({ frames := 7, cells := 0, slots := 0, locals := 159 } : Room) s m args below meth c H locs 0 0 Q (F0 m 288 ls []) := by
    intro st0 hst0 H locs hP hD hS ls hl
    refine lv_iload hx hb dL_act_288 (lv_at hl 1 rfl) ?_
    refine lv_bipush (v := 99) hx hb dL_act_290 (by decide) ?_
    refine lv_idiv hx hb dL_act_292 (by decide) ?_
    refine lv_topi (fun x292 e292 => ?_)
    have t292 : x292.toInt = y.toInt / 99 := by rw [e292]; exact xi_div rfl (by decide) (by omega) (by omega)
    refine lv_bipush (v := 7) hx hb dL_act_293 (by decide) ?_
    refine lv_irem hx hb dL_act_295 (by decide) ?_
    refine lv_topi (fun x295 e295 => ?_)
    have t295 : x295.toInt = x292.toInt % 7 := by rw [e295]; exact xi_rem rfl (by decide) (by omega) (by omega)
    refine lv_iconst (v := 3) hx hb dL_act_296 (by decide) ?_
    refine lv_isub hx hb dL_act_297 ?_
    refine lv_topi (fun x297 e297 => ?_)
    have t297 : x297.toInt = x295.toInt - 3 := by rw [e297]; exact xi_sub rfl (by decide) (by omega) (by omega)
    refine lv_istore (lv' := [(7, .int x297), (5, .int (z 7)), (4, .int y), (3, .int ho), (0, .ref x0), (1, .int p1), (2, .int p2), (6, .int st0)]) hx hb dL_act_298 hl (by decide) rfl (fun ls hl => ?_)
    refine lv_aload_n hx hb dL_act_300 rfl (lv_at hl 4 rfl) ?_
    refine lv_iload hx hb dL_act_301 (lv_at hl 7 rfl) ?_
    refine lv_iload hx hb dL_act_303 (lv_at hl 0 rfl) ?_
    have J321 : ∀ (fl : Int32) (hfl : (fl.toInt = 1 ∧ y.toInt / 700 % 2 = 0) ∨ (fl.toInt = 0 ∧ ¬ y.toInt / 700 % 2 = 0)) (hp3 : fl = 0 ∨ fl = 1) (H : Heap) (locs : List Loc), va_P D vwCl (xwW cI cZ cS x0 xs xv ho0 ho1 pd0 pd1 m0 ts0 ts1 a ha sa cn cs sc tm tv pd sv (0 : Int32) old sz z) H → va_D A (xwW cI cZ cS x0 xs xv ho0 ho1 pd0 pd1 m0 ts0 ts1 a ha sa cn cs sc tm tv pd sv (0 : Int32) old sz z) → va_S A s.heap H locs → ∀ ls : Array Slot, lv_has ls 10 [(7, .int x297), (5, .int (z 7)), (4, .int y), (3, .int ho), (0, .ref x0), (1, .int p1), (2, .int p2), (6, .int st0)] → W p l e ({ frames := 7, cells := 0, slots := 0, locals := 159 } : Room) s m args below meth c H locs 0 0 Q (F0 m 321 ls [.int fl, .int x297, .int st0, .ref x0]) := by
      intro fl hfl hp3 H locs hP hD hS ls hl
      refine xo_Vi (As := [.int st0, .int x297, .int fl]) (rest := []) hx hb hml hown hts hK hN hZ hP hD hS hA mb_X7_pave mw_3_17 mw_3_18 mw_3_19 (k_X7_pave l D cI cZ cS x0 xs xv ho0 ho1 pd0 pd1 m0 ts0 ts1 a ha sa cn cs sc tm tv pd sv (0 : Int32) old sz z st0 x297 fl hRS hI hold hszz hp3) 0 7 rfl rfl (fun _ => xwW_f) (by decide) (by decide) rfl hl.1 rfl (Nat.le_of_ble_eq_true rfl) dL_act_321 ⟨Nat.zero_le _, Nat.zero_le _⟩ (fun r321 u321 H locs hw hP hD hS => ?_)
      obtain ⟨cq_321, zq_321, old1_321, sz1_321, cs1_321⟩ := u321
      have p321 : r321 = paveR z st0 x297 ∧ ((paveC z st0 x297 ∧ Chg cn z old sz cs (paveZ z st0 x297 fl) cq_321 zq_321 old1_321 sz1_321 cs1_321) ∨ (¬ paveC z st0 x297 ∧ Same cn z old sz cs cq_321 zq_321 old1_321 sz1_321 cs1_321)) := hw
      have hP : va_P D vwCl (xwW cI cZ cS x0 xs xv ho0 ho1 pd0 pd1 m0 ts0 ts1 a ha sa cq_321 cs1_321 sc tm tv pd sv (0 : Int32) old1_321 sz1_321 zq_321) H := hP
      have hD : va_D A (xwW cI cZ cS x0 xs xv ho0 ho1 pd0 pd1 m0 ts0 ts1 a ha sa cq_321 cs1_321 sc tm tv pd sv (0 : Int32) old1_321 sz1_321 zq_321) := hD
      refine lv_istore (lv' := [(8, .int r321), (7, .int x297), (5, .int (z 7)), (4, .int y), (3, .int ho), (0, .ref x0), (1, .int p1), (2, .int p2), (6, .int st0)]) hx hb dL_act_324 hl (by decide) rfl (fun ls hl => ?_)
      refine lv_iload hx hb dL_act_326 (lv_at hl 2 rfl) ?_
      refine lv_bipush (v := 12) hx hb dL_act_328 (by decide) ?_
      refine lv_icmp_ne (tgt := 349) hx hb dL_act_330 (by decide) (fun c330 => ?_) (fun c330 => ?_)
      · have t330 : ¬ (z 7).toInt = 12 := xi_ne rfl (by decide) c330
        have d330 : ¬ (z 7) = 12 := c330
        have hpc : paveC z st0 x297 := ⟨⟨hst0, by omega⟩, fun h9 => t330 (by rw [h9]; decide)⟩
        have hr321 : r321 = z 7 := p321.1.trans (pv_is hpc)
        obtain ⟨hLI2, hz2, hs2⟩ := act_pave hLI hpc hp3 (p321.2.resolve_right (fun h9 => h9.1 hpc) |>.2)
        rw [hz2, hs2] at hP hD
        rw [hs2] at hLI2
        obtain ⟨z1, hz1⟩ : ∃ q, q = paveZ z st0 x297 fl := ⟨_, rfl⟩
        rw [← hz1] at hP hD hLI2
        obtain ⟨hRS2, hI2, -, ⟨hold2, hsz2, -⟩, -⟩ := id hLI2
        have hbg1 : begP0 z1 := by rw [hz1]; exact begP_b _
        have h811 : z1 181 = z1 4 := by rw [hz1]; unfold paveZ; rw [begin_181, beginZ_lo _ (by omega)]
        have htl : ∀ k : Nat, 190 ≤ k → z1 k = z k := fun k hk => by rw [hz1]; exact pave_hi (by omega) hk
        obtain ⟨v0, v1, v2⟩ := pave_at (z := z) (p1 := st0) (p2 := x297) (p3 := fl) (by omega)
        rw [← hz1, ← hr321] at v0 v1 v2
        have h717 : (z1 7).toInt = (z 7).toInt + 1 := by rw [hz1, pave_7]; exact xi_add rfl (by decide) (by omega) (by omega)
        have hr321t : r321.toInt = (z 7).toInt := by rw [hr321]
        have hsc : strC z1 r321 := ⟨by omega, by omega⟩
        have hP : va_P D vwCl (xwW cI cZ cS x0 xs xv ho0 ho1 pd0 pd1 m0 ts0 ts1 a ha sa cq_321 cs1_321 sc tm tv pd sv (0 : Int32) old1_321 (recS sz) z1) H := hP
        have hD : va_D A (xwW cI cZ cS x0 xs xv ho0 ho1 pd0 pd1 m0 ts0 ts1 a ha sa cq_321 cs1_321 sc tm tv pd sv (0 : Int32) old1_321 (recS sz) z1) := hD
        refine lv_iload hx hb dL_act_349 (lv_at hl 0 rfl) ?_
        refine lv_iload hx hb dL_act_351 (lv_at hl 2 rfl) ?_
        refine lv_icmp_ne (tgt := 419) hx hb dL_act_353 (by decide) (fun c353 => ?_) (fun c353 => ?_)
        · have t353 : ¬ r321.toInt = (z 7).toInt := xi_ne rfl rfl c353
          have d353 : ¬ r321 = (z 7) := c353
          omega
        · have t353 : r321.toInt = (z 7).toInt := xi_eq rfl rfl c353
          have d353 : r321 = (z 7) := c353
          refine lv_aload_n hx hb dL_act_356 rfl (lv_at hl 5 rfl) ?_
          refine lv_iload hx hb dL_act_357 (lv_at hl 0 rfl) ?_
          refine lv_iconst (v := 0) hx hb dL_act_359 (by decide) ?_
          refine xo_Vi (As := [.int r321, .int 0]) (rest := []) hx hb hml hown hts hK hN hZ hP hD hS hA mb_X7_stretch mw_2_121 mw_2_122 mw_2_123 (k_X7_stretch l D cI cZ cS x0 xs xv ho0 ho1 pd0 pd1 m0 ts0 ts1 a ha sa cq_321 cs1_321 sc tm tv pd sv (0 : Int32) old1_321 (recS sz) z1 r321 (0 : Int32) hRS2 hI2) 0 7 rfl rfl (fun _ => xwW_f) (by decide) (by decide) rfl hl.1 rfl (Nat.le_of_ble_eq_true rfl) dL_act_360 ⟨Nat.zero_le _, Nat.zero_le _⟩ (fun r360 u360 H locs hw hP hD hS => ?_)
          have p360 : strA z1 r321 (0 : Int32) r360 := hw
          have hP : va_P D vwCl (xwW cI cZ cS x0 xs xv ho0 ho1 pd0 pd1 m0 ts0 ts1 a ha sa cq_321 cs1_321 sc tm tv pd sv (0 : Int32) old1_321 (recS sz) z1) H := hP
          have hD : va_D A (xwW cI cZ cS x0 xs xv ho0 ho1 pd0 pd1 m0 ts0 ts1 a ha sa cq_321 cs1_321 sc tm tv pd sv (0 : Int32) old1_321 (recS sz) z1) := hD
          refine xk_top (z := st0) (by exact (st_0 hsc p360).trans v0) ?_
          refine lv_iload hx hb dL_act_363 (lv_at hl 8 rfl) ?_
          refine lv_icmp_ne (tgt := 419) hx hb dL_act_365 (by decide) (fun c365 => ?_) (fun c365 => ?_)
          · have t365 : ¬ st0.toInt = st0.toInt := xi_ne rfl rfl c365
            have d365 : ¬ st0 = st0 := c365
            exact absurd rfl c365
          · have t365 : st0.toInt = st0.toInt := xi_eq rfl rfl c365
            have d365 : st0 = st0 := c365
            refine lv_aload_n hx hb dL_act_368 rfl (lv_at hl 5 rfl) ?_
            refine lv_iload hx hb dL_act_369 (lv_at hl 0 rfl) ?_
            refine lv_iconst (v := 1) hx hb dL_act_371 (by decide) ?_
            refine xo_Vi (As := [.int r321, .int 1]) (rest := []) hx hb hml hown hts hK hN hZ hP hD hS hA mb_X7_stretch mw_2_121 mw_2_122 mw_2_123 (k_X7_stretch l D cI cZ cS x0 xs xv ho0 ho1 pd0 pd1 m0 ts0 ts1 a ha sa cq_321 cs1_321 sc tm tv pd sv (0 : Int32) old1_321 (recS sz) z1 r321 (1 : Int32) hRS2 hI2) 0 7 rfl rfl (fun _ => xwW_f) (by decide) (by decide) rfl hl.1 rfl (Nat.le_of_ble_eq_true rfl) dL_act_372 ⟨Nat.zero_le _, Nat.zero_le _⟩ (fun r372 u372 H locs hw hP hD hS => ?_)
            have p372 : strA z1 r321 (1 : Int32) r372 := hw
            have hP : va_P D vwCl (xwW cI cZ cS x0 xs xv ho0 ho1 pd0 pd1 m0 ts0 ts1 a ha sa cq_321 cs1_321 sc tm tv pd sv (0 : Int32) old1_321 (recS sz) z1) H := hP
            have hD : va_D A (xwW cI cZ cS x0 xs xv ho0 ho1 pd0 pd1 m0 ts0 ts1 a ha sa cq_321 cs1_321 sc tm tv pd sv (0 : Int32) old1_321 (recS sz) z1) := hD
            refine xk_top (z := (x297 + 3)) (by exact (st_1 hsc p372).trans (by rw [v1])) ?_
            refine lv_iload hx hb dL_act_375 (lv_at hl 1 rfl) ?_
            refine lv_iconst (v := 3) hx hb dL_act_377 (by decide) ?_
            refine lv_iadd hx hb dL_act_378 ?_
            refine lv_topi (fun x378 e378 => ?_)
            refine lv_icmp_ne (tgt := 419) hx hb dL_act_379 (by decide) (fun c379 => ?_) (fun c379 => ?_)
            · have t379 : ¬ (x297 + 3).toInt = x378.toInt := xi_ne rfl rfl c379
              have d379 : ¬ (x297 + 3) = x378 := c379
              exact absurd e378.symm c379
            · have t379 : (x297 + 3).toInt = x378.toInt := xi_eq rfl rfl c379
              have d379 : (x297 + 3) = x378 := c379
              refine lv_aload_n hx hb dL_act_382 rfl (lv_at hl 5 rfl) ?_
              refine lv_iload hx hb dL_act_383 (lv_at hl 0 rfl) ?_
              refine lv_iconst (v := 2) hx hb dL_act_385 (by decide) ?_
              refine xo_Vi (As := [.int r321, .int 2]) (rest := []) hx hb hml hown hts hK hN hZ hP hD hS hA mb_X7_stretch mw_2_121 mw_2_122 mw_2_123 (k_X7_stretch l D cI cZ cS x0 xs xv ho0 ho1 pd0 pd1 m0 ts0 ts1 a ha sa cq_321 cs1_321 sc tm tv pd sv (0 : Int32) old1_321 (recS sz) z1 r321 (2 : Int32) hRS2 hI2) 0 7 rfl rfl (fun _ => xwW_f) (by decide) (by decide) rfl hl.1 rfl (Nat.le_of_ble_eq_true rfl) dL_act_386 ⟨Nat.zero_le _, Nat.zero_le _⟩ (fun r386 u386 H locs hw hP hD hS => ?_)
              have p386 : strA z1 r321 (2 : Int32) r386 := hw
              have hP : va_P D vwCl (xwW cI cZ cS x0 xs xv ho0 ho1 pd0 pd1 m0 ts0 ts1 a ha sa cq_321 cs1_321 sc tm tv pd sv (0 : Int32) old1_321 (recS sz) z1) H := hP
              have hD : va_D A (xwW cI cZ cS x0 xs xv ho0 ho1 pd0 pd1 m0 ts0 ts1 a ha sa cq_321 cs1_321 sc tm tv pd sv (0 : Int32) old1_321 (recS sz) z1) := hD
              refine xk_top (z := fl) (by exact (st_2 hsc p386).trans v2) ?_
              refine lv_iload hx hb dL_act_389 (lv_at hl 3 rfl) ?_
              refine lv_sipush (v := 700) hx hb dL_act_391 (by decide) ?_
              refine lv_idiv hx hb dL_act_394 (by decide) ?_
              refine lv_topi (fun x394 e394 => ?_)
              have t394 : x394.toInt = y.toInt / 700 := by rw [e394]; exact xi_div rfl (by decide) (by omega) (by omega)
              refine lv_iconst (v := 2) hx hb dL_act_395 (by decide) ?_
              refine lv_irem hx hb dL_act_396 (by decide) ?_
              refine lv_topi (fun x396 e396 => ?_)
              have t396 : x396.toInt = x394.toInt % 2 := by rw [e396]; exact xi_rem rfl (by decide) (by omega) (by omega)
              refine lv_if_ne (tgt := 404) hx hb dL_act_397 (by decide) (fun c397 => ?_) (fun c397 => ?_)
              · have t397 : ¬ x396.toInt = 0 := xi_ne rfl (by decide) c397
                have d397 : ¬ x396 = 0 := c397
                refine lv_iconst (v := 0) hx hb dL_act_404 (by decide) ?_
                refine lv_icmp_ne (tgt := 419) hx hb dL_act_405 (by decide) (fun c405 => ?_) (fun c405 => ?_)
                · have t405 : ¬ fl.toInt = 0 := xi_ne rfl (by decide) c405
                  have d405 : ¬ fl = 0 := c405
                  omega
                · have t405 : fl.toInt = 0 := xi_eq rfl (by decide) c405
                  have d405 : fl = 0 := c405
                  refine lv_aload_n hx hb dL_act_408 rfl (lv_at hl 5 rfl) ?_
                  refine xo_Si (As := [.ref x0]) (rest := []) hx hb hml hown hts hK hN hZ hP hD hS hA mb_L_isBegun mw_3_81 mw_3_82 (c_L_isBegun l D cI cZ cS x0 xs xv ho0 ho1 pd0 pd1 m0 ts0 ts1 a ha sa cq_321 cs1_321 sc tm tv pd sv (0 : Int32) old1_321 (recS sz) z1 (recP z past sz) slots (bd + 500) hLI2 (by first | omega | assumption) hbg1 h811) (fun _ => xwW_f) (by decide) (by decide) rfl hl.1 rfl (Nat.le_of_ble_eq_true rfl) dL_act_409 ⟨Nat.zero_le _, Nat.zero_le _⟩ (fun r409 u409 H locs hw hP hD hS => ?_)
                  have p409 : r409 = (1 : Int32) := hw
                  have hP : va_P D vwCl (xwW cI cZ cS x0 xs xv ho0 ho1 pd0 pd1 m0 ts0 ts1 a ha sa cq_321 cs1_321 sc tm tv pd sv (0 : Int32) old1_321 (recS sz) z1) H := hP
                  have hD : va_D A (xwW cI cZ cS x0 xs xv ho0 ho1 pd0 pd1 m0 ts0 ts1 a ha sa cq_321 cs1_321 sc tm tv pd sv (0 : Int32) old1_321 (recS sz) z1) := hD
                  refine xk_top (z := 1) (by exact p409) ?_
                  refine lv_if_eq (tgt := 419) hx hb dL_act_412 (by decide) (fun c412 => absurd c412 (by decide)) (fun _ => ?_)
                  refine lv_iconst (v := 1) hx hb dL_act_415 (by decide) ?_
                  refine lv_goto (tgt := 421) hx hb dL_act_416 (by decide) ?_
                  exact xk_reti (cq_321, cs1_321, tm, pd, old1_321, (recS sz), z1) hx hb hr hlocks (xk_P hP (by rfl)) (by (try dsimp only); exact ⟨Or.inl ⟨rfl, hLI2, rfl⟩, htl⟩) hS dL_act_421 hQ
              · have t397 : x396.toInt = 0 := xi_eq rfl (by decide) c397
                have d397 : x396 = 0 := c397
                refine lv_iconst (v := 1) hx hb dL_act_400 (by decide) ?_
                refine lv_goto (tgt := 405) hx hb dL_act_401 (by decide) ?_
                refine lv_icmp_ne (tgt := 419) hx hb dL_act_405 (by decide) (fun c405 => ?_) (fun c405 => ?_)
                · have t405 : ¬ fl.toInt = 1 := xi_ne rfl (by decide) c405
                  have d405 : ¬ fl = 1 := c405
                  omega
                · have t405 : fl.toInt = 1 := xi_eq rfl (by decide) c405
                  have d405 : fl = 1 := c405
                  refine lv_aload_n hx hb dL_act_408 rfl (lv_at hl 5 rfl) ?_
                  refine xo_Si (As := [.ref x0]) (rest := []) hx hb hml hown hts hK hN hZ hP hD hS hA mb_L_isBegun mw_3_81 mw_3_82 (c_L_isBegun l D cI cZ cS x0 xs xv ho0 ho1 pd0 pd1 m0 ts0 ts1 a ha sa cq_321 cs1_321 sc tm tv pd sv (0 : Int32) old1_321 (recS sz) z1 (recP z past sz) slots (bd + 500) hLI2 (by first | omega | assumption) hbg1 h811) (fun _ => xwW_f) (by decide) (by decide) rfl hl.1 rfl (Nat.le_of_ble_eq_true rfl) dL_act_409 ⟨Nat.zero_le _, Nat.zero_le _⟩ (fun r409 u409 H locs hw hP hD hS => ?_)
                  have p409 : r409 = (1 : Int32) := hw
                  have hP : va_P D vwCl (xwW cI cZ cS x0 xs xv ho0 ho1 pd0 pd1 m0 ts0 ts1 a ha sa cq_321 cs1_321 sc tm tv pd sv (0 : Int32) old1_321 (recS sz) z1) H := hP
                  have hD : va_D A (xwW cI cZ cS x0 xs xv ho0 ho1 pd0 pd1 m0 ts0 ts1 a ha sa cq_321 cs1_321 sc tm tv pd sv (0 : Int32) old1_321 (recS sz) z1) := hD
                  refine xk_top (z := 1) (by exact p409) ?_
                  refine lv_if_eq (tgt := 419) hx hb dL_act_412 (by decide) (fun c412 => absurd c412 (by decide)) (fun _ => ?_)
                  refine lv_iconst (v := 1) hx hb dL_act_415 (by decide) ?_
                  refine lv_goto (tgt := 421) hx hb dL_act_416 (by decide) ?_
                  exact xk_reti (cq_321, cs1_321, tm, pd, old1_321, (recS sz), z1) hx hb hr hlocks (xk_P hP (by rfl)) (by (try dsimp only); exact ⟨Or.inl ⟨rfl, hLI2, rfl⟩, htl⟩) hS dL_act_421 hQ
      · have t330 : (z 7).toInt = 12 := xi_eq rfl (by decide) c330
        have d330 : (z 7) = 12 := c330
        have h712 : z 7 = 12 := d330
        have hr321t : r321.toInt = -4 := by rw [p321.1, pv_full ⟨hst0, by omega⟩ h712]; decide
        obtain ⟨k1, k2, k3, k4, k5⟩ : cq_321 = cn ∧ zq_321 = z ∧ old1_321 = old ∧ sz1_321 = sz ∧ cs1_321 = cs := (p321.2.resolve_left (fun h9 => h9.1.2 h712)).2
        rw [k1, k2, k3, k4, k5] at hP hD
        have hP : va_P D vwCl (xwW cI cZ cS x0 xs xv ho0 ho1 pd0 pd1 m0 ts0 ts1 a ha sa cn cs sc tm tv pd sv (0 : Int32) old sz z) H := hP
        have hD : va_D A (xwW cI cZ cS x0 xs xv ho0 ho1 pd0 pd1 m0 ts0 ts1 a ha sa cn cs sc tm tv pd sv (0 : Int32) old sz z) := hD
        refine lv_iload hx hb dL_act_333 (lv_at hl 0 rfl) ?_
        refine lv_bipush (v := (-4)) hx hb dL_act_335 (by decide) ?_
        refine lv_icmp_ne (tgt := 344) hx hb dL_act_337 (by decide) (fun c337 => ?_) (fun c337 => ?_)
        · have t337 : ¬ r321.toInt = -4 := xi_ne rfl (by decide) c337
          have d337 : ¬ r321 = (-4) := c337
          omega
        · have t337 : r321.toInt = -4 := xi_eq rfl (by decide) c337
          have d337 : r321 = (-4) := c337
          refine lv_iconst (v := 0) hx hb dL_act_340 (by decide) ?_
          refine lv_goto (tgt := 421) hx hb dL_act_341 (by decide) ?_
          exact xk_reti (cn, cs, tm, pd, old, sz, z) hx hb hr hlocks (xk_P hP (by rfl)) (by (try dsimp only); exact ⟨Or.inr ⟨rfl, hLI, rfl, rfl⟩, fun _ _ => rfl⟩) hS dL_act_421 hQ
    refine lv_iload hx hb dL_act_305 (lv_at hl 2 rfl) ?_
    refine lv_sipush (v := 700) hx hb dL_act_307 (by decide) ?_
    refine lv_idiv hx hb dL_act_310 (by decide) ?_
    refine lv_topi (fun x310 e310 => ?_)
    have t310 : x310.toInt = y.toInt / 700 := by rw [e310]; exact xi_div rfl (by decide) (by omega) (by omega)
    refine lv_iconst (v := 2) hx hb dL_act_311 (by decide) ?_
    refine lv_irem hx hb dL_act_312 (by decide) ?_
    refine lv_topi (fun x312 e312 => ?_)
    have t312 : x312.toInt = x310.toInt % 2 := by rw [e312]; exact xi_rem rfl (by decide) (by omega) (by omega)
    refine lv_if_ne (tgt := 320) hx hb dL_act_313 (by decide) (fun c313 => ?_) (fun c313 => ?_)
    · have t313 : ¬ x312.toInt = 0 := xi_ne rfl (by decide) c313
      have d313 : ¬ x312 = 0 := c313
      refine lv_iconst (v := 0) hx hb dL_act_320 (by decide) ?_
      exact J321 (0 : Int32) (by exact Or.inr ⟨by decide, by omega⟩) (by first | exact Or.inl rfl | exact Or.inr rfl) _ _ hP hD hS ls (lv_sub hl [0, 1, 2, 3, 4, 5, 6, 7] rfl)
    · have t313 : x312.toInt = 0 := xi_eq rfl (by decide) c313
      have d313 : x312 = 0 := c313
      refine lv_iconst (v := 1) hx hb dL_act_316 (by decide) ?_
      refine lv_goto (tgt := 321) hx hb dL_act_317 (by decide) ?_
      exact J321 (1 : Int32) (by exact Or.inl ⟨by decide, by omega⟩) (by first | exact Or.inl rfl | exact Or.inr rfl) _ _ hP hD hS ls (lv_sub hl [0, 1, 2, 3, 4, 5, 6, 7] rfl)
  refine lv_iconst (v := 1) hx hb dL_act_267 (by decide) ?_
  refine lv_iload hx hb dL_act_268 (lv_at hl 1 rfl) ?_
  refine lv_iload hx hb dL_act_270 (lv_at hl 1 rfl) ?_
  refine lv_iconst (v := 2) hx hb dL_act_272 (by decide) ?_
  refine lv_irem hx hb dL_act_273 (by decide) ?_
  refine lv_topi (fun x273 e273 => ?_)
  have t273 : x273.toInt = y.toInt % 2 := by rw [e273]; exact xi_rem rfl (by decide) (by omega) (by omega)
  refine lv_if_ne (tgt := 282) hx hb dL_act_274 (by decide) (fun c274 => ?_) (fun c274 => ?_)
  · have t274 : ¬ x273.toInt = 0 := xi_ne rfl (by decide) c274
    have d274 : ¬ x273 = 0 := c274
    refine lv_bipush (v := 20) hx hb dL_act_282 (by decide) ?_
    refine lv_irem hx hb dL_act_284 (by decide) ?_
    refine lv_topi (fun x284 e284 => ?_)
    have t284 : x284.toInt = y.toInt % 20 := by rw [e284]; exact xi_rem rfl (by decide) (by omega) (by omega)
    refine lv_iadd hx hb dL_act_285 ?_
    refine lv_topi (fun x285 e285 => ?_)
    have t285 : x285.toInt = 1 + x284.toInt := by rw [e285]; exact xi_add (by decide) rfl (by omega) (by omega)
    refine lv_istore (lv' := [(6, .int x285), (5, .int (z 7)), (4, .int y), (3, .int ho), (0, .ref x0), (1, .int p1), (2, .int p2)]) hx hb dL_act_286 hl (by decide) rfl (fun ls hl => ?_)
    exact J288 x285 (by first | omega | assumption) _ _ hP hD hS ls (lv_sub hl [1, 2, 3, 4, 5, 6, 0] rfl)
  · have t274 : x273.toInt = 0 := xi_eq rfl (by decide) c274
    have d274 : x273 = 0 := c274
    refine lv_bipush (v := 99) hx hb dL_act_277 (by decide) ?_
    refine lv_goto (tgt := 284) hx hb dL_act_279 (by decide) ?_
    refine lv_irem hx hb dL_act_284 (by decide) ?_
    refine lv_topi (fun x284 e284 => ?_)
    have t284 : x284.toInt = y.toInt % 99 := by rw [e284]; exact xi_rem rfl (by decide) (by omega) (by omega)
    refine lv_iadd hx hb dL_act_285 ?_
    refine lv_topi (fun x285 e285 => ?_)
    have t285 : x285.toInt = 1 + x284.toInt := by rw [e285]; exact xi_add (by decide) rfl (by omega) (by omega)
    refine lv_istore (lv' := [(6, .int x285), (5, .int (z 7)), (4, .int y), (3, .int ho), (0, .ref x0), (1, .int p1), (2, .int p2)]) hx hb dL_act_286 hl (by decide) rfl (fun ls hl => ?_)
    exact J288 x285 (by first | omega | assumption) _ _ hP hD hS ls (lv_sub hl [1, 2, 3, 4, 5, 6, 0] rfl)

set_option maxHeartbeats 4000000 in
set_option maxRecDepth 100000 in
theorem la_tear {p : Program} {e : Env} {s : State} {m : MethodId} {below : List Frame} {meth : Method} {c : Code} (l : Launch) {args : Array Value} {A : Nat → Prop} {Q : State → Prop} {D : va_G} {cI cZ cS : ClassId} (x0 : Nat) (xs : Nat) (xv : Nat) (ho0 : Nat) (ho1 : Nat) (pd0 : Nat) (pd1 : Nat) (m0 : Nat) (ts0 : Nat) (ts1 : Nat) (a : Nat → Nat) (ha : Nat → Nat → Nat) (sa : Nat → Nat → Nat) (cn : Nat → Nat → Int32) (cs : Nat → Nat → Nat → Int32) (sc : Nat → Nat → Nat → Int32) (tm : Nat → Int32) (tv : Nat → Int32) (pd : Nat → Int32) (sv : Nat → Int32) (old : Int32) (sz : Int32) (z : Nat → Int32) (past : Nat → Int32) (slots : Nat → Int32) (bd : Int) (p1 p2 ho y : Int32) (hLI : LI bd cn cs sc sv (0 : Int32) old sz z past slots) (hbd : bd ≤ 99000) (hx : p.tables.exec = Jvm.exec) (hb : c.code = cL_act) (hr : meth.sig.returnType = (some .int)) (hts : ∀ w ∈ Cond.code yL_act cL_act 10 (some .int) :: wsL_law, w.before args s = true) (hown : s.vm.findClass yL_act.cls = some m.cls) (hlocks : meth.locks = false) (hml : c.maxLocals = 10) (hK : va_K D vwCl (xTy cI cZ cS) s) (hA : ∀ q : Nat, s.heap.size ≤ q → A q) (hN : xN s) (hZ : xZ A s) (hQ : Q = MQ below (va_Qi (fun (r : Int32) (u : (Nat → Nat → Int32) × (Nat → Nat → Nat → Int32) × (Nat → Int32) × (Nat → Int32) × (Int32) × (Int32) × (Nat → Int32)) => ((r = 1 ∧ LI (bd + 500) u.1 u.2.1 sc sv (0 : Int32) u.2.2.2.2.1 u.2.2.2.2.2.1 u.2.2.2.2.2.2 (recP z past sz) slots ∧ u.2.2.2.2.2.1 = recS sz) ∨ (r = 0 ∧ LI bd u.1 u.2.1 sc sv (0 : Int32) u.2.2.2.2.1 u.2.2.2.2.2.1 u.2.2.2.2.2.2 past slots ∧ u.2.2.2.2.2.2 = z ∧ u.2.2.2.2.2.1 = sz)) ∧ (∀ k : Nat, 190 ≤ k → u.2.2.2.2.2.2 k = z k)) (fun u t => va_P D vwCl ((fun (u : (Nat → Nat → Int32) × (Nat → Nat → Nat → Int32) × (Nat → Int32) × (Nat → Int32) × (Int32) × (Int32) × (Nat → Int32)) => (xwW cI cZ cS x0 xs xv ho0 ho1 pd0 pd1 m0 ts0 ts1 a ha sa u.1 u.2.1 sc u.2.2.1 tv u.2.2.2.1 sv (0 : Int32) u.2.2.2.2.1 u.2.2.2.2.2.1 u.2.2.2.2.2.2)) u) t.heap) A) args s 0 0 A) (hy : 0 ≤ y.toInt) (H : Heap) (locs : List Loc) (hP : va_P D vwCl (xwW cI cZ cS x0 xs xv ho0 ho1 pd0 pd1 m0 ts0 ts1 a ha sa cn cs sc tm tv pd sv (0 : Int32) old sz z) H) (hD : va_D A (xwW cI cZ cS x0 xs xv ho0 ho1 pd0 pd1 m0 ts0 ts1 a ha sa cn cs sc tm tv pd sv (0 : Int32) old sz z)) (hS : va_S A s.heap H locs) (ls : Array Slot) (hl : lv_has ls 10 [(4, .int y), (3, .int ho), (0, .ref x0), (1, .int p1), (2, .int p2)]) : W p l e ({ frames := 7, cells := 0, slots := 0, locals := 159 } : Room) s m args below meth c H locs 0 0 Q (F0 m 427 ls []) := by
  obtain ⟨hRS, hI, hBD, ⟨hold, hszz, hlnn⟩, hmcs, hmsc, hRH, hRL⟩ := id hLI
  obtain ⟨⟨hb74, hb74u⟩, ⟨hb86, hb86u⟩, hIP⟩ := id hBD
  have hs0 : (1 ≤ (z 0).toInt ∧ (z 0).toInt ≤ 9) ∧ (0 ≤ (z 1).toInt ∧ (z 1).toInt ≤ 9) ∧ (1 ≤ (z 2).toInt ∧ (z 2).toInt ≤ 9) ∧ (1 ≤ (z 3).toInt ∧ (z 3).toInt ≤ 20) ∧ (2 ≤ (z 5).toInt ∧ (z 5).toInt ≤ 9) := hI.1
  have hg6 : 0 ≤ (z 6).toInt ∧ (z 6).toInt ≤ 10 := hI.2.1.1
  have hr7 : 0 ≤ (z 7).toInt ∧ (z 7).toInt ≤ 12 := hI.2.2.1.1
  have z0 : (0 : Int32).toInt = 0 := by decide
  refine lv_aload_n hx hb dL_act_427 rfl (lv_at hl 2 rfl) ?_
  refine lv_bipush (v := 9) hx hb dL_act_428 (by decide) ?_
  refine xo_Vi (As := [.int 9]) (rest := []) hx hb hml hown hts hK hN hZ hP hD hS hA mb_X7_count mw_2_6 mw_2_7 mw_2_8 (k_X7_count l D cI cZ cS x0 xs xv ho0 ho1 pd0 pd1 m0 ts0 ts1 a ha sa cn cs sc tm tv pd sv (0 : Int32) old sz z (9 : Int32) hRS hI) 0 7 rfl rfl (fun _ => xwW_f) (by decide) (by decide) rfl hl.1 rfl (Nat.le_of_ble_eq_true rfl) dL_act_430 ⟨Nat.zero_le _, Nat.zero_le _⟩ (fun r430 u430 H locs hw hP hD hS => ?_)
  have p430 : r430 = cntR z (0 : Int32) sz (9 : Int32) := hw
  have hP : va_P D vwCl (xwW cI cZ cS x0 xs xv ho0 ho1 pd0 pd1 m0 ts0 ts1 a ha sa cn cs sc tm tv pd sv (0 : Int32) old sz z) H := hP
  have hD : va_D A (xwW cI cZ cS x0 xs xv ho0 ho1 pd0 pd1 m0 ts0 ts1 a ha sa cn cs sc tm tv pd sv (0 : Int32) old sz z) := hD
  refine xk_top (z := (z 7)) (by exact p430.trans (ct_9 _ _ _)) ?_
  refine lv_istore (lv' := [(5, .int (z 7)), (4, .int y), (3, .int ho), (0, .ref x0), (1, .int p1), (2, .int p2)]) hx hb dL_act_433 hl (by decide) rfl (fun ls hl => ?_)
  refine lv_iload hx hb dL_act_435 (lv_at hl 1 rfl) ?_
  refine lv_bipush (v := 12) hx hb dL_act_437 (by decide) ?_
  refine lv_irem hx hb dL_act_439 (by decide) ?_
  refine lv_topi (fun x439 e439 => ?_)
  have t439 : x439.toInt = y.toInt % 12 := by rw [e439]; exact xi_rem rfl (by decide) (by omega) (by omega)
  refine lv_istore (lv' := [(6, .int x439), (5, .int (z 7)), (4, .int y), (3, .int ho), (0, .ref x0), (1, .int p1), (2, .int p2)]) hx hb dL_act_440 hl (by decide) rfl (fun ls hl => ?_)
  refine lv_aload_n hx hb dL_act_442 rfl (lv_at hl 4 rfl) ?_
  refine lv_iload hx hb dL_act_443 (lv_at hl 0 rfl) ?_
  refine lv_iconst (v := 0) hx hb dL_act_445 (by decide) ?_
  refine xo_Vi (As := [.int x439, .int 0]) (rest := []) hx hb hml hown hts hK hN hZ hP hD hS hA mb_X7_stretch mw_2_121 mw_2_122 mw_2_123 (k_X7_stretch l D cI cZ cS x0 xs xv ho0 ho1 pd0 pd1 m0 ts0 ts1 a ha sa cn cs sc tm tv pd sv (0 : Int32) old sz z x439 (0 : Int32) hRS hI) 0 7 rfl rfl (fun _ => xwW_f) (by decide) (by decide) rfl hl.1 rfl (Nat.le_of_ble_eq_true rfl) dL_act_446 ⟨Nat.zero_le _, Nat.zero_le _⟩ (fun r446 u446 H locs hw hP hD hS => ?_)
  have p446 : strA z x439 (0 : Int32) r446 := hw
  have hP : va_P D vwCl (xwW cI cZ cS x0 xs xv ho0 ho1 pd0 pd1 m0 ts0 ts1 a ha sa cn cs sc tm tv pd sv (0 : Int32) old sz z) H := hP
  have hD : va_D A (xwW cI cZ cS x0 xs xv ho0 ho1 pd0 pd1 m0 ts0 ts1 a ha sa cn cs sc tm tv pd sv (0 : Int32) old sz z) := hD
  refine lv_istore (lv' := [(7, .int r446), (6, .int x439), (5, .int (z 7)), (4, .int y), (3, .int ho), (0, .ref x0), (1, .int p1), (2, .int p2)]) hx hb dL_act_449 hl (by decide) rfl (fun ls hl => ?_)
  refine lv_aload_n hx hb dL_act_451 rfl (lv_at hl 5 rfl) ?_
  refine lv_bipush (v := 10) hx hb dL_act_452 (by decide) ?_
  refine xo_Vi (As := [.int 10]) (rest := []) hx hb hml hown hts hK hN hZ hP hD hS hA mb_X7_count mw_2_6 mw_2_7 mw_2_8 (k_X7_count l D cI cZ cS x0 xs xv ho0 ho1 pd0 pd1 m0 ts0 ts1 a ha sa cn cs sc tm tv pd sv (0 : Int32) old sz z (10 : Int32) hRS hI) 0 7 rfl rfl (fun _ => xwW_f) (by decide) (by decide) rfl hl.1 rfl (Nat.le_of_ble_eq_true rfl) dL_act_454 ⟨Nat.zero_le _, Nat.zero_le _⟩ (fun r454 u454 H locs hw hP hD hS => ?_)
  have p454 : r454 = cntR z (0 : Int32) sz (10 : Int32) := hw
  have hP : va_P D vwCl (xwW cI cZ cS x0 xs xv ho0 ho1 pd0 pd1 m0 ts0 ts1 a ha sa cn cs sc tm tv pd sv (0 : Int32) old sz z) H := hP
  have hD : va_D A (xwW cI cZ cS x0 xs xv ho0 ho1 pd0 pd1 m0 ts0 ts1 a ha sa cn cs sc tm tv pd sv (0 : Int32) old sz z) := hD
  refine xk_top (z := (sumR z (z 7).toInt.toNat)) (by exact p454.trans (ct_10 _ _ _)) ?_
  refine lv_istore (lv' := [(8, .int (sumR z (z 7).toInt.toNat)), (7, .int r446), (6, .int x439), (5, .int (z 7)), (4, .int y), (3, .int ho), (0, .ref x0), (1, .int p1), (2, .int p2)]) hx hb dL_act_457 hl (by decide) rfl (fun ls hl => ?_)
  refine lv_aload_n hx hb dL_act_459 rfl (lv_at hl 6 rfl) ?_
  refine lv_iload hx hb dL_act_460 (lv_at hl 2 rfl) ?_
  refine xo_Vi (As := [.int x439]) (rest := []) hx hb hml hown hts hK hN hZ hP hD hS hA mb_X7_tear mw_3_25 mw_3_26 mw_3_27 (k_X7_tear l D cI cZ cS x0 xs xv ho0 ho1 pd0 pd1 m0 ts0 ts1 a ha sa cn cs sc tm tv pd sv (0 : Int32) old sz z x439 hRS hI hold hszz) 0 7 rfl rfl (fun _ => xwW_f) (by decide) (by decide) rfl hl.1 rfl (Nat.le_of_ble_eq_true rfl) dL_act_462 ⟨Nat.zero_le _, Nat.zero_le _⟩ (fun r462 u462 H locs hw hP hD hS => ?_)
  obtain ⟨cq_462, zq_462, old1_462, sz1_462, cs1_462⟩ := u462
  have p462 : (tearC z x439 ∧ r462 = ofZ z x439.toInt.toNat 0 ∧ Chg cn z old sz cs (tearZ z x439) cq_462 zq_462 old1_462 sz1_462 cs1_462) ∨ (¬ tearC z x439 ∧ r462 = -1 ∧ Same cn z old sz cs cq_462 zq_462 old1_462 sz1_462 cs1_462) := hw
  have hP : va_P D vwCl (xwW cI cZ cS x0 xs xv ho0 ho1 pd0 pd1 m0 ts0 ts1 a ha sa cq_462 cs1_462 sc tm tv pd sv (0 : Int32) old1_462 sz1_462 zq_462) H := hP
  have hD : va_D A (xwW cI cZ cS x0 xs xv ho0 ho1 pd0 pd1 m0 ts0 ts1 a ha sa cq_462 cs1_462 sc tm tv pd sv (0 : Int32) old1_462 sz1_462 zq_462) := hD
  refine lv_istore (lv' := [(9, .int r462), (8, .int (sumR z (z 7).toInt.toNat)), (7, .int r446), (6, .int x439), (5, .int (z 7)), (4, .int y), (3, .int ho), (0, .ref x0), (1, .int p1), (2, .int p2)]) hx hb dL_act_465 hl (by decide) rfl (fun ls hl => ?_)
  refine lv_iload hx hb dL_act_467 (lv_at hl 3 rfl) ?_
  refine lv_iload hx hb dL_act_469 (lv_at hl 4 rfl) ?_
  refine lv_icmp_lt (tgt := 489) hx hb dL_act_471 (by decide) (fun c471 => ?_) (fun c471 => ?_)
  · have t471 : x439.toInt < (z 7).toInt := xi_lt rfl rfl c471
    have htc : tearC z x439 := ⟨by omega, by omega⟩
    have hr462 : r462 = ofZ z x439.toInt.toNat 0 := (p462.resolve_right (fun h9 => h9.1 htc)).2.1
    have hr446 : r446 = ofZ z x439.toInt.toNat 0 := st_0 htc p446
    obtain ⟨hLI2, hz2, hs2⟩ := act_tear hLI htc ((p462.resolve_right (fun h9 => h9.1 htc)).2.2)
    rw [hz2, hs2] at hP hD
    rw [hs2] at hLI2
    obtain ⟨z1, hz1⟩ : ∃ q, q = tearZ z x439 := ⟨_, rfl⟩
    rw [← hz1] at hP hD hLI2
    obtain ⟨hRS2, hI2, -, ⟨hold2, hsz2, -⟩, -⟩ := id hLI2
    have hbg1 : begP0 z1 := by rw [hz1]; exact begP_b _
    have h811 : z1 181 = z1 4 := by rw [hz1]; unfold tearZ; rw [begin_181, beginZ_lo _ (by omega)]
    have htl : ∀ k : Nat, 190 ≤ k → z1 k = z k := fun k hk => by rw [hz1]; exact tear_hi (by omega) hk
    have hsum := tear_sum hI htc
    rw [← hz1] at hsum
    have hroa := sumR_in hI.2.2.1 (z 7).toInt.toNat (by omega)
    have hrof := (hI.2.2.1.2 x439.toInt.toNat (by omega)).1
    have h446t : r446.toInt = (ofZ z x439.toInt.toNat 0).toInt := by rw [hr446]
    have hP : va_P D vwCl (xwW cI cZ cS x0 xs xv ho0 ho1 pd0 pd1 m0 ts0 ts1 a ha sa cq_462 cs1_462 sc tm tv pd sv (0 : Int32) old1_462 (recS sz) z1) H := hP
    have hD : va_D A (xwW cI cZ cS x0 xs xv ho0 ho1 pd0 pd1 m0 ts0 ts1 a ha sa cq_462 cs1_462 sc tm tv pd sv (0 : Int32) old1_462 (recS sz) z1) := hD
    refine lv_iload hx hb dL_act_489 (lv_at hl 0 rfl) ?_
    refine lv_iload hx hb dL_act_491 (lv_at hl 2 rfl) ?_
    refine lv_icmp_ne (tgt := 534) hx hb dL_act_493 (by decide) (fun c493 => ?_) (fun c493 => ?_)
    · have t493 : ¬ r462.toInt = r446.toInt := xi_ne rfl rfl c493
      have d493 : ¬ r462 = r446 := c493
      exact absurd (hr462.trans hr446.symm) c493
    · have t493 : r462.toInt = r446.toInt := xi_eq rfl rfl c493
      have d493 : r462 = r446 := c493
      refine lv_aload_n hx hb dL_act_496 rfl (lv_at hl 7 rfl) ?_
      refine lv_bipush (v := 9) hx hb dL_act_497 (by decide) ?_
      refine xo_Vi (As := [.int 9]) (rest := []) hx hb hml hown hts hK hN hZ hP hD hS hA mb_X7_count mw_2_6 mw_2_7 mw_2_8 (k_X7_count l D cI cZ cS x0 xs xv ho0 ho1 pd0 pd1 m0 ts0 ts1 a ha sa cq_462 cs1_462 sc tm tv pd sv (0 : Int32) old1_462 (recS sz) z1 (9 : Int32) hRS2 hI2) 0 7 rfl rfl (fun _ => xwW_f) (by decide) (by decide) rfl hl.1 rfl (Nat.le_of_ble_eq_true rfl) dL_act_499 ⟨Nat.zero_le _, Nat.zero_le _⟩ (fun r499 u499 H locs hw hP hD hS => ?_)
      have p499 : r499 = cntR z1 (0 : Int32) (recS sz) (9 : Int32) := hw
      have hP : va_P D vwCl (xwW cI cZ cS x0 xs xv ho0 ho1 pd0 pd1 m0 ts0 ts1 a ha sa cq_462 cs1_462 sc tm tv pd sv (0 : Int32) old1_462 (recS sz) z1) H := hP
      have hD : va_D A (xwW cI cZ cS x0 xs xv ho0 ho1 pd0 pd1 m0 ts0 ts1 a ha sa cq_462 cs1_462 sc tm tv pd sv (0 : Int32) old1_462 (recS sz) z1) := hD
      refine xk_top (z := (z1 7)) (by exact p499.trans (ct_9 _ _ _)) ?_
      refine lv_iload hx hb dL_act_502 (lv_at hl 4 rfl) ?_
      refine lv_iconst (v := 1) hx hb dL_act_504 (by decide) ?_
      refine lv_isub hx hb dL_act_505 ?_
      refine lv_topi (fun x505 e505 => ?_)
      have t505 : x505.toInt = ((z 7).toInt) - 1 := by rw [e505]; exact xi_sub rfl (by decide) (by omega) (by omega)
      refine lv_icmp_ne (tgt := 534) hx hb dL_act_506 (by decide) (fun c506 => ?_) (fun c506 => ?_)
      · have t506 : ¬ (z1 7).toInt = x505.toInt := xi_ne rfl rfl c506
        have d506 : ¬ (z1 7) = x505 := c506
        exact absurd (by rw [e505, hz1, tear_7]) c506
      · have t506 : (z1 7).toInt = x505.toInt := xi_eq rfl rfl c506
        have d506 : (z1 7) = x505 := c506
        refine lv_aload_n hx hb dL_act_509 rfl (lv_at hl 7 rfl) ?_
        refine lv_bipush (v := 10) hx hb dL_act_510 (by decide) ?_
        refine xo_Vi (As := [.int 10]) (rest := []) hx hb hml hown hts hK hN hZ hP hD hS hA mb_X7_count mw_2_6 mw_2_7 mw_2_8 (k_X7_count l D cI cZ cS x0 xs xv ho0 ho1 pd0 pd1 m0 ts0 ts1 a ha sa cq_462 cs1_462 sc tm tv pd sv (0 : Int32) old1_462 (recS sz) z1 (10 : Int32) hRS2 hI2) 0 7 rfl rfl (fun _ => xwW_f) (by decide) (by decide) rfl hl.1 rfl (Nat.le_of_ble_eq_true rfl) dL_act_512 ⟨Nat.zero_le _, Nat.zero_le _⟩ (fun r512 u512 H locs hw hP hD hS => ?_)
        have p512 : r512 = cntR z1 (0 : Int32) (recS sz) (10 : Int32) := hw
        have hP : va_P D vwCl (xwW cI cZ cS x0 xs xv ho0 ho1 pd0 pd1 m0 ts0 ts1 a ha sa cq_462 cs1_462 sc tm tv pd sv (0 : Int32) old1_462 (recS sz) z1) H := hP
        have hD : va_D A (xwW cI cZ cS x0 xs xv ho0 ho1 pd0 pd1 m0 ts0 ts1 a ha sa cq_462 cs1_462 sc tm tv pd sv (0 : Int32) old1_462 (recS sz) z1) := hD
        refine xk_top (z := (sumR z1 (z1 7).toInt.toNat)) (by exact p512.trans (ct_10 _ _ _)) ?_
        refine lv_iload hx hb dL_act_515 (lv_at hl 1 rfl) ?_
        refine lv_iload hx hb dL_act_517 (lv_at hl 2 rfl) ?_
        refine lv_isub hx hb dL_act_519 ?_
        refine lv_topi (fun x519 e519 => ?_)
        have t519 : x519.toInt = ((sumR z (z 7).toInt.toNat).toInt) - r446.toInt := by rw [e519]; exact xi_sub rfl rfl (by omega) (by omega)
        refine lv_icmp_ne (tgt := 534) hx hb dL_act_520 (by decide) (fun c520 => ?_) (fun c520 => ?_)
        · have t520 : ¬ (sumR z1 (z1 7).toInt.toNat).toInt = x519.toInt := xi_ne rfl rfl c520
          have d520 : ¬ (sumR z1 (z1 7).toInt.toNat) = x519 := c520
          exact absurd (xi_ext (by rw [t519]; omega)) c520
        · have t520 : (sumR z1 (z1 7).toInt.toNat).toInt = x519.toInt := xi_eq rfl rfl c520
          have d520 : (sumR z1 (z1 7).toInt.toNat) = x519 := c520
          refine lv_aload_n hx hb dL_act_523 rfl (lv_at hl 7 rfl) ?_
          refine xo_Si (As := [.ref x0]) (rest := []) hx hb hml hown hts hK hN hZ hP hD hS hA mb_L_isBegun mw_3_81 mw_3_82 (c_L_isBegun l D cI cZ cS x0 xs xv ho0 ho1 pd0 pd1 m0 ts0 ts1 a ha sa cq_462 cs1_462 sc tm tv pd sv (0 : Int32) old1_462 (recS sz) z1 (recP z past sz) slots (bd + 500) hLI2 (by first | omega | assumption) hbg1 h811) (fun _ => xwW_f) (by decide) (by decide) rfl hl.1 rfl (Nat.le_of_ble_eq_true rfl) dL_act_524 ⟨Nat.zero_le _, Nat.zero_le _⟩ (fun r524 u524 H locs hw hP hD hS => ?_)
          have p524 : r524 = (1 : Int32) := hw
          have hP : va_P D vwCl (xwW cI cZ cS x0 xs xv ho0 ho1 pd0 pd1 m0 ts0 ts1 a ha sa cq_462 cs1_462 sc tm tv pd sv (0 : Int32) old1_462 (recS sz) z1) H := hP
          have hD : va_D A (xwW cI cZ cS x0 xs xv ho0 ho1 pd0 pd1 m0 ts0 ts1 a ha sa cq_462 cs1_462 sc tm tv pd sv (0 : Int32) old1_462 (recS sz) z1) := hD
          refine xk_top (z := 1) (by exact p524) ?_
          refine lv_if_eq (tgt := 534) hx hb dL_act_527 (by decide) (fun c527 => absurd c527 (by decide)) (fun _ => ?_)
          refine lv_iconst (v := 1) hx hb dL_act_530 (by decide) ?_
          refine lv_goto (tgt := 536) hx hb dL_act_531 (by decide) ?_
          exact xk_reti (cq_462, cs1_462, tm, pd, old1_462, (recS sz), z1) hx hb hr hlocks (xk_P hP (by rfl)) (by (try dsimp only); exact ⟨Or.inl ⟨rfl, hLI2, rfl⟩, htl⟩) hS dL_act_536 hQ
  · have t471 : (z 7).toInt ≤ x439.toInt := xi_nlt rfl rfl c471
    have hntc : ¬ tearC z x439 := fun h9 => by have := h9.2; omega
    have hr462 : r462.toInt = -1 := by rw [(p462.resolve_left (fun h9 => hntc h9.1)).2.1]; decide
    obtain ⟨k1, k2, k3, k4, k5⟩ : cq_462 = cn ∧ zq_462 = z ∧ old1_462 = old ∧ sz1_462 = sz ∧ cs1_462 = cs := (p462.resolve_left (fun h9 => hntc h9.1)).2.2
    rw [k1, k2, k3, k4, k5] at hP hD
    have hP : va_P D vwCl (xwW cI cZ cS x0 xs xv ho0 ho1 pd0 pd1 m0 ts0 ts1 a ha sa cn cs sc tm tv pd sv (0 : Int32) old sz z) H := hP
    have hD : va_D A (xwW cI cZ cS x0 xs xv ho0 ho1 pd0 pd1 m0 ts0 ts1 a ha sa cn cs sc tm tv pd sv (0 : Int32) old sz z) := hD
    refine lv_iload hx hb dL_act_474 (lv_at hl 0 rfl) ?_
    refine lv_iconst (v := (-1)) hx hb dL_act_476 (by decide) ?_
    refine lv_icmp_ne (tgt := 484) hx hb dL_act_477 (by decide) (fun c477 => ?_) (fun c477 => ?_)
    · have t477 : ¬ r462.toInt = -1 := xi_ne rfl (by decide) c477
      have d477 : ¬ r462 = (-1) := c477
      omega
    · have t477 : r462.toInt = -1 := xi_eq rfl (by decide) c477
      have d477 : r462 = (-1) := c477
      refine lv_iconst (v := 0) hx hb dL_act_480 (by decide) ?_
      refine lv_goto (tgt := 536) hx hb dL_act_481 (by decide) ?_
      exact xk_reti (cn, cs, tm, pd, old, sz, z) hx hb hr hlocks (xk_P hP (by rfl)) (by (try dsimp only); exact ⟨Or.inr ⟨rfl, hLI, rfl, rfl⟩, fun _ _ => rfl⟩) hS dL_act_536 hQ
