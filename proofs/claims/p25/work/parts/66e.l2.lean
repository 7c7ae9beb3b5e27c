set_option maxHeartbeats 4000000 in
set_option maxRecDepth 100000 in
theorem c_L_refusesAny (l : Launch) (D : va_G) (cI cZ cS : ClassId) (x0 : Nat) (xs : Nat) (xv : Nat) (ho0 : Nat) (ho1 : Nat) (pd0 : Nat) (pd1 : Nat) (m0 : Nat) (ts0 : Nat) (ts1 : Nat) (a : Nat → Nat) (ha : Nat → Nat → Nat) (sa : Nat → Nat → Nat) (cn : Nat → Nat → Int32) (cs : Nat → Nat → Nat → Int32) (sc : Nat → Nat → Nat → Int32) (tm : Nat → Int32) (tv : Nat → Int32) (pd : Nat → Int32) (sv : Nat → Int32) (old : Int32) (sz : Int32) (z : Nat → Int32) (past : Nat → Int32) (slots : Nat → Int32) (bd : Int) (p1 : Int32) (hLI : LI bd cn cs sc sv (0 : Int32) old sz z past slots) (hbd : bd ≤ 100000) (hp1 : 0 ≤ p1.toInt) : xMi l yL_refusesAny cL_refusesAny 5 (some .boolean) ({ frames := 7, cells := 0, slots := 0, locals := 159 } : Room) D (xTy cI cZ cS) [.ref x0, .int p1] (xwW cI cZ cS x0 xs xv ho0 ho1 pd0 pd1 m0 ts0 ts1 a ha sa cn cs sc tm tv pd sv (0 : Int32) old sz z) (fun (r : Int32) (u : (Nat → Int32)) => r = (1 : Int32)) (fun (u : (Nat → Int32)) => (xwW cI cZ cS x0 xs xv ho0 ho1 pd0 pd1 m0 ts0 ts1 a ha sa cn cs sc u tv pd sv (0 : Int32) old sz z)) := by
  refine xk_bodyi (by decide) (Nat.le_of_ble_eq_true rfl) ?_
  intro p e s m below meth c A ls args Q hx hb hr hts hown hlocks hml hin hK hP hD hS hA hN hZ hl hQ
  have hl : lv_has ls 5 [(0, .ref x0), (1, .int p1)] := hl
  obtain ⟨hRS, hI, hBD, ⟨hold, hszz, hlnn⟩, hmcs, hmsc, hRH, hRL⟩ := id hLI
  obtain ⟨⟨hb74, hb74u⟩, ⟨hb86, hb86u⟩, hIP⟩ := id hBD
  have hs0 : (1 ≤ (z 0).toInt ∧ (z 0).toInt ≤ 9) ∧ (0 ≤ (z 1).toInt ∧ (z 1).toInt ≤ 9) ∧ (1 ≤ (z 2).toInt ∧ (z 2).toInt ≤ 9) ∧ (1 ≤ (z 3).toInt ∧ (z 3).toInt ≤ 20) ∧ (2 ≤ (z 5).toInt ∧ (z 5).toInt ≤ 9) := hI.1
  have hg6 : 0 ≤ (z 6).toInt ∧ (z 6).toInt ≤ 10 := hI.2.1.1
  have hr7 : 0 ≤ (z 7).toInt ∧ (z 7).toInt ≤ 12 := hI.2.2.1.1
  have z0 : (0 : Int32).toInt = 0 := by decide
  have J22 : ∀ (no : Int32) (hno : no.toInt < 0 ∨ 12 ≤ no.toInt) (H : Heap) (locs : List Loc), va_P D vwCl (xwW cI cZ cS x0 xs xv ho0 ho1 pd0 pd1 m0 ts0 ts1 a ha sa cn cs sc tm tv pd sv (0 : Int32) old sz z) H → va_D A (xwW cI cZ cS x0 xs xv ho0 ho1 pd0 pd1 m0 ts0 ts1 a ha sa cn cs sc tm tv pd sv (0 : Int32) old sz z) → va_S A s.heap H locs → ∀ ls : Array Slot, lv_has ls 5 [(0, .ref x0), (1, .int p1)] → W p l e ({ frames := 7, cells := 0, slots := 0, locals := 159 } : Room) s m args below meth c H locs 0 0 Q (F0 m 22 ls [.int no]) := by
    intro no hno H locs hP hD hS ls hl
    refine lv_istore_n (lv' := [(2, .int no), (0, .ref x0), (1, .int p1)]) hx hb dL_refusesAny_22 rfl hl (by decide) rfl (fun ls hl => ?_)
    refine lv_aload_n hx hb dL_refusesAny_23 rfl (lv_at hl 1 rfl) ?_
    refine lv_bipush (v := 6) hx hb dL_refusesAny_24 (by decide) ?_
    refine xo_Vi (As := [.int 6]) (rest := []) hx hb hml hown hts hK hN hZ hP hD hS hA mb_X7_count mw_2_6 mw_2_7 mw_2_8 (k_X7_count l D cI cZ cS x0 xs xv ho0 ho1 pd0 pd1 m0 ts0 ts1 a ha sa cn cs sc tm tv pd sv (0 : Int32) old sz z (6 : Int32) hRS hI) 0 7 rfl rfl (fun _ => xwW_f) (by decide) (by decide) rfl hl.1 rfl (Nat.le_of_ble_eq_true rfl) dL_refusesAny_26 ⟨Nat.zero_le _, Nat.zero_le _⟩ (fun r26 u26 H locs hw hP hD hS => ?_)
    have p26 : r26 = cntR z (0 : Int32) sz (6 : Int32) := hw
    have hP : va_P D vwCl (xwW cI cZ cS x0 xs xv ho0 ho1 pd0 pd1 m0 ts0 ts1 a ha sa cn cs sc tm tv pd sv (0 : Int32) old sz z) H := hP
    have hD : va_D A (xwW cI cZ cS x0 xs xv ho0 ho1 pd0 pd1 m0 ts0 ts1 a ha sa cn cs sc tm tv pd sv (0 : Int32) old sz z) := hD
    refine xk_top (z := (z 6)) (by exact p26.trans (ct_6 _ _ _)) ?_
    refine lv_if_le (tgt := 45) hx hb dL_refusesAny_29 (by decide) (fun c29 => ?_) (fun c29 => ?_)
    · have t29 : (z 6).toInt ≤ 0 := xi_le rfl (by decide) c29
      refine lv_iconst (v := 0) hx hb dL_refusesAny_45 (by decide) ?_
      refine lv_istore_n (lv' := [(3, .int 0), (2, .int no), (0, .ref x0), (1, .int p1)]) hx hb dL_refusesAny_46 rfl hl (by decide) rfl (fun ls hl => ?_)
      exact lb_47 l x0 xs xv ho0 ho1 pd0 pd1 m0 ts0 ts1 a ha sa cn cs sc tm tv pd sv old sz z past slots bd p1 no (0 : Int32) hLI (by first | assumption | omega) (by first | assumption | omega) (by first | assumption | omega) (by exact Or.inr ⟨by decide, fun c9 => by have := c9.1; have := c9.2; omega⟩) hx hb hr hts hown hlocks hml hK hA hN hZ hQ _ _ hP hD hS ls (lv_sub hl [2, 3, 1, 0] rfl)
    · have t29 : 0 < (z 6).toInt := xi_nle rfl (by decide) c29
      refine lv_aload_n hx hb dL_refusesAny_32 rfl (lv_at hl 1 rfl) ?_
      refine lv_bipush (v := 9) hx hb dL_refusesAny_33 (by decide) ?_
      refine xo_Vi (As := [.int 9]) (rest := []) hx hb hml hown hts hK hN hZ hP hD hS hA mb_X7_count mw_2_6 mw_2_7 mw_2_8 (k_X7_count l D cI cZ cS x0 xs xv ho0 ho1 pd0 pd1 m0 ts0 ts1 a ha sa cn cs sc tm tv pd sv (0 : Int32) old sz z (9 : Int32) hRS hI) 0 7 rfl rfl (fun _ => xwW_f) (by decide) (by decide) rfl hl.1 rfl (Nat.le_of_ble_eq_true rfl) dL_refusesAny_35 ⟨Nat.zero_le _, Nat.zero_le _⟩ (fun r35 u35 H locs hw hP hD hS => ?_)
      have p35 : r35 = cntR z (0 : Int32) sz (9 : Int32) := hw
      have hP : va_P D vwCl (xwW cI cZ cS x0 xs xv ho0 ho1 pd0 pd1 m0 ts0 ts1 a ha sa cn cs sc tm tv pd sv (0 : Int32) old sz z) H := hP
      have hD : va_D A (xwW cI cZ cS x0 xs xv ho0 ho1 pd0 pd1 m0 ts0 ts1 a ha sa cn cs sc tm tv pd sv (0 : Int32) old sz z) := hD
      refine xk_top (z := (z 7)) (by exact p35.trans (ct_9 _ _ _)) ?_
      refine lv_if_le (tgt := 45) hx hb dL_refusesAny_38 (by decide) (fun c38 => ?_) (fun c38 => ?_)
      · have t38 : (z 7).toInt ≤ 0 := xi_le rfl (by decide) c38
        refine lv_iconst (v := 0) hx hb dL_refusesAny_45 (by decide) ?_
        refine lv_istore_n (lv' := [(3, .int 0), (2, .int no), (0, .ref x0), (1, .int p1)]) hx hb dL_refusesAny_46 rfl hl (by decide) rfl (fun ls hl => ?_)
        exact lb_47 l x0 xs xv ho0 ho1 pd0 pd1 m0 ts0 ts1 a ha sa cn cs sc tm tv pd sv old sz z past slots bd p1 no (0 : Int32) hLI (by first | assumption | omega) (by first | assumption | omega) (by first | assumption | omega) (by exact Or.inr ⟨by decide, fun c9 => by have := c9.1; have := c9.2; omega⟩) hx hb hr hts hown hlocks hml hK hA hN hZ hQ _ _ hP hD hS ls (lv_sub hl [2, 3, 1, 0] rfl)
      · have t38 : 0 < (z 7).toInt := xi_nle rfl (by decide) c38
        refine lv_iconst (v := 1) hx hb dL_refusesAny_41 (by decide) ?_
        refine lv_goto (tgt := 46) hx hb dL_refusesAny_42 (by decide) ?_
        refine lv_istore_n (lv' := [(3, .int 1), (2, .int no), (0, .ref x0), (1, .int p1)]) hx hb dL_refusesAny_46 rfl hl (by decide) rfl (fun ls hl => ?_)
        exact lb_47 l x0 xs xv ho0 ho1 pd0 pd1 m0 ts0 ts1 a ha sa cn cs sc tm tv pd sv old sz z past slots bd p1 no (1 : Int32) hLI (by first | assumption | omega) (by first | assumption | omega) (by first | assumption | omega) (by exact Or.inl ⟨by decide, by omega, by omega⟩) hx hb hr hts hown hlocks hml hK hA hN hZ hQ _ _ hP hD hS ls (lv_sub hl [2, 3, 1, 0] rfl)
  refine lv_iload_n hx hb dL_refusesAny_0 rfl (lv_at hl 1 rfl) ?_
  refine lv_iconst (v := 2) hx hb dL_refusesAny_1 (by decide) ?_
  refine lv_irem hx hb dL_refusesAny_2 (by decide) ?_
  refine lv_topi (fun x2 e2 => ?_)
  have t2 : x2.toInt = p1.toInt % 2 := by rw [e2]; exact xi_rem rfl (by decide) (by omega) (by omega)
  refine lv_if_ne (tgt := 15) hx hb dL_refusesAny_3 (by decide) (fun c3 => ?_) (fun c3 => ?_)
  · have t3 : ¬ x2.toInt = 0 := xi_ne rfl (by decide) c3
    have d3 : ¬ x2 = 0 := c3
    refine lv_bipush (v := 12) hx hb dL_refusesAny_15 (by decide) ?_
    refine lv_iload_n hx hb dL_refusesAny_17 rfl (lv_at hl 1 rfl) ?_
    refine lv_bipush (v := 99) hx hb dL_refusesAny_18 (by decide) ?_
    refine lv_irem hx hb dL_refusesAny_20 (by decide) ?_
    refine lv_topi (fun x20 e20 => ?_)
    have t20 : x20.toInt = p1.toInt % 99 := by rw [e20]; exact xi_rem rfl (by decide) (by omega) (by omega)
    refine lv_iadd hx hb dL_refusesAny_21 ?_
    refine lv_topi (fun x21 e21 => ?_)
    have t21 : x21.toInt = 12 + x20.toInt := by rw [e21]; exact xi_add (by decide) rfl (by omega) (by omega)
    exact J22 x21 (by omega) _ _ hP hD hS ls (lv_sub hl [0, 1] rfl)
  · have t3 : x2.toInt = 0 := xi_eq rfl (by decide) c3
    have d3 : x2 = 0 := c3
    refine lv_iconst (v := (-1)) hx hb dL_refusesAny_6 (by decide) ?_
    refine lv_iload_n hx hb dL_refusesAny_7 rfl (lv_at hl 1 rfl) ?_
    refine lv_bipush (v := 99) hx hb dL_refusesAny_8 (by decide) ?_
    refine lv_irem hx hb dL_refusesAny_10 (by decide) ?_
    refine lv_topi (fun x10 e10 => ?_)
    have t10 : x10.toInt = p1.toInt % 99 := by rw [e10]; exact xi_rem rfl (by decide) (by omega) (by omega)
    refine lv_isub hx hb dL_refusesAny_11 ?_
    refine lv_topi (fun x11 e11 => ?_)
    have t11 : x11.toInt = (-1) - x10.toInt := by rw [e11]; exact xi_sub (by decide) rfl (by omega) (by omega)
    refine lv_goto (tgt := 22) hx hb dL_refusesAny_12 (by decide) ?_
    exact J22 x11 (by omega) _ _ hP hD hS ls (lv_sub hl [0, 1] rfl)

set_option maxHeartbeats 4000000 in
set_option maxRecDepth 100000 in
theorem c_L_refuses (l : Launch) (D : va_G) (cI cZ cS : ClassId) (x0 : Nat) (xs : Nat) (xv : Nat) (ho0 : Nat) (ho1 : Nat) (pd0 : Nat) (pd1 : Nat) (m0 : Nat) (ts0 : Nat) (ts1 : Nat) (a : Nat → Nat) (ha : Nat → Nat → Nat) (sa : Nat → Nat → Nat) (cn : Nat → Nat → Int32) (cs : Nat → Nat → Nat → Int32) (sc : Nat → Nat → Nat → Int32) (tm : Nat → Int32) (tv : Nat → Int32) (pd : Nat → Int32) (sv : Nat → Int32) (old : Int32) (sz : Int32) (z : Nat → Int32) (past : Nat → Int32) (slots : Nat → Int32) (bd : Int) (pp : Int32) (hLI : LI bd cn cs sc sv (0 : Int32) old sz z past slots) (hbd : bd ≤ 100000) (hp1 : 0 ≤ pp.toInt) : xMi l yL_refuses cL_refuses 5 (some .boolean) ({ frames := 8, cells := 0, slots := 0, locals := 183 } : Room) D (xTy cI cZ cS) [.ref x0, .int pp] (xwW cI cZ cS x0 xs xv ho0 ho1 pd0 pd1 m0 ts0 ts1 a ha sa cn cs sc tm tv pd sv (0 : Int32) old sz z) (fun (r : Int32) (u : (Nat → Int32)) => r = (1 : Int32)) (fun (u : (Nat → Int32)) => (xwW cI cZ cS x0 xs xv ho0 ho1 pd0 pd1 m0 ts0 ts1 a ha sa cn cs sc u tv pd sv (0 : Int32) old sz z)) := by
  refine xk_bodyi (by decide) (Nat.le_of_ble_eq_true rfl) ?_
  intro p e s m below meth c A ls args Q hx hb hr hts hown hlocks hml hin hK hP hD hS hA hN hZ hl hQ
  have hl : lv_has ls 5 [(0, .ref x0), (1, .int pp)] := hl
  obtain ⟨hRS, hI, hBD, ⟨hold, hszz, hlnn⟩, hmcs, hmsc, hRH, hRL⟩ := id hLI
  obtain ⟨⟨hb74, hb74u⟩, ⟨hb86, hb86u⟩, hIP⟩ := id hBD
  have hs0 : (1 ≤ (z 0).toInt ∧ (z 0).toInt ≤ 9) ∧ (0 ≤ (z 1).toInt ∧ (z 1).toInt ≤ 9) ∧ (1 ≤ (z 2).toInt ∧ (z 2).toInt ≤ 9) ∧ (1 ≤ (z 3).toInt ∧ (z 3).toInt ≤ 20) ∧ (2 ≤ (z 5).toInt ∧ (z 5).toInt ≤ 9) := hI.1
  have hg6 : 0 ≤ (z 6).toInt ∧ (z 6).toInt ≤ 10 := hI.2.1.1
  have hr7 : 0 ≤ (z 7).toInt ∧ (z 7).toInt ≤ 12 := hI.2.2.1.1
  have z0 : (0 : Int32).toInt = 0 := by decide
  refine lv_aload_n hx hb dL_refuses_0 rfl (lv_at hl 0 rfl) ?_
  refine xo_Sl (As := [.ref x0]) (rest := []) hx hb hml hown hts hK hN hZ hP hD hS hA mb_L_seen mw_2_116 mw_2_117 (c_L_seen l D cI cZ cS x0 xs xv ho0 ho1 pd0 pd1 m0 ts0 ts1 a ha sa cn cs sc tm tv pd sv (0 : Int32) old sz z past slots bd hLI (by first | omega | assumption)) (fun _ => xwW_f) (by decide) (by decide) rfl hl.1 rfl (Nat.le_of_ble_eq_true rfl) dL_refuses_1 ⟨Nat.zero_le _, Nat.zero_le _⟩ (fun r1 u1 H locs hw hP hD hS => ?_)
  have p1 : r1 = seenZ z := hw
  have hP : va_P D vwCl (xwW cI cZ cS x0 xs xv ho0 ho1 pd0 pd1 m0 ts0 ts1 a ha sa cn cs sc tm tv pd sv (0 : Int32) old sz z) H := hP
  have hD : va_D A (xwW cI cZ cS x0 xs xv ho0 ho1 pd0 pd1 m0 ts0 ts1 a ha sa cn cs sc tm tv pd sv (0 : Int32) old sz z) := hD
  refine xk_topl (z := (seenZ z)) (by exact p1) ?_
  refine lv_lstore_n (lv' := [(2, .long (seenZ z)), (0, .ref x0), (1, .int pp)]) hx hb dL_refuses_4 rfl hl (by decide) rfl (fun ls hl => ?_)
  refine lv_aload_n hx hb dL_refuses_5 rfl (lv_at hl 1 rfl) ?_
  refine lv_bipush (v := 12) hx hb dL_refuses_6 (by decide) ?_
  refine xo_Vi (As := [.int 12]) (rest := []) hx hb hml hown hts hK hN hZ hP hD hS hA mb_X7_count mw_2_6 mw_2_7 mw_2_8 (k_X7_count l D cI cZ cS x0 xs xv ho0 ho1 pd0 pd1 m0 ts0 ts1 a ha sa cn cs sc tm tv pd sv (0 : Int32) old sz z (12 : Int32) hRS hI) 0 7 rfl rfl (fun _ => xwW_f) (by decide) (by decide) rfl hl.1 rfl (Nat.le_of_ble_eq_true rfl) dL_refuses_8 ⟨Nat.zero_le _, Nat.zero_le _⟩ (fun r8 u8 H locs hw hP hD hS => ?_)
  have p8 : r8 = cntR z (0 : Int32) sz (12 : Int32) := hw
  have hP : va_P D vwCl (xwW cI cZ cS x0 xs xv ho0 ho1 pd0 pd1 m0 ts0 ts1 a ha sa cn cs sc tm tv pd sv (0 : Int32) old sz z) H := hP
  have hD : va_D A (xwW cI cZ cS x0 xs xv ho0 ho1 pd0 pd1 m0 ts0 ts1 a ha sa cn cs sc tm tv pd sv (0 : Int32) old sz z) := hD
  refine xk_top (z := sz) (by exact p8.trans (ct_12 _ _ _)) ?_
  refine lv_istore (lv' := [(4, .int sz), (2, .long (seenZ z)), (0, .ref x0), (1, .int pp)]) hx hb dL_refuses_11 hl (by decide) rfl (fun ls hl => ?_)
  refine lv_aload_n hx hb dL_refuses_13 rfl (lv_at hl 2 rfl) ?_
  refine lv_iload_n hx hb dL_refuses_14 rfl (lv_at hl 3 rfl) ?_
  refine xo_Si (As := [.ref x0, .int pp]) (rest := []) hx hb hml hown hts hK hN hZ hP hD hS hA mb_L_refusesAny mw_3_5 mw_3_6 (c_L_refusesAny l D cI cZ cS x0 xs xv ho0 ho1 pd0 pd1 m0 ts0 ts1 a ha sa cn cs sc tm tv pd sv old sz z past slots bd pp hLI (by first | omega | assumption) (by first | omega | assumption)) (fun _ => xwW_f) (by decide) (by decide) rfl hl.1 rfl (Nat.le_of_ble_eq_true rfl) dL_refuses_15 ⟨Nat.zero_le _, Nat.zero_le _⟩ (fun r15 u15 H locs hw hP hD hS => ?_)
  obtain ⟨tq_15, rfl⟩ : ∃ q, q = u15 := ⟨_, rfl⟩
  have p15 : r15 = (1 : Int32) := hw
  have hP : va_P D vwCl (xwW cI cZ cS x0 xs xv ho0 ho1 pd0 pd1 m0 ts0 ts1 a ha sa cn cs sc tq_15 tv pd sv (0 : Int32) old sz z) H := hP
  have hD : va_D A (xwW cI cZ cS x0 xs xv ho0 ho1 pd0 pd1 m0 ts0 ts1 a ha sa cn cs sc tq_15 tv pd sv (0 : Int32) old sz z) := hD
  refine xk_top (z := 1) (by exact p15) ?_
  refine lv_if_eq (tgt := 45) hx hb dL_refuses_18 (by decide) (fun c18 => absurd c18 (by decide)) (fun _ => ?_)
  refine lv_aload_n hx hb dL_refuses_21 rfl (lv_at hl 2 rfl) ?_
  refine xo_Sl (As := [.ref x0]) (rest := []) hx hb hml hown hts hK hN hZ hP hD hS hA mb_L_seen mw_2_116 mw_2_117 (c_L_seen l D cI cZ cS x0 xs xv ho0 ho1 pd0 pd1 m0 ts0 ts1 a ha sa cn cs sc tq_15 tv pd sv (0 : Int32) old sz z past slots bd hLI (by first | omega | assumption)) (fun _ => xwW_f) (by decide) (by decide) rfl hl.1 rfl (Nat.le_of_ble_eq_true rfl) dL_refuses_22 ⟨Nat.zero_le _, Nat.zero_le _⟩ (fun r22 u22 H locs hw hP hD hS => ?_)
  have p22 : r22 = seenZ z := hw
  have hP : va_P D vwCl (xwW cI cZ cS x0 xs xv ho0 ho1 pd0 pd1 m0 ts0 ts1 a ha sa cn cs sc tq_15 tv pd sv (0 : Int32) old sz z) H := hP
  have hD : va_D A (xwW cI cZ cS x0 xs xv ho0 ho1 pd0 pd1 m0 ts0 ts1 a ha sa cn cs sc tq_15 tv pd sv (0 : Int32) old sz z) := hD
  refine xk_topl (z := (seenZ z)) (by exact p22) ?_
  refine lv_lload_n hx hb dL_refuses_25 rfl (lv_at hl 1 rfl) ?_
  refine W.lcmp hx hb dL_refuses_26 ?_
  refine xk_top (z := 0) (lgc_self _) ?_
  refine lv_if_ne (tgt := 45) hx hb dL_refuses_27 (by decide) (fun c27 => absurd (by decide) c27) (fun _ => ?_)
  refine lv_aload_n hx hb dL_refuses_30 rfl (lv_at hl 2 rfl) ?_
  refine lv_bipush (v := 12) hx hb dL_refuses_31 (by decide) ?_
  refine xo_Vi (As := [.int 12]) (rest := []) hx hb hml hown hts hK hN hZ hP hD hS hA mb_X7_count mw_2_6 mw_2_7 mw_2_8 (k_X7_count l D cI cZ cS x0 xs xv ho0 ho1 pd0 pd1 m0 ts0 ts1 a ha sa cn cs sc tq_15 tv pd sv (0 : Int32) old sz z (12 : Int32) hRS hI) 0 7 rfl rfl (fun _ => xwW_f) (by decide) (by decide) rfl hl.1 rfl (Nat.le_of_ble_eq_true rfl) dL_refuses_33 ⟨Nat.zero_le _, Nat.zero_le _⟩ (fun r33 u33 H locs hw hP hD hS => ?_)
  have p33 : r33 = cntR z (0 : Int32) sz (12 : Int32) := hw
  have hP : va_P D vwCl (xwW cI cZ cS x0 xs xv ho0 ho1 pd0 pd1 m0 ts0 ts1 a ha sa cn cs sc tq_15 tv pd sv (0 : Int32) old sz z) H := hP
  have hD : va_D A (xwW cI cZ cS x0 xs xv ho0 ho1 pd0 pd1 m0 ts0 ts1 a ha sa cn cs sc tq_15 tv pd sv (0 : Int32) old sz z) := hD
  refine xk_top (z := sz) (by exact p33.trans (ct_12 _ _ _)) ?_
  refine lv_iload hx hb dL_refuses_36 (lv_at hl 0 rfl) ?_
  refine lv_icmp_ne (tgt := 45) hx hb dL_refuses_38 (by decide) (fun c38 => ?_) (fun c38 => ?_)
  · have t38 : ¬ sz.toInt = sz.toInt := xi_ne rfl rfl c38
    have d38 : ¬ sz = sz := c38
    exact absurd rfl c38
  · have t38 : sz.toInt = sz.toInt := xi_eq rfl rfl c38
    have d38 : sz = sz := c38
    refine lv_iconst (v := 1) hx hb dL_refuses_41 (by decide) ?_
    refine lv_goto (tgt := 46) hx hb dL_refuses_42 (by decide) ?_
    exact xk_retz tq_15 hx hb hr hlocks (by decide) (xk_P hP (by rfl)) (by rfl) hS dL_refuses_46 hQ
