set_option maxHeartbeats 4000000 in
set_option maxRecDepth 100000 in
theorem c_L_refusesAny (l : Launch) (D : va_G) (cI cZ cS : ClassId) (x0 : Nat) (xs : Nat) (xv : Nat) (ho0 : Nat) (ho1 : Nat) (pd0 : Nat) (pd1 : Nat) (m0 : Nat) (ts0 : Nat) (ts1 : Nat) (a : Nat → Nat) (ha : Nat → Nat → Nat) (sa : Nat → Nat → Nat) (cn : Nat → Nat → Int32) (cs : Nat → Nat → Nat → Int32) (sc : Nat → Nat → Nat → Int32) (tm : Nat → Int32) (tv : Nat → Int32) (pd : Nat → Int32) (sv : Nat → Int32) (old : Int32) (sz : Int32) (z : Nat → Int32) (past : Nat → Int32) (slots : Nat → Int32) (bd : Int) (p1 : Int32) (hLI : LI bd cn cs sc sv (0 : Int32) old sz z past slots) (hbd : bd ≤ 100000) (hp1 : 0 ≤ p1.toInt) : xMi l yL_refusesAny cL_refusesAny 5 (some .boolean) ({ frames := 7, cells := 0, slots := 0, locals := 159 } : Room) D (xTy cI cZ cS) [.ref x0, .int p1] (xwW cI cZ cS x0 xs xv ho0 ho1 pd0 pd1 m0 ts0 ts1 a ha sa cn cs sc tm tv pd sv (0 : Int32) old sz z) (fun (r : Int32) (u : (Nat → Int32)) => r = (1 : Int32)) (fun (u : (Nat → Int32)) => (xwW cI cZ cS x0 xs xv ho0 ho1 pd0 pd1 m0 ts0 ts1 a ha sa cn cs sc u tv pd sv (0 : Int32) old sz z)) := by
  refine xk_bodyi (by decide) (Nat.le_of_ble_eq_true rfl) ?_
  intro p e s m below meth c A ls args Q hx hb hr hts hown hlocks hml hin hK hP hD hS hA hN hZ hl hQ
  have hl : lv_has ls 5 [(0, .ref x0), (1, .int p1)] := hl
  obtain ⟨hRS, hI, hBD, ⟨hold, hszz, hlnn⟩, hmcs, hmsc, hRH, hRL⟩ := id hLI
  obtain ⟨⟨hb74, hb74u⟩, ⟨hb86, hb86u⟩, hIP⟩ := id hBD
  have hs0 : (1 ≤ (z 0).toInt ∧ (z 0).toInt ≤ 9) ∧ (0 ≤ (z 1).toInt ∧ (z 1).toInt ≤ 9) ∧ (1 ≤ (z 2).toInt ∧ (z 2).toInt ≤ 9) ∧ (1 ≤ (z 3).toInt ∧ (z 3).toInt ≤ 20) ∧ (2 ≤ (z 5).toInt ∧ (z 5).toInt ≤ 9) := hI.1
  have hg6 : 0 ≤ (z 6).toInt ∧ (z 6).toInt ≤ 10 := hI.2.1.1
  have hr7 : 0 ≤ (z 7).toInt ∧ (z 7).toInt ≤ 12 := hI.2.2.1.1
  have z0 : (0 : Int32).toInt = 0 := by decide
  refine lv_iload_n hx hb dL_refusesAny_0 rfl (lv_at hl 1 rfl) ?_
  refine lv_iconst (v := 2) hx hb dL_refusesAny_1 (by decide) ?_
  refine lv_irem hx hb dL_refusesAny_2 (by decide) ?_
  refine lv_topi (fun x2 e2 => ?_)
  have t2 : x2.toInt = p1.toInt % 2 := by rw [e2]; exact xi_rem rfl (by decide) (by omega) (by omega)
  refine lv_if_ne (tgt := 15) hx hb dL_refusesAny_3 (by decide) (fun c3 => ?_) (fun c3 => ?_)
  · have t3 : ¬ x2.toInt = 0 := xi_ne rfl (by decide) c3
    have d3 : ¬ x2 = 0 := c3
    refine lv_bipush (v := 12) hx hb dL_refusesAny_15 (by decide) ?_
    refine lv_iload_n hx hb dL_refusesAny_17 rfl (lv_at hl 1 rfl) ?_
    refine lv_bipush (v := 99) hx hb dL_refusesAny_18 (by decide) ?_
    refine lv_irem hx hb dL_refusesAny_20 (by decide) ?_
    refine lv_topi (fun x20 e20 => ?_)
    have t20 : x20.toInt = p1.toInt % 99 := by rw [e20]; exact xi_rem rfl (by decide) (by omega) (by omega)
    refine lv_iadd hx hb dL_refusesAny_21 ?_
    refine lv_topi (fun x21 e21 => ?_)
    have t21 : x21.toInt = 12 + x20.toInt := by rw [e21]; exact xi_add (by decide) rfl (by omega) (by omega)
    refine lv_istore_n (lv' := [(2, .int x21), (0, .ref x0), (1, .int p1)]) hx hb dL_refusesAny_22 rfl hl (by decide) rfl (fun ls hl => ?_)
    have J47 : ∀ (b : Int32) (hb47 : (b.toInt = 1 ∧ canZ z) ∨ (b.toInt = 0 ∧ ¬ canZ z)) (H : Heap) (locs : List Loc), va_P D vwCl (xwW cI cZ cS x0 xs xv ho0 ho1 pd0 pd1 m0 ts0 ts1 a ha sa cn cs sc tm tv pd sv (0 : Int32) old sz z) H → va_D A (xwW cI cZ cS x0 xs xv ho0 ho1 pd0 pd1 m0 ts0 ts1 a ha sa cn cs sc tm tv pd sv (0 : Int32) old sz z) → va_S A s.heap H locs → ∀ ls : Array Slot, lv_has ls 5 [(2, .int x21), (0, .ref x0), (1, .int p1), (3, .int b)] → W p l e ({ frames := 7, cells := 0, slots := 0, locals := 159 } : Room) s m args below meth c H locs 0 0 Q (F0 m 47 ls []) := by
      intro b hb47 H locs hP hD hS ls hl
      refine lv_aload_n hx hb dL_refusesAny_47 rfl (lv_at hl 1 rfl) ?_
      refine lv_iload_n hx hb dL_refusesAny_48 rfl (lv_at hl 2 rfl) ?_
      refine lv_iconst (v := 2) hx hb dL_refusesAny_49 (by decide) ?_
      refine lv_irem hx hb dL_refusesAny_50 (by decide) ?_
      refine lv_topi (fun x50 e50 => ?_)
      have t50 : x50.toInt = p1.toInt % 2 := by rw [e50]; exact xi_rem rfl (by decide) (by omega) (by omega)
      refine lv_if_ne (tgt := 58) hx hb dL_refusesAny_51 (by decide) (fun c51 => ?_) (fun c51 => ?_)
      · have t51 : ¬ x50.toInt = 0 := xi_ne rfl (by decide) c51
        have d51 : ¬ x50 = 0 := c51
        refine lv_bipush (v := 6) hx hb dL_refusesAny_58 (by decide) ?_
        refine lv_iconst (v := 5) hx hb dL_refusesAny_60 (by decide) ?_
        refine xo_Vi (As := [.int 6, .int 5]) (rest := []) hx hb hml hown hts hK hN hZ hP hD hS hA mb_X7_set mw_3_8 mw_3_9 mw_3_10 (k_X7_set l D cI cZ cS x0 xs xv ho0 ho1 pd0 pd1 m0 ts0 ts1 a ha sa cn cs sc tm tv pd sv (0 : Int32) old sz z (6 : Int32) (5 : Int32) hRS hI hold hszz) 0 7 rfl rfl (fun _ => xwW_f) (by decide) (by decide) rfl hl.1 rfl (Nat.le_of_ble_eq_true rfl) dL_refusesAny_61 ⟨Nat.zero_le _, Nat.zero_le _⟩ (fun r61 u61 H locs hw hP hD hS => ?_)
        obtain ⟨cq_61, zq_61, old1_61, sz1_61, cs1_61⟩ := u61
        have p61 : (setV (6 : Int32) (5 : Int32) ∧ r61 = z 6 ∧ Chg cn z old sz cs (beginZ (upd z 6 (5 : Int32))) cq_61 zq_61 old1_61 sz1_61 cs1_61) ∨ (¬ setV (6 : Int32) (5 : Int32) ∧ r61 = -2 ∧ Same cn z old sz cs cq_61 zq_61 old1_61 sz1_61 cs1_61) := hw
        have hP : va_P D vwCl (xwW cI cZ cS x0 xs xv ho0 ho1 pd0 pd1 m0 ts0 ts1 a ha sa cq_61 cs1_61 sc tm tv pd sv (0 : Int32) old1_61 sz1_61 zq_61) H := hP
        have hD : va_D A (xwW cI cZ cS x0 xs xv ho0 ho1 pd0 pd1 m0 ts0 ts1 a ha sa cq_61 cs1_61 sc tm tv pd sv (0 : Int32) old1_61 sz1_61 zq_61) := hD
        have w61 : r61 = -2 ∧ cq_61 = cn ∧ zq_61 = z ∧ old1_61 = old ∧ sz1_61 = sz ∧ cs1_61 = cs := by
          rcases p61 with ⟨c9, -⟩ | ⟨-, h9⟩
          · exact absurd c9 (by decide)
          · exact h9
        obtain ⟨w61, w61_0, w61_1, w61_2, w61_3, w61_4⟩ := w61
        rw [w61_0, w61_1, w61_2, w61_3, w61_4] at hP hD
        have hP : va_P D vwCl (xwW cI cZ cS x0 xs xv ho0 ho1 pd0 pd1 m0 ts0 ts1 a ha sa cn cs sc tm tv pd sv (0 : Int32) old sz z) H := hP
        have hD : va_D A (xwW cI cZ cS x0 xs xv ho0 ho1 pd0 pd1 m0 ts0 ts1 a ha sa cn cs sc tm tv pd sv (0 : Int32) old sz z) := hD
        refine xk_top (z := (-2)) (by exact w61) ?_
        refine lv_bipush (v := (-2)) hx hb dL_refusesAny_64 (by decide) ?_
        refine lv_icmp_ne (tgt := 342) hx hb dL_refusesAny_66 (by decide) (fun c66 => absurd (by decide) c66) (fun _ => ?_)
        refine lv_aload_n hx hb dL_refusesAny_69 rfl (lv_at hl 1 rfl) ?_
        refine lv_iconst (v := 0) hx hb dL_refusesAny_70 (by decide) ?_
        refine lv_iload_n hx hb dL_refusesAny_71 rfl (lv_at hl 2 rfl) ?_
        refine lv_iconst (v := 2) hx hb dL_refusesAny_72 (by decide) ?_
        refine lv_irem hx hb dL_refusesAny_73 (by decide) ?_
        refine lv_topi (fun x73 e73 => ?_)
        have t73 : x73.toInt = p1.toInt % 2 := by rw [e73]; exact xi_rem rfl (by decide) (by omega) (by omega)
        refine lv_if_ne (tgt := 81) hx hb dL_refusesAny_74 (by decide) (fun c74 => ?_) (fun c74 => ?_)
        · have t74 : ¬ x73.toInt = 0 := xi_ne rfl (by decide) c74
          have d74 : ¬ x73 = 0 := c74
          refine lv_bipush (v := 10) hx hb dL_refusesAny_81 (by decide) ?_
          refine xo_Vi (As := [.int 0, .int 10]) (rest := []) hx hb hml hown hts hK hN hZ hP hD hS hA mb_X7_set mw_3_8 mw_3_9 mw_3_10 (k_X7_set l D cI cZ cS x0 xs xv ho0 ho1 pd0 pd1 m0 ts0 ts1 a ha sa cn cs sc tm tv pd sv (0 : Int32) old sz z (0 : Int32) (10 : Int32) hRS hI hold hszz) 0 7 rfl rfl (fun _ => xwW_f) (by decide) (by decide) rfl hl.1 rfl (Nat.le_of_ble_eq_true rfl) dL_refusesAny_83 ⟨Nat.zero_le _, Nat.zero_le _⟩ (fun r83 u83 H locs hw hP hD hS => ?_)
          obtain ⟨cq_83, zq_83, old1_83, sz1_83, cs1_83⟩ := u83
          have p83 : (setV (0 : Int32) (10 : Int32) ∧ r83 = z 0 ∧ Chg cn z old sz cs (beginZ (upd z 0 (10 : Int32))) cq_83 zq_83 old1_83 sz1_83 cs1_83) ∨ (¬ setV (0 : Int32) (10 : Int32) ∧ r83 = -2 ∧ Same cn z old sz cs cq_83 zq_83 old1_83 sz1_83 cs1_83) := hw
          have hP : va_P D vwCl (xwW cI cZ cS x0 xs xv ho0 ho1 pd0 pd1 m0 ts0 ts1 a ha sa cq_83 cs1_83 sc tm tv pd sv (0 : Int32) old1_83 sz1_83 zq_83) H := hP
          have hD : va_D A (xwW cI cZ cS x0 xs xv ho0 ho1 pd0 pd1 m0 ts0 ts1 a ha sa cq_83 cs1_83 sc tm tv pd sv (0 : Int32) old1_83 sz1_83 zq_83) := hD
          have w83 : r83 = -2 ∧ cq_83 = cn ∧ zq_83 = z ∧ old1_83 = old ∧ sz1_83 = sz ∧ cs1_83 = cs := by
            rcases p83 with ⟨c9, -⟩ | ⟨-, h9⟩
            · exact absurd c9 (by decide)
            · exact h9
          obtain ⟨w83, w83_0, w83_1, w83_2, w83_3, w83_4⟩ := w83
          rw [w83_0, w83_1, w83_2, w83_3, w83_4] at hP hD
          have hP : va_P D vwCl (xwW cI cZ cS x0 xs xv ho0 ho1 pd0 pd1 m0 ts0 ts1 a ha sa cn cs sc tm tv pd sv (0 : Int32) old sz z) H := hP
          have hD : va_D A (xwW cI cZ cS x0 xs xv ho0 ho1 pd0 pd1 m0 ts0 ts1 a ha sa cn cs sc tm tv pd sv (0 : Int32) old sz z) := hD
          refine xk_top (z := (-2)) (by exact w83) ?_
          refine lv_bipush (v := (-2)) hx hb dL_refusesAny_86 (by decide) ?_
          refine lv_icmp_ne (tgt := 342) hx hb dL_refusesAny_88 (by decide) (fun c88 => absurd (by decide) c88) (fun _ => ?_)
          refine lv_aload_n hx hb dL_refusesAny_91 rfl (lv_at hl 1 rfl) ?_
          refine lv_iconst (v := 1) hx hb dL_refusesAny_92 (by decide) ?_
          refine lv_iload_n hx hb dL_refusesAny_93 rfl (lv_at hl 2 rfl) ?_
          refine lv_iconst (v := 2) hx hb dL_refusesAny_94 (by decide) ?_
          refine lv_irem hx hb dL_refusesAny_95 (by decide) ?_
          refine lv_topi (fun x95 e95 => ?_)
          have t95 : x95.toInt = p1.toInt % 2 := by rw [e95]; exact xi_rem rfl (by decide) (by omega) (by omega)
          refine lv_if_ne (tgt := 103) hx hb dL_refusesAny_96 (by decide) (fun c96 => ?_) (fun c96 => ?_)
          · have t96 : ¬ x95.toInt = 0 := xi_ne rfl (by decide) c96
            have d96 : ¬ x95 = 0 := c96
            refine lv_bipush (v := 10) hx hb dL_refusesAny_103 (by decide) ?_
            refine xo_Vi (As := [.int 1, .int 10]) (rest := []) hx hb hml hown hts hK hN hZ hP hD hS hA mb_X7_set mw_3_8 mw_3_9 mw_3_10 (k_X7_set l D cI cZ cS x0 xs xv ho0 ho1 pd0 pd1 m0 ts0 ts1 a ha sa cn cs sc tm tv pd sv (0 : Int32) old sz z (1 : Int32) (10 : Int32) hRS hI hold hszz) 0 7 rfl rfl (fun _ => xwW_f) (by decide) (by decide) rfl hl.1 rfl (Nat.le_of_ble_eq_true rfl) dL_refusesAny_105 ⟨Nat.zero_le _, Nat.zero_le _⟩ (fun r105 u105 H locs hw hP hD hS => ?_)
            obtain ⟨cq_105, zq_105, old1_105, sz1_105, cs1_105⟩ := u105
            have p105 : (setV (1 : Int32) (10 : Int32) ∧ r105 = z 1 ∧ Chg cn z old sz cs (beginZ (upd z 1 (10 : Int32))) cq_105 zq_105 old1_105 sz1_105 cs1_105) ∨ (¬ setV (1 : Int32) (10 : Int32) ∧ r105 = -2 ∧ Same cn z old sz cs cq_105 zq_105 old1_105 sz1_105 cs1_105) := hw
            have hP : va_P D vwCl (xwW cI cZ cS x0 xs xv ho0 ho1 pd0 pd1 m0 ts0 ts1 a ha sa cq_105 cs1_105 sc tm tv pd sv (0 : Int32) old1_105 sz1_105 zq_105) H := hP
            have hD : va_D A (xwW cI cZ cS x0 xs xv ho0 ho1 pd0 pd1 m0 ts0 ts1 a ha sa cq_105 cs1_105 sc tm tv pd sv (0 : Int32) old1_105 sz1_105 zq_105) := hD
            have w105 : r105 = -2 ∧ cq_105 = cn ∧ zq_105 = z ∧ old1_105 = old ∧ sz1_105 = sz ∧ cs1_105 = cs := by
              rcases p105 with ⟨c9, -⟩ | ⟨-, h9⟩
              · exact absurd c9 (by decide)
              · exact h9
            obtain ⟨w105, w105_0, w105_1, w105_2, w105_3, w105_4⟩ := w105
            rw [w105_0, w105_1, w105_2, w105_3, w105_4] at hP hD
            have hP : va_P D vwCl (xwW cI cZ cS x0 xs xv ho0 ho1 pd0 pd1 m0 ts0 ts1 a ha sa cn cs sc tm tv pd sv (0 : Int32) old sz z) H := hP
            have hD : va_D A (xwW cI cZ cS x0 xs xv ho0 ho1 pd0 pd1 m0 ts0 ts1 a ha sa cn cs sc tm tv pd sv (0 : Int32) old sz z) := hD
            refine xk_top (z := (-2)) (by exact w105) ?_
            refine lv_bipush (v := (-2)) hx hb dL_refusesAny_108 (by decide) ?_
            refine lv_icmp_ne (tgt := 342) hx hb dL_refusesAny_110 (by decide) (fun c110 => absurd (by decide) c110) (fun _ => ?_)
            refine lv_aload_n hx hb dL_refusesAny_113 rfl (lv_at hl 1 rfl) ?_
            refine lv_iconst (v := 2) hx hb dL_refusesAny_114 (by decide) ?_
            refine lv_iload_n hx hb dL_refusesAny_115 rfl (lv_at hl 2 rfl) ?_
            refine lv_iconst (v := 2) hx hb dL_refusesAny_116 (by decide) ?_
            refine lv_irem hx hb dL_refusesAny_117 (by decide) ?_
            refine lv_topi (fun x117 e117 => ?_)
            have t117 : x117.toInt = p1.toInt % 2 := by rw [e117]; exact xi_rem rfl (by decide) (by omega) (by omega)
            refine lv_if_ne (tgt := 125) hx hb dL_refusesAny_118 (by decide) (fun c118 => ?_) (fun c118 => ?_)
            · have t118 : ¬ x117.toInt = 0 := xi_ne rfl (by decide) c118
              have d118 : ¬ x117 = 0 := c118
              refine lv_bipush (v := 10) hx hb dL_refusesAny_125 (by decide) ?_
              refine xo_Vi (As := [.int 2, .int 10]) (rest := []) hx hb hml hown hts hK hN hZ hP hD hS hA mb_X7_set mw_3_8 mw_3_9 mw_3_10 (k_X7_set l D cI cZ cS x0 xs xv ho0 ho1 pd0 pd1 m0 ts0 ts1 a ha sa cn cs sc tm tv pd sv (0 : Int32) old sz z (2 : Int32) (10 : Int32) hRS hI hold hszz) 0 7 rfl rfl (fun _ => xwW_f) (by decide) (by decide) rfl hl.1 rfl (Nat.le_of_ble_eq_true rfl) dL_refusesAny_127 ⟨Nat.zero_le _, Nat.zero_le _⟩ (fun r127 u127 H locs hw hP hD hS => ?_)
              obtain ⟨cq_127, zq_127, old1_127, sz1_127, cs1_127⟩ := u127
              have p127 : (setV (2 : Int32) (10 : Int32) ∧ r127 = z 2 ∧ Chg cn z old sz cs (beginZ (upd z 2 (10 : Int32))) cq_127 zq_127 old1_127 sz1_127 cs1_127) ∨ (¬ setV (2 : Int32) (10 : Int32) ∧ r127 = -2 ∧ Same cn z old sz cs cq_127 zq_127 old1_127 sz1_127 cs1_127) := hw
              have hP : va_P D vwCl (xwW cI cZ cS x0 xs xv ho0 ho1 pd0 pd1 m0 ts0 ts1 a ha sa cq_127 cs1_127 sc tm tv pd sv (0 : Int32) old1_127 sz1_127 zq_127) H := hP
              have hD : va_D A (xwW cI cZ cS x0 xs xv ho0 ho1 pd0 pd1 m0 ts0 ts1 a ha sa cq_127 cs1_127 sc tm tv pd sv (0 : Int32) old1_127 sz1_127 zq_127) := hD
              have w127 : r127 = -2 ∧ cq_127 = cn ∧ zq_127 = z ∧ old1_127 = old ∧ sz1_127 = sz ∧ cs1_127 = cs := by
                rcases p127 with ⟨c9, -⟩ | ⟨-, h9⟩
                · exact absurd c9 (by decide)
                · exact h9
              obtain ⟨w127, w127_0, w127_1, w127_2, w127_3, w127_4⟩ := w127
              rw [w127_0, w127_1, w127_2, w127_3, w127_4] at hP hD
              have hP : va_P D vwCl (xwW cI cZ cS x0 xs xv ho0 ho1 pd0 pd1 m0 ts0 ts1 a ha sa cn cs sc tm tv pd sv (0 : Int32) old sz z) H := hP
              have hD : va_D A (xwW cI cZ cS x0 xs xv ho0 ho1 pd0 pd1 m0 ts0 ts1 a ha sa cn cs sc tm tv pd sv (0 : Int32) old sz z) := hD
              refine xk_top (z := (-2)) (by exact w127) ?_
              refine lv_bipush (v := (-2)) hx hb dL_refusesAny_130 (by decide) ?_
              refine lv_icmp_ne (tgt := 342) hx hb dL_refusesAny_132 (by decide) (fun c132 => absurd (by decide) c132) (fun _ => ?_)
              refine lv_aload_n hx hb dL_refusesAny_135 rfl (lv_at hl 1 rfl) ?_
              refine lv_iconst (v := 3) hx hb dL_refusesAny_136 (by decide) ?_
              refine lv_iload_n hx hb dL_refusesAny_137 rfl (lv_at hl 2 rfl) ?_
              refine lv_iconst (v := 2) hx hb dL_refusesAny_138 (by decide) ?_
              refine lv_irem hx hb dL_refusesAny_139 (by decide) ?_
              refine lv_topi (fun x139 e139 => ?_)
              have t139 : x139.toInt = p1.toInt % 2 := by rw [e139]; exact xi_rem rfl (by decide) (by omega) (by omega)
              refine lv_if_ne (tgt := 147) hx hb dL_refusesAny_140 (by decide) (fun c140 => ?_) (fun c140 => ?_)
              · have t140 : ¬ x139.toInt = 0 := xi_ne rfl (by decide) c140
                have d140 : ¬ x139 = 0 := c140
                refine lv_bipush (v := 21) hx hb dL_refusesAny_147 (by decide) ?_
                refine xo_Vi (As := [.int 3, .int 21]) (rest := []) hx hb hml hown hts hK hN hZ hP hD hS hA mb_X7_set mw_3_8 mw_3_9 mw_3_10 (k_X7_set l D cI cZ cS x0 xs xv ho0 ho1 pd0 pd1 m0 ts0 ts1 a ha sa cn cs sc tm tv pd sv (0 : Int32) old sz z (3 : Int32) (21 : Int32) hRS hI hold hszz) 0 7 rfl rfl (fun _ => xwW_f) (by decide) (by decide) rfl hl.1 rfl (Nat.le_of_ble_eq_true rfl) dL_refusesAny_149 ⟨Nat.zero_le _, Nat.zero_le _⟩ (fun r149 u149 H locs hw hP hD hS => ?_)
                obtain ⟨cq_149, zq_149, old1_149, sz1_149, cs1_149⟩ := u149
                have p149 : (setV (3 : Int32) (21 : Int32) ∧ r149 = z 3 ∧ Chg cn z old sz cs (beginZ (upd z 3 (21 : Int32))) cq_149 zq_149 old1_149 sz1_149 cs1_149) ∨ (¬ setV (3 : Int32) (21 : Int32) ∧ r149 = -2 ∧ Same cn z old sz cs cq_149 zq_149 old1_149 sz1_149 cs1_149) := hw
                have hP : va_P D vwCl (xwW cI cZ cS x0 xs xv ho0 ho1 pd0 pd1 m0 ts0 ts1 a ha sa cq_149 cs1_149 sc tm tv pd sv (0 : Int32) old1_149 sz1_149 zq_149) H := hP
                have hD : va_D A (xwW cI cZ cS x0 xs xv ho0 ho1 pd0 pd1 m0 ts0 ts1 a ha sa cq_149 cs1_149 sc tm tv pd sv (0 : Int32) old1_149 sz1_149 zq_149) := hD
                have w149 : r149 = -2 ∧ cq_149 = cn ∧ zq_149 = z ∧ old1_149 = old ∧ sz1_149 = sz ∧ cs1_149 = cs := by
                  rcases p149 with ⟨c9, -⟩ | ⟨-, h9⟩
                  · exact absurd c9 (by decide)
                  · exact h9
                obtain ⟨w149, w149_0, w149_1, w149_2, w149_3, w149_4⟩ := w149
                rw [w149_0, w149_1, w149_2, w149_3, w149_4] at hP hD
                have hP : va_P D vwCl (xwW cI cZ cS x0 xs xv ho0 ho1 pd0 pd1 m0 ts0 ts1 a ha sa cn cs sc tm tv pd sv (0 : Int32) old sz z) H := hP
                have hD : va_D A (xwW cI cZ cS x0 xs xv ho0 ho1 pd0 pd1 m0 ts0 ts1 a ha sa cn cs sc tm tv pd sv (0 : Int32) old sz z) := hD
                refine xk_top (z := (-2)) (by exact w149) ?_
                refine lv_bipush (v := (-2)) hx hb dL_refusesAny_152 (by decide) ?_
                refine lv_icmp_ne (tgt := 342) hx hb dL_refusesAny_154 (by decide) (fun c154 => absurd (by decide) c154) (fun _ => ?_)
                refine lv_aload_n hx hb dL_refusesAny_157 rfl (lv_at hl 1 rfl) ?_
                refine lv_iconst (v := 4) hx hb dL_refusesAny_158 (by decide) ?_
                refine lv_iload_n hx hb dL_refusesAny_159 rfl (lv_at hl 2 rfl) ?_
                refine lv_iconst (v := 2) hx hb dL_refusesAny_160 (by decide) ?_
                refine lv_irem hx hb dL_refusesAny_161 (by decide) ?_
                refine lv_topi (fun x161 e161 => ?_)
                have t161 : x161.toInt = p1.toInt % 2 := by rw [e161]; exact xi_rem rfl (by decide) (by omega) (by omega)
                refine lv_if_ne (tgt := 169) hx hb dL_refusesAny_162 (by decide) (fun c162 => ?_) (fun c162 => ?_)
                · have t162 : ¬ x161.toInt = 0 := xi_ne rfl (by decide) c162
                  have d162 : ¬ x161 = 0 := c162
                  refine lv_bipush (v := 61) hx hb dL_refusesAny_169 (by decide) ?_
                  refine xo_Vi (As := [.int 4, .int 61]) (rest := []) hx hb hml hown hts hK hN hZ hP hD hS hA mb_X7_set mw_3_8 mw_3_9 mw_3_10 (k_X7_set l D cI cZ cS x0 xs xv ho0 ho1 pd0 pd1 m0 ts0 ts1 a ha sa cn cs sc tm tv pd sv (0 : Int32) old sz z (4 : Int32) (61 : Int32) hRS hI hold hszz) 0 7 rfl rfl (fun _ => xwW_f) (by decide) (by decide) rfl hl.1 rfl (Nat.le_of_ble_eq_true rfl) dL_refusesAny_171 ⟨Nat.zero_le _, Nat.zero_le _⟩ (fun r171 u171 H locs hw hP hD hS => ?_)
                  obtain ⟨cq_171, zq_171, old1_171, sz1_171, cs1_171⟩ := u171
                  have p171 : (setV (4 : Int32) (61 : Int32) ∧ r171 = z 4 ∧ Chg cn z old sz cs (beginZ (upd z 4 (61 : Int32))) cq_171 zq_171 old1_171 sz1_171 cs1_171) ∨ (¬ setV (4 : Int32) (61 : Int32) ∧ r171 = -2 ∧ Same cn z old sz cs cq_171 zq_171 old1_171 sz1_171 cs1_171) := hw
                  have hP : va_P D vwCl (xwW cI cZ cS x0 xs xv ho0 ho1 pd0 pd1 m0 ts0 ts1 a ha sa cq_171 cs1_171 sc tm tv pd sv (0 : Int32) old1_171 sz1_171 zq_171) H := hP
                  have hD : va_D A (xwW cI cZ cS x0 xs xv ho0 ho1 pd0 pd1 m0 ts0 ts1 a ha sa cq_171 cs1_171 sc tm tv pd sv (0 : Int32) old1_171 sz1_171 zq_171) := hD
                  have w171 : r171 = -2 ∧ cq_171 = cn ∧ zq_171 = z ∧ old1_171 = old ∧ sz1_171 = sz ∧ cs1_171 = cs := by
                    rcases p171 with ⟨c9, -⟩ | ⟨-, h9⟩
                    · exact absurd c9 (by decide)
                    · exact h9
                  obtain ⟨w171, w171_0, w171_1, w171_2, w171_3, w171_4⟩ := w171
                  rw [w171_0, w171_1, w171_2, w171_3, w171_4] at hP hD
                  have hP : va_P D vwCl (xwW cI cZ cS x0 xs xv ho0 ho1 pd0 pd1 m0 ts0 ts1 a ha sa cn cs sc tm tv pd sv (0 : Int32) old sz z) H := hP
                  have hD : va_D A (xwW cI cZ cS x0 xs xv ho0 ho1 pd0 pd1 m0 ts0 ts1 a ha sa cn cs sc tm tv pd sv (0 : Int32) old sz z) := hD
                  refine xk_top (z := (-2)) (by exact w171) ?_
                  refine lv_bipush (v := (-2)) hx hb dL_refusesAny_174 (by decide) ?_
                  refine lv_icmp_ne (tgt := 342) hx hb dL_refusesAny_176 (by decide) (fun c176 => absurd (by decide) c176) (fun _ => ?_)
                  refine lv_aload_n hx hb dL_refusesAny_179 rfl (lv_at hl 1 rfl) ?_
                  refine lv_iconst (v := 5) hx hb dL_refusesAny_180 (by decide) ?_
                  refine lv_iload_n hx hb dL_refusesAny_181 rfl (lv_at hl 2 rfl) ?_
                  refine lv_iconst (v := 2) hx hb dL_refusesAny_182 (by decide) ?_
                  refine lv_irem hx hb dL_refusesAny_183 (by decide) ?_
                  refine lv_topi (fun x183 e183 => ?_)
                  have t183 : x183.toInt = p1.toInt % 2 := by rw [e183]; exact xi_rem rfl (by decide) (by omega) (by omega)
                  refine lv_if_ne (tgt := 191) hx hb dL_refusesAny_184 (by decide) (fun c184 => ?_) (fun c184 => ?_)
                  · have t184 : ¬ x183.toInt = 0 := xi_ne rfl (by decide) c184
                    have d184 : ¬ x183 = 0 := c184
                    refine lv_bipush (v := 10) hx hb dL_refusesAny_191 (by decide) ?_
                    refine xo_Vi (As := [.int 5, .int 10]) (rest := []) hx hb hml hown hts hK hN hZ hP hD hS hA mb_X7_set mw_3_8 mw_3_9 mw_3_10 (k_X7_set l D cI cZ cS x0 xs xv ho0 ho1 pd0 pd1 m0 ts0 ts1 a ha sa cn cs sc tm tv pd sv (0 : Int32) old sz z (5 : Int32) (10 : Int32) hRS hI hold hszz) 0 7 rfl rfl (fun _ => xwW_f) (by decide) (by decide) rfl hl.1 rfl (Nat.le_of_ble_eq_true rfl) dL_refusesAny_193 ⟨Nat.zero_le _, Nat.zero_le _⟩ (fun r193 u193 H locs hw hP hD hS => ?_)
                    obtain ⟨cq_193, zq_193, old1_193, sz1_193, cs1_193⟩ := u193
                    have p193 : (setV (5 : Int32) (10 : Int32) ∧ r193 = z 5 ∧ Chg cn z old sz cs (beginZ (upd z 5 (10 : Int32))) cq_193 zq_193 old1_193 sz1_193 cs1_193) ∨ (¬ setV (5 : Int32) (10 : Int32) ∧ r193 = -2 ∧ Same cn z old sz cs cq_193 zq_193 old1_193 sz1_193 cs1_193) := hw
                    have hP : va_P D vwCl (xwW cI cZ cS x0 xs xv ho0 ho1 pd0 pd1 m0 ts0 ts1 a ha sa cq_193 cs1_193 sc tm tv pd sv (0 : Int32) old1_193 sz1_193 zq_193) H := hP
                    have hD : va_D A (xwW cI cZ cS x0 xs xv ho0 ho1 pd0 pd1 m0 ts0 ts1 a ha sa cq_193 cs1_193 sc tm tv pd sv (0 : Int32) old1_193 sz1_193 zq_193) := hD
                    have w193 : r193 = -2 ∧ cq_193 = cn ∧ zq_193 = z ∧ old1_193 = old ∧ sz1_193 = sz ∧ cs1_193 = cs := by
                      rcases p193 with ⟨c9, -⟩ | ⟨-, h9⟩
                      · exact absurd c9 (by decide)
                      · exact h9
                    obtain ⟨w193, w193_0, w193_1, w193_2, w193_3, w193_4⟩ := w193
                    rw [w193_0, w193_1, w193_2, w193_3, w193_4] at hP hD
                    have hP : va_P D vwCl (xwW cI cZ cS x0 xs xv ho0 ho1 pd0 pd1 m0 ts0 ts1 a ha sa cn cs sc tm tv pd sv (0 : Int32) old sz z) H := hP
                    have hD : va_D A (xwW cI cZ cS x0 xs xv ho0 ho1 pd0 pd1 m0 ts0 ts1 a ha sa cn cs sc tm tv pd sv (0 : Int32) old sz z) := hD
                    refine xk_top (z := (-2)) (by exact w193) ?_
                    refine lv_bipush (v := (-2)) hx hb dL_refusesAny_196 (by decide) ?_
                    refine lv_icmp_ne (tgt := 342) hx hb dL_refusesAny_198 (by decide) (fun c198 => absurd (by decide) c198) (fun _ => ?_)
                    refine lv_aload_n hx hb dL_refusesAny_201 rfl (lv_at hl 1 rfl) ?_
                    refine lv_iload_n hx hb dL_refusesAny_202 rfl (lv_at hl 2 rfl) ?_
                    refine lv_iconst (v := 2) hx hb dL_refusesAny_203 (by decide) ?_
                    refine lv_irem hx hb dL_refusesAny_204 (by decide) ?_
                    refine lv_topi (fun x204 e204 => ?_)
                    have t204 : x204.toInt = p1.toInt % 2 := by rw [e204]; exact xi_rem rfl (by decide) (by omega) (by omega)
                    refine lv_if_ne (tgt := 212) hx hb dL_refusesAny_205 (by decide) (fun c205 => ?_) (fun c205 => ?_)
                    · have t205 : ¬ x204.toInt = 0 := xi_ne rfl (by decide) c205
                      have d205 : ¬ x204 = 0 := c205
                      refine lv_bipush (v := 100) hx hb dL_refusesAny_212 (by decide) ?_
                      refine lv_iconst (v := 0) hx hb dL_refusesAny_214 (by decide) ?_
                      refine lv_iconst (v := 1) hx hb dL_refusesAny_215 (by decide) ?_
                      refine xo_Vi (As := [.int 100, .int 0, .int 1]) (rest := []) hx hb hml hown hts hK hN hZ hP hD hS hA mb_X7_pave mw_3_17 mw_3_18 mw_3_19 (k_X7_pave l D cI cZ cS x0 xs xv ho0 ho1 pd0 pd1 m0 ts0 ts1 a ha sa cn cs sc tm tv pd sv (0 : Int32) old sz z (100 : Int32) (0 : Int32) (1 : Int32) hRS hI hold hszz (Or.inr rfl)) 0 7 rfl rfl (fun _ => xwW_f) (by decide) (by decide) rfl hl.1 rfl (Nat.le_of_ble_eq_true rfl) dL_refusesAny_216 ⟨Nat.zero_le _, Nat.zero_le _⟩ (fun r216 u216 H locs hw hP hD hS => ?_)
                      obtain ⟨cq_216, zq_216, old1_216, sz1_216, cs1_216⟩ := u216
                      have p216 : r216 = paveR z (100 : Int32) (0 : Int32) ∧ ((paveC z (100 : Int32) (0 : Int32) ∧ Chg cn z old sz cs (paveZ z (100 : Int32) (0 : Int32) (1 : Int32)) cq_216 zq_216 old1_216 sz1_216 cs1_216) ∨ (¬ paveC z (100 : Int32) (0 : Int32) ∧ Same cn z old sz cs cq_216 zq_216 old1_216 sz1_216 cs1_216)) := hw
                      have hP : va_P D vwCl (xwW cI cZ cS x0 xs xv ho0 ho1 pd0 pd1 m0 ts0 ts1 a ha sa cq_216 cs1_216 sc tm tv pd sv (0 : Int32) old1_216 sz1_216 zq_216) H := hP
                      have hD : va_D A (xwW cI cZ cS x0 xs xv ho0 ho1 pd0 pd1 m0 ts0 ts1 a ha sa cq_216 cs1_216 sc tm tv pd sv (0 : Int32) old1_216 sz1_216 zq_216) := hD
                      have w216 : r216 = -2 ∧ cq_216 = cn ∧ zq_216 = z ∧ old1_216 = old ∧ sz1_216 = sz ∧ cs1_216 = cs := by
                        refine ⟨p216.1.trans (pv_bad z (by decide)), ?_⟩
                        rcases p216.2 with ⟨c9, -⟩ | ⟨-, h9⟩
                        · exact absurd c9 (fun c8 => absurd c8.1 (by decide))
                        · exact h9
                      obtain ⟨w216, w216_0, w216_1, w216_2, w216_3, w216_4⟩ := w216
                      rw [w216_0, w216_1, w216_2, w216_3, w216_4] at hP hD
                      have hP : va_P D vwCl (xwW cI cZ cS x0 xs xv ho0 ho1 pd0 pd1 m0 ts0 ts1 a ha sa cn cs sc tm tv pd sv (0 : Int32) old sz z) H := hP
                      have hD : va_D A (xwW cI cZ cS x0 xs xv ho0 ho1 pd0 pd1 m0 ts0 ts1 a ha sa cn cs sc tm tv pd sv (0 : Int32) old sz z) := hD
                      refine xk_top (z := (-2)) (by exact w216) ?_
                      refine lv_bipush (v := (-2)) hx hb dL_refusesAny_219 (by decide) ?_
                      refine lv_icmp_ne (tgt := 342) hx hb dL_refusesAny_221 (by decide) (fun c221 => absurd (by decide) c221) (fun _ => ?_)
                      refine lv_aload_n hx hb dL_refusesAny_224 rfl (lv_at hl 1 rfl) ?_
                      refine lv_iconst (v := 5) hx hb dL_refusesAny_225 (by decide) ?_
                      refine lv_iload_n hx hb dL_refusesAny_226 rfl (lv_at hl 2 rfl) ?_
                      refine lv_iconst (v := 2) hx hb dL_refusesAny_227 (by decide) ?_
                      refine lv_irem hx hb dL_refusesAny_228 (by decide) ?_
                      refine lv_topi (fun x228 e228 => ?_)
                      have t228 : x228.toInt = p1.toInt % 2 := by rw [e228]; exact xi_rem rfl (by decide) (by omega) (by omega)
                      refine lv_if_ne (tgt := 237) hx hb dL_refusesAny_229 (by decide) (fun c229 => ?_) (fun c229 => ?_)
                      · have t229 : ¬ x228.toInt = 0 := xi_ne rfl (by decide) c229
                        have d229 : ¬ x228 = 0 := c229
                        refine lv_iconst (v := 4) hx hb dL_refusesAny_237 (by decide) ?_
                        refine lv_iconst (v := 0) hx hb dL_refusesAny_238 (by decide) ?_
                        refine xo_Vi (As := [.int 5, .int 4, .int 0]) (rest := []) hx hb hml hown hts hK hN hZ hP hD hS hA mb_X7_pave mw_3_17 mw_3_18 mw_3_19 (k_X7_pave l D cI cZ cS x0 xs xv ho0 ho1 pd0 pd1 m0 ts0 ts1 a ha sa cn cs sc tm tv pd sv (0 : Int32) old sz z (5 : Int32) (4 : Int32) (0 : Int32) hRS hI hold hszz (Or.inl rfl)) 0 7 rfl rfl (fun _ => xwW_f) (by decide) (by decide) rfl hl.1 rfl (Nat.le_of_ble_eq_true rfl) dL_refusesAny_239 ⟨Nat.zero_le _, Nat.zero_le _⟩ (fun r239 u239 H locs hw hP hD hS => ?_)
                        obtain ⟨cq_239, zq_239, old1_239, sz1_239, cs1_239⟩ := u239
                        have p239 : r239 = paveR z (5 : Int32) (4 : Int32) ∧ ((paveC z (5 : Int32) (4 : Int32) ∧ Chg cn z old sz cs (paveZ z (5 : Int32) (4 : Int32) (0 : Int32)) cq_239 zq_239 old1_239 sz1_239 cs1_239) ∨ (¬ paveC z (5 : Int32) (4 : Int32) ∧ Same cn z old sz cs cq_239 zq_239 old1_239 sz1_239 cs1_239)) := hw
                        have hP : va_P D vwCl (xwW cI cZ cS x0 xs xv ho0 ho1 pd0 pd1 m0 ts0 ts1 a ha sa cq_239 cs1_239 sc tm tv pd sv (0 : Int32) old1_239 sz1_239 zq_239) H := hP
                        have hD : va_D A (xwW cI cZ cS x0 xs xv ho0 ho1 pd0 pd1 m0 ts0 ts1 a ha sa cq_239 cs1_239 sc tm tv pd sv (0 : Int32) old1_239 sz1_239 zq_239) := hD
                        have w239 : r239 = -2 ∧ cq_239 = cn ∧ zq_239 = z ∧ old1_239 = old ∧ sz1_239 = sz ∧ cs1_239 = cs := by
                          refine ⟨p239.1.trans (pv_bad z (by decide)), ?_⟩
                          rcases p239.2 with ⟨c9, -⟩ | ⟨-, h9⟩
                          · exact absurd c9 (fun c8 => absurd c8.1 (by decide))
                          · exact h9
                        obtain ⟨w239, w239_0, w239_1, w239_2, w239_3, w239_4⟩ := w239
                        rw [w239_0, w239_1, w239_2, w239_3, w239_4] at hP hD
                        have hP : va_P D vwCl (xwW cI cZ cS x0 xs xv ho0 ho1 pd0 pd1 m0 ts0 ts1 a ha sa cn cs sc tm tv pd sv (0 : Int32) old sz z) H := hP
                        have hD : va_D A (xwW cI cZ cS x0 xs xv ho0 ho1 pd0 pd1 m0 ts0 ts1 a ha sa cn cs sc tm tv pd sv (0 : Int32) old sz z) := hD
                        refine xk_top (z := (-2)) (by exact w239) ?_
                        refine lv_bipush (v := (-2)) hx hb dL_refusesAny_242 (by decide) ?_
                        refine lv_icmp_ne (tgt := 342) hx hb dL_refusesAny_244 (by decide) (fun c244 => absurd (by decide) c244) (fun _ => ?_)
                        have J270 : ∀   (H : Heap) (locs : List Loc), va_P D vwCl (xwW cI cZ cS x0 xs xv ho0 ho1 pd0 pd1 m0 ts0 ts1 a ha sa cn cs sc tm tv pd sv (0 : Int32) old sz z) H → va_D A (xwW cI cZ cS x0 xs xv ho0 ho1 pd0 pd1 m0 ts0 ts1 a ha sa cn cs sc tm tv pd sv (0 : Int32) old sz z) → va_S A s.heap H locs → ∀ ls : Array Slot, lv_has ls 5 [(2, .int x21), (0, .ref x0), (1, .int p1), (3, .int b)] → W p l e ({ frames := 7, cells := 0, slots := 0, locals := 159 } : Room) s m args below meth c H locs 0 0 Q (F0 m 270 ls []) := by
                          intro  H locs hP hD hS ls hl
                          refine lv_aload_n hx hb dL_refusesAny_270 rfl (lv_at hl 1 rfl) ?_
                          refine lv_iload_n hx hb dL_refusesAny_271 rfl (lv_at hl 0 rfl) ?_
                          refine xo_Vi (As := [.int x21]) (rest := []) hx hb hml hown hts hK hN hZ hP hD hS hA mb_X7_tear mw_3_25 mw_3_26 mw_3_27 (k_X7_tear l D cI cZ cS x0 xs xv ho0 ho1 pd0 pd1 m0 ts0 ts1 a ha sa cn cs sc tm tv pd sv (0 : Int32) old sz z x21 hRS hI hold hszz) 0 7 rfl rfl (fun _ => xwW_f) (by decide) (by decide) rfl hl.1 rfl (Nat.le_of_ble_eq_true rfl) dL_refusesAny_272 ⟨Nat.zero_le _, Nat.zero_le _⟩ (fun r272 u272 H locs hw hP hD hS => ?_)
                          obtain ⟨cq_272, zq_272, old1_272, sz1_272, cs1_272⟩ := u272
                          have p272 : (tearC z x21 ∧ r272 = ofZ z x21.toInt.toNat 0 ∧ Chg cn z old sz cs (tearZ z x21) cq_272 zq_272 old1_272 sz1_272 cs1_272) ∨ (¬ tearC z x21 ∧ r272 = -1 ∧ Same cn z old sz cs cq_272 zq_272 old1_272 sz1_272 cs1_272) := hw
                          have hP : va_P D vwCl (xwW cI cZ cS x0 xs xv ho0 ho1 pd0 pd1 m0 ts0 ts1 a ha sa cq_272 cs1_272 sc tm tv pd sv (0 : Int32) old1_272 sz1_272 zq_272) H := hP
                          have hD : va_D A (xwW cI cZ cS x0 xs xv ho0 ho1 pd0 pd1 m0 ts0 ts1 a ha sa cq_272 cs1_272 sc tm tv pd sv (0 : Int32) old1_272 sz1_272 zq_272) := hD
                          have w272 : r272 = -1 ∧ cq_272 = cn ∧ zq_272 = z ∧ old1_272 = old ∧ sz1_272 = sz ∧ cs1_272 = cs := by
                            rcases p272 with ⟨c9, -⟩ | ⟨-, h9⟩
                            · exact absurd c9 (fun c8 => by have := c8.1; have := c8.2; omega)
                            · exact h9
                          obtain ⟨w272, w272_0, w272_1, w272_2, w272_3, w272_4⟩ := w272
                          rw [w272_0, w272_1, w272_2, w272_3, w272_4] at hP hD
                          have hP : va_P D vwCl (xwW cI cZ cS x0 xs xv ho0 ho1 pd0 pd1 m0 ts0 ts1 a ha sa cn cs sc tm tv pd sv (0 : Int32) old sz z) H := hP
                          have hD : va_D A (xwW cI cZ cS x0 xs xv ho0 ho1 pd0 pd1 m0 ts0 ts1 a ha sa cn cs sc tm tv pd sv (0 : Int32) old sz z) := hD
                          refine xk_top (z := (-1)) (by exact w272) ?_
                          refine lv_iconst (v := (-1)) hx hb dL_refusesAny_275 (by decide) ?_
                          refine lv_icmp_ne (tgt := 342) hx hb dL_refusesAny_276 (by decide) (fun c276 => absurd (by decide) c276) (fun _ => ?_)
                          refine lv_aload_n hx hb dL_refusesAny_279 rfl (lv_at hl 1 rfl) ?_
                          refine lv_aload_n hx hb dL_refusesAny_280 rfl (lv_at hl 1 rfl) ?_
                          refine lv_bipush (v := 9) hx hb dL_refusesAny_281 (by decide) ?_
                          refine xo_Vi (As := [.int 9]) (rest := [.ref x0]) hx hb hml hown hts hK hN hZ hP hD hS hA mb_X7_count mw_2_6 mw_2_7 mw_2_8 (k_X7_count l D cI cZ cS x0 xs xv ho0 ho1 pd0 pd1 m0 ts0 ts1 a ha sa cn cs sc tm tv pd sv (0 : Int32) old sz z (9 : Int32) hRS hI) 0 7 rfl rfl (fun _ => xwW_f) (by decide) (by decide) rfl hl.1 rfl (Nat.le_of_ble_eq_true rfl) dL_refusesAny_283 ⟨Nat.zero_le _, Nat.zero_le _⟩ (fun r283 u283 H locs hw hP hD hS => ?_)
                          have p283 : r283 = cntR z (0 : Int32) sz (9 : Int32) := hw
                          have hP : va_P D vwCl (xwW cI cZ cS x0 xs xv ho0 ho1 pd0 pd1 m0 ts0 ts1 a ha sa cn cs sc tm tv pd sv (0 : Int32) old sz z) H := hP
                          have hD : va_D A (xwW cI cZ cS x0 xs xv ho0 ho1 pd0 pd1 m0 ts0 ts1 a ha sa cn cs sc tm tv pd sv (0 : Int32) old sz z) := hD
                          refine xk_top (z := (z 7)) (by exact p283.trans (ct_9 _ _ _)) ?_
                          refine xo_Vi (As := [.int (z 7)]) (rest := []) hx hb hml hown hts hK hN hZ hP hD hS hA mb_X7_tear mw_3_25 mw_3_26 mw_3_27 (k_X7_tear l D cI cZ cS x0 xs xv ho0 ho1 pd0 pd1 m0 ts0 ts1 a ha sa cn cs sc tm tv pd sv (0 : Int32) old sz z (z 7) hRS hI hold hszz) 0 7 rfl rfl (fun _ => xwW_f) (by decide) (by decide) rfl hl.1 rfl (Nat.le_of_ble_eq_true rfl) dL_refusesAny_286 ⟨Nat.zero_le _, Nat.zero_le _⟩ (fun r286 u286 H locs hw hP hD hS => ?_)
                          obtain ⟨cq_286, zq_286, old1_286, sz1_286, cs1_286⟩ := u286
                          have p286 : (tearC z (z 7) ∧ r286 = ofZ z (z 7).toInt.toNat 0 ∧ Chg cn z old sz cs (tearZ z (z 7)) cq_286 zq_286 old1_286 sz1_286 cs1_286) ∨ (¬ tearC z (z 7) ∧ r286 = -1 ∧ Same cn z old sz cs cq_286 zq_286 old1_286 sz1_286 cs1_286) := hw
                          have hP : va_P D vwCl (xwW cI cZ cS x0 xs xv ho0 ho1 pd0 pd1 m0 ts0 ts1 a ha sa cq_286 cs1_286 sc tm tv pd sv (0 : Int32) old1_286 sz1_286 zq_286) H := hP
                          have hD : va_D A (xwW cI cZ cS x0 xs xv ho0 ho1 pd0 pd1 m0 ts0 ts1 a ha sa cq_286 cs1_286 sc tm tv pd sv (0 : Int32) old1_286 sz1_286 zq_286) := hD
                          have w286 : r286 = -1 ∧ cq_286 = cn ∧ zq_286 = z ∧ old1_286 = old ∧ sz1_286 = sz ∧ cs1_286 = cs := by
                            rcases p286 with ⟨c9, -⟩ | ⟨-, h9⟩
                            · exact absurd c9 (fun c8 => by have := c8.1; have := c8.2; omega)
                            · exact h9
                          obtain ⟨w286, w286_0, w286_1, w286_2, w286_3, w286_4⟩ := w286
                          rw [w286_0, w286_1, w286_2, w286_3, w286_4] at hP hD
                          have hP : va_P D vwCl (xwW cI cZ cS x0 xs xv ho0 ho1 pd0 pd1 m0 ts0 ts1 a ha sa cn cs sc tm tv pd sv (0 : Int32) old sz z) H := hP
                          have hD : va_D A (xwW cI cZ cS x0 xs xv ho0 ho1 pd0 pd1 m0 ts0 ts1 a ha sa cn cs sc tm tv pd sv (0 : Int32) old sz z) := hD
                          refine xk_top (z := (-1)) (by exact w286) ?_
                          refine lv_iconst (v := (-1)) hx hb dL_refusesAny_289 (by decide) ?_
                          refine lv_icmp_ne (tgt := 342) hx hb dL_refusesAny_290 (by decide) (fun c290 => absurd (by decide) c290) (fun _ => ?_)
                          refine lv_aload_n hx hb dL_refusesAny_293 rfl (lv_at hl 1 rfl) ?_
                          refine lv_iload_n hx hb dL_refusesAny_294 rfl (lv_at hl 2 rfl) ?_
                          refine lv_iconst (v := 2) hx hb dL_refusesAny_295 (by decide) ?_
                          refine lv_irem hx hb dL_refusesAny_296 (by decide) ?_
                          refine lv_topi (fun x296 e296 => ?_)
                          have t296 : x296.toInt = p1.toInt % 2 := by rw [e296]; exact xi_rem rfl (by decide) (by omega) (by omega)
                          refine lv_if_ne (tgt := 304) hx hb dL_refusesAny_297 (by decide) (fun c297 => ?_) (fun c297 => ?_)
                          · have t297 : ¬ x296.toInt = 0 := xi_ne rfl (by decide) c297
                            have d297 : ¬ x296 = 0 := c297
                            refine lv_sipush (v := 501) hx hb dL_refusesAny_304 (by decide) ?_
                            refine xo_Vi (As := [.int 501]) (rest := []) hx hb hml hown hts hK hN hZ hP hD hS hA mb_X7_march mw_3_33 mw_3_34 mw_3_35 (k_X7_march l D cI cZ cS x0 xs xv ho0 ho1 pd0 pd1 m0 ts0 ts1 a ha sa cn cs sc tm tv pd sv (0 : Int32) old sz z (501 : Int32) hRS hI hold hszz ⟨hb74, by omega⟩) 0 7 rfl rfl (fun _ => xwW_f) (by decide) (by decide) rfl hl.1 rfl (Nat.le_of_ble_eq_true rfl) dL_refusesAny_307 ⟨Nat.zero_le _, Nat.zero_le _⟩ (fun r307 u307 H locs hw hP hD hS => ?_)
                            obtain ⟨cq_307, zq_307, old1_307, sz1_307, cs1_307⟩ := u307
                            have p307 : marchA z (501 : Int32) r307 ∧ ((marchC z (501 : Int32) ∧ Chg cn z old sz cs (walkZ 501 z) cq_307 zq_307 old1_307 sz1_307 cs1_307) ∨ (¬ marchC z (501 : Int32) ∧ Same cn z old sz cs cq_307 zq_307 old1_307 sz1_307 cs1_307)) := hw
                            have hP : va_P D vwCl (xwW cI cZ cS x0 xs xv ho0 ho1 pd0 pd1 m0 ts0 ts1 a ha sa cq_307 cs1_307 sc tm tv pd sv (0 : Int32) old1_307 sz1_307 zq_307) H := hP
                            have hD : va_D A (xwW cI cZ cS x0 xs xv ho0 ho1 pd0 pd1 m0 ts0 ts1 a ha sa cq_307 cs1_307 sc tm tv pd sv (0 : Int32) old1_307 sz1_307 zq_307) := hD
                            have w307 : r307 = -2 ∧ cq_307 = cn ∧ zq_307 = z ∧ old1_307 = old ∧ sz1_307 = sz ∧ cs1_307 = cs := by
                              refine ⟨mc_bad (by decide) p307.1, ?_⟩
                              rcases p307.2 with ⟨c9, -⟩ | ⟨-, h9⟩
                              · exact absurd c9 (fun c8 => absurd c8.1 (by decide))
                              · exact h9
                            obtain ⟨w307, w307_0, w307_1, w307_2, w307_3, w307_4⟩ := w307
                            rw [w307_0, w307_1, w307_2, w307_3, w307_4] at hP hD
                            have hP : va_P D vwCl (xwW cI cZ cS x0 xs xv ho0 ho1 pd0 pd1 m0 ts0 ts1 a ha sa cn cs sc tm tv pd sv (0 : Int32) old sz z) H := hP
                            have hD : va_D A (xwW cI cZ cS x0 xs xv ho0 ho1 pd0 pd1 m0 ts0 ts1 a ha sa cn cs sc tm tv pd sv (0 : Int32) old sz z) := hD
                            refine xk_top (z := (-2)) (by exact w307) ?_
                            refine lv_bipush (v := (-2)) hx hb dL_refusesAny_310 (by decide) ?_
                            refine lv_icmp_ne (tgt := 342) hx hb dL_refusesAny_312 (by decide) (fun c312 => absurd (by decide) c312) (fun _ => ?_)
                            have J338 : ∀   (H : Heap) (locs : List Loc), va_P D vwCl (xwW cI cZ cS x0 xs xv ho0 ho1 pd0 pd1 m0 ts0 ts1 a ha sa cn cs sc tm tv pd sv (0 : Int32) old sz z) H → va_D A (xwW cI cZ cS x0 xs xv ho0 ho1 pd0 pd1 m0 ts0 ts1 a ha sa cn cs sc tm tv pd sv (0 : Int32) old sz z) → va_S A s.heap H locs → ∀ ls : Array Slot, lv_has ls 5 [(2, .int x21), (0, .ref x0), (1, .int p1), (3, .int b)] → W p l e ({ frames := 7, cells := 0, slots := 0, locals := 159 } : Room) s m args below meth c H locs 0 0 Q (F0 m 338 ls []) := by
                              intro  H locs hP hD hS ls hl
                              refine lv_iconst (v := 1) hx hb dL_refusesAny_338 (by decide) ?_
                              refine lv_goto (tgt := 343) hx hb dL_refusesAny_339 (by decide) ?_
                              refine lv_istore (lv' := [(4, .int 1), (2, .int x21), (0, .ref x0), (1, .int p1), (3, .int b)]) hx hb dL_refusesAny_343 hl (by decide) rfl (fun ls hl => ?_)
                              refine lv_iload hx hb dL_refusesAny_345 (lv_at hl 0 rfl) ?_
                              refine lv_if_eq (tgt := 631) hx hb dL_refusesAny_347 (by decide) (fun c347 => absurd c347 (by decide)) (fun _ => ?_)
                              refine lv_aload_n hx hb dL_refusesAny_350 rfl (lv_at hl 2 rfl) ?_
                              refine lv_iload_n hx hb dL_refusesAny_351 rfl (lv_at hl 1 rfl) ?_
                              refine lv_bipush (v := 9) hx hb dL_refusesAny_352 (by decide) ?_
                              refine xo_Vi (As := [.int x21, .int 9]) (rest := []) hx hb hml hown hts hK hN hZ hP hD hS hA mb_X7_line mw_2_150 mw_2_151 mw_2_152 (k_X7_line l D cI cZ cS x0 xs xv ho0 ho1 pd0 pd1 m0 ts0 ts1 a ha sa cn cs sc tm tv pd sv (0 : Int32) old sz z x21 (9 : Int32) hRS hI) 0 7 rfl rfl (fun _ => xwW_f) (by decide) (by decide) rfl hl.1 rfl (Nat.le_of_ble_eq_true rfl) dL_refusesAny_354 ⟨Nat.zero_le _, Nat.zero_le _⟩ (fun r354 u354 H locs hw hP hD hS => ?_)
                              have p354 : r354 = lineR z x21 (9 : Int32) := hw
                              have hP : va_P D vwCl (xwW cI cZ cS x0 xs xv ho0 ho1 pd0 pd1 m0 ts0 ts1 a ha sa cn cs sc tm tv pd sv (0 : Int32) old sz z) H := hP
                              have hD : va_D A (xwW cI cZ cS x0 xs xv ho0 ho1 pd0 pd1 m0 ts0 ts1 a ha sa cn cs sc tm tv pd sv (0 : Int32) old sz z) := hD
                              refine xk_top (z := (-1)) (by exact p354.trans (ln_no (fun c8 => by have := c8.1; have := c8.2; omega))) ?_
                              refine lv_iconst (v := (-1)) hx hb dL_refusesAny_357 (by decide) ?_
                              refine lv_icmp_ne (tgt := 631) hx hb dL_refusesAny_358 (by decide) (fun c358 => absurd (by decide) c358) (fun _ => ?_)
                              refine lv_aload_n hx hb dL_refusesAny_361 rfl (lv_at hl 2 rfl) ?_
                              refine lv_aload_n hx hb dL_refusesAny_362 rfl (lv_at hl 2 rfl) ?_
                              refine lv_bipush (v := 6) hx hb dL_refusesAny_363 (by decide) ?_
                              refine xo_Vi (As := [.int 6]) (rest := [.ref x0]) hx hb hml hown hts hK hN hZ hP hD hS hA mb_X7_count mw_2_6 mw_2_7 mw_2_8 (k_X7_count l D cI cZ cS x0 xs xv ho0 ho1 pd0 pd1 m0 ts0 ts1 a ha sa cn cs sc tm tv pd sv (0 : Int32) old sz z (6 : Int32) hRS hI) 0 7 rfl rfl (fun _ => xwW_f) (by decide) (by decide) rfl hl.1 rfl (Nat.le_of_ble_eq_true rfl) dL_refusesAny_365 ⟨Nat.zero_le _, Nat.zero_le _⟩ (fun r365 u365 H locs hw hP hD hS => ?_)
                              have p365 : r365 = cntR z (0 : Int32) sz (6 : Int32) := hw
                              have hP : va_P D vwCl (xwW cI cZ cS x0 xs xv ho0 ho1 pd0 pd1 m0 ts0 ts1 a ha sa cn cs sc tm tv pd sv (0 : Int32) old sz z) H := hP
                              have hD : va_D A (xwW cI cZ cS x0 xs xv ho0 ho1 pd0 pd1 m0 ts0 ts1 a ha sa cn cs sc tm tv pd sv (0 : Int32) old sz z) := hD
                              refine xk_top (z := (z 6)) (by exact p365.trans (ct_6 _ _ _)) ?_
                              refine lv_iconst (v := 0) hx hb dL_refusesAny_368 (by decide) ?_
                              refine xo_Vi (As := [.int (z 6), .int 0]) (rest := []) hx hb hml hown hts hK hN hZ hP hD hS hA mb_X7_line mw_2_150 mw_2_151 mw_2_152 (k_X7_line l D cI cZ cS x0 xs xv ho0 ho1 pd0 pd1 m0 ts0 ts1 a ha sa cn cs sc tm tv pd sv (0 : Int32) old sz z (z 6) (0 : Int32) hRS hI) 0 7 rfl rfl (fun _ => xwW_f) (by decide) (by decide) rfl hl.1 rfl (Nat.le_of_ble_eq_true rfl) dL_refusesAny_369 ⟨Nat.zero_le _, Nat.zero_le _⟩ (fun r369 u369 H locs hw hP hD hS => ?_)
                              have p369 : r369 = lineR z (z 6) (0 : Int32) := hw
                              have hP : va_P D vwCl (xwW cI cZ cS x0 xs xv ho0 ho1 pd0 pd1 m0 ts0 ts1 a ha sa cn cs sc tm tv pd sv (0 : Int32) old sz z) H := hP
                              have hD : va_D A (xwW cI cZ cS x0 xs xv ho0 ho1 pd0 pd1 m0 ts0 ts1 a ha sa cn cs sc tm tv pd sv (0 : Int32) old sz z) := hD
                              refine xk_top (z := (-1)) (by exact p369.trans (ln_no (fun c8 => by have := c8.1; have := c8.2; omega))) ?_
                              refine lv_iconst (v := (-1)) hx hb dL_refusesAny_372 (by decide) ?_
                              refine lv_icmp_ne (tgt := 631) hx hb dL_refusesAny_373 (by decide) (fun c373 => absurd (by decide) c373) (fun _ => ?_)
                              have J440 : ∀   (H : Heap) (locs : List Loc), va_P D vwCl (xwW cI cZ cS x0 xs xv ho0 ho1 pd0 pd1 m0 ts0 ts1 a ha sa cn cs sc tm tv pd sv (0 : Int32) old sz z) H → va_D A (xwW cI cZ cS x0 xs xv ho0 ho1 pd0 pd1 m0 ts0 ts1 a ha sa cn cs sc tm tv pd sv (0 : Int32) old sz z) → va_S A s.heap H locs → ∀ ls : Array Slot, lv_has ls 5 [(4, .int 1), (2, .int x21), (0, .ref x0), (1, .int p1), (3, .int b)] → W p l e ({ frames := 7, cells := 0, slots := 0, locals := 159 } : Room) s m args below meth c H locs 0 0 Q (F0 m 440 ls []) := by
                                intro  H locs hP hD hS ls hl
                                refine lv_aload_n hx hb dL_refusesAny_440 rfl (lv_at hl 2 rfl) ?_
                                refine lv_iload_n hx hb dL_refusesAny_441 rfl (lv_at hl 1 rfl) ?_
                                refine lv_iconst (v := 0) hx hb dL_refusesAny_442 (by decide) ?_
                                refine lv_bipush (v := 9) hx hb dL_refusesAny_443 (by decide) ?_
                                refine xo_Vi (As := [.int x21, .int 0, .int 9]) (rest := []) hx hb hml hown hts hK hN hZ hP hD hS hA mb_X7_foot mw_2_140 mw_2_141 mw_2_142 (k_X7_foot l D cI cZ cS x0 xs xv ho0 ho1 pd0 pd1 m0 ts0 ts1 a ha sa cn cs sc tm tv pd sv (0 : Int32) old sz z x21 (0 : Int32) (9 : Int32) hRS hI) 0 7 rfl rfl (fun _ => xwW_f) (by decide) (by decide) rfl hl.1 rfl (Nat.le_of_ble_eq_true rfl) dL_refusesAny_445 ⟨Nat.zero_le _, Nat.zero_le _⟩ (fun r445 u445 H locs hw hP hD hS => ?_)
                                have p445 : r445 = footR z x21 (0 : Int32) (9 : Int32) := hw
                                have hP : va_P D vwCl (xwW cI cZ cS x0 xs xv ho0 ho1 pd0 pd1 m0 ts0 ts1 a ha sa cn cs sc tm tv pd sv (0 : Int32) old sz z) H := hP
                                have hD : va_D A (xwW cI cZ cS x0 xs xv ho0 ho1 pd0 pd1 m0 ts0 ts1 a ha sa cn cs sc tm tv pd sv (0 : Int32) old sz z) := hD
                                refine xk_top (z := (-1)) (by exact p445.trans (ft_no (fun c8 => by have := c8.1.1; have := c8.1.2; omega))) ?_
                                refine lv_iconst (v := (-1)) hx hb dL_refusesAny_448 (by decide) ?_
                                refine lv_icmp_ne (tgt := 631) hx hb dL_refusesAny_449 (by decide) (fun c449 => absurd (by decide) c449) (fun _ => ?_)
                                refine lv_aload_n hx hb dL_refusesAny_452 rfl (lv_at hl 2 rfl) ?_
                                refine lv_iload_n hx hb dL_refusesAny_453 rfl (lv_at hl 1 rfl) ?_
                                refine lv_bipush (v := 9) hx hb dL_refusesAny_454 (by decide) ?_
                                refine xo_Vi (As := [.int x21, .int 9]) (rest := []) hx hb hml hown hts hK hN hZ hP hD hS hA mb_X7_stretch mw_2_121 mw_2_122 mw_2_123 (k_X7_stretch l D cI cZ cS x0 xs xv ho0 ho1 pd0 pd1 m0 ts0 ts1 a ha sa cn cs sc tm tv pd sv (0 : Int32) old sz z x21 (9 : Int32) hRS hI) 0 7 rfl rfl (fun _ => xwW_f) (by decide) (by decide) rfl hl.1 rfl (Nat.le_of_ble_eq_true rfl) dL_refusesAny_456 ⟨Nat.zero_le _, Nat.zero_le _⟩ (fun r456 u456 H locs hw hP hD hS => ?_)
                                have p456 : strA z x21 (9 : Int32) r456 := hw
                                have hP : va_P D vwCl (xwW cI cZ cS x0 xs xv ho0 ho1 pd0 pd1 m0 ts0 ts1 a ha sa cn cs sc tm tv pd sv (0 : Int32) old sz z) H := hP
                                have hD : va_D A (xwW cI cZ cS x0 xs xv ho0 ho1 pd0 pd1 m0 ts0 ts1 a ha sa cn cs sc tm tv pd sv (0 : Int32) old sz z) := hD
                                refine xk_top (z := (-1)) (by exact st_no (fun c8 => by have := c8.1; have := c8.2; omega) p456) ?_
                                refine lv_iconst (v := (-1)) hx hb dL_refusesAny_459 (by decide) ?_
                                refine lv_icmp_ne (tgt := 631) hx hb dL_refusesAny_460 (by decide) (fun c460 => absurd (by decide) c460) (fun _ => ?_)
                                have J514 : ∀   (H : Heap) (locs : List Loc), va_P D vwCl (xwW cI cZ cS x0 xs xv ho0 ho1 pd0 pd1 m0 ts0 ts1 a ha sa cn cs sc tm tv pd sv (0 : Int32) old sz z) H → va_D A (xwW cI cZ cS x0 xs xv ho0 ho1 pd0 pd1 m0 ts0 ts1 a ha sa cn cs sc tm tv pd sv (0 : Int32) old sz z) → va_S A s.heap H locs → ∀ ls : Array Slot, lv_has ls 5 [(4, .int 1), (2, .int x21), (0, .ref x0), (1, .int p1), (3, .int b)] → W p l e ({ frames := 7, cells := 0, slots := 0, locals := 159 } : Room) s m args below meth c H locs 0 0 Q (F0 m 514 ls []) := by
                                  intro  H locs hP hD hS ls hl
                                  refine lv_aload_n hx hb dL_refusesAny_514 rfl (lv_at hl 2 rfl) ?_
                                  refine lv_iload_n hx hb dL_refusesAny_515 rfl (lv_at hl 3 rfl) ?_
                                  refine lv_iconst (v := 2) hx hb dL_refusesAny_516 (by decide) ?_
                                  refine lv_irem hx hb dL_refusesAny_517 (by decide) ?_
                                  refine lv_topi (fun x517 e517 => ?_)
                                  have t517 : x517.toInt = p1.toInt % 2 := by rw [e517]; exact xi_rem rfl (by decide) (by omega) (by omega)
                                  refine lv_if_ne (tgt := 525) hx hb dL_refusesAny_518 (by decide) (fun c518 => ?_) (fun c518 => ?_)
                                  · have t518 : ¬ x517.toInt = 0 := xi_ne rfl (by decide) c518
                                    have d518 : ¬ x517 = 0 := c518
                                    refine lv_bipush (v := 15) hx hb dL_refusesAny_525 (by decide) ?_
                                    refine xo_Vi (As := [.int 15]) (rest := []) hx hb hml hown hts hK hN hZ hP hD hS hA mb_X7_walk mw_1_238 mw_1_239 mw_2_0 (k_X7_walk l D cI cZ cS x0 xs xv ho0 ho1 pd0 pd1 m0 ts0 ts1 a ha sa cn cs sc tm tv pd sv (0 : Int32) old sz z (15 : Int32) hRS hI) 0 7 rfl rfl (fun _ => xwW_f) (by decide) (by decide) rfl hl.1 rfl (Nat.le_of_ble_eq_true rfl) dL_refusesAny_527 ⟨Nat.zero_le _, Nat.zero_le _⟩ (fun r527 u527 H locs hw hP hD hS => ?_)
                                    have p527 : r527 = walkR z (15 : Int32) := hw
                                    have hP : va_P D vwCl (xwW cI cZ cS x0 xs xv ho0 ho1 pd0 pd1 m0 ts0 ts1 a ha sa cn cs sc tm tv pd sv (0 : Int32) old sz z) H := hP
                                    have hD : va_D A (xwW cI cZ cS x0 xs xv ho0 ho1 pd0 pd1 m0 ts0 ts1 a ha sa cn cs sc tm tv pd sv (0 : Int32) old sz z) := hD
                                    refine xk_top (z := (-2)) (by exact p527.trans (wk_bad z (by decide))) ?_
                                    refine lv_bipush (v := (-2)) hx hb dL_refusesAny_530 (by decide) ?_
                                    refine lv_icmp_ne (tgt := 631) hx hb dL_refusesAny_532 (by decide) (fun c532 => absurd (by decide) c532) (fun _ => ?_)
                                    refine lv_aload_n hx hb dL_refusesAny_535 rfl (lv_at hl 2 rfl) ?_
                                    refine lv_iload_n hx hb dL_refusesAny_536 rfl (lv_at hl 3 rfl) ?_
                                    refine lv_iconst (v := 2) hx hb dL_refusesAny_537 (by decide) ?_
                                    refine lv_irem hx hb dL_refusesAny_538 (by decide) ?_
                                    refine lv_topi (fun x538 e538 => ?_)
                                    have t538 : x538.toInt = p1.toInt % 2 := by rw [e538]; exact xi_rem rfl (by decide) (by omega) (by omega)
                                    refine lv_if_ne (tgt := 546) hx hb dL_refusesAny_539 (by decide) (fun c539 => ?_) (fun c539 => ?_)
                                    · have t539 : ¬ x538.toInt = 0 := xi_ne rfl (by decide) c539
                                      have d539 : ¬ x538 = 0 := c539
                                      refine lv_bipush (v := 13) hx hb dL_refusesAny_546 (by decide) ?_
                                      refine xo_Vi (As := [.int 13]) (rest := []) hx hb hml hown hts hK hN hZ hP hD hS hA mb_X7_count mw_2_6 mw_2_7 mw_2_8 (k_X7_count l D cI cZ cS x0 xs xv ho0 ho1 pd0 pd1 m0 ts0 ts1 a ha sa cn cs sc tm tv pd sv (0 : Int32) old sz z (13 : Int32) hRS hI) 0 7 rfl rfl (fun _ => xwW_f) (by decide) (by decide) rfl hl.1 rfl (Nat.le_of_ble_eq_true rfl) dL_refusesAny_548 ⟨Nat.zero_le _, Nat.zero_le _⟩ (fun r548 u548 H locs hw hP hD hS => ?_)
                                      have p548 : r548 = cntR z (0 : Int32) sz (13 : Int32) := hw
                                      have hP : va_P D vwCl (xwW cI cZ cS x0 xs xv ho0 ho1 pd0 pd1 m0 ts0 ts1 a ha sa cn cs sc tm tv pd sv (0 : Int32) old sz z) H := hP
                                      have hD : va_D A (xwW cI cZ cS x0 xs xv ho0 ho1 pd0 pd1 m0 ts0 ts1 a ha sa cn cs sc tm tv pd sv (0 : Int32) old sz z) := hD
                                      refine xk_top (z := (-2)) (by exact p548.trans (ct_bad z _ _ (by decide))) ?_
                                      refine lv_bipush (v := (-2)) hx hb dL_refusesAny_551 (by decide) ?_
                                      refine lv_icmp_ne (tgt := 631) hx hb dL_refusesAny_553 (by decide) (fun c553 => absurd (by decide) c553) (fun _ => ?_)
                                      refine lv_aload_n hx hb dL_refusesAny_556 rfl (lv_at hl 2 rfl) ?_
                                      refine lv_iload_n hx hb dL_refusesAny_557 rfl (lv_at hl 3 rfl) ?_
                                      refine lv_iconst (v := 2) hx hb dL_refusesAny_558 (by decide) ?_
                                      refine lv_irem hx hb dL_refusesAny_559 (by decide) ?_
                                      refine lv_topi (fun x559 e559 => ?_)
                                      have t559 : x559.toInt = p1.toInt % 2 := by rw [e559]; exact xi_rem rfl (by decide) (by omega) (by omega)
                                      refine lv_if_ne (tgt := 567) hx hb dL_refusesAny_560 (by decide) (fun c560 => ?_) (fun c560 => ?_)
                                      · have t560 : ¬ x559.toInt = 0 := xi_ne rfl (by decide) c560
                                        have d560 : ¬ x559 = 0 := c560
                                        refine lv_iconst (v := 4) hx hb dL_refusesAny_567 (by decide) ?_
                                        refine xo_Vi (As := [.int 4]) (rest := []) hx hb hml hown hts hK hN hZ hP hD hS hA mb_X7_untilWalked mw_2_177 mw_2_178 mw_2_179 (k_X7_untilWalked l D cI cZ cS x0 xs xv ho0 ho1 pd0 pd1 m0 ts0 ts1 a ha sa cn cs sc tm tv pd sv (0 : Int32) old sz z (4 : Int32) hRS hI) 0 7 rfl rfl (fun _ => xwW_f) (by decide) (by decide) rfl hl.1 rfl (Nat.le_of_ble_eq_true rfl) dL_refusesAny_568 ⟨Nat.zero_le _, Nat.zero_le _⟩ (fun r568 u568 H locs hw hP hD hS => ?_)
                                        obtain ⟨tq_568, rfl⟩ : ∃ q, q = u568 := ⟨_, rfl⟩
                                        have p568 : r568 = untR z (4 : Int32) := hw
                                        have hP : va_P D vwCl (xwW cI cZ cS x0 xs xv ho0 ho1 pd0 pd1 m0 ts0 ts1 a ha sa cn cs sc tq_568 tv pd sv (0 : Int32) old sz z) H := hP
                                        have hD : va_D A (xwW cI cZ cS x0 xs xv ho0 ho1 pd0 pd1 m0 ts0 ts1 a ha sa cn cs sc tq_568 tv pd sv (0 : Int32) old sz z) := hD
                                        refine xk_top (z := (-2)) (by exact p568.trans (un_bad z (by decide))) ?_
                                        refine lv_bipush (v := (-2)) hx hb dL_refusesAny_571 (by decide) ?_
                                        refine lv_icmp_ne (tgt := 631) hx hb dL_refusesAny_573 (by decide) (fun c573 => absurd (by decide) c573) (fun _ => ?_)
                                        refine lv_aload_n hx hb dL_refusesAny_576 rfl (lv_at hl 2 rfl) ?_
                                        refine lv_iload_n hx hb dL_refusesAny_577 rfl (lv_at hl 1 rfl) ?_
                                        refine lv_bipush (v := 9) hx hb dL_refusesAny_578 (by decide) ?_
                                        refine xo_Vi (As := [.int x21, .int 9]) (rest := []) hx hb hml hown hts hK hN hZ hP hD hS hA mb_X7_meets mw_2_161 mw_2_162 mw_2_163 (k_X7_meets l D cI cZ cS x0 xs xv ho0 ho1 pd0 pd1 m0 ts0 ts1 a ha sa cn cs sc tq_568 tv pd sv (0 : Int32) old sz z x21 (9 : Int32) hRS hI) 0 7 rfl rfl (fun _ => xwW_f) (by decide) (by decide) rfl hl.1 rfl (Nat.le_of_ble_eq_true rfl) dL_refusesAny_580 ⟨Nat.zero_le _, Nat.zero_le _⟩ (fun r580 u580 H locs hw hP hD hS => ?_)
                                        have p580 : meetA z x21 (9 : Int32) r580 := hw
                                        have hP : va_P D vwCl (xwW cI cZ cS x0 xs xv ho0 ho1 pd0 pd1 m0 ts0 ts1 a ha sa cn cs sc tq_568 tv pd sv (0 : Int32) old sz z) H := hP
                                        have hD : va_D A (xwW cI cZ cS x0 xs xv ho0 ho1 pd0 pd1 m0 ts0 ts1 a ha sa cn cs sc tq_568 tv pd sv (0 : Int32) old sz z) := hD
                                        refine xk_top (z := (-1)) (by exact mt_no (fun c8 => by have := c8.1; have := c8.2; omega) p580) ?_
                                        refine lv_iconst (v := (-1)) hx hb dL_refusesAny_583 (by decide) ?_
                                        refine lv_icmp_ne (tgt := 631) hx hb dL_refusesAny_584 (by decide) (fun c584 => absurd (by decide) c584) (fun _ => ?_)
                                        refine lv_aload_n hx hb dL_refusesAny_587 rfl (lv_at hl 2 rfl) ?_
                                        refine lv_iload_n hx hb dL_refusesAny_588 rfl (lv_at hl 3 rfl) ?_
                                        refine lv_iconst (v := 2) hx hb dL_refusesAny_589 (by decide) ?_
                                        refine lv_irem hx hb dL_refusesAny_590 (by decide) ?_
                                        refine lv_topi (fun x590 e590 => ?_)
                                        have t590 : x590.toInt = p1.toInt % 2 := by rw [e590]; exact xi_rem rfl (by decide) (by omega) (by omega)
                                        refine lv_if_ne (tgt := 598) hx hb dL_refusesAny_591 (by decide) (fun c591 => ?_) (fun c591 => ?_)
                                        · have t591 : ¬ x590.toInt = 0 := xi_ne rfl (by decide) c591
                                          have d591 : ¬ x590 = 0 := c591
                                          refine lv_iconst (v := 2) hx hb dL_refusesAny_598 (by decide) ?_
                                          refine xo_Vi (As := [.int 2]) (rest := []) hx hb hml hown hts hK hN hZ hP hD hS hA mb_X7_save mw_2_94 mw_2_95 mw_2_96 (k_X7_save l D cI cZ cS x0 xs xv ho0 ho1 pd0 pd1 m0 ts0 ts1 a ha sa cn cs sc tq_568 tv pd sv (0 : Int32) old sz z (2 : Int32) hRS hI) 0 7 rfl rfl (fun _ => xwW_f) (by decide) (by decide) rfl hl.1 rfl (Nat.le_of_ble_eq_true rfl) dL_refusesAny_599 ⟨Nat.zero_le _, Nat.zero_le _⟩ (fun r599 u599 H locs hw hP hD hS => ?_)
                                          obtain ⟨sc1_599, sv1_599⟩ := u599
                                          have p599 : r599 = (if slotV (2 : Int32) then z 174 else -2) ∧ ((slotV (2 : Int32) ∧ sc1_599 = recC sc (cZm cn z) 2 ∧ sv1_599 = upd sv 2 1) ∨ (¬ slotV (2 : Int32) ∧ sc1_599 = sc ∧ sv1_599 = sv)) := hw
                                          have hP : va_P D vwCl (xwW cI cZ cS x0 xs xv ho0 ho1 pd0 pd1 m0 ts0 ts1 a ha sa cn cs sc1_599 tq_568 tv pd sv1_599 (0 : Int32) old sz z) H := hP
                                          have hD : va_D A (xwW cI cZ cS x0 xs xv ho0 ho1 pd0 pd1 m0 ts0 ts1 a ha sa cn cs sc1_599 tq_568 tv pd sv1_599 (0 : Int32) old sz z) := hD
                                          have w599 : r599 = -2 ∧ sc1_599 = sc ∧ sv1_599 = sv := by
                                            refine ⟨p599.1.trans (if_neg (by decide)), ?_⟩
                                            rcases p599.2 with ⟨c9, -⟩ | ⟨-, h9⟩
                                            · exact absurd c9 (by decide)
                                            · exact h9
                                          obtain ⟨w599, w599_0, w599_1⟩ := w599
                                          rw [w599_0, w599_1] at hP hD
                                          have hP : va_P D vwCl (xwW cI cZ cS x0 xs xv ho0 ho1 pd0 pd1 m0 ts0 ts1 a ha sa cn cs sc tq_568 tv pd sv (0 : Int32) old sz z) H := hP
                                          have hD : va_D A (xwW cI cZ cS x0 xs xv ho0 ho1 pd0 pd1 m0 ts0 ts1 a ha sa cn cs sc tq_568 tv pd sv (0 : Int32) old sz z) := hD
                                          refine xk_top (z := (-2)) (by exact w599) ?_
                                          refine lv_bipush (v := (-2)) hx hb dL_refusesAny_602 (by decide) ?_
                                          refine lv_icmp_ne (tgt := 631) hx hb dL_refusesAny_604 (by decide) (fun c604 => absurd (by decide) c604) (fun _ => ?_)
                                          refine lv_aload_n hx hb dL_refusesAny_607 rfl (lv_at hl 2 rfl) ?_
                                          refine lv_iload_n hx hb dL_refusesAny_608 rfl (lv_at hl 3 rfl) ?_
                                          refine lv_iconst (v := 2) hx hb dL_refusesAny_609 (by decide) ?_
                                          refine lv_irem hx hb dL_refusesAny_610 (by decide) ?_
                                          refine lv_topi (fun x610 e610 => ?_)
                                          have t610 : x610.toInt = p1.toInt % 2 := by rw [e610]; exact xi_rem rfl (by decide) (by omega) (by omega)
                                          refine lv_if_ne (tgt := 618) hx hb dL_refusesAny_611 (by decide) (fun c611 => ?_) (fun c611 => ?_)
                                          · have t611 : ¬ x610.toInt = 0 := xi_ne rfl (by decide) c611
                                            have d611 : ¬ x610 = 0 := c611
                                            refine lv_iconst (v := 2) hx hb dL_refusesAny_618 (by decide) ?_
                                            refine xo_Vi (As := [.int 2]) (rest := []) hx hb hml hown hts hK hN hZ hP hD hS hA mb_X7_restore mw_2_102 mw_2_103 mw_2_104 (k_X7_restore l D cI cZ cS x0 xs xv ho0 ho1 pd0 pd1 m0 ts0 ts1 a ha sa cn cs sc tq_568 tv pd sv (0 : Int32) old sz z z (2 : Int32) hRS hI hold hszz (fun i hi => (hmsc i hi).1) (fun i hi => (hmsc i hi).2) (fun c9 => absurd c9.1 (by decide))) 0 7 rfl rfl (fun _ => xwW_f) (by decide) (by decide) rfl hl.1 rfl (Nat.le_of_ble_eq_true rfl) dL_refusesAny_619 ⟨Nat.zero_le _, Nat.zero_le _⟩ (fun r619 u619 H locs hw hP hD hS => ?_)
                                            obtain ⟨cq_619, zq_619, old1_619, sz1_619, cs1_619⟩ := u619
                                            have p619 : r619 = (if slotV (2 : Int32) then (if sv 2 = 0 then -5 else z 174) else -2) ∧ ((restC (2 : Int32) sv ∧ cq_619 = sc 2 ∧ zq_619 = z ∧ old1_619 = oldR old sz ∧ sz1_619 = szR sz ∧ cs1_619 = recC cs (cZm cn z) (jR old sz)) ∨ (¬ restC (2 : Int32) sv ∧ Same cn z old sz cs cq_619 zq_619 old1_619 sz1_619 cs1_619)) := hw
                                            have hP : va_P D vwCl (xwW cI cZ cS x0 xs xv ho0 ho1 pd0 pd1 m0 ts0 ts1 a ha sa cq_619 cs1_619 sc tq_568 tv pd sv (0 : Int32) old1_619 sz1_619 zq_619) H := hP
                                            have hD : va_D A (xwW cI cZ cS x0 xs xv ho0 ho1 pd0 pd1 m0 ts0 ts1 a ha sa cq_619 cs1_619 sc tq_568 tv pd sv (0 : Int32) old1_619 sz1_619 zq_619) := hD
                                            have w619 : r619 = -2 ∧ cq_619 = cn ∧ zq_619 = z ∧ old1_619 = old ∧ sz1_619 = sz ∧ cs1_619 = cs := by
                                              refine ⟨p619.1.trans (if_neg (by decide)), ?_⟩
                                              rcases p619.2 with ⟨c9, -⟩ | ⟨-, h9⟩
                                              · exact absurd c9 (fun c8 => absurd c8.1 (by decide))
                                              · exact h9
                                            obtain ⟨w619, w619_0, w619_1, w619_2, w619_3, w619_4⟩ := w619
                                            rw [w619_0, w619_1, w619_2, w619_3, w619_4] at hP hD
                                            have hP : va_P D vwCl (xwW cI cZ cS x0 xs xv ho0 ho1 pd0 pd1 m0 ts0 ts1 a ha sa cn cs sc tq_568 tv pd sv (0 : Int32) old sz z) H := hP
                                            have hD : va_D A (xwW cI cZ cS x0 xs xv ho0 ho1 pd0 pd1 m0 ts0 ts1 a ha sa cn cs sc tq_568 tv pd sv (0 : Int32) old sz z) := hD
                                            refine xk_top (z := (-2)) (by exact w619) ?_
                                            refine lv_bipush (v := (-2)) hx hb dL_refusesAny_622 (by decide) ?_
                                            refine lv_icmp_ne (tgt := 631) hx hb dL_refusesAny_624 (by decide) (fun c624 => absurd (by decide) c624) (fun _ => ?_)
                                            refine lv_iconst (v := 1) hx hb dL_refusesAny_627 (by decide) ?_
                                            refine lv_goto (tgt := 632) hx hb dL_refusesAny_628 (by decide) ?_
                                            refine lv_istore (lv' := [(4, .int 1), (2, .int x21), (0, .ref x0), (1, .int p1), (3, .int b)]) hx hb dL_refusesAny_632 hl (by decide) rfl (fun ls hl => ?_)
                                            refine lv_iload hx hb dL_refusesAny_634 (lv_at hl 0 rfl) ?_
                                            refine lv_if_eq (tgt := 666) hx hb dL_refusesAny_636 (by decide) (fun c636 => absurd c636 (by decide)) (fun _ => ?_)
                                            refine lv_aload_n hx hb dL_refusesAny_639 rfl (lv_at hl 2 rfl) ?_
                                            refine xo_Vi (As := []) (rest := []) hx hb hml hown hts hK hN hZ hP hD hS hA mb_X7_wipe mw_3_37 mw_3_38 mw_3_39 (k_X7_wipe l D cI cZ cS x0 xs xv ho0 ho1 pd0 pd1 m0 ts0 ts1 a ha sa cn cs sc tq_568 tv pd sv (0 : Int32) old sz z hRS hI) 0 7 rfl rfl (fun _ => xwW_f) (by decide) (by decide) rfl hl.1 rfl (Nat.le_of_ble_eq_true rfl) dL_refusesAny_640 ⟨Nat.zero_le _, Nat.zero_le _⟩ (fun r640 u640 H locs hw hP hD hS => ?_)
                                            have p640 : r640 = (0 : Int32) := hw
                                            have hP : va_P D vwCl (xwW cI cZ cS x0 xs xv ho0 ho1 pd0 pd1 m0 ts0 ts1 a ha sa cn cs sc tq_568 tv pd sv (0 : Int32) old sz z) H := hP
                                            have hD : va_D A (xwW cI cZ cS x0 xs xv ho0 ho1 pd0 pd1 m0 ts0 ts1 a ha sa cn cs sc tq_568 tv pd sv (0 : Int32) old sz z) := hD
                                            refine xk_top (z := 0) (by exact p640) ?_
                                            refine lv_if_ne (tgt := 666) hx hb dL_refusesAny_643 (by decide) (fun c643 => absurd (by decide) c643) (fun _ => ?_)
                                            refine lv_aload_n hx hb dL_refusesAny_646 rfl (lv_at hl 2 rfl) ?_
                                            refine xo_Vi (As := []) (rest := []) hx hb hml hown hts hK hN hZ hP hD hS hA mb_X7_read mw_3_45 mw_3_46 mw_3_47 (k_X7_read l D cI cZ cS x0 xs xv ho0 ho1 pd0 pd1 m0 ts0 ts1 a ha sa cn cs sc tq_568 tv pd sv (0 : Int32) old sz z hRS hI hold hszz hlnn) 0 7 rfl rfl (fun _ => xwW_f) (by decide) (by decide) rfl hl.1 rfl (Nat.le_of_ble_eq_true rfl) dL_refusesAny_647 ⟨Nat.zero_le _, Nat.zero_le _⟩ (fun r647 u647 H locs hw hP hD hS => ?_)
                                            obtain ⟨cq_647, zq_647, old1_647, sz1_647, cs1_647, ln1_647⟩ := u647
                                            have p647 : (FN pd 0 ∧ r647 = cq_647 7 0 ∧ ln1_647 = 0 ∧ zq_647 = beginZ z ∧ WrI pd 0 (cq_647 7 0) (cq_647 1) (cq_647 2) (cq_647 3) ∧ cq_647 0 = cn 0 ∧ cq_647 4 = cn 4 ∧ cq_647 5 = cn 5 ∧ cq_647 6 = cn 6 ∧ cq_647 7 1 = cn 7 1 ∧ old1_647 = oldR old sz ∧ sz1_647 = szR sz ∧ cs1_647 = recC cs (cZm cn z) (jR old sz)) ∨ (¬ FN pd 0 ∧ r647 = -3 ∧ ln1_647 = (0 : Int32) ∧ Same cn z old sz cs cq_647 zq_647 old1_647 sz1_647 cs1_647) := hw
                                            have hP : va_P D vwCl (xwW cI cZ cS x0 xs xv ho0 ho1 pd0 pd1 m0 ts0 ts1 a ha sa cq_647 cs1_647 sc tq_568 tv pd sv ln1_647 old1_647 sz1_647 zq_647) H := hP
                                            have hD : va_D A (xwW cI cZ cS x0 xs xv ho0 ho1 pd0 pd1 m0 ts0 ts1 a ha sa cq_647 cs1_647 sc tq_568 tv pd sv ln1_647 old1_647 sz1_647 zq_647) := hD
                                            have w647 : r647 = -3 ∧ ln1_647 = (0 : Int32) ∧ cq_647 = cn ∧ zq_647 = z ∧ old1_647 = old ∧ sz1_647 = sz ∧ cs1_647 = cs := by
                                              rcases p647 with ⟨c9, -⟩ | ⟨-, h9⟩
                                              · exact absurd c9 (FN_0 pd)
                                              · exact h9
                                            obtain ⟨w647, w647_0, w647_1, w647_2, w647_3, w647_4, w647_5⟩ := w647
                                            rw [w647_0, w647_1, w647_2, w647_3, w647_4, w647_5] at hP hD
                                            have hP : va_P D vwCl (xwW cI cZ cS x0 xs xv ho0 ho1 pd0 pd1 m0 ts0 ts1 a ha sa cn cs sc tq_568 tv pd sv (0 : Int32) old sz z) H := hP
                                            have hD : va_D A (xwW cI cZ cS x0 xs xv ho0 ho1 pd0 pd1 m0 ts0 ts1 a ha sa cn cs sc tq_568 tv pd sv (0 : Int32) old sz z) := hD
                                            refine xk_top (z := (-3)) (by exact w647) ?_
                                            refine lv_bipush (v := (-3)) hx hb dL_refusesAny_650 (by decide) ?_
                                            refine lv_icmp_ne (tgt := 666) hx hb dL_refusesAny_652 (by decide) (fun c652 => absurd (by decide) c652) (fun _ => ?_)
                                            refine lv_aload_n hx hb dL_refusesAny_655 rfl (lv_at hl 2 rfl) ?_
                                            refine xo_Vi (As := []) (rest := []) hx hb hml hown hts hK hN hZ hP hD hS hA mb_X7_fault mw_3_77 mw_3_78 mw_3_79 (k_X7_fault l D cI cZ cS x0 xs xv ho0 ho1 pd0 pd1 m0 ts0 ts1 a ha sa cn cs sc tq_568 tv pd sv (0 : Int32) old sz z hRS hI hlnn) 0 7 rfl rfl (fun _ => xwW_f) (by decide) (by decide) rfl hl.1 rfl (Nat.le_of_ble_eq_true rfl) dL_refusesAny_656 ⟨Nat.zero_le _, Nat.zero_le _⟩ (fun r656 u656 H locs hw hP hD hS => ?_)
                                            have p656 : (FN pd 0 ∧ r656 = -6) ∨ (FA pd 0 r656.toInt.toNat ∧ 0 ≤ r656.toInt ∧ r656.toInt ≤ 0) := hw
                                            have hP : va_P D vwCl (xwW cI cZ cS x0 xs xv ho0 ho1 pd0 pd1 m0 ts0 ts1 a ha sa cn cs sc tq_568 tv pd sv (0 : Int32) old sz z) H := hP
                                            have hD : va_D A (xwW cI cZ cS x0 xs xv ho0 ho1 pd0 pd1 m0 ts0 ts1 a ha sa cn cs sc tq_568 tv pd sv (0 : Int32) old sz z) := hD
                                            refine xk_top (z := 0) (by exact p656.elim (fun h9 => absurd h9.1 (FN_0 pd)) (fun h9 => xi_ext (by have := h9.2; omega))) ?_
                                            refine lv_if_ne (tgt := 666) hx hb dL_refusesAny_659 (by decide) (fun c659 => absurd (by decide) c659) (fun _ => ?_)
                                            refine lv_iconst (v := 1) hx hb dL_refusesAny_662 (by decide) ?_
                                            refine lv_goto (tgt := 667) hx hb dL_refusesAny_663 (by decide) ?_
                                            exact xk_retz tq_568 hx hb hr hlocks (by decide) (xk_P hP (by rfl)) (by rfl) hS dL_refusesAny_667 hQ
                                          · have t611 : x610.toInt = 0 := xi_eq rfl (by decide) c611
                                            have d611 : x610 = 0 := c611
                                            omega
                                        · have t591 : x590.toInt = 0 := xi_eq rfl (by decide) c591
                                          have d591 : x590 = 0 := c591
                                          omega
                                      · have t560 : x559.toInt = 0 := xi_eq rfl (by decide) c560
                                        have d560 : x559 = 0 := c560
                                        omega
                                    · have t539 : x538.toInt = 0 := xi_eq rfl (by decide) c539
                                      have d539 : x538 = 0 := c539
                                      omega
                                  · have t518 : x517.toInt = 0 := xi_eq rfl (by decide) c518
                                    have d518 : x517 = 0 := c518
                                    omega
                                refine lv_aload_n hx hb dL_refusesAny_463 rfl (lv_at hl 2 rfl) ?_
                                refine lv_bipush (v := 9) hx hb dL_refusesAny_464 (by decide) ?_
                                refine xo_Vi (As := [.int 9]) (rest := []) hx hb hml hown hts hK hN hZ hP hD hS hA mb_X7_count mw_2_6 mw_2_7 mw_2_8 (k_X7_count l D cI cZ cS x0 xs xv ho0 ho1 pd0 pd1 m0 ts0 ts1 a ha sa cn cs sc tm tv pd sv (0 : Int32) old sz z (9 : Int32) hRS hI) 0 7 rfl rfl (fun _ => xwW_f) (by decide) (by decide) rfl hl.1 rfl (Nat.le_of_ble_eq_true rfl) dL_refusesAny_466 ⟨Nat.zero_le _, Nat.zero_le _⟩ (fun r466 u466 H locs hw hP hD hS => ?_)
                                have p466 : r466 = cntR z (0 : Int32) sz (9 : Int32) := hw
                                have hP : va_P D vwCl (xwW cI cZ cS x0 xs xv ho0 ho1 pd0 pd1 m0 ts0 ts1 a ha sa cn cs sc tm tv pd sv (0 : Int32) old sz z) H := hP
                                have hD : va_D A (xwW cI cZ cS x0 xs xv ho0 ho1 pd0 pd1 m0 ts0 ts1 a ha sa cn cs sc tm tv pd sv (0 : Int32) old sz z) := hD
                                refine xk_top (z := (z 7)) (by exact p466.trans (ct_9 _ _ _)) ?_
                                refine lv_if_eq (tgt := 514) hx hb dL_refusesAny_469 (by decide) (fun c469 => ?_) (fun c469 => ?_)
                                · have t469 : (z 7).toInt = 0 := xi_eq rfl (by decide) c469
                                  have d469 : (z 7) = 0 := c469
                                  exact J514   _ _ hP hD hS ls (lv_sub hl [0, 1, 2, 3, 4] rfl)
                                · have t469 : ¬ (z 7).toInt = 0 := xi_ne rfl (by decide) c469
                                  have d469 : ¬ (z 7) = 0 := c469
                                  have h70 : 0 < (z 7).toInt := by omega
                                  refine lv_aload_n hx hb dL_refusesAny_472 rfl (lv_at hl 2 rfl) ?_
                                  refine lv_iconst (v := 0) hx hb dL_refusesAny_473 (by decide) ?_
                                  refine lv_iload_n hx hb dL_refusesAny_474 rfl (lv_at hl 3 rfl) ?_
                                  refine lv_iconst (v := 2) hx hb dL_refusesAny_475 (by decide) ?_
                                  refine lv_irem hx hb dL_refusesAny_476 (by decide) ?_
                                  refine lv_topi (fun x476 e476 => ?_)
                                  have t476 : x476.toInt = p1.toInt % 2 := by rw [e476]; exact xi_rem rfl (by decide) (by omega) (by omega)
                                  refine lv_if_ne (tgt := 484) hx hb dL_refusesAny_477 (by decide) (fun c477 => ?_) (fun c477 => ?_)
                                  · have t477 : ¬ x476.toInt = 0 := xi_ne rfl (by decide) c477
                                    have d477 : ¬ x476 = 0 := c477
                                    refine lv_iconst (v := 4) hx hb dL_refusesAny_484 (by decide) ?_
                                    refine xo_Vi (As := [.int 0, .int 4]) (rest := []) hx hb hml hown hts hK hN hZ hP hD hS hA mb_X7_stretch mw_2_121 mw_2_122 mw_2_123 (k_X7_stretch l D cI cZ cS x0 xs xv ho0 ho1 pd0 pd1 m0 ts0 ts1 a ha sa cn cs sc tm tv pd sv (0 : Int32) old sz z (0 : Int32) (4 : Int32) hRS hI) 0 7 rfl rfl (fun _ => xwW_f) (by decide) (by decide) rfl hl.1 rfl (Nat.le_of_ble_eq_true rfl) dL_refusesAny_485 ⟨Nat.zero_le _, Nat.zero_le _⟩ (fun r485 u485 H locs hw hP hD hS => ?_)
                                    have p485 : strA z (0 : Int32) (4 : Int32) r485 := hw
                                    have hP : va_P D vwCl (xwW cI cZ cS x0 xs xv ho0 ho1 pd0 pd1 m0 ts0 ts1 a ha sa cn cs sc tm tv pd sv (0 : Int32) old sz z) H := hP
                                    have hD : va_D A (xwW cI cZ cS x0 xs xv ho0 ho1 pd0 pd1 m0 ts0 ts1 a ha sa cn cs sc tm tv pd sv (0 : Int32) old sz z) := hD
                                    refine xk_top (z := (-2)) (by exact st_bad (str0 h70) (by decide) p485) ?_
                                    refine lv_bipush (v := (-2)) hx hb dL_refusesAny_488 (by decide) ?_
                                    refine lv_icmp_ne (tgt := 631) hx hb dL_refusesAny_490 (by decide) (fun c490 => absurd (by decide) c490) (fun _ => ?_)
                                    refine lv_aload_n hx hb dL_refusesAny_493 rfl (lv_at hl 2 rfl) ?_
                                    refine lv_iconst (v := 0) hx hb dL_refusesAny_494 (by decide) ?_
                                    refine lv_iload_n hx hb dL_refusesAny_495 rfl (lv_at hl 3 rfl) ?_
                                    refine lv_iconst (v := 2) hx hb dL_refusesAny_496 (by decide) ?_
                                    refine lv_irem hx hb dL_refusesAny_497 (by decide) ?_
                                    refine lv_topi (fun x497 e497 => ?_)
                                    have t497 : x497.toInt = p1.toInt % 2 := by rw [e497]; exact xi_rem rfl (by decide) (by omega) (by omega)
                                    refine lv_if_ne (tgt := 505) hx hb dL_refusesAny_498 (by decide) (fun c498 => ?_) (fun c498 => ?_)
                                    · have t498 : ¬ x497.toInt = 0 := xi_ne rfl (by decide) c498
                                      have d498 : ¬ x497 = 0 := c498
                                      refine lv_iconst (v := 2) hx hb dL_refusesAny_505 (by decide) ?_
                                      refine xo_Vi (As := [.int 0, .int 2]) (rest := []) hx hb hml hown hts hK hN hZ hP hD hS hA mb_X7_meets mw_2_161 mw_2_162 mw_2_163 (k_X7_meets l D cI cZ cS x0 xs xv ho0 ho1 pd0 pd1 m0 ts0 ts1 a ha sa cn cs sc tm tv pd sv (0 : Int32) old sz z (0 : Int32) (2 : Int32) hRS hI) 0 7 rfl rfl (fun _ => xwW_f) (by decide) (by decide) rfl hl.1 rfl (Nat.le_of_ble_eq_true rfl) dL_refusesAny_506 ⟨Nat.zero_le _, Nat.zero_le _⟩ (fun r506 u506 H locs hw hP hD hS => ?_)
                                      have p506 : meetA z (0 : Int32) (2 : Int32) r506 := hw
                                      have hP : va_P D vwCl (xwW cI cZ cS x0 xs xv ho0 ho1 pd0 pd1 m0 ts0 ts1 a ha sa cn cs sc tm tv pd sv (0 : Int32) old sz z) H := hP
                                      have hD : va_D A (xwW cI cZ cS x0 xs xv ho0 ho1 pd0 pd1 m0 ts0 ts1 a ha sa cn cs sc tm tv pd sv (0 : Int32) old sz z) := hD
                                      refine xk_top (z := (-2)) (by exact mt_bad (str0 h70) (by decide) p506) ?_
                                      refine lv_bipush (v := (-2)) hx hb dL_refusesAny_509 (by decide) ?_
                                      refine lv_icmp_ne (tgt := 631) hx hb dL_refusesAny_511 (by decide) (fun c511 => absurd (by decide) c511) (fun _ => ?_)
                                      exact J514   _ _ hP hD hS ls (lv_sub hl [0, 1, 2, 3, 4] rfl)
                                    · have t498 : x497.toInt = 0 := xi_eq rfl (by decide) c498
                                      have d498 : x497 = 0 := c498
                                      omega
                                  · have t477 : x476.toInt = 0 := xi_eq rfl (by decide) c477
                                    have d477 : x476 = 0 := c477
                                    omega
                              refine lv_aload_n hx hb dL_refusesAny_376 rfl (lv_at hl 2 rfl) ?_
                              refine lv_bipush (v := 6) hx hb dL_refusesAny_377 (by decide) ?_
                              refine xo_Vi (As := [.int 6]) (rest := []) hx hb hml hown hts hK hN hZ hP hD hS hA mb_X7_count mw_2_6 mw_2_7 mw_2_8 (k_X7_count l D cI cZ cS x0 xs xv ho0 ho1 pd0 pd1 m0 ts0 ts1 a ha sa cn cs sc tm tv pd sv (0 : Int32) old sz z (6 : Int32) hRS hI) 0 7 rfl rfl (fun _ => xwW_f) (by decide) (by decide) rfl hl.1 rfl (Nat.le_of_ble_eq_true rfl) dL_refusesAny_379 ⟨Nat.zero_le _, Nat.zero_le _⟩ (fun r379 u379 H locs hw hP hD hS => ?_)
                              have p379 : r379 = cntR z (0 : Int32) sz (6 : Int32) := hw
                              have hP : va_P D vwCl (xwW cI cZ cS x0 xs xv ho0 ho1 pd0 pd1 m0 ts0 ts1 a ha sa cn cs sc tm tv pd sv (0 : Int32) old sz z) H := hP
                              have hD : va_D A (xwW cI cZ cS x0 xs xv ho0 ho1 pd0 pd1 m0 ts0 ts1 a ha sa cn cs sc tm tv pd sv (0 : Int32) old sz z) := hD
                              refine xk_top (z := (z 6)) (by exact p379.trans (ct_6 _ _ _)) ?_
                              refine lv_if_eq (tgt := 440) hx hb dL_refusesAny_382 (by decide) (fun c382 => ?_) (fun c382 => ?_)
                              · have t382 : (z 6).toInt = 0 := xi_eq rfl (by decide) c382
                                have d382 : (z 6) = 0 := c382
                                exact J440   _ _ hP hD hS ls (lv_sub hl [0, 1, 2, 3, 4] rfl)
                              · have t382 : ¬ (z 6).toInt = 0 := xi_ne rfl (by decide) c382
                                have d382 : ¬ (z 6) = 0 := c382
                                have h60 : 0 < (z 6).toInt := by omega
                                refine lv_aload_n hx hb dL_refusesAny_385 rfl (lv_at hl 2 rfl) ?_
                                refine lv_iconst (v := 0) hx hb dL_refusesAny_386 (by decide) ?_
                                refine lv_iload_n hx hb dL_refusesAny_387 rfl (lv_at hl 3 rfl) ?_
                                refine lv_iconst (v := 2) hx hb dL_refusesAny_388 (by decide) ?_
                                refine lv_irem hx hb dL_refusesAny_389 (by decide) ?_
                                refine lv_topi (fun x389 e389 => ?_)
                                have t389 : x389.toInt = p1.toInt % 2 := by rw [e389]; exact xi_rem rfl (by decide) (by omega) (by omega)
                                refine lv_if_ne (tgt := 397) hx hb dL_refusesAny_390 (by decide) (fun c390 => ?_) (fun c390 => ?_)
                                · have t390 : ¬ x389.toInt = 0 := xi_ne rfl (by decide) c390
                                  have d390 : ¬ x389 = 0 := c390
                                  refine lv_iconst (v := 4) hx hb dL_refusesAny_397 (by decide) ?_
                                  refine xo_Vi (As := [.int 0, .int 4]) (rest := []) hx hb hml hown hts hK hN hZ hP hD hS hA mb_X7_line mw_2_150 mw_2_151 mw_2_152 (k_X7_line l D cI cZ cS x0 xs xv ho0 ho1 pd0 pd1 m0 ts0 ts1 a ha sa cn cs sc tm tv pd sv (0 : Int32) old sz z (0 : Int32) (4 : Int32) hRS hI) 0 7 rfl rfl (fun _ => xwW_f) (by decide) (by decide) rfl hl.1 rfl (Nat.le_of_ble_eq_true rfl) dL_refusesAny_398 ⟨Nat.zero_le _, Nat.zero_le _⟩ (fun r398 u398 H locs hw hP hD hS => ?_)
                                  have p398 : r398 = lineR z (0 : Int32) (4 : Int32) := hw
                                  have hP : va_P D vwCl (xwW cI cZ cS x0 xs xv ho0 ho1 pd0 pd1 m0 ts0 ts1 a ha sa cn cs sc tm tv pd sv (0 : Int32) old sz z) H := hP
                                  have hD : va_D A (xwW cI cZ cS x0 xs xv ho0 ho1 pd0 pd1 m0 ts0 ts1 a ha sa cn cs sc tm tv pd sv (0 : Int32) old sz z) := hD
                                  refine xk_top (z := (-2)) (by exact p398.trans (ln_bad (line0 h60) (by decide))) ?_
                                  refine lv_bipush (v := (-2)) hx hb dL_refusesAny_401 (by decide) ?_
                                  refine lv_icmp_ne (tgt := 631) hx hb dL_refusesAny_403 (by decide) (fun c403 => absurd (by decide) c403) (fun _ => ?_)
                                  refine lv_aload_n hx hb dL_refusesAny_406 rfl (lv_at hl 2 rfl) ?_
                                  refine lv_iconst (v := 0) hx hb dL_refusesAny_407 (by decide) ?_
                                  refine lv_iconst (v := 0) hx hb dL_refusesAny_408 (by decide) ?_
                                  refine lv_iload_n hx hb dL_refusesAny_409 rfl (lv_at hl 3 rfl) ?_
                                  refine lv_iconst (v := 2) hx hb dL_refusesAny_410 (by decide) ?_
                                  refine lv_irem hx hb dL_refusesAny_411 (by decide) ?_
                                  refine lv_topi (fun x411 e411 => ?_)
                                  have t411 : x411.toInt = p1.toInt % 2 := by rw [e411]; exact xi_rem rfl (by decide) (by omega) (by omega)
                                  refine lv_if_ne (tgt := 419) hx hb dL_refusesAny_412 (by decide) (fun c412 => ?_) (fun c412 => ?_)
                                  · have t412 : ¬ x411.toInt = 0 := xi_ne rfl (by decide) c412
                                    have d412 : ¬ x411 = 0 := c412
                                    refine lv_iconst (v := 2) hx hb dL_refusesAny_419 (by decide) ?_
                                    refine xo_Vi (As := [.int 0, .int 0, .int 2]) (rest := []) hx hb hml hown hts hK hN hZ hP hD hS hA mb_X7_foot mw_2_140 mw_2_141 mw_2_142 (k_X7_foot l D cI cZ cS x0 xs xv ho0 ho1 pd0 pd1 m0 ts0 ts1 a ha sa cn cs sc tm tv pd sv (0 : Int32) old sz z (0 : Int32) (0 : Int32) (2 : Int32) hRS hI) 0 7 rfl rfl (fun _ => xwW_f) (by decide) (by decide) rfl hl.1 rfl (Nat.le_of_ble_eq_true rfl) dL_refusesAny_420 ⟨Nat.zero_le _, Nat.zero_le _⟩ (fun r420 u420 H locs hw hP hD hS => ?_)
                                    have p420 : r420 = footR z (0 : Int32) (0 : Int32) (2 : Int32) := hw
                                    have hP : va_P D vwCl (xwW cI cZ cS x0 xs xv ho0 ho1 pd0 pd1 m0 ts0 ts1 a ha sa cn cs sc tm tv pd sv (0 : Int32) old sz z) H := hP
                                    have hD : va_D A (xwW cI cZ cS x0 xs xv ho0 ho1 pd0 pd1 m0 ts0 ts1 a ha sa cn cs sc tm tv pd sv (0 : Int32) old sz z) := hD
                                    refine xk_top (z := (-2)) (by exact p420.trans (ft_bad (foot00 hI.2.1 h60) (by decide))) ?_
                                    refine lv_bipush (v := (-2)) hx hb dL_refusesAny_423 (by decide) ?_
                                    refine lv_icmp_ne (tgt := 631) hx hb dL_refusesAny_425 (by decide) (fun c425 => absurd (by decide) c425) (fun _ => ?_)
                                    refine lv_aload_n hx hb dL_refusesAny_428 rfl (lv_at hl 2 rfl) ?_
                                    refine lv_iconst (v := 0) hx hb dL_refusesAny_429 (by decide) ?_
                                    refine lv_iload_n hx hb dL_refusesAny_430 rfl (lv_at hl 1 rfl) ?_
                                    refine lv_bipush (v := 9) hx hb dL_refusesAny_431 (by decide) ?_
                                    refine xo_Vi (As := [.int 0, .int x21, .int 9]) (rest := []) hx hb hml hown hts hK hN hZ hP hD hS hA mb_X7_foot mw_2_140 mw_2_141 mw_2_142 (k_X7_foot l D cI cZ cS x0 xs xv ho0 ho1 pd0 pd1 m0 ts0 ts1 a ha sa cn cs sc tm tv pd sv (0 : Int32) old sz z (0 : Int32) x21 (9 : Int32) hRS hI) 0 7 rfl rfl (fun _ => xwW_f) (by decide) (by decide) rfl hl.1 rfl (Nat.le_of_ble_eq_true rfl) dL_refusesAny_433 ⟨Nat.zero_le _, Nat.zero_le _⟩ (fun r433 u433 H locs hw hP hD hS => ?_)
                                    have p433 : r433 = footR z (0 : Int32) x21 (9 : Int32) := hw
                                    have hP : va_P D vwCl (xwW cI cZ cS x0 xs xv ho0 ho1 pd0 pd1 m0 ts0 ts1 a ha sa cn cs sc tm tv pd sv (0 : Int32) old sz z) H := hP
                                    have hD : va_D A (xwW cI cZ cS x0 xs xv ho0 ho1 pd0 pd1 m0 ts0 ts1 a ha sa cn cs sc tm tv pd sv (0 : Int32) old sz z) := hD
                                    refine xk_top (z := (-1)) (by exact p433.trans (ft_no (foot0no hI.2.1 (by omega)))) ?_
                                    refine lv_iconst (v := (-1)) hx hb dL_refusesAny_436 (by decide) ?_
                                    refine lv_icmp_ne (tgt := 631) hx hb dL_refusesAny_437 (by decide) (fun c437 => absurd (by decide) c437) (fun _ => ?_)
                                    exact J440   _ _ hP hD hS ls (lv_sub hl [0, 1, 2, 3, 4] rfl)
                                  · have t412 : x411.toInt = 0 := xi_eq rfl (by decide) c412
                                    have d412 : x411 = 0 := c412
                                    omega
                                · have t390 : x389.toInt = 0 := xi_eq rfl (by decide) c390
                                  have d390 : x389 = 0 := c390
                                  omega
                            refine lv_iload_n hx hb dL_refusesAny_315 rfl (lv_at hl 3 rfl) ?_
                            refine lv_if_eq (tgt := 328) hx hb dL_refusesAny_316 (by decide) (fun c316 => ?_) (fun c316 => ?_)
                            · have t316 : b.toInt = 0 := xi_eq rfl (by decide) c316
                              have d316 : b = 0 := c316
                              have hnm : ¬ (canZ z ∧ ¬ z 188 = 1) := fun c9 => hb47.elim (fun g => by have := g.1; omega) (fun g => g.2 c9.1)
                              refine lv_aload_n hx hb dL_refusesAny_328 rfl (lv_at hl 1 rfl) ?_
                              refine lv_iconst (v := 5) hx hb dL_refusesAny_329 (by decide) ?_
                              refine xo_Vi (As := [.int 5]) (rest := []) hx hb hml hown hts hK hN hZ hP hD hS hA mb_X7_march mw_3_33 mw_3_34 mw_3_35 (k_X7_march l D cI cZ cS x0 xs xv ho0 ho1 pd0 pd1 m0 ts0 ts1 a ha sa cn cs sc tm tv pd sv (0 : Int32) old sz z (5 : Int32) hRS hI hold hszz ⟨hb74, by omega⟩) 0 7 rfl rfl (fun _ => xwW_f) (by decide) (by decide) rfl hl.1 rfl (Nat.le_of_ble_eq_true rfl) dL_refusesAny_330 ⟨Nat.zero_le _, Nat.zero_le _⟩ (fun r330 u330 H locs hw hP hD hS => ?_)
                              obtain ⟨cq_330, zq_330, old1_330, sz1_330, cs1_330⟩ := u330
                              have p330 : marchA z (5 : Int32) r330 ∧ ((marchC z (5 : Int32) ∧ Chg cn z old sz cs (walkZ 5 z) cq_330 zq_330 old1_330 sz1_330 cs1_330) ∨ (¬ marchC z (5 : Int32) ∧ Same cn z old sz cs cq_330 zq_330 old1_330 sz1_330 cs1_330)) := hw
                              have hP : va_P D vwCl (xwW cI cZ cS x0 xs xv ho0 ho1 pd0 pd1 m0 ts0 ts1 a ha sa cq_330 cs1_330 sc tm tv pd sv (0 : Int32) old1_330 sz1_330 zq_330) H := hP
                              have hD : va_D A (xwW cI cZ cS x0 xs xv ho0 ho1 pd0 pd1 m0 ts0 ts1 a ha sa cq_330 cs1_330 sc tm tv pd sv (0 : Int32) old1_330 sz1_330 zq_330) := hD
                              have w330 : r330 = -5 ∧ cq_330 = cn ∧ zq_330 = z ∧ old1_330 = old ∧ sz1_330 = sz ∧ cs1_330 = cs := by
                                refine ⟨mc_not (by decide) hnm p330.1, ?_⟩
                                rcases p330.2 with ⟨c9, -⟩ | ⟨-, h9⟩
                                · exact absurd c9 (fun c8 => hnm c8.2)
                                · exact h9
                              obtain ⟨w330, w330_0, w330_1, w330_2, w330_3, w330_4⟩ := w330
                              rw [w330_0, w330_1, w330_2, w330_3, w330_4] at hP hD
                              have hP : va_P D vwCl (xwW cI cZ cS x0 xs xv ho0 ho1 pd0 pd1 m0 ts0 ts1 a ha sa cn cs sc tm tv pd sv (0 : Int32) old sz z) H := hP
                              have hD : va_D A (xwW cI cZ cS x0 xs xv ho0 ho1 pd0 pd1 m0 ts0 ts1 a ha sa cn cs sc tm tv pd sv (0 : Int32) old sz z) := hD
                              refine xk_top (z := (-5)) (by exact w330) ?_
                              refine lv_bipush (v := (-5)) hx hb dL_refusesAny_333 (by decide) ?_
                              refine lv_icmp_ne (tgt := 342) hx hb dL_refusesAny_335 (by decide) (fun c335 => absurd (by decide) c335) (fun _ => ?_)
                              exact J338   _ _ hP hD hS ls (lv_sub hl [0, 1, 2, 3] rfl)
                            · have t316 : ¬ b.toInt = 0 := xi_ne rfl (by decide) c316
                              have d316 : ¬ b = 0 := c316
                              refine lv_aload_n hx hb dL_refusesAny_319 rfl (lv_at hl 1 rfl) ?_
                              refine lv_bipush (v := 14) hx hb dL_refusesAny_320 (by decide) ?_
                              refine xo_Vi (As := [.int 14]) (rest := []) hx hb hml hown hts hK hN hZ hP hD hS hA mb_X7_walk mw_1_238 mw_1_239 mw_2_0 (k_X7_walk l D cI cZ cS x0 xs xv ho0 ho1 pd0 pd1 m0 ts0 ts1 a ha sa cn cs sc tm tv pd sv (0 : Int32) old sz z (14 : Int32) hRS hI) 0 7 rfl rfl (fun _ => xwW_f) (by decide) (by decide) rfl hl.1 rfl (Nat.le_of_ble_eq_true rfl) dL_refusesAny_322 ⟨Nat.zero_le _, Nat.zero_le _⟩ (fun r322 u322 H locs hw hP hD hS => ?_)
                              have p322 : r322 = walkR z (14 : Int32) := hw
                              have hP : va_P D vwCl (xwW cI cZ cS x0 xs xv ho0 ho1 pd0 pd1 m0 ts0 ts1 a ha sa cn cs sc tm tv pd sv (0 : Int32) old sz z) H := hP
                              have hD : va_D A (xwW cI cZ cS x0 xs xv ho0 ho1 pd0 pd1 m0 ts0 ts1 a ha sa cn cs sc tm tv pd sv (0 : Int32) old sz z) := hD
                              refine xk_top (z := (z 188)) (by exact p322.trans (wk_14 _)) ?_
                              refine lv_if_eq (tgt := 338) hx hb dL_refusesAny_325 (by decide) (fun c325 => ?_) (fun c325 => ?_)
                              · have t325 : (z 188).toInt = 0 := xi_eq rfl (by decide) c325
                                have d325 : (z 188) = 0 := c325
                                exact J338   _ _ hP hD hS ls (lv_sub hl [0, 1, 2, 3] rfl)
                              · have t325 : ¬ (z 188).toInt = 0 := xi_ne rfl (by decide) c325
                                have d325 : ¬ (z 188) = 0 := c325
                                have hnm : ¬ (canZ z ∧ ¬ z 188 = 1) := fun c9 => (walked01 hI).elim (fun h8 => d325 h8) (fun h8 => c9.2 h8)
                                refine lv_aload_n hx hb dL_refusesAny_328 rfl (lv_at hl 1 rfl) ?_
                                refine lv_iconst (v := 5) hx hb dL_refusesAny_329 (by decide) ?_
                                refine xo_Vi (As := [.int 5]) (rest := []) hx hb hml hown hts hK hN hZ hP hD hS hA mb_X7_march mw_3_33 mw_3_34 mw_3_35 (k_X7_march l D cI cZ cS x0 xs xv ho0 ho1 pd0 pd1 m0 ts0 ts1 a ha sa cn cs sc tm tv pd sv (0 : Int32) old sz z (5 : Int32) hRS hI hold hszz ⟨hb74, by omega⟩) 0 7 rfl rfl (fun _ => xwW_f) (by decide) (by decide) rfl hl.1 rfl (Nat.le_of_ble_eq_true rfl) dL_refusesAny_330 ⟨Nat.zero_le _, Nat.zero_le _⟩ (fun r330 u330 H locs hw hP hD hS => ?_)
                                obtain ⟨cq_330, zq_330, old1_330, sz1_330, cs1_330⟩ := u330
                                have p330 : marchA z (5 : Int32) r330 ∧ ((marchC z (5 : Int32) ∧ Chg cn z old sz cs (walkZ 5 z) cq_330 zq_330 old1_330 sz1_330 cs1_330) ∨ (¬ marchC z (5 : Int32) ∧ Same cn z old sz cs cq_330 zq_330 old1_330 sz1_330 cs1_330)) := hw
                                have hP : va_P D vwCl (xwW cI cZ cS x0 xs xv ho0 ho1 pd0 pd1 m0 ts0 ts1 a ha sa cq_330 cs1_330 sc tm tv pd sv (0 : Int32) old1_330 sz1_330 zq_330) H := hP
                                have hD : va_D A (xwW cI cZ cS x0 xs xv ho0 ho1 pd0 pd1 m0 ts0 ts1 a ha sa cq_330 cs1_330 sc tm tv pd sv (0 : Int32) old1_330 sz1_330 zq_330) := hD
                                have w330 : r330 = -5 ∧ cq_330 = cn ∧ zq_330 = z ∧ old1_330 = old ∧ sz1_330 = sz ∧ cs1_330 = cs := by
                                  refine ⟨mc_not (by decide) hnm p330.1, ?_⟩
                                  rcases p330.2 with ⟨c9, -⟩ | ⟨-, h9⟩
                                  · exact absurd c9 (fun c8 => hnm c8.2)
                                  · exact h9
                                obtain ⟨w330, w330_0, w330_1, w330_2, w330_3, w330_4⟩ := w330
                                rw [w330_0, w330_1, w330_2, w330_3, w330_4] at hP hD
                                have hP : va_P D vwCl (xwW cI cZ cS x0 xs xv ho0 ho1 pd0 pd1 m0 ts0 ts1 a ha sa cn cs sc tm tv pd sv (0 : Int32) old sz z) H := hP
                                have hD : va_D A (xwW cI cZ cS x0 xs xv ho0 ho1 pd0 pd1 m0 ts0 ts1 a ha sa cn cs sc tm tv pd sv (0 : Int32) old sz z) := hD
                                refine xk_top (z := (-5)) (by exact w330) ?_
                                refine lv_bipush (v := (-5)) hx hb dL_refusesAny_333 (by decide) ?_
                                refine lv_icmp_ne (tgt := 342) hx hb dL_refusesAny_335 (by decide) (fun c335 => absurd (by decide) c335) (fun _ => ?_)
                                exact J338   _ _ hP hD hS ls (lv_sub hl [0, 1, 2, 3] rfl)
                          · have t297 : x296.toInt = 0 := xi_eq rfl (by decide) c297
                            have d297 : x296 = 0 := c297
                            omega
                        refine lv_aload_n hx hb dL_refusesAny_247 rfl (lv_at hl 1 rfl) ?_
                        refine lv_bipush (v := 9) hx hb dL_refusesAny_248 (by decide) ?_
                        refine xo_Vi (As := [.int 9]) (rest := []) hx hb hml hown hts hK hN hZ hP hD hS hA mb_X7_count mw_2_6 mw_2_7 mw_2_8 (k_X7_count l D cI cZ cS x0 xs xv ho0 ho1 pd0 pd1 m0 ts0 ts1 a ha sa cn cs sc tm tv pd sv (0 : Int32) old sz z (9 : Int32) hRS hI) 0 7 rfl rfl (fun _ => xwW_f) (by decide) (by decide) rfl hl.1 rfl (Nat.le_of_ble_eq_true rfl) dL_refusesAny_250 ⟨Nat.zero_le _, Nat.zero_le _⟩ (fun r250 u250 H locs hw hP hD hS => ?_)
                        have p250 : r250 = cntR z (0 : Int32) sz (9 : Int32) := hw
                        have hP : va_P D vwCl (xwW cI cZ cS x0 xs xv ho0 ho1 pd0 pd1 m0 ts0 ts1 a ha sa cn cs sc tm tv pd sv (0 : Int32) old sz z) H := hP
                        have hD : va_D A (xwW cI cZ cS x0 xs xv ho0 ho1 pd0 pd1 m0 ts0 ts1 a ha sa cn cs sc tm tv pd sv (0 : Int32) old sz z) := hD
                        refine xk_top (z := (z 7)) (by exact p250.trans (ct_9 _ _ _)) ?_
                        refine lv_bipush (v := 12) hx hb dL_refusesAny_253 (by decide) ?_
                        refine lv_icmp_lt (tgt := 270) hx hb dL_refusesAny_255 (by decide) (fun c255 => ?_) (fun c255 => ?_)
                        · have t255 : (z 7).toInt < 12 := xi_lt rfl (by decide) c255
                          exact J270   _ _ hP hD hS ls (lv_sub hl [0, 1, 2, 3] rfl)
                        · have t255 : 12 ≤ (z 7).toInt := xi_nlt rfl (by decide) c255
                          refine lv_aload_n hx hb dL_refusesAny_258 rfl (lv_at hl 1 rfl) ?_
                          refine lv_iconst (v := 5) hx hb dL_refusesAny_259 (by decide) ?_
                          refine lv_iconst (v := 0) hx hb dL_refusesAny_260 (by decide) ?_
                          refine lv_iconst (v := 0) hx hb dL_refusesAny_261 (by decide) ?_
                          refine xo_Vi (As := [.int 5, .int 0, .int 0]) (rest := []) hx hb hml hown hts hK hN hZ hP hD hS hA mb_X7_pave mw_3_17 mw_3_18 mw_3_19 (k_X7_pave l D cI cZ cS x0 xs xv ho0 ho1 pd0 pd1 m0 ts0 ts1 a ha sa cn cs sc tm tv pd sv (0 : Int32) old sz z (5 : Int32) (0 : Int32) (0 : Int32) hRS hI hold hszz (Or.inl rfl)) 0 7 rfl rfl (fun _ => xwW_f) (by decide) (by decide) rfl hl.1 rfl (Nat.le_of_ble_eq_true rfl) dL_refusesAny_262 ⟨Nat.zero_le _, Nat.zero_le _⟩ (fun r262 u262 H locs hw hP hD hS => ?_)
                          obtain ⟨cq_262, zq_262, old1_262, sz1_262, cs1_262⟩ := u262
                          have p262 : r262 = paveR z (5 : Int32) (0 : Int32) ∧ ((paveC z (5 : Int32) (0 : Int32) ∧ Chg cn z old sz cs (paveZ z (5 : Int32) (0 : Int32) (0 : Int32)) cq_262 zq_262 old1_262 sz1_262 cs1_262) ∨ (¬ paveC z (5 : Int32) (0 : Int32) ∧ Same cn z old sz cs cq_262 zq_262 old1_262 sz1_262 cs1_262)) := hw
                          have hP : va_P D vwCl (xwW cI cZ cS x0 xs xv ho0 ho1 pd0 pd1 m0 ts0 ts1 a ha sa cq_262 cs1_262 sc tm tv pd sv (0 : Int32) old1_262 sz1_262 zq_262) H := hP
                          have hD : va_D A (xwW cI cZ cS x0 xs xv ho0 ho1 pd0 pd1 m0 ts0 ts1 a ha sa cq_262 cs1_262 sc tm tv pd sv (0 : Int32) old1_262 sz1_262 zq_262) := hD
                          have h712 : z 7 = 12 := xi_ext (by rw [show (12 : Int32).toInt = 12 from by decide]; omega)
                          have w262 : r262 = -4 ∧ cq_262 = cn ∧ zq_262 = z ∧ old1_262 = old ∧ sz1_262 = sz ∧ cs1_262 = cs := by
                            refine ⟨p262.1.trans (pv_full (by decide) h712), ?_⟩
                            rcases p262.2 with ⟨c9, -⟩ | ⟨-, h9⟩
                            · exact absurd c9 (fun c8 => c8.2 h712)
                            · exact h9
                          obtain ⟨w262, w262_0, w262_1, w262_2, w262_3, w262_4⟩ := w262
                          rw [w262_0, w262_1, w262_2, w262_3, w262_4] at hP hD
                          have hP : va_P D vwCl (xwW cI cZ cS x0 xs xv ho0 ho1 pd0 pd1 m0 ts0 ts1 a ha sa cn cs sc tm tv pd sv (0 : Int32) old sz z) H := hP
                          have hD : va_D A (xwW cI cZ cS x0 xs xv ho0 ho1 pd0 pd1 m0 ts0 ts1 a ha sa cn cs sc tm tv pd sv (0 : Int32) old sz z) := hD
                          refine xk_top (z := (-4)) (by exact w262) ?_
                          refine lv_bipush (v := (-4)) hx hb dL_refusesAny_265 (by decide) ?_
                          refine lv_icmp_ne (tgt := 342) hx hb dL_refusesAny_267 (by decide) (fun c267 => absurd (by decide) c267) (fun _ => ?_)
                          exact J270   _ _ hP hD hS ls (lv_sub hl [0, 1, 2, 3] rfl)
                      · have t229 : x228.toInt = 0 := xi_eq rfl (by decide) c229
                        have d229 : x228 = 0 := c229
                        omega
                    · have t205 : x204.toInt = 0 := xi_eq rfl (by decide) c205
                      have d205 : x204 = 0 := c205
                      omega
                  · have t184 : x183.toInt = 0 := xi_eq rfl (by decide) c184
                    have d184 : x183 = 0 := c184
                    omega
                · have t162 : x161.toInt = 0 := xi_eq rfl (by decide) c162
                  have d162 : x161 = 0 := c162
                  omega
              · have t140 : x139.toInt = 0 := xi_eq rfl (by decide) c140
                have d140 : x139 = 0 := c140
                omega
            · have t118 : x117.toInt = 0 := xi_eq rfl (by decide) c118
              have d118 : x117 = 0 := c118
              omega
          · have t96 : x95.toInt = 0 := xi_eq rfl (by decide) c96
            have d96 : x95 = 0 := c96
            refine lv_iconst (v := (-1)) hx hb dL_refusesAny_99 (by decide) ?_
            refine lv_goto (tgt := 105) hx hb dL_refusesAny_100 (by decide) ?_
            refine xo_Vi (As := [.int 1, .int (-1)]) (rest := []) hx hb hml hown hts hK hN hZ hP hD hS hA mb_X7_set mw_3_8 mw_3_9 mw_3_10 (k_X7_set l D cI cZ cS x0 xs xv ho0 ho1 pd0 pd1 m0 ts0 ts1 a ha sa cn cs sc tm tv pd sv (0 : Int32) old sz z (1 : Int32) (-1 : Int32) hRS hI hold hszz) 0 7 rfl rfl (fun _ => xwW_f) (by decide) (by decide) rfl hl.1 rfl (Nat.le_of_ble_eq_true rfl) dL_refusesAny_105 ⟨Nat.zero_le _, Nat.zero_le _⟩ (fun r105 u105 H locs hw hP hD hS => ?_)
            obtain ⟨cq_105, zq_105, old1_105, sz1_105, cs1_105⟩ := u105
            have p105 : (setV (1 : Int32) (-1 : Int32) ∧ r105 = z 1 ∧ Chg cn z old sz cs (beginZ (upd z 1 (-1 : Int32))) cq_105 zq_105 old1_105 sz1_105 cs1_105) ∨ (¬ setV (1 : Int32) (-1 : Int32) ∧ r105 = -2 ∧ Same cn z old sz cs cq_105 zq_105 old1_105 sz1_105 cs1_105) := hw
            have hP : va_P D vwCl (xwW cI cZ cS x0 xs xv ho0 ho1 pd0 pd1 m0 ts0 ts1 a ha sa cq_105 cs1_105 sc tm tv pd sv (0 : Int32) old1_105 sz1_105 zq_105) H := hP
            have hD : va_D A (xwW cI cZ cS x0 xs xv ho0 ho1 pd0 pd1 m0 ts0 ts1 a ha sa cq_105 cs1_105 sc tm tv pd sv (0 : Int32) old1_105 sz1_105 zq_105) := hD
            have w105 : r105 = -2 ∧ cq_105 = cn ∧ zq_105 = z ∧ old1_105 = old ∧ sz1_105 = sz ∧ cs1_105 = cs := by
              rcases p105 with ⟨c9, -⟩ | ⟨-, h9⟩
              · exact absurd c9 (by decide)
              · exact h9
            obtain ⟨w105, w105_0, w105_1, w105_2, w105_3, w105_4⟩ := w105
            rw [w105_0, w105_1, w105_2, w105_3, w105_4] at hP hD
            have hP : va_P D vwCl (xwW cI cZ cS x0 xs xv ho0 ho1 pd0 pd1 m0 ts0 ts1 a ha sa cn cs sc tm tv pd sv (0 : Int32) old sz z) H := hP
            have hD : va_D A (xwW cI cZ cS x0 xs xv ho0 ho1 pd0 pd1 m0 ts0 ts1 a ha sa cn cs sc tm tv pd sv (0 : Int32) old sz z) := hD
            refine xk_top (z := (-2)) (by exact w105) ?_
            refine lv_bipush (v := (-2)) hx hb dL_refusesAny_108 (by decide) ?_
            refine lv_icmp_ne (tgt := 342) hx hb dL_refusesAny_110 (by decide) (fun c110 => absurd (by decide) c110) (fun _ => ?_)
            refine lv_aload_n hx hb dL_refusesAny_113 rfl (lv_at hl 1 rfl) ?_
            refine lv_iconst (v := 2) hx hb dL_refusesAny_114 (by decide) ?_
            refine lv_iload_n hx hb dL_refusesAny_115 rfl (lv_at hl 2 rfl) ?_
            refine lv_iconst (v := 2) hx hb dL_refusesAny_116 (by decide) ?_
            refine lv_irem hx hb dL_refusesAny_117 (by decide) ?_
            refine lv_topi (fun x117 e117 => ?_)
            have t117 : x117.toInt = p1.toInt % 2 := by rw [e117]; exact xi_rem rfl (by decide) (by omega) (by omega)
            refine lv_if_ne (tgt := 125) hx hb dL_refusesAny_118 (by decide) (fun c118 => ?_) (fun c118 => ?_)
            · have t118 : ¬ x117.toInt = 0 := xi_ne rfl (by decide) c118
              have d118 : ¬ x117 = 0 := c118
              refine lv_bipush (v := 10) hx hb dL_refusesAny_125 (by decide) ?_
              refine xo_Vi (As := [.int 2, .int 10]) (rest := []) hx hb hml hown hts hK hN hZ hP hD hS hA mb_X7_set mw_3_8 mw_3_9 mw_3_10 (k_X7_set l D cI cZ cS x0 xs xv ho0 ho1 pd0 pd1 m0 ts0 ts1 a ha sa cn cs sc tm tv pd sv (0 : Int32) old sz z (2 : Int32) (10 : Int32) hRS hI hold hszz) 0 7 rfl rfl (fun _ => xwW_f) (by decide) (by decide) rfl hl.1 rfl (Nat.le_of_ble_eq_true rfl) dL_refusesAny_127 ⟨Nat.zero_le _, Nat.zero_le _⟩ (fun r127 u127 H locs hw hP hD hS => ?_)
              obtain ⟨cq_127, zq_127, old1_127, sz1_127, cs1_127⟩ := u127
              have p127 : (setV (2 : Int32) (10 : Int32) ∧ r127 = z 2 ∧ Chg cn z old sz cs (beginZ (upd z 2 (10 : Int32))) cq_127 zq_127 old1_127 sz1_127 cs1_127) ∨ (¬ setV (2 : Int32) (10 : Int32) ∧ r127 = -2 ∧ Same cn z old sz cs cq_127 zq_127 old1_127 sz1_127 cs1_127) := hw
              have hP : va_P D vwCl (xwW cI cZ cS x0 xs xv ho0 ho1 pd0 pd1 m0 ts0 ts1 a ha sa cq_127 cs1_127 sc tm tv pd sv (0 : Int32) old1_127 sz1_127 zq_127) H := hP
              have hD : va_D A (xwW cI cZ cS x0 xs xv ho0 ho1 pd0 pd1 m0 ts0 ts1 a ha sa cq_127 cs1_127 sc tm tv pd sv (0 : Int32) old1_127 sz1_127 zq_127) := hD
              have w127 : r127 = -2 ∧ cq_127 = cn ∧ zq_127 = z ∧ old1_127 = old ∧ sz1_127 = sz ∧ cs1_127 = cs := by
                rcases p127 with ⟨c9, -⟩ | ⟨-, h9⟩
                · exact absurd c9 (by decide)
                · exact h9
              obtain ⟨w127, w127_0, w127_1, w127_2, w127_3, w127_4⟩ := w127
              rw [w127_0, w127_1, w127_2, w127_3, w127_4] at hP hD
              have hP : va_P D vwCl (xwW cI cZ cS x0 xs xv ho0 ho1 pd0 pd1 m0 ts0 ts1 a ha sa cn cs sc tm tv pd sv (0 : Int32) old sz z) H := hP
              have hD : va_D A (xwW cI cZ cS x0 xs xv ho0 ho1 pd0 pd1 m0 ts0 ts1 a ha sa cn cs sc tm tv pd sv (0 : Int32) old sz z) := hD
              refine xk_top (z := (-2)) (by exact w127) ?_
              refine lv_bipush (v := (-2)) hx hb dL_refusesAny_130 (by decide) ?_
              refine lv_icmp_ne (tgt := 342) hx hb dL_refusesAny_132 (by decide) (fun c132 => absurd (by decide) c132) (fun _ => ?_)
              refine lv_aload_n hx hb dL_refusesAny_135 rfl (lv_at hl 1 rfl) ?_
              refine lv_iconst (v := 3) hx hb dL_refusesAny_136 (by decide) ?_
              refine lv_iload_n hx hb dL_refusesAny_137 rfl (lv_at hl 2 rfl) ?_
              refine lv_iconst (v := 2) hx hb dL_refusesAny_138 (by decide) ?_
              refine lv_irem hx hb dL_refusesAny_139 (by decide) ?_
              refine lv_topi (fun x139 e139 => ?_)
              have t139 : x139.toInt = p1.toInt % 2 := by rw [e139]; exact xi_rem rfl (by decide) (by omega) (by omega)
              refine lv_if_ne (tgt := 147) hx hb dL_refusesAny_140 (by decide) (fun c140 => ?_) (fun c140 => ?_)
              · have t140 : ¬ x139.toInt = 0 := xi_ne rfl (by decide) c140
                have d140 : ¬ x139 = 0 := c140
                refine lv_bipush (v := 21) hx hb dL_refusesAny_147 (by decide) ?_
                refine xo_Vi (As := [.int 3, .int 21]) (rest := []) hx hb hml hown hts hK hN hZ hP hD hS hA mb_X7_set mw_3_8 mw_3_9 mw_3_10 (k_X7_set l D cI cZ cS x0 xs xv ho0 ho1 pd0 pd1 m0 ts0 ts1 a ha sa cn cs sc tm tv pd sv (0 : Int32) old sz z (3 : Int32) (21 : Int32) hRS hI hold hszz) 0 7 rfl rfl (fun _ => xwW_f) (by decide) (by decide) rfl hl.1 rfl (Nat.le_of_ble_eq_true rfl) dL_refusesAny_149 ⟨Nat.zero_le _, Nat.zero_le _⟩ (fun r149 u149 H locs hw hP hD hS => ?_)
                obtain ⟨cq_149, zq_149, old1_149, sz1_149, cs1_149⟩ := u149
                have p149 : (setV (3 : Int32) (21 : Int32) ∧ r149 = z 3 ∧ Chg cn z old sz cs (beginZ (upd z 3 (21 : Int32))) cq_149 zq_149 old1_149 sz1_149 cs1_149) ∨ (¬ setV (3 : Int32) (21 : Int32) ∧ r149 = -2 ∧ Same cn z old sz cs cq_149 zq_149 old1_149 sz1_149 cs1_149) := hw
                have hP : va_P D vwCl (xwW cI cZ cS x0 xs xv ho0 ho1 pd0 pd1 m0 ts0 ts1 a ha sa cq_149 cs1_149 sc tm tv pd sv (0 : Int32) old1_149 sz1_149 zq_149) H := hP
                have hD : va_D A (xwW cI cZ cS x0 xs xv ho0 ho1 pd0 pd1 m0 ts0 ts1 a ha sa cq_149 cs1_149 sc tm tv pd sv (0 : Int32) old1_149 sz1_149 zq_149) := hD
                have w149 : r149 = -2 ∧ cq_149 = cn ∧ zq_149 = z ∧ old1_149 = old ∧ sz1_149 = sz ∧ cs1_149 = cs := by
                  rcases p149 with ⟨c9, -⟩ | ⟨-, h9⟩
                  · exact absurd c9 (by decide)
                  · exact h9
                obtain ⟨w149, w149_0, w149_1, w149_2, w149_3, w149_4⟩ := w149
                rw [w149_0, w149_1, w149_2, w149_3, w149_4] at hP hD
                have hP : va_P D vwCl (xwW cI cZ cS x0 xs xv ho0 ho1 pd0 pd1 m0 ts0 ts1 a ha sa cn cs sc tm tv pd sv (0 : Int32) old sz z) H := hP
                have hD : va_D A (xwW cI cZ cS x0 xs xv ho0 ho1 pd0 pd1 m0 ts0 ts1 a ha sa cn cs sc tm tv pd sv (0 : Int32) old sz z) := hD
                refine xk_top (z := (-2)) (by exact w149) ?_
                refine lv_bipush (v := (-2)) hx hb dL_refusesAny_152 (by decide) ?_
                refine lv_icmp_ne (tgt := 342) hx hb dL_refusesAny_154 (by decide) (fun c154 => absurd (by decide) c154) (fun _ => ?_)
                refine lv_aload_n hx hb dL_refusesAny_157 rfl (lv_at hl 1 rfl) ?_
                refine lv_iconst (v := 4) hx hb dL_refusesAny_158 (by decide) ?_
                refine lv_iload_n hx hb dL_refusesAny_159 rfl (lv_at hl 2 rfl) ?_
                refine lv_iconst (v := 2) hx hb dL_refusesAny_160 (by decide) ?_
                refine lv_irem hx hb dL_refusesAny_161 (by decide) ?_
                refine lv_topi (fun x161 e161 => ?_)
                have t161 : x161.toInt = p1.toInt % 2 := by rw [e161]; exact xi_rem rfl (by decide) (by omega) (by omega)
                refine lv_if_ne (tgt := 169) hx hb dL_refusesAny_162 (by decide) (fun c162 => ?_) (fun c162 => ?_)
                · have t162 : ¬ x161.toInt = 0 := xi_ne rfl (by decide) c162
                  have d162 : ¬ x161 = 0 := c162
                  refine lv_bipush (v := 61) hx hb dL_refusesAny_169 (by decide) ?_
                  refine xo_Vi (As := [.int 4, .int 61]) (rest := []) hx hb hml hown hts hK hN hZ hP hD hS hA mb_X7_set mw_3_8 mw_3_9 mw_3_10 (k_X7_set l D cI cZ cS x0 xs xv ho0 ho1 pd0 pd1 m0 ts0 ts1 a ha sa cn cs sc tm tv pd sv (0 : Int32) old sz z (4 : Int32) (61 : Int32) hRS hI hold hszz) 0 7 rfl rfl (fun _ => xwW_f) (by decide) (by decide) rfl hl.1 rfl (Nat.le_of_ble_eq_true rfl) dL_refusesAny_171 ⟨Nat.zero_le _, Nat.zero_le _⟩ (fun r171 u171 H locs hw hP hD hS => ?_)
                  obtain ⟨cq_171, zq_171, old1_171, sz1_171, cs1_171⟩ := u171
                  have p171 : (setV (4 : Int32) (61 : Int32) ∧ r171 = z 4 ∧ Chg cn z old sz cs (beginZ (upd z 4 (61 : Int32))) cq_171 zq_171 old1_171 sz1_171 cs1_171) ∨ (¬ setV (4 : Int32) (61 : Int32) ∧ r171 = -2 ∧ Same cn z old sz cs cq_171 zq_171 old1_171 sz1_171 cs1_171) := hw
                  have hP : va_P D vwCl (xwW cI cZ cS x0 xs xv ho0 ho1 pd0 pd1 m0 ts0 ts1 a ha sa cq_171 cs1_171 sc tm tv pd sv (0 : Int32) old1_171 sz1_171 zq_171) H := hP
                  have hD : va_D A (xwW cI cZ cS x0 xs xv ho0 ho1 pd0 pd1 m0 ts0 ts1 a ha sa cq_171 cs1_171 sc tm tv pd sv (0 : Int32) old1_171 sz1_171 zq_171) := hD
                  have w171 : r171 = -2 ∧ cq_171 = cn ∧ zq_171 = z ∧ old1_171 = old ∧ sz1_171 = sz ∧ cs1_171 = cs := by
                    rcases p171 with ⟨c9, -⟩ | ⟨-, h9⟩
                    · exact absurd c9 (by decide)
                    · exact h9
                  obtain ⟨w171, w171_0, w171_1, w171_2, w171_3, w171_4⟩ := w171
                  rw [w171_0, w171_1, w171_2, w171_3, w171_4] at hP hD
                  have hP : va_P D vwCl (xwW cI cZ cS x0 xs xv ho0 ho1 pd0 pd1 m0 ts0 ts1 a ha sa cn cs sc tm tv pd sv (0 : Int32) old sz z) H := hP
                  have hD : va_D A (xwW cI cZ cS x0 xs xv ho0 ho1 pd0 pd1 m0 ts0 ts1 a ha sa cn cs sc tm tv pd sv (0 : Int32) old sz z) := hD
                  refine xk_top (z := (-2)) (by exact w171) ?_
                  refine lv_bipush (v := (-2)) hx hb dL_refusesAny_174 (by decide) ?_
                  refine lv_icmp_ne (tgt := 342) hx hb dL_refusesAny_176 (by decide) (fun c176 => absurd (by decide) c176) (fun _ => ?_)
                  refine lv_aload_n hx hb dL_refusesAny_179 rfl (lv_at hl 1 rfl) ?_
                  refine lv_iconst (v := 5) hx hb dL_refusesAny_180 (by decide) ?_
                  refine lv_iload_n hx hb dL_refusesAny_181 rfl (lv_at hl 2 rfl) ?_
                  refine lv_iconst (v := 2) hx hb dL_refusesAny_182 (by decide) ?_
                  refine lv_irem hx hb dL_refusesAny_183 (by decide) ?_
                  refine lv_topi (fun x183 e183 => ?_)
                  have t183 : x183.toInt = p1.toInt % 2 := by rw [e183]; exact xi_rem rfl (by decide) (by omega) (by omega)
                  refine lv_if_ne (tgt := 191) hx hb dL_refusesAny_184 (by decide) (fun c184 => ?_) (fun c184 => ?_)
                  · have t184 : ¬ x183.toInt = 0 := xi_ne rfl (by decide) c184
                    have d184 : ¬ x183 = 0 := c184
                    refine lv_bipush (v := 10) hx hb dL_refusesAny_191 (by decide) ?_
                    refine xo_Vi (As := [.int 5, .int 10]) (rest := []) hx hb hml hown hts hK hN hZ hP hD hS hA mb_X7_set mw_3_8 mw_3_9 mw_3_10 (k_X7_set l D cI cZ cS x0 xs xv ho0 ho1 pd0 pd1 m0 ts0 ts1 a ha sa cn cs sc tm tv pd sv (0 : Int32) old sz z (5 : Int32) (10 : Int32) hRS hI hold hszz) 0 7 rfl rfl (fun _ => xwW_f) (by decide) (by decide) rfl hl.1 rfl (Nat.le_of_ble_eq_true rfl) dL_refusesAny_193 ⟨Nat.zero_le _, Nat.zero_le _⟩ (fun r193 u193 H locs hw hP hD hS => ?_)
                    obtain ⟨cq_193, zq_193, old1_193, sz1_193, cs1_193⟩ := u193
                    have p193 : (setV (5 : Int32) (10 : Int32) ∧ r193 = z 5 ∧ Chg cn z old sz cs (beginZ (upd z 5 (10 : Int32))) cq_193 zq_193 old1_193 sz1_193 cs1_193) ∨ (¬ setV (5 : Int32) (10 : Int32) ∧ r193 = -2 ∧ Same cn z old sz cs cq_193 zq_193 old1_193 sz1_193 cs1_193) := hw
                    have hP : va_P D vwCl (xwW cI cZ cS x0 xs xv ho0 ho1 pd0 pd1 m0 ts0 ts1 a ha sa cq_193 cs1_193 sc tm tv pd sv (0 : Int32) old1_193 sz1_193 zq_193) H := hP
                    have hD : va_D A (xwW cI cZ cS x0 xs xv ho0 ho1 pd0 pd1 m0 ts0 ts1 a ha sa cq_193 cs1_193 sc tm tv pd sv (0 : Int32) old1_193 sz1_193 zq_193) := hD
                    have w193 : r193 = -2 ∧ cq_193 = cn ∧ zq_193 = z ∧ old1_193 = old ∧ sz1_193 = sz ∧ cs1_193 = cs := by
                      rcases p193 with ⟨c9, -⟩ | ⟨-, h9⟩
                      · exact absurd c9 (by decide)
                      · exact h9
                    obtain ⟨w193, w193_0, w193_1, w193_2, w193_3, w193_4⟩ := w193
                    rw [w193_0, w193_1, w193_2, w193_3, w193_4] at hP hD
                    have hP : va_P D vwCl (xwW cI cZ cS x0 xs xv ho0 ho1 pd0 pd1 m0 ts0 ts1 a ha sa cn cs sc tm tv pd sv (0 : Int32) old sz z) H := hP
                    have hD : va_D A (xwW cI cZ cS x0 xs xv ho0 ho1 pd0 pd1 m0 ts0 ts1 a ha sa cn cs sc tm tv pd sv (0 : Int32) old sz z) := hD
                    refine xk_top (z := (-2)) (by exact w193) ?_
                    refine lv_bipush (v := (-2)) hx hb dL_refusesAny_196 (by decide) ?_
                    refine lv_icmp_ne (tgt := 342) hx hb dL_refusesAny_198 (by decide) (fun c198 => absurd (by decide) c198) (fun _ => ?_)
                    refine lv_aload_n hx hb dL_refusesAny_201 rfl (lv_at hl 1 rfl) ?_
                    refine lv_iload_n hx hb dL_refusesAny_202 rfl (lv_at hl 2 rfl) ?_
                    refine lv_iconst (v := 2) hx hb dL_refusesAny_203 (by decide) ?_
                    refine lv_irem hx hb dL_refusesAny_204 (by decide) ?_
                    refine lv_topi (fun x204 e204 => ?_)
                    have t204 : x204.toInt = p1.toInt % 2 := by rw [e204]; exact xi_rem rfl (by decide) (by omega) (by omega)
                    refine lv_if_ne (tgt := 212) hx hb dL_refusesAny_205 (by decide) (fun c205 => ?_) (fun c205 => ?_)
                    · have t205 : ¬ x204.toInt = 0 := xi_ne rfl (by decide) c205
                      have d205 : ¬ x204 = 0 := c205
                      refine lv_bipush (v := 100) hx hb dL_refusesAny_212 (by decide) ?_
                      refine lv_iconst (v := 0) hx hb dL_refusesAny_214 (by decide) ?_
                      refine lv_iconst (v := 1) hx hb dL_refusesAny_215 (by decide) ?_
                      refine xo_Vi (As := [.int 100, .int 0, .int 1]) (rest := []) hx hb hml hown hts hK hN hZ hP hD hS hA mb_X7_pave mw_3_17 mw_3_18 mw_3_19 (k_X7_pave l D cI cZ cS x0 xs xv ho0 ho1 pd0 pd1 m0 ts0 ts1 a ha sa cn cs sc tm tv pd sv (0 : Int32) old sz z (100 : Int32) (0 : Int32) (1 : Int32) hRS hI hold hszz (Or.inr rfl)) 0 7 rfl rfl (fun _ => xwW_f) (by decide) (by decide) rfl hl.1 rfl (Nat.le_of_ble_eq_true rfl) dL_refusesAny_216 ⟨Nat.zero_le _, Nat.zero_le _⟩ (fun r216 u216 H locs hw hP hD hS => ?_)
                      obtain ⟨cq_216, zq_216, old1_216, sz1_216, cs1_216⟩ := u216
                      have p216 : r216 = paveR z (100 : Int32) (0 : Int32) ∧ ((paveC z (100 : Int32) (0 : Int32) ∧ Chg cn z old sz cs (paveZ z (100 : Int32) (0 : Int32) (1 : Int32)) cq_216 zq_216 old1_216 sz1_216 cs1_216) ∨ (¬ paveC z (100 : Int32) (0 : Int32) ∧ Same cn z old sz cs cq_216 zq_216 old1_216 sz1_216 cs1_216)) := hw
                      have hP : va_P D vwCl (xwW cI cZ cS x0 xs xv ho0 ho1 pd0 pd1 m0 ts0 ts1 a ha sa cq_216 cs1_216 sc tm tv pd sv (0 : Int32) old1_216 sz1_216 zq_216) H := hP
                      have hD : va_D A (xwW cI cZ cS x0 xs xv ho0 ho1 pd0 pd1 m0 ts0 ts1 a ha sa cq_216 cs1_216 sc tm tv pd sv (0 : Int32) old1_216 sz1_216 zq_216) := hD
                      have w216 : r216 = -2 ∧ cq_216 = cn ∧ zq_216 = z ∧ old1_216 = old ∧ sz1_216 = sz ∧ cs1_216 = cs := by
                        refine ⟨p216.1.trans (pv_bad z (by decide)), ?_⟩
                        rcases p216.2 with ⟨c9, -⟩ | ⟨-, h9⟩
                        · exact absurd c9 (fun c8 => absurd c8.1 (by decide))
                        · exact h9
                      obtain ⟨w216, w216_0, w216_1, w216_2, w216_3, w216_4⟩ := w216
                      rw [w216_0, w216_1, w216_2, w216_3, w216_4] at hP hD
                      have hP : va_P D vwCl (xwW cI cZ cS x0 xs xv ho0 ho1 pd0 pd1 m0 ts0 ts1 a ha sa cn cs sc tm tv pd sv (0 : Int32) old sz z) H := hP
                      have hD : va_D A (xwW cI cZ cS x0 xs xv ho0 ho1 pd0 pd1 m0 ts0 ts1 a ha sa cn cs sc tm tv pd sv (0 : Int32) old sz z) := hD
                      refine xk_top (z := (-2)) (by exact w216) ?_
                      refine lv_bipush (v := (-2)) hx hb dL_refusesAny_219 (by decide) ?_
                      refine lv_icmp_ne (tgt := 342) hx hb dL_refusesAny_221 (by decide) (fun c221 => absurd (by decide) c221) (fun _ => ?_)
                      refine lv_aload_n hx hb dL_refusesAny_224 rfl (lv_at hl 1 rfl) ?_
                      refine lv_iconst (v := 5) hx hb dL_refusesAny_225 (by decide) ?_
                      refine lv_iload_n hx hb dL_refusesAny_226 rfl (lv_at hl 2 rfl) ?_
                      refine lv_iconst (v := 2) hx hb dL_refusesAny_227 (by decide) ?_
                      refine lv_irem hx hb dL_refusesAny_228 (by decide) ?_
                      refine lv_topi (fun x228 e228 => ?_)
                      have t228 : x228.toInt = p1.toInt % 2 := by rw [e228]; exact xi_rem rfl (by decide) (by omega) (by omega)
                      refine lv_if_ne (tgt := 237) hx hb dL_refusesAny_229 (by decide) (fun c229 => ?_) (fun c229 => ?_)
                      · have t229 : ¬ x228.toInt = 0 := xi_ne rfl (by decide) c229
                        have d229 : ¬ x228 = 0 := c229
                        refine lv_iconst (v := 4) hx hb dL_refusesAny_237 (by decide) ?_
                        refine lv_iconst (v := 0) hx hb dL_refusesAny_238 (by decide) ?_
                        refine xo_Vi (As := [.int 5, .int 4, .int 0]) (rest := []) hx hb hml hown hts hK hN hZ hP hD hS hA mb_X7_pave mw_3_17 mw_3_18 mw_3_19 (k_X7_pave l D cI cZ cS x0 xs xv ho0 ho1 pd0 pd1 m0 ts0 ts1 a ha sa cn cs sc tm tv pd sv (0 : Int32) old sz z (5 : Int32) (4 : Int32) (0 : Int32) hRS hI hold hszz (Or.inl rfl)) 0 7 rfl rfl (fun _ => xwW_f) (by decide) (by decide) rfl hl.1 rfl (Nat.le_of_ble_eq_true rfl) dL_refusesAny_239 ⟨Nat.zero_le _, Nat.zero_le _⟩ (fun r239 u239 H locs hw hP hD hS => ?_)
                        obtain ⟨cq_239, zq_239, old1_239, sz1_239, cs1_239⟩ := u239
                        have p239 : r239 = paveR z (5 : Int32) (4 : Int32) ∧ ((paveC z (5 : Int32) (4 : Int32) ∧ Chg cn z old sz cs (paveZ z (5 : Int32) (4 : Int32) (0 : Int32)) cq_239 zq_239 old1_239 sz1_239 cs1_239) ∨ (¬ paveC z (5 : Int32) (4 : Int32) ∧ Same cn z old sz cs cq_239 zq_239 old1_239 sz1_239 cs1_239)) := hw
                        have hP : va_P D vwCl (xwW cI cZ cS x0 xs xv ho0 ho1 pd0 pd1 m0 ts0 ts1 a ha sa cq_239 cs1_239 sc tm tv pd sv (0 : Int32) old1_239 sz1_239 zq_239) H := hP
                        have hD : va_D A (xwW cI cZ cS x0 xs xv ho0 ho1 pd0 pd1 m0 ts0 ts1 a ha sa cq_239 cs1_239 sc tm tv pd sv (0 : Int32) old1_239 sz1_239 zq_239) := hD
                        have w239 : r239 = -2 ∧ cq_239 = cn ∧ zq_239 = z ∧ old1_239 = old ∧ sz1_239 = sz ∧ cs1_239 = cs := by
                          refine ⟨p239.1.trans (pv_bad z (by decide)), ?_⟩
                          rcases p239.2 with ⟨c9, -⟩ | ⟨-, h9⟩
                          · exact absurd c9 (fun c8 => absurd c8.1 (by decide))
                          · exact h9
                        obtain ⟨w239, w239_0, w239_1, w239_2, w239_3, w239_4⟩ := w239
                        rw [w239_0, w239_1, w239_2, w239_3, w239_4] at hP hD
                        have hP : va_P D vwCl (xwW cI cZ cS x0 xs xv ho0 ho1 pd0 pd1 m0 ts0 ts1 a ha sa cn cs sc tm tv pd sv (0 : Int32) old sz z) H := hP
                        have hD : va_D A (xwW cI cZ cS x0 xs xv ho0 ho1 pd0 pd1 m0 ts0 ts1 a ha sa cn cs sc tm tv pd sv (0 : Int32) old sz z) := hD
                        refine xk_top (z := (-2)) (by exact w239) ?_
                        refine lv_bipush (v := (-2)) hx hb dL_refusesAny_242 (by decide) ?_
                        refine lv_icmp_ne (tgt := 342) hx hb dL_refusesAny_244 (by decide) (fun c244 => absurd (by decide) c244) (fun _ => ?_)
                        have J270 : ∀   (H : Heap) (locs : List Loc), va_P D vwCl (xwW cI cZ cS x0 xs xv ho0 ho1 pd0 pd1 m0 ts0 ts1 a ha sa cn cs sc tm tv pd sv (0 : Int32) old sz z) H → va_D A (xwW cI cZ cS x0 xs xv ho0 ho1 pd0 pd1 m0 ts0 ts1 a ha sa cn cs sc tm tv pd sv (0 : Int32) old sz z) → va_S A s.heap H locs → ∀ ls : Array Slot, lv_has ls 5 [(2, .int x21), (0, .ref x0), (1, .int p1), (3, .int b)] → W p l e ({ frames := 7, cells := 0, slots := 0, locals := 159 } : Room) s m args below meth c H locs 0 0 Q (F0 m 270 ls []) := by
                          intro  H locs hP hD hS ls hl
                          refine lv_aload_n hx hb dL_refusesAny_270 rfl (lv_at hl 1 rfl) ?_
                          refine lv_iload_n hx hb dL_refusesAny_271 rfl (lv_at hl 0 rfl) ?_
                          refine xo_Vi (As := [.int x21]) (rest := []) hx hb hml hown hts hK hN hZ hP hD hS hA mb_X7_tear mw_3_25 mw_3_26 mw_3_27 (k_X7_tear l D cI cZ cS x0 xs xv ho0 ho1 pd0 pd1 m0 ts0 ts1 a ha sa cn cs sc tm tv pd sv (0 : Int32) old sz z x21 hRS hI hold hszz) 0 7 rfl rfl (fun _ => xwW_f) (by decide) (by decide) rfl hl.1 rfl (Nat.le_of_ble_eq_true rfl) dL_refusesAny_272 ⟨Nat.zero_le _, Nat.zero_le _⟩ (fun r272 u272 H locs hw hP hD hS => ?_)
                          obtain ⟨cq_272, zq_272, old1_272, sz1_272, cs1_272⟩ := u272
                          have p272 : (tearC z x21 ∧ r272 = ofZ z x21.toInt.toNat 0 ∧ Chg cn z old sz cs (tearZ z x21) cq_272 zq_272 old1_272 sz1_272 cs1_272) ∨ (¬ tearC z x21 ∧ r272 = -1 ∧ Same cn z old sz cs cq_272 zq_272 old1_272 sz1_272 cs1_272) := hw
                          have hP : va_P D vwCl (xwW cI cZ cS x0 xs xv ho0 ho1 pd0 pd1 m0 ts0 ts1 a ha sa cq_272 cs1_272 sc tm tv pd sv (0 : Int32) old1_272 sz1_272 zq_272) H := hP
                          have hD : va_D A (xwW cI cZ cS x0 xs xv ho0 ho1 pd0 pd1 m0 ts0 ts1 a ha sa cq_272 cs1_272 sc tm tv pd sv (0 : Int32) old1_272 sz1_272 zq_272) := hD
                          have w272 : r272 = -1 ∧ cq_272 = cn ∧ zq_272 = z ∧ old1_272 = old ∧ sz1_272 = sz ∧ cs1_272 = cs := by
                            rcases p272 with ⟨c9, -⟩ | ⟨-, h9⟩
                            · exact absurd c9 (fun c8 => by have := c8.1; have := c8.2; omega)
                            · exact h9
                          obtain ⟨w272, w272_0, w272_1, w272_2, w272_3, w272_4⟩ := w272
                          rw [w272_0, w272_1, w272_2, w272_3, w272_4] at hP hD
                          have hP : va_P D vwCl (xwW cI cZ cS x0 xs xv ho0 ho1 pd0 pd1 m0 ts0 ts1 a ha sa cn cs sc tm tv pd sv (0 : Int32) old sz z) H := hP
                          have hD : va_D A (xwW cI cZ cS x0 xs xv ho0 ho1 pd0 pd1 m0 ts0 ts1 a ha sa cn cs sc tm tv pd sv (0 : Int32) old sz z) := hD
                          refine xk_top (z := (-1)) (by exact w272) ?_
                          refine lv_iconst (v := (-1)) hx hb dL_refusesAny_275 (by decide) ?_
                          refine lv_icmp_ne (tgt := 342) hx hb dL_refusesAny_276 (by decide) (fun c276 => absurd (by decide) c276) (fun _ => ?_)
                          refine lv_aload_n hx hb dL_refusesAny_279 rfl (lv_at hl 1 rfl) ?_
                          refine lv_aload_n hx hb dL_refusesAny_280 rfl (lv_at hl 1 rfl) ?_
                          refine lv_bipush (v := 9) hx hb dL_refusesAny_281 (by decide) ?_
                          refine xo_Vi (As := [.int 9]) (rest := [.ref x0]) hx hb hml hown hts hK hN hZ hP hD hS hA mb_X7_count mw_2_6 mw_2_7 mw_2_8 (k_X7_count l D cI cZ cS x0 xs xv ho0 ho1 pd0 pd1 m0 ts0 ts1 a ha sa cn cs sc tm tv pd sv (0 : Int32) old sz z (9 : Int32) hRS hI) 0 7 rfl rfl (fun _ => xwW_f) (by decide) (by decide) rfl hl.1 rfl (Nat.le_of_ble_eq_true rfl) dL_refusesAny_283 ⟨Nat.zero_le _, Nat.zero_le _⟩ (fun r283 u283 H locs hw hP hD hS => ?_)
                          have p283 : r283 = cntR z (0 : Int32) sz (9 : Int32) := hw
                          have hP : va_P D vwCl (xwW cI cZ cS x0 xs xv ho0 ho1 pd0 pd1 m0 ts0 ts1 a ha sa cn cs sc tm tv pd sv (0 : Int32) old sz z) H := hP
                          have hD : va_D A (xwW cI cZ cS x0 xs xv ho0 ho1 pd0 pd1 m0 ts0 ts1 a ha sa cn cs sc tm tv pd sv (0 : Int32) old sz z) := hD
                          refine xk_top (z := (z 7)) (by exact p283.trans (ct_9 _ _ _)) ?_
                          refine xo_Vi (As := [.int (z 7)]) (rest := []) hx hb hml hown hts hK hN hZ hP hD hS hA mb_X7_tear mw_3_25 mw_3_26 mw_3_27 (k_X7_tear l D cI cZ cS x0 xs xv ho0 ho1 pd0 pd1 m0 ts0 ts1 a ha sa cn cs sc tm tv pd sv (0 : Int32) old sz z (z 7) hRS hI hold hszz) 0 7 rfl rfl (fun _ => xwW_f) (by decide) (by decide) rfl hl.1 rfl (Nat.le_of_ble_eq_true rfl) dL_refusesAny_286 ⟨Nat.zero_le _, Nat.zero_le _⟩ (fun r286 u286 H locs hw hP hD hS => ?_)
                          obtain ⟨cq_286, zq_286, old1_286, sz1_286, cs1_286⟩ := u286
                          have p286 : (tearC z (z 7) ∧ r286 = ofZ z (z 7).toInt.toNat 0 ∧ Chg cn z old sz cs (tearZ z (z 7)) cq_286 zq_286 old1_286 sz1_286 cs1_286) ∨ (¬ tearC z (z 7) ∧ r286 = -1 ∧ Same cn z old sz cs cq_286 zq_286 old1_286 sz1_286 cs1_286) := hw
                          have hP : va_P D vwCl (xwW cI cZ cS x0 xs xv ho0 ho1 pd0 pd1 m0 ts0 ts1 a ha sa cq_286 cs1_286 sc tm tv pd sv (0 : Int32) old1_286 sz1_286 zq_286) H := hP
                          have hD : va_D A (xwW cI cZ cS x0 xs xv ho0 ho1 pd0 pd1 m0 ts0 ts1 a ha sa cq_286 cs1_286 sc tm tv pd sv (0 : Int32) old1_286 sz1_286 zq_286) := hD
                          have w286 : r286 = -1 ∧ cq_286 = cn ∧ zq_286 = z ∧ old1_286 = old ∧ sz1_286 = sz ∧ cs1_286 = cs := by
                            rcases p286 with ⟨c9, -⟩ | ⟨-, h9⟩
                            · exact absurd c9 (fun c8 => by have := c8.1; have := c8.2; omega)
                            · exact h9
                          obtain ⟨w286, w286_0, w286_1, w286_2, w286_3, w286_4⟩ := w286
                          rw [w286_0, w286_1, w286_2, w286_3, w286_4] at hP hD
                          have hP : va_P D vwCl (xwW cI cZ cS x0 xs xv ho0 ho1 pd0 pd1 m0 ts0 ts1 a ha sa cn cs sc tm tv pd sv (0 : Int32) old sz z) H := hP
                          have hD : va_D A (xwW cI cZ cS x0 xs xv ho0 ho1 pd0 pd1 m0 ts0 ts1 a ha sa cn cs sc tm tv pd sv (0 : Int32) old sz z) := hD
                          refine xk_top (z := (-1)) (by exact w286) ?_
                          refine lv_iconst (v := (-1)) hx hb dL_refusesAny_289 (by decide) ?_
                          refine lv_icmp_ne (tgt := 342) hx hb dL_refusesAny_290 (by decide) (fun c290 => absurd (by decide) c290) (fun _ => ?_)
                          refine lv_aload_n hx hb dL_refusesAny_293 rfl (lv_at hl 1 rfl) ?_
                          refine lv_iload_n hx hb dL_refusesAny_294 rfl (lv_at hl 2 rfl) ?_
                          refine lv_iconst (v := 2) hx hb dL_refusesAny_295 (by decide) ?_
                          refine lv_irem hx hb dL_refusesAny_296 (by decide) ?_
                          refine lv_topi (fun x296 e296 => ?_)
                          have t296 : x296.toInt = p1.toInt % 2 := by rw [e296]; exact xi_rem rfl (by decide) (by omega) (by omega)
                          refine lv_if_ne (tgt := 304) hx hb dL_refusesAny_297 (by decide) (fun c297 => ?_) (fun c297 => ?_)
                          · have t297 : ¬ x296.toInt = 0 := xi_ne rfl (by decide) c297
                            have d297 : ¬ x296 = 0 := c297
                            refine lv_sipush (v := 501) hx hb dL_refusesAny_304 (by decide) ?_
                            refine xo_Vi (As := [.int 501]) (rest := []) hx hb hml hown hts hK hN hZ hP hD hS hA mb_X7_march mw_3_33 mw_3_34 mw_3_35 (k_X7_march l D cI cZ cS x0 xs xv ho0 ho1 pd0 pd1 m0 ts0 ts1 a ha sa cn cs sc tm tv pd sv (0 : Int32) old sz z (501 : Int32) hRS hI hold hszz ⟨hb74, by omega⟩) 0 7 rfl rfl (fun _ => xwW_f) (by decide) (by decide) rfl hl.1 rfl (Nat.le_of_ble_eq_true rfl) dL_refusesAny_307 ⟨Nat.zero_le _, Nat.zero_le _⟩ (fun r307 u307 H locs hw hP hD hS => ?_)
                            obtain ⟨cq_307, zq_307, old1_307, sz1_307, cs1_307⟩ := u307
                            have p307 : marchA z (501 : Int32) r307 ∧ ((marchC z (501 : Int32) ∧ Chg cn z old sz cs (walkZ 501 z) cq_307 zq_307 old1_307 sz1_307 cs1_307) ∨ (¬ marchC z (501 : Int32) ∧ Same cn z old sz cs cq_307 zq_307 old1_307 sz1_307 cs1_307)) := hw
                            have hP : va_P D vwCl (xwW cI cZ cS x0 xs xv ho0 ho1 pd0 pd1 m0 ts0 ts1 a ha sa cq_307 cs1_307 sc tm tv pd sv (0 : Int32) old1_307 sz1_307 zq_307) H := hP
                            have hD : va_D A (xwW cI cZ cS x0 xs xv ho0 ho1 pd0 pd1 m0 ts0 ts1 a ha sa cq_307 cs1_307 sc tm tv pd sv (0 : Int32) old1_307 sz1_307 zq_307) := hD
                            have w307 : r307 = -2 ∧ cq_307 = cn ∧ zq_307 = z ∧ old1_307 = old ∧ sz1_307 = sz ∧ cs1_307 = cs := by
                              refine ⟨mc_bad (by decide) p307.1, ?_⟩
                              rcases p307.2 with ⟨c9, -⟩ | ⟨-, h9⟩
                              · exact absurd c9 (fun c8 => absurd c8.1 (by decide))
                              · exact h9
                            obtain ⟨w307, w307_0, w307_1, w307_2, w307_3, w307_4⟩ := w307
                            rw [w307_0, w307_1, w307_2, w307_3, w307_4] at hP hD
                            have hP : va_P D vwCl (xwW cI cZ cS x0 xs xv ho0 ho1 pd0 pd1 m0 ts0 ts1 a ha sa cn cs sc tm tv pd sv (0 : Int32) old sz z) H := hP
                            have hD : va_D A (xwW cI cZ cS x0 xs xv ho0 ho1 pd0 pd1 m0 ts0 ts1 a ha sa cn cs sc tm tv pd sv (0 : Int32) old sz z) := hD
                            refine xk_top (z := (-2)) (by exact w307) ?_
                            refine lv_bipush (v := (-2)) hx hb dL_refusesAny_310 (by decide) ?_
                            refine lv_icmp_ne (tgt := 342) hx hb dL_refusesAny_312 (by decide) (fun c312 => absurd (by decide) c312) (fun _ => ?_)
                            have J338 : ∀   (H : Heap) (locs : List Loc), va_P D vwCl (xwW cI cZ cS x0 xs xv ho0 ho1 pd0 pd1 m0 ts0 ts1 a ha sa cn cs sc tm tv pd sv (0 : Int32) old sz z) H → va_D A (xwW cI cZ cS x0 xs xv ho0 ho1 pd0 pd1 m0 ts0 ts1 a ha sa cn cs sc tm tv pd sv (0 : Int32) old sz z) → va_S A s.heap H locs → ∀ ls : Array Slot, lv_has ls 5 [(2, .int x21), (0, .ref x0), (1, .int p1), (3, .int b)] → W p l e ({ frames := 7, cells := 0, slots := 0, locals := 159 } : Room) s m args below meth c H locs 0 0 Q (F0 m 338 ls []) := by
                              intro  H locs hP hD hS ls hl
                              refine lv_iconst (v := 1) hx hb dL_refusesAny_338 (by decide) ?_
                              refine lv_goto (tgt := 343) hx hb dL_refusesAny_339 (by decide) ?_
                              refine lv_istore (lv' := [(4, .int 1), (2, .int x21), (0, .ref x0), (1, .int p1), (3, .int b)]) hx hb dL_refusesAny_343 hl (by decide) rfl (fun ls hl => ?_)
                              refine lv_iload hx hb dL_refusesAny_345 (lv_at hl 0 rfl) ?_
                              refine lv_if_eq (tgt := 631) hx hb dL_refusesAny_347 (by decide) (fun c347 => absurd c347 (by decide)) (fun _ => ?_)
                              refine lv_aload_n hx hb dL_refusesAny_350 rfl (lv_at hl 2 rfl) ?_
                              refine lv_iload_n hx hb dL_refusesAny_351 rfl (lv_at hl 1 rfl) ?_
                              refine lv_bipush (v := 9) hx hb dL_refusesAny_352 (by decide) ?_
                              refine xo_Vi (As := [.int x21, .int 9]) (rest := []) hx hb hml hown hts hK hN hZ hP hD hS hA mb_X7_line mw_2_150 mw_2_151 mw_2_152 (k_X7_line l D cI cZ cS x0 xs xv ho0 ho1 pd0 pd1 m0 ts0 ts1 a ha sa cn cs sc tm tv pd sv (0 : Int32) old sz z x21 (9 : Int32) hRS hI) 0 7 rfl rfl (fun _ => xwW_f) (by decide) (by decide) rfl hl.1 rfl (Nat.le_of_ble_eq_true rfl) dL_refusesAny_354 ⟨Nat.zero_le _, Nat.zero_le _⟩ (fun r354 u354 H locs hw hP hD hS => ?_)
                              have p354 : r354 = lineR z x21 (9 : Int32) := hw
                              have hP : va_P D vwCl (xwW cI cZ cS x0 xs xv ho0 ho1 pd0 pd1 m0 ts0 ts1 a ha sa cn cs sc tm tv pd sv (0 : Int32) old sz z) H := hP
                              have hD : va_D A (xwW cI cZ cS x0 xs xv ho0 ho1 pd0 pd1 m0 ts0 ts1 a ha sa cn cs sc tm tv pd sv (0 : Int32) old sz z) := hD
                              refine xk_top (z := (-1)) (by exact p354.trans (ln_no (fun c8 => by have := c8.1; have := c8.2; omega))) ?_
                              refine lv_iconst (v := (-1)) hx hb dL_refusesAny_357 (by decide) ?_
                              refine lv_icmp_ne (tgt := 631) hx hb dL_refusesAny_358 (by decide) (fun c358 => absurd (by decide) c358) (fun _ => ?_)
                              refine lv_aload_n hx hb dL_refusesAny_361 rfl (lv_at hl 2 rfl) ?_
                              refine lv_aload_n hx hb dL_refusesAny_362 rfl (lv_at hl 2 rfl) ?_
                              refine lv_bipush (v := 6) hx hb dL_refusesAny_363 (by decide) ?_
                              refine xo_Vi (As := [.int 6]) (rest := [.ref x0]) hx hb hml hown hts hK hN hZ hP hD hS hA mb_X7_count mw_2_6 mw_2_7 mw_2_8 (k_X7_count l D cI cZ cS x0 xs xv ho0 ho1 pd0 pd1 m0 ts0 ts1 a ha sa cn cs sc tm tv pd sv (0 : Int32) old sz z (6 : Int32) hRS hI) 0 7 rfl rfl (fun _ => xwW_f) (by decide) (by decide) rfl hl.1 rfl (Nat.le_of_ble_eq_true rfl) dL_refusesAny_365 ⟨Nat.zero_le _, Nat.zero_le _⟩ (fun r365 u365 H locs hw hP hD hS => ?_)
                              have p365 : r365 = cntR z (0 : Int32) sz (6 : Int32) := hw
                              have hP : va_P D vwCl (xwW cI cZ cS x0 xs xv ho0 ho1 pd0 pd1 m0 ts0 ts1 a ha sa cn cs sc tm tv pd sv (0 : Int32) old sz z) H := hP
                              have hD : va_D A (xwW cI cZ cS x0 xs xv ho0 ho1 pd0 pd1 m0 ts0 ts1 a ha sa cn cs sc tm tv pd sv (0 : Int32) old sz z) := hD
                              refine xk_top (z := (z 6)) (by exact p365.trans (ct_6 _ _ _)) ?_
                              refine lv_iconst (v := 0) hx hb dL_refusesAny_368 (by decide) ?_
                              refine xo_Vi (As := [.int (z 6), .int 0]) (rest := []) hx hb hml hown hts hK hN hZ hP hD hS hA mb_X7_line mw_2_150 mw_2_151 mw_2_152 (k_X7_line l D cI cZ cS x0 xs xv ho0 ho1 pd0 pd1 m0 ts0 ts1 a ha sa cn cs sc tm tv pd sv (0 : Int32) old sz z (z 6) (0 : Int32) hRS hI) 0 7 rfl rfl (fun _ => xwW_f) (by decide) (by decide) rfl hl.1 rfl (Nat.le_of_ble_eq_true rfl) dL_refusesAny_369 ⟨Nat.zero_le _, Nat.zero_le _⟩ (fun r369 u369 H locs hw hP hD hS => ?_)
                              have p369 : r369 = lineR z (z 6) (0 : Int32) := hw
                              have hP : va_P D vwCl (xwW cI cZ cS x0 xs xv ho0 ho1 pd0 pd1 m0 ts0 ts1 a ha sa cn cs sc tm tv pd sv (0 : Int32) old sz z) H := hP
                              have hD : va_D A (xwW cI cZ cS x0 xs xv ho0 ho1 pd0 pd1 m0 ts0 ts1 a ha sa cn cs sc tm tv pd sv (0 : Int32) old sz z) := hD
                              refine xk_top (z := (-1)) (by exact p369.trans (ln_no (fun c8 => by have := c8.1; have := c8.2; omega))) ?_
                              refine lv_iconst (v := (-1)) hx hb dL_refusesAny_372 (by decide) ?_
                              refine lv_icmp_ne (tgt := 631) hx hb dL_refusesAny_373 (by decide) (fun c373 => absurd (by decide) c373) (fun _ => ?_)
                              have J440 : ∀   (H : Heap) (locs : List Loc), va_P D vwCl (xwW cI cZ cS x0 xs xv ho0 ho1 pd0 pd1 m0 ts0 ts1 a ha sa cn cs sc tm tv pd sv (0 : Int32) old sz z) H → va_D A (xwW cI cZ cS x0 xs xv ho0 ho1 pd0 pd1 m0 ts0 ts1 a ha sa cn cs sc tm tv pd sv (0 : Int32) old sz z) → va_S A s.heap H locs → ∀ ls : Array Slot, lv_has ls 5 [(4, .int 1), (2, .int x21), (0, .ref x0), (1, .int p1), (3, .int b)] → W p l e ({ frames := 7, cells := 0, slots := 0, locals := 159 } : Room) s m args below meth c H locs 0 0 Q (F0 m 440 ls []) := by
                                intro  H locs hP hD hS ls hl
                                refine lv_aload_n hx hb dL_refusesAny_440 rfl (lv_at hl 2 rfl) ?_
                                refine lv_iload_n hx hb dL_refusesAny_441 rfl (lv_at hl 1 rfl) ?_
                                refine lv_iconst (v := 0) hx hb dL_refusesAny_442 (by decide) ?_
                                refine lv_bipush (v := 9) hx hb dL_refusesAny_443 (by decide) ?_
                                refine xo_Vi (As := [.int x21, .int 0, .int 9]) (rest := []) hx hb hml hown hts hK hN hZ hP hD hS hA mb_X7_foot mw_2_140 mw_2_141 mw_2_142 (k_X7_foot l D cI cZ cS x0 xs xv ho0 ho1 pd0 pd1 m0 ts0 ts1 a ha sa cn cs sc tm tv pd sv (0 : Int32) old sz z x21 (0 : Int32) (9 : Int32) hRS hI) 0 7 rfl rfl (fun _ => xwW_f) (by decide) (by decide) rfl hl.1 rfl (Nat.le_of_ble_eq_true rfl) dL_refusesAny_445 ⟨Nat.zero_le _, Nat.zero_le _⟩ (fun r445 u445 H locs hw hP hD hS => ?_)
                                have p445 : r445 = footR z x21 (0 : Int32) (9 : Int32) := hw
                                have hP : va_P D vwCl (xwW cI cZ cS x0 xs xv ho0 ho1 pd0 pd1 m0 ts0 ts1 a ha sa cn cs sc tm tv pd sv (0 : Int32) old sz z) H := hP
                                have hD : va_D A (xwW cI cZ cS x0 xs xv ho0 ho1 pd0 pd1 m0 ts0 ts1 a ha sa cn cs sc tm tv pd sv (0 : Int32) old sz z) := hD
                                refine xk_top (z := (-1)) (by exact p445.trans (ft_no (fun c8 => by have := c8.1.1; have := c8.1.2; omega))) ?_
                                refine lv_iconst (v := (-1)) hx hb dL_refusesAny_448 (by decide) ?_
                                refine lv_icmp_ne (tgt := 631) hx hb dL_refusesAny_449 (by decide) (fun c449 => absurd (by decide) c449) (fun _ => ?_)
                                refine lv_aload_n hx hb dL_refusesAny_452 rfl (lv_at hl 2 rfl) ?_
                                refine lv_iload_n hx hb dL_refusesAny_453 rfl (lv_at hl 1 rfl) ?_
                                refine lv_bipush (v := 9) hx hb dL_refusesAny_454 (by decide) ?_
                                refine xo_Vi (As := [.int x21, .int 9]) (rest := []) hx hb hml hown hts hK hN hZ hP hD hS hA mb_X7_stretch mw_2_121 mw_2_122 mw_2_123 (k_X7_stretch l D cI cZ cS x0 xs xv ho0 ho1 pd0 pd1 m0 ts0 ts1 a ha sa cn cs sc tm tv pd sv (0 : Int32) old sz z x21 (9 : Int32) hRS hI) 0 7 rfl rfl (fun _ => xwW_f) (by decide) (by decide) rfl hl.1 rfl (Nat.le_of_ble_eq_true rfl) dL_refusesAny_456 ⟨Nat.zero_le _, Nat.zero_le _⟩ (fun r456 u456 H locs hw hP hD hS => ?_)
                                have p456 : strA z x21 (9 : Int32) r456 := hw
                                have hP : va_P D vwCl (xwW cI cZ cS x0 xs xv ho0 ho1 pd0 pd1 m0 ts0 ts1 a ha sa cn cs sc tm tv pd sv (0 : Int32) old sz z) H := hP
                                have hD : va_D A (xwW cI cZ cS x0 xs xv ho0 ho1 pd0 pd1 m0 ts0 ts1 a ha sa cn cs sc tm tv pd sv (0 : Int32) old sz z) := hD
                                refine xk_top (z := (-1)) (by exact st_no (fun c8 => by have := c8.1; have := c8.2; omega) p456) ?_
                                refine lv_iconst (v := (-1)) hx hb dL_refusesAny_459 (by decide) ?_
                                refine lv_icmp_ne (tgt := 631) hx hb dL_refusesAny_460 (by decide) (fun c460 => absurd (by decide) c460) (fun _ => ?_)
                                have J514 : ∀   (H : Heap) (locs : List Loc), va_P D vwCl (xwW cI cZ cS x0 xs xv ho0 ho1 pd0 pd1 m0 ts0 ts1 a ha sa cn cs sc tm tv pd sv (0 : Int32) old sz z) H → va_D A (xwW cI cZ cS x0 xs xv ho0 ho1 pd0 pd1 m0 ts0 ts1 a ha sa cn cs sc tm tv pd sv (0 : Int32) old sz z) → va_S A s.heap H locs → ∀ ls : Array Slot, lv_has ls 5 [(4, .int 1), (2, .int x21), (0, .ref x0), (1, .int p1), (3, .int b)] → W p l e ({ frames := 7, cells := 0, slots := 0, locals := 159 } : Room) s m args below meth c H locs 0 0 Q (F0 m 514 ls []) := by
                                  intro  H locs hP hD hS ls hl
                                  refine lv_aload_n hx hb dL_refusesAny_514 rfl (lv_at hl 2 rfl) ?_
                                  refine lv_iload_n hx hb dL_refusesAny_515 rfl (lv_at hl 3 rfl) ?_
                                  refine lv_iconst (v := 2) hx hb dL_refusesAny_516 (by decide) ?_
                                  refine lv_irem hx hb dL_refusesAny_517 (by decide) ?_
                                  refine lv_topi (fun x517 e517 => ?_)
                                  have t517 : x517.toInt = p1.toInt % 2 := by rw [e517]; exact xi_rem rfl (by decide) (by omega) (by omega)
                                  refine lv_if_ne (tgt := 525) hx hb dL_refusesAny_518 (by decide) (fun c518 => ?_) (fun c518 => ?_)
                                  · have t518 : ¬ x517.toInt = 0 := xi_ne rfl (by decide) c518
                                    have d518 : ¬ x517 = 0 := c518
                                    refine lv_bipush (v := 15) hx hb dL_refusesAny_525 (by decide) ?_
                                    refine xo_Vi (As := [.int 15]) (rest := []) hx hb hml hown hts hK hN hZ hP hD hS hA mb_X7_walk mw_1_238 mw_1_239 mw_2_0 (k_X7_walk l D cI cZ cS x0 xs xv ho0 ho1 pd0 pd1 m0 ts0 ts1 a ha sa cn cs sc tm tv pd sv (0 : Int32) old sz z (15 : Int32) hRS hI) 0 7 rfl rfl (fun _ => xwW_f) (by decide) (by decide) rfl hl.1 rfl (Nat.le_of_ble_eq_true rfl) dL_refusesAny_527 ⟨Nat.zero_le _, Nat.zero_le _⟩ (fun r527 u527 H locs hw hP hD hS => ?_)
                                    have p527 : r527 = walkR z (15 : Int32) := hw
                                    have hP : va_P D vwCl (xwW cI cZ cS x0 xs xv ho0 ho1 pd0 pd1 m0 ts0 ts1 a ha sa cn cs sc tm tv pd sv (0 : Int32) old sz z) H := hP
                                    have hD : va_D A (xwW cI cZ cS x0 xs xv ho0 ho1 pd0 pd1 m0 ts0 ts1 a ha sa cn cs sc tm tv pd sv (0 : Int32) old sz z) := hD
                                    refine xk_top (z := (-2)) (by exact p527.trans (wk_bad z (by decide))) ?_
                                    refine lv_bipush (v := (-2)) hx hb dL_refusesAny_530 (by decide) ?_
                                    refine lv_icmp_ne (tgt := 631) hx hb dL_refusesAny_532 (by decide) (fun c532 => absurd (by decide) c532) (fun _ => ?_)
                                    refine lv_aload_n hx hb dL_refusesAny_535 rfl (lv_at hl 2 rfl) ?_
                                    refine lv_iload_n hx hb dL_refusesAny_536 rfl (lv_at hl 3 rfl) ?_
                                    refine lv_iconst (v := 2) hx hb dL_refusesAny_537 (by decide) ?_
                                    refine lv_irem hx hb dL_refusesAny_538 (by decide) ?_
                                    refine lv_topi (fun x538 e538 => ?_)
                                    have t538 : x538.toInt = p1.toInt % 2 := by rw [e538]; exact xi_rem rfl (by decide) (by omega) (by omega)
                                    refine lv_if_ne (tgt := 546) hx hb dL_refusesAny_539 (by decide) (fun c539 => ?_) (fun c539 => ?_)
                                    · have t539 : ¬ x538.toInt = 0 := xi_ne rfl (by decide) c539
                                      have d539 : ¬ x538 = 0 := c539
                                      refine lv_bipush (v := 13) hx hb dL_refusesAny_546 (by decide) ?_
                                      refine xo_Vi (As := [.int 13]) (rest := []) hx hb hml hown hts hK hN hZ hP hD hS hA mb_X7_count mw_2_6 mw_2_7 mw_2_8 (k_X7_count l D cI cZ cS x0 xs xv ho0 ho1 pd0 pd1 m0 ts0 ts1 a ha sa cn cs sc tm tv pd sv (0 : Int32) old sz z (13 : Int32) hRS hI) 0 7 rfl rfl (fun _ => xwW_f) (by decide) (by decide) rfl hl.1 rfl (Nat.le_of_ble_eq_true rfl) dL_refusesAny_548 ⟨Nat.zero_le _, Nat.zero_le _⟩ (fun r548 u548 H locs hw hP hD hS => ?_)
                                      have p548 : r548 = cntR z (0 : Int32) sz (13 : Int32) := hw
                                      have hP : va_P D vwCl (xwW cI cZ cS x0 xs xv ho0 ho1 pd0 pd1 m0 ts0 ts1 a ha sa cn cs sc tm tv pd sv (0 : Int32) old sz z) H := hP
                                      have hD : va_D A (xwW cI cZ cS x0 xs xv ho0 ho1 pd0 pd1 m0 ts0 ts1 a ha sa cn cs sc tm tv pd sv (0 : Int32) old sz z) := hD
                                      refine xk_top (z := (-2)) (by exact p548.trans (ct_bad z _ _ (by decide))) ?_
                                      refine lv_bipush (v := (-2)) hx hb dL_refusesAny_551 (by decide) ?_
                                      refine lv_icmp_ne (tgt := 631) hx hb dL_refusesAny_553 (by decide) (fun c553 => absurd (by decide) c553) (fun _ => ?_)
                                      refine lv_aload_n hx hb dL_refusesAny_556 rfl (lv_at hl 2 rfl) ?_
                                      refine lv_iload_n hx hb dL_refusesAny_557 rfl (lv_at hl 3 rfl) ?_
                                      refine lv_iconst (v := 2) hx hb dL_refusesAny_558 (by decide) ?_
                                      refine lv_irem hx hb dL_refusesAny_559 (by decide) ?_
                                      refine lv_topi (fun x559 e559 => ?_)
                                      have t559 : x559.toInt = p1.toInt % 2 := by rw [e559]; exact xi_rem rfl (by decide) (by omega) (by omega)
                                      refine lv_if_ne (tgt := 567) hx hb dL_refusesAny_560 (by decide) (fun c560 => ?_) (fun c560 => ?_)
                                      · have t560 : ¬ x559.toInt = 0 := xi_ne rfl (by decide) c560
                                        have d560 : ¬ x559 = 0 := c560
                                        refine lv_iconst (v := 4) hx hb dL_refusesAny_567 (by decide) ?_
                                        refine xo_Vi (As := [.int 4]) (rest := []) hx hb hml hown hts hK hN hZ hP hD hS hA mb_X7_untilWalked mw_2_177 mw_2_178 mw_2_179 (k_X7_untilWalked l D cI cZ cS x0 xs xv ho0 ho1 pd0 pd1 m0 ts0 ts1 a ha sa cn cs sc tm tv pd sv (0 : Int32) old sz z (4 : Int32) hRS hI) 0 7 rfl rfl (fun _ => xwW_f) (by decide) (by decide) rfl hl.1 rfl (Nat.le_of_ble_eq_true rfl) dL_refusesAny_568 ⟨Nat.zero_le _, Nat.zero_le _⟩ (fun r568 u568 H locs hw hP hD hS => ?_)
                                        obtain ⟨tq_568, rfl⟩ : ∃ q, q = u568 := ⟨_, rfl⟩
                                        have p568 : r568 = untR z (4 : Int32) := hw
                                        have hP : va_P D vwCl (xwW cI cZ cS x0 xs xv ho0 ho1 pd0 pd1 m0 ts0 ts1 a ha sa cn cs sc tq_568 tv pd sv (0 : Int32) old sz z) H := hP
                                        have hD : va_D A (xwW cI cZ cS x0 xs xv ho0 ho1 pd0 pd1 m0 ts0 ts1 a ha sa cn cs sc tq_568 tv pd sv (0 : Int32) old sz z) := hD
                                        refine xk_top (z := (-2)) (by exact p568.trans (un_bad z (by decide))) ?_
                                        refine lv_bipush (v := (-2)) hx hb dL_refusesAny_571 (by decide) ?_
                                        refine lv_icmp_ne (tgt := 631) hx hb dL_refusesAny_573 (by decide) (fun c573 => absurd (by decide) c573) (fun _ => ?_)
                                        refine lv_aload_n hx hb dL_refusesAny_576 rfl (lv_at hl 2 rfl) ?_
                                        refine lv_iload_n hx hb dL_refusesAny_577 rfl (lv_at hl 1 rfl) ?_
                                        refine lv_bipush (v := 9) hx hb dL_refusesAny_578 (by decide) ?_
                                        refine xo_Vi (As := [.int x21, .int 9]) (rest := []) hx hb hml hown hts hK hN hZ hP hD hS hA mb_X7_meets mw_2_161 mw_2_162 mw_2_163 (k_X7_meets l D cI cZ cS x0 xs xv ho0 ho1 pd0 pd1 m0 ts0 ts1 a ha sa cn cs sc tq_568 tv pd sv (0 : Int32) old sz z x21 (9 : Int32) hRS hI) 0 7 rfl rfl (fun _ => xwW_f) (by decide) (by decide) rfl hl.1 rfl (Nat.le_of_ble_eq_true rfl) dL_refusesAny_580 ⟨Nat.zero_le _, Nat.zero_le _⟩ (fun r580 u580 H locs hw hP hD hS => ?_)
                                        have p580 : meetA z x21 (9 : Int32) r580 := hw
                                        have hP : va_P D vwCl (xwW cI cZ cS x0 xs xv ho0 ho1 pd0 pd1 m0 ts0 ts1 a ha sa cn cs sc tq_568 tv pd sv (0 : Int32) old sz z) H := hP
                                        have hD : va_D A (xwW cI cZ cS x0 xs xv ho0 ho1 pd0 pd1 m0 ts0 ts1 a ha sa cn cs sc tq_568 tv pd sv (0 : Int32) old sz z) := hD
                                        refine xk_top (z := (-1)) (by exact mt_no (fun c8 => by have := c8.1; have := c8.2; omega) p580) ?_
                                        refine lv_iconst (v := (-1)) hx hb dL_refusesAny_583 (by decide) ?_
                                        refine lv_icmp_ne (tgt := 631) hx hb dL_refusesAny_584 (by decide) (fun c584 => absurd (by decide) c584) (fun _ => ?_)
                                        refine lv_aload_n hx hb dL_refusesAny_587 rfl (lv_at hl 2 rfl) ?_
                                        refine lv_iload_n hx hb dL_refusesAny_588 rfl (lv_at hl 3 rfl) ?_
                                        refine lv_iconst (v := 2) hx hb dL_refusesAny_589 (by decide) ?_
                                        refine lv_irem hx hb dL_refusesAny_590 (by decide) ?_
                                        refine lv_topi (fun x590 e590 => ?_)
                                        have t590 : x590.toInt = p1.toInt % 2 := by rw [e590]; exact xi_rem rfl (by decide) (by omega) (by omega)
                                        refine lv_if_ne (tgt := 598) hx hb dL_refusesAny_591 (by decide) (fun c591 => ?_) (fun c591 => ?_)
                                        · have t591 : ¬ x590.toInt = 0 := xi_ne rfl (by decide) c591
                                          have d591 : ¬ x590 = 0 := c591
                                          refine lv_iconst (v := 2) hx hb dL_refusesAny_598 (by decide) ?_
                                          refine xo_Vi (As := [.int 2]) (rest := []) hx hb hml hown hts hK hN hZ hP hD hS hA mb_X7_save mw_2_94 mw_2_95 mw_2_96 (k_X7_save l D cI cZ cS x0 xs xv ho0 ho1 pd0 pd1 m0 ts0 ts1 a ha sa cn cs sc tq_568 tv pd sv (0 : Int32) old sz z (2 : Int32) hRS hI) 0 7 rfl rfl (fun _ => xwW_f) (by decide) (by decide) rfl hl.1 rfl (Nat.le_of_ble_eq_true rfl) dL_refusesAny_599 ⟨Nat.zero_le _, Nat.zero_le _⟩ (fun r599 u599 H locs hw hP hD hS => ?_)
                                          obtain ⟨sc1_599, sv1_599⟩ := u599
                                          have p599 : r599 = (if slotV (2 : Int32) then z 174 else -2) ∧ ((slotV (2 : Int32) ∧ sc1_599 = recC sc (cZm cn z) 2 ∧ sv1_599 = upd sv 2 1) ∨ (¬ slotV (2 : Int32) ∧ sc1_599 = sc ∧ sv1_599 = sv)) := hw
                                          have hP : va_P D vwCl (xwW cI cZ cS x0 xs xv ho0 ho1 pd0 pd1 m0 ts0 ts1 a ha sa cn cs sc1_599 tq_568 tv pd sv1_599 (0 : Int32) old sz z) H := hP
                                          have hD : va_D A (xwW cI cZ cS x0 xs xv ho0 ho1 pd0 pd1 m0 ts0 ts1 a ha sa cn cs sc1_599 tq_568 tv pd sv1_599 (0 : Int32) old sz z) := hD
                                          have w599 : r599 = -2 ∧ sc1_599 = sc ∧ sv1_599 = sv := by
                                            refine ⟨p599.1.trans (if_neg (by decide)), ?_⟩
                                            rcases p599.2 with ⟨c9, -⟩ | ⟨-, h9⟩
                                            · exact absurd c9 (by decide)
                                            · exact h9
                                          obtain ⟨w599, w599_0, w599_1⟩ := w599
                                          rw [w599_0, w599_1] at hP hD
                                          have hP : va_P D vwCl (xwW cI cZ cS x0 xs xv ho0 ho1 pd0 pd1 m0 ts0 ts1 a ha sa cn cs sc tq_568 tv pd sv (0 : Int32) old sz z) H := hP
                                          have hD : va_D A (xwW cI cZ cS x0 xs xv ho0 ho1 pd0 pd1 m0 ts0 ts1 a ha sa cn cs sc tq_568 tv pd sv (0 : Int32) old sz z) := hD
                                          refine xk_top (z := (-2)) (by exact w599) ?_
                                          refine lv_bipush (v := (-2)) hx hb dL_refusesAny_602 (by decide) ?_
                                          refine lv_icmp_ne (tgt := 631) hx hb dL_refusesAny_604 (by decide) (fun c604 => absurd (by decide) c604) (fun _ => ?_)
                                          refine lv_aload_n hx hb dL_refusesAny_607 rfl (lv_at hl 2 rfl) ?_
                                          refine lv_iload_n hx hb dL_refusesAny_608 rfl (lv_at hl 3 rfl) ?_
                                          refine lv_iconst (v := 2) hx hb dL_refusesAny_609 (by decide) ?_
                                          refine lv_irem hx hb dL_refusesAny_610 (by decide) ?_
                                          refine lv_topi (fun x610 e610 => ?_)
                                          have t610 : x610.toInt = p1.toInt % 2 := by rw [e610]; exact xi_rem rfl (by decide) (by omega) (by omega)
                                          refine lv_if_ne (tgt := 618) hx hb dL_refusesAny_611 (by decide) (fun c611 => ?_) (fun c611 => ?_)
                                          · have t611 : ¬ x610.toInt = 0 := xi_ne rfl (by decide) c611
                                            have d611 : ¬ x610 = 0 := c611
                                            refine lv_iconst (v := 2) hx hb dL_refusesAny_618 (by decide) ?_
                                            refine xo_Vi (As := [.int 2]) (rest := []) hx hb hml hown hts hK hN hZ hP hD hS hA mb_X7_restore mw_2_102 mw_2_103 mw_2_104 (k_X7_restore l D cI cZ cS x0 xs xv ho0 ho1 pd0 pd1 m0 ts0 ts1 a ha sa cn cs sc tq_568 tv pd sv (0 : Int32) old sz z z (2 : Int32) hRS hI hold hszz (fun i hi => (hmsc i hi).1) (fun i hi => (hmsc i hi).2) (fun c9 => absurd c9.1 (by decide))) 0 7 rfl rfl (fun _ => xwW_f) (by decide) (by decide) rfl hl.1 rfl (Nat.le_of_ble_eq_true rfl) dL_refusesAny_619 ⟨Nat.zero_le _, Nat.zero_le _⟩ (fun r619 u619 H locs hw hP hD hS => ?_)
                                            obtain ⟨cq_619, zq_619, old1_619, sz1_619, cs1_619⟩ := u619
                                            have p619 : r619 = (if slotV (2 : Int32) then (if sv 2 = 0 then -5 else z 174) else -2) ∧ ((restC (2 : Int32) sv ∧ cq_619 = sc 2 ∧ zq_619 = z ∧ old1_619 = oldR old sz ∧ sz1_619 = szR sz ∧ cs1_619 = recC cs (cZm cn z) (jR old sz)) ∨ (¬ restC (2 : Int32) sv ∧ Same cn z old sz cs cq_619 zq_619 old1_619 sz1_619 cs1_619)) := hw
                                            have hP : va_P D vwCl (xwW cI cZ cS x0 xs xv ho0 ho1 pd0 pd1 m0 ts0 ts1 a ha sa cq_619 cs1_619 sc tq_568 tv pd sv (0 : Int32) old1_619 sz1_619 zq_619) H := hP
                                            have hD : va_D A (xwW cI cZ cS x0 xs xv ho0 ho1 pd0 pd1 m0 ts0 ts1 a ha sa cq_619 cs1_619 sc tq_568 tv pd sv (0 : Int32) old1_619 sz1_619 zq_619) := hD
                                            have w619 : r619 = -2 ∧ cq_619 = cn ∧ zq_619 = z ∧ old1_619 = old ∧ sz1_619 = sz ∧ cs1_619 = cs := by
                                              refine ⟨p619.1.trans (if_neg (by decide)), ?_⟩
                                              rcases p619.2 with ⟨c9, -⟩ | ⟨-, h9⟩
                                              · exact absurd c9 (fun c8 => absurd c8.1 (by decide))
                                              · exact h9
                                            obtain ⟨w619, w619_0, w619_1, w619_2, w619_3, w619_4⟩ := w619
                                            rw [w619_0, w619_1, w619_2, w619_3, w619_4] at hP hD
                                            have hP : va_P D vwCl (xwW cI cZ cS x0 xs xv ho0 ho1 pd0 pd1 m0 ts0 ts1 a ha sa cn cs sc tq_568 tv pd sv (0 : Int32) old sz z) H := hP
                                            have hD : va_D A (xwW cI cZ cS x0 xs xv ho0 ho1 pd0 pd1 m0 ts0 ts1 a ha sa cn cs sc tq_568 tv pd sv (0 : Int32) old sz z) := hD
                                            refine xk_top (z := (-2)) (by exact w619) ?_
                                            refine lv_bipush (v := (-2)) hx hb dL_refusesAny_622 (by decide) ?_
                                            refine lv_icmp_ne (tgt := 631) hx hb dL_refusesAny_624 (by decide) (fun c624 => absurd (by decide) c624) (fun _ => ?_)
                                            refine lv_iconst (v := 1) hx hb dL_refusesAny_627 (by decide) ?_
                                            refine lv_goto (tgt := 632) hx hb dL_refusesAny_628 (by decide) ?_
                                            refine lv_istore (lv' := [(4, .int 1), (2, .int x21), (0, .ref x0), (1, .int p1), (3, .int b)]) hx hb dL_refusesAny_632 hl (by decide) rfl (fun ls hl => ?_)
                                            refine lv_iload hx hb dL_refusesAny_634 (lv_at hl 0 rfl) ?_
                                            refine lv_if_eq (tgt := 666) hx hb dL_refusesAny_636 (by decide) (fun c636 => absurd c636 (by decide)) (fun _ => ?_)
                                            refine lv_aload_n hx hb dL_refusesAny_639 rfl (lv_at hl 2 rfl) ?_
                                            refine xo_Vi (As := []) (rest := []) hx hb hml hown hts hK hN hZ hP hD hS hA mb_X7_wipe mw_3_37 mw_3_38 mw_3_39 (k_X7_wipe l D cI cZ cS x0 xs xv ho0 ho1 pd0 pd1 m0 ts0 ts1 a ha sa cn cs sc tq_568 tv pd sv (0 : Int32) old sz z hRS hI) 0 7 rfl rfl (fun _ => xwW_f) (by decide) (by decide) rfl hl.1 rfl (Nat.le_of_ble_eq_true rfl) dL_refusesAny_640 ⟨Nat.zero_le _, Nat.zero_le _⟩ (fun r640 u640 H locs hw hP hD hS => ?_)
                                            have p640 : r640 = (0 : Int32) := hw
                                            have hP : va_P D vwCl (xwW cI cZ cS x0 xs xv ho0 ho1 pd0 pd1 m0 ts0 ts1 a ha sa cn cs sc tq_568 tv pd sv (0 : Int32) old sz z) H := hP
                                            have hD : va_D A (xwW cI cZ cS x0 xs xv ho0 ho1 pd0 pd1 m0 ts0 ts1 a ha sa cn cs sc tq_568 tv pd sv (0 : Int32) old sz z) := hD
                                            refine xk_top (z := 0) (by exact p640) ?_
                                            refine lv_if_ne (tgt := 666) hx hb dL_refusesAny_643 (by decide) (fun c643 => absurd (by decide) c643) (fun _ => ?_)
                                            refine lv_aload_n hx hb dL_refusesAny_646 rfl (lv_at hl 2 rfl) ?_
                                            refine xo_Vi (As := []) (rest := []) hx hb hml hown hts hK hN hZ hP hD hS hA mb_X7_read mw_3_45 mw_3_46 mw_3_47 (k_X7_read l D cI cZ cS x0 xs xv ho0 ho1 pd0 pd1 m0 ts0 ts1 a ha sa cn cs sc tq_568 tv pd sv (0 : Int32) old sz z hRS hI hold hszz hlnn) 0 7 rfl rfl (fun _ => xwW_f) (by decide) (by decide) rfl hl.1 rfl (Nat.le_of_ble_eq_true rfl) dL_refusesAny_647 ⟨Nat.zero_le _, Nat.zero_le _⟩ (fun r647 u647 H locs hw hP hD hS => ?_)
                                            obtain ⟨cq_647, zq_647, old1_647, sz1_647, cs1_647, ln1_647⟩ := u647
                                            have p647 : (FN pd 0 ∧ r647 = cq_647 7 0 ∧ ln1_647 = 0 ∧ zq_647 = beginZ z ∧ WrI pd 0 (cq_647 7 0) (cq_647 1) (cq_647 2) (cq_647 3) ∧ cq_647 0 = cn 0 ∧ cq_647 4 = cn 4 ∧ cq_647 5 = cn 5 ∧ cq_647 6 = cn 6 ∧ cq_647 7 1 = cn 7 1 ∧ old1_647 = oldR old sz ∧ sz1_647 = szR sz ∧ cs1_647 = recC cs (cZm cn z) (jR old sz)) ∨ (¬ FN pd 0 ∧ r647 = -3 ∧ ln1_647 = (0 : Int32) ∧ Same cn z old sz cs cq_647 zq_647 old1_647 sz1_647 cs1_647) := hw
                                            have hP : va_P D vwCl (xwW cI cZ cS x0 xs xv ho0 ho1 pd0 pd1 m0 ts0 ts1 a ha sa cq_647 cs1_647 sc tq_568 tv pd sv ln1_647 old1_647 sz1_647 zq_647) H := hP
                                            have hD : va_D A (xwW cI cZ cS x0 xs xv ho0 ho1 pd0 pd1 m0 ts0 ts1 a ha sa cq_647 cs1_647 sc tq_568 tv pd sv ln1_647 old1_647 sz1_647 zq_647) := hD
                                            have w647 : r647 = -3 ∧ ln1_647 = (0 : Int32) ∧ cq_647 = cn ∧ zq_647 = z ∧ old1_647 = old ∧ sz1_647 = sz ∧ cs1_647 = cs := by
                                              rcases p647 with ⟨c9, -⟩ | ⟨-, h9⟩
                                              · exact absurd c9 (FN_0 pd)
                                              · exact h9
                                            obtain ⟨w647, w647_0, w647_1, w647_2, w647_3, w647_4, w647_5⟩ := w647
                                            rw [w647_0, w647_1, w647_2, w647_3, w647_4, w647_5] at hP hD
                                            have hP : va_P D vwCl (xwW cI cZ cS x0 xs xv ho0 ho1 pd0 pd1 m0 ts0 ts1 a ha sa cn cs sc tq_568 tv pd sv (0 : Int32) old sz z) H := hP
                                            have hD : va_D A (xwW cI cZ cS x0 xs xv ho0 ho1 pd0 pd1 m0 ts0 ts1 a ha sa cn cs sc tq_568 tv pd sv (0 : Int32) old sz z) := hD
                                            refine xk_top (z := (-3)) (by exact w647) ?_
                                            refine lv_bipush (v := (-3)) hx hb dL_refusesAny_650 (by decide) ?_
                                            refine lv_icmp_ne (tgt := 666) hx hb dL_refusesAny_652 (by decide) (fun c652 => absurd (by decide) c652) (fun _ => ?_)
                                            refine lv_aload_n hx hb dL_refusesAny_655 rfl (lv_at hl 2 rfl) ?_
                                            refine xo_Vi (As := []) (rest := []) hx hb hml hown hts hK hN hZ hP hD hS hA mb_X7_fault mw_3_77 mw_3_78 mw_3_79 (k_X7_fault l D cI cZ cS x0 xs xv ho0 ho1 pd0 pd1 m0 ts0 ts1 a ha sa cn cs sc tq_568 tv pd sv (0 : Int32) old sz z hRS hI hlnn) 0 7 rfl rfl (fun _ => xwW_f) (by decide) (by decide) rfl hl.1 rfl (Nat.le_of_ble_eq_true rfl) dL_refusesAny_656 ⟨Nat.zero_le _, Nat.zero_le _⟩ (fun r656 u656 H locs hw hP hD hS => ?_)
                                            have p656 : (FN pd 0 ∧ r656 = -6) ∨ (FA pd 0 r656.toInt.toNat ∧ 0 ≤ r656.toInt ∧ r656.toInt ≤ 0) := hw
                                            have hP : va_P D vwCl (xwW cI cZ cS x0 xs xv ho0 ho1 pd0 pd1 m0 ts0 ts1 a ha sa cn cs sc tq_568 tv pd sv (0 : Int32) old sz z) H := hP
                                            have hD : va_D A (xwW cI cZ cS x0 xs xv ho0 ho1 pd0 pd1 m0 ts0 ts1 a ha sa cn cs sc tq_568 tv pd sv (0 : Int32) old sz z) := hD
                                            refine xk_top (z := 0) (by exact p656.elim (fun h9 => absurd h9.1 (FN_0 pd)) (fun h9 => xi_ext (by have := h9.2; omega))) ?_
                                            refine lv_if_ne (tgt := 666) hx hb dL_refusesAny_659 (by decide) (fun c659 => absurd (by decide) c659) (fun _ => ?_)
                                            refine lv_iconst (v := 1) hx hb dL_refusesAny_662 (by decide) ?_
                                            refine lv_goto (tgt := 667) hx hb dL_refusesAny_663 (by decide) ?_
                                            exact xk_retz tq_568 hx hb hr hlocks (by decide) (xk_P hP (by rfl)) (by rfl) hS dL_refusesAny_667 hQ
                                          · have t611 : x610.toInt = 0 := xi_eq rfl (by decide) c611
                                            have d611 : x610 = 0 := c611
                                            omega
                                        · have t591 : x590.toInt = 0 := xi_eq rfl (by decide) c591
                                          have d591 : x590 = 0 := c591
                                          omega
                                      · have t560 : x559.toInt = 0 := xi_eq rfl (by decide) c560
                                        have d560 : x559 = 0 := c560
                                        omega
                                    · have t539 : x538.toInt = 0 := xi_eq rfl (by decide) c539
                                      have d539 : x538 = 0 := c539
                                      omega
                                  · have t518 : x517.toInt = 0 := xi_eq rfl (by decide) c518
                                    have d518 : x517 = 0 := c518
                                    omega
                                refine lv_aload_n hx hb dL_refusesAny_463 rfl (lv_at hl 2 rfl) ?_
                                refine lv_bipush (v := 9) hx hb dL_refusesAny_464 (by decide) ?_
                                refine xo_Vi (As := [.int 9]) (rest := []) hx hb hml hown hts hK hN hZ hP hD hS hA mb_X7_count mw_2_6 mw_2_7 mw_2_8 (k_X7_count l D cI cZ cS x0 xs xv ho0 ho1 pd0 pd1 m0 ts0 ts1 a ha sa cn cs sc tm tv pd sv (0 : Int32) old sz z (9 : Int32) hRS hI) 0 7 rfl rfl (fun _ => xwW_f) (by decide) (by decide) rfl hl.1 rfl (Nat.le_of_ble_eq_true rfl) dL_refusesAny_466 ⟨Nat.zero_le _, Nat.zero_le _⟩ (fun r466 u466 H locs hw hP hD hS => ?_)
                                have p466 : r466 = cntR z (0 : Int32) sz (9 : Int32) := hw
                                have hP : va_P D vwCl (xwW cI cZ cS x0 xs xv ho0 ho1 pd0 pd1 m0 ts0 ts1 a ha sa cn cs sc tm tv pd sv (0 : Int32) old sz z) H := hP
                                have hD : va_D A (xwW cI cZ cS x0 xs xv ho0 ho1 pd0 pd1 m0 ts0 ts1 a ha sa cn cs sc tm tv pd sv (0 : Int32) old sz z) := hD
                                refine xk_top (z := (z 7)) (by exact p466.trans (ct_9 _ _ _)) ?_
                                refine lv_if_eq (tgt := 514) hx hb dL_refusesAny_469 (by decide) (fun c469 => ?_) (fun c469 => ?_)
                                · have t469 : (z 7).toInt = 0 := xi_eq rfl (by decide) c469
                                  have d469 : (z 7) = 0 := c469
                                  exact J514   _ _ hP hD hS ls (lv_sub hl [0, 1, 2, 3, 4] rfl)
                                · have t469 : ¬ (z 7).toInt = 0 := xi_ne rfl (by decide) c469
                                  have d469 : ¬ (z 7) = 0 := c469
                                  have h70 : 0 < (z 7).toInt := by omega
                                  refine lv_aload_n hx hb dL_refusesAny_472 rfl (lv_at hl 2 rfl) ?_
                                  refine lv_iconst (v := 0) hx hb dL_refusesAny_473 (by decide) ?_
                                  refine lv_iload_n hx hb dL_refusesAny_474 rfl (lv_at hl 3 rfl) ?_
                                  refine lv_iconst (v := 2) hx hb dL_refusesAny_475 (by decide) ?_
                                  refine lv_irem hx hb dL_refusesAny_476 (by decide) ?_
                                  refine lv_topi (fun x476 e476 => ?_)
                                  have t476 : x476.toInt = p1.toInt % 2 := by rw [e476]; exact xi_rem rfl (by decide) (by omega) (by omega)
                                  refine lv_if_ne (tgt := 484) hx hb dL_refusesAny_477 (by decide) (fun c477 => ?_) (fun c477 => ?_)
                                  · have t477 : ¬ x476.toInt = 0 := xi_ne rfl (by decide) c477
                                    have d477 : ¬ x476 = 0 := c477
                                    refine lv_iconst (v := 4) hx hb dL_refusesAny_484 (by decide) ?_
                                    refine xo_Vi (As := [.int 0, .int 4]) (rest := []) hx hb hml hown hts hK hN hZ hP hD hS hA mb_X7_stretch mw_2_121 mw_2_122 mw_2_123 (k_X7_stretch l D cI cZ cS x0 xs xv ho0 ho1 pd0 pd1 m0 ts0 ts1 a ha sa cn cs sc tm tv pd sv (0 : Int32) old sz z (0 : Int32) (4 : Int32) hRS hI) 0 7 rfl rfl (fun _ => xwW_f) (by decide) (by decide) rfl hl.1 rfl (Nat.le_of_ble_eq_true rfl) dL_refusesAny_485 ⟨Nat.zero_le _, Nat.zero_le _⟩ (fun r485 u485 H locs hw hP hD hS => ?_)
                                    have p485 : strA z (0 : Int32) (4 : Int32) r485 := hw
                                    have hP : va_P D vwCl (xwW cI cZ cS x0 xs xv ho0 ho1 pd0 pd1 m0 ts0 ts1 a ha sa cn cs sc tm tv pd sv (0 : Int32) old sz z) H := hP
                                    have hD : va_D A (xwW cI cZ cS x0 xs xv ho0 ho1 pd0 pd1 m0 ts0 ts1 a ha sa cn cs sc tm tv pd sv (0 : Int32) old sz z) := hD
                                    refine xk_top (z := (-2)) (by exact st_bad (str0 h70) (by decide) p485) ?_
                                    refine lv_bipush (v := (-2)) hx hb dL_refusesAny_488 (by decide) ?_
                                    refine lv_icmp_ne (tgt := 631) hx hb dL_refusesAny_490 (by decide) (fun c490 => absurd (by decide) c490) (fun _ => ?_)
                                    refine lv_aload_n hx hb dL_refusesAny_493 rfl (lv_at hl 2 rfl) ?_
                                    refine lv_iconst (v := 0) hx hb dL_refusesAny_494 (by decide) ?_
                                    refine lv_iload_n hx hb dL_refusesAny_495 rfl (lv_at hl 3 rfl) ?_
                                    refine lv_iconst (v := 2) hx hb dL_refusesAny_496 (by decide) ?_
                                    refine lv_irem hx hb dL_refusesAny_497 (by decide) ?_
                                    refine lv_topi (fun x497 e497 => ?_)
                                    have t497 : x497.toInt = p1.toInt % 2 := by rw [e497]; exact xi_rem rfl (by decide) (by omega) (by omega)
                                    refine lv_if_ne (tgt := 505) hx hb dL_refusesAny_498 (by decide) (fun c498 => ?_) (fun c498 => ?_)
                                    · have t498 : ¬ x497.toInt = 0 := xi_ne rfl (by decide) c498
                                      have d498 : ¬ x497 = 0 := c498
                                      refine lv_iconst (v := 2) hx hb dL_refusesAny_505 (by decide) ?_
                                      refine xo_Vi (As := [.int 0, .int 2]) (rest := []) hx hb hml hown hts hK hN hZ hP hD hS hA mb_X7_meets mw_2_161 mw_2_162 mw_2_163 (k_X7_meets l D cI cZ cS x0 xs xv ho0 ho1 pd0 pd1 m0 ts0 ts1 a ha sa cn cs sc tm tv pd sv (0 : Int32) old sz z (0 : Int32) (2 : Int32) hRS hI) 0 7 rfl rfl (fun _ => xwW_f) (by decide) (by decide) rfl hl.1 rfl (Nat.le_of_ble_eq_true rfl) dL_refusesAny_506 ⟨Nat.zero_le _, Nat.zero_le _⟩ (fun r506 u506 H locs hw hP hD hS => ?_)
                                      have p506 : meetA z (0 : Int32) (2 : Int32) r506 := hw
                                      have hP : va_P D vwCl (xwW cI cZ cS x0 xs xv ho0 ho1 pd0 pd1 m0 ts0 ts1 a ha sa cn cs sc tm tv pd sv (0 : Int32) old sz z) H := hP
                                      have hD : va_D A (xwW cI cZ cS x0 xs xv ho0 ho1 pd0 pd1 m0 ts0 ts1 a ha sa cn cs sc tm tv pd sv (0 : Int32) old sz z) := hD
                                      refine xk_top (z := (-2)) (by exact mt_bad (str0 h70) (by decide) p506) ?_
                                      refine lv_bipush (v := (-2)) hx hb dL_refusesAny_509 (by decide) ?_
                                      refine lv_icmp_ne (tgt := 631) hx hb dL_refusesAny_511 (by decide) (fun c511 => absurd (by decide) c511) (fun _ => ?_)
                                      exact J514   _ _ hP hD hS ls (lv_sub hl [0, 1, 2, 3, 4] rfl)
                                    · have t498 : x497.toInt = 0 := xi_eq rfl (by decide) c498
                                      have d498 : x497 = 0 := c498
                                      omega
                                  · have t477 : x476.toInt = 0 := xi_eq rfl (by decide) c477
                                    have d477 : x476 = 0 := c477
                                    omega
                              refine lv_aload_n hx hb dL_refusesAny_376 rfl (lv_at hl 2 rfl) ?_
                              refine lv_bipush (v := 6) hx hb dL_refusesAny_377 (by decide) ?_
                              refine xo_Vi (As := [.int 6]) (rest := []) hx hb hml hown hts hK hN hZ hP hD hS hA mb_X7_count mw_2_6 mw_2_7 mw_2_8 (k_X7_count l D cI cZ cS x0 xs xv ho0 ho1 pd0 pd1 m0 ts0 ts1 a ha sa cn cs sc tm tv pd sv (0 : Int32) old sz z (6 : Int32) hRS hI) 0 7 rfl rfl (fun _ => xwW_f) (by decide) (by decide) rfl hl.1 rfl (Nat.le_of_ble_eq_true rfl) dL_refusesAny_379 ⟨Nat.zero_le _, Nat.zero_le _⟩ (fun r379 u379 H locs hw hP hD hS => ?_)
                              have p379 : r379 = cntR z (0 : Int32) sz (6 : Int32) := hw
                              have hP : va_P D vwCl (xwW cI cZ cS x0 xs xv ho0 ho1 pd0 pd1 m0 ts0 ts1 a ha sa cn cs sc tm tv pd sv (0 : Int32) old sz z) H := hP
                              have hD : va_D A (xwW cI cZ cS x0 xs xv ho0 ho1 pd0 pd1 m0 ts0 ts1 a ha sa cn cs sc tm tv pd sv (0 : Int32) old sz z) := hD
                              refine xk_top (z := (z 6)) (by exact p379.trans (ct_6 _ _ _)) ?_
                              refine lv_if_eq (tgt := 440) hx hb dL_refusesAny_382 (by decide) (fun c382 => ?_) (fun c382 => ?_)
                              · have t382 : (z 6).toInt = 0 := xi_eq rfl (by decide) c382
                                have d382 : (z 6) = 0 := c382
                                exact J440   _ _ hP hD hS ls (lv_sub hl [0, 1, 2, 3, 4] rfl)
                              · have t382 : ¬ (z 6).toInt = 0 := xi_ne rfl (by decide) c382
                                have d382 : ¬ (z 6) = 0 := c382
                                have h60 : 0 < (z 6).toInt := by omega
                                refine lv_aload_n hx hb dL_refusesAny_385 rfl (lv_at hl 2 rfl) ?_
                                refine lv_iconst (v := 0) hx hb dL_refusesAny_386 (by decide) ?_
                                refine lv_iload_n hx hb dL_refusesAny_387 rfl (lv_at hl 3 rfl) ?_
                                refine lv_iconst (v := 2) hx hb dL_refusesAny_388 (by decide) ?_
                                refine lv_irem hx hb dL_refusesAny_389 (by decide) ?_
                                refine lv_topi (fun x389 e389 => ?_)
                                have t389 : x389.toInt = p1.toInt % 2 := by rw [e389]; exact xi_rem rfl (by decide) (by omega) (by omega)
                                refine lv_if_ne (tgt := 397) hx hb dL_refusesAny_390 (by decide) (fun c390 => ?_) (fun c390 => ?_)
                                · have t390 : ¬ x389.toInt = 0 := xi_ne rfl (by decide) c390
                                  have d390 : ¬ x389 = 0 := c390
                                  refine lv_iconst (v := 4) hx hb dL_refusesAny_397 (by decide) ?_
                                  refine xo_Vi (As := [.int 0, .int 4]) (rest := []) hx hb hml hown hts hK hN hZ hP hD hS hA mb_X7_line mw_2_150 mw_2_151 mw_2_152 (k_X7_line l D cI cZ cS x0 xs xv ho0 ho1 pd0 pd1 m0 ts0 ts1 a ha sa cn cs sc tm tv pd sv (0 : Int32) old sz z (0 : Int32) (4 : Int32) hRS hI) 0 7 rfl rfl (fun _ => xwW_f) (by decide) (by decide) rfl hl.1 rfl (Nat.le_of_ble_eq_true rfl) dL_refusesAny_398 ⟨Nat.zero_le _, Nat.zero_le _⟩ (fun r398 u398 H locs hw hP hD hS => ?_)
                                  have p398 : r398 = lineR z (0 : Int32) (4 : Int32) := hw
                                  have hP : va_P D vwCl (xwW cI cZ cS x0 xs xv ho0 ho1 pd0 pd1 m0 ts0 ts1 a ha sa cn cs sc tm tv pd sv (0 : Int32) old sz z) H := hP
                                  have hD : va_D A (xwW cI cZ cS x0 xs xv ho0 ho1 pd0 pd1 m0 ts0 ts1 a ha sa cn cs sc tm tv pd sv (0 : Int32) old sz z) := hD
                                  refine xk_top (z := (-2)) (by exact p398.trans (ln_bad (line0 h60) (by decide))) ?_
                                  refine lv_bipush (v := (-2)) hx hb dL_refusesAny_401 (by decide) ?_
                                  refine lv_icmp_ne (tgt := 631) hx hb dL_refusesAny_403 (by decide) (fun c403 => absurd (by decide) c403) (fun _ => ?_)
                                  refine lv_aload_n hx hb dL_refusesAny_406 rfl (lv_at hl 2 rfl) ?_
                                  refine lv_iconst (v := 0) hx hb dL_refusesAny_407 (by decide) ?_
                                  refine lv_iconst (v := 0) hx hb dL_refusesAny_408 (by decide) ?_
                                  refine lv_iload_n hx hb dL_refusesAny_409 rfl (lv_at hl 3 rfl) ?_
                                  refine lv_iconst (v := 2) hx hb dL_refusesAny_410 (by decide) ?_
                                  refine lv_irem hx hb dL_refusesAny_411 (by decide) ?_
                                  refine lv_topi (fun x411 e411 => ?_)
                                  have t411 : x411.toInt = p1.toInt % 2 := by rw [e411]; exact xi_rem rfl (by decide) (by omega) (by omega)
                                  refine lv_if_ne (tgt := 419) hx hb dL_refusesAny_412 (by decide) (fun c412 => ?_) (fun c412 => ?_)
                                  · have t412 : ¬ x411.toInt = 0 := xi_ne rfl (by decide) c412
                                    have d412 : ¬ x411 = 0 := c412
                                    refine lv_iconst (v := 2) hx hb dL_refusesAny_419 (by decide) ?_
                                    refine xo_Vi (As := [.int 0, .int 0, .int 2]) (rest := []) hx hb hml hown hts hK hN hZ hP hD hS hA mb_X7_foot mw_2_140 mw_2_141 mw_2_142 (k_X7_foot l D cI cZ cS x0 xs xv ho0 ho1 pd0 pd1 m0 ts0 ts1 a ha sa cn cs sc tm tv pd sv (0 : Int32) old sz z (0 : Int32) (0 : Int32) (2 : Int32) hRS hI) 0 7 rfl rfl (fun _ => xwW_f) (by decide) (by decide) rfl hl.1 rfl (Nat.le_of_ble_eq_true rfl) dL_refusesAny_420 ⟨Nat.zero_le _, Nat.zero_le _⟩ (fun r420 u420 H locs hw hP hD hS => ?_)
                                    have p420 : r420 = footR z (0 : Int32) (0 : Int32) (2 : Int32) := hw
                                    have hP : va_P D vwCl (xwW cI cZ cS x0 xs xv ho0 ho1 pd0 pd1 m0 ts0 ts1 a ha sa cn cs sc tm tv pd sv (0 : Int32) old sz z) H := hP
                                    have hD : va_D A (xwW cI cZ cS x0 xs xv ho0 ho1 pd0 pd1 m0 ts0 ts1 a ha sa cn cs sc tm tv pd sv (0 : Int32) old sz z) := hD
                                    refine xk_top (z := (-2)) (by exact p420.trans (ft_bad (foot00 hI.2.1 h60) (by decide))) ?_
                                    refine lv_bipush (v := (-2)) hx hb dL_refusesAny_423 (by decide) ?_
                                    refine lv_icmp_ne (tgt := 631) hx hb dL_refusesAny_425 (by decide) (fun c425 => absurd (by decide) c425) (fun _ => ?_)
                                    refine lv_aload_n hx hb dL_refusesAny_428 rfl (lv_at hl 2 rfl) ?_
                                    refine lv_iconst (v := 0) hx hb dL_refusesAny_429 (by decide) ?_
                                    refine lv_iload_n hx hb dL_refusesAny_430 rfl (lv_at hl 1 rfl) ?_
                                    refine lv_bipush (v := 9) hx hb dL_refusesAny_431 (by decide) ?_
                                    refine xo_Vi (As := [.int 0, .int x21, .int 9]) (rest := []) hx hb hml hown hts hK hN hZ hP hD hS hA mb_X7_foot mw_2_140 mw_2_141 mw_2_142 (k_X7_foot l D cI cZ cS x0 xs xv ho0 ho1 pd0 pd1 m0 ts0 ts1 a ha sa cn cs sc tm tv pd sv (0 : Int32) old sz z (0 : Int32) x21 (9 : Int32) hRS hI) 0 7 rfl rfl (fun _ => xwW_f) (by decide) (by decide) rfl hl.1 rfl (Nat.le_of_ble_eq_true rfl) dL_refusesAny_433 ⟨Nat.zero_le _, Nat.zero_le _⟩ (fun r433 u433 H locs hw hP hD hS => ?_)
                                    have p433 : r433 = footR z (0 : Int32) x21 (9 : Int32) := hw
                                    have hP : va_P D vwCl (xwW cI cZ cS x0 xs xv ho0 ho1 pd0 pd1 m0 ts0 ts1 a ha sa cn cs sc tm tv pd sv (0 : Int32) old sz z) H := hP
                                    have hD : va_D A (xwW cI cZ cS x0 xs xv ho0 ho1 pd0 pd1 m0 ts0 ts1 a ha sa cn cs sc tm tv pd sv (0 : Int32) old sz z) := hD
                                    refine xk_top (z := (-1)) (by exact p433.trans (ft_no (foot0no hI.2.1 (by omega)))) ?_
                                    refine lv_iconst (v := (-1)) hx hb dL_refusesAny_436 (by decide) ?_
                                    refine lv_icmp_ne (tgt := 631) hx hb dL_refusesAny_437 (by decide) (fun c437 => absurd (by decide) c437) (fun _ => ?_)
                                    exact J440   _ _ hP hD hS ls (lv_sub hl [0, 1, 2, 3, 4] rfl)
                                  · have t412 : x411.toInt = 0 := xi_eq rfl (by decide) c412
                                    have d412 : x411 = 0 := c412
                                    omega
                                · have t390 : x389.toInt = 0 := xi_eq rfl (by decide) c390
                                  have d390 : x389 = 0 := c390
                                  omega
                            refine lv_iload_n hx hb dL_refusesAny_315 rfl (lv_at hl 3 rfl) ?_
                            refine lv_if_eq (tgt := 328) hx hb dL_refusesAny_316 (by decide) (fun c316 => ?_) (fun c316 => ?_)
                            · have t316 : b.toInt = 0 := xi_eq rfl (by decide) c316
                              have d316 : b = 0 := c316
                              have hnm : ¬ (canZ z ∧ ¬ z 188 = 1) := fun c9 => hb47.elim (fun g => by have := g.1; omega) (fun g => g.2 c9.1)
                              refine lv_aload_n hx hb dL_refusesAny_328 rfl (lv_at hl 1 rfl) ?_
                              refine lv_iconst (v := 5) hx hb dL_refusesAny_329 (by decide) ?_
                              refine xo_Vi (As := [.int 5]) (rest := []) hx hb hml hown hts hK hN hZ hP hD hS hA mb_X7_march mw_3_33 mw_3_34 mw_3_35 (k_X7_march l D cI cZ cS x0 xs xv ho0 ho1 pd0 pd1 m0 ts0 ts1 a ha sa cn cs sc tm tv pd sv (0 : Int32) old sz z (5 : Int32) hRS hI hold hszz ⟨hb74, by omega⟩) 0 7 rfl rfl (fun _ => xwW_f) (by decide) (by decide) rfl hl.1 rfl (Nat.le_of_ble_eq_true rfl) dL_refusesAny_330 ⟨Nat.zero_le _, Nat.zero_le _⟩ (fun r330 u330 H locs hw hP hD hS => ?_)
                              obtain ⟨cq_330, zq_330, old1_330, sz1_330, cs1_330⟩ := u330
                              have p330 : marchA z (5 : Int32) r330 ∧ ((marchC z (5 : Int32) ∧ Chg cn z old sz cs (walkZ 5 z) cq_330 zq_330 old1_330 sz1_330 cs1_330) ∨ (¬ marchC z (5 : Int32) ∧ Same cn z old sz cs cq_330 zq_330 old1_330 sz1_330 cs1_330)) := hw
                              have hP : va_P D vwCl (xwW cI cZ cS x0 xs xv ho0 ho1 pd0 pd1 m0 ts0 ts1 a ha sa cq_330 cs1_330 sc tm tv pd sv (0 : Int32) old1_330 sz1_330 zq_330) H := hP
                              have hD : va_D A (xwW cI cZ cS x0 xs xv ho0 ho1 pd0 pd1 m0 ts0 ts1 a ha sa cq_330 cs1_330 sc tm tv pd sv (0 : Int32) old1_330 sz1_330 zq_330) := hD
                              have w330 : r330 = -5 ∧ cq_330 = cn ∧ zq_330 = z ∧ old1_330 = old ∧ sz1_330 = sz ∧ cs1_330 = cs := by
                                refine ⟨mc_not (by decide) hnm p330.1, ?_⟩
                                rcases p330.2 with ⟨c9, -⟩ | ⟨-, h9⟩
                                · exact absurd c9 (fun c8 => hnm c8.2)
                                · exact h9
                              obtain ⟨w330, w330_0, w330_1, w330_2, w330_3, w330_4⟩ := w330
                              rw [w330_0, w330_1, w330_2, w330_3, w330_4] at hP hD
                              have hP : va_P D vwCl (xwW cI cZ cS x0 xs xv ho0 ho1 pd0 pd1 m0 ts0 ts1 a ha sa cn cs sc tm tv pd sv (0 : Int32) old sz z) H := hP
                              have hD : va_D A (xwW cI cZ cS x0 xs xv ho0 ho1 pd0 pd1 m0 ts0 ts1 a ha sa cn cs sc tm tv pd sv (0 : Int32) old sz z) := hD
                              refine xk_top (z := (-5)) (by exact w330) ?_
                              refine lv_bipush (v := (-5)) hx hb dL_refusesAny_333 (by decide) ?_
                              refine lv_icmp_ne (tgt := 342) hx hb dL_refusesAny_335 (by decide) (fun c335 => absurd (by decide) c335) (fun _ => ?_)
                              exact J338   _ _ hP hD hS ls (lv_sub hl [0, 1, 2, 3] rfl)
                            · have t316 : ¬ b.toInt = 0 := xi_ne rfl (by decide) c316
                              have d316 : ¬ b = 0 := c316
                              refine lv_aload_n hx hb dL_refusesAny_319 rfl (lv_at hl 1 rfl) ?_
                              refine lv_bipush (v := 14) hx hb dL_refusesAny_320 (by decide) ?_
                              refine xo_Vi (As := [.int 14]) (rest := []) hx hb hml hown hts hK hN hZ hP hD hS hA mb_X7_walk mw_1_238 mw_1_239 mw_2_0 (k_X7_walk l D cI cZ cS x0 xs xv ho0 ho1 pd0 pd1 m0 ts0 ts1 a ha sa cn cs sc tm tv pd sv (0 : Int32) old sz z (14 : Int32) hRS hI) 0 7 rfl rfl (fun _ => xwW_f) (by decide) (by decide) rfl hl.1 rfl (Nat.le_of_ble_eq_true rfl) dL_refusesAny_322 ⟨Nat.zero_le _, Nat.zero_le _⟩ (fun r322 u322 H locs hw hP hD hS => ?_)
                              have p322 : r322 = walkR z (14 : Int32) := hw
                              have hP : va_P D vwCl (xwW cI cZ cS x0 xs xv ho0 ho1 pd0 pd1 m0 ts0 ts1 a ha sa cn cs sc tm tv pd sv (0 : Int32) old sz z) H := hP
                              have hD : va_D A (xwW cI cZ cS x0 xs xv ho0 ho1 pd0 pd1 m0 ts0 ts1 a ha sa cn cs sc tm tv pd sv (0 : Int32) old sz z) := hD
                              refine xk_top (z := (z 188)) (by exact p322.trans (wk_14 _)) ?_
                              refine lv_if_eq (tgt := 338) hx hb dL_refusesAny_325 (by decide) (fun c325 => ?_) (fun c325 => ?_)
                              · have t325 : (z 188).toInt = 0 := xi_eq rfl (by decide) c325
                                have d325 : (z 188) = 0 := c325
                                exact J338   _ _ hP hD hS ls (lv_sub hl [0, 1, 2, 3] rfl)
                              · have t325 : ¬ (z 188).toInt = 0 := xi_ne rfl (by decide) c325
                                have d325 : ¬ (z 188) = 0 := c325
                                have hnm : ¬ (canZ z ∧ ¬ z 188 = 1) := fun c9 => (walked01 hI).elim (fun h8 => d325 h8) (fun h8 => c9.2 h8)
                                refine lv_aload_n hx hb dL_refusesAny_328 rfl (lv_at hl 1 rfl) ?_
                                refine lv_iconst (v := 5) hx hb dL_refusesAny_329 (by decide) ?_
                                refine xo_Vi (As := [.int 5]) (rest := []) hx hb hml hown hts hK hN hZ hP hD hS hA mb_X7_march mw_3_33 mw_3_34 mw_3_35 (k_X7_march l D cI cZ cS x0 xs xv ho0 ho1 pd0 pd1 m0 ts0 ts1 a ha sa cn cs sc tm tv pd sv (0 : Int32) old sz z (5 : Int32) hRS hI hold hszz ⟨hb74, by omega⟩) 0 7 rfl rfl (fun _ => xwW_f) (by decide) (by decide) rfl hl.1 rfl (Nat.le_of_ble_eq_true rfl) dL_refusesAny_330 ⟨Nat.zero_le _, Nat.zero_le _⟩ (fun r330 u330 H locs hw hP hD hS => ?_)
                                obtain ⟨cq_330, zq_330, old1_330, sz1_330, cs1_330⟩ := u330
                                have p330 : marchA z (5 : Int32) r330 ∧ ((marchC z (5 : Int32) ∧ Chg cn z old sz cs (walkZ 5 z) cq_330 zq_330 old1_330 sz1_330 cs1_330) ∨ (¬ marchC z (5 : Int32) ∧ Same cn z old sz cs cq_330 zq_330 old1_330 sz1_330 cs1_330)) := hw
                                have hP : va_P D vwCl (xwW cI cZ cS x0 xs xv ho0 ho1 pd0 pd1 m0 ts0 ts1 a ha sa cq_330 cs1_330 sc tm tv pd sv (0 : Int32) old1_330 sz1_330 zq_330) H := hP
                                have hD : va_D A (xwW cI cZ cS x0 xs xv ho0 ho1 pd0 pd1 m0 ts0 ts1 a ha sa cq_330 cs1_330 sc tm tv pd sv (0 : Int32) old1_330 sz1_330 zq_330) := hD
                                have w330 : r330 = -5 ∧ cq_330 = cn ∧ zq_330 = z ∧ old1_330 = old ∧ sz1_330 = sz ∧ cs1_330 = cs := by
                                  refine ⟨mc_not (by decide) hnm p330.1, ?_⟩
                                  rcases p330.2 with ⟨c9, -⟩ | ⟨-, h9⟩
                                  · exact absurd c9 (fun c8 => hnm c8.2)
                                  · exact h9
                                obtain ⟨w330, w330_0, w330_1, w330_2, w330_3, w330_4⟩ := w330
                                rw [w330_0, w330_1, w330_2, w330_3, w330_4] at hP hD
                                have hP : va_P D vwCl (xwW cI cZ cS x0 xs xv ho0 ho1 pd0 pd1 m0 ts0 ts1 a ha sa cn cs sc tm tv pd sv (0 : Int32) old sz z) H := hP
                                have hD : va_D A (xwW cI cZ cS x0 xs xv ho0 ho1 pd0 pd1 m0 ts0 ts1 a ha sa cn cs sc tm tv pd sv (0 : Int32) old sz z) := hD
                                refine xk_top (z := (-5)) (by exact w330) ?_
                                refine lv_bipush (v := (-5)) hx hb dL_refusesAny_333 (by decide) ?_
                                refine lv_icmp_ne (tgt := 342) hx hb dL_refusesAny_335 (by decide) (fun c335 => absurd (by decide) c335) (fun _ => ?_)
                                exact J338   _ _ hP hD hS ls (lv_sub hl [0, 1, 2, 3] rfl)
                          · have t297 : x296.toInt = 0 := xi_eq rfl (by decide) c297
                            have d297 : x296 = 0 := c297
                            omega
                        refine lv_aload_n hx hb dL_refusesAny_247 rfl (lv_at hl 1 rfl) ?_
                        refine lv_bipush (v := 9) hx hb dL_refusesAny_248 (by decide) ?_
                        refine xo_Vi (As := [.int 9]) (rest := []) hx hb hml hown hts hK hN hZ hP hD hS hA mb_X7_count mw_2_6 mw_2_7 mw_2_8 (k_X7_count l D cI cZ cS x0 xs xv ho0 ho1 pd0 pd1 m0 ts0 ts1 a ha sa cn cs sc tm tv pd sv (0 : Int32) old sz z (9 : Int32) hRS hI) 0 7 rfl rfl (fun _ => xwW_f) (by decide) (by decide) rfl hl.1 rfl (Nat.le_of_ble_eq_true rfl) dL_refusesAny_250 ⟨Nat.zero_le _, Nat.zero_le _⟩ (fun r250 u250 H locs hw hP hD hS => ?_)
                        have p250 : r250 = cntR z (0 : Int32) sz (9 : Int32) := hw
                        have hP : va_P D vwCl (xwW cI cZ cS x0 xs xv ho0 ho1 pd0 pd1 m0 ts0 ts1 a ha sa cn cs sc tm tv pd sv (0 : Int32) old sz z) H := hP
                        have hD : va_D A (xwW cI cZ cS x0 xs xv ho0 ho1 pd0 pd1 m0 ts0 ts1 a ha sa cn cs sc tm tv pd sv (0 : Int32) old sz z) := hD
                        refine xk_top (z := (z 7)) (by exact p250.trans (ct_9 _ _ _)) ?_
                        refine lv_bipush (v := 12) hx hb dL_refusesAny_253 (by decide) ?_
                        refine lv_icmp_lt (tgt := 270) hx hb dL_refusesAny_255 (by decide) (fun c255 => ?_) (fun c255 => ?_)
                        · have t255 : (z 7).toInt < 12 := xi_lt rfl (by decide) c255
                          exact J270   _ _ hP hD hS ls (lv_sub hl [0, 1, 2, 3] rfl)
                        · have t255 : 12 ≤ (z 7).toInt := xi_nlt rfl (by decide) c255
                          refine lv_aload_n hx hb dL_refusesAny_258 rfl (lv_at hl 1 rfl) ?_
                          refine lv_iconst (v := 5) hx hb dL_refusesAny_259 (by decide) ?_
                          refine lv_iconst (v := 0) hx hb dL_refusesAny_260 (by decide) ?_
                          refine lv_iconst (v := 0) hx hb dL_refusesAny_261 (by decide) ?_
                          refine xo_Vi (As := [.int 5, .int 0, .int 0]) (rest := []) hx hb hml hown hts hK hN hZ hP hD hS hA mb_X7_pave mw_3_17 mw_3_18 mw_3_19 (k_X7_pave l D cI cZ cS x0 xs xv ho0 ho1 pd0 pd1 m0 ts0 ts1 a ha sa cn cs sc tm tv pd sv (0 : Int32) old sz z (5 : Int32) (0 : Int32) (0 : Int32) hRS hI hold hszz (Or.inl rfl)) 0 7 rfl rfl (fun _ => xwW_f) (by decide) (by decide) rfl hl.1 rfl (Nat.le_of_ble_eq_true rfl) dL_refusesAny_262 ⟨Nat.zero_le _, Nat.zero_le _⟩ (fun r262 u262 H locs hw hP hD hS => ?_)
                          obtain ⟨cq_262, zq_262, old1_262, sz1_262, cs1_262⟩ := u262
                          have p262 : r262 = paveR z (5 : Int32) (0 : Int32) ∧ ((paveC z (5 : Int32) (0 : Int32) ∧ Chg cn z old sz cs (paveZ z (5 : Int32) (0 : Int32) (0 : Int32)) cq_262 zq_262 old1_262 sz1_262 cs1_262) ∨ (¬ paveC z (5 : Int32) (0 : Int32) ∧ Same cn z old sz cs cq_262 zq_262 old1_262 sz1_262 cs1_262)) := hw
                          have hP : va_P D vwCl (xwW cI cZ cS x0 xs xv ho0 ho1 pd0 pd1 m0 ts0 ts1 a ha sa cq_262 cs1_262 sc tm tv pd sv (0 : Int32) old1_262 sz1_262 zq_262) H := hP
                          have hD : va_D A (xwW cI cZ cS x0 xs xv ho0 ho1 pd0 pd1 m0 ts0 ts1 a ha sa cq_262 cs1_262 sc tm tv pd sv (0 : Int32) old1_262 sz1_262 zq_262) := hD
                          have h712 : z 7 = 12 := xi_ext (by rw [show (12 : Int32).toInt = 12 from by decide]; omega)
                          have w262 : r262 = -4 ∧ cq_262 = cn ∧ zq_262 = z ∧ old1_262 = old ∧ sz1_262 = sz ∧ cs1_262 = cs := by
                            refine ⟨p262.1.trans (pv_full (by decide) h712), ?_⟩
                            rcases p262.2 with ⟨c9, -⟩ | ⟨-, h9⟩
                            · exact absurd c9 (fun c8 => c8.2 h712)
                            · exact h9
                          obtain ⟨w262, w262_0, w262_1, w262_2, w262_3, w262_4⟩ := w262
                          rw [w262_0, w262_1, w262_2, w262_3, w262_4] at hP hD
                          have hP : va_P D vwCl (xwW cI cZ cS x0 xs xv ho0 ho1 pd0 pd1 m0 ts0 ts1 a ha sa cn cs sc tm tv pd sv (0 : Int32) old sz z) H := hP
                          have hD : va_D A (xwW cI cZ cS x0 xs xv ho0 ho1 pd0 pd1 m0 ts0 ts1 a ha sa cn cs sc tm tv pd sv (0 : Int32) old sz z) := hD
                          refine xk_top (z := (-4)) (by exact w262) ?_
                          refine lv_bipush (v := (-4)) hx hb dL_refusesAny_265 (by decide) ?_
                          refine lv_icmp_ne (tgt := 342) hx hb dL_refusesAny_267 (by decide) (fun c267 => absurd (by decide) c267) (fun _ => ?_)
                          exact J270   _ _ hP hD hS ls (lv_sub hl [0, 1, 2, 3] rfl)
                      · have t229 : x228.toInt = 0 := xi_eq rfl (by decide) c229
                        have d229 : x228 = 0 := c229
                        omega
                    · have t205 : x204.toInt = 0 := xi_eq rfl (by decide) c205
                      have d205 : x204 = 0 := c205
                      omega
                  · have t184 : x183.toInt = 0 := xi_eq rfl (by decide) c184
                    have d184 : x183 = 0 := c184
                    omega
                · have t162 : x161.toInt = 0 := xi_eq rfl (by decide) c162
                  have d162 : x161 = 0 := c162
                  omega
              · have t140 : x139.toInt = 0 := xi_eq rfl (by decide) c140
                have d140 : x139 = 0 := c140
                omega
            · have t118 : x117.toInt = 0 := xi_eq rfl (by decide) c118
              have d118 : x117 = 0 := c118
              omega
        · have t74 : x73.toInt = 0 := xi_eq rfl (by decide) c74
          have d74 : x73 = 0 := c74
          omega
      · have t51 : x50.toInt = 0 := xi_eq rfl (by decide) c51
        have d51 : x50 = 0 := c51
        omega
    refine lv_aload_n hx hb dL_refusesAny_23 rfl (lv_at hl 1 rfl) ?_
    refine lv_bipush (v := 6) hx hb dL_refusesAny_24 (by decide) ?_
    refine xo_Vi (As := [.int 6]) (rest := []) hx hb hml hown hts hK hN hZ hP hD hS hA mb_X7_count mw_2_6 mw_2_7 mw_2_8 (k_X7_count l D cI cZ cS x0 xs xv ho0 ho1 pd0 pd1 m0 ts0 ts1 a ha sa cn cs sc tm tv pd sv (0 : Int32) old sz z (6 : Int32) hRS hI) 0 7 rfl rfl (fun _ => xwW_f) (by decide) (by decide) rfl hl.1 rfl (Nat.le_of_ble_eq_true rfl) dL_refusesAny_26 ⟨Nat.zero_le _, Nat.zero_le _⟩ (fun r26 u26 H locs hw hP hD hS => ?_)
    have p26 : r26 = cntR z (0 : Int32) sz (6 : Int32) := hw
    have hP : va_P D vwCl (xwW cI cZ cS x0 xs xv ho0 ho1 pd0 pd1 m0 ts0 ts1 a ha sa cn cs sc tm tv pd sv (0 : Int32) old sz z) H := hP
    have hD : va_D A (xwW cI cZ cS x0 xs xv ho0 ho1 pd0 pd1 m0 ts0 ts1 a ha sa cn cs sc tm tv pd sv (0 : Int32) old sz z) := hD
    refine xk_top (z := (z 6)) (by exact p26.trans (ct_6 _ _ _)) ?_
    refine lv_if_le (tgt := 45) hx hb dL_refusesAny_29 (by decide) (fun c29 => ?_) (fun c29 => ?_)
    · have t29 : (z 6).toInt ≤ 0 := xi_le rfl (by decide) c29
      refine lv_iconst (v := 0) hx hb dL_refusesAny_45 (by decide) ?_
      refine lv_istore_n (lv' := [(3, .int 0), (2, .int x21), (0, .ref x0), (1, .int p1)]) hx hb dL_refusesAny_46 rfl hl (by decide) rfl (fun ls hl => ?_)
      exact J47 (0 : Int32) (by exact Or.inr ⟨by decide, fun c9 => by have := c9.1; have := c9.2; omega⟩) _ _ hP hD hS ls (lv_sub hl [1, 2, 3, 0] rfl)
    · have t29 : 0 < (z 6).toInt := xi_nle rfl (by decide) c29
      refine lv_aload_n hx hb dL_refusesAny_32 rfl (lv_at hl 1 rfl) ?_
      refine lv_bipush (v := 9) hx hb dL_refusesAny_33 (by decide) ?_
      refine xo_Vi (As := [.int 9]) (rest := []) hx hb hml hown hts hK hN hZ hP hD hS hA mb_X7_count mw_2_6 mw_2_7 mw_2_8 (k_X7_count l D cI cZ cS x0 xs xv ho0 ho1 pd0 pd1 m0 ts0 ts1 a ha sa cn cs sc tm tv pd sv (0 : Int32) old sz z (9 : Int32) hRS hI) 0 7 rfl rfl (fun _ => xwW_f) (by decide) (by decide) rfl hl.1 rfl (Nat.le_of_ble_eq_true rfl) dL_refusesAny_35 ⟨Nat.zero_le _, Nat.zero_le _⟩ (fun r35 u35 H locs hw hP hD hS => ?_)
      have p35 : r35 = cntR z (0 : Int32) sz (9 : Int32) := hw
      have hP : va_P D vwCl (xwW cI cZ cS x0 xs xv ho0 ho1 pd0 pd1 m0 ts0 ts1 a ha sa cn cs sc tm tv pd sv (0 : Int32) old sz z) H := hP
      have hD : va_D A (xwW cI cZ cS x0 xs xv ho0 ho1 pd0 pd1 m0 ts0 ts1 a ha sa cn cs sc tm tv pd sv (0 : Int32) old sz z) := hD
      refine xk_top (z := (z 7)) (by exact p35.trans (ct_9 _ _ _)) ?_
      refine lv_if_le (tgt := 45) hx hb dL_refusesAny_38 (by decide) (fun c38 => ?_) (fun c38 => ?_)
      · have t38 : (z 7).toInt ≤ 0 := xi_le rfl (by decide) c38
        refine lv_iconst (v := 0) hx hb dL_refusesAny_45 (by decide) ?_
        refine lv_istore_n (lv' := [(3, .int 0), (2, .int x21), (0, .ref x0), (1, .int p1)]) hx hb dL_refusesAny_46 rfl hl (by decide) rfl (fun ls hl => ?_)
        exact J47 (0 : Int32) (by exact Or.inr ⟨by decide, fun c9 => by have := c9.1; have := c9.2; omega⟩) _ _ hP hD hS ls (lv_sub hl [1, 2, 3, 0] rfl)
      · have t38 : 0 < (z 7).toInt := xi_nle rfl (by decide) c38
        refine lv_iconst (v := 1) hx hb dL_refusesAny_41 (by decide) ?_
        refine lv_goto (tgt := 46) hx hb dL_refusesAny_42 (by decide) ?_
        refine lv_istore_n (lv' := [(3, .int 1), (2, .int x21), (0, .ref x0), (1, .int p1)]) hx hb dL_refusesAny_46 rfl hl (by decide) rfl (fun ls hl => ?_)
        exact J47 (1 : Int32) (by exact Or.inl ⟨by decide, by omega, by omega⟩) _ _ hP hD hS ls (lv_sub hl [1, 2, 3, 0] rfl)
  · have t3 : x2.toInt = 0 := xi_eq rfl (by decide) c3
    have d3 : x2 = 0 := c3
    refine lv_iconst (v := (-1)) hx hb dL_refusesAny_6 (by decide) ?_
    refine lv_iload_n hx hb dL_refusesAny_7 rfl (lv_at hl 1 rfl) ?_
    refine lv_bipush (v := 99) hx hb dL_refusesAny_8 (by decide) ?_
    refine lv_irem hx hb dL_refusesAny_10 (by decide) ?_
    refine lv_topi (fun x10 e10 => ?_)
    have t10 : x10.toInt = p1.toInt % 99 := by rw [e10]; exact xi_rem rfl (by decide) (by omega) (by omega)
    refine lv_isub hx hb dL_refusesAny_11 ?_
    refine lv_topi (fun x11 e11 => ?_)
    have t11 : x11.toInt = (-1) - x10.toInt := by rw [e11]; exact xi_sub (by decide) rfl (by omega) (by omega)
    refine lv_goto (tgt := 22) hx hb dL_refusesAny_12 (by decide) ?_
    refine lv_istore_n (lv' := [(2, .int x11), (0, .ref x0), (1, .int p1)]) hx hb dL_refusesAny_22 rfl hl (by decide) rfl (fun ls hl => ?_)
    have J47 : ∀ (b : Int32) (hb47 : (b.toInt = 1 ∧ canZ z) ∨ (b.toInt = 0 ∧ ¬ canZ z)) (H : Heap) (locs : List Loc), va_P D vwCl (xwW cI cZ cS x0 xs xv ho0 ho1 pd0 pd1 m0 ts0 ts1 a ha sa cn cs sc tm tv pd sv (0 : Int32) old sz z) H → va_D A (xwW cI cZ cS x0 xs xv ho0 ho1 pd0 pd1 m0 ts0 ts1 a ha sa cn cs sc tm tv pd sv (0 : Int32) old sz z) → va_S A s.heap H locs → ∀ ls : Array Slot, lv_has ls 5 [(2, .int x11), (0, .ref x0), (1, .int p1), (3, .int b)] → W p l e ({ frames := 7, cells := 0, slots := 0, locals := 159 } : Room) s m args below meth c H locs 0 0 Q (F0 m 47 ls []) := by
      intro b hb47 H locs hP hD hS ls hl
      refine lv_aload_n hx hb dL_refusesAny_47 rfl (lv_at hl 1 rfl) ?_
      refine lv_iload_n hx hb dL_refusesAny_48 rfl (lv_at hl 2 rfl) ?_
      refine lv_iconst (v := 2) hx hb dL_refusesAny_49 (by decide) ?_
      refine lv_irem hx hb dL_refusesAny_50 (by decide) ?_
      refine lv_topi (fun x50 e50 => ?_)
      have t50 : x50.toInt = p1.toInt % 2 := by rw [e50]; exact xi_rem rfl (by decide) (by omega) (by omega)
      refine lv_if_ne (tgt := 58) hx hb dL_refusesAny_51 (by decide) (fun c51 => ?_) (fun c51 => ?_)
      · have t51 : ¬ x50.toInt = 0 := xi_ne rfl (by decide) c51
        have d51 : ¬ x50 = 0 := c51
        omega
      · have t51 : x50.toInt = 0 := xi_eq rfl (by decide) c51
        have d51 : x50 = 0 := c51
        refine lv_iconst (v := (-1)) hx hb dL_refusesAny_54 (by decide) ?_
        refine lv_goto (tgt := 60) hx hb dL_refusesAny_55 (by decide) ?_
        refine lv_iconst (v := 5) hx hb dL_refusesAny_60 (by decide) ?_
        refine xo_Vi (As := [.int (-1), .int 5]) (rest := []) hx hb hml hown hts hK hN hZ hP hD hS hA mb_X7_set mw_3_8 mw_3_9 mw_3_10 (k_X7_set l D cI cZ cS x0 xs xv ho0 ho1 pd0 pd1 m0 ts0 ts1 a ha sa cn cs sc tm tv pd sv (0 : Int32) old sz z (-1 : Int32) (5 : Int32) hRS hI hold hszz) 0 7 rfl rfl (fun _ => xwW_f) (by decide) (by decide) rfl hl.1 rfl (Nat.le_of_ble_eq_true rfl) dL_refusesAny_61 ⟨Nat.zero_le _, Nat.zero_le _⟩ (fun r61 u61 H locs hw hP hD hS => ?_)
        obtain ⟨cq_61, zq_61, old1_61, sz1_61, cs1_61⟩ := u61
        have p61 : (setV (-1 : Int32) (5 : Int32) ∧ r61 = z (-1).toNat ∧ Chg cn z old sz cs (beginZ (upd z (-1).toNat (5 : Int32))) cq_61 zq_61 old1_61 sz1_61 cs1_61) ∨ (¬ setV (-1 : Int32) (5 : Int32) ∧ r61 = -2 ∧ Same cn z old sz cs cq_61 zq_61 old1_61 sz1_61 cs1_61) := hw
        have hP : va_P D vwCl (xwW cI cZ cS x0 xs xv ho0 ho1 pd0 pd1 m0 ts0 ts1 a ha sa cq_61 cs1_61 sc tm tv pd sv (0 : Int32) old1_61 sz1_61 zq_61) H := hP
        have hD : va_D A (xwW cI cZ cS x0 xs xv ho0 ho1 pd0 pd1 m0 ts0 ts1 a ha sa cq_61 cs1_61 sc tm tv pd sv (0 : Int32) old1_61 sz1_61 zq_61) := hD
        have w61 : r61 = -2 ∧ cq_61 = cn ∧ zq_61 = z ∧ old1_61 = old ∧ sz1_61 = sz ∧ cs1_61 = cs := by
          rcases p61 with ⟨c9, -⟩ | ⟨-, h9⟩
          · exact absurd c9 (by decide)
          · exact h9
        obtain ⟨w61, w61_0, w61_1, w61_2, w61_3, w61_4⟩ := w61
        rw [w61_0, w61_1, w61_2, w61_3, w61_4] at hP hD
        have hP : va_P D vwCl (xwW cI cZ cS x0 xs xv ho0 ho1 pd0 pd1 m0 ts0 ts1 a ha sa cn cs sc tm tv pd sv (0 : Int32) old sz z) H := hP
        have hD : va_D A (xwW cI cZ cS x0 xs xv ho0 ho1 pd0 pd1 m0 ts0 ts1 a ha sa cn cs sc tm tv pd sv (0 : Int32) old sz z) := hD
        refine xk_top (z := (-2)) (by exact w61) ?_
        refine lv_bipush (v := (-2)) hx hb dL_refusesAny_64 (by decide) ?_
        refine lv_icmp_ne (tgt := 342) hx hb dL_refusesAny_66 (by decide) (fun c66 => absurd (by decide) c66) (fun _ => ?_)
        refine lv_aload_n hx hb dL_refusesAny_69 rfl (lv_at hl 1 rfl) ?_
        refine lv_iconst (v := 0) hx hb dL_refusesAny_70 (by decide) ?_
        refine lv_iload_n hx hb dL_refusesAny_71 rfl (lv_at hl 2 rfl) ?_
        refine lv_iconst (v := 2) hx hb dL_refusesAny_72 (by decide) ?_
        refine lv_irem hx hb dL_refusesAny_73 (by decide) ?_
        refine lv_topi (fun x73 e73 => ?_)
        have t73 : x73.toInt = p1.toInt % 2 := by rw [e73]; exact xi_rem rfl (by decide) (by omega) (by omega)
        refine lv_if_ne (tgt := 81) hx hb dL_refusesAny_74 (by decide) (fun c74 => ?_) (fun c74 => ?_)
        · have t74 : ¬ x73.toInt = 0 := xi_ne rfl (by decide) c74
          have d74 : ¬ x73 = 0 := c74
          omega
        · have t74 : x73.toInt = 0 := xi_eq rfl (by decide) c74
          have d74 : x73 = 0 := c74
          refine lv_iconst (v := 0) hx hb dL_refusesAny_77 (by decide) ?_
          refine lv_goto (tgt := 83) hx hb dL_refusesAny_78 (by decide) ?_
          refine xo_Vi (As := [.int 0, .int 0]) (rest := []) hx hb hml hown hts hK hN hZ hP hD hS hA mb_X7_set mw_3_8 mw_3_9 mw_3_10 (k_X7_set l D cI cZ cS x0 xs xv ho0 ho1 pd0 pd1 m0 ts0 ts1 a ha sa cn cs sc tm tv pd sv (0 : Int32) old sz z (0 : Int32) (0 : Int32) hRS hI hold hszz) 0 7 rfl rfl (fun _ => xwW_f) (by decide) (by decide) rfl hl.1 rfl (Nat.le_of_ble_eq_true rfl) dL_refusesAny_83 ⟨Nat.zero_le _, Nat.zero_le _⟩ (fun r83 u83 H locs hw hP hD hS => ?_)
          obtain ⟨cq_83, zq_83, old1_83, sz1_83, cs1_83⟩ := u83
          have p83 : (setV (0 : Int32) (0 : Int32) ∧ r83 = z 0 ∧ Chg cn z old sz cs (beginZ (upd z 0 (0 : Int32))) cq_83 zq_83 old1_83 sz1_83 cs1_83) ∨ (¬ setV (0 : Int32) (0 : Int32) ∧ r83 = -2 ∧ Same cn z old sz cs cq_83 zq_83 old1_83 sz1_83 cs1_83) := hw
          have hP : va_P D vwCl (xwW cI cZ cS x0 xs xv ho0 ho1 pd0 pd1 m0 ts0 ts1 a ha sa cq_83 cs1_83 sc tm tv pd sv (0 : Int32) old1_83 sz1_83 zq_83) H := hP
          have hD : va_D A (xwW cI cZ cS x0 xs xv ho0 ho1 pd0 pd1 m0 ts0 ts1 a ha sa cq_83 cs1_83 sc tm tv pd sv (0 : Int32) old1_83 sz1_83 zq_83) := hD
          have w83 : r83 = -2 ∧ cq_83 = cn ∧ zq_83 = z ∧ old1_83 = old ∧ sz1_83 = sz ∧ cs1_83 = cs := by
            rcases p83 with ⟨c9, -⟩ | ⟨-, h9⟩
            · exact absurd c9 (by decide)
            · exact h9
          obtain ⟨w83, w83_0, w83_1, w83_2, w83_3, w83_4⟩ := w83
          rw [w83_0, w83_1, w83_2, w83_3, w83_4] at hP hD
          have hP : va_P D vwCl (xwW cI cZ cS x0 xs xv ho0 ho1 pd0 pd1 m0 ts0 ts1 a ha sa cn cs sc tm tv pd sv (0 : Int32) old sz z) H := hP
          have hD : va_D A (xwW cI cZ cS x0 xs xv ho0 ho1 pd0 pd1 m0 ts0 ts1 a ha sa cn cs sc tm tv pd sv (0 : Int32) old sz z) := hD
          refine xk_top (z := (-2)) (by exact w83) ?_
          refine lv_bipush (v := (-2)) hx hb dL_refusesAny_86 (by decide) ?_
          refine lv_icmp_ne (tgt := 342) hx hb dL_refusesAny_88 (by decide) (fun c88 => absurd (by decide) c88) (fun _ => ?_)
          refine lv_aload_n hx hb dL_refusesAny_91 rfl (lv_at hl 1 rfl) ?_
          refine lv_iconst (v := 1) hx hb dL_refusesAny_92 (by decide) ?_
          refine lv_iload_n hx hb dL_refusesAny_93 rfl (lv_at hl 2 rfl) ?_
          refine lv_iconst (v := 2) hx hb dL_refusesAny_94 (by decide) ?_
          refine lv_irem hx hb dL_refusesAny_95 (by decide) ?_
          refine lv_topi (fun x95 e95 => ?_)
          have t95 : x95.toInt = p1.toInt % 2 := by rw [e95]; exact xi_rem rfl (by decide) (by omega) (by omega)
          refine lv_if_ne (tgt := 103) hx hb dL_refusesAny_96 (by decide) (fun c96 => ?_) (fun c96 => ?_)
          · have t96 : ¬ x95.toInt = 0 := xi_ne rfl (by decide) c96
            have d96 : ¬ x95 = 0 := c96
            refine lv_bipush (v := 10) hx hb dL_refusesAny_103 (by decide) ?_
            refine xo_Vi (As := [.int 1, .int 10]) (rest := []) hx hb hml hown hts hK hN hZ hP hD hS hA mb_X7_set mw_3_8 mw_3_9 mw_3_10 (k_X7_set l D cI cZ cS x0 xs xv ho0 ho1 pd0 pd1 m0 ts0 ts1 a ha sa cn cs sc tm tv pd sv (0 : Int32) old sz z (1 : Int32) (10 : Int32) hRS hI hold hszz) 0 7 rfl rfl (fun _ => xwW_f) (by decide) (by decide) rfl hl.1 rfl (Nat.le_of_ble_eq_true rfl) dL_refusesAny_105 ⟨Nat.zero_le _, Nat.zero_le _⟩ (fun r105 u105 H locs hw hP hD hS => ?_)
            obtain ⟨cq_105, zq_105, old1_105, sz1_105, cs1_105⟩ := u105
            have p105 : (setV (1 : Int32) (10 : Int32) ∧ r105 = z 1 ∧ Chg cn z old sz cs (beginZ (upd z 1 (10 : Int32))) cq_105 zq_105 old1_105 sz1_105 cs1_105) ∨ (¬ setV (1 : Int32) (10 : Int32) ∧ r105 = -2 ∧ Same cn z old sz cs cq_105 zq_105 old1_105 sz1_105 cs1_105) := hw
            have hP : va_P D vwCl (xwW cI cZ cS x0 xs xv ho0 ho1 pd0 pd1 m0 ts0 ts1 a ha sa cq_105 cs1_105 sc tm tv pd sv (0 : Int32) old1_105 sz1_105 zq_105) H := hP
            have hD : va_D A (xwW cI cZ cS x0 xs xv ho0 ho1 pd0 pd1 m0 ts0 ts1 a ha sa cq_105 cs1_105 sc tm tv pd sv (0 : Int32) old1_105 sz1_105 zq_105) := hD
            have w105 : r105 = -2 ∧ cq_105 = cn ∧ zq_105 = z ∧ old1_105 = old ∧ sz1_105 = sz ∧ cs1_105 = cs := by
              rcases p105 with ⟨c9, -⟩ | ⟨-, h9⟩
              · exact absurd c9 (by decide)
              · exact h9
            obtain ⟨w105, w105_0, w105_1, w105_2, w105_3, w105_4⟩ := w105
            rw [w105_0, w105_1, w105_2, w105_3, w105_4] at hP hD
            have hP : va_P D vwCl (xwW cI cZ cS x0 xs xv ho0 ho1 pd0 pd1 m0 ts0 ts1 a ha sa cn cs sc tm tv pd sv (0 : Int32) old sz z) H := hP
            have hD : va_D A (xwW cI cZ cS x0 xs xv ho0 ho1 pd0 pd1 m0 ts0 ts1 a ha sa cn cs sc tm tv pd sv (0 : Int32) old sz z) := hD
            refine xk_top (z := (-2)) (by exact w105) ?_
            refine lv_bipush (v := (-2)) hx hb dL_refusesAny_108 (by decide) ?_
            refine lv_icmp_ne (tgt := 342) hx hb dL_refusesAny_110 (by decide) (fun c110 => absurd (by decide) c110) (fun _ => ?_)
            refine lv_aload_n hx hb dL_refusesAny_113 rfl (lv_at hl 1 rfl) ?_
            refine lv_iconst (v := 2) hx hb dL_refusesAny_114 (by decide) ?_
            refine lv_iload_n hx hb dL_refusesAny_115 rfl (lv_at hl 2 rfl) ?_
            refine lv_iconst (v := 2) hx hb dL_refusesAny_116 (by decide) ?_
            refine lv_irem hx hb dL_refusesAny_117 (by decide) ?_
            refine lv_topi (fun x117 e117 => ?_)
            have t117 : x117.toInt = p1.toInt % 2 := by rw [e117]; exact xi_rem rfl (by decide) (by omega) (by omega)
            refine lv_if_ne (tgt := 125) hx hb dL_refusesAny_118 (by decide) (fun c118 => ?_) (fun c118 => ?_)
            · have t118 : ¬ x117.toInt = 0 := xi_ne rfl (by decide) c118
              have d118 : ¬ x117 = 0 := c118
              omega
            · have t118 : x117.toInt = 0 := xi_eq rfl (by decide) c118
              have d118 : x117 = 0 := c118
              refine lv_iconst (v := 0) hx hb dL_refusesAny_121 (by decide) ?_
              refine lv_goto (tgt := 127) hx hb dL_refusesAny_122 (by decide) ?_
              refine xo_Vi (As := [.int 2, .int 0]) (rest := []) hx hb hml hown hts hK hN hZ hP hD hS hA mb_X7_set mw_3_8 mw_3_9 mw_3_10 (k_X7_set l D cI cZ cS x0 xs xv ho0 ho1 pd0 pd1 m0 ts0 ts1 a ha sa cn cs sc tm tv pd sv (0 : Int32) old sz z (2 : Int32) (0 : Int32) hRS hI hold hszz) 0 7 rfl rfl (fun _ => xwW_f) (by decide) (by decide) rfl hl.1 rfl (Nat.le_of_ble_eq_true rfl) dL_refusesAny_127 ⟨Nat.zero_le _, Nat.zero_le _⟩ (fun r127 u127 H locs hw hP hD hS => ?_)
              obtain ⟨cq_127, zq_127, old1_127, sz1_127, cs1_127⟩ := u127
              have p127 : (setV (2 : Int32) (0 : Int32) ∧ r127 = z 2 ∧ Chg cn z old sz cs (beginZ (upd z 2 (0 : Int32))) cq_127 zq_127 old1_127 sz1_127 cs1_127) ∨ (¬ setV (2 : Int32) (0 : Int32) ∧ r127 = -2 ∧ Same cn z old sz cs cq_127 zq_127 old1_127 sz1_127 cs1_127) := hw
              have hP : va_P D vwCl (xwW cI cZ cS x0 xs xv ho0 ho1 pd0 pd1 m0 ts0 ts1 a ha sa cq_127 cs1_127 sc tm tv pd sv (0 : Int32) old1_127 sz1_127 zq_127) H := hP
              have hD : va_D A (xwW cI cZ cS x0 xs xv ho0 ho1 pd0 pd1 m0 ts0 ts1 a ha sa cq_127 cs1_127 sc tm tv pd sv (0 : Int32) old1_127 sz1_127 zq_127) := hD
              have w127 : r127 = -2 ∧ cq_127 = cn ∧ zq_127 = z ∧ old1_127 = old ∧ sz1_127 = sz ∧ cs1_127 = cs := by
                rcases p127 with ⟨c9, -⟩ | ⟨-, h9⟩
                · exact absurd c9 (by decide)
                · exact h9
              obtain ⟨w127, w127_0, w127_1, w127_2, w127_3, w127_4⟩ := w127
              rw [w127_0, w127_1, w127_2, w127_3, w127_4] at hP hD
              have hP : va_P D vwCl (xwW cI cZ cS x0 xs xv ho0 ho1 pd0 pd1 m0 ts0 ts1 a ha sa cn cs sc tm tv pd sv (0 : Int32) old sz z) H := hP
              have hD : va_D A (xwW cI cZ cS x0 xs xv ho0 ho1 pd0 pd1 m0 ts0 ts1 a ha sa cn cs sc tm tv pd sv (0 : Int32) old sz z) := hD
              refine xk_top (z := (-2)) (by exact w127) ?_
              refine lv_bipush (v := (-2)) hx hb dL_refusesAny_130 (by decide) ?_
              refine lv_icmp_ne (tgt := 342) hx hb dL_refusesAny_132 (by decide) (fun c132 => absurd (by decide) c132) (fun _ => ?_)
              refine lv_aload_n hx hb dL_refusesAny_135 rfl (lv_at hl 1 rfl) ?_
              refine lv_iconst (v := 3) hx hb dL_refusesAny_136 (by decide) ?_
              refine lv_iload_n hx hb dL_refusesAny_137 rfl (lv_at hl 2 rfl) ?_
              refine lv_iconst (v := 2) hx hb dL_refusesAny_138 (by decide) ?_
              refine lv_irem hx hb dL_refusesAny_139 (by decide) ?_
              refine lv_topi (fun x139 e139 => ?_)
              have t139 : x139.toInt = p1.toInt % 2 := by rw [e139]; exact xi_rem rfl (by decide) (by omega) (by omega)
              refine lv_if_ne (tgt := 147) hx hb dL_refusesAny_140 (by decide) (fun c140 => ?_) (fun c140 => ?_)
              · have t140 : ¬ x139.toInt = 0 := xi_ne rfl (by decide) c140
                have d140 : ¬ x139 = 0 := c140
                omega
              · have t140 : x139.toInt = 0 := xi_eq rfl (by decide) c140
                have d140 : x139 = 0 := c140
                refine lv_iconst (v := 0) hx hb dL_refusesAny_143 (by decide) ?_
                refine lv_goto (tgt := 149) hx hb dL_refusesAny_144 (by decide) ?_
                refine xo_Vi (As := [.int 3, .int 0]) (rest := []) hx hb hml hown hts hK hN hZ hP hD hS hA mb_X7_set mw_3_8 mw_3_9 mw_3_10 (k_X7_set l D cI cZ cS x0 xs xv ho0 ho1 pd0 pd1 m0 ts0 ts1 a ha sa cn cs sc tm tv pd sv (0 : Int32) old sz z (3 : Int32) (0 : Int32) hRS hI hold hszz) 0 7 rfl rfl (fun _ => xwW_f) (by decide) (by decide) rfl hl.1 rfl (Nat.le_of_ble_eq_true rfl) dL_refusesAny_149 ⟨Nat.zero_le _, Nat.zero_le _⟩ (fun r149 u149 H locs hw hP hD hS => ?_)
                obtain ⟨cq_149, zq_149, old1_149, sz1_149, cs1_149⟩ := u149
                have p149 : (setV (3 : Int32) (0 : Int32) ∧ r149 = z 3 ∧ Chg cn z old sz cs (beginZ (upd z 3 (0 : Int32))) cq_149 zq_149 old1_149 sz1_149 cs1_149) ∨ (¬ setV (3 : Int32) (0 : Int32) ∧ r149 = -2 ∧ Same cn z old sz cs cq_149 zq_149 old1_149 sz1_149 cs1_149) := hw
                have hP : va_P D vwCl (xwW cI cZ cS x0 xs xv ho0 ho1 pd0 pd1 m0 ts0 ts1 a ha sa cq_149 cs1_149 sc tm tv pd sv (0 : Int32) old1_149 sz1_149 zq_149) H := hP
                have hD : va_D A (xwW cI cZ cS x0 xs xv ho0 ho1 pd0 pd1 m0 ts0 ts1 a ha sa cq_149 cs1_149 sc tm tv pd sv (0 : Int32) old1_149 sz1_149 zq_149) := hD
                have w149 : r149 = -2 ∧ cq_149 = cn ∧ zq_149 = z ∧ old1_149 = old ∧ sz1_149 = sz ∧ cs1_149 = cs := by
                  rcases p149 with ⟨c9, -⟩ | ⟨-, h9⟩
                  · exact absurd c9 (by decide)
                  · exact h9
                obtain ⟨w149, w149_0, w149_1, w149_2, w149_3, w149_4⟩ := w149
                rw [w149_0, w149_1, w149_2, w149_3, w149_4] at hP hD
                have hP : va_P D vwCl (xwW cI cZ cS x0 xs xv ho0 ho1 pd0 pd1 m0 ts0 ts1 a ha sa cn cs sc tm tv pd sv (0 : Int32) old sz z) H := hP
                have hD : va_D A (xwW cI cZ cS x0 xs xv ho0 ho1 pd0 pd1 m0 ts0 ts1 a ha sa cn cs sc tm tv pd sv (0 : Int32) old sz z) := hD
                refine xk_top (z := (-2)) (by exact w149) ?_
                refine lv_bipush (v := (-2)) hx hb dL_refusesAny_152 (by decide) ?_
                refine lv_icmp_ne (tgt := 342) hx hb dL_refusesAny_154 (by decide) (fun c154 => absurd (by decide) c154) (fun _ => ?_)
                refine lv_aload_n hx hb dL_refusesAny_157 rfl (lv_at hl 1 rfl) ?_
                refine lv_iconst (v := 4) hx hb dL_refusesAny_158 (by decide) ?_
                refine lv_iload_n hx hb dL_refusesAny_159 rfl (lv_at hl 2 rfl) ?_
                refine lv_iconst (v := 2) hx hb dL_refusesAny_160 (by decide) ?_
                refine lv_irem hx hb dL_refusesAny_161 (by decide) ?_
                refine lv_topi (fun x161 e161 => ?_)
                have t161 : x161.toInt = p1.toInt % 2 := by rw [e161]; exact xi_rem rfl (by decide) (by omega) (by omega)
                refine lv_if_ne (tgt := 169) hx hb dL_refusesAny_162 (by decide) (fun c162 => ?_) (fun c162 => ?_)
                · have t162 : ¬ x161.toInt = 0 := xi_ne rfl (by decide) c162
                  have d162 : ¬ x161 = 0 := c162
                  omega
                · have t162 : x161.toInt = 0 := xi_eq rfl (by decide) c162
                  have d162 : x161 = 0 := c162
                  refine lv_iconst (v := 4) hx hb dL_refusesAny_165 (by decide) ?_
                  refine lv_goto (tgt := 171) hx hb dL_refusesAny_166 (by decide) ?_
                  refine xo_Vi (As := [.int 4, .int 4]) (rest := []) hx hb hml hown hts hK hN hZ hP hD hS hA mb_X7_set mw_3_8 mw_3_9 mw_3_10 (k_X7_set l D cI cZ cS x0 xs xv ho0 ho1 pd0 pd1 m0 ts0 ts1 a ha sa cn cs sc tm tv pd sv (0 : Int32) old sz z (4 : Int32) (4 : Int32) hRS hI hold hszz) 0 7 rfl rfl (fun _ => xwW_f) (by decide) (by decide) rfl hl.1 rfl (Nat.le_of_ble_eq_true rfl) dL_refusesAny_171 ⟨Nat.zero_le _, Nat.zero_le _⟩ (fun r171 u171 H locs hw hP hD hS => ?_)
                  obtain ⟨cq_171, zq_171, old1_171, sz1_171, cs1_171⟩ := u171
                  have p171 : (setV (4 : Int32) (4 : Int32) ∧ r171 = z 4 ∧ Chg cn z old sz cs (beginZ (upd z 4 (4 : Int32))) cq_171 zq_171 old1_171 sz1_171 cs1_171) ∨ (¬ setV (4 : Int32) (4 : Int32) ∧ r171 = -2 ∧ Same cn z old sz cs cq_171 zq_171 old1_171 sz1_171 cs1_171) := hw
                  have hP : va_P D vwCl (xwW cI cZ cS x0 xs xv ho0 ho1 pd0 pd1 m0 ts0 ts1 a ha sa cq_171 cs1_171 sc tm tv pd sv (0 : Int32) old1_171 sz1_171 zq_171) H := hP
                  have hD : va_D A (xwW cI cZ cS x0 xs xv ho0 ho1 pd0 pd1 m0 ts0 ts1 a ha sa cq_171 cs1_171 sc tm tv pd sv (0 : Int32) old1_171 sz1_171 zq_171) := hD
                  have w171 : r171 = -2 ∧ cq_171 = cn ∧ zq_171 = z ∧ old1_171 = old ∧ sz1_171 = sz ∧ cs1_171 = cs := by
                    rcases p171 with ⟨c9, -⟩ | ⟨-, h9⟩
                    · exact absurd c9 (by decide)
                    · exact h9
                  obtain ⟨w171, w171_0, w171_1, w171_2, w171_3, w171_4⟩ := w171
                  rw [w171_0, w171_1, w171_2, w171_3, w171_4] at hP hD
                  have hP : va_P D vwCl (xwW cI cZ cS x0 xs xv ho0 ho1 pd0 pd1 m0 ts0 ts1 a ha sa cn cs sc tm tv pd sv (0 : Int32) old sz z) H := hP
                  have hD : va_D A (xwW cI cZ cS x0 xs xv ho0 ho1 pd0 pd1 m0 ts0 ts1 a ha sa cn cs sc tm tv pd sv (0 : Int32) old sz z) := hD
                  refine xk_top (z := (-2)) (by exact w171) ?_
                  refine lv_bipush (v := (-2)) hx hb dL_refusesAny_174 (by decide) ?_
                  refine lv_icmp_ne (tgt := 342) hx hb dL_refusesAny_176 (by decide) (fun c176 => absurd (by decide) c176) (fun _ => ?_)
                  refine lv_aload_n hx hb dL_refusesAny_179 rfl (lv_at hl 1 rfl) ?_
                  refine lv_iconst (v := 5) hx hb dL_refusesAny_180 (by decide) ?_
                  refine lv_iload_n hx hb dL_refusesAny_181 rfl (lv_at hl 2 rfl) ?_
                  refine lv_iconst (v := 2) hx hb dL_refusesAny_182 (by decide) ?_
                  refine lv_irem hx hb dL_refusesAny_183 (by decide) ?_
                  refine lv_topi (fun x183 e183 => ?_)
                  have t183 : x183.toInt = p1.toInt % 2 := by rw [e183]; exact xi_rem rfl (by decide) (by omega) (by omega)
                  refine lv_if_ne (tgt := 191) hx hb dL_refusesAny_184 (by decide) (fun c184 => ?_) (fun c184 => ?_)
                  · have t184 : ¬ x183.toInt = 0 := xi_ne rfl (by decide) c184
                    have d184 : ¬ x183 = 0 := c184
                    omega
                  · have t184 : x183.toInt = 0 := xi_eq rfl (by decide) c184
                    have d184 : x183 = 0 := c184
                    refine lv_iconst (v := 1) hx hb dL_refusesAny_187 (by decide) ?_
                    refine lv_goto (tgt := 193) hx hb dL_refusesAny_188 (by decide) ?_
                    refine xo_Vi (As := [.int 5, .int 1]) (rest := []) hx hb hml hown hts hK hN hZ hP hD hS hA mb_X7_set mw_3_8 mw_3_9 mw_3_10 (k_X7_set l D cI cZ cS x0 xs xv ho0 ho1 pd0 pd1 m0 ts0 ts1 a ha sa cn cs sc tm tv pd sv (0 : Int32) old sz z (5 : Int32) (1 : Int32) hRS hI hold hszz) 0 7 rfl rfl (fun _ => xwW_f) (by decide) (by decide) rfl hl.1 rfl (Nat.le_of_ble_eq_true rfl) dL_refusesAny_193 ⟨Nat.zero_le _, Nat.zero_le _⟩ (fun r193 u193 H locs hw hP hD hS => ?_)
                    obtain ⟨cq_193, zq_193, old1_193, sz1_193, cs1_193⟩ := u193
                    have p193 : (setV (5 : Int32) (1 : Int32) ∧ r193 = z 5 ∧ Chg cn z old sz cs (beginZ (upd z 5 (1 : Int32))) cq_193 zq_193 old1_193 sz1_193 cs1_193) ∨ (¬ setV (5 : Int32) (1 : Int32) ∧ r193 = -2 ∧ Same cn z old sz cs cq_193 zq_193 old1_193 sz1_193 cs1_193) := hw
                    have hP : va_P D vwCl (xwW cI cZ cS x0 xs xv ho0 ho1 pd0 pd1 m0 ts0 ts1 a ha sa cq_193 cs1_193 sc tm tv pd sv (0 : Int32) old1_193 sz1_193 zq_193) H := hP
                    have hD : va_D A (xwW cI cZ cS x0 xs xv ho0 ho1 pd0 pd1 m0 ts0 ts1 a ha sa cq_193 cs1_193 sc tm tv pd sv (0 : Int32) old1_193 sz1_193 zq_193) := hD
                    have w193 : r193 = -2 ∧ cq_193 = cn ∧ zq_193 = z ∧ old1_193 = old ∧ sz1_193 = sz ∧ cs1_193 = cs := by
                      rcases p193 with ⟨c9, -⟩ | ⟨-, h9⟩
                      · exact absurd c9 (by decide)
                      · exact h9
                    obtain ⟨w193, w193_0, w193_1, w193_2, w193_3, w193_4⟩ := w193
                    rw [w193_0, w193_1, w193_2, w193_3, w193_4] at hP hD
                    have hP : va_P D vwCl (xwW cI cZ cS x0 xs xv ho0 ho1 pd0 pd1 m0 ts0 ts1 a ha sa cn cs sc tm tv pd sv (0 : Int32) old sz z) H := hP
                    have hD : va_D A (xwW cI cZ cS x0 xs xv ho0 ho1 pd0 pd1 m0 ts0 ts1 a ha sa cn cs sc tm tv pd sv (0 : Int32) old sz z) := hD
                    refine xk_top (z := (-2)) (by exact w193) ?_
                    refine lv_bipush (v := (-2)) hx hb dL_refusesAny_196 (by decide) ?_
                    refine lv_icmp_ne (tgt := 342) hx hb dL_refusesAny_198 (by decide) (fun c198 => absurd (by decide) c198) (fun _ => ?_)
                    refine lv_aload_n hx hb dL_refusesAny_201 rfl (lv_at hl 1 rfl) ?_
                    refine lv_iload_n hx hb dL_refusesAny_202 rfl (lv_at hl 2 rfl) ?_
                    refine lv_iconst (v := 2) hx hb dL_refusesAny_203 (by decide) ?_
                    refine lv_irem hx hb dL_refusesAny_204 (by decide) ?_
                    refine lv_topi (fun x204 e204 => ?_)
                    have t204 : x204.toInt = p1.toInt % 2 := by rw [e204]; exact xi_rem rfl (by decide) (by omega) (by omega)
                    refine lv_if_ne (tgt := 212) hx hb dL_refusesAny_205 (by decide) (fun c205 => ?_) (fun c205 => ?_)
                    · have t205 : ¬ x204.toInt = 0 := xi_ne rfl (by decide) c205
                      have d205 : ¬ x204 = 0 := c205
                      omega
                    · have t205 : x204.toInt = 0 := xi_eq rfl (by decide) c205
                      have d205 : x204 = 0 := c205
                      refine lv_iconst (v := 0) hx hb dL_refusesAny_208 (by decide) ?_
                      refine lv_goto (tgt := 214) hx hb dL_refusesAny_209 (by decide) ?_
                      refine lv_iconst (v := 0) hx hb dL_refusesAny_214 (by decide) ?_
                      refine lv_iconst (v := 1) hx hb dL_refusesAny_215 (by decide) ?_
                      refine xo_Vi (As := [.int 0, .int 0, .int 1]) (rest := []) hx hb hml hown hts hK hN hZ hP hD hS hA mb_X7_pave mw_3_17 mw_3_18 mw_3_19 (k_X7_pave l D cI cZ cS x0 xs xv ho0 ho1 pd0 pd1 m0 ts0 ts1 a ha sa cn cs sc tm tv pd sv (0 : Int32) old sz z (0 : Int32) (0 : Int32) (1 : Int32) hRS hI hold hszz (Or.inr rfl)) 0 7 rfl rfl (fun _ => xwW_f) (by decide) (by decide) rfl hl.1 rfl (Nat.le_of_ble_eq_true rfl) dL_refusesAny_216 ⟨Nat.zero_le _, Nat.zero_le _⟩ (fun r216 u216 H locs hw hP hD hS => ?_)
                      obtain ⟨cq_216, zq_216, old1_216, sz1_216, cs1_216⟩ := u216
                      have p216 : r216 = paveR z (0 : Int32) (0 : Int32) ∧ ((paveC z (0 : Int32) (0 : Int32) ∧ Chg cn z old sz cs (paveZ z (0 : Int32) (0 : Int32) (1 : Int32)) cq_216 zq_216 old1_216 sz1_216 cs1_216) ∨ (¬ paveC z (0 : Int32) (0 : Int32) ∧ Same cn z old sz cs cq_216 zq_216 old1_216 sz1_216 cs1_216)) := hw
                      have hP : va_P D vwCl (xwW cI cZ cS x0 xs xv ho0 ho1 pd0 pd1 m0 ts0 ts1 a ha sa cq_216 cs1_216 sc tm tv pd sv (0 : Int32) old1_216 sz1_216 zq_216) H := hP
                      have hD : va_D A (xwW cI cZ cS x0 xs xv ho0 ho1 pd0 pd1 m0 ts0 ts1 a ha sa cq_216 cs1_216 sc tm tv pd sv (0 : Int32) old1_216 sz1_216 zq_216) := hD
                      have w216 : r216 = -2 ∧ cq_216 = cn ∧ zq_216 = z ∧ old1_216 = old ∧ sz1_216 = sz ∧ cs1_216 = cs := by
                        refine ⟨p216.1.trans (pv_bad z (by decide)), ?_⟩
                        rcases p216.2 with ⟨c9, -⟩ | ⟨-, h9⟩
                        · exact absurd c9 (fun c8 => absurd c8.1 (by decide))
                        · exact h9
                      obtain ⟨w216, w216_0, w216_1, w216_2, w216_3, w216_4⟩ := w216
                      rw [w216_0, w216_1, w216_2, w216_3, w216_4] at hP hD
                      have hP : va_P D vwCl (xwW cI cZ cS x0 xs xv ho0 ho1 pd0 pd1 m0 ts0 ts1 a ha sa cn cs sc tm tv pd sv (0 : Int32) old sz z) H := hP
                      have hD : va_D A (xwW cI cZ cS x0 xs xv ho0 ho1 pd0 pd1 m0 ts0 ts1 a ha sa cn cs sc tm tv pd sv (0 : Int32) old sz z) := hD
                      refine xk_top (z := (-2)) (by exact w216) ?_
                      refine lv_bipush (v := (-2)) hx hb dL_refusesAny_219 (by decide) ?_
                      refine lv_icmp_ne (tgt := 342) hx hb dL_refusesAny_221 (by decide) (fun c221 => absurd (by decide) c221) (fun _ => ?_)
                      refine lv_aload_n hx hb dL_refusesAny_224 rfl (lv_at hl 1 rfl) ?_
                      refine lv_iconst (v := 5) hx hb dL_refusesAny_225 (by decide) ?_
                      refine lv_iload_n hx hb dL_refusesAny_226 rfl (lv_at hl 2 rfl) ?_
                      refine lv_iconst (v := 2) hx hb dL_refusesAny_227 (by decide) ?_
                      refine lv_irem hx hb dL_refusesAny_228 (by decide) ?_
                      refine lv_topi (fun x228 e228 => ?_)
                      have t228 : x228.toInt = p1.toInt % 2 := by rw [e228]; exact xi_rem rfl (by decide) (by omega) (by omega)
                      refine lv_if_ne (tgt := 237) hx hb dL_refusesAny_229 (by decide) (fun c229 => ?_) (fun c229 => ?_)
                      · have t229 : ¬ x228.toInt = 0 := xi_ne rfl (by decide) c229
                        have d229 : ¬ x228 = 0 := c229
                        omega
                      · have t229 : x228.toInt = 0 := xi_eq rfl (by decide) c229
                        have d229 : x228 = 0 := c229
                        refine lv_bipush (v := (-4)) hx hb dL_refusesAny_232 (by decide) ?_
                        refine lv_goto (tgt := 238) hx hb dL_refusesAny_234 (by decide) ?_
                        refine lv_iconst (v := 0) hx hb dL_refusesAny_238 (by decide) ?_
                        refine xo_Vi (As := [.int 5, .int (-4), .int 0]) (rest := []) hx hb hml hown hts hK hN hZ hP hD hS hA mb_X7_pave mw_3_17 mw_3_18 mw_3_19 (k_X7_pave l D cI cZ cS x0 xs xv ho0 ho1 pd0 pd1 m0 ts0 ts1 a ha sa cn cs sc tm tv pd sv (0 : Int32) old sz z (5 : Int32) (-4 : Int32) (0 : Int32) hRS hI hold hszz (Or.inl rfl)) 0 7 rfl rfl (fun _ => xwW_f) (by decide) (by decide) rfl hl.1 rfl (Nat.le_of_ble_eq_true rfl) dL_refusesAny_239 ⟨Nat.zero_le _, Nat.zero_le _⟩ (fun r239 u239 H locs hw hP hD hS => ?_)
                        obtain ⟨cq_239, zq_239, old1_239, sz1_239, cs1_239⟩ := u239
                        have p239 : r239 = paveR z (5 : Int32) (-4 : Int32) ∧ ((paveC z (5 : Int32) (-4 : Int32) ∧ Chg cn z old sz cs (paveZ z (5 : Int32) (-4 : Int32) (0 : Int32)) cq_239 zq_239 old1_239 sz1_239 cs1_239) ∨ (¬ paveC z (5 : Int32) (-4 : Int32) ∧ Same cn z old sz cs cq_239 zq_239 old1_239 sz1_239 cs1_239)) := hw
                        have hP : va_P D vwCl (xwW cI cZ cS x0 xs xv ho0 ho1 pd0 pd1 m0 ts0 ts1 a ha sa cq_239 cs1_239 sc tm tv pd sv (0 : Int32) old1_239 sz1_239 zq_239) H := hP
                        have hD : va_D A (xwW cI cZ cS x0 xs xv ho0 ho1 pd0 pd1 m0 ts0 ts1 a ha sa cq_239 cs1_239 sc tm tv pd sv (0 : Int32) old1_239 sz1_239 zq_239) := hD
                        have w239 : r239 = -2 ∧ cq_239 = cn ∧ zq_239 = z ∧ old1_239 = old ∧ sz1_239 = sz ∧ cs1_239 = cs := by
                          refine ⟨p239.1.trans (pv_bad z (by decide)), ?_⟩
                          rcases p239.2 with ⟨c9, -⟩ | ⟨-, h9⟩
                          · exact absurd c9 (fun c8 => absurd c8.1 (by decide))
                          · exact h9
                        obtain ⟨w239, w239_0, w239_1, w239_2, w239_3, w239_4⟩ := w239
                        rw [w239_0, w239_1, w239_2, w239_3, w239_4] at hP hD
                        have hP : va_P D vwCl (xwW cI cZ cS x0 xs xv ho0 ho1 pd0 pd1 m0 ts0 ts1 a ha sa cn cs sc tm tv pd sv (0 : Int32) old sz z) H := hP
                        have hD : va_D A (xwW cI cZ cS x0 xs xv ho0 ho1 pd0 pd1 m0 ts0 ts1 a ha sa cn cs sc tm tv pd sv (0 : Int32) old sz z) := hD
                        refine xk_top (z := (-2)) (by exact w239) ?_
                        refine lv_bipush (v := (-2)) hx hb dL_refusesAny_242 (by decide) ?_
                        refine lv_icmp_ne (tgt := 342) hx hb dL_refusesAny_244 (by decide) (fun c244 => absurd (by decide) c244) (fun _ => ?_)
                        have J270 : ∀   (H : Heap) (locs : List Loc), va_P D vwCl (xwW cI cZ cS x0 xs xv ho0 ho1 pd0 pd1 m0 ts0 ts1 a ha sa cn cs sc tm tv pd sv (0 : Int32) old sz z) H → va_D A (xwW cI cZ cS x0 xs xv ho0 ho1 pd0 pd1 m0 ts0 ts1 a ha sa cn cs sc tm tv pd sv (0 : Int32) old sz z) → va_S A s.heap H locs → ∀ ls : Array Slot, lv_has ls 5 [(2, .int x11), (0, .ref x0), (1, .int p1), (3, .int b)] → W p l e ({ frames := 7, cells := 0, slots := 0, locals := 159 } : Room) s m args below meth c H locs 0 0 Q (F0 m 270 ls []) := by
                          intro  H locs hP hD hS ls hl
                          refine lv_aload_n hx hb dL_refusesAny_270 rfl (lv_at hl 1 rfl) ?_
                          refine lv_iload_n hx hb dL_refusesAny_271 rfl (lv_at hl 0 rfl) ?_
                          refine xo_Vi (As := [.int x11]) (rest := []) hx hb hml hown hts hK hN hZ hP hD hS hA mb_X7_tear mw_3_25 mw_3_26 mw_3_27 (k_X7_tear l D cI cZ cS x0 xs xv ho0 ho1 pd0 pd1 m0 ts0 ts1 a ha sa cn cs sc tm tv pd sv (0 : Int32) old sz z x11 hRS hI hold hszz) 0 7 rfl rfl (fun _ => xwW_f) (by decide) (by decide) rfl hl.1 rfl (Nat.le_of_ble_eq_true rfl) dL_refusesAny_272 ⟨Nat.zero_le _, Nat.zero_le _⟩ (fun r272 u272 H locs hw hP hD hS => ?_)
                          obtain ⟨cq_272, zq_272, old1_272, sz1_272, cs1_272⟩ := u272
                          have p272 : (tearC z x11 ∧ r272 = ofZ z x11.toInt.toNat 0 ∧ Chg cn z old sz cs (tearZ z x11) cq_272 zq_272 old1_272 sz1_272 cs1_272) ∨ (¬ tearC z x11 ∧ r272 = -1 ∧ Same cn z old sz cs cq_272 zq_272 old1_272 sz1_272 cs1_272) := hw
                          have hP : va_P D vwCl (xwW cI cZ cS x0 xs xv ho0 ho1 pd0 pd1 m0 ts0 ts1 a ha sa cq_272 cs1_272 sc tm tv pd sv (0 : Int32) old1_272 sz1_272 zq_272) H := hP
                          have hD : va_D A (xwW cI cZ cS x0 xs xv ho0 ho1 pd0 pd1 m0 ts0 ts1 a ha sa cq_272 cs1_272 sc tm tv pd sv (0 : Int32) old1_272 sz1_272 zq_272) := hD
                          have w272 : r272 = -1 ∧ cq_272 = cn ∧ zq_272 = z ∧ old1_272 = old ∧ sz1_272 = sz ∧ cs1_272 = cs := by
                            rcases p272 with ⟨c9, -⟩ | ⟨-, h9⟩
                            · exact absurd c9 (fun c8 => by have := c8.1; have := c8.2; omega)
                            · exact h9
                          obtain ⟨w272, w272_0, w272_1, w272_2, w272_3, w272_4⟩ := w272
                          rw [w272_0, w272_1, w272_2, w272_3, w272_4] at hP hD
                          have hP : va_P D vwCl (xwW cI cZ cS x0 xs xv ho0 ho1 pd0 pd1 m0 ts0 ts1 a ha sa cn cs sc tm tv pd sv (0 : Int32) old sz z) H := hP
                          have hD : va_D A (xwW cI cZ cS x0 xs xv ho0 ho1 pd0 pd1 m0 ts0 ts1 a ha sa cn cs sc tm tv pd sv (0 : Int32) old sz z) := hD
                          refine xk_top (z := (-1)) (by exact w272) ?_
                          refine lv_iconst (v := (-1)) hx hb dL_refusesAny_275 (by decide) ?_
                          refine lv_icmp_ne (tgt := 342) hx hb dL_refusesAny_276 (by decide) (fun c276 => absurd (by decide) c276) (fun _ => ?_)
                          refine lv_aload_n hx hb dL_refusesAny_279 rfl (lv_at hl 1 rfl) ?_
                          refine lv_aload_n hx hb dL_refusesAny_280 rfl (lv_at hl 1 rfl) ?_
                          refine lv_bipush (v := 9) hx hb dL_refusesAny_281 (by decide) ?_
                          refine xo_Vi (As := [.int 9]) (rest := [.ref x0]) hx hb hml hown hts hK hN hZ hP hD hS hA mb_X7_count mw_2_6 mw_2_7 mw_2_8 (k_X7_count l D cI cZ cS x0 xs xv ho0 ho1 pd0 pd1 m0 ts0 ts1 a ha sa cn cs sc tm tv pd sv (0 : Int32) old sz z (9 : Int32) hRS hI) 0 7 rfl rfl (fun _ => xwW_f) (by decide) (by decide) rfl hl.1 rfl (Nat.le_of_ble_eq_true rfl) dL_refusesAny_283 ⟨Nat.zero_le _, Nat.zero_le _⟩ (fun r283 u283 H locs hw hP hD hS => ?_)
                          have p283 : r283 = cntR z (0 : Int32) sz (9 : Int32) := hw
                          have hP : va_P D vwCl (xwW cI cZ cS x0 xs xv ho0 ho1 pd0 pd1 m0 ts0 ts1 a ha sa cn cs sc tm tv pd sv (0 : Int32) old sz z) H := hP
                          have hD : va_D A (xwW cI cZ cS x0 xs xv ho0 ho1 pd0 pd1 m0 ts0 ts1 a ha sa cn cs sc tm tv pd sv (0 : Int32) old sz z) := hD
                          refine xk_top (z := (z 7)) (by exact p283.trans (ct_9 _ _ _)) ?_
                          refine xo_Vi (As := [.int (z 7)]) (rest := []) hx hb hml hown hts hK hN hZ hP hD hS hA mb_X7_tear mw_3_25 mw_3_26 mw_3_27 (k_X7_tear l D cI cZ cS x0 xs xv ho0 ho1 pd0 pd1 m0 ts0 ts1 a ha sa cn cs sc tm tv pd sv (0 : Int32) old sz z (z 7) hRS hI hold hszz) 0 7 rfl rfl (fun _ => xwW_f) (by decide) (by decide) rfl hl.1 rfl (Nat.le_of_ble_eq_true rfl) dL_refusesAny_286 ⟨Nat.zero_le _, Nat.zero_le _⟩ (fun r286 u286 H locs hw hP hD hS => ?_)
                          obtain ⟨cq_286, zq_286, old1_286, sz1_286, cs1_286⟩ := u286
                          have p286 : (tearC z (z 7) ∧ r286 = ofZ z (z 7).toInt.toNat 0 ∧ Chg cn z old sz cs (tearZ z (z 7)) cq_286 zq_286 old1_286 sz1_286 cs1_286) ∨ (¬ tearC z (z 7) ∧ r286 = -1 ∧ Same cn z old sz cs cq_286 zq_286 old1_286 sz1_286 cs1_286) := hw
                          have hP : va_P D vwCl (xwW cI cZ cS x0 xs xv ho0 ho1 pd0 pd1 m0 ts0 ts1 a ha sa cq_286 cs1_286 sc tm tv pd sv (0 : Int32) old1_286 sz1_286 zq_286) H := hP
                          have hD : va_D A (xwW cI cZ cS x0 xs xv ho0 ho1 pd0 pd1 m0 ts0 ts1 a ha sa cq_286 cs1_286 sc tm tv pd sv (0 : Int32) old1_286 sz1_286 zq_286) := hD
                          have w286 : r286 = -1 ∧ cq_286 = cn ∧ zq_286 = z ∧ old1_286 = old ∧ sz1_286 = sz ∧ cs1_286 = cs := by
                            rcases p286 with ⟨c9, -⟩ | ⟨-, h9⟩
                            · exact absurd c9 (fun c8 => by have := c8.1; have := c8.2; omega)
                            · exact h9
                          obtain ⟨w286, w286_0, w286_1, w286_2, w286_3, w286_4⟩ := w286
                          rw [w286_0, w286_1, w286_2, w286_3, w286_4] at hP hD
                          have hP : va_P D vwCl (xwW cI cZ cS x0 xs xv ho0 ho1 pd0 pd1 m0 ts0 ts1 a ha sa cn cs sc tm tv pd sv (0 : Int32) old sz z) H := hP
                          have hD : va_D A (xwW cI cZ cS x0 xs xv ho0 ho1 pd0 pd1 m0 ts0 ts1 a ha sa cn cs sc tm tv pd sv (0 : Int32) old sz z) := hD
                          refine xk_top (z := (-1)) (by exact w286) ?_
                          refine lv_iconst (v := (-1)) hx hb dL_refusesAny_289 (by decide) ?_
                          refine lv_icmp_ne (tgt := 342) hx hb dL_refusesAny_290 (by decide) (fun c290 => absurd (by decide) c290) (fun _ => ?_)
                          refine lv_aload_n hx hb dL_refusesAny_293 rfl (lv_at hl 1 rfl) ?_
                          refine lv_iload_n hx hb dL_refusesAny_294 rfl (lv_at hl 2 rfl) ?_
                          refine lv_iconst (v := 2) hx hb dL_refusesAny_295 (by decide) ?_
                          refine lv_irem hx hb dL_refusesAny_296 (by decide) ?_
                          refine lv_topi (fun x296 e296 => ?_)
                          have t296 : x296.toInt = p1.toInt % 2 := by rw [e296]; exact xi_rem rfl (by decide) (by omega) (by omega)
                          refine lv_if_ne (tgt := 304) hx hb dL_refusesAny_297 (by decide) (fun c297 => ?_) (fun c297 => ?_)
                          · have t297 : ¬ x296.toInt = 0 := xi_ne rfl (by decide) c297
                            have d297 : ¬ x296 = 0 := c297
                            omega
                          · have t297 : x296.toInt = 0 := xi_eq rfl (by decide) c297
                            have d297 : x296 = 0 := c297
                            refine lv_iconst (v := 0) hx hb dL_refusesAny_300 (by decide) ?_
                            refine lv_goto (tgt := 307) hx hb dL_refusesAny_301 (by decide) ?_
                            refine xo_Vi (As := [.int 0]) (rest := []) hx hb hml hown hts hK hN hZ hP hD hS hA mb_X7_march mw_3_33 mw_3_34 mw_3_35 (k_X7_march l D cI cZ cS x0 xs xv ho0 ho1 pd0 pd1 m0 ts0 ts1 a ha sa cn cs sc tm tv pd sv (0 : Int32) old sz z (0 : Int32) hRS hI hold hszz ⟨hb74, by omega⟩) 0 7 rfl rfl (fun _ => xwW_f) (by decide) (by decide) rfl hl.1 rfl (Nat.le_of_ble_eq_true rfl) dL_refusesAny_307 ⟨Nat.zero_le _, Nat.zero_le _⟩ (fun r307 u307 H locs hw hP hD hS => ?_)
                            obtain ⟨cq_307, zq_307, old1_307, sz1_307, cs1_307⟩ := u307
                            have p307 : marchA z (0 : Int32) r307 ∧ ((marchC z (0 : Int32) ∧ Chg cn z old sz cs (walkZ 0 z) cq_307 zq_307 old1_307 sz1_307 cs1_307) ∨ (¬ marchC z (0 : Int32) ∧ Same cn z old sz cs cq_307 zq_307 old1_307 sz1_307 cs1_307)) := hw
                            have hP : va_P D vwCl (xwW cI cZ cS x0 xs xv ho0 ho1 pd0 pd1 m0 ts0 ts1 a ha sa cq_307 cs1_307 sc tm tv pd sv (0 : Int32) old1_307 sz1_307 zq_307) H := hP
                            have hD : va_D A (xwW cI cZ cS x0 xs xv ho0 ho1 pd0 pd1 m0 ts0 ts1 a ha sa cq_307 cs1_307 sc tm tv pd sv (0 : Int32) old1_307 sz1_307 zq_307) := hD
                            have w307 : r307 = -2 ∧ cq_307 = cn ∧ zq_307 = z ∧ old1_307 = old ∧ sz1_307 = sz ∧ cs1_307 = cs := by
                              refine ⟨mc_bad (by decide) p307.1, ?_⟩
                              rcases p307.2 with ⟨c9, -⟩ | ⟨-, h9⟩
                              · exact absurd c9 (fun c8 => absurd c8.1 (by decide))
                              · exact h9
                            obtain ⟨w307, w307_0, w307_1, w307_2, w307_3, w307_4⟩ := w307
                            rw [w307_0, w307_1, w307_2, w307_3, w307_4] at hP hD
                            have hP : va_P D vwCl (xwW cI cZ cS x0 xs xv ho0 ho1 pd0 pd1 m0 ts0 ts1 a ha sa cn cs sc tm tv pd sv (0 : Int32) old sz z) H := hP
                            have hD : va_D A (xwW cI cZ cS x0 xs xv ho0 ho1 pd0 pd1 m0 ts0 ts1 a ha sa cn cs sc tm tv pd sv (0 : Int32) old sz z) := hD
                            refine xk_top (z := (-2)) (by exact w307) ?_
                            refine lv_bipush (v := (-2)) hx hb dL_refusesAny_310 (by decide) ?_
                            refine lv_icmp_ne (tgt := 342) hx hb dL_refusesAny_312 (by decide) (fun c312 => absurd (by decide) c312) (fun _ => ?_)
                            have J338 : ∀   (H : Heap) (locs : List Loc), va_P D vwCl (xwW cI cZ cS x0 xs xv ho0 ho1 pd0 pd1 m0 ts0 ts1 a ha sa cn cs sc tm tv pd sv (0 : Int32) old sz z) H → va_D A (xwW cI cZ cS x0 xs xv ho0 ho1 pd0 pd1 m0 ts0 ts1 a ha sa cn cs sc tm tv pd sv (0 : Int32) old sz z) → va_S A s.heap H locs → ∀ ls : Array Slot, lv_has ls 5 [(2, .int x11), (0, .ref x0), (1, .int p1), (3, .int b)] → W p l e ({ frames := 7, cells := 0, slots := 0, locals := 159 } : Room) s m args below meth c H locs 0 0 Q (F0 m 338 ls []) := by
                              intro  H locs hP hD hS ls hl
                              refine lv_iconst (v := 1) hx hb dL_refusesAny_338 (by decide) ?_
                              refine lv_goto (tgt := 343) hx hb dL_refusesAny_339 (by decide) ?_
                              refine lv_istore (lv' := [(4, .int 1), (2, .int x11), (0, .ref x0), (1, .int p1), (3, .int b)]) hx hb dL_refusesAny_343 hl (by decide) rfl (fun ls hl => ?_)
                              refine lv_iload hx hb dL_refusesAny_345 (lv_at hl 0 rfl) ?_
                              refine lv_if_eq (tgt := 631) hx hb dL_refusesAny_347 (by decide) (fun c347 => absurd c347 (by decide)) (fun _ => ?_)
                              refine lv_aload_n hx hb dL_refusesAny_350 rfl (lv_at hl 2 rfl) ?_
                              refine lv_iload_n hx hb dL_refusesAny_351 rfl (lv_at hl 1 rfl) ?_
                              refine lv_bipush (v := 9) hx hb dL_refusesAny_352 (by decide) ?_
                              refine xo_Vi (As := [.int x11, .int 9]) (rest := []) hx hb hml hown hts hK hN hZ hP hD hS hA mb_X7_line mw_2_150 mw_2_151 mw_2_152 (k_X7_line l D cI cZ cS x0 xs xv ho0 ho1 pd0 pd1 m0 ts0 ts1 a ha sa cn cs sc tm tv pd sv (0 : Int32) old sz z x11 (9 : Int32) hRS hI) 0 7 rfl rfl (fun _ => xwW_f) (by decide) (by decide) rfl hl.1 rfl (Nat.le_of_ble_eq_true rfl) dL_refusesAny_354 ⟨Nat.zero_le _, Nat.zero_le _⟩ (fun r354 u354 H locs hw hP hD hS => ?_)
                              have p354 : r354 = lineR z x11 (9 : Int32) := hw
                              have hP : va_P D vwCl (xwW cI cZ cS x0 xs xv ho0 ho1 pd0 pd1 m0 ts0 ts1 a ha sa cn cs sc tm tv pd sv (0 : Int32) old sz z) H := hP
                              have hD : va_D A (xwW cI cZ cS x0 xs xv ho0 ho1 pd0 pd1 m0 ts0 ts1 a ha sa cn cs sc tm tv pd sv (0 : Int32) old sz z) := hD
                              refine xk_top (z := (-1)) (by exact p354.trans (ln_no (fun c8 => by have := c8.1; have := c8.2; omega))) ?_
                              refine lv_iconst (v := (-1)) hx hb dL_refusesAny_357 (by decide) ?_
                              refine lv_icmp_ne (tgt := 631) hx hb dL_refusesAny_358 (by decide) (fun c358 => absurd (by decide) c358) (fun _ => ?_)
                              refine lv_aload_n hx hb dL_refusesAny_361 rfl (lv_at hl 2 rfl) ?_
                              refine lv_aload_n hx hb dL_refusesAny_362 rfl (lv_at hl 2 rfl) ?_
                              refine lv_bipush (v := 6) hx hb dL_refusesAny_363 (by decide) ?_
                              refine xo_Vi (As := [.int 6]) (rest := [.ref x0]) hx hb hml hown hts hK hN hZ hP hD hS hA mb_X7_count mw_2_6 mw_2_7 mw_2_8 (k_X7_count l D cI cZ cS x0 xs xv ho0 ho1 pd0 pd1 m0 ts0 ts1 a ha sa cn cs sc tm tv pd sv (0 : Int32) old sz z (6 : Int32) hRS hI) 0 7 rfl rfl (fun _ => xwW_f) (by decide) (by decide) rfl hl.1 rfl (Nat.le_of_ble_eq_true rfl) dL_refusesAny_365 ⟨Nat.zero_le _, Nat.zero_le _⟩ (fun r365 u365 H locs hw hP hD hS => ?_)
                              have p365 : r365 = cntR z (0 : Int32) sz (6 : Int32) := hw
                              have hP : va_P D vwCl (xwW cI cZ cS x0 xs xv ho0 ho1 pd0 pd1 m0 ts0 ts1 a ha sa cn cs sc tm tv pd sv (0 : Int32) old sz z) H := hP
                              have hD : va_D A (xwW cI cZ cS x0 xs xv ho0 ho1 pd0 pd1 m0 ts0 ts1 a ha sa cn cs sc tm tv pd sv (0 : Int32) old sz z) := hD
                              refine xk_top (z := (z 6)) (by exact p365.trans (ct_6 _ _ _)) ?_
                              refine lv_iconst (v := 0) hx hb dL_refusesAny_368 (by decide) ?_
                              refine xo_Vi (As := [.int (z 6), .int 0]) (rest := []) hx hb hml hown hts hK hN hZ hP hD hS hA mb_X7_line mw_2_150 mw_2_151 mw_2_152 (k_X7_line l D cI cZ cS x0 xs xv ho0 ho1 pd0 pd1 m0 ts0 ts1 a ha sa cn cs sc tm tv pd sv (0 : Int32) old sz z (z 6) (0 : Int32) hRS hI) 0 7 rfl rfl (fun _ => xwW_f) (by decide) (by decide) rfl hl.1 rfl (Nat.le_of_ble_eq_true rfl) dL_refusesAny_369 ⟨Nat.zero_le _, Nat.zero_le _⟩ (fun r369 u369 H locs hw hP hD hS => ?_)
                              have p369 : r369 = lineR z (z 6) (0 : Int32) := hw
                              have hP : va_P D vwCl (xwW cI cZ cS x0 xs xv ho0 ho1 pd0 pd1 m0 ts0 ts1 a ha sa cn cs sc tm tv pd sv (0 : Int32) old sz z) H := hP
                              have hD : va_D A (xwW cI cZ cS x0 xs xv ho0 ho1 pd0 pd1 m0 ts0 ts1 a ha sa cn cs sc tm tv pd sv (0 : Int32) old sz z) := hD
                              refine xk_top (z := (-1)) (by exact p369.trans (ln_no (fun c8 => by have := c8.1; have := c8.2; omega))) ?_
                              refine lv_iconst (v := (-1)) hx hb dL_refusesAny_372 (by decide) ?_
                              refine lv_icmp_ne (tgt := 631) hx hb dL_refusesAny_373 (by decide) (fun c373 => absurd (by decide) c373) (fun _ => ?_)
                              have J440 : ∀   (H : Heap) (locs : List Loc), va_P D vwCl (xwW cI cZ cS x0 xs xv ho0 ho1 pd0 pd1 m0 ts0 ts1 a ha sa cn cs sc tm tv pd sv (0 : Int32) old sz z) H → va_D A (xwW cI cZ cS x0 xs xv ho0 ho1 pd0 pd1 m0 ts0 ts1 a ha sa cn cs sc tm tv pd sv (0 : Int32) old sz z) → va_S A s.heap H locs → ∀ ls : Array Slot, lv_has ls 5 [(4, .int 1), (2, .int x11), (0, .ref x0), (1, .int p1), (3, .int b)] → W p l e ({ frames := 7, cells := 0, slots := 0, locals := 159 } : Room) s m args below meth c H locs 0 0 Q (F0 m 440 ls []) := by
                                intro  H locs hP hD hS ls hl
                                refine lv_aload_n hx hb dL_refusesAny_440 rfl (lv_at hl 2 rfl) ?_
                                refine lv_iload_n hx hb dL_refusesAny_441 rfl (lv_at hl 1 rfl) ?_
                                refine lv_iconst (v := 0) hx hb dL_refusesAny_442 (by decide) ?_
                                refine lv_bipush (v := 9) hx hb dL_refusesAny_443 (by decide) ?_
                                refine xo_Vi (As := [.int x11, .int 0, .int 9]) (rest := []) hx hb hml hown hts hK hN hZ hP hD hS hA mb_X7_foot mw_2_140 mw_2_141 mw_2_142 (k_X7_foot l D cI cZ cS x0 xs xv ho0 ho1 pd0 pd1 m0 ts0 ts1 a ha sa cn cs sc tm tv pd sv (0 : Int32) old sz z x11 (0 : Int32) (9 : Int32) hRS hI) 0 7 rfl rfl (fun _ => xwW_f) (by decide) (by decide) rfl hl.1 rfl (Nat.le_of_ble_eq_true rfl) dL_refusesAny_445 ⟨Nat.zero_le _, Nat.zero_le _⟩ (fun r445 u445 H locs hw hP hD hS => ?_)
                                have p445 : r445 = footR z x11 (0 : Int32) (9 : Int32) := hw
                                have hP : va_P D vwCl (xwW cI cZ cS x0 xs xv ho0 ho1 pd0 pd1 m0 ts0 ts1 a ha sa cn cs sc tm tv pd sv (0 : Int32) old sz z) H := hP
                                have hD : va_D A (xwW cI cZ cS x0 xs xv ho0 ho1 pd0 pd1 m0 ts0 ts1 a ha sa cn cs sc tm tv pd sv (0 : Int32) old sz z) := hD
                                refine xk_top (z := (-1)) (by exact p445.trans (ft_no (fun c8 => by have := c8.1.1; have := c8.1.2; omega))) ?_
                                refine lv_iconst (v := (-1)) hx hb dL_refusesAny_448 (by decide) ?_
                                refine lv_icmp_ne (tgt := 631) hx hb dL_refusesAny_449 (by decide) (fun c449 => absurd (by decide) c449) (fun _ => ?_)
                                refine lv_aload_n hx hb dL_refusesAny_452 rfl (lv_at hl 2 rfl) ?_
                                refine lv_iload_n hx hb dL_refusesAny_453 rfl (lv_at hl 1 rfl) ?_
                                refine lv_bipush (v := 9) hx hb dL_refusesAny_454 (by decide) ?_
                                refine xo_Vi (As := [.int x11, .int 9]) (rest := []) hx hb hml hown hts hK hN hZ hP hD hS hA mb_X7_stretch mw_2_121 mw_2_122 mw_2_123 (k_X7_stretch l D cI cZ cS x0 xs xv ho0 ho1 pd0 pd1 m0 ts0 ts1 a ha sa cn cs sc tm tv pd sv (0 : Int32) old sz z x11 (9 : Int32) hRS hI) 0 7 rfl rfl (fun _ => xwW_f) (by decide) (by decide) rfl hl.1 rfl (Nat.le_of_ble_eq_true rfl) dL_refusesAny_456 ⟨Nat.zero_le _, Nat.zero_le _⟩ (fun r456 u456 H locs hw hP hD hS => ?_)
                                have p456 : strA z x11 (9 : Int32) r456 := hw
                                have hP : va_P D vwCl (xwW cI cZ cS x0 xs xv ho0 ho1 pd0 pd1 m0 ts0 ts1 a ha sa cn cs sc tm tv pd sv (0 : Int32) old sz z) H := hP
                                have hD : va_D A (xwW cI cZ cS x0 xs xv ho0 ho1 pd0 pd1 m0 ts0 ts1 a ha sa cn cs sc tm tv pd sv (0 : Int32) old sz z) := hD
                                refine xk_top (z := (-1)) (by exact st_no (fun c8 => by have := c8.1; have := c8.2; omega) p456) ?_
                                refine lv_iconst (v := (-1)) hx hb dL_refusesAny_459 (by decide) ?_
                                refine lv_icmp_ne (tgt := 631) hx hb dL_refusesAny_460 (by decide) (fun c460 => absurd (by decide) c460) (fun _ => ?_)
                                have J514 : ∀   (H : Heap) (locs : List Loc), va_P D vwCl (xwW cI cZ cS x0 xs xv ho0 ho1 pd0 pd1 m0 ts0 ts1 a ha sa cn cs sc tm tv pd sv (0 : Int32) old sz z) H → va_D A (xwW cI cZ cS x0 xs xv ho0 ho1 pd0 pd1 m0 ts0 ts1 a ha sa cn cs sc tm tv pd sv (0 : Int32) old sz z) → va_S A s.heap H locs → ∀ ls : Array Slot, lv_has ls 5 [(4, .int 1), (2, .int x11), (0, .ref x0), (1, .int p1), (3, .int b)] → W p l e ({ frames := 7, cells := 0, slots := 0, locals := 159 } : Room) s m args below meth c H locs 0 0 Q (F0 m 514 ls []) := by
                                  intro  H locs hP hD hS ls hl
                                  refine lv_aload_n hx hb dL_refusesAny_514 rfl (lv_at hl 2 rfl) ?_
                                  refine lv_iload_n hx hb dL_refusesAny_515 rfl (lv_at hl 3 rfl) ?_
                                  refine lv_iconst (v := 2) hx hb dL_refusesAny_516 (by decide) ?_
                                  refine lv_irem hx hb dL_refusesAny_517 (by decide) ?_
                                  refine lv_topi (fun x517 e517 => ?_)
                                  have t517 : x517.toInt = p1.toInt % 2 := by rw [e517]; exact xi_rem rfl (by decide) (by omega) (by omega)
                                  refine lv_if_ne (tgt := 525) hx hb dL_refusesAny_518 (by decide) (fun c518 => ?_) (fun c518 => ?_)
                                  · have t518 : ¬ x517.toInt = 0 := xi_ne rfl (by decide) c518
                                    have d518 : ¬ x517 = 0 := c518
                                    omega
                                  · have t518 : x517.toInt = 0 := xi_eq rfl (by decide) c518
                                    have d518 : x517 = 0 := c518
                                    refine lv_iconst (v := (-1)) hx hb dL_refusesAny_521 (by decide) ?_
                                    refine lv_goto (tgt := 527) hx hb dL_refusesAny_522 (by decide) ?_
                                    refine xo_Vi (As := [.int (-1)]) (rest := []) hx hb hml hown hts hK hN hZ hP hD hS hA mb_X7_walk mw_1_238 mw_1_239 mw_2_0 (k_X7_walk l D cI cZ cS x0 xs xv ho0 ho1 pd0 pd1 m0 ts0 ts1 a ha sa cn cs sc tm tv pd sv (0 : Int32) old sz z (-1 : Int32) hRS hI) 0 7 rfl rfl (fun _ => xwW_f) (by decide) (by decide) rfl hl.1 rfl (Nat.le_of_ble_eq_true rfl) dL_refusesAny_527 ⟨Nat.zero_le _, Nat.zero_le _⟩ (fun r527 u527 H locs hw hP hD hS => ?_)
                                    have p527 : r527 = walkR z (-1 : Int32) := hw
                                    have hP : va_P D vwCl (xwW cI cZ cS x0 xs xv ho0 ho1 pd0 pd1 m0 ts0 ts1 a ha sa cn cs sc tm tv pd sv (0 : Int32) old sz z) H := hP
                                    have hD : va_D A (xwW cI cZ cS x0 xs xv ho0 ho1 pd0 pd1 m0 ts0 ts1 a ha sa cn cs sc tm tv pd sv (0 : Int32) old sz z) := hD
                                    refine xk_top (z := (-2)) (by exact p527.trans (wk_bad z (by decide))) ?_
                                    refine lv_bipush (v := (-2)) hx hb dL_refusesAny_530 (by decide) ?_
                                    refine lv_icmp_ne (tgt := 631) hx hb dL_refusesAny_532 (by decide) (fun c532 => absurd (by decide) c532) (fun _ => ?_)
                                    refine lv_aload_n hx hb dL_refusesAny_535 rfl (lv_at hl 2 rfl) ?_
                                    refine lv_iload_n hx hb dL_refusesAny_536 rfl (lv_at hl 3 rfl) ?_
                                    refine lv_iconst (v := 2) hx hb dL_refusesAny_537 (by decide) ?_
                                    refine lv_irem hx hb dL_refusesAny_538 (by decide) ?_
                                    refine lv_topi (fun x538 e538 => ?_)
                                    have t538 : x538.toInt = p1.toInt % 2 := by rw [e538]; exact xi_rem rfl (by decide) (by omega) (by omega)
                                    refine lv_if_ne (tgt := 546) hx hb dL_refusesAny_539 (by decide) (fun c539 => ?_) (fun c539 => ?_)
                                    · have t539 : ¬ x538.toInt = 0 := xi_ne rfl (by decide) c539
                                      have d539 : ¬ x538 = 0 := c539
                                      omega
                                    · have t539 : x538.toInt = 0 := xi_eq rfl (by decide) c539
                                      have d539 : x538 = 0 := c539
                                      refine lv_iconst (v := (-1)) hx hb dL_refusesAny_542 (by decide) ?_
                                      refine lv_goto (tgt := 548) hx hb dL_refusesAny_543 (by decide) ?_
                                      refine xo_Vi (As := [.int (-1)]) (rest := []) hx hb hml hown hts hK hN hZ hP hD hS hA mb_X7_count mw_2_6 mw_2_7 mw_2_8 (k_X7_count l D cI cZ cS x0 xs xv ho0 ho1 pd0 pd1 m0 ts0 ts1 a ha sa cn cs sc tm tv pd sv (0 : Int32) old sz z (-1 : Int32) hRS hI) 0 7 rfl rfl (fun _ => xwW_f) (by decide) (by decide) rfl hl.1 rfl (Nat.le_of_ble_eq_true rfl) dL_refusesAny_548 ⟨Nat.zero_le _, Nat.zero_le _⟩ (fun r548 u548 H locs hw hP hD hS => ?_)
                                      have p548 : r548 = cntR z (0 : Int32) sz (-1 : Int32) := hw
                                      have hP : va_P D vwCl (xwW cI cZ cS x0 xs xv ho0 ho1 pd0 pd1 m0 ts0 ts1 a ha sa cn cs sc tm tv pd sv (0 : Int32) old sz z) H := hP
                                      have hD : va_D A (xwW cI cZ cS x0 xs xv ho0 ho1 pd0 pd1 m0 ts0 ts1 a ha sa cn cs sc tm tv pd sv (0 : Int32) old sz z) := hD
                                      refine xk_top (z := (-2)) (by exact p548.trans (ct_bad z _ _ (by decide))) ?_
                                      refine lv_bipush (v := (-2)) hx hb dL_refusesAny_551 (by decide) ?_
                                      refine lv_icmp_ne (tgt := 631) hx hb dL_refusesAny_553 (by decide) (fun c553 => absurd (by decide) c553) (fun _ => ?_)
                                      refine lv_aload_n hx hb dL_refusesAny_556 rfl (lv_at hl 2 rfl) ?_
                                      refine lv_iload_n hx hb dL_refusesAny_557 rfl (lv_at hl 3 rfl) ?_
                                      refine lv_iconst (v := 2) hx hb dL_refusesAny_558 (by decide) ?_
                                      refine lv_irem hx hb dL_refusesAny_559 (by decide) ?_
                                      refine lv_topi (fun x559 e559 => ?_)
                                      have t559 : x559.toInt = p1.toInt % 2 := by rw [e559]; exact xi_rem rfl (by decide) (by omega) (by omega)
                                      refine lv_if_ne (tgt := 567) hx hb dL_refusesAny_560 (by decide) (fun c560 => ?_) (fun c560 => ?_)
                                      · have t560 : ¬ x559.toInt = 0 := xi_ne rfl (by decide) c560
                                        have d560 : ¬ x559 = 0 := c560
                                        omega
                                      · have t560 : x559.toInt = 0 := xi_eq rfl (by decide) c560
                                        have d560 : x559 = 0 := c560
                                        refine lv_iconst (v := (-1)) hx hb dL_refusesAny_563 (by decide) ?_
                                        refine lv_goto (tgt := 568) hx hb dL_refusesAny_564 (by decide) ?_
                                        refine xo_Vi (As := [.int (-1)]) (rest := []) hx hb hml hown hts hK hN hZ hP hD hS hA mb_X7_untilWalked mw_2_177 mw_2_178 mw_2_179 (k_X7_untilWalked l D cI cZ cS x0 xs xv ho0 ho1 pd0 pd1 m0 ts0 ts1 a ha sa cn cs sc tm tv pd sv (0 : Int32) old sz z (-1 : Int32) hRS hI) 0 7 rfl rfl (fun _ => xwW_f) (by decide) (by decide) rfl hl.1 rfl (Nat.le_of_ble_eq_true rfl) dL_refusesAny_568 ⟨Nat.zero_le _, Nat.zero_le _⟩ (fun r568 u568 H locs hw hP hD hS => ?_)
                                        obtain ⟨tq_568, rfl⟩ : ∃ q, q = u568 := ⟨_, rfl⟩
                                        have p568 : r568 = untR z (-1 : Int32) := hw
                                        have hP : va_P D vwCl (xwW cI cZ cS x0 xs xv ho0 ho1 pd0 pd1 m0 ts0 ts1 a ha sa cn cs sc tq_568 tv pd sv (0 : Int32) old sz z) H := hP
                                        have hD : va_D A (xwW cI cZ cS x0 xs xv ho0 ho1 pd0 pd1 m0 ts0 ts1 a ha sa cn cs sc tq_568 tv pd sv (0 : Int32) old sz z) := hD
                                        refine xk_top (z := (-2)) (by exact p568.trans (un_bad z (by decide))) ?_
                                        refine lv_bipush (v := (-2)) hx hb dL_refusesAny_571 (by decide) ?_
                                        refine lv_icmp_ne (tgt := 631) hx hb dL_refusesAny_573 (by decide) (fun c573 => absurd (by decide) c573) (fun _ => ?_)
                                        refine lv_aload_n hx hb dL_refusesAny_576 rfl (lv_at hl 2 rfl) ?_
                                        refine lv_iload_n hx hb dL_refusesAny_577 rfl (lv_at hl 1 rfl) ?_
                                        refine lv_bipush (v := 9) hx hb dL_refusesAny_578 (by decide) ?_
                                        refine xo_Vi (As := [.int x11, .int 9]) (rest := []) hx hb hml hown hts hK hN hZ hP hD hS hA mb_X7_meets mw_2_161 mw_2_162 mw_2_163 (k_X7_meets l D cI cZ cS x0 xs xv ho0 ho1 pd0 pd1 m0 ts0 ts1 a ha sa cn cs sc tq_568 tv pd sv (0 : Int32) old sz z x11 (9 : Int32) hRS hI) 0 7 rfl rfl (fun _ => xwW_f) (by decide) (by decide) rfl hl.1 rfl (Nat.le_of_ble_eq_true rfl) dL_refusesAny_580 ⟨Nat.zero_le _, Nat.zero_le _⟩ (fun r580 u580 H locs hw hP hD hS => ?_)
                                        have p580 : meetA z x11 (9 : Int32) r580 := hw
                                        have hP : va_P D vwCl (xwW cI cZ cS x0 xs xv ho0 ho1 pd0 pd1 m0 ts0 ts1 a ha sa cn cs sc tq_568 tv pd sv (0 : Int32) old sz z) H := hP
                                        have hD : va_D A (xwW cI cZ cS x0 xs xv ho0 ho1 pd0 pd1 m0 ts0 ts1 a ha sa cn cs sc tq_568 tv pd sv (0 : Int32) old sz z) := hD
                                        refine xk_top (z := (-1)) (by exact mt_no (fun c8 => by have := c8.1; have := c8.2; omega) p580) ?_
                                        refine lv_iconst (v := (-1)) hx hb dL_refusesAny_583 (by decide) ?_
                                        refine lv_icmp_ne (tgt := 631) hx hb dL_refusesAny_584 (by decide) (fun c584 => absurd (by decide) c584) (fun _ => ?_)
                                        refine lv_aload_n hx hb dL_refusesAny_587 rfl (lv_at hl 2 rfl) ?_
                                        refine lv_iload_n hx hb dL_refusesAny_588 rfl (lv_at hl 3 rfl) ?_
                                        refine lv_iconst (v := 2) hx hb dL_refusesAny_589 (by decide) ?_
                                        refine lv_irem hx hb dL_refusesAny_590 (by decide) ?_
                                        refine lv_topi (fun x590 e590 => ?_)
                                        have t590 : x590.toInt = p1.toInt % 2 := by rw [e590]; exact xi_rem rfl (by decide) (by omega) (by omega)
                                        refine lv_if_ne (tgt := 598) hx hb dL_refusesAny_591 (by decide) (fun c591 => ?_) (fun c591 => ?_)
                                        · have t591 : ¬ x590.toInt = 0 := xi_ne rfl (by decide) c591
                                          have d591 : ¬ x590 = 0 := c591
                                          omega
                                        · have t591 : x590.toInt = 0 := xi_eq rfl (by decide) c591
                                          have d591 : x590 = 0 := c591
                                          refine lv_iconst (v := (-1)) hx hb dL_refusesAny_594 (by decide) ?_
                                          refine lv_goto (tgt := 599) hx hb dL_refusesAny_595 (by decide) ?_
                                          refine xo_Vi (As := [.int (-1)]) (rest := []) hx hb hml hown hts hK hN hZ hP hD hS hA mb_X7_save mw_2_94 mw_2_95 mw_2_96 (k_X7_save l D cI cZ cS x0 xs xv ho0 ho1 pd0 pd1 m0 ts0 ts1 a ha sa cn cs sc tq_568 tv pd sv (0 : Int32) old sz z (-1 : Int32) hRS hI) 0 7 rfl rfl (fun _ => xwW_f) (by decide) (by decide) rfl hl.1 rfl (Nat.le_of_ble_eq_true rfl) dL_refusesAny_599 ⟨Nat.zero_le _, Nat.zero_le _⟩ (fun r599 u599 H locs hw hP hD hS => ?_)
                                          obtain ⟨sc1_599, sv1_599⟩ := u599
                                          have p599 : r599 = (if slotV (-1 : Int32) then z 174 else -2) ∧ ((slotV (-1 : Int32) ∧ sc1_599 = recC sc (cZm cn z) (-1).toNat ∧ sv1_599 = upd sv (-1).toNat 1) ∨ (¬ slotV (-1 : Int32) ∧ sc1_599 = sc ∧ sv1_599 = sv)) := hw
                                          have hP : va_P D vwCl (xwW cI cZ cS x0 xs xv ho0 ho1 pd0 pd1 m0 ts0 ts1 a ha sa cn cs sc1_599 tq_568 tv pd sv1_599 (0 : Int32) old sz z) H := hP
                                          have hD : va_D A (xwW cI cZ cS x0 xs xv ho0 ho1 pd0 pd1 m0 ts0 ts1 a ha sa cn cs sc1_599 tq_568 tv pd sv1_599 (0 : Int32) old sz z) := hD
                                          have w599 : r599 = -2 ∧ sc1_599 = sc ∧ sv1_599 = sv := by
                                            refine ⟨p599.1.trans (if_neg (by decide)), ?_⟩
                                            rcases p599.2 with ⟨c9, -⟩ | ⟨-, h9⟩
                                            · exact absurd c9 (by decide)
                                            · exact h9
                                          obtain ⟨w599, w599_0, w599_1⟩ := w599
                                          rw [w599_0, w599_1] at hP hD
                                          have hP : va_P D vwCl (xwW cI cZ cS x0 xs xv ho0 ho1 pd0 pd1 m0 ts0 ts1 a ha sa cn cs sc tq_568 tv pd sv (0 : Int32) old sz z) H := hP
                                          have hD : va_D A (xwW cI cZ cS x0 xs xv ho0 ho1 pd0 pd1 m0 ts0 ts1 a ha sa cn cs sc tq_568 tv pd sv (0 : Int32) old sz z) := hD
                                          refine xk_top (z := (-2)) (by exact w599) ?_
                                          refine lv_bipush (v := (-2)) hx hb dL_refusesAny_602 (by decide) ?_
                                          refine lv_icmp_ne (tgt := 631) hx hb dL_refusesAny_604 (by decide) (fun c604 => absurd (by decide) c604) (fun _ => ?_)
                                          refine lv_aload_n hx hb dL_refusesAny_607 rfl (lv_at hl 2 rfl) ?_
                                          refine lv_iload_n hx hb dL_refusesAny_608 rfl (lv_at hl 3 rfl) ?_
                                          refine lv_iconst (v := 2) hx hb dL_refusesAny_609 (by decide) ?_
                                          refine lv_irem hx hb dL_refusesAny_610 (by decide) ?_
                                          refine lv_topi (fun x610 e610 => ?_)
                                          have t610 : x610.toInt = p1.toInt % 2 := by rw [e610]; exact xi_rem rfl (by decide) (by omega) (by omega)
                                          refine lv_if_ne (tgt := 618) hx hb dL_refusesAny_611 (by decide) (fun c611 => ?_) (fun c611 => ?_)
                                          · have t611 : ¬ x610.toInt = 0 := xi_ne rfl (by decide) c611
                                            have d611 : ¬ x610 = 0 := c611
                                            omega
                                          · have t611 : x610.toInt = 0 := xi_eq rfl (by decide) c611
                                            have d611 : x610 = 0 := c611
                                            refine lv_iconst (v := (-1)) hx hb dL_refusesAny_614 (by decide) ?_
                                            refine lv_goto (tgt := 619) hx hb dL_refusesAny_615 (by decide) ?_
                                            refine xo_Vi (As := [.int (-1)]) (rest := []) hx hb hml hown hts hK hN hZ hP hD hS hA mb_X7_restore mw_2_102 mw_2_103 mw_2_104 (k_X7_restore l D cI cZ cS x0 xs xv ho0 ho1 pd0 pd1 m0 ts0 ts1 a ha sa cn cs sc tq_568 tv pd sv (0 : Int32) old sz z z (-1 : Int32) hRS hI hold hszz (fun i hi => (hmsc i hi).1) (fun i hi => (hmsc i hi).2) (fun c9 => absurd c9.1 (by decide))) 0 7 rfl rfl (fun _ => xwW_f) (by decide) (by decide) rfl hl.1 rfl (Nat.le_of_ble_eq_true rfl) dL_refusesAny_619 ⟨Nat.zero_le _, Nat.zero_le _⟩ (fun r619 u619 H locs hw hP hD hS => ?_)
                                            obtain ⟨cq_619, zq_619, old1_619, sz1_619, cs1_619⟩ := u619
                                            have p619 : r619 = (if slotV (-1 : Int32) then (if sv (-1).toNat = 0 then -5 else z 174) else -2) ∧ ((restC (-1 : Int32) sv ∧ cq_619 = sc (-1).toNat ∧ zq_619 = z ∧ old1_619 = oldR old sz ∧ sz1_619 = szR sz ∧ cs1_619 = recC cs (cZm cn z) (jR old sz)) ∨ (¬ restC (-1 : Int32) sv ∧ Same cn z old sz cs cq_619 zq_619 old1_619 sz1_619 cs1_619)) := hw
                                            have hP : va_P D vwCl (xwW cI cZ cS x0 xs xv ho0 ho1 pd0 pd1 m0 ts0 ts1 a ha sa cq_619 cs1_619 sc tq_568 tv pd sv (0 : Int32) old1_619 sz1_619 zq_619) H := hP
                                            have hD : va_D A (xwW cI cZ cS x0 xs xv ho0 ho1 pd0 pd1 m0 ts0 ts1 a ha sa cq_619 cs1_619 sc tq_568 tv pd sv (0 : Int32) old1_619 sz1_619 zq_619) := hD
                                            have w619 : r619 = -2 ∧ cq_619 = cn ∧ zq_619 = z ∧ old1_619 = old ∧ sz1_619 = sz ∧ cs1_619 = cs := by
                                              refine ⟨p619.1.trans (if_neg (by decide)), ?_⟩
                                              rcases p619.2 with ⟨c9, -⟩ | ⟨-, h9⟩
                                              · exact absurd c9 (fun c8 => absurd c8.1 (by decide))
                                              · exact h9
                                            obtain ⟨w619, w619_0, w619_1, w619_2, w619_3, w619_4⟩ := w619
                                            rw [w619_0, w619_1, w619_2, w619_3, w619_4] at hP hD
                                            have hP : va_P D vwCl (xwW cI cZ cS x0 xs xv ho0 ho1 pd0 pd1 m0 ts0 ts1 a ha sa cn cs sc tq_568 tv pd sv (0 : Int32) old sz z) H := hP
                                            have hD : va_D A (xwW cI cZ cS x0 xs xv ho0 ho1 pd0 pd1 m0 ts0 ts1 a ha sa cn cs sc tq_568 tv pd sv (0 : Int32) old sz z) := hD
                                            refine xk_top (z := (-2)) (by exact w619) ?_
                                            refine lv_bipush (v := (-2)) hx hb dL_refusesAny_622 (by decide) ?_
                                            refine lv_icmp_ne (tgt := 631) hx hb dL_refusesAny_624 (by decide) (fun c624 => absurd (by decide) c624) (fun _ => ?_)
                                            refine lv_iconst (v := 1) hx hb dL_refusesAny_627 (by decide) ?_
                                            refine lv_goto (tgt := 632) hx hb dL_refusesAny_628 (by decide) ?_
                                            refine lv_istore (lv' := [(4, .int 1), (2, .int x11), (0, .ref x0), (1, .int p1), (3, .int b)]) hx hb dL_refusesAny_632 hl (by decide) rfl (fun ls hl => ?_)
                                            refine lv_iload hx hb dL_refusesAny_634 (lv_at hl 0 rfl) ?_
                                            refine lv_if_eq (tgt := 666) hx hb dL_refusesAny_636 (by decide) (fun c636 => absurd c636 (by decide)) (fun _ => ?_)
                                            refine lv_aload_n hx hb dL_refusesAny_639 rfl (lv_at hl 2 rfl) ?_
                                            refine xo_Vi (As := []) (rest := []) hx hb hml hown hts hK hN hZ hP hD hS hA mb_X7_wipe mw_3_37 mw_3_38 mw_3_39 (k_X7_wipe l D cI cZ cS x0 xs xv ho0 ho1 pd0 pd1 m0 ts0 ts1 a ha sa cn cs sc tq_568 tv pd sv (0 : Int32) old sz z hRS hI) 0 7 rfl rfl (fun _ => xwW_f) (by decide) (by decide) rfl hl.1 rfl (Nat.le_of_ble_eq_true rfl) dL_refusesAny_640 ⟨Nat.zero_le _, Nat.zero_le _⟩ (fun r640 u640 H locs hw hP hD hS => ?_)
                                            have p640 : r640 = (0 : Int32) := hw
                                            have hP : va_P D vwCl (xwW cI cZ cS x0 xs xv ho0 ho1 pd0 pd1 m0 ts0 ts1 a ha sa cn cs sc tq_568 tv pd sv (0 : Int32) old sz z) H := hP
                                            have hD : va_D A (xwW cI cZ cS x0 xs xv ho0 ho1 pd0 pd1 m0 ts0 ts1 a ha sa cn cs sc tq_568 tv pd sv (0 : Int32) old sz z) := hD
                                            refine xk_top (z := 0) (by exact p640) ?_
                                            refine lv_if_ne (tgt := 666) hx hb dL_refusesAny_643 (by decide) (fun c643 => absurd (by decide) c643) (fun _ => ?_)
                                            refine lv_aload_n hx hb dL_refusesAny_646 rfl (lv_at hl 2 rfl) ?_
                                            refine xo_Vi (As := []) (rest := []) hx hb hml hown hts hK hN hZ hP hD hS hA mb_X7_read mw_3_45 mw_3_46 mw_3_47 (k_X7_read l D cI cZ cS x0 xs xv ho0 ho1 pd0 pd1 m0 ts0 ts1 a ha sa cn cs sc tq_568 tv pd sv (0 : Int32) old sz z hRS hI hold hszz hlnn) 0 7 rfl rfl (fun _ => xwW_f) (by decide) (by decide) rfl hl.1 rfl (Nat.le_of_ble_eq_true rfl) dL_refusesAny_647 ⟨Nat.zero_le _, Nat.zero_le _⟩ (fun r647 u647 H locs hw hP hD hS => ?_)
                                            obtain ⟨cq_647, zq_647, old1_647, sz1_647, cs1_647, ln1_647⟩ := u647
                                            have p647 : (FN pd 0 ∧ r647 = cq_647 7 0 ∧ ln1_647 = 0 ∧ zq_647 = beginZ z ∧ WrI pd 0 (cq_647 7 0) (cq_647 1) (cq_647 2) (cq_647 3) ∧ cq_647 0 = cn 0 ∧ cq_647 4 = cn 4 ∧ cq_647 5 = cn 5 ∧ cq_647 6 = cn 6 ∧ cq_647 7 1 = cn 7 1 ∧ old1_647 = oldR old sz ∧ sz1_647 = szR sz ∧ cs1_647 = recC cs (cZm cn z) (jR old sz)) ∨ (¬ FN pd 0 ∧ r647 = -3 ∧ ln1_647 = (0 : Int32) ∧ Same cn z old sz cs cq_647 zq_647 old1_647 sz1_647 cs1_647) := hw
                                            have hP : va_P D vwCl (xwW cI cZ cS x0 xs xv ho0 ho1 pd0 pd1 m0 ts0 ts1 a ha sa cq_647 cs1_647 sc tq_568 tv pd sv ln1_647 old1_647 sz1_647 zq_647) H := hP
                                            have hD : va_D A (xwW cI cZ cS x0 xs xv ho0 ho1 pd0 pd1 m0 ts0 ts1 a ha sa cq_647 cs1_647 sc tq_568 tv pd sv ln1_647 old1_647 sz1_647 zq_647) := hD
                                            have w647 : r647 = -3 ∧ ln1_647 = (0 : Int32) ∧ cq_647 = cn ∧ zq_647 = z ∧ old1_647 = old ∧ sz1_647 = sz ∧ cs1_647 = cs := by
                                              rcases p647 with ⟨c9, -⟩ | ⟨-, h9⟩
                                              · exact absurd c9 (FN_0 pd)
                                              · exact h9
                                            obtain ⟨w647, w647_0, w647_1, w647_2, w647_3, w647_4, w647_5⟩ := w647
                                            rw [w647_0, w647_1, w647_2, w647_3, w647_4, w647_5] at hP hD
                                            have hP : va_P D vwCl (xwW cI cZ cS x0 xs xv ho0 ho1 pd0 pd1 m0 ts0 ts1 a ha sa cn cs sc tq_568 tv pd sv (0 : Int32) old sz z) H := hP
                                            have hD : va_D A (xwW cI cZ cS x0 xs xv ho0 ho1 pd0 pd1 m0 ts0 ts1 a ha sa cn cs sc tq_568 tv pd sv (0 : Int32) old sz z) := hD
                                            refine xk_top (z := (-3)) (by exact w647) ?_
                                            refine lv_bipush (v := (-3)) hx hb dL_refusesAny_650 (by decide) ?_
                                            refine lv_icmp_ne (tgt := 666) hx hb dL_refusesAny_652 (by decide) (fun c652 => absurd (by decide) c652) (fun _ => ?_)
                                            refine lv_aload_n hx hb dL_refusesAny_655 rfl (lv_at hl 2 rfl) ?_
                                            refine xo_Vi (As := []) (rest := []) hx hb hml hown hts hK hN hZ hP hD hS hA mb_X7_fault mw_3_77 mw_3_78 mw_3_79 (k_X7_fault l D cI cZ cS x0 xs xv ho0 ho1 pd0 pd1 m0 ts0 ts1 a ha sa cn cs sc tq_568 tv pd sv (0 : Int32) old sz z hRS hI hlnn) 0 7 rfl rfl (fun _ => xwW_f) (by decide) (by decide) rfl hl.1 rfl (Nat.le_of_ble_eq_true rfl) dL_refusesAny_656 ⟨Nat.zero_le _, Nat.zero_le _⟩ (fun r656 u656 H locs hw hP hD hS => ?_)
                                            have p656 : (FN pd 0 ∧ r656 = -6) ∨ (FA pd 0 r656.toInt.toNat ∧ 0 ≤ r656.toInt ∧ r656.toInt ≤ 0) := hw
                                            have hP : va_P D vwCl (xwW cI cZ cS x0 xs xv ho0 ho1 pd0 pd1 m0 ts0 ts1 a ha sa cn cs sc tq_568 tv pd sv (0 : Int32) old sz z) H := hP
                                            have hD : va_D A (xwW cI cZ cS x0 xs xv ho0 ho1 pd0 pd1 m0 ts0 ts1 a ha sa cn cs sc tq_568 tv pd sv (0 : Int32) old sz z) := hD
                                            refine xk_top (z := 0) (by exact p656.elim (fun h9 => absurd h9.1 (FN_0 pd)) (fun h9 => xi_ext (by have := h9.2; omega))) ?_
                                            refine lv_if_ne (tgt := 666) hx hb dL_refusesAny_659 (by decide) (fun c659 => absurd (by decide) c659) (fun _ => ?_)
                                            refine lv_iconst (v := 1) hx hb dL_refusesAny_662 (by decide) ?_
                                            refine lv_goto (tgt := 667) hx hb dL_refusesAny_663 (by decide) ?_
                                            exact xk_retz tq_568 hx hb hr hlocks (by decide) (xk_P hP (by rfl)) (by rfl) hS dL_refusesAny_667 hQ
                                refine lv_aload_n hx hb dL_refusesAny_463 rfl (lv_at hl 2 rfl) ?_
                                refine lv_bipush (v := 9) hx hb dL_refusesAny_464 (by decide) ?_
                                refine xo_Vi (As := [.int 9]) (rest := []) hx hb hml hown hts hK hN hZ hP hD hS hA mb_X7_count mw_2_6 mw_2_7 mw_2_8 (k_X7_count l D cI cZ cS x0 xs xv ho0 ho1 pd0 pd1 m0 ts0 ts1 a ha sa cn cs sc tm tv pd sv (0 : Int32) old sz z (9 : Int32) hRS hI) 0 7 rfl rfl (fun _ => xwW_f) (by decide) (by decide) rfl hl.1 rfl (Nat.le_of_ble_eq_true rfl) dL_refusesAny_466 ⟨Nat.zero_le _, Nat.zero_le _⟩ (fun r466 u466 H locs hw hP hD hS => ?_)
                                have p466 : r466 = cntR z (0 : Int32) sz (9 : Int32) := hw
                                have hP : va_P D vwCl (xwW cI cZ cS x0 xs xv ho0 ho1 pd0 pd1 m0 ts0 ts1 a ha sa cn cs sc tm tv pd sv (0 : Int32) old sz z) H := hP
                                have hD : va_D A (xwW cI cZ cS x0 xs xv ho0 ho1 pd0 pd1 m0 ts0 ts1 a ha sa cn cs sc tm tv pd sv (0 : Int32) old sz z) := hD
                                refine xk_top (z := (z 7)) (by exact p466.trans (ct_9 _ _ _)) ?_
                                refine lv_if_eq (tgt := 514) hx hb dL_refusesAny_469 (by decide) (fun c469 => ?_) (fun c469 => ?_)
                                · have t469 : (z 7).toInt = 0 := xi_eq rfl (by decide) c469
                                  have d469 : (z 7) = 0 := c469
                                  exact J514   _ _ hP hD hS ls (lv_sub hl [0, 1, 2, 3, 4] rfl)
                                · have t469 : ¬ (z 7).toInt = 0 := xi_ne rfl (by decide) c469
                                  have d469 : ¬ (z 7) = 0 := c469
                                  have h70 : 0 < (z 7).toInt := by omega
                                  refine lv_aload_n hx hb dL_refusesAny_472 rfl (lv_at hl 2 rfl) ?_
                                  refine lv_iconst (v := 0) hx hb dL_refusesAny_473 (by decide) ?_
                                  refine lv_iload_n hx hb dL_refusesAny_474 rfl (lv_at hl 3 rfl) ?_
                                  refine lv_iconst (v := 2) hx hb dL_refusesAny_475 (by decide) ?_
                                  refine lv_irem hx hb dL_refusesAny_476 (by decide) ?_
                                  refine lv_topi (fun x476 e476 => ?_)
                                  have t476 : x476.toInt = p1.toInt % 2 := by rw [e476]; exact xi_rem rfl (by decide) (by omega) (by omega)
                                  refine lv_if_ne (tgt := 484) hx hb dL_refusesAny_477 (by decide) (fun c477 => ?_) (fun c477 => ?_)
                                  · have t477 : ¬ x476.toInt = 0 := xi_ne rfl (by decide) c477
                                    have d477 : ¬ x476 = 0 := c477
                                    omega
                                  · have t477 : x476.toInt = 0 := xi_eq rfl (by decide) c477
                                    have d477 : x476 = 0 := c477
                                    refine lv_iconst (v := (-1)) hx hb dL_refusesAny_480 (by decide) ?_
                                    refine lv_goto (tgt := 485) hx hb dL_refusesAny_481 (by decide) ?_
                                    refine xo_Vi (As := [.int 0, .int (-1)]) (rest := []) hx hb hml hown hts hK hN hZ hP hD hS hA mb_X7_stretch mw_2_121 mw_2_122 mw_2_123 (k_X7_stretch l D cI cZ cS x0 xs xv ho0 ho1 pd0 pd1 m0 ts0 ts1 a ha sa cn cs sc tm tv pd sv (0 : Int32) old sz z (0 : Int32) (-1 : Int32) hRS hI) 0 7 rfl rfl (fun _ => xwW_f) (by decide) (by decide) rfl hl.1 rfl (Nat.le_of_ble_eq_true rfl) dL_refusesAny_485 ⟨Nat.zero_le _, Nat.zero_le _⟩ (fun r485 u485 H locs hw hP hD hS => ?_)
                                    have p485 : strA z (0 : Int32) (-1 : Int32) r485 := hw
                                    have hP : va_P D vwCl (xwW cI cZ cS x0 xs xv ho0 ho1 pd0 pd1 m0 ts0 ts1 a ha sa cn cs sc tm tv pd sv (0 : Int32) old sz z) H := hP
                                    have hD : va_D A (xwW cI cZ cS x0 xs xv ho0 ho1 pd0 pd1 m0 ts0 ts1 a ha sa cn cs sc tm tv pd sv (0 : Int32) old sz z) := hD
                                    refine xk_top (z := (-2)) (by exact st_bad (str0 h70) (by decide) p485) ?_
                                    refine lv_bipush (v := (-2)) hx hb dL_refusesAny_488 (by decide) ?_
                                    refine lv_icmp_ne (tgt := 631) hx hb dL_refusesAny_490 (by decide) (fun c490 => absurd (by decide) c490) (fun _ => ?_)
                                    refine lv_aload_n hx hb dL_refusesAny_493 rfl (lv_at hl 2 rfl) ?_
                                    refine lv_iconst (v := 0) hx hb dL_refusesAny_494 (by decide) ?_
                                    refine lv_iload_n hx hb dL_refusesAny_495 rfl (lv_at hl 3 rfl) ?_
                                    refine lv_iconst (v := 2) hx hb dL_refusesAny_496 (by decide) ?_
                                    refine lv_irem hx hb dL_refusesAny_497 (by decide) ?_
                                    refine lv_topi (fun x497 e497 => ?_)
                                    have t497 : x497.toInt = p1.toInt % 2 := by rw [e497]; exact xi_rem rfl (by decide) (by omega) (by omega)
                                    refine lv_if_ne (tgt := 505) hx hb dL_refusesAny_498 (by decide) (fun c498 => ?_) (fun c498 => ?_)
                                    · have t498 : ¬ x497.toInt = 0 := xi_ne rfl (by decide) c498
                                      have d498 : ¬ x497 = 0 := c498
                                      omega
                                    · have t498 : x497.toInt = 0 := xi_eq rfl (by decide) c498
                                      have d498 : x497 = 0 := c498
                                      refine lv_iconst (v := (-1)) hx hb dL_refusesAny_501 (by decide) ?_
                                      refine lv_goto (tgt := 506) hx hb dL_refusesAny_502 (by decide) ?_
                                      refine xo_Vi (As := [.int 0, .int (-1)]) (rest := []) hx hb hml hown hts hK hN hZ hP hD hS hA mb_X7_meets mw_2_161 mw_2_162 mw_2_163 (k_X7_meets l D cI cZ cS x0 xs xv ho0 ho1 pd0 pd1 m0 ts0 ts1 a ha sa cn cs sc tm tv pd sv (0 : Int32) old sz z (0 : Int32) (-1 : Int32) hRS hI) 0 7 rfl rfl (fun _ => xwW_f) (by decide) (by decide) rfl hl.1 rfl (Nat.le_of_ble_eq_true rfl) dL_refusesAny_506 ⟨Nat.zero_le _, Nat.zero_le _⟩ (fun r506 u506 H locs hw hP hD hS => ?_)
                                      have p506 : meetA z (0 : Int32) (-1 : Int32) r506 := hw
                                      have hP : va_P D vwCl (xwW cI cZ cS x0 xs xv ho0 ho1 pd0 pd1 m0 ts0 ts1 a ha sa cn cs sc tm tv pd sv (0 : Int32) old sz z) H := hP
                                      have hD : va_D A (xwW cI cZ cS x0 xs xv ho0 ho1 pd0 pd1 m0 ts0 ts1 a ha sa cn cs sc tm tv pd sv (0 : Int32) old sz z) := hD
                                      refine xk_top (z := (-2)) (by exact mt_bad (str0 h70) (by decide) p506) ?_
                                      refine lv_bipush (v := (-2)) hx hb dL_refusesAny_509 (by decide) ?_
                                      refine lv_icmp_ne (tgt := 631) hx hb dL_refusesAny_511 (by decide) (fun c511 => absurd (by decide) c511) (fun _ => ?_)
                                      exact J514   _ _ hP hD hS ls (lv_sub hl [0, 1, 2, 3, 4] rfl)
                              refine lv_aload_n hx hb dL_refusesAny_376 rfl (lv_at hl 2 rfl) ?_
                              refine lv_bipush (v := 6) hx hb dL_refusesAny_377 (by decide) ?_
                              refine xo_Vi (As := [.int 6]) (rest := []) hx hb hml hown hts hK hN hZ hP hD hS hA mb_X7_count mw_2_6 mw_2_7 mw_2_8 (k_X7_count l D cI cZ cS x0 xs xv ho0 ho1 pd0 pd1 m0 ts0 ts1 a ha sa cn cs sc tm tv pd sv (0 : Int32) old sz z (6 : Int32) hRS hI) 0 7 rfl rfl (fun _ => xwW_f) (by decide) (by decide) rfl hl.1 rfl (Nat.le_of_ble_eq_true rfl) dL_refusesAny_379 ⟨Nat.zero_le _, Nat.zero_le _⟩ (fun r379 u379 H locs hw hP hD hS => ?_)
                              have p379 : r379 = cntR z (0 : Int32) sz (6 : Int32) := hw
                              have hP : va_P D vwCl (xwW cI cZ cS x0 xs xv ho0 ho1 pd0 pd1 m0 ts0 ts1 a ha sa cn cs sc tm tv pd sv (0 : Int32) old sz z) H := hP
                              have hD : va_D A (xwW cI cZ cS x0 xs xv ho0 ho1 pd0 pd1 m0 ts0 ts1 a ha sa cn cs sc tm tv pd sv (0 : Int32) old sz z) := hD
                              refine xk_top (z := (z 6)) (by exact p379.trans (ct_6 _ _ _)) ?_
                              refine lv_if_eq (tgt := 440) hx hb dL_refusesAny_382 (by decide) (fun c382 => ?_) (fun c382 => ?_)
                              · have t382 : (z 6).toInt = 0 := xi_eq rfl (by decide) c382
                                have d382 : (z 6) = 0 := c382
                                exact J440   _ _ hP hD hS ls (lv_sub hl [0, 1, 2, 3, 4] rfl)
                              · have t382 : ¬ (z 6).toInt = 0 := xi_ne rfl (by decide) c382
                                have d382 : ¬ (z 6) = 0 := c382
                                have h60 : 0 < (z 6).toInt := by omega
                                refine lv_aload_n hx hb dL_refusesAny_385 rfl (lv_at hl 2 rfl) ?_
                                refine lv_iconst (v := 0) hx hb dL_refusesAny_386 (by decide) ?_
                                refine lv_iload_n hx hb dL_refusesAny_387 rfl (lv_at hl 3 rfl) ?_
                                refine lv_iconst (v := 2) hx hb dL_refusesAny_388 (by decide) ?_
                                refine lv_irem hx hb dL_refusesAny_389 (by decide) ?_
                                refine lv_topi (fun x389 e389 => ?_)
                                have t389 : x389.toInt = p1.toInt % 2 := by rw [e389]; exact xi_rem rfl (by decide) (by omega) (by omega)
                                refine lv_if_ne (tgt := 397) hx hb dL_refusesAny_390 (by decide) (fun c390 => ?_) (fun c390 => ?_)
                                · have t390 : ¬ x389.toInt = 0 := xi_ne rfl (by decide) c390
                                  have d390 : ¬ x389 = 0 := c390
                                  omega
                                · have t390 : x389.toInt = 0 := xi_eq rfl (by decide) c390
                                  have d390 : x389 = 0 := c390
                                  refine lv_iconst (v := (-1)) hx hb dL_refusesAny_393 (by decide) ?_
                                  refine lv_goto (tgt := 398) hx hb dL_refusesAny_394 (by decide) ?_
                                  refine xo_Vi (As := [.int 0, .int (-1)]) (rest := []) hx hb hml hown hts hK hN hZ hP hD hS hA mb_X7_line mw_2_150 mw_2_151 mw_2_152 (k_X7_line l D cI cZ cS x0 xs xv ho0 ho1 pd0 pd1 m0 ts0 ts1 a ha sa cn cs sc tm tv pd sv (0 : Int32) old sz z (0 : Int32) (-1 : Int32) hRS hI) 0 7 rfl rfl (fun _ => xwW_f) (by decide) (by decide) rfl hl.1 rfl (Nat.le_of_ble_eq_true rfl) dL_refusesAny_398 ⟨Nat.zero_le _, Nat.zero_le _⟩ (fun r398 u398 H locs hw hP hD hS => ?_)
                                  have p398 : r398 = lineR z (0 : Int32) (-1 : Int32) := hw
                                  have hP : va_P D vwCl (xwW cI cZ cS x0 xs xv ho0 ho1 pd0 pd1 m0 ts0 ts1 a ha sa cn cs sc tm tv pd sv (0 : Int32) old sz z) H := hP
                                  have hD : va_D A (xwW cI cZ cS x0 xs xv ho0 ho1 pd0 pd1 m0 ts0 ts1 a ha sa cn cs sc tm tv pd sv (0 : Int32) old sz z) := hD
                                  refine xk_top (z := (-2)) (by exact p398.trans (ln_bad (line0 h60) (by decide))) ?_
                                  refine lv_bipush (v := (-2)) hx hb dL_refusesAny_401 (by decide) ?_
                                  refine lv_icmp_ne (tgt := 631) hx hb dL_refusesAny_403 (by decide) (fun c403 => absurd (by decide) c403) (fun _ => ?_)
                                  refine lv_aload_n hx hb dL_refusesAny_406 rfl (lv_at hl 2 rfl) ?_
                                  refine lv_iconst (v := 0) hx hb dL_refusesAny_407 (by decide) ?_
                                  refine lv_iconst (v := 0) hx hb dL_refusesAny_408 (by decide) ?_
                                  refine lv_iload_n hx hb dL_refusesAny_409 rfl (lv_at hl 3 rfl) ?_
                                  refine lv_iconst (v := 2) hx hb dL_refusesAny_410 (by decide) ?_
                                  refine lv_irem hx hb dL_refusesAny_411 (by decide) ?_
                                  refine lv_topi (fun x411 e411 => ?_)
                                  have t411 : x411.toInt = p1.toInt % 2 := by rw [e411]; exact xi_rem rfl (by decide) (by omega) (by omega)
                                  refine lv_if_ne (tgt := 419) hx hb dL_refusesAny_412 (by decide) (fun c412 => ?_) (fun c412 => ?_)
                                  · have t412 : ¬ x411.toInt = 0 := xi_ne rfl (by decide) c412
                                    have d412 : ¬ x411 = 0 := c412
                                    omega
                                  · have t412 : x411.toInt = 0 := xi_eq rfl (by decide) c412
                                    have d412 : x411 = 0 := c412
                                    refine lv_iconst (v := (-1)) hx hb dL_refusesAny_415 (by decide) ?_
                                    refine lv_goto (tgt := 420) hx hb dL_refusesAny_416 (by decide) ?_
                                    refine xo_Vi (As := [.int 0, .int 0, .int (-1)]) (rest := []) hx hb hml hown hts hK hN hZ hP hD hS hA mb_X7_foot mw_2_140 mw_2_141 mw_2_142 (k_X7_foot l D cI cZ cS x0 xs xv ho0 ho1 pd0 pd1 m0 ts0 ts1 a ha sa cn cs sc tm tv pd sv (0 : Int32) old sz z (0 : Int32) (0 : Int32) (-1 : Int32) hRS hI) 0 7 rfl rfl (fun _ => xwW_f) (by decide) (by decide) rfl hl.1 rfl (Nat.le_of_ble_eq_true rfl) dL_refusesAny_420 ⟨Nat.zero_le _, Nat.zero_le _⟩ (fun r420 u420 H locs hw hP hD hS => ?_)
                                    have p420 : r420 = footR z (0 : Int32) (0 : Int32) (-1 : Int32) := hw
                                    have hP : va_P D vwCl (xwW cI cZ cS x0 xs xv ho0 ho1 pd0 pd1 m0 ts0 ts1 a ha sa cn cs sc tm tv pd sv (0 : Int32) old sz z) H := hP
                                    have hD : va_D A (xwW cI cZ cS x0 xs xv ho0 ho1 pd0 pd1 m0 ts0 ts1 a ha sa cn cs sc tm tv pd sv (0 : Int32) old sz z) := hD
                                    refine xk_top (z := (-2)) (by exact p420.trans (ft_bad (foot00 hI.2.1 h60) (by decide))) ?_
                                    refine lv_bipush (v := (-2)) hx hb dL_refusesAny_423 (by decide) ?_
                                    refine lv_icmp_ne (tgt := 631) hx hb dL_refusesAny_425 (by decide) (fun c425 => absurd (by decide) c425) (fun _ => ?_)
                                    refine lv_aload_n hx hb dL_refusesAny_428 rfl (lv_at hl 2 rfl) ?_
                                    refine lv_iconst (v := 0) hx hb dL_refusesAny_429 (by decide) ?_
                                    refine lv_iload_n hx hb dL_refusesAny_430 rfl (lv_at hl 1 rfl) ?_
                                    refine lv_bipush (v := 9) hx hb dL_refusesAny_431 (by decide) ?_
                                    refine xo_Vi (As := [.int 0, .int x11, .int 9]) (rest := []) hx hb hml hown hts hK hN hZ hP hD hS hA mb_X7_foot mw_2_140 mw_2_141 mw_2_142 (k_X7_foot l D cI cZ cS x0 xs xv ho0 ho1 pd0 pd1 m0 ts0 ts1 a ha sa cn cs sc tm tv pd sv (0 : Int32) old sz z (0 : Int32) x11 (9 : Int32) hRS hI) 0 7 rfl rfl (fun _ => xwW_f) (by decide) (by decide) rfl hl.1 rfl (Nat.le_of_ble_eq_true rfl) dL_refusesAny_433 ⟨Nat.zero_le _, Nat.zero_le _⟩ (fun r433 u433 H locs hw hP hD hS => ?_)
                                    have p433 : r433 = footR z (0 : Int32) x11 (9 : Int32) := hw
                                    have hP : va_P D vwCl (xwW cI cZ cS x0 xs xv ho0 ho1 pd0 pd1 m0 ts0 ts1 a ha sa cn cs sc tm tv pd sv (0 : Int32) old sz z) H := hP
                                    have hD : va_D A (xwW cI cZ cS x0 xs xv ho0 ho1 pd0 pd1 m0 ts0 ts1 a ha sa cn cs sc tm tv pd sv (0 : Int32) old sz z) := hD
                                    refine xk_top (z := (-1)) (by exact p433.trans (ft_no (foot0no hI.2.1 (by omega)))) ?_
                                    refine lv_iconst (v := (-1)) hx hb dL_refusesAny_436 (by decide) ?_
                                    refine lv_icmp_ne (tgt := 631) hx hb dL_refusesAny_437 (by decide) (fun c437 => absurd (by decide) c437) (fun _ => ?_)
                                    exact J440   _ _ hP hD hS ls (lv_sub hl [0, 1, 2, 3, 4] rfl)
                            refine lv_iload_n hx hb dL_refusesAny_315 rfl (lv_at hl 3 rfl) ?_
                            refine lv_if_eq (tgt := 328) hx hb dL_refusesAny_316 (by decide) (fun c316 => ?_) (fun c316 => ?_)
                            · have t316 : b.toInt = 0 := xi_eq rfl (by decide) c316
                              have d316 : b = 0 := c316
                              have hnm : ¬ (canZ z ∧ ¬ z 188 = 1) := fun c9 => hb47.elim (fun g => by have := g.1; omega) (fun g => g.2 c9.1)
                              refine lv_aload_n hx hb dL_refusesAny_328 rfl (lv_at hl 1 rfl) ?_
                              refine lv_iconst (v := 5) hx hb dL_refusesAny_329 (by decide) ?_
                              refine xo_Vi (As := [.int 5]) (rest := []) hx hb hml hown hts hK hN hZ hP hD hS hA mb_X7_march mw_3_33 mw_3_34 mw_3_35 (k_X7_march l D cI cZ cS x0 xs xv ho0 ho1 pd0 pd1 m0 ts0 ts1 a ha sa cn cs sc tm tv pd sv (0 : Int32) old sz z (5 : Int32) hRS hI hold hszz ⟨hb74, by omega⟩) 0 7 rfl rfl (fun _ => xwW_f) (by decide) (by decide) rfl hl.1 rfl (Nat.le_of_ble_eq_true rfl) dL_refusesAny_330 ⟨Nat.zero_le _, Nat.zero_le _⟩ (fun r330 u330 H locs hw hP hD hS => ?_)
                              obtain ⟨cq_330, zq_330, old1_330, sz1_330, cs1_330⟩ := u330
                              have p330 : marchA z (5 : Int32) r330 ∧ ((marchC z (5 : Int32) ∧ Chg cn z old sz cs (walkZ 5 z) cq_330 zq_330 old1_330 sz1_330 cs1_330) ∨ (¬ marchC z (5 : Int32) ∧ Same cn z old sz cs cq_330 zq_330 old1_330 sz1_330 cs1_330)) := hw
                              have hP : va_P D vwCl (xwW cI cZ cS x0 xs xv ho0 ho1 pd0 pd1 m0 ts0 ts1 a ha sa cq_330 cs1_330 sc tm tv pd sv (0 : Int32) old1_330 sz1_330 zq_330) H := hP
                              have hD : va_D A (xwW cI cZ cS x0 xs xv ho0 ho1 pd0 pd1 m0 ts0 ts1 a ha sa cq_330 cs1_330 sc tm tv pd sv (0 : Int32) old1_330 sz1_330 zq_330) := hD
                              have w330 : r330 = -5 ∧ cq_330 = cn ∧ zq_330 = z ∧ old1_330 = old ∧ sz1_330 = sz ∧ cs1_330 = cs := by
                                refine ⟨mc_not (by decide) hnm p330.1, ?_⟩
                                rcases p330.2 with ⟨c9, -⟩ | ⟨-, h9⟩
                                · exact absurd c9 (fun c8 => hnm c8.2)
                                · exact h9
                              obtain ⟨w330, w330_0, w330_1, w330_2, w330_3, w330_4⟩ := w330
                              rw [w330_0, w330_1, w330_2, w330_3, w330_4] at hP hD
                              have hP : va_P D vwCl (xwW cI cZ cS x0 xs xv ho0 ho1 pd0 pd1 m0 ts0 ts1 a ha sa cn cs sc tm tv pd sv (0 : Int32) old sz z) H := hP
                              have hD : va_D A (xwW cI cZ cS x0 xs xv ho0 ho1 pd0 pd1 m0 ts0 ts1 a ha sa cn cs sc tm tv pd sv (0 : Int32) old sz z) := hD
                              refine xk_top (z := (-5)) (by exact w330) ?_
                              refine lv_bipush (v := (-5)) hx hb dL_refusesAny_333 (by decide) ?_
                              refine lv_icmp_ne (tgt := 342) hx hb dL_refusesAny_335 (by decide) (fun c335 => absurd (by decide) c335) (fun _ => ?_)
                              exact J338   _ _ hP hD hS ls (lv_sub hl [0, 1, 2, 3] rfl)
                            · have t316 : ¬ b.toInt = 0 := xi_ne rfl (by decide) c316
                              have d316 : ¬ b = 0 := c316
                              refine lv_aload_n hx hb dL_refusesAny_319 rfl (lv_at hl 1 rfl) ?_
                              refine lv_bipush (v := 14) hx hb dL_refusesAny_320 (by decide) ?_
                              refine xo_Vi (As := [.int 14]) (rest := []) hx hb hml hown hts hK hN hZ hP hD hS hA mb_X7_walk mw_1_238 mw_1_239 mw_2_0 (k_X7_walk l D cI cZ cS x0 xs xv ho0 ho1 pd0 pd1 m0 ts0 ts1 a ha sa cn cs sc tm tv pd sv (0 : Int32) old sz z (14 : Int32) hRS hI) 0 7 rfl rfl (fun _ => xwW_f) (by decide) (by decide) rfl hl.1 rfl (Nat.le_of_ble_eq_true rfl) dL_refusesAny_322 ⟨Nat.zero_le _, Nat.zero_le _⟩ (fun r322 u322 H locs hw hP hD hS => ?_)
                              have p322 : r322 = walkR z (14 : Int32) := hw
                              have hP : va_P D vwCl (xwW cI cZ cS x0 xs xv ho0 ho1 pd0 pd1 m0 ts0 ts1 a ha sa cn cs sc tm tv pd sv (0 : Int32) old sz z) H := hP
                              have hD : va_D A (xwW cI cZ cS x0 xs xv ho0 ho1 pd0 pd1 m0 ts0 ts1 a ha sa cn cs sc tm tv pd sv (0 : Int32) old sz z) := hD
                              refine xk_top (z := (z 188)) (by exact p322.trans (wk_14 _)) ?_
                              refine lv_if_eq (tgt := 338) hx hb dL_refusesAny_325 (by decide) (fun c325 => ?_) (fun c325 => ?_)
                              · have t325 : (z 188).toInt = 0 := xi_eq rfl (by decide) c325
                                have d325 : (z 188) = 0 := c325
                                exact J338   _ _ hP hD hS ls (lv_sub hl [0, 1, 2, 3] rfl)
                              · have t325 : ¬ (z 188).toInt = 0 := xi_ne rfl (by decide) c325
                                have d325 : ¬ (z 188) = 0 := c325
                                have hnm : ¬ (canZ z ∧ ¬ z 188 = 1) := fun c9 => (walked01 hI).elim (fun h8 => d325 h8) (fun h8 => c9.2 h8)
                                refine lv_aload_n hx hb dL_refusesAny_328 rfl (lv_at hl 1 rfl) ?_
                                refine lv_iconst (v := 5) hx hb dL_refusesAny_329 (by decide) ?_
                                refine xo_Vi (As := [.int 5]) (rest := []) hx hb hml hown hts hK hN hZ hP hD hS hA mb_X7_march mw_3_33 mw_3_34 mw_3_35 (k_X7_march l D cI cZ cS x0 xs xv ho0 ho1 pd0 pd1 m0 ts0 ts1 a ha sa cn cs sc tm tv pd sv (0 : Int32) old sz z (5 : Int32) hRS hI hold hszz ⟨hb74, by omega⟩) 0 7 rfl rfl (fun _ => xwW_f) (by decide) (by decide) rfl hl.1 rfl (Nat.le_of_ble_eq_true rfl) dL_refusesAny_330 ⟨Nat.zero_le _, Nat.zero_le _⟩ (fun r330 u330 H locs hw hP hD hS => ?_)
                                obtain ⟨cq_330, zq_330, old1_330, sz1_330, cs1_330⟩ := u330
                                have p330 : marchA z (5 : Int32) r330 ∧ ((marchC z (5 : Int32) ∧ Chg cn z old sz cs (walkZ 5 z) cq_330 zq_330 old1_330 sz1_330 cs1_330) ∨ (¬ marchC z (5 : Int32) ∧ Same cn z old sz cs cq_330 zq_330 old1_330 sz1_330 cs1_330)) := hw
                                have hP : va_P D vwCl (xwW cI cZ cS x0 xs xv ho0 ho1 pd0 pd1 m0 ts0 ts1 a ha sa cq_330 cs1_330 sc tm tv pd sv (0 : Int32) old1_330 sz1_330 zq_330) H := hP
                                have hD : va_D A (xwW cI cZ cS x0 xs xv ho0 ho1 pd0 pd1 m0 ts0 ts1 a ha sa cq_330 cs1_330 sc tm tv pd sv (0 : Int32) old1_330 sz1_330 zq_330) := hD
                                have w330 : r330 = -5 ∧ cq_330 = cn ∧ zq_330 = z ∧ old1_330 = old ∧ sz1_330 = sz ∧ cs1_330 = cs := by
                                  refine ⟨mc_not (by decide) hnm p330.1, ?_⟩
                                  rcases p330.2 with ⟨c9, -⟩ | ⟨-, h9⟩
                                  · exact absurd c9 (fun c8 => hnm c8.2)
                                  · exact h9
                                obtain ⟨w330, w330_0, w330_1, w330_2, w330_3, w330_4⟩ := w330
                                rw [w330_0, w330_1, w330_2, w330_3, w330_4] at hP hD
                                have hP : va_P D vwCl (xwW cI cZ cS x0 xs xv ho0 ho1 pd0 pd1 m0 ts0 ts1 a ha sa cn cs sc tm tv pd sv (0 : Int32) old sz z) H := hP
                                have hD : va_D A (xwW cI cZ cS x0 xs xv ho0 ho1 pd0 pd1 m0 ts0 ts1 a ha sa cn cs sc tm tv pd sv (0 : Int32) old sz z) := hD
                                refine xk_top (z := (-5)) (by exact w330) ?_
                                refine lv_bipush (v := (-5)) hx hb dL_refusesAny_333 (by decide) ?_
                                refine lv_icmp_ne (tgt := 342) hx hb dL_refusesAny_335 (by decide) (fun c335 => absurd (by decide) c335) (fun _ => ?_)
                                exact J338   _ _ hP hD hS ls (lv_sub hl [0, 1, 2, 3] rfl)
                        refine lv_aload_n hx hb dL_refusesAny_247 rfl (lv_at hl 1 rfl) ?_
                        refine lv_bipush (v := 9) hx hb dL_refusesAny_248 (by decide) ?_
                        refine xo_Vi (As := [.int 9]) (rest := []) hx hb hml hown hts hK hN hZ hP hD hS hA mb_X7_count mw_2_6 mw_2_7 mw_2_8 (k_X7_count l D cI cZ cS x0 xs xv ho0 ho1 pd0 pd1 m0 ts0 ts1 a ha sa cn cs sc tm tv pd sv (0 : Int32) old sz z (9 : Int32) hRS hI) 0 7 rfl rfl (fun _ => xwW_f) (by decide) (by decide) rfl hl.1 rfl (Nat.le_of_ble_eq_true rfl) dL_refusesAny_250 ⟨Nat.zero_le _, Nat.zero_le _⟩ (fun r250 u250 H locs hw hP hD hS => ?_)
                        have p250 : r250 = cntR z (0 : Int32) sz (9 : Int32) := hw
                        have hP : va_P D vwCl (xwW cI cZ cS x0 xs xv ho0 ho1 pd0 pd1 m0 ts0 ts1 a ha sa cn cs sc tm tv pd sv (0 : Int32) old sz z) H := hP
                        have hD : va_D A (xwW cI cZ cS x0 xs xv ho0 ho1 pd0 pd1 m0 ts0 ts1 a ha sa cn cs sc tm tv pd sv (0 : Int32) old sz z) := hD
                        refine xk_top (z := (z 7)) (by exact p250.trans (ct_9 _ _ _)) ?_
                        refine lv_bipush (v := 12) hx hb dL_refusesAny_253 (by decide) ?_
                        refine lv_icmp_lt (tgt := 270) hx hb dL_refusesAny_255 (by decide) (fun c255 => ?_) (fun c255 => ?_)
                        · have t255 : (z 7).toInt < 12 := xi_lt rfl (by decide) c255
                          exact J270   _ _ hP hD hS ls (lv_sub hl [0, 1, 2, 3] rfl)
                        · have t255 : 12 ≤ (z 7).toInt := xi_nlt rfl (by decide) c255
                          refine lv_aload_n hx hb dL_refusesAny_258 rfl (lv_at hl 1 rfl) ?_
                          refine lv_iconst (v := 5) hx hb dL_refusesAny_259 (by decide) ?_
                          refine lv_iconst (v := 0) hx hb dL_refusesAny_260 (by decide) ?_
                          refine lv_iconst (v := 0) hx hb dL_refusesAny_261 (by decide) ?_
                          refine xo_Vi (As := [.int 5, .int 0, .int 0]) (rest := []) hx hb hml hown hts hK hN hZ hP hD hS hA mb_X7_pave mw_3_17 mw_3_18 mw_3_19 (k_X7_pave l D cI cZ cS x0 xs xv ho0 ho1 pd0 pd1 m0 ts0 ts1 a ha sa cn cs sc tm tv pd sv (0 : Int32) old sz z (5 : Int32) (0 : Int32) (0 : Int32) hRS hI hold hszz (Or.inl rfl)) 0 7 rfl rfl (fun _ => xwW_f) (by decide) (by decide) rfl hl.1 rfl (Nat.le_of_ble_eq_true rfl) dL_refusesAny_262 ⟨Nat.zero_le _, Nat.zero_le _⟩ (fun r262 u262 H locs hw hP hD hS => ?_)
                          obtain ⟨cq_262, zq_262, old1_262, sz1_262, cs1_262⟩ := u262
                          have p262 : r262 = paveR z (5 : Int32) (0 : Int32) ∧ ((paveC z (5 : Int32) (0 : Int32) ∧ Chg cn z old sz cs (paveZ z (5 : Int32) (0 : Int32) (0 : Int32)) cq_262 zq_262 old1_262 sz1_262 cs1_262) ∨ (¬ paveC z (5 : Int32) (0 : Int32) ∧ Same cn z old sz cs cq_262 zq_262 old1_262 sz1_262 cs1_262)) := hw
                          have hP : va_P D vwCl (xwW cI cZ cS x0 xs xv ho0 ho1 pd0 pd1 m0 ts0 ts1 a ha sa cq_262 cs1_262 sc tm tv pd sv (0 : Int32) old1_262 sz1_262 zq_262) H := hP
                          have hD : va_D A (xwW cI cZ cS x0 xs xv ho0 ho1 pd0 pd1 m0 ts0 ts1 a ha sa cq_262 cs1_262 sc tm tv pd sv (0 : Int32) old1_262 sz1_262 zq_262) := hD
                          have h712 : z 7 = 12 := xi_ext (by rw [show (12 : Int32).toInt = 12 from by decide]; omega)
                          have w262 : r262 = -4 ∧ cq_262 = cn ∧ zq_262 = z ∧ old1_262 = old ∧ sz1_262 = sz ∧ cs1_262 = cs := by
                            refine ⟨p262.1.trans (pv_full (by decide) h712), ?_⟩
                            rcases p262.2 with ⟨c9, -⟩ | ⟨-, h9⟩
                            · exact absurd c9 (fun c8 => c8.2 h712)
                            · exact h9
                          obtain ⟨w262, w262_0, w262_1, w262_2, w262_3, w262_4⟩ := w262
                          rw [w262_0, w262_1, w262_2, w262_3, w262_4] at hP hD
                          have hP : va_P D vwCl (xwW cI cZ cS x0 xs xv ho0 ho1 pd0 pd1 m0 ts0 ts1 a ha sa cn cs sc tm tv pd sv (0 : Int32) old sz z) H := hP
                          have hD : va_D A (xwW cI cZ cS x0 xs xv ho0 ho1 pd0 pd1 m0 ts0 ts1 a ha sa cn cs sc tm tv pd sv (0 : Int32) old sz z) := hD
                          refine xk_top (z := (-4)) (by exact w262) ?_
                          refine lv_bipush (v := (-4)) hx hb dL_refusesAny_265 (by decide) ?_
                          refine lv_icmp_ne (tgt := 342) hx hb dL_refusesAny_267 (by decide) (fun c267 => absurd (by decide) c267) (fun _ => ?_)
                          exact J270   _ _ hP hD hS ls (lv_sub hl [0, 1, 2, 3] rfl)
          · have t96 : x95.toInt = 0 := xi_eq rfl (by decide) c96
            have d96 : x95 = 0 := c96
            refine lv_iconst (v := (-1)) hx hb dL_refusesAny_99 (by decide) ?_
            refine lv_goto (tgt := 105) hx hb dL_refusesAny_100 (by decide) ?_
            refine xo_Vi (As := [.int 1, .int (-1)]) (rest := []) hx hb hml hown hts hK hN hZ hP hD hS hA mb_X7_set mw_3_8 mw_3_9 mw_3_10 (k_X7_set l D cI cZ cS x0 xs xv ho0 ho1 pd0 pd1 m0 ts0 ts1 a ha sa cn cs sc tm tv pd sv (0 : Int32) old sz z (1 : Int32) (-1 : Int32) hRS hI hold hszz) 0 7 rfl rfl (fun _ => xwW_f) (by decide) (by decide) rfl hl.1 rfl (Nat.le_of_ble_eq_true rfl) dL_refusesAny_105 ⟨Nat.zero_le _, Nat.zero_le _⟩ (fun r105 u105 H locs hw hP hD hS => ?_)
            obtain ⟨cq_105, zq_105, old1_105, sz1_105, cs1_105⟩ := u105
            have p105 : (setV (1 : Int32) (-1 : Int32) ∧ r105 = z 1 ∧ Chg cn z old sz cs (beginZ (upd z 1 (-1 : Int32))) cq_105 zq_105 old1_105 sz1_105 cs1_105) ∨ (¬ setV (1 : Int32) (-1 : Int32) ∧ r105 = -2 ∧ Same cn z old sz cs cq_105 zq_105 old1_105 sz1_105 cs1_105) := hw
            have hP : va_P D vwCl (xwW cI cZ cS x0 xs xv ho0 ho1 pd0 pd1 m0 ts0 ts1 a ha sa cq_105 cs1_105 sc tm tv pd sv (0 : Int32) old1_105 sz1_105 zq_105) H := hP
            have hD : va_D A (xwW cI cZ cS x0 xs xv ho0 ho1 pd0 pd1 m0 ts0 ts1 a ha sa cq_105 cs1_105 sc tm tv pd sv (0 : Int32) old1_105 sz1_105 zq_105) := hD
            have w105 : r105 = -2 ∧ cq_105 = cn ∧ zq_105 = z ∧ old1_105 = old ∧ sz1_105 = sz ∧ cs1_105 = cs := by
              rcases p105 with ⟨c9, -⟩ | ⟨-, h9⟩
              · exact absurd c9 (by decide)
              · exact h9
            obtain ⟨w105, w105_0, w105_1, w105_2, w105_3, w105_4⟩ := w105
            rw [w105_0, w105_1, w105_2, w105_3, w105_4] at hP hD
            have hP : va_P D vwCl (xwW cI cZ cS x0 xs xv ho0 ho1 pd0 pd1 m0 ts0 ts1 a ha sa cn cs sc tm tv pd sv (0 : Int32) old sz z) H := hP
            have hD : va_D A (xwW cI cZ cS x0 xs xv ho0 ho1 pd0 pd1 m0 ts0 ts1 a ha sa cn cs sc tm tv pd sv (0 : Int32) old sz z) := hD
            refine xk_top (z := (-2)) (by exact w105) ?_
            refine lv_bipush (v := (-2)) hx hb dL_refusesAny_108 (by decide) ?_
            refine lv_icmp_ne (tgt := 342) hx hb dL_refusesAny_110 (by decide) (fun c110 => absurd (by decide) c110) (fun _ => ?_)
            refine lv_aload_n hx hb dL_refusesAny_113 rfl (lv_at hl 1 rfl) ?_
            refine lv_iconst (v := 2) hx hb dL_refusesAny_114 (by decide) ?_
            refine lv_iload_n hx hb dL_refusesAny_115 rfl (lv_at hl 2 rfl) ?_
            refine lv_iconst (v := 2) hx hb dL_refusesAny_116 (by decide) ?_
            refine lv_irem hx hb dL_refusesAny_117 (by decide) ?_
            refine lv_topi (fun x117 e117 => ?_)
            have t117 : x117.toInt = p1.toInt % 2 := by rw [e117]; exact xi_rem rfl (by decide) (by omega) (by omega)
            refine lv_if_ne (tgt := 125) hx hb dL_refusesAny_118 (by decide) (fun c118 => ?_) (fun c118 => ?_)
            · have t118 : ¬ x117.toInt = 0 := xi_ne rfl (by decide) c118
              have d118 : ¬ x117 = 0 := c118
              omega
            · have t118 : x117.toInt = 0 := xi_eq rfl (by decide) c118
              have d118 : x117 = 0 := c118
              refine lv_iconst (v := 0) hx hb dL_refusesAny_121 (by decide) ?_
              refine lv_goto (tgt := 127) hx hb dL_refusesAny_122 (by decide) ?_
              refine xo_Vi (As := [.int 2, .int 0]) (rest := []) hx hb hml hown hts hK hN hZ hP hD hS hA mb_X7_set mw_3_8 mw_3_9 mw_3_10 (k_X7_set l D cI cZ cS x0 xs xv ho0 ho1 pd0 pd1 m0 ts0 ts1 a ha sa cn cs sc tm tv pd sv (0 : Int32) old sz z (2 : Int32) (0 : Int32) hRS hI hold hszz) 0 7 rfl rfl (fun _ => xwW_f) (by decide) (by decide) rfl hl.1 rfl (Nat.le_of_ble_eq_true rfl) dL_refusesAny_127 ⟨Nat.zero_le _, Nat.zero_le _⟩ (fun r127 u127 H locs hw hP hD hS => ?_)
              obtain ⟨cq_127, zq_127, old1_127, sz1_127, cs1_127⟩ := u127
              have p127 : (setV (2 : Int32) (0 : Int32) ∧ r127 = z 2 ∧ Chg cn z old sz cs (beginZ (upd z 2 (0 : Int32))) cq_127 zq_127 old1_127 sz1_127 cs1_127) ∨ (¬ setV (2 : Int32) (0 : Int32) ∧ r127 = -2 ∧ Same cn z old sz cs cq_127 zq_127 old1_127 sz1_127 cs1_127) := hw
              have hP : va_P D vwCl (xwW cI cZ cS x0 xs xv ho0 ho1 pd0 pd1 m0 ts0 ts1 a ha sa cq_127 cs1_127 sc tm tv pd sv (0 : Int32) old1_127 sz1_127 zq_127) H := hP
              have hD : va_D A (xwW cI cZ cS x0 xs xv ho0 ho1 pd0 pd1 m0 ts0 ts1 a ha sa cq_127 cs1_127 sc tm tv pd sv (0 : Int32) old1_127 sz1_127 zq_127) := hD
              have w127 : r127 = -2 ∧ cq_127 = cn ∧ zq_127 = z ∧ old1_127 = old ∧ sz1_127 = sz ∧ cs1_127 = cs := by
                rcases p127 with ⟨c9, -⟩ | ⟨-, h9⟩
                · exact absurd c9 (by decide)
                · exact h9
              obtain ⟨w127, w127_0, w127_1, w127_2, w127_3, w127_4⟩ := w127
              rw [w127_0, w127_1, w127_2, w127_3, w127_4] at hP hD
              have hP : va_P D vwCl (xwW cI cZ cS x0 xs xv ho0 ho1 pd0 pd1 m0 ts0 ts1 a ha sa cn cs sc tm tv pd sv (0 : Int32) old sz z) H := hP
              have hD : va_D A (xwW cI cZ cS x0 xs xv ho0 ho1 pd0 pd1 m0 ts0 ts1 a ha sa cn cs sc tm tv pd sv (0 : Int32) old sz z) := hD
              refine xk_top (z := (-2)) (by exact w127) ?_
              refine lv_bipush (v := (-2)) hx hb dL_refusesAny_130 (by decide) ?_
              refine lv_icmp_ne (tgt := 342) hx hb dL_refusesAny_132 (by decide) (fun c132 => absurd (by decide) c132) (fun _ => ?_)
              refine lv_aload_n hx hb dL_refusesAny_135 rfl (lv_at hl 1 rfl) ?_
              refine lv_iconst (v := 3) hx hb dL_refusesAny_136 (by decide) ?_
              refine lv_iload_n hx hb dL_refusesAny_137 rfl (lv_at hl 2 rfl) ?_
              refine lv_iconst (v := 2) hx hb dL_refusesAny_138 (by decide) ?_
              refine lv_irem hx hb dL_refusesAny_139 (by decide) ?_
              refine lv_topi (fun x139 e139 => ?_)
              have t139 : x139.toInt = p1.toInt % 2 := by rw [e139]; exact xi_rem rfl (by decide) (by omega) (by omega)
              refine lv_if_ne (tgt := 147) hx hb dL_refusesAny_140 (by decide) (fun c140 => ?_) (fun c140 => ?_)
              · have t140 : ¬ x139.toInt = 0 := xi_ne rfl (by decide) c140
                have d140 : ¬ x139 = 0 := c140
                omega
              · have t140 : x139.toInt = 0 := xi_eq rfl (by decide) c140
                have d140 : x139 = 0 := c140
                refine lv_iconst (v := 0) hx hb dL_refusesAny_143 (by decide) ?_
                refine lv_goto (tgt := 149) hx hb dL_refusesAny_144 (by decide) ?_
                refine xo_Vi (As := [.int 3, .int 0]) (rest := []) hx hb hml hown hts hK hN hZ hP hD hS hA mb_X7_set mw_3_8 mw_3_9 mw_3_10 (k_X7_set l D cI cZ cS x0 xs xv ho0 ho1 pd0 pd1 m0 ts0 ts1 a ha sa cn cs sc tm tv pd sv (0 : Int32) old sz z (3 : Int32) (0 : Int32) hRS hI hold hszz) 0 7 rfl rfl (fun _ => xwW_f) (by decide) (by decide) rfl hl.1 rfl (Nat.le_of_ble_eq_true rfl) dL_refusesAny_149 ⟨Nat.zero_le _, Nat.zero_le _⟩ (fun r149 u149 H locs hw hP hD hS => ?_)
                obtain ⟨cq_149, zq_149, old1_149, sz1_149, cs1_149⟩ := u149
                have p149 : (setV (3 : Int32) (0 : Int32) ∧ r149 = z 3 ∧ Chg cn z old sz cs (beginZ (upd z 3 (0 : Int32))) cq_149 zq_149 old1_149 sz1_149 cs1_149) ∨ (¬ setV (3 : Int32) (0 : Int32) ∧ r149 = -2 ∧ Same cn z old sz cs cq_149 zq_149 old1_149 sz1_149 cs1_149) := hw
                have hP : va_P D vwCl (xwW cI cZ cS x0 xs xv ho0 ho1 pd0 pd1 m0 ts0 ts1 a ha sa cq_149 cs1_149 sc tm tv pd sv (0 : Int32) old1_149 sz1_149 zq_149) H := hP
                have hD : va_D A (xwW cI cZ cS x0 xs xv ho0 ho1 pd0 pd1 m0 ts0 ts1 a ha sa cq_149 cs1_149 sc tm tv pd sv (0 : Int32) old1_149 sz1_149 zq_149) := hD
                have w149 : r149 = -2 ∧ cq_149 = cn ∧ zq_149 = z ∧ old1_149 = old ∧ sz1_149 = sz ∧ cs1_149 = cs := by
                  rcases p149 with ⟨c9, -⟩ | ⟨-, h9⟩
                  · exact absurd c9 (by decide)
                  · exact h9
                obtain ⟨w149, w149_0, w149_1, w149_2, w149_3, w149_4⟩ := w149
                rw [w149_0, w149_1, w149_2, w149_3, w149_4] at hP hD
                have hP : va_P D vwCl (xwW cI cZ cS x0 xs xv ho0 ho1 pd0 pd1 m0 ts0 ts1 a ha sa cn cs sc tm tv pd sv (0 : Int32) old sz z) H := hP
                have hD : va_D A (xwW cI cZ cS x0 xs xv ho0 ho1 pd0 pd1 m0 ts0 ts1 a ha sa cn cs sc tm tv pd sv (0 : Int32) old sz z) := hD
                refine xk_top (z := (-2)) (by exact w149) ?_
                refine lv_bipush (v := (-2)) hx hb dL_refusesAny_152 (by decide) ?_
                refine lv_icmp_ne (tgt := 342) hx hb dL_refusesAny_154 (by decide) (fun c154 => absurd (by decide) c154) (fun _ => ?_)
                refine lv_aload_n hx hb dL_refusesAny_157 rfl (lv_at hl 1 rfl) ?_
                refine lv_iconst (v := 4) hx hb dL_refusesAny_158 (by decide) ?_
                refine lv_iload_n hx hb dL_refusesAny_159 rfl (lv_at hl 2 rfl) ?_
                refine lv_iconst (v := 2) hx hb dL_refusesAny_160 (by decide) ?_
                refine lv_irem hx hb dL_refusesAny_161 (by decide) ?_
                refine lv_topi (fun x161 e161 => ?_)
                have t161 : x161.toInt = p1.toInt % 2 := by rw [e161]; exact xi_rem rfl (by decide) (by omega) (by omega)
                refine lv_if_ne (tgt := 169) hx hb dL_refusesAny_162 (by decide) (fun c162 => ?_) (fun c162 => ?_)
                · have t162 : ¬ x161.toInt = 0 := xi_ne rfl (by decide) c162
                  have d162 : ¬ x161 = 0 := c162
                  omega
                · have t162 : x161.toInt = 0 := xi_eq rfl (by decide) c162
                  have d162 : x161 = 0 := c162
                  refine lv_iconst (v := 4) hx hb dL_refusesAny_165 (by decide) ?_
                  refine lv_goto (tgt := 171) hx hb dL_refusesAny_166 (by decide) ?_
                  refine xo_Vi (As := [.int 4, .int 4]) (rest := []) hx hb hml hown hts hK hN hZ hP hD hS hA mb_X7_set mw_3_8 mw_3_9 mw_3_10 (k_X7_set l D cI cZ cS x0 xs xv ho0 ho1 pd0 pd1 m0 ts0 ts1 a ha sa cn cs sc tm tv pd sv (0 : Int32) old sz z (4 : Int32) (4 : Int32) hRS hI hold hszz) 0 7 rfl rfl (fun _ => xwW_f) (by decide) (by decide) rfl hl.1 rfl (Nat.le_of_ble_eq_true rfl) dL_refusesAny_171 ⟨Nat.zero_le _, Nat.zero_le _⟩ (fun r171 u171 H locs hw hP hD hS => ?_)
                  obtain ⟨cq_171, zq_171, old1_171, sz1_171, cs1_171⟩ := u171
                  have p171 : (setV (4 : Int32) (4 : Int32) ∧ r171 = z 4 ∧ Chg cn z old sz cs (beginZ (upd z 4 (4 : Int32))) cq_171 zq_171 old1_171 sz1_171 cs1_171) ∨ (¬ setV (4 : Int32) (4 : Int32) ∧ r171 = -2 ∧ Same cn z old sz cs cq_171 zq_171 old1_171 sz1_171 cs1_171) := hw
                  have hP : va_P D vwCl (xwW cI cZ cS x0 xs xv ho0 ho1 pd0 pd1 m0 ts0 ts1 a ha sa cq_171 cs1_171 sc tm tv pd sv (0 : Int32) old1_171 sz1_171 zq_171) H := hP
                  have hD : va_D A (xwW cI cZ cS x0 xs xv ho0 ho1 pd0 pd1 m0 ts0 ts1 a ha sa cq_171 cs1_171 sc tm tv pd sv (0 : Int32) old1_171 sz1_171 zq_171) := hD
                  have w171 : r171 = -2 ∧ cq_171 = cn ∧ zq_171 = z ∧ old1_171 = old ∧ sz1_171 = sz ∧ cs1_171 = cs := by
                    rcases p171 with ⟨c9, -⟩ | ⟨-, h9⟩
                    · exact absurd c9 (by decide)
                    · exact h9
                  obtain ⟨w171, w171_0, w171_1, w171_2, w171_3, w171_4⟩ := w171
                  rw [w171_0, w171_1, w171_2, w171_3, w171_4] at hP hD
                  have hP : va_P D vwCl (xwW cI cZ cS x0 xs xv ho0 ho1 pd0 pd1 m0 ts0 ts1 a ha sa cn cs sc tm tv pd sv (0 : Int32) old sz z) H := hP
                  have hD : va_D A (xwW cI cZ cS x0 xs xv ho0 ho1 pd0 pd1 m0 ts0 ts1 a ha sa cn cs sc tm tv pd sv (0 : Int32) old sz z) := hD
                  refine xk_top (z := (-2)) (by exact w171) ?_
                  refine lv_bipush (v := (-2)) hx hb dL_refusesAny_174 (by decide) ?_
                  refine lv_icmp_ne (tgt := 342) hx hb dL_refusesAny_176 (by decide) (fun c176 => absurd (by decide) c176) (fun _ => ?_)
                  refine lv_aload_n hx hb dL_refusesAny_179 rfl (lv_at hl 1 rfl) ?_
                  refine lv_iconst (v := 5) hx hb dL_refusesAny_180 (by decide) ?_
                  refine lv_iload_n hx hb dL_refusesAny_181 rfl (lv_at hl 2 rfl) ?_
                  refine lv_iconst (v := 2) hx hb dL_refusesAny_182 (by decide) ?_
                  refine lv_irem hx hb dL_refusesAny_183 (by decide) ?_
                  refine lv_topi (fun x183 e183 => ?_)
                  have t183 : x183.toInt = p1.toInt % 2 := by rw [e183]; exact xi_rem rfl (by decide) (by omega) (by omega)
                  refine lv_if_ne (tgt := 191) hx hb dL_refusesAny_184 (by decide) (fun c184 => ?_) (fun c184 => ?_)
                  · have t184 : ¬ x183.toInt = 0 := xi_ne rfl (by decide) c184
                    have d184 : ¬ x183 = 0 := c184
                    omega
                  · have t184 : x183.toInt = 0 := xi_eq rfl (by decide) c184
                    have d184 : x183 = 0 := c184
                    refine lv_iconst (v := 1) hx hb dL_refusesAny_187 (by decide) ?_
                    refine lv_goto (tgt := 193) hx hb dL_refusesAny_188 (by decide) ?_
                    refine xo_Vi (As := [.int 5, .int 1]) (rest := []) hx hb hml hown hts hK hN hZ hP hD hS hA mb_X7_set mw_3_8 mw_3_9 mw_3_10 (k_X7_set l D cI cZ cS x0 xs xv ho0 ho1 pd0 pd1 m0 ts0 ts1 a ha sa cn cs sc tm tv pd sv (0 : Int32) old sz z (5 : Int32) (1 : Int32) hRS hI hold hszz) 0 7 rfl rfl (fun _ => xwW_f) (by decide) (by decide) rfl hl.1 rfl (Nat.le_of_ble_eq_true rfl) dL_refusesAny_193 ⟨Nat.zero_le _, Nat.zero_le _⟩ (fun r193 u193 H locs hw hP hD hS => ?_)
                    obtain ⟨cq_193, zq_193, old1_193, sz1_193, cs1_193⟩ := u193
                    have p193 : (setV (5 : Int32) (1 : Int32) ∧ r193 = z 5 ∧ Chg cn z old sz cs (beginZ (upd z 5 (1 : Int32))) cq_193 zq_193 old1_193 sz1_193 cs1_193) ∨ (¬ setV (5 : Int32) (1 : Int32) ∧ r193 = -2 ∧ Same cn z old sz cs cq_193 zq_193 old1_193 sz1_193 cs1_193) := hw
                    have hP : va_P D vwCl (xwW cI cZ cS x0 xs xv ho0 ho1 pd0 pd1 m0 ts0 ts1 a ha sa cq_193 cs1_193 sc tm tv pd sv (0 : Int32) old1_193 sz1_193 zq_193) H := hP
                    have hD : va_D A (xwW cI cZ cS x0 xs xv ho0 ho1 pd0 pd1 m0 ts0 ts1 a ha sa cq_193 cs1_193 sc tm tv pd sv (0 : Int32) old1_193 sz1_193 zq_193) := hD
                    have w193 : r193 = -2 ∧ cq_193 = cn ∧ zq_193 = z ∧ old1_193 = old ∧ sz1_193 = sz ∧ cs1_193 = cs := by
                      rcases p193 with ⟨c9, -⟩ | ⟨-, h9⟩
                      · exact absurd c9 (by decide)
                      · exact h9
                    obtain ⟨w193, w193_0, w193_1, w193_2, w193_3, w193_4⟩ := w193
                    rw [w193_0, w193_1, w193_2, w193_3, w193_4] at hP hD
                    have hP : va_P D vwCl (xwW cI cZ cS x0 xs xv ho0 ho1 pd0 pd1 m0 ts0 ts1 a ha sa cn cs sc tm tv pd sv (0 : Int32) old sz z) H := hP
                    have hD : va_D A (xwW cI cZ cS x0 xs xv ho0 ho1 pd0 pd1 m0 ts0 ts1 a ha sa cn cs sc tm tv pd sv (0 : Int32) old sz z) := hD
                    refine xk_top (z := (-2)) (by exact w193) ?_
                    refine lv_bipush (v := (-2)) hx hb dL_refusesAny_196 (by decide) ?_
                    refine lv_icmp_ne (tgt := 342) hx hb dL_refusesAny_198 (by decide) (fun c198 => absurd (by decide) c198) (fun _ => ?_)
                    refine lv_aload_n hx hb dL_refusesAny_201 rfl (lv_at hl 1 rfl) ?_
                    refine lv_iload_n hx hb dL_refusesAny_202 rfl (lv_at hl 2 rfl) ?_
                    refine lv_iconst (v := 2) hx hb dL_refusesAny_203 (by decide) ?_
                    refine lv_irem hx hb dL_refusesAny_204 (by decide) ?_
                    refine lv_topi (fun x204 e204 => ?_)
                    have t204 : x204.toInt = p1.toInt % 2 := by rw [e204]; exact xi_rem rfl (by decide) (by omega) (by omega)
                    refine lv_if_ne (tgt := 212) hx hb dL_refusesAny_205 (by decide) (fun c205 => ?_) (fun c205 => ?_)
                    · have t205 : ¬ x204.toInt = 0 := xi_ne rfl (by decide) c205
                      have d205 : ¬ x204 = 0 := c205
                      omega
                    · have t205 : x204.toInt = 0 := xi_eq rfl (by decide) c205
                      have d205 : x204 = 0 := c205
                      refine lv_iconst (v := 0) hx hb dL_refusesAny_208 (by decide) ?_
                      refine lv_goto (tgt := 214) hx hb dL_refusesAny_209 (by decide) ?_
                      refine lv_iconst (v := 0) hx hb dL_refusesAny_214 (by decide) ?_
                      refine lv_iconst (v := 1) hx hb dL_refusesAny_215 (by decide) ?_
                      refine xo_Vi (As := [.int 0, .int 0, .int 1]) (rest := []) hx hb hml hown hts hK hN hZ hP hD hS hA mb_X7_pave mw_3_17 mw_3_18 mw_3_19 (k_X7_pave l D cI cZ cS x0 xs xv ho0 ho1 pd0 pd1 m0 ts0 ts1 a ha sa cn cs sc tm tv pd sv (0 : Int32) old sz z (0 : Int32) (0 : Int32) (1 : Int32) hRS hI hold hszz (Or.inr rfl)) 0 7 rfl rfl (fun _ => xwW_f) (by decide) (by decide) rfl hl.1 rfl (Nat.le_of_ble_eq_true rfl) dL_refusesAny_216 ⟨Nat.zero_le _, Nat.zero_le _⟩ (fun r216 u216 H locs hw hP hD hS => ?_)
                      obtain ⟨cq_216, zq_216, old1_216, sz1_216, cs1_216⟩ := u216
                      have p216 : r216 = paveR z (0 : Int32) (0 : Int32) ∧ ((paveC z (0 : Int32) (0 : Int32) ∧ Chg cn z old sz cs (paveZ z (0 : Int32) (0 : Int32) (1 : Int32)) cq_216 zq_216 old1_216 sz1_216 cs1_216) ∨ (¬ paveC z (0 : Int32) (0 : Int32) ∧ Same cn z old sz cs cq_216 zq_216 old1_216 sz1_216 cs1_216)) := hw
                      have hP : va_P D vwCl (xwW cI cZ cS x0 xs xv ho0 ho1 pd0 pd1 m0 ts0 ts1 a ha sa cq_216 cs1_216 sc tm tv pd sv (0 : Int32) old1_216 sz1_216 zq_216) H := hP
                      have hD : va_D A (xwW cI cZ cS x0 xs xv ho0 ho1 pd0 pd1 m0 ts0 ts1 a ha sa cq_216 cs1_216 sc tm tv pd sv (0 : Int32) old1_216 sz1_216 zq_216) := hD
                      have w216 : r216 = -2 ∧ cq_216 = cn ∧ zq_216 = z ∧ old1_216 = old ∧ sz1_216 = sz ∧ cs1_216 = cs := by
                        refine ⟨p216.1.trans (pv_bad z (by decide)), ?_⟩
                        rcases p216.2 with ⟨c9, -⟩ | ⟨-, h9⟩
                        · exact absurd c9 (fun c8 => absurd c8.1 (by decide))
                        · exact h9
                      obtain ⟨w216, w216_0, w216_1, w216_2, w216_3, w216_4⟩ := w216
                      rw [w216_0, w216_1, w216_2, w216_3, w216_4] at hP hD
                      have hP : va_P D vwCl (xwW cI cZ cS x0 xs xv ho0 ho1 pd0 pd1 m0 ts0 ts1 a ha sa cn cs sc tm tv pd sv (0 : Int32) old sz z) H := hP
                      have hD : va_D A (xwW cI cZ cS x0 xs xv ho0 ho1 pd0 pd1 m0 ts0 ts1 a ha sa cn cs sc tm tv pd sv (0 : Int32) old sz z) := hD
                      refine xk_top (z := (-2)) (by exact w216) ?_
                      refine lv_bipush (v := (-2)) hx hb dL_refusesAny_219 (by decide) ?_
                      refine lv_icmp_ne (tgt := 342) hx hb dL_refusesAny_221 (by decide) (fun c221 => absurd (by decide) c221) (fun _ => ?_)
                      refine lv_aload_n hx hb dL_refusesAny_224 rfl (lv_at hl 1 rfl) ?_
                      refine lv_iconst (v := 5) hx hb dL_refusesAny_225 (by decide) ?_
                      refine lv_iload_n hx hb dL_refusesAny_226 rfl (lv_at hl 2 rfl) ?_
                      refine lv_iconst (v := 2) hx hb dL_refusesAny_227 (by decide) ?_
                      refine lv_irem hx hb dL_refusesAny_228 (by decide) ?_
                      refine lv_topi (fun x228 e228 => ?_)
                      have t228 : x228.toInt = p1.toInt % 2 := by rw [e228]; exact xi_rem rfl (by decide) (by omega) (by omega)
                      refine lv_if_ne (tgt := 237) hx hb dL_refusesAny_229 (by decide) (fun c229 => ?_) (fun c229 => ?_)
                      · have t229 : ¬ x228.toInt = 0 := xi_ne rfl (by decide) c229
                        have d229 : ¬ x228 = 0 := c229
                        omega
                      · have t229 : x228.toInt = 0 := xi_eq rfl (by decide) c229
                        have d229 : x228 = 0 := c229
                        refine lv_bipush (v := (-4)) hx hb dL_refusesAny_232 (by decide) ?_
                        refine lv_goto (tgt := 238) hx hb dL_refusesAny_234 (by decide) ?_
                        refine lv_iconst (v := 0) hx hb dL_refusesAny_238 (by decide) ?_
                        refine xo_Vi (As := [.int 5, .int (-4), .int 0]) (rest := []) hx hb hml hown hts hK hN hZ hP hD hS hA mb_X7_pave mw_3_17 mw_3_18 mw_3_19 (k_X7_pave l D cI cZ cS x0 xs xv ho0 ho1 pd0 pd1 m0 ts0 ts1 a ha sa cn cs sc tm tv pd sv (0 : Int32) old sz z (5 : Int32) (-4 : Int32) (0 : Int32) hRS hI hold hszz (Or.inl rfl)) 0 7 rfl rfl (fun _ => xwW_f) (by decide) (by decide) rfl hl.1 rfl (Nat.le_of_ble_eq_true rfl) dL_refusesAny_239 ⟨Nat.zero_le _, Nat.zero_le _⟩ (fun r239 u239 H locs hw hP hD hS => ?_)
                        obtain ⟨cq_239, zq_239, old1_239, sz1_239, cs1_239⟩ := u239
                        have p239 : r239 = paveR z (5 : Int32) (-4 : Int32) ∧ ((paveC z (5 : Int32) (-4 : Int32) ∧ Chg cn z old sz cs (paveZ z (5 : Int32) (-4 : Int32) (0 : Int32)) cq_239 zq_239 old1_239 sz1_239 cs1_239) ∨ (¬ paveC z (5 : Int32) (-4 : Int32) ∧ Same cn z old sz cs cq_239 zq_239 old1_239 sz1_239 cs1_239)) := hw
                        have hP : va_P D vwCl (xwW cI cZ cS x0 xs xv ho0 ho1 pd0 pd1 m0 ts0 ts1 a ha sa cq_239 cs1_239 sc tm tv pd sv (0 : Int32) old1_239 sz1_239 zq_239) H := hP
                        have hD : va_D A (xwW cI cZ cS x0 xs xv ho0 ho1 pd0 pd1 m0 ts0 ts1 a ha sa cq_239 cs1_239 sc tm tv pd sv (0 : Int32) old1_239 sz1_239 zq_239) := hD
                        have w239 : r239 = -2 ∧ cq_239 = cn ∧ zq_239 = z ∧ old1_239 = old ∧ sz1_239 = sz ∧ cs1_239 = cs := by
                          refine ⟨p239.1.trans (pv_bad z (by decide)), ?_⟩
                          rcases p239.2 with ⟨c9, -⟩ | ⟨-, h9⟩
                          · exact absurd c9 (fun c8 => absurd c8.1 (by decide))
                          · exact h9
                        obtain ⟨w239, w239_0, w239_1, w239_2, w239_3, w239_4⟩ := w239
                        rw [w239_0, w239_1, w239_2, w239_3, w239_4] at hP hD
                        have hP : va_P D vwCl (xwW cI cZ cS x0 xs xv ho0 ho1 pd0 pd1 m0 ts0 ts1 a ha sa cn cs sc tm tv pd sv (0 : Int32) old sz z) H := hP
                        have hD : va_D A (xwW cI cZ cS x0 xs xv ho0 ho1 pd0 pd1 m0 ts0 ts1 a ha sa cn cs sc tm tv pd sv (0 : Int32) old sz z) := hD
                        refine xk_top (z := (-2)) (by exact w239) ?_
                        refine lv_bipush (v := (-2)) hx hb dL_refusesAny_242 (by decide) ?_
                        refine lv_icmp_ne (tgt := 342) hx hb dL_refusesAny_244 (by decide) (fun c244 => absurd (by decide) c244) (fun _ => ?_)
                        have J270 : ∀   (H : Heap) (locs : List Loc), va_P D vwCl (xwW cI cZ cS x0 xs xv ho0 ho1 pd0 pd1 m0 ts0 ts1 a ha sa cn cs sc tm tv pd sv (0 : Int32) old sz z) H → va_D A (xwW cI cZ cS x0 xs xv ho0 ho1 pd0 pd1 m0 ts0 ts1 a ha sa cn cs sc tm tv pd sv (0 : Int32) old sz z) → va_S A s.heap H locs → ∀ ls : Array Slot, lv_has ls 5 [(2, .int x11), (0, .ref x0), (1, .int p1), (3, .int b)] → W p l e ({ frames := 7, cells := 0, slots := 0, locals := 159 } : Room) s m args below meth c H locs 0 0 Q (F0 m 270 ls []) := by
                          intro  H locs hP hD hS ls hl
                          refine lv_aload_n hx hb dL_refusesAny_270 rfl (lv_at hl 1 rfl) ?_
                          refine lv_iload_n hx hb dL_refusesAny_271 rfl (lv_at hl 0 rfl) ?_
                          refine xo_Vi (As := [.int x11]) (rest := []) hx hb hml hown hts hK hN hZ hP hD hS hA mb_X7_tear mw_3_25 mw_3_26 mw_3_27 (k_X7_tear l D cI cZ cS x0 xs xv ho0 ho1 pd0 pd1 m0 ts0 ts1 a ha sa cn cs sc tm tv pd sv (0 : Int32) old sz z x11 hRS hI hold hszz) 0 7 rfl rfl (fun _ => xwW_f) (by decide) (by decide) rfl hl.1 rfl (Nat.le_of_ble_eq_true rfl) dL_refusesAny_272 ⟨Nat.zero_le _, Nat.zero_le _⟩ (fun r272 u272 H locs hw hP hD hS => ?_)
                          obtain ⟨cq_272, zq_272, old1_272, sz1_272, cs1_272⟩ := u272
                          have p272 : (tearC z x11 ∧ r272 = ofZ z x11.toInt.toNat 0 ∧ Chg cn z old sz cs (tearZ z x11) cq_272 zq_272 old1_272 sz1_272 cs1_272) ∨ (¬ tearC z x11 ∧ r272 = -1 ∧ Same cn z old sz cs cq_272 zq_272 old1_272 sz1_272 cs1_272) := hw
                          have hP : va_P D vwCl (xwW cI cZ cS x0 xs xv ho0 ho1 pd0 pd1 m0 ts0 ts1 a ha sa cq_272 cs1_272 sc tm tv pd sv (0 : Int32) old1_272 sz1_272 zq_272) H := hP
                          have hD : va_D A (xwW cI cZ cS x0 xs xv ho0 ho1 pd0 pd1 m0 ts0 ts1 a ha sa cq_272 cs1_272 sc tm tv pd sv (0 : Int32) old1_272 sz1_272 zq_272) := hD
                          have w272 : r272 = -1 ∧ cq_272 = cn ∧ zq_272 = z ∧ old1_272 = old ∧ sz1_272 = sz ∧ cs1_272 = cs := by
                            rcases p272 with ⟨c9, -⟩ | ⟨-, h9⟩
                            · exact absurd c9 (fun c8 => by have := c8.1; have := c8.2; omega)
                            · exact h9
                          obtain ⟨w272, w272_0, w272_1, w272_2, w272_3, w272_4⟩ := w272
                          rw [w272_0, w272_1, w272_2, w272_3, w272_4] at hP hD
                          have hP : va_P D vwCl (xwW cI cZ cS x0 xs xv ho0 ho1 pd0 pd1 m0 ts0 ts1 a ha sa cn cs sc tm tv pd sv (0 : Int32) old sz z) H := hP
                          have hD : va_D A (xwW cI cZ cS x0 xs xv ho0 ho1 pd0 pd1 m0 ts0 ts1 a ha sa cn cs sc tm tv pd sv (0 : Int32) old sz z) := hD
                          refine xk_top (z := (-1)) (by exact w272) ?_
                          refine lv_iconst (v := (-1)) hx hb dL_refusesAny_275 (by decide) ?_
                          refine lv_icmp_ne (tgt := 342) hx hb dL_refusesAny_276 (by decide) (fun c276 => absurd (by decide) c276) (fun _ => ?_)
                          refine lv_aload_n hx hb dL_refusesAny_279 rfl (lv_at hl 1 rfl) ?_
                          refine lv_aload_n hx hb dL_refusesAny_280 rfl (lv_at hl 1 rfl) ?_
                          refine lv_bipush (v := 9) hx hb dL_refusesAny_281 (by decide) ?_
                          refine xo_Vi (As := [.int 9]) (rest := [.ref x0]) hx hb hml hown hts hK hN hZ hP hD hS hA mb_X7_count mw_2_6 mw_2_7 mw_2_8 (k_X7_count l D cI cZ cS x0 xs xv ho0 ho1 pd0 pd1 m0 ts0 ts1 a ha sa cn cs sc tm tv pd sv (0 : Int32) old sz z (9 : Int32) hRS hI) 0 7 rfl rfl (fun _ => xwW_f) (by decide) (by decide) rfl hl.1 rfl (Nat.le_of_ble_eq_true rfl) dL_refusesAny_283 ⟨Nat.zero_le _, Nat.zero_le _⟩ (fun r283 u283 H locs hw hP hD hS => ?_)
                          have p283 : r283 = cntR z (0 : Int32) sz (9 : Int32) := hw
                          have hP : va_P D vwCl (xwW cI cZ cS x0 xs xv ho0 ho1 pd0 pd1 m0 ts0 ts1 a ha sa cn cs sc tm tv pd sv (0 : Int32) old sz z) H := hP
                          have hD : va_D A (xwW cI cZ cS x0 xs xv ho0 ho1 pd0 pd1 m0 ts0 ts1 a ha sa cn cs sc tm tv pd sv (0 : Int32) old sz z) := hD
                          refine xk_top (z := (z 7)) (by exact p283.trans (ct_9 _ _ _)) ?_
                          refine xo_Vi (As := [.int (z 7)]) (rest := []) hx hb hml hown hts hK hN hZ hP hD hS hA mb_X7_tear mw_3_25 mw_3_26 mw_3_27 (k_X7_tear l D cI cZ cS x0 xs xv ho0 ho1 pd0 pd1 m0 ts0 ts1 a ha sa cn cs sc tm tv pd sv (0 : Int32) old sz z (z 7) hRS hI hold hszz) 0 7 rfl rfl (fun _ => xwW_f) (by decide) (by decide) rfl hl.1 rfl (Nat.le_of_ble_eq_true rfl) dL_refusesAny_286 ⟨Nat.zero_le _, Nat.zero_le _⟩ (fun r286 u286 H locs hw hP hD hS => ?_)
                          obtain ⟨cq_286, zq_286, old1_286, sz1_286, cs1_286⟩ := u286
                          have p286 : (tearC z (z 7) ∧ r286 = ofZ z (z 7).toInt.toNat 0 ∧ Chg cn z old sz cs (tearZ z (z 7)) cq_286 zq_286 old1_286 sz1_286 cs1_286) ∨ (¬ tearC z (z 7) ∧ r286 = -1 ∧ Same cn z old sz cs cq_286 zq_286 old1_286 sz1_286 cs1_286) := hw
                          have hP : va_P D vwCl (xwW cI cZ cS x0 xs xv ho0 ho1 pd0 pd1 m0 ts0 ts1 a ha sa cq_286 cs1_286 sc tm tv pd sv (0 : Int32) old1_286 sz1_286 zq_286) H := hP
                          have hD : va_D A (xwW cI cZ cS x0 xs xv ho0 ho1 pd0 pd1 m0 ts0 ts1 a ha sa cq_286 cs1_286 sc tm tv pd sv (0 : Int32) old1_286 sz1_286 zq_286) := hD
                          have w286 : r286 = -1 ∧ cq_286 = cn ∧ zq_286 = z ∧ old1_286 = old ∧ sz1_286 = sz ∧ cs1_286 = cs := by
                            rcases p286 with ⟨c9, -⟩ | ⟨-, h9⟩
                            · exact absurd c9 (fun c8 => by have := c8.1; have := c8.2; omega)
                            · exact h9
                          obtain ⟨w286, w286_0, w286_1, w286_2, w286_3, w286_4⟩ := w286
                          rw [w286_0, w286_1, w286_2, w286_3, w286_4] at hP hD
                          have hP : va_P D vwCl (xwW cI cZ cS x0 xs xv ho0 ho1 pd0 pd1 m0 ts0 ts1 a ha sa cn cs sc tm tv pd sv (0 : Int32) old sz z) H := hP
                          have hD : va_D A (xwW cI cZ cS x0 xs xv ho0 ho1 pd0 pd1 m0 ts0 ts1 a ha sa cn cs sc tm tv pd sv (0 : Int32) old sz z) := hD
                          refine xk_top (z := (-1)) (by exact w286) ?_
                          refine lv_iconst (v := (-1)) hx hb dL_refusesAny_289 (by decide) ?_
                          refine lv_icmp_ne (tgt := 342) hx hb dL_refusesAny_290 (by decide) (fun c290 => absurd (by decide) c290) (fun _ => ?_)
                          refine lv_aload_n hx hb dL_refusesAny_293 rfl (lv_at hl 1 rfl) ?_
                          refine lv_iload_n hx hb dL_refusesAny_294 rfl (lv_at hl 2 rfl) ?_
                          refine lv_iconst (v := 2) hx hb dL_refusesAny_295 (by decide) ?_
                          refine lv_irem hx hb dL_refusesAny_296 (by decide) ?_
                          refine lv_topi (fun x296 e296 => ?_)
                          have t296 : x296.toInt = p1.toInt % 2 := by rw [e296]; exact xi_rem rfl (by decide) (by omega) (by omega)
                          refine lv_if_ne (tgt := 304) hx hb dL_refusesAny_297 (by decide) (fun c297 => ?_) (fun c297 => ?_)
                          · have t297 : ¬ x296.toInt = 0 := xi_ne rfl (by decide) c297
                            have d297 : ¬ x296 = 0 := c297
                            omega
                          · have t297 : x296.toInt = 0 := xi_eq rfl (by decide) c297
                            have d297 : x296 = 0 := c297
                            refine lv_iconst (v := 0) hx hb dL_refusesAny_300 (by decide) ?_
                            refine lv_goto (tgt := 307) hx hb dL_refusesAny_301 (by decide) ?_
                            refine xo_Vi (As := [.int 0]) (rest := []) hx hb hml hown hts hK hN hZ hP hD hS hA mb_X7_march mw_3_33 mw_3_34 mw_3_35 (k_X7_march l D cI cZ cS x0 xs xv ho0 ho1 pd0 pd1 m0 ts0 ts1 a ha sa cn cs sc tm tv pd sv (0 : Int32) old sz z (0 : Int32) hRS hI hold hszz ⟨hb74, by omega⟩) 0 7 rfl rfl (fun _ => xwW_f) (by decide) (by decide) rfl hl.1 rfl (Nat.le_of_ble_eq_true rfl) dL_refusesAny_307 ⟨Nat.zero_le _, Nat.zero_le _⟩ (fun r307 u307 H locs hw hP hD hS => ?_)
                            obtain ⟨cq_307, zq_307, old1_307, sz1_307, cs1_307⟩ := u307
                            have p307 : marchA z (0 : Int32) r307 ∧ ((marchC z (0 : Int32) ∧ Chg cn z old sz cs (walkZ 0 z) cq_307 zq_307 old1_307 sz1_307 cs1_307) ∨ (¬ marchC z (0 : Int32) ∧ Same cn z old sz cs cq_307 zq_307 old1_307 sz1_307 cs1_307)) := hw
                            have hP : va_P D vwCl (xwW cI cZ cS x0 xs xv ho0 ho1 pd0 pd1 m0 ts0 ts1 a ha sa cq_307 cs1_307 sc tm tv pd sv (0 : Int32) old1_307 sz1_307 zq_307) H := hP
                            have hD : va_D A (xwW cI cZ cS x0 xs xv ho0 ho1 pd0 pd1 m0 ts0 ts1 a ha sa cq_307 cs1_307 sc tm tv pd sv (0 : Int32) old1_307 sz1_307 zq_307) := hD
                            have w307 : r307 = -2 ∧ cq_307 = cn ∧ zq_307 = z ∧ old1_307 = old ∧ sz1_307 = sz ∧ cs1_307 = cs := by
                              refine ⟨mc_bad (by decide) p307.1, ?_⟩
                              rcases p307.2 with ⟨c9, -⟩ | ⟨-, h9⟩
                              · exact absurd c9 (fun c8 => absurd c8.1 (by decide))
                              · exact h9
                            obtain ⟨w307, w307_0, w307_1, w307_2, w307_3, w307_4⟩ := w307
                            rw [w307_0, w307_1, w307_2, w307_3, w307_4] at hP hD
                            have hP : va_P D vwCl (xwW cI cZ cS x0 xs xv ho0 ho1 pd0 pd1 m0 ts0 ts1 a ha sa cn cs sc tm tv pd sv (0 : Int32) old sz z) H := hP
                            have hD : va_D A (xwW cI cZ cS x0 xs xv ho0 ho1 pd0 pd1 m0 ts0 ts1 a ha sa cn cs sc tm tv pd sv (0 : Int32) old sz z) := hD
                            refine xk_top (z := (-2)) (by exact w307) ?_
                            refine lv_bipush (v := (-2)) hx hb dL_refusesAny_310 (by decide) ?_
                            refine lv_icmp_ne (tgt := 342) hx hb dL_refusesAny_312 (by decide) (fun c312 => absurd (by decide) c312) (fun _ => ?_)
                            have J338 : ∀   (H : Heap) (locs : List Loc), va_P D vwCl (xwW cI cZ cS x0 xs xv ho0 ho1 pd0 pd1 m0 ts0 ts1 a ha sa cn cs sc tm tv pd sv (0 : Int32) old sz z) H → va_D A (xwW cI cZ cS x0 xs xv ho0 ho1 pd0 pd1 m0 ts0 ts1 a ha sa cn cs sc tm tv pd sv (0 : Int32) old sz z) → va_S A s.heap H locs → ∀ ls : Array Slot, lv_has ls 5 [(2, .int x11), (0, .ref x0), (1, .int p1), (3, .int b)] → W p l e ({ frames := 7, cells := 0, slots := 0, locals := 159 } : Room) s m args below meth c H locs 0 0 Q (F0 m 338 ls []) := by
                              intro  H locs hP hD hS ls hl
                              refine lv_iconst (v := 1) hx hb dL_refusesAny_338 (by decide) ?_
                              refine lv_goto (tgt := 343) hx hb dL_refusesAny_339 (by decide) ?_
                              refine lv_istore (lv' := [(4, .int 1), (2, .int x11), (0, .ref x0), (1, .int p1), (3, .int b)]) hx hb dL_refusesAny_343 hl (by decide) rfl (fun ls hl => ?_)
                              refine lv_iload hx hb dL_refusesAny_345 (lv_at hl 0 rfl) ?_
                              refine lv_if_eq (tgt := 631) hx hb dL_refusesAny_347 (by decide) (fun c347 => absurd c347 (by decide)) (fun _ => ?_)
                              refine lv_aload_n hx hb dL_refusesAny_350 rfl (lv_at hl 2 rfl) ?_
                              refine lv_iload_n hx hb dL_refusesAny_351 rfl (lv_at hl 1 rfl) ?_
                              refine lv_bipush (v := 9) hx hb dL_refusesAny_352 (by decide) ?_
                              refine xo_Vi (As := [.int x11, .int 9]) (rest := []) hx hb hml hown hts hK hN hZ hP hD hS hA mb_X7_line mw_2_150 mw_2_151 mw_2_152 (k_X7_line l D cI cZ cS x0 xs xv ho0 ho1 pd0 pd1 m0 ts0 ts1 a ha sa cn cs sc tm tv pd sv (0 : Int32) old sz z x11 (9 : Int32) hRS hI) 0 7 rfl rfl (fun _ => xwW_f) (by decide) (by decide) rfl hl.1 rfl (Nat.le_of_ble_eq_true rfl) dL_refusesAny_354 ⟨Nat.zero_le _, Nat.zero_le _⟩ (fun r354 u354 H locs hw hP hD hS => ?_)
                              have p354 : r354 = lineR z x11 (9 : Int32) := hw
                              have hP : va_P D vwCl (xwW cI cZ cS x0 xs xv ho0 ho1 pd0 pd1 m0 ts0 ts1 a ha sa cn cs sc tm tv pd sv (0 : Int32) old sz z) H := hP
                              have hD : va_D A (xwW cI cZ cS x0 xs xv ho0 ho1 pd0 pd1 m0 ts0 ts1 a ha sa cn cs sc tm tv pd sv (0 : Int32) old sz z) := hD
                              refine xk_top (z := (-1)) (by exact p354.trans (ln_no (fun c8 => by have := c8.1; have := c8.2; omega))) ?_
                              refine lv_iconst (v := (-1)) hx hb dL_refusesAny_357 (by decide) ?_
                              refine lv_icmp_ne (tgt := 631) hx hb dL_refusesAny_358 (by decide) (fun c358 => absurd (by decide) c358) (fun _ => ?_)
                              refine lv_aload_n hx hb dL_refusesAny_361 rfl (lv_at hl 2 rfl) ?_
                              refine lv_aload_n hx hb dL_refusesAny_362 rfl (lv_at hl 2 rfl) ?_
                              refine lv_bipush (v := 6) hx hb dL_refusesAny_363 (by decide) ?_
                              refine xo_Vi (As := [.int 6]) (rest := [.ref x0]) hx hb hml hown hts hK hN hZ hP hD hS hA mb_X7_count mw_2_6 mw_2_7 mw_2_8 (k_X7_count l D cI cZ cS x0 xs xv ho0 ho1 pd0 pd1 m0 ts0 ts1 a ha sa cn cs sc tm tv pd sv (0 : Int32) old sz z (6 : Int32) hRS hI) 0 7 rfl rfl (fun _ => xwW_f) (by decide) (by decide) rfl hl.1 rfl (Nat.le_of_ble_eq_true rfl) dL_refusesAny_365 ⟨Nat.zero_le _, Nat.zero_le _⟩ (fun r365 u365 H locs hw hP hD hS => ?_)
                              have p365 : r365 = cntR z (0 : Int32) sz (6 : Int32) := hw
                              have hP : va_P D vwCl (xwW cI cZ cS x0 xs xv ho0 ho1 pd0 pd1 m0 ts0 ts1 a ha sa cn cs sc tm tv pd sv (0 : Int32) old sz z) H := hP
                              have hD : va_D A (xwW cI cZ cS x0 xs xv ho0 ho1 pd0 pd1 m0 ts0 ts1 a ha sa cn cs sc tm tv pd sv (0 : Int32) old sz z) := hD
                              refine xk_top (z := (z 6)) (by exact p365.trans (ct_6 _ _ _)) ?_
                              refine lv_iconst (v := 0) hx hb dL_refusesAny_368 (by decide) ?_
                              refine xo_Vi (As := [.int (z 6), .int 0]) (rest := []) hx hb hml hown hts hK hN hZ hP hD hS hA mb_X7_line mw_2_150 mw_2_151 mw_2_152 (k_X7_line l D cI cZ cS x0 xs xv ho0 ho1 pd0 pd1 m0 ts0 ts1 a ha sa cn cs sc tm tv pd sv (0 : Int32) old sz z (z 6) (0 : Int32) hRS hI) 0 7 rfl rfl (fun _ => xwW_f) (by decide) (by decide) rfl hl.1 rfl (Nat.le_of_ble_eq_true rfl) dL_refusesAny_369 ⟨Nat.zero_le _, Nat.zero_le _⟩ (fun r369 u369 H locs hw hP hD hS => ?_)
                              have p369 : r369 = lineR z (z 6) (0 : Int32) := hw
                              have hP : va_P D vwCl (xwW cI cZ cS x0 xs xv ho0 ho1 pd0 pd1 m0 ts0 ts1 a ha sa cn cs sc tm tv pd sv (0 : Int32) old sz z) H := hP
                              have hD : va_D A (xwW cI cZ cS x0 xs xv ho0 ho1 pd0 pd1 m0 ts0 ts1 a ha sa cn cs sc tm tv pd sv (0 : Int32) old sz z) := hD
                              refine xk_top (z := (-1)) (by exact p369.trans (ln_no (fun c8 => by have := c8.1; have := c8.2; omega))) ?_
                              refine lv_iconst (v := (-1)) hx hb dL_refusesAny_372 (by decide) ?_
                              refine lv_icmp_ne (tgt := 631) hx hb dL_refusesAny_373 (by decide) (fun c373 => absurd (by decide) c373) (fun _ => ?_)
                              have J440 : ∀   (H : Heap) (locs : List Loc), va_P D vwCl (xwW cI cZ cS x0 xs xv ho0 ho1 pd0 pd1 m0 ts0 ts1 a ha sa cn cs sc tm tv pd sv (0 : Int32) old sz z) H → va_D A (xwW cI cZ cS x0 xs xv ho0 ho1 pd0 pd1 m0 ts0 ts1 a ha sa cn cs sc tm tv pd sv (0 : Int32) old sz z) → va_S A s.heap H locs → ∀ ls : Array Slot, lv_has ls 5 [(4, .int 1), (2, .int x11), (0, .ref x0), (1, .int p1), (3, .int b)] → W p l e ({ frames := 7, cells := 0, slots := 0, locals := 159 } : Room) s m args below meth c H locs 0 0 Q (F0 m 440 ls []) := by
                                intro  H locs hP hD hS ls hl
                                refine lv_aload_n hx hb dL_refusesAny_440 rfl (lv_at hl 2 rfl) ?_
                                refine lv_iload_n hx hb dL_refusesAny_441 rfl (lv_at hl 1 rfl) ?_
                                refine lv_iconst (v := 0) hx hb dL_refusesAny_442 (by decide) ?_
                                refine lv_bipush (v := 9) hx hb dL_refusesAny_443 (by decide) ?_
                                refine xo_Vi (As := [.int x11, .int 0, .int 9]) (rest := []) hx hb hml hown hts hK hN hZ hP hD hS hA mb_X7_foot mw_2_140 mw_2_141 mw_2_142 (k_X7_foot l D cI cZ cS x0 xs xv ho0 ho1 pd0 pd1 m0 ts0 ts1 a ha sa cn cs sc tm tv pd sv (0 : Int32) old sz z x11 (0 : Int32) (9 : Int32) hRS hI) 0 7 rfl rfl (fun _ => xwW_f) (by decide) (by decide) rfl hl.1 rfl (Nat.le_of_ble_eq_true rfl) dL_refusesAny_445 ⟨Nat.zero_le _, Nat.zero_le _⟩ (fun r445 u445 H locs hw hP hD hS => ?_)
                                have p445 : r445 = footR z x11 (0 : Int32) (9 : Int32) := hw
                                have hP : va_P D vwCl (xwW cI cZ cS x0 xs xv ho0 ho1 pd0 pd1 m0 ts0 ts1 a ha sa cn cs sc tm tv pd sv (0 : Int32) old sz z) H := hP
                                have hD : va_D A (xwW cI cZ cS x0 xs xv ho0 ho1 pd0 pd1 m0 ts0 ts1 a ha sa cn cs sc tm tv pd sv (0 : Int32) old sz z) := hD
                                refine xk_top (z := (-1)) (by exact p445.trans (ft_no (fun c8 => by have := c8.1.1; have := c8.1.2; omega))) ?_
                                refine lv_iconst (v := (-1)) hx hb dL_refusesAny_448 (by decide) ?_
                                refine lv_icmp_ne (tgt := 631) hx hb dL_refusesAny_449 (by decide) (fun c449 => absurd (by decide) c449) (fun _ => ?_)
                                refine lv_aload_n hx hb dL_refusesAny_452 rfl (lv_at hl 2 rfl) ?_
                                refine lv_iload_n hx hb dL_refusesAny_453 rfl (lv_at hl 1 rfl) ?_
                                refine lv_bipush (v := 9) hx hb dL_refusesAny_454 (by decide) ?_
                                refine xo_Vi (As := [.int x11, .int 9]) (rest := []) hx hb hml hown hts hK hN hZ hP hD hS hA mb_X7_stretch mw_2_121 mw_2_122 mw_2_123 (k_X7_stretch l D cI cZ cS x0 xs xv ho0 ho1 pd0 pd1 m0 ts0 ts1 a ha sa cn cs sc tm tv pd sv (0 : Int32) old sz z x11 (9 : Int32) hRS hI) 0 7 rfl rfl (fun _ => xwW_f) (by decide) (by decide) rfl hl.1 rfl (Nat.le_of_ble_eq_true rfl) dL_refusesAny_456 ⟨Nat.zero_le _, Nat.zero_le _⟩ (fun r456 u456 H locs hw hP hD hS => ?_)
                                have p456 : strA z x11 (9 : Int32) r456 := hw
                                have hP : va_P D vwCl (xwW cI cZ cS x0 xs xv ho0 ho1 pd0 pd1 m0 ts0 ts1 a ha sa cn cs sc tm tv pd sv (0 : Int32) old sz z) H := hP
                                have hD : va_D A (xwW cI cZ cS x0 xs xv ho0 ho1 pd0 pd1 m0 ts0 ts1 a ha sa cn cs sc tm tv pd sv (0 : Int32) old sz z) := hD
                                refine xk_top (z := (-1)) (by exact st_no (fun c8 => by have := c8.1; have := c8.2; omega) p456) ?_
                                refine lv_iconst (v := (-1)) hx hb dL_refusesAny_459 (by decide) ?_
                                refine lv_icmp_ne (tgt := 631) hx hb dL_refusesAny_460 (by decide) (fun c460 => absurd (by decide) c460) (fun _ => ?_)
                                have J514 : ∀   (H : Heap) (locs : List Loc), va_P D vwCl (xwW cI cZ cS x0 xs xv ho0 ho1 pd0 pd1 m0 ts0 ts1 a ha sa cn cs sc tm tv pd sv (0 : Int32) old sz z) H → va_D A (xwW cI cZ cS x0 xs xv ho0 ho1 pd0 pd1 m0 ts0 ts1 a ha sa cn cs sc tm tv pd sv (0 : Int32) old sz z) → va_S A s.heap H locs → ∀ ls : Array Slot, lv_has ls 5 [(4, .int 1), (2, .int x11), (0, .ref x0), (1, .int p1), (3, .int b)] → W p l e ({ frames := 7, cells := 0, slots := 0, locals := 159 } : Room) s m args below meth c H locs 0 0 Q (F0 m 514 ls []) := by
                                  intro  H locs hP hD hS ls hl
                                  refine lv_aload_n hx hb dL_refusesAny_514 rfl (lv_at hl 2 rfl) ?_
                                  refine lv_iload_n hx hb dL_refusesAny_515 rfl (lv_at hl 3 rfl) ?_
                                  refine lv_iconst (v := 2) hx hb dL_refusesAny_516 (by decide) ?_
                                  refine lv_irem hx hb dL_refusesAny_517 (by decide) ?_
                                  refine lv_topi (fun x517 e517 => ?_)
                                  have t517 : x517.toInt = p1.toInt % 2 := by rw [e517]; exact xi_rem rfl (by decide) (by omega) (by omega)
                                  refine lv_if_ne (tgt := 525) hx hb dL_refusesAny_518 (by decide) (fun c518 => ?_) (fun c518 => ?_)
                                  · have t518 : ¬ x517.toInt = 0 := xi_ne rfl (by decide) c518
                                    have d518 : ¬ x517 = 0 := c518
                                    omega
                                  · have t518 : x517.toInt = 0 := xi_eq rfl (by decide) c518
                                    have d518 : x517 = 0 := c518
                                    refine lv_iconst (v := (-1)) hx hb dL_refusesAny_521 (by decide) ?_
                                    refine lv_goto (tgt := 527) hx hb dL_refusesAny_522 (by decide) ?_
                                    refine xo_Vi (As := [.int (-1)]) (rest := []) hx hb hml hown hts hK hN hZ hP hD hS hA mb_X7_walk mw_1_238 mw_1_239 mw_2_0 (k_X7_walk l D cI cZ cS x0 xs xv ho0 ho1 pd0 pd1 m0 ts0 ts1 a ha sa cn cs sc tm tv pd sv (0 : Int32) old sz z (-1 : Int32) hRS hI) 0 7 rfl rfl (fun _ => xwW_f) (by decide) (by decide) rfl hl.1 rfl (Nat.le_of_ble_eq_true rfl) dL_refusesAny_527 ⟨Nat.zero_le _, Nat.zero_le _⟩ (fun r527 u527 H locs hw hP hD hS => ?_)
                                    have p527 : r527 = walkR z (-1 : Int32) := hw
                                    have hP : va_P D vwCl (xwW cI cZ cS x0 xs xv ho0 ho1 pd0 pd1 m0 ts0 ts1 a ha sa cn cs sc tm tv pd sv (0 : Int32) old sz z) H := hP
                                    have hD : va_D A (xwW cI cZ cS x0 xs xv ho0 ho1 pd0 pd1 m0 ts0 ts1 a ha sa cn cs sc tm tv pd sv (0 : Int32) old sz z) := hD
                                    refine xk_top (z := (-2)) (by exact p527.trans (wk_bad z (by decide))) ?_
                                    refine lv_bipush (v := (-2)) hx hb dL_refusesAny_530 (by decide) ?_
                                    refine lv_icmp_ne (tgt := 631) hx hb dL_refusesAny_532 (by decide) (fun c532 => absurd (by decide) c532) (fun _ => ?_)
                                    refine lv_aload_n hx hb dL_refusesAny_535 rfl (lv_at hl 2 rfl) ?_
                                    refine lv_iload_n hx hb dL_refusesAny_536 rfl (lv_at hl 3 rfl) ?_
                                    refine lv_iconst (v := 2) hx hb dL_refusesAny_537 (by decide) ?_
                                    refine lv_irem hx hb dL_refusesAny_538 (by decide) ?_
                                    refine lv_topi (fun x538 e538 => ?_)
                                    have t538 : x538.toInt = p1.toInt % 2 := by rw [e538]; exact xi_rem rfl (by decide) (by omega) (by omega)
                                    refine lv_if_ne (tgt := 546) hx hb dL_refusesAny_539 (by decide) (fun c539 => ?_) (fun c539 => ?_)
                                    · have t539 : ¬ x538.toInt = 0 := xi_ne rfl (by decide) c539
                                      have d539 : ¬ x538 = 0 := c539
                                      omega
                                    · have t539 : x538.toInt = 0 := xi_eq rfl (by decide) c539
                                      have d539 : x538 = 0 := c539
                                      refine lv_iconst (v := (-1)) hx hb dL_refusesAny_542 (by decide) ?_
                                      refine lv_goto (tgt := 548) hx hb dL_refusesAny_543 (by decide) ?_
                                      refine xo_Vi (As := [.int (-1)]) (rest := []) hx hb hml hown hts hK hN hZ hP hD hS hA mb_X7_count mw_2_6 mw_2_7 mw_2_8 (k_X7_count l D cI cZ cS x0 xs xv ho0 ho1 pd0 pd1 m0 ts0 ts1 a ha sa cn cs sc tm tv pd sv (0 : Int32) old sz z (-1 : Int32) hRS hI) 0 7 rfl rfl (fun _ => xwW_f) (by decide) (by decide) rfl hl.1 rfl (Nat.le_of_ble_eq_true rfl) dL_refusesAny_548 ⟨Nat.zero_le _, Nat.zero_le _⟩ (fun r548 u548 H locs hw hP hD hS => ?_)
                                      have p548 : r548 = cntR z (0 : Int32) sz (-1 : Int32) := hw
                                      have hP : va_P D vwCl (xwW cI cZ cS x0 xs xv ho0 ho1 pd0 pd1 m0 ts0 ts1 a ha sa cn cs sc tm tv pd sv (0 : Int32) old sz z) H := hP
                                      have hD : va_D A (xwW cI cZ cS x0 xs xv ho0 ho1 pd0 pd1 m0 ts0 ts1 a ha sa cn cs sc tm tv pd sv (0 : Int32) old sz z) := hD
                                      refine xk_top (z := (-2)) (by exact p548.trans (ct_bad z _ _ (by decide))) ?_
                                      refine lv_bipush (v := (-2)) hx hb dL_refusesAny_551 (by decide) ?_
                                      refine lv_icmp_ne (tgt := 631) hx hb dL_refusesAny_553 (by decide) (fun c553 => absurd (by decide) c553) (fun _ => ?_)
                                      refine lv_aload_n hx hb dL_refusesAny_556 rfl (lv_at hl 2 rfl) ?_
                                      refine lv_iload_n hx hb dL_refusesAny_557 rfl (lv_at hl 3 rfl) ?_
                                      refine lv_iconst (v := 2) hx hb dL_refusesAny_558 (by decide) ?_
                                      refine lv_irem hx hb dL_refusesAny_559 (by decide) ?_
                                      refine lv_topi (fun x559 e559 => ?_)
                                      have t559 : x559.toInt = p1.toInt % 2 := by rw [e559]; exact xi_rem rfl (by decide) (by omega) (by omega)
                                      refine lv_if_ne (tgt := 567) hx hb dL_refusesAny_560 (by decide) (fun c560 => ?_) (fun c560 => ?_)
                                      · have t560 : ¬ x559.toInt = 0 := xi_ne rfl (by decide) c560
                                        have d560 : ¬ x559 = 0 := c560
                                        omega
                                      · have t560 : x559.toInt = 0 := xi_eq rfl (by decide) c560
                                        have d560 : x559 = 0 := c560
                                        refine lv_iconst (v := (-1)) hx hb dL_refusesAny_563 (by decide) ?_
                                        refine lv_goto (tgt := 568) hx hb dL_refusesAny_564 (by decide) ?_
                                        refine xo_Vi (As := [.int (-1)]) (rest := []) hx hb hml hown hts hK hN hZ hP hD hS hA mb_X7_untilWalked mw_2_177 mw_2_178 mw_2_179 (k_X7_untilWalked l D cI cZ cS x0 xs xv ho0 ho1 pd0 pd1 m0 ts0 ts1 a ha sa cn cs sc tm tv pd sv (0 : Int32) old sz z (-1 : Int32) hRS hI) 0 7 rfl rfl (fun _ => xwW_f) (by decide) (by decide) rfl hl.1 rfl (Nat.le_of_ble_eq_true rfl) dL_refusesAny_568 ⟨Nat.zero_le _, Nat.zero_le _⟩ (fun r568 u568 H locs hw hP hD hS => ?_)
                                        obtain ⟨tq_568, rfl⟩ : ∃ q, q = u568 := ⟨_, rfl⟩
                                        have p568 : r568 = untR z (-1 : Int32) := hw
                                        have hP : va_P D vwCl (xwW cI cZ cS x0 xs xv ho0 ho1 pd0 pd1 m0 ts0 ts1 a ha sa cn cs sc tq_568 tv pd sv (0 : Int32) old sz z) H := hP
                                        have hD : va_D A (xwW cI cZ cS x0 xs xv ho0 ho1 pd0 pd1 m0 ts0 ts1 a ha sa cn cs sc tq_568 tv pd sv (0 : Int32) old sz z) := hD
                                        refine xk_top (z := (-2)) (by exact p568.trans (un_bad z (by decide))) ?_
                                        refine lv_bipush (v := (-2)) hx hb dL_refusesAny_571 (by decide) ?_
                                        refine lv_icmp_ne (tgt := 631) hx hb dL_refusesAny_573 (by decide) (fun c573 => absurd (by decide) c573) (fun _ => ?_)
                                        refine lv_aload_n hx hb dL_refusesAny_576 rfl (lv_at hl 2 rfl) ?_
                                        refine lv_iload_n hx hb dL_refusesAny_577 rfl (lv_at hl 1 rfl) ?_
                                        refine lv_bipush (v := 9) hx hb dL_refusesAny_578 (by decide) ?_
                                        refine xo_Vi (As := [.int x11, .int 9]) (rest := []) hx hb hml hown hts hK hN hZ hP hD hS hA mb_X7_meets mw_2_161 mw_2_162 mw_2_163 (k_X7_meets l D cI cZ cS x0 xs xv ho0 ho1 pd0 pd1 m0 ts0 ts1 a ha sa cn cs sc tq_568 tv pd sv (0 : Int32) old sz z x11 (9 : Int32) hRS hI) 0 7 rfl rfl (fun _ => xwW_f) (by decide) (by decide) rfl hl.1 rfl (Nat.le_of_ble_eq_true rfl) dL_refusesAny_580 ⟨Nat.zero_le _, Nat.zero_le _⟩ (fun r580 u580 H locs hw hP hD hS => ?_)
                                        have p580 : meetA z x11 (9 : Int32) r580 := hw
                                        have hP : va_P D vwCl (xwW cI cZ cS x0 xs xv ho0 ho1 pd0 pd1 m0 ts0 ts1 a ha sa cn cs sc tq_568 tv pd sv (0 : Int32) old sz z) H := hP
                                        have hD : va_D A (xwW cI cZ cS x0 xs xv ho0 ho1 pd0 pd1 m0 ts0 ts1 a ha sa cn cs sc tq_568 tv pd sv (0 : Int32) old sz z) := hD
                                        refine xk_top (z := (-1)) (by exact mt_no (fun c8 => by have := c8.1; have := c8.2; omega) p580) ?_
                                        refine lv_iconst (v := (-1)) hx hb dL_refusesAny_583 (by decide) ?_
                                        refine lv_icmp_ne (tgt := 631) hx hb dL_refusesAny_584 (by decide) (fun c584 => absurd (by decide) c584) (fun _ => ?_)
                                        refine lv_aload_n hx hb dL_refusesAny_587 rfl (lv_at hl 2 rfl) ?_
                                        refine lv_iload_n hx hb dL_refusesAny_588 rfl (lv_at hl 3 rfl) ?_
                                        refine lv_iconst (v := 2) hx hb dL_refusesAny_589 (by decide) ?_
                                        refine lv_irem hx hb dL_refusesAny_590 (by decide) ?_
                                        refine lv_topi (fun x590 e590 => ?_)
                                        have t590 : x590.toInt = p1.toInt % 2 := by rw [e590]; exact xi_rem rfl (by decide) (by omega) (by omega)
                                        refine lv_if_ne (tgt := 598) hx hb dL_refusesAny_591 (by decide) (fun c591 => ?_) (fun c591 => ?_)
                                        · have t591 : ¬ x590.toInt = 0 := xi_ne rfl (by decide) c591
                                          have d591 : ¬ x590 = 0 := c591
                                          omega
                                        · have t591 : x590.toInt = 0 := xi_eq rfl (by decide) c591
                                          have d591 : x590 = 0 := c591
                                          refine lv_iconst (v := (-1)) hx hb dL_refusesAny_594 (by decide) ?_
                                          refine lv_goto (tgt := 599) hx hb dL_refusesAny_595 (by decide) ?_
                                          refine xo_Vi (As := [.int (-1)]) (rest := []) hx hb hml hown hts hK hN hZ hP hD hS hA mb_X7_save mw_2_94 mw_2_95 mw_2_96 (k_X7_save l D cI cZ cS x0 xs xv ho0 ho1 pd0 pd1 m0 ts0 ts1 a ha sa cn cs sc tq_568 tv pd sv (0 : Int32) old sz z (-1 : Int32) hRS hI) 0 7 rfl rfl (fun _ => xwW_f) (by decide) (by decide) rfl hl.1 rfl (Nat.le_of_ble_eq_true rfl) dL_refusesAny_599 ⟨Nat.zero_le _, Nat.zero_le _⟩ (fun r599 u599 H locs hw hP hD hS => ?_)
                                          obtain ⟨sc1_599, sv1_599⟩ := u599
                                          have p599 : r599 = (if slotV (-1 : Int32) then z 174 else -2) ∧ ((slotV (-1 : Int32) ∧ sc1_599 = recC sc (cZm cn z) (-1).toNat ∧ sv1_599 = upd sv (-1).toNat 1) ∨ (¬ slotV (-1 : Int32) ∧ sc1_599 = sc ∧ sv1_599 = sv)) := hw
                                          have hP : va_P D vwCl (xwW cI cZ cS x0 xs xv ho0 ho1 pd0 pd1 m0 ts0 ts1 a ha sa cn cs sc1_599 tq_568 tv pd sv1_599 (0 : Int32) old sz z) H := hP
                                          have hD : va_D A (xwW cI cZ cS x0 xs xv ho0 ho1 pd0 pd1 m0 ts0 ts1 a ha sa cn cs sc1_599 tq_568 tv pd sv1_599 (0 : Int32) old sz z) := hD
                                          have w599 : r599 = -2 ∧ sc1_599 = sc ∧ sv1_599 = sv := by
                                            refine ⟨p599.1.trans (if_neg (by decide)), ?_⟩
                                            rcases p599.2 with ⟨c9, -⟩ | ⟨-, h9⟩
                                            · exact absurd c9 (by decide)
                                            · exact h9
                                          obtain ⟨w599, w599_0, w599_1⟩ := w599
                                          rw [w599_0, w599_1] at hP hD
                                          have hP : va_P D vwCl (xwW cI cZ cS x0 xs xv ho0 ho1 pd0 pd1 m0 ts0 ts1 a ha sa cn cs sc tq_568 tv pd sv (0 : Int32) old sz z) H := hP
                                          have hD : va_D A (xwW cI cZ cS x0 xs xv ho0 ho1 pd0 pd1 m0 ts0 ts1 a ha sa cn cs sc tq_568 tv pd sv (0 : Int32) old sz z) := hD
                                          refine xk_top (z := (-2)) (by exact w599) ?_
                                          refine lv_bipush (v := (-2)) hx hb dL_refusesAny_602 (by decide) ?_
                                          refine lv_icmp_ne (tgt := 631) hx hb dL_refusesAny_604 (by decide) (fun c604 => absurd (by decide) c604) (fun _ => ?_)
                                          refine lv_aload_n hx hb dL_refusesAny_607 rfl (lv_at hl 2 rfl) ?_
                                          refine lv_iload_n hx hb dL_refusesAny_608 rfl (lv_at hl 3 rfl) ?_
                                          refine lv_iconst (v := 2) hx hb dL_refusesAny_609 (by decide) ?_
                                          refine lv_irem hx hb dL_refusesAny_610 (by decide) ?_
                                          refine lv_topi (fun x610 e610 => ?_)
                                          have t610 : x610.toInt = p1.toInt % 2 := by rw [e610]; exact xi_rem rfl (by decide) (by omega) (by omega)
                                          refine lv_if_ne (tgt := 618) hx hb dL_refusesAny_611 (by decide) (fun c611 => ?_) (fun c611 => ?_)
                                          · have t611 : ¬ x610.toInt = 0 := xi_ne rfl (by decide) c611
                                            have d611 : ¬ x610 = 0 := c611
                                            omega
                                          · have t611 : x610.toInt = 0 := xi_eq rfl (by decide) c611
                                            have d611 : x610 = 0 := c611
                                            refine lv_iconst (v := (-1)) hx hb dL_refusesAny_614 (by decide) ?_
                                            refine lv_goto (tgt := 619) hx hb dL_refusesAny_615 (by decide) ?_
                                            refine xo_Vi (As := [.int (-1)]) (rest := []) hx hb hml hown hts hK hN hZ hP hD hS hA mb_X7_restore mw_2_102 mw_2_103 mw_2_104 (k_X7_restore l D cI cZ cS x0 xs xv ho0 ho1 pd0 pd1 m0 ts0 ts1 a ha sa cn cs sc tq_568 tv pd sv (0 : Int32) old sz z z (-1 : Int32) hRS hI hold hszz (fun i hi => (hmsc i hi).1) (fun i hi => (hmsc i hi).2) (fun c9 => absurd c9.1 (by decide))) 0 7 rfl rfl (fun _ => xwW_f) (by decide) (by decide) rfl hl.1 rfl (Nat.le_of_ble_eq_true rfl) dL_refusesAny_619 ⟨Nat.zero_le _, Nat.zero_le _⟩ (fun r619 u619 H locs hw hP hD hS => ?_)
                                            obtain ⟨cq_619, zq_619, old1_619, sz1_619, cs1_619⟩ := u619
                                            have p619 : r619 = (if slotV (-1 : Int32) then (if sv (-1).toNat = 0 then -5 else z 174) else -2) ∧ ((restC (-1 : Int32) sv ∧ cq_619 = sc (-1).toNat ∧ zq_619 = z ∧ old1_619 = oldR old sz ∧ sz1_619 = szR sz ∧ cs1_619 = recC cs (cZm cn z) (jR old sz)) ∨ (¬ restC (-1 : Int32) sv ∧ Same cn z old sz cs cq_619 zq_619 old1_619 sz1_619 cs1_619)) := hw
                                            have hP : va_P D vwCl (xwW cI cZ cS x0 xs xv ho0 ho1 pd0 pd1 m0 ts0 ts1 a ha sa cq_619 cs1_619 sc tq_568 tv pd sv (0 : Int32) old1_619 sz1_619 zq_619) H := hP
                                            have hD : va_D A (xwW cI cZ cS x0 xs xv ho0 ho1 pd0 pd1 m0 ts0 ts1 a ha sa cq_619 cs1_619 sc tq_568 tv pd sv (0 : Int32) old1_619 sz1_619 zq_619) := hD
                                            have w619 : r619 = -2 ∧ cq_619 = cn ∧ zq_619 = z ∧ old1_619 = old ∧ sz1_619 = sz ∧ cs1_619 = cs := by
                                              refine ⟨p619.1.trans (if_neg (by decide)), ?_⟩
                                              rcases p619.2 with ⟨c9, -⟩ | ⟨-, h9⟩
                                              · exact absurd c9 (fun c8 => absurd c8.1 (by decide))
                                              · exact h9
                                            obtain ⟨w619, w619_0, w619_1, w619_2, w619_3, w619_4⟩ := w619
                                            rw [w619_0, w619_1, w619_2, w619_3, w619_4] at hP hD
                                            have hP : va_P D vwCl (xwW cI cZ cS x0 xs xv ho0 ho1 pd0 pd1 m0 ts0 ts1 a ha sa cn cs sc tq_568 tv pd sv (0 : Int32) old sz z) H := hP
                                            have hD : va_D A (xwW cI cZ cS x0 xs xv ho0 ho1 pd0 pd1 m0 ts0 ts1 a ha sa cn cs sc tq_568 tv pd sv (0 : Int32) old sz z) := hD
                                            refine xk_top (z := (-2)) (by exact w619) ?_
                                            refine lv_bipush (v := (-2)) hx hb dL_refusesAny_622 (by decide) ?_
                                            refine lv_icmp_ne (tgt := 631) hx hb dL_refusesAny_624 (by decide) (fun c624 => absurd (by decide) c624) (fun _ => ?_)
                                            refine lv_iconst (v := 1) hx hb dL_refusesAny_627 (by decide) ?_
                                            refine lv_goto (tgt := 632) hx hb dL_refusesAny_628 (by decide) ?_
                                            refine lv_istore (lv' := [(4, .int 1), (2, .int x11), (0, .ref x0), (1, .int p1), (3, .int b)]) hx hb dL_refusesAny_632 hl (by decide) rfl (fun ls hl => ?_)
                                            refine lv_iload hx hb dL_refusesAny_634 (lv_at hl 0 rfl) ?_
                                            refine lv_if_eq (tgt := 666) hx hb dL_refusesAny_636 (by decide) (fun c636 => absurd c636 (by decide)) (fun _ => ?_)
                                            refine lv_aload_n hx hb dL_refusesAny_639 rfl (lv_at hl 2 rfl) ?_
                                            refine xo_Vi (As := []) (rest := []) hx hb hml hown hts hK hN hZ hP hD hS hA mb_X7_wipe mw_3_37 mw_3_38 mw_3_39 (k_X7_wipe l D cI cZ cS x0 xs xv ho0 ho1 pd0 pd1 m0 ts0 ts1 a ha sa cn cs sc tq_568 tv pd sv (0 : Int32) old sz z hRS hI) 0 7 rfl rfl (fun _ => xwW_f) (by decide) (by decide) rfl hl.1 rfl (Nat.le_of_ble_eq_true rfl) dL_refusesAny_640 ⟨Nat.zero_le _, Nat.zero_le _⟩ (fun r640 u640 H locs hw hP hD hS => ?_)
                                            have p640 : r640 = (0 : Int32) := hw
                                            have hP : va_P D vwCl (xwW cI cZ cS x0 xs xv ho0 ho1 pd0 pd1 m0 ts0 ts1 a ha sa cn cs sc tq_568 tv pd sv (0 : Int32) old sz z) H := hP
                                            have hD : va_D A (xwW cI cZ cS x0 xs xv ho0 ho1 pd0 pd1 m0 ts0 ts1 a ha sa cn cs sc tq_568 tv pd sv (0 : Int32) old sz z) := hD
                                            refine xk_top (z := 0) (by exact p640) ?_
                                            refine lv_if_ne (tgt := 666) hx hb dL_refusesAny_643 (by decide) (fun c643 => absurd (by decide) c643) (fun _ => ?_)
                                            refine lv_aload_n hx hb dL_refusesAny_646 rfl (lv_at hl 2 rfl) ?_
                                            refine xo_Vi (As := []) (rest := []) hx hb hml hown hts hK hN hZ hP hD hS hA mb_X7_read mw_3_45 mw_3_46 mw_3_47 (k_X7_read l D cI cZ cS x0 xs xv ho0 ho1 pd0 pd1 m0 ts0 ts1 a ha sa cn cs sc tq_568 tv pd sv (0 : Int32) old sz z hRS hI hold hszz hlnn) 0 7 rfl rfl (fun _ => xwW_f) (by decide) (by decide) rfl hl.1 rfl (Nat.le_of_ble_eq_true rfl) dL_refusesAny_647 ⟨Nat.zero_le _, Nat.zero_le _⟩ (fun r647 u647 H locs hw hP hD hS => ?_)
                                            obtain ⟨cq_647, zq_647, old1_647, sz1_647, cs1_647, ln1_647⟩ := u647
                                            have p647 : (FN pd 0 ∧ r647 = cq_647 7 0 ∧ ln1_647 = 0 ∧ zq_647 = beginZ z ∧ WrI pd 0 (cq_647 7 0) (cq_647 1) (cq_647 2) (cq_647 3) ∧ cq_647 0 = cn 0 ∧ cq_647 4 = cn 4 ∧ cq_647 5 = cn 5 ∧ cq_647 6 = cn 6 ∧ cq_647 7 1 = cn 7 1 ∧ old1_647 = oldR old sz ∧ sz1_647 = szR sz ∧ cs1_647 = recC cs (cZm cn z) (jR old sz)) ∨ (¬ FN pd 0 ∧ r647 = -3 ∧ ln1_647 = (0 : Int32) ∧ Same cn z old sz cs cq_647 zq_647 old1_647 sz1_647 cs1_647) := hw
                                            have hP : va_P D vwCl (xwW cI cZ cS x0 xs xv ho0 ho1 pd0 pd1 m0 ts0 ts1 a ha sa cq_647 cs1_647 sc tq_568 tv pd sv ln1_647 old1_647 sz1_647 zq_647) H := hP
                                            have hD : va_D A (xwW cI cZ cS x0 xs xv ho0 ho1 pd0 pd1 m0 ts0 ts1 a ha sa cq_647 cs1_647 sc tq_568 tv pd sv ln1_647 old1_647 sz1_647 zq_647) := hD
                                            have w647 : r647 = -3 ∧ ln1_647 = (0 : Int32) ∧ cq_647 = cn ∧ zq_647 = z ∧ old1_647 = old ∧ sz1_647 = sz ∧ cs1_647 = cs := by
                                              rcases p647 with ⟨c9, -⟩ | ⟨-, h9⟩
                                              · exact absurd c9 (FN_0 pd)
                                              · exact h9
                                            obtain ⟨w647, w647_0, w647_1, w647_2, w647_3, w647_4, w647_5⟩ := w647
                                            rw [w647_0, w647_1, w647_2, w647_3, w647_4, w647_5] at hP hD
                                            have hP : va_P D vwCl (xwW cI cZ cS x0 xs xv ho0 ho1 pd0 pd1 m0 ts0 ts1 a ha sa cn cs sc tq_568 tv pd sv (0 : Int32) old sz z) H := hP
                                            have hD : va_D A (xwW cI cZ cS x0 xs xv ho0 ho1 pd0 pd1 m0 ts0 ts1 a ha sa cn cs sc tq_568 tv pd sv (0 : Int32) old sz z) := hD
                                            refine xk_top (z := (-3)) (by exact w647) ?_
                                            refine lv_bipush (v := (-3)) hx hb dL_refusesAny_650 (by decide) ?_
                                            refine lv_icmp_ne (tgt := 666) hx hb dL_refusesAny_652 (by decide) (fun c652 => absurd (by decide) c652) (fun _ => ?_)
                                            refine lv_aload_n hx hb dL_refusesAny_655 rfl (lv_at hl 2 rfl) ?_
                                            refine xo_Vi (As := []) (rest := []) hx hb hml hown hts hK hN hZ hP hD hS hA mb_X7_fault mw_3_77 mw_3_78 mw_3_79 (k_X7_fault l D cI cZ cS x0 xs xv ho0 ho1 pd0 pd1 m0 ts0 ts1 a ha sa cn cs sc tq_568 tv pd sv (0 : Int32) old sz z hRS hI hlnn) 0 7 rfl rfl (fun _ => xwW_f) (by decide) (by decide) rfl hl.1 rfl (Nat.le_of_ble_eq_true rfl) dL_refusesAny_656 ⟨Nat.zero_le _, Nat.zero_le _⟩ (fun r656 u656 H locs hw hP hD hS => ?_)
                                            have p656 : (FN pd 0 ∧ r656 = -6) ∨ (FA pd 0 r656.toInt.toNat ∧ 0 ≤ r656.toInt ∧ r656.toInt ≤ 0) := hw
                                            have hP : va_P D vwCl (xwW cI cZ cS x0 xs xv ho0 ho1 pd0 pd1 m0 ts0 ts1 a ha sa cn cs sc tq_568 tv pd sv (0 : Int32) old sz z) H := hP
                                            have hD : va_D A (xwW cI cZ cS x0 xs xv ho0 ho1 pd0 pd1 m0 ts0 ts1 a ha sa cn cs sc tq_568 tv pd sv (0 : Int32) old sz z) := hD
                                            refine xk_top (z := 0) (by exact p656.elim (fun h9 => absurd h9.1 (FN_0 pd)) (fun h9 => xi_ext (by have := h9.2; omega))) ?_
                                            refine lv_if_ne (tgt := 666) hx hb dL_refusesAny_659 (by decide) (fun c659 => absurd (by decide) c659) (fun _ => ?_)
                                            refine lv_iconst (v := 1) hx hb dL_refusesAny_662 (by decide) ?_
                                            refine lv_goto (tgt := 667) hx hb dL_refusesAny_663 (by decide) ?_
                                            exact xk_retz tq_568 hx hb hr hlocks (by decide) (xk_P hP (by rfl)) (by rfl) hS dL_refusesAny_667 hQ
                                refine lv_aload_n hx hb dL_refusesAny_463 rfl (lv_at hl 2 rfl) ?_
                                refine lv_bipush (v := 9) hx hb dL_refusesAny_464 (by decide) ?_
                                refine xo_Vi (As := [.int 9]) (rest := []) hx hb hml hown hts hK hN hZ hP hD hS hA mb_X7_count mw_2_6 mw_2_7 mw_2_8 (k_X7_count l D cI cZ cS x0 xs xv ho0 ho1 pd0 pd1 m0 ts0 ts1 a ha sa cn cs sc tm tv pd sv (0 : Int32) old sz z (9 : Int32) hRS hI) 0 7 rfl rfl (fun _ => xwW_f) (by decide) (by decide) rfl hl.1 rfl (Nat.le_of_ble_eq_true rfl) dL_refusesAny_466 ⟨Nat.zero_le _, Nat.zero_le _⟩ (fun r466 u466 H locs hw hP hD hS => ?_)
                                have p466 : r466 = cntR z (0 : Int32) sz (9 : Int32) := hw
                                have hP : va_P D vwCl (xwW cI cZ cS x0 xs xv ho0 ho1 pd0 pd1 m0 ts0 ts1 a ha sa cn cs sc tm tv pd sv (0 : Int32) old sz z) H := hP
                                have hD : va_D A (xwW cI cZ cS x0 xs xv ho0 ho1 pd0 pd1 m0 ts0 ts1 a ha sa cn cs sc tm tv pd sv (0 : Int32) old sz z) := hD
                                refine xk_top (z := (z 7)) (by exact p466.trans (ct_9 _ _ _)) ?_
                                refine lv_if_eq (tgt := 514) hx hb dL_refusesAny_469 (by decide) (fun c469 => ?_) (fun c469 => ?_)
                                · have t469 : (z 7).toInt = 0 := xi_eq rfl (by decide) c469
                                  have d469 : (z 7) = 0 := c469
                                  exact J514   _ _ hP hD hS ls (lv_sub hl [0, 1, 2, 3, 4] rfl)
                                · have t469 : ¬ (z 7).toInt = 0 := xi_ne rfl (by decide) c469
                                  have d469 : ¬ (z 7) = 0 := c469
                                  have h70 : 0 < (z 7).toInt := by omega
                                  refine lv_aload_n hx hb dL_refusesAny_472 rfl (lv_at hl 2 rfl) ?_
                                  refine lv_iconst (v := 0) hx hb dL_refusesAny_473 (by decide) ?_
                                  refine lv_iload_n hx hb dL_refusesAny_474 rfl (lv_at hl 3 rfl) ?_
                                  refine lv_iconst (v := 2) hx hb dL_refusesAny_475 (by decide) ?_
                                  refine lv_irem hx hb dL_refusesAny_476 (by decide) ?_
                                  refine lv_topi (fun x476 e476 => ?_)
                                  have t476 : x476.toInt = p1.toInt % 2 := by rw [e476]; exact xi_rem rfl (by decide) (by omega) (by omega)
                                  refine lv_if_ne (tgt := 484) hx hb dL_refusesAny_477 (by decide) (fun c477 => ?_) (fun c477 => ?_)
                                  · have t477 : ¬ x476.toInt = 0 := xi_ne rfl (by decide) c477
                                    have d477 : ¬ x476 = 0 := c477
                                    omega
                                  · have t477 : x476.toInt = 0 := xi_eq rfl (by decide) c477
                                    have d477 : x476 = 0 := c477
                                    refine lv_iconst (v := (-1)) hx hb dL_refusesAny_480 (by decide) ?_
                                    refine lv_goto (tgt := 485) hx hb dL_refusesAny_481 (by decide) ?_
                                    refine xo_Vi (As := [.int 0, .int (-1)]) (rest := []) hx hb hml hown hts hK hN hZ hP hD hS hA mb_X7_stretch mw_2_121 mw_2_122 mw_2_123 (k_X7_stretch l D cI cZ cS x0 xs xv ho0 ho1 pd0 pd1 m0 ts0 ts1 a ha sa cn cs sc tm tv pd sv (0 : Int32) old sz z (0 : Int32) (-1 : Int32) hRS hI) 0 7 rfl rfl (fun _ => xwW_f) (by decide) (by decide) rfl hl.1 rfl (Nat.le_of_ble_eq_true rfl) dL_refusesAny_485 ⟨Nat.zero_le _, Nat.zero_le _⟩ (fun r485 u485 H locs hw hP hD hS => ?_)
                                    have p485 : strA z (0 : Int32) (-1 : Int32) r485 := hw
                                    have hP : va_P D vwCl (xwW cI cZ cS x0 xs xv ho0 ho1 pd0 pd1 m0 ts0 ts1 a ha sa cn cs sc tm tv pd sv (0 : Int32) old sz z) H := hP
                                    have hD : va_D A (xwW cI cZ cS x0 xs xv ho0 ho1 pd0 pd1 m0 ts0 ts1 a ha sa cn cs sc tm tv pd sv (0 : Int32) old sz z) := hD
                                    refine xk_top (z := (-2)) (by exact st_bad (str0 h70) (by decide) p485) ?_
                                    refine lv_bipush (v := (-2)) hx hb dL_refusesAny_488 (by decide) ?_
                                    refine lv_icmp_ne (tgt := 631) hx hb dL_refusesAny_490 (by decide) (fun c490 => absurd (by decide) c490) (fun _ => ?_)
                                    refine lv_aload_n hx hb dL_refusesAny_493 rfl (lv_at hl 2 rfl) ?_
                                    refine lv_iconst (v := 0) hx hb dL_refusesAny_494 (by decide) ?_
                                    refine lv_iload_n hx hb dL_refusesAny_495 rfl (lv_at hl 3 rfl) ?_
                                    refine lv_iconst (v := 2) hx hb dL_refusesAny_496 (by decide) ?_
                                    refine lv_irem hx hb dL_refusesAny_497 (by decide) ?_
                                    refine lv_topi (fun x497 e497 => ?_)
                                    have t497 : x497.toInt = p1.toInt % 2 := by rw [e497]; exact xi_rem rfl (by decide) (by omega) (by omega)
                                    refine lv_if_ne (tgt := 505) hx hb dL_refusesAny_498 (by decide) (fun c498 => ?_) (fun c498 => ?_)
                                    · have t498 : ¬ x497.toInt = 0 := xi_ne rfl (by decide) c498
                                      have d498 : ¬ x497 = 0 := c498
                                      omega
                                    · have t498 : x497.toInt = 0 := xi_eq rfl (by decide) c498
                                      have d498 : x497 = 0 := c498
                                      refine lv_iconst (v := (-1)) hx hb dL_refusesAny_501 (by decide) ?_
                                      refine lv_goto (tgt := 506) hx hb dL_refusesAny_502 (by decide) ?_
                                      refine xo_Vi (As := [.int 0, .int (-1)]) (rest := []) hx hb hml hown hts hK hN hZ hP hD hS hA mb_X7_meets mw_2_161 mw_2_162 mw_2_163 (k_X7_meets l D cI cZ cS x0 xs xv ho0 ho1 pd0 pd1 m0 ts0 ts1 a ha sa cn cs sc tm tv pd sv (0 : Int32) old sz z (0 : Int32) (-1 : Int32) hRS hI) 0 7 rfl rfl (fun _ => xwW_f) (by decide) (by decide) rfl hl.1 rfl (Nat.le_of_ble_eq_true rfl) dL_refusesAny_506 ⟨Nat.zero_le _, Nat.zero_le _⟩ (fun r506 u506 H locs hw hP hD hS => ?_)
                                      have p506 : meetA z (0 : Int32) (-1 : Int32) r506 := hw
                                      have hP : va_P D vwCl (xwW cI cZ cS x0 xs xv ho0 ho1 pd0 pd1 m0 ts0 ts1 a ha sa cn cs sc tm tv pd sv (0 : Int32) old sz z) H := hP
                                      have hD : va_D A (xwW cI cZ cS x0 xs xv ho0 ho1 pd0 pd1 m0 ts0 ts1 a ha sa cn cs sc tm tv pd sv (0 : Int32) old sz z) := hD
                                      refine xk_top (z := (-2)) (by exact mt_bad (str0 h70) (by decide) p506) ?_
                                      refine lv_bipush (v := (-2)) hx hb dL_refusesAny_509 (by decide) ?_
                                      refine lv_icmp_ne (tgt := 631) hx hb dL_refusesAny_511 (by decide) (fun c511 => absurd (by decide) c511) (fun _ => ?_)
                                      exact J514   _ _ hP hD hS ls (lv_sub hl [0, 1, 2, 3, 4] rfl)
                              refine lv_aload_n hx hb dL_refusesAny_376 rfl (lv_at hl 2 rfl) ?_
                              refine lv_bipush (v := 6) hx hb dL_refusesAny_377 (by decide) ?_
                              refine xo_Vi (As := [.int 6]) (rest := []) hx hb hml hown hts hK hN hZ hP hD hS hA mb_X7_count mw_2_6 mw_2_7 mw_2_8 (k_X7_count l D cI cZ cS x0 xs xv ho0 ho1 pd0 pd1 m0 ts0 ts1 a ha sa cn cs sc tm tv pd sv (0 : Int32) old sz z (6 : Int32) hRS hI) 0 7 rfl rfl (fun _ => xwW_f) (by decide) (by decide) rfl hl.1 rfl (Nat.le_of_ble_eq_true rfl) dL_refusesAny_379 ⟨Nat.zero_le _, Nat.zero_le _⟩ (fun r379 u379 H locs hw hP hD hS => ?_)
                              have p379 : r379 = cntR z (0 : Int32) sz (6 : Int32) := hw
                              have hP : va_P D vwCl (xwW cI cZ cS x0 xs xv ho0 ho1 pd0 pd1 m0 ts0 ts1 a ha sa cn cs sc tm tv pd sv (0 : Int32) old sz z) H := hP
                              have hD : va_D A (xwW cI cZ cS x0 xs xv ho0 ho1 pd0 pd1 m0 ts0 ts1 a ha sa cn cs sc tm tv pd sv (0 : Int32) old sz z) := hD
                              refine xk_top (z := (z 6)) (by exact p379.trans (ct_6 _ _ _)) ?_
                              refine lv_if_eq (tgt := 440) hx hb dL_refusesAny_382 (by decide) (fun c382 => ?_) (fun c382 => ?_)
                              · have t382 : (z 6).toInt = 0 := xi_eq rfl (by decide) c382
                                have d382 : (z 6) = 0 := c382
                                exact J440   _ _ hP hD hS ls (lv_sub hl [0, 1, 2, 3, 4] rfl)
                              · have t382 : ¬ (z 6).toInt = 0 := xi_ne rfl (by decide) c382
                                have d382 : ¬ (z 6) = 0 := c382
                                have h60 : 0 < (z 6).toInt := by omega
                                refine lv_aload_n hx hb dL_refusesAny_385 rfl (lv_at hl 2 rfl) ?_
                                refine lv_iconst (v := 0) hx hb dL_refusesAny_386 (by decide) ?_
                                refine lv_iload_n hx hb dL_refusesAny_387 rfl (lv_at hl 3 rfl) ?_
                                refine lv_iconst (v := 2) hx hb dL_refusesAny_388 (by decide) ?_
                                refine lv_irem hx hb dL_refusesAny_389 (by decide) ?_
                                refine lv_topi (fun x389 e389 => ?_)
                                have t389 : x389.toInt = p1.toInt % 2 := by rw [e389]; exact xi_rem rfl (by decide) (by omega) (by omega)
                                refine lv_if_ne (tgt := 397) hx hb dL_refusesAny_390 (by decide) (fun c390 => ?_) (fun c390 => ?_)
                                · have t390 : ¬ x389.toInt = 0 := xi_ne rfl (by decide) c390
                                  have d390 : ¬ x389 = 0 := c390
                                  omega
                                · have t390 : x389.toInt = 0 := xi_eq rfl (by decide) c390
                                  have d390 : x389 = 0 := c390
                                  refine lv_iconst (v := (-1)) hx hb dL_refusesAny_393 (by decide) ?_
                                  refine lv_goto (tgt := 398) hx hb dL_refusesAny_394 (by decide) ?_
                                  refine xo_Vi (As := [.int 0, .int (-1)]) (rest := []) hx hb hml hown hts hK hN hZ hP hD hS hA mb_X7_line mw_2_150 mw_2_151 mw_2_152 (k_X7_line l D cI cZ cS x0 xs xv ho0 ho1 pd0 pd1 m0 ts0 ts1 a ha sa cn cs sc tm tv pd sv (0 : Int32) old sz z (0 : Int32) (-1 : Int32) hRS hI) 0 7 rfl rfl (fun _ => xwW_f) (by decide) (by decide) rfl hl.1 rfl (Nat.le_of_ble_eq_true rfl) dL_refusesAny_398 ⟨Nat.zero_le _, Nat.zero_le _⟩ (fun r398 u398 H locs hw hP hD hS => ?_)
                                  have p398 : r398 = lineR z (0 : Int32) (-1 : Int32) := hw
                                  have hP : va_P D vwCl (xwW cI cZ cS x0 xs xv ho0 ho1 pd0 pd1 m0 ts0 ts1 a ha sa cn cs sc tm tv pd sv (0 : Int32) old sz z) H := hP
                                  have hD : va_D A (xwW cI cZ cS x0 xs xv ho0 ho1 pd0 pd1 m0 ts0 ts1 a ha sa cn cs sc tm tv pd sv (0 : Int32) old sz z) := hD
                                  refine xk_top (z := (-2)) (by exact p398.trans (ln_bad (line0 h60) (by decide))) ?_
                                  refine lv_bipush (v := (-2)) hx hb dL_refusesAny_401 (by decide) ?_
                                  refine lv_icmp_ne (tgt := 631) hx hb dL_refusesAny_403 (by decide) (fun c403 => absurd (by decide) c403) (fun _ => ?_)
                                  refine lv_aload_n hx hb dL_refusesAny_406 rfl (lv_at hl 2 rfl) ?_
                                  refine lv_iconst (v := 0) hx hb dL_refusesAny_407 (by decide) ?_
                                  refine lv_iconst (v := 0) hx hb dL_refusesAny_408 (by decide) ?_
                                  refine lv_iload_n hx hb dL_refusesAny_409 rfl (lv_at hl 3 rfl) ?_
                                  refine lv_iconst (v := 2) hx hb dL_refusesAny_410 (by decide) ?_
                                  refine lv_irem hx hb dL_refusesAny_411 (by decide) ?_
                                  refine lv_topi (fun x411 e411 => ?_)
                                  have t411 : x411.toInt = p1.toInt % 2 := by rw [e411]; exact xi_rem rfl (by decide) (by omega) (by omega)
                                  refine lv_if_ne (tgt := 419) hx hb dL_refusesAny_412 (by decide) (fun c412 => ?_) (fun c412 => ?_)
                                  · have t412 : ¬ x411.toInt = 0 := xi_ne rfl (by decide) c412
                                    have d412 : ¬ x411 = 0 := c412
                                    omega
                                  · have t412 : x411.toInt = 0 := xi_eq rfl (by decide) c412
                                    have d412 : x411 = 0 := c412
                                    refine lv_iconst (v := (-1)) hx hb dL_refusesAny_415 (by decide) ?_
                                    refine lv_goto (tgt := 420) hx hb dL_refusesAny_416 (by decide) ?_
                                    refine xo_Vi (As := [.int 0, .int 0, .int (-1)]) (rest := []) hx hb hml hown hts hK hN hZ hP hD hS hA mb_X7_foot mw_2_140 mw_2_141 mw_2_142 (k_X7_foot l D cI cZ cS x0 xs xv ho0 ho1 pd0 pd1 m0 ts0 ts1 a ha sa cn cs sc tm tv pd sv (0 : Int32) old sz z (0 : Int32) (0 : Int32) (-1 : Int32) hRS hI) 0 7 rfl rfl (fun _ => xwW_f) (by decide) (by decide) rfl hl.1 rfl (Nat.le_of_ble_eq_true rfl) dL_refusesAny_420 ⟨Nat.zero_le _, Nat.zero_le _⟩ (fun r420 u420 H locs hw hP hD hS => ?_)
                                    have p420 : r420 = footR z (0 : Int32) (0 : Int32) (-1 : Int32) := hw
                                    have hP : va_P D vwCl (xwW cI cZ cS x0 xs xv ho0 ho1 pd0 pd1 m0 ts0 ts1 a ha sa cn cs sc tm tv pd sv (0 : Int32) old sz z) H := hP
                                    have hD : va_D A (xwW cI cZ cS x0 xs xv ho0 ho1 pd0 pd1 m0 ts0 ts1 a ha sa cn cs sc tm tv pd sv (0 : Int32) old sz z) := hD
                                    refine xk_top (z := (-2)) (by exact p420.trans (ft_bad (foot00 hI.2.1 h60) (by decide))) ?_
                                    refine lv_bipush (v := (-2)) hx hb dL_refusesAny_423 (by decide) ?_
                                    refine lv_icmp_ne (tgt := 631) hx hb dL_refusesAny_425 (by decide) (fun c425 => absurd (by decide) c425) (fun _ => ?_)
                                    refine lv_aload_n hx hb dL_refusesAny_428 rfl (lv_at hl 2 rfl) ?_
                                    refine lv_iconst (v := 0) hx hb dL_refusesAny_429 (by decide) ?_
                                    refine lv_iload_n hx hb dL_refusesAny_430 rfl (lv_at hl 1 rfl) ?_
                                    refine lv_bipush (v := 9) hx hb dL_refusesAny_431 (by decide) ?_
                                    refine xo_Vi (As := [.int 0, .int x11, .int 9]) (rest := []) hx hb hml hown hts hK hN hZ hP hD hS hA mb_X7_foot mw_2_140 mw_2_141 mw_2_142 (k_X7_foot l D cI cZ cS x0 xs xv ho0 ho1 pd0 pd1 m0 ts0 ts1 a ha sa cn cs sc tm tv pd sv (0 : Int32) old sz z (0 : Int32) x11 (9 : Int32) hRS hI) 0 7 rfl rfl (fun _ => xwW_f) (by decide) (by decide) rfl hl.1 rfl (Nat.le_of_ble_eq_true rfl) dL_refusesAny_433 ⟨Nat.zero_le _, Nat.zero_le _⟩ (fun r433 u433 H locs hw hP hD hS => ?_)
                                    have p433 : r433 = footR z (0 : Int32) x11 (9 : Int32) := hw
                                    have hP : va_P D vwCl (xwW cI cZ cS x0 xs xv ho0 ho1 pd0 pd1 m0 ts0 ts1 a ha sa cn cs sc tm tv pd sv (0 : Int32) old sz z) H := hP
                                    have hD : va_D A (xwW cI cZ cS x0 xs xv ho0 ho1 pd0 pd1 m0 ts0 ts1 a ha sa cn cs sc tm tv pd sv (0 : Int32) old sz z) := hD
                                    refine xk_top (z := (-1)) (by exact p433.trans (ft_no (foot0no hI.2.1 (by omega)))) ?_
                                    refine lv_iconst (v := (-1)) hx hb dL_refusesAny_436 (by decide) ?_
                                    refine lv_icmp_ne (tgt := 631) hx hb dL_refusesAny_437 (by decide) (fun c437 => absurd (by decide) c437) (fun _ => ?_)
                                    exact J440   _ _ hP hD hS ls (lv_sub hl [0, 1, 2, 3, 4] rfl)
                            refine lv_iload_n hx hb dL_refusesAny_315 rfl (lv_at hl 3 rfl) ?_
                            refine lv_if_eq (tgt := 328) hx hb dL_refusesAny_316 (by decide) (fun c316 => ?_) (fun c316 => ?_)
                            · have t316 : b.toInt = 0 := xi_eq rfl (by decide) c316
                              have d316 : b = 0 := c316
                              have hnm : ¬ (canZ z ∧ ¬ z 188 = 1) := fun c9 => hb47.elim (fun g => by have := g.1; omega) (fun g => g.2 c9.1)
                              refine lv_aload_n hx hb dL_refusesAny_328 rfl (lv_at hl 1 rfl) ?_
                              refine lv_iconst (v := 5) hx hb dL_refusesAny_329 (by decide) ?_
                              refine xo_Vi (As := [.int 5]) (rest := []) hx hb hml hown hts hK hN hZ hP hD hS hA mb_X7_march mw_3_33 mw_3_34 mw_3_35 (k_X7_march l D cI cZ cS x0 xs xv ho0 ho1 pd0 pd1 m0 ts0 ts1 a ha sa cn cs sc tm tv pd sv (0 : Int32) old sz z (5 : Int32) hRS hI hold hszz ⟨hb74, by omega⟩) 0 7 rfl rfl (fun _ => xwW_f) (by decide) (by decide) rfl hl.1 rfl (Nat.le_of_ble_eq_true rfl) dL_refusesAny_330 ⟨Nat.zero_le _, Nat.zero_le _⟩ (fun r330 u330 H locs hw hP hD hS => ?_)
                              obtain ⟨cq_330, zq_330, old1_330, sz1_330, cs1_330⟩ := u330
                              have p330 : marchA z (5 : Int32) r330 ∧ ((marchC z (5 : Int32) ∧ Chg cn z old sz cs (walkZ 5 z) cq_330 zq_330 old1_330 sz1_330 cs1_330) ∨ (¬ marchC z (5 : Int32) ∧ Same cn z old sz cs cq_330 zq_330 old1_330 sz1_330 cs1_330)) := hw
                              have hP : va_P D vwCl (xwW cI cZ cS x0 xs xv ho0 ho1 pd0 pd1 m0 ts0 ts1 a ha sa cq_330 cs1_330 sc tm tv pd sv (0 : Int32) old1_330 sz1_330 zq_330) H := hP
                              have hD : va_D A (xwW cI cZ cS x0 xs xv ho0 ho1 pd0 pd1 m0 ts0 ts1 a ha sa cq_330 cs1_330 sc tm tv pd sv (0 : Int32) old1_330 sz1_330 zq_330) := hD
                              have w330 : r330 = -5 ∧ cq_330 = cn ∧ zq_330 = z ∧ old1_330 = old ∧ sz1_330 = sz ∧ cs1_330 = cs := by
                                refine ⟨mc_not (by decide) hnm p330.1, ?_⟩
                                rcases p330.2 with ⟨c9, -⟩ | ⟨-, h9⟩
                                · exact absurd c9 (fun c8 => hnm c8.2)
                                · exact h9
                              obtain ⟨w330, w330_0, w330_1, w330_2, w330_3, w330_4⟩ := w330
                              rw [w330_0, w330_1, w330_2, w330_3, w330_4] at hP hD
                              have hP : va_P D vwCl (xwW cI cZ cS x0 xs xv ho0 ho1 pd0 pd1 m0 ts0 ts1 a ha sa cn cs sc tm tv pd sv (0 : Int32) old sz z) H := hP
                              have hD : va_D A (xwW cI cZ cS x0 xs xv ho0 ho1 pd0 pd1 m0 ts0 ts1 a ha sa cn cs sc tm tv pd sv (0 : Int32) old sz z) := hD
                              refine xk_top (z := (-5)) (by exact w330) ?_
                              refine lv_bipush (v := (-5)) hx hb dL_refusesAny_333 (by decide) ?_
                              refine lv_icmp_ne (tgt := 342) hx hb dL_refusesAny_335 (by decide) (fun c335 => absurd (by decide) c335) (fun _ => ?_)
                              exact J338   _ _ hP hD hS ls (lv_sub hl [0, 1, 2, 3] rfl)
                            · have t316 : ¬ b.toInt = 0 := xi_ne rfl (by decide) c316
                              have d316 : ¬ b = 0 := c316
                              refine lv_aload_n hx hb dL_refusesAny_319 rfl (lv_at hl 1 rfl) ?_
                              refine lv_bipush (v := 14) hx hb dL_refusesAny_320 (by decide) ?_
                              refine xo_Vi (As := [.int 14]) (rest := []) hx hb hml hown hts hK hN hZ hP hD hS hA mb_X7_walk mw_1_238 mw_1_239 mw_2_0 (k_X7_walk l D cI cZ cS x0 xs xv ho0 ho1 pd0 pd1 m0 ts0 ts1 a ha sa cn cs sc tm tv pd sv (0 : Int32) old sz z (14 : Int32) hRS hI) 0 7 rfl rfl (fun _ => xwW_f) (by decide) (by decide) rfl hl.1 rfl (Nat.le_of_ble_eq_true rfl) dL_refusesAny_322 ⟨Nat.zero_le _, Nat.zero_le _⟩ (fun r322 u322 H locs hw hP hD hS => ?_)
                              have p322 : r322 = walkR z (14 : Int32) := hw
                              have hP : va_P D vwCl (xwW cI cZ cS x0 xs xv ho0 ho1 pd0 pd1 m0 ts0 ts1 a ha sa cn cs sc tm tv pd sv (0 : Int32) old sz z) H := hP
                              have hD : va_D A (xwW cI cZ cS x0 xs xv ho0 ho1 pd0 pd1 m0 ts0 ts1 a ha sa cn cs sc tm tv pd sv (0 : Int32) old sz z) := hD
                              refine xk_top (z := (z 188)) (by exact p322.trans (wk_14 _)) ?_
                              refine lv_if_eq (tgt := 338) hx hb dL_refusesAny_325 (by decide) (fun c325 => ?_) (fun c325 => ?_)
                              · have t325 : (z 188).toInt = 0 := xi_eq rfl (by decide) c325
                                have d325 : (z 188) = 0 := c325
                                exact J338   _ _ hP hD hS ls (lv_sub hl [0, 1, 2, 3] rfl)
                              · have t325 : ¬ (z 188).toInt = 0 := xi_ne rfl (by decide) c325
                                have d325 : ¬ (z 188) = 0 := c325
                                have hnm : ¬ (canZ z ∧ ¬ z 188 = 1) := fun c9 => (walked01 hI).elim (fun h8 => d325 h8) (fun h8 => c9.2 h8)
                                refine lv_aload_n hx hb dL_refusesAny_328 rfl (lv_at hl 1 rfl) ?_
                                refine lv_iconst (v := 5) hx hb dL_refusesAny_329 (by decide) ?_
                                refine xo_Vi (As := [.int 5]) (rest := []) hx hb hml hown hts hK hN hZ hP hD hS hA mb_X7_march mw_3_33 mw_3_34 mw_3_35 (k_X7_march l D cI cZ cS x0 xs xv ho0 ho1 pd0 pd1 m0 ts0 ts1 a ha sa cn cs sc tm tv pd sv (0 : Int32) old sz z (5 : Int32) hRS hI hold hszz ⟨hb74, by omega⟩) 0 7 rfl rfl (fun _ => xwW_f) (by decide) (by decide) rfl hl.1 rfl (Nat.le_of_ble_eq_true rfl) dL_refusesAny_330 ⟨Nat.zero_le _, Nat.zero_le _⟩ (fun r330 u330 H locs hw hP hD hS => ?_)
                                obtain ⟨cq_330, zq_330, old1_330, sz1_330, cs1_330⟩ := u330
                                have p330 : marchA z (5 : Int32) r330 ∧ ((marchC z (5 : Int32) ∧ Chg cn z old sz cs (walkZ 5 z) cq_330 zq_330 old1_330 sz1_330 cs1_330) ∨ (¬ marchC z (5 : Int32) ∧ Same cn z old sz cs cq_330 zq_330 old1_330 sz1_330 cs1_330)) := hw
                                have hP : va_P D vwCl (xwW cI cZ cS x0 xs xv ho0 ho1 pd0 pd1 m0 ts0 ts1 a ha sa cq_330 cs1_330 sc tm tv pd sv (0 : Int32) old1_330 sz1_330 zq_330) H := hP
                                have hD : va_D A (xwW cI cZ cS x0 xs xv ho0 ho1 pd0 pd1 m0 ts0 ts1 a ha sa cq_330 cs1_330 sc tm tv pd sv (0 : Int32) old1_330 sz1_330 zq_330) := hD
                                have w330 : r330 = -5 ∧ cq_330 = cn ∧ zq_330 = z ∧ old1_330 = old ∧ sz1_330 = sz ∧ cs1_330 = cs := by
                                  refine ⟨mc_not (by decide) hnm p330.1, ?_⟩
                                  rcases p330.2 with ⟨c9, -⟩ | ⟨-, h9⟩
                                  · exact absurd c9 (fun c8 => hnm c8.2)
                                  · exact h9
                                obtain ⟨w330, w330_0, w330_1, w330_2, w330_3, w330_4⟩ := w330
                                rw [w330_0, w330_1, w330_2, w330_3, w330_4] at hP hD
                                have hP : va_P D vwCl (xwW cI cZ cS x0 xs xv ho0 ho1 pd0 pd1 m0 ts0 ts1 a ha sa cn cs sc tm tv pd sv (0 : Int32) old sz z) H := hP
                                have hD : va_D A (xwW cI cZ cS x0 xs xv ho0 ho1 pd0 pd1 m0 ts0 ts1 a ha sa cn cs sc tm tv pd sv (0 : Int32) old sz z) := hD
                                refine xk_top (z := (-5)) (by exact w330) ?_
                                refine lv_bipush (v := (-5)) hx hb dL_refusesAny_333 (by decide) ?_
                                refine lv_icmp_ne (tgt := 342) hx hb dL_refusesAny_335 (by decide) (fun c335 => absurd (by decide) c335) (fun _ => ?_)
                                exact J338   _ _ hP hD hS ls (lv_sub hl [0, 1, 2, 3] rfl)
                        refine lv_aload_n hx hb dL_refusesAny_247 rfl (lv_at hl 1 rfl) ?_
                        refine lv_bipush (v := 9) hx hb dL_refusesAny_248 (by decide) ?_
                        refine xo_Vi (As := [.int 9]) (rest := []) hx hb hml hown hts hK hN hZ hP hD hS hA mb_X7_count mw_2_6 mw_2_7 mw_2_8 (k_X7_count l D cI cZ cS x0 xs xv ho0 ho1 pd0 pd1 m0 ts0 ts1 a ha sa cn cs sc tm tv pd sv (0 : Int32) old sz z (9 : Int32) hRS hI) 0 7 rfl rfl (fun _ => xwW_f) (by decide) (by decide) rfl hl.1 rfl (Nat.le_of_ble_eq_true rfl) dL_refusesAny_250 ⟨Nat.zero_le _, Nat.zero_le _⟩ (fun r250 u250 H locs hw hP hD hS => ?_)
                        have p250 : r250 = cntR z (0 : Int32) sz (9 : Int32) := hw
                        have hP : va_P D vwCl (xwW cI cZ cS x0 xs xv ho0 ho1 pd0 pd1 m0 ts0 ts1 a ha sa cn cs sc tm tv pd sv (0 : Int32) old sz z) H := hP
                        have hD : va_D A (xwW cI cZ cS x0 xs xv ho0 ho1 pd0 pd1 m0 ts0 ts1 a ha sa cn cs sc tm tv pd sv (0 : Int32) old sz z) := hD
                        refine xk_top (z := (z 7)) (by exact p250.trans (ct_9 _ _ _)) ?_
                        refine lv_bipush (v := 12) hx hb dL_refusesAny_253 (by decide) ?_
                        refine lv_icmp_lt (tgt := 270) hx hb dL_refusesAny_255 (by decide) (fun c255 => ?_) (fun c255 => ?_)
                        · have t255 : (z 7).toInt < 12 := xi_lt rfl (by decide) c255
                          exact J270   _ _ hP hD hS ls (lv_sub hl [0, 1, 2, 3] rfl)
                        · have t255 : 12 ≤ (z 7).toInt := xi_nlt rfl (by decide) c255
                          refine lv_aload_n hx hb dL_refusesAny_258 rfl (lv_at hl 1 rfl) ?_
                          refine lv_iconst (v := 5) hx hb dL_refusesAny_259 (by decide) ?_
                          refine lv_iconst (v := 0) hx hb dL_refusesAny_260 (by decide) ?_
                          refine lv_iconst (v := 0) hx hb dL_refusesAny_261 (by decide) ?_
                          refine xo_Vi (As := [.int 5, .int 0, .int 0]) (rest := []) hx hb hml hown hts hK hN hZ hP hD hS hA mb_X7_pave mw_3_17 mw_3_18 mw_3_19 (k_X7_pave l D cI cZ cS x0 xs xv ho0 ho1 pd0 pd1 m0 ts0 ts1 a ha sa cn cs sc tm tv pd sv (0 : Int32) old sz z (5 : Int32) (0 : Int32) (0 : Int32) hRS hI hold hszz (Or.inl rfl)) 0 7 rfl rfl (fun _ => xwW_f) (by decide) (by decide) rfl hl.1 rfl (Nat.le_of_ble_eq_true rfl) dL_refusesAny_262 ⟨Nat.zero_le _, Nat.zero_le _⟩ (fun r262 u262 H locs hw hP hD hS => ?_)
                          obtain ⟨cq_262, zq_262, old1_262, sz1_262, cs1_262⟩ := u262
                          have p262 : r262 = paveR z (5 : Int32) (0 : Int32) ∧ ((paveC z (5 : Int32) (0 : Int32) ∧ Chg cn z old sz cs (paveZ z (5 : Int32) (0 : Int32) (0 : Int32)) cq_262 zq_262 old1_262 sz1_262 cs1_262) ∨ (¬ paveC z (5 : Int32) (0 : Int32) ∧ Same cn z old sz cs cq_262 zq_262 old1_262 sz1_262 cs1_262)) := hw
                          have hP : va_P D vwCl (xwW cI cZ cS x0 xs xv ho0 ho1 pd0 pd1 m0 ts0 ts1 a ha sa cq_262 cs1_262 sc tm tv pd sv (0 : Int32) old1_262 sz1_262 zq_262) H := hP
                          have hD : va_D A (xwW cI cZ cS x0 xs xv ho0 ho1 pd0 pd1 m0 ts0 ts1 a ha sa cq_262 cs1_262 sc tm tv pd sv (0 : Int32) old1_262 sz1_262 zq_262) := hD
                          have h712 : z 7 = 12 := xi_ext (by rw [show (12 : Int32).toInt = 12 from by decide]; omega)
                          have w262 : r262 = -4 ∧ cq_262 = cn ∧ zq_262 = z ∧ old1_262 = old ∧ sz1_262 = sz ∧ cs1_262 = cs := by
                            refine ⟨p262.1.trans (pv_full (by decide) h712), ?_⟩
                            rcases p262.2 with ⟨c9, -⟩ | ⟨-, h9⟩
                            · exact absurd c9 (fun c8 => c8.2 h712)
                            · exact h9
                          obtain ⟨w262, w262_0, w262_1, w262_2, w262_3, w262_4⟩ := w262
                          rw [w262_0, w262_1, w262_2, w262_3, w262_4] at hP hD
                          have hP : va_P D vwCl (xwW cI cZ cS x0 xs xv ho0 ho1 pd0 pd1 m0 ts0 ts1 a ha sa cn cs sc tm tv pd sv (0 : Int32) old sz z) H := hP
                          have hD : va_D A (xwW cI cZ cS x0 xs xv ho0 ho1 pd0 pd1 m0 ts0 ts1 a ha sa cn cs sc tm tv pd sv (0 : Int32) old sz z) := hD
                          refine xk_top (z := (-4)) (by exact w262) ?_
                          refine lv_bipush (v := (-4)) hx hb dL_refusesAny_265 (by decide) ?_
                          refine lv_icmp_ne (tgt := 342) hx hb dL_refusesAny_267 (by decide) (fun c267 => absurd (by decide) c267) (fun _ => ?_)
                          exact J270   _ _ hP hD hS ls (lv_sub hl [0, 1, 2, 3] rfl)
    refine lv_aload_n hx hb dL_refusesAny_23 rfl (lv_at hl 1 rfl) ?_
    refine lv_bipush (v := 6) hx hb dL_refusesAny_24 (by decide) ?_
    refine xo_Vi (As := [.int 6]) (rest := []) hx hb hml hown hts hK hN hZ hP hD hS hA mb_X7_count mw_2_6 mw_2_7 mw_2_8 (k_X7_count l D cI cZ cS x0 xs xv ho0 ho1 pd0 pd1 m0 ts0 ts1 a ha sa cn cs sc tm tv pd sv (0 : Int32) old sz z (6 : Int32) hRS hI) 0 7 rfl rfl (fun _ => xwW_f) (by decide) (by decide) rfl hl.1 rfl (Nat.le_of_ble_eq_true rfl) dL_refusesAny_26 ⟨Nat.zero_le _, Nat.zero_le _⟩ (fun r26 u26 H locs hw hP hD hS => ?_)
    have p26 : r26 = cntR z (0 : Int32) sz (6 : Int32) := hw
    have hP : va_P D vwCl (xwW cI cZ cS x0 xs xv ho0 ho1 pd0 pd1 m0 ts0 ts1 a ha sa cn cs sc tm tv pd sv (0 : Int32) old sz z) H := hP
    have hD : va_D A (xwW cI cZ cS x0 xs xv ho0 ho1 pd0 pd1 m0 ts0 ts1 a ha sa cn cs sc tm tv pd sv (0 : Int32) old sz z) := hD
    refine xk_top (z := (z 6)) (by exact p26.trans (ct_6 _ _ _)) ?_
    refine lv_if_le (tgt := 45) hx hb dL_refusesAny_29 (by decide) (fun c29 => ?_) (fun c29 => ?_)
    · have t29 : (z 6).toInt ≤ 0 := xi_le rfl (by decide) c29
      refine lv_iconst (v := 0) hx hb dL_refusesAny_45 (by decide) ?_
      refine lv_istore_n (lv' := [(3, .int 0), (2, .int x11), (0, .ref x0), (1, .int p1)]) hx hb dL_refusesAny_46 rfl hl (by decide) rfl (fun ls hl => ?_)
      exact J47 (0 : Int32) (by exact Or.inr ⟨by decide, fun c9 => by have := c9.1; have := c9.2; omega⟩) _ _ hP hD hS ls (lv_sub hl [1, 2, 3, 0] rfl)
    · have t29 : 0 < (z 6).toInt := xi_nle rfl (by decide) c29
      refine lv_aload_n hx hb dL_refusesAny_32 rfl (lv_at hl 1 rfl) ?_
      refine lv_bipush (v := 9) hx hb dL_refusesAny_33 (by decide) ?_
      refine xo_Vi (As := [.int 9]) (rest := []) hx hb hml hown hts hK hN hZ hP hD hS hA mb_X7_count mw_2_6 mw_2_7 mw_2_8 (k_X7_count l D cI cZ cS x0 xs xv ho0 ho1 pd0 pd1 m0 ts0 ts1 a ha sa cn cs sc tm tv pd sv (0 : Int32) old sz z (9 : Int32) hRS hI) 0 7 rfl rfl (fun _ => xwW_f) (by decide) (by decide) rfl hl.1 rfl (Nat.le_of_ble_eq_true rfl) dL_refusesAny_35 ⟨Nat.zero_le _, Nat.zero_le _⟩ (fun r35 u35 H locs hw hP hD hS => ?_)
      have p35 : r35 = cntR z (0 : Int32) sz (9 : Int32) := hw
      have hP : va_P D vwCl (xwW cI cZ cS x0 xs xv ho0 ho1 pd0 pd1 m0 ts0 ts1 a ha sa cn cs sc tm tv pd sv (0 : Int32) old sz z) H := hP
      have hD : va_D A (xwW cI cZ cS x0 xs xv ho0 ho1 pd0 pd1 m0 ts0 ts1 a ha sa cn cs sc tm tv pd sv (0 : Int32) old sz z) := hD
      refine xk_top (z := (z 7)) (by exact p35.trans (ct_9 _ _ _)) ?_
      refine lv_if_le (tgt := 45) hx hb dL_refusesAny_38 (by decide) (fun c38 => ?_) (fun c38 => ?_)
      · have t38 : (z 7).toInt ≤ 0 := xi_le rfl (by decide) c38
        refine lv_iconst (v := 0) hx hb dL_refusesAny_45 (by decide) ?_
        refine lv_istore_n (lv' := [(3, .int 0), (2, .int x11), (0, .ref x0), (1, .int p1)]) hx hb dL_refusesAny_46 rfl hl (by decide) rfl (fun ls hl => ?_)
        exact J47 (0 : Int32) (by exact Or.inr ⟨by decide, fun c9 => by have := c9.1; have := c9.2; omega⟩) _ _ hP hD hS ls (lv_sub hl [1, 2, 3, 0] rfl)
      · have t38 : 0 < (z 7).toInt := xi_nle rfl (by decide) c38
        refine lv_iconst (v := 1) hx hb dL_refusesAny_41 (by decide) ?_
        refine lv_goto (tgt := 46) hx hb dL_refusesAny_42 (by decide) ?_
        refine lv_istore_n (lv' := [(3, .int 1), (2, .int x11), (0, .ref x0), (1, .int p1)]) hx hb dL_refusesAny_46 rfl hl (by decide) rfl (fun ls hl => ?_)
        exact J47 (1 : Int32) (by exact Or.inl ⟨by decide, by omega, by omega⟩) _ _ hP hD hS ls (lv_sub hl [1, 2, 3, 0] rfl)

set_option maxHeartbeats 4000000 in
set_option maxRecDepth 100000 in
theorem c_L_refuses (l : Launch) (D : va_G) (cI cZ cS : ClassId) (x0 : Nat) (xs : Nat) (xv : Nat) (ho0 : Nat) (ho1 : Nat) (pd0 : Nat) (pd1 : Nat) (m0 : Nat) (ts0 : Nat) (ts1 : Nat) (a : Nat → Nat) (ha : Nat → Nat → Nat) (sa : Nat → Nat → Nat) (cn : Nat → Nat → Int32) (cs : Nat → Nat → Nat → Int32) (sc : Nat → Nat → Nat → Int32) (tm : Nat → Int32) (tv : Nat → Int32) (pd : Nat → Int32) (sv : Nat → Int32) (old : Int32) (sz : Int32) (z : Nat → Int32) (past : Nat → Int32) (slots : Nat → Int32) (bd : Int) (p1 : Int32) (hLI : LI bd cn cs sc sv (0 : Int32) old sz z past slots) (hbd : bd ≤ 100000) (hp1 : 0 ≤ p1.toInt) : xMi l yL_refuses cL_refuses 5 (some .boolean) ({ frames := 8, cells := 0, slots := 0, locals := 183 } : Room) D (xTy cI cZ cS) [.ref x0, .int p1] (xwW cI cZ cS x0 xs xv ho0 ho1 pd0 pd1 m0 ts0 ts1 a ha sa cn cs sc tm tv pd sv (0 : Int32) old sz z) (fun (r : Int32) (u : (Nat → Int32)) => r = (1 : Int32)) (fun (u : (Nat → Int32)) => (xwW cI cZ cS x0 xs xv ho0 ho1 pd0 pd1 m0 ts0 ts1 a ha sa cn cs sc u tv pd sv (0 : Int32) old sz z)) := by
  refine xk_bodyi (by decide) (Nat.le_of_ble_eq_true rfl) ?_
  intro p e s m below meth c A ls args Q hx hb hr hts hown hlocks hml hin hK hP hD hS hA hN hZ hl hQ
  have hl : lv_has ls 5 [(0, .ref x0), (1, .int p1)] := hl
  obtain ⟨hRS, hI, hBD, ⟨hold, hszz, hlnn⟩, hmcs, hmsc, hRH, hRL⟩ := id hLI
  obtain ⟨⟨hb74, hb74u⟩, ⟨hb86, hb86u⟩, hIP⟩ := id hBD
  have hs0 : (1 ≤ (z 0).toInt ∧ (z 0).toInt ≤ 9) ∧ (0 ≤ (z 1).toInt ∧ (z 1).toInt ≤ 9) ∧ (1 ≤ (z 2).toInt ∧ (z 2).toInt ≤ 9) ∧ (1 ≤ (z 3).toInt ∧ (z 3).toInt ≤ 20) ∧ (2 ≤ (z 5).toInt ∧ (z 5).toInt ≤ 9) := hI.1
  have hg6 : 0 ≤ (z 6).toInt ∧ (z 6).toInt ≤ 10 := hI.2.1.1
  have hr7 : 0 ≤ (z 7).toInt ∧ (z 7).toInt ≤ 12 := hI.2.2.1.1
  have z0 : (0 : Int32).toInt = 0 := by decide
  refine lv_aload_n hx hb dL_refuses_0 rfl (lv_at hl 0 rfl) ?_
  refine xo_Sl (As := [.ref x0]) (rest := []) hx hb hml hown hts hK hN hZ hP hD hS hA mb_L_seen mw_2_116 mw_2_117 (c_L_seen l D cI cZ cS x0 xs xv ho0 ho1 pd0 pd1 m0 ts0 ts1 a ha sa cn cs sc tm tv pd sv (0 : Int32) old sz z past slots bd hLI (by first | omega | assumption)) (fun _ => xwW_f) (by decide) (by decide) rfl hl.1 rfl (Nat.le_of_ble_eq_true rfl) dL_refuses_1 ⟨Nat.zero_le _, Nat.zero_le _⟩ (fun r1 u1 H locs hw hP hD hS => ?_)
  have p1 : r1 = seenZ z := hw
  have hP : va_P D vwCl (xwW cI cZ cS x0 xs xv ho0 ho1 pd0 pd1 m0 ts0 ts1 a ha sa cn cs sc tm tv pd sv (0 : Int32) old sz z) H := hP
  have hD : va_D A (xwW cI cZ cS x0 xs xv ho0 ho1 pd0 pd1 m0 ts0 ts1 a ha sa cn cs sc tm tv pd sv (0 : Int32) old sz z) := hD
  refine xk_topl (z := (seenZ z)) (by exact p1) ?_
  refine lv_lstore_n (lv' := [(2, .long (seenZ z)), (0, .ref x0), (1, .int p1)]) hx hb dL_refuses_4 rfl hl (by decide) rfl (fun ls hl => ?_)
  refine lv_aload_n hx hb dL_refuses_5 rfl (lv_at hl 1 rfl) ?_
  refine lv_bipush (v := 12) hx hb dL_refuses_6 (by decide) ?_
  refine xo_Vi (As := [.int 12]) (rest := []) hx hb hml hown hts hK hN hZ hP hD hS hA mb_X7_count mw_2_6 mw_2_7 mw_2_8 (k_X7_count l D cI cZ cS x0 xs xv ho0 ho1 pd0 pd1 m0 ts0 ts1 a ha sa cn cs sc tm tv pd sv (0 : Int32) old sz z (12 : Int32) hRS hI) 0 7 rfl rfl (fun _ => xwW_f) (by decide) (by decide) rfl hl.1 rfl (Nat.le_of_ble_eq_true rfl) dL_refuses_8 ⟨Nat.zero_le _, Nat.zero_le _⟩ (fun r8 u8 H locs hw hP hD hS => ?_)
  have p8 : r8 = cntR z (0 : Int32) sz (12 : Int32) := hw
  have hP : va_P D vwCl (xwW cI cZ cS x0 xs xv ho0 ho1 pd0 pd1 m0 ts0 ts1 a ha sa cn cs sc tm tv pd sv (0 : Int32) old sz z) H := hP
  have hD : va_D A (xwW cI cZ cS x0 xs xv ho0 ho1 pd0 pd1 m0 ts0 ts1 a ha sa cn cs sc tm tv pd sv (0 : Int32) old sz z) := hD
  refine xk_top (z := sz) (by exact p8.trans (ct_12 _ _ _)) ?_
  refine lv_istore (lv' := [(4, .int sz), (2, .long (seenZ z)), (0, .ref x0), (1, .int p1)]) hx hb dL_refuses_11 hl (by decide) rfl (fun ls hl => ?_)
  refine lv_aload_n hx hb dL_refuses_13 rfl (lv_at hl 2 rfl) ?_
  refine lv_iload_n hx hb dL_refuses_14 rfl (lv_at hl 3 rfl) ?_
  refine xo_Si (As := [.ref x0, .int p1]) (rest := []) hx hb hml hown hts hK hN hZ hP hD hS hA mb_L_refusesAny mw_3_5 mw_3_6 (c_L_refusesAny l D cI cZ cS x0 xs xv ho0 ho1 pd0 pd1 m0 ts0 ts1 a ha sa cn cs sc tm tv pd sv old sz z past slots bd p1 hLI (by first | omega | assumption) (by first | omega | assumption)) (fun _ => xwW_f) (by decide) (by decide) rfl hl.1 rfl (Nat.le_of_ble_eq_true rfl) dL_refuses_15 ⟨Nat.zero_le _, Nat.zero_le _⟩ (fun r15 u15 H locs hw hP hD hS => ?_)
  obtain ⟨tq_15, rfl⟩ : ∃ q, q = u15 := ⟨_, rfl⟩
  have p15 : r15 = (1 : Int32) := hw
  have hP : va_P D vwCl (xwW cI cZ cS x0 xs xv ho0 ho1 pd0 pd1 m0 ts0 ts1 a ha sa cn cs sc tq_15 tv pd sv (0 : Int32) old sz z) H := hP
  have hD : va_D A (xwW cI cZ cS x0 xs xv ho0 ho1 pd0 pd1 m0 ts0 ts1 a ha sa cn cs sc tq_15 tv pd sv (0 : Int32) old sz z) := hD
  refine xk_top (z := 1) (by exact p15) ?_
  refine lv_if_eq (tgt := 45) hx hb dL_refuses_18 (by decide) (fun c18 => absurd c18 (by decide)) (fun _ => ?_)
  refine lv_aload_n hx hb dL_refuses_21 rfl (lv_at hl 2 rfl) ?_
  refine xo_Sl (As := [.ref x0]) (rest := []) hx hb hml hown hts hK hN hZ hP hD hS hA mb_L_seen mw_2_116 mw_2_117 (c_L_seen l D cI cZ cS x0 xs xv ho0 ho1 pd0 pd1 m0 ts0 ts1 a ha sa cn cs sc tq_15 tv pd sv (0 : Int32) old sz z past slots bd hLI (by first | omega | assumption)) (fun _ => xwW_f) (by decide) (by decide) rfl hl.1 rfl (Nat.le_of_ble_eq_true rfl) dL_refuses_22 ⟨Nat.zero_le _, Nat.zero_le _⟩ (fun r22 u22 H locs hw hP hD hS => ?_)
  have p22 : r22 = seenZ z := hw
  have hP : va_P D vwCl (xwW cI cZ cS x0 xs xv ho0 ho1 pd0 pd1 m0 ts0 ts1 a ha sa cn cs sc tq_15 tv pd sv (0 : Int32) old sz z) H := hP
  have hD : va_D A (xwW cI cZ cS x0 xs xv ho0 ho1 pd0 pd1 m0 ts0 ts1 a ha sa cn cs sc tq_15 tv pd sv (0 : Int32) old sz z) := hD
  refine xk_topl (z := (seenZ z)) (by exact p22) ?_
  refine lv_lload_n hx hb dL_refuses_25 rfl (lv_at hl 1 rfl) ?_
  refine W.lcmp hx hb dL_refuses_26 ?_
  refine xk_top (z := 0) (lgc_self _) ?_
  refine lv_if_ne (tgt := 45) hx hb dL_refuses_27 (by decide) (fun c27 => absurd (by decide) c27) (fun _ => ?_)
  refine lv_aload_n hx hb dL_refuses_30 rfl (lv_at hl 2 rfl) ?_
  refine lv_bipush (v := 12) hx hb dL_refuses_31 (by decide) ?_
  refine xo_Vi (As := [.int 12]) (rest := []) hx hb hml hown hts hK hN hZ hP hD hS hA mb_X7_count mw_2_6 mw_2_7 mw_2_8 (k_X7_count l D cI cZ cS x0 xs xv ho0 ho1 pd0 pd1 m0 ts0 ts1 a ha sa cn cs sc tq_15 tv pd sv (0 : Int32) old sz z (12 : Int32) hRS hI) 0 7 rfl rfl (fun _ => xwW_f) (by decide) (by decide) rfl hl.1 rfl (Nat.le_of_ble_eq_true rfl) dL_refuses_33 ⟨Nat.zero_le _, Nat.zero_le _⟩ (fun r33 u33 H locs hw hP hD hS => ?_)
  have p33 : r33 = cntR z (0 : Int32) sz (12 : Int32) := hw
  have hP : va_P D vwCl (xwW cI cZ cS x0 xs xv ho0 ho1 pd0 pd1 m0 ts0 ts1 a ha sa cn cs sc tq_15 tv pd sv (0 : Int32) old sz z) H := hP
  have hD : va_D A (xwW cI cZ cS x0 xs xv ho0 ho1 pd0 pd1 m0 ts0 ts1 a ha sa cn cs sc tq_15 tv pd sv (0 : Int32) old sz z) := hD
  refine xk_top (z := sz) (by exact p33.trans (ct_12 _ _ _)) ?_
  refine lv_iload hx hb dL_refuses_36 (lv_at hl 0 rfl) ?_
  refine lv_icmp_ne (tgt := 45) hx hb dL_refuses_38 (by decide) (fun c38 => ?_) (fun c38 => ?_)
  · have t38 : ¬ sz.toInt = sz.toInt := xi_ne rfl rfl c38
    have d38 : ¬ sz = sz := c38
    refine lv_iconst (v := 0) hx hb dL_refuses_45 (by decide) ?_
    exact xk_retz tq_15 hx hb hr hlocks (by decide) (xk_P hP (by rfl)) (by rfl) hS dL_refuses_46 hQ
  · have t38 : sz.toInt = sz.toInt := xi_eq rfl rfl c38
    have d38 : sz = sz := c38
    refine lv_iconst (v := 1) hx hb dL_refuses_41 (by decide) ?_
    refine lv_goto (tgt := 46) hx hb dL_refuses_42 (by decide) ?_
    exact xk_retz tq_15 hx hb hr hlocks (by decide) (xk_P hP (by rfl)) (by rfl) hS dL_refuses_46 hQ
