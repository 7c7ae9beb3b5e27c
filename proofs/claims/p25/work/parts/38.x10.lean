set_option maxHeartbeats 4000000 in
set_option maxRecDepth 100000 in
theorem c_X7_line (l : Launch) (D : va_G) (cI cZ cS : ClassId) (x0 xs xv ho0 ho1 pd0 pd1 m0 ts0 ts1 : Nat) (a : Nat → Nat) (ha sa : Nat → Nat → Nat) (cn : Nat → Nat → Int32) (cs sc : Nat → Nat → Nat → Int32) (tm tv pd sv : Nat → Int32) (ln old sz : Int32) (z : Nat → Int32) (p1 p2 : Int32) (hRS : RS cn z) (hI : InvZ z) : xMi l yX7_line cX7_line 5 (some .int) ({ frames := 4, cells := 0, slots := 0, locals := 88 } : Room) D (xTy cI cZ cS) [.ref x0, .int p1, .int p2] ([(x0, .inr (7, [.ref (a 0), .ref xs, .ref xv, .ref ho0, .ref pd0, .ref m0, .ref ts0])), ((a 0), .inr (6, [.ref (a 1), .ref (a 3), .ref (a 7), .ref (a 11)])), ((a 1), .inr (4, [.ref (a 2)])), ((a 2), .inl (cI, 6, .inl (cn 0))), ((a 3), .inr (5, [.int (cn 7 0), .ref (a 4), .ref (a 5), .ref (a 6)])), ((a 4), .inl (cI, 10, .inl (cn 1))), ((a 5), .inl (cI, 120, .inl (cn 2))), ((a 6), .inl (cZ, 120, .inl (cn 3))), ((a 7), .inr (3, [.int (cn 7 1), .ref (a 8), .ref (a 9), .ref (a 10)])), ((a 8), .inl (cI, 12, .inl (cn 4))), ((a 9), .inl (cI, 12, .inl (cn 5))), ((a 10), .inl (cZ, 12, .inl (cn 6))), ((a 11), .inr (1, [.int (z 174), .int (z 175), .int (z 176), .int (z 177), .int (z 178), .int (z 179), .int (z 180), .int (z 189), .int (z 181), .int (z 182), .int (z 183), .int (z 184), .int (z 185), .int (z 186), .int (z 187)])), (pd0, .inr (2, [.ref pd1, .int ln])), (pd1, .inl (cI, 60, .inl pd)), (m0, .inr (1, [.int (tm 0), .int (tm 1), .int (tm 2), .int (tm 3), .int (tm 4), .int (tm 5), .int (tm 6), .int (tm 7), .int (tm 8), .int (tm 9), .int (tm 10), .int (tm 11), .int (tm 12), .int (tm 13), .int (tm 14)])), (ts0, .inr (4, [.ref ts1])), (ts1, .inl (cI, 6, .inl tv)), (ho0, .inr (0, [.ref ho1, .int old, .int sz])), (ho1, .inl (cS, 6, .inr (.inr (.inr (.inr (stA ha)))))), (xs, .inl (cS, 2, .inr (.inr (.inr (.inr (stA sa)))))), (xv, .inl (cZ, 2, .inl sv))] ++ (hsW cI cZ ha cs ++ (stW cI cZ (sa 0) (sc 0) ++ stW cI cZ (sa 1) (sc 1)))) (fun (r : Int32) (_ : Unit) => r = lineR z p1 p2) (fun (_ : Unit) => ([(x0, .inr (7, [.ref (a 0), .ref xs, .ref xv, .ref ho0, .ref pd0, .ref m0, .ref ts0])), ((a 0), .inr (6, [.ref (a 1), .ref (a 3), .ref (a 7), .ref (a 11)])), ((a 1), .inr (4, [.ref (a 2)])), ((a 2), .inl (cI, 6, .inl (cn 0))), ((a 3), .inr (5, [.int (cn 7 0), .ref (a 4), .ref (a 5), .ref (a 6)])), ((a 4), .inl (cI, 10, .inl (cn 1))), ((a 5), .inl (cI, 120, .inl (cn 2))), ((a 6), .inl (cZ, 120, .inl (cn 3))), ((a 7), .inr (3, [.int (cn 7 1), .ref (a 8), .ref (a 9), .ref (a 10)])), ((a 8), .inl (cI, 12, .inl (cn 4))), ((a 9), .inl (cI, 12, .inl (cn 5))), ((a 10), .inl (cZ, 12, .inl (cn 6))), ((a 11), .inr (1, [.int (z 174), .int (z 175), .int (z 176), .int (z 177), .int (z 178), .int (z 179), .int (z 180), .int (z 189), .int (z 181), .int (z 182), .int (z 183), .int (z 184), .int (z 185), .int (z 186), .int (z 187)])), (pd0, .inr (2, [.ref pd1, .int ln])), (pd1, .inl (cI, 60, .inl pd)), (m0, .inr (1, [.int (tm 0), .int (tm 1), .int (tm 2), .int (tm 3), .int (tm 4), .int (tm 5), .int (tm 6), .int (tm 7), .int (tm 8), .int (tm 9), .int (tm 10), .int (tm 11), .int (tm 12), .int (tm 13), .int (tm 14)])), (ts0, .inr (4, [.ref ts1])), (ts1, .inl (cI, 6, .inl tv)), (ho0, .inr (0, [.ref ho1, .int old, .int sz])), (ho1, .inl (cS, 6, .inr (.inr (.inr (.inr (stA ha)))))), (xs, .inl (cS, 2, .inr (.inr (.inr (.inr (stA sa)))))), (xv, .inl (cZ, 2, .inl sv))] ++ (hsW cI cZ ha cs ++ (stW cI cZ (sa 0) (sc 0) ++ stW cI cZ (sa 1) (sc 1))))) := by
  refine xk_bodyi (by decide) (Nat.le_of_ble_eq_true rfl) ?_
  intro p e s m below meth c A ls args Q hx hb hr hts hown hlocks hml hin hK hP hD hS hA hN hZ hl hQ
  have hl : lv_has ls 5 [(0, .ref x0), (1, .int p1), (2, .int p2)] := hl
  obtain ⟨hrs, hso, hro, hk1, hk2⟩ := id hRS
  obtain ⟨his, hig, hir, hsp, hrp, hlo⟩ := id hI
  refine lv_aload_n hx hb dX7_line_0 rfl (lv_at hl 0 rfl) ?_
  refine va_get (D := D) (ci := 7) (v := .ref (a 0)) (C := RX7) (T := TX7) (N := 7) hx hb hts xin7 hown hK hP 0 rfl rfl 0 (by decide) (hts _ (List.mem_cons_of_mem _ mw_1_216)) (fun _ h9 => h9) rfl dX7_line_1 ?_
  refine va_getN (D := D) (ci := 6) (v := .ref (a 3)) (C := RX6) (T := TX6) (N := 4) hx hb hts xin6 hown hK hP 1 rfl rfl 1 (by decide) (xnf_20 hN) (fun _ h9 => h9) rfl dX7_line_4 ?_
  refine lv_iload_n hx hb dX7_line_7 rfl (lv_at hl 1 rfl) ?_
  refine xk_Vi0 (As := [.int p1]) (rest := []) hx hb hml hown hts hK hN hZ hP hD hS hA mb_X5_hasLine mw_2_154 mw_2_28 mw_2_29 (c_X5_hasLine l D cI cZ cS (a 3) (a 4) (a 5) (a 6) (cn 7 0) p1 ) [4] 4 5 rfl rfl (by decide) rfl (fun _ => by simp only [List.map]) (by decide) (by decide) rfl hl.1 rfl (Nat.le_of_ble_eq_true rfl) dX7_line_8 ⟨Nat.zero_le _, Nat.zero_le _⟩ (fun _ => rfl) (fun r8 _ H locs hw hP hD hS => ?_)
  rcases hw with ⟨rfl, b8⟩ | ⟨rfl, b8⟩
  · have b8 : hasL (cn 7 0) p1 := b8
    have hli : lineC z p1 := (hasL_iff hso hig p1).mp b8
    refine lv_if_ne (tgt := 16) hx hb dX7_line_11 (by decide) (fun _ => ?_) (fun c11 => absurd c11 (by decide))
    refine lv_aload_n hx hb dX7_line_16 rfl (lv_at hl 0 rfl) ?_
    refine va_get (D := D) (ci := 7) (v := .ref (a 0)) (C := RX7) (T := TX7) (N := 7) hx hb hts xin7 hown hK hP 0 rfl rfl 0 (by decide) (hts _ (List.mem_cons_of_mem _ mw_1_216)) (fun _ h9 => h9) rfl dX7_line_17 ?_
    refine va_getN (D := D) (ci := 6) (v := .ref (a 3)) (C := RX6) (T := TX6) (N := 4) hx hb hts xin6 hown hK hP 1 rfl rfl 1 (by decide) (xnf_20 hN) (fun _ h9 => h9) rfl dX7_line_20 ?_
    refine lv_iload_n hx hb dX7_line_23 rfl (lv_at hl 1 rfl) ?_
    refine xk_Vi0 (As := [.int p1]) (rest := []) hx hb hml hown hts hK hN hZ hP hD hS hA mb_X5_beatsOfLine mw_2_155 mw_2_16 mw_2_17 (c_X5_beatsOfLine l D cI cZ cS (a 3) (a 4) (a 5) (a 6) (cn 7 0) (cn 1) (cn 2) (cn 3) z p1 (by exact hso) (by exact hig)) [4, 5, 6, 7] 4 5 rfl rfl (by decide) rfl (fun _ => by simp only [List.map]) (by decide) (by decide) rfl hl.1 rfl (Nat.le_of_ble_eq_true rfl) dX7_line_24 ⟨Nat.zero_le _, Nat.zero_le _⟩ (fun _ => rfl) (fun r24 _ H locs hw hP hD hS => ?_)
    have e24 : r24 = if lineC z p1 then sungL z p1.toInt.toNat else 0 := hw
    rw [if_pos hli] at e24
    refine lv_istore_n (lv' := [(3, .int r24), (0, .ref x0), (1, .int p1), (2, .int p2)]) hx hb dX7_line_27 rfl hl (by decide) rfl (fun ls hl => ?_)
    refine lv_aload_n hx hb dX7_line_28 rfl (lv_at hl 1 rfl) ?_
    refine va_get (D := D) (ci := 7) (v := .ref (a 0)) (C := RX7) (T := TX7) (N := 7) hx hb hts xin7 hown hK hP 0 rfl rfl 0 (by decide) (hts _ (List.mem_cons_of_mem _ mw_1_216)) (fun _ h9 => h9) rfl dX7_line_29 ?_
    refine va_getN (D := D) (ci := 6) (v := .ref (a 3)) (C := RX6) (T := TX6) (N := 4) hx hb hts xin6 hown hK hP 1 rfl rfl 1 (by decide) (xnf_20 hN) (fun _ h9 => h9) rfl dX7_line_32 ?_
    refine lv_iload_n hx hb dX7_line_35 rfl (lv_at hl 2 rfl) ?_
    refine xk_Vi0 (As := [.int p1]) (rest := []) hx hb hml hown hts hK hN hZ hP hD hS hA mb_X5_marksOfLine mw_2_156 mw_2_36 mw_2_37 (c_X5_marksOfLine l D cI cZ cS (a 3) (a 4) (a 5) (a 6) (cn 7 0) (cn 1) (cn 2) (cn 3) z p1 (by exact hso) (by exact hig)) [4, 5, 6, 7] 4 5 rfl rfl (by decide) rfl (fun _ => by simp only [List.map]) (by decide) (by decide) rfl hl.1 rfl (Nat.le_of_ble_eq_true rfl) dX7_line_36 ⟨Nat.zero_le _, Nat.zero_le _⟩ (fun _ => rfl) (fun r36 _ H locs hw hP hD hS => ?_)
    have e36 : r36 = if lineC z p1 then marksL z p1.toInt.toNat else 0 := hw
    rw [if_pos hli] at e36
    refine lv_istore (lv' := [(4, .int r36), (3, .int r24), (0, .ref x0), (1, .int p1), (2, .int p2)]) hx hb dX7_line_39 hl (by decide) rfl (fun ls hl => ?_)
    refine lv_iload_n hx hb dX7_line_41 rfl (lv_at hl 4 rfl) ?_
    have h42 : p2.toInt < 0 ∨ 3 < p2.toInt ∨ p2.toInt = 0 ∨ p2.toInt = 1 ∨ p2.toInt = 2 ∨ p2.toInt = 3 := by omega
    rcases h42 with t42 | t42 | t42 | t42 | t42 | t42
    · refine lv_tableOut (tgt := 106) hx hb dX7_line_42 (by first | exact Or.inl t42 | exact Or.inr t42) (by decide) ?_
      refine lv_bipush (v := (-2)) hx hb dX7_line_106 (by decide) ?_
      exact xk_reti () hx hb hr hlocks (xk_P hP (by rfl)) (by rw [lineR, if_pos hli, if_neg (by omega), if_neg (by omega), if_neg (by omega), if_neg (by omega)]) hS dX7_line_108 hQ
    · refine lv_tableOut (tgt := 106) hx hb dX7_line_42 (by first | exact Or.inl t42 | exact Or.inr t42) (by decide) ?_
      refine lv_bipush (v := (-2)) hx hb dX7_line_106 (by decide) ?_
      exact xk_reti () hx hb hr hlocks (xk_P hP (by rfl)) (by rw [lineR, if_pos hli, if_neg (by omega), if_neg (by omega), if_neg (by omega), if_neg (by omega)]) hS dX7_line_108 hQ
    · refine lv_tableIn (off := 30) (tgt := 72) hx hb dX7_line_42 (by rw [t42]; decide) (by rw [t42]; decide) (by rw [t42]; rfl) (by decide) ?_
      refine lv_aload_n hx hb dX7_line_72 rfl (lv_at hl 2 rfl) ?_
      refine va_get (D := D) (ci := 7) (v := .ref (a 0)) (C := RX7) (T := TX7) (N := 7) hx hb hts xin7 hown hK hP 0 rfl rfl 0 (by decide) (hts _ (List.mem_cons_of_mem _ mw_1_216)) (fun _ h9 => h9) rfl dX7_line_73 ?_
      refine va_getN (D := D) (ci := 6) (v := .ref (a 3)) (C := RX6) (T := TX6) (N := 4) hx hb hts xin6 hown hK hP 1 rfl rfl 1 (by decide) (xnf_20 hN) (fun _ h9 => h9) rfl dX7_line_76 ?_
      refine lv_iload_n hx hb dX7_line_79 rfl (lv_at hl 3 rfl) ?_
      refine xk_Vi0 (As := [.int p1]) (rest := []) hx hb hml hown hts hK hN hZ hP hD hS hA mb_X5_feetOf mw_2_157 mw_2_158 mw_2_159 (c_X5_feetOf l D cI cZ cS (a 3) (a 4) (a 5) (a 6) (cn 7 0) (cn 1) p1 ) [4, 5] 4 5 rfl rfl (by decide) rfl (fun _ => by simp only [List.map]) (by decide) (by decide) rfl hl.1 rfl (Nat.le_of_ble_eq_true rfl) dX7_line_80 ⟨Nat.zero_le _, Nat.zero_le _⟩ (fun _ => rfl) (fun r80 _ H locs hw hP hD hS => ?_)
      have e80 : r80 = if hasL (cn 7 0) p1 then (cn 1) p1.toInt.toNat else 0 := hw
      rw [feetOf_z hso hig, if_pos hli] at e80
      exact xk_reti () hx hb hr hlocks (xk_P hP (by rfl)) (by rw [lineR, if_pos hli, if_pos t42, e80]) hS dX7_line_83 hQ
    · refine lv_tableIn (off := 42) (tgt := 84) hx hb dX7_line_42 (by rw [t42]; decide) (by rw [t42]; decide) (by rw [t42]; rfl) (by decide) ?_
      refine lv_iload_n hx hb dX7_line_84 rfl (lv_at hl 1 rfl) ?_
      exact xk_reti () hx hb hr hlocks (xk_P hP (by rfl)) (by rw [lineR, if_pos hli, if_neg (by omega), if_pos t42, e24]) hS dX7_line_85 hQ
    · refine lv_tableIn (off := 44) (tgt := 86) hx hb dX7_line_42 (by rw [t42]; decide) (by rw [t42]; decide) (by rw [t42]; rfl) (by decide) ?_
      refine lv_iload hx hb dX7_line_86 (lv_at hl 0 rfl) ?_
      exact xk_reti () hx hb hr hlocks (xk_P hP (by rfl)) (by rw [lineR, if_pos hli, if_neg (by omega), if_neg (by omega), if_pos t42, e36]) hS dX7_line_88 hQ
    · refine lv_tableIn (off := 47) (tgt := 89) hx hb dX7_line_42 (by rw [t42]; decide) (by rw [t42]; decide) (by rw [t42]; rfl) (by decide) ?_
      refine lv_iload_n hx hb dX7_line_89 rfl (lv_at hl 1 rfl) ?_
      refine lv_iload hx hb dX7_line_90 (lv_at hl 0 rfl) ?_
      refine lv_aload_n hx hb dX7_line_92 rfl (lv_at hl 2 rfl) ?_
      refine va_get (D := D) (ci := 7) (v := .ref (a 0)) (C := RX7) (T := TX7) (N := 7) hx hb hts xin7 hown hK hP 0 rfl rfl 0 (by decide) (hts _ (List.mem_cons_of_mem _ mw_1_216)) (fun _ h9 => h9) rfl dX7_line_93 ?_
      refine va_getN (D := D) (ci := 6) (v := .ref (a 1)) (C := RX6) (T := TX6) (N := 4) hx hb hts xin6 hown hK hP 1 rfl rfl 0 (by decide) (xnf_19 hN) (fun _ h9 => h9) rfl dX7_line_96 ?_
      refine lv_iconst (v := 1) hx hb dX7_line_99 (by decide) ?_
      refine xk_Vi0 (As := [.int 1]) (rest := [.int r36, .int r24]) hx hb hml hown hts hK hN hZ hP hD hS hA mb_X4_valueOf mw_2_10 mw_1_206 mw_1_207 (c_X4_valueOf l D cI cZ cS (a 1) (a 2) (cn 0) (1 : Int32) ) [2, 3] 2 4 rfl rfl (by decide) rfl (fun _ => by simp only [List.map]) (by decide) (by decide) rfl hl.1 rfl (Nat.le_of_ble_eq_true rfl) dX7_line_100 ⟨Nat.zero_le _, Nat.zero_le _⟩ (fun _ => rfl) (fun r100 _ H locs hw hP hD hS => ?_)
      have e100 : r100 = if 0 ≤ 1 ∧ 1 < 6 then (cn 0) 1 else 0 := hw
      refine xk_top (z := (z 1)) (by rw [e100, if_pos (by decide)]; exact hrs 1 (by omega)) ?_
      refine lv_imul hx hb dX7_line_103 ?_
      refine lv_topi (fun x103 e103 => ?_)
      refine lv_iadd hx hb dX7_line_104 ?_
      refine lv_topi (fun x104 e104 => ?_)
      exact xk_reti () hx hb hr hlocks (xk_P hP (by rfl)) (by rw [lineR, if_pos hli, if_neg (by omega), if_neg (by omega), if_neg (by omega), if_pos t42, e104, e103, e24, e36, Int32.mul_comm (marksL z p1.toInt.toNat)]) hS dX7_line_105 hQ
  · have b8 : ¬ (hasL (cn 7 0) p1) := b8
    have hnl : ¬ lineC z p1 := fun hh => b8 ((hasL_iff hso hig p1).mpr hh)
    refine lv_if_ne (tgt := 16) hx hb dX7_line_11 (by decide) (fun c11 => absurd (by decide) c11) (fun _ => ?_)
    refine lv_iconst (v := (-1)) hx hb dX7_line_14 (by decide) ?_
    exact xk_reti () hx hb hr hlocks (xk_P hP (by rfl)) (by rw [lineR, if_neg hnl]) hS dX7_line_15 hQ

set_option maxHeartbeats 4000000 in
set_option maxRecDepth 100000 in
theorem c_X7_foot (l : Launch) (D : va_G) (cI cZ cS : ClassId) (x0 xs xv ho0 ho1 pd0 pd1 m0 ts0 ts1 : Nat) (a : Nat → Nat) (ha sa : Nat → Nat → Nat) (cn : Nat → Nat → Int32) (cs sc : Nat → Nat → Nat → Int32) (tm tv pd sv : Nat → Int32) (ln old sz : Int32) (z : Nat → Int32) (p1 p2 p3 : Int32) (hRS : RS cn z) (hI : InvZ z) : xMi l yX7_foot cX7_foot 4 (some .int) ({ frames := 3, cells := 0, slots := 0, locals := 65 } : Room) D (xTy cI cZ cS) [.ref x0, .int p1, .int p2, .int p3] ([(x0, .inr (7, [.ref (a 0), .ref xs, .ref xv, .ref ho0, .ref pd0, .ref m0, .ref ts0])), ((a 0), .inr (6, [.ref (a 1), .ref (a 3), .ref (a 7), .ref (a 11)])), ((a 1), .inr (4, [.ref (a 2)])), ((a 2), .inl (cI, 6, .inl (cn 0))), ((a 3), .inr (5, [.int (cn 7 0), .ref (a 4), .ref (a 5), .ref (a 6)])), ((a 4), .inl (cI, 10, .inl (cn 1))), ((a 5), .inl (cI, 120, .inl (cn 2))), ((a 6), .inl (cZ, 120, .inl (cn 3))), ((a 7), .inr (3, [.int (cn 7 1), .ref (a 8), .ref (a 9), .ref (a 10)])), ((a 8), .inl (cI, 12, .inl (cn 4))), ((a 9), .inl (cI, 12, .inl (cn 5))), ((a 10), .inl (cZ, 12, .inl (cn 6))), ((a 11), .inr (1, [.int (z 174), .int (z 175), .int (z 176), .int (z 177), .int (z 178), .int (z 179), .int (z 180), .int (z 189), .int (z 181), .int (z 182), .int (z 183), .int (z 184), .int (z 185), .int (z 186), .int (z 187)])), (pd0, .inr (2, [.ref pd1, .int ln])), (pd1, .inl (cI, 60, .inl pd)), (m0, .inr (1, [.int (tm 0), .int (tm 1), .int (tm 2), .int (tm 3), .int (tm 4), .int (tm 5), .int (tm 6), .int (tm 7), .int (tm 8), .int (tm 9), .int (tm 10), .int (tm 11), .int (tm 12), .int (tm 13), .int (tm 14)])), (ts0, .inr (4, [.ref ts1])), (ts1, .inl (cI, 6, .inl tv)), (ho0, .inr (0, [.ref ho1, .int old, .int sz])), (ho1, .inl (cS, 6, .inr (.inr (.inr (.inr (stA ha)))))), (xs, .inl (cS, 2, .inr (.inr (.inr (.inr (stA sa)))))), (xv, .inl (cZ, 2, .inl sv))] ++ (hsW cI cZ ha cs ++ (stW cI cZ (sa 0) (sc 0) ++ stW cI cZ (sa 1) (sc 1)))) (fun (r : Int32) (_ : Unit) => r = footR z p1 p2 p3) (fun (_ : Unit) => ([(x0, .inr (7, [.ref (a 0), .ref xs, .ref xv, .ref ho0, .ref pd0, .ref m0, .ref ts0])), ((a 0), .inr (6, [.ref (a 1), .ref (a 3), .ref (a 7), .ref (a 11)])), ((a 1), .inr (4, [.ref (a 2)])), ((a 2), .inl (cI, 6, .inl (cn 0))), ((a 3), .inr (5, [.int (cn 7 0), .ref (a 4), .ref (a 5), .ref (a 6)])), ((a 4), .inl (cI, 10, .inl (cn 1))), ((a 5), .inl (cI, 120, .inl (cn 2))), ((a 6), .inl (cZ, 120, .inl (cn 3))), ((a 7), .inr (3, [.int (cn 7 1), .ref (a 8), .ref (a 9), .ref (a 10)])), ((a 8), .inl (cI, 12, .inl (cn 4))), ((a 9), .inl (cI, 12, .inl (cn 5))), ((a 10), .inl (cZ, 12, .inl (cn 6))), ((a 11), .inr (1, [.int (z 174), .int (z 175), .int (z 176), .int (z 177), .int (z 178), .int (z 179), .int (z 180), .int (z 189), .int (z 181), .int (z 182), .int (z 183), .int (z 184), .int (z 185), .int (z 186), .int (z 187)])), (pd0, .inr (2, [.ref pd1, .int ln])), (pd1, .inl (cI, 60, .inl pd)), (m0, .inr (1, [.int (tm 0), .int (tm 1), .int (tm 2), .int (tm 3), .int (tm 4), .int (tm 5), .int (tm 6), .int (tm 7), .int (tm 8), .int (tm 9), .int (tm 10), .int (tm 11), .int (tm 12), .int (tm 13), .int (tm 14)])), (ts0, .inr (4, [.ref ts1])), (ts1, .inl (cI, 6, .inl tv)), (ho0, .inr (0, [.ref ho1, .int old, .int sz])), (ho1, .inl (cS, 6, .inr (.inr (.inr (.inr (stA ha)))))), (xs, .inl (cS, 2, .inr (.inr (.inr (.inr (stA sa)))))), (xv, .inl (cZ, 2, .inl sv))] ++ (hsW cI cZ ha cs ++ (stW cI cZ (sa 0) (sc 0) ++ stW cI cZ (sa 1) (sc 1))))) := by
  refine xk_bodyi (by decide) (Nat.le_of_ble_eq_true rfl) ?_
  intro p e s m below meth c A ls args Q hx hb hr hts hown hlocks hml hin hK hP hD hS hA hN hZ hl hQ
  have hl : lv_has ls 4 [(0, .ref x0), (1, .int p1), (2, .int p2), (3, .int p3)] := hl
  obtain ⟨hrs, hso, hro, hk1, hk2⟩ := id hRS
  obtain ⟨his, hig, hir, hsp, hrp, hlo⟩ := id hI
  refine lv_aload_n hx hb dX7_foot_0 rfl (lv_at hl 0 rfl) ?_
  refine va_get (D := D) (ci := 7) (v := .ref (a 0)) (C := RX7) (T := TX7) (N := 7) hx hb hts xin7 hown hK hP 0 rfl rfl 0 (by decide) (hts _ (List.mem_cons_of_mem _ mw_1_216)) (fun _ h9 => h9) rfl dX7_foot_1 ?_
  refine va_getN (D := D) (ci := 6) (v := .ref (a 3)) (C := RX6) (T := TX6) (N := 4) hx hb hts xin6 hown hK hP 1 rfl rfl 1 (by decide) (xnf_20 hN) (fun _ h9 => h9) rfl dX7_foot_4 ?_
  refine lv_iload_n hx hb dX7_foot_7 rfl (lv_at hl 1 rfl) ?_
  refine lv_iload_n hx hb dX7_foot_8 rfl (lv_at hl 2 rfl) ?_
  refine xk_Vi0 (As := [.int p1, .int p2]) (rest := []) hx hb hml hown hts hK hN hZ hP hD hS hA mb_X5_hasFoot mw_2_144 mw_2_24 mw_2_25 (c_X5_hasFoot l D cI cZ cS (a 3) (a 4) (a 5) (a 6) (cn 7 0) (cn 1) p1 p2 ) [4, 5] 4 5 rfl rfl (by decide) rfl (fun _ => by simp only [List.map]) (by decide) (by decide) rfl hl.1 rfl (Nat.le_of_ble_eq_true rfl) dX7_foot_9 ⟨Nat.zero_le _, Nat.zero_le _⟩ (fun _ => rfl) (fun r9 _ H locs hw hP hD hS => ?_)
  rcases hw with ⟨rfl, b9⟩ | ⟨rfl, b9⟩
  · have b9 : hasF (cn 7 0) (cn 1) p1 p2 := b9
    have hfo : footC z p1 p2 := (hasF_iff hso hig p1 p2).mp b9
    refine lv_if_ne (tgt := 17) hx hb dX7_foot_12 (by decide) (fun _ => ?_) (fun c12 => absurd c12 (by decide))
    refine lv_iload_n hx hb dX7_foot_17 rfl (lv_at hl 3 rfl) ?_
    have h18 : p3.toInt = 0 ∨ p3.toInt = 1 ∨ (¬ p3.toInt = 0 ∧ ¬ p3.toInt = 1) := by omega
    rcases h18 with t18 | t18 | ⟨t18_0, t18_1⟩
    · refine lv_lookup (off := 26) (tgt := 44) hx hb dX7_foot_18 (by decide) (by rw [t18]; rfl) (by decide) ?_
      refine lv_aload_n hx hb dX7_foot_44 rfl (lv_at hl 0 rfl) ?_
      refine va_get (D := D) (ci := 7) (v := .ref (a 0)) (C := RX7) (T := TX7) (N := 7) hx hb hts xin7 hown hK hP 0 rfl rfl 0 (by decide) (hts _ (List.mem_cons_of_mem _ mw_1_216)) (fun _ h9 => h9) rfl dX7_foot_45 ?_
      refine va_getN (D := D) (ci := 6) (v := .ref (a 3)) (C := RX6) (T := TX6) (N := 4) hx hb hts xin6 hown hK hP 1 rfl rfl 1 (by decide) (xnf_20 hN) (fun _ h9 => h9) rfl dX7_foot_48 ?_
      refine lv_iload_n hx hb dX7_foot_51 rfl (lv_at hl 1 rfl) ?_
      refine lv_iload_n hx hb dX7_foot_52 rfl (lv_at hl 2 rfl) ?_
      refine xk_Vi0 (As := [.int p1, .int p2]) (rest := []) hx hb hml hown hts hK hN hZ hP hD hS hA mb_X5_beatsOf mw_2_145 mw_2_20 mw_2_21 (c_X5_beatsOf l D cI cZ cS (a 3) (a 4) (a 5) (a 6) (cn 7 0) (cn 1) (cn 2) p1 p2 ) [4, 5, 6] 4 5 rfl rfl (by decide) rfl (fun _ => by simp only [List.map]) (by decide) (by decide) rfl hl.1 rfl (Nat.le_of_ble_eq_true rfl) dX7_foot_53 ⟨Nat.zero_le _, Nat.zero_le _⟩ (fun _ => rfl) (fun r53 _ H locs hw hP hD hS => ?_)
      have e53 : r53 = if hasF (cn 7 0) (cn 1) p1 p2 then (cn 2) (12 * p1.toInt.toNat + p2.toInt.toNat) else 0 := hw
      rw [beatsOf_z hso hig, if_pos hfo] at e53
      exact xk_reti () hx hb hr hlocks (xk_P hP (by rfl)) (by rw [footR, if_pos hfo, if_pos (show p3 = 0 from xi_ext t18), e53]) hS dX7_foot_56 hQ
    · refine lv_lookup (off := 39) (tgt := 57) hx hb dX7_foot_18 (by decide) (by rw [t18]; rfl) (by decide) ?_
      refine lv_aload_n hx hb dX7_foot_57 rfl (lv_at hl 0 rfl) ?_
      refine va_get (D := D) (ci := 7) (v := .ref (a 0)) (C := RX7) (T := TX7) (N := 7) hx hb hts xin7 hown hK hP 0 rfl rfl 0 (by decide) (hts _ (List.mem_cons_of_mem _ mw_1_216)) (fun _ h9 => h9) rfl dX7_foot_58 ?_
      refine va_getN (D := D) (ci := 6) (v := .ref (a 3)) (C := RX6) (T := TX6) (N := 4) hx hb hts xin6 hown hK hP 1 rfl rfl 1 (by decide) (xnf_20 hN) (fun _ h9 => h9) rfl dX7_foot_61 ?_
      refine lv_iload_n hx hb dX7_foot_64 rfl (lv_at hl 1 rfl) ?_
      refine lv_iload_n hx hb dX7_foot_65 rfl (lv_at hl 2 rfl) ?_
      refine xk_Vi0 (As := [.int p1, .int p2]) (rest := []) hx hb hml hown hts hK hN hZ hP hD hS hA mb_X5_isMarked mw_2_146 mw_2_40 mw_2_41 (c_X5_isMarked l D cI cZ cS (a 3) (a 4) (a 5) (a 6) (cn 7 0) (cn 1) (cn 3) p1 p2 ) [4, 5, 7] 4 5 rfl rfl (by decide) rfl (fun _ => by simp only [List.map]) (by decide) (by decide) rfl hl.1 rfl (Nat.le_of_ble_eq_true rfl) dX7_foot_66 ⟨Nat.zero_le _, Nat.zero_le _⟩ (fun _ => rfl) (fun r66 _ H locs hw hP hD hS => ?_)
      rcases hw with ⟨rfl, b66⟩ | ⟨rfl, b66⟩
      · have b66 : hasF (cn 7 0) (cn 1) p1 p2 ∧ ¬ (cn 3) (12 * p1.toInt.toNat + p2.toInt.toNat) = 0 := b66
        rw [marked_z hso hig] at b66
        refine lv_if_eq (tgt := 76) hx hb dX7_foot_69 (by decide) (fun c69 => absurd c69 (by decide)) (fun _ => ?_)
        refine lv_iconst (v := 1) hx hb dX7_foot_72 (by decide) ?_
        refine lv_goto (tgt := 77) hx hb dX7_foot_73 (by decide) ?_
        exact xk_reti () hx hb hr hlocks (xk_P hP (by rfl)) (by rw [footR, if_pos hfo, if_neg (show ¬ p3 = 0 from fun q => by rw [q] at t18; exact absurd t18 (by decide)), if_pos (show p3 = 1 from xi_ext t18), if_pos b66.2]) hS dX7_foot_77 hQ
      · have b66 : ¬ (hasF (cn 7 0) (cn 1) p1 p2 ∧ ¬ (cn 3) (12 * p1.toInt.toNat + p2.toInt.toNat) = 0) := b66
        rw [marked_z hso hig] at b66
        refine lv_if_eq (tgt := 76) hx hb dX7_foot_69 (by decide) (fun _ => ?_) (fun c69 => absurd (by decide) c69)
        refine lv_iconst (v := 0) hx hb dX7_foot_76 (by decide) ?_
        exact xk_reti () hx hb hr hlocks (xk_P hP (by rfl)) (by rw [footR, if_pos hfo, if_neg (show ¬ p3 = 0 from fun q => by rw [q] at t18; exact absurd t18 (by decide)), if_pos (show p3 = 1 from xi_ext t18), if_neg (fun q => b66 ⟨hfo, q⟩)]) hS dX7_foot_77 hQ
    · refine lv_lookup (off := 60) (tgt := 78) hx hb dX7_foot_18 (by decide) (by simp [Op.lookupswitch.offset, t18_0, mt Eq.symm t18_0, t18_1, mt Eq.symm t18_1]) (by decide) ?_
      refine lv_bipush (v := (-2)) hx hb dX7_foot_78 (by decide) ?_
      exact xk_reti () hx hb hr hlocks (xk_P hP (by rfl)) (by rw [footR, if_pos hfo, if_neg (fun q => t18_0 (by rw [q]; rfl)), if_neg (fun q => t18_1 (by rw [q]; rfl))]) hS dX7_foot_80 hQ
  · have b9 : ¬ (hasF (cn 7 0) (cn 1) p1 p2) := b9
    have hnf : ¬ footC z p1 p2 := fun hh => b9 ((hasF_iff hso hig p1 p2).mpr hh)
    refine lv_if_ne (tgt := 17) hx hb dX7_foot_12 (by decide) (fun c12 => absurd (by decide) c12) (fun _ => ?_)
    refine lv_iconst (v := (-1)) hx hb dX7_foot_15 (by decide) ?_
    exact xk_reti () hx hb hr hlocks (xk_P hP (by rfl)) (by rw [footR, if_neg hnf]) hS dX7_foot_16 hQ

set_option maxHeartbeats 4000000 in
set_option maxRecDepth 100000 in
theorem c_X7_stretch (l : Launch) (D : va_G) (cI cZ cS : ClassId) (x0 xs xv ho0 ho1 pd0 pd1 m0 ts0 ts1 : Nat) (a : Nat → Nat) (ha sa : Nat → Nat → Nat) (cn : Nat → Nat → Int32) (cs sc : Nat → Nat → Nat → Int32) (tm tv pd sv : Nat → Int32) (ln old sz : Int32) (z : Nat → Int32) (p1 p2 : Int32) (hRS : RS cn z) (hI : InvZ z) : xMi l yX7_stretch cX7_stretch 3 (some .int) ({ frames := 3, cells := 0, slots := 0, locals := 65 } : Room) D (xTy cI cZ cS) [.ref x0, .int p1, .int p2] ([(x0, .inr (7, [.ref (a 0), .ref xs, .ref xv, .ref ho0, .ref pd0, .ref m0, .ref ts0])), ((a 0), .inr (6, [.ref (a 1), .ref (a 3), .ref (a 7), .ref (a 11)])), ((a 1), .inr (4, [.ref (a 2)])), ((a 2), .inl (cI, 6, .inl (cn 0))), ((a 3), .inr (5, [.int (cn 7 0), .ref (a 4), .ref (a 5), .ref (a 6)])), ((a 4), .inl (cI, 10, .inl (cn 1))), ((a 5), .inl (cI, 120, .inl (cn 2))), ((a 6), .inl (cZ, 120, .inl (cn 3))), ((a 7), .inr (3, [.int (cn 7 1), .ref (a 8), .ref (a 9), .ref (a 10)])), ((a 8), .inl (cI, 12, .inl (cn 4))), ((a 9), .inl (cI, 12, .inl (cn 5))), ((a 10), .inl (cZ, 12, .inl (cn 6))), ((a 11), .inr (1, [.int (z 174), .int (z 175), .int (z 176), .int (z 177), .int (z 178), .int (z 179), .int (z 180), .int (z 189), .int (z 181), .int (z 182), .int (z 183), .int (z 184), .int (z 185), .int (z 186), .int (z 187)])), (pd0, .inr (2, [.ref pd1, .int ln])), (pd1, .inl (cI, 60, .inl pd)), (m0, .inr (1, [.int (tm 0), .int (tm 1), .int (tm 2), .int (tm 3), .int (tm 4), .int (tm 5), .int (tm 6), .int (tm 7), .int (tm 8), .int (tm 9), .int (tm 10), .int (tm 11), .int (tm 12), .int (tm 13), .int (tm 14)])), (ts0, .inr (4, [.ref ts1])), (ts1, .inl (cI, 6, .inl tv)), (ho0, .inr (0, [.ref ho1, .int old, .int sz])), (ho1, .inl (cS, 6, .inr (.inr (.inr (.inr (stA ha)))))), (xs, .inl (cS, 2, .inr (.inr (.inr (.inr (stA sa)))))), (xv, .inl (cZ, 2, .inl sv))] ++ (hsW cI cZ ha cs ++ (stW cI cZ (sa 0) (sc 0) ++ stW cI cZ (sa 1) (sc 1)))) (fun (r : Int32) (_ : Unit) => strA z p1 p2 r) (fun (_ : Unit) => ([(x0, .inr (7, [.ref (a 0), .ref xs, .ref xv, .ref ho0, .ref pd0, .ref m0, .ref ts0])), ((a 0), .inr (6, [.ref (a 1), .ref (a 3), .ref (a 7), .ref (a 11)])), ((a 1), .inr (4, [.ref (a 2)])), ((a 2), .inl (cI, 6, .inl (cn 0))), ((a 3), .inr (5, [.int (cn 7 0), .ref (a 4), .ref (a 5), .ref (a 6)])), ((a 4), .inl (cI, 10, .inl (cn 1))), ((a 5), .inl (cI, 120, .inl (cn 2))), ((a 6), .inl (cZ, 120, .inl (cn 3))), ((a 7), .inr (3, [.int (cn 7 1), .ref (a 8), .ref (a 9), .ref (a 10)])), ((a 8), .inl (cI, 12, .inl (cn 4))), ((a 9), .inl (cI, 12, .inl (cn 5))), ((a 10), .inl (cZ, 12, .inl (cn 6))), ((a 11), .inr (1, [.int (z 174), .int (z 175), .int (z 176), .int (z 177), .int (z 178), .int (z 179), .int (z 180), .int (z 189), .int (z 181), .int (z 182), .int (z 183), .int (z 184), .int (z 185), .int (z 186), .int (z 187)])), (pd0, .inr (2, [.ref pd1, .int ln])), (pd1, .inl (cI, 60, .inl pd)), (m0, .inr (1, [.int (tm 0), .int (tm 1), .int (tm 2), .int (tm 3), .int (tm 4), .int (tm 5), .int (tm 6), .int (tm 7), .int (tm 8), .int (tm 9), .int (tm 10), .int (tm 11), .int (tm 12), .int (tm 13), .int (tm 14)])), (ts0, .inr (4, [.ref ts1])), (ts1, .inl (cI, 6, .inl tv)), (ho0, .inr (0, [.ref ho1, .int old, .int sz])), (ho1, .inl (cS, 6, .inr (.inr (.inr (.inr (stA ha)))))), (xs, .inl (cS, 2, .inr (.inr (.inr (.inr (stA sa)))))), (xv, .inl (cZ, 2, .inl sv))] ++ (hsW cI cZ ha cs ++ (stW cI cZ (sa 0) (sc 0) ++ stW cI cZ (sa 1) (sc 1))))) := by
  refine xk_bodyi (by decide) (Nat.le_of_ble_eq_true rfl) ?_
  intro p e s m below meth c A ls args Q hx hb hr hts hown hlocks hml hin hK hP hD hS hA hN hZ hl hQ
  have hl : lv_has ls 3 [(0, .ref x0), (1, .int p1), (2, .int p2)] := hl
  obtain ⟨hrs, hso, hro, hk1, hk2⟩ := id hRS
  obtain ⟨his, hig, hir, hsp, hrp, hlo⟩ := id hI
  refine lv_aload_n hx hb dX7_stretch_0 rfl (lv_at hl 0 rfl) ?_
  refine va_get (D := D) (ci := 7) (v := .ref (a 0)) (C := RX7) (T := TX7) (N := 7) hx hb hts xin7 hown hK hP 0 rfl rfl 0 (by decide) (hts _ (List.mem_cons_of_mem _ mw_1_216)) (fun _ h9 => h9) rfl dX7_stretch_1 ?_
  refine va_getN (D := D) (ci := 6) (v := .ref (a 7)) (C := RX6) (T := TX6) (N := 4) hx hb hts xin6 hown hK hP 1 rfl rfl 2 (by decide) (xnf_21 hN) (fun _ h9 => h9) rfl dX7_stretch_4 ?_
  refine lv_iload_n hx hb dX7_stretch_7 rfl (lv_at hl 1 rfl) ?_
  refine xk_Vi0 (As := [.int p1]) (rest := []) hx hb hml hown hts hK hN hZ hP hD hS hA mb_X3_has mw_2_125 mw_2_52 mw_2_53 (c_X3_has l D cI cZ cS (a 7) (a 8) (a 9) (a 10) (cn 7 1) p1 ) [8] 8 3 rfl rfl (by decide) rfl (fun _ => by simp only [List.map]) (by decide) (by decide) rfl hl.1 rfl (Nat.le_of_ble_eq_true rfl) dX7_stretch_8 ⟨Nat.zero_le _, Nat.zero_le _⟩ (fun _ => rfl) (fun r8 _ H locs hw hP hD hS => ?_)
  rcases hw with ⟨rfl, b8⟩ | ⟨rfl, b8⟩
  · have b8 : hasS (cn 7 1) p1 := b8
    have hst : strC z p1 := (hasS_iff hro hir p1).mp b8
    refine lv_if_ne (tgt := 16) hx hb dX7_stretch_11 (by decide) (fun _ => ?_) (fun c11 => absurd c11 (by decide))
    refine lv_iload_n hx hb dX7_stretch_16 rfl (lv_at hl 2 rfl) ?_
    have h17 : p2.toInt < 0 ∨ 3 < p2.toInt ∨ p2.toInt = 0 ∨ p2.toInt = 1 ∨ p2.toInt = 2 ∨ p2.toInt = 3 := by omega
    rcases h17 with t17 | t17 | t17 | t17 | t17 | t17
    · refine lv_tableOut (tgt := 117) hx hb dX7_stretch_17 (by first | exact Or.inl t17 | exact Or.inr t17) (by decide) ?_
      refine lv_bipush (v := (-2)) hx hb dX7_stretch_117 (by decide) ?_
      exact xk_reti () hx hb hr hlocks (xk_P hP (by rfl)) (by unfold strA; rw [if_pos hst, if_neg (by omega), if_neg (by omega), if_neg (by omega), if_neg (by omega)]) hS dX7_stretch_119 hQ
    · refine lv_tableOut (tgt := 117) hx hb dX7_stretch_17 (by first | exact Or.inl t17 | exact Or.inr t17) (by decide) ?_
      refine lv_bipush (v := (-2)) hx hb dX7_stretch_117 (by decide) ?_
      exact xk_reti () hx hb hr hlocks (xk_P hP (by rfl)) (by unfold strA; rw [if_pos hst, if_neg (by omega), if_neg (by omega), if_neg (by omega), if_neg (by omega)]) hS dX7_stretch_119 hQ
    · refine lv_tableIn (off := 31) (tgt := 48) hx hb dX7_stretch_17 (by rw [t17]; decide) (by rw [t17]; decide) (by rw [t17]; rfl) (by decide) ?_
      refine lv_aload_n hx hb dX7_stretch_48 rfl (lv_at hl 0 rfl) ?_
      refine va_get (D := D) (ci := 7) (v := .ref (a 0)) (C := RX7) (T := TX7) (N := 7) hx hb hts xin7 hown hK hP 0 rfl rfl 0 (by decide) (hts _ (List.mem_cons_of_mem _ mw_1_216)) (fun _ h9 => h9) rfl dX7_stretch_49 ?_
      refine va_getN (D := D) (ci := 6) (v := .ref (a 7)) (C := RX6) (T := TX6) (N := 4) hx hb hts xin6 hown hK hP 1 rfl rfl 2 (by decide) (xnf_21 hN) (fun _ h9 => h9) rfl dX7_stretch_52 ?_
      refine lv_iload_n hx hb dX7_stretch_55 rfl (lv_at hl 1 rfl) ?_
      refine xk_Vi0 (As := [.int p1]) (rest := []) hx hb hml hown hts hK hN hZ hP hD hS hA mb_X3_stepsOf mw_2_126 mw_2_48 mw_2_49 (c_X3_stepsOf l D cI cZ cS (a 7) (a 8) (a 9) (a 10) (cn 7 1) (cn 4) p1 ) [8, 9] 8 3 rfl rfl (by decide) rfl (fun _ => by simp only [List.map]) (by decide) (by decide) rfl hl.1 rfl (Nat.le_of_ble_eq_true rfl) dX7_stretch_56 ⟨Nat.zero_le _, Nat.zero_le _⟩ (fun _ => rfl) (fun r56 _ H locs hw hP hD hS => ?_)
      have e56 : r56 = if hasS (cn 7 1) p1 then (cn 4) p1.toInt.toNat else 0 := hw
      rw [stepsOf_z hro hir, if_pos hst] at e56
      exact xk_reti () hx hb hr hlocks (xk_P hP (by rfl)) (by unfold strA; rw [if_pos hst, if_pos t17]; exact e56) hS dX7_stretch_59 hQ
    · refine lv_tableIn (off := 43) (tgt := 60) hx hb dX7_stretch_17 (by rw [t17]; decide) (by rw [t17]; decide) (by rw [t17]; rfl) (by decide) ?_
      refine lv_aload_n hx hb dX7_stretch_60 rfl (lv_at hl 0 rfl) ?_
      refine va_get (D := D) (ci := 7) (v := .ref (a 0)) (C := RX7) (T := TX7) (N := 7) hx hb hts xin7 hown hK hP 0 rfl rfl 0 (by decide) (hts _ (List.mem_cons_of_mem _ mw_1_216)) (fun _ h9 => h9) rfl dX7_stretch_61 ?_
      refine va_getN (D := D) (ci := 6) (v := .ref (a 7)) (C := RX6) (T := TX6) (N := 4) hx hb hts xin6 hown hK hP 1 rfl rfl 2 (by decide) (xnf_21 hN) (fun _ h9 => h9) rfl dX7_stretch_64 ?_
      refine lv_iload_n hx hb dX7_stretch_67 rfl (lv_at hl 1 rfl) ?_
      refine xk_Vi0 (As := [.int p1]) (rest := []) hx hb hml hown hts hK hN hZ hP hD hS hA mb_X3_slopeOf mw_2_127 mw_2_128 mw_2_129 (c_X3_slopeOf l D cI cZ cS (a 7) (a 8) (a 9) (a 10) (cn 7 1) (cn 5) p1 ) [8, 10] 8 3 rfl rfl (by decide) rfl (fun _ => by simp only [List.map]) (by decide) (by decide) rfl hl.1 rfl (Nat.le_of_ble_eq_true rfl) dX7_stretch_68 ⟨Nat.zero_le _, Nat.zero_le _⟩ (fun _ => rfl) (fun r68 _ H locs hw hP hD hS => ?_)
      have e68 : r68 = if hasS (cn 7 1) p1 then (cn 5) p1.toInt.toNat else 0 := hw
      rw [slopeOf_z hro hir, if_pos hst] at e68
      refine lv_iconst (v := 3) hx hb dX7_stretch_71 (by decide) ?_
      refine lv_iadd hx hb dX7_stretch_72 ?_
      refine lv_topi (fun x72 e72 => ?_)
      exact xk_reti () hx hb hr hlocks (xk_P hP (by rfl)) (by unfold strA; rw [if_pos hst, if_neg (by omega), if_pos t17]; rw [e72, e68]) hS dX7_stretch_73 hQ
    · refine lv_tableIn (off := 57) (tgt := 74) hx hb dX7_stretch_17 (by rw [t17]; decide) (by rw [t17]; decide) (by rw [t17]; rfl) (by decide) ?_
      refine lv_aload_n hx hb dX7_stretch_74 rfl (lv_at hl 0 rfl) ?_
      refine va_get (D := D) (ci := 7) (v := .ref (a 0)) (C := RX7) (T := TX7) (N := 7) hx hb hts xin7 hown hK hP 0 rfl rfl 0 (by decide) (hts _ (List.mem_cons_of_mem _ mw_1_216)) (fun _ h9 => h9) rfl dX7_stretch_75 ?_
      refine va_getN (D := D) (ci := 6) (v := .ref (a 7)) (C := RX6) (T := TX6) (N := 4) hx hb hts xin6 hown hK hP 1 rfl rfl 2 (by decide) (xnf_21 hN) (fun _ h9 => h9) rfl dX7_stretch_78 ?_
      refine lv_iload_n hx hb dX7_stretch_81 rfl (lv_at hl 1 rfl) ?_
      refine xk_Vi0 (As := [.int p1]) (rest := []) hx hb hml hown hts hK hN hZ hP hD hS hA mb_X3_isMuddy mw_2_131 mw_2_132 mw_2_133 (c_X3_isMuddy l D cI cZ cS (a 7) (a 8) (a 9) (a 10) (cn 7 1) (cn 6) p1 ) [8, 11] 8 3 rfl rfl (by decide) rfl (fun _ => by simp only [List.map]) (by decide) (by decide) rfl hl.1 rfl (Nat.le_of_ble_eq_true rfl) dX7_stretch_82 ⟨Nat.zero_le _, Nat.zero_le _⟩ (fun _ => rfl) (fun r82 _ H locs hw hP hD hS => ?_)
      rcases hw with ⟨rfl, b82⟩ | ⟨rfl, b82⟩
      · have b82 : hasS (cn 7 1) p1 ∧ ¬ (cn 6) p1.toInt.toNat = 0 := b82
        rw [muddy_z hro hir] at b82
        refine lv_if_eq (tgt := 92) hx hb dX7_stretch_85 (by decide) (fun c85 => absurd c85 (by decide)) (fun _ => ?_)
        refine lv_iconst (v := 1) hx hb dX7_stretch_88 (by decide) ?_
        refine lv_goto (tgt := 93) hx hb dX7_stretch_89 (by decide) ?_
        exact xk_reti () hx hb hr hlocks (xk_P hP (by rfl)) (by unfold strA; rw [if_pos hst, if_neg (by omega), if_neg (by omega), if_pos t17]; exact b82.2.symm) hS dX7_stretch_93 hQ
      · have b82 : ¬ (hasS (cn 7 1) p1 ∧ ¬ (cn 6) p1.toInt.toNat = 0) := b82
        rw [muddy_z hro hir] at b82
        refine lv_if_eq (tgt := 92) hx hb dX7_stretch_85 (by decide) (fun _ => ?_) (fun c85 => absurd (by decide) c85)
        refine lv_iconst (v := 0) hx hb dX7_stretch_92 (by decide) ?_
        exact xk_reti () hx hb hr hlocks (xk_P hP (by rfl)) (by unfold strA; rw [if_pos hst, if_neg (by omega), if_neg (by omega), if_pos t17]; exact (((hir.2 p1.toInt.toNat (by have := hst.1; have := hst.2; omega)).2.2).resolve_right (fun q => b82 ⟨hst, q⟩)).symm) hS dX7_stretch_93 hQ
    · refine lv_tableIn (off := 77) (tgt := 94) hx hb dX7_stretch_17 (by rw [t17]; decide) (by rw [t17]; decide) (by rw [t17]; rfl) (by decide) ?_
      refine lv_aload_n hx hb dX7_stretch_94 rfl (lv_at hl 0 rfl) ?_
      refine va_get (D := D) (ci := 7) (v := .ref (a 0)) (C := RX7) (T := TX7) (N := 7) hx hb hts xin7 hown hK hP 0 rfl rfl 0 (by decide) (hts _ (List.mem_cons_of_mem _ mw_1_216)) (fun _ h9 => h9) rfl dX7_stretch_95 ?_
      refine va_getN (D := D) (ci := 6) (v := .ref (a 7)) (C := RX6) (T := TX6) (N := 4) hx hb hts xin6 hown hK hP 1 rfl rfl 2 (by decide) (xnf_21 hN) (fun _ h9 => h9) rfl dX7_stretch_98 ?_
      refine lv_iload_n hx hb dX7_stretch_101 rfl (lv_at hl 1 rfl) ?_
      refine lv_aload_n hx hb dX7_stretch_102 rfl (lv_at hl 0 rfl) ?_
      refine va_get (D := D) (ci := 7) (v := .ref (a 0)) (C := RX7) (T := TX7) (N := 7) hx hb hts xin7 hown hK hP 0 rfl rfl 0 (by decide) (hts _ (List.mem_cons_of_mem _ mw_1_216)) (fun _ h9 => h9) rfl dX7_stretch_103 ?_
      refine va_getN (D := D) (ci := 6) (v := .ref (a 1)) (C := RX6) (T := TX6) (N := 4) hx hb hts xin6 hown hK hP 1 rfl rfl 0 (by decide) (xnf_19 hN) (fun _ h9 => h9) rfl dX7_stretch_106 ?_
      refine lv_iconst (v := 5) hx hb dX7_stretch_109 (by decide) ?_
      refine xk_Vi0 (As := [.int 5]) (rest := [.int p1, .ref (a 7)]) hx hb hml hown hts hK hN hZ hP hD hS hA mb_X4_valueOf mw_2_10 mw_1_206 mw_1_207 (c_X4_valueOf l D cI cZ cS (a 1) (a 2) (cn 0) (5 : Int32) ) [2, 3] 2 4 rfl rfl (by decide) rfl (fun _ => by simp only [List.map]) (by decide) (by decide) rfl hl.1 rfl (Nat.le_of_ble_eq_true rfl) dX7_stretch_110 ⟨Nat.zero_le _, Nat.zero_le _⟩ (fun _ => rfl) (fun r110 _ H locs hw hP hD hS => ?_)
      have e110 : r110 = if 0 ≤ 5 ∧ 5 < 6 then (cn 0) 5 else 0 := hw
      refine xk_top (z := (z 5)) (by rw [e110, if_pos (by decide)]; exact hrs 5 (by omega)) ?_
      refine xk_Vi0 (As := [.int p1, .int (z 5)]) (rest := []) hx hb hml hown hts hK hN hZ hP hD hS hA mb_X3_beatsToSing mw_2_135 mw_2_136 mw_2_137 (c_X3_beatsToSing l D cI cZ cS (a 7) (a 8) (a 9) (a 10) (cn 7 1) (cn 4) (cn 5) (cn 6) z p1 (z 5) (by exact hro) (by exact hir) (by exact hst) (by exact his.2.2.2.2)) [8, 9, 10, 11] 8 3 rfl rfl (by decide) rfl (fun _ => by simp only [List.map]) (by decide) (by decide) rfl hl.1 rfl (Nat.le_of_ble_eq_true rfl) dX7_stretch_113 ⟨Nat.zero_le _, Nat.zero_le _⟩ (fun _ => rfl) (fun r113 _ H locs hw hP hD hS => ?_)
      have p113 : r113.toInt = singF (ofZ z p1.toInt.toNat 0).toInt (z 5).toInt (ofZ z p1.toInt.toNat 2 = 1) := hw
      exact xk_reti () hx hb hr hlocks (xk_P hP (by rfl)) (by unfold strA; rw [if_pos hst, if_neg (by omega), if_neg (by omega), if_neg (by omega), if_pos t17]; exact p113) hS dX7_stretch_116 hQ
  · have b8 : ¬ (hasS (cn 7 1) p1) := b8
    have hns : ¬ strC z p1 := fun hh => b8 ((hasS_iff hro hir p1).mpr hh)
    refine lv_if_ne (tgt := 16) hx hb dX7_stretch_11 (by decide) (fun c11 => absurd (by decide) c11) (fun _ => ?_)
    refine lv_iconst (v := (-1)) hx hb dX7_stretch_14 (by decide) ?_
    exact xk_reti () hx hb hr hlocks (xk_P hP (by rfl)) (by unfold strA; rw [if_neg hns]) hS dX7_stretch_15 hQ

set_option maxHeartbeats 4000000 in
set_option maxRecDepth 100000 in
theorem c_X7_walk (l : Launch) (D : va_G) (cI cZ cS : ClassId) (x0 xs xv ho0 ho1 pd0 pd1 m0 ts0 ts1 : Nat) (a : Nat → Nat) (ha sa : Nat → Nat → Nat) (cn : Nat → Nat → Int32) (cs sc : Nat → Nat → Nat → Int32) (tm tv pd sv : Nat → Int32) (ln old sz : Int32) (z : Nat → Int32) (p1 : Int32) (hRS : RS cn z) (hI : InvZ z) : xMi l yX7_walk cX7_walk 2 (some .int) ({ frames := 1, cells := 0, slots := 0, locals := 21 } : Room) D (xTy cI cZ cS) [.ref x0, .int p1] ([(x0, .inr (7, [.ref (a 0), .ref xs, .ref xv, .ref ho0, .ref pd0, .ref m0, .ref ts0])), ((a 0), .inr (6, [.ref (a 1), .ref (a 3), .ref (a 7), .ref (a 11)])), ((a 1), .inr (4, [.ref (a 2)])), ((a 2), .inl (cI, 6, .inl (cn 0))), ((a 3), .inr (5, [.int (cn 7 0), .ref (a 4), .ref (a 5), .ref (a 6)])), ((a 4), .inl (cI, 10, .inl (cn 1))), ((a 5), .inl (cI, 120, .inl (cn 2))), ((a 6), .inl (cZ, 120, .inl (cn 3))), ((a 7), .inr (3, [.int (cn 7 1), .ref (a 8), .ref (a 9), .ref (a 10)])), ((a 8), .inl (cI, 12, .inl (cn 4))), ((a 9), .inl (cI, 12, .inl (cn 5))), ((a 10), .inl (cZ, 12, .inl (cn 6))), ((a 11), .inr (1, [.int (z 174), .int (z 175), .int (z 176), .int (z 177), .int (z 178), .int (z 179), .int (z 180), .int (z 189), .int (z 181), .int (z 182), .int (z 183), .int (z 184), .int (z 185), .int (z 186), .int (z 187)])), (pd0, .inr (2, [.ref pd1, .int ln])), (pd1, .inl (cI, 60, .inl pd)), (m0, .inr (1, [.int (tm 0), .int (tm 1), .int (tm 2), .int (tm 3), .int (tm 4), .int (tm 5), .int (tm 6), .int (tm 7), .int (tm 8), .int (tm 9), .int (tm 10), .int (tm 11), .int (tm 12), .int (tm 13), .int (tm 14)])), (ts0, .inr (4, [.ref ts1])), (ts1, .inl (cI, 6, .inl tv)), (ho0, .inr (0, [.ref ho1, .int old, .int sz])), (ho1, .inl (cS, 6, .inr (.inr (.inr (.inr (stA ha)))))), (xs, .inl (cS, 2, .inr (.inr (.inr (.inr (stA sa)))))), (xv, .inl (cZ, 2, .inl sv))] ++ (hsW cI cZ ha cs ++ (stW cI cZ (sa 0) (sc 0) ++ stW cI cZ (sa 1) (sc 1)))) (fun (r : Int32) (_ : Unit) => r = walkR z p1) (fun (_ : Unit) => ([(x0, .inr (7, [.ref (a 0), .ref xs, .ref xv, .ref ho0, .ref pd0, .ref m0, .ref ts0])), ((a 0), .inr (6, [.ref (a 1), .ref (a 3), .ref (a 7), .ref (a 11)])), ((a 1), .inr (4, [.ref (a 2)])), ((a 2), .inl (cI, 6, .inl (cn 0))), ((a 3), .inr (5, [.int (cn 7 0), .ref (a 4), .ref (a 5), .ref (a 6)])), ((a 4), .inl (cI, 10, .inl (cn 1))), ((a 5), .inl (cI, 120, .inl (cn 2))), ((a 6), .inl (cZ, 120, .inl (cn 3))), ((a 7), .inr (3, [.int (cn 7 1), .ref (a 8), .ref (a 9), .ref (a 10)])), ((a 8), .inl (cI, 12, .inl (cn 4))), ((a 9), .inl (cI, 12, .inl (cn 5))), ((a 10), .inl (cZ, 12, .inl (cn 6))), ((a 11), .inr (1, [.int (z 174), .int (z 175), .int (z 176), .int (z 177), .int (z 178), .int (z 179), .int (z 180), .int (z 189), .int (z 181), .int (z 182), .int (z 183), .int (z 184), .int (z 185), .int (z 186), .int (z 187)])), (pd0, .inr (2, [.ref pd1, .int ln])), (pd1, .inl (cI, 60, .inl pd)), (m0, .inr (1, [.int (tm 0), .int (tm 1), .int (tm 2), .int (tm 3), .int (tm 4), .int (tm 5), .int (tm 6), .int (tm 7), .int (tm 8), .int (tm 9), .int (tm 10), .int (tm 11), .int (tm 12), .int (tm 13), .int (tm 14)])), (ts0, .inr (4, [.ref ts1])), (ts1, .inl (cI, 6, .inl tv)), (ho0, .inr (0, [.ref ho1, .int old, .int sz])), (ho1, .inl (cS, 6, .inr (.inr (.inr (.inr (stA ha)))))), (xs, .inl (cS, 2, .inr (.inr (.inr (.inr (stA sa)))))), (xv, .inl (cZ, 2, .inl sv))] ++ (hsW cI cZ ha cs ++ (stW cI cZ (sa 0) (sc 0) ++ stW cI cZ (sa 1) (sc 1))))) := by
  refine xk_bodyi (by decide) (Nat.le_of_ble_eq_true rfl) ?_
  intro p e s m below meth c A ls args Q hx hb hr hts hown hlocks hml hin hK hP hD hS hA hN hZ hl hQ
  have hl : lv_has ls 2 [(0, .ref x0), (1, .int p1)] := hl
  obtain ⟨hrs, hso, hro, hk1, hk2⟩ := id hRS
  obtain ⟨his, hig, hir, hsp, hrp, hlo⟩ := id hI
  refine lv_iload_n hx hb dX7_walk_0 rfl (lv_at hl 1 rfl) ?_
  have h1 : p1.toInt < 0 ∨ 14 < p1.toInt ∨ p1.toInt = 0 ∨ p1.toInt = 1 ∨ p1.toInt = 2 ∨ p1.toInt = 3 ∨ p1.toInt = 4 ∨ p1.toInt = 5 ∨ p1.toInt = 6 ∨ p1.toInt = 7 ∨ p1.toInt = 8 ∨ p1.toInt = 9 ∨ p1.toInt = 10 ∨ p1.toInt = 11 ∨ p1.toInt = 12 ∨ p1.toInt = 13 ∨ p1.toInt = 14 := by omega
  rcases h1 with t1 | t1 | t1 | t1 | t1 | t1 | t1 | t1 | t1 | t1 | t1 | t1 | t1 | t1 | t1 | t1 | t1
  · refine lv_tableOut (tgt := 256) hx hb dX7_walk_1 (by first | exact Or.inl t1 | exact Or.inr t1) (by decide) ?_
    refine lv_bipush (v := (-2)) hx hb dX7_walk_256 (by decide) ?_
    exact xk_reti () hx hb hr hlocks (xk_P hP (by rfl)) (by rw [walkR, if_neg (by omega)]) hS dX7_walk_258 hQ
  · refine lv_tableOut (tgt := 256) hx hb dX7_walk_1 (by first | exact Or.inl t1 | exact Or.inr t1) (by decide) ?_
    refine lv_bipush (v := (-2)) hx hb dX7_walk_256 (by decide) ?_
    exact xk_reti () hx hb hr hlocks (xk_P hP (by rfl)) (by rw [walkR, if_neg (by omega)]) hS dX7_walk_258 hQ
  · refine lv_tableIn (off := 75) (tgt := 76) hx hb dX7_walk_1 (by rw [t1]; decide) (by rw [t1]; decide) (by rw [t1]; rfl) (by decide) ?_
    refine lv_aload_n hx hb dX7_walk_76 rfl (lv_at hl 0 rfl) ?_
    refine va_get (D := D) (ci := 7) (v := .ref (a 0)) (C := RX7) (T := TX7) (N := 7) hx hb hts xin7 hown hK hP 0 rfl rfl 0 (by decide) (hts _ (List.mem_cons_of_mem _ mw_1_216)) (fun _ h9 => h9) rfl dX7_walk_77 ?_
    refine va_getN (D := D) (ci := 6) (v := .ref (a 11)) (C := RX6) (T := TX6) (N := 4) hx hb hts xin6 hown hK hP 1 rfl rfl 3 (by decide) (xnf_22 hN) (fun _ h9 => h9) rfl dX7_walk_80 ?_
    refine va_getN (D := D) (ci := 1) (v := .int (z 174)) (C := RX1) (T := TX1) (N := 15) hx hb hts xin1 hown hK hP 12 rfl rfl 0 (by decide) (xnf_5 hN) (fun _ h9 => h9) rfl dX7_walk_83 ?_
    exact xk_reti () hx hb hr hlocks (xk_P hP (by rfl)) (by rw [walkR, if_pos (by omega), show 174 + p1.toInt.toNat = 174 from by omega]) hS dX7_walk_86 hQ
  · refine lv_tableIn (off := 86) (tgt := 87) hx hb dX7_walk_1 (by rw [t1]; decide) (by rw [t1]; decide) (by rw [t1]; rfl) (by decide) ?_
    refine lv_aload_n hx hb dX7_walk_87 rfl (lv_at hl 0 rfl) ?_
    refine va_get (D := D) (ci := 7) (v := .ref (a 0)) (C := RX7) (T := TX7) (N := 7) hx hb hts xin7 hown hK hP 0 rfl rfl 0 (by decide) (hts _ (List.mem_cons_of_mem _ mw_1_216)) (fun _ h9 => h9) rfl dX7_walk_88 ?_
    refine va_getN (D := D) (ci := 6) (v := .ref (a 11)) (C := RX6) (T := TX6) (N := 4) hx hb hts xin6 hown hK hP 1 rfl rfl 3 (by decide) (xnf_22 hN) (fun _ h9 => h9) rfl dX7_walk_91 ?_
    refine va_getN (D := D) (ci := 1) (v := .int (z 175)) (C := RX1) (T := TX1) (N := 15) hx hb hts xin1 hown hK hP 12 rfl rfl 1 (by decide) (xnf_6 hN) (fun _ h9 => h9) rfl dX7_walk_94 ?_
    exact xk_reti () hx hb hr hlocks (xk_P hP (by rfl)) (by rw [walkR, if_pos (by omega), show 174 + p1.toInt.toNat = 175 from by omega]) hS dX7_walk_97 hQ
  · refine lv_tableIn (off := 97) (tgt := 98) hx hb dX7_walk_1 (by rw [t1]; decide) (by rw [t1]; decide) (by rw [t1]; rfl) (by decide) ?_
    refine lv_aload_n hx hb dX7_walk_98 rfl (lv_at hl 0 rfl) ?_
    refine va_get (D := D) (ci := 7) (v := .ref (a 0)) (C := RX7) (T := TX7) (N := 7) hx hb hts xin7 hown hK hP 0 rfl rfl 0 (by decide) (hts _ (List.mem_cons_of_mem _ mw_1_216)) (fun _ h9 => h9) rfl dX7_walk_99 ?_
    refine va_getN (D := D) (ci := 6) (v := .ref (a 11)) (C := RX6) (T := TX6) (N := 4) hx hb hts xin6 hown hK hP 1 rfl rfl 3 (by decide) (xnf_22 hN) (fun _ h9 => h9) rfl dX7_walk_102 ?_
    refine va_getN (D := D) (ci := 1) (v := .int (z 176)) (C := RX1) (T := TX1) (N := 15) hx hb hts xin1 hown hK hP 12 rfl rfl 2 (by decide) (xnf_7 hN) (fun _ h9 => h9) rfl dX7_walk_105 ?_
    exact xk_reti () hx hb hr hlocks (xk_P hP (by rfl)) (by rw [walkR, if_pos (by omega), show 174 + p1.toInt.toNat = 176 from by omega]) hS dX7_walk_108 hQ
  · refine lv_tableIn (off := 108) (tgt := 109) hx hb dX7_walk_1 (by rw [t1]; decide) (by rw [t1]; decide) (by rw [t1]; rfl) (by decide) ?_
    refine lv_aload_n hx hb dX7_walk_109 rfl (lv_at hl 0 rfl) ?_
    refine va_get (D := D) (ci := 7) (v := .ref (a 0)) (C := RX7) (T := TX7) (N := 7) hx hb hts xin7 hown hK hP 0 rfl rfl 0 (by decide) (hts _ (List.mem_cons_of_mem _ mw_1_216)) (fun _ h9 => h9) rfl dX7_walk_110 ?_
    refine va_getN (D := D) (ci := 6) (v := .ref (a 11)) (C := RX6) (T := TX6) (N := 4) hx hb hts xin6 hown hK hP 1 rfl rfl 3 (by decide) (xnf_22 hN) (fun _ h9 => h9) rfl dX7_walk_113 ?_
    refine va_getN (D := D) (ci := 1) (v := .int (z 177)) (C := RX1) (T := TX1) (N := 15) hx hb hts xin1 hown hK hP 12 rfl rfl 3 (by decide) (xnf_8 hN) (fun _ h9 => h9) rfl dX7_walk_116 ?_
    exact xk_reti () hx hb hr hlocks (xk_P hP (by rfl)) (by rw [walkR, if_pos (by omega), show 174 + p1.toInt.toNat = 177 from by omega]) hS dX7_walk_119 hQ
  · refine lv_tableIn (off := 119) (tgt := 120) hx hb dX7_walk_1 (by rw [t1]; decide) (by rw [t1]; decide) (by rw [t1]; rfl) (by decide) ?_
    refine lv_aload_n hx hb dX7_walk_120 rfl (lv_at hl 0 rfl) ?_
    refine va_get (D := D) (ci := 7) (v := .ref (a 0)) (C := RX7) (T := TX7) (N := 7) hx hb hts xin7 hown hK hP 0 rfl rfl 0 (by decide) (hts _ (List.mem_cons_of_mem _ mw_1_216)) (fun _ h9 => h9) rfl dX7_walk_121 ?_
    refine va_getN (D := D) (ci := 6) (v := .ref (a 11)) (C := RX6) (T := TX6) (N := 4) hx hb hts xin6 hown hK hP 1 rfl rfl 3 (by decide) (xnf_22 hN) (fun _ h9 => h9) rfl dX7_walk_124 ?_
    refine va_getN (D := D) (ci := 1) (v := .int (z 178)) (C := RX1) (T := TX1) (N := 15) hx hb hts xin1 hown hK hP 12 rfl rfl 4 (by decide) (xnf_9 hN) (fun _ h9 => h9) rfl dX7_walk_127 ?_
    exact xk_reti () hx hb hr hlocks (xk_P hP (by rfl)) (by rw [walkR, if_pos (by omega), show 174 + p1.toInt.toNat = 178 from by omega]) hS dX7_walk_130 hQ
  · refine lv_tableIn (off := 130) (tgt := 131) hx hb dX7_walk_1 (by rw [t1]; decide) (by rw [t1]; decide) (by rw [t1]; rfl) (by decide) ?_
    refine lv_aload_n hx hb dX7_walk_131 rfl (lv_at hl 0 rfl) ?_
    refine va_get (D := D) (ci := 7) (v := .ref (a 0)) (C := RX7) (T := TX7) (N := 7) hx hb hts xin7 hown hK hP 0 rfl rfl 0 (by decide) (hts _ (List.mem_cons_of_mem _ mw_1_216)) (fun _ h9 => h9) rfl dX7_walk_132 ?_
    refine va_getN (D := D) (ci := 6) (v := .ref (a 11)) (C := RX6) (T := TX6) (N := 4) hx hb hts xin6 hown hK hP 1 rfl rfl 3 (by decide) (xnf_22 hN) (fun _ h9 => h9) rfl dX7_walk_135 ?_
    refine va_getN (D := D) (ci := 1) (v := .int (z 179)) (C := RX1) (T := TX1) (N := 15) hx hb hts xin1 hown hK hP 12 rfl rfl 5 (by decide) (xnf_10 hN) (fun _ h9 => h9) rfl dX7_walk_138 ?_
    exact xk_reti () hx hb hr hlocks (xk_P hP (by rfl)) (by rw [walkR, if_pos (by omega), show 174 + p1.toInt.toNat = 179 from by omega]) hS dX7_walk_141 hQ
  · refine lv_tableIn (off := 141) (tgt := 142) hx hb dX7_walk_1 (by rw [t1]; decide) (by rw [t1]; decide) (by rw [t1]; rfl) (by decide) ?_
    refine lv_aload_n hx hb dX7_walk_142 rfl (lv_at hl 0 rfl) ?_
    refine va_get (D := D) (ci := 7) (v := .ref (a 0)) (C := RX7) (T := TX7) (N := 7) hx hb hts xin7 hown hK hP 0 rfl rfl 0 (by decide) (hts _ (List.mem_cons_of_mem _ mw_1_216)) (fun _ h9 => h9) rfl dX7_walk_143 ?_
    refine va_getN (D := D) (ci := 6) (v := .ref (a 11)) (C := RX6) (T := TX6) (N := 4) hx hb hts xin6 hown hK hP 1 rfl rfl 3 (by decide) (xnf_22 hN) (fun _ h9 => h9) rfl dX7_walk_146 ?_
    refine va_getN (D := D) (ci := 1) (v := .int (z 180)) (C := RX1) (T := TX1) (N := 15) hx hb hts xin1 hown hK hP 12 rfl rfl 6 (by decide) (xnf_11 hN) (fun _ h9 => h9) rfl dX7_walk_149 ?_
    exact xk_reti () hx hb hr hlocks (xk_P hP (by rfl)) (by rw [walkR, if_pos (by omega), show 174 + p1.toInt.toNat = 180 from by omega]) hS dX7_walk_152 hQ
  · refine lv_tableIn (off := 152) (tgt := 153) hx hb dX7_walk_1 (by rw [t1]; decide) (by rw [t1]; decide) (by rw [t1]; rfl) (by decide) ?_
    refine lv_aload_n hx hb dX7_walk_153 rfl (lv_at hl 0 rfl) ?_
    refine va_get (D := D) (ci := 7) (v := .ref (a 0)) (C := RX7) (T := TX7) (N := 7) hx hb hts xin7 hown hK hP 0 rfl rfl 0 (by decide) (hts _ (List.mem_cons_of_mem _ mw_1_216)) (fun _ h9 => h9) rfl dX7_walk_154 ?_
    refine va_getN (D := D) (ci := 6) (v := .ref (a 11)) (C := RX6) (T := TX6) (N := 4) hx hb hts xin6 hown hK hP 1 rfl rfl 3 (by decide) (xnf_22 hN) (fun _ h9 => h9) rfl dX7_walk_157 ?_
    refine va_getN (D := D) (ci := 1) (v := .int (z 181)) (C := RX1) (T := TX1) (N := 15) hx hb hts xin1 hown hK hP 12 rfl rfl 8 (by decide) (xnf_12 hN) (fun _ h9 => h9) rfl dX7_walk_160 ?_
    exact xk_reti () hx hb hr hlocks (xk_P hP (by rfl)) (by rw [walkR, if_pos (by omega), show 174 + p1.toInt.toNat = 181 from by omega]) hS dX7_walk_163 hQ
  · refine lv_tableIn (off := 163) (tgt := 164) hx hb dX7_walk_1 (by rw [t1]; decide) (by rw [t1]; decide) (by rw [t1]; rfl) (by decide) ?_
    refine lv_aload_n hx hb dX7_walk_164 rfl (lv_at hl 0 rfl) ?_
    refine va_get (D := D) (ci := 7) (v := .ref (a 0)) (C := RX7) (T := TX7) (N := 7) hx hb hts xin7 hown hK hP 0 rfl rfl 0 (by decide) (hts _ (List.mem_cons_of_mem _ mw_1_216)) (fun _ h9 => h9) rfl dX7_walk_165 ?_
    refine va_getN (D := D) (ci := 6) (v := .ref (a 11)) (C := RX6) (T := TX6) (N := 4) hx hb hts xin6 hown hK hP 1 rfl rfl 3 (by decide) (xnf_22 hN) (fun _ h9 => h9) rfl dX7_walk_168 ?_
    refine va_getN (D := D) (ci := 1) (v := .int (z 182)) (C := RX1) (T := TX1) (N := 15) hx hb hts xin1 hown hK hP 12 rfl rfl 9 (by decide) (xnf_13 hN) (fun _ h9 => h9) rfl dX7_walk_171 ?_
    exact xk_reti () hx hb hr hlocks (xk_P hP (by rfl)) (by rw [walkR, if_pos (by omega), show 174 + p1.toInt.toNat = 182 from by omega]) hS dX7_walk_174 hQ
  · refine lv_tableIn (off := 174) (tgt := 175) hx hb dX7_walk_1 (by rw [t1]; decide) (by rw [t1]; decide) (by rw [t1]; rfl) (by decide) ?_
    refine lv_aload_n hx hb dX7_walk_175 rfl (lv_at hl 0 rfl) ?_
    refine va_get (D := D) (ci := 7) (v := .ref (a 0)) (C := RX7) (T := TX7) (N := 7) hx hb hts xin7 hown hK hP 0 rfl rfl 0 (by decide) (hts _ (List.mem_cons_of_mem _ mw_1_216)) (fun _ h9 => h9) rfl dX7_walk_176 ?_
    refine va_getN (D := D) (ci := 6) (v := .ref (a 11)) (C := RX6) (T := TX6) (N := 4) hx hb hts xin6 hown hK hP 1 rfl rfl 3 (by decide) (xnf_22 hN) (fun _ h9 => h9) rfl dX7_walk_179 ?_
    refine va_getN (D := D) (ci := 1) (v := .int (z 183)) (C := RX1) (T := TX1) (N := 15) hx hb hts xin1 hown hK hP 12 rfl rfl 10 (by decide) (xnf_14 hN) (fun _ h9 => h9) rfl dX7_walk_182 ?_
    exact xk_reti () hx hb hr hlocks (xk_P hP (by rfl)) (by rw [walkR, if_pos (by omega), show 174 + p1.toInt.toNat = 183 from by omega]) hS dX7_walk_185 hQ
  · refine lv_tableIn (off := 185) (tgt := 186) hx hb dX7_walk_1 (by rw [t1]; decide) (by rw [t1]; decide) (by rw [t1]; rfl) (by decide) ?_
    refine lv_aload_n hx hb dX7_walk_186 rfl (lv_at hl 0 rfl) ?_
    refine va_get (D := D) (ci := 7) (v := .ref (a 0)) (C := RX7) (T := TX7) (N := 7) hx hb hts xin7 hown hK hP 0 rfl rfl 0 (by decide) (hts _ (List.mem_cons_of_mem _ mw_1_216)) (fun _ h9 => h9) rfl dX7_walk_187 ?_
    refine va_getN (D := D) (ci := 6) (v := .ref (a 11)) (C := RX6) (T := TX6) (N := 4) hx hb hts xin6 hown hK hP 1 rfl rfl 3 (by decide) (xnf_22 hN) (fun _ h9 => h9) rfl dX7_walk_190 ?_
    refine va_getN (D := D) (ci := 1) (v := .int (z 184)) (C := RX1) (T := TX1) (N := 15) hx hb hts xin1 hown hK hP 12 rfl rfl 11 (by decide) (xnf_15 hN) (fun _ h9 => h9) rfl dX7_walk_193 ?_
    exact xk_reti () hx hb hr hlocks (xk_P hP (by rfl)) (by rw [walkR, if_pos (by omega), show 174 + p1.toInt.toNat = 184 from by omega]) hS dX7_walk_196 hQ
  · refine lv_tableIn (off := 196) (tgt := 197) hx hb dX7_walk_1 (by rw [t1]; decide) (by rw [t1]; decide) (by rw [t1]; rfl) (by decide) ?_
    refine lv_aload_n hx hb dX7_walk_197 rfl (lv_at hl 0 rfl) ?_
    refine va_get (D := D) (ci := 7) (v := .ref (a 0)) (C := RX7) (T := TX7) (N := 7) hx hb hts xin7 hown hK hP 0 rfl rfl 0 (by decide) (hts _ (List.mem_cons_of_mem _ mw_1_216)) (fun _ h9 => h9) rfl dX7_walk_198 ?_
    refine va_getN (D := D) (ci := 6) (v := .ref (a 11)) (C := RX6) (T := TX6) (N := 4) hx hb hts xin6 hown hK hP 1 rfl rfl 3 (by decide) (xnf_22 hN) (fun _ h9 => h9) rfl dX7_walk_201 ?_
    refine va_getN (D := D) (ci := 1) (v := .int (z 185)) (C := RX1) (T := TX1) (N := 15) hx hb hts xin1 hown hK hP 12 rfl rfl 12 (by decide) (xnf_16 hN) (fun _ h9 => h9) rfl dX7_walk_204 ?_
    exact xk_reti () hx hb hr hlocks (xk_P hP (by rfl)) (by rw [walkR, if_pos (by omega), show 174 + p1.toInt.toNat = 185 from by omega]) hS dX7_walk_207 hQ
  · refine lv_tableIn (off := 207) (tgt := 208) hx hb dX7_walk_1 (by rw [t1]; decide) (by rw [t1]; decide) (by rw [t1]; rfl) (by decide) ?_
    refine lv_aload_n hx hb dX7_walk_208 rfl (lv_at hl 0 rfl) ?_
    refine va_get (D := D) (ci := 7) (v := .ref (a 0)) (C := RX7) (T := TX7) (N := 7) hx hb hts xin7 hown hK hP 0 rfl rfl 0 (by decide) (hts _ (List.mem_cons_of_mem _ mw_1_216)) (fun _ h9 => h9) rfl dX7_walk_209 ?_
    refine va_getN (D := D) (ci := 6) (v := .ref (a 11)) (C := RX6) (T := TX6) (N := 4) hx hb hts xin6 hown hK hP 1 rfl rfl 3 (by decide) (xnf_22 hN) (fun _ h9 => h9) rfl dX7_walk_212 ?_
    refine va_getN (D := D) (ci := 1) (v := .int (z 186)) (C := RX1) (T := TX1) (N := 15) hx hb hts xin1 hown hK hP 12 rfl rfl 13 (by decide) (xnf_17 hN) (fun _ h9 => h9) rfl dX7_walk_215 ?_
    exact xk_reti () hx hb hr hlocks (xk_P hP (by rfl)) (by rw [walkR, if_pos (by omega), show 174 + p1.toInt.toNat = 186 from by omega]) hS dX7_walk_218 hQ
  · refine lv_tableIn (off := 218) (tgt := 219) hx hb dX7_walk_1 (by rw [t1]; decide) (by rw [t1]; decide) (by rw [t1]; rfl) (by decide) ?_
    refine lv_aload_n hx hb dX7_walk_219 rfl (lv_at hl 0 rfl) ?_
    refine va_get (D := D) (ci := 7) (v := .ref (a 0)) (C := RX7) (T := TX7) (N := 7) hx hb hts xin7 hown hK hP 0 rfl rfl 0 (by decide) (hts _ (List.mem_cons_of_mem _ mw_1_216)) (fun _ h9 => h9) rfl dX7_walk_220 ?_
    refine va_getN (D := D) (ci := 6) (v := .ref (a 11)) (C := RX6) (T := TX6) (N := 4) hx hb hts xin6 hown hK hP 1 rfl rfl 3 (by decide) (xnf_22 hN) (fun _ h9 => h9) rfl dX7_walk_223 ?_
    refine va_getN (D := D) (ci := 1) (v := .int (z 187)) (C := RX1) (T := TX1) (N := 15) hx hb hts xin1 hown hK hP 12 rfl rfl 14 (by decide) (xnf_18 hN) (fun _ h9 => h9) rfl dX7_walk_226 ?_
    exact xk_reti () hx hb hr hlocks (xk_P hP (by rfl)) (by rw [walkR, if_pos (by omega), show 174 + p1.toInt.toNat = 187 from by omega]) hS dX7_walk_229 hQ
  · refine lv_tableIn (off := 229) (tgt := 230) hx hb dX7_walk_1 (by rw [t1]; decide) (by rw [t1]; decide) (by rw [t1]; rfl) (by decide) ?_
    refine lv_aload_n hx hb dX7_walk_230 rfl (lv_at hl 0 rfl) ?_
    refine va_get (D := D) (ci := 7) (v := .ref (a 0)) (C := RX7) (T := TX7) (N := 7) hx hb hts xin7 hown hK hP 0 rfl rfl 0 (by decide) (hts _ (List.mem_cons_of_mem _ mw_1_216)) (fun _ h9 => h9) rfl dX7_walk_231 ?_
    refine va_getN (D := D) (ci := 6) (v := .ref (a 11)) (C := RX6) (T := TX6) (N := 4) hx hb hts xin6 hown hK hP 1 rfl rfl 3 (by decide) (xnf_22 hN) (fun _ h9 => h9) rfl dX7_walk_234 ?_
    refine lv_aload_n hx hb dX7_walk_237 rfl (lv_at hl 0 rfl) ?_
    refine va_get (D := D) (ci := 7) (v := .ref (a 0)) (C := RX7) (T := TX7) (N := 7) hx hb hts xin7 hown hK hP 0 rfl rfl 0 (by decide) (hts _ (List.mem_cons_of_mem _ mw_1_216)) (fun _ h9 => h9) rfl dX7_walk_238 ?_
    refine va_getN (D := D) (ci := 6) (v := .ref (a 7)) (C := RX6) (T := TX6) (N := 4) hx hb hts xin6 hown hK hP 1 rfl rfl 2 (by decide) (xnf_21 hN) (fun _ h9 => h9) rfl dX7_walk_241 ?_
    refine xk_Vi0 (As := [.ref (a 7)]) (rest := []) hx hb hml hown hts hK hN hZ hP hD hS hA mb_X1_isAtEndOf mw_2_2 mw_2_3 mw_2_4 (c_X1_isAtEndOf l D cI cZ cS (a 11) (z 174) (z 175) (z 176) (z 177) (z 178) (z 179) (z 180) (z 189) (z 181) (z 182) (z 183) (z 184) (z 185) (z 186) (z 187) (a 7) (a 8) (a 9) (a 10) (cn 7 1) ) [12, 8] 12 1 rfl rfl (by decide) rfl (fun _ => by simp only [List.map]) (by decide) (by decide) rfl hl.1 rfl (Nat.le_of_ble_eq_true rfl) dX7_walk_244 ⟨Nat.zero_le _, Nat.zero_le _⟩ (fun _ => rfl) (fun r244 _ H locs hw hP hD hS => ?_)
    rcases hw with ⟨rfl, b244⟩ | ⟨rfl, b244⟩
    · have b244 : 0 < (cn 7 1).toInt ∧ (cn 7 1).toInt ≤ (z 179).toInt := b244
      rw [show cn 7 1 = z 7 from hro.1] at b244
      have b244 := (at_iff hrp).mp b244
      refine lv_if_eq (tgt := 254) hx hb dX7_walk_247 (by decide) (fun c247 => absurd c247 (by decide)) (fun _ => ?_)
      refine lv_iconst (v := 1) hx hb dX7_walk_250 (by decide) ?_
      refine lv_goto (tgt := 255) hx hb dX7_walk_251 (by decide) ?_
      exact xk_reti () hx hb hr hlocks (xk_P hP (by rfl)) (by rw [walkR, if_pos (by omega), show 174 + p1.toInt.toNat = 188 from by omega]; exact b244.symm) hS dX7_walk_255 hQ
    · have b244 : ¬ (0 < (cn 7 1).toInt ∧ (cn 7 1).toInt ≤ (z 179).toInt) := b244
      rw [show cn 7 1 = z 7 from hro.1] at b244
      have b244 := at_not hrp b244
      refine lv_if_eq (tgt := 254) hx hb dX7_walk_247 (by decide) (fun _ => ?_) (fun c247 => absurd (by decide) c247)
      refine lv_iconst (v := 0) hx hb dX7_walk_254 (by decide) ?_
      exact xk_reti () hx hb hr hlocks (xk_P hP (by rfl)) (by rw [walkR, if_pos (by omega), show 174 + p1.toInt.toNat = 188 from by omega]; exact b244.symm) hS dX7_walk_255 hQ

set_option maxHeartbeats 4000000 in
set_option maxRecDepth 100000 in
theorem c_X7_count (l : Launch) (D : va_G) (cI cZ cS : ClassId) (x0 xs xv ho0 ho1 pd0 pd1 m0 ts0 ts1 : Nat) (a : Nat → Nat) (ha sa : Nat → Nat → Nat) (cn : Nat → Nat → Int32) (cs sc : Nat → Nat → Nat → Int32) (tm tv pd sv : Nat → Int32) (ln old sz : Int32) (z : Nat → Int32) (p1 : Int32) (hRS : RS cn z) (hI : InvZ z) : xMi l yX7_count cX7_count 2 (some .int) ({ frames := 5, cells := 0, slots := 0, locals := 110 } : Room) D (xTy cI cZ cS) [.ref x0, .int p1] ([(x0, .inr (7, [.ref (a 0), .ref xs, .ref xv, .ref ho0, .ref pd0, .ref m0, .ref ts0])), ((a 0), .inr (6, [.ref (a 1), .ref (a 3), .ref (a 7), .ref (a 11)])), ((a 1), .inr (4, [.ref (a 2)])), ((a 2), .inl (cI, 6, .inl (cn 0))), ((a 3), .inr (5, [.int (cn 7 0), .ref (a 4), .ref (a 5), .ref (a 6)])), ((a 4), .inl (cI, 10, .inl (cn 1))), ((a 5), .inl (cI, 120, .inl (cn 2))), ((a 6), .inl (cZ, 120, .inl (cn 3))), ((a 7), .inr (3, [.int (cn 7 1), .ref (a 8), .ref (a 9), .ref (a 10)])), ((a 8), .inl (cI, 12, .inl (cn 4))), ((a 9), .inl (cI, 12, .inl (cn 5))), ((a 10), .inl (cZ, 12, .inl (cn 6))), ((a 11), .inr (1, [.int (z 174), .int (z 175), .int (z 176), .int (z 177), .int (z 178), .int (z 179), .int (z 180), .int (z 189), .int (z 181), .int (z 182), .int (z 183), .int (z 184), .int (z 185), .int (z 186), .int (z 187)])), (pd0, .inr (2, [.ref pd1, .int ln])), (pd1, .inl (cI, 60, .inl pd)), (m0, .inr (1, [.int (tm 0), .int (tm 1), .int (tm 2), .int (tm 3), .int (tm 4), .int (tm 5), .int (tm 6), .int (tm 7), .int (tm 8), .int (tm 9), .int (tm 10), .int (tm 11), .int (tm 12), .int (tm 13), .int (tm 14)])), (ts0, .inr (4, [.ref ts1])), (ts1, .inl (cI, 6, .inl tv)), (ho0, .inr (0, [.ref ho1, .int old, .int sz])), (ho1, .inl (cS, 6, .inr (.inr (.inr (.inr (stA ha)))))), (xs, .inl (cS, 2, .inr (.inr (.inr (.inr (stA sa)))))), (xv, .inl (cZ, 2, .inl sv))] ++ (hsW cI cZ ha cs ++ (stW cI cZ (sa 0) (sc 0) ++ stW cI cZ (sa 1) (sc 1)))) (fun (r : Int32) (_ : Unit) => r = cntR z ln sz p1) (fun (_ : Unit) => ([(x0, .inr (7, [.ref (a 0), .ref xs, .ref xv, .ref ho0, .ref pd0, .ref m0, .ref ts0])), ((a 0), .inr (6, [.ref (a 1), .ref (a 3), .ref (a 7), .ref (a 11)])), ((a 1), .inr (4, [.ref (a 2)])), ((a 2), .inl (cI, 6, .inl (cn 0))), ((a 3), .inr (5, [.int (cn 7 0), .ref (a 4), .ref (a 5), .ref (a 6)])), ((a 4), .inl (cI, 10, .inl (cn 1))), ((a 5), .inl (cI, 120, .inl (cn 2))), ((a 6), .inl (cZ, 120, .inl (cn 3))), ((a 7), .inr (3, [.int (cn 7 1), .ref (a 8), .ref (a 9), .ref (a 10)])), ((a 8), .inl (cI, 12, .inl (cn 4))), ((a 9), .inl (cI, 12, .inl (cn 5))), ((a 10), .inl (cZ, 12, .inl (cn 6))), ((a 11), .inr (1, [.int (z 174), .int (z 175), .int (z 176), .int (z 177), .int (z 178), .int (z 179), .int (z 180), .int (z 189), .int (z 181), .int (z 182), .int (z 183), .int (z 184), .int (z 185), .int (z 186), .int (z 187)])), (pd0, .inr (2, [.ref pd1, .int ln])), (pd1, .inl (cI, 60, .inl pd)), (m0, .inr (1, [.int (tm 0), .int (tm 1), .int (tm 2), .int (tm 3), .int (tm 4), .int (tm 5), .int (tm 6), .int (tm 7), .int (tm 8), .int (tm 9), .int (tm 10), .int (tm 11), .int (tm 12), .int (tm 13), .int (tm 14)])), (ts0, .inr (4, [.ref ts1])), (ts1, .inl (cI, 6, .inl tv)), (ho0, .inr (0, [.ref ho1, .int old, .int sz])), (ho1, .inl (cS, 6, .inr (.inr (.inr (.inr (stA ha)))))), (xs, .inl (cS, 2, .inr (.inr (.inr (.inr (stA sa)))))), (xv, .inl (cZ, 2, .inl sv))] ++ (hsW cI cZ ha cs ++ (stW cI cZ (sa 0) (sc 0) ++ stW cI cZ (sa 1) (sc 1))))) := by
  refine xk_bodyi (by decide) (Nat.le_of_ble_eq_true rfl) ?_
  intro p e s m below meth c A ls args Q hx hb hr hts hown hlocks hml hin hK hP hD hS hA hN hZ hl hQ
  have hl : lv_has ls 2 [(0, .ref x0), (1, .int p1)] := hl
  obtain ⟨hrs, hso, hro, hk1, hk2⟩ := id hRS
  obtain ⟨his, hig, hir, hsp, hrp, hlo⟩ := id hI
  refine lv_iload_n hx hb dX7_count_0 rfl (lv_at hl 1 rfl) ?_
  have h1 : p1.toInt < 0 ∨ 12 < p1.toInt ∨ p1.toInt = 0 ∨ p1.toInt = 1 ∨ p1.toInt = 2 ∨ p1.toInt = 3 ∨ p1.toInt = 4 ∨ p1.toInt = 5 ∨ p1.toInt = 6 ∨ p1.toInt = 7 ∨ p1.toInt = 8 ∨ p1.toInt = 9 ∨ p1.toInt = 10 ∨ p1.toInt = 11 ∨ p1.toInt = 12 := by omega
  rcases h1 with t1 | t1 | t1 | t1 | t1 | t1 | t1 | t1 | t1 | t1 | t1 | t1 | t1 | t1 | t1
  · refine lv_tableOut (tgt := 151) hx hb dX7_count_1 (by first | exact Or.inl t1 | exact Or.inr t1) (by decide) ?_
    refine lv_bipush (v := (-2)) hx hb dX7_count_151 (by decide) ?_
    exact xk_reti () hx hb hr hlocks (xk_P hP (by rfl)) (by rw [cntR, if_neg (by omega), if_neg (by omega), if_neg (by omega), if_neg (by omega), if_neg (by omega), if_neg (by omega), if_neg (by omega)]) hS dX7_count_153 hQ
  · refine lv_tableOut (tgt := 151) hx hb dX7_count_1 (by first | exact Or.inl t1 | exact Or.inr t1) (by decide) ?_
    refine lv_bipush (v := (-2)) hx hb dX7_count_151 (by decide) ?_
    exact xk_reti () hx hb hr hlocks (xk_P hP (by rfl)) (by rw [cntR, if_neg (by omega), if_neg (by omega), if_neg (by omega), if_neg (by omega), if_neg (by omega), if_neg (by omega), if_neg (by omega)]) hS dX7_count_153 hQ
  · refine lv_tableIn (off := 67) (tgt := 68) hx hb dX7_count_1 (by rw [t1]; decide) (by rw [t1]; decide) (by rw [t1]; rfl) (by decide) ?_
    refine lv_aload_n hx hb dX7_count_68 rfl (lv_at hl 0 rfl) ?_
    refine va_get (D := D) (ci := 7) (v := .ref (a 0)) (C := RX7) (T := TX7) (N := 7) hx hb hts xin7 hown hK hP 0 rfl rfl 0 (by decide) (hts _ (List.mem_cons_of_mem _ mw_1_216)) (fun _ h9 => h9) rfl dX7_count_69 ?_
    refine va_getN (D := D) (ci := 6) (v := .ref (a 1)) (C := RX6) (T := TX6) (N := 4) hx hb hts xin6 hown hK hP 1 rfl rfl 0 (by decide) (xnf_19 hN) (fun _ h9 => h9) rfl dX7_count_72 ?_
    refine lv_iload_n hx hb dX7_count_75 rfl (lv_at hl 1 rfl) ?_
    refine xk_Vi0 (As := [.int p1]) (rest := []) hx hb hml hown hts hK hN hZ hP hD hS hA mb_X4_valueOf mw_2_10 mw_1_206 mw_1_207 (c_X4_valueOf l D cI cZ cS (a 1) (a 2) (cn 0) p1 ) [2, 3] 2 4 rfl rfl (by decide) rfl (fun _ => by simp only [List.map]) (by decide) (by decide) rfl hl.1 rfl (Nat.le_of_ble_eq_true rfl) dX7_count_76 ⟨Nat.zero_le _, Nat.zero_le _⟩ (fun _ => rfl) (fun r76 _ H locs hw hP hD hS => ?_)
    have e76 : r76 = if 0 ≤ p1.toInt ∧ p1.toInt < 6 then (cn 0) p1.toInt.toNat else 0 := hw
    exact xk_reti () hx hb hr hlocks (xk_P hP (by rfl)) (by rw [cntR, if_pos (by omega), e76, if_pos (by omega)]; exact hrs p1.toInt.toNat (by omega)) hS dX7_count_79 hQ
  · refine lv_tableIn (off := 67) (tgt := 68) hx hb dX7_count_1 (by rw [t1]; decide) (by rw [t1]; decide) (by rw [t1]; rfl) (by decide) ?_
    refine lv_aload_n hx hb dX7_count_68 rfl (lv_at hl 0 rfl) ?_
    refine va_get (D := D) (ci := 7) (v := .ref (a 0)) (C := RX7) (T := TX7) (N := 7) hx hb hts xin7 hown hK hP 0 rfl rfl 0 (by decide) (hts _ (List.mem_cons_of_mem _ mw_1_216)) (fun _ h9 => h9) rfl dX7_count_69 ?_
    refine va_getN (D := D) (ci := 6) (v := .ref (a 1)) (C := RX6) (T := TX6) (N := 4) hx hb hts xin6 hown hK hP 1 rfl rfl 0 (by decide) (xnf_19 hN) (fun _ h9 => h9) rfl dX7_count_72 ?_
    refine lv_iload_n hx hb dX7_count_75 rfl (lv_at hl 1 rfl) ?_
    refine xk_Vi0 (As := [.int p1]) (rest := []) hx hb hml hown hts hK hN hZ hP hD hS hA mb_X4_valueOf mw_2_10 mw_1_206 mw_1_207 (c_X4_valueOf l D cI cZ cS (a 1) (a 2) (cn 0) p1 ) [2, 3] 2 4 rfl rfl (by decide) rfl (fun _ => by simp only [List.map]) (by decide) (by decide) rfl hl.1 rfl (Nat.le_of_ble_eq_true rfl) dX7_count_76 ⟨Nat.zero_le _, Nat.zero_le _⟩ (fun _ => rfl) (fun r76 _ H locs hw hP hD hS => ?_)
    have e76 : r76 = if 0 ≤ p1.toInt ∧ p1.toInt < 6 then (cn 0) p1.toInt.toNat else 0 := hw
    exact xk_reti () hx hb hr hlocks (xk_P hP (by rfl)) (by rw [cntR, if_pos (by omega), e76, if_pos (by omega)]; exact hrs p1.toInt.toNat (by omega)) hS dX7_count_79 hQ
  · refine lv_tableIn (off := 67) (tgt := 68) hx hb dX7_count_1 (by rw [t1]; decide) (by rw [t1]; decide) (by rw [t1]; rfl) (by decide) ?_
    refine lv_aload_n hx hb dX7_count_68 rfl (lv_at hl 0 rfl) ?_
    refine va_get (D := D) (ci := 7) (v := .ref (a 0)) (C := RX7) (T := TX7) (N := 7) hx hb hts xin7 hown hK hP 0 rfl rfl 0 (by decide) (hts _ (List.mem_cons_of_mem _ mw_1_216)) (fun _ h9 => h9) rfl dX7_count_69 ?_
    refine va_getN (D := D) (ci := 6) (v := .ref (a 1)) (C := RX6) (T := TX6) (N := 4) hx hb hts xin6 hown hK hP 1 rfl rfl 0 (by decide) (xnf_19 hN) (fun _ h9 => h9) rfl dX7_count_72 ?_
    refine lv_iload_n hx hb dX7_count_75 rfl (lv_at hl 1 rfl) ?_
    refine xk_Vi0 (As := [.int p1]) (rest := []) hx hb hml hown hts hK hN hZ hP hD hS hA mb_X4_valueOf mw_2_10 mw_1_206 mw_1_207 (c_X4_valueOf l D cI cZ cS (a 1) (a 2) (cn 0) p1 ) [2, 3] 2 4 rfl rfl (by decide) rfl (fun _ => by simp only [List.map]) (by decide) (by decide) rfl hl.1 rfl (Nat.le_of_ble_eq_true rfl) dX7_count_76 ⟨Nat.zero_le _, Nat.zero_le _⟩ (fun _ => rfl) (fun r76 _ H locs hw hP hD hS => ?_)
    have e76 : r76 = if 0 ≤ p1.toInt ∧ p1.toInt < 6 then (cn 0) p1.toInt.toNat else 0 := hw
    exact xk_reti () hx hb hr hlocks (xk_P hP (by rfl)) (by rw [cntR, if_pos (by omega), e76, if_pos (by omega)]; exact hrs p1.toInt.toNat (by omega)) hS dX7_count_79 hQ
  · refine lv_tableIn (off := 67) (tgt := 68) hx hb dX7_count_1 (by rw [t1]; decide) (by rw [t1]; decide) (by rw [t1]; rfl) (by decide) ?_
    refine lv_aload_n hx hb dX7_count_68 rfl (lv_at hl 0 rfl) ?_
    refine va_get (D := D) (ci := 7) (v := .ref (a 0)) (C := RX7) (T := TX7) (N := 7) hx hb hts xin7 hown hK hP 0 rfl rfl 0 (by decide) (hts _ (List.mem_cons_of_mem _ mw_1_216)) (fun _ h9 => h9) rfl dX7_count_69 ?_
    refine va_getN (D := D) (ci := 6) (v := .ref (a 1)) (C := RX6) (T := TX6) (N := 4) hx hb hts xin6 hown hK hP 1 rfl rfl 0 (by decide) (xnf_19 hN) (fun _ h9 => h9) rfl dX7_count_72 ?_
    refine lv_iload_n hx hb dX7_count_75 rfl (lv_at hl 1 rfl) ?_
    refine xk_Vi0 (As := [.int p1]) (rest := []) hx hb hml hown hts hK hN hZ hP hD hS hA mb_X4_valueOf mw_2_10 mw_1_206 mw_1_207 (c_X4_valueOf l D cI cZ cS (a 1) (a 2) (cn 0) p1 ) [2, 3] 2 4 rfl rfl (by decide) rfl (fun _ => by simp only [List.map]) (by decide) (by decide) rfl hl.1 rfl (Nat.le_of_ble_eq_true rfl) dX7_count_76 ⟨Nat.zero_le _, Nat.zero_le _⟩ (fun _ => rfl) (fun r76 _ H locs hw hP hD hS => ?_)
    have e76 : r76 = if 0 ≤ p1.toInt ∧ p1.toInt < 6 then (cn 0) p1.toInt.toNat else 0 := hw
    exact xk_reti () hx hb hr hlocks (xk_P hP (by rfl)) (by rw [cntR, if_pos (by omega), e76, if_pos (by omega)]; exact hrs p1.toInt.toNat (by omega)) hS dX7_count_79 hQ
  · refine lv_tableIn (off := 67) (tgt := 68) hx hb dX7_count_1 (by rw [t1]; decide) (by rw [t1]; decide) (by rw [t1]; rfl) (by decide) ?_
    refine lv_aload_n hx hb dX7_count_68 rfl (lv_at hl 0 rfl) ?_
    refine va_get (D := D) (ci := 7) (v := .ref (a 0)) (C := RX7) (T := TX7) (N := 7) hx hb hts xin7 hown hK hP 0 rfl rfl 0 (by decide) (hts _ (List.mem_cons_of_mem _ mw_1_216)) (fun _ h9 => h9) rfl dX7_count_69 ?_
    refine va_getN (D := D) (ci := 6) (v := .ref (a 1)) (C := RX6) (T := TX6) (N := 4) hx hb hts xin6 hown hK hP 1 rfl rfl 0 (by decide) (xnf_19 hN) (fun _ h9 => h9) rfl dX7_count_72 ?_
    refine lv_iload_n hx hb dX7_count_75 rfl (lv_at hl 1 rfl) ?_
    refine xk_Vi0 (As := [.int p1]) (rest := []) hx hb hml hown hts hK hN hZ hP hD hS hA mb_X4_valueOf mw_2_10 mw_1_206 mw_1_207 (c_X4_valueOf l D cI cZ cS (a 1) (a 2) (cn 0) p1 ) [2, 3] 2 4 rfl rfl (by decide) rfl (fun _ => by simp only [List.map]) (by decide) (by decide) rfl hl.1 rfl (Nat.le_of_ble_eq_true rfl) dX7_count_76 ⟨Nat.zero_le _, Nat.zero_le _⟩ (fun _ => rfl) (fun r76 _ H locs hw hP hD hS => ?_)
    have e76 : r76 = if 0 ≤ p1.toInt ∧ p1.toInt < 6 then (cn 0) p1.toInt.toNat else 0 := hw
    exact xk_reti () hx hb hr hlocks (xk_P hP (by rfl)) (by rw [cntR, if_pos (by omega), e76, if_pos (by omega)]; exact hrs p1.toInt.toNat (by omega)) hS dX7_count_79 hQ
  · refine lv_tableIn (off := 67) (tgt := 68) hx hb dX7_count_1 (by rw [t1]; decide) (by rw [t1]; decide) (by rw [t1]; rfl) (by decide) ?_
    refine lv_aload_n hx hb dX7_count_68 rfl (lv_at hl 0 rfl) ?_
    refine va_get (D := D) (ci := 7) (v := .ref (a 0)) (C := RX7) (T := TX7) (N := 7) hx hb hts xin7 hown hK hP 0 rfl rfl 0 (by decide) (hts _ (List.mem_cons_of_mem _ mw_1_216)) (fun _ h9 => h9) rfl dX7_count_69 ?_
    refine va_getN (D := D) (ci := 6) (v := .ref (a 1)) (C := RX6) (T := TX6) (N := 4) hx hb hts xin6 hown hK hP 1 rfl rfl 0 (by decide) (xnf_19 hN) (fun _ h9 => h9) rfl dX7_count_72 ?_
    refine lv_iload_n hx hb dX7_count_75 rfl (lv_at hl 1 rfl) ?_
    refine xk_Vi0 (As := [.int p1]) (rest := []) hx hb hml hown hts hK hN hZ hP hD hS hA mb_X4_valueOf mw_2_10 mw_1_206 mw_1_207 (c_X4_valueOf l D cI cZ cS (a 1) (a 2) (cn 0) p1 ) [2, 3] 2 4 rfl rfl (by decide) rfl (fun _ => by simp only [List.map]) (by decide) (by decide) rfl hl.1 rfl (Nat.le_of_ble_eq_true rfl) dX7_count_76 ⟨Nat.zero_le _, Nat.zero_le _⟩ (fun _ => rfl) (fun r76 _ H locs hw hP hD hS => ?_)
    have e76 : r76 = if 0 ≤ p1.toInt ∧ p1.toInt < 6 then (cn 0) p1.toInt.toNat else 0 := hw
    exact xk_reti () hx hb hr hlocks (xk_P hP (by rfl)) (by rw [cntR, if_pos (by omega), e76, if_pos (by omega)]; exact hrs p1.toInt.toNat (by omega)) hS dX7_count_79 hQ
  · refine lv_tableIn (off := 79) (tgt := 80) hx hb dX7_count_1 (by rw [t1]; decide) (by rw [t1]; decide) (by rw [t1]; rfl) (by decide) ?_
    refine lv_aload_n hx hb dX7_count_80 rfl (lv_at hl 0 rfl) ?_
    refine va_get (D := D) (ci := 7) (v := .ref (a 0)) (C := RX7) (T := TX7) (N := 7) hx hb hts xin7 hown hK hP 0 rfl rfl 0 (by decide) (hts _ (List.mem_cons_of_mem _ mw_1_216)) (fun _ h9 => h9) rfl dX7_count_81 ?_
    refine va_getN (D := D) (ci := 6) (v := .ref (a 3)) (C := RX6) (T := TX6) (N := 4) hx hb hts xin6 hown hK hP 1 rfl rfl 1 (by decide) (xnf_20 hN) (fun _ h9 => h9) rfl dX7_count_84 ?_
    refine va_getN (D := D) (ci := 5) (v := .int (cn 7 0)) (C := RX5) (T := TX5) (N := 4) hx hb hts xin5 hown hK hP 4 rfl rfl 0 (by decide) (xnf_1 hN) (fun _ h9 => h9) rfl dX7_count_87 ?_
    exact xk_reti () hx hb hr hlocks (xk_P hP (by rfl)) (by rw [cntR, if_pos (by omega), show p1.toInt.toNat = 6 from by omega]; exact hso.1) hS dX7_count_90 hQ
  · refine lv_tableIn (off := 90) (tgt := 91) hx hb dX7_count_1 (by rw [t1]; decide) (by rw [t1]; decide) (by rw [t1]; rfl) (by decide) ?_
    refine lv_aload_n hx hb dX7_count_91 rfl (lv_at hl 0 rfl) ?_
    refine va_get (D := D) (ci := 7) (v := .ref (a 0)) (C := RX7) (T := TX7) (N := 7) hx hb hts xin7 hown hK hP 0 rfl rfl 0 (by decide) (hts _ (List.mem_cons_of_mem _ mw_1_216)) (fun _ h9 => h9) rfl dX7_count_92 ?_
    refine va_getN (D := D) (ci := 6) (v := .ref (a 3)) (C := RX6) (T := TX6) (N := 4) hx hb hts xin6 hown hK hP 1 rfl rfl 1 (by decide) (xnf_20 hN) (fun _ h9 => h9) rfl dX7_count_95 ?_
    refine xk_Vi0 (As := []) (rest := []) hx hb hml hown hts hK hN hZ hP hD hS hA mb_X5_allBeats mw_2_11 mw_2_12 mw_2_13 (c_X5_allBeats l D cI cZ cS (a 3) (a 4) (a 5) (a 6) (cn 7 0) (cn 1) (cn 2) (cn 3) z (by exact hso) (by exact hig)) [4, 5, 6, 7] 4 5 rfl rfl (by decide) rfl (fun _ => by simp only [List.map]) (by decide) (by decide) rfl hl.1 rfl (Nat.le_of_ble_eq_true rfl) dX7_count_98 ⟨Nat.zero_le _, Nat.zero_le _⟩ (fun _ => rfl) (fun r98 _ H locs hw hP hD hS => ?_)
    have e98 : r98 = sumS z (z 6).toInt.toNat := hw
    exact xk_reti () hx hb hr hlocks (xk_P hP (by rfl)) (by rw [cntR, if_neg (by omega), if_pos t1, e98]) hS dX7_count_101 hQ
  · refine lv_tableIn (off := 101) (tgt := 102) hx hb dX7_count_1 (by rw [t1]; decide) (by rw [t1]; decide) (by rw [t1]; rfl) (by decide) ?_
    refine lv_aload_n hx hb dX7_count_102 rfl (lv_at hl 0 rfl) ?_
    refine va_get (D := D) (ci := 7) (v := .ref (a 0)) (C := RX7) (T := TX7) (N := 7) hx hb hts xin7 hown hK hP 0 rfl rfl 0 (by decide) (hts _ (List.mem_cons_of_mem _ mw_1_216)) (fun _ h9 => h9) rfl dX7_count_103 ?_
    refine va_getN (D := D) (ci := 6) (v := .ref (a 3)) (C := RX6) (T := TX6) (N := 4) hx hb hts xin6 hown hK hP 1 rfl rfl 1 (by decide) (xnf_20 hN) (fun _ h9 => h9) rfl dX7_count_106 ?_
    refine xk_Vi0 (As := []) (rest := []) hx hb hml hown hts hK hN hZ hP hD hS hA mb_X5_allMarks mw_2_31 mw_2_32 mw_2_33 (c_X5_allMarks l D cI cZ cS (a 3) (a 4) (a 5) (a 6) (cn 7 0) (cn 1) (cn 2) (cn 3) z (by exact hso) (by exact hig)) [4, 5, 6, 7] 4 5 rfl rfl (by decide) rfl (fun _ => by simp only [List.map]) (by decide) (by decide) rfl hl.1 rfl (Nat.le_of_ble_eq_true rfl) dX7_count_109 ⟨Nat.zero_le _, Nat.zero_le _⟩ (fun _ => rfl) (fun r109 _ H locs hw hP hD hS => ?_)
    have e109 : r109 = sumM z (z 6).toInt.toNat := hw
    exact xk_reti () hx hb hr hlocks (xk_P hP (by rfl)) (by rw [cntR, if_neg (by omega), if_neg (by omega), if_pos t1, e109]) hS dX7_count_112 hQ
  · refine lv_tableIn (off := 112) (tgt := 113) hx hb dX7_count_1 (by rw [t1]; decide) (by rw [t1]; decide) (by rw [t1]; rfl) (by decide) ?_
    refine lv_aload_n hx hb dX7_count_113 rfl (lv_at hl 0 rfl) ?_
    refine va_get (D := D) (ci := 7) (v := .ref (a 0)) (C := RX7) (T := TX7) (N := 7) hx hb hts xin7 hown hK hP 0 rfl rfl 0 (by decide) (hts _ (List.mem_cons_of_mem _ mw_1_216)) (fun _ h9 => h9) rfl dX7_count_114 ?_
    refine va_getN (D := D) (ci := 6) (v := .ref (a 7)) (C := RX6) (T := TX6) (N := 4) hx hb hts xin6 hown hK hP 1 rfl rfl 2 (by decide) (xnf_21 hN) (fun _ h9 => h9) rfl dX7_count_117 ?_
    refine va_getN (D := D) (ci := 3) (v := .int (cn 7 1)) (C := RX3) (T := TX3) (N := 4) hx hb hts xin3 hown hK hP 8 rfl rfl 0 (by decide) (xnf_4 hN) (fun _ h9 => h9) rfl dX7_count_120 ?_
    exact xk_reti () hx hb hr hlocks (xk_P hP (by rfl)) (by rw [cntR, if_neg (by omega), if_neg (by omega), if_neg (by omega), if_pos t1]; exact hro.1) hS dX7_count_123 hQ
  · refine lv_tableIn (off := 123) (tgt := 124) hx hb dX7_count_1 (by rw [t1]; decide) (by rw [t1]; decide) (by rw [t1]; rfl) (by decide) ?_
    refine lv_aload_n hx hb dX7_count_124 rfl (lv_at hl 0 rfl) ?_
    refine va_get (D := D) (ci := 7) (v := .ref (a 0)) (C := RX7) (T := TX7) (N := 7) hx hb hts xin7 hown hK hP 0 rfl rfl 0 (by decide) (hts _ (List.mem_cons_of_mem _ mw_1_216)) (fun _ h9 => h9) rfl dX7_count_125 ?_
    refine va_getN (D := D) (ci := 6) (v := .ref (a 7)) (C := RX6) (T := TX6) (N := 4) hx hb hts xin6 hown hK hP 1 rfl rfl 2 (by decide) (xnf_21 hN) (fun _ h9 => h9) rfl dX7_count_128 ?_
    refine xk_Vi0 (As := []) (rest := []) hx hb hml hown hts hK hN hZ hP hD hS hA mb_X3_allSteps mw_2_43 mw_2_44 mw_2_45 (c_X3_allSteps l D cI cZ cS (a 7) (a 8) (a 9) (a 10) (cn 7 1) (cn 4) (cn 5) (cn 6) z (by exact hro) (by exact hir)) [8, 9, 10, 11] 8 3 rfl rfl (by decide) rfl (fun _ => by simp only [List.map]) (by decide) (by decide) rfl hl.1 rfl (Nat.le_of_ble_eq_true rfl) dX7_count_131 ⟨Nat.zero_le _, Nat.zero_le _⟩ (fun _ => rfl) (fun r131 _ H locs hw hP hD hS => ?_)
    have e131 : r131 = sumR z (z 7).toInt.toNat := hw
    exact xk_reti () hx hb hr hlocks (xk_P hP (by rfl)) (by rw [cntR, if_neg (by omega), if_neg (by omega), if_neg (by omega), if_neg (by omega), if_pos t1, e131]) hS dX7_count_134 hQ
  · refine lv_tableIn (off := 134) (tgt := 135) hx hb dX7_count_1 (by rw [t1]; decide) (by rw [t1]; decide) (by rw [t1]; rfl) (by decide) ?_
    refine lv_aload_n hx hb dX7_count_135 rfl (lv_at hl 0 rfl) ?_
    refine va_get (D := D) (ci := 7) (v := .ref pd0) (C := RX7) (T := TX7) (N := 7) hx hb hts xin7 hown hK hP 0 rfl rfl 4 (by decide) (hts _ (List.mem_cons_of_mem _ mw_1_220)) (fun _ h9 => h9) rfl dX7_count_136 ?_
    refine va_getN (D := D) (ci := 2) (v := .int ln) (C := RX2) (T := TX2) (N := 2) hx hb hts xin2 hown hK hP 13 rfl rfl 1 (by decide) (xnf_24 hN) (fun _ h9 => h9) rfl dX7_count_139 ?_
    exact xk_reti () hx hb hr hlocks (xk_P hP (by rfl)) (by rw [cntR, if_neg (by omega), if_neg (by omega), if_neg (by omega), if_neg (by omega), if_neg (by omega), if_pos t1]) hS dX7_count_142 hQ
  · refine lv_tableIn (off := 142) (tgt := 143) hx hb dX7_count_1 (by rw [t1]; decide) (by rw [t1]; decide) (by rw [t1]; rfl) (by decide) ?_
    refine lv_aload_n hx hb dX7_count_143 rfl (lv_at hl 0 rfl) ?_
    refine va_get (D := D) (ci := 7) (v := .ref ho0) (C := RX7) (T := TX7) (N := 7) hx hb hts xin7 hown hK hP 0 rfl rfl 3 (by decide) (hts _ (List.mem_cons_of_mem _ mw_1_219)) (fun _ h9 => h9) rfl dX7_count_144 ?_
    refine va_getN (D := D) (ci := 0) (v := .int sz) (C := RX0) (T := TX0) (N := 3) hx hb hts xin0 hown hK hP 18 rfl rfl 2 (by decide) (xnf_23 hN) (fun _ h9 => h9) rfl dX7_count_147 ?_
    exact xk_reti () hx hb hr hlocks (xk_P hP (by rfl)) (by rw [cntR, if_neg (by omega), if_neg (by omega), if_neg (by omega), if_neg (by omega), if_neg (by omega), if_neg (by omega), if_pos t1]) hS dX7_count_150 hQ

set_option maxHeartbeats 4000000 in
set_option maxRecDepth 100000 in
theorem c_X7_meets (l : Launch) (D : va_G) (cI cZ cS : ClassId) (x0 xs xv ho0 ho1 pd0 pd1 m0 ts0 ts1 : Nat) (a : Nat → Nat) (ha sa : Nat → Nat → Nat) (cn : Nat → Nat → Int32) (cs sc : Nat → Nat → Nat → Int32) (tm tv pd sv : Nat → Int32) (ln old sz : Int32) (z : Nat → Int32) (p1 p2 : Int32) (hRS : RS cn z) (hI : InvZ z) : xMi l yX7_meets cX7_meets 5 (some .int) ({ frames := 5, cells := 0, slots := 0, locals := 110 } : Room) D (xTy cI cZ cS) [.ref x0, .int p1, .int p2] ([(x0, .inr (7, [.ref (a 0), .ref xs, .ref xv, .ref ho0, .ref pd0, .ref m0, .ref ts0])), ((a 0), .inr (6, [.ref (a 1), .ref (a 3), .ref (a 7), .ref (a 11)])), ((a 1), .inr (4, [.ref (a 2)])), ((a 2), .inl (cI, 6, .inl (cn 0))), ((a 3), .inr (5, [.int (cn 7 0), .ref (a 4), .ref (a 5), .ref (a 6)])), ((a 4), .inl (cI, 10, .inl (cn 1))), ((a 5), .inl (cI, 120, .inl (cn 2))), ((a 6), .inl (cZ, 120, .inl (cn 3))), ((a 7), .inr (3, [.int (cn 7 1), .ref (a 8), .ref (a 9), .ref (a 10)])), ((a 8), .inl (cI, 12, .inl (cn 4))), ((a 9), .inl (cI, 12, .inl (cn 5))), ((a 10), .inl (cZ, 12, .inl (cn 6))), ((a 11), .inr (1, [.int (z 174), .int (z 175), .int (z 176), .int (z 177), .int (z 178), .int (z 179), .int (z 180), .int (z 189), .int (z 181), .int (z 182), .int (z 183), .int (z 184), .int (z 185), .int (z 186), .int (z 187)])), (pd0, .inr (2, [.ref pd1, .int ln])), (pd1, .inl (cI, 60, .inl pd)), (m0, .inr (1, [.int (tm 0), .int (tm 1), .int (tm 2), .int (tm 3), .int (tm 4), .int (tm 5), .int (tm 6), .int (tm 7), .int (tm 8), .int (tm 9), .int (tm 10), .int (tm 11), .int (tm 12), .int (tm 13), .int (tm 14)])), (ts0, .inr (4, [.ref ts1])), (ts1, .inl (cI, 6, .inl tv)), (ho0, .inr (0, [.ref ho1, .int old, .int sz])), (ho1, .inl (cS, 6, .inr (.inr (.inr (.inr (stA ha)))))), (xs, .inl (cS, 2, .inr (.inr (.inr (.inr (stA sa)))))), (xv, .inl (cZ, 2, .inl sv))] ++ (hsW cI cZ ha cs ++ (stW cI cZ (sa 0) (sc 0) ++ stW cI cZ (sa 1) (sc 1)))) (fun (r : Int32) (_ : Unit) => meetA z p1 p2 r) (fun (_ : Unit) => ([(x0, .inr (7, [.ref (a 0), .ref xs, .ref xv, .ref ho0, .ref pd0, .ref m0, .ref ts0])), ((a 0), .inr (6, [.ref (a 1), .ref (a 3), .ref (a 7), .ref (a 11)])), ((a 1), .inr (4, [.ref (a 2)])), ((a 2), .inl (cI, 6, .inl (cn 0))), ((a 3), .inr (5, [.int (cn 7 0), .ref (a 4), .ref (a 5), .ref (a 6)])), ((a 4), .inl (cI, 10, .inl (cn 1))), ((a 5), .inl (cI, 120, .inl (cn 2))), ((a 6), .inl (cZ, 120, .inl (cn 3))), ((a 7), .inr (3, [.int (cn 7 1), .ref (a 8), .ref (a 9), .ref (a 10)])), ((a 8), .inl (cI, 12, .inl (cn 4))), ((a 9), .inl (cI, 12, .inl (cn 5))), ((a 10), .inl (cZ, 12, .inl (cn 6))), ((a 11), .inr (1, [.int (z 174), .int (z 175), .int (z 176), .int (z 177), .int (z 178), .int (z 179), .int (z 180), .int (z 189), .int (z 181), .int (z 182), .int (z 183), .int (z 184), .int (z 185), .int (z 186), .int (z 187)])), (pd0, .inr (2, [.ref pd1, .int ln])), (pd1, .inl (cI, 60, .inl pd)), (m0, .inr (1, [.int (tm 0), .int (tm 1), .int (tm 2), .int (tm 3), .int (tm 4), .int (tm 5), .int (tm 6), .int (tm 7), .int (tm 8), .int (tm 9), .int (tm 10), .int (tm 11), .int (tm 12), .int (tm 13), .int (tm 14)])), (ts0, .inr (4, [.ref ts1])), (ts1, .inl (cI, 6, .inl tv)), (ho0, .inr (0, [.ref ho1, .int old, .int sz])), (ho1, .inl (cS, 6, .inr (.inr (.inr (.inr (stA ha)))))), (xs, .inl (cS, 2, .inr (.inr (.inr (.inr (stA sa)))))), (xv, .inl (cZ, 2, .inl sv))] ++ (hsW cI cZ ha cs ++ (stW cI cZ (sa 0) (sc 0) ++ stW cI cZ (sa 1) (sc 1))))) := by
  refine xk_bodyi (by decide) (Nat.le_of_ble_eq_true rfl) ?_
  intro p e s m below meth c A ls args Q hx hb hr hts hown hlocks hml hin hK hP hD hS hA hN hZ hl hQ
  have hl : lv_has ls 5 [(0, .ref x0), (1, .int p1), (2, .int p2)] := hl
  obtain ⟨hrs, hso, hro, hk1, hk2⟩ := id hRS
  obtain ⟨his, hig, hir, hsp, hrp, hlo⟩ := id hI
  refine lv_aload_n hx hb dX7_meets_0 rfl (lv_at hl 0 rfl) ?_
  refine va_get (D := D) (ci := 7) (v := .ref (a 0)) (C := RX7) (T := TX7) (N := 7) hx hb hts xin7 hown hK hP 0 rfl rfl 0 (by decide) (hts _ (List.mem_cons_of_mem _ mw_1_216)) (fun _ h9 => h9) rfl dX7_meets_1 ?_
  refine va_getN (D := D) (ci := 6) (v := .ref (a 7)) (C := RX6) (T := TX6) (N := 4) hx hb hts xin6 hown hK hP 1 rfl rfl 2 (by decide) (xnf_21 hN) (fun _ h9 => h9) rfl dX7_meets_4 ?_
  refine lv_iload_n hx hb dX7_meets_7 rfl (lv_at hl 1 rfl) ?_
  refine xk_Vi0 (As := [.int p1]) (rest := []) hx hb hml hown hts hK hN hZ hP hD hS hA mb_X3_has mw_2_125 mw_2_52 mw_2_53 (c_X3_has l D cI cZ cS (a 7) (a 8) (a 9) (a 10) (cn 7 1) p1 ) [8] 8 3 rfl rfl (by decide) rfl (fun _ => by simp only [List.map]) (by decide) (by decide) rfl hl.1 rfl (Nat.le_of_ble_eq_true rfl) dX7_meets_8 ⟨Nat.zero_le _, Nat.zero_le _⟩ (fun _ => rfl) (fun r8 _ H locs hw hP hD hS => ?_)
  rcases hw with ⟨rfl, b8⟩ | ⟨rfl, b8⟩
  · have b8 : hasS (cn 7 1) p1 := b8
    have hst : strC z p1 := (hasS_iff hro hir p1).mp b8
    have hq := (hir.2 p1.toInt.toNat (by have := hst.1; have := hst.2; omega)).1
    have hq6 := hig.1
    refine lv_if_ne (tgt := 16) hx hb dX7_meets_11 (by decide) (fun _ => ?_) (fun c11 => absurd c11 (by decide))
    refine lv_iload_n hx hb dX7_meets_16 rfl (lv_at hl 2 rfl) ?_
    refine lv_if_eq (tgt := 28) hx hb dX7_meets_17 (by decide) (fun c17 => ?_) (fun c17 => ?_)
    · have t17 : p2.toInt = 0 := xi_eq rfl (by decide) c17
      have d17 : p2 = 0 := c17
      refine lv_aload_n hx hb dX7_meets_28 rfl (lv_at hl 0 rfl) ?_
      refine va_get (D := D) (ci := 7) (v := .ref (a 0)) (C := RX7) (T := TX7) (N := 7) hx hb hts xin7 hown hK hP 0 rfl rfl 0 (by decide) (hts _ (List.mem_cons_of_mem _ mw_1_216)) (fun _ h9 => h9) rfl dX7_meets_29 ?_
      refine va_getN (D := D) (ci := 6) (v := .ref (a 3)) (C := RX6) (T := TX6) (N := 4) hx hb hts xin6 hown hK hP 1 rfl rfl 1 (by decide) (xnf_20 hN) (fun _ h9 => h9) rfl dX7_meets_32 ?_
      refine va_getN (D := D) (ci := 5) (v := .int (cn 7 0)) (C := RX5) (T := TX5) (N := 4) hx hb hts xin5 hown hK hP 4 rfl rfl 0 (by decide) (xnf_1 hN) (fun _ h9 => h9) rfl dX7_meets_35 ?_
      refine lv_if_ne (tgt := 44) hx hb dX7_meets_38 (by decide) (fun c38 => ?_) (fun c38 => ?_)
      · have t38 : ¬ (cn 7 0).toInt = 0 := xi_ne rfl (by decide) c38
        have d38 : ¬ (cn 7 0) = 0 := c38
        refine lv_aload_n hx hb dX7_meets_44 rfl (lv_at hl 0 rfl) ?_
        refine va_get (D := D) (ci := 7) (v := .ref (a 0)) (C := RX7) (T := TX7) (N := 7) hx hb hts xin7 hown hK hP 0 rfl rfl 0 (by decide) (hts _ (List.mem_cons_of_mem _ mw_1_216)) (fun _ h9 => h9) rfl dX7_meets_45 ?_
        refine va_getN (D := D) (ci := 6) (v := .ref (a 7)) (C := RX6) (T := TX6) (N := 4) hx hb hts xin6 hown hK hP 1 rfl rfl 2 (by decide) (xnf_21 hN) (fun _ h9 => h9) rfl dX7_meets_48 ?_
        refine lv_iload_n hx hb dX7_meets_51 rfl (lv_at hl 1 rfl) ?_
        refine xk_Vi0 (As := [.int p1]) (rest := []) hx hb hml hown hts hK hN hZ hP hD hS hA mb_X3_stepsOf mw_2_126 mw_2_48 mw_2_49 (c_X3_stepsOf l D cI cZ cS (a 7) (a 8) (a 9) (a 10) (cn 7 1) (cn 4) p1 ) [8, 9] 8 3 rfl rfl (by decide) rfl (fun _ => by simp only [List.map]) (by decide) (by decide) rfl hl.1 rfl (Nat.le_of_ble_eq_true rfl) dX7_meets_52 ⟨Nat.zero_le _, Nat.zero_le _⟩ (fun _ => rfl) (fun r52 _ H locs hw hP hD hS => ?_)
        have e52 : r52 = if hasS (cn 7 1) p1 then (cn 4) p1.toInt.toNat else 0 := hw
        rw [stepsOf_z hro hir, if_pos hst] at e52
        have g52 : r52.toInt = (ofZ z p1.toInt.toNat 0).toInt := by rw [e52]
        refine lv_istore_n (lv' := [(3, .int r52), (0, .ref x0), (1, .int p1), (2, .int p2)]) hx hb dX7_meets_55 rfl hl (by decide) rfl (fun ls hl => ?_)
        refine lv_aload_n hx hb dX7_meets_56 rfl (lv_at hl 1 rfl) ?_
        refine va_get (D := D) (ci := 7) (v := .ref (a 0)) (C := RX7) (T := TX7) (N := 7) hx hb hts xin7 hown hK hP 0 rfl rfl 0 (by decide) (hts _ (List.mem_cons_of_mem _ mw_1_216)) (fun _ h9 => h9) rfl dX7_meets_57 ?_
        refine va_getN (D := D) (ci := 6) (v := .ref (a 3)) (C := RX6) (T := TX6) (N := 4) hx hb hts xin6 hown hK hP 1 rfl rfl 1 (by decide) (xnf_20 hN) (fun _ h9 => h9) rfl dX7_meets_60 ?_
        refine xk_Vi0 (As := []) (rest := []) hx hb hml hown hts hK hN hZ hP hD hS hA mb_X5_allBeats mw_2_11 mw_2_12 mw_2_13 (c_X5_allBeats l D cI cZ cS (a 3) (a 4) (a 5) (a 6) (cn 7 0) (cn 1) (cn 2) (cn 3) z (by exact hso) (by exact hig)) [4, 5, 6, 7] 4 5 rfl rfl (by decide) rfl (fun _ => by simp only [List.map]) (by decide) (by decide) rfl hl.1 rfl (Nat.le_of_ble_eq_true rfl) dX7_meets_63 ⟨Nat.zero_le _, Nat.zero_le _⟩ (fun _ => rfl) (fun r63 _ H locs hw hP hD hS => ?_)
        have e63 : r63 = sumS z (z 6).toInt.toNat := hw
        have hB := sumS_in hig (z 6).toInt.toNat (by omega)
        rw [← e63] at hB
        refine lv_istore (lv' := [(4, .int r63), (3, .int r52), (0, .ref x0), (1, .int p1), (2, .int p2)]) hx hb dX7_meets_66 hl (by decide) rfl (fun ls hl => ?_)
        refine lv_iload_n hx hb dX7_meets_68 rfl (lv_at hl 4 rfl) ?_
        refine lv_if_ne (tgt := 81) hx hb dX7_meets_69 (by decide) (fun c69 => ?_) (fun c69 => ?_)
        · have t69 : ¬ p2.toInt = 0 := xi_ne rfl (by decide) c69
          have d69 : ¬ p2 = 0 := c69
          refine lv_iload hx hb dX7_meets_81 (lv_at hl 0 rfl) ?_
          refine lv_iload_n hx hb dX7_meets_83 rfl (lv_at hl 1 rfl) ?_
          refine xk_Si0 (As := [.int r63, .int r52]) (rest := []) hx hb hml hown hts hK hN hZ hP hD hS hA mb_X7_songsAtOnce mw_2_168 mw_2_169 (c_X7_songsAtOnce l D cI cZ cS r63 r52 (by first | omega | decide | assumption) (by first | omega | decide | assumption)) [] (by decide) rfl (fun _ => by simp only [List.map]) (by decide) (by decide) rfl hl.1 rfl (Nat.le_of_ble_eq_true rfl) dX7_meets_84 ⟨Nat.zero_le _, Nat.zero_le _⟩ (fun _ => rfl) (fun r84 _ H locs hw hP hD hS => ?_)
          have p84 : leastK r63.toInt r52.toInt r84.toInt := hw
          exact xk_reti () hx hb hr hlocks (xk_P hP (by rfl)) (by unfold meetA; rw [if_pos hst, if_pos (by omega), if_neg (by rw [← hso.1]; exact d38)]; rw [e52, e63] at p84; exact p84) hS dX7_meets_87 hQ
        · have t69 : p2.toInt = 0 := xi_eq rfl (by decide) c69
          have d69 : p2 = 0 := c69
          refine lv_iload hx hb dX7_meets_72 (lv_at hl 0 rfl) ?_
          refine lv_iload_n hx hb dX7_meets_74 rfl (lv_at hl 1 rfl) ?_
          refine xk_Si0 (As := [.int r63, .int r52]) (rest := []) hx hb hml hown hts hK hN hZ hP hD hS hA mb_X7_songsByCounting mw_2_165 mw_2_166 (c_X7_songsByCounting l D cI cZ cS r63 r52 (by first | omega | decide | assumption) (by first | omega | decide | assumption)) [] (by decide) rfl (fun _ => by simp only [List.map]) (by decide) (by decide) rfl hl.1 rfl (Nat.le_of_ble_eq_true rfl) dX7_meets_75 ⟨Nat.zero_le _, Nat.zero_le _⟩ (fun _ => rfl) (fun r75 _ H locs hw hP hD hS => ?_)
          have p75 : leastK r63.toInt r52.toInt r75.toInt := hw
          refine lv_goto (tgt := 87) hx hb dX7_meets_78 (by decide) ?_
          exact xk_reti () hx hb hr hlocks (xk_P hP (by rfl)) (by unfold meetA; rw [if_pos hst, if_pos (by omega), if_neg (by rw [← hso.1]; exact d38)]; rw [e52, e63] at p75; exact p75) hS dX7_meets_87 hQ
      · have t38 : (cn 7 0).toInt = 0 := xi_eq rfl (by decide) c38
        have d38 : (cn 7 0) = 0 := c38
        refine lv_bipush (v := (-5)) hx hb dX7_meets_41 (by decide) ?_
        exact xk_reti () hx hb hr hlocks (xk_P hP (by rfl)) (by unfold meetA; rw [if_pos hst, if_pos (by omega), if_pos (by rw [← hso.1]; exact d38)]) hS dX7_meets_43 hQ
    · have t17 : ¬ p2.toInt = 0 := xi_ne rfl (by decide) c17
      have d17 : ¬ p2 = 0 := c17
      refine lv_iload_n hx hb dX7_meets_20 rfl (lv_at hl 2 rfl) ?_
      refine lv_iconst (v := 1) hx hb dX7_meets_21 (by decide) ?_
      refine lv_icmp_eq (tgt := 28) hx hb dX7_meets_22 (by decide) (fun c22 => ?_) (fun c22 => ?_)
      · have t22 : p2.toInt = 1 := xi_eq rfl (by decide) c22
        have d22 : p2 = 1 := c22
        refine lv_aload_n hx hb dX7_meets_28 rfl (lv_at hl 0 rfl) ?_
        refine va_get (D := D) (ci := 7) (v := .ref (a 0)) (C := RX7) (T := TX7) (N := 7) hx hb hts xin7 hown hK hP 0 rfl rfl 0 (by decide) (hts _ (List.mem_cons_of_mem _ mw_1_216)) (fun _ h9 => h9) rfl dX7_meets_29 ?_
        refine va_getN (D := D) (ci := 6) (v := .ref (a 3)) (C := RX6) (T := TX6) (N := 4) hx hb hts xin6 hown hK hP 1 rfl rfl 1 (by decide) (xnf_20 hN) (fun _ h9 => h9) rfl dX7_meets_32 ?_
        refine va_getN (D := D) (ci := 5) (v := .int (cn 7 0)) (C := RX5) (T := TX5) (N := 4) hx hb hts xin5 hown hK hP 4 rfl rfl 0 (by decide) (xnf_1 hN) (fun _ h9 => h9) rfl dX7_meets_35 ?_
        refine lv_if_ne (tgt := 44) hx hb dX7_meets_38 (by decide) (fun c38 => ?_) (fun c38 => ?_)
        · have t38 : ¬ (cn 7 0).toInt = 0 := xi_ne rfl (by decide) c38
          have d38 : ¬ (cn 7 0) = 0 := c38
          refine lv_aload_n hx hb dX7_meets_44 rfl (lv_at hl 0 rfl) ?_
          refine va_get (D := D) (ci := 7) (v := .ref (a 0)) (C := RX7) (T := TX7) (N := 7) hx hb hts xin7 hown hK hP 0 rfl rfl 0 (by decide) (hts _ (List.mem_cons_of_mem _ mw_1_216)) (fun _ h9 => h9) rfl dX7_meets_45 ?_
          refine va_getN (D := D) (ci := 6) (v := .ref (a 7)) (C := RX6) (T := TX6) (N := 4) hx hb hts xin6 hown hK hP 1 rfl rfl 2 (by decide) (xnf_21 hN) (fun _ h9 => h9) rfl dX7_meets_48 ?_
          refine lv_iload_n hx hb dX7_meets_51 rfl (lv_at hl 1 rfl) ?_
          refine xk_Vi0 (As := [.int p1]) (rest := []) hx hb hml hown hts hK hN hZ hP hD hS hA mb_X3_stepsOf mw_2_126 mw_2_48 mw_2_49 (c_X3_stepsOf l D cI cZ cS (a 7) (a 8) (a 9) (a 10) (cn 7 1) (cn 4) p1 ) [8, 9] 8 3 rfl rfl (by decide) rfl (fun _ => by simp only [List.map]) (by decide) (by decide) rfl hl.1 rfl (Nat.le_of_ble_eq_true rfl) dX7_meets_52 ⟨Nat.zero_le _, Nat.zero_le _⟩ (fun _ => rfl) (fun r52 _ H locs hw hP hD hS => ?_)
          have e52 : r52 = if hasS (cn 7 1) p1 then (cn 4) p1.toInt.toNat else 0 := hw
          rw [stepsOf_z hro hir, if_pos hst] at e52
          have g52 : r52.toInt = (ofZ z p1.toInt.toNat 0).toInt := by rw [e52]
          refine lv_istore_n (lv' := [(3, .int r52), (0, .ref x0), (1, .int p1), (2, .int p2)]) hx hb dX7_meets_55 rfl hl (by decide) rfl (fun ls hl => ?_)
          refine lv_aload_n hx hb dX7_meets_56 rfl (lv_at hl 1 rfl) ?_
          refine va_get (D := D) (ci := 7) (v := .ref (a 0)) (C := RX7) (T := TX7) (N := 7) hx hb hts xin7 hown hK hP 0 rfl rfl 0 (by decide) (hts _ (List.mem_cons_of_mem _ mw_1_216)) (fun _ h9 => h9) rfl dX7_meets_57 ?_
          refine va_getN (D := D) (ci := 6) (v := .ref (a 3)) (C := RX6) (T := TX6) (N := 4) hx hb hts xin6 hown hK hP 1 rfl rfl 1 (by decide) (xnf_20 hN) (fun _ h9 => h9) rfl dX7_meets_60 ?_
          refine xk_Vi0 (As := []) (rest := []) hx hb hml hown hts hK hN hZ hP hD hS hA mb_X5_allBeats mw_2_11 mw_2_12 mw_2_13 (c_X5_allBeats l D cI cZ cS (a 3) (a 4) (a 5) (a 6) (cn 7 0) (cn 1) (cn 2) (cn 3) z (by exact hso) (by exact hig)) [4, 5, 6, 7] 4 5 rfl rfl (by decide) rfl (fun _ => by simp only [List.map]) (by decide) (by decide) rfl hl.1 rfl (Nat.le_of_ble_eq_true rfl) dX7_meets_63 ⟨Nat.zero_le _, Nat.zero_le _⟩ (fun _ => rfl) (fun r63 _ H locs hw hP hD hS => ?_)
          have e63 : r63 = sumS z (z 6).toInt.toNat := hw
          have hB := sumS_in hig (z 6).toInt.toNat (by omega)
          rw [← e63] at hB
          refine lv_istore (lv' := [(4, .int r63), (3, .int r52), (0, .ref x0), (1, .int p1), (2, .int p2)]) hx hb dX7_meets_66 hl (by decide) rfl (fun ls hl => ?_)
          refine lv_iload_n hx hb dX7_meets_68 rfl (lv_at hl 4 rfl) ?_
          refine lv_if_ne (tgt := 81) hx hb dX7_meets_69 (by decide) (fun c69 => ?_) (fun c69 => ?_)
          · have t69 : ¬ p2.toInt = 0 := xi_ne rfl (by decide) c69
            have d69 : ¬ p2 = 0 := c69
            refine lv_iload hx hb dX7_meets_81 (lv_at hl 0 rfl) ?_
            refine lv_iload_n hx hb dX7_meets_83 rfl (lv_at hl 1 rfl) ?_
            refine xk_Si0 (As := [.int r63, .int r52]) (rest := []) hx hb hml hown hts hK hN hZ hP hD hS hA mb_X7_songsAtOnce mw_2_168 mw_2_169 (c_X7_songsAtOnce l D cI cZ cS r63 r52 (by first | omega | decide | assumption) (by first | omega | decide | assumption)) [] (by decide) rfl (fun _ => by simp only [List.map]) (by decide) (by decide) rfl hl.1 rfl (Nat.le_of_ble_eq_true rfl) dX7_meets_84 ⟨Nat.zero_le _, Nat.zero_le _⟩ (fun _ => rfl) (fun r84 _ H locs hw hP hD hS => ?_)
            have p84 : leastK r63.toInt r52.toInt r84.toInt := hw
            exact xk_reti () hx hb hr hlocks (xk_P hP (by rfl)) (by unfold meetA; rw [if_pos hst, if_pos (by omega), if_neg (by rw [← hso.1]; exact d38)]; rw [e52, e63] at p84; exact p84) hS dX7_meets_87 hQ
          · have t69 : p2.toInt = 0 := xi_eq rfl (by decide) c69
            have d69 : p2 = 0 := c69
            refine lv_iload hx hb dX7_meets_72 (lv_at hl 0 rfl) ?_
            refine lv_iload_n hx hb dX7_meets_74 rfl (lv_at hl 1 rfl) ?_
            refine xk_Si0 (As := [.int r63, .int r52]) (rest := []) hx hb hml hown hts hK hN hZ hP hD hS hA mb_X7_songsByCounting mw_2_165 mw_2_166 (c_X7_songsByCounting l D cI cZ cS r63 r52 (by first | omega | decide | assumption) (by first | omega | decide | assumption)) [] (by decide) rfl (fun _ => by simp only [List.map]) (by decide) (by decide) rfl hl.1 rfl (Nat.le_of_ble_eq_true rfl) dX7_meets_75 ⟨Nat.zero_le _, Nat.zero_le _⟩ (fun _ => rfl) (fun r75 _ H locs hw hP hD hS => ?_)
            have p75 : leastK r63.toInt r52.toInt r75.toInt := hw
            refine lv_goto (tgt := 87) hx hb dX7_meets_78 (by decide) ?_
            exact xk_reti () hx hb hr hlocks (xk_P hP (by rfl)) (by unfold meetA; rw [if_pos hst, if_pos (by omega), if_neg (by rw [← hso.1]; exact d38)]; rw [e52, e63] at p75; exact p75) hS dX7_meets_87 hQ
        · have t38 : (cn 7 0).toInt = 0 := xi_eq rfl (by decide) c38
          have d38 : (cn 7 0) = 0 := c38
          refine lv_bipush (v := (-5)) hx hb dX7_meets_41 (by decide) ?_
          exact xk_reti () hx hb hr hlocks (xk_P hP (by rfl)) (by unfold meetA; rw [if_pos hst, if_pos (by omega), if_pos (by rw [← hso.1]; exact d38)]) hS dX7_meets_43 hQ
      · have t22 : ¬ p2.toInt = 1 := xi_ne rfl (by decide) c22
        have d22 : ¬ p2 = 1 := c22
        refine lv_bipush (v := (-2)) hx hb dX7_meets_25 (by decide) ?_
        exact xk_reti () hx hb hr hlocks (xk_P hP (by rfl)) (by unfold meetA; rw [if_pos hst, if_neg (by omega)]) hS dX7_meets_27 hQ
  · have b8 : ¬ (hasS (cn 7 1) p1) := b8
    have hns : ¬ strC z p1 := fun hh => b8 ((hasS_iff hro hir p1).mpr hh)
    refine lv_if_ne (tgt := 16) hx hb dX7_meets_11 (by decide) (fun c11 => absurd (by decide) c11) (fun _ => ?_)
    refine lv_iconst (v := (-1)) hx hb dX7_meets_14 (by decide) ?_
    exact xk_reti () hx hb hr hlocks (xk_P hP (by rfl)) (by unfold meetA; rw [if_neg hns]) hS dX7_meets_15 hQ

set_option maxHeartbeats 4000000 in
set_option maxRecDepth 100000 in
theorem c_X7_fault (l : Launch) (D : va_G) (cI cZ cS : ClassId) (x0 xs xv ho0 ho1 pd0 pd1 m0 ts0 ts1 : Nat) (a : Nat → Nat) (ha sa : Nat → Nat → Nat) (cn : Nat → Nat → Int32) (cs sc : Nat → Nat → Nat → Int32) (tm tv pd sv : Nat → Int32) (ln old sz : Int32) (z : Nat → Int32)  (hRS : RS cn z) (hI : InvZ z) (hln : 0 ≤ ln.toInt ∧ ln.toInt ≤ 60) : xMi l yX7_fault cX7_fault 1 (some .int) ({ frames := 2, cells := 0, slots := 0, locals := 45 } : Room) D (xTy cI cZ cS) [.ref x0] ([(x0, .inr (7, [.ref (a 0), .ref xs, .ref xv, .ref ho0, .ref pd0, .ref m0, .ref ts0])), ((a 0), .inr (6, [.ref (a 1), .ref (a 3), .ref (a 7), .ref (a 11)])), ((a 1), .inr (4, [.ref (a 2)])), ((a 2), .inl (cI, 6, .inl (cn 0))), ((a 3), .inr (5, [.int (cn 7 0), .ref (a 4), .ref (a 5), .ref (a 6)])), ((a 4), .inl (cI, 10, .inl (cn 1))), ((a 5), .inl (cI, 120, .inl (cn 2))), ((a 6), .inl (cZ, 120, .inl (cn 3))), ((a 7), .inr (3, [.int (cn 7 1), .ref (a 8), .ref (a 9), .ref (a 10)])), ((a 8), .inl (cI, 12, .inl (cn 4))), ((a 9), .inl (cI, 12, .inl (cn 5))), ((a 10), .inl (cZ, 12, .inl (cn 6))), ((a 11), .inr (1, [.int (z 174), .int (z 175), .int (z 176), .int (z 177), .int (z 178), .int (z 179), .int (z 180), .int (z 189), .int (z 181), .int (z 182), .int (z 183), .int (z 184), .int (z 185), .int (z 186), .int (z 187)])), (pd0, .inr (2, [.ref pd1, .int ln])), (pd1, .inl (cI, 60, .inl pd)), (m0, .inr (1, [.int (tm 0), .int (tm 1), .int (tm 2), .int (tm 3), .int (tm 4), .int (tm 5), .int (tm 6), .int (tm 7), .int (tm 8), .int (tm 9), .int (tm 10), .int (tm 11), .int (tm 12), .int (tm 13), .int (tm 14)])), (ts0, .inr (4, [.ref ts1])), (ts1, .inl (cI, 6, .inl tv)), (ho0, .inr (0, [.ref ho1, .int old, .int sz])), (ho1, .inl (cS, 6, .inr (.inr (.inr (.inr (stA ha)))))), (xs, .inl (cS, 2, .inr (.inr (.inr (.inr (stA sa)))))), (xv, .inl (cZ, 2, .inl sv))] ++ (hsW cI cZ ha cs ++ (stW cI cZ (sa 0) (sc 0) ++ stW cI cZ (sa 1) (sc 1)))) (fun (r : Int32) (_ : Unit) => (FN pd ln.toInt.toNat ∧ r = -6) ∨ (FA pd ln.toInt.toNat r.toInt.toNat ∧ 0 ≤ r.toInt ∧ r.toInt ≤ ln.toInt)) (fun (_ : Unit) => ([(x0, .inr (7, [.ref (a 0), .ref xs, .ref xv, .ref ho0, .ref pd0, .ref m0, .ref ts0])), ((a 0), .inr (6, [.ref (a 1), .ref (a 3), .ref (a 7), .ref (a 11)])), ((a 1), .inr (4, [.ref (a 2)])), ((a 2), .inl (cI, 6, .inl (cn 0))), ((a 3), .inr (5, [.int (cn 7 0), .ref (a 4), .ref (a 5), .ref (a 6)])), ((a 4), .inl (cI, 10, .inl (cn 1))), ((a 5), .inl (cI, 120, .inl (cn 2))), ((a 6), .inl (cZ, 120, .inl (cn 3))), ((a 7), .inr (3, [.int (cn 7 1), .ref (a 8), .ref (a 9), .ref (a 10)])), ((a 8), .inl (cI, 12, .inl (cn 4))), ((a 9), .inl (cI, 12, .inl (cn 5))), ((a 10), .inl (cZ, 12, .inl (cn 6))), ((a 11), .inr (1, [.int (z 174), .int (z 175), .int (z 176), .int (z 177), .int (z 178), .int (z 179), .int (z 180), .int (z 189), .int (z 181), .int (z 182), .int (z 183), .int (z 184), .int (z 185), .int (z 186), .int (z 187)])), (pd0, .inr (2, [.ref pd1, .int ln])), (pd1, .inl (cI, 60, .inl pd)), (m0, .inr (1, [.int (tm 0), .int (tm 1), .int (tm 2), .int (tm 3), .int (tm 4), .int (tm 5), .int (tm 6), .int (tm 7), .int (tm 8), .int (tm 9), .int (tm 10), .int (tm 11), .int (tm 12), .int (tm 13), .int (tm 14)])), (ts0, .inr (4, [.ref ts1])), (ts1, .inl (cI, 6, .inl tv)), (ho0, .inr (0, [.ref ho1, .int old, .int sz])), (ho1, .inl (cS, 6, .inr (.inr (.inr (.inr (stA ha)))))), (xs, .inl (cS, 2, .inr (.inr (.inr (.inr (stA sa)))))), (xv, .inl (cZ, 2, .inl sv))] ++ (hsW cI cZ ha cs ++ (stW cI cZ (sa 0) (sc 0) ++ stW cI cZ (sa 1) (sc 1))))) := by
  refine xk_bodyi (by decide) (Nat.le_of_ble_eq_true rfl) ?_
  intro p e s m below meth c A ls args Q hx hb hr hts hown hlocks hml hin hK hP hD hS hA hN hZ hl hQ
  have hl : lv_has ls 1 [(0, .ref x0)] := hl
  obtain ⟨hrs, hso, hro, hk1, hk2⟩ := id hRS
  obtain ⟨his, hig, hir, hsp, hrp, hlo⟩ := id hI
  refine lv_aload_n hx hb dX7_fault_0 rfl (lv_at hl 0 rfl) ?_
  refine va_get (D := D) (ci := 7) (v := .ref pd0) (C := RX7) (T := TX7) (N := 7) hx hb hts xin7 hown hK hP 0 rfl rfl 4 (by decide) (hts _ (List.mem_cons_of_mem _ mw_1_220)) (fun _ h9 => h9) rfl dX7_fault_1 ?_
  refine xk_Vi0 (As := []) (rest := []) hx hb hml hown hts hK hN hZ hP hD hS hA mb_X2_faultIndex mw_3_49 mw_3_50 mw_3_51 (c_X2_faultIndex l D cI cZ cS pd0 pd1 ln pd (by exact hln)) [13, 14] 13 2 rfl rfl (by decide) rfl (fun _ => by simp only [List.map]) (by decide) (by decide) rfl hl.1 rfl (Nat.le_of_ble_eq_true rfl) dX7_fault_4 ⟨Nat.zero_le _, Nat.zero_le _⟩ (fun _ => rfl) (fun r4 _ H locs hw hP hD hS => ?_)
  have p4 : (FN pd ln.toInt.toNat ∧ r4 = -6) ∨ (FA pd ln.toInt.toNat r4.toInt.toNat ∧ 0 ≤ r4.toInt ∧ r4.toInt ≤ ln.toInt) := hw
  exact xk_reti () hx hb hr hlocks (xk_P hP (by rfl)) (by exact p4) hS dX7_fault_7 hQ

set_option maxHeartbeats 4000000 in
set_option maxRecDepth 100000 in
theorem c_X7_wipe (l : Launch) (D : va_G) (cI cZ cS : ClassId) (x0 xs xv ho0 ho1 pd0 pd1 m0 ts0 ts1 : Nat) (a : Nat → Nat) (ha sa : Nat → Nat → Nat) (cn : Nat → Nat → Int32) (cs sc : Nat → Nat → Nat → Int32) (tm tv pd sv : Nat → Int32) (ln old sz : Int32) (z : Nat → Int32)  (hRS : RS cn z) (hI : InvZ z) : xMi l yX7_wipe cX7_wipe 2 (some .int) ({ frames := 1, cells := 0, slots := 0, locals := 20 } : Room) D (xTy cI cZ cS) [.ref x0] ([(x0, .inr (7, [.ref (a 0), .ref xs, .ref xv, .ref ho0, .ref pd0, .ref m0, .ref ts0])), ((a 0), .inr (6, [.ref (a 1), .ref (a 3), .ref (a 7), .ref (a 11)])), ((a 1), .inr (4, [.ref (a 2)])), ((a 2), .inl (cI, 6, .inl (cn 0))), ((a 3), .inr (5, [.int (cn 7 0), .ref (a 4), .ref (a 5), .ref (a 6)])), ((a 4), .inl (cI, 10, .inl (cn 1))), ((a 5), .inl (cI, 120, .inl (cn 2))), ((a 6), .inl (cZ, 120, .inl (cn 3))), ((a 7), .inr (3, [.int (cn 7 1), .ref (a 8), .ref (a 9), .ref (a 10)])), ((a 8), .inl (cI, 12, .inl (cn 4))), ((a 9), .inl (cI, 12, .inl (cn 5))), ((a 10), .inl (cZ, 12, .inl (cn 6))), ((a 11), .inr (1, [.int (z 174), .int (z 175), .int (z 176), .int (z 177), .int (z 178), .int (z 179), .int (z 180), .int (z 189), .int (z 181), .int (z 182), .int (z 183), .int (z 184), .int (z 185), .int (z 186), .int (z 187)])), (pd0, .inr (2, [.ref pd1, .int ln])), (pd1, .inl (cI, 60, .inl pd)), (m0, .inr (1, [.int (tm 0), .int (tm 1), .int (tm 2), .int (tm 3), .int (tm 4), .int (tm 5), .int (tm 6), .int (tm 7), .int (tm 8), .int (tm 9), .int (tm 10), .int (tm 11), .int (tm 12), .int (tm 13), .int (tm 14)])), (ts0, .inr (4, [.ref ts1])), (ts1, .inl (cI, 6, .inl tv)), (ho0, .inr (0, [.ref ho1, .int old, .int sz])), (ho1, .inl (cS, 6, .inr (.inr (.inr (.inr (stA ha)))))), (xs, .inl (cS, 2, .inr (.inr (.inr (.inr (stA sa)))))), (xv, .inl (cZ, 2, .inl sv))] ++ (hsW cI cZ ha cs ++ (stW cI cZ (sa 0) (sc 0) ++ stW cI cZ (sa 1) (sc 1)))) (fun (r : Int32) (_ : Unit) => r = ln) (fun (_ : Unit) => ([(x0, .inr (7, [.ref (a 0), .ref xs, .ref xv, .ref ho0, .ref pd0, .ref m0, .ref ts0])), ((a 0), .inr (6, [.ref (a 1), .ref (a 3), .ref (a 7), .ref (a 11)])), ((a 1), .inr (4, [.ref (a 2)])), ((a 2), .inl (cI, 6, .inl (cn 0))), ((a 3), .inr (5, [.int (cn 7 0), .ref (a 4), .ref (a 5), .ref (a 6)])), ((a 4), .inl (cI, 10, .inl (cn 1))), ((a 5), .inl (cI, 120, .inl (cn 2))), ((a 6), .inl (cZ, 120, .inl (cn 3))), ((a 7), .inr (3, [.int (cn 7 1), .ref (a 8), .ref (a 9), .ref (a 10)])), ((a 8), .inl (cI, 12, .inl (cn 4))), ((a 9), .inl (cI, 12, .inl (cn 5))), ((a 10), .inl (cZ, 12, .inl (cn 6))), ((a 11), .inr (1, [.int (z 174), .int (z 175), .int (z 176), .int (z 177), .int (z 178), .int (z 179), .int (z 180), .int (z 189), .int (z 181), .int (z 182), .int (z 183), .int (z 184), .int (z 185), .int (z 186), .int (z 187)])), (pd0, .inr (2, [.ref pd1, .int (0 : Int32)])), (pd1, .inl (cI, 60, .inl pd)), (m0, .inr (1, [.int (tm 0), .int (tm 1), .int (tm 2), .int (tm 3), .int (tm 4), .int (tm 5), .int (tm 6), .int (tm 7), .int (tm 8), .int (tm 9), .int (tm 10), .int (tm 11), .int (tm 12), .int (tm 13), .int (tm 14)])), (ts0, .inr (4, [.ref ts1])), (ts1, .inl (cI, 6, .inl tv)), (ho0, .inr (0, [.ref ho1, .int old, .int sz])), (ho1, .inl (cS, 6, .inr (.inr (.inr (.inr (stA ha)))))), (xs, .inl (cS, 2, .inr (.inr (.inr (.inr (stA sa)))))), (xv, .inl (cZ, 2, .inl sv))] ++ (hsW cI cZ ha cs ++ (stW cI cZ (sa 0) (sc 0) ++ stW cI cZ (sa 1) (sc 1))))) := by
  refine xk_bodyi (by decide) (Nat.le_of_ble_eq_true rfl) ?_
  intro p e s m below meth c A ls args Q hx hb hr hts hown hlocks hml hin hK hP hD hS hA hN hZ hl hQ
  have hl : lv_has ls 2 [(0, .ref x0)] := hl
  obtain ⟨hrs, hso, hro, hk1, hk2⟩ := id hRS
  obtain ⟨his, hig, hir, hsp, hrp, hlo⟩ := id hI
  refine lv_aload_n hx hb dX7_wipe_0 rfl (lv_at hl 0 rfl) ?_
  refine va_get (D := D) (ci := 7) (v := .ref pd0) (C := RX7) (T := TX7) (N := 7) hx hb hts xin7 hown hK hP 0 rfl rfl 4 (by decide) (hts _ (List.mem_cons_of_mem _ mw_1_220)) (fun _ h9 => h9) rfl dX7_wipe_1 ?_
  refine va_getN (D := D) (ci := 2) (v := .int ln) (C := RX2) (T := TX2) (N := 2) hx hb hts xin2 hown hK hP 13 rfl rfl 1 (by decide) (xnf_24 hN) (fun _ h9 => h9) rfl dX7_wipe_4 ?_
  refine lv_istore_n (lv' := [(1, .int ln), (0, .ref x0)]) hx hb dX7_wipe_7 rfl hl (by decide) rfl (fun ls hl => ?_)
  refine lv_aload_n hx hb dX7_wipe_8 rfl (lv_at hl 1 rfl) ?_
  refine va_get (D := D) (ci := 7) (v := .ref pd0) (C := RX7) (T := TX7) (N := 7) hx hb hts xin7 hown hK hP 0 rfl rfl 4 (by decide) (hts _ (List.mem_cons_of_mem _ mw_1_220)) (fun _ h9 => h9) rfl dX7_wipe_9 ?_
  refine xk_Vv1 (As := []) (rest := []) hx hb hml hown hts hK hN hZ hP hD hS hA mb_X2_empty mw_3_41 mw_3_42 mw_3_43 (c_X2_empty l D cI cZ cS pd0 pd1 ln ) [13] 13 2 rfl rfl (by decide) rfl (fun _ => by simp only [List.map]) (by decide) (by decide) rfl hl.1 rfl (Nat.le_of_ble_eq_true rfl) dX7_wipe_12 ⟨Nat.zero_le _, Nat.zero_le _⟩ (j1 := 0) (i1 := 13) (e1 := fun (_ : Unit) => (pd0, .inr (2, [.ref pd1, .int (0 : Int32)]))) rfl (fun _ => rfl) (fun _ H locs hw hP hD hS => ?_)
  have hP : va_P D vwCl ([(x0, .inr (7, [.ref (a 0), .ref xs, .ref xv, .ref ho0, .ref pd0, .ref m0, .ref ts0])), ((a 0), .inr (6, [.ref (a 1), .ref (a 3), .ref (a 7), .ref (a 11)])), ((a 1), .inr (4, [.ref (a 2)])), ((a 2), .inl (cI, 6, .inl (cn 0))), ((a 3), .inr (5, [.int (cn 7 0), .ref (a 4), .ref (a 5), .ref (a 6)])), ((a 4), .inl (cI, 10, .inl (cn 1))), ((a 5), .inl (cI, 120, .inl (cn 2))), ((a 6), .inl (cZ, 120, .inl (cn 3))), ((a 7), .inr (3, [.int (cn 7 1), .ref (a 8), .ref (a 9), .ref (a 10)])), ((a 8), .inl (cI, 12, .inl (cn 4))), ((a 9), .inl (cI, 12, .inl (cn 5))), ((a 10), .inl (cZ, 12, .inl (cn 6))), ((a 11), .inr (1, [.int (z 174), .int (z 175), .int (z 176), .int (z 177), .int (z 178), .int (z 179), .int (z 180), .int (z 189), .int (z 181), .int (z 182), .int (z 183), .int (z 184), .int (z 185), .int (z 186), .int (z 187)])), (pd0, .inr (2, [.ref pd1, .int 0])), (pd1, .inl (cI, 60, .inl pd)), (m0, .inr (1, [.int (tm 0), .int (tm 1), .int (tm 2), .int (tm 3), .int (tm 4), .int (tm 5), .int (tm 6), .int (tm 7), .int (tm 8), .int (tm 9), .int (tm 10), .int (tm 11), .int (tm 12), .int (tm 13), .int (tm 14)])), (ts0, .inr (4, [.ref ts1])), (ts1, .inl (cI, 6, .inl tv)), (ho0, .inr (0, [.ref ho1, .int old, .int sz])), (ho1, .inl (cS, 6, .inr (.inr (.inr (.inr (stA ha)))))), (xs, .inl (cS, 2, .inr (.inr (.inr (.inr (stA sa)))))), (xv, .inl (cZ, 2, .inl sv))] ++ (hsW cI cZ ha cs ++ (stW cI cZ (sa 0) (sc 0) ++ stW cI cZ (sa 1) (sc 1)))) H := hP
  have hD : va_D A ([(x0, .inr (7, [.ref (a 0), .ref xs, .ref xv, .ref ho0, .ref pd0, .ref m0, .ref ts0])), ((a 0), .inr (6, [.ref (a 1), .ref (a 3), .ref (a 7), .ref (a 11)])), ((a 1), .inr (4, [.ref (a 2)])), ((a 2), .inl (cI, 6, .inl (cn 0))), ((a 3), .inr (5, [.int (cn 7 0), .ref (a 4), .ref (a 5), .ref (a 6)])), ((a 4), .inl (cI, 10, .inl (cn 1))), ((a 5), .inl (cI, 120, .inl (cn 2))), ((a 6), .inl (cZ, 120, .inl (cn 3))), ((a 7), .inr (3, [.int (cn 7 1), .ref (a 8), .ref (a 9), .ref (a 10)])), ((a 8), .inl (cI, 12, .inl (cn 4))), ((a 9), .inl (cI, 12, .inl (cn 5))), ((a 10), .inl (cZ, 12, .inl (cn 6))), ((a 11), .inr (1, [.int (z 174), .int (z 175), .int (z 176), .int (z 177), .int (z 178), .int (z 179), .int (z 180), .int (z 189), .int (z 181), .int (z 182), .int (z 183), .int (z 184), .int (z 185), .int (z 186), .int (z 187)])), (pd0, .inr (2, [.ref pd1, .int 0])), (pd1, .inl (cI, 60, .inl pd)), (m0, .inr (1, [.int (tm 0), .int (tm 1), .int (tm 2), .int (tm 3), .int (tm 4), .int (tm 5), .int (tm 6), .int (tm 7), .int (tm 8), .int (tm 9), .int (tm 10), .int (tm 11), .int (tm 12), .int (tm 13), .int (tm 14)])), (ts0, .inr (4, [.ref ts1])), (ts1, .inl (cI, 6, .inl tv)), (ho0, .inr (0, [.ref ho1, .int old, .int sz])), (ho1, .inl (cS, 6, .inr (.inr (.inr (.inr (stA ha)))))), (xs, .inl (cS, 2, .inr (.inr (.inr (.inr (stA sa)))))), (xv, .inl (cZ, 2, .inl sv))] ++ (hsW cI cZ ha cs ++ (stW cI cZ (sa 0) (sc 0) ++ stW cI cZ (sa 1) (sc 1)))) := hD
  refine lv_iload_n hx hb dX7_wipe_15 rfl (lv_at hl 0 rfl) ?_
  exact xk_reti () hx hb hr hlocks (xk_P hP (by rfl)) (by first | rfl | assumption | (simp [*]; done)) hS dX7_wipe_16 hQ

set_option maxHeartbeats 4000000 in
set_option maxRecDepth 100000 in
theorem c_X7_put (l : Launch) (D : va_G) (cI cZ cS : ClassId) (x0 xs xv ho0 ho1 pd0 pd1 m0 ts0 ts1 : Nat) (a : Nat → Nat) (ha sa : Nat → Nat → Nat) (cn : Nat → Nat → Int32) (cs sc : Nat → Nat → Nat → Int32) (tm tv pd sv : Nat → Int32) (ln old sz : Int32) (z : Nat → Int32) (v : Int64) (hRS : RS cn z) (hI : InvZ z) (hln : 0 ≤ ln.toInt ∧ ln.toInt ≤ 60) : xMi l yX7_put cX7_put 5 (some .int) ({ frames := 2, cells := 0, slots := 0, locals := 47 } : Room) D (xTy cI cZ cS) [.ref x0, .long v] ([(x0, .inr (7, [.ref (a 0), .ref xs, .ref xv, .ref ho0, .ref pd0, .ref m0, .ref ts0])), ((a 0), .inr (6, [.ref (a 1), .ref (a 3), .ref (a 7), .ref (a 11)])), ((a 1), .inr (4, [.ref (a 2)])), ((a 2), .inl (cI, 6, .inl (cn 0))), ((a 3), .inr (5, [.int (cn 7 0), .ref (a 4), .ref (a 5), .ref (a 6)])), ((a 4), .inl (cI, 10, .inl (cn 1))), ((a 5), .inl (cI, 120, .inl (cn 2))), ((a 6), .inl (cZ, 120, .inl (cn 3))), ((a 7), .inr (3, [.int (cn 7 1), .ref (a 8), .ref (a 9), .ref (a 10)])), ((a 8), .inl (cI, 12, .inl (cn 4))), ((a 9), .inl (cI, 12, .inl (cn 5))), ((a 10), .inl (cZ, 12, .inl (cn 6))), ((a 11), .inr (1, [.int (z 174), .int (z 175), .int (z 176), .int (z 177), .int (z 178), .int (z 179), .int (z 180), .int (z 189), .int (z 181), .int (z 182), .int (z 183), .int (z 184), .int (z 185), .int (z 186), .int (z 187)])), (pd0, .inr (2, [.ref pd1, .int ln])), (pd1, .inl (cI, 60, .inl pd)), (m0, .inr (1, [.int (tm 0), .int (tm 1), .int (tm 2), .int (tm 3), .int (tm 4), .int (tm 5), .int (tm 6), .int (tm 7), .int (tm 8), .int (tm 9), .int (tm 10), .int (tm 11), .int (tm 12), .int (tm 13), .int (tm 14)])), (ts0, .inr (4, [.ref ts1])), (ts1, .inl (cI, 6, .inl tv)), (ho0, .inr (0, [.ref ho1, .int old, .int sz])), (ho1, .inl (cS, 6, .inr (.inr (.inr (.inr (stA ha)))))), (xs, .inl (cS, 2, .inr (.inr (.inr (.inr (stA sa)))))), (xv, .inl (cZ, 2, .inl sv))] ++ (hsW cI cZ ha cs ++ (stW cI cZ (sa 0) (sc 0) ++ stW cI cZ (sa 1) (sc 1)))) (fun (r : Int32) (u : (Int32) × (Nat → Int32)) => putA v ln pd r u.1 u.2) (fun (u : (Int32) × (Nat → Int32)) => ([(x0, .inr (7, [.ref (a 0), .ref xs, .ref xv, .ref ho0, .ref pd0, .ref m0, .ref ts0])), ((a 0), .inr (6, [.ref (a 1), .ref (a 3), .ref (a 7), .ref (a 11)])), ((a 1), .inr (4, [.ref (a 2)])), ((a 2), .inl (cI, 6, .inl (cn 0))), ((a 3), .inr (5, [.int (cn 7 0), .ref (a 4), .ref (a 5), .ref (a 6)])), ((a 4), .inl (cI, 10, .inl (cn 1))), ((a 5), .inl (cI, 120, .inl (cn 2))), ((a 6), .inl (cZ, 120, .inl (cn 3))), ((a 7), .inr (3, [.int (cn 7 1), .ref (a 8), .ref (a 9), .ref (a 10)])), ((a 8), .inl (cI, 12, .inl (cn 4))), ((a 9), .inl (cI, 12, .inl (cn 5))), ((a 10), .inl (cZ, 12, .inl (cn 6))), ((a 11), .inr (1, [.int (z 174), .int (z 175), .int (z 176), .int (z 177), .int (z 178), .int (z 179), .int (z 180), .int (z 189), .int (z 181), .int (z 182), .int (z 183), .int (z 184), .int (z 185), .int (z 186), .int (z 187)])), (pd0, .inr (2, [.ref pd1, .int u.1])), (pd1, .inl (cI, 60, .inl u.2)), (m0, .inr (1, [.int (tm 0), .int (tm 1), .int (tm 2), .int (tm 3), .int (tm 4), .int (tm 5), .int (tm 6), .int (tm 7), .int (tm 8), .int (tm 9), .int (tm 10), .int (tm 11), .int (tm 12), .int (tm 13), .int (tm 14)])), (ts0, .inr (4, [.ref ts1])), (ts1, .inl (cI, 6, .inl tv)), (ho0, .inr (0, [.ref ho1, .int old, .int sz])), (ho1, .inl (cS, 6, .inr (.inr (.inr (.inr (stA ha)))))), (xs, .inl (cS, 2, .inr (.inr (.inr (.inr (stA sa)))))), (xv, .inl (cZ, 2, .inl sv))] ++ (hsW cI cZ ha cs ++ (stW cI cZ (sa 0) (sc 0) ++ stW cI cZ (sa 1) (sc 1))))) := by
  refine xk_bodyi (by decide) (Nat.le_of_ble_eq_true rfl) ?_
  intro p e s m below meth c A ls args Q hx hb hr hts hown hlocks hml hin hK hP hD hS hA hN hZ hl hQ
  have hl : lv_has ls 5 [(0, .ref x0), (1, .long v)] := hl
  obtain ⟨hrs, hso, hro, hk1, hk2⟩ := id hRS
  obtain ⟨his, hig, hir, hsp, hrp, hlo⟩ := id hI
  refine lv_lload_n hx hb dX7_put_0 rfl (lv_at hl 1 rfl) ?_
  refine xk_Si0 (As := [.long v]) (rest := []) hx hb hml hown hts hK hN hZ hP hD hS hA mb_X2_charactersIn mw_3_93 mw_3_94 (c_X2_charactersIn l D cI cZ cS v ) [] (by decide) rfl (fun _ => by simp only [List.map]) (by decide) (by decide) rfl hl.1 rfl (Nat.le_of_ble_eq_true rfl) dX7_put_1 ⟨Nat.zero_le _, Nat.zero_le _⟩ (fun _ => rfl) (fun r1 _ H locs hw hP hD hS => ?_)
  have p1 : (∃ n : Nat, chF 8 v 0 = some n ∧ r1.toInt = n ∧ n ≤ 8) ∨ (chF 8 v 0 = none ∧ r1 = 0) := hw
  refine lv_istore_n (lv' := [(3, .int r1), (0, .ref x0), (1, .long v)]) hx hb dX7_put_4 rfl hl (by decide) rfl (fun ls hl => ?_)
  refine lv_iload_n hx hb dX7_put_5 rfl (lv_at hl 0 rfl) ?_
  refine lv_if_ne (tgt := 12) hx hb dX7_put_6 (by decide) (fun c6 => ?_) (fun c6 => ?_)
  · have t6 : ¬ r1.toInt = 0 := xi_ne rfl (by decide) c6
    have d6 : ¬ r1 = 0 := c6
    have hcn : ∃ n : Nat, chF 8 v 0 = some n ∧ r1.toInt = n ∧ n ≤ 8 := p1.resolve_right (fun q => d6 q.2)
    have hc8 : 1 ≤ r1.toInt ∧ r1.toInt ≤ 8 := by obtain ⟨n, h1, h2, h3⟩ := hcn; omega
    refine lv_aload_n hx hb dX7_put_12 rfl (lv_at hl 1 rfl) ?_
    refine va_get (D := D) (ci := 7) (v := .ref pd0) (C := RX7) (T := TX7) (N := 7) hx hb hts xin7 hown hK hP 0 rfl rfl 4 (by decide) (hts _ (List.mem_cons_of_mem _ mw_1_220)) (fun _ h9 => h9) rfl dX7_put_13 ?_
    refine va_getN (D := D) (ci := 2) (v := .int ln) (C := RX2) (T := TX2) (N := 2) hx hb hts xin2 hown hK hP 13 rfl rfl 1 (by decide) (xnf_24 hN) (fun _ h9 => h9) rfl dX7_put_16 ?_
    refine lv_iload_n hx hb dX7_put_19 rfl (lv_at hl 0 rfl) ?_
    refine lv_iadd hx hb dX7_put_20 ?_
    refine lv_topi (fun x20 e20 => ?_)
    have t20 : x20.toInt = ln.toInt + r1.toInt := by rw [e20]; exact xi_add rfl rfl (by omega) (by omega)
    refine lv_bipush (v := 60) hx hb dX7_put_21 (by decide) ?_
    refine lv_icmp_le (tgt := 29) hx hb dX7_put_23 (by decide) (fun c23 => ?_) (fun c23 => ?_)
    · have t23 : x20.toInt ≤ 60 := xi_le rfl (by decide) c23
      refine lv_iload_n hx hb dX7_put_29 rfl (lv_at hl 0 rfl) ?_
      refine lv_iconst (v := 1) hx hb dX7_put_30 (by decide) ?_
      refine lv_isub hx hb dX7_put_31 ?_
      refine lv_topi (fun x31 e31 => ?_)
      have t31 : x31.toInt = r1.toInt - 1 := by rw [e31]; exact xi_sub rfl (by decide) (by omega) (by omega)
      refine lv_istore (lv' := [(4, .int x31), (3, .int r1), (0, .ref x0), (1, .long v)]) hx hb dX7_put_32 hl (by decide) rfl (fun ls hl => ?_)
      have L34 : ∀ (n : Nat) (q : Int32) (ln1 : Int32) (p9 : Nat → Int32) (hq : -1 ≤ q.toInt ∧ q.toInt ≤ 7 ∧ 0 ≤ ln1.toInt ∧ ln1.toInt + q.toInt + 1 = ln.toInt + r1.toInt) (hap : apP v (q.toInt + 1).toNat ln1.toInt.toNat p9 = apP v r1.toInt.toNat ln.toInt.toNat pd) (hn34 : (q.toInt + 1).toNat < n) (H : Heap) (locs : List Loc), va_P D vwCl ([(x0, .inr (7, [.ref (a 0), .ref xs, .ref xv, .ref ho0, .ref pd0, .ref m0, .ref ts0])), ((a 0), .inr (6, [.ref (a 1), .ref (a 3), .ref (a 7), .ref (a 11)])), ((a 1), .inr (4, [.ref (a 2)])), ((a 2), .inl (cI, 6, .inl (cn 0))), ((a 3), .inr (5, [.int (cn 7 0), .ref (a 4), .ref (a 5), .ref (a 6)])), ((a 4), .inl (cI, 10, .inl (cn 1))), ((a 5), .inl (cI, 120, .inl (cn 2))), ((a 6), .inl (cZ, 120, .inl (cn 3))), ((a 7), .inr (3, [.int (cn 7 1), .ref (a 8), .ref (a 9), .ref (a 10)])), ((a 8), .inl (cI, 12, .inl (cn 4))), ((a 9), .inl (cI, 12, .inl (cn 5))), ((a 10), .inl (cZ, 12, .inl (cn 6))), ((a 11), .inr (1, [.int (z 174), .int (z 175), .int (z 176), .int (z 177), .int (z 178), .int (z 179), .int (z 180), .int (z 189), .int (z 181), .int (z 182), .int (z 183), .int (z 184), .int (z 185), .int (z 186), .int (z 187)])), (pd0, .inr (2, [.ref pd1, .int ln1])), (pd1, .inl (cI, 60, .inl p9)), (m0, .inr (1, [.int (tm 0), .int (tm 1), .int (tm 2), .int (tm 3), .int (tm 4), .int (tm 5), .int (tm 6), .int (tm 7), .int (tm 8), .int (tm 9), .int (tm 10), .int (tm 11), .int (tm 12), .int (tm 13), .int (tm 14)])), (ts0, .inr (4, [.ref ts1])), (ts1, .inl (cI, 6, .inl tv)), (ho0, .inr (0, [.ref ho1, .int old, .int sz])), (ho1, .inl (cS, 6, .inr (.inr (.inr (.inr (stA ha)))))), (xs, .inl (cS, 2, .inr (.inr (.inr (.inr (stA sa)))))), (xv, .inl (cZ, 2, .inl sv))] ++ (hsW cI cZ ha cs ++ (stW cI cZ (sa 0) (sc 0) ++ stW cI cZ (sa 1) (sc 1)))) H → va_D A ([(x0, .inr (7, [.ref (a 0), .ref xs, .ref xv, .ref ho0, .ref pd0, .ref m0, .ref ts0])), ((a 0), .inr (6, [.ref (a 1), .ref (a 3), .ref (a 7), .ref (a 11)])), ((a 1), .inr (4, [.ref (a 2)])), ((a 2), .inl (cI, 6, .inl (cn 0))), ((a 3), .inr (5, [.int (cn 7 0), .ref (a 4), .ref (a 5), .ref (a 6)])), ((a 4), .inl (cI, 10, .inl (cn 1))), ((a 5), .inl (cI, 120, .inl (cn 2))), ((a 6), .inl (cZ, 120, .inl (cn 3))), ((a 7), .inr (3, [.int (cn 7 1), .ref (a 8), .ref (a 9), .ref (a 10)])), ((a 8), .inl (cI, 12, .inl (cn 4))), ((a 9), .inl (cI, 12, .inl (cn 5))), ((a 10), .inl (cZ, 12, .inl (cn 6))), ((a 11), .inr (1, [.int (z 174), .int (z 175), .int (z 176), .int (z 177), .int (z 178), .int (z 179), .int (z 180), .int (z 189), .int (z 181), .int (z 182), .int (z 183), .int (z 184), .int (z 185), .int (z 186), .int (z 187)])), (pd0, .inr (2, [.ref pd1, .int ln1])), (pd1, .inl (cI, 60, .inl p9)), (m0, .inr (1, [.int (tm 0), .int (tm 1), .int (tm 2), .int (tm 3), .int (tm 4), .int (tm 5), .int (tm 6), .int (tm 7), .int (tm 8), .int (tm 9), .int (tm 10), .int (tm 11), .int (tm 12), .int (tm 13), .int (tm 14)])), (ts0, .inr (4, [.ref ts1])), (ts1, .inl (cI, 6, .inl tv)), (ho0, .inr (0, [.ref ho1, .int old, .int sz])), (ho1, .inl (cS, 6, .inr (.inr (.inr (.inr (stA ha)))))), (xs, .inl (cS, 2, .inr (.inr (.inr (.inr (stA sa)))))), (xv, .inl (cZ, 2, .inl sv))] ++ (hsW cI cZ ha cs ++ (stW cI cZ (sa 0) (sc 0) ++ stW cI cZ (sa 1) (sc 1)))) → va_S A s.heap H locs → ∀ ls : Array Slot, lv_has ls 5 [(4, .int q), (3, .int r1), (0, .ref x0), (1, .long v)] → W p l e ({ frames := 2, cells := 0, slots := 0, locals := 47 } : Room) s m args below meth c H locs 0 0 Q (F0 m 34 ls []) := by
        intro n
        induction n with
        | zero =>
          intro q ln1 p9 hq hap hn34
          exact absurd hn34 (Nat.not_lt_zero _)
        | succ n ih34 =>
          intro q ln1 p9 hq hap hn34 H locs hP hD hS ls hl
          refine lv_iload hx hb dX7_put_34 (lv_at hl 0 rfl) ?_
          refine lv_if_lt (tgt := 58) hx hb dX7_put_36 (by decide) (fun c36 => ?_) (fun c36 => ?_)
          · have t36 : q.toInt < 0 := xi_lt rfl (by decide) c36
            refine lv_aload_n hx hb dX7_put_58 rfl (lv_at hl 2 rfl) ?_
            refine va_get (D := D) (ci := 7) (v := .ref pd0) (C := RX7) (T := TX7) (N := 7) hx hb hts xin7 hown hK hP 0 rfl rfl 4 (by decide) (hts _ (List.mem_cons_of_mem _ mw_1_220)) (fun _ h9 => h9) rfl dX7_put_59 ?_
            refine va_getN (D := D) (ci := 2) (v := .int ln1) (C := RX2) (T := TX2) (N := 2) hx hb hts xin2 hown hK hP 13 rfl rfl 1 (by decide) (xnf_24 hN) (fun _ h9 => h9) rfl dX7_put_62 ?_
            have hpp : p9 = apP v r1.toInt.toNat ln.toInt.toNat pd := by rw [← hap, show (q.toInt + 1).toNat = 0 from by omega]; rfl
            exact xk_reti (ln1, p9) hx hb hr hlocks (xk_P hP (by rfl)) (by (try dsimp only); obtain ⟨n, h1, h2, h3⟩ := hcn; unfold putA; rw [h1]; dsimp only; rw [if_neg (by omega), if_neg (by omega)]; exact ⟨rfl, by omega, by rw [show n = r1.toInt.toNat from by omega]; exact hpp⟩) hS dX7_put_65 hQ
          · have t36 : 0 ≤ q.toInt := xi_nlt rfl (by decide) c36
            refine lv_aload_n hx hb dX7_put_39 rfl (lv_at hl 2 rfl) ?_
            refine va_get (D := D) (ci := 7) (v := .ref pd0) (C := RX7) (T := TX7) (N := 7) hx hb hts xin7 hown hK hP 0 rfl rfl 4 (by decide) (hts _ (List.mem_cons_of_mem _ mw_1_220)) (fun _ h9 => h9) rfl dX7_put_40 ?_
            refine lv_lload_n hx hb dX7_put_43 rfl (lv_at hl 3 rfl) ?_
            refine lv_iload hx hb dX7_put_44 (lv_at hl 0 rfl) ?_
            refine xk_Si0 (As := [.long v, .int q]) (rest := [.ref pd0]) hx hb hml hown hts hK hN hZ hP hD hS hA mb_X2_codeIn mw_3_100 mw_3_97 (c_X2_codeIn l D cI cZ cS v q ) [] (by decide) rfl (fun _ => by simp only [List.map]) (by decide) (by decide) rfl hl.1 rfl (Nat.le_of_ble_eq_true rfl) dX7_put_46 ⟨Nat.zero_le _, Nat.zero_le _⟩ (fun _ => rfl) (fun r46 _ H locs hw hP hD hS => ?_)
            have e46 : r46 = cdA v q := hw
            refine xk_Vv (As := [.int r46]) (rest := []) hx hb hml hown hts hK hN hZ hP hD hS hA mb_X2_append mw_3_101 mw_3_102 mw_3_103 (c_X2_append l D cI cZ cS pd0 pd1 ln1 p9 r46 (by omega)) [13, 14] 13 2 rfl rfl (by decide) rfl (fun _ => by simp only [List.map]) (by decide) (by decide) rfl hl.1 rfl (Nat.le_of_ble_eq_true rfl) dX7_put_49 ⟨Nat.zero_le _, Nat.zero_le _⟩ (fun _ H locs hw hP hD hS => ?_)
            have hP : va_P D vwCl ([(x0, .inr (7, [.ref (a 0), .ref xs, .ref xv, .ref ho0, .ref pd0, .ref m0, .ref ts0])), ((a 0), .inr (6, [.ref (a 1), .ref (a 3), .ref (a 7), .ref (a 11)])), ((a 1), .inr (4, [.ref (a 2)])), ((a 2), .inl (cI, 6, .inl (cn 0))), ((a 3), .inr (5, [.int (cn 7 0), .ref (a 4), .ref (a 5), .ref (a 6)])), ((a 4), .inl (cI, 10, .inl (cn 1))), ((a 5), .inl (cI, 120, .inl (cn 2))), ((a 6), .inl (cZ, 120, .inl (cn 3))), ((a 7), .inr (3, [.int (cn 7 1), .ref (a 8), .ref (a 9), .ref (a 10)])), ((a 8), .inl (cI, 12, .inl (cn 4))), ((a 9), .inl (cI, 12, .inl (cn 5))), ((a 10), .inl (cZ, 12, .inl (cn 6))), ((a 11), .inr (1, [.int (z 174), .int (z 175), .int (z 176), .int (z 177), .int (z 178), .int (z 179), .int (z 180), .int (z 189), .int (z 181), .int (z 182), .int (z 183), .int (z 184), .int (z 185), .int (z 186), .int (z 187)])), (pd0, .inr (2, [.ref pd1, .int (ln1 + 1)])), (pd1, .inl (cI, 60, .inl (upd p9 ln1.toInt.toNat r46))), (m0, .inr (1, [.int (tm 0), .int (tm 1), .int (tm 2), .int (tm 3), .int (tm 4), .int (tm 5), .int (tm 6), .int (tm 7), .int (tm 8), .int (tm 9), .int (tm 10), .int (tm 11), .int (tm 12), .int (tm 13), .int (tm 14)])), (ts0, .inr (4, [.ref ts1])), (ts1, .inl (cI, 6, .inl tv)), (ho0, .inr (0, [.ref ho1, .int old, .int sz])), (ho1, .inl (cS, 6, .inr (.inr (.inr (.inr (stA ha)))))), (xs, .inl (cS, 2, .inr (.inr (.inr (.inr (stA sa)))))), (xv, .inl (cZ, 2, .inl sv))] ++ (hsW cI cZ ha cs ++ (stW cI cZ (sa 0) (sc 0) ++ stW cI cZ (sa 1) (sc 1)))) H := hP
            have hD : va_D A ([(x0, .inr (7, [.ref (a 0), .ref xs, .ref xv, .ref ho0, .ref pd0, .ref m0, .ref ts0])), ((a 0), .inr (6, [.ref (a 1), .ref (a 3), .ref (a 7), .ref (a 11)])), ((a 1), .inr (4, [.ref (a 2)])), ((a 2), .inl (cI, 6, .inl (cn 0))), ((a 3), .inr (5, [.int (cn 7 0), .ref (a 4), .ref (a 5), .ref (a 6)])), ((a 4), .inl (cI, 10, .inl (cn 1))), ((a 5), .inl (cI, 120, .inl (cn 2))), ((a 6), .inl (cZ, 120, .inl (cn 3))), ((a 7), .inr (3, [.int (cn 7 1), .ref (a 8), .ref (a 9), .ref (a 10)])), ((a 8), .inl (cI, 12, .inl (cn 4))), ((a 9), .inl (cI, 12, .inl (cn 5))), ((a 10), .inl (cZ, 12, .inl (cn 6))), ((a 11), .inr (1, [.int (z 174), .int (z 175), .int (z 176), .int (z 177), .int (z 178), .int (z 179), .int (z 180), .int (z 189), .int (z 181), .int (z 182), .int (z 183), .int (z 184), .int (z 185), .int (z 186), .int (z 187)])), (pd0, .inr (2, [.ref pd1, .int (ln1 + 1)])), (pd1, .inl (cI, 60, .inl (upd p9 ln1.toInt.toNat r46))), (m0, .inr (1, [.int (tm 0), .int (tm 1), .int (tm 2), .int (tm 3), .int (tm 4), .int (tm 5), .int (tm 6), .int (tm 7), .int (tm 8), .int (tm 9), .int (tm 10), .int (tm 11), .int (tm 12), .int (tm 13), .int (tm 14)])), (ts0, .inr (4, [.ref ts1])), (ts1, .inl (cI, 6, .inl tv)), (ho0, .inr (0, [.ref ho1, .int old, .int sz])), (ho1, .inl (cS, 6, .inr (.inr (.inr (.inr (stA ha)))))), (xs, .inl (cS, 2, .inr (.inr (.inr (.inr (stA sa)))))), (xv, .inl (cZ, 2, .inl sv))] ++ (hsW cI cZ ha cs ++ (stW cI cZ (sa 0) (sc 0) ++ stW cI cZ (sa 1) (sc 1)))) := hD
            obtain ⟨x52, e52⟩ : ∃ y : Int32, y = q + (-1) := ⟨_, rfl⟩
            have t52 : x52.toInt = q.toInt + (-1) := by rw [e52]; exact xi_add rfl (by decide) (by omega) (by omega)
            refine lv_iinc (v := x52) (lv' := [(4, .int x52), (3, .int r1), (0, .ref x0), (1, .long v)]) hx hb dX7_put_52 hl (k := 0) rfl (by rw [e52]; rfl) (by decide) rfl (fun ls hl => ?_)
            refine lv_goto (tgt := 34) hx hb dX7_put_55 (by decide) ?_
            have hq1 : (q.toInt + 1).toNat = (x52.toInt + 1).toNat + 1 := by omega
            have hqn : nI (x52.toInt + 1).toNat = q := xi_ext (by rw [nI_toInt (by omega)]; omega)
            have hl1 : (ln1 + 1).toInt = ln1.toInt + 1 := xi_add rfl (by decide) (by omega) (by omega)
            rw [hq1, apP, hqn, show ln1.toInt.toNat + 1 = (ln1 + 1).toInt.toNat from by omega] at hap
            exact ih34  x52 (ln1 + 1) (upd p9 ln1.toInt.toNat r46) (by omega) (by rw [e46]; exact hap) (by omega) _ _ hP hD hS ls (lv_sub hl [0, 1, 2, 3] rfl)
      exact L34 9 x31 ln pd (by omega) (by rw [show (x31.toInt + 1).toNat = r1.toInt.toNat from by omega]) (by omega) _ _ hP hD hS ls (lv_sub hl [0, 1, 2, 3] rfl)
    · have t23 : 60 < x20.toInt := xi_nle rfl (by decide) c23
      refine lv_bipush (v := (-4)) hx hb dX7_put_26 (by decide) ?_
      exact xk_reti (ln, pd) hx hb hr hlocks (xk_P hP (by rfl)) (by (try dsimp only); obtain ⟨n, h1, h2, h3⟩ := hcn; unfold putA; rw [h1]; dsimp only; rw [if_neg (by omega), if_pos (by omega)]; exact ⟨rfl, rfl, rfl⟩) hS dX7_put_28 hQ
  · have t6 : r1.toInt = 0 := xi_eq rfl (by decide) c6
    have d6 : r1 = 0 := c6
    refine lv_bipush (v := (-2)) hx hb dX7_put_9 (by decide) ?_
    exact xk_reti (ln, pd) hx hb hr hlocks (xk_P hP (by rfl)) (by (try dsimp only); unfold putA; rcases p1 with ⟨n, h1, h2, h3⟩ | ⟨h1, h2⟩; (rw [h1]; dsimp only; rw [if_pos (by omega)]; exact ⟨rfl, rfl, rfl⟩); (rw [h1]; exact ⟨rfl, rfl, rfl⟩)) hS dX7_put_11 hQ
