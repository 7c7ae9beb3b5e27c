set_option maxHeartbeats 4000000 in
set_option maxRecDepth 100000 in
theorem c_X8_in (l : Launch) (D : va_G) (cI cZ cS : ClassId) (p0 p1 p2 : Int32)  : xMi l yX8_in cX8_in 3 (some .boolean) ({ frames := 0, cells := 0, slots := 0, locals := 0 } : Room) D (xTy cI cZ cS) [.int p0, .int p1, .int p2] [] (fun (r : Int32) (_ : Unit) => ((r = 1 ∧ (p1.toInt ≤ p0.toInt ∧ p0.toInt ≤ p2.toInt)) ∨ (r = 0 ∧ ¬ (p1.toInt ≤ p0.toInt ∧ p0.toInt ≤ p2.toInt)))) (fun (_ : Unit) => []) := by
  refine xk_bodyi (by decide) (Nat.le_of_ble_eq_true rfl) ?_
  intro p e s m below meth c A ls args Q hx hb hr hts hown hlocks hml hin hK hP hD hS hA hN hZ hl hQ
  have hl : lv_has ls 3 [(0, .int p0), (1, .int p1), (2, .int p2)] := hl
  refine lv_iload_n hx hb dX8_in_0 rfl (lv_at hl 0 rfl) ?_
  refine lv_iload_n hx hb dX8_in_1 rfl (lv_at hl 1 rfl) ?_
  refine lv_icmp_lt (tgt := 14) hx hb dX8_in_2 (by decide) (fun c2 => ?_) (fun c2 => ?_)
  · have t2 : p0.toInt < p1.toInt := xi_lt rfl rfl c2
    refine lv_iconst (v := 0) hx hb dX8_in_14 (by decide) ?_
    exact xk_retz () hx hb hr hlocks (by decide) (xk_P hP (by rfl)) (by first | exact Or.inl ⟨rfl, by omega⟩ | exact Or.inr ⟨rfl, by omega⟩) hS dX8_in_15 hQ
  · have t2 : p1.toInt ≤ p0.toInt := xi_nlt rfl rfl c2
    refine lv_iload_n hx hb dX8_in_5 rfl (lv_at hl 0 rfl) ?_
    refine lv_iload_n hx hb dX8_in_6 rfl (lv_at hl 2 rfl) ?_
    refine lv_icmp_gt (tgt := 14) hx hb dX8_in_7 (by decide) (fun c7 => ?_) (fun c7 => ?_)
    · have t7 : p2.toInt < p0.toInt := xi_lt rfl rfl c7
      refine lv_iconst (v := 0) hx hb dX8_in_14 (by decide) ?_
      exact xk_retz () hx hb hr hlocks (by decide) (xk_P hP (by rfl)) (by first | exact Or.inl ⟨rfl, by omega⟩ | exact Or.inr ⟨rfl, by omega⟩) hS dX8_in_15 hQ
    · have t7 : p0.toInt ≤ p2.toInt := xi_nlt rfl rfl c7
      refine lv_iconst (v := 1) hx hb dX8_in_10 (by decide) ?_
      refine lv_goto (tgt := 15) hx hb dX8_in_11 (by decide) ?_
      exact xk_retz () hx hb hr hlocks (by decide) (xk_P hP (by rfl)) (by first | exact Or.inl ⟨rfl, by omega⟩ | exact Or.inr ⟨rfl, by omega⟩) hS dX8_in_15 hQ

set_option maxHeartbeats 4000000 in
set_option maxRecDepth 100000 in
theorem c_X8_ofStretch (l : Launch) (D : va_G) (cI cZ cS : ClassId) (h h1 h2 h3 h4 h5 h6 h7 h8 : Nat) (gst gty gse gte gsp gtl : Int32) (z : Nat → Int32) (p1 p2 : Int32) (hs : 0 ≤ p1.toInt ∧ p1.toInt ≤ 11) (hwh : 0 ≤ p2.toInt ∧ p2.toInt ≤ 2) : xMi l yX8_ofStretch cX8_ofStretch 3 (some .int) ({ frames := 0, cells := 0, slots := 0, locals := 0 } : Room) D (xTy cI cZ cS) [.ref h, .int p1, .int p2] [(h, .inr (8, [.ref h1, .ref h2, .ref h3, .int gst, .ref h4, .ref h5, .ref h6, .int gty, .int gse, .int gte, .int gsp, .ref h7, .ref h8, .int gtl])), (h1, .inl (cI, 190, .inl z))] (fun (r : Int32) (_ : Unit) => r = ofZ z p1.toInt.toNat p2.toInt.toNat) (fun (_ : Unit) => [(h, .inr (8, [.ref h1, .ref h2, .ref h3, .int gst, .ref h4, .ref h5, .ref h6, .int gty, .int gse, .int gte, .int gsp, .ref h7, .ref h8, .int gtl])), (h1, .inl (cI, 190, .inl z))]) := by
  refine xk_bodyi (by decide) (Nat.le_of_ble_eq_true rfl) ?_
  intro p e s m below meth c A ls args Q hx hb hr hts hown hlocks hml hin hK hP hD hS hA hN hZ hl hQ
  have hl : lv_has ls 3 [(0, .ref h), (1, .int p1), (2, .int p2)] := hl
  refine lv_aload_n hx hb dX8_ofStretch_0 rfl (lv_at hl 0 rfl) ?_
  refine va_get (D := D) (ci := 8) (v := .ref h1) (C := RX8) (T := TX8) (N := 14) hx hb hts xin8 hown hK hP 0 rfl rfl 0 (by decide) (hts _ (List.mem_cons_of_mem _ mw_3_89)) (fun _ h9 => h9) rfl dX8_ofStretch_1 ?_
  refine lv_sipush (v := 138) hx hb dX8_ofStretch_4 (by decide) ?_
  refine lv_iconst (v := 3) hx hb dX8_ofStretch_7 (by decide) ?_
  refine lv_iload_n hx hb dX8_ofStretch_8 rfl (lv_at hl 1 rfl) ?_
  refine lv_imul hx hb dX8_ofStretch_9 ?_
  refine lv_topi (fun x9 e9 => ?_)
  have t9 : x9.toInt = 3 * p1.toInt := by rw [e9]; exact xi_mul (by decide) rfl (by omega) (by omega)
  refine lv_iadd hx hb dX8_ofStretch_10 ?_
  refine lv_topi (fun x10 e10 => ?_)
  have t10 : x10.toInt = 138 + x9.toInt := by rw [e10]; exact xi_add (by decide) rfl (by omega) (by omega)
  refine lv_iload_n hx hb dX8_ofStretch_11 rfl (lv_at hl 2 rfl) ?_
  refine lv_iadd hx hb dX8_ofStretch_12 ?_
  refine lv_topi (fun x12 e12 => ?_)
  have t12 : x12.toInt = x10.toInt + p2.toInt := by rw [e12]; exact xi_add rfl rfl (by omega) (by omega)
  refine va_iald hx hb hK hP 1 0 rfl rfl (xi_in (by omega) (by omega)) dX8_ofStretch_13 ?_
  refine xk_top (z := z (3 * p1.toInt.toNat + (138 + p2.toInt.toNat))) (xk_rd (by omega)) ?_
  refine lv_topi (fun x13 e13 => ?_)
  exact xk_reti () hx hb hr hlocks (xk_P hP (by rfl)) (by exact e13) hS dX8_ofStretch_14 hQ

set_option maxHeartbeats 4000000 in
set_option maxRecDepth 100000 in
theorem c_X8_isStretch (l : Launch) (D : va_G) (cI cZ cS : ClassId) (h h1 h2 h3 h4 h5 h6 h7 h8 : Nat) (gst gty gse gte gsp gtl : Int32) (z : Nat → Int32) (p1 : Int32) (hs : 0 ≤ (z 7).toInt ∧ (z 7).toInt ≤ 12) : xMi l yX8_isStretch cX8_isStretch 2 (some .boolean) ({ frames := 1, cells := 0, slots := 0, locals := 22 } : Room) D (xTy cI cZ cS) [.ref h, .int p1] [(h, .inr (8, [.ref h1, .ref h2, .ref h3, .int gst, .ref h4, .ref h5, .ref h6, .int gty, .int gse, .int gte, .int gsp, .ref h7, .ref h8, .int gtl])), (h1, .inl (cI, 190, .inl z))] (fun (r : Int32) (_ : Unit) => ((r = 1 ∧ (0 ≤ p1.toInt ∧ p1.toInt < (z 7).toInt)) ∨ (r = 0 ∧ ¬ (0 ≤ p1.toInt ∧ p1.toInt < (z 7).toInt)))) (fun (_ : Unit) => [(h, .inr (8, [.ref h1, .ref h2, .ref h3, .int gst, .ref h4, .ref h5, .ref h6, .int gty, .int gse, .int gte, .int gsp, .ref h7, .ref h8, .int gtl])), (h1, .inl (cI, 190, .inl z))]) := by
  refine xk_bodyi (by decide) (Nat.le_of_ble_eq_true rfl) ?_
  intro p e s m below meth c A ls args Q hx hb hr hts hown hlocks hml hin hK hP hD hS hA hN hZ hl hQ
  have hl : lv_has ls 2 [(0, .ref h), (1, .int p1)] := hl
  refine lv_iload_n hx hb dX8_isStretch_0 rfl (lv_at hl 1 rfl) ?_
  refine lv_iconst (v := 0) hx hb dX8_isStretch_1 (by decide) ?_
  refine lv_aload_n hx hb dX8_isStretch_2 rfl (lv_at hl 0 rfl) ?_
  refine va_get (D := D) (ci := 8) (v := .ref h1) (C := RX8) (T := TX8) (N := 14) hx hb hts xin8 hown hK hP 0 rfl rfl 0 (by decide) (hts _ (List.mem_cons_of_mem _ mw_3_89)) (fun _ h9 => h9) rfl dX8_isStretch_3 ?_
  refine lv_bipush (v := 7) hx hb dX8_isStretch_6 (by decide) ?_
  refine va_iald hx hb hK hP 1 0 rfl rfl (xi_in (by decide) (by decide)) dX8_isStretch_8 ?_
  refine xk_top (z := z 7) rfl ?_
  refine lv_iconst (v := 1) hx hb dX8_isStretch_9 (by decide) ?_
  refine lv_isub hx hb dX8_isStretch_10 ?_
  refine lv_topi (fun x10 e10 => ?_)
  have t10 : x10.toInt = ((z 7).toInt) - 1 := by rw [e10]; exact xi_sub rfl (by decide) (by omega) (by omega)
  refine xk_Si (As := [.int p1, .int 0, .int x10]) (rest := []) hx hb hml hown hts hK hN hZ hP hD hS hA mb_X8_in mw_3_143 mw_3_144 (c_X8_in l D cI cZ cS p1 (0 : Int32) x10 ) [] (by decide) rfl (fun _ => by simp only [List.map]) (by decide) (by decide) rfl hl.1 rfl (Nat.le_of_ble_eq_true rfl) dX8_isStretch_11 ⟨Nat.zero_le _, Nat.zero_le _⟩ (fun r11 _ H locs hw hP hD hS => ?_)
  have hP : va_P D vwCl [(h, .inr (8, [.ref h1, .ref h2, .ref h3, .int gst, .ref h4, .ref h5, .ref h6, .int gty, .int gse, .int gte, .int gsp, .ref h7, .ref h8, .int gtl])), (h1, .inl (cI, 190, .inl z))] H := hP
  have hD : va_D A [(h, .inr (8, [.ref h1, .ref h2, .ref h3, .int gst, .ref h4, .ref h5, .ref h6, .int gty, .int gse, .int gte, .int gsp, .ref h7, .ref h8, .int gtl])), (h1, .inl (cI, 190, .inl z))] := hD
  rcases hw with ⟨rfl, b11⟩ | ⟨rfl, b11⟩
  · have b11 : 0 ≤ p1.toInt ∧ p1.toInt ≤ x10.toInt := b11
    exact xk_retz () hx hb hr hlocks (by decide) (xk_P hP (by rfl)) (by first | exact Or.inl ⟨rfl, by omega⟩ | exact Or.inr ⟨rfl, by omega⟩) hS dX8_isStretch_14 hQ
  · have b11 : ¬ (0 ≤ p1.toInt ∧ p1.toInt ≤ x10.toInt) := b11
    exact xk_retz () hx hb hr hlocks (by decide) (xk_P hP (by rfl)) (by first | exact Or.inl ⟨rfl, by omega⟩ | exact Or.inr ⟨rfl, by omega⟩) hS dX8_isStretch_14 hQ

set_option maxHeartbeats 4000000 in
set_option maxRecDepth 100000 in
theorem c_X8_isLine (l : Launch) (D : va_G) (cI cZ cS : ClassId) (h h1 h2 h3 h4 h5 h6 h7 h8 : Nat) (gst gty gse gte gsp gtl : Int32) (z : Nat → Int32) (p1 : Int32) (hs : 0 ≤ (z 6).toInt ∧ (z 6).toInt ≤ 10) : xMi l yX8_isLine cX8_isLine 2 (some .boolean) ({ frames := 1, cells := 0, slots := 0, locals := 22 } : Room) D (xTy cI cZ cS) [.ref h, .int p1] [(h, .inr (8, [.ref h1, .ref h2, .ref h3, .int gst, .ref h4, .ref h5, .ref h6, .int gty, .int gse, .int gte, .int gsp, .ref h7, .ref h8, .int gtl])), (h1, .inl (cI, 190, .inl z))] (fun (r : Int32) (_ : Unit) => ((r = 1 ∧ (0 ≤ p1.toInt ∧ p1.toInt < (z 6).toInt)) ∨ (r = 0 ∧ ¬ (0 ≤ p1.toInt ∧ p1.toInt < (z 6).toInt)))) (fun (_ : Unit) => [(h, .inr (8, [.ref h1, .ref h2, .ref h3, .int gst, .ref h4, .ref h5, .ref h6, .int gty, .int gse, .int gte, .int gsp, .ref h7, .ref h8, .int gtl])), (h1, .inl (cI, 190, .inl z))]) := by
  refine xk_bodyi (by decide) (Nat.le_of_ble_eq_true rfl) ?_
  intro p e s m below meth c A ls args Q hx hb hr hts hown hlocks hml hin hK hP hD hS hA hN hZ hl hQ
  have hl : lv_has ls 2 [(0, .ref h), (1, .int p1)] := hl
  refine lv_iload_n hx hb dX8_isLine_0 rfl (lv_at hl 1 rfl) ?_
  refine lv_iconst (v := 0) hx hb dX8_isLine_1 (by decide) ?_
  refine lv_aload_n hx hb dX8_isLine_2 rfl (lv_at hl 0 rfl) ?_
  refine va_get (D := D) (ci := 8) (v := .ref h1) (C := RX8) (T := TX8) (N := 14) hx hb hts xin8 hown hK hP 0 rfl rfl 0 (by decide) (hts _ (List.mem_cons_of_mem _ mw_3_89)) (fun _ h9 => h9) rfl dX8_isLine_3 ?_
  refine lv_bipush (v := 6) hx hb dX8_isLine_6 (by decide) ?_
  refine va_iald hx hb hK hP 1 0 rfl rfl (xi_in (by decide) (by decide)) dX8_isLine_8 ?_
  refine xk_top (z := z 6) rfl ?_
  refine lv_iconst (v := 1) hx hb dX8_isLine_9 (by decide) ?_
  refine lv_isub hx hb dX8_isLine_10 ?_
  refine lv_topi (fun x10 e10 => ?_)
  have t10 : x10.toInt = ((z 6).toInt) - 1 := by rw [e10]; exact xi_sub rfl (by decide) (by omega) (by omega)
  refine xk_Si (As := [.int p1, .int 0, .int x10]) (rest := []) hx hb hml hown hts hK hN hZ hP hD hS hA mb_X8_in mw_3_143 mw_3_144 (c_X8_in l D cI cZ cS p1 (0 : Int32) x10 ) [] (by decide) rfl (fun _ => by simp only [List.map]) (by decide) (by decide) rfl hl.1 rfl (Nat.le_of_ble_eq_true rfl) dX8_isLine_11 ⟨Nat.zero_le _, Nat.zero_le _⟩ (fun r11 _ H locs hw hP hD hS => ?_)
  have hP : va_P D vwCl [(h, .inr (8, [.ref h1, .ref h2, .ref h3, .int gst, .ref h4, .ref h5, .ref h6, .int gty, .int gse, .int gte, .int gsp, .ref h7, .ref h8, .int gtl])), (h1, .inl (cI, 190, .inl z))] H := hP
  have hD : va_D A [(h, .inr (8, [.ref h1, .ref h2, .ref h3, .int gst, .ref h4, .ref h5, .ref h6, .int gty, .int gse, .int gte, .int gsp, .ref h7, .ref h8, .int gtl])), (h1, .inl (cI, 190, .inl z))] := hD
  rcases hw with ⟨rfl, b11⟩ | ⟨rfl, b11⟩
  · have b11 : 0 ≤ p1.toInt ∧ p1.toInt ≤ x10.toInt := b11
    exact xk_retz () hx hb hr hlocks (by decide) (xk_P hP (by rfl)) (by first | exact Or.inl ⟨rfl, by omega⟩ | exact Or.inr ⟨rfl, by omega⟩) hS dX8_isLine_14 hQ
  · have b11 : ¬ (0 ≤ p1.toInt ∧ p1.toInt ≤ x10.toInt) := b11
    exact xk_retz () hx hb hr hlocks (by decide) (xk_P hP (by rfl)) (by first | exact Or.inl ⟨rfl, by omega⟩ | exact Or.inr ⟨rfl, by omega⟩) hS dX8_isLine_14 hQ

set_option maxHeartbeats 4000000 in
set_option maxRecDepth 100000 in
theorem c_X8_beatsOf (l : Launch) (D : va_G) (cI cZ cS : ClassId) (h h1 h2 h3 h4 h5 h6 h7 h8 : Nat) (gst gty gse gte gsp gtl : Int32) (z : Nat → Int32) (p1 p2 : Int32) (hg : 0 ≤ p1.toInt ∧ p1.toInt ≤ 9) (hf : 0 ≤ p2.toInt ∧ p2.toInt ≤ 11) : xMi l yX8_beatsOf cX8_beatsOf 3 (some .int) ({ frames := 0, cells := 0, slots := 0, locals := 0 } : Room) D (xTy cI cZ cS) [.ref h, .int p1, .int p2] [(h, .inr (8, [.ref h1, .ref h2, .ref h3, .int gst, .ref h4, .ref h5, .ref h6, .int gty, .int gse, .int gte, .int gsp, .ref h7, .ref h8, .int gtl])), (h1, .inl (cI, 190, .inl z))] (fun (r : Int32) (_ : Unit) => r = btZ z p1.toInt.toNat p2.toInt.toNat) (fun (_ : Unit) => [(h, .inr (8, [.ref h1, .ref h2, .ref h3, .int gst, .ref h4, .ref h5, .ref h6, .int gty, .int gse, .int gte, .int gsp, .ref h7, .ref h8, .int gtl])), (h1, .inl (cI, 190, .inl z))]) := by
  refine xk_bodyi (by decide) (Nat.le_of_ble_eq_true rfl) ?_
  intro p e s m below meth c A ls args Q hx hb hr hts hown hlocks hml hin hK hP hD hS hA hN hZ hl hQ
  have hl : lv_has ls 3 [(0, .ref h), (1, .int p1), (2, .int p2)] := hl
  refine lv_aload_n hx hb dX8_beatsOf_0 rfl (lv_at hl 0 rfl) ?_
  refine va_get (D := D) (ci := 8) (v := .ref h1) (C := RX8) (T := TX8) (N := 14) hx hb hts xin8 hown hK hP 0 rfl rfl 0 (by decide) (hts _ (List.mem_cons_of_mem _ mw_3_89)) (fun _ h9 => h9) rfl dX8_beatsOf_1 ?_
  refine lv_bipush (v := 18) hx hb dX8_beatsOf_4 (by decide) ?_
  refine lv_bipush (v := 12) hx hb dX8_beatsOf_6 (by decide) ?_
  refine lv_iload_n hx hb dX8_beatsOf_8 rfl (lv_at hl 1 rfl) ?_
  refine lv_imul hx hb dX8_beatsOf_9 ?_
  refine lv_topi (fun x9 e9 => ?_)
  have t9 : x9.toInt = 12 * p1.toInt := by rw [e9]; exact xi_mul (by decide) rfl (by omega) (by omega)
  refine lv_iadd hx hb dX8_beatsOf_10 ?_
  refine lv_topi (fun x10 e10 => ?_)
  have t10 : x10.toInt = 18 + x9.toInt := by rw [e10]; exact xi_add (by decide) rfl (by omega) (by omega)
  refine lv_iload_n hx hb dX8_beatsOf_11 rfl (lv_at hl 2 rfl) ?_
  refine lv_iadd hx hb dX8_beatsOf_12 ?_
  refine lv_topi (fun x12 e12 => ?_)
  have t12 : x12.toInt = x10.toInt + p2.toInt := by rw [e12]; exact xi_add rfl rfl (by omega) (by omega)
  refine va_iald hx hb hK hP 1 0 rfl rfl (xi_in (by omega) (by omega)) dX8_beatsOf_13 ?_
  refine xk_top (z := z (12 * p1.toInt.toNat + p2.toInt.toNat + 18)) (xk_rd (by omega)) ?_
  refine lv_topi (fun x13 e13 => ?_)
  refine lv_bipush (v := 10) hx hb dX8_beatsOf_14 (by decide) ?_
  refine lv_irem hx hb dX8_beatsOf_16 (by decide) ?_
  refine lv_topi (fun x16 e16 => ?_)
  exact xk_reti () hx hb hr hlocks (xk_P hP (by rfl)) (by rw [e16, e13]; rfl) hS dX8_beatsOf_17 hQ

set_option maxHeartbeats 4000000 in
set_option maxRecDepth 100000 in
theorem c_X8_hasMark (l : Launch) (D : va_G) (cI cZ cS : ClassId) (h h1 h2 h3 h4 h5 h6 h7 h8 : Nat) (gst gty gse gte gsp gtl : Int32) (z : Nat → Int32) (p1 p2 : Int32) (hg : 0 ≤ p1.toInt ∧ p1.toInt ≤ 9) (hf : 0 ≤ p2.toInt ∧ p2.toInt ≤ 11) : xMi l yX8_hasMark cX8_hasMark 3 (some .boolean) ({ frames := 0, cells := 0, slots := 0, locals := 0 } : Room) D (xTy cI cZ cS) [.ref h, .int p1, .int p2] [(h, .inr (8, [.ref h1, .ref h2, .ref h3, .int gst, .ref h4, .ref h5, .ref h6, .int gty, .int gse, .int gte, .int gsp, .ref h7, .ref h8, .int gtl])), (h1, .inl (cI, 190, .inl z))] (fun (r : Int32) (_ : Unit) => ((r = 1 ∧ (mkZ z p1.toInt.toNat p2.toInt.toNat)) ∨ (r = 0 ∧ ¬ (mkZ z p1.toInt.toNat p2.toInt.toNat)))) (fun (_ : Unit) => [(h, .inr (8, [.ref h1, .ref h2, .ref h3, .int gst, .ref h4, .ref h5, .ref h6, .int gty, .int gse, .int gte, .int gsp, .ref h7, .ref h8, .int gtl])), (h1, .inl (cI, 190, .inl z))]) := by
  refine xk_bodyi (by decide) (Nat.le_of_ble_eq_true rfl) ?_
  intro p e s m below meth c A ls args Q hx hb hr hts hown hlocks hml hin hK hP hD hS hA hN hZ hl hQ
  have hl : lv_has ls 3 [(0, .ref h), (1, .int p1), (2, .int p2)] := hl
  refine lv_aload_n hx hb dX8_hasMark_0 rfl (lv_at hl 0 rfl) ?_
  refine va_get (D := D) (ci := 8) (v := .ref h1) (C := RX8) (T := TX8) (N := 14) hx hb hts xin8 hown hK hP 0 rfl rfl 0 (by decide) (hts _ (List.mem_cons_of_mem _ mw_3_89)) (fun _ h9 => h9) rfl dX8_hasMark_1 ?_
  refine lv_bipush (v := 18) hx hb dX8_hasMark_4 (by decide) ?_
  refine lv_bipush (v := 12) hx hb dX8_hasMark_6 (by decide) ?_
  refine lv_iload_n hx hb dX8_hasMark_8 rfl (lv_at hl 1 rfl) ?_
  refine lv_imul hx hb dX8_hasMark_9 ?_
  refine lv_topi (fun x9 e9 => ?_)
  have t9 : x9.toInt = 12 * p1.toInt := by rw [e9]; exact xi_mul (by decide) rfl (by omega) (by omega)
  refine lv_iadd hx hb dX8_hasMark_10 ?_
  refine lv_topi (fun x10 e10 => ?_)
  have t10 : x10.toInt = 18 + x9.toInt := by rw [e10]; exact xi_add (by decide) rfl (by omega) (by omega)
  refine lv_iload_n hx hb dX8_hasMark_11 rfl (lv_at hl 2 rfl) ?_
  refine lv_iadd hx hb dX8_hasMark_12 ?_
  refine lv_topi (fun x12 e12 => ?_)
  have t12 : x12.toInt = x10.toInt + p2.toInt := by rw [e12]; exact xi_add rfl rfl (by omega) (by omega)
  refine va_iald hx hb hK hP 1 0 rfl rfl (xi_in (by omega) (by omega)) dX8_hasMark_13 ?_
  refine xk_top (z := z (12 * p1.toInt.toNat + p2.toInt.toNat + 18)) (xk_rd (by omega)) ?_
  refine lv_topi (fun x13 e13 => ?_)
  refine lv_bipush (v := 9) hx hb dX8_hasMark_14 (by decide) ?_
  refine lv_icmp_le (tgt := 23) hx hb dX8_hasMark_16 (by decide) (fun c16 => ?_) (fun c16 => ?_)
  · have t16 : x13.toInt ≤ 9 := xi_le rfl (by decide) c16
    refine lv_iconst (v := 0) hx hb dX8_hasMark_23 (by decide) ?_
    exact xk_retz () hx hb hr hlocks (by decide) (xk_P hP (by rfl)) (by rw [e13] at t16; first | exact Or.inl ⟨rfl, by assumption⟩ | exact Or.inr ⟨rfl, by omega⟩) hS dX8_hasMark_24 hQ
  · have t16 : 9 < x13.toInt := xi_nle rfl (by decide) c16
    refine lv_iconst (v := 1) hx hb dX8_hasMark_19 (by decide) ?_
    refine lv_goto (tgt := 24) hx hb dX8_hasMark_20 (by decide) ?_
    exact xk_retz () hx hb hr hlocks (by decide) (xk_P hP (by rfl)) (by rw [e13] at t16; first | exact Or.inl ⟨rfl, by assumption⟩ | exact Or.inr ⟨rfl, by omega⟩) hS dX8_hasMark_24 hQ

set_option maxHeartbeats 4000000 in
set_option maxRecDepth 100000 in
theorem c_X8_canMarch (l : Launch) (D : va_G) (cI cZ cS : ClassId) (h h1 h2 h3 h4 h5 h6 h7 h8 : Nat) (gst gty gse gte gsp gtl : Int32) (z : Nat → Int32)   : xMi l yX8_canMarch cX8_canMarch 1 (some .boolean) ({ frames := 0, cells := 0, slots := 0, locals := 0 } : Room) D (xTy cI cZ cS) [.ref h] [(h, .inr (8, [.ref h1, .ref h2, .ref h3, .int gst, .ref h4, .ref h5, .ref h6, .int gty, .int gse, .int gte, .int gsp, .ref h7, .ref h8, .int gtl])), (h1, .inl (cI, 190, .inl z))] (fun (r : Int32) (_ : Unit) => ((r = 1 ∧ (canZ z)) ∨ (r = 0 ∧ ¬ (canZ z)))) (fun (_ : Unit) => [(h, .inr (8, [.ref h1, .ref h2, .ref h3, .int gst, .ref h4, .ref h5, .ref h6, .int gty, .int gse, .int gte, .int gsp, .ref h7, .ref h8, .int gtl])), (h1, .inl (cI, 190, .inl z))]) := by
  refine xk_bodyi (by decide) (Nat.le_of_ble_eq_true rfl) ?_
  intro p e s m below meth c A ls args Q hx hb hr hts hown hlocks hml hin hK hP hD hS hA hN hZ hl hQ
  have hl : lv_has ls 1 [(0, .ref h)] := hl
  refine lv_aload_n hx hb dX8_canMarch_0 rfl (lv_at hl 0 rfl) ?_
  refine va_get (D := D) (ci := 8) (v := .ref h1) (C := RX8) (T := TX8) (N := 14) hx hb hts xin8 hown hK hP 0 rfl rfl 0 (by decide) (hts _ (List.mem_cons_of_mem _ mw_3_89)) (fun _ h9 => h9) rfl dX8_canMarch_1 ?_
  refine lv_bipush (v := 6) hx hb dX8_canMarch_4 (by decide) ?_
  refine va_iald hx hb hK hP 1 0 rfl rfl (xi_in (by decide) (by decide)) dX8_canMarch_6 ?_
  refine xk_top (z := z 6) rfl ?_
  refine lv_if_le (tgt := 24) hx hb dX8_canMarch_7 (by decide) (fun c7 => ?_) (fun c7 => ?_)
  · have t7 : (z 6).toInt ≤ 0 := xi_le rfl (by decide) c7
    refine lv_iconst (v := 0) hx hb dX8_canMarch_24 (by decide) ?_
    exact xk_retz () hx hb hr hlocks (by decide) (xk_P hP (by rfl)) (by first | exact Or.inl ⟨rfl, by omega⟩ | exact Or.inr ⟨rfl, by omega⟩) hS dX8_canMarch_25 hQ
  · have t7 : 0 < (z 6).toInt := xi_nle rfl (by decide) c7
    refine lv_aload_n hx hb dX8_canMarch_10 rfl (lv_at hl 0 rfl) ?_
    refine va_get (D := D) (ci := 8) (v := .ref h1) (C := RX8) (T := TX8) (N := 14) hx hb hts xin8 hown hK hP 0 rfl rfl 0 (by decide) (hts _ (List.mem_cons_of_mem _ mw_3_89)) (fun _ h9 => h9) rfl dX8_canMarch_11 ?_
    refine lv_bipush (v := 7) hx hb dX8_canMarch_14 (by decide) ?_
    refine va_iald hx hb hK hP 1 0 rfl rfl (xi_in (by decide) (by decide)) dX8_canMarch_16 ?_
    refine xk_top (z := z 7) rfl ?_
    refine lv_if_le (tgt := 24) hx hb dX8_canMarch_17 (by decide) (fun c17 => ?_) (fun c17 => ?_)
    · have t17 : (z 7).toInt ≤ 0 := xi_le rfl (by decide) c17
      refine lv_iconst (v := 0) hx hb dX8_canMarch_24 (by decide) ?_
      exact xk_retz () hx hb hr hlocks (by decide) (xk_P hP (by rfl)) (by first | exact Or.inl ⟨rfl, by omega⟩ | exact Or.inr ⟨rfl, by omega⟩) hS dX8_canMarch_25 hQ
    · have t17 : 0 < (z 7).toInt := xi_nle rfl (by decide) c17
      refine lv_iconst (v := 1) hx hb dX8_canMarch_20 (by decide) ?_
      refine lv_goto (tgt := 25) hx hb dX8_canMarch_21 (by decide) ?_
      exact xk_retz () hx hb hr hlocks (by decide) (xk_P hP (by rfl)) (by first | exact Or.inl ⟨rfl, by omega⟩ | exact Or.inr ⟨rfl, by omega⟩) hS dX8_canMarch_25 hQ

set_option maxHeartbeats 4000000 in
set_option maxRecDepth 100000 in
theorem c_X8_climb (l : Launch) (D : va_G) (cI cZ cS : ClassId) (h h1 h2 h3 h4 h5 h6 h7 h8 : Nat) (gst gty gse gte gsp gtl : Int32) (z : Nat → Int32)  (ha : atZ z) : xMi l yX8_climb cX8_climb 2 (some .int) ({ frames := 1, cells := 0, slots := 0, locals := 22 } : Room) D (xTy cI cZ cS) [.ref h] [(h, .inr (8, [.ref h1, .ref h2, .ref h3, .int gst, .ref h4, .ref h5, .ref h6, .int gty, .int gse, .int gte, .int gsp, .ref h7, .ref h8, .int gtl])), (h1, .inl (cI, 190, .inl z))] (fun (r : Int32) (_ : Unit) => r = climbZ z) (fun (_ : Unit) => [(h, .inr (8, [.ref h1, .ref h2, .ref h3, .int gst, .ref h4, .ref h5, .ref h6, .int gty, .int gse, .int gte, .int gsp, .ref h7, .ref h8, .int gtl])), (h1, .inl (cI, 190, .inl z))]) := by
  refine xk_bodyi (by decide) (Nat.le_of_ble_eq_true rfl) ?_
  intro p e s m below meth c A ls args Q hx hb hr hts hown hlocks hml hin hK hP hD hS hA hN hZ hl hQ
  have hl : lv_has ls 2 [(0, .ref h)] := hl
  obtain ⟨ha1, ha2⟩ := ha
  refine lv_aload_n hx hb dX8_climb_0 rfl (lv_at hl 0 rfl) ?_
  refine lv_aload_n hx hb dX8_climb_1 rfl (lv_at hl 0 rfl) ?_
  refine va_get (D := D) (ci := 8) (v := .ref h1) (C := RX8) (T := TX8) (N := 14) hx hb hts xin8 hown hK hP 0 rfl rfl 0 (by decide) (hts _ (List.mem_cons_of_mem _ mw_3_89)) (fun _ h9 => h9) rfl dX8_climb_2 ?_
  refine lv_sipush (v := 179) hx hb dX8_climb_5 (by decide) ?_
  refine va_iald hx hb hK hP 1 0 rfl rfl (xi_in (by decide) (by decide)) dX8_climb_8 ?_
  refine xk_top (z := z 179) rfl ?_
  refine lv_iconst (v := 1) hx hb dX8_climb_9 (by decide) ?_
  refine xk_Vi (As := [.int (z 179), .int 1]) (rest := []) hx hb hml hown hts hK hN hZ hP hD hS hA mb_X8_ofStretch mw_3_174 mw_3_176 mw_0_11 (c_X8_ofStretch l D cI cZ cS h h1 h2 h3 h4 h5 h6 h7 h8 gst gty gse gte gsp gtl z (z 179) (1 : Int32) (by first | omega | decide | assumption) (by first | omega | decide | assumption)) [0, 1] 0 8 rfl rfl (by decide) rfl (fun _ => by simp only [List.map]) (by decide) (by decide) rfl hl.1 rfl (Nat.le_of_ble_eq_true rfl) dX8_climb_10 ⟨Nat.zero_le _, Nat.zero_le _⟩ (fun r10 _ H locs hw hP hD hS => ?_)
  have hP : va_P D vwCl [(h, .inr (8, [.ref h1, .ref h2, .ref h3, .int gst, .ref h4, .ref h5, .ref h6, .int gty, .int gse, .int gte, .int gsp, .ref h7, .ref h8, .int gtl])), (h1, .inl (cI, 190, .inl z))] H := hP
  have hD : va_D A [(h, .inr (8, [.ref h1, .ref h2, .ref h3, .int gst, .ref h4, .ref h5, .ref h6, .int gty, .int gse, .int gte, .int gsp, .ref h7, .ref h8, .int gtl])), (h1, .inl (cI, 190, .inl z))] := hD
  have e10 : r10 = ofZ z (z 179).toInt.toNat 1 := hw
  refine lv_istore_n (lv' := [(1, .int r10), (0, .ref h)]) hx hb dX8_climb_13 rfl hl (by decide) rfl (fun ls hl => ?_)
  refine lv_iload_n hx hb dX8_climb_14 rfl (lv_at hl 0 rfl) ?_
  refine lv_if_le (tgt := 22) hx hb dX8_climb_15 (by decide) (fun c15 => ?_) (fun c15 => ?_)
  · have t15 : r10.toInt ≤ 0 := xi_le rfl (by decide) c15
    refine lv_iconst (v := 0) hx hb dX8_climb_22 (by decide) ?_
    exact xk_reti () hx hb hr hlocks (xk_P hP (by rfl)) (by unfold climbZ; rw [← e10]; split <;> first | rfl | omega) hS dX8_climb_23 hQ
  · have t15 : 0 < r10.toInt := xi_nle rfl (by decide) c15
    refine lv_iload_n hx hb dX8_climb_18 rfl (lv_at hl 0 rfl) ?_
    refine lv_goto (tgt := 23) hx hb dX8_climb_19 (by decide) ?_
    exact xk_reti () hx hb hr hlocks (xk_P hP (by rfl)) (by unfold climbZ; rw [← e10]; split <;> first | rfl | omega) hS dX8_climb_23 hQ

set_option maxHeartbeats 4000000 in
set_option maxRecDepth 100000 in
theorem c_X8_step (l : Launch) (D : va_G) (cI cZ cS : ClassId) (h h1 h2 h3 h4 h5 h6 h7 h8 : Nat) (gst gty gse gte gsp gtl : Int32) (z : Nat → Int32)  (ha : atZ z) (h5m : ¬ z 5 = 0) : xMv l yX8_step cX8_step 1 none ({ frames := 1, cells := 0, slots := 0, locals := 22 } : Room) D (xTy cI cZ cS) [.ref h] [(h, .inr (8, [.ref h1, .ref h2, .ref h3, .int gst, .ref h4, .ref h5, .ref h6, .int gty, .int gse, .int gte, .int gsp, .ref h7, .ref h8, .int gtl])), (h1, .inl (cI, 190, .inl z))] (fun (_ : Unit) => True) (fun (_ : Unit) => [(h, .inr (8, [.ref h1, .ref h2, .ref h3, .int gst, .ref h4, .ref h5, .ref h6, .int gty, .int gse, .int (if (¬ skipZ z ∧ fullZ z) then 1 else gte), .int gsp, .ref h7, .ref h8, .int gtl])), (h1, .inl (cI, 190, .inl (stepZ z)))]) := by
  refine xk_bodyv (by decide) (Nat.le_of_ble_eq_true rfl) ?_
  intro p e s m below meth c A ls args Q hx hb hr hts hown hlocks hml hin hK hP hD hS hA hN hZ hl hQ
  have hl : lv_has ls 1 [(0, .ref h)] := hl
  obtain ⟨ha1, ha2⟩ := ha
  refine lv_aload_n hx hb dX8_step_0 rfl (lv_at hl 0 rfl) ?_
  refine va_get (D := D) (ci := 8) (v := .ref h1) (C := RX8) (T := TX8) (N := 14) hx hb hts xin8 hown hK hP 0 rfl rfl 0 (by decide) (hts _ (List.mem_cons_of_mem _ mw_3_89)) (fun _ h9 => h9) rfl dX8_step_1 ?_
  refine lv_sipush (v := 189) hx hb dX8_step_4 (by decide) ?_
  refine lv_dup2_11 hx hb dX8_step_7 rfl rfl ?_
  refine va_iald hx hb hK hP 1 0 rfl rfl (xi_in (by decide) (by decide)) dX8_step_8 ?_
  refine xk_top (z := z 189) rfl ?_
  refine lv_iconst (v := 1) hx hb dX8_step_9 (by decide) ?_
  refine lv_iadd hx hb dX8_step_10 ?_
  refine lv_topi (fun x10 e10 => ?_)
  refine va_iast hx hb hK hP hD hS 1 0 rfl rfl (xi_in (by decide) (by decide)) dX8_step_11 (fun H locs hP hD hS => ?_)
  have hP : va_P D vwCl [(h, .inr (8, [.ref h1, .ref h2, .ref h3, .int gst, .ref h4, .ref h5, .ref h6, .int gty, .int gse, .int gte, .int gsp, .ref h7, .ref h8, .int gtl])), (h1, .inl (cI, 190, .inl (upd z 189 x10)))] H := hP
  have hD : va_D A [(h, .inr (8, [.ref h1, .ref h2, .ref h3, .int gst, .ref h4, .ref h5, .ref h6, .int gty, .int gse, .int gte, .int gsp, .ref h7, .ref h8, .int gtl])), (h1, .inl (cI, 190, .inl (upd z 189 x10)))] := hD
  refine lv_aload_n hx hb dX8_step_12 rfl (lv_at hl 0 rfl) ?_
  refine lv_aload_n hx hb dX8_step_13 rfl (lv_at hl 0 rfl) ?_
  refine va_get (D := D) (ci := 8) (v := .ref h1) (C := RX8) (T := TX8) (N := 14) hx hb hts xin8 hown hK hP 0 rfl rfl 0 (by decide) (hts _ (List.mem_cons_of_mem _ mw_3_89)) (fun _ h9 => h9) rfl dX8_step_14 ?_
  refine lv_sipush (v := 179) hx hb dX8_step_17 (by decide) ?_
  refine va_iald hx hb hK hP 1 0 rfl rfl (xi_in (by decide) (by decide)) dX8_step_20 ?_
  refine xk_top (z := z 179) rfl ?_
  refine lv_iconst (v := 2) hx hb dX8_step_21 (by decide) ?_
  refine xk_Vi (As := [.int (z 179), .int 2]) (rest := []) hx hb hml hown hts hK hN hZ hP hD hS hA mb_X8_ofStretch mw_3_174 mw_3_176 mw_0_11 (c_X8_ofStretch l D cI cZ cS h h1 h2 h3 h4 h5 h6 h7 h8 gst gty gse gte gsp gtl (upd z 189 x10) (z 179) (2 : Int32) (by first | omega | decide | assumption) (by first | omega | decide | assumption)) [0, 1] 0 8 rfl rfl (by decide) rfl (fun _ => by simp only [List.map]) (by decide) (by decide) rfl hl.1 rfl (Nat.le_of_ble_eq_true rfl) dX8_step_22 ⟨Nat.zero_le _, Nat.zero_le _⟩ (fun r22 _ H locs hw hP hD hS => ?_)
  have hP : va_P D vwCl [(h, .inr (8, [.ref h1, .ref h2, .ref h3, .int gst, .ref h4, .ref h5, .ref h6, .int gty, .int gse, .int gte, .int gsp, .ref h7, .ref h8, .int gtl])), (h1, .inl (cI, 190, .inl (upd z 189 x10)))] H := hP
  have hD : va_D A [(h, .inr (8, [.ref h1, .ref h2, .ref h3, .int gst, .ref h4, .ref h5, .ref h6, .int gty, .int gse, .int gte, .int gsp, .ref h7, .ref h8, .int gtl])), (h1, .inl (cI, 190, .inl (upd z 189 x10)))] := hD
  have e22 : r22 = ofZ (upd z 189 x10) (z 179).toInt.toNat 2 := hw
  have e22 : r22 = ofZ z ((z 179).toInt.toNat) 2 := by rw [e22, ofZ_upd _ _ (by omega)]
  refine lv_iconst (v := 1) hx hb dX8_step_25 (by decide) ?_
  refine lv_icmp_ne (tgt := 60) hx hb dX8_step_26 (by decide) (fun c26 => ?_) (fun c26 => ?_)
  · have t26 : ¬ r22.toInt = 1 := xi_ne rfl (by decide) c26
    have d26 : ¬ r22 = 1 := c26
    refine lv_aload_n hx hb dX8_step_60 rfl (lv_at hl 0 rfl) ?_
    refine va_get (D := D) (ci := 8) (v := .ref h1) (C := RX8) (T := TX8) (N := 14) hx hb hts xin8 hown hK hP 0 rfl rfl 0 (by decide) (hts _ (List.mem_cons_of_mem _ mw_3_89)) (fun _ h9 => h9) rfl dX8_step_61 ?_
    refine lv_sipush (v := 180) hx hb dX8_step_64 (by decide) ?_
    refine lv_dup2_11 hx hb dX8_step_67 rfl rfl ?_
    refine va_iald hx hb hK hP 1 0 rfl rfl (xi_in (by decide) (by decide)) dX8_step_68 ?_
    refine xk_top (z := z 180) rfl ?_
    refine lv_iconst (v := 1) hx hb dX8_step_69 (by decide) ?_
    refine lv_iadd hx hb dX8_step_70 ?_
    refine lv_topi (fun x70 e70 => ?_)
    refine va_iast hx hb hK hP hD hS 1 0 rfl rfl (xi_in (by decide) (by decide)) dX8_step_71 (fun H locs hP hD hS => ?_)
    have hP : va_P D vwCl [(h, .inr (8, [.ref h1, .ref h2, .ref h3, .int gst, .ref h4, .ref h5, .ref h6, .int gty, .int gse, .int gte, .int gsp, .ref h7, .ref h8, .int gtl])), (h1, .inl (cI, 190, .inl (upd (upd z 189 x10) 180 x70)))] H := hP
    have hD : va_D A [(h, .inr (8, [.ref h1, .ref h2, .ref h3, .int gst, .ref h4, .ref h5, .ref h6, .int gty, .int gse, .int gte, .int gsp, .ref h7, .ref h8, .int gtl])), (h1, .inl (cI, 190, .inl (upd (upd z 189 x10) 180 x70)))] := hD
    refine lv_aload_n hx hb dX8_step_72 rfl (lv_at hl 0 rfl) ?_
    refine va_get (D := D) (ci := 8) (v := .ref h1) (C := RX8) (T := TX8) (N := 14) hx hb hts xin8 hown hK hP 0 rfl rfl 0 (by decide) (hts _ (List.mem_cons_of_mem _ mw_3_89)) (fun _ h9 => h9) rfl dX8_step_73 ?_
    refine lv_sipush (v := 183) hx hb dX8_step_76 (by decide) ?_
    refine lv_dup2_11 hx hb dX8_step_79 rfl rfl ?_
    refine va_iald hx hb hK hP 1 0 rfl rfl (xi_in (by decide) (by decide)) dX8_step_80 ?_
    refine xk_top (z := z 183) rfl ?_
    refine lv_iconst (v := 1) hx hb dX8_step_81 (by decide) ?_
    refine lv_iadd hx hb dX8_step_82 ?_
    refine lv_topi (fun x82 e82 => ?_)
    refine va_iast hx hb hK hP hD hS 1 0 rfl rfl (xi_in (by decide) (by decide)) dX8_step_83 (fun H locs hP hD hS => ?_)
    have hP : va_P D vwCl [(h, .inr (8, [.ref h1, .ref h2, .ref h3, .int gst, .ref h4, .ref h5, .ref h6, .int gty, .int gse, .int gte, .int gsp, .ref h7, .ref h8, .int gtl])), (h1, .inl (cI, 190, .inl (upd (upd (upd z 189 x10) 180 x70) 183 x82)))] H := hP
    have hD : va_D A [(h, .inr (8, [.ref h1, .ref h2, .ref h3, .int gst, .ref h4, .ref h5, .ref h6, .int gty, .int gse, .int gte, .int gsp, .ref h7, .ref h8, .int gtl])), (h1, .inl (cI, 190, .inl (upd (upd (upd z 189 x10) 180 x70) 183 x82)))] := hD
    refine lv_aload_n hx hb dX8_step_84 rfl (lv_at hl 0 rfl) ?_
    refine va_get (D := D) (ci := 8) (v := .ref h1) (C := RX8) (T := TX8) (N := 14) hx hb hts xin8 hown hK hP 0 rfl rfl 0 (by decide) (hts _ (List.mem_cons_of_mem _ mw_3_89)) (fun _ h9 => h9) rfl dX8_step_85 ?_
    refine lv_sipush (v := 180) hx hb dX8_step_88 (by decide) ?_
    refine va_iald hx hb hK hP 1 0 rfl rfl (xi_in (by decide) (by decide)) dX8_step_91 ?_
    refine xk_top (z := x70) rfl ?_
    refine lv_aload_n hx hb dX8_step_92 rfl (lv_at hl 0 rfl) ?_
    refine lv_aload_n hx hb dX8_step_93 rfl (lv_at hl 0 rfl) ?_
    refine va_get (D := D) (ci := 8) (v := .ref h1) (C := RX8) (T := TX8) (N := 14) hx hb hts xin8 hown hK hP 0 rfl rfl 0 (by decide) (hts _ (List.mem_cons_of_mem _ mw_3_89)) (fun _ h9 => h9) rfl dX8_step_94 ?_
    refine lv_sipush (v := 179) hx hb dX8_step_97 (by decide) ?_
    refine va_iald hx hb hK hP 1 0 rfl rfl (xi_in (by decide) (by decide)) dX8_step_100 ?_
    refine xk_top (z := z 179) rfl ?_
    refine lv_iconst (v := 0) hx hb dX8_step_101 (by decide) ?_
    refine xk_Vi (As := [.int (z 179), .int 0]) (rest := [.int x70]) hx hb hml hown hts hK hN hZ hP hD hS hA mb_X8_ofStretch mw_3_174 mw_3_176 mw_0_11 (c_X8_ofStretch l D cI cZ cS h h1 h2 h3 h4 h5 h6 h7 h8 gst gty gse gte gsp gtl (upd (upd (upd z 189 x10) 180 x70) 183 x82) (z 179) (0 : Int32) (by first | omega | decide | assumption) (by first | omega | decide | assumption)) [0, 1] 0 8 rfl rfl (by decide) rfl (fun _ => by simp only [List.map]) (by decide) (by decide) rfl hl.1 rfl (Nat.le_of_ble_eq_true rfl) dX8_step_102 ⟨Nat.zero_le _, Nat.zero_le _⟩ (fun r102 _ H locs hw hP hD hS => ?_)
    have hP : va_P D vwCl [(h, .inr (8, [.ref h1, .ref h2, .ref h3, .int gst, .ref h4, .ref h5, .ref h6, .int gty, .int gse, .int gte, .int gsp, .ref h7, .ref h8, .int gtl])), (h1, .inl (cI, 190, .inl (upd (upd (upd z 189 x10) 180 x70) 183 x82)))] H := hP
    have hD : va_D A [(h, .inr (8, [.ref h1, .ref h2, .ref h3, .int gst, .ref h4, .ref h5, .ref h6, .int gty, .int gse, .int gte, .int gsp, .ref h7, .ref h8, .int gtl])), (h1, .inl (cI, 190, .inl (upd (upd (upd z 189 x10) 180 x70) 183 x82)))] := hD
    have e102 : r102 = ofZ (upd (upd (upd z 189 x10) 180 x70) 183 x82) (z 179).toInt.toNat 0 := hw
    have e102 : r102 = ofZ z ((z 179).toInt.toNat) 0 := by rw [e102, ofZ_upd _ _ (by omega), ofZ_upd _ _ (by omega), ofZ_upd _ _ (by omega)]
    refine lv_icmp_ne (tgt := 174) hx hb dX8_step_105 (by decide) (fun c105 => ?_) (fun c105 => ?_)
    · have t105 : ¬ x70.toInt = r102.toInt := xi_ne rfl rfl c105
      have d105 : ¬ x70 = r102 := c105
      have hk : ¬ skipZ z := by subst e102 e82 e70 e22 e10; exact fun hh => d26 hh.1
      have hu : ¬ fullZ z := by subst e102 e82 e70 e22 e10; exact d105
      have hz : (upd (upd (upd z 189 x10) 180 x70) 183 x82) = stepZ z := by subst e102 e82 e70 e22 e10; rw [stepZ, if_neg hk, if_neg hu]
      have hg : gte = if (¬ skipZ z ∧ fullZ z) then 1 else gte := by rw [if_neg (fun hh => hu hh.2)]
      exact xk_retv () hx hb hr hlocks (xk_P hP (by rw [hz, ← hg])) (by trivial) hS dX8_step_174 hQ
    · have t105 : x70.toInt = r102.toInt := xi_eq rfl rfl c105
      have d105 : x70 = r102 := c105
      refine lv_aload_n hx hb dX8_step_108 rfl (lv_at hl 0 rfl) ?_
      refine lv_iconst (v := 1) hx hb dX8_step_109 (by decide) ?_
      refine va_put (D := D) (ci := 8) (v := .int 1) (ty := .boolean) (C := RX8) (T := TX8) (N := 14) hx hb hts xin8 tyX8 tyX8_ok nmX8 hown hK hP hD hS 0 rfl rfl 9 (by decide) (hts _ (List.mem_cons_of_mem _ mw_3_98)) (fun _ h9 => h9) rfl (by decide +kernel) rfl rfl (Nat.le_of_ble_eq_true rfl) dX8_step_110 (fun H locs hP hD hS => ?_)
      have hP : va_P D vwCl [(h, .inr (8, [.ref h1, .ref h2, .ref h3, .int gst, .ref h4, .ref h5, .ref h6, .int gty, .int gse, .int 1, .int gsp, .ref h7, .ref h8, .int gtl])), (h1, .inl (cI, 190, .inl (upd (upd (upd z 189 x10) 180 x70) 183 x82)))] H := hP
      have hD : va_D A [(h, .inr (8, [.ref h1, .ref h2, .ref h3, .int gst, .ref h4, .ref h5, .ref h6, .int gty, .int gse, .int 1, .int gsp, .ref h7, .ref h8, .int gtl])), (h1, .inl (cI, 190, .inl (upd (upd (upd z 189 x10) 180 x70) 183 x82)))] := hD
      refine lv_aload_n hx hb dX8_step_113 rfl (lv_at hl 0 rfl) ?_
      refine va_get (D := D) (ci := 8) (v := .ref h1) (C := RX8) (T := TX8) (N := 14) hx hb hts xin8 hown hK hP 0 rfl rfl 0 (by decide) (hts _ (List.mem_cons_of_mem _ mw_3_89)) (fun _ h9 => h9) rfl dX8_step_114 ?_
      refine lv_sipush (v := 179) hx hb dX8_step_117 (by decide) ?_
      refine lv_dup2_11 hx hb dX8_step_120 rfl rfl ?_
      refine va_iald hx hb hK hP 1 0 rfl rfl (xi_in (by decide) (by decide)) dX8_step_121 ?_
      refine xk_top (z := z 179) rfl ?_
      refine lv_iconst (v := 1) hx hb dX8_step_122 (by decide) ?_
      refine lv_iadd hx hb dX8_step_123 ?_
      refine lv_topi (fun x123 e123 => ?_)
      refine va_iast hx hb hK hP hD hS 1 0 rfl rfl (xi_in (by decide) (by decide)) dX8_step_124 (fun H locs hP hD hS => ?_)
      have hP : va_P D vwCl [(h, .inr (8, [.ref h1, .ref h2, .ref h3, .int gst, .ref h4, .ref h5, .ref h6, .int gty, .int gse, .int 1, .int gsp, .ref h7, .ref h8, .int gtl])), (h1, .inl (cI, 190, .inl (upd (upd (upd (upd z 189 x10) 180 x70) 183 x82) 179 x123)))] H := hP
      have hD : va_D A [(h, .inr (8, [.ref h1, .ref h2, .ref h3, .int gst, .ref h4, .ref h5, .ref h6, .int gty, .int gse, .int 1, .int gsp, .ref h7, .ref h8, .int gtl])), (h1, .inl (cI, 190, .inl (upd (upd (upd (upd z 189 x10) 180 x70) 183 x82) 179 x123)))] := hD
      refine lv_aload_n hx hb dX8_step_125 rfl (lv_at hl 0 rfl) ?_
      refine va_get (D := D) (ci := 8) (v := .ref h1) (C := RX8) (T := TX8) (N := 14) hx hb hts xin8 hown hK hP 0 rfl rfl 0 (by decide) (hts _ (List.mem_cons_of_mem _ mw_3_89)) (fun _ h9 => h9) rfl dX8_step_126 ?_
      refine lv_sipush (v := 180) hx hb dX8_step_129 (by decide) ?_
      refine lv_iconst (v := 0) hx hb dX8_step_132 (by decide) ?_
      refine va_iast hx hb hK hP hD hS 1 0 rfl rfl (xi_in (by decide) (by decide)) dX8_step_133 (fun H locs hP hD hS => ?_)
      have hP : va_P D vwCl [(h, .inr (8, [.ref h1, .ref h2, .ref h3, .int gst, .ref h4, .ref h5, .ref h6, .int gty, .int gse, .int 1, .int gsp, .ref h7, .ref h8, .int gtl])), (h1, .inl (cI, 190, .inl (upd (upd (upd (upd (upd z 189 x10) 180 x70) 183 x82) 179 x123) 180 0)))] H := hP
      have hD : va_D A [(h, .inr (8, [.ref h1, .ref h2, .ref h3, .int gst, .ref h4, .ref h5, .ref h6, .int gty, .int gse, .int 1, .int gsp, .ref h7, .ref h8, .int gtl])), (h1, .inl (cI, 190, .inl (upd (upd (upd (upd (upd z 189 x10) 180 x70) 183 x82) 179 x123) 180 0)))] := hD
      refine lv_aload_n hx hb dX8_step_134 rfl (lv_at hl 0 rfl) ?_
      refine va_get (D := D) (ci := 8) (v := .ref h1) (C := RX8) (T := TX8) (N := 14) hx hb hts xin8 hown hK hP 0 rfl rfl 0 (by decide) (hts _ (List.mem_cons_of_mem _ mw_3_89)) (fun _ h9 => h9) rfl dX8_step_135 ?_
      refine lv_sipush (v := 189) hx hb dX8_step_138 (by decide) ?_
      refine lv_iconst (v := 0) hx hb dX8_step_141 (by decide) ?_
      refine va_iast hx hb hK hP hD hS 1 0 rfl rfl (xi_in (by decide) (by decide)) dX8_step_142 (fun H locs hP hD hS => ?_)
      have hP : va_P D vwCl [(h, .inr (8, [.ref h1, .ref h2, .ref h3, .int gst, .ref h4, .ref h5, .ref h6, .int gty, .int gse, .int 1, .int gsp, .ref h7, .ref h8, .int gtl])), (h1, .inl (cI, 190, .inl (upd (upd (upd (upd (upd (upd z 189 x10) 180 x70) 183 x82) 179 x123) 180 0) 189 0)))] H := hP
      have hD : va_D A [(h, .inr (8, [.ref h1, .ref h2, .ref h3, .int gst, .ref h4, .ref h5, .ref h6, .int gty, .int gse, .int 1, .int gsp, .ref h7, .ref h8, .int gtl])), (h1, .inl (cI, 190, .inl (upd (upd (upd (upd (upd (upd z 189 x10) 180 x70) 183 x82) 179 x123) 180 0) 189 0)))] := hD
      refine lv_aload_n hx hb dX8_step_143 rfl (lv_at hl 0 rfl) ?_
      refine va_get (D := D) (ci := 8) (v := .ref h1) (C := RX8) (T := TX8) (N := 14) hx hb hts xin8 hown hK hP 0 rfl rfl 0 (by decide) (hts _ (List.mem_cons_of_mem _ mw_3_89)) (fun _ h9 => h9) rfl dX8_step_144 ?_
      refine lv_sipush (v := 188) hx hb dX8_step_147 (by decide) ?_
      refine lv_aload_n hx hb dX8_step_150 rfl (lv_at hl 0 rfl) ?_
      refine va_get (D := D) (ci := 8) (v := .ref h1) (C := RX8) (T := TX8) (N := 14) hx hb hts xin8 hown hK hP 0 rfl rfl 0 (by decide) (hts _ (List.mem_cons_of_mem _ mw_3_89)) (fun _ h9 => h9) rfl dX8_step_151 ?_
      refine lv_sipush (v := 179) hx hb dX8_step_154 (by decide) ?_
      refine va_iald hx hb hK hP 1 0 rfl rfl (xi_in (by decide) (by decide)) dX8_step_157 ?_
      refine xk_top (z := x123) rfl ?_
      refine lv_aload_n hx hb dX8_step_158 rfl (lv_at hl 0 rfl) ?_
      refine va_get (D := D) (ci := 8) (v := .ref h1) (C := RX8) (T := TX8) (N := 14) hx hb hts xin8 hown hK hP 0 rfl rfl 0 (by decide) (hts _ (List.mem_cons_of_mem _ mw_3_89)) (fun _ h9 => h9) rfl dX8_step_159 ?_
      refine lv_bipush (v := 7) hx hb dX8_step_162 (by decide) ?_
      refine va_iald hx hb hK hP 1 0 rfl rfl (xi_in (by decide) (by decide)) dX8_step_164 ?_
      refine xk_top (z := z 7) rfl ?_
      refine lv_icmp_ne (tgt := 172) hx hb dX8_step_165 (by decide) (fun c165 => ?_) (fun c165 => ?_)
      · have t165 : ¬ x123.toInt = (z 7).toInt := xi_ne rfl rfl c165
        have d165 : ¬ x123 = (z 7) := c165
        refine lv_iconst (v := 0) hx hb dX8_step_172 (by decide) ?_
        refine va_iast hx hb hK hP hD hS 1 0 rfl rfl (xi_in (by decide) (by decide)) dX8_step_173 (fun H locs hP hD hS => ?_)
        have hP : va_P D vwCl [(h, .inr (8, [.ref h1, .ref h2, .ref h3, .int gst, .ref h4, .ref h5, .ref h6, .int gty, .int gse, .int 1, .int gsp, .ref h7, .ref h8, .int gtl])), (h1, .inl (cI, 190, .inl (upd (upd (upd (upd (upd (upd (upd z 189 x10) 180 x70) 183 x82) 179 x123) 180 0) 189 0) 188 0)))] H := hP
        have hD : va_D A [(h, .inr (8, [.ref h1, .ref h2, .ref h3, .int gst, .ref h4, .ref h5, .ref h6, .int gty, .int gse, .int 1, .int gsp, .ref h7, .ref h8, .int gtl])), (h1, .inl (cI, 190, .inl (upd (upd (upd (upd (upd (upd (upd z 189 x10) 180 x70) 183 x82) 179 x123) 180 0) 189 0) 188 0)))] := hD
        have hk : ¬ skipZ z := by subst e123 e102 e82 e70 e22 e10; exact fun hh => d26 hh.1
        have hu : fullZ z := by subst e123 e102 e82 e70 e22 e10; exact d105
        have hz : (upd (upd (upd (upd (upd (upd (upd z 189 x10) 180 x70) 183 x82) 179 x123) 180 0) 189 0) 188 0) = stepZ z := by subst e123 e102 e82 e70 e22 e10; rw [stepZ, if_neg hk, if_pos hu, if_neg d165]
        have hg : 1 = if (¬ skipZ z ∧ fullZ z) then 1 else gte := by rw [if_pos ⟨hk, hu⟩]
        exact xk_retv () hx hb hr hlocks (xk_P hP (by rw [hz, ← hg])) (by trivial) hS dX8_step_174 hQ
      · have t165 : x123.toInt = (z 7).toInt := xi_eq rfl rfl c165
        have d165 : x123 = (z 7) := c165
        refine lv_iconst (v := 1) hx hb dX8_step_168 (by decide) ?_
        refine lv_goto (tgt := 173) hx hb dX8_step_169 (by decide) ?_
        refine va_iast hx hb hK hP hD hS 1 0 rfl rfl (xi_in (by decide) (by decide)) dX8_step_173 (fun H locs hP hD hS => ?_)
        have hP : va_P D vwCl [(h, .inr (8, [.ref h1, .ref h2, .ref h3, .int gst, .ref h4, .ref h5, .ref h6, .int gty, .int gse, .int 1, .int gsp, .ref h7, .ref h8, .int gtl])), (h1, .inl (cI, 190, .inl (upd (upd (upd (upd (upd (upd (upd z 189 x10) 180 x70) 183 x82) 179 x123) 180 0) 189 0) 188 1)))] H := hP
        have hD : va_D A [(h, .inr (8, [.ref h1, .ref h2, .ref h3, .int gst, .ref h4, .ref h5, .ref h6, .int gty, .int gse, .int 1, .int gsp, .ref h7, .ref h8, .int gtl])), (h1, .inl (cI, 190, .inl (upd (upd (upd (upd (upd (upd (upd z 189 x10) 180 x70) 183 x82) 179 x123) 180 0) 189 0) 188 1)))] := hD
        have hk : ¬ skipZ z := by subst e123 e102 e82 e70 e22 e10; exact fun hh => d26 hh.1
        have hu : fullZ z := by subst e123 e102 e82 e70 e22 e10; exact d105
        have hz : (upd (upd (upd (upd (upd (upd (upd z 189 x10) 180 x70) 183 x82) 179 x123) 180 0) 189 0) 188 1) = stepZ z := by subst e123 e102 e82 e70 e22 e10; rw [stepZ, if_neg hk, if_pos hu, if_pos d165]
        have hg : 1 = if (¬ skipZ z ∧ fullZ z) then 1 else gte := by rw [if_pos ⟨hk, hu⟩]
        exact xk_retv () hx hb hr hlocks (xk_P hP (by rw [hz, ← hg])) (by trivial) hS dX8_step_174 hQ
  · have t26 : r22.toInt = 1 := xi_eq rfl (by decide) c26
    have d26 : r22 = 1 := c26
    refine lv_aload_n hx hb dX8_step_29 rfl (lv_at hl 0 rfl) ?_
    refine va_get (D := D) (ci := 8) (v := .ref h1) (C := RX8) (T := TX8) (N := 14) hx hb hts xin8 hown hK hP 0 rfl rfl 0 (by decide) (hts _ (List.mem_cons_of_mem _ mw_3_89)) (fun _ h9 => h9) rfl dX8_step_30 ?_
    refine lv_sipush (v := 189) hx hb dX8_step_33 (by decide) ?_
    refine va_iald hx hb hK hP 1 0 rfl rfl (xi_in (by decide) (by decide)) dX8_step_36 ?_
    refine xk_top (z := x10) rfl ?_
    refine lv_aload_n hx hb dX8_step_37 rfl (lv_at hl 0 rfl) ?_
    refine va_get (D := D) (ci := 8) (v := .ref h1) (C := RX8) (T := TX8) (N := 14) hx hb hts xin8 hown hK hP 0 rfl rfl 0 (by decide) (hts _ (List.mem_cons_of_mem _ mw_3_89)) (fun _ h9 => h9) rfl dX8_step_38 ?_
    refine lv_iconst (v := 5) hx hb dX8_step_41 (by decide) ?_
    refine va_iald hx hb hK hP 1 0 rfl rfl (xi_in (by decide) (by decide)) dX8_step_42 ?_
    refine xk_top (z := z 5) rfl ?_
    refine lv_irem hx hb dX8_step_43 (h5m) ?_
    refine lv_topi (fun x43 e43 => ?_)
    refine lv_if_ne (tgt := 60) hx hb dX8_step_44 (by decide) (fun c44 => ?_) (fun c44 => ?_)
    · have t44 : ¬ x43.toInt = 0 := xi_ne rfl (by decide) c44
      have d44 : ¬ x43 = 0 := c44
      refine lv_aload_n hx hb dX8_step_60 rfl (lv_at hl 0 rfl) ?_
      refine va_get (D := D) (ci := 8) (v := .ref h1) (C := RX8) (T := TX8) (N := 14) hx hb hts xin8 hown hK hP 0 rfl rfl 0 (by decide) (hts _ (List.mem_cons_of_mem _ mw_3_89)) (fun _ h9 => h9) rfl dX8_step_61 ?_
      refine lv_sipush (v := 180) hx hb dX8_step_64 (by decide) ?_
      refine lv_dup2_11 hx hb dX8_step_67 rfl rfl ?_
      refine va_iald hx hb hK hP 1 0 rfl rfl (xi_in (by decide) (by decide)) dX8_step_68 ?_
      refine xk_top (z := z 180) rfl ?_
      refine lv_iconst (v := 1) hx hb dX8_step_69 (by decide) ?_
      refine lv_iadd hx hb dX8_step_70 ?_
      refine lv_topi (fun x70 e70 => ?_)
      refine va_iast hx hb hK hP hD hS 1 0 rfl rfl (xi_in (by decide) (by decide)) dX8_step_71 (fun H locs hP hD hS => ?_)
      have hP : va_P D vwCl [(h, .inr (8, [.ref h1, .ref h2, .ref h3, .int gst, .ref h4, .ref h5, .ref h6, .int gty, .int gse, .int gte, .int gsp, .ref h7, .ref h8, .int gtl])), (h1, .inl (cI, 190, .inl (upd (upd z 189 x10) 180 x70)))] H := hP
      have hD : va_D A [(h, .inr (8, [.ref h1, .ref h2, .ref h3, .int gst, .ref h4, .ref h5, .ref h6, .int gty, .int gse, .int gte, .int gsp, .ref h7, .ref h8, .int gtl])), (h1, .inl (cI, 190, .inl (upd (upd z 189 x10) 180 x70)))] := hD
      refine lv_aload_n hx hb dX8_step_72 rfl (lv_at hl 0 rfl) ?_
      refine va_get (D := D) (ci := 8) (v := .ref h1) (C := RX8) (T := TX8) (N := 14) hx hb hts xin8 hown hK hP 0 rfl rfl 0 (by decide) (hts _ (List.mem_cons_of_mem _ mw_3_89)) (fun _ h9 => h9) rfl dX8_step_73 ?_
      refine lv_sipush (v := 183) hx hb dX8_step_76 (by decide) ?_
      refine lv_dup2_11 hx hb dX8_step_79 rfl rfl ?_
      refine va_iald hx hb hK hP 1 0 rfl rfl (xi_in (by decide) (by decide)) dX8_step_80 ?_
      refine xk_top (z := z 183) rfl ?_
      refine lv_iconst (v := 1) hx hb dX8_step_81 (by decide) ?_
      refine lv_iadd hx hb dX8_step_82 ?_
      refine lv_topi (fun x82 e82 => ?_)
      refine va_iast hx hb hK hP hD hS 1 0 rfl rfl (xi_in (by decide) (by decide)) dX8_step_83 (fun H locs hP hD hS => ?_)
      have hP : va_P D vwCl [(h, .inr (8, [.ref h1, .ref h2, .ref h3, .int gst, .ref h4, .ref h5, .ref h6, .int gty, .int gse, .int gte, .int gsp, .ref h7, .ref h8, .int gtl])), (h1, .inl (cI, 190, .inl (upd (upd (upd z 189 x10) 180 x70) 183 x82)))] H := hP
      have hD : va_D A [(h, .inr (8, [.ref h1, .ref h2, .ref h3, .int gst, .ref h4, .ref h5, .ref h6, .int gty, .int gse, .int gte, .int gsp, .ref h7, .ref h8, .int gtl])), (h1, .inl (cI, 190, .inl (upd (upd (upd z 189 x10) 180 x70) 183 x82)))] := hD
      refine lv_aload_n hx hb dX8_step_84 rfl (lv_at hl 0 rfl) ?_
      refine va_get (D := D) (ci := 8) (v := .ref h1) (C := RX8) (T := TX8) (N := 14) hx hb hts xin8 hown hK hP 0 rfl rfl 0 (by decide) (hts _ (List.mem_cons_of_mem _ mw_3_89)) (fun _ h9 => h9) rfl dX8_step_85 ?_
      refine lv_sipush (v := 180) hx hb dX8_step_88 (by decide) ?_
      refine va_iald hx hb hK hP 1 0 rfl rfl (xi_in (by decide) (by decide)) dX8_step_91 ?_
      refine xk_top (z := x70) rfl ?_
      refine lv_aload_n hx hb dX8_step_92 rfl (lv_at hl 0 rfl) ?_
      refine lv_aload_n hx hb dX8_step_93 rfl (lv_at hl 0 rfl) ?_
      refine va_get (D := D) (ci := 8) (v := .ref h1) (C := RX8) (T := TX8) (N := 14) hx hb hts xin8 hown hK hP 0 rfl rfl 0 (by decide) (hts _ (List.mem_cons_of_mem _ mw_3_89)) (fun _ h9 => h9) rfl dX8_step_94 ?_
      refine lv_sipush (v := 179) hx hb dX8_step_97 (by decide) ?_
      refine va_iald hx hb hK hP 1 0 rfl rfl (xi_in (by decide) (by decide)) dX8_step_100 ?_
      refine xk_top (z := z 179) rfl ?_
      refine lv_iconst (v := 0) hx hb dX8_step_101 (by decide) ?_
      refine xk_Vi (As := [.int (z 179), .int 0]) (rest := [.int x70]) hx hb hml hown hts hK hN hZ hP hD hS hA mb_X8_ofStretch mw_3_174 mw_3_176 mw_0_11 (c_X8_ofStretch l D cI cZ cS h h1 h2 h3 h4 h5 h6 h7 h8 gst gty gse gte gsp gtl (upd (upd (upd z 189 x10) 180 x70) 183 x82) (z 179) (0 : Int32) (by first | omega | decide | assumption) (by first | omega | decide | assumption)) [0, 1] 0 8 rfl rfl (by decide) rfl (fun _ => by simp only [List.map]) (by decide) (by decide) rfl hl.1 rfl (Nat.le_of_ble_eq_true rfl) dX8_step_102 ⟨Nat.zero_le _, Nat.zero_le _⟩ (fun r102 _ H locs hw hP hD hS => ?_)
      have hP : va_P D vwCl [(h, .inr (8, [.ref h1, .ref h2, .ref h3, .int gst, .ref h4, .ref h5, .ref h6, .int gty, .int gse, .int gte, .int gsp, .ref h7, .ref h8, .int gtl])), (h1, .inl (cI, 190, .inl (upd (upd (upd z 189 x10) 180 x70) 183 x82)))] H := hP
      have hD : va_D A [(h, .inr (8, [.ref h1, .ref h2, .ref h3, .int gst, .ref h4, .ref h5, .ref h6, .int gty, .int gse, .int gte, .int gsp, .ref h7, .ref h8, .int gtl])), (h1, .inl (cI, 190, .inl (upd (upd (upd z 189 x10) 180 x70) 183 x82)))] := hD
      have e102 : r102 = ofZ (upd (upd (upd z 189 x10) 180 x70) 183 x82) (z 179).toInt.toNat 0 := hw
      have e102 : r102 = ofZ z ((z 179).toInt.toNat) 0 := by rw [e102, ofZ_upd _ _ (by omega), ofZ_upd _ _ (by omega), ofZ_upd _ _ (by omega)]
      refine lv_icmp_ne (tgt := 174) hx hb dX8_step_105 (by decide) (fun c105 => ?_) (fun c105 => ?_)
      · have t105 : ¬ x70.toInt = r102.toInt := xi_ne rfl rfl c105
        have d105 : ¬ x70 = r102 := c105
        have hk : ¬ skipZ z := by subst e102 e82 e70 e43 e22 e10; exact fun hh => d44 hh.2
        have hu : ¬ fullZ z := by subst e102 e82 e70 e43 e22 e10; exact d105
        have hz : (upd (upd (upd z 189 x10) 180 x70) 183 x82) = stepZ z := by subst e102 e82 e70 e43 e22 e10; rw [stepZ, if_neg hk, if_neg hu]
        have hg : gte = if (¬ skipZ z ∧ fullZ z) then 1 else gte := by rw [if_neg (fun hh => hu hh.2)]
        exact xk_retv () hx hb hr hlocks (xk_P hP (by rw [hz, ← hg])) (by trivial) hS dX8_step_174 hQ
      · have t105 : x70.toInt = r102.toInt := xi_eq rfl rfl c105
        have d105 : x70 = r102 := c105
        refine lv_aload_n hx hb dX8_step_108 rfl (lv_at hl 0 rfl) ?_
        refine lv_iconst (v := 1) hx hb dX8_step_109 (by decide) ?_
        refine va_put (D := D) (ci := 8) (v := .int 1) (ty := .boolean) (C := RX8) (T := TX8) (N := 14) hx hb hts xin8 tyX8 tyX8_ok nmX8 hown hK hP hD hS 0 rfl rfl 9 (by decide) (hts _ (List.mem_cons_of_mem _ mw_3_98)) (fun _ h9 => h9) rfl (by decide +kernel) rfl rfl (Nat.le_of_ble_eq_true rfl) dX8_step_110 (fun H locs hP hD hS => ?_)
        have hP : va_P D vwCl [(h, .inr (8, [.ref h1, .ref h2, .ref h3, .int gst, .ref h4, .ref h5, .ref h6, .int gty, .int gse, .int 1, .int gsp, .ref h7, .ref h8, .int gtl])), (h1, .inl (cI, 190, .inl (upd (upd (upd z 189 x10) 180 x70) 183 x82)))] H := hP
        have hD : va_D A [(h, .inr (8, [.ref h1, .ref h2, .ref h3, .int gst, .ref h4, .ref h5, .ref h6, .int gty, .int gse, .int 1, .int gsp, .ref h7, .ref h8, .int gtl])), (h1, .inl (cI, 190, .inl (upd (upd (upd z 189 x10) 180 x70) 183 x82)))] := hD
        refine lv_aload_n hx hb dX8_step_113 rfl (lv_at hl 0 rfl) ?_
        refine va_get (D := D) (ci := 8) (v := .ref h1) (C := RX8) (T := TX8) (N := 14) hx hb hts xin8 hown hK hP 0 rfl rfl 0 (by decide) (hts _ (List.mem_cons_of_mem _ mw_3_89)) (fun _ h9 => h9) rfl dX8_step_114 ?_
        refine lv_sipush (v := 179) hx hb dX8_step_117 (by decide) ?_
        refine lv_dup2_11 hx hb dX8_step_120 rfl rfl ?_
        refine va_iald hx hb hK hP 1 0 rfl rfl (xi_in (by decide) (by decide)) dX8_step_121 ?_
        refine xk_top (z := z 179) rfl ?_
        refine lv_iconst (v := 1) hx hb dX8_step_122 (by decide) ?_
        refine lv_iadd hx hb dX8_step_123 ?_
        refine lv_topi (fun x123 e123 => ?_)
        refine va_iast hx hb hK hP hD hS 1 0 rfl rfl (xi_in (by decide) (by decide)) dX8_step_124 (fun H locs hP hD hS => ?_)
        have hP : va_P D vwCl [(h, .inr (8, [.ref h1, .ref h2, .ref h3, .int gst, .ref h4, .ref h5, .ref h6, .int gty, .int gse, .int 1, .int gsp, .ref h7, .ref h8, .int gtl])), (h1, .inl (cI, 190, .inl (upd (upd (upd (upd z 189 x10) 180 x70) 183 x82) 179 x123)))] H := hP
        have hD : va_D A [(h, .inr (8, [.ref h1, .ref h2, .ref h3, .int gst, .ref h4, .ref h5, .ref h6, .int gty, .int gse, .int 1, .int gsp, .ref h7, .ref h8, .int gtl])), (h1, .inl (cI, 190, .inl (upd (upd (upd (upd z 189 x10) 180 x70) 183 x82) 179 x123)))] := hD
        refine lv_aload_n hx hb dX8_step_125 rfl (lv_at hl 0 rfl) ?_
        refine va_get (D := D) (ci := 8) (v := .ref h1) (C := RX8) (T := TX8) (N := 14) hx hb hts xin8 hown hK hP 0 rfl rfl 0 (by decide) (hts _ (List.mem_cons_of_mem _ mw_3_89)) (fun _ h9 => h9) rfl dX8_step_126 ?_
        refine lv_sipush (v := 180) hx hb dX8_step_129 (by decide) ?_
        refine lv_iconst (v := 0) hx hb dX8_step_132 (by decide) ?_
        refine va_iast hx hb hK hP hD hS 1 0 rfl rfl (xi_in (by decide) (by decide)) dX8_step_133 (fun H locs hP hD hS => ?_)
        have hP : va_P D vwCl [(h, .inr (8, [.ref h1, .ref h2, .ref h3, .int gst, .ref h4, .ref h5, .ref h6, .int gty, .int gse, .int 1, .int gsp, .ref h7, .ref h8, .int gtl])), (h1, .inl (cI, 190, .inl (upd (upd (upd (upd (upd z 189 x10) 180 x70) 183 x82) 179 x123) 180 0)))] H := hP
        have hD : va_D A [(h, .inr (8, [.ref h1, .ref h2, .ref h3, .int gst, .ref h4, .ref h5, .ref h6, .int gty, .int gse, .int 1, .int gsp, .ref h7, .ref h8, .int gtl])), (h1, .inl (cI, 190, .inl (upd (upd (upd (upd (upd z 189 x10) 180 x70) 183 x82) 179 x123) 180 0)))] := hD
        refine lv_aload_n hx hb dX8_step_134 rfl (lv_at hl 0 rfl) ?_
        refine va_get (D := D) (ci := 8) (v := .ref h1) (C := RX8) (T := TX8) (N := 14) hx hb hts xin8 hown hK hP 0 rfl rfl 0 (by decide) (hts _ (List.mem_cons_of_mem _ mw_3_89)) (fun _ h9 => h9) rfl dX8_step_135 ?_
        refine lv_sipush (v := 189) hx hb dX8_step_138 (by decide) ?_
        refine lv_iconst (v := 0) hx hb dX8_step_141 (by decide) ?_
        refine va_iast hx hb hK hP hD hS 1 0 rfl rfl (xi_in (by decide) (by decide)) dX8_step_142 (fun H locs hP hD hS => ?_)
        have hP : va_P D vwCl [(h, .inr (8, [.ref h1, .ref h2, .ref h3, .int gst, .ref h4, .ref h5, .ref h6, .int gty, .int gse, .int 1, .int gsp, .ref h7, .ref h8, .int gtl])), (h1, .inl (cI, 190, .inl (upd (upd (upd (upd (upd (upd z 189 x10) 180 x70) 183 x82) 179 x123) 180 0) 189 0)))] H := hP
        have hD : va_D A [(h, .inr (8, [.ref h1, .ref h2, .ref h3, .int gst, .ref h4, .ref h5, .ref h6, .int gty, .int gse, .int 1, .int gsp, .ref h7, .ref h8, .int gtl])), (h1, .inl (cI, 190, .inl (upd (upd (upd (upd (upd (upd z 189 x10) 180 x70) 183 x82) 179 x123) 180 0) 189 0)))] := hD
        refine lv_aload_n hx hb dX8_step_143 rfl (lv_at hl 0 rfl) ?_
        refine va_get (D := D) (ci := 8) (v := .ref h1) (C := RX8) (T := TX8) (N := 14) hx hb hts xin8 hown hK hP 0 rfl rfl 0 (by decide) (hts _ (List.mem_cons_of_mem _ mw_3_89)) (fun _ h9 => h9) rfl dX8_step_144 ?_
        refine lv_sipush (v := 188) hx hb dX8_step_147 (by decide) ?_
        refine lv_aload_n hx hb dX8_step_150 rfl (lv_at hl 0 rfl) ?_
        refine va_get (D := D) (ci := 8) (v := .ref h1) (C := RX8) (T := TX8) (N := 14) hx hb hts xin8 hown hK hP 0 rfl rfl 0 (by decide) (hts _ (List.mem_cons_of_mem _ mw_3_89)) (fun _ h9 => h9) rfl dX8_step_151 ?_
        refine lv_sipush (v := 179) hx hb dX8_step_154 (by decide) ?_
        refine va_iald hx hb hK hP 1 0 rfl rfl (xi_in (by decide) (by decide)) dX8_step_157 ?_
        refine xk_top (z := x123) rfl ?_
        refine lv_aload_n hx hb dX8_step_158 rfl (lv_at hl 0 rfl) ?_
        refine va_get (D := D) (ci := 8) (v := .ref h1) (C := RX8) (T := TX8) (N := 14) hx hb hts xin8 hown hK hP 0 rfl rfl 0 (by decide) (hts _ (List.mem_cons_of_mem _ mw_3_89)) (fun _ h9 => h9) rfl dX8_step_159 ?_
        refine lv_bipush (v := 7) hx hb dX8_step_162 (by decide) ?_
        refine va_iald hx hb hK hP 1 0 rfl rfl (xi_in (by decide) (by decide)) dX8_step_164 ?_
        refine xk_top (z := z 7) rfl ?_
        refine lv_icmp_ne (tgt := 172) hx hb dX8_step_165 (by decide) (fun c165 => ?_) (fun c165 => ?_)
        · have t165 : ¬ x123.toInt = (z 7).toInt := xi_ne rfl rfl c165
          have d165 : ¬ x123 = (z 7) := c165
          refine lv_iconst (v := 0) hx hb dX8_step_172 (by decide) ?_
          refine va_iast hx hb hK hP hD hS 1 0 rfl rfl (xi_in (by decide) (by decide)) dX8_step_173 (fun H locs hP hD hS => ?_)
          have hP : va_P D vwCl [(h, .inr (8, [.ref h1, .ref h2, .ref h3, .int gst, .ref h4, .ref h5, .ref h6, .int gty, .int gse, .int 1, .int gsp, .ref h7, .ref h8, .int gtl])), (h1, .inl (cI, 190, .inl (upd (upd (upd (upd (upd (upd (upd z 189 x10) 180 x70) 183 x82) 179 x123) 180 0) 189 0) 188 0)))] H := hP
          have hD : va_D A [(h, .inr (8, [.ref h1, .ref h2, .ref h3, .int gst, .ref h4, .ref h5, .ref h6, .int gty, .int gse, .int 1, .int gsp, .ref h7, .ref h8, .int gtl])), (h1, .inl (cI, 190, .inl (upd (upd (upd (upd (upd (upd (upd z 189 x10) 180 x70) 183 x82) 179 x123) 180 0) 189 0) 188 0)))] := hD
          have hk : ¬ skipZ z := by subst e123 e102 e82 e70 e43 e22 e10; exact fun hh => d44 hh.2
          have hu : fullZ z := by subst e123 e102 e82 e70 e43 e22 e10; exact d105
          have hz : (upd (upd (upd (upd (upd (upd (upd z 189 x10) 180 x70) 183 x82) 179 x123) 180 0) 189 0) 188 0) = stepZ z := by subst e123 e102 e82 e70 e43 e22 e10; rw [stepZ, if_neg hk, if_pos hu, if_neg d165]
          have hg : 1 = if (¬ skipZ z ∧ fullZ z) then 1 else gte := by rw [if_pos ⟨hk, hu⟩]
          exact xk_retv () hx hb hr hlocks (xk_P hP (by rw [hz, ← hg])) (by trivial) hS dX8_step_174 hQ
        · have t165 : x123.toInt = (z 7).toInt := xi_eq rfl rfl c165
          have d165 : x123 = (z 7) := c165
          refine lv_iconst (v := 1) hx hb dX8_step_168 (by decide) ?_
          refine lv_goto (tgt := 173) hx hb dX8_step_169 (by decide) ?_
          refine va_iast hx hb hK hP hD hS 1 0 rfl rfl (xi_in (by decide) (by decide)) dX8_step_173 (fun H locs hP hD hS => ?_)
          have hP : va_P D vwCl [(h, .inr (8, [.ref h1, .ref h2, .ref h3, .int gst, .ref h4, .ref h5, .ref h6, .int gty, .int gse, .int 1, .int gsp, .ref h7, .ref h8, .int gtl])), (h1, .inl (cI, 190, .inl (upd (upd (upd (upd (upd (upd (upd z 189 x10) 180 x70) 183 x82) 179 x123) 180 0) 189 0) 188 1)))] H := hP
          have hD : va_D A [(h, .inr (8, [.ref h1, .ref h2, .ref h3, .int gst, .ref h4, .ref h5, .ref h6, .int gty, .int gse, .int 1, .int gsp, .ref h7, .ref h8, .int gtl])), (h1, .inl (cI, 190, .inl (upd (upd (upd (upd (upd (upd (upd z 189 x10) 180 x70) 183 x82) 179 x123) 180 0) 189 0) 188 1)))] := hD
          have hk : ¬ skipZ z := by subst e123 e102 e82 e70 e43 e22 e10; exact fun hh => d44 hh.2
          have hu : fullZ z := by subst e123 e102 e82 e70 e43 e22 e10; exact d105
          have hz : (upd (upd (upd (upd (upd (upd (upd z 189 x10) 180 x70) 183 x82) 179 x123) 180 0) 189 0) 188 1) = stepZ z := by subst e123 e102 e82 e70 e43 e22 e10; rw [stepZ, if_neg hk, if_pos hu, if_pos d165]
          have hg : 1 = if (¬ skipZ z ∧ fullZ z) then 1 else gte := by rw [if_pos ⟨hk, hu⟩]
          exact xk_retv () hx hb hr hlocks (xk_P hP (by rw [hz, ← hg])) (by trivial) hS dX8_step_174 hQ
    · have t44 : x43.toInt = 0 := xi_eq rfl (by decide) c44
      have d44 : x43 = 0 := c44
      refine lv_aload_n hx hb dX8_step_47 rfl (lv_at hl 0 rfl) ?_
      refine va_get (D := D) (ci := 8) (v := .ref h1) (C := RX8) (T := TX8) (N := 14) hx hb hts xin8 hown hK hP 0 rfl rfl 0 (by decide) (hts _ (List.mem_cons_of_mem _ mw_3_89)) (fun _ h9 => h9) rfl dX8_step_48 ?_
      refine lv_sipush (v := 184) hx hb dX8_step_51 (by decide) ?_
      refine lv_dup2_11 hx hb dX8_step_54 rfl rfl ?_
      refine va_iald hx hb hK hP 1 0 rfl rfl (xi_in (by decide) (by decide)) dX8_step_55 ?_
      refine xk_top (z := z 184) rfl ?_
      refine lv_iconst (v := 1) hx hb dX8_step_56 (by decide) ?_
      refine lv_iadd hx hb dX8_step_57 ?_
      refine lv_topi (fun x57 e57 => ?_)
      refine va_iast hx hb hK hP hD hS 1 0 rfl rfl (xi_in (by decide) (by decide)) dX8_step_58 (fun H locs hP hD hS => ?_)
      have hP : va_P D vwCl [(h, .inr (8, [.ref h1, .ref h2, .ref h3, .int gst, .ref h4, .ref h5, .ref h6, .int gty, .int gse, .int gte, .int gsp, .ref h7, .ref h8, .int gtl])), (h1, .inl (cI, 190, .inl (upd (upd z 189 x10) 184 x57)))] H := hP
      have hD : va_D A [(h, .inr (8, [.ref h1, .ref h2, .ref h3, .int gst, .ref h4, .ref h5, .ref h6, .int gty, .int gse, .int gte, .int gsp, .ref h7, .ref h8, .int gtl])), (h1, .inl (cI, 190, .inl (upd (upd z 189 x10) 184 x57)))] := hD
      have hk : skipZ z := by subst e57 e43 e22 e10; exact ⟨d26, d44⟩
      have hz : (upd (upd z 189 x10) 184 x57) = stepZ z := by subst e57 e43 e22 e10; rw [stepZ, if_pos hk]
      have hg : gte = if (¬ skipZ z ∧ fullZ z) then 1 else gte := by rw [if_neg (fun hh => hh.1 hk)]
      exact xk_retv () hx hb hr hlocks (xk_P hP (by rw [hz, ← hg])) (by trivial) hS dX8_step_59 hQ

set_option maxHeartbeats 4000000 in
set_option maxRecDepth 100000 in
theorem c_X8_goOn (l : Launch) (D : va_G) (cI cZ cS : ClassId) (h h1 h2 h3 h4 h5 h6 h7 h8 : Nat) (gst gty gse gte gsp gtl : Int32) (z : Nat → Int32)  (hi : 0 ≤ (z 176).toInt ∧ (z 176).toInt ≤ 9 ∧ 0 ≤ (z 177).toInt ∧ (z 177).toInt ≤ 11) : xMv l yX8_goOn cX8_goOn 3 none ({ frames := 1, cells := 0, slots := 0, locals := 22 } : Room) D (xTy cI cZ cS) [.ref h] [(h, .inr (8, [.ref h1, .ref h2, .ref h3, .int gst, .ref h4, .ref h5, .ref h6, .int gty, .int gse, .int gte, .int gsp, .ref h7, .ref h8, .int gtl])), (h1, .inl (cI, 190, .inl z))] (fun (_ : Unit) => True) (fun (_ : Unit) => [(h, .inr (8, [.ref h1, .ref h2, .ref h3, .int gst, .ref h4, .ref h5, .ref h6, .int gty, .int (if (¬ inFootZ z ∧ songEZ z) then 1 else gse), .int gte, .int gsp, .ref h7, .ref h8, .int gtl])), (h1, .inl (cI, 190, .inl (goOnZ z)))]) := by
  refine xk_bodyv (by decide) (Nat.le_of_ble_eq_true rfl) ?_
  intro p e s m below meth c A ls args Q hx hb hr hts hown hlocks hml hin hK hP hD hS hA hN hZ hl hQ
  have hl : lv_has ls 3 [(0, .ref h)] := hl
  obtain ⟨hi1, hi2, hi3, hi4⟩ := hi
  refine lv_aload_n hx hb dX8_goOn_0 rfl (lv_at hl 0 rfl) ?_
  refine va_get (D := D) (ci := 8) (v := .ref h1) (C := RX8) (T := TX8) (N := 14) hx hb hts xin8 hown hK hP 0 rfl rfl 0 (by decide) (hts _ (List.mem_cons_of_mem _ mw_3_89)) (fun _ h9 => h9) rfl dX8_goOn_1 ?_
  refine lv_sipush (v := 176) hx hb dX8_goOn_4 (by decide) ?_
  refine va_iald hx hb hK hP 1 0 rfl rfl (xi_in (by decide) (by decide)) dX8_goOn_7 ?_
  refine xk_top (z := z 176) rfl ?_
  refine lv_istore_n (lv' := [(1, .int (z 176)), (0, .ref h)]) hx hb dX8_goOn_8 rfl hl (by decide) rfl (fun ls hl => ?_)
  refine lv_aload_n hx hb dX8_goOn_9 rfl (lv_at hl 1 rfl) ?_
  refine va_get (D := D) (ci := 8) (v := .ref h1) (C := RX8) (T := TX8) (N := 14) hx hb hts xin8 hown hK hP 0 rfl rfl 0 (by decide) (hts _ (List.mem_cons_of_mem _ mw_3_89)) (fun _ h9 => h9) rfl dX8_goOn_10 ?_
  refine lv_sipush (v := 177) hx hb dX8_goOn_13 (by decide) ?_
  refine va_iald hx hb hK hP 1 0 rfl rfl (xi_in (by decide) (by decide)) dX8_goOn_16 ?_
  refine xk_top (z := z 177) rfl ?_
  refine lv_istore_n (lv' := [(2, .int (z 177)), (1, .int (z 176)), (0, .ref h)]) hx hb dX8_goOn_17 rfl hl (by decide) rfl (fun ls hl => ?_)
  refine lv_aload_n hx hb dX8_goOn_18 rfl (lv_at hl 2 rfl) ?_
  refine va_get (D := D) (ci := 8) (v := .ref h1) (C := RX8) (T := TX8) (N := 14) hx hb hts xin8 hown hK hP 0 rfl rfl 0 (by decide) (hts _ (List.mem_cons_of_mem _ mw_3_89)) (fun _ h9 => h9) rfl dX8_goOn_19 ?_
  refine lv_sipush (v := 178) hx hb dX8_goOn_22 (by decide) ?_
  refine lv_dup2_11 hx hb dX8_goOn_25 rfl rfl ?_
  refine va_iald hx hb hK hP 1 0 rfl rfl (xi_in (by decide) (by decide)) dX8_goOn_26 ?_
  refine xk_top (z := z 178) rfl ?_
  refine lv_iconst (v := 1) hx hb dX8_goOn_27 (by decide) ?_
  refine lv_iadd hx hb dX8_goOn_28 ?_
  refine lv_topi (fun x28 e28 => ?_)
  refine va_iast hx hb hK hP hD hS 1 0 rfl rfl (xi_in (by decide) (by decide)) dX8_goOn_29 (fun H locs hP hD hS => ?_)
  have hP : va_P D vwCl [(h, .inr (8, [.ref h1, .ref h2, .ref h3, .int gst, .ref h4, .ref h5, .ref h6, .int gty, .int gse, .int gte, .int gsp, .ref h7, .ref h8, .int gtl])), (h1, .inl (cI, 190, .inl (upd z 178 x28)))] H := hP
  have hD : va_D A [(h, .inr (8, [.ref h1, .ref h2, .ref h3, .int gst, .ref h4, .ref h5, .ref h6, .int gty, .int gse, .int gte, .int gsp, .ref h7, .ref h8, .int gtl])), (h1, .inl (cI, 190, .inl (upd z 178 x28)))] := hD
  refine lv_aload_n hx hb dX8_goOn_30 rfl (lv_at hl 2 rfl) ?_
  refine va_get (D := D) (ci := 8) (v := .ref h1) (C := RX8) (T := TX8) (N := 14) hx hb hts xin8 hown hK hP 0 rfl rfl 0 (by decide) (hts _ (List.mem_cons_of_mem _ mw_3_89)) (fun _ h9 => h9) rfl dX8_goOn_31 ?_
  refine lv_sipush (v := 178) hx hb dX8_goOn_34 (by decide) ?_
  refine va_iald hx hb hK hP 1 0 rfl rfl (xi_in (by decide) (by decide)) dX8_goOn_37 ?_
  refine xk_top (z := x28) rfl ?_
  refine lv_aload_n hx hb dX8_goOn_38 rfl (lv_at hl 2 rfl) ?_
  refine lv_iload_n hx hb dX8_goOn_39 rfl (lv_at hl 1 rfl) ?_
  refine lv_iload_n hx hb dX8_goOn_40 rfl (lv_at hl 0 rfl) ?_
  refine xk_Vi (As := [.int (z 176), .int (z 177)]) (rest := [.int x28]) hx hb hml hown hts hK hN hZ hP hD hS hA mb_X8_beatsOf mw_3_186 mw_3_188 mw_0_14 (c_X8_beatsOf l D cI cZ cS h h1 h2 h3 h4 h5 h6 h7 h8 gst gty gse gte gsp gtl (upd z 178 x28) (z 176) (z 177) (by first | omega | decide | assumption) (by first | omega | decide | assumption)) [0, 1] 0 8 rfl rfl (by decide) rfl (fun _ => by simp only [List.map]) (by decide) (by decide) rfl hl.1 rfl (Nat.le_of_ble_eq_true rfl) dX8_goOn_41 ⟨Nat.zero_le _, Nat.zero_le _⟩ (fun r41 _ H locs hw hP hD hS => ?_)
  have hP : va_P D vwCl [(h, .inr (8, [.ref h1, .ref h2, .ref h3, .int gst, .ref h4, .ref h5, .ref h6, .int gty, .int gse, .int gte, .int gsp, .ref h7, .ref h8, .int gtl])), (h1, .inl (cI, 190, .inl (upd z 178 x28)))] H := hP
  have hD : va_D A [(h, .inr (8, [.ref h1, .ref h2, .ref h3, .int gst, .ref h4, .ref h5, .ref h6, .int gty, .int gse, .int gte, .int gsp, .ref h7, .ref h8, .int gtl])), (h1, .inl (cI, 190, .inl (upd z 178 x28)))] := hD
  have e41 : r41 = btZ (upd z 178 x28) (z 176).toInt.toNat (z 177).toInt.toNat := hw
  have e41 : r41 = btZ z ((z 176).toInt.toNat) ((z 177).toInt.toNat) := by rw [e41, btZ_upd _ _ (by omega)]
  refine lv_icmp_ge (tgt := 48) hx hb dX8_goOn_44 (by decide) (fun c44 => ?_) (fun c44 => ?_)
  · have t44 : r41.toInt ≤ x28.toInt := xi_le rfl rfl c44
    refine lv_aload_n hx hb dX8_goOn_48 rfl (lv_at hl 2 rfl) ?_
    refine va_get (D := D) (ci := 8) (v := .ref h1) (C := RX8) (T := TX8) (N := 14) hx hb hts xin8 hown hK hP 0 rfl rfl 0 (by decide) (hts _ (List.mem_cons_of_mem _ mw_3_89)) (fun _ h9 => h9) rfl dX8_goOn_49 ?_
    refine lv_sipush (v := 178) hx hb dX8_goOn_52 (by decide) ?_
    refine lv_iconst (v := 0) hx hb dX8_goOn_55 (by decide) ?_
    refine va_iast hx hb hK hP hD hS 1 0 rfl rfl (xi_in (by decide) (by decide)) dX8_goOn_56 (fun H locs hP hD hS => ?_)
    have hP : va_P D vwCl [(h, .inr (8, [.ref h1, .ref h2, .ref h3, .int gst, .ref h4, .ref h5, .ref h6, .int gty, .int gse, .int gte, .int gsp, .ref h7, .ref h8, .int gtl])), (h1, .inl (cI, 190, .inl (upd (upd z 178 x28) 178 0)))] H := hP
    have hD : va_D A [(h, .inr (8, [.ref h1, .ref h2, .ref h3, .int gst, .ref h4, .ref h5, .ref h6, .int gty, .int gse, .int gte, .int gsp, .ref h7, .ref h8, .int gtl])), (h1, .inl (cI, 190, .inl (upd (upd z 178 x28) 178 0)))] := hD
    refine lv_aload_n hx hb dX8_goOn_57 rfl (lv_at hl 2 rfl) ?_
    refine va_get (D := D) (ci := 8) (v := .ref h1) (C := RX8) (T := TX8) (N := 14) hx hb hts xin8 hown hK hP 0 rfl rfl 0 (by decide) (hts _ (List.mem_cons_of_mem _ mw_3_89)) (fun _ h9 => h9) rfl dX8_goOn_58 ?_
    refine lv_sipush (v := 182) hx hb dX8_goOn_61 (by decide) ?_
    refine lv_aload_n hx hb dX8_goOn_64 rfl (lv_at hl 2 rfl) ?_
    refine lv_iload_n hx hb dX8_goOn_65 rfl (lv_at hl 1 rfl) ?_
    refine lv_iload_n hx hb dX8_goOn_66 rfl (lv_at hl 0 rfl) ?_
    refine xk_Vi (As := [.int (z 176), .int (z 177)]) (rest := [.int 182, .ref h1]) hx hb hml hown hts hK hN hZ hP hD hS hA mb_X8_hasMark mw_3_190 mw_3_192 mw_0_15 (c_X8_hasMark l D cI cZ cS h h1 h2 h3 h4 h5 h6 h7 h8 gst gty gse gte gsp gtl (upd (upd z 178 x28) 178 0) (z 176) (z 177) (by first | omega | decide | assumption) (by first | omega | decide | assumption)) [0, 1] 0 8 rfl rfl (by decide) rfl (fun _ => by simp only [List.map]) (by decide) (by decide) rfl hl.1 rfl (Nat.le_of_ble_eq_true rfl) dX8_goOn_67 ⟨Nat.zero_le _, Nat.zero_le _⟩ (fun r67 _ H locs hw hP hD hS => ?_)
    have hP : va_P D vwCl [(h, .inr (8, [.ref h1, .ref h2, .ref h3, .int gst, .ref h4, .ref h5, .ref h6, .int gty, .int gse, .int gte, .int gsp, .ref h7, .ref h8, .int gtl])), (h1, .inl (cI, 190, .inl (upd (upd z 178 x28) 178 0)))] H := hP
    have hD : va_D A [(h, .inr (8, [.ref h1, .ref h2, .ref h3, .int gst, .ref h4, .ref h5, .ref h6, .int gty, .int gse, .int gte, .int gsp, .ref h7, .ref h8, .int gtl])), (h1, .inl (cI, 190, .inl (upd (upd z 178 x28) 178 0)))] := hD
    rcases hw with ⟨rfl, b67⟩ | ⟨rfl, b67⟩
    · have b67 : mkZ (upd (upd z 178 x28) 178 0) (z 176).toInt.toNat (z 177).toInt.toNat := b67
      have b67 : mkZ z ((z 176).toInt.toNat) ((z 177).toInt.toNat) := by rw [mkZ_upd _ _ (by omega), mkZ_upd _ _ (by omega)] at b67; exact b67
      refine lv_if_eq (tgt := 82) hx hb dX8_goOn_70 (by decide) (fun c70 => absurd c70 (by decide)) (fun _ => ?_)
      refine lv_aload_n hx hb dX8_goOn_73 rfl (lv_at hl 2 rfl) ?_
      refine va_get (D := D) (ci := 8) (v := .ref h1) (C := RX8) (T := TX8) (N := 14) hx hb hts xin8 hown hK hP 0 rfl rfl 0 (by decide) (hts _ (List.mem_cons_of_mem _ mw_3_89)) (fun _ h9 => h9) rfl dX8_goOn_74 ?_
      refine lv_iconst (v := 1) hx hb dX8_goOn_77 (by decide) ?_
      refine va_iald hx hb hK hP 1 0 rfl rfl (xi_in (by decide) (by decide)) dX8_goOn_78 ?_
      refine xk_top (z := z 1) rfl ?_
      refine lv_goto (tgt := 83) hx hb dX8_goOn_79 (by decide) ?_
      refine va_iast hx hb hK hP hD hS 1 0 rfl rfl (xi_in (by decide) (by decide)) dX8_goOn_83 (fun H locs hP hD hS => ?_)
      have hP : va_P D vwCl [(h, .inr (8, [.ref h1, .ref h2, .ref h3, .int gst, .ref h4, .ref h5, .ref h6, .int gty, .int gse, .int gte, .int gsp, .ref h7, .ref h8, .int gtl])), (h1, .inl (cI, 190, .inl (upd (upd (upd z 178 x28) 178 0) 182 (z 1))))] H := hP
      have hD : va_D A [(h, .inr (8, [.ref h1, .ref h2, .ref h3, .int gst, .ref h4, .ref h5, .ref h6, .int gty, .int gse, .int gte, .int gsp, .ref h7, .ref h8, .int gtl])), (h1, .inl (cI, 190, .inl (upd (upd (upd z 178 x28) 178 0) 182 (z 1))))] := hD
      refine lv_aload_n hx hb dX8_goOn_84 rfl (lv_at hl 2 rfl) ?_
      refine va_get (D := D) (ci := 8) (v := .ref h1) (C := RX8) (T := TX8) (N := 14) hx hb hts xin8 hown hK hP 0 rfl rfl 0 (by decide) (hts _ (List.mem_cons_of_mem _ mw_3_89)) (fun _ h9 => h9) rfl dX8_goOn_85 ?_
      refine lv_sipush (v := 177) hx hb dX8_goOn_88 (by decide) ?_
      refine lv_dup2_11 hx hb dX8_goOn_91 rfl rfl ?_
      refine va_iald hx hb hK hP 1 0 rfl rfl (xi_in (by decide) (by decide)) dX8_goOn_92 ?_
      refine xk_top (z := z 177) rfl ?_
      refine lv_iconst (v := 1) hx hb dX8_goOn_93 (by decide) ?_
      refine lv_iadd hx hb dX8_goOn_94 ?_
      refine lv_topi (fun x94 e94 => ?_)
      refine va_iast hx hb hK hP hD hS 1 0 rfl rfl (xi_in (by decide) (by decide)) dX8_goOn_95 (fun H locs hP hD hS => ?_)
      have hP : va_P D vwCl [(h, .inr (8, [.ref h1, .ref h2, .ref h3, .int gst, .ref h4, .ref h5, .ref h6, .int gty, .int gse, .int gte, .int gsp, .ref h7, .ref h8, .int gtl])), (h1, .inl (cI, 190, .inl (upd (upd (upd (upd z 178 x28) 178 0) 182 (z 1)) 177 x94)))] H := hP
      have hD : va_D A [(h, .inr (8, [.ref h1, .ref h2, .ref h3, .int gst, .ref h4, .ref h5, .ref h6, .int gty, .int gse, .int gte, .int gsp, .ref h7, .ref h8, .int gtl])), (h1, .inl (cI, 190, .inl (upd (upd (upd (upd z 178 x28) 178 0) 182 (z 1)) 177 x94)))] := hD
      refine lv_aload_n hx hb dX8_goOn_96 rfl (lv_at hl 2 rfl) ?_
      refine va_get (D := D) (ci := 8) (v := .ref h1) (C := RX8) (T := TX8) (N := 14) hx hb hts xin8 hown hK hP 0 rfl rfl 0 (by decide) (hts _ (List.mem_cons_of_mem _ mw_3_89)) (fun _ h9 => h9) rfl dX8_goOn_97 ?_
      refine lv_sipush (v := 177) hx hb dX8_goOn_100 (by decide) ?_
      refine va_iald hx hb hK hP 1 0 rfl rfl (xi_in (by decide) (by decide)) dX8_goOn_103 ?_
      refine xk_top (z := x94) rfl ?_
      refine lv_aload_n hx hb dX8_goOn_104 rfl (lv_at hl 2 rfl) ?_
      refine va_get (D := D) (ci := 8) (v := .ref h1) (C := RX8) (T := TX8) (N := 14) hx hb hts xin8 hown hK hP 0 rfl rfl 0 (by decide) (hts _ (List.mem_cons_of_mem _ mw_3_89)) (fun _ h9 => h9) rfl dX8_goOn_105 ?_
      refine lv_bipush (v := 8) hx hb dX8_goOn_108 (by decide) ?_
      refine lv_iload_n hx hb dX8_goOn_110 rfl (lv_at hl 1 rfl) ?_
      refine lv_iadd hx hb dX8_goOn_111 ?_
      refine lv_topi (fun x111 e111 => ?_)
      have t111 : x111.toInt = 8 + ((z 176).toInt) := by rw [e111]; exact xi_add (by decide) rfl (by omega) (by omega)
      refine va_iald hx hb hK hP 1 0 rfl rfl (xi_in (by omega) (by omega)) dX8_goOn_112 ?_
      refine xk_top (z := (upd (upd (upd (upd z 178 x28) 178 0) 182 (z 1)) 177 x94) (8 + (z 176).toInt.toNat)) (xk_rd (by omega)) ?_
      refine lv_topi (fun x112 e112 => ?_)
      have e112 : x112 = z (8 + (z 176).toInt.toNat) := by rw [e112, upd_n _ _ _ (by omega), upd_n _ _ _ (by omega), upd_n _ _ _ (by omega), upd_n _ _ _ (by omega)]
      refine lv_icmp_ne (tgt := 137) hx hb dX8_goOn_113 (by decide) (fun c113 => ?_) (fun c113 => ?_)
      · have t113 : ¬ x94.toInt = x112.toInt := xi_ne rfl rfl c113
        have d113 : ¬ x94 = x112 := c113
        refine lv_aload_n hx hb dX8_goOn_137 rfl (lv_at hl 2 rfl) ?_
        refine va_get (D := D) (ci := 8) (v := .ref h1) (C := RX8) (T := TX8) (N := 14) hx hb hts xin8 hown hK hP 0 rfl rfl 0 (by decide) (hts _ (List.mem_cons_of_mem _ mw_3_89)) (fun _ h9 => h9) rfl dX8_goOn_138 ?_
        refine lv_sipush (v := 176) hx hb dX8_goOn_141 (by decide) ?_
        refine va_iald hx hb hK hP 1 0 rfl rfl (xi_in (by decide) (by decide)) dX8_goOn_144 ?_
        refine xk_top (z := z 176) rfl ?_
        refine lv_aload_n hx hb dX8_goOn_145 rfl (lv_at hl 2 rfl) ?_
        refine va_get (D := D) (ci := 8) (v := .ref h1) (C := RX8) (T := TX8) (N := 14) hx hb hts xin8 hown hK hP 0 rfl rfl 0 (by decide) (hts _ (List.mem_cons_of_mem _ mw_3_89)) (fun _ h9 => h9) rfl dX8_goOn_146 ?_
        refine lv_bipush (v := 6) hx hb dX8_goOn_149 (by decide) ?_
        refine va_iald hx hb hK hP 1 0 rfl rfl (xi_in (by decide) (by decide)) dX8_goOn_151 ?_
        refine xk_top (z := z 6) rfl ?_
        refine lv_icmp_ne (tgt := 181) hx hb dX8_goOn_152 (by decide) (fun c152 => ?_) (fun c152 => ?_)
        · have t152 : ¬ (z 176).toInt = (z 6).toInt := xi_ne rfl rfl c152
          have d152 : ¬ (z 176) = (z 6) := c152
          have hf : ¬ inFootZ z := by subst e112 e111 e94 e41 e28; exact Int.not_lt.mpr t44
          have hft : footEZ z = (upd (upd (upd (upd z 178 (z 178 + 1)) 178 0) 182 (z 1)) 177 (z 177 + 1)) := by rw [footEZ, if_pos b67]
          have hil : inLineZ z := by subst e112 e111 e94 e41 e28; exact d113
          have hln : lineEZ z = (upd (upd (upd (upd z 178 (z 178 + 1)) 178 0) 182 (z 1)) 177 (z 177 + 1)) := by rw [lineEZ, if_pos hil, hft]
          have hs : ¬ songEZ z := by subst e112 e111 e94 e41 e28; show ¬ lineEZ z 176 = z 6; rw [hln]; exact d152
          have hz : (upd (upd (upd (upd z 178 x28) 178 0) 182 (z 1)) 177 x94) = goOnZ z := by subst e112 e111 e94 e41 e28; rw [goOnZ, if_neg hf, if_neg hs, hln]
          have hg : gse = if (¬ inFootZ z ∧ songEZ z) then 1 else gse := by rw [if_neg (fun hh => hs hh.2)]
          exact xk_retv () hx hb hr hlocks (xk_P hP (by rw [hz, ← hg])) (by trivial) hS dX8_goOn_181 hQ
        · have t152 : (z 176).toInt = (z 6).toInt := xi_eq rfl rfl c152
          have d152 : (z 176) = (z 6) := c152
          refine lv_aload_n hx hb dX8_goOn_155 rfl (lv_at hl 2 rfl) ?_
          refine va_get (D := D) (ci := 8) (v := .ref h1) (C := RX8) (T := TX8) (N := 14) hx hb hts xin8 hown hK hP 0 rfl rfl 0 (by decide) (hts _ (List.mem_cons_of_mem _ mw_3_89)) (fun _ h9 => h9) rfl dX8_goOn_156 ?_
          refine lv_sipush (v := 176) hx hb dX8_goOn_159 (by decide) ?_
          refine lv_iconst (v := 0) hx hb dX8_goOn_162 (by decide) ?_
          refine va_iast hx hb hK hP hD hS 1 0 rfl rfl (xi_in (by decide) (by decide)) dX8_goOn_163 (fun H locs hP hD hS => ?_)
          have hP : va_P D vwCl [(h, .inr (8, [.ref h1, .ref h2, .ref h3, .int gst, .ref h4, .ref h5, .ref h6, .int gty, .int gse, .int gte, .int gsp, .ref h7, .ref h8, .int gtl])), (h1, .inl (cI, 190, .inl (upd (upd (upd (upd (upd z 178 x28) 178 0) 182 (z 1)) 177 x94) 176 0)))] H := hP
          have hD : va_D A [(h, .inr (8, [.ref h1, .ref h2, .ref h3, .int gst, .ref h4, .ref h5, .ref h6, .int gty, .int gse, .int gte, .int gsp, .ref h7, .ref h8, .int gtl])), (h1, .inl (cI, 190, .inl (upd (upd (upd (upd (upd z 178 x28) 178 0) 182 (z 1)) 177 x94) 176 0)))] := hD
          refine lv_aload_n hx hb dX8_goOn_164 rfl (lv_at hl 2 rfl) ?_
          refine va_get (D := D) (ci := 8) (v := .ref h1) (C := RX8) (T := TX8) (N := 14) hx hb hts xin8 hown hK hP 0 rfl rfl 0 (by decide) (hts _ (List.mem_cons_of_mem _ mw_3_89)) (fun _ h9 => h9) rfl dX8_goOn_165 ?_
          refine lv_sipush (v := 186) hx hb dX8_goOn_168 (by decide) ?_
          refine lv_dup2_11 hx hb dX8_goOn_171 rfl rfl ?_
          refine va_iald hx hb hK hP 1 0 rfl rfl (xi_in (by decide) (by decide)) dX8_goOn_172 ?_
          refine xk_top (z := z 186) rfl ?_
          refine lv_iconst (v := 1) hx hb dX8_goOn_173 (by decide) ?_
          refine lv_iadd hx hb dX8_goOn_174 ?_
          refine lv_topi (fun x174 e174 => ?_)
          refine va_iast hx hb hK hP hD hS 1 0 rfl rfl (xi_in (by decide) (by decide)) dX8_goOn_175 (fun H locs hP hD hS => ?_)
          have hP : va_P D vwCl [(h, .inr (8, [.ref h1, .ref h2, .ref h3, .int gst, .ref h4, .ref h5, .ref h6, .int gty, .int gse, .int gte, .int gsp, .ref h7, .ref h8, .int gtl])), (h1, .inl (cI, 190, .inl (upd (upd (upd (upd (upd (upd z 178 x28) 178 0) 182 (z 1)) 177 x94) 176 0) 186 x174)))] H := hP
          have hD : va_D A [(h, .inr (8, [.ref h1, .ref h2, .ref h3, .int gst, .ref h4, .ref h5, .ref h6, .int gty, .int gse, .int gte, .int gsp, .ref h7, .ref h8, .int gtl])), (h1, .inl (cI, 190, .inl (upd (upd (upd (upd (upd (upd z 178 x28) 178 0) 182 (z 1)) 177 x94) 176 0) 186 x174)))] := hD
          refine lv_aload_n hx hb dX8_goOn_176 rfl (lv_at hl 2 rfl) ?_
          refine lv_iconst (v := 1) hx hb dX8_goOn_177 (by decide) ?_
          refine va_put (D := D) (ci := 8) (v := .int 1) (ty := .boolean) (C := RX8) (T := TX8) (N := 14) hx hb hts xin8 tyX8 tyX8_ok nmX8 hown hK hP hD hS 0 rfl rfl 8 (by decide) (hts _ (List.mem_cons_of_mem _ mw_3_97)) (fun _ h9 => h9) rfl (by decide +kernel) rfl rfl (Nat.le_of_ble_eq_true rfl) dX8_goOn_178 (fun H locs hP hD hS => ?_)
          have hP : va_P D vwCl [(h, .inr (8, [.ref h1, .ref h2, .ref h3, .int gst, .ref h4, .ref h5, .ref h6, .int gty, .int 1, .int gte, .int gsp, .ref h7, .ref h8, .int gtl])), (h1, .inl (cI, 190, .inl (upd (upd (upd (upd (upd (upd z 178 x28) 178 0) 182 (z 1)) 177 x94) 176 0) 186 x174)))] H := hP
          have hD : va_D A [(h, .inr (8, [.ref h1, .ref h2, .ref h3, .int gst, .ref h4, .ref h5, .ref h6, .int gty, .int 1, .int gte, .int gsp, .ref h7, .ref h8, .int gtl])), (h1, .inl (cI, 190, .inl (upd (upd (upd (upd (upd (upd z 178 x28) 178 0) 182 (z 1)) 177 x94) 176 0) 186 x174)))] := hD
          have hf : ¬ inFootZ z := by subst e174 e112 e111 e94 e41 e28; exact Int.not_lt.mpr t44
          have hft : footEZ z = (upd (upd (upd (upd z 178 (z 178 + 1)) 178 0) 182 (z 1)) 177 (z 177 + 1)) := by rw [footEZ, if_pos b67]
          have hil : inLineZ z := by subst e174 e112 e111 e94 e41 e28; exact d113
          have hln : lineEZ z = (upd (upd (upd (upd z 178 (z 178 + 1)) 178 0) 182 (z 1)) 177 (z 177 + 1)) := by rw [lineEZ, if_pos hil, hft]
          have hs : songEZ z := by subst e174 e112 e111 e94 e41 e28; show lineEZ z 176 = z 6; rw [hln]; exact d152
          have hz : (upd (upd (upd (upd (upd (upd z 178 x28) 178 0) 182 (z 1)) 177 x94) 176 0) 186 x174) = goOnZ z := by subst e174 e112 e111 e94 e41 e28; rw [goOnZ, if_neg hf, if_pos hs, hln]
          have hg : 1 = if (¬ inFootZ z ∧ songEZ z) then 1 else gse := by rw [if_pos ⟨hf, hs⟩]
          exact xk_retv () hx hb hr hlocks (xk_P hP (by rw [hz, ← hg])) (by trivial) hS dX8_goOn_181 hQ
      · have t113 : x94.toInt = x112.toInt := xi_eq rfl rfl c113
        have d113 : x94 = x112 := c113
        refine lv_aload_n hx hb dX8_goOn_116 rfl (lv_at hl 2 rfl) ?_
        refine va_get (D := D) (ci := 8) (v := .ref h1) (C := RX8) (T := TX8) (N := 14) hx hb hts xin8 hown hK hP 0 rfl rfl 0 (by decide) (hts _ (List.mem_cons_of_mem _ mw_3_89)) (fun _ h9 => h9) rfl dX8_goOn_117 ?_
        refine lv_sipush (v := 177) hx hb dX8_goOn_120 (by decide) ?_
        refine lv_iconst (v := 0) hx hb dX8_goOn_123 (by decide) ?_
        refine va_iast hx hb hK hP hD hS 1 0 rfl rfl (xi_in (by decide) (by decide)) dX8_goOn_124 (fun H locs hP hD hS => ?_)
        have hP : va_P D vwCl [(h, .inr (8, [.ref h1, .ref h2, .ref h3, .int gst, .ref h4, .ref h5, .ref h6, .int gty, .int gse, .int gte, .int gsp, .ref h7, .ref h8, .int gtl])), (h1, .inl (cI, 190, .inl (upd (upd (upd (upd (upd z 178 x28) 178 0) 182 (z 1)) 177 x94) 177 0)))] H := hP
        have hD : va_D A [(h, .inr (8, [.ref h1, .ref h2, .ref h3, .int gst, .ref h4, .ref h5, .ref h6, .int gty, .int gse, .int gte, .int gsp, .ref h7, .ref h8, .int gtl])), (h1, .inl (cI, 190, .inl (upd (upd (upd (upd (upd z 178 x28) 178 0) 182 (z 1)) 177 x94) 177 0)))] := hD
        refine lv_aload_n hx hb dX8_goOn_125 rfl (lv_at hl 2 rfl) ?_
        refine va_get (D := D) (ci := 8) (v := .ref h1) (C := RX8) (T := TX8) (N := 14) hx hb hts xin8 hown hK hP 0 rfl rfl 0 (by decide) (hts _ (List.mem_cons_of_mem _ mw_3_89)) (fun _ h9 => h9) rfl dX8_goOn_126 ?_
        refine lv_sipush (v := 176) hx hb dX8_goOn_129 (by decide) ?_
        refine lv_dup2_11 hx hb dX8_goOn_132 rfl rfl ?_
        refine va_iald hx hb hK hP 1 0 rfl rfl (xi_in (by decide) (by decide)) dX8_goOn_133 ?_
        refine xk_top (z := z 176) rfl ?_
        refine lv_iconst (v := 1) hx hb dX8_goOn_134 (by decide) ?_
        refine lv_iadd hx hb dX8_goOn_135 ?_
        refine lv_topi (fun x135 e135 => ?_)
        refine va_iast hx hb hK hP hD hS 1 0 rfl rfl (xi_in (by decide) (by decide)) dX8_goOn_136 (fun H locs hP hD hS => ?_)
        have hP : va_P D vwCl [(h, .inr (8, [.ref h1, .ref h2, .ref h3, .int gst, .ref h4, .ref h5, .ref h6, .int gty, .int gse, .int gte, .int gsp, .ref h7, .ref h8, .int gtl])), (h1, .inl (cI, 190, .inl (upd (upd (upd (upd (upd (upd z 178 x28) 178 0) 182 (z 1)) 177 x94) 177 0) 176 x135)))] H := hP
        have hD : va_D A [(h, .inr (8, [.ref h1, .ref h2, .ref h3, .int gst, .ref h4, .ref h5, .ref h6, .int gty, .int gse, .int gte, .int gsp, .ref h7, .ref h8, .int gtl])), (h1, .inl (cI, 190, .inl (upd (upd (upd (upd (upd (upd z 178 x28) 178 0) 182 (z 1)) 177 x94) 177 0) 176 x135)))] := hD
        refine lv_aload_n hx hb dX8_goOn_137 rfl (lv_at hl 2 rfl) ?_
        refine va_get (D := D) (ci := 8) (v := .ref h1) (C := RX8) (T := TX8) (N := 14) hx hb hts xin8 hown hK hP 0 rfl rfl 0 (by decide) (hts _ (List.mem_cons_of_mem _ mw_3_89)) (fun _ h9 => h9) rfl dX8_goOn_138 ?_
        refine lv_sipush (v := 176) hx hb dX8_goOn_141 (by decide) ?_
        refine va_iald hx hb hK hP 1 0 rfl rfl (xi_in (by decide) (by decide)) dX8_goOn_144 ?_
        refine xk_top (z := x135) rfl ?_
        refine lv_aload_n hx hb dX8_goOn_145 rfl (lv_at hl 2 rfl) ?_
        refine va_get (D := D) (ci := 8) (v := .ref h1) (C := RX8) (T := TX8) (N := 14) hx hb hts xin8 hown hK hP 0 rfl rfl 0 (by decide) (hts _ (List.mem_cons_of_mem _ mw_3_89)) (fun _ h9 => h9) rfl dX8_goOn_146 ?_
        refine lv_bipush (v := 6) hx hb dX8_goOn_149 (by decide) ?_
        refine va_iald hx hb hK hP 1 0 rfl rfl (xi_in (by decide) (by decide)) dX8_goOn_151 ?_
        refine xk_top (z := z 6) rfl ?_
        refine lv_icmp_ne (tgt := 181) hx hb dX8_goOn_152 (by decide) (fun c152 => ?_) (fun c152 => ?_)
        · have t152 : ¬ x135.toInt = (z 6).toInt := xi_ne rfl rfl c152
          have d152 : ¬ x135 = (z 6) := c152
          have hf : ¬ inFootZ z := by subst e135 e112 e111 e94 e41 e28; exact Int.not_lt.mpr t44
          have hft : footEZ z = (upd (upd (upd (upd z 178 (z 178 + 1)) 178 0) 182 (z 1)) 177 (z 177 + 1)) := by rw [footEZ, if_pos b67]
          have hil : ¬ inLineZ z := by subst e135 e112 e111 e94 e41 e28; exact fun hh => hh d113
          have hln : lineEZ z = (upd (upd (upd (upd (upd (upd z 178 (z 178 + 1)) 178 0) 182 (z 1)) 177 (z 177 + 1)) 177 0) 176 (z 176 + 1)) := by rw [lineEZ, if_neg hil, hft]
          have hs : ¬ songEZ z := by subst e135 e112 e111 e94 e41 e28; show ¬ lineEZ z 176 = z 6; rw [hln]; exact d152
          have hz : (upd (upd (upd (upd (upd (upd z 178 x28) 178 0) 182 (z 1)) 177 x94) 177 0) 176 x135) = goOnZ z := by subst e135 e112 e111 e94 e41 e28; rw [goOnZ, if_neg hf, if_neg hs, hln]
          have hg : gse = if (¬ inFootZ z ∧ songEZ z) then 1 else gse := by rw [if_neg (fun hh => hs hh.2)]
          exact xk_retv () hx hb hr hlocks (xk_P hP (by rw [hz, ← hg])) (by trivial) hS dX8_goOn_181 hQ
        · have t152 : x135.toInt = (z 6).toInt := xi_eq rfl rfl c152
          have d152 : x135 = (z 6) := c152
          refine lv_aload_n hx hb dX8_goOn_155 rfl (lv_at hl 2 rfl) ?_
          refine va_get (D := D) (ci := 8) (v := .ref h1) (C := RX8) (T := TX8) (N := 14) hx hb hts xin8 hown hK hP 0 rfl rfl 0 (by decide) (hts _ (List.mem_cons_of_mem _ mw_3_89)) (fun _ h9 => h9) rfl dX8_goOn_156 ?_
          refine lv_sipush (v := 176) hx hb dX8_goOn_159 (by decide) ?_
          refine lv_iconst (v := 0) hx hb dX8_goOn_162 (by decide) ?_
          refine va_iast hx hb hK hP hD hS 1 0 rfl rfl (xi_in (by decide) (by decide)) dX8_goOn_163 (fun H locs hP hD hS => ?_)
          have hP : va_P D vwCl [(h, .inr (8, [.ref h1, .ref h2, .ref h3, .int gst, .ref h4, .ref h5, .ref h6, .int gty, .int gse, .int gte, .int gsp, .ref h7, .ref h8, .int gtl])), (h1, .inl (cI, 190, .inl (upd (upd (upd (upd (upd (upd (upd z 178 x28) 178 0) 182 (z 1)) 177 x94) 177 0) 176 x135) 176 0)))] H := hP
          have hD : va_D A [(h, .inr (8, [.ref h1, .ref h2, .ref h3, .int gst, .ref h4, .ref h5, .ref h6, .int gty, .int gse, .int gte, .int gsp, .ref h7, .ref h8, .int gtl])), (h1, .inl (cI, 190, .inl (upd (upd (upd (upd (upd (upd (upd z 178 x28) 178 0) 182 (z 1)) 177 x94) 177 0) 176 x135) 176 0)))] := hD
          refine lv_aload_n hx hb dX8_goOn_164 rfl (lv_at hl 2 rfl) ?_
          refine va_get (D := D) (ci := 8) (v := .ref h1) (C := RX8) (T := TX8) (N := 14) hx hb hts xin8 hown hK hP 0 rfl rfl 0 (by decide) (hts _ (List.mem_cons_of_mem _ mw_3_89)) (fun _ h9 => h9) rfl dX8_goOn_165 ?_
          refine lv_sipush (v := 186) hx hb dX8_goOn_168 (by decide) ?_
          refine lv_dup2_11 hx hb dX8_goOn_171 rfl rfl ?_
          refine va_iald hx hb hK hP 1 0 rfl rfl (xi_in (by decide) (by decide)) dX8_goOn_172 ?_
          refine xk_top (z := z 186) rfl ?_
          refine lv_iconst (v := 1) hx hb dX8_goOn_173 (by decide) ?_
          refine lv_iadd hx hb dX8_goOn_174 ?_
          refine lv_topi (fun x174 e174 => ?_)
          refine va_iast hx hb hK hP hD hS 1 0 rfl rfl (xi_in (by decide) (by decide)) dX8_goOn_175 (fun H locs hP hD hS => ?_)
          have hP : va_P D vwCl [(h, .inr (8, [.ref h1, .ref h2, .ref h3, .int gst, .ref h4, .ref h5, .ref h6, .int gty, .int gse, .int gte, .int gsp, .ref h7, .ref h8, .int gtl])), (h1, .inl (cI, 190, .inl (upd (upd (upd (upd (upd (upd (upd (upd z 178 x28) 178 0) 182 (z 1)) 177 x94) 177 0) 176 x135) 176 0) 186 x174)))] H := hP
          have hD : va_D A [(h, .inr (8, [.ref h1, .ref h2, .ref h3, .int gst, .ref h4, .ref h5, .ref h6, .int gty, .int gse, .int gte, .int gsp, .ref h7, .ref h8, .int gtl])), (h1, .inl (cI, 190, .inl (upd (upd (upd (upd (upd (upd (upd (upd z 178 x28) 178 0) 182 (z 1)) 177 x94) 177 0) 176 x135) 176 0) 186 x174)))] := hD
          refine lv_aload_n hx hb dX8_goOn_176 rfl (lv_at hl 2 rfl) ?_
          refine lv_iconst (v := 1) hx hb dX8_goOn_177 (by decide) ?_
          refine va_put (D := D) (ci := 8) (v := .int 1) (ty := .boolean) (C := RX8) (T := TX8) (N := 14) hx hb hts xin8 tyX8 tyX8_ok nmX8 hown hK hP hD hS 0 rfl rfl 8 (by decide) (hts _ (List.mem_cons_of_mem _ mw_3_97)) (fun _ h9 => h9) rfl (by decide +kernel) rfl rfl (Nat.le_of_ble_eq_true rfl) dX8_goOn_178 (fun H locs hP hD hS => ?_)
          have hP : va_P D vwCl [(h, .inr (8, [.ref h1, .ref h2, .ref h3, .int gst, .ref h4, .ref h5, .ref h6, .int gty, .int 1, .int gte, .int gsp, .ref h7, .ref h8, .int gtl])), (h1, .inl (cI, 190, .inl (upd (upd (upd (upd (upd (upd (upd (upd z 178 x28) 178 0) 182 (z 1)) 177 x94) 177 0) 176 x135) 176 0) 186 x174)))] H := hP
          have hD : va_D A [(h, .inr (8, [.ref h1, .ref h2, .ref h3, .int gst, .ref h4, .ref h5, .ref h6, .int gty, .int 1, .int gte, .int gsp, .ref h7, .ref h8, .int gtl])), (h1, .inl (cI, 190, .inl (upd (upd (upd (upd (upd (upd (upd (upd z 178 x28) 178 0) 182 (z 1)) 177 x94) 177 0) 176 x135) 176 0) 186 x174)))] := hD
          have hf : ¬ inFootZ z := by subst e174 e135 e112 e111 e94 e41 e28; exact Int.not_lt.mpr t44
          have hft : footEZ z = (upd (upd (upd (upd z 178 (z 178 + 1)) 178 0) 182 (z 1)) 177 (z 177 + 1)) := by rw [footEZ, if_pos b67]
          have hil : ¬ inLineZ z := by subst e174 e135 e112 e111 e94 e41 e28; exact fun hh => hh d113
          have hln : lineEZ z = (upd (upd (upd (upd (upd (upd z 178 (z 178 + 1)) 178 0) 182 (z 1)) 177 (z 177 + 1)) 177 0) 176 (z 176 + 1)) := by rw [lineEZ, if_neg hil, hft]
          have hs : songEZ z := by subst e174 e135 e112 e111 e94 e41 e28; show lineEZ z 176 = z 6; rw [hln]; exact d152
          have hz : (upd (upd (upd (upd (upd (upd (upd (upd z 178 x28) 178 0) 182 (z 1)) 177 x94) 177 0) 176 x135) 176 0) 186 x174) = goOnZ z := by subst e174 e135 e112 e111 e94 e41 e28; rw [goOnZ, if_neg hf, if_pos hs, hln]
          have hg : 1 = if (¬ inFootZ z ∧ songEZ z) then 1 else gse := by rw [if_pos ⟨hf, hs⟩]
          exact xk_retv () hx hb hr hlocks (xk_P hP (by rw [hz, ← hg])) (by trivial) hS dX8_goOn_181 hQ
    · have b67 : ¬ (mkZ (upd (upd z 178 x28) 178 0) (z 176).toInt.toNat (z 177).toInt.toNat) := b67
      have b67 : ¬ mkZ z ((z 176).toInt.toNat) ((z 177).toInt.toNat) := by rw [mkZ_upd _ _ (by omega), mkZ_upd _ _ (by omega)] at b67; exact b67
      refine lv_if_eq (tgt := 82) hx hb dX8_goOn_70 (by decide) (fun _ => ?_) (fun c70 => absurd (by decide) c70)
      refine lv_iconst (v := 0) hx hb dX8_goOn_82 (by decide) ?_
      refine va_iast hx hb hK hP hD hS 1 0 rfl rfl (xi_in (by decide) (by decide)) dX8_goOn_83 (fun H locs hP hD hS => ?_)
      have hP : va_P D vwCl [(h, .inr (8, [.ref h1, .ref h2, .ref h3, .int gst, .ref h4, .ref h5, .ref h6, .int gty, .int gse, .int gte, .int gsp, .ref h7, .ref h8, .int gtl])), (h1, .inl (cI, 190, .inl (upd (upd (upd z 178 x28) 178 0) 182 0)))] H := hP
      have hD : va_D A [(h, .inr (8, [.ref h1, .ref h2, .ref h3, .int gst, .ref h4, .ref h5, .ref h6, .int gty, .int gse, .int gte, .int gsp, .ref h7, .ref h8, .int gtl])), (h1, .inl (cI, 190, .inl (upd (upd (upd z 178 x28) 178 0) 182 0)))] := hD
      refine lv_aload_n hx hb dX8_goOn_84 rfl (lv_at hl 2 rfl) ?_
      refine va_get (D := D) (ci := 8) (v := .ref h1) (C := RX8) (T := TX8) (N := 14) hx hb hts xin8 hown hK hP 0 rfl rfl 0 (by decide) (hts _ (List.mem_cons_of_mem _ mw_3_89)) (fun _ h9 => h9) rfl dX8_goOn_85 ?_
      refine lv_sipush (v := 177) hx hb dX8_goOn_88 (by decide) ?_
      refine lv_dup2_11 hx hb dX8_goOn_91 rfl rfl ?_
      refine va_iald hx hb hK hP 1 0 rfl rfl (xi_in (by decide) (by decide)) dX8_goOn_92 ?_
      refine xk_top (z := z 177) rfl ?_
      refine lv_iconst (v := 1) hx hb dX8_goOn_93 (by decide) ?_
      refine lv_iadd hx hb dX8_goOn_94 ?_
      refine lv_topi (fun x94 e94 => ?_)
      refine va_iast hx hb hK hP hD hS 1 0 rfl rfl (xi_in (by decide) (by decide)) dX8_goOn_95 (fun H locs hP hD hS => ?_)
      have hP : va_P D vwCl [(h, .inr (8, [.ref h1, .ref h2, .ref h3, .int gst, .ref h4, .ref h5, .ref h6, .int gty, .int gse, .int gte, .int gsp, .ref h7, .ref h8, .int gtl])), (h1, .inl (cI, 190, .inl (upd (upd (upd (upd z 178 x28) 178 0) 182 0) 177 x94)))] H := hP
      have hD : va_D A [(h, .inr (8, [.ref h1, .ref h2, .ref h3, .int gst, .ref h4, .ref h5, .ref h6, .int gty, .int gse, .int gte, .int gsp, .ref h7, .ref h8, .int gtl])), (h1, .inl (cI, 190, .inl (upd (upd (upd (upd z 178 x28) 178 0) 182 0) 177 x94)))] := hD
      refine lv_aload_n hx hb dX8_goOn_96 rfl (lv_at hl 2 rfl) ?_
      refine va_get (D := D) (ci := 8) (v := .ref h1) (C := RX8) (T := TX8) (N := 14) hx hb hts xin8 hown hK hP 0 rfl rfl 0 (by decide) (hts _ (List.mem_cons_of_mem _ mw_3_89)) (fun _ h9 => h9) rfl dX8_goOn_97 ?_
      refine lv_sipush (v := 177) hx hb dX8_goOn_100 (by decide) ?_
      refine va_iald hx hb hK hP 1 0 rfl rfl (xi_in (by decide) (by decide)) dX8_goOn_103 ?_
      refine xk_top (z := x94) rfl ?_
      refine lv_aload_n hx hb dX8_goOn_104 rfl (lv_at hl 2 rfl) ?_
      refine va_get (D := D) (ci := 8) (v := .ref h1) (C := RX8) (T := TX8) (N := 14) hx hb hts xin8 hown hK hP 0 rfl rfl 0 (by decide) (hts _ (List.mem_cons_of_mem _ mw_3_89)) (fun _ h9 => h9) rfl dX8_goOn_105 ?_
      refine lv_bipush (v := 8) hx hb dX8_goOn_108 (by decide) ?_
      refine lv_iload_n hx hb dX8_goOn_110 rfl (lv_at hl 1 rfl) ?_
      refine lv_iadd hx hb dX8_goOn_111 ?_
      refine lv_topi (fun x111 e111 => ?_)
      have t111 : x111.toInt = 8 + ((z 176).toInt) := by rw [e111]; exact xi_add (by decide) rfl (by omega) (by omega)
      refine va_iald hx hb hK hP 1 0 rfl rfl (xi_in (by omega) (by omega)) dX8_goOn_112 ?_
      refine xk_top (z := (upd (upd (upd (upd z 178 x28) 178 0) 182 0) 177 x94) (8 + (z 176).toInt.toNat)) (xk_rd (by omega)) ?_
      refine lv_topi (fun x112 e112 => ?_)
      have e112 : x112 = z (8 + (z 176).toInt.toNat) := by rw [e112, upd_n _ _ _ (by omega), upd_n _ _ _ (by omega), upd_n _ _ _ (by omega), upd_n _ _ _ (by omega)]
      refine lv_icmp_ne (tgt := 137) hx hb dX8_goOn_113 (by decide) (fun c113 => ?_) (fun c113 => ?_)
      · have t113 : ¬ x94.toInt = x112.toInt := xi_ne rfl rfl c113
        have d113 : ¬ x94 = x112 := c113
        refine lv_aload_n hx hb dX8_goOn_137 rfl (lv_at hl 2 rfl) ?_
        refine va_get (D := D) (ci := 8) (v := .ref h1) (C := RX8) (T := TX8) (N := 14) hx hb hts xin8 hown hK hP 0 rfl rfl 0 (by decide) (hts _ (List.mem_cons_of_mem _ mw_3_89)) (fun _ h9 => h9) rfl dX8_goOn_138 ?_
        refine lv_sipush (v := 176) hx hb dX8_goOn_141 (by decide) ?_
        refine va_iald hx hb hK hP 1 0 rfl rfl (xi_in (by decide) (by decide)) dX8_goOn_144 ?_
        refine xk_top (z := z 176) rfl ?_
        refine lv_aload_n hx hb dX8_goOn_145 rfl (lv_at hl 2 rfl) ?_
        refine va_get (D := D) (ci := 8) (v := .ref h1) (C := RX8) (T := TX8) (N := 14) hx hb hts xin8 hown hK hP 0 rfl rfl 0 (by decide) (hts _ (List.mem_cons_of_mem _ mw_3_89)) (fun _ h9 => h9) rfl dX8_goOn_146 ?_
        refine lv_bipush (v := 6) hx hb dX8_goOn_149 (by decide) ?_
        refine va_iald hx hb hK hP 1 0 rfl rfl (xi_in (by decide) (by decide)) dX8_goOn_151 ?_
        refine xk_top (z := z 6) rfl ?_
        refine lv_icmp_ne (tgt := 181) hx hb dX8_goOn_152 (by decide) (fun c152 => ?_) (fun c152 => ?_)
        · have t152 : ¬ (z 176).toInt = (z 6).toInt := xi_ne rfl rfl c152
          have d152 : ¬ (z 176) = (z 6) := c152
          have hf : ¬ inFootZ z := by subst e112 e111 e94 e41 e28; exact Int.not_lt.mpr t44
          have hft : footEZ z = (upd (upd (upd (upd z 178 (z 178 + 1)) 178 0) 182 0) 177 (z 177 + 1)) := by rw [footEZ, if_neg b67]
          have hil : inLineZ z := by subst e112 e111 e94 e41 e28; exact d113
          have hln : lineEZ z = (upd (upd (upd (upd z 178 (z 178 + 1)) 178 0) 182 0) 177 (z 177 + 1)) := by rw [lineEZ, if_pos hil, hft]
          have hs : ¬ songEZ z := by subst e112 e111 e94 e41 e28; show ¬ lineEZ z 176 = z 6; rw [hln]; exact d152
          have hz : (upd (upd (upd (upd z 178 x28) 178 0) 182 0) 177 x94) = goOnZ z := by subst e112 e111 e94 e41 e28; rw [goOnZ, if_neg hf, if_neg hs, hln]
          have hg : gse = if (¬ inFootZ z ∧ songEZ z) then 1 else gse := by rw [if_neg (fun hh => hs hh.2)]
          exact xk_retv () hx hb hr hlocks (xk_P hP (by rw [hz, ← hg])) (by trivial) hS dX8_goOn_181 hQ
        · have t152 : (z 176).toInt = (z 6).toInt := xi_eq rfl rfl c152
          have d152 : (z 176) = (z 6) := c152
          refine lv_aload_n hx hb dX8_goOn_155 rfl (lv_at hl 2 rfl) ?_
          refine va_get (D := D) (ci := 8) (v := .ref h1) (C := RX8) (T := TX8) (N := 14) hx hb hts xin8 hown hK hP 0 rfl rfl 0 (by decide) (hts _ (List.mem_cons_of_mem _ mw_3_89)) (fun _ h9 => h9) rfl dX8_goOn_156 ?_
          refine lv_sipush (v := 176) hx hb dX8_goOn_159 (by decide) ?_
          refine lv_iconst (v := 0) hx hb dX8_goOn_162 (by decide) ?_
          refine va_iast hx hb hK hP hD hS 1 0 rfl rfl (xi_in (by decide) (by decide)) dX8_goOn_163 (fun H locs hP hD hS => ?_)
          have hP : va_P D vwCl [(h, .inr (8, [.ref h1, .ref h2, .ref h3, .int gst, .ref h4, .ref h5, .ref h6, .int gty, .int gse, .int gte, .int gsp, .ref h7, .ref h8, .int gtl])), (h1, .inl (cI, 190, .inl (upd (upd (upd (upd (upd z 178 x28) 178 0) 182 0) 177 x94) 176 0)))] H := hP
          have hD : va_D A [(h, .inr (8, [.ref h1, .ref h2, .ref h3, .int gst, .ref h4, .ref h5, .ref h6, .int gty, .int gse, .int gte, .int gsp, .ref h7, .ref h8, .int gtl])), (h1, .inl (cI, 190, .inl (upd (upd (upd (upd (upd z 178 x28) 178 0) 182 0) 177 x94) 176 0)))] := hD
          refine lv_aload_n hx hb dX8_goOn_164 rfl (lv_at hl 2 rfl) ?_
          refine va_get (D := D) (ci := 8) (v := .ref h1) (C := RX8) (T := TX8) (N := 14) hx hb hts xin8 hown hK hP 0 rfl rfl 0 (by decide) (hts _ (List.mem_cons_of_mem _ mw_3_89)) (fun _ h9 => h9) rfl dX8_goOn_165 ?_
          refine lv_sipush (v := 186) hx hb dX8_goOn_168 (by decide) ?_
          refine lv_dup2_11 hx hb dX8_goOn_171 rfl rfl ?_
          refine va_iald hx hb hK hP 1 0 rfl rfl (xi_in (by decide) (by decide)) dX8_goOn_172 ?_
          refine xk_top (z := z 186) rfl ?_
          refine lv_iconst (v := 1) hx hb dX8_goOn_173 (by decide) ?_
          refine lv_iadd hx hb dX8_goOn_174 ?_
          refine lv_topi (fun x174 e174 => ?_)
          refine va_iast hx hb hK hP hD hS 1 0 rfl rfl (xi_in (by decide) (by decide)) dX8_goOn_175 (fun H locs hP hD hS => ?_)
          have hP : va_P D vwCl [(h, .inr (8, [.ref h1, .ref h2, .ref h3, .int gst, .ref h4, .ref h5, .ref h6, .int gty, .int gse, .int gte, .int gsp, .ref h7, .ref h8, .int gtl])), (h1, .inl (cI, 190, .inl (upd (upd (upd (upd (upd (upd z 178 x28) 178 0) 182 0) 177 x94) 176 0) 186 x174)))] H := hP
          have hD : va_D A [(h, .inr (8, [.ref h1, .ref h2, .ref h3, .int gst, .ref h4, .ref h5, .ref h6, .int gty, .int gse, .int gte, .int gsp, .ref h7, .ref h8, .int gtl])), (h1, .inl (cI, 190, .inl (upd (upd (upd (upd (upd (upd z 178 x28) 178 0) 182 0) 177 x94) 176 0) 186 x174)))] := hD
          refine lv_aload_n hx hb dX8_goOn_176 rfl (lv_at hl 2 rfl) ?_
          refine lv_iconst (v := 1) hx hb dX8_goOn_177 (by decide) ?_
          refine va_put (D := D) (ci := 8) (v := .int 1) (ty := .boolean) (C := RX8) (T := TX8) (N := 14) hx hb hts xin8 tyX8 tyX8_ok nmX8 hown hK hP hD hS 0 rfl rfl 8 (by decide) (hts _ (List.mem_cons_of_mem _ mw_3_97)) (fun _ h9 => h9) rfl (by decide +kernel) rfl rfl (Nat.le_of_ble_eq_true rfl) dX8_goOn_178 (fun H locs hP hD hS => ?_)
          have hP : va_P D vwCl [(h, .inr (8, [.ref h1, .ref h2, .ref h3, .int gst, .ref h4, .ref h5, .ref h6, .int gty, .int 1, .int gte, .int gsp, .ref h7, .ref h8, .int gtl])), (h1, .inl (cI, 190, .inl (upd (upd (upd (upd (upd (upd z 178 x28) 178 0) 182 0) 177 x94) 176 0) 186 x174)))] H := hP
          have hD : va_D A [(h, .inr (8, [.ref h1, .ref h2, .ref h3, .int gst, .ref h4, .ref h5, .ref h6, .int gty, .int 1, .int gte, .int gsp, .ref h7, .ref h8, .int gtl])), (h1, .inl (cI, 190, .inl (upd (upd (upd (upd (upd (upd z 178 x28) 178 0) 182 0) 177 x94) 176 0) 186 x174)))] := hD
          have hf : ¬ inFootZ z := by subst e174 e112 e111 e94 e41 e28; exact Int.not_lt.mpr t44
          have hft : footEZ z = (upd (upd (upd (upd z 178 (z 178 + 1)) 178 0) 182 0) 177 (z 177 + 1)) := by rw [footEZ, if_neg b67]
          have hil : inLineZ z := by subst e174 e112 e111 e94 e41 e28; exact d113
          have hln : lineEZ z = (upd (upd (upd (upd z 178 (z 178 + 1)) 178 0) 182 0) 177 (z 177 + 1)) := by rw [lineEZ, if_pos hil, hft]
          have hs : songEZ z := by subst e174 e112 e111 e94 e41 e28; show lineEZ z 176 = z 6; rw [hln]; exact d152
          have hz : (upd (upd (upd (upd (upd (upd z 178 x28) 178 0) 182 0) 177 x94) 176 0) 186 x174) = goOnZ z := by subst e174 e112 e111 e94 e41 e28; rw [goOnZ, if_neg hf, if_pos hs, hln]
          have hg : 1 = if (¬ inFootZ z ∧ songEZ z) then 1 else gse := by rw [if_pos ⟨hf, hs⟩]
          exact xk_retv () hx hb hr hlocks (xk_P hP (by rw [hz, ← hg])) (by trivial) hS dX8_goOn_181 hQ
      · have t113 : x94.toInt = x112.toInt := xi_eq rfl rfl c113
        have d113 : x94 = x112 := c113
        refine lv_aload_n hx hb dX8_goOn_116 rfl (lv_at hl 2 rfl) ?_
        refine va_get (D := D) (ci := 8) (v := .ref h1) (C := RX8) (T := TX8) (N := 14) hx hb hts xin8 hown hK hP 0 rfl rfl 0 (by decide) (hts _ (List.mem_cons_of_mem _ mw_3_89)) (fun _ h9 => h9) rfl dX8_goOn_117 ?_
        refine lv_sipush (v := 177) hx hb dX8_goOn_120 (by decide) ?_
        refine lv_iconst (v := 0) hx hb dX8_goOn_123 (by decide) ?_
        refine va_iast hx hb hK hP hD hS 1 0 rfl rfl (xi_in (by decide) (by decide)) dX8_goOn_124 (fun H locs hP hD hS => ?_)
        have hP : va_P D vwCl [(h, .inr (8, [.ref h1, .ref h2, .ref h3, .int gst, .ref h4, .ref h5, .ref h6, .int gty, .int gse, .int gte, .int gsp, .ref h7, .ref h8, .int gtl])), (h1, .inl (cI, 190, .inl (upd (upd (upd (upd (upd z 178 x28) 178 0) 182 0) 177 x94) 177 0)))] H := hP
        have hD : va_D A [(h, .inr (8, [.ref h1, .ref h2, .ref h3, .int gst, .ref h4, .ref h5, .ref h6, .int gty, .int gse, .int gte, .int gsp, .ref h7, .ref h8, .int gtl])), (h1, .inl (cI, 190, .inl (upd (upd (upd (upd (upd z 178 x28) 178 0) 182 0) 177 x94) 177 0)))] := hD
        refine lv_aload_n hx hb dX8_goOn_125 rfl (lv_at hl 2 rfl) ?_
        refine va_get (D := D) (ci := 8) (v := .ref h1) (C := RX8) (T := TX8) (N := 14) hx hb hts xin8 hown hK hP 0 rfl rfl 0 (by decide) (hts _ (List.mem_cons_of_mem _ mw_3_89)) (fun _ h9 => h9) rfl dX8_goOn_126 ?_
        refine lv_sipush (v := 176) hx hb dX8_goOn_129 (by decide) ?_
        refine lv_dup2_11 hx hb dX8_goOn_132 rfl rfl ?_
        refine va_iald hx hb hK hP 1 0 rfl rfl (xi_in (by decide) (by decide)) dX8_goOn_133 ?_
        refine xk_top (z := z 176) rfl ?_
        refine lv_iconst (v := 1) hx hb dX8_goOn_134 (by decide) ?_
        refine lv_iadd hx hb dX8_goOn_135 ?_
        refine lv_topi (fun x135 e135 => ?_)
        refine va_iast hx hb hK hP hD hS 1 0 rfl rfl (xi_in (by decide) (by decide)) dX8_goOn_136 (fun H locs hP hD hS => ?_)
        have hP : va_P D vwCl [(h, .inr (8, [.ref h1, .ref h2, .ref h3, .int gst, .ref h4, .ref h5, .ref h6, .int gty, .int gse, .int gte, .int gsp, .ref h7, .ref h8, .int gtl])), (h1, .inl (cI, 190, .inl (upd (upd (upd (upd (upd (upd z 178 x28) 178 0) 182 0) 177 x94) 177 0) 176 x135)))] H := hP
        have hD : va_D A [(h, .inr (8, [.ref h1, .ref h2, .ref h3, .int gst, .ref h4, .ref h5, .ref h6, .int gty, .int gse, .int gte, .int gsp, .ref h7, .ref h8, .int gtl])), (h1, .inl (cI, 190, .inl (upd (upd (upd (upd (upd (upd z 178 x28) 178 0) 182 0) 177 x94) 177 0) 176 x135)))] := hD
        refine lv_aload_n hx hb dX8_goOn_137 rfl (lv_at hl 2 rfl) ?_
        refine va_get (D := D) (ci := 8) (v := .ref h1) (C := RX8) (T := TX8) (N := 14) hx hb hts xin8 hown hK hP 0 rfl rfl 0 (by decide) (hts _ (List.mem_cons_of_mem _ mw_3_89)) (fun _ h9 => h9) rfl dX8_goOn_138 ?_
        refine lv_sipush (v := 176) hx hb dX8_goOn_141 (by decide) ?_
        refine va_iald hx hb hK hP 1 0 rfl rfl (xi_in (by decide) (by decide)) dX8_goOn_144 ?_
        refine xk_top (z := x135) rfl ?_
        refine lv_aload_n hx hb dX8_goOn_145 rfl (lv_at hl 2 rfl) ?_
        refine va_get (D := D) (ci := 8) (v := .ref h1) (C := RX8) (T := TX8) (N := 14) hx hb hts xin8 hown hK hP 0 rfl rfl 0 (by decide) (hts _ (List.mem_cons_of_mem _ mw_3_89)) (fun _ h9 => h9) rfl dX8_goOn_146 ?_
        refine lv_bipush (v := 6) hx hb dX8_goOn_149 (by decide) ?_
        refine va_iald hx hb hK hP 1 0 rfl rfl (xi_in (by decide) (by decide)) dX8_goOn_151 ?_
        refine xk_top (z := z 6) rfl ?_
        refine lv_icmp_ne (tgt := 181) hx hb dX8_goOn_152 (by decide) (fun c152 => ?_) (fun c152 => ?_)
        · have t152 : ¬ x135.toInt = (z 6).toInt := xi_ne rfl rfl c152
          have d152 : ¬ x135 = (z 6) := c152
          have hf : ¬ inFootZ z := by subst e135 e112 e111 e94 e41 e28; exact Int.not_lt.mpr t44
          have hft : footEZ z = (upd (upd (upd (upd z 178 (z 178 + 1)) 178 0) 182 0) 177 (z 177 + 1)) := by rw [footEZ, if_neg b67]
          have hil : ¬ inLineZ z := by subst e135 e112 e111 e94 e41 e28; exact fun hh => hh d113
          have hln : lineEZ z = (upd (upd (upd (upd (upd (upd z 178 (z 178 + 1)) 178 0) 182 0) 177 (z 177 + 1)) 177 0) 176 (z 176 + 1)) := by rw [lineEZ, if_neg hil, hft]
          have hs : ¬ songEZ z := by subst e135 e112 e111 e94 e41 e28; show ¬ lineEZ z 176 = z 6; rw [hln]; exact d152
          have hz : (upd (upd (upd (upd (upd (upd z 178 x28) 178 0) 182 0) 177 x94) 177 0) 176 x135) = goOnZ z := by subst e135 e112 e111 e94 e41 e28; rw [goOnZ, if_neg hf, if_neg hs, hln]
          have hg : gse = if (¬ inFootZ z ∧ songEZ z) then 1 else gse := by rw [if_neg (fun hh => hs hh.2)]
          exact xk_retv () hx hb hr hlocks (xk_P hP (by rw [hz, ← hg])) (by trivial) hS dX8_goOn_181 hQ
        · have t152 : x135.toInt = (z 6).toInt := xi_eq rfl rfl c152
          have d152 : x135 = (z 6) := c152
          refine lv_aload_n hx hb dX8_goOn_155 rfl (lv_at hl 2 rfl) ?_
          refine va_get (D := D) (ci := 8) (v := .ref h1) (C := RX8) (T := TX8) (N := 14) hx hb hts xin8 hown hK hP 0 rfl rfl 0 (by decide) (hts _ (List.mem_cons_of_mem _ mw_3_89)) (fun _ h9 => h9) rfl dX8_goOn_156 ?_
          refine lv_sipush (v := 176) hx hb dX8_goOn_159 (by decide) ?_
          refine lv_iconst (v := 0) hx hb dX8_goOn_162 (by decide) ?_
          refine va_iast hx hb hK hP hD hS 1 0 rfl rfl (xi_in (by decide) (by decide)) dX8_goOn_163 (fun H locs hP hD hS => ?_)
          have hP : va_P D vwCl [(h, .inr (8, [.ref h1, .ref h2, .ref h3, .int gst, .ref h4, .ref h5, .ref h6, .int gty, .int gse, .int gte, .int gsp, .ref h7, .ref h8, .int gtl])), (h1, .inl (cI, 190, .inl (upd (upd (upd (upd (upd (upd (upd z 178 x28) 178 0) 182 0) 177 x94) 177 0) 176 x135) 176 0)))] H := hP
          have hD : va_D A [(h, .inr (8, [.ref h1, .ref h2, .ref h3, .int gst, .ref h4, .ref h5, .ref h6, .int gty, .int gse, .int gte, .int gsp, .ref h7, .ref h8, .int gtl])), (h1, .inl (cI, 190, .inl (upd (upd (upd (upd (upd (upd (upd z 178 x28) 178 0) 182 0) 177 x94) 177 0) 176 x135) 176 0)))] := hD
          refine lv_aload_n hx hb dX8_goOn_164 rfl (lv_at hl 2 rfl) ?_
          refine va_get (D := D) (ci := 8) (v := .ref h1) (C := RX8) (T := TX8) (N := 14) hx hb hts xin8 hown hK hP 0 rfl rfl 0 (by decide) (hts _ (List.mem_cons_of_mem _ mw_3_89)) (fun _ h9 => h9) rfl dX8_goOn_165 ?_
          refine lv_sipush (v := 186) hx hb dX8_goOn_168 (by decide) ?_
          refine lv_dup2_11 hx hb dX8_goOn_171 rfl rfl ?_
          refine va_iald hx hb hK hP 1 0 rfl rfl (xi_in (by decide) (by decide)) dX8_goOn_172 ?_
          refine xk_top (z := z 186) rfl ?_
          refine lv_iconst (v := 1) hx hb dX8_goOn_173 (by decide) ?_
          refine lv_iadd hx hb dX8_goOn_174 ?_
          refine lv_topi (fun x174 e174 => ?_)
          refine va_iast hx hb hK hP hD hS 1 0 rfl rfl (xi_in (by decide) (by decide)) dX8_goOn_175 (fun H locs hP hD hS => ?_)
          have hP : va_P D vwCl [(h, .inr (8, [.ref h1, .ref h2, .ref h3, .int gst, .ref h4, .ref h5, .ref h6, .int gty, .int gse, .int gte, .int gsp, .ref h7, .ref h8, .int gtl])), (h1, .inl (cI, 190, .inl (upd (upd (upd (upd (upd (upd (upd (upd z 178 x28) 178 0) 182 0) 177 x94) 177 0) 176 x135) 176 0) 186 x174)))] H := hP
          have hD : va_D A [(h, .inr (8, [.ref h1, .ref h2, .ref h3, .int gst, .ref h4, .ref h5, .ref h6, .int gty, .int gse, .int gte, .int gsp, .ref h7, .ref h8, .int gtl])), (h1, .inl (cI, 190, .inl (upd (upd (upd (upd (upd (upd (upd (upd z 178 x28) 178 0) 182 0) 177 x94) 177 0) 176 x135) 176 0) 186 x174)))] := hD
          refine lv_aload_n hx hb dX8_goOn_176 rfl (lv_at hl 2 rfl) ?_
          refine lv_iconst (v := 1) hx hb dX8_goOn_177 (by decide) ?_
          refine va_put (D := D) (ci := 8) (v := .int 1) (ty := .boolean) (C := RX8) (T := TX8) (N := 14) hx hb hts xin8 tyX8 tyX8_ok nmX8 hown hK hP hD hS 0 rfl rfl 8 (by decide) (hts _ (List.mem_cons_of_mem _ mw_3_97)) (fun _ h9 => h9) rfl (by decide +kernel) rfl rfl (Nat.le_of_ble_eq_true rfl) dX8_goOn_178 (fun H locs hP hD hS => ?_)
          have hP : va_P D vwCl [(h, .inr (8, [.ref h1, .ref h2, .ref h3, .int gst, .ref h4, .ref h5, .ref h6, .int gty, .int 1, .int gte, .int gsp, .ref h7, .ref h8, .int gtl])), (h1, .inl (cI, 190, .inl (upd (upd (upd (upd (upd (upd (upd (upd z 178 x28) 178 0) 182 0) 177 x94) 177 0) 176 x135) 176 0) 186 x174)))] H := hP
          have hD : va_D A [(h, .inr (8, [.ref h1, .ref h2, .ref h3, .int gst, .ref h4, .ref h5, .ref h6, .int gty, .int 1, .int gte, .int gsp, .ref h7, .ref h8, .int gtl])), (h1, .inl (cI, 190, .inl (upd (upd (upd (upd (upd (upd (upd (upd z 178 x28) 178 0) 182 0) 177 x94) 177 0) 176 x135) 176 0) 186 x174)))] := hD
          have hf : ¬ inFootZ z := by subst e174 e135 e112 e111 e94 e41 e28; exact Int.not_lt.mpr t44
          have hft : footEZ z = (upd (upd (upd (upd z 178 (z 178 + 1)) 178 0) 182 0) 177 (z 177 + 1)) := by rw [footEZ, if_neg b67]
          have hil : ¬ inLineZ z := by subst e174 e135 e112 e111 e94 e41 e28; exact fun hh => hh d113
          have hln : lineEZ z = (upd (upd (upd (upd (upd (upd z 178 (z 178 + 1)) 178 0) 182 0) 177 (z 177 + 1)) 177 0) 176 (z 176 + 1)) := by rw [lineEZ, if_neg hil, hft]
          have hs : songEZ z := by subst e174 e135 e112 e111 e94 e41 e28; show lineEZ z 176 = z 6; rw [hln]; exact d152
          have hz : (upd (upd (upd (upd (upd (upd (upd (upd z 178 x28) 178 0) 182 0) 177 x94) 177 0) 176 x135) 176 0) 186 x174) = goOnZ z := by subst e174 e135 e112 e111 e94 e41 e28; rw [goOnZ, if_neg hf, if_pos hs, hln]
          have hg : 1 = if (¬ inFootZ z ∧ songEZ z) then 1 else gse := by rw [if_pos ⟨hf, hs⟩]
          exact xk_retv () hx hb hr hlocks (xk_P hP (by rw [hz, ← hg])) (by trivial) hS dX8_goOn_181 hQ
  · have t44 : x28.toInt < r41.toInt := xi_nle rfl rfl c44
    have hf : inFootZ z := by subst e41 e28; exact t44
    have hz : (upd z 178 x28) = goOnZ z := by subst e41 e28; rw [goOnZ, if_pos hf]
    have hg : gse = if (¬ inFootZ z ∧ songEZ z) then 1 else gse := by rw [if_neg (fun hh => hh.1 hf)]
    exact xk_retv () hx hb hr hlocks (xk_P hP (by rw [hz, ← hg])) (by trivial) hS dX8_goOn_47 hQ
