set_option maxHeartbeats 4000000 in
set_option maxRecDepth 100000 in
theorem c_X1_init (l : Launch) (D : va_G) (cI cZ cS : ClassId) (m0 : Nat)  : xMc l yX1_init cX1_init 1 none ({ frames := 1, cells := 0, slots := 0, locals := 12 } : Room) D (xTy cI cZ cS) [.ref m0] [(m0, .inr (1, [.int 0, .int 0, .int 0, .int 0, .int 0, .int 0, .int 0, .int 0, .int 0, .int 0, .int 0, .int 0, .int 0, .int 0, .int 0]))] (fun (_ : Unit) => True) (fun (_ : Unit) => [(m0, .inr (1, [.int 0, .int 0, .int 0, .int 0, .int 0, .int 0, .int 0, .int 0, .int 0, .int 0, .int 0, .int 0, .int 0, .int 0, .int 0]))]) 0 0 := by
  refine xk_bodyc (by decide) (Nat.le_of_ble_eq_true rfl) ?_
  intro p e s m below meth c A ls args Q hx hb hr hts hown hlocks hml hin hK hP hD hS hA hN hZ hl hQ
  have hl : lv_has ls 1 [(0, .ref m0)] := hl
  refine lv_aload_n hx hb dX1_init_0 rfl (lv_at hl 0 rfl) ?_
  refine W.objInit hx hb hown (hts _ (List.mem_cons_of_mem _ mw_1_85)) (hts _ (List.mem_cons_of_mem _ mw_1_16)) (hts _ (List.mem_cons_of_mem _ mw_1_17)) rfl (by rw [hml]; exact hl.1) rfl dX1_init_1 (Nat.le_of_ble_eq_true rfl) (Nat.le_of_ble_eq_true rfl) ?_
  refine W.eq (g2 := F0 m 4 ls []) rfl ?_
  exact xk_retc () hx hb hr hlocks (xk_P hP (by rfl)) (xk_D hD (by rfl)) (by trivial) hS dX1_init_4 hQ (Nat.le_of_ble_eq_true rfl) (Nat.le_of_ble_eq_true rfl)

set_option maxHeartbeats 4000000 in
set_option maxRecDepth 100000 in
theorem c_X2_init (l : Launch) (D : va_G) (cI cZ cS : ClassId) (pd0 : Nat)  : xMc l yX2_init cX2_init 1 none ({ frames := 1, cells := 1, slots := 60, locals := 12 } : Room) D (xTy cI cZ cS) [.ref pd0] [(pd0, .inr (2, [.null, .int 0]))] (fun (u : (Nat)) => True) (fun (u : (Nat)) => [(pd0, .inr (2, [.ref u, .int 0])), (u, .inl (cI, 60, .inl z0))]) 1 60 := by
  refine xk_bodyc (by decide) (Nat.le_of_ble_eq_true rfl) ?_
  intro p e s m below meth c A ls args Q hx hb hr hts hown hlocks hml hin hK hP hD hS hA hN hZ hl hQ
  have hl : lv_has ls 1 [(0, .ref pd0)] := hl
  refine lv_aload_n hx hb dX2_init_0 rfl (lv_at hl 0 rfl) ?_
  refine W.objInit hx hb hown (hts _ (List.mem_cons_of_mem _ mw_1_188)) (hts _ (List.mem_cons_of_mem _ mw_1_16)) (hts _ (List.mem_cons_of_mem _ mw_1_17)) rfl (by rw [hml]; exact hl.1) rfl dX2_init_1 (Nat.le_of_ble_eq_true rfl) (Nat.le_of_ble_eq_true rfl) ?_
  refine W.eq (g2 := F0 m 4 ls []) rfl ?_
  refine lv_aload_n hx hb dX2_init_4 rfl (lv_at hl 0 rfl) ?_
  refine lv_bipush (v := 60) hx hb dX2_init_5 (by decide) ?_
  refine va_newa (atype := .int) (a0 := (60, .inl z0)) hx hb (hts _ (List.mem_cons_of_mem _ mw_1_36)) rfl hK hP hD hS hA (fun _ => rfl) (by decide) rfl (Nat.le_of_ble_eq_true rfl) (Nat.le_of_ble_eq_true rfl) (Nat.le_of_ble_eq_true rfl) dX2_init_7 (fun q7 cA H hK2 hP hD hS => ?_)
  have e7 := xk_cI hK2
  rw [e7] at hP hD
  have hP : va_P D vwCl [(pd0, .inr (2, [.null, .int 0])), (q7, .inl (cI, 60, .inl z0))] H := hP
  have hD : va_D A [(pd0, .inr (2, [.null, .int 0])), (q7, .inl (cI, 60, .inl z0))] := hD
  refine va_putF (D := D) (ci := 2) (v := .ref q7) (ty := .array .int) (C := RX2) (T := TX2) (N := 2) hx hb hts xin2 tyX2 tyX2_ok nmX2 hown hK hP hD hS 0 rfl rfl 0 (by decide) (hts _ (List.mem_cons_of_mem _ mw_1_189)) (fun _ h9 => h9) rfl hin rfl (by decide +kernel) rfl rfl (Nat.le_of_ble_eq_true rfl) dX2_init_9 (fun H locs hP hD hS => ?_)
  have hP : va_P D vwCl [(pd0, .inr (2, [.ref q7, .int 0])), (q7, .inl (cI, 60, .inl z0))] H := hP
  have hD : va_D A [(pd0, .inr (2, [.ref q7, .int 0])), (q7, .inl (cI, 60, .inl z0))] := hD
  exact xk_retc q7 hx hb hr hlocks (xk_P hP (by rfl)) (xk_D hD (by rfl)) (by trivial) hS dX2_init_12 hQ (Nat.le_of_ble_eq_true rfl) (Nat.le_of_ble_eq_true rfl)

set_option maxHeartbeats 4000000 in
set_option maxRecDepth 100000 in
theorem c_X5_init (l : Launch) (D : va_G) (cI cZ cS : ClassId) (g0 : Nat)  : xMc l yX5_init cX5_init 1 none ({ frames := 1, cells := 3, slots := 250, locals := 12 } : Room) D (xTy cI cZ cS) [.ref g0] [(g0, .inr (5, [.int 0, .null, .null, .null]))] (fun (u : (Nat) × (Nat) × (Nat)) => True) (fun (u : (Nat) × (Nat) × (Nat)) => [(g0, .inr (5, [.int 0, .ref u.1, .ref u.2.1, .ref u.2.2])), (u.1, .inl (cI, 10, .inl z0)), (u.2.1, .inl (cI, 120, .inl z0)), (u.2.2, .inl (cZ, 120, .inl z0))]) 3 250 := by
  refine xk_bodyc (by decide) (Nat.le_of_ble_eq_true rfl) ?_
  intro p e s m below meth c A ls args Q hx hb hr hts hown hlocks hml hin hK hP hD hS hA hN hZ hl hQ
  have hl : lv_has ls 1 [(0, .ref g0)] := hl
  refine lv_aload_n hx hb dX5_init_0 rfl (lv_at hl 0 rfl) ?_
  refine W.objInit hx hb hown (hts _ (List.mem_cons_of_mem _ mw_1_42)) (hts _ (List.mem_cons_of_mem _ mw_1_16)) (hts _ (List.mem_cons_of_mem _ mw_1_17)) rfl (by rw [hml]; exact hl.1) rfl dX5_init_1 (Nat.le_of_ble_eq_true rfl) (Nat.le_of_ble_eq_true rfl) ?_
  refine W.eq (g2 := F0 m 4 ls []) rfl ?_
  refine lv_aload_n hx hb dX5_init_4 rfl (lv_at hl 0 rfl) ?_
  refine lv_bipush (v := 10) hx hb dX5_init_5 (by decide) ?_
  refine va_newa (atype := .int) (a0 := (10, .inl z0)) hx hb (hts _ (List.mem_cons_of_mem _ mw_1_36)) rfl hK hP hD hS hA (fun _ => rfl) (by decide) rfl (Nat.le_of_ble_eq_true rfl) (Nat.le_of_ble_eq_true rfl) (Nat.le_of_ble_eq_true rfl) dX5_init_7 (fun q7 cA H hK2 hP hD hS => ?_)
  have e7 := xk_cI hK2
  rw [e7] at hP hD
  have hP : va_P D vwCl [(g0, .inr (5, [.int 0, .null, .null, .null])), (q7, .inl (cI, 10, .inl z0))] H := hP
  have hD : va_D A [(g0, .inr (5, [.int 0, .null, .null, .null])), (q7, .inl (cI, 10, .inl z0))] := hD
  refine va_putF (D := D) (ci := 5) (v := .ref q7) (ty := .array .int) (C := RX5) (T := TX5) (N := 4) hx hb hts xin5 tyX5 tyX5_ok nmX5 hown hK hP hD hS 0 rfl rfl 1 (by decide) (hts _ (List.mem_cons_of_mem _ mw_1_46)) (fun _ h9 => h9) rfl hin rfl (by decide +kernel) rfl rfl (Nat.le_of_ble_eq_true rfl) dX5_init_9 (fun H locs hP hD hS => ?_)
  have hP : va_P D vwCl [(g0, .inr (5, [.int 0, .ref q7, .null, .null])), (q7, .inl (cI, 10, .inl z0))] H := hP
  have hD : va_D A [(g0, .inr (5, [.int 0, .ref q7, .null, .null])), (q7, .inl (cI, 10, .inl z0))] := hD
  refine lv_aload_n hx hb dX5_init_12 rfl (lv_at hl 0 rfl) ?_
  refine lv_bipush (v := 120) hx hb dX5_init_13 (by decide) ?_
  refine va_newa (atype := .int) (a0 := (120, .inl z0)) hx hb (hts _ (List.mem_cons_of_mem _ mw_1_36)) rfl hK hP hD hS hA (fun _ => rfl) (by decide) rfl (Nat.le_of_ble_eq_true rfl) (Nat.le_of_ble_eq_true rfl) (Nat.le_of_ble_eq_true rfl) dX5_init_15 (fun q15 cA H hK2 hP hD hS => ?_)
  have e15 := xk_cI hK2
  rw [e15] at hP hD
  have hP : va_P D vwCl [(g0, .inr (5, [.int 0, .ref q7, .null, .null])), (q7, .inl (cI, 10, .inl z0)), (q15, .inl (cI, 120, .inl z0))] H := hP
  have hD : va_D A [(g0, .inr (5, [.int 0, .ref q7, .null, .null])), (q7, .inl (cI, 10, .inl z0)), (q15, .inl (cI, 120, .inl z0))] := hD
  refine va_putF (D := D) (ci := 5) (v := .ref q15) (ty := .array .int) (C := RX5) (T := TX5) (N := 4) hx hb hts xin5 tyX5 tyX5_ok nmX5 hown hK hP hD hS 0 rfl rfl 2 (by decide) (hts _ (List.mem_cons_of_mem _ mw_1_47)) (fun _ h9 => h9) rfl hin rfl (by decide +kernel) rfl rfl (Nat.le_of_ble_eq_true rfl) dX5_init_17 (fun H locs hP hD hS => ?_)
  have hP : va_P D vwCl [(g0, .inr (5, [.int 0, .ref q7, .ref q15, .null])), (q7, .inl (cI, 10, .inl z0)), (q15, .inl (cI, 120, .inl z0))] H := hP
  have hD : va_D A [(g0, .inr (5, [.int 0, .ref q7, .ref q15, .null])), (q7, .inl (cI, 10, .inl z0)), (q15, .inl (cI, 120, .inl z0))] := hD
  refine lv_aload_n hx hb dX5_init_20 rfl (lv_at hl 0 rfl) ?_
  refine lv_bipush (v := 120) hx hb dX5_init_21 (by decide) ?_
  refine va_newa (atype := .boolean) (a0 := (120, .inl z0)) hx hb (hts _ (List.mem_cons_of_mem _ mw_1_58)) rfl hK hP hD hS hA (fun _ => rfl) (by decide) rfl (Nat.le_of_ble_eq_true rfl) (Nat.le_of_ble_eq_true rfl) (Nat.le_of_ble_eq_true rfl) dX5_init_23 (fun q23 cA H hK2 hP hD hS => ?_)
  have e23 := xk_cZ hK2
  rw [e23] at hP hD
  have hP : va_P D vwCl [(g0, .inr (5, [.int 0, .ref q7, .ref q15, .null])), (q7, .inl (cI, 10, .inl z0)), (q15, .inl (cI, 120, .inl z0)), (q23, .inl (cZ, 120, .inl z0))] H := hP
  have hD : va_D A [(g0, .inr (5, [.int 0, .ref q7, .ref q15, .null])), (q7, .inl (cI, 10, .inl z0)), (q15, .inl (cI, 120, .inl z0)), (q23, .inl (cZ, 120, .inl z0))] := hD
  refine va_putF (D := D) (ci := 5) (v := .ref q23) (ty := .array .boolean) (C := RX5) (T := TX5) (N := 4) hx hb hts xin5 tyX5 tyX5_ok nmX5 hown hK hP hD hS 0 rfl rfl 3 (by decide) (hts _ (List.mem_cons_of_mem _ mw_1_48)) (fun _ h9 => h9) rfl hin rfl (by decide +kernel) rfl rfl (Nat.le_of_ble_eq_true rfl) dX5_init_25 (fun H locs hP hD hS => ?_)
  have hP : va_P D vwCl [(g0, .inr (5, [.int 0, .ref q7, .ref q15, .ref q23])), (q7, .inl (cI, 10, .inl z0)), (q15, .inl (cI, 120, .inl z0)), (q23, .inl (cZ, 120, .inl z0))] H := hP
  have hD : va_D A [(g0, .inr (5, [.int 0, .ref q7, .ref q15, .ref q23])), (q7, .inl (cI, 10, .inl z0)), (q15, .inl (cI, 120, .inl z0)), (q23, .inl (cZ, 120, .inl z0))] := hD
  exact xk_retc (q7, q15, q23) hx hb hr hlocks (xk_P hP (by rfl)) (xk_D hD (by rfl)) (by trivial) hS dX5_init_28 hQ (Nat.le_of_ble_eq_true rfl) (Nat.le_of_ble_eq_true rfl)

set_option maxHeartbeats 4000000 in
set_option maxRecDepth 100000 in
theorem c_X3_init (l : Launch) (D : va_G) (cI cZ cS : ClassId) (ro0 : Nat)  : xMc l yX3_init cX3_init 1 none ({ frames := 1, cells := 3, slots := 36, locals := 12 } : Room) D (xTy cI cZ cS) [.ref ro0] [(ro0, .inr (3, [.int 0, .null, .null, .null]))] (fun (u : (Nat) × (Nat) × (Nat)) => True) (fun (u : (Nat) × (Nat) × (Nat)) => [(ro0, .inr (3, [.int 0, .ref u.1, .ref u.2.1, .ref u.2.2])), (u.1, .inl (cI, 12, .inl z0)), (u.2.1, .inl (cI, 12, .inl z0)), (u.2.2, .inl (cZ, 12, .inl z0))]) 3 36 := by
  refine xk_bodyc (by decide) (Nat.le_of_ble_eq_true rfl) ?_
  intro p e s m below meth c A ls args Q hx hb hr hts hown hlocks hml hin hK hP hD hS hA hN hZ hl hQ
  have hl : lv_has ls 1 [(0, .ref ro0)] := hl
  refine lv_aload_n hx hb dX3_init_0 rfl (lv_at hl 0 rfl) ?_
  refine W.objInit hx hb hown (hts _ (List.mem_cons_of_mem _ mw_1_64)) (hts _ (List.mem_cons_of_mem _ mw_1_16)) (hts _ (List.mem_cons_of_mem _ mw_1_17)) rfl (by rw [hml]; exact hl.1) rfl dX3_init_1 (Nat.le_of_ble_eq_true rfl) (Nat.le_of_ble_eq_true rfl) ?_
  refine W.eq (g2 := F0 m 4 ls []) rfl ?_
  refine lv_aload_n hx hb dX3_init_4 rfl (lv_at hl 0 rfl) ?_
  refine lv_bipush (v := 12) hx hb dX3_init_5 (by decide) ?_
  refine va_newa (atype := .int) (a0 := (12, .inl z0)) hx hb (hts _ (List.mem_cons_of_mem _ mw_1_36)) rfl hK hP hD hS hA (fun _ => rfl) (by decide) rfl (Nat.le_of_ble_eq_true rfl) (Nat.le_of_ble_eq_true rfl) (Nat.le_of_ble_eq_true rfl) dX3_init_7 (fun q7 cA H hK2 hP hD hS => ?_)
  have e7 := xk_cI hK2
  rw [e7] at hP hD
  have hP : va_P D vwCl [(ro0, .inr (3, [.int 0, .null, .null, .null])), (q7, .inl (cI, 12, .inl z0))] H := hP
  have hD : va_D A [(ro0, .inr (3, [.int 0, .null, .null, .null])), (q7, .inl (cI, 12, .inl z0))] := hD
  refine va_putF (D := D) (ci := 3) (v := .ref q7) (ty := .array .int) (C := RX3) (T := TX3) (N := 4) hx hb hts xin3 tyX3 tyX3_ok nmX3 hown hK hP hD hS 0 rfl rfl 1 (by decide) (hts _ (List.mem_cons_of_mem _ mw_1_68)) (fun _ h9 => h9) rfl hin rfl (by decide +kernel) rfl rfl (Nat.le_of_ble_eq_true rfl) dX3_init_9 (fun H locs hP hD hS => ?_)
  have hP : va_P D vwCl [(ro0, .inr (3, [.int 0, .ref q7, .null, .null])), (q7, .inl (cI, 12, .inl z0))] H := hP
  have hD : va_D A [(ro0, .inr (3, [.int 0, .ref q7, .null, .null])), (q7, .inl (cI, 12, .inl z0))] := hD
  refine lv_aload_n hx hb dX3_init_12 rfl (lv_at hl 0 rfl) ?_
  refine lv_bipush (v := 12) hx hb dX3_init_13 (by decide) ?_
  refine va_newa (atype := .int) (a0 := (12, .inl z0)) hx hb (hts _ (List.mem_cons_of_mem _ mw_1_36)) rfl hK hP hD hS hA (fun _ => rfl) (by decide) rfl (Nat.le_of_ble_eq_true rfl) (Nat.le_of_ble_eq_true rfl) (Nat.le_of_ble_eq_true rfl) dX3_init_15 (fun q15 cA H hK2 hP hD hS => ?_)
  have e15 := xk_cI hK2
  rw [e15] at hP hD
  have hP : va_P D vwCl [(ro0, .inr (3, [.int 0, .ref q7, .null, .null])), (q7, .inl (cI, 12, .inl z0)), (q15, .inl (cI, 12, .inl z0))] H := hP
  have hD : va_D A [(ro0, .inr (3, [.int 0, .ref q7, .null, .null])), (q7, .inl (cI, 12, .inl z0)), (q15, .inl (cI, 12, .inl z0))] := hD
  refine va_putF (D := D) (ci := 3) (v := .ref q15) (ty := .array .int) (C := RX3) (T := TX3) (N := 4) hx hb hts xin3 tyX3 tyX3_ok nmX3 hown hK hP hD hS 0 rfl rfl 2 (by decide) (hts _ (List.mem_cons_of_mem _ mw_1_69)) (fun _ h9 => h9) rfl hin rfl (by decide +kernel) rfl rfl (Nat.le_of_ble_eq_true rfl) dX3_init_17 (fun H locs hP hD hS => ?_)
  have hP : va_P D vwCl [(ro0, .inr (3, [.int 0, .ref q7, .ref q15, .null])), (q7, .inl (cI, 12, .inl z0)), (q15, .inl (cI, 12, .inl z0))] H := hP
  have hD : va_D A [(ro0, .inr (3, [.int 0, .ref q7, .ref q15, .null])), (q7, .inl (cI, 12, .inl z0)), (q15, .inl (cI, 12, .inl z0))] := hD
  refine lv_aload_n hx hb dX3_init_20 rfl (lv_at hl 0 rfl) ?_
  refine lv_bipush (v := 12) hx hb dX3_init_21 (by decide) ?_
  refine va_newa (atype := .boolean) (a0 := (12, .inl z0)) hx hb (hts _ (List.mem_cons_of_mem _ mw_1_58)) rfl hK hP hD hS hA (fun _ => rfl) (by decide) rfl (Nat.le_of_ble_eq_true rfl) (Nat.le_of_ble_eq_true rfl) (Nat.le_of_ble_eq_true rfl) dX3_init_23 (fun q23 cA H hK2 hP hD hS => ?_)
  have e23 := xk_cZ hK2
  rw [e23] at hP hD
  have hP : va_P D vwCl [(ro0, .inr (3, [.int 0, .ref q7, .ref q15, .null])), (q7, .inl (cI, 12, .inl z0)), (q15, .inl (cI, 12, .inl z0)), (q23, .inl (cZ, 12, .inl z0))] H := hP
  have hD : va_D A [(ro0, .inr (3, [.int 0, .ref q7, .ref q15, .null])), (q7, .inl (cI, 12, .inl z0)), (q15, .inl (cI, 12, .inl z0)), (q23, .inl (cZ, 12, .inl z0))] := hD
  refine va_putF (D := D) (ci := 3) (v := .ref q23) (ty := .array .boolean) (C := RX3) (T := TX3) (N := 4) hx hb hts xin3 tyX3 tyX3_ok nmX3 hown hK hP hD hS 0 rfl rfl 3 (by decide) (hts _ (List.mem_cons_of_mem _ mw_1_70)) (fun _ h9 => h9) rfl hin rfl (by decide +kernel) rfl rfl (Nat.le_of_ble_eq_true rfl) dX3_init_25 (fun H locs hP hD hS => ?_)
  have hP : va_P D vwCl [(ro0, .inr (3, [.int 0, .ref q7, .ref q15, .ref q23])), (q7, .inl (cI, 12, .inl z0)), (q15, .inl (cI, 12, .inl z0)), (q23, .inl (cZ, 12, .inl z0))] H := hP
  have hD : va_D A [(ro0, .inr (3, [.int 0, .ref q7, .ref q15, .ref q23])), (q7, .inl (cI, 12, .inl z0)), (q15, .inl (cI, 12, .inl z0)), (q23, .inl (cZ, 12, .inl z0))] := hD
  exact xk_retc (q7, q15, q23) hx hb hr hlocks (xk_P hP (by rfl)) (xk_D hD (by rfl)) (by trivial) hS dX3_init_28 hQ (Nat.le_of_ble_eq_true rfl) (Nat.le_of_ble_eq_true rfl)

set_option maxHeartbeats 4000000 in
set_option maxRecDepth 100000 in
theorem c_X4_init (l : Launch) (D : va_G) (cI cZ cS : ClassId) (s0 : Nat)  : xMc l yX4_init cX4_init 2 none ({ frames := 1, cells := 1, slots := 6, locals := 12 } : Room) D (xTy cI cZ cS) [.ref s0] [(s0, .inr (4, [.null]))] (fun (u : (Nat)) => True) (fun (u : (Nat)) => [(s0, .inr (4, [.ref u])), (u, .inl (cI, 6, .inl tabF))]) 1 6 := by
  refine xk_bodyc (by decide) (Nat.le_of_ble_eq_true rfl) ?_
  intro p e s m below meth c A ls args Q hx hb hr hts hown hlocks hml hin hK hP hD hS hA hN hZ hl hQ
  have hl : lv_has ls 2 [(0, .ref s0)] := hl
  obtain ⟨⟨tF, tFZ, tFT⟩, ⟨tL, tLZ, tLT⟩, ⟨tM, tMZ, tMT⟩⟩ := id hZ
  refine lv_aload_n hx hb dX4_init_0 rfl (lv_at hl 0 rfl) ?_
  refine W.objInit hx hb hown (hts _ (List.mem_cons_of_mem _ mw_1_29)) (hts _ (List.mem_cons_of_mem _ mw_1_16)) (hts _ (List.mem_cons_of_mem _ mw_1_17)) rfl (by rw [hml]; exact hl.1) rfl dX4_init_1 (Nat.le_of_ble_eq_true rfl) (Nat.le_of_ble_eq_true rfl) ?_
  refine W.eq (g2 := F0 m 4 ls []) rfl ?_
  refine lv_aload_n hx hb dX4_init_4 rfl (lv_at hl 0 rfl) ?_
  refine lv_bipush (v := 6) hx hb dX4_init_5 (by decide) ?_
  refine va_newa (atype := .int) (a0 := (6, .inl z0)) hx hb (hts _ (List.mem_cons_of_mem _ mw_1_36)) rfl hK hP hD hS hA (fun _ => rfl) (by decide) rfl (Nat.le_of_ble_eq_true rfl) (Nat.le_of_ble_eq_true rfl) (Nat.le_of_ble_eq_true rfl) dX4_init_7 (fun q7 cA H hK2 hP hD hS => ?_)
  have e7 := xk_cI hK2
  rw [e7] at hP hD
  have hP : va_P D vwCl [(s0, .inr (4, [.null])), (q7, .inl (cI, 6, .inl z0))] H := hP
  have hD : va_D A [(s0, .inr (4, [.null])), (q7, .inl (cI, 6, .inl z0))] := hD
  refine va_putF (D := D) (ci := 4) (v := .ref q7) (ty := .array .int) (C := RX4) (T := TX4) (N := 1) hx hb hts xin4 tyX4 tyX4_ok nmX4 hown hK hP hD hS 0 rfl rfl 0 (by decide) (hts _ (List.mem_cons_of_mem _ mw_1_32)) (fun _ h9 => h9) rfl hin rfl (by decide +kernel) rfl rfl (Nat.le_of_ble_eq_true rfl) dX4_init_9 (fun H locs hP hD hS => ?_)
  have hP : va_P D vwCl [(s0, .inr (4, [.ref q7])), (q7, .inl (cI, 6, .inl z0))] H := hP
  have hD : va_D A [(s0, .inr (4, [.ref q7])), (q7, .inl (cI, 6, .inl z0))] := hD
  refine lv_iconst (v := 0) hx hb dX4_init_12 (by decide) ?_
  refine lv_istore_n (lv' := [(1, .int 0), (0, .ref s0)]) hx hb dX4_init_13 rfl hl (by decide) rfl (fun ls hl => ?_)
  have L14 : ∀ (n : Nat) (k : Int32) (hk : 0 ≤ k.toInt ∧ k.toInt ≤ 6) (hn14 : 6 - k.toInt.toNat < n) (H : Heap) (locs : List Loc), va_P D vwCl [(s0, .inr (4, [.ref q7])), (q7, .inl (cI, 6, .inl (cpU tabF z0 k.toInt.toNat)))] H → va_D A [(s0, .inr (4, [.ref q7])), (q7, .inl (cI, 6, .inl (cpU tabF z0 k.toInt.toNat)))] → va_S A s.heap H locs → ∀ ls : Array Slot, lv_has ls 2 [(1, .int k), (0, .ref s0)] → W p l e ({ frames := 1, cells := 1, slots := 6, locals := 12 } : Room) s m args below meth c H locs 1 6 Q (F0 m 14 ls []) := by
    intro n
    induction n with
    | zero =>
      intro k hk hn14
      exact absurd hn14 (Nat.not_lt_zero _)
    | succ n ih14 =>
      intro k hk hn14 H locs hP hD hS ls hl
      refine lv_iload_n hx hb dX4_init_14 rfl (lv_at hl 0 rfl) ?_
      refine lv_bipush (v := 6) hx hb dX4_init_15 (by decide) ?_
      refine lv_icmp_ge (tgt := 37) hx hb dX4_init_17 (by decide) (fun c17 => ?_) (fun c17 => ?_)
      · have t17 : 6 ≤ k.toInt := xi_le (by decide) rfl c17
        have hP := xk_arr hP 1 tabF rfl (fun j hj => cpU_e (by omega))
        have hD := xk_arrD (e' := .inl (cI, 6, .inl tabF)) hD (k := 1) rfl
        have hP : va_P D vwCl [(s0, .inr (4, [.ref q7])), (q7, .inl (cI, 6, .inl tabF))] H := hP
        have hD : va_D A [(s0, .inr (4, [.ref q7])), (q7, .inl (cI, 6, .inl tabF))] := hD
        exact xk_retc q7 hx hb hr hlocks (xk_P hP (by rfl)) (xk_D hD (by rfl)) (by trivial) hS dX4_init_37 hQ (Nat.le_of_ble_eq_true rfl) (Nat.le_of_ble_eq_true rfl)
      · have t17 : k.toInt < 6 := xi_nle (by decide) rfl c17
        refine lv_aload_n hx hb dX4_init_20 rfl (lv_at hl 1 rfl) ?_
        refine va_get (D := D) (ci := 4) (v := .ref q7) (C := RX4) (T := TX4) (N := 1) hx hb hts xin4 hown hK hP 0 rfl rfl 0 (by decide) (hts _ (List.mem_cons_of_mem _ mw_1_32)) (fun _ h9 => h9) rfl dX4_init_21 ?_
        refine lv_iload_n hx hb dX4_init_24 rfl (lv_at hl 0 rfl) ?_
        refine va_getsN hx hb tFZ hS hown (xnf_0 hN) (fun _ h9 => h9) dX4_init_25 ?_
        refine lv_iload_n hx hb dX4_init_28 rfl (lv_at hl 0 rfl) ?_
        refine va_ti (v := .int (tabF k.toInt.toNat)) hx hb tFT hS (xi_in (by omega) (by omega)) rfl dX4_init_29 ?_
        refine lv_topi (fun x29 e29 => ?_)
        refine va_iast hx hb hK hP hD hS 1 0 rfl rfl (xi_in (by omega) (by omega)) dX4_init_30 (fun H locs hP hD hS => ?_)
        rw [show k.toNatClampNeg = k.toInt.toNat from xk_ix (by omega)] at hP hD
        have hP : va_P D vwCl [(s0, .inr (4, [.ref q7])), (q7, .inl (cI, 6, .inl (upd (cpU tabF z0 k.toInt.toNat) k.toInt.toNat x29)))] H := hP
        have hD : va_D A [(s0, .inr (4, [.ref q7])), (q7, .inl (cI, 6, .inl (upd (cpU tabF z0 k.toInt.toNat) k.toInt.toNat x29)))] := hD
        obtain ⟨x31, e31⟩ : ∃ y : Int32, y = k + 1 := ⟨_, rfl⟩
        have t31 : x31.toInt = k.toInt + 1 := by rw [e31]; exact xi_add rfl (by decide) (by omega) (by omega)
        refine lv_iinc (v := x31) (lv' := [(1, .int x31), (0, .ref s0)]) hx hb dX4_init_31 hl (k := 0) rfl (by rw [e31]; rfl) (by decide) rfl (fun ls hl => ?_)
        refine lv_goto (tgt := 14) hx hb dX4_init_34 (by decide) ?_
        have q14 : ([(s0, .inr (4, [.ref q7])), (q7, .inl (cI, 6, .inl (upd (cpU tabF z0 k.toInt.toNat) k.toInt.toNat x29)))] : va_W) = [(s0, .inr (4, [.ref q7])), (q7, .inl (cI, 6, .inl (cpU tabF z0 x31.toInt.toNat)))] := by rw [e29, show tabF k.toInt.toNat = tabF k.toInt.toNat from rfl, cpU_s, show x31.toInt.toNat = k.toInt.toNat + 1 from by omega]
        exact ih14  x31 (by first | omega | assumption) (by omega) _ _ (xk_P hP q14) (xk_D hD q14) hS ls (lv_sub hl [0, 1] rfl)
  have q14 : ([(s0, .inr (4, [.ref q7])), (q7, .inl (cI, 6, .inl z0))] : va_W) = [(s0, .inr (4, [.ref q7])), (q7, .inl (cI, 6, .inl (cpU tabF z0 0)))] := by rw [cpU_0]
  exact L14 7 (0 : Int32) (by decide) (by decide) _ _ (xk_P hP q14) (xk_D hD q14) hS ls (lv_sub hl [0, 1] rfl)

set_option maxHeartbeats 4000000 in
set_option maxRecDepth 100000 in
theorem c_X6_init (l : Launch) (D : va_G) (cI cZ cS : ClassId) (a0 : Nat)  : xMc l yX6_init cX6_init 1 none ({ frames := 2, cells := 11, slots := 316, locals := 33 } : Room) D (xTy cI cZ cS) [.ref a0] [(a0, .inr (6, [.null, .null, .null, .null]))] (fun (u : (Nat → Nat)) => True) (fun (u : (Nat → Nat)) => ([] ++ stW cI cZ (adr a0 u) cS0)) 11 316 := by
  refine xk_bodyc (by decide) (Nat.le_of_ble_eq_true rfl) ?_
  intro p e s m below meth c A ls args Q hx hb hr hts hown hlocks hml hin hK hP hD hS hA hN hZ hl hQ
  have hl : lv_has ls 1 [(0, .ref a0)] := hl
  refine lv_aload_n hx hb dX6_init_0 rfl (lv_at hl 0 rfl) ?_
  refine W.objInit hx hb hown (hts _ (List.mem_cons_of_mem _ mw_1_23)) (hts _ (List.mem_cons_of_mem _ mw_1_16)) (hts _ (List.mem_cons_of_mem _ mw_1_17)) rfl (by rw [hml]; exact hl.1) rfl dX6_init_1 (Nat.le_of_ble_eq_true rfl) (Nat.le_of_ble_eq_true rfl) ?_
  refine W.eq (g2 := F0 m 4 ls []) rfl ?_
  refine lv_aload_n hx hb dX6_init_4 rfl (lv_at hl 0 rfl) ?_
  refine va_new (ci := 4) (fs := [.null]) (C := RX4) (T := TX4) (N := 1) hx hb hts xin4 tyX4 tyX4_ok hown (hts _ (List.mem_cons_of_mem _ mw_1_24)) (hts _ (List.mem_cons_of_mem _ mw_1_25)) (hts _ (List.mem_cons_of_mem _ mw_1_3)) hK hP hD hS hA rfl (fun j hj => by rcases (show j = 0 by omega) with rfl <;> rfl) (Nat.le_of_ble_eq_true rfl) (Nat.le_of_ble_eq_true rfl) dX6_init_5 (fun q5_1 H hP hD hS => ?_)
  refine lv_dup hx hb dX6_init_8 rfl ?_
  refine xk_Ic (r := [(a0, .inr (6, [.null, .null, .null, .null]))]) (wc := [(q5_1, .inr (4, [.null]))]) (As := []) (rest := [.ref q5_1, .ref a0]) hx hb hml hown hts hK hN hZ hP hD hS hA mb_X4_init rfl mw_1_26 mw_1_27 (c_X4_init l D cI cZ cS q5_1) (by decide) ⟨rfl, rfl⟩ rfl hl.1 rfl (Nat.le_of_ble_eq_true rfl) dX6_init_9 ⟨Nat.le_of_ble_eq_true rfl, Nat.le_of_ble_eq_true rfl⟩ (fun u9_1 H locs hw hP hD hS => ?_)
  have hP : va_P D vwCl [(a0, .inr (6, [.null, .null, .null, .null])), (q5_1, .inr (4, [.ref u9_1])), (u9_1, .inl (cI, 6, .inl tabF))] H := hP
  have hD : va_D A [(a0, .inr (6, [.null, .null, .null, .null])), (q5_1, .inr (4, [.ref u9_1])), (u9_1, .inl (cI, 6, .inl tabF))] := hD
  refine va_putF (D := D) (ci := 6) (v := .ref q5_1) (ty := .object "MarchMetres$Settings") (C := RX6) (T := TX6) (N := 4) hx hb hts xin6 tyX6 tyX6_ok nmX6 hown hK hP hD hS 0 rfl rfl 0 (by decide) (hts _ (List.mem_cons_of_mem _ mw_1_146)) (fun _ h9 => h9) rfl hin rfl (by decide +kernel) rfl rfl (Nat.le_of_ble_eq_true rfl) dX6_init_12 (fun H locs hP hD hS => ?_)
  have hP : va_P D vwCl [(a0, .inr (6, [.ref q5_1, .null, .null, .null])), (q5_1, .inr (4, [.ref u9_1])), (u9_1, .inl (cI, 6, .inl tabF))] H := hP
  have hD : va_D A [(a0, .inr (6, [.ref q5_1, .null, .null, .null])), (q5_1, .inr (4, [.ref u9_1])), (u9_1, .inl (cI, 6, .inl tabF))] := hD
  refine lv_aload_n hx hb dX6_init_15 rfl (lv_at hl 0 rfl) ?_
  refine va_new (ci := 5) (fs := [.int 0, .null, .null, .null]) (C := RX5) (T := TX5) (N := 4) hx hb hts xin5 tyX5 tyX5_ok hown (hts _ (List.mem_cons_of_mem _ mw_1_37)) (hts _ (List.mem_cons_of_mem _ mw_1_38)) (hts _ (List.mem_cons_of_mem _ mw_1_4)) hK hP hD hS hA rfl (fun j hj => by rcases (show j = 0 ∨ j = 1 ∨ j = 2 ∨ j = 3 by omega) with rfl | rfl | rfl | rfl <;> rfl) (Nat.le_of_ble_eq_true rfl) (Nat.le_of_ble_eq_true rfl) dX6_init_16 (fun q16_2 H hP hD hS => ?_)
  refine lv_dup hx hb dX6_init_19 rfl ?_
  refine xk_IcN (r := [(a0, .inr (6, [.ref q5_1, .null, .null, .null])), (q5_1, .inr (4, [.ref u9_1])), (u9_1, .inl (cI, 6, .inl tabF))]) (wc := [(q16_2, .inr (5, [.int 0, .null, .null, .null]))]) (As := []) (rest := [.ref q16_2, .ref a0]) hx hb hml hown hts hK hN hZ hP hD hS hA mb_X5_init rfl (xnm_1 hN) mw_1_40 (c_X5_init l D cI cZ cS q16_2) (by decide) ⟨rfl, rfl⟩ rfl hl.1 rfl (Nat.le_of_ble_eq_true rfl) dX6_init_20 ⟨Nat.le_of_ble_eq_true rfl, Nat.le_of_ble_eq_true rfl⟩ (fun u20_2 H locs hw hP hD hS => ?_)
  obtain ⟨u20_2_1, u20_2_2, u20_2_3⟩ := u20_2
  have hP : va_P D vwCl [(a0, .inr (6, [.ref q5_1, .null, .null, .null])), (q5_1, .inr (4, [.ref u9_1])), (u9_1, .inl (cI, 6, .inl tabF)), (q16_2, .inr (5, [.int 0, .ref u20_2_1, .ref u20_2_2, .ref u20_2_3])), (u20_2_1, .inl (cI, 10, .inl z0)), (u20_2_2, .inl (cI, 120, .inl z0)), (u20_2_3, .inl (cZ, 120, .inl z0))] H := hP
  have hD : va_D A [(a0, .inr (6, [.ref q5_1, .null, .null, .null])), (q5_1, .inr (4, [.ref u9_1])), (u9_1, .inl (cI, 6, .inl tabF)), (q16_2, .inr (5, [.int 0, .ref u20_2_1, .ref u20_2_2, .ref u20_2_3])), (u20_2_1, .inl (cI, 10, .inl z0)), (u20_2_2, .inl (cI, 120, .inl z0)), (u20_2_3, .inl (cZ, 120, .inl z0))] := hD
  refine va_putF (D := D) (ci := 6) (v := .ref q16_2) (ty := .object "MarchMetres$Song") (C := RX6) (T := TX6) (N := 4) hx hb hts xin6 tyX6 tyX6_ok nmX6 hown hK hP hD hS 0 rfl rfl 1 (by decide) (hts _ (List.mem_cons_of_mem _ mw_1_148)) (fun _ h9 => h9) rfl hin rfl (by decide +kernel) rfl rfl (Nat.le_of_ble_eq_true rfl) dX6_init_23 (fun H locs hP hD hS => ?_)
  have hP : va_P D vwCl [(a0, .inr (6, [.ref q5_1, .ref q16_2, .null, .null])), (q5_1, .inr (4, [.ref u9_1])), (u9_1, .inl (cI, 6, .inl tabF)), (q16_2, .inr (5, [.int 0, .ref u20_2_1, .ref u20_2_2, .ref u20_2_3])), (u20_2_1, .inl (cI, 10, .inl z0)), (u20_2_2, .inl (cI, 120, .inl z0)), (u20_2_3, .inl (cZ, 120, .inl z0))] H := hP
  have hD : va_D A [(a0, .inr (6, [.ref q5_1, .ref q16_2, .null, .null])), (q5_1, .inr (4, [.ref u9_1])), (u9_1, .inl (cI, 6, .inl tabF)), (q16_2, .inr (5, [.int 0, .ref u20_2_1, .ref u20_2_2, .ref u20_2_3])), (u20_2_1, .inl (cI, 10, .inl z0)), (u20_2_2, .inl (cI, 120, .inl z0)), (u20_2_3, .inl (cZ, 120, .inl z0))] := hD
  refine lv_aload_n hx hb dX6_init_26 rfl (lv_at hl 0 rfl) ?_
  refine va_new (ci := 3) (fs := [.int 0, .null, .null, .null]) (C := RX3) (T := TX3) (N := 4) hx hb hts xin3 tyX3 tyX3_ok hown (hts _ (List.mem_cons_of_mem _ mw_1_59)) (hts _ (List.mem_cons_of_mem _ mw_1_60)) (hts _ (List.mem_cons_of_mem _ mw_1_5)) hK hP hD hS hA rfl (fun j hj => by rcases (show j = 0 ∨ j = 1 ∨ j = 2 ∨ j = 3 by omega) with rfl | rfl | rfl | rfl <;> rfl) (Nat.le_of_ble_eq_true rfl) (Nat.le_of_ble_eq_true rfl) dX6_init_27 (fun q27_3 H hP hD hS => ?_)
  refine lv_dup hx hb dX6_init_30 rfl ?_
  refine xk_IcN (r := [(a0, .inr (6, [.ref q5_1, .ref q16_2, .null, .null])), (q5_1, .inr (4, [.ref u9_1])), (u9_1, .inl (cI, 6, .inl tabF)), (q16_2, .inr (5, [.int 0, .ref u20_2_1, .ref u20_2_2, .ref u20_2_3])), (u20_2_1, .inl (cI, 10, .inl z0)), (u20_2_2, .inl (cI, 120, .inl z0)), (u20_2_3, .inl (cZ, 120, .inl z0))]) (wc := [(q27_3, .inr (3, [.int 0, .null, .null, .null]))]) (As := []) (rest := [.ref q27_3, .ref a0]) hx hb hml hown hts hK hN hZ hP hD hS hA mb_X3_init rfl (xnm_2 hN) mw_1_62 (c_X3_init l D cI cZ cS q27_3) (by decide) ⟨rfl, rfl⟩ rfl hl.1 rfl (Nat.le_of_ble_eq_true rfl) dX6_init_31 ⟨Nat.le_of_ble_eq_true rfl, Nat.le_of_ble_eq_true rfl⟩ (fun u31_3 H locs hw hP hD hS => ?_)
  obtain ⟨u31_3_1, u31_3_2, u31_3_3⟩ := u31_3
  have hP : va_P D vwCl [(a0, .inr (6, [.ref q5_1, .ref q16_2, .null, .null])), (q5_1, .inr (4, [.ref u9_1])), (u9_1, .inl (cI, 6, .inl tabF)), (q16_2, .inr (5, [.int 0, .ref u20_2_1, .ref u20_2_2, .ref u20_2_3])), (u20_2_1, .inl (cI, 10, .inl z0)), (u20_2_2, .inl (cI, 120, .inl z0)), (u20_2_3, .inl (cZ, 120, .inl z0)), (q27_3, .inr (3, [.int 0, .ref u31_3_1, .ref u31_3_2, .ref u31_3_3])), (u31_3_1, .inl (cI, 12, .inl z0)), (u31_3_2, .inl (cI, 12, .inl z0)), (u31_3_3, .inl (cZ, 12, .inl z0))] H := hP
  have hD : va_D A [(a0, .inr (6, [.ref q5_1, .ref q16_2, .null, .null])), (q5_1, .inr (4, [.ref u9_1])), (u9_1, .inl (cI, 6, .inl tabF)), (q16_2, .inr (5, [.int 0, .ref u20_2_1, .ref u20_2_2, .ref u20_2_3])), (u20_2_1, .inl (cI, 10, .inl z0)), (u20_2_2, .inl (cI, 120, .inl z0)), (u20_2_3, .inl (cZ, 120, .inl z0)), (q27_3, .inr (3, [.int 0, .ref u31_3_1, .ref u31_3_2, .ref u31_3_3])), (u31_3_1, .inl (cI, 12, .inl z0)), (u31_3_2, .inl (cI, 12, .inl z0)), (u31_3_3, .inl (cZ, 12, .inl z0))] := hD
  refine va_putF (D := D) (ci := 6) (v := .ref q27_3) (ty := .object "MarchMetres$Road") (C := RX6) (T := TX6) (N := 4) hx hb hts xin6 tyX6 tyX6_ok nmX6 hown hK hP hD hS 0 rfl rfl 2 (by decide) (hts _ (List.mem_cons_of_mem _ mw_1_150)) (fun _ h9 => h9) rfl hin rfl (by decide +kernel) rfl rfl (Nat.le_of_ble_eq_true rfl) dX6_init_34 (fun H locs hP hD hS => ?_)
  have hP : va_P D vwCl [(a0, .inr (6, [.ref q5_1, .ref q16_2, .ref q27_3, .null])), (q5_1, .inr (4, [.ref u9_1])), (u9_1, .inl (cI, 6, .inl tabF)), (q16_2, .inr (5, [.int 0, .ref u20_2_1, .ref u20_2_2, .ref u20_2_3])), (u20_2_1, .inl (cI, 10, .inl z0)), (u20_2_2, .inl (cI, 120, .inl z0)), (u20_2_3, .inl (cZ, 120, .inl z0)), (q27_3, .inr (3, [.int 0, .ref u31_3_1, .ref u31_3_2, .ref u31_3_3])), (u31_3_1, .inl (cI, 12, .inl z0)), (u31_3_2, .inl (cI, 12, .inl z0)), (u31_3_3, .inl (cZ, 12, .inl z0))] H := hP
  have hD : va_D A [(a0, .inr (6, [.ref q5_1, .ref q16_2, .ref q27_3, .null])), (q5_1, .inr (4, [.ref u9_1])), (u9_1, .inl (cI, 6, .inl tabF)), (q16_2, .inr (5, [.int 0, .ref u20_2_1, .ref u20_2_2, .ref u20_2_3])), (u20_2_1, .inl (cI, 10, .inl z0)), (u20_2_2, .inl (cI, 120, .inl z0)), (u20_2_3, .inl (cZ, 120, .inl z0)), (q27_3, .inr (3, [.int 0, .ref u31_3_1, .ref u31_3_2, .ref u31_3_3])), (u31_3_1, .inl (cI, 12, .inl z0)), (u31_3_2, .inl (cI, 12, .inl z0)), (u31_3_3, .inl (cZ, 12, .inl z0))] := hD
  refine lv_aload_n hx hb dX6_init_37 rfl (lv_at hl 0 rfl) ?_
  refine va_new (ci := 1) (fs := [.int 0, .int 0, .int 0, .int 0, .int 0, .int 0, .int 0, .int 0, .int 0, .int 0, .int 0, .int 0, .int 0, .int 0, .int 0]) (C := RX1) (T := TX1) (N := 15) hx hb hts xin1 tyX1 tyX1_ok hown (hts _ (List.mem_cons_of_mem _ mw_1_80)) (hts _ (List.mem_cons_of_mem _ mw_1_81)) (hts _ (List.mem_cons_of_mem _ mw_1_6)) hK hP hD hS hA rfl (fun j hj => by rcases (show j = 0 ∨ j = 1 ∨ j = 2 ∨ j = 3 ∨ j = 4 ∨ j = 5 ∨ j = 6 ∨ j = 7 ∨ j = 8 ∨ j = 9 ∨ j = 10 ∨ j = 11 ∨ j = 12 ∨ j = 13 ∨ j = 14 by omega) with rfl | rfl | rfl | rfl | rfl | rfl | rfl | rfl | rfl | rfl | rfl | rfl | rfl | rfl | rfl <;> rfl) (Nat.le_of_ble_eq_true rfl) (Nat.le_of_ble_eq_true rfl) dX6_init_38 (fun q38_4 H hP hD hS => ?_)
  refine lv_dup hx hb dX6_init_41 rfl ?_
  refine xk_IcN (r := [(a0, .inr (6, [.ref q5_1, .ref q16_2, .ref q27_3, .null])), (q5_1, .inr (4, [.ref u9_1])), (u9_1, .inl (cI, 6, .inl tabF)), (q16_2, .inr (5, [.int 0, .ref u20_2_1, .ref u20_2_2, .ref u20_2_3])), (u20_2_1, .inl (cI, 10, .inl z0)), (u20_2_2, .inl (cI, 120, .inl z0)), (u20_2_3, .inl (cZ, 120, .inl z0)), (q27_3, .inr (3, [.int 0, .ref u31_3_1, .ref u31_3_2, .ref u31_3_3])), (u31_3_1, .inl (cI, 12, .inl z0)), (u31_3_2, .inl (cI, 12, .inl z0)), (u31_3_3, .inl (cZ, 12, .inl z0))]) (wc := [(q38_4, .inr (1, [.int 0, .int 0, .int 0, .int 0, .int 0, .int 0, .int 0, .int 0, .int 0, .int 0, .int 0, .int 0, .int 0, .int 0, .int 0]))]) (As := []) (rest := [.ref q38_4, .ref a0]) hx hb hml hown hts hK hN hZ hP hD hS hA mb_X1_init rfl (xnm_3 hN) mw_1_83 (c_X1_init l D cI cZ cS q38_4) (by decide) ⟨rfl, rfl⟩ rfl hl.1 rfl (Nat.le_of_ble_eq_true rfl) dX6_init_42 ⟨Nat.le_of_ble_eq_true rfl, Nat.le_of_ble_eq_true rfl⟩ (fun u42_4 H locs hw hP hD hS => ?_)
  have hP : va_P D vwCl [(a0, .inr (6, [.ref q5_1, .ref q16_2, .ref q27_3, .null])), (q5_1, .inr (4, [.ref u9_1])), (u9_1, .inl (cI, 6, .inl tabF)), (q16_2, .inr (5, [.int 0, .ref u20_2_1, .ref u20_2_2, .ref u20_2_3])), (u20_2_1, .inl (cI, 10, .inl z0)), (u20_2_2, .inl (cI, 120, .inl z0)), (u20_2_3, .inl (cZ, 120, .inl z0)), (q27_3, .inr (3, [.int 0, .ref u31_3_1, .ref u31_3_2, .ref u31_3_3])), (u31_3_1, .inl (cI, 12, .inl z0)), (u31_3_2, .inl (cI, 12, .inl z0)), (u31_3_3, .inl (cZ, 12, .inl z0)), (q38_4, .inr (1, [.int 0, .int 0, .int 0, .int 0, .int 0, .int 0, .int 0, .int 0, .int 0, .int 0, .int 0, .int 0, .int 0, .int 0, .int 0]))] H := hP
  have hD : va_D A [(a0, .inr (6, [.ref q5_1, .ref q16_2, .ref q27_3, .null])), (q5_1, .inr (4, [.ref u9_1])), (u9_1, .inl (cI, 6, .inl tabF)), (q16_2, .inr (5, [.int 0, .ref u20_2_1, .ref u20_2_2, .ref u20_2_3])), (u20_2_1, .inl (cI, 10, .inl z0)), (u20_2_2, .inl (cI, 120, .inl z0)), (u20_2_3, .inl (cZ, 120, .inl z0)), (q27_3, .inr (3, [.int 0, .ref u31_3_1, .ref u31_3_2, .ref u31_3_3])), (u31_3_1, .inl (cI, 12, .inl z0)), (u31_3_2, .inl (cI, 12, .inl z0)), (u31_3_3, .inl (cZ, 12, .inl z0)), (q38_4, .inr (1, [.int 0, .int 0, .int 0, .int 0, .int 0, .int 0, .int 0, .int 0, .int 0, .int 0, .int 0, .int 0, .int 0, .int 0, .int 0]))] := hD
  refine va_putF (D := D) (ci := 6) (v := .ref q38_4) (ty := .object "MarchMetres$March") (C := RX6) (T := TX6) (N := 4) hx hb hts xin6 tyX6 tyX6_ok nmX6 hown hK hP hD hS 0 rfl rfl 3 (by decide) (hts _ (List.mem_cons_of_mem _ mw_1_152)) (fun _ h9 => h9) rfl hin rfl (by decide +kernel) rfl rfl (Nat.le_of_ble_eq_true rfl) dX6_init_45 (fun H locs hP hD hS => ?_)
  have hP : va_P D vwCl [(a0, .inr (6, [.ref q5_1, .ref q16_2, .ref q27_3, .ref q38_4])), (q5_1, .inr (4, [.ref u9_1])), (u9_1, .inl (cI, 6, .inl tabF)), (q16_2, .inr (5, [.int 0, .ref u20_2_1, .ref u20_2_2, .ref u20_2_3])), (u20_2_1, .inl (cI, 10, .inl z0)), (u20_2_2, .inl (cI, 120, .inl z0)), (u20_2_3, .inl (cZ, 120, .inl z0)), (q27_3, .inr (3, [.int 0, .ref u31_3_1, .ref u31_3_2, .ref u31_3_3])), (u31_3_1, .inl (cI, 12, .inl z0)), (u31_3_2, .inl (cI, 12, .inl z0)), (u31_3_3, .inl (cZ, 12, .inl z0)), (q38_4, .inr (1, [.int 0, .int 0, .int 0, .int 0, .int 0, .int 0, .int 0, .int 0, .int 0, .int 0, .int 0, .int 0, .int 0, .int 0, .int 0]))] H := hP
  have hD : va_D A [(a0, .inr (6, [.ref q5_1, .ref q16_2, .ref q27_3, .ref q38_4])), (q5_1, .inr (4, [.ref u9_1])), (u9_1, .inl (cI, 6, .inl tabF)), (q16_2, .inr (5, [.int 0, .ref u20_2_1, .ref u20_2_2, .ref u20_2_3])), (u20_2_1, .inl (cI, 10, .inl z0)), (u20_2_2, .inl (cI, 120, .inl z0)), (u20_2_3, .inl (cZ, 120, .inl z0)), (q27_3, .inr (3, [.int 0, .ref u31_3_1, .ref u31_3_2, .ref u31_3_3])), (u31_3_1, .inl (cI, 12, .inl z0)), (u31_3_2, .inl (cI, 12, .inl z0)), (u31_3_3, .inl (cZ, 12, .inl z0)), (q38_4, .inr (1, [.int 0, .int 0, .int 0, .int 0, .int 0, .int 0, .int 0, .int 0, .int 0, .int 0, .int 0, .int 0, .int 0, .int 0, .int 0]))] := hD
  exact xk_retc (mk11 q5_1 u9_1 q16_2 u20_2_1 u20_2_2 u20_2_3 q27_3 u31_3_1 u31_3_2 u31_3_3 q38_4) hx hb hr hlocks (xk_P hP (by rfl)) (xk_D hD (by rfl)) (by trivial) hS dX6_init_48 hQ (Nat.le_of_ble_eq_true rfl) (Nat.le_of_ble_eq_true rfl)
