set_option maxHeartbeats 4000000 in
set_option maxRecDepth 100000 in
theorem c_X1_startAnew (l : Launch) (D : va_G) (cI cZ cS : ClassId) (m0 : Nat) (v0 v1 v2 v3 v4 v5 v6 v7 v8 v9 v10 v11 v12 v13 v14 : Int32) (p1 : Int32)  : xMv l yX1_startAnew cX1_startAnew 2 none ({ frames := 0, cells := 0, slots := 0, locals := 0 } : Room) D (xTy cI cZ cS) [.ref m0, .int p1] [(m0, .inr (1, [.int v0, .int v1, .int v2, .int v3, .int v4, .int v5, .int v6, .int v7, .int v8, .int v9, .int v10, .int v11, .int v12, .int v13, .int v14]))] (fun (_ : Unit) => True) (fun (_ : Unit) => [(m0, .inr (1, [.int 0, .int 0, .int 0, .int 0, .int 0, .int 0, .int 0, .int 0, .int p1, .int 0, .int 0, .int 0, .int 0, .int 0, .int 0]))]) := by
  refine xk_bodyv (by decide) (Nat.le_of_ble_eq_true rfl) ?_
  intro p e s m below meth c A ls args Q hx hb hr hts hown hlocks hml hin hK hP hD hS hA hN hZ hl hQ
  have hl : lv_has ls 2 [(0, .ref m0), (1, .int p1)] := hl
  refine lv_aload_n hx hb dX1_startAnew_0 rfl (lv_at hl 0 rfl) ?_
  refine lv_iconst (v := 0) hx hb dX1_startAnew_1 (by decide) ?_
  refine va_put (D := D) (ci := 1) (v := .int 0) (ty := .int) (C := RX1) (T := TX1) (N := 15) hx hb hts xin1 tyX1 tyX1_ok nmX1 hown hK hP hD hS 0 rfl rfl 0 (by decide) (hts _ (List.mem_cons_of_mem _ mw_1_86)) (fun _ h9 => h9) rfl (by decide +kernel) rfl rfl (Nat.le_of_ble_eq_true rfl) dX1_startAnew_2 (fun H locs hP hD hS => ?_)
  have hP : va_P D vwCl [(m0, .inr (1, [.int 0, .int v1, .int v2, .int v3, .int v4, .int v5, .int v6, .int v7, .int v8, .int v9, .int v10, .int v11, .int v12, .int v13, .int v14]))] H := hP
  have hD : va_D A [(m0, .inr (1, [.int 0, .int v1, .int v2, .int v3, .int v4, .int v5, .int v6, .int v7, .int v8, .int v9, .int v10, .int v11, .int v12, .int v13, .int v14]))] := hD
  refine lv_aload_n hx hb dX1_startAnew_5 rfl (lv_at hl 0 rfl) ?_
  refine lv_iconst (v := 0) hx hb dX1_startAnew_6 (by decide) ?_
  refine va_put (D := D) (ci := 1) (v := .int 0) (ty := .int) (C := RX1) (T := TX1) (N := 15) hx hb hts xin1 tyX1 tyX1_ok nmX1 hown hK hP hD hS 0 rfl rfl 1 (by decide) (hts _ (List.mem_cons_of_mem _ mw_1_88)) (fun _ h9 => h9) rfl (by decide +kernel) rfl rfl (Nat.le_of_ble_eq_true rfl) dX1_startAnew_7 (fun H locs hP hD hS => ?_)
  have hP : va_P D vwCl [(m0, .inr (1, [.int 0, .int 0, .int v2, .int v3, .int v4, .int v5, .int v6, .int v7, .int v8, .int v9, .int v10, .int v11, .int v12, .int v13, .int v14]))] H := hP
  have hD : va_D A [(m0, .inr (1, [.int 0, .int 0, .int v2, .int v3, .int v4, .int v5, .int v6, .int v7, .int v8, .int v9, .int v10, .int v11, .int v12, .int v13, .int v14]))] := hD
  refine lv_aload_n hx hb dX1_startAnew_10 rfl (lv_at hl 0 rfl) ?_
  refine lv_iconst (v := 0) hx hb dX1_startAnew_11 (by decide) ?_
  refine va_put (D := D) (ci := 1) (v := .int 0) (ty := .int) (C := RX1) (T := TX1) (N := 15) hx hb hts xin1 tyX1 tyX1_ok nmX1 hown hK hP hD hS 0 rfl rfl 2 (by decide) (hts _ (List.mem_cons_of_mem _ mw_1_90)) (fun _ h9 => h9) rfl (by decide +kernel) rfl rfl (Nat.le_of_ble_eq_true rfl) dX1_startAnew_12 (fun H locs hP hD hS => ?_)
  have hP : va_P D vwCl [(m0, .inr (1, [.int 0, .int 0, .int 0, .int v3, .int v4, .int v5, .int v6, .int v7, .int v8, .int v9, .int v10, .int v11, .int v12, .int v13, .int v14]))] H := hP
  have hD : va_D A [(m0, .inr (1, [.int 0, .int 0, .int 0, .int v3, .int v4, .int v5, .int v6, .int v7, .int v8, .int v9, .int v10, .int v11, .int v12, .int v13, .int v14]))] := hD
  refine lv_aload_n hx hb dX1_startAnew_15 rfl (lv_at hl 0 rfl) ?_
  refine lv_iconst (v := 0) hx hb dX1_startAnew_16 (by decide) ?_
  refine va_put (D := D) (ci := 1) (v := .int 0) (ty := .int) (C := RX1) (T := TX1) (N := 15) hx hb hts xin1 tyX1 tyX1_ok nmX1 hown hK hP hD hS 0 rfl rfl 3 (by decide) (hts _ (List.mem_cons_of_mem _ mw_1_92)) (fun _ h9 => h9) rfl (by decide +kernel) rfl rfl (Nat.le_of_ble_eq_true rfl) dX1_startAnew_17 (fun H locs hP hD hS => ?_)
  have hP : va_P D vwCl [(m0, .inr (1, [.int 0, .int 0, .int 0, .int 0, .int v4, .int v5, .int v6, .int v7, .int v8, .int v9, .int v10, .int v11, .int v12, .int v13, .int v14]))] H := hP
  have hD : va_D A [(m0, .inr (1, [.int 0, .int 0, .int 0, .int 0, .int v4, .int v5, .int v6, .int v7, .int v8, .int v9, .int v10, .int v11, .int v12, .int v13, .int v14]))] := hD
  refine lv_aload_n hx hb dX1_startAnew_20 rfl (lv_at hl 0 rfl) ?_
  refine lv_iconst (v := 0) hx hb dX1_startAnew_21 (by decide) ?_
  refine va_put (D := D) (ci := 1) (v := .int 0) (ty := .int) (C := RX1) (T := TX1) (N := 15) hx hb hts xin1 tyX1 tyX1_ok nmX1 hown hK hP hD hS 0 rfl rfl 4 (by decide) (hts _ (List.mem_cons_of_mem _ mw_1_94)) (fun _ h9 => h9) rfl (by decide +kernel) rfl rfl (Nat.le_of_ble_eq_true rfl) dX1_startAnew_22 (fun H locs hP hD hS => ?_)
  have hP : va_P D vwCl [(m0, .inr (1, [.int 0, .int 0, .int 0, .int 0, .int 0, .int v5, .int v6, .int v7, .int v8, .int v9, .int v10, .int v11, .int v12, .int v13, .int v14]))] H := hP
  have hD : va_D A [(m0, .inr (1, [.int 0, .int 0, .int 0, .int 0, .int 0, .int v5, .int v6, .int v7, .int v8, .int v9, .int v10, .int v11, .int v12, .int v13, .int v14]))] := hD
  refine lv_aload_n hx hb dX1_startAnew_25 rfl (lv_at hl 0 rfl) ?_
  refine lv_iconst (v := 0) hx hb dX1_startAnew_26 (by decide) ?_
  refine va_put (D := D) (ci := 1) (v := .int 0) (ty := .int) (C := RX1) (T := TX1) (N := 15) hx hb hts xin1 tyX1 tyX1_ok nmX1 hown hK hP hD hS 0 rfl rfl 5 (by decide) (hts _ (List.mem_cons_of_mem _ mw_1_96)) (fun _ h9 => h9) rfl (by decide +kernel) rfl rfl (Nat.le_of_ble_eq_true rfl) dX1_startAnew_27 (fun H locs hP hD hS => ?_)
  have hP : va_P D vwCl [(m0, .inr (1, [.int 0, .int 0, .int 0, .int 0, .int 0, .int 0, .int v6, .int v7, .int v8, .int v9, .int v10, .int v11, .int v12, .int v13, .int v14]))] H := hP
  have hD : va_D A [(m0, .inr (1, [.int 0, .int 0, .int 0, .int 0, .int 0, .int 0, .int v6, .int v7, .int v8, .int v9, .int v10, .int v11, .int v12, .int v13, .int v14]))] := hD
  refine lv_aload_n hx hb dX1_startAnew_30 rfl (lv_at hl 0 rfl) ?_
  refine lv_iconst (v := 0) hx hb dX1_startAnew_31 (by decide) ?_
  refine va_put (D := D) (ci := 1) (v := .int 0) (ty := .int) (C := RX1) (T := TX1) (N := 15) hx hb hts xin1 tyX1 tyX1_ok nmX1 hown hK hP hD hS 0 rfl rfl 6 (by decide) (hts _ (List.mem_cons_of_mem _ mw_1_98)) (fun _ h9 => h9) rfl (by decide +kernel) rfl rfl (Nat.le_of_ble_eq_true rfl) dX1_startAnew_32 (fun H locs hP hD hS => ?_)
  have hP : va_P D vwCl [(m0, .inr (1, [.int 0, .int 0, .int 0, .int 0, .int 0, .int 0, .int 0, .int v7, .int v8, .int v9, .int v10, .int v11, .int v12, .int v13, .int v14]))] H := hP
  have hD : va_D A [(m0, .inr (1, [.int 0, .int 0, .int 0, .int 0, .int 0, .int 0, .int 0, .int v7, .int v8, .int v9, .int v10, .int v11, .int v12, .int v13, .int v14]))] := hD
  refine lv_aload_n hx hb dX1_startAnew_35 rfl (lv_at hl 0 rfl) ?_
  refine lv_iconst (v := 0) hx hb dX1_startAnew_36 (by decide) ?_
  refine va_put (D := D) (ci := 1) (v := .int 0) (ty := .int) (C := RX1) (T := TX1) (N := 15) hx hb hts xin1 tyX1 tyX1_ok nmX1 hown hK hP hD hS 0 rfl rfl 7 (by decide) (hts _ (List.mem_cons_of_mem _ mw_1_100)) (fun _ h9 => h9) rfl (by decide +kernel) rfl rfl (Nat.le_of_ble_eq_true rfl) dX1_startAnew_37 (fun H locs hP hD hS => ?_)
  have hP : va_P D vwCl [(m0, .inr (1, [.int 0, .int 0, .int 0, .int 0, .int 0, .int 0, .int 0, .int 0, .int v8, .int v9, .int v10, .int v11, .int v12, .int v13, .int v14]))] H := hP
  have hD : va_D A [(m0, .inr (1, [.int 0, .int 0, .int 0, .int 0, .int 0, .int 0, .int 0, .int 0, .int v8, .int v9, .int v10, .int v11, .int v12, .int v13, .int v14]))] := hD
  refine lv_aload_n hx hb dX1_startAnew_40 rfl (lv_at hl 0 rfl) ?_
  refine lv_iload_n hx hb dX1_startAnew_41 rfl (lv_at hl 1 rfl) ?_
  refine va_put (D := D) (ci := 1) (v := .int p1) (ty := .int) (C := RX1) (T := TX1) (N := 15) hx hb hts xin1 tyX1 tyX1_ok nmX1 hown hK hP hD hS 0 rfl rfl 8 (by decide) (hts _ (List.mem_cons_of_mem _ mw_1_101)) (fun _ h9 => h9) rfl (by decide +kernel) rfl rfl (Nat.le_of_ble_eq_true rfl) dX1_startAnew_42 (fun H locs hP hD hS => ?_)
  have hP : va_P D vwCl [(m0, .inr (1, [.int 0, .int 0, .int 0, .int 0, .int 0, .int 0, .int 0, .int 0, .int p1, .int v9, .int v10, .int v11, .int v12, .int v13, .int v14]))] H := hP
  have hD : va_D A [(m0, .inr (1, [.int 0, .int 0, .int 0, .int 0, .int 0, .int 0, .int 0, .int 0, .int p1, .int v9, .int v10, .int v11, .int v12, .int v13, .int v14]))] := hD
  refine lv_aload_n hx hb dX1_startAnew_45 rfl (lv_at hl 0 rfl) ?_
  refine lv_iconst (v := 0) hx hb dX1_startAnew_46 (by decide) ?_
  refine va_put (D := D) (ci := 1) (v := .int 0) (ty := .int) (C := RX1) (T := TX1) (N := 15) hx hb hts xin1 tyX1 tyX1_ok nmX1 hown hK hP hD hS 0 rfl rfl 9 (by decide) (hts _ (List.mem_cons_of_mem _ mw_1_103)) (fun _ h9 => h9) rfl (by decide +kernel) rfl rfl (Nat.le_of_ble_eq_true rfl) dX1_startAnew_47 (fun H locs hP hD hS => ?_)
  have hP : va_P D vwCl [(m0, .inr (1, [.int 0, .int 0, .int 0, .int 0, .int 0, .int 0, .int 0, .int 0, .int p1, .int 0, .int v10, .int v11, .int v12, .int v13, .int v14]))] H := hP
  have hD : va_D A [(m0, .inr (1, [.int 0, .int 0, .int 0, .int 0, .int 0, .int 0, .int 0, .int 0, .int p1, .int 0, .int v10, .int v11, .int v12, .int v13, .int v14]))] := hD
  refine lv_aload_n hx hb dX1_startAnew_50 rfl (lv_at hl 0 rfl) ?_
  refine lv_iconst (v := 0) hx hb dX1_startAnew_51 (by decide) ?_
  refine va_put (D := D) (ci := 1) (v := .int 0) (ty := .int) (C := RX1) (T := TX1) (N := 15) hx hb hts xin1 tyX1 tyX1_ok nmX1 hown hK hP hD hS 0 rfl rfl 10 (by decide) (hts _ (List.mem_cons_of_mem _ mw_1_105)) (fun _ h9 => h9) rfl (by decide +kernel) rfl rfl (Nat.le_of_ble_eq_true rfl) dX1_startAnew_52 (fun H locs hP hD hS => ?_)
  have hP : va_P D vwCl [(m0, .inr (1, [.int 0, .int 0, .int 0, .int 0, .int 0, .int 0, .int 0, .int 0, .int p1, .int 0, .int 0, .int v11, .int v12, .int v13, .int v14]))] H := hP
  have hD : va_D A [(m0, .inr (1, [.int 0, .int 0, .int 0, .int 0, .int 0, .int 0, .int 0, .int 0, .int p1, .int 0, .int 0, .int v11, .int v12, .int v13, .int v14]))] := hD
  refine lv_aload_n hx hb dX1_startAnew_55 rfl (lv_at hl 0 rfl) ?_
  refine lv_iconst (v := 0) hx hb dX1_startAnew_56 (by decide) ?_
  refine va_put (D := D) (ci := 1) (v := .int 0) (ty := .int) (C := RX1) (T := TX1) (N := 15) hx hb hts xin1 tyX1 tyX1_ok nmX1 hown hK hP hD hS 0 rfl rfl 11 (by decide) (hts _ (List.mem_cons_of_mem _ mw_1_107)) (fun _ h9 => h9) rfl (by decide +kernel) rfl rfl (Nat.le_of_ble_eq_true rfl) dX1_startAnew_57 (fun H locs hP hD hS => ?_)
  have hP : va_P D vwCl [(m0, .inr (1, [.int 0, .int 0, .int 0, .int 0, .int 0, .int 0, .int 0, .int 0, .int p1, .int 0, .int 0, .int 0, .int v12, .int v13, .int v14]))] H := hP
  have hD : va_D A [(m0, .inr (1, [.int 0, .int 0, .int 0, .int 0, .int 0, .int 0, .int 0, .int 0, .int p1, .int 0, .int 0, .int 0, .int v12, .int v13, .int v14]))] := hD
  refine lv_aload_n hx hb dX1_startAnew_60 rfl (lv_at hl 0 rfl) ?_
  refine lv_iconst (v := 0) hx hb dX1_startAnew_61 (by decide) ?_
  refine va_put (D := D) (ci := 1) (v := .int 0) (ty := .int) (C := RX1) (T := TX1) (N := 15) hx hb hts xin1 tyX1 tyX1_ok nmX1 hown hK hP hD hS 0 rfl rfl 12 (by decide) (hts _ (List.mem_cons_of_mem _ mw_1_109)) (fun _ h9 => h9) rfl (by decide +kernel) rfl rfl (Nat.le_of_ble_eq_true rfl) dX1_startAnew_62 (fun H locs hP hD hS => ?_)
  have hP : va_P D vwCl [(m0, .inr (1, [.int 0, .int 0, .int 0, .int 0, .int 0, .int 0, .int 0, .int 0, .int p1, .int 0, .int 0, .int 0, .int 0, .int v13, .int v14]))] H := hP
  have hD : va_D A [(m0, .inr (1, [.int 0, .int 0, .int 0, .int 0, .int 0, .int 0, .int 0, .int 0, .int p1, .int 0, .int 0, .int 0, .int 0, .int v13, .int v14]))] := hD
  refine lv_aload_n hx hb dX1_startAnew_65 rfl (lv_at hl 0 rfl) ?_
  refine lv_iconst (v := 0) hx hb dX1_startAnew_66 (by decide) ?_
  refine va_put (D := D) (ci := 1) (v := .int 0) (ty := .int) (C := RX1) (T := TX1) (N := 15) hx hb hts xin1 tyX1 tyX1_ok nmX1 hown hK hP hD hS 0 rfl rfl 13 (by decide) (hts _ (List.mem_cons_of_mem _ mw_1_111)) (fun _ h9 => h9) rfl (by decide +kernel) rfl rfl (Nat.le_of_ble_eq_true rfl) dX1_startAnew_67 (fun H locs hP hD hS => ?_)
  have hP : va_P D vwCl [(m0, .inr (1, [.int 0, .int 0, .int 0, .int 0, .int 0, .int 0, .int 0, .int 0, .int p1, .int 0, .int 0, .int 0, .int 0, .int 0, .int v14]))] H := hP
  have hD : va_D A [(m0, .inr (1, [.int 0, .int 0, .int 0, .int 0, .int 0, .int 0, .int 0, .int 0, .int p1, .int 0, .int 0, .int 0, .int 0, .int 0, .int v14]))] := hD
  refine lv_aload_n hx hb dX1_startAnew_70 rfl (lv_at hl 0 rfl) ?_
  refine lv_iconst (v := 0) hx hb dX1_startAnew_71 (by decide) ?_
  refine va_put (D := D) (ci := 1) (v := .int 0) (ty := .int) (C := RX1) (T := TX1) (N := 15) hx hb hts xin1 tyX1 tyX1_ok nmX1 hown hK hP hD hS 0 rfl rfl 14 (by decide) (hts _ (List.mem_cons_of_mem _ mw_1_113)) (fun _ h9 => h9) rfl (by decide +kernel) rfl rfl (Nat.le_of_ble_eq_true rfl) dX1_startAnew_72 (fun H locs hP hD hS => ?_)
  have hP : va_P D vwCl [(m0, .inr (1, [.int 0, .int 0, .int 0, .int 0, .int 0, .int 0, .int 0, .int 0, .int p1, .int 0, .int 0, .int 0, .int 0, .int 0, .int 0]))] H := hP
  have hD : va_D A [(m0, .inr (1, [.int 0, .int 0, .int 0, .int 0, .int 0, .int 0, .int 0, .int 0, .int p1, .int 0, .int 0, .int 0, .int 0, .int 0, .int 0]))] := hD
  exact xk_retv () hx hb hr hlocks (xk_P hP (by rfl)) (by trivial) hS dX1_startAnew_75 hQ

set_option maxHeartbeats 4000000 in
set_option maxRecDepth 100000 in
theorem c_X1_copyFrom (l : Launch) (D : va_G) (cI cZ cS : ClassId) (m0 : Nat) (v0 v1 v2 v3 v4 v5 v6 v7 v8 v9 v10 v11 v12 v13 v14 : Int32) (n0 : Nat) (u0 u1 u2 u3 u4 u5 u6 u7 u8 u9 u10 u11 u12 u13 u14 : Int32)  : xMv l yX1_copyFrom cX1_copyFrom 2 none ({ frames := 0, cells := 0, slots := 0, locals := 0 } : Room) D (xTy cI cZ cS) [.ref m0, .ref n0] [(m0, .inr (1, [.int v0, .int v1, .int v2, .int v3, .int v4, .int v5, .int v6, .int v7, .int v8, .int v9, .int v10, .int v11, .int v12, .int v13, .int v14])), (n0, .inr (1, [.int u0, .int u1, .int u2, .int u3, .int u4, .int u5, .int u6, .int u7, .int u8, .int u9, .int u10, .int u11, .int u12, .int u13, .int u14]))] (fun (_ : Unit) => True) (fun (_ : Unit) => [(m0, .inr (1, [.int u0, .int u1, .int u2, .int u3, .int u4, .int u5, .int u6, .int u7, .int u8, .int u9, .int u10, .int u11, .int u12, .int u13, .int u14])), (n0, .inr (1, [.int u0, .int u1, .int u2, .int u3, .int u4, .int u5, .int u6, .int u7, .int u8, .int u9, .int u10, .int u11, .int u12, .int u13, .int u14]))]) := by
  refine xk_bodyv (by decide) (Nat.le_of_ble_eq_true rfl) ?_
  intro p e s m below meth c A ls args Q hx hb hr hts hown hlocks hml hin hK hP hD hS hA hN hZ hl hQ
  have hl : lv_has ls 2 [(0, .ref m0), (1, .ref n0)] := hl
  refine lv_aload_n hx hb dX1_copyFrom_0 rfl (lv_at hl 0 rfl) ?_
  refine lv_aload_n hx hb dX1_copyFrom_1 rfl (lv_at hl 1 rfl) ?_
  refine va_get (D := D) (ci := 1) (v := .int u0) (C := RX1) (T := TX1) (N := 15) hx hb hts xin1 hown hK hP 1 rfl rfl 0 (by decide) (hts _ (List.mem_cons_of_mem _ mw_1_86)) (fun _ h9 => h9) rfl dX1_copyFrom_2 ?_
  refine va_put (D := D) (ci := 1) (v := .int u0) (ty := .int) (C := RX1) (T := TX1) (N := 15) hx hb hts xin1 tyX1 tyX1_ok nmX1 hown hK hP hD hS 0 rfl rfl 0 (by decide) (hts _ (List.mem_cons_of_mem _ mw_1_86)) (fun _ h9 => h9) rfl (by decide +kernel) rfl rfl (Nat.le_of_ble_eq_true rfl) dX1_copyFrom_5 (fun H locs hP hD hS => ?_)
  have hP : va_P D vwCl [(m0, .inr (1, [.int u0, .int v1, .int v2, .int v3, .int v4, .int v5, .int v6, .int v7, .int v8, .int v9, .int v10, .int v11, .int v12, .int v13, .int v14])), (n0, .inr (1, [.int u0, .int u1, .int u2, .int u3, .int u4, .int u5, .int u6, .int u7, .int u8, .int u9, .int u10, .int u11, .int u12, .int u13, .int u14]))] H := hP
  have hD : va_D A [(m0, .inr (1, [.int u0, .int v1, .int v2, .int v3, .int v4, .int v5, .int v6, .int v7, .int v8, .int v9, .int v10, .int v11, .int v12, .int v13, .int v14])), (n0, .inr (1, [.int u0, .int u1, .int u2, .int u3, .int u4, .int u5, .int u6, .int u7, .int u8, .int u9, .int u10, .int u11, .int u12, .int u13, .int u14]))] := hD
  refine lv_aload_n hx hb dX1_copyFrom_8 rfl (lv_at hl 0 rfl) ?_
  refine lv_aload_n hx hb dX1_copyFrom_9 rfl (lv_at hl 1 rfl) ?_
  refine va_get (D := D) (ci := 1) (v := .int u1) (C := RX1) (T := TX1) (N := 15) hx hb hts xin1 hown hK hP 1 rfl rfl 1 (by decide) (hts _ (List.mem_cons_of_mem _ mw_1_88)) (fun _ h9 => h9) rfl dX1_copyFrom_10 ?_
  refine va_put (D := D) (ci := 1) (v := .int u1) (ty := .int) (C := RX1) (T := TX1) (N := 15) hx hb hts xin1 tyX1 tyX1_ok nmX1 hown hK hP hD hS 0 rfl rfl 1 (by decide) (hts _ (List.mem_cons_of_mem _ mw_1_88)) (fun _ h9 => h9) rfl (by decide +kernel) rfl rfl (Nat.le_of_ble_eq_true rfl) dX1_copyFrom_13 (fun H locs hP hD hS => ?_)
  have hP : va_P D vwCl [(m0, .inr (1, [.int u0, .int u1, .int v2, .int v3, .int v4, .int v5, .int v6, .int v7, .int v8, .int v9, .int v10, .int v11, .int v12, .int v13, .int v14])), (n0, .inr (1, [.int u0, .int u1, .int u2, .int u3, .int u4, .int u5, .int u6, .int u7, .int u8, .int u9, .int u10, .int u11, .int u12, .int u13, .int u14]))] H := hP
  have hD : va_D A [(m0, .inr (1, [.int u0, .int u1, .int v2, .int v3, .int v4, .int v5, .int v6, .int v7, .int v8, .int v9, .int v10, .int v11, .int v12, .int v13, .int v14])), (n0, .inr (1, [.int u0, .int u1, .int u2, .int u3, .int u4, .int u5, .int u6, .int u7, .int u8, .int u9, .int u10, .int u11, .int u12, .int u13, .int u14]))] := hD
  refine lv_aload_n hx hb dX1_copyFrom_16 rfl (lv_at hl 0 rfl) ?_
  refine lv_aload_n hx hb dX1_copyFrom_17 rfl (lv_at hl 1 rfl) ?_
  refine va_get (D := D) (ci := 1) (v := .int u2) (C := RX1) (T := TX1) (N := 15) hx hb hts xin1 hown hK hP 1 rfl rfl 2 (by decide) (hts _ (List.mem_cons_of_mem _ mw_1_90)) (fun _ h9 => h9) rfl dX1_copyFrom_18 ?_
  refine va_put (D := D) (ci := 1) (v := .int u2) (ty := .int) (C := RX1) (T := TX1) (N := 15) hx hb hts xin1 tyX1 tyX1_ok nmX1 hown hK hP hD hS 0 rfl rfl 2 (by decide) (hts _ (List.mem_cons_of_mem _ mw_1_90)) (fun _ h9 => h9) rfl (by decide +kernel) rfl rfl (Nat.le_of_ble_eq_true rfl) dX1_copyFrom_21 (fun H locs hP hD hS => ?_)
  have hP : va_P D vwCl [(m0, .inr (1, [.int u0, .int u1, .int u2, .int v3, .int v4, .int v5, .int v6, .int v7, .int v8, .int v9, .int v10, .int v11, .int v12, .int v13, .int v14])), (n0, .inr (1, [.int u0, .int u1, .int u2, .int u3, .int u4, .int u5, .int u6, .int u7, .int u8, .int u9, .int u10, .int u11, .int u12, .int u13, .int u14]))] H := hP
  have hD : va_D A [(m0, .inr (1, [.int u0, .int u1, .int u2, .int v3, .int v4, .int v5, .int v6, .int v7, .int v8, .int v9, .int v10, .int v11, .int v12, .int v13, .int v14])), (n0, .inr (1, [.int u0, .int u1, .int u2, .int u3, .int u4, .int u5, .int u6, .int u7, .int u8, .int u9, .int u10, .int u11, .int u12, .int u13, .int u14]))] := hD
  refine lv_aload_n hx hb dX1_copyFrom_24 rfl (lv_at hl 0 rfl) ?_
  refine lv_aload_n hx hb dX1_copyFrom_25 rfl (lv_at hl 1 rfl) ?_
  refine va_get (D := D) (ci := 1) (v := .int u3) (C := RX1) (T := TX1) (N := 15) hx hb hts xin1 hown hK hP 1 rfl rfl 3 (by decide) (hts _ (List.mem_cons_of_mem _ mw_1_92)) (fun _ h9 => h9) rfl dX1_copyFrom_26 ?_
  refine va_put (D := D) (ci := 1) (v := .int u3) (ty := .int) (C := RX1) (T := TX1) (N := 15) hx hb hts xin1 tyX1 tyX1_ok nmX1 hown hK hP hD hS 0 rfl rfl 3 (by decide) (hts _ (List.mem_cons_of_mem _ mw_1_92)) (fun _ h9 => h9) rfl (by decide +kernel) rfl rfl (Nat.le_of_ble_eq_true rfl) dX1_copyFrom_29 (fun H locs hP hD hS => ?_)
  have hP : va_P D vwCl [(m0, .inr (1, [.int u0, .int u1, .int u2, .int u3, .int v4, .int v5, .int v6, .int v7, .int v8, .int v9, .int v10, .int v11, .int v12, .int v13, .int v14])), (n0, .inr (1, [.int u0, .int u1, .int u2, .int u3, .int u4, .int u5, .int u6, .int u7, .int u8, .int u9, .int u10, .int u11, .int u12, .int u13, .int u14]))] H := hP
  have hD : va_D A [(m0, .inr (1, [.int u0, .int u1, .int u2, .int u3, .int v4, .int v5, .int v6, .int v7, .int v8, .int v9, .int v10, .int v11, .int v12, .int v13, .int v14])), (n0, .inr (1, [.int u0, .int u1, .int u2, .int u3, .int u4, .int u5, .int u6, .int u7, .int u8, .int u9, .int u10, .int u11, .int u12, .int u13, .int u14]))] := hD
  refine lv_aload_n hx hb dX1_copyFrom_32 rfl (lv_at hl 0 rfl) ?_
  refine lv_aload_n hx hb dX1_copyFrom_33 rfl (lv_at hl 1 rfl) ?_
  refine va_get (D := D) (ci := 1) (v := .int u4) (C := RX1) (T := TX1) (N := 15) hx hb hts xin1 hown hK hP 1 rfl rfl 4 (by decide) (hts _ (List.mem_cons_of_mem _ mw_1_94)) (fun _ h9 => h9) rfl dX1_copyFrom_34 ?_
  refine va_put (D := D) (ci := 1) (v := .int u4) (ty := .int) (C := RX1) (T := TX1) (N := 15) hx hb hts xin1 tyX1 tyX1_ok nmX1 hown hK hP hD hS 0 rfl rfl 4 (by decide) (hts _ (List.mem_cons_of_mem _ mw_1_94)) (fun _ h9 => h9) rfl (by decide +kernel) rfl rfl (Nat.le_of_ble_eq_true rfl) dX1_copyFrom_37 (fun H locs hP hD hS => ?_)
  have hP : va_P D vwCl [(m0, .inr (1, [.int u0, .int u1, .int u2, .int u3, .int u4, .int v5, .int v6, .int v7, .int v8, .int v9, .int v10, .int v11, .int v12, .int v13, .int v14])), (n0, .inr (1, [.int u0, .int u1, .int u2, .int u3, .int u4, .int u5, .int u6, .int u7, .int u8, .int u9, .int u10, .int u11, .int u12, .int u13, .int u14]))] H := hP
  have hD : va_D A [(m0, .inr (1, [.int u0, .int u1, .int u2, .int u3, .int u4, .int v5, .int v6, .int v7, .int v8, .int v9, .int v10, .int v11, .int v12, .int v13, .int v14])), (n0, .inr (1, [.int u0, .int u1, .int u2, .int u3, .int u4, .int u5, .int u6, .int u7, .int u8, .int u9, .int u10, .int u11, .int u12, .int u13, .int u14]))] := hD
  refine lv_aload_n hx hb dX1_copyFrom_40 rfl (lv_at hl 0 rfl) ?_
  refine lv_aload_n hx hb dX1_copyFrom_41 rfl (lv_at hl 1 rfl) ?_
  refine va_get (D := D) (ci := 1) (v := .int u5) (C := RX1) (T := TX1) (N := 15) hx hb hts xin1 hown hK hP 1 rfl rfl 5 (by decide) (hts _ (List.mem_cons_of_mem _ mw_1_96)) (fun _ h9 => h9) rfl dX1_copyFrom_42 ?_
  refine va_put (D := D) (ci := 1) (v := .int u5) (ty := .int) (C := RX1) (T := TX1) (N := 15) hx hb hts xin1 tyX1 tyX1_ok nmX1 hown hK hP hD hS 0 rfl rfl 5 (by decide) (hts _ (List.mem_cons_of_mem _ mw_1_96)) (fun _ h9 => h9) rfl (by decide +kernel) rfl rfl (Nat.le_of_ble_eq_true rfl) dX1_copyFrom_45 (fun H locs hP hD hS => ?_)
  have hP : va_P D vwCl [(m0, .inr (1, [.int u0, .int u1, .int u2, .int u3, .int u4, .int u5, .int v6, .int v7, .int v8, .int v9, .int v10, .int v11, .int v12, .int v13, .int v14])), (n0, .inr (1, [.int u0, .int u1, .int u2, .int u3, .int u4, .int u5, .int u6, .int u7, .int u8, .int u9, .int u10, .int u11, .int u12, .int u13, .int u14]))] H := hP
  have hD : va_D A [(m0, .inr (1, [.int u0, .int u1, .int u2, .int u3, .int u4, .int u5, .int v6, .int v7, .int v8, .int v9, .int v10, .int v11, .int v12, .int v13, .int v14])), (n0, .inr (1, [.int u0, .int u1, .int u2, .int u3, .int u4, .int u5, .int u6, .int u7, .int u8, .int u9, .int u10, .int u11, .int u12, .int u13, .int u14]))] := hD
  refine lv_aload_n hx hb dX1_copyFrom_48 rfl (lv_at hl 0 rfl) ?_
  refine lv_aload_n hx hb dX1_copyFrom_49 rfl (lv_at hl 1 rfl) ?_
  refine va_get (D := D) (ci := 1) (v := .int u6) (C := RX1) (T := TX1) (N := 15) hx hb hts xin1 hown hK hP 1 rfl rfl 6 (by decide) (hts _ (List.mem_cons_of_mem _ mw_1_98)) (fun _ h9 => h9) rfl dX1_copyFrom_50 ?_
  refine va_put (D := D) (ci := 1) (v := .int u6) (ty := .int) (C := RX1) (T := TX1) (N := 15) hx hb hts xin1 tyX1 tyX1_ok nmX1 hown hK hP hD hS 0 rfl rfl 6 (by decide) (hts _ (List.mem_cons_of_mem _ mw_1_98)) (fun _ h9 => h9) rfl (by decide +kernel) rfl rfl (Nat.le_of_ble_eq_true rfl) dX1_copyFrom_53 (fun H locs hP hD hS => ?_)
  have hP : va_P D vwCl [(m0, .inr (1, [.int u0, .int u1, .int u2, .int u3, .int u4, .int u5, .int u6, .int v7, .int v8, .int v9, .int v10, .int v11, .int v12, .int v13, .int v14])), (n0, .inr (1, [.int u0, .int u1, .int u2, .int u3, .int u4, .int u5, .int u6, .int u7, .int u8, .int u9, .int u10, .int u11, .int u12, .int u13, .int u14]))] H := hP
  have hD : va_D A [(m0, .inr (1, [.int u0, .int u1, .int u2, .int u3, .int u4, .int u5, .int u6, .int v7, .int v8, .int v9, .int v10, .int v11, .int v12, .int v13, .int v14])), (n0, .inr (1, [.int u0, .int u1, .int u2, .int u3, .int u4, .int u5, .int u6, .int u7, .int u8, .int u9, .int u10, .int u11, .int u12, .int u13, .int u14]))] := hD
  refine lv_aload_n hx hb dX1_copyFrom_56 rfl (lv_at hl 0 rfl) ?_
  refine lv_aload_n hx hb dX1_copyFrom_57 rfl (lv_at hl 1 rfl) ?_
  refine va_get (D := D) (ci := 1) (v := .int u7) (C := RX1) (T := TX1) (N := 15) hx hb hts xin1 hown hK hP 1 rfl rfl 7 (by decide) (hts _ (List.mem_cons_of_mem _ mw_1_100)) (fun _ h9 => h9) rfl dX1_copyFrom_58 ?_
  refine va_put (D := D) (ci := 1) (v := .int u7) (ty := .int) (C := RX1) (T := TX1) (N := 15) hx hb hts xin1 tyX1 tyX1_ok nmX1 hown hK hP hD hS 0 rfl rfl 7 (by decide) (hts _ (List.mem_cons_of_mem _ mw_1_100)) (fun _ h9 => h9) rfl (by decide +kernel) rfl rfl (Nat.le_of_ble_eq_true rfl) dX1_copyFrom_61 (fun H locs hP hD hS => ?_)
  have hP : va_P D vwCl [(m0, .inr (1, [.int u0, .int u1, .int u2, .int u3, .int u4, .int u5, .int u6, .int u7, .int v8, .int v9, .int v10, .int v11, .int v12, .int v13, .int v14])), (n0, .inr (1, [.int u0, .int u1, .int u2, .int u3, .int u4, .int u5, .int u6, .int u7, .int u8, .int u9, .int u10, .int u11, .int u12, .int u13, .int u14]))] H := hP
  have hD : va_D A [(m0, .inr (1, [.int u0, .int u1, .int u2, .int u3, .int u4, .int u5, .int u6, .int u7, .int v8, .int v9, .int v10, .int v11, .int v12, .int v13, .int v14])), (n0, .inr (1, [.int u0, .int u1, .int u2, .int u3, .int u4, .int u5, .int u6, .int u7, .int u8, .int u9, .int u10, .int u11, .int u12, .int u13, .int u14]))] := hD
  refine lv_aload_n hx hb dX1_copyFrom_64 rfl (lv_at hl 0 rfl) ?_
  refine lv_aload_n hx hb dX1_copyFrom_65 rfl (lv_at hl 1 rfl) ?_
  refine va_get (D := D) (ci := 1) (v := .int u8) (C := RX1) (T := TX1) (N := 15) hx hb hts xin1 hown hK hP 1 rfl rfl 8 (by decide) (hts _ (List.mem_cons_of_mem _ mw_1_101)) (fun _ h9 => h9) rfl dX1_copyFrom_66 ?_
  refine va_put (D := D) (ci := 1) (v := .int u8) (ty := .int) (C := RX1) (T := TX1) (N := 15) hx hb hts xin1 tyX1 tyX1_ok nmX1 hown hK hP hD hS 0 rfl rfl 8 (by decide) (hts _ (List.mem_cons_of_mem _ mw_1_101)) (fun _ h9 => h9) rfl (by decide +kernel) rfl rfl (Nat.le_of_ble_eq_true rfl) dX1_copyFrom_69 (fun H locs hP hD hS => ?_)
  have hP : va_P D vwCl [(m0, .inr (1, [.int u0, .int u1, .int u2, .int u3, .int u4, .int u5, .int u6, .int u7, .int u8, .int v9, .int v10, .int v11, .int v12, .int v13, .int v14])), (n0, .inr (1, [.int u0, .int u1, .int u2, .int u3, .int u4, .int u5, .int u6, .int u7, .int u8, .int u9, .int u10, .int u11, .int u12, .int u13, .int u14]))] H := hP
  have hD : va_D A [(m0, .inr (1, [.int u0, .int u1, .int u2, .int u3, .int u4, .int u5, .int u6, .int u7, .int u8, .int v9, .int v10, .int v11, .int v12, .int v13, .int v14])), (n0, .inr (1, [.int u0, .int u1, .int u2, .int u3, .int u4, .int u5, .int u6, .int u7, .int u8, .int u9, .int u10, .int u11, .int u12, .int u13, .int u14]))] := hD
  refine lv_aload_n hx hb dX1_copyFrom_72 rfl (lv_at hl 0 rfl) ?_
  refine lv_aload_n hx hb dX1_copyFrom_73 rfl (lv_at hl 1 rfl) ?_
  refine va_get (D := D) (ci := 1) (v := .int u9) (C := RX1) (T := TX1) (N := 15) hx hb hts xin1 hown hK hP 1 rfl rfl 9 (by decide) (hts _ (List.mem_cons_of_mem _ mw_1_103)) (fun _ h9 => h9) rfl dX1_copyFrom_74 ?_
  refine va_put (D := D) (ci := 1) (v := .int u9) (ty := .int) (C := RX1) (T := TX1) (N := 15) hx hb hts xin1 tyX1 tyX1_ok nmX1 hown hK hP hD hS 0 rfl rfl 9 (by decide) (hts _ (List.mem_cons_of_mem _ mw_1_103)) (fun _ h9 => h9) rfl (by decide +kernel) rfl rfl (Nat.le_of_ble_eq_true rfl) dX1_copyFrom_77 (fun H locs hP hD hS => ?_)
  have hP : va_P D vwCl [(m0, .inr (1, [.int u0, .int u1, .int u2, .int u3, .int u4, .int u5, .int u6, .int u7, .int u8, .int u9, .int v10, .int v11, .int v12, .int v13, .int v14])), (n0, .inr (1, [.int u0, .int u1, .int u2, .int u3, .int u4, .int u5, .int u6, .int u7, .int u8, .int u9, .int u10, .int u11, .int u12, .int u13, .int u14]))] H := hP
  have hD : va_D A [(m0, .inr (1, [.int u0, .int u1, .int u2, .int u3, .int u4, .int u5, .int u6, .int u7, .int u8, .int u9, .int v10, .int v11, .int v12, .int v13, .int v14])), (n0, .inr (1, [.int u0, .int u1, .int u2, .int u3, .int u4, .int u5, .int u6, .int u7, .int u8, .int u9, .int u10, .int u11, .int u12, .int u13, .int u14]))] := hD
  refine lv_aload_n hx hb dX1_copyFrom_80 rfl (lv_at hl 0 rfl) ?_
  refine lv_aload_n hx hb dX1_copyFrom_81 rfl (lv_at hl 1 rfl) ?_
  refine va_get (D := D) (ci := 1) (v := .int u10) (C := RX1) (T := TX1) (N := 15) hx hb hts xin1 hown hK hP 1 rfl rfl 10 (by decide) (hts _ (List.mem_cons_of_mem _ mw_1_105)) (fun _ h9 => h9) rfl dX1_copyFrom_82 ?_
  refine va_put (D := D) (ci := 1) (v := .int u10) (ty := .int) (C := RX1) (T := TX1) (N := 15) hx hb hts xin1 tyX1 tyX1_ok nmX1 hown hK hP hD hS 0 rfl rfl 10 (by decide) (hts _ (List.mem_cons_of_mem _ mw_1_105)) (fun _ h9 => h9) rfl (by decide +kernel) rfl rfl (Nat.le_of_ble_eq_true rfl) dX1_copyFrom_85 (fun H locs hP hD hS => ?_)
  have hP : va_P D vwCl [(m0, .inr (1, [.int u0, .int u1, .int u2, .int u3, .int u4, .int u5, .int u6, .int u7, .int u8, .int u9, .int u10, .int v11, .int v12, .int v13, .int v14])), (n0, .inr (1, [.int u0, .int u1, .int u2, .int u3, .int u4, .int u5, .int u6, .int u7, .int u8, .int u9, .int u10, .int u11, .int u12, .int u13, .int u14]))] H := hP
  have hD : va_D A [(m0, .inr (1, [.int u0, .int u1, .int u2, .int u3, .int u4, .int u5, .int u6, .int u7, .int u8, .int u9, .int u10, .int v11, .int v12, .int v13, .int v14])), (n0, .inr (1, [.int u0, .int u1, .int u2, .int u3, .int u4, .int u5, .int u6, .int u7, .int u8, .int u9, .int u10, .int u11, .int u12, .int u13, .int u14]))] := hD
  refine lv_aload_n hx hb dX1_copyFrom_88 rfl (lv_at hl 0 rfl) ?_
  refine lv_aload_n hx hb dX1_copyFrom_89 rfl (lv_at hl 1 rfl) ?_
  refine va_get (D := D) (ci := 1) (v := .int u11) (C := RX1) (T := TX1) (N := 15) hx hb hts xin1 hown hK hP 1 rfl rfl 11 (by decide) (hts _ (List.mem_cons_of_mem _ mw_1_107)) (fun _ h9 => h9) rfl dX1_copyFrom_90 ?_
  refine va_put (D := D) (ci := 1) (v := .int u11) (ty := .int) (C := RX1) (T := TX1) (N := 15) hx hb hts xin1 tyX1 tyX1_ok nmX1 hown hK hP hD hS 0 rfl rfl 11 (by decide) (hts _ (List.mem_cons_of_mem _ mw_1_107)) (fun _ h9 => h9) rfl (by decide +kernel) rfl rfl (Nat.le_of_ble_eq_true rfl) dX1_copyFrom_93 (fun H locs hP hD hS => ?_)
  have hP : va_P D vwCl [(m0, .inr (1, [.int u0, .int u1, .int u2, .int u3, .int u4, .int u5, .int u6, .int u7, .int u8, .int u9, .int u10, .int u11, .int v12, .int v13, .int v14])), (n0, .inr (1, [.int u0, .int u1, .int u2, .int u3, .int u4, .int u5, .int u6, .int u7, .int u8, .int u9, .int u10, .int u11, .int u12, .int u13, .int u14]))] H := hP
  have hD : va_D A [(m0, .inr (1, [.int u0, .int u1, .int u2, .int u3, .int u4, .int u5, .int u6, .int u7, .int u8, .int u9, .int u10, .int u11, .int v12, .int v13, .int v14])), (n0, .inr (1, [.int u0, .int u1, .int u2, .int u3, .int u4, .int u5, .int u6, .int u7, .int u8, .int u9, .int u10, .int u11, .int u12, .int u13, .int u14]))] := hD
  refine lv_aload_n hx hb dX1_copyFrom_96 rfl (lv_at hl 0 rfl) ?_
  refine lv_aload_n hx hb dX1_copyFrom_97 rfl (lv_at hl 1 rfl) ?_
  refine va_get (D := D) (ci := 1) (v := .int u12) (C := RX1) (T := TX1) (N := 15) hx hb hts xin1 hown hK hP 1 rfl rfl 12 (by decide) (hts _ (List.mem_cons_of_mem _ mw_1_109)) (fun _ h9 => h9) rfl dX1_copyFrom_98 ?_
  refine va_put (D := D) (ci := 1) (v := .int u12) (ty := .int) (C := RX1) (T := TX1) (N := 15) hx hb hts xin1 tyX1 tyX1_ok nmX1 hown hK hP hD hS 0 rfl rfl 12 (by decide) (hts _ (List.mem_cons_of_mem _ mw_1_109)) (fun _ h9 => h9) rfl (by decide +kernel) rfl rfl (Nat.le_of_ble_eq_true rfl) dX1_copyFrom_101 (fun H locs hP hD hS => ?_)
  have hP : va_P D vwCl [(m0, .inr (1, [.int u0, .int u1, .int u2, .int u3, .int u4, .int u5, .int u6, .int u7, .int u8, .int u9, .int u10, .int u11, .int u12, .int v13, .int v14])), (n0, .inr (1, [.int u0, .int u1, .int u2, .int u3, .int u4, .int u5, .int u6, .int u7, .int u8, .int u9, .int u10, .int u11, .int u12, .int u13, .int u14]))] H := hP
  have hD : va_D A [(m0, .inr (1, [.int u0, .int u1, .int u2, .int u3, .int u4, .int u5, .int u6, .int u7, .int u8, .int u9, .int u10, .int u11, .int u12, .int v13, .int v14])), (n0, .inr (1, [.int u0, .int u1, .int u2, .int u3, .int u4, .int u5, .int u6, .int u7, .int u8, .int u9, .int u10, .int u11, .int u12, .int u13, .int u14]))] := hD
  refine lv_aload_n hx hb dX1_copyFrom_104 rfl (lv_at hl 0 rfl) ?_
  refine lv_aload_n hx hb dX1_copyFrom_105 rfl (lv_at hl 1 rfl) ?_
  refine va_get (D := D) (ci := 1) (v := .int u13) (C := RX1) (T := TX1) (N := 15) hx hb hts xin1 hown hK hP 1 rfl rfl 13 (by decide) (hts _ (List.mem_cons_of_mem _ mw_1_111)) (fun _ h9 => h9) rfl dX1_copyFrom_106 ?_
  refine va_put (D := D) (ci := 1) (v := .int u13) (ty := .int) (C := RX1) (T := TX1) (N := 15) hx hb hts xin1 tyX1 tyX1_ok nmX1 hown hK hP hD hS 0 rfl rfl 13 (by decide) (hts _ (List.mem_cons_of_mem _ mw_1_111)) (fun _ h9 => h9) rfl (by decide +kernel) rfl rfl (Nat.le_of_ble_eq_true rfl) dX1_copyFrom_109 (fun H locs hP hD hS => ?_)
  have hP : va_P D vwCl [(m0, .inr (1, [.int u0, .int u1, .int u2, .int u3, .int u4, .int u5, .int u6, .int u7, .int u8, .int u9, .int u10, .int u11, .int u12, .int u13, .int v14])), (n0, .inr (1, [.int u0, .int u1, .int u2, .int u3, .int u4, .int u5, .int u6, .int u7, .int u8, .int u9, .int u10, .int u11, .int u12, .int u13, .int u14]))] H := hP
  have hD : va_D A [(m0, .inr (1, [.int u0, .int u1, .int u2, .int u3, .int u4, .int u5, .int u6, .int u7, .int u8, .int u9, .int u10, .int u11, .int u12, .int u13, .int v14])), (n0, .inr (1, [.int u0, .int u1, .int u2, .int u3, .int u4, .int u5, .int u6, .int u7, .int u8, .int u9, .int u10, .int u11, .int u12, .int u13, .int u14]))] := hD
  refine lv_aload_n hx hb dX1_copyFrom_112 rfl (lv_at hl 0 rfl) ?_
  refine lv_aload_n hx hb dX1_copyFrom_113 rfl (lv_at hl 1 rfl) ?_
  refine va_get (D := D) (ci := 1) (v := .int u14) (C := RX1) (T := TX1) (N := 15) hx hb hts xin1 hown hK hP 1 rfl rfl 14 (by decide) (hts _ (List.mem_cons_of_mem _ mw_1_113)) (fun _ h9 => h9) rfl dX1_copyFrom_114 ?_
  refine va_put (D := D) (ci := 1) (v := .int u14) (ty := .int) (C := RX1) (T := TX1) (N := 15) hx hb hts xin1 tyX1 tyX1_ok nmX1 hown hK hP hD hS 0 rfl rfl 14 (by decide) (hts _ (List.mem_cons_of_mem _ mw_1_113)) (fun _ h9 => h9) rfl (by decide +kernel) rfl rfl (Nat.le_of_ble_eq_true rfl) dX1_copyFrom_117 (fun H locs hP hD hS => ?_)
  have hP : va_P D vwCl [(m0, .inr (1, [.int u0, .int u1, .int u2, .int u3, .int u4, .int u5, .int u6, .int u7, .int u8, .int u9, .int u10, .int u11, .int u12, .int u13, .int u14])), (n0, .inr (1, [.int u0, .int u1, .int u2, .int u3, .int u4, .int u5, .int u6, .int u7, .int u8, .int u9, .int u10, .int u11, .int u12, .int u13, .int u14]))] H := hP
  have hD : va_D A [(m0, .inr (1, [.int u0, .int u1, .int u2, .int u3, .int u4, .int u5, .int u6, .int u7, .int u8, .int u9, .int u10, .int u11, .int u12, .int u13, .int u14])), (n0, .inr (1, [.int u0, .int u1, .int u2, .int u3, .int u4, .int u5, .int u6, .int u7, .int u8, .int u9, .int u10, .int u11, .int u12, .int u13, .int u14]))] := hD
  exact xk_retv () hx hb hr hlocks (xk_P hP (by rfl)) (by trivial) hS dX1_copyFrom_120 hQ

set_option maxHeartbeats 4000000 in
set_option maxRecDepth 100000 in
theorem c_X1_isAtEndOf (l : Launch) (D : va_G) (cI cZ cS : ClassId) (m0 : Nat) (v0 v1 v2 v3 v4 v5 v6 v7 v8 v9 v10 v11 v12 v13 v14 : Int32) (ro0 ro1 ro2 ro3 : Nat) (rn : Int32)  : xMi l yX1_isAtEndOf cX1_isAtEndOf 2 (some .boolean) ({ frames := 0, cells := 0, slots := 0, locals := 0 } : Room) D (xTy cI cZ cS) [.ref m0, .ref ro0] [(m0, .inr (1, [.int v0, .int v1, .int v2, .int v3, .int v4, .int v5, .int v6, .int v7, .int v8, .int v9, .int v10, .int v11, .int v12, .int v13, .int v14])), (ro0, .inr (3, [.int rn, .ref ro1, .ref ro2, .ref ro3]))] (fun (r : Int32) (_ : Unit) => ((r = 1 ∧ (0 < rn.toInt ∧ rn.toInt ≤ v5.toInt)) ∨ (r = 0 ∧ ¬ (0 < rn.toInt ∧ rn.toInt ≤ v5.toInt)))) (fun (_ : Unit) => [(m0, .inr (1, [.int v0, .int v1, .int v2, .int v3, .int v4, .int v5, .int v6, .int v7, .int v8, .int v9, .int v10, .int v11, .int v12, .int v13, .int v14])), (ro0, .inr (3, [.int rn, .ref ro1, .ref ro2, .ref ro3]))]) := by
  refine xk_bodyi (by decide) (Nat.le_of_ble_eq_true rfl) ?_
  intro p e s m below meth c A ls args Q hx hb hr hts hown hlocks hml hin hK hP hD hS hA hN hZ hl hQ
  have hl : lv_has ls 2 [(0, .ref m0), (1, .ref ro0)] := hl
  refine lv_aload_n hx hb dX1_isAtEndOf_0 rfl (lv_at hl 1 rfl) ?_
  refine va_getN (D := D) (ci := 3) (v := .int rn) (C := RX3) (T := TX3) (N := 4) hx hb hts xin3 hown hK hP 1 rfl rfl 0 (by decide) (xnf_3 hN) (fun _ h9 => h9) rfl dX1_isAtEndOf_1 ?_
  refine lv_if_le (tgt := 22) hx hb dX1_isAtEndOf_4 (by decide) (fun c4 => ?_) (fun c4 => ?_)
  · have t4 : rn.toInt ≤ 0 := xi_le rfl (by decide) c4
    refine lv_iconst (v := 0) hx hb dX1_isAtEndOf_22 (by decide) ?_
    exact xk_retz () hx hb hr hlocks (by decide) (xk_P hP (by rfl)) (by first | exact Or.inl ⟨rfl, by omega⟩ | exact Or.inr ⟨rfl, by omega⟩) hS dX1_isAtEndOf_23 hQ
  · have t4 : 0 < rn.toInt := xi_nle rfl (by decide) c4
    refine lv_aload_n hx hb dX1_isAtEndOf_7 rfl (lv_at hl 0 rfl) ?_
    refine va_get (D := D) (ci := 1) (v := .int v5) (C := RX1) (T := TX1) (N := 15) hx hb hts xin1 hown hK hP 0 rfl rfl 5 (by decide) (hts _ (List.mem_cons_of_mem _ mw_1_96)) (fun _ h9 => h9) rfl dX1_isAtEndOf_8 ?_
    refine lv_aload_n hx hb dX1_isAtEndOf_11 rfl (lv_at hl 1 rfl) ?_
    refine va_getN (D := D) (ci := 3) (v := .int rn) (C := RX3) (T := TX3) (N := 4) hx hb hts xin3 hown hK hP 1 rfl rfl 0 (by decide) (xnf_3 hN) (fun _ h9 => h9) rfl dX1_isAtEndOf_12 ?_
    refine lv_icmp_lt (tgt := 22) hx hb dX1_isAtEndOf_15 (by decide) (fun c15 => ?_) (fun c15 => ?_)
    · have t15 : v5.toInt < rn.toInt := xi_lt rfl rfl c15
      refine lv_iconst (v := 0) hx hb dX1_isAtEndOf_22 (by decide) ?_
      exact xk_retz () hx hb hr hlocks (by decide) (xk_P hP (by rfl)) (by first | exact Or.inl ⟨rfl, by omega⟩ | exact Or.inr ⟨rfl, by omega⟩) hS dX1_isAtEndOf_23 hQ
    · have t15 : rn.toInt ≤ v5.toInt := xi_nlt rfl rfl c15
      refine lv_iconst (v := 1) hx hb dX1_isAtEndOf_18 (by decide) ?_
      refine lv_goto (tgt := 23) hx hb dX1_isAtEndOf_19 (by decide) ?_
      exact xk_retz () hx hb hr hlocks (by decide) (xk_P hP (by rfl)) (by first | exact Or.inl ⟨rfl, by omega⟩ | exact Or.inr ⟨rfl, by omega⟩) hS dX1_isAtEndOf_23 hQ

set_option maxHeartbeats 4000000 in
set_option maxRecDepth 100000 in
theorem c_X1_stepOn (l : Launch) (D : va_G) (cI cZ cS : ClassId) (ro0 ro1 ro2 ro3 : Nat) (rn : Int32) (st sl md : Nat → Int32) (z : Nat → Int32) (m0 : Nat) (p2 : Int32) (hro : RRoad rn st sl md z) (hir : RoadOK z) (hat : 0 ≤ (z 179).toInt ∧ (z 179).toInt < (z 7).toInt) (hst : 0 ≤ (z 180).toInt ∧ (z 180).toInt < (ofZ z (z 179).toInt.toNat 0).toInt) (h5 : 2 ≤ (z 5).toInt ∧ (z 5).toInt ≤ 9) (hp2 : p2 = z 5) : xMv l yX1_stepOn cX1_stepOn 3 none ({ frames := 2, cells := 0, slots := 0, locals := 42 } : Room) D (xTy cI cZ cS) [.ref m0, .ref ro0, .int p2] [(m0, .inr (1, [.int (z 174), .int (z 175), .int (z 176), .int (z 177), .int (z 178), .int (z 179), .int (z 180), .int (z 189), .int (z 181), .int (z 182), .int (z 183), .int (z 184), .int (z 185), .int (z 186), .int (z 187)])), (ro0, .inr (3, [.int rn, .ref ro1, .ref ro2, .ref ro3])), (ro1, .inl (cI, 12, .inl st)), (ro2, .inl (cI, 12, .inl sl)), (ro3, .inl (cZ, 12, .inl md))] (fun (_ : Unit) => True) (fun (_ : Unit) => [(m0, .inr (1, [.int (stepZ z 174), .int (stepZ z 175), .int (stepZ z 176), .int (stepZ z 177), .int (stepZ z 178), .int (stepZ z 179), .int (stepZ z 180), .int (stepZ z 189), .int (stepZ z 181), .int (stepZ z 182), .int (stepZ z 183), .int (stepZ z 184), .int (stepZ z 185), .int (stepZ z 186), .int (stepZ z 187)])), (ro0, .inr (3, [.int rn, .ref ro1, .ref ro2, .ref ro3])), (ro1, .inl (cI, 12, .inl st)), (ro2, .inl (cI, 12, .inl sl)), (ro3, .inl (cZ, 12, .inl md))]) := by
  refine xk_bodyv (by decide) (Nat.le_of_ble_eq_true rfl) ?_
  intro p e s m below meth c A ls args Q hx hb hr hts hown hlocks hml hin hK hP hD hS hA hN hZ hl hQ
  have hl : lv_has ls 3 [(0, .ref m0), (1, .ref ro0), (2, .int p2)] := hl
  have h5p : 2 ≤ p2.toInt := by rw [hp2]; exact h5.1
  have h99 := (hir.2 (z 179).toInt.toNat (by omega)).1
  refine lv_aload_n hx hb dX1_stepOn_0 rfl (lv_at hl 0 rfl) ?_
  refine lv_dup hx hb dX1_stepOn_1 rfl ?_
  refine va_get (D := D) (ci := 1) (v := .int (z 189)) (C := RX1) (T := TX1) (N := 15) hx hb hts xin1 hown hK hP 0 rfl rfl 7 (by decide) (hts _ (List.mem_cons_of_mem _ mw_1_100)) (fun _ h9 => h9) rfl dX1_stepOn_2 ?_
  refine lv_iconst (v := 1) hx hb dX1_stepOn_5 (by decide) ?_
  refine lv_iadd hx hb dX1_stepOn_6 ?_
  refine lv_topi (fun x6 e6 => ?_)
  refine va_put (D := D) (ci := 1) (v := .int x6) (ty := .int) (C := RX1) (T := TX1) (N := 15) hx hb hts xin1 tyX1 tyX1_ok nmX1 hown hK hP hD hS 0 rfl rfl 7 (by decide) (hts _ (List.mem_cons_of_mem _ mw_1_100)) (fun _ h9 => h9) rfl (by decide +kernel) rfl rfl (Nat.le_of_ble_eq_true rfl) dX1_stepOn_7 (fun H locs hP hD hS => ?_)
  have hP : va_P D vwCl [(m0, .inr (1, [.int (z 174), .int (z 175), .int (z 176), .int (z 177), .int (z 178), .int (z 179), .int (z 180), .int x6, .int (z 181), .int (z 182), .int (z 183), .int (z 184), .int (z 185), .int (z 186), .int (z 187)])), (ro0, .inr (3, [.int rn, .ref ro1, .ref ro2, .ref ro3])), (ro1, .inl (cI, 12, .inl st)), (ro2, .inl (cI, 12, .inl sl)), (ro3, .inl (cZ, 12, .inl md))] H := hP
  have hD : va_D A [(m0, .inr (1, [.int (z 174), .int (z 175), .int (z 176), .int (z 177), .int (z 178), .int (z 179), .int (z 180), .int x6, .int (z 181), .int (z 182), .int (z 183), .int (z 184), .int (z 185), .int (z 186), .int (z 187)])), (ro0, .inr (3, [.int rn, .ref ro1, .ref ro2, .ref ro3])), (ro1, .inl (cI, 12, .inl st)), (ro2, .inl (cI, 12, .inl sl)), (ro3, .inl (cZ, 12, .inl md))] := hD
  refine lv_aload_n hx hb dX1_stepOn_10 rfl (lv_at hl 1 rfl) ?_
  refine lv_aload_n hx hb dX1_stepOn_11 rfl (lv_at hl 0 rfl) ?_
  refine va_get (D := D) (ci := 1) (v := .int (z 179)) (C := RX1) (T := TX1) (N := 15) hx hb hts xin1 hown hK hP 0 rfl rfl 5 (by decide) (hts _ (List.mem_cons_of_mem _ mw_1_96)) (fun _ h9 => h9) rfl dX1_stepOn_12 ?_
  refine xk_Vi (As := [.int (z 179)]) (rest := []) hx hb hml hown hts hK hN hZ hP hD hS hA mb_X3_isMuddy mw_2_207 mw_2_132 mw_2_133 (c_X3_isMuddy l D cI cZ cS ro0 ro1 ro2 ro3 rn md (z 179) ) [1, 4] 1 3 rfl rfl (by decide) rfl (fun _ => by simp only [List.map]) (by decide) (by decide) rfl hl.1 rfl (Nat.le_of_ble_eq_true rfl) dX1_stepOn_15 ⟨Nat.zero_le _, Nat.zero_le _⟩ (fun r15 _ H locs hw hP hD hS => ?_)
  have hP : va_P D vwCl [(m0, .inr (1, [.int (z 174), .int (z 175), .int (z 176), .int (z 177), .int (z 178), .int (z 179), .int (z 180), .int x6, .int (z 181), .int (z 182), .int (z 183), .int (z 184), .int (z 185), .int (z 186), .int (z 187)])), (ro0, .inr (3, [.int rn, .ref ro1, .ref ro2, .ref ro3])), (ro1, .inl (cI, 12, .inl st)), (ro2, .inl (cI, 12, .inl sl)), (ro3, .inl (cZ, 12, .inl md))] H := hP
  have hD : va_D A [(m0, .inr (1, [.int (z 174), .int (z 175), .int (z 176), .int (z 177), .int (z 178), .int (z 179), .int (z 180), .int x6, .int (z 181), .int (z 182), .int (z 183), .int (z 184), .int (z 185), .int (z 186), .int (z 187)])), (ro0, .inr (3, [.int rn, .ref ro1, .ref ro2, .ref ro3])), (ro1, .inl (cI, 12, .inl st)), (ro2, .inl (cI, 12, .inl sl)), (ro3, .inl (cZ, 12, .inl md))] := hD
  rcases hw with ⟨rfl, b15⟩ | ⟨rfl, b15⟩
  · have b15 : hasS rn (z 179) ∧ ¬ md (z 179).toInt.toNat = 0 := b15
    rw [muddy_z hro hir] at b15
    refine lv_if_eq (tgt := 45) hx hb dX1_stepOn_18 (by decide) (fun c18 => absurd c18 (by decide)) (fun _ => ?_)
    refine lv_iload_n hx hb dX1_stepOn_21 rfl (lv_at hl 2 rfl) ?_
    refine lv_if_le (tgt := 45) hx hb dX1_stepOn_22 (by decide) (fun c22 => ?_) (fun c22 => ?_)
    · have t22 : p2.toInt ≤ 0 := xi_le rfl (by decide) c22
      omega
    · have t22 : 0 < p2.toInt := xi_nle rfl (by decide) c22
      have := hp2
      refine lv_aload_n hx hb dX1_stepOn_25 rfl (lv_at hl 0 rfl) ?_
      refine va_get (D := D) (ci := 1) (v := .int x6) (C := RX1) (T := TX1) (N := 15) hx hb hts xin1 hown hK hP 0 rfl rfl 7 (by decide) (hts _ (List.mem_cons_of_mem _ mw_1_100)) (fun _ h9 => h9) rfl dX1_stepOn_26 ?_
      refine lv_iload_n hx hb dX1_stepOn_29 rfl (lv_at hl 2 rfl) ?_
      refine lv_irem hx hb dX1_stepOn_30 (i_ne0 (by omega)) ?_
      refine lv_topi (fun x30 e30 => ?_)
      refine lv_if_ne (tgt := 45) hx hb dX1_stepOn_31 (by decide) (fun c31 => ?_) (fun c31 => ?_)
      · have t31 : ¬ x30.toInt = 0 := xi_ne rfl (by decide) c31
        have d31 : ¬ x30 = 0 := c31
        refine lv_aload_n hx hb dX1_stepOn_45 rfl (lv_at hl 0 rfl) ?_
        refine lv_dup hx hb dX1_stepOn_46 rfl ?_
        refine va_get (D := D) (ci := 1) (v := .int (z 180)) (C := RX1) (T := TX1) (N := 15) hx hb hts xin1 hown hK hP 0 rfl rfl 6 (by decide) (hts _ (List.mem_cons_of_mem _ mw_1_98)) (fun _ h9 => h9) rfl dX1_stepOn_47 ?_
        refine lv_iconst (v := 1) hx hb dX1_stepOn_50 (by decide) ?_
        refine lv_iadd hx hb dX1_stepOn_51 ?_
        refine lv_topi (fun x51 e51 => ?_)
        have t51 : x51.toInt = ((z 180).toInt) + 1 := by rw [e51]; exact xi_add rfl (by decide) (by omega) (by omega)
        refine va_put (D := D) (ci := 1) (v := .int x51) (ty := .int) (C := RX1) (T := TX1) (N := 15) hx hb hts xin1 tyX1 tyX1_ok nmX1 hown hK hP hD hS 0 rfl rfl 6 (by decide) (hts _ (List.mem_cons_of_mem _ mw_1_98)) (fun _ h9 => h9) rfl (by decide +kernel) rfl rfl (Nat.le_of_ble_eq_true rfl) dX1_stepOn_52 (fun H locs hP hD hS => ?_)
        have hP : va_P D vwCl [(m0, .inr (1, [.int (z 174), .int (z 175), .int (z 176), .int (z 177), .int (z 178), .int (z 179), .int x51, .int x6, .int (z 181), .int (z 182), .int (z 183), .int (z 184), .int (z 185), .int (z 186), .int (z 187)])), (ro0, .inr (3, [.int rn, .ref ro1, .ref ro2, .ref ro3])), (ro1, .inl (cI, 12, .inl st)), (ro2, .inl (cI, 12, .inl sl)), (ro3, .inl (cZ, 12, .inl md))] H := hP
        have hD : va_D A [(m0, .inr (1, [.int (z 174), .int (z 175), .int (z 176), .int (z 177), .int (z 178), .int (z 179), .int x51, .int x6, .int (z 181), .int (z 182), .int (z 183), .int (z 184), .int (z 185), .int (z 186), .int (z 187)])), (ro0, .inr (3, [.int rn, .ref ro1, .ref ro2, .ref ro3])), (ro1, .inl (cI, 12, .inl st)), (ro2, .inl (cI, 12, .inl sl)), (ro3, .inl (cZ, 12, .inl md))] := hD
        refine lv_aload_n hx hb dX1_stepOn_55 rfl (lv_at hl 0 rfl) ?_
        refine lv_dup hx hb dX1_stepOn_56 rfl ?_
        refine va_get (D := D) (ci := 1) (v := .int (z 183)) (C := RX1) (T := TX1) (N := 15) hx hb hts xin1 hown hK hP 0 rfl rfl 10 (by decide) (hts _ (List.mem_cons_of_mem _ mw_1_105)) (fun _ h9 => h9) rfl dX1_stepOn_57 ?_
        refine lv_iconst (v := 1) hx hb dX1_stepOn_60 (by decide) ?_
        refine lv_iadd hx hb dX1_stepOn_61 ?_
        refine lv_topi (fun x61 e61 => ?_)
        refine va_put (D := D) (ci := 1) (v := .int x61) (ty := .int) (C := RX1) (T := TX1) (N := 15) hx hb hts xin1 tyX1 tyX1_ok nmX1 hown hK hP hD hS 0 rfl rfl 10 (by decide) (hts _ (List.mem_cons_of_mem _ mw_1_105)) (fun _ h9 => h9) rfl (by decide +kernel) rfl rfl (Nat.le_of_ble_eq_true rfl) dX1_stepOn_62 (fun H locs hP hD hS => ?_)
        have hP : va_P D vwCl [(m0, .inr (1, [.int (z 174), .int (z 175), .int (z 176), .int (z 177), .int (z 178), .int (z 179), .int x51, .int x6, .int (z 181), .int (z 182), .int x61, .int (z 184), .int (z 185), .int (z 186), .int (z 187)])), (ro0, .inr (3, [.int rn, .ref ro1, .ref ro2, .ref ro3])), (ro1, .inl (cI, 12, .inl st)), (ro2, .inl (cI, 12, .inl sl)), (ro3, .inl (cZ, 12, .inl md))] H := hP
        have hD : va_D A [(m0, .inr (1, [.int (z 174), .int (z 175), .int (z 176), .int (z 177), .int (z 178), .int (z 179), .int x51, .int x6, .int (z 181), .int (z 182), .int x61, .int (z 184), .int (z 185), .int (z 186), .int (z 187)])), (ro0, .inr (3, [.int rn, .ref ro1, .ref ro2, .ref ro3])), (ro1, .inl (cI, 12, .inl st)), (ro2, .inl (cI, 12, .inl sl)), (ro3, .inl (cZ, 12, .inl md))] := hD
        refine lv_aload_n hx hb dX1_stepOn_65 rfl (lv_at hl 0 rfl) ?_
        refine va_get (D := D) (ci := 1) (v := .int x51) (C := RX1) (T := TX1) (N := 15) hx hb hts xin1 hown hK hP 0 rfl rfl 6 (by decide) (hts _ (List.mem_cons_of_mem _ mw_1_98)) (fun _ h9 => h9) rfl dX1_stepOn_66 ?_
        refine lv_aload_n hx hb dX1_stepOn_69 rfl (lv_at hl 1 rfl) ?_
        refine lv_aload_n hx hb dX1_stepOn_70 rfl (lv_at hl 0 rfl) ?_
        refine va_get (D := D) (ci := 1) (v := .int (z 179)) (C := RX1) (T := TX1) (N := 15) hx hb hts xin1 hown hK hP 0 rfl rfl 5 (by decide) (hts _ (List.mem_cons_of_mem _ mw_1_96)) (fun _ h9 => h9) rfl dX1_stepOn_71 ?_
        refine xk_Vi (As := [.int (z 179)]) (rest := [.int x51]) hx hb hml hown hts hK hN hZ hP hD hS hA mb_X3_stepsOf mw_2_208 mw_2_48 mw_2_49 (c_X3_stepsOf l D cI cZ cS ro0 ro1 ro2 ro3 rn st (z 179) ) [1, 2] 1 3 rfl rfl (by decide) rfl (fun _ => by simp only [List.map]) (by decide) (by decide) rfl hl.1 rfl (Nat.le_of_ble_eq_true rfl) dX1_stepOn_74 ⟨Nat.zero_le _, Nat.zero_le _⟩ (fun r74 _ H locs hw hP hD hS => ?_)
        have hP : va_P D vwCl [(m0, .inr (1, [.int (z 174), .int (z 175), .int (z 176), .int (z 177), .int (z 178), .int (z 179), .int x51, .int x6, .int (z 181), .int (z 182), .int x61, .int (z 184), .int (z 185), .int (z 186), .int (z 187)])), (ro0, .inr (3, [.int rn, .ref ro1, .ref ro2, .ref ro3])), (ro1, .inl (cI, 12, .inl st)), (ro2, .inl (cI, 12, .inl sl)), (ro3, .inl (cZ, 12, .inl md))] H := hP
        have hD : va_D A [(m0, .inr (1, [.int (z 174), .int (z 175), .int (z 176), .int (z 177), .int (z 178), .int (z 179), .int x51, .int x6, .int (z 181), .int (z 182), .int x61, .int (z 184), .int (z 185), .int (z 186), .int (z 187)])), (ro0, .inr (3, [.int rn, .ref ro1, .ref ro2, .ref ro3])), (ro1, .inl (cI, 12, .inl st)), (ro2, .inl (cI, 12, .inl sl)), (ro3, .inl (cZ, 12, .inl md))] := hD
        have e74 : r74 = if hasS rn (z 179) then st (z 179).toInt.toNat else 0 := hw
        rw [stepsOf_z hro hir, if_pos (show strC z (z 179) from ⟨hat.1, hat.2⟩)] at e74
        refine lv_icmp_lt (tgt := 100) hx hb dX1_stepOn_77 (by decide) (fun c77 => ?_) (fun c77 => ?_)
        · have t77 : x51.toInt < r74.toInt := xi_lt rfl rfl c77
          have hk : ¬ skipZ z := by unfold skipZ; rw [← hp2]; subst e74 e61 e51 e30 e6; exact fun hh => d31 hh.2
          have hu : ¬ fullZ z := fun hh => by have q := congrArg Int32.toInt hh; rw [← e51, t51] at q; rw [e74] at t77; omega
          have hz : stepZ z = (upd (upd (upd z 189 (z 189 + 1)) 180 (z 180 + 1)) 183 (z 183 + 1)) := by rw [stepZ, if_neg hk, if_neg hu]
          exact xk_retv () hx hb hr hlocks (xk_P hP (by rw [hz]; subst e74 e61 e51 e30 e6; rfl)) (by trivial) hS dX1_stepOn_100 hQ
        · have t77 : r74.toInt ≤ x51.toInt := xi_nlt rfl rfl c77
          refine lv_aload_n hx hb dX1_stepOn_80 rfl (lv_at hl 0 rfl) ?_
          refine lv_dup hx hb dX1_stepOn_81 rfl ?_
          refine va_get (D := D) (ci := 1) (v := .int (z 179)) (C := RX1) (T := TX1) (N := 15) hx hb hts xin1 hown hK hP 0 rfl rfl 5 (by decide) (hts _ (List.mem_cons_of_mem _ mw_1_96)) (fun _ h9 => h9) rfl dX1_stepOn_82 ?_
          refine lv_iconst (v := 1) hx hb dX1_stepOn_85 (by decide) ?_
          refine lv_iadd hx hb dX1_stepOn_86 ?_
          refine lv_topi (fun x86 e86 => ?_)
          refine va_put (D := D) (ci := 1) (v := .int x86) (ty := .int) (C := RX1) (T := TX1) (N := 15) hx hb hts xin1 tyX1 tyX1_ok nmX1 hown hK hP hD hS 0 rfl rfl 5 (by decide) (hts _ (List.mem_cons_of_mem _ mw_1_96)) (fun _ h9 => h9) rfl (by decide +kernel) rfl rfl (Nat.le_of_ble_eq_true rfl) dX1_stepOn_87 (fun H locs hP hD hS => ?_)
          have hP : va_P D vwCl [(m0, .inr (1, [.int (z 174), .int (z 175), .int (z 176), .int (z 177), .int (z 178), .int x86, .int x51, .int x6, .int (z 181), .int (z 182), .int x61, .int (z 184), .int (z 185), .int (z 186), .int (z 187)])), (ro0, .inr (3, [.int rn, .ref ro1, .ref ro2, .ref ro3])), (ro1, .inl (cI, 12, .inl st)), (ro2, .inl (cI, 12, .inl sl)), (ro3, .inl (cZ, 12, .inl md))] H := hP
          have hD : va_D A [(m0, .inr (1, [.int (z 174), .int (z 175), .int (z 176), .int (z 177), .int (z 178), .int x86, .int x51, .int x6, .int (z 181), .int (z 182), .int x61, .int (z 184), .int (z 185), .int (z 186), .int (z 187)])), (ro0, .inr (3, [.int rn, .ref ro1, .ref ro2, .ref ro3])), (ro1, .inl (cI, 12, .inl st)), (ro2, .inl (cI, 12, .inl sl)), (ro3, .inl (cZ, 12, .inl md))] := hD
          refine lv_aload_n hx hb dX1_stepOn_90 rfl (lv_at hl 0 rfl) ?_
          refine lv_iconst (v := 0) hx hb dX1_stepOn_91 (by decide) ?_
          refine va_put (D := D) (ci := 1) (v := .int 0) (ty := .int) (C := RX1) (T := TX1) (N := 15) hx hb hts xin1 tyX1 tyX1_ok nmX1 hown hK hP hD hS 0 rfl rfl 6 (by decide) (hts _ (List.mem_cons_of_mem _ mw_1_98)) (fun _ h9 => h9) rfl (by decide +kernel) rfl rfl (Nat.le_of_ble_eq_true rfl) dX1_stepOn_92 (fun H locs hP hD hS => ?_)
          have hP : va_P D vwCl [(m0, .inr (1, [.int (z 174), .int (z 175), .int (z 176), .int (z 177), .int (z 178), .int x86, .int 0, .int x6, .int (z 181), .int (z 182), .int x61, .int (z 184), .int (z 185), .int (z 186), .int (z 187)])), (ro0, .inr (3, [.int rn, .ref ro1, .ref ro2, .ref ro3])), (ro1, .inl (cI, 12, .inl st)), (ro2, .inl (cI, 12, .inl sl)), (ro3, .inl (cZ, 12, .inl md))] H := hP
          have hD : va_D A [(m0, .inr (1, [.int (z 174), .int (z 175), .int (z 176), .int (z 177), .int (z 178), .int x86, .int 0, .int x6, .int (z 181), .int (z 182), .int x61, .int (z 184), .int (z 185), .int (z 186), .int (z 187)])), (ro0, .inr (3, [.int rn, .ref ro1, .ref ro2, .ref ro3])), (ro1, .inl (cI, 12, .inl st)), (ro2, .inl (cI, 12, .inl sl)), (ro3, .inl (cZ, 12, .inl md))] := hD
          refine lv_aload_n hx hb dX1_stepOn_95 rfl (lv_at hl 0 rfl) ?_
          refine lv_iconst (v := 0) hx hb dX1_stepOn_96 (by decide) ?_
          refine va_put (D := D) (ci := 1) (v := .int 0) (ty := .int) (C := RX1) (T := TX1) (N := 15) hx hb hts xin1 tyX1 tyX1_ok nmX1 hown hK hP hD hS 0 rfl rfl 7 (by decide) (hts _ (List.mem_cons_of_mem _ mw_1_100)) (fun _ h9 => h9) rfl (by decide +kernel) rfl rfl (Nat.le_of_ble_eq_true rfl) dX1_stepOn_97 (fun H locs hP hD hS => ?_)
          have hP : va_P D vwCl [(m0, .inr (1, [.int (z 174), .int (z 175), .int (z 176), .int (z 177), .int (z 178), .int x86, .int 0, .int 0, .int (z 181), .int (z 182), .int x61, .int (z 184), .int (z 185), .int (z 186), .int (z 187)])), (ro0, .inr (3, [.int rn, .ref ro1, .ref ro2, .ref ro3])), (ro1, .inl (cI, 12, .inl st)), (ro2, .inl (cI, 12, .inl sl)), (ro3, .inl (cZ, 12, .inl md))] H := hP
          have hD : va_D A [(m0, .inr (1, [.int (z 174), .int (z 175), .int (z 176), .int (z 177), .int (z 178), .int x86, .int 0, .int 0, .int (z 181), .int (z 182), .int x61, .int (z 184), .int (z 185), .int (z 186), .int (z 187)])), (ro0, .inr (3, [.int rn, .ref ro1, .ref ro2, .ref ro3])), (ro1, .inl (cI, 12, .inl st)), (ro2, .inl (cI, 12, .inl sl)), (ro3, .inl (cZ, 12, .inl md))] := hD
          have hk : ¬ skipZ z := by unfold skipZ; rw [← hp2]; subst e86 e74 e61 e51 e30 e6; exact fun hh => d31 hh.2
          have hu : fullZ z := xi_ext (by rw [← e51, t51]; rw [e74] at t77; omega)
          have hz : stepZ z = (upd (upd (upd (upd (upd (upd (upd z 189 (z 189 + 1)) 180 (z 180 + 1)) 183 (z 183 + 1)) 179 (z 179 + 1)) 180 0) 189 0) 188 (if z 179 + 1 = z 7 then 1 else 0)) := by rw [stepZ, if_neg hk, if_pos hu]
          exact xk_retv () hx hb hr hlocks (xk_P hP (by rw [hz]; subst e86 e74 e61 e51 e30 e6; rfl)) (by trivial) hS dX1_stepOn_100 hQ
      · have t31 : x30.toInt = 0 := xi_eq rfl (by decide) c31
        have d31 : x30 = 0 := c31
        refine lv_aload_n hx hb dX1_stepOn_34 rfl (lv_at hl 0 rfl) ?_
        refine lv_dup hx hb dX1_stepOn_35 rfl ?_
        refine va_get (D := D) (ci := 1) (v := .int (z 184)) (C := RX1) (T := TX1) (N := 15) hx hb hts xin1 hown hK hP 0 rfl rfl 11 (by decide) (hts _ (List.mem_cons_of_mem _ mw_1_107)) (fun _ h9 => h9) rfl dX1_stepOn_36 ?_
        refine lv_iconst (v := 1) hx hb dX1_stepOn_39 (by decide) ?_
        refine lv_iadd hx hb dX1_stepOn_40 ?_
        refine lv_topi (fun x40 e40 => ?_)
        refine va_put (D := D) (ci := 1) (v := .int x40) (ty := .int) (C := RX1) (T := TX1) (N := 15) hx hb hts xin1 tyX1 tyX1_ok nmX1 hown hK hP hD hS 0 rfl rfl 11 (by decide) (hts _ (List.mem_cons_of_mem _ mw_1_107)) (fun _ h9 => h9) rfl (by decide +kernel) rfl rfl (Nat.le_of_ble_eq_true rfl) dX1_stepOn_41 (fun H locs hP hD hS => ?_)
        have hP : va_P D vwCl [(m0, .inr (1, [.int (z 174), .int (z 175), .int (z 176), .int (z 177), .int (z 178), .int (z 179), .int (z 180), .int x6, .int (z 181), .int (z 182), .int (z 183), .int x40, .int (z 185), .int (z 186), .int (z 187)])), (ro0, .inr (3, [.int rn, .ref ro1, .ref ro2, .ref ro3])), (ro1, .inl (cI, 12, .inl st)), (ro2, .inl (cI, 12, .inl sl)), (ro3, .inl (cZ, 12, .inl md))] H := hP
        have hD : va_D A [(m0, .inr (1, [.int (z 174), .int (z 175), .int (z 176), .int (z 177), .int (z 178), .int (z 179), .int (z 180), .int x6, .int (z 181), .int (z 182), .int (z 183), .int x40, .int (z 185), .int (z 186), .int (z 187)])), (ro0, .inr (3, [.int rn, .ref ro1, .ref ro2, .ref ro3])), (ro1, .inl (cI, 12, .inl st)), (ro2, .inl (cI, 12, .inl sl)), (ro3, .inl (cZ, 12, .inl md))] := hD
        have hk : skipZ z := by unfold skipZ; rw [← hp2]; subst e40 e30 e6; exact ⟨b15.2, d31⟩
        have hz : stepZ z = (upd (upd z 189 (z 189 + 1)) 184 (z 184 + 1)) := by rw [stepZ, if_pos hk]
        exact xk_retv () hx hb hr hlocks (xk_P hP (by rw [hz]; subst e40 e30 e6; rfl)) (by trivial) hS dX1_stepOn_44 hQ
  · have b15 : ¬ (hasS rn (z 179) ∧ ¬ md (z 179).toInt.toNat = 0) := b15
    rw [muddy_z hro hir] at b15
    refine lv_if_eq (tgt := 45) hx hb dX1_stepOn_18 (by decide) (fun _ => ?_) (fun c18 => absurd (by decide) c18)
    refine lv_aload_n hx hb dX1_stepOn_45 rfl (lv_at hl 0 rfl) ?_
    refine lv_dup hx hb dX1_stepOn_46 rfl ?_
    refine va_get (D := D) (ci := 1) (v := .int (z 180)) (C := RX1) (T := TX1) (N := 15) hx hb hts xin1 hown hK hP 0 rfl rfl 6 (by decide) (hts _ (List.mem_cons_of_mem _ mw_1_98)) (fun _ h9 => h9) rfl dX1_stepOn_47 ?_
    refine lv_iconst (v := 1) hx hb dX1_stepOn_50 (by decide) ?_
    refine lv_iadd hx hb dX1_stepOn_51 ?_
    refine lv_topi (fun x51 e51 => ?_)
    have t51 : x51.toInt = ((z 180).toInt) + 1 := by rw [e51]; exact xi_add rfl (by decide) (by omega) (by omega)
    refine va_put (D := D) (ci := 1) (v := .int x51) (ty := .int) (C := RX1) (T := TX1) (N := 15) hx hb hts xin1 tyX1 tyX1_ok nmX1 hown hK hP hD hS 0 rfl rfl 6 (by decide) (hts _ (List.mem_cons_of_mem _ mw_1_98)) (fun _ h9 => h9) rfl (by decide +kernel) rfl rfl (Nat.le_of_ble_eq_true rfl) dX1_stepOn_52 (fun H locs hP hD hS => ?_)
    have hP : va_P D vwCl [(m0, .inr (1, [.int (z 174), .int (z 175), .int (z 176), .int (z 177), .int (z 178), .int (z 179), .int x51, .int x6, .int (z 181), .int (z 182), .int (z 183), .int (z 184), .int (z 185), .int (z 186), .int (z 187)])), (ro0, .inr (3, [.int rn, .ref ro1, .ref ro2, .ref ro3])), (ro1, .inl (cI, 12, .inl st)), (ro2, .inl (cI, 12, .inl sl)), (ro3, .inl (cZ, 12, .inl md))] H := hP
    have hD : va_D A [(m0, .inr (1, [.int (z 174), .int (z 175), .int (z 176), .int (z 177), .int (z 178), .int (z 179), .int x51, .int x6, .int (z 181), .int (z 182), .int (z 183), .int (z 184), .int (z 185), .int (z 186), .int (z 187)])), (ro0, .inr (3, [.int rn, .ref ro1, .ref ro2, .ref ro3])), (ro1, .inl (cI, 12, .inl st)), (ro2, .inl (cI, 12, .inl sl)), (ro3, .inl (cZ, 12, .inl md))] := hD
    refine lv_aload_n hx hb dX1_stepOn_55 rfl (lv_at hl 0 rfl) ?_
    refine lv_dup hx hb dX1_stepOn_56 rfl ?_
    refine va_get (D := D) (ci := 1) (v := .int (z 183)) (C := RX1) (T := TX1) (N := 15) hx hb hts xin1 hown hK hP 0 rfl rfl 10 (by decide) (hts _ (List.mem_cons_of_mem _ mw_1_105)) (fun _ h9 => h9) rfl dX1_stepOn_57 ?_
    refine lv_iconst (v := 1) hx hb dX1_stepOn_60 (by decide) ?_
    refine lv_iadd hx hb dX1_stepOn_61 ?_
    refine lv_topi (fun x61 e61 => ?_)
    refine va_put (D := D) (ci := 1) (v := .int x61) (ty := .int) (C := RX1) (T := TX1) (N := 15) hx hb hts xin1 tyX1 tyX1_ok nmX1 hown hK hP hD hS 0 rfl rfl 10 (by decide) (hts _ (List.mem_cons_of_mem _ mw_1_105)) (fun _ h9 => h9) rfl (by decide +kernel) rfl rfl (Nat.le_of_ble_eq_true rfl) dX1_stepOn_62 (fun H locs hP hD hS => ?_)
    have hP : va_P D vwCl [(m0, .inr (1, [.int (z 174), .int (z 175), .int (z 176), .int (z 177), .int (z 178), .int (z 179), .int x51, .int x6, .int (z 181), .int (z 182), .int x61, .int (z 184), .int (z 185), .int (z 186), .int (z 187)])), (ro0, .inr (3, [.int rn, .ref ro1, .ref ro2, .ref ro3])), (ro1, .inl (cI, 12, .inl st)), (ro2, .inl (cI, 12, .inl sl)), (ro3, .inl (cZ, 12, .inl md))] H := hP
    have hD : va_D A [(m0, .inr (1, [.int (z 174), .int (z 175), .int (z 176), .int (z 177), .int (z 178), .int (z 179), .int x51, .int x6, .int (z 181), .int (z 182), .int x61, .int (z 184), .int (z 185), .int (z 186), .int (z 187)])), (ro0, .inr (3, [.int rn, .ref ro1, .ref ro2, .ref ro3])), (ro1, .inl (cI, 12, .inl st)), (ro2, .inl (cI, 12, .inl sl)), (ro3, .inl (cZ, 12, .inl md))] := hD
    refine lv_aload_n hx hb dX1_stepOn_65 rfl (lv_at hl 0 rfl) ?_
    refine va_get (D := D) (ci := 1) (v := .int x51) (C := RX1) (T := TX1) (N := 15) hx hb hts xin1 hown hK hP 0 rfl rfl 6 (by decide) (hts _ (List.mem_cons_of_mem _ mw_1_98)) (fun _ h9 => h9) rfl dX1_stepOn_66 ?_
    refine lv_aload_n hx hb dX1_stepOn_69 rfl (lv_at hl 1 rfl) ?_
    refine lv_aload_n hx hb dX1_stepOn_70 rfl (lv_at hl 0 rfl) ?_
    refine va_get (D := D) (ci := 1) (v := .int (z 179)) (C := RX1) (T := TX1) (N := 15) hx hb hts xin1 hown hK hP 0 rfl rfl 5 (by decide) (hts _ (List.mem_cons_of_mem _ mw_1_96)) (fun _ h9 => h9) rfl dX1_stepOn_71 ?_
    refine xk_Vi (As := [.int (z 179)]) (rest := [.int x51]) hx hb hml hown hts hK hN hZ hP hD hS hA mb_X3_stepsOf mw_2_208 mw_2_48 mw_2_49 (c_X3_stepsOf l D cI cZ cS ro0 ro1 ro2 ro3 rn st (z 179) ) [1, 2] 1 3 rfl rfl (by decide) rfl (fun _ => by simp only [List.map]) (by decide) (by decide) rfl hl.1 rfl (Nat.le_of_ble_eq_true rfl) dX1_stepOn_74 ⟨Nat.zero_le _, Nat.zero_le _⟩ (fun r74 _ H locs hw hP hD hS => ?_)
    have hP : va_P D vwCl [(m0, .inr (1, [.int (z 174), .int (z 175), .int (z 176), .int (z 177), .int (z 178), .int (z 179), .int x51, .int x6, .int (z 181), .int (z 182), .int x61, .int (z 184), .int (z 185), .int (z 186), .int (z 187)])), (ro0, .inr (3, [.int rn, .ref ro1, .ref ro2, .ref ro3])), (ro1, .inl (cI, 12, .inl st)), (ro2, .inl (cI, 12, .inl sl)), (ro3, .inl (cZ, 12, .inl md))] H := hP
    have hD : va_D A [(m0, .inr (1, [.int (z 174), .int (z 175), .int (z 176), .int (z 177), .int (z 178), .int (z 179), .int x51, .int x6, .int (z 181), .int (z 182), .int x61, .int (z 184), .int (z 185), .int (z 186), .int (z 187)])), (ro0, .inr (3, [.int rn, .ref ro1, .ref ro2, .ref ro3])), (ro1, .inl (cI, 12, .inl st)), (ro2, .inl (cI, 12, .inl sl)), (ro3, .inl (cZ, 12, .inl md))] := hD
    have e74 : r74 = if hasS rn (z 179) then st (z 179).toInt.toNat else 0 := hw
    rw [stepsOf_z hro hir, if_pos (show strC z (z 179) from ⟨hat.1, hat.2⟩)] at e74
    refine lv_icmp_lt (tgt := 100) hx hb dX1_stepOn_77 (by decide) (fun c77 => ?_) (fun c77 => ?_)
    · have t77 : x51.toInt < r74.toInt := xi_lt rfl rfl c77
      have hk : ¬ skipZ z := by unfold skipZ; rw [← hp2]; subst e74 e61 e51 e6; exact fun hh => b15 ⟨⟨hat.1, hat.2⟩, hh.1⟩
      have hu : ¬ fullZ z := fun hh => by have q := congrArg Int32.toInt hh; rw [← e51, t51] at q; rw [e74] at t77; omega
      have hz : stepZ z = (upd (upd (upd z 189 (z 189 + 1)) 180 (z 180 + 1)) 183 (z 183 + 1)) := by rw [stepZ, if_neg hk, if_neg hu]
      exact xk_retv () hx hb hr hlocks (xk_P hP (by rw [hz]; subst e74 e61 e51 e6; rfl)) (by trivial) hS dX1_stepOn_100 hQ
    · have t77 : r74.toInt ≤ x51.toInt := xi_nlt rfl rfl c77
      refine lv_aload_n hx hb dX1_stepOn_80 rfl (lv_at hl 0 rfl) ?_
      refine lv_dup hx hb dX1_stepOn_81 rfl ?_
      refine va_get (D := D) (ci := 1) (v := .int (z 179)) (C := RX1) (T := TX1) (N := 15) hx hb hts xin1 hown hK hP 0 rfl rfl 5 (by decide) (hts _ (List.mem_cons_of_mem _ mw_1_96)) (fun _ h9 => h9) rfl dX1_stepOn_82 ?_
      refine lv_iconst (v := 1) hx hb dX1_stepOn_85 (by decide) ?_
      refine lv_iadd hx hb dX1_stepOn_86 ?_
      refine lv_topi (fun x86 e86 => ?_)
      refine va_put (D := D) (ci := 1) (v := .int x86) (ty := .int) (C := RX1) (T := TX1) (N := 15) hx hb hts xin1 tyX1 tyX1_ok nmX1 hown hK hP hD hS 0 rfl rfl 5 (by decide) (hts _ (List.mem_cons_of_mem _ mw_1_96)) (fun _ h9 => h9) rfl (by decide +kernel) rfl rfl (Nat.le_of_ble_eq_true rfl) dX1_stepOn_87 (fun H locs hP hD hS => ?_)
      have hP : va_P D vwCl [(m0, .inr (1, [.int (z 174), .int (z 175), .int (z 176), .int (z 177), .int (z 178), .int x86, .int x51, .int x6, .int (z 181), .int (z 182), .int x61, .int (z 184), .int (z 185), .int (z 186), .int (z 187)])), (ro0, .inr (3, [.int rn, .ref ro1, .ref ro2, .ref ro3])), (ro1, .inl (cI, 12, .inl st)), (ro2, .inl (cI, 12, .inl sl)), (ro3, .inl (cZ, 12, .inl md))] H := hP
      have hD : va_D A [(m0, .inr (1, [.int (z 174), .int (z 175), .int (z 176), .int (z 177), .int (z 178), .int x86, .int x51, .int x6, .int (z 181), .int (z 182), .int x61, .int (z 184), .int (z 185), .int (z 186), .int (z 187)])), (ro0, .inr (3, [.int rn, .ref ro1, .ref ro2, .ref ro3])), (ro1, .inl (cI, 12, .inl st)), (ro2, .inl (cI, 12, .inl sl)), (ro3, .inl (cZ, 12, .inl md))] := hD
      refine lv_aload_n hx hb dX1_stepOn_90 rfl (lv_at hl 0 rfl) ?_
      refine lv_iconst (v := 0) hx hb dX1_stepOn_91 (by decide) ?_
      refine va_put (D := D) (ci := 1) (v := .int 0) (ty := .int) (C := RX1) (T := TX1) (N := 15) hx hb hts xin1 tyX1 tyX1_ok nmX1 hown hK hP hD hS 0 rfl rfl 6 (by decide) (hts _ (List.mem_cons_of_mem _ mw_1_98)) (fun _ h9 => h9) rfl (by decide +kernel) rfl rfl (Nat.le_of_ble_eq_true rfl) dX1_stepOn_92 (fun H locs hP hD hS => ?_)
      have hP : va_P D vwCl [(m0, .inr (1, [.int (z 174), .int (z 175), .int (z 176), .int (z 177), .int (z 178), .int x86, .int 0, .int x6, .int (z 181), .int (z 182), .int x61, .int (z 184), .int (z 185), .int (z 186), .int (z 187)])), (ro0, .inr (3, [.int rn, .ref ro1, .ref ro2, .ref ro3])), (ro1, .inl (cI, 12, .inl st)), (ro2, .inl (cI, 12, .inl sl)), (ro3, .inl (cZ, 12, .inl md))] H := hP
      have hD : va_D A [(m0, .inr (1, [.int (z 174), .int (z 175), .int (z 176), .int (z 177), .int (z 178), .int x86, .int 0, .int x6, .int (z 181), .int (z 182), .int x61, .int (z 184), .int (z 185), .int (z 186), .int (z 187)])), (ro0, .inr (3, [.int rn, .ref ro1, .ref ro2, .ref ro3])), (ro1, .inl (cI, 12, .inl st)), (ro2, .inl (cI, 12, .inl sl)), (ro3, .inl (cZ, 12, .inl md))] := hD
      refine lv_aload_n hx hb dX1_stepOn_95 rfl (lv_at hl 0 rfl) ?_
      refine lv_iconst (v := 0) hx hb dX1_stepOn_96 (by decide) ?_
      refine va_put (D := D) (ci := 1) (v := .int 0) (ty := .int) (C := RX1) (T := TX1) (N := 15) hx hb hts xin1 tyX1 tyX1_ok nmX1 hown hK hP hD hS 0 rfl rfl 7 (by decide) (hts _ (List.mem_cons_of_mem _ mw_1_100)) (fun _ h9 => h9) rfl (by decide +kernel) rfl rfl (Nat.le_of_ble_eq_true rfl) dX1_stepOn_97 (fun H locs hP hD hS => ?_)
      have hP : va_P D vwCl [(m0, .inr (1, [.int (z 174), .int (z 175), .int (z 176), .int (z 177), .int (z 178), .int x86, .int 0, .int 0, .int (z 181), .int (z 182), .int x61, .int (z 184), .int (z 185), .int (z 186), .int (z 187)])), (ro0, .inr (3, [.int rn, .ref ro1, .ref ro2, .ref ro3])), (ro1, .inl (cI, 12, .inl st)), (ro2, .inl (cI, 12, .inl sl)), (ro3, .inl (cZ, 12, .inl md))] H := hP
      have hD : va_D A [(m0, .inr (1, [.int (z 174), .int (z 175), .int (z 176), .int (z 177), .int (z 178), .int x86, .int 0, .int 0, .int (z 181), .int (z 182), .int x61, .int (z 184), .int (z 185), .int (z 186), .int (z 187)])), (ro0, .inr (3, [.int rn, .ref ro1, .ref ro2, .ref ro3])), (ro1, .inl (cI, 12, .inl st)), (ro2, .inl (cI, 12, .inl sl)), (ro3, .inl (cZ, 12, .inl md))] := hD
      have hk : ¬ skipZ z := by unfold skipZ; rw [← hp2]; subst e86 e74 e61 e51 e6; exact fun hh => b15 ⟨⟨hat.1, hat.2⟩, hh.1⟩
      have hu : fullZ z := xi_ext (by rw [← e51, t51]; rw [e74] at t77; omega)
      have hz : stepZ z = (upd (upd (upd (upd (upd (upd (upd z 189 (z 189 + 1)) 180 (z 180 + 1)) 183 (z 183 + 1)) 179 (z 179 + 1)) 180 0) 189 0) 188 (if z 179 + 1 = z 7 then 1 else 0)) := by rw [stepZ, if_neg hk, if_pos hu]
      exact xk_retv () hx hb hr hlocks (xk_P hP (by rw [hz]; subst e86 e74 e61 e51 e6; rfl)) (by trivial) hS dX1_stepOn_100 hQ

set_option maxHeartbeats 4000000 in
set_option maxRecDepth 100000 in
theorem c_X1_singOn (l : Launch) (D : va_G) (cI cZ cS : ClassId) (g0 g1 g2 g3 : Nat) (gn : Int32) (ft bt mk : Nat → Int32) (z : Nat → Int32) (m0 : Nat) (p2 : Int32) (hso : RSong gn ft bt mk z) (hig : SongOK z) (hsp : SPos z) (h6 : 0 < (z 6).toInt) (h182 : z 182 = 0) (hp2 : p2 = z 1) : xMv l yX1_singOn cX1_singOn 3 none ({ frames := 3, cells := 0, slots := 0, locals := 65 } : Room) D (xTy cI cZ cS) [.ref m0, .ref g0, .int p2] [(m0, .inr (1, [.int (z 174), .int (z 175), .int (z 176), .int (z 177), .int (z 178), .int (z 179), .int (z 180), .int (z 189), .int (z 181), .int (z 182), .int (z 183), .int (z 184), .int (z 185), .int (z 186), .int (z 187)])), (g0, .inr (5, [.int gn, .ref g1, .ref g2, .ref g3])), (g1, .inl (cI, 10, .inl ft)), (g2, .inl (cI, 120, .inl bt)), (g3, .inl (cZ, 120, .inl mk))] (fun (_ : Unit) => True) (fun (_ : Unit) => [(m0, .inr (1, [.int (goOnZ z 174), .int (goOnZ z 175), .int (goOnZ z 176), .int (goOnZ z 177), .int (goOnZ z 178), .int (goOnZ z 179), .int (goOnZ z 180), .int (goOnZ z 189), .int (goOnZ z 181), .int (goOnZ z 182), .int (goOnZ z 183), .int (goOnZ z 184), .int (goOnZ z 185), .int (goOnZ z 186), .int (goOnZ z 187)])), (g0, .inr (5, [.int gn, .ref g1, .ref g2, .ref g3])), (g1, .inl (cI, 10, .inl ft)), (g2, .inl (cI, 120, .inl bt)), (g3, .inl (cZ, 120, .inl mk))]) := by
  refine xk_bodyv (by decide) (Nat.le_of_ble_eq_true rfl) ?_
  intro p e s m below meth c A ls args Q hx hb hr hts hown hlocks hml hin hK hP hD hS hA hN hZ hl hQ
  have hl : lv_has ls 3 [(0, .ref m0), (1, .ref g0), (2, .int p2)] := hl
  have hli : lineC z (z 176) := ⟨hsp.1.1, (hsp.2.2.2 h6).1⟩
  have hfo : footC z (z 176) (z 177) := ⟨hli, hsp.2.1.1, (hsp.2.2.2 h6).2.1⟩
  have hq1 := hsp.1
  have hq2 := hsp.2.1
  have hq3 := hsp.2.2.2 h6
  have hne := notEnd hsp h6
  have hq4 := hig.1
  refine lv_aload_n hx hb dX1_singOn_0 rfl (lv_at hl 0 rfl) ?_
  refine lv_dup hx hb dX1_singOn_1 rfl ?_
  refine va_get (D := D) (ci := 1) (v := .int (z 178)) (C := RX1) (T := TX1) (N := 15) hx hb hts xin1 hown hK hP 0 rfl rfl 4 (by decide) (hts _ (List.mem_cons_of_mem _ mw_1_94)) (fun _ h9 => h9) rfl dX1_singOn_2 ?_
  refine lv_iconst (v := 1) hx hb dX1_singOn_5 (by decide) ?_
  refine lv_iadd hx hb dX1_singOn_6 ?_
  refine lv_topi (fun x6 e6 => ?_)
  refine va_put (D := D) (ci := 1) (v := .int x6) (ty := .int) (C := RX1) (T := TX1) (N := 15) hx hb hts xin1 tyX1 tyX1_ok nmX1 hown hK hP hD hS 0 rfl rfl 4 (by decide) (hts _ (List.mem_cons_of_mem _ mw_1_94)) (fun _ h9 => h9) rfl (by decide +kernel) rfl rfl (Nat.le_of_ble_eq_true rfl) dX1_singOn_7 (fun H locs hP hD hS => ?_)
  have hP : va_P D vwCl [(m0, .inr (1, [.int (z 174), .int (z 175), .int (z 176), .int (z 177), .int x6, .int (z 179), .int (z 180), .int (z 189), .int (z 181), .int (z 182), .int (z 183), .int (z 184), .int (z 185), .int (z 186), .int (z 187)])), (g0, .inr (5, [.int gn, .ref g1, .ref g2, .ref g3])), (g1, .inl (cI, 10, .inl ft)), (g2, .inl (cI, 120, .inl bt)), (g3, .inl (cZ, 120, .inl mk))] H := hP
  have hD : va_D A [(m0, .inr (1, [.int (z 174), .int (z 175), .int (z 176), .int (z 177), .int x6, .int (z 179), .int (z 180), .int (z 189), .int (z 181), .int (z 182), .int (z 183), .int (z 184), .int (z 185), .int (z 186), .int (z 187)])), (g0, .inr (5, [.int gn, .ref g1, .ref g2, .ref g3])), (g1, .inl (cI, 10, .inl ft)), (g2, .inl (cI, 120, .inl bt)), (g3, .inl (cZ, 120, .inl mk))] := hD
  refine lv_aload_n hx hb dX1_singOn_10 rfl (lv_at hl 0 rfl) ?_
  refine va_get (D := D) (ci := 1) (v := .int x6) (C := RX1) (T := TX1) (N := 15) hx hb hts xin1 hown hK hP 0 rfl rfl 4 (by decide) (hts _ (List.mem_cons_of_mem _ mw_1_94)) (fun _ h9 => h9) rfl dX1_singOn_11 ?_
  refine lv_aload_n hx hb dX1_singOn_14 rfl (lv_at hl 1 rfl) ?_
  refine lv_aload_n hx hb dX1_singOn_15 rfl (lv_at hl 0 rfl) ?_
  refine va_get (D := D) (ci := 1) (v := .int (z 176)) (C := RX1) (T := TX1) (N := 15) hx hb hts xin1 hown hK hP 0 rfl rfl 2 (by decide) (hts _ (List.mem_cons_of_mem _ mw_1_90)) (fun _ h9 => h9) rfl dX1_singOn_16 ?_
  refine lv_aload_n hx hb dX1_singOn_19 rfl (lv_at hl 0 rfl) ?_
  refine va_get (D := D) (ci := 1) (v := .int (z 177)) (C := RX1) (T := TX1) (N := 15) hx hb hts xin1 hown hK hP 0 rfl rfl 3 (by decide) (hts _ (List.mem_cons_of_mem _ mw_1_92)) (fun _ h9 => h9) rfl dX1_singOn_20 ?_
  refine xk_Vi (As := [.int (z 176), .int (z 177)]) (rest := [.int x6]) hx hb hml hown hts hK hN hZ hP hD hS hA mb_X5_beatsOf mw_2_213 mw_2_20 mw_2_21 (c_X5_beatsOf l D cI cZ cS g0 g1 g2 g3 gn ft bt (z 176) (z 177) ) [1, 2, 3] 1 5 rfl rfl (by decide) rfl (fun _ => by simp only [List.map]) (by decide) (by decide) rfl hl.1 rfl (Nat.le_of_ble_eq_true rfl) dX1_singOn_23 ⟨Nat.zero_le _, Nat.zero_le _⟩ (fun r23 _ H locs hw hP hD hS => ?_)
  have hP : va_P D vwCl [(m0, .inr (1, [.int (z 174), .int (z 175), .int (z 176), .int (z 177), .int x6, .int (z 179), .int (z 180), .int (z 189), .int (z 181), .int (z 182), .int (z 183), .int (z 184), .int (z 185), .int (z 186), .int (z 187)])), (g0, .inr (5, [.int gn, .ref g1, .ref g2, .ref g3])), (g1, .inl (cI, 10, .inl ft)), (g2, .inl (cI, 120, .inl bt)), (g3, .inl (cZ, 120, .inl mk))] H := hP
  have hD : va_D A [(m0, .inr (1, [.int (z 174), .int (z 175), .int (z 176), .int (z 177), .int x6, .int (z 179), .int (z 180), .int (z 189), .int (z 181), .int (z 182), .int (z 183), .int (z 184), .int (z 185), .int (z 186), .int (z 187)])), (g0, .inr (5, [.int gn, .ref g1, .ref g2, .ref g3])), (g1, .inl (cI, 10, .inl ft)), (g2, .inl (cI, 120, .inl bt)), (g3, .inl (cZ, 120, .inl mk))] := hD
  have e23 : r23 = if hasF gn ft (z 176) (z 177) then bt (12 * (z 176).toInt.toNat + (z 177).toInt.toNat) else 0 := hw
  rw [beatsOf_z hso hig, if_pos hfo] at e23
  refine lv_icmp_ge (tgt := 30) hx hb dX1_singOn_26 (by decide) (fun c26 => ?_) (fun c26 => ?_)
  · have t26 : r23.toInt ≤ x6.toInt := xi_le rfl rfl c26
    refine lv_aload_n hx hb dX1_singOn_30 rfl (lv_at hl 1 rfl) ?_
    refine lv_aload_n hx hb dX1_singOn_31 rfl (lv_at hl 0 rfl) ?_
    refine va_get (D := D) (ci := 1) (v := .int (z 176)) (C := RX1) (T := TX1) (N := 15) hx hb hts xin1 hown hK hP 0 rfl rfl 2 (by decide) (hts _ (List.mem_cons_of_mem _ mw_1_90)) (fun _ h9 => h9) rfl dX1_singOn_32 ?_
    refine lv_aload_n hx hb dX1_singOn_35 rfl (lv_at hl 0 rfl) ?_
    refine va_get (D := D) (ci := 1) (v := .int (z 177)) (C := RX1) (T := TX1) (N := 15) hx hb hts xin1 hown hK hP 0 rfl rfl 3 (by decide) (hts _ (List.mem_cons_of_mem _ mw_1_92)) (fun _ h9 => h9) rfl dX1_singOn_36 ?_
    refine xk_Vi (As := [.int (z 176), .int (z 177)]) (rest := []) hx hb hml hown hts hK hN hZ hP hD hS hA mb_X5_isMarked mw_2_214 mw_2_40 mw_2_41 (c_X5_isMarked l D cI cZ cS g0 g1 g2 g3 gn ft mk (z 176) (z 177) ) [1, 2, 4] 1 5 rfl rfl (by decide) rfl (fun _ => by simp only [List.map]) (by decide) (by decide) rfl hl.1 rfl (Nat.le_of_ble_eq_true rfl) dX1_singOn_39 ⟨Nat.zero_le _, Nat.zero_le _⟩ (fun r39 _ H locs hw hP hD hS => ?_)
    have hP : va_P D vwCl [(m0, .inr (1, [.int (z 174), .int (z 175), .int (z 176), .int (z 177), .int x6, .int (z 179), .int (z 180), .int (z 189), .int (z 181), .int (z 182), .int (z 183), .int (z 184), .int (z 185), .int (z 186), .int (z 187)])), (g0, .inr (5, [.int gn, .ref g1, .ref g2, .ref g3])), (g1, .inl (cI, 10, .inl ft)), (g2, .inl (cI, 120, .inl bt)), (g3, .inl (cZ, 120, .inl mk))] H := hP
    have hD : va_D A [(m0, .inr (1, [.int (z 174), .int (z 175), .int (z 176), .int (z 177), .int x6, .int (z 179), .int (z 180), .int (z 189), .int (z 181), .int (z 182), .int (z 183), .int (z 184), .int (z 185), .int (z 186), .int (z 187)])), (g0, .inr (5, [.int gn, .ref g1, .ref g2, .ref g3])), (g1, .inl (cI, 10, .inl ft)), (g2, .inl (cI, 120, .inl bt)), (g3, .inl (cZ, 120, .inl mk))] := hD
    rcases hw with ⟨rfl, b39⟩ | ⟨rfl, b39⟩
    · have b39 : hasF gn ft (z 176) (z 177) ∧ ¬ mk (12 * (z 176).toInt.toNat + (z 177).toInt.toNat) = 0 := b39
      rw [marked_z hso hig] at b39
      refine lv_if_eq (tgt := 50) hx hb dX1_singOn_42 (by decide) (fun c42 => absurd c42 (by decide)) (fun _ => ?_)
      refine lv_aload_n hx hb dX1_singOn_45 rfl (lv_at hl 0 rfl) ?_
      refine lv_iload_n hx hb dX1_singOn_46 rfl (lv_at hl 2 rfl) ?_
      refine va_put (D := D) (ci := 1) (v := .int p2) (ty := .int) (C := RX1) (T := TX1) (N := 15) hx hb hts xin1 tyX1 tyX1_ok nmX1 hown hK hP hD hS 0 rfl rfl 9 (by decide) (hts _ (List.mem_cons_of_mem _ mw_1_103)) (fun _ h9 => h9) rfl (by decide +kernel) rfl rfl (Nat.le_of_ble_eq_true rfl) dX1_singOn_47 (fun H locs hP hD hS => ?_)
      have hP : va_P D vwCl [(m0, .inr (1, [.int (z 174), .int (z 175), .int (z 176), .int (z 177), .int x6, .int (z 179), .int (z 180), .int (z 189), .int (z 181), .int p2, .int (z 183), .int (z 184), .int (z 185), .int (z 186), .int (z 187)])), (g0, .inr (5, [.int gn, .ref g1, .ref g2, .ref g3])), (g1, .inl (cI, 10, .inl ft)), (g2, .inl (cI, 120, .inl bt)), (g3, .inl (cZ, 120, .inl mk))] H := hP
      have hD : va_D A [(m0, .inr (1, [.int (z 174), .int (z 175), .int (z 176), .int (z 177), .int x6, .int (z 179), .int (z 180), .int (z 189), .int (z 181), .int p2, .int (z 183), .int (z 184), .int (z 185), .int (z 186), .int (z 187)])), (g0, .inr (5, [.int gn, .ref g1, .ref g2, .ref g3])), (g1, .inl (cI, 10, .inl ft)), (g2, .inl (cI, 120, .inl bt)), (g3, .inl (cZ, 120, .inl mk))] := hD
      refine lv_aload_n hx hb dX1_singOn_50 rfl (lv_at hl 0 rfl) ?_
      refine lv_iconst (v := 0) hx hb dX1_singOn_51 (by decide) ?_
      refine va_put (D := D) (ci := 1) (v := .int 0) (ty := .int) (C := RX1) (T := TX1) (N := 15) hx hb hts xin1 tyX1 tyX1_ok nmX1 hown hK hP hD hS 0 rfl rfl 4 (by decide) (hts _ (List.mem_cons_of_mem _ mw_1_94)) (fun _ h9 => h9) rfl (by decide +kernel) rfl rfl (Nat.le_of_ble_eq_true rfl) dX1_singOn_52 (fun H locs hP hD hS => ?_)
      have hP : va_P D vwCl [(m0, .inr (1, [.int (z 174), .int (z 175), .int (z 176), .int (z 177), .int 0, .int (z 179), .int (z 180), .int (z 189), .int (z 181), .int p2, .int (z 183), .int (z 184), .int (z 185), .int (z 186), .int (z 187)])), (g0, .inr (5, [.int gn, .ref g1, .ref g2, .ref g3])), (g1, .inl (cI, 10, .inl ft)), (g2, .inl (cI, 120, .inl bt)), (g3, .inl (cZ, 120, .inl mk))] H := hP
      have hD : va_D A [(m0, .inr (1, [.int (z 174), .int (z 175), .int (z 176), .int (z 177), .int 0, .int (z 179), .int (z 180), .int (z 189), .int (z 181), .int p2, .int (z 183), .int (z 184), .int (z 185), .int (z 186), .int (z 187)])), (g0, .inr (5, [.int gn, .ref g1, .ref g2, .ref g3])), (g1, .inl (cI, 10, .inl ft)), (g2, .inl (cI, 120, .inl bt)), (g3, .inl (cZ, 120, .inl mk))] := hD
      refine lv_aload_n hx hb dX1_singOn_55 rfl (lv_at hl 0 rfl) ?_
      refine lv_dup hx hb dX1_singOn_56 rfl ?_
      refine va_get (D := D) (ci := 1) (v := .int (z 177)) (C := RX1) (T := TX1) (N := 15) hx hb hts xin1 hown hK hP 0 rfl rfl 3 (by decide) (hts _ (List.mem_cons_of_mem _ mw_1_92)) (fun _ h9 => h9) rfl dX1_singOn_57 ?_
      refine lv_iconst (v := 1) hx hb dX1_singOn_60 (by decide) ?_
      refine lv_iadd hx hb dX1_singOn_61 ?_
      refine lv_topi (fun x61 e61 => ?_)
      have t61 : x61.toInt = ((z 177).toInt) + 1 := by rw [e61]; exact xi_add rfl (by decide) (by omega) (by omega)
      refine va_put (D := D) (ci := 1) (v := .int x61) (ty := .int) (C := RX1) (T := TX1) (N := 15) hx hb hts xin1 tyX1 tyX1_ok nmX1 hown hK hP hD hS 0 rfl rfl 3 (by decide) (hts _ (List.mem_cons_of_mem _ mw_1_92)) (fun _ h9 => h9) rfl (by decide +kernel) rfl rfl (Nat.le_of_ble_eq_true rfl) dX1_singOn_62 (fun H locs hP hD hS => ?_)
      have hP : va_P D vwCl [(m0, .inr (1, [.int (z 174), .int (z 175), .int (z 176), .int x61, .int 0, .int (z 179), .int (z 180), .int (z 189), .int (z 181), .int p2, .int (z 183), .int (z 184), .int (z 185), .int (z 186), .int (z 187)])), (g0, .inr (5, [.int gn, .ref g1, .ref g2, .ref g3])), (g1, .inl (cI, 10, .inl ft)), (g2, .inl (cI, 120, .inl bt)), (g3, .inl (cZ, 120, .inl mk))] H := hP
      have hD : va_D A [(m0, .inr (1, [.int (z 174), .int (z 175), .int (z 176), .int x61, .int 0, .int (z 179), .int (z 180), .int (z 189), .int (z 181), .int p2, .int (z 183), .int (z 184), .int (z 185), .int (z 186), .int (z 187)])), (g0, .inr (5, [.int gn, .ref g1, .ref g2, .ref g3])), (g1, .inl (cI, 10, .inl ft)), (g2, .inl (cI, 120, .inl bt)), (g3, .inl (cZ, 120, .inl mk))] := hD
      refine lv_aload_n hx hb dX1_singOn_65 rfl (lv_at hl 0 rfl) ?_
      refine va_get (D := D) (ci := 1) (v := .int x61) (C := RX1) (T := TX1) (N := 15) hx hb hts xin1 hown hK hP 0 rfl rfl 3 (by decide) (hts _ (List.mem_cons_of_mem _ mw_1_92)) (fun _ h9 => h9) rfl dX1_singOn_66 ?_
      refine lv_aload_n hx hb dX1_singOn_69 rfl (lv_at hl 1 rfl) ?_
      refine lv_aload_n hx hb dX1_singOn_70 rfl (lv_at hl 0 rfl) ?_
      refine va_get (D := D) (ci := 1) (v := .int (z 176)) (C := RX1) (T := TX1) (N := 15) hx hb hts xin1 hown hK hP 0 rfl rfl 2 (by decide) (hts _ (List.mem_cons_of_mem _ mw_1_90)) (fun _ h9 => h9) rfl dX1_singOn_71 ?_
      refine xk_Vi (As := [.int (z 176)]) (rest := [.int x61]) hx hb hml hown hts hK hN hZ hP hD hS hA mb_X5_feetOf mw_2_215 mw_2_158 mw_2_159 (c_X5_feetOf l D cI cZ cS g0 g1 g2 g3 gn ft (z 176) ) [1, 2] 1 5 rfl rfl (by decide) rfl (fun _ => by simp only [List.map]) (by decide) (by decide) rfl hl.1 rfl (Nat.le_of_ble_eq_true rfl) dX1_singOn_74 ⟨Nat.zero_le _, Nat.zero_le _⟩ (fun r74 _ H locs hw hP hD hS => ?_)
      have hP : va_P D vwCl [(m0, .inr (1, [.int (z 174), .int (z 175), .int (z 176), .int x61, .int 0, .int (z 179), .int (z 180), .int (z 189), .int (z 181), .int p2, .int (z 183), .int (z 184), .int (z 185), .int (z 186), .int (z 187)])), (g0, .inr (5, [.int gn, .ref g1, .ref g2, .ref g3])), (g1, .inl (cI, 10, .inl ft)), (g2, .inl (cI, 120, .inl bt)), (g3, .inl (cZ, 120, .inl mk))] H := hP
      have hD : va_D A [(m0, .inr (1, [.int (z 174), .int (z 175), .int (z 176), .int x61, .int 0, .int (z 179), .int (z 180), .int (z 189), .int (z 181), .int p2, .int (z 183), .int (z 184), .int (z 185), .int (z 186), .int (z 187)])), (g0, .inr (5, [.int gn, .ref g1, .ref g2, .ref g3])), (g1, .inl (cI, 10, .inl ft)), (g2, .inl (cI, 120, .inl bt)), (g3, .inl (cZ, 120, .inl mk))] := hD
      have e74 : r74 = if hasL gn (z 176) then ft (z 176).toInt.toNat else 0 := hw
      rw [feetOf_z hso hig, if_pos hli] at e74
      refine lv_icmp_ge (tgt := 81) hx hb dX1_singOn_77 (by decide) (fun c77 => ?_) (fun c77 => ?_)
      · have t77 : r74.toInt ≤ x61.toInt := xi_le rfl rfl c77
        refine lv_aload_n hx hb dX1_singOn_81 rfl (lv_at hl 0 rfl) ?_
        refine lv_iconst (v := 0) hx hb dX1_singOn_82 (by decide) ?_
        refine va_put (D := D) (ci := 1) (v := .int 0) (ty := .int) (C := RX1) (T := TX1) (N := 15) hx hb hts xin1 tyX1 tyX1_ok nmX1 hown hK hP hD hS 0 rfl rfl 3 (by decide) (hts _ (List.mem_cons_of_mem _ mw_1_92)) (fun _ h9 => h9) rfl (by decide +kernel) rfl rfl (Nat.le_of_ble_eq_true rfl) dX1_singOn_83 (fun H locs hP hD hS => ?_)
        have hP : va_P D vwCl [(m0, .inr (1, [.int (z 174), .int (z 175), .int (z 176), .int 0, .int 0, .int (z 179), .int (z 180), .int (z 189), .int (z 181), .int p2, .int (z 183), .int (z 184), .int (z 185), .int (z 186), .int (z 187)])), (g0, .inr (5, [.int gn, .ref g1, .ref g2, .ref g3])), (g1, .inl (cI, 10, .inl ft)), (g2, .inl (cI, 120, .inl bt)), (g3, .inl (cZ, 120, .inl mk))] H := hP
        have hD : va_D A [(m0, .inr (1, [.int (z 174), .int (z 175), .int (z 176), .int 0, .int 0, .int (z 179), .int (z 180), .int (z 189), .int (z 181), .int p2, .int (z 183), .int (z 184), .int (z 185), .int (z 186), .int (z 187)])), (g0, .inr (5, [.int gn, .ref g1, .ref g2, .ref g3])), (g1, .inl (cI, 10, .inl ft)), (g2, .inl (cI, 120, .inl bt)), (g3, .inl (cZ, 120, .inl mk))] := hD
        refine lv_aload_n hx hb dX1_singOn_86 rfl (lv_at hl 0 rfl) ?_
        refine lv_dup hx hb dX1_singOn_87 rfl ?_
        refine va_get (D := D) (ci := 1) (v := .int (z 176)) (C := RX1) (T := TX1) (N := 15) hx hb hts xin1 hown hK hP 0 rfl rfl 2 (by decide) (hts _ (List.mem_cons_of_mem _ mw_1_90)) (fun _ h9 => h9) rfl dX1_singOn_88 ?_
        refine lv_iconst (v := 1) hx hb dX1_singOn_91 (by decide) ?_
        refine lv_iadd hx hb dX1_singOn_92 ?_
        refine lv_topi (fun x92 e92 => ?_)
        have t92 : x92.toInt = ((z 176).toInt) + 1 := by rw [e92]; exact xi_add rfl (by decide) (by omega) (by omega)
        refine va_put (D := D) (ci := 1) (v := .int x92) (ty := .int) (C := RX1) (T := TX1) (N := 15) hx hb hts xin1 tyX1 tyX1_ok nmX1 hown hK hP hD hS 0 rfl rfl 2 (by decide) (hts _ (List.mem_cons_of_mem _ mw_1_90)) (fun _ h9 => h9) rfl (by decide +kernel) rfl rfl (Nat.le_of_ble_eq_true rfl) dX1_singOn_93 (fun H locs hP hD hS => ?_)
        have hP : va_P D vwCl [(m0, .inr (1, [.int (z 174), .int (z 175), .int x92, .int 0, .int 0, .int (z 179), .int (z 180), .int (z 189), .int (z 181), .int p2, .int (z 183), .int (z 184), .int (z 185), .int (z 186), .int (z 187)])), (g0, .inr (5, [.int gn, .ref g1, .ref g2, .ref g3])), (g1, .inl (cI, 10, .inl ft)), (g2, .inl (cI, 120, .inl bt)), (g3, .inl (cZ, 120, .inl mk))] H := hP
        have hD : va_D A [(m0, .inr (1, [.int (z 174), .int (z 175), .int x92, .int 0, .int 0, .int (z 179), .int (z 180), .int (z 189), .int (z 181), .int p2, .int (z 183), .int (z 184), .int (z 185), .int (z 186), .int (z 187)])), (g0, .inr (5, [.int gn, .ref g1, .ref g2, .ref g3])), (g1, .inl (cI, 10, .inl ft)), (g2, .inl (cI, 120, .inl bt)), (g3, .inl (cZ, 120, .inl mk))] := hD
        refine lv_aload_n hx hb dX1_singOn_96 rfl (lv_at hl 0 rfl) ?_
        refine va_get (D := D) (ci := 1) (v := .int x92) (C := RX1) (T := TX1) (N := 15) hx hb hts xin1 hown hK hP 0 rfl rfl 2 (by decide) (hts _ (List.mem_cons_of_mem _ mw_1_90)) (fun _ h9 => h9) rfl dX1_singOn_97 ?_
        refine lv_aload_n hx hb dX1_singOn_100 rfl (lv_at hl 1 rfl) ?_
        refine va_getN (D := D) (ci := 5) (v := .int gn) (C := RX5) (T := TX5) (N := 4) hx hb hts xin5 hown hK hP 1 rfl rfl 0 (by decide) (xnf_2 hN) (fun _ h9 => h9) rfl dX1_singOn_101 ?_
        refine lv_icmp_ge (tgt := 108) hx hb dX1_singOn_104 (by decide) (fun c104 => ?_) (fun c104 => ?_)
        · have t104 : gn.toInt ≤ x92.toInt := xi_le rfl rfl c104
          refine lv_aload_n hx hb dX1_singOn_108 rfl (lv_at hl 0 rfl) ?_
          refine lv_iconst (v := 0) hx hb dX1_singOn_109 (by decide) ?_
          refine va_put (D := D) (ci := 1) (v := .int 0) (ty := .int) (C := RX1) (T := TX1) (N := 15) hx hb hts xin1 tyX1 tyX1_ok nmX1 hown hK hP hD hS 0 rfl rfl 2 (by decide) (hts _ (List.mem_cons_of_mem _ mw_1_90)) (fun _ h9 => h9) rfl (by decide +kernel) rfl rfl (Nat.le_of_ble_eq_true rfl) dX1_singOn_110 (fun H locs hP hD hS => ?_)
          have hP : va_P D vwCl [(m0, .inr (1, [.int (z 174), .int (z 175), .int 0, .int 0, .int 0, .int (z 179), .int (z 180), .int (z 189), .int (z 181), .int p2, .int (z 183), .int (z 184), .int (z 185), .int (z 186), .int (z 187)])), (g0, .inr (5, [.int gn, .ref g1, .ref g2, .ref g3])), (g1, .inl (cI, 10, .inl ft)), (g2, .inl (cI, 120, .inl bt)), (g3, .inl (cZ, 120, .inl mk))] H := hP
          have hD : va_D A [(m0, .inr (1, [.int (z 174), .int (z 175), .int 0, .int 0, .int 0, .int (z 179), .int (z 180), .int (z 189), .int (z 181), .int p2, .int (z 183), .int (z 184), .int (z 185), .int (z 186), .int (z 187)])), (g0, .inr (5, [.int gn, .ref g1, .ref g2, .ref g3])), (g1, .inl (cI, 10, .inl ft)), (g2, .inl (cI, 120, .inl bt)), (g3, .inl (cZ, 120, .inl mk))] := hD
          refine lv_aload_n hx hb dX1_singOn_113 rfl (lv_at hl 0 rfl) ?_
          refine lv_dup hx hb dX1_singOn_114 rfl ?_
          refine va_get (D := D) (ci := 1) (v := .int (z 186)) (C := RX1) (T := TX1) (N := 15) hx hb hts xin1 hown hK hP 0 rfl rfl 13 (by decide) (hts _ (List.mem_cons_of_mem _ mw_1_111)) (fun _ h9 => h9) rfl dX1_singOn_115 ?_
          refine lv_iconst (v := 1) hx hb dX1_singOn_118 (by decide) ?_
          refine lv_iadd hx hb dX1_singOn_119 ?_
          refine lv_topi (fun x119 e119 => ?_)
          refine va_put (D := D) (ci := 1) (v := .int x119) (ty := .int) (C := RX1) (T := TX1) (N := 15) hx hb hts xin1 tyX1 tyX1_ok nmX1 hown hK hP hD hS 0 rfl rfl 13 (by decide) (hts _ (List.mem_cons_of_mem _ mw_1_111)) (fun _ h9 => h9) rfl (by decide +kernel) rfl rfl (Nat.le_of_ble_eq_true rfl) dX1_singOn_120 (fun H locs hP hD hS => ?_)
          have hP : va_P D vwCl [(m0, .inr (1, [.int (z 174), .int (z 175), .int 0, .int 0, .int 0, .int (z 179), .int (z 180), .int (z 189), .int (z 181), .int p2, .int (z 183), .int (z 184), .int (z 185), .int x119, .int (z 187)])), (g0, .inr (5, [.int gn, .ref g1, .ref g2, .ref g3])), (g1, .inl (cI, 10, .inl ft)), (g2, .inl (cI, 120, .inl bt)), (g3, .inl (cZ, 120, .inl mk))] H := hP
          have hD : va_D A [(m0, .inr (1, [.int (z 174), .int (z 175), .int 0, .int 0, .int 0, .int (z 179), .int (z 180), .int (z 189), .int (z 181), .int p2, .int (z 183), .int (z 184), .int (z 185), .int x119, .int (z 187)])), (g0, .inr (5, [.int gn, .ref g1, .ref g2, .ref g3])), (g1, .inl (cI, 10, .inl ft)), (g2, .inl (cI, 120, .inl bt)), (g3, .inl (cZ, 120, .inl mk))] := hD
          have hf : ¬ inFootZ z := by rw [e23] at t26; subst e119 e92 e74 e61 e23 e6; exact Int.not_lt.mpr t26
          have hft : footEZ z = (upd (upd (upd (upd z 178 (z 178 + 1)) 178 0) 182 (z 1)) 177 (z 177 + 1)) := by rw [footEZ, if_pos b39.2]
          have hil : ¬ inLineZ z := by exact fun hh => hh (xi_ext (by rw [← e61, t61]; rw [e74] at t77; omega))
          have hln : lineEZ z = (upd (upd (upd (upd (upd (upd z 178 (z 178 + 1)) 178 0) 182 (z 1)) 177 (z 177 + 1)) 177 0) 176 (z 176 + 1)) := by rw [lineEZ, if_neg hil, hft]
          have hs : songEZ z := by show lineEZ z 176 = z 6; rw [hln]; show z 176 + 1 = z 6; rw [← e92]; exact xi_ext (by rw [t92]; rw [hso.1] at t104; omega)
          have hz : goOnZ z = (upd (upd (upd (upd (upd (upd (upd (upd z 178 (z 178 + 1)) 178 0) 182 (z 1)) 177 (z 177 + 1)) 177 0) 176 (z 176 + 1)) 176 0) 186 (z 186 + 1)) := by rw [goOnZ, if_neg hf, if_pos hs, hln]
          exact xk_retv () hx hb hr hlocks (xk_P hP (by rw [hz]; rw [← hp2]; subst e119 e92 e74 e61 e23 e6; rfl)) (by trivial) hS dX1_singOn_123 hQ
        · have t104 : x92.toInt < gn.toInt := xi_nle rfl rfl c104
          have hf : ¬ inFootZ z := by rw [e23] at t26; subst e92 e74 e61 e23 e6; exact Int.not_lt.mpr t26
          have hft : footEZ z = (upd (upd (upd (upd z 178 (z 178 + 1)) 178 0) 182 (z 1)) 177 (z 177 + 1)) := by rw [footEZ, if_pos b39.2]
          have hil : ¬ inLineZ z := by exact fun hh => hh (xi_ext (by rw [← e61, t61]; rw [e74] at t77; omega))
          have hln : lineEZ z = (upd (upd (upd (upd (upd (upd z 178 (z 178 + 1)) 178 0) 182 (z 1)) 177 (z 177 + 1)) 177 0) 176 (z 176 + 1)) := by rw [lineEZ, if_neg hil, hft]
          have hs : ¬ songEZ z := by show ¬ lineEZ z 176 = z 6; rw [hln]; show ¬ z 176 + 1 = z 6; rw [← e92]; exact fun hh => by have q := congrArg Int32.toInt hh; rw [t92] at q; rw [hso.1] at t104; omega
          have hz : goOnZ z = (upd (upd (upd (upd (upd (upd z 178 (z 178 + 1)) 178 0) 182 (z 1)) 177 (z 177 + 1)) 177 0) 176 (z 176 + 1)) := by rw [goOnZ, if_neg hf, if_neg hs, hln]
          exact xk_retv () hx hb hr hlocks (xk_P hP (by rw [hz]; rw [← hp2]; subst e92 e74 e61 e23 e6; rfl)) (by trivial) hS dX1_singOn_107 hQ
      · have t77 : x61.toInt < r74.toInt := xi_nle rfl rfl c77
        have hf : ¬ inFootZ z := by rw [e23] at t26; subst e74 e61 e23 e6; exact Int.not_lt.mpr t26
        have hft : footEZ z = (upd (upd (upd (upd z 178 (z 178 + 1)) 178 0) 182 (z 1)) 177 (z 177 + 1)) := by rw [footEZ, if_pos b39.2]
        have hil : inLineZ z := by exact fun hh => by have q := congrArg Int32.toInt hh; rw [← e61, t61] at q; rw [e74] at t77; omega
        have hln : lineEZ z = (upd (upd (upd (upd z 178 (z 178 + 1)) 178 0) 182 (z 1)) 177 (z 177 + 1)) := by rw [lineEZ, if_pos hil, hft]
        have hs : ¬ songEZ z := by show ¬ lineEZ z 176 = z 6; rw [hln]; exact hne
        have hz : goOnZ z = (upd (upd (upd (upd z 178 (z 178 + 1)) 178 0) 182 (z 1)) 177 (z 177 + 1)) := by rw [goOnZ, if_neg hf, if_neg hs, hln]
        exact xk_retv () hx hb hr hlocks (xk_P hP (by rw [hz]; rw [← hp2]; subst e74 e61 e23 e6; rfl)) (by trivial) hS dX1_singOn_80 hQ
    · have b39 : ¬ (hasF gn ft (z 176) (z 177) ∧ ¬ mk (12 * (z 176).toInt.toNat + (z 177).toInt.toNat) = 0) := b39
      rw [marked_z hso hig] at b39
      refine lv_if_eq (tgt := 50) hx hb dX1_singOn_42 (by decide) (fun _ => ?_) (fun c42 => absurd (by decide) c42)
      refine lv_aload_n hx hb dX1_singOn_50 rfl (lv_at hl 0 rfl) ?_
      refine lv_iconst (v := 0) hx hb dX1_singOn_51 (by decide) ?_
      refine va_put (D := D) (ci := 1) (v := .int 0) (ty := .int) (C := RX1) (T := TX1) (N := 15) hx hb hts xin1 tyX1 tyX1_ok nmX1 hown hK hP hD hS 0 rfl rfl 4 (by decide) (hts _ (List.mem_cons_of_mem _ mw_1_94)) (fun _ h9 => h9) rfl (by decide +kernel) rfl rfl (Nat.le_of_ble_eq_true rfl) dX1_singOn_52 (fun H locs hP hD hS => ?_)
      have hP : va_P D vwCl [(m0, .inr (1, [.int (z 174), .int (z 175), .int (z 176), .int (z 177), .int 0, .int (z 179), .int (z 180), .int (z 189), .int (z 181), .int (z 182), .int (z 183), .int (z 184), .int (z 185), .int (z 186), .int (z 187)])), (g0, .inr (5, [.int gn, .ref g1, .ref g2, .ref g3])), (g1, .inl (cI, 10, .inl ft)), (g2, .inl (cI, 120, .inl bt)), (g3, .inl (cZ, 120, .inl mk))] H := hP
      have hD : va_D A [(m0, .inr (1, [.int (z 174), .int (z 175), .int (z 176), .int (z 177), .int 0, .int (z 179), .int (z 180), .int (z 189), .int (z 181), .int (z 182), .int (z 183), .int (z 184), .int (z 185), .int (z 186), .int (z 187)])), (g0, .inr (5, [.int gn, .ref g1, .ref g2, .ref g3])), (g1, .inl (cI, 10, .inl ft)), (g2, .inl (cI, 120, .inl bt)), (g3, .inl (cZ, 120, .inl mk))] := hD
      refine lv_aload_n hx hb dX1_singOn_55 rfl (lv_at hl 0 rfl) ?_
      refine lv_dup hx hb dX1_singOn_56 rfl ?_
      refine va_get (D := D) (ci := 1) (v := .int (z 177)) (C := RX1) (T := TX1) (N := 15) hx hb hts xin1 hown hK hP 0 rfl rfl 3 (by decide) (hts _ (List.mem_cons_of_mem _ mw_1_92)) (fun _ h9 => h9) rfl dX1_singOn_57 ?_
      refine lv_iconst (v := 1) hx hb dX1_singOn_60 (by decide) ?_
      refine lv_iadd hx hb dX1_singOn_61 ?_
      refine lv_topi (fun x61 e61 => ?_)
      have t61 : x61.toInt = ((z 177).toInt) + 1 := by rw [e61]; exact xi_add rfl (by decide) (by omega) (by omega)
      refine va_put (D := D) (ci := 1) (v := .int x61) (ty := .int) (C := RX1) (T := TX1) (N := 15) hx hb hts xin1 tyX1 tyX1_ok nmX1 hown hK hP hD hS 0 rfl rfl 3 (by decide) (hts _ (List.mem_cons_of_mem _ mw_1_92)) (fun _ h9 => h9) rfl (by decide +kernel) rfl rfl (Nat.le_of_ble_eq_true rfl) dX1_singOn_62 (fun H locs hP hD hS => ?_)
      have hP : va_P D vwCl [(m0, .inr (1, [.int (z 174), .int (z 175), .int (z 176), .int x61, .int 0, .int (z 179), .int (z 180), .int (z 189), .int (z 181), .int (z 182), .int (z 183), .int (z 184), .int (z 185), .int (z 186), .int (z 187)])), (g0, .inr (5, [.int gn, .ref g1, .ref g2, .ref g3])), (g1, .inl (cI, 10, .inl ft)), (g2, .inl (cI, 120, .inl bt)), (g3, .inl (cZ, 120, .inl mk))] H := hP
      have hD : va_D A [(m0, .inr (1, [.int (z 174), .int (z 175), .int (z 176), .int x61, .int 0, .int (z 179), .int (z 180), .int (z 189), .int (z 181), .int (z 182), .int (z 183), .int (z 184), .int (z 185), .int (z 186), .int (z 187)])), (g0, .inr (5, [.int gn, .ref g1, .ref g2, .ref g3])), (g1, .inl (cI, 10, .inl ft)), (g2, .inl (cI, 120, .inl bt)), (g3, .inl (cZ, 120, .inl mk))] := hD
      refine lv_aload_n hx hb dX1_singOn_65 rfl (lv_at hl 0 rfl) ?_
      refine va_get (D := D) (ci := 1) (v := .int x61) (C := RX1) (T := TX1) (N := 15) hx hb hts xin1 hown hK hP 0 rfl rfl 3 (by decide) (hts _ (List.mem_cons_of_mem _ mw_1_92)) (fun _ h9 => h9) rfl dX1_singOn_66 ?_
      refine lv_aload_n hx hb dX1_singOn_69 rfl (lv_at hl 1 rfl) ?_
      refine lv_aload_n hx hb dX1_singOn_70 rfl (lv_at hl 0 rfl) ?_
      refine va_get (D := D) (ci := 1) (v := .int (z 176)) (C := RX1) (T := TX1) (N := 15) hx hb hts xin1 hown hK hP 0 rfl rfl 2 (by decide) (hts _ (List.mem_cons_of_mem _ mw_1_90)) (fun _ h9 => h9) rfl dX1_singOn_71 ?_
      refine xk_Vi (As := [.int (z 176)]) (rest := [.int x61]) hx hb hml hown hts hK hN hZ hP hD hS hA mb_X5_feetOf mw_2_215 mw_2_158 mw_2_159 (c_X5_feetOf l D cI cZ cS g0 g1 g2 g3 gn ft (z 176) ) [1, 2] 1 5 rfl rfl (by decide) rfl (fun _ => by simp only [List.map]) (by decide) (by decide) rfl hl.1 rfl (Nat.le_of_ble_eq_true rfl) dX1_singOn_74 ⟨Nat.zero_le _, Nat.zero_le _⟩ (fun r74 _ H locs hw hP hD hS => ?_)
      have hP : va_P D vwCl [(m0, .inr (1, [.int (z 174), .int (z 175), .int (z 176), .int x61, .int 0, .int (z 179), .int (z 180), .int (z 189), .int (z 181), .int (z 182), .int (z 183), .int (z 184), .int (z 185), .int (z 186), .int (z 187)])), (g0, .inr (5, [.int gn, .ref g1, .ref g2, .ref g3])), (g1, .inl (cI, 10, .inl ft)), (g2, .inl (cI, 120, .inl bt)), (g3, .inl (cZ, 120, .inl mk))] H := hP
      have hD : va_D A [(m0, .inr (1, [.int (z 174), .int (z 175), .int (z 176), .int x61, .int 0, .int (z 179), .int (z 180), .int (z 189), .int (z 181), .int (z 182), .int (z 183), .int (z 184), .int (z 185), .int (z 186), .int (z 187)])), (g0, .inr (5, [.int gn, .ref g1, .ref g2, .ref g3])), (g1, .inl (cI, 10, .inl ft)), (g2, .inl (cI, 120, .inl bt)), (g3, .inl (cZ, 120, .inl mk))] := hD
      have e74 : r74 = if hasL gn (z 176) then ft (z 176).toInt.toNat else 0 := hw
      rw [feetOf_z hso hig, if_pos hli] at e74
      refine lv_icmp_ge (tgt := 81) hx hb dX1_singOn_77 (by decide) (fun c77 => ?_) (fun c77 => ?_)
      · have t77 : r74.toInt ≤ x61.toInt := xi_le rfl rfl c77
        refine lv_aload_n hx hb dX1_singOn_81 rfl (lv_at hl 0 rfl) ?_
        refine lv_iconst (v := 0) hx hb dX1_singOn_82 (by decide) ?_
        refine va_put (D := D) (ci := 1) (v := .int 0) (ty := .int) (C := RX1) (T := TX1) (N := 15) hx hb hts xin1 tyX1 tyX1_ok nmX1 hown hK hP hD hS 0 rfl rfl 3 (by decide) (hts _ (List.mem_cons_of_mem _ mw_1_92)) (fun _ h9 => h9) rfl (by decide +kernel) rfl rfl (Nat.le_of_ble_eq_true rfl) dX1_singOn_83 (fun H locs hP hD hS => ?_)
        have hP : va_P D vwCl [(m0, .inr (1, [.int (z 174), .int (z 175), .int (z 176), .int 0, .int 0, .int (z 179), .int (z 180), .int (z 189), .int (z 181), .int (z 182), .int (z 183), .int (z 184), .int (z 185), .int (z 186), .int (z 187)])), (g0, .inr (5, [.int gn, .ref g1, .ref g2, .ref g3])), (g1, .inl (cI, 10, .inl ft)), (g2, .inl (cI, 120, .inl bt)), (g3, .inl (cZ, 120, .inl mk))] H := hP
        have hD : va_D A [(m0, .inr (1, [.int (z 174), .int (z 175), .int (z 176), .int 0, .int 0, .int (z 179), .int (z 180), .int (z 189), .int (z 181), .int (z 182), .int (z 183), .int (z 184), .int (z 185), .int (z 186), .int (z 187)])), (g0, .inr (5, [.int gn, .ref g1, .ref g2, .ref g3])), (g1, .inl (cI, 10, .inl ft)), (g2, .inl (cI, 120, .inl bt)), (g3, .inl (cZ, 120, .inl mk))] := hD
        refine lv_aload_n hx hb dX1_singOn_86 rfl (lv_at hl 0 rfl) ?_
        refine lv_dup hx hb dX1_singOn_87 rfl ?_
        refine va_get (D := D) (ci := 1) (v := .int (z 176)) (C := RX1) (T := TX1) (N := 15) hx hb hts xin1 hown hK hP 0 rfl rfl 2 (by decide) (hts _ (List.mem_cons_of_mem _ mw_1_90)) (fun _ h9 => h9) rfl dX1_singOn_88 ?_
        refine lv_iconst (v := 1) hx hb dX1_singOn_91 (by decide) ?_
        refine lv_iadd hx hb dX1_singOn_92 ?_
        refine lv_topi (fun x92 e92 => ?_)
        have t92 : x92.toInt = ((z 176).toInt) + 1 := by rw [e92]; exact xi_add rfl (by decide) (by omega) (by omega)
        refine va_put (D := D) (ci := 1) (v := .int x92) (ty := .int) (C := RX1) (T := TX1) (N := 15) hx hb hts xin1 tyX1 tyX1_ok nmX1 hown hK hP hD hS 0 rfl rfl 2 (by decide) (hts _ (List.mem_cons_of_mem _ mw_1_90)) (fun _ h9 => h9) rfl (by decide +kernel) rfl rfl (Nat.le_of_ble_eq_true rfl) dX1_singOn_93 (fun H locs hP hD hS => ?_)
        have hP : va_P D vwCl [(m0, .inr (1, [.int (z 174), .int (z 175), .int x92, .int 0, .int 0, .int (z 179), .int (z 180), .int (z 189), .int (z 181), .int (z 182), .int (z 183), .int (z 184), .int (z 185), .int (z 186), .int (z 187)])), (g0, .inr (5, [.int gn, .ref g1, .ref g2, .ref g3])), (g1, .inl (cI, 10, .inl ft)), (g2, .inl (cI, 120, .inl bt)), (g3, .inl (cZ, 120, .inl mk))] H := hP
        have hD : va_D A [(m0, .inr (1, [.int (z 174), .int (z 175), .int x92, .int 0, .int 0, .int (z 179), .int (z 180), .int (z 189), .int (z 181), .int (z 182), .int (z 183), .int (z 184), .int (z 185), .int (z 186), .int (z 187)])), (g0, .inr (5, [.int gn, .ref g1, .ref g2, .ref g3])), (g1, .inl (cI, 10, .inl ft)), (g2, .inl (cI, 120, .inl bt)), (g3, .inl (cZ, 120, .inl mk))] := hD
        refine lv_aload_n hx hb dX1_singOn_96 rfl (lv_at hl 0 rfl) ?_
        refine va_get (D := D) (ci := 1) (v := .int x92) (C := RX1) (T := TX1) (N := 15) hx hb hts xin1 hown hK hP 0 rfl rfl 2 (by decide) (hts _ (List.mem_cons_of_mem _ mw_1_90)) (fun _ h9 => h9) rfl dX1_singOn_97 ?_
        refine lv_aload_n hx hb dX1_singOn_100 rfl (lv_at hl 1 rfl) ?_
        refine va_getN (D := D) (ci := 5) (v := .int gn) (C := RX5) (T := TX5) (N := 4) hx hb hts xin5 hown hK hP 1 rfl rfl 0 (by decide) (xnf_2 hN) (fun _ h9 => h9) rfl dX1_singOn_101 ?_
        refine lv_icmp_ge (tgt := 108) hx hb dX1_singOn_104 (by decide) (fun c104 => ?_) (fun c104 => ?_)
        · have t104 : gn.toInt ≤ x92.toInt := xi_le rfl rfl c104
          refine lv_aload_n hx hb dX1_singOn_108 rfl (lv_at hl 0 rfl) ?_
          refine lv_iconst (v := 0) hx hb dX1_singOn_109 (by decide) ?_
          refine va_put (D := D) (ci := 1) (v := .int 0) (ty := .int) (C := RX1) (T := TX1) (N := 15) hx hb hts xin1 tyX1 tyX1_ok nmX1 hown hK hP hD hS 0 rfl rfl 2 (by decide) (hts _ (List.mem_cons_of_mem _ mw_1_90)) (fun _ h9 => h9) rfl (by decide +kernel) rfl rfl (Nat.le_of_ble_eq_true rfl) dX1_singOn_110 (fun H locs hP hD hS => ?_)
          have hP : va_P D vwCl [(m0, .inr (1, [.int (z 174), .int (z 175), .int 0, .int 0, .int 0, .int (z 179), .int (z 180), .int (z 189), .int (z 181), .int (z 182), .int (z 183), .int (z 184), .int (z 185), .int (z 186), .int (z 187)])), (g0, .inr (5, [.int gn, .ref g1, .ref g2, .ref g3])), (g1, .inl (cI, 10, .inl ft)), (g2, .inl (cI, 120, .inl bt)), (g3, .inl (cZ, 120, .inl mk))] H := hP
          have hD : va_D A [(m0, .inr (1, [.int (z 174), .int (z 175), .int 0, .int 0, .int 0, .int (z 179), .int (z 180), .int (z 189), .int (z 181), .int (z 182), .int (z 183), .int (z 184), .int (z 185), .int (z 186), .int (z 187)])), (g0, .inr (5, [.int gn, .ref g1, .ref g2, .ref g3])), (g1, .inl (cI, 10, .inl ft)), (g2, .inl (cI, 120, .inl bt)), (g3, .inl (cZ, 120, .inl mk))] := hD
          refine lv_aload_n hx hb dX1_singOn_113 rfl (lv_at hl 0 rfl) ?_
          refine lv_dup hx hb dX1_singOn_114 rfl ?_
          refine va_get (D := D) (ci := 1) (v := .int (z 186)) (C := RX1) (T := TX1) (N := 15) hx hb hts xin1 hown hK hP 0 rfl rfl 13 (by decide) (hts _ (List.mem_cons_of_mem _ mw_1_111)) (fun _ h9 => h9) rfl dX1_singOn_115 ?_
          refine lv_iconst (v := 1) hx hb dX1_singOn_118 (by decide) ?_
          refine lv_iadd hx hb dX1_singOn_119 ?_
          refine lv_topi (fun x119 e119 => ?_)
          refine va_put (D := D) (ci := 1) (v := .int x119) (ty := .int) (C := RX1) (T := TX1) (N := 15) hx hb hts xin1 tyX1 tyX1_ok nmX1 hown hK hP hD hS 0 rfl rfl 13 (by decide) (hts _ (List.mem_cons_of_mem _ mw_1_111)) (fun _ h9 => h9) rfl (by decide +kernel) rfl rfl (Nat.le_of_ble_eq_true rfl) dX1_singOn_120 (fun H locs hP hD hS => ?_)
          have hP : va_P D vwCl [(m0, .inr (1, [.int (z 174), .int (z 175), .int 0, .int 0, .int 0, .int (z 179), .int (z 180), .int (z 189), .int (z 181), .int (z 182), .int (z 183), .int (z 184), .int (z 185), .int x119, .int (z 187)])), (g0, .inr (5, [.int gn, .ref g1, .ref g2, .ref g3])), (g1, .inl (cI, 10, .inl ft)), (g2, .inl (cI, 120, .inl bt)), (g3, .inl (cZ, 120, .inl mk))] H := hP
          have hD : va_D A [(m0, .inr (1, [.int (z 174), .int (z 175), .int 0, .int 0, .int 0, .int (z 179), .int (z 180), .int (z 189), .int (z 181), .int (z 182), .int (z 183), .int (z 184), .int (z 185), .int x119, .int (z 187)])), (g0, .inr (5, [.int gn, .ref g1, .ref g2, .ref g3])), (g1, .inl (cI, 10, .inl ft)), (g2, .inl (cI, 120, .inl bt)), (g3, .inl (cZ, 120, .inl mk))] := hD
          have hf : ¬ inFootZ z := by rw [e23] at t26; subst e119 e92 e74 e61 e23 e6; exact Int.not_lt.mpr t26
          have hft : footEZ z = (upd (upd (upd (upd z 178 (z 178 + 1)) 178 0) 182 0) 177 (z 177 + 1)) := by rw [footEZ, if_neg (fun hh => b39 ⟨hfo, hh⟩)]
          have hil : ¬ inLineZ z := by exact fun hh => hh (xi_ext (by rw [← e61, t61]; rw [e74] at t77; omega))
          have hln : lineEZ z = (upd (upd (upd (upd (upd (upd z 178 (z 178 + 1)) 178 0) 182 0) 177 (z 177 + 1)) 177 0) 176 (z 176 + 1)) := by rw [lineEZ, if_neg hil, hft]
          have hs : songEZ z := by show lineEZ z 176 = z 6; rw [hln]; show z 176 + 1 = z 6; rw [← e92]; exact xi_ext (by rw [t92]; rw [hso.1] at t104; omega)
          have hz : goOnZ z = (upd (upd (upd (upd (upd (upd (upd (upd z 178 (z 178 + 1)) 178 0) 182 0) 177 (z 177 + 1)) 177 0) 176 (z 176 + 1)) 176 0) 186 (z 186 + 1)) := by rw [goOnZ, if_neg hf, if_pos hs, hln]
          exact xk_retv () hx hb hr hlocks (xk_P hP (by rw [hz]; rw [h182]; subst e119 e92 e74 e61 e23 e6; rfl)) (by trivial) hS dX1_singOn_123 hQ
        · have t104 : x92.toInt < gn.toInt := xi_nle rfl rfl c104
          have hf : ¬ inFootZ z := by rw [e23] at t26; subst e92 e74 e61 e23 e6; exact Int.not_lt.mpr t26
          have hft : footEZ z = (upd (upd (upd (upd z 178 (z 178 + 1)) 178 0) 182 0) 177 (z 177 + 1)) := by rw [footEZ, if_neg (fun hh => b39 ⟨hfo, hh⟩)]
          have hil : ¬ inLineZ z := by exact fun hh => hh (xi_ext (by rw [← e61, t61]; rw [e74] at t77; omega))
          have hln : lineEZ z = (upd (upd (upd (upd (upd (upd z 178 (z 178 + 1)) 178 0) 182 0) 177 (z 177 + 1)) 177 0) 176 (z 176 + 1)) := by rw [lineEZ, if_neg hil, hft]
          have hs : ¬ songEZ z := by show ¬ lineEZ z 176 = z 6; rw [hln]; show ¬ z 176 + 1 = z 6; rw [← e92]; exact fun hh => by have q := congrArg Int32.toInt hh; rw [t92] at q; rw [hso.1] at t104; omega
          have hz : goOnZ z = (upd (upd (upd (upd (upd (upd z 178 (z 178 + 1)) 178 0) 182 0) 177 (z 177 + 1)) 177 0) 176 (z 176 + 1)) := by rw [goOnZ, if_neg hf, if_neg hs, hln]
          exact xk_retv () hx hb hr hlocks (xk_P hP (by rw [hz]; rw [h182]; subst e92 e74 e61 e23 e6; rfl)) (by trivial) hS dX1_singOn_107 hQ
      · have t77 : x61.toInt < r74.toInt := xi_nle rfl rfl c77
        have hf : ¬ inFootZ z := by rw [e23] at t26; subst e74 e61 e23 e6; exact Int.not_lt.mpr t26
        have hft : footEZ z = (upd (upd (upd (upd z 178 (z 178 + 1)) 178 0) 182 0) 177 (z 177 + 1)) := by rw [footEZ, if_neg (fun hh => b39 ⟨hfo, hh⟩)]
        have hil : inLineZ z := by exact fun hh => by have q := congrArg Int32.toInt hh; rw [← e61, t61] at q; rw [e74] at t77; omega
        have hln : lineEZ z = (upd (upd (upd (upd z 178 (z 178 + 1)) 178 0) 182 0) 177 (z 177 + 1)) := by rw [lineEZ, if_pos hil, hft]
        have hs : ¬ songEZ z := by show ¬ lineEZ z 176 = z 6; rw [hln]; exact hne
        have hz : goOnZ z = (upd (upd (upd (upd z 178 (z 178 + 1)) 178 0) 182 0) 177 (z 177 + 1)) := by rw [goOnZ, if_neg hf, if_neg hs, hln]
        exact xk_retv () hx hb hr hlocks (xk_P hP (by rw [hz]; rw [h182]; subst e74 e61 e23 e6; rfl)) (by trivial) hS dX1_singOn_80 hQ
  · have t26 : x6.toInt < r23.toInt := xi_nle rfl rfl c26
    have hf : inFootZ z := by subst e23 e6; exact t26
    have hz : goOnZ z = upd z 178 (z 178 + 1) := by rw [goOnZ, if_pos hf]
    exact xk_retv () hx hb hr hlocks (xk_P hP (by rw [hz]; subst e23 e6; rfl)) (by trivial) hS dX1_singOn_29 hQ
