set_option maxHeartbeats 4000000 in
set_option maxRecDepth 100000 in
theorem lc_line {p : Program} {e : Env} {s : State} {m : MethodId} {below : List Frame} {meth : Method} {c : Code} (l : Launch) {b L : Nat} {xs : Nat → Int32} {A : Nat → Prop} {Q : State → Prop} {D : va_G} {cI cZ cS : ClassId} {q0_1 xa xv ho0 ho1 pd0 pd1 m0 ts0 ts1 q8_2 h1 h2 h3 h4 h5 h6 h7 h8 : Nat} {a : Nat → Nat} {ha sa : Nat → Nat → Nat} (hx : p.tables.exec = Jvm.exec) (hb : c.code = code) (hml : c.maxLocals = 4) (hown : s.vm.findClass R_law = some m.cls) (hts : ∀ w ∈ Cond.arrayClass .int :: wsL_law, w.before #[Value.ref b] s = true) (hX : va_X b L xs s s.heap) (hbl : b < s.heap.size) (hbA : ¬ A b) (hA : ∀ q : Nat, s.heap.size ≤ q → A q) (hK : va_K D vwCl (xTy cI cZ cS) s) (hN : xN s) (hZ : xZ A s) (hL : L ≤ 2048) (k : Int32) (cn : Nat → Nat → Int32) (cs : Nat → Nat → Nat → Int32) (sc : Nat → Nat → Nat → Int32) (tm : Nat → Int32) (tv : Nat → Int32) (pd : Nat → Int32) (sv : Nat → Int32) (ln : Int32) (old : Int32) (sz : Int32) (z : Nat → Int32) (spare : Nat → Int32) (past : Nat → Int32) (slots : Nat → Int32) (tf : Nat → Int32) (tmm : Nat → Int32) (gse : Int32) (gte : Int32) (gsp : Int32) (gtl : Int32) (hk : 0 ≤ k.toInt ∧ k.toInt + 4 ≤ L) (hLI : LI (125 * k.toInt) cn cs sc sv ln old sz z past slots) (next : ∀ (cn : Nat → Nat → Int32) (cs : Nat → Nat → Nat → Int32) (sc : Nat → Nat → Nat → Int32) (tm : Nat → Int32) (tv : Nat → Int32) (pd : Nat → Int32) (sv : Nat → Int32) (ln : Int32) (old : Int32) (sz : Int32) (z : Nat → Int32) (spare : Nat → Int32) (past : Nat → Int32) (slots : Nat → Int32) (tf : Nat → Int32) (tmm : Nat → Int32) (gse : Int32) (gte : Int32) (gsp : Int32) (gtl : Int32), LI (125 * k.toInt + 500) cn cs sc sv ln old sz z past slots → ∀ (H : Heap) (locs : List Loc), va_P D vwCl ([(q8_2, .inr (8, [.ref h1, .ref h2, .ref h3, .int sz, .ref h4, .ref h5, .ref h6, .int ln, .int gse, .int gte, .int gsp, .ref h7, .ref h8, .int gtl])), (h1, .inl (cI, 190, .inl z)), (h2, .inl (cI, 190, .inl spare)), (h3, .inl (cI, 1140, .inl past)), (h4, .inl (cI, 380, .inl slots)), (h5, .inl (cZ, 2, .inl sv)), (h6, .inl (cI, 60, .inl pd)), (h7, .inl (cI, 120, .inl tf)), (h8, .inl (cI, 10, .inl tmm))] ++ (xwW cI cZ cS q0_1 xa xv ho0 ho1 pd0 pd1 m0 ts0 ts1 a ha sa cn cs sc tm tv pd sv ln old sz z)) H → va_D A ([(q8_2, .inr (8, [.ref h1, .ref h2, .ref h3, .int sz, .ref h4, .ref h5, .ref h6, .int ln, .int gse, .int gte, .int gsp, .ref h7, .ref h8, .int gtl])), (h1, .inl (cI, 190, .inl z)), (h2, .inl (cI, 190, .inl spare)), (h3, .inl (cI, 1140, .inl past)), (h4, .inl (cI, 380, .inl slots)), (h5, .inl (cZ, 2, .inl sv)), (h6, .inl (cI, 60, .inl pd)), (h7, .inl (cI, 120, .inl tf)), (h8, .inl (cI, 10, .inl tmm))] ++ (xwW cI cZ cS q0_1 xa xv ho0 ho1 pd0 pd1 m0 ts0 ts1 a ha sa cn cs sc tm tv pd sv ln old sz z)) → va_S A s.heap H locs → ∀ ls : Array Slot, lv_has ls 4 [(3, .int k), (2, .ref q8_2), (1, .ref q0_1), (0, .ref b)] → W p l e room_1 s m #[Value.ref b] below meth c H locs 127 5090 Q (F0 m 688 ls [])) (H : Heap) (locs : List Loc) (hP : va_P D vwCl ([(q8_2, .inr (8, [.ref h1, .ref h2, .ref h3, .int sz, .ref h4, .ref h5, .ref h6, .int ln, .int gse, .int gte, .int gsp, .ref h7, .ref h8, .int gtl])), (h1, .inl (cI, 190, .inl z)), (h2, .inl (cI, 190, .inl spare)), (h3, .inl (cI, 1140, .inl past)), (h4, .inl (cI, 380, .inl slots)), (h5, .inl (cZ, 2, .inl sv)), (h6, .inl (cI, 60, .inl pd)), (h7, .inl (cI, 120, .inl tf)), (h8, .inl (cI, 10, .inl tmm))] ++ (xwW cI cZ cS q0_1 xa xv ho0 ho1 pd0 pd1 m0 ts0 ts1 a ha sa cn cs sc tm tv pd sv ln old sz z)) H) (hD : va_D A ([(q8_2, .inr (8, [.ref h1, .ref h2, .ref h3, .int sz, .ref h4, .ref h5, .ref h6, .int ln, .int gse, .int gte, .int gsp, .ref h7, .ref h8, .int gtl])), (h1, .inl (cI, 190, .inl z)), (h2, .inl (cI, 190, .inl spare)), (h3, .inl (cI, 1140, .inl past)), (h4, .inl (cI, 380, .inl slots)), (h5, .inl (cZ, 2, .inl sv)), (h6, .inl (cI, 60, .inl pd)), (h7, .inl (cI, 120, .inl tf)), (h8, .inl (cI, 10, .inl tmm))] ++ (xwW cI cZ cS q0_1 xa xv ho0 ho1 pd0 pd1 m0 ts0 ts1 a ha sa cn cs sc tm tv pd sv ln old sz z))) (hS : va_S A s.heap H locs) (ls : Array Slot) (hl : lv_has ls 4 [(3, .int k), (2, .ref q8_2), (1, .ref q0_1), (0, .ref b)]) : W p l e room_1 s m #[Value.ref b] below meth c H locs 127 5090 Q (F0 m 300 ls []) := by
  obtain ⟨hRS, hI, hBD, ⟨hold, hszz, hlnn⟩, hmcs, hmsc, hRH, hRL⟩ := id hLI
  refine lv_aload_n hx hb dL_law_300 rfl (lv_at hl 2 rfl) ?_
  refine lv_aload_n hx hb dL_law_301 rfl (lv_at hl 3 rfl) ?_
  refine lv_iload_n hx hb dL_law_302 rfl (lv_at hl 0 rfl) ?_
  refine lv_iconst (v := 1) hx hb dL_law_303 (by decide) ?_
  refine lv_iadd hx hb dL_law_304 ?_
  refine lv_topi (fun x304 e304 => ?_)
  have t304 : x304.toInt = k.toInt + 1 := by rw [e304]; exact xi_add rfl (by decide) (by omega) (by omega)
  refine va_sld hx hb hX hbl hbA hS (xi_in (by omega) (by omega)) dL_law_305 ?_
  refine xk_top (z := xs (k.toInt.toNat + 1)) (xk_rd (by omega)) ?_
  refine lv_aload_n hx hb dL_law_306 rfl (lv_at hl 3 rfl) ?_
  refine lv_iload_n hx hb dL_law_307 rfl (lv_at hl 0 rfl) ?_
  refine lv_iconst (v := 2) hx hb dL_law_308 (by decide) ?_
  refine lv_iadd hx hb dL_law_309 ?_
  refine lv_topi (fun x309 e309 => ?_)
  have t309 : x309.toInt = k.toInt + 2 := by rw [e309]; exact xi_add rfl (by decide) (by omega) (by omega)
  refine va_sld hx hb hX hbl hbA hS (xi_in (by omega) (by omega)) dL_law_310 ?_
  refine xk_top (z := xs (k.toInt.toNat + 2)) (xk_rd (by omega)) ?_
  refine xk_Vi (As := [.int (xs (k.toInt.toNat + 1)), .int (xs (k.toInt.toNat + 2))]) (rest := []) hx hb hml hown hts hK hN hZ (xg_P hP List.perm_append_comm) (xg_D hD List.perm_append_comm) hS hA mb_X7_line mw_2_180 mw_2_181 mw_2_182 (k_X7_line l D cI cZ cS q0_1 xa xv ho0 ho1 pd0 pd1 m0 ts0 ts1 a ha sa cn cs sc tm tv pd sv ln old sz z (xs (k.toInt.toNat + 1)) (xs (k.toInt.toNat + 2)) hRS hI) (List.range ((xwW cI cZ cS q0_1 xa xv ho0 ho1 pd0 pd1 m0 ts0 ts1 a ha sa cn cs sc tm tv pd sv ln old sz z) : va_W).length) 0 7 rfl rfl (xg_ndr _) (xg_range _ _) (fun _ => by exact xwW_f) (by decide) (by decide) rfl hl.1 rfl (Nat.le_of_ble_eq_true rfl) dL_law_311 ⟨Nat.le_of_ble_eq_true rfl, Nat.le_of_ble_eq_true rfl⟩ (fun r311 u311 H locs hw hP hD hS => ?_)
  have p311 : r311 = lineR z (xs (k.toInt.toNat + 1)) (xs (k.toInt.toNat + 2)) := hw
  have hP : va_P D vwCl ((xwW cI cZ cS q0_1 xa xv ho0 ho1 pd0 pd1 m0 ts0 ts1 a ha sa cn cs sc tm tv pd sv ln old sz z) ++ [(q8_2, .inr (8, [.ref h1, .ref h2, .ref h3, .int sz, .ref h4, .ref h5, .ref h6, .int ln, .int gse, .int gte, .int gsp, .ref h7, .ref h8, .int gtl])), (h1, .inl (cI, 190, .inl z)), (h2, .inl (cI, 190, .inl spare)), (h3, .inl (cI, 1140, .inl past)), (h4, .inl (cI, 380, .inl slots)), (h5, .inl (cZ, 2, .inl sv)), (h6, .inl (cI, 60, .inl pd)), (h7, .inl (cI, 120, .inl tf)), (h8, .inl (cI, 10, .inl tmm))]) H := xk_P hP (xg_set (by exact xwW_f))
  have hD : va_D A ((xwW cI cZ cS q0_1 xa xv ho0 ho1 pd0 pd1 m0 ts0 ts1 a ha sa cn cs sc tm tv pd sv ln old sz z) ++ [(q8_2, .inr (8, [.ref h1, .ref h2, .ref h3, .int sz, .ref h4, .ref h5, .ref h6, .int ln, .int gse, .int gte, .int gsp, .ref h7, .ref h8, .int gtl])), (h1, .inl (cI, 190, .inl z)), (h2, .inl (cI, 190, .inl spare)), (h3, .inl (cI, 1140, .inl past)), (h4, .inl (cI, 380, .inl slots)), (h5, .inl (cZ, 2, .inl sv)), (h6, .inl (cI, 60, .inl pd)), (h7, .inl (cI, 120, .inl tf)), (h8, .inl (cI, 10, .inl tmm))]) := xk_D hD (xg_set (by exact xwW_f))
  have hP := xg_P hP List.perm_append_comm
  have hD := xg_D hD List.perm_append_comm
  have hP : va_P D vwCl ([(q8_2, .inr (8, [.ref h1, .ref h2, .ref h3, .int sz, .ref h4, .ref h5, .ref h6, .int ln, .int gse, .int gte, .int gsp, .ref h7, .ref h8, .int gtl])), (h1, .inl (cI, 190, .inl z)), (h2, .inl (cI, 190, .inl spare)), (h3, .inl (cI, 1140, .inl past)), (h4, .inl (cI, 380, .inl slots)), (h5, .inl (cZ, 2, .inl sv)), (h6, .inl (cI, 60, .inl pd)), (h7, .inl (cI, 120, .inl tf)), (h8, .inl (cI, 10, .inl tmm))] ++ (xwW cI cZ cS q0_1 xa xv ho0 ho1 pd0 pd1 m0 ts0 ts1 a ha sa cn cs sc tm tv pd sv ln old sz z)) H := hP
  have hD : va_D A ([(q8_2, .inr (8, [.ref h1, .ref h2, .ref h3, .int sz, .ref h4, .ref h5, .ref h6, .int ln, .int gse, .int gte, .int gsp, .ref h7, .ref h8, .int gtl])), (h1, .inl (cI, 190, .inl z)), (h2, .inl (cI, 190, .inl spare)), (h3, .inl (cI, 1140, .inl past)), (h4, .inl (cI, 380, .inl slots)), (h5, .inl (cZ, 2, .inl sv)), (h6, .inl (cI, 60, .inl pd)), (h7, .inl (cI, 120, .inl tf)), (h8, .inl (cI, 10, .inl tmm))] ++ (xwW cI cZ cS q0_1 xa xv ho0 ho1 pd0 pd1 m0 ts0 ts1 a ha sa cn cs sc tm tv pd sv ln old sz z)) := hD
  refine lv_aload_n hx hb dL_law_314 rfl (lv_at hl 1 rfl) ?_
  refine lv_aload_n hx hb dL_law_315 rfl (lv_at hl 3 rfl) ?_
  refine lv_iload_n hx hb dL_law_316 rfl (lv_at hl 0 rfl) ?_
  refine lv_iconst (v := 1) hx hb dL_law_317 (by decide) ?_
  refine lv_iadd hx hb dL_law_318 ?_
  refine lv_topi (fun x318 e318 => ?_)
  have t318 : x318.toInt = k.toInt + 1 := by rw [e318]; exact xi_add rfl (by decide) (by omega) (by omega)
  refine va_sld hx hb hX hbl hbA hS (xi_in (by omega) (by omega)) dL_law_319 ?_
  refine xk_top (z := xs (k.toInt.toNat + 1)) (xk_rd (by omega)) ?_
  refine lv_aload_n hx hb dL_law_320 rfl (lv_at hl 3 rfl) ?_
  refine lv_iload_n hx hb dL_law_321 rfl (lv_at hl 0 rfl) ?_
  refine lv_iconst (v := 2) hx hb dL_law_322 (by decide) ?_
  refine lv_iadd hx hb dL_law_323 ?_
  refine lv_topi (fun x323 e323 => ?_)
  have t323 : x323.toInt = k.toInt + 2 := by rw [e323]; exact xi_add rfl (by decide) (by omega) (by omega)
  refine va_sld hx hb hX hbl hbA hS (xi_in (by omega) (by omega)) dL_law_324 ?_
  refine xk_top (z := xs (k.toInt.toNat + 2)) (xk_rd (by omega)) ?_
  refine xk_Vi0 (As := [.int (xs (k.toInt.toNat + 1)), .int (xs (k.toInt.toNat + 2))]) (rest := [.int r311]) hx hb hml hown hts hK hN hZ hP hD hS hA mb_X8_line mw_4_10 mw_4_11 mw_4_12 (c_X8_line l D cI cZ cS q8_2 h1 h2 h3 h4 h5 h6 h7 h8 sz ln gse gte gsp gtl z (xs (k.toInt.toNat + 1)) (xs (k.toInt.toNat + 2)) (by exact hI.2.1)) [0, 1] 0 8 rfl rfl (by decide) rfl (fun _ => by simp only [List.map]) (by decide) (by decide) rfl hl.1 rfl (Nat.le_of_ble_eq_true rfl) dL_law_325 ⟨Nat.le_of_ble_eq_true rfl, Nat.le_of_ble_eq_true rfl⟩ (fun _ => rfl) (fun r325 _ H locs hw hP hD hS => ?_)
  have e325 : r325 = lineR z (xs (k.toInt.toNat + 1)) (xs (k.toInt.toNat + 2)) := hw
  have hrr : r311 = r325 := p311.trans e325.symm
  refine lv_icmp_eq (tgt := 688) hx hb dL_law_328 (by decide) (fun c328 => ?_) (fun c328 => ?_)
  · have t328 : r311.toInt = r325.toInt := xi_eq rfl rfl c328
    have d328 : r311 = r325 := c328
    exact next cn cs sc tm tv pd sv ln old sz z spare past slots tf tmm gse gte gsp gtl (LI_mono (by omega) hLI) _ _ hP hD hS ls (lv_sub hl [0, 1, 2, 3] rfl)
  · have t328 : ¬ r311.toInt = r325.toInt := xi_ne rfl rfl c328
    have d328 : ¬ r311 = r325 := c328
    exact absurd hrr c328

set_option maxHeartbeats 4000000 in
set_option maxRecDepth 100000 in
theorem lc_foot {p : Program} {e : Env} {s : State} {m : MethodId} {below : List Frame} {meth : Method} {c : Code} (l : Launch) {b L : Nat} {xs : Nat → Int32} {A : Nat → Prop} {Q : State → Prop} {D : va_G} {cI cZ cS : ClassId} {q0_1 xa xv ho0 ho1 pd0 pd1 m0 ts0 ts1 q8_2 h1 h2 h3 h4 h5 h6 h7 h8 : Nat} {a : Nat → Nat} {ha sa : Nat → Nat → Nat} (hx : p.tables.exec = Jvm.exec) (hb : c.code = code) (hml : c.maxLocals = 4) (hown : s.vm.findClass R_law = some m.cls) (hts : ∀ w ∈ Cond.arrayClass .int :: wsL_law, w.before #[Value.ref b] s = true) (hX : va_X b L xs s s.heap) (hbl : b < s.heap.size) (hbA : ¬ A b) (hA : ∀ q : Nat, s.heap.size ≤ q → A q) (hK : va_K D vwCl (xTy cI cZ cS) s) (hN : xN s) (hZ : xZ A s) (hL : L ≤ 2048) (k : Int32) (cn : Nat → Nat → Int32) (cs : Nat → Nat → Nat → Int32) (sc : Nat → Nat → Nat → Int32) (tm : Nat → Int32) (tv : Nat → Int32) (pd : Nat → Int32) (sv : Nat → Int32) (ln : Int32) (old : Int32) (sz : Int32) (z : Nat → Int32) (spare : Nat → Int32) (past : Nat → Int32) (slots : Nat → Int32) (tf : Nat → Int32) (tmm : Nat → Int32) (gse : Int32) (gte : Int32) (gsp : Int32) (gtl : Int32) (hk : 0 ≤ k.toInt ∧ k.toInt + 4 ≤ L) (hLI : LI (125 * k.toInt) cn cs sc sv ln old sz z past slots) (next : ∀ (cn : Nat → Nat → Int32) (cs : Nat → Nat → Nat → Int32) (sc : Nat → Nat → Nat → Int32) (tm : Nat → Int32) (tv : Nat → Int32) (pd : Nat → Int32) (sv : Nat → Int32) (ln : Int32) (old : Int32) (sz : Int32) (z : Nat → Int32) (spare : Nat → Int32) (past : Nat → Int32) (slots : Nat → Int32) (tf : Nat → Int32) (tmm : Nat → Int32) (gse : Int32) (gte : Int32) (gsp : Int32) (gtl : Int32), LI (125 * k.toInt + 500) cn cs sc sv ln old sz z past slots → ∀ (H : Heap) (locs : List Loc), va_P D vwCl ([(q8_2, .inr (8, [.ref h1, .ref h2, .ref h3, .int sz, .ref h4, .ref h5, .ref h6, .int ln, .int gse, .int gte, .int gsp, .ref h7, .ref h8, .int gtl])), (h1, .inl (cI, 190, .inl z)), (h2, .inl (cI, 190, .inl spare)), (h3, .inl (cI, 1140, .inl past)), (h4, .inl (cI, 380, .inl slots)), (h5, .inl (cZ, 2, .inl sv)), (h6, .inl (cI, 60, .inl pd)), (h7, .inl (cI, 120, .inl tf)), (h8, .inl (cI, 10, .inl tmm))] ++ (xwW cI cZ cS q0_1 xa xv ho0 ho1 pd0 pd1 m0 ts0 ts1 a ha sa cn cs sc tm tv pd sv ln old sz z)) H → va_D A ([(q8_2, .inr (8, [.ref h1, .ref h2, .ref h3, .int sz, .ref h4, .ref h5, .ref h6, .int ln, .int gse, .int gte, .int gsp, .ref h7, .ref h8, .int gtl])), (h1, .inl (cI, 190, .inl z)), (h2, .inl (cI, 190, .inl spare)), (h3, .inl (cI, 1140, .inl past)), (h4, .inl (cI, 380, .inl slots)), (h5, .inl (cZ, 2, .inl sv)), (h6, .inl (cI, 60, .inl pd)), (h7, .inl (cI, 120, .inl tf)), (h8, .inl (cI, 10, .inl tmm))] ++ (xwW cI cZ cS q0_1 xa xv ho0 ho1 pd0 pd1 m0 ts0 ts1 a ha sa cn cs sc tm tv pd sv ln old sz z)) → va_S A s.heap H locs → ∀ ls : Array Slot, lv_has ls 4 [(3, .int k), (2, .ref q8_2), (1, .ref q0_1), (0, .ref b)] → W p l e room_1 s m #[Value.ref b] below meth c H locs 127 5090 Q (F0 m 688 ls [])) (H : Heap) (locs : List Loc) (hP : va_P D vwCl ([(q8_2, .inr (8, [.ref h1, .ref h2, .ref h3, .int sz, .ref h4, .ref h5, .ref h6, .int ln, .int gse, .int gte, .int gsp, .ref h7, .ref h8, .int gtl])), (h1, .inl (cI, 190, .inl z)), (h2, .inl (cI, 190, .inl spare)), (h3, .inl (cI, 1140, .inl past)), (h4, .inl (cI, 380, .inl slots)), (h5, .inl (cZ, 2, .inl sv)), (h6, .inl (cI, 60, .inl pd)), (h7, .inl (cI, 120, .inl tf)), (h8, .inl (cI, 10, .inl tmm))] ++ (xwW cI cZ cS q0_1 xa xv ho0 ho1 pd0 pd1 m0 ts0 ts1 a ha sa cn cs sc tm tv pd sv ln old sz z)) H) (hD : va_D A ([(q8_2, .inr (8, [.ref h1, .ref h2, .ref h3, .int sz, .ref h4, .ref h5, .ref h6, .int ln, .int gse, .int gte, .int gsp, .ref h7, .ref h8, .int gtl])), (h1, .inl (cI, 190, .inl z)), (h2, .inl (cI, 190, .inl spare)), (h3, .inl (cI, 1140, .inl past)), (h4, .inl (cI, 380, .inl slots)), (h5, .inl (cZ, 2, .inl sv)), (h6, .inl (cI, 60, .inl pd)), (h7, .inl (cI, 120, .inl tf)), (h8, .inl (cI, 10, .inl tmm))] ++ (xwW cI cZ cS q0_1 xa xv ho0 ho1 pd0 pd1 m0 ts0 ts1 a ha sa cn cs sc tm tv pd sv ln old sz z))) (hS : va_S A s.heap H locs) (ls : Array Slot) (hl : lv_has ls 4 [(3, .int k), (2, .ref q8_2), (1, .ref q0_1), (0, .ref b)]) : W p l e room_1 s m #[Value.ref b] below meth c H locs 127 5090 Q (F0 m 333 ls []) := by
  obtain ⟨hRS, hI, hBD, ⟨hold, hszz, hlnn⟩, hmcs, hmsc, hRH, hRL⟩ := id hLI
  refine lv_aload_n hx hb dL_law_333 rfl (lv_at hl 2 rfl) ?_
  refine lv_aload_n hx hb dL_law_334 rfl (lv_at hl 3 rfl) ?_
  refine lv_iload_n hx hb dL_law_335 rfl (lv_at hl 0 rfl) ?_
  refine lv_iconst (v := 1) hx hb dL_law_336 (by decide) ?_
  refine lv_iadd hx hb dL_law_337 ?_
  refine lv_topi (fun x337 e337 => ?_)
  have t337 : x337.toInt = k.toInt + 1 := by rw [e337]; exact xi_add rfl (by decide) (by omega) (by omega)
  refine va_sld hx hb hX hbl hbA hS (xi_in (by omega) (by omega)) dL_law_338 ?_
  refine xk_top (z := xs (k.toInt.toNat + 1)) (xk_rd (by omega)) ?_
  refine lv_aload_n hx hb dL_law_339 rfl (lv_at hl 3 rfl) ?_
  refine lv_iload_n hx hb dL_law_340 rfl (lv_at hl 0 rfl) ?_
  refine lv_iconst (v := 2) hx hb dL_law_341 (by decide) ?_
  refine lv_iadd hx hb dL_law_342 ?_
  refine lv_topi (fun x342 e342 => ?_)
  have t342 : x342.toInt = k.toInt + 2 := by rw [e342]; exact xi_add rfl (by decide) (by omega) (by omega)
  refine va_sld hx hb hX hbl hbA hS (xi_in (by omega) (by omega)) dL_law_343 ?_
  refine xk_top (z := xs (k.toInt.toNat + 2)) (xk_rd (by omega)) ?_
  refine lv_aload_n hx hb dL_law_344 rfl (lv_at hl 3 rfl) ?_
  refine lv_iload_n hx hb dL_law_345 rfl (lv_at hl 0 rfl) ?_
  refine lv_iconst (v := 3) hx hb dL_law_346 (by decide) ?_
  refine lv_iadd hx hb dL_law_347 ?_
  refine lv_topi (fun x347 e347 => ?_)
  have t347 : x347.toInt = k.toInt + 3 := by rw [e347]; exact xi_add rfl (by decide) (by omega) (by omega)
  refine va_sld hx hb hX hbl hbA hS (xi_in (by omega) (by omega)) dL_law_348 ?_
  refine xk_top (z := xs (k.toInt.toNat + 3)) (xk_rd (by omega)) ?_
  refine xk_Vi (As := [.int (xs (k.toInt.toNat + 1)), .int (xs (k.toInt.toNat + 2)), .int (xs (k.toInt.toNat + 3))]) (rest := []) hx hb hml hown hts hK hN hZ (xg_P hP List.perm_append_comm) (xg_D hD List.perm_append_comm) hS hA mb_X7_foot mw_2_196 mw_2_197 mw_2_198 (k_X7_foot l D cI cZ cS q0_1 xa xv ho0 ho1 pd0 pd1 m0 ts0 ts1 a ha sa cn cs sc tm tv pd sv ln old sz z (xs (k.toInt.toNat + 1)) (xs (k.toInt.toNat + 2)) (xs (k.toInt.toNat + 3)) hRS hI) (List.range ((xwW cI cZ cS q0_1 xa xv ho0 ho1 pd0 pd1 m0 ts0 ts1 a ha sa cn cs sc tm tv pd sv ln old sz z) : va_W).length) 0 7 rfl rfl (xg_ndr _) (xg_range _ _) (fun _ => by exact xwW_f) (by decide) (by decide) rfl hl.1 rfl (Nat.le_of_ble_eq_true rfl) dL_law_349 ⟨Nat.le_of_ble_eq_true rfl, Nat.le_of_ble_eq_true rfl⟩ (fun r349 u349 H locs hw hP hD hS => ?_)
  have p349 : r349 = footR z (xs (k.toInt.toNat + 1)) (xs (k.toInt.toNat + 2)) (xs (k.toInt.toNat + 3)) := hw
  have hP : va_P D vwCl ((xwW cI cZ cS q0_1 xa xv ho0 ho1 pd0 pd1 m0 ts0 ts1 a ha sa cn cs sc tm tv pd sv ln old sz z) ++ [(q8_2, .inr (8, [.ref h1, .ref h2, .ref h3, .int sz, .ref h4, .ref h5, .ref h6, .int ln, .int gse, .int gte, .int gsp, .ref h7, .ref h8, .int gtl])), (h1, .inl (cI, 190, .inl z)), (h2, .inl (cI, 190, .inl spare)), (h3, .inl (cI, 1140, .inl past)), (h4, .inl (cI, 380, .inl slots)), (h5, .inl (cZ, 2, .inl sv)), (h6, .inl (cI, 60, .inl pd)), (h7, .inl (cI, 120, .inl tf)), (h8, .inl (cI, 10, .inl tmm))]) H := xk_P hP (xg_set (by exact xwW_f))
  have hD : va_D A ((xwW cI cZ cS q0_1 xa xv ho0 ho1 pd0 pd1 m0 ts0 ts1 a ha sa cn cs sc tm tv pd sv ln old sz z) ++ [(q8_2, .inr (8, [.ref h1, .ref h2, .ref h3, .int sz, .ref h4, .ref h5, .ref h6, .int ln, .int gse, .int gte, .int gsp, .ref h7, .ref h8, .int gtl])), (h1, .inl (cI, 190, .inl z)), (h2, .inl (cI, 190, .inl spare)), (h3, .inl (cI, 1140, .inl past)), (h4, .inl (cI, 380, .inl slots)), (h5, .inl (cZ, 2, .inl sv)), (h6, .inl (cI, 60, .inl pd)), (h7, .inl (cI, 120, .inl tf)), (h8, .inl (cI, 10, .inl tmm))]) := xk_D hD (xg_set (by exact xwW_f))
  have hP := xg_P hP List.perm_append_comm
  have hD := xg_D hD List.perm_append_comm
  have hP : va_P D vwCl ([(q8_2, .inr (8, [.ref h1, .ref h2, .ref h3, .int sz, .ref h4, .ref h5, .ref h6, .int ln, .int gse, .int gte, .int gsp, .ref h7, .ref h8, .int gtl])), (h1, .inl (cI, 190, .inl z)), (h2, .inl (cI, 190, .inl spare)), (h3, .inl (cI, 1140, .inl past)), (h4, .inl (cI, 380, .inl slots)), (h5, .inl (cZ, 2, .inl sv)), (h6, .inl (cI, 60, .inl pd)), (h7, .inl (cI, 120, .inl tf)), (h8, .inl (cI, 10, .inl tmm))] ++ (xwW cI cZ cS q0_1 xa xv ho0 ho1 pd0 pd1 m0 ts0 ts1 a ha sa cn cs sc tm tv pd sv ln old sz z)) H := hP
  have hD : va_D A ([(q8_2, .inr (8, [.ref h1, .ref h2, .ref h3, .int sz, .ref h4, .ref h5, .ref h6, .int ln, .int gse, .int gte, .int gsp, .ref h7, .ref h8, .int gtl])), (h1, .inl (cI, 190, .inl z)), (h2, .inl (cI, 190, .inl spare)), (h3, .inl (cI, 1140, .inl past)), (h4, .inl (cI, 380, .inl slots)), (h5, .inl (cZ, 2, .inl sv)), (h6, .inl (cI, 60, .inl pd)), (h7, .inl (cI, 120, .inl tf)), (h8, .inl (cI, 10, .inl tmm))] ++ (xwW cI cZ cS q0_1 xa xv ho0 ho1 pd0 pd1 m0 ts0 ts1 a ha sa cn cs sc tm tv pd sv ln old sz z)) := hD
  refine lv_aload_n hx hb dL_law_352 rfl (lv_at hl 1 rfl) ?_
  refine lv_aload_n hx hb dL_law_353 rfl (lv_at hl 3 rfl) ?_
  refine lv_iload_n hx hb dL_law_354 rfl (lv_at hl 0 rfl) ?_
  refine lv_iconst (v := 1) hx hb dL_law_355 (by decide) ?_
  refine lv_iadd hx hb dL_law_356 ?_
  refine lv_topi (fun x356 e356 => ?_)
  have t356 : x356.toInt = k.toInt + 1 := by rw [e356]; exact xi_add rfl (by decide) (by omega) (by omega)
  refine va_sld hx hb hX hbl hbA hS (xi_in (by omega) (by omega)) dL_law_357 ?_
  refine xk_top (z := xs (k.toInt.toNat + 1)) (xk_rd (by omega)) ?_
  refine lv_aload_n hx hb dL_law_358 rfl (lv_at hl 3 rfl) ?_
  refine lv_iload_n hx hb dL_law_359 rfl (lv_at hl 0 rfl) ?_
  refine lv_iconst (v := 2) hx hb dL_law_360 (by decide) ?_
  refine lv_iadd hx hb dL_law_361 ?_
  refine lv_topi (fun x361 e361 => ?_)
  have t361 : x361.toInt = k.toInt + 2 := by rw [e361]; exact xi_add rfl (by decide) (by omega) (by omega)
  refine va_sld hx hb hX hbl hbA hS (xi_in (by omega) (by omega)) dL_law_362 ?_
  refine xk_top (z := xs (k.toInt.toNat + 2)) (xk_rd (by omega)) ?_
  refine lv_aload_n hx hb dL_law_363 rfl (lv_at hl 3 rfl) ?_
  refine lv_iload_n hx hb dL_law_364 rfl (lv_at hl 0 rfl) ?_
  refine lv_iconst (v := 3) hx hb dL_law_365 (by decide) ?_
  refine lv_iadd hx hb dL_law_366 ?_
  refine lv_topi (fun x366 e366 => ?_)
  have t366 : x366.toInt = k.toInt + 3 := by rw [e366]; exact xi_add rfl (by decide) (by omega) (by omega)
  refine va_sld hx hb hX hbl hbA hS (xi_in (by omega) (by omega)) dL_law_367 ?_
  refine xk_top (z := xs (k.toInt.toNat + 3)) (xk_rd (by omega)) ?_
  refine xk_Vi0 (As := [.int (xs (k.toInt.toNat + 1)), .int (xs (k.toInt.toNat + 2)), .int (xs (k.toInt.toNat + 3))]) (rest := [.int r349]) hx hb hml hown hts hK hN hZ hP hD hS hA mb_X8_foot mw_4_26 mw_4_27 mw_4_28 (c_X8_foot l D cI cZ cS q8_2 h1 h2 h3 h4 h5 h6 h7 h8 sz ln gse gte gsp gtl z (xs (k.toInt.toNat + 1)) (xs (k.toInt.toNat + 2)) (xs (k.toInt.toNat + 3)) (by exact hI.2.1)) [0, 1] 0 8 rfl rfl (by decide) rfl (fun _ => by simp only [List.map]) (by decide) (by decide) rfl hl.1 rfl (Nat.le_of_ble_eq_true rfl) dL_law_368 ⟨Nat.le_of_ble_eq_true rfl, Nat.le_of_ble_eq_true rfl⟩ (fun _ => rfl) (fun r368 _ H locs hw hP hD hS => ?_)
  have e368 : r368 = footR z (xs (k.toInt.toNat + 1)) (xs (k.toInt.toNat + 2)) (xs (k.toInt.toNat + 3)) := hw
  have hrr : r349 = r368 := p349.trans e368.symm
  refine lv_icmp_eq (tgt := 688) hx hb dL_law_371 (by decide) (fun c371 => ?_) (fun c371 => ?_)
  · have t371 : r349.toInt = r368.toInt := xi_eq rfl rfl c371
    have d371 : r349 = r368 := c371
    exact next cn cs sc tm tv pd sv ln old sz z spare past slots tf tmm gse gte gsp gtl (LI_mono (by omega) hLI) _ _ hP hD hS ls (lv_sub hl [0, 1, 2, 3] rfl)
  · have t371 : ¬ r349.toInt = r368.toInt := xi_ne rfl rfl c371
    have d371 : ¬ r349 = r368 := c371
    exact absurd hrr c371

set_option maxHeartbeats 4000000 in
set_option maxRecDepth 100000 in
theorem lc_stretch {p : Program} {e : Env} {s : State} {m : MethodId} {below : List Frame} {meth : Method} {c : Code} (l : Launch) {b L : Nat} {xs : Nat → Int32} {A : Nat → Prop} {Q : State → Prop} {D : va_G} {cI cZ cS : ClassId} {q0_1 xa xv ho0 ho1 pd0 pd1 m0 ts0 ts1 q8_2 h1 h2 h3 h4 h5 h6 h7 h8 : Nat} {a : Nat → Nat} {ha sa : Nat → Nat → Nat} (hx : p.tables.exec = Jvm.exec) (hb : c.code = code) (hml : c.maxLocals = 4) (hown : s.vm.findClass R_law = some m.cls) (hts : ∀ w ∈ Cond.arrayClass .int :: wsL_law, w.before #[Value.ref b] s = true) (hX : va_X b L xs s s.heap) (hbl : b < s.heap.size) (hbA : ¬ A b) (hA : ∀ q : Nat, s.heap.size ≤ q → A q) (hK : va_K D vwCl (xTy cI cZ cS) s) (hN : xN s) (hZ : xZ A s) (hL : L ≤ 2048) (k : Int32) (cn : Nat → Nat → Int32) (cs : Nat → Nat → Nat → Int32) (sc : Nat → Nat → Nat → Int32) (tm : Nat → Int32) (tv : Nat → Int32) (pd : Nat → Int32) (sv : Nat → Int32) (ln : Int32) (old : Int32) (sz : Int32) (z : Nat → Int32) (spare : Nat → Int32) (past : Nat → Int32) (slots : Nat → Int32) (tf : Nat → Int32) (tmm : Nat → Int32) (gse : Int32) (gte : Int32) (gsp : Int32) (gtl : Int32) (hk : 0 ≤ k.toInt ∧ k.toInt + 4 ≤ L) (hLI : LI (125 * k.toInt) cn cs sc sv ln old sz z past slots) (next : ∀ (cn : Nat → Nat → Int32) (cs : Nat → Nat → Nat → Int32) (sc : Nat → Nat → Nat → Int32) (tm : Nat → Int32) (tv : Nat → Int32) (pd : Nat → Int32) (sv : Nat → Int32) (ln : Int32) (old : Int32) (sz : Int32) (z : Nat → Int32) (spare : Nat → Int32) (past : Nat → Int32) (slots : Nat → Int32) (tf : Nat → Int32) (tmm : Nat → Int32) (gse : Int32) (gte : Int32) (gsp : Int32) (gtl : Int32), LI (125 * k.toInt + 500) cn cs sc sv ln old sz z past slots → ∀ (H : Heap) (locs : List Loc), va_P D vwCl ([(q8_2, .inr (8, [.ref h1, .ref h2, .ref h3, .int sz, .ref h4, .ref h5, .ref h6, .int ln, .int gse, .int gte, .int gsp, .ref h7, .ref h8, .int gtl])), (h1, .inl (cI, 190, .inl z)), (h2, .inl (cI, 190, .inl spare)), (h3, .inl (cI, 1140, .inl past)), (h4, .inl (cI, 380, .inl slots)), (h5, .inl (cZ, 2, .inl sv)), (h6, .inl (cI, 60, .inl pd)), (h7, .inl (cI, 120, .inl tf)), (h8, .inl (cI, 10, .inl tmm))] ++ (xwW cI cZ cS q0_1 xa xv ho0 ho1 pd0 pd1 m0 ts0 ts1 a ha sa cn cs sc tm tv pd sv ln old sz z)) H → va_D A ([(q8_2, .inr (8, [.ref h1, .ref h2, .ref h3, .int sz, .ref h4, .ref h5, .ref h6, .int ln, .int gse, .int gte, .int gsp, .ref h7, .ref h8, .int gtl])), (h1, .inl (cI, 190, .inl z)), (h2, .inl (cI, 190, .inl spare)), (h3, .inl (cI, 1140, .inl past)), (h4, .inl (cI, 380, .inl slots)), (h5, .inl (cZ, 2, .inl sv)), (h6, .inl (cI, 60, .inl pd)), (h7, .inl (cI, 120, .inl tf)), (h8, .inl (cI, 10, .inl tmm))] ++ (xwW cI cZ cS q0_1 xa xv ho0 ho1 pd0 pd1 m0 ts0 ts1 a ha sa cn cs sc tm tv pd sv ln old sz z)) → va_S A s.heap H locs → ∀ ls : Array Slot, lv_has ls 4 [(3, .int k), (2, .ref q8_2), (1, .ref q0_1), (0, .ref b)] → W p l e room_1 s m #[Value.ref b] below meth c H locs 127 5090 Q (F0 m 688 ls [])) (H : Heap) (locs : List Loc) (hP : va_P D vwCl ([(q8_2, .inr (8, [.ref h1, .ref h2, .ref h3, .int sz, .ref h4, .ref h5, .ref h6, .int ln, .int gse, .int gte, .int gsp, .ref h7, .ref h8, .int gtl])), (h1, .inl (cI, 190, .inl z)), (h2, .inl (cI, 190, .inl spare)), (h3, .inl (cI, 1140, .inl past)), (h4, .inl (cI, 380, .inl slots)), (h5, .inl (cZ, 2, .inl sv)), (h6, .inl (cI, 60, .inl pd)), (h7, .inl (cI, 120, .inl tf)), (h8, .inl (cI, 10, .inl tmm))] ++ (xwW cI cZ cS q0_1 xa xv ho0 ho1 pd0 pd1 m0 ts0 ts1 a ha sa cn cs sc tm tv pd sv ln old sz z)) H) (hD : va_D A ([(q8_2, .inr (8, [.ref h1, .ref h2, .ref h3, .int sz, .ref h4, .ref h5, .ref h6, .int ln, .int gse, .int gte, .int gsp, .ref h7, .ref h8, .int gtl])), (h1, .inl (cI, 190, .inl z)), (h2, .inl (cI, 190, .inl spare)), (h3, .inl (cI, 1140, .inl past)), (h4, .inl (cI, 380, .inl slots)), (h5, .inl (cZ, 2, .inl sv)), (h6, .inl (cI, 60, .inl pd)), (h7, .inl (cI, 120, .inl tf)), (h8, .inl (cI, 10, .inl tmm))] ++ (xwW cI cZ cS q0_1 xa xv ho0 ho1 pd0 pd1 m0 ts0 ts1 a ha sa cn cs sc tm tv pd sv ln old sz z))) (hS : va_S A s.heap H locs) (ls : Array Slot) (hl : lv_has ls 4 [(3, .int k), (2, .ref q8_2), (1, .ref q0_1), (0, .ref b)]) : W p l e room_1 s m #[Value.ref b] below meth c H locs 127 5090 Q (F0 m 376 ls []) := by
  obtain ⟨hRS, hI, hBD, ⟨hold, hszz, hlnn⟩, hmcs, hmsc, hRH, hRL⟩ := id hLI
  refine lv_aload_n hx hb dL_law_376 rfl (lv_at hl 2 rfl) ?_
  refine lv_aload_n hx hb dL_law_377 rfl (lv_at hl 3 rfl) ?_
  refine lv_iload_n hx hb dL_law_378 rfl (lv_at hl 0 rfl) ?_
  refine lv_iconst (v := 1) hx hb dL_law_379 (by decide) ?_
  refine lv_iadd hx hb dL_law_380 ?_
  refine lv_topi (fun x380 e380 => ?_)
  have t380 : x380.toInt = k.toInt + 1 := by rw [e380]; exact xi_add rfl (by decide) (by omega) (by omega)
  refine va_sld hx hb hX hbl hbA hS (xi_in (by omega) (by omega)) dL_law_381 ?_
  refine xk_top (z := xs (k.toInt.toNat + 1)) (xk_rd (by omega)) ?_
  refine lv_aload_n hx hb dL_law_382 rfl (lv_at hl 3 rfl) ?_
  refine lv_iload_n hx hb dL_law_383 rfl (lv_at hl 0 rfl) ?_
  refine lv_iconst (v := 2) hx hb dL_law_384 (by decide) ?_
  refine lv_iadd hx hb dL_law_385 ?_
  refine lv_topi (fun x385 e385 => ?_)
  have t385 : x385.toInt = k.toInt + 2 := by rw [e385]; exact xi_add rfl (by decide) (by omega) (by omega)
  refine va_sld hx hb hX hbl hbA hS (xi_in (by omega) (by omega)) dL_law_386 ?_
  refine xk_top (z := xs (k.toInt.toNat + 2)) (xk_rd (by omega)) ?_
  refine xk_Vi (As := [.int (xs (k.toInt.toNat + 1)), .int (xs (k.toInt.toNat + 2))]) (rest := []) hx hb hml hown hts hK hN hZ (xg_P hP List.perm_append_comm) (xg_D hD List.perm_append_comm) hS hA mb_X7_stretch mw_2_203 mw_2_204 mw_2_205 (k_X7_stretch l D cI cZ cS q0_1 xa xv ho0 ho1 pd0 pd1 m0 ts0 ts1 a ha sa cn cs sc tm tv pd sv ln old sz z (xs (k.toInt.toNat + 1)) (xs (k.toInt.toNat + 2)) hRS hI) (List.range ((xwW cI cZ cS q0_1 xa xv ho0 ho1 pd0 pd1 m0 ts0 ts1 a ha sa cn cs sc tm tv pd sv ln old sz z) : va_W).length) 0 7 rfl rfl (xg_ndr _) (xg_range _ _) (fun _ => by exact xwW_f) (by decide) (by decide) rfl hl.1 rfl (Nat.le_of_ble_eq_true rfl) dL_law_387 ⟨Nat.le_of_ble_eq_true rfl, Nat.le_of_ble_eq_true rfl⟩ (fun r387 u387 H locs hw hP hD hS => ?_)
  have p387 : strA z (xs (k.toInt.toNat + 1)) (xs (k.toInt.toNat + 2)) r387 := hw
  have hP : va_P D vwCl ((xwW cI cZ cS q0_1 xa xv ho0 ho1 pd0 pd1 m0 ts0 ts1 a ha sa cn cs sc tm tv pd sv ln old sz z) ++ [(q8_2, .inr (8, [.ref h1, .ref h2, .ref h3, .int sz, .ref h4, .ref h5, .ref h6, .int ln, .int gse, .int gte, .int gsp, .ref h7, .ref h8, .int gtl])), (h1, .inl (cI, 190, .inl z)), (h2, .inl (cI, 190, .inl spare)), (h3, .inl (cI, 1140, .inl past)), (h4, .inl (cI, 380, .inl slots)), (h5, .inl (cZ, 2, .inl sv)), (h6, .inl (cI, 60, .inl pd)), (h7, .inl (cI, 120, .inl tf)), (h8, .inl (cI, 10, .inl tmm))]) H := xk_P hP (xg_set (by exact xwW_f))
  have hD : va_D A ((xwW cI cZ cS q0_1 xa xv ho0 ho1 pd0 pd1 m0 ts0 ts1 a ha sa cn cs sc tm tv pd sv ln old sz z) ++ [(q8_2, .inr (8, [.ref h1, .ref h2, .ref h3, .int sz, .ref h4, .ref h5, .ref h6, .int ln, .int gse, .int gte, .int gsp, .ref h7, .ref h8, .int gtl])), (h1, .inl (cI, 190, .inl z)), (h2, .inl (cI, 190, .inl spare)), (h3, .inl (cI, 1140, .inl past)), (h4, .inl (cI, 380, .inl slots)), (h5, .inl (cZ, 2, .inl sv)), (h6, .inl (cI, 60, .inl pd)), (h7, .inl (cI, 120, .inl tf)), (h8, .inl (cI, 10, .inl tmm))]) := xk_D hD (xg_set (by exact xwW_f))
  have hP := xg_P hP List.perm_append_comm
  have hD := xg_D hD List.perm_append_comm
  have hP : va_P D vwCl ([(q8_2, .inr (8, [.ref h1, .ref h2, .ref h3, .int sz, .ref h4, .ref h5, .ref h6, .int ln, .int gse, .int gte, .int gsp, .ref h7, .ref h8, .int gtl])), (h1, .inl (cI, 190, .inl z)), (h2, .inl (cI, 190, .inl spare)), (h3, .inl (cI, 1140, .inl past)), (h4, .inl (cI, 380, .inl slots)), (h5, .inl (cZ, 2, .inl sv)), (h6, .inl (cI, 60, .inl pd)), (h7, .inl (cI, 120, .inl tf)), (h8, .inl (cI, 10, .inl tmm))] ++ (xwW cI cZ cS q0_1 xa xv ho0 ho1 pd0 pd1 m0 ts0 ts1 a ha sa cn cs sc tm tv pd sv ln old sz z)) H := hP
  have hD : va_D A ([(q8_2, .inr (8, [.ref h1, .ref h2, .ref h3, .int sz, .ref h4, .ref h5, .ref h6, .int ln, .int gse, .int gte, .int gsp, .ref h7, .ref h8, .int gtl])), (h1, .inl (cI, 190, .inl z)), (h2, .inl (cI, 190, .inl spare)), (h3, .inl (cI, 1140, .inl past)), (h4, .inl (cI, 380, .inl slots)), (h5, .inl (cZ, 2, .inl sv)), (h6, .inl (cI, 60, .inl pd)), (h7, .inl (cI, 120, .inl tf)), (h8, .inl (cI, 10, .inl tmm))] ++ (xwW cI cZ cS q0_1 xa xv ho0 ho1 pd0 pd1 m0 ts0 ts1 a ha sa cn cs sc tm tv pd sv ln old sz z)) := hD
  refine lv_aload_n hx hb dL_law_390 rfl (lv_at hl 1 rfl) ?_
  refine lv_aload_n hx hb dL_law_391 rfl (lv_at hl 3 rfl) ?_
  refine lv_iload_n hx hb dL_law_392 rfl (lv_at hl 0 rfl) ?_
  refine lv_iconst (v := 1) hx hb dL_law_393 (by decide) ?_
  refine lv_iadd hx hb dL_law_394 ?_
  refine lv_topi (fun x394 e394 => ?_)
  have t394 : x394.toInt = k.toInt + 1 := by rw [e394]; exact xi_add rfl (by decide) (by omega) (by omega)
  refine va_sld hx hb hX hbl hbA hS (xi_in (by omega) (by omega)) dL_law_395 ?_
  refine xk_top (z := xs (k.toInt.toNat + 1)) (xk_rd (by omega)) ?_
  refine lv_aload_n hx hb dL_law_396 rfl (lv_at hl 3 rfl) ?_
  refine lv_iload_n hx hb dL_law_397 rfl (lv_at hl 0 rfl) ?_
  refine lv_iconst (v := 2) hx hb dL_law_398 (by decide) ?_
  refine lv_iadd hx hb dL_law_399 ?_
  refine lv_topi (fun x399 e399 => ?_)
  have t399 : x399.toInt = k.toInt + 2 := by rw [e399]; exact xi_add rfl (by decide) (by omega) (by omega)
  refine va_sld hx hb hX hbl hbA hS (xi_in (by omega) (by omega)) dL_law_400 ?_
  refine xk_top (z := xs (k.toInt.toNat + 2)) (xk_rd (by omega)) ?_
  refine xk_Vi0 (As := [.int (xs (k.toInt.toNat + 1)), .int (xs (k.toInt.toNat + 2))]) (rest := [.int r387]) hx hb hml hown hts hK hN hZ hP hD hS hA mb_X8_stretch mw_4_30 mw_4_31 mw_4_32 (c_X8_stretch l D cI cZ cS q8_2 h1 h2 h3 h4 h5 h6 h7 h8 sz ln gse gte gsp gtl z (xs (k.toInt.toNat + 1)) (xs (k.toInt.toNat + 2)) (by exact hI.2.2.1) (by exact hI.1.2.2.2.2)) [0, 1] 0 8 rfl rfl (by decide) rfl (fun _ => by simp only [List.map]) (by decide) (by decide) rfl hl.1 rfl (Nat.le_of_ble_eq_true rfl) dL_law_401 ⟨Nat.le_of_ble_eq_true rfl, Nat.le_of_ble_eq_true rfl⟩ (fun _ => rfl) (fun r401 _ H locs hw hP hD hS => ?_)
  have p401 : strA z (xs (k.toInt.toNat + 1)) (xs (k.toInt.toNat + 2)) r401 := hw
  have hrr : r387 = r401 := strA_u p387 p401
  refine lv_icmp_eq (tgt := 688) hx hb dL_law_404 (by decide) (fun c404 => ?_) (fun c404 => ?_)
  · have t404 : r387.toInt = r401.toInt := xi_eq rfl rfl c404
    have d404 : r387 = r401 := c404
    exact next cn cs sc tm tv pd sv ln old sz z spare past slots tf tmm gse gte gsp gtl (LI_mono (by omega) hLI) _ _ hP hD hS ls (lv_sub hl [0, 1, 2, 3] rfl)
  · have t404 : ¬ r387.toInt = r401.toInt := xi_ne rfl rfl c404
    have d404 : ¬ r387 = r401 := c404
    exact absurd hrr c404

set_option maxHeartbeats 4000000 in
set_option maxRecDepth 100000 in
theorem lc_count {p : Program} {e : Env} {s : State} {m : MethodId} {below : List Frame} {meth : Method} {c : Code} (l : Launch) {b L : Nat} {xs : Nat → Int32} {A : Nat → Prop} {Q : State → Prop} {D : va_G} {cI cZ cS : ClassId} {q0_1 xa xv ho0 ho1 pd0 pd1 m0 ts0 ts1 q8_2 h1 h2 h3 h4 h5 h6 h7 h8 : Nat} {a : Nat → Nat} {ha sa : Nat → Nat → Nat} (hx : p.tables.exec = Jvm.exec) (hb : c.code = code) (hml : c.maxLocals = 4) (hown : s.vm.findClass R_law = some m.cls) (hts : ∀ w ∈ Cond.arrayClass .int :: wsL_law, w.before #[Value.ref b] s = true) (hX : va_X b L xs s s.heap) (hbl : b < s.heap.size) (hbA : ¬ A b) (hA : ∀ q : Nat, s.heap.size ≤ q → A q) (hK : va_K D vwCl (xTy cI cZ cS) s) (hN : xN s) (hZ : xZ A s) (hL : L ≤ 2048) (k : Int32) (cn : Nat → Nat → Int32) (cs : Nat → Nat → Nat → Int32) (sc : Nat → Nat → Nat → Int32) (tm : Nat → Int32) (tv : Nat → Int32) (pd : Nat → Int32) (sv : Nat → Int32) (ln : Int32) (old : Int32) (sz : Int32) (z : Nat → Int32) (spare : Nat → Int32) (past : Nat → Int32) (slots : Nat → Int32) (tf : Nat → Int32) (tmm : Nat → Int32) (gse : Int32) (gte : Int32) (gsp : Int32) (gtl : Int32) (hk : 0 ≤ k.toInt ∧ k.toInt + 4 ≤ L) (hLI : LI (125 * k.toInt) cn cs sc sv ln old sz z past slots) (next : ∀ (cn : Nat → Nat → Int32) (cs : Nat → Nat → Nat → Int32) (sc : Nat → Nat → Nat → Int32) (tm : Nat → Int32) (tv : Nat → Int32) (pd : Nat → Int32) (sv : Nat → Int32) (ln : Int32) (old : Int32) (sz : Int32) (z : Nat → Int32) (spare : Nat → Int32) (past : Nat → Int32) (slots : Nat → Int32) (tf : Nat → Int32) (tmm : Nat → Int32) (gse : Int32) (gte : Int32) (gsp : Int32) (gtl : Int32), LI (125 * k.toInt + 500) cn cs sc sv ln old sz z past slots → ∀ (H : Heap) (locs : List Loc), va_P D vwCl ([(q8_2, .inr (8, [.ref h1, .ref h2, .ref h3, .int sz, .ref h4, .ref h5, .ref h6, .int ln, .int gse, .int gte, .int gsp, .ref h7, .ref h8, .int gtl])), (h1, .inl (cI, 190, .inl z)), (h2, .inl (cI, 190, .inl spare)), (h3, .inl (cI, 1140, .inl past)), (h4, .inl (cI, 380, .inl slots)), (h5, .inl (cZ, 2, .inl sv)), (h6, .inl (cI, 60, .inl pd)), (h7, .inl (cI, 120, .inl tf)), (h8, .inl (cI, 10, .inl tmm))] ++ (xwW cI cZ cS q0_1 xa xv ho0 ho1 pd0 pd1 m0 ts0 ts1 a ha sa cn cs sc tm tv pd sv ln old sz z)) H → va_D A ([(q8_2, .inr (8, [.ref h1, .ref h2, .ref h3, .int sz, .ref h4, .ref h5, .ref h6, .int ln, .int gse, .int gte, .int gsp, .ref h7, .ref h8, .int gtl])), (h1, .inl (cI, 190, .inl z)), (h2, .inl (cI, 190, .inl spare)), (h3, .inl (cI, 1140, .inl past)), (h4, .inl (cI, 380, .inl slots)), (h5, .inl (cZ, 2, .inl sv)), (h6, .inl (cI, 60, .inl pd)), (h7, .inl (cI, 120, .inl tf)), (h8, .inl (cI, 10, .inl tmm))] ++ (xwW cI cZ cS q0_1 xa xv ho0 ho1 pd0 pd1 m0 ts0 ts1 a ha sa cn cs sc tm tv pd sv ln old sz z)) → va_S A s.heap H locs → ∀ ls : Array Slot, lv_has ls 4 [(3, .int k), (2, .ref q8_2), (1, .ref q0_1), (0, .ref b)] → W p l e room_1 s m #[Value.ref b] below meth c H locs 127 5090 Q (F0 m 688 ls [])) (H : Heap) (locs : List Loc) (hP : va_P D vwCl ([(q8_2, .inr (8, [.ref h1, .ref h2, .ref h3, .int sz, .ref h4, .ref h5, .ref h6, .int ln, .int gse, .int gte, .int gsp, .ref h7, .ref h8, .int gtl])), (h1, .inl (cI, 190, .inl z)), (h2, .inl (cI, 190, .inl spare)), (h3, .inl (cI, 1140, .inl past)), (h4, .inl (cI, 380, .inl slots)), (h5, .inl (cZ, 2, .inl sv)), (h6, .inl (cI, 60, .inl pd)), (h7, .inl (cI, 120, .inl tf)), (h8, .inl (cI, 10, .inl tmm))] ++ (xwW cI cZ cS q0_1 xa xv ho0 ho1 pd0 pd1 m0 ts0 ts1 a ha sa cn cs sc tm tv pd sv ln old sz z)) H) (hD : va_D A ([(q8_2, .inr (8, [.ref h1, .ref h2, .ref h3, .int sz, .ref h4, .ref h5, .ref h6, .int ln, .int gse, .int gte, .int gsp, .ref h7, .ref h8, .int gtl])), (h1, .inl (cI, 190, .inl z)), (h2, .inl (cI, 190, .inl spare)), (h3, .inl (cI, 1140, .inl past)), (h4, .inl (cI, 380, .inl slots)), (h5, .inl (cZ, 2, .inl sv)), (h6, .inl (cI, 60, .inl pd)), (h7, .inl (cI, 120, .inl tf)), (h8, .inl (cI, 10, .inl tmm))] ++ (xwW cI cZ cS q0_1 xa xv ho0 ho1 pd0 pd1 m0 ts0 ts1 a ha sa cn cs sc tm tv pd sv ln old sz z))) (hS : va_S A s.heap H locs) (ls : Array Slot) (hl : lv_has ls 4 [(3, .int k), (2, .ref q8_2), (1, .ref q0_1), (0, .ref b)]) : W p l e room_1 s m #[Value.ref b] below meth c H locs 127 5090 Q (F0 m 432 ls []) := by
  obtain ⟨hRS, hI, hBD, ⟨hold, hszz, hlnn⟩, hmcs, hmsc, hRH, hRL⟩ := id hLI
  refine lv_aload_n hx hb dL_law_432 rfl (lv_at hl 2 rfl) ?_
  refine lv_aload_n hx hb dL_law_433 rfl (lv_at hl 3 rfl) ?_
  refine lv_iload_n hx hb dL_law_434 rfl (lv_at hl 0 rfl) ?_
  refine lv_iconst (v := 1) hx hb dL_law_435 (by decide) ?_
  refine lv_iadd hx hb dL_law_436 ?_
  refine lv_topi (fun x436 e436 => ?_)
  have t436 : x436.toInt = k.toInt + 1 := by rw [e436]; exact xi_add rfl (by decide) (by omega) (by omega)
  refine va_sld hx hb hX hbl hbA hS (xi_in (by omega) (by omega)) dL_law_437 ?_
  refine xk_top (z := xs (k.toInt.toNat + 1)) (xk_rd (by omega)) ?_
  refine xk_Vi (As := [.int (xs (k.toInt.toNat + 1))]) (rest := []) hx hb hml hown hts hK hN hZ (xg_P hP List.perm_append_comm) (xg_D hD List.perm_append_comm) hS hA mb_X7_count mw_2_219 mw_2_220 mw_2_221 (k_X7_count l D cI cZ cS q0_1 xa xv ho0 ho1 pd0 pd1 m0 ts0 ts1 a ha sa cn cs sc tm tv pd sv ln old sz z (xs (k.toInt.toNat + 1)) hRS hI) (List.range ((xwW cI cZ cS q0_1 xa xv ho0 ho1 pd0 pd1 m0 ts0 ts1 a ha sa cn cs sc tm tv pd sv ln old sz z) : va_W).length) 0 7 rfl rfl (xg_ndr _) (xg_range _ _) (fun _ => by exact xwW_f) (by decide) (by decide) rfl hl.1 rfl (Nat.le_of_ble_eq_true rfl) dL_law_438 ⟨Nat.le_of_ble_eq_true rfl, Nat.le_of_ble_eq_true rfl⟩ (fun r438 u438 H locs hw hP hD hS => ?_)
  have p438 : r438 = cntR z ln sz (xs (k.toInt.toNat + 1)) := hw
  have hP : va_P D vwCl ((xwW cI cZ cS q0_1 xa xv ho0 ho1 pd0 pd1 m0 ts0 ts1 a ha sa cn cs sc tm tv pd sv ln old sz z) ++ [(q8_2, .inr (8, [.ref h1, .ref h2, .ref h3, .int sz, .ref h4, .ref h5, .ref h6, .int ln, .int gse, .int gte, .int gsp, .ref h7, .ref h8, .int gtl])), (h1, .inl (cI, 190, .inl z)), (h2, .inl (cI, 190, .inl spare)), (h3, .inl (cI, 1140, .inl past)), (h4, .inl (cI, 380, .inl slots)), (h5, .inl (cZ, 2, .inl sv)), (h6, .inl (cI, 60, .inl pd)), (h7, .inl (cI, 120, .inl tf)), (h8, .inl (cI, 10, .inl tmm))]) H := xk_P hP (xg_set (by exact xwW_f))
  have hD : va_D A ((xwW cI cZ cS q0_1 xa xv ho0 ho1 pd0 pd1 m0 ts0 ts1 a ha sa cn cs sc tm tv pd sv ln old sz z) ++ [(q8_2, .inr (8, [.ref h1, .ref h2, .ref h3, .int sz, .ref h4, .ref h5, .ref h6, .int ln, .int gse, .int gte, .int gsp, .ref h7, .ref h8, .int gtl])), (h1, .inl (cI, 190, .inl z)), (h2, .inl (cI, 190, .inl spare)), (h3, .inl (cI, 1140, .inl past)), (h4, .inl (cI, 380, .inl slots)), (h5, .inl (cZ, 2, .inl sv)), (h6, .inl (cI, 60, .inl pd)), (h7, .inl (cI, 120, .inl tf)), (h8, .inl (cI, 10, .inl tmm))]) := xk_D hD (xg_set (by exact xwW_f))
  have hP := xg_P hP List.perm_append_comm
  have hD := xg_D hD List.perm_append_comm
  have hP : va_P D vwCl ([(q8_2, .inr (8, [.ref h1, .ref h2, .ref h3, .int sz, .ref h4, .ref h5, .ref h6, .int ln, .int gse, .int gte, .int gsp, .ref h7, .ref h8, .int gtl])), (h1, .inl (cI, 190, .inl z)), (h2, .inl (cI, 190, .inl spare)), (h3, .inl (cI, 1140, .inl past)), (h4, .inl (cI, 380, .inl slots)), (h5, .inl (cZ, 2, .inl sv)), (h6, .inl (cI, 60, .inl pd)), (h7, .inl (cI, 120, .inl tf)), (h8, .inl (cI, 10, .inl tmm))] ++ (xwW cI cZ cS q0_1 xa xv ho0 ho1 pd0 pd1 m0 ts0 ts1 a ha sa cn cs sc tm tv pd sv ln old sz z)) H := hP
  have hD : va_D A ([(q8_2, .inr (8, [.ref h1, .ref h2, .ref h3, .int sz, .ref h4, .ref h5, .ref h6, .int ln, .int gse, .int gte, .int gsp, .ref h7, .ref h8, .int gtl])), (h1, .inl (cI, 190, .inl z)), (h2, .inl (cI, 190, .inl spare)), (h3, .inl (cI, 1140, .inl past)), (h4, .inl (cI, 380, .inl slots)), (h5, .inl (cZ, 2, .inl sv)), (h6, .inl (cI, 60, .inl pd)), (h7, .inl (cI, 120, .inl tf)), (h8, .inl (cI, 10, .inl tmm))] ++ (xwW cI cZ cS q0_1 xa xv ho0 ho1 pd0 pd1 m0 ts0 ts1 a ha sa cn cs sc tm tv pd sv ln old sz z)) := hD
  refine lv_aload_n hx hb dL_law_441 rfl (lv_at hl 1 rfl) ?_
  refine lv_aload_n hx hb dL_law_442 rfl (lv_at hl 3 rfl) ?_
  refine lv_iload_n hx hb dL_law_443 rfl (lv_at hl 0 rfl) ?_
  refine lv_iconst (v := 1) hx hb dL_law_444 (by decide) ?_
  refine lv_iadd hx hb dL_law_445 ?_
  refine lv_topi (fun x445 e445 => ?_)
  have t445 : x445.toInt = k.toInt + 1 := by rw [e445]; exact xi_add rfl (by decide) (by omega) (by omega)
  refine va_sld hx hb hX hbl hbA hS (xi_in (by omega) (by omega)) dL_law_446 ?_
  refine xk_top (z := xs (k.toInt.toNat + 1)) (xk_rd (by omega)) ?_
  refine xk_Vi0 (As := [.int (xs (k.toInt.toNat + 1))]) (rest := [.int r438]) hx hb hml hown hts hK hN hZ hP hD hS hA mb_X8_count mw_4_42 mw_4_43 mw_4_44 (c_X8_count l D cI cZ cS q8_2 h1 h2 h3 h4 h5 h6 h7 h8 sz ln gse gte gsp gtl z (xs (k.toInt.toNat + 1)) (by exact hI.2.1) (by exact hI.2.2.1)) [0, 1] 0 8 rfl rfl (by decide) rfl (fun _ => by simp only [List.map]) (by decide) (by decide) rfl hl.1 rfl (Nat.le_of_ble_eq_true rfl) dL_law_447 ⟨Nat.le_of_ble_eq_true rfl, Nat.le_of_ble_eq_true rfl⟩ (fun _ => rfl) (fun r447 _ H locs hw hP hD hS => ?_)
  have e447 : r447 = cntR z ln sz (xs (k.toInt.toNat + 1)) := hw
  have hrr : r438 = r447 := p438.trans e447.symm
  refine lv_icmp_eq (tgt := 688) hx hb dL_law_450 (by decide) (fun c450 => ?_) (fun c450 => ?_)
  · have t450 : r438.toInt = r447.toInt := xi_eq rfl rfl c450
    have d450 : r438 = r447 := c450
    exact next cn cs sc tm tv pd sv ln old sz z spare past slots tf tmm gse gte gsp gtl (LI_mono (by omega) hLI) _ _ hP hD hS ls (lv_sub hl [0, 1, 2, 3] rfl)
  · have t450 : ¬ r438.toInt = r447.toInt := xi_ne rfl rfl c450
    have d450 : ¬ r438 = r447 := c450
    exact absurd hrr c450

set_option maxHeartbeats 4000000 in
set_option maxRecDepth 100000 in
theorem lc_meets {p : Program} {e : Env} {s : State} {m : MethodId} {below : List Frame} {meth : Method} {c : Code} (l : Launch) {b L : Nat} {xs : Nat → Int32} {A : Nat → Prop} {Q : State → Prop} {D : va_G} {cI cZ cS : ClassId} {q0_1 xa xv ho0 ho1 pd0 pd1 m0 ts0 ts1 q8_2 h1 h2 h3 h4 h5 h6 h7 h8 : Nat} {a : Nat → Nat} {ha sa : Nat → Nat → Nat} (hx : p.tables.exec = Jvm.exec) (hb : c.code = code) (hml : c.maxLocals = 4) (hown : s.vm.findClass R_law = some m.cls) (hts : ∀ w ∈ Cond.arrayClass .int :: wsL_law, w.before #[Value.ref b] s = true) (hX : va_X b L xs s s.heap) (hbl : b < s.heap.size) (hbA : ¬ A b) (hA : ∀ q : Nat, s.heap.size ≤ q → A q) (hK : va_K D vwCl (xTy cI cZ cS) s) (hN : xN s) (hZ : xZ A s) (hL : L ≤ 2048) (k : Int32) (cn : Nat → Nat → Int32) (cs : Nat → Nat → Nat → Int32) (sc : Nat → Nat → Nat → Int32) (tm : Nat → Int32) (tv : Nat → Int32) (pd : Nat → Int32) (sv : Nat → Int32) (ln : Int32) (old : Int32) (sz : Int32) (z : Nat → Int32) (spare : Nat → Int32) (past : Nat → Int32) (slots : Nat → Int32) (tf : Nat → Int32) (tmm : Nat → Int32) (gse : Int32) (gte : Int32) (gsp : Int32) (gtl : Int32) (hk : 0 ≤ k.toInt ∧ k.toInt + 4 ≤ L) (hLI : LI (125 * k.toInt) cn cs sc sv ln old sz z past slots) (next : ∀ (cn : Nat → Nat → Int32) (cs : Nat → Nat → Nat → Int32) (sc : Nat → Nat → Nat → Int32) (tm : Nat → Int32) (tv : Nat → Int32) (pd : Nat → Int32) (sv : Nat → Int32) (ln : Int32) (old : Int32) (sz : Int32) (z : Nat → Int32) (spare : Nat → Int32) (past : Nat → Int32) (slots : Nat → Int32) (tf : Nat → Int32) (tmm : Nat → Int32) (gse : Int32) (gte : Int32) (gsp : Int32) (gtl : Int32), LI (125 * k.toInt + 500) cn cs sc sv ln old sz z past slots → ∀ (H : Heap) (locs : List Loc), va_P D vwCl ([(q8_2, .inr (8, [.ref h1, .ref h2, .ref h3, .int sz, .ref h4, .ref h5, .ref h6, .int ln, .int gse, .int gte, .int gsp, .ref h7, .ref h8, .int gtl])), (h1, .inl (cI, 190, .inl z)), (h2, .inl (cI, 190, .inl spare)), (h3, .inl (cI, 1140, .inl past)), (h4, .inl (cI, 380, .inl slots)), (h5, .inl (cZ, 2, .inl sv)), (h6, .inl (cI, 60, .inl pd)), (h7, .inl (cI, 120, .inl tf)), (h8, .inl (cI, 10, .inl tmm))] ++ (xwW cI cZ cS q0_1 xa xv ho0 ho1 pd0 pd1 m0 ts0 ts1 a ha sa cn cs sc tm tv pd sv ln old sz z)) H → va_D A ([(q8_2, .inr (8, [.ref h1, .ref h2, .ref h3, .int sz, .ref h4, .ref h5, .ref h6, .int ln, .int gse, .int gte, .int gsp, .ref h7, .ref h8, .int gtl])), (h1, .inl (cI, 190, .inl z)), (h2, .inl (cI, 190, .inl spare)), (h3, .inl (cI, 1140, .inl past)), (h4, .inl (cI, 380, .inl slots)), (h5, .inl (cZ, 2, .inl sv)), (h6, .inl (cI, 60, .inl pd)), (h7, .inl (cI, 120, .inl tf)), (h8, .inl (cI, 10, .inl tmm))] ++ (xwW cI cZ cS q0_1 xa xv ho0 ho1 pd0 pd1 m0 ts0 ts1 a ha sa cn cs sc tm tv pd sv ln old sz z)) → va_S A s.heap H locs → ∀ ls : Array Slot, lv_has ls 4 [(3, .int k), (2, .ref q8_2), (1, .ref q0_1), (0, .ref b)] → W p l e room_1 s m #[Value.ref b] below meth c H locs 127 5090 Q (F0 m 688 ls [])) (H : Heap) (locs : List Loc) (hP : va_P D vwCl ([(q8_2, .inr (8, [.ref h1, .ref h2, .ref h3, .int sz, .ref h4, .ref h5, .ref h6, .int ln, .int gse, .int gte, .int gsp, .ref h7, .ref h8, .int gtl])), (h1, .inl (cI, 190, .inl z)), (h2, .inl (cI, 190, .inl spare)), (h3, .inl (cI, 1140, .inl past)), (h4, .inl (cI, 380, .inl slots)), (h5, .inl (cZ, 2, .inl sv)), (h6, .inl (cI, 60, .inl pd)), (h7, .inl (cI, 120, .inl tf)), (h8, .inl (cI, 10, .inl tmm))] ++ (xwW cI cZ cS q0_1 xa xv ho0 ho1 pd0 pd1 m0 ts0 ts1 a ha sa cn cs sc tm tv pd sv ln old sz z)) H) (hD : va_D A ([(q8_2, .inr (8, [.ref h1, .ref h2, .ref h3, .int sz, .ref h4, .ref h5, .ref h6, .int ln, .int gse, .int gte, .int gsp, .ref h7, .ref h8, .int gtl])), (h1, .inl (cI, 190, .inl z)), (h2, .inl (cI, 190, .inl spare)), (h3, .inl (cI, 1140, .inl past)), (h4, .inl (cI, 380, .inl slots)), (h5, .inl (cZ, 2, .inl sv)), (h6, .inl (cI, 60, .inl pd)), (h7, .inl (cI, 120, .inl tf)), (h8, .inl (cI, 10, .inl tmm))] ++ (xwW cI cZ cS q0_1 xa xv ho0 ho1 pd0 pd1 m0 ts0 ts1 a ha sa cn cs sc tm tv pd sv ln old sz z))) (hS : va_S A s.heap H locs) (ls : Array Slot) (hl : lv_has ls 4 [(3, .int k), (2, .ref q8_2), (1, .ref q0_1), (0, .ref b)]) : W p l e room_1 s m #[Value.ref b] below meth c H locs 127 5090 Q (F0 m 491 ls []) := by
  obtain ⟨hRS, hI, hBD, ⟨hold, hszz, hlnn⟩, hmcs, hmsc, hRH, hRL⟩ := id hLI
  refine lv_aload_n hx hb dL_law_491 rfl (lv_at hl 2 rfl) ?_
  refine lv_aload_n hx hb dL_law_492 rfl (lv_at hl 3 rfl) ?_
  refine lv_iload_n hx hb dL_law_493 rfl (lv_at hl 0 rfl) ?_
  refine lv_iconst (v := 1) hx hb dL_law_494 (by decide) ?_
  refine lv_iadd hx hb dL_law_495 ?_
  refine lv_topi (fun x495 e495 => ?_)
  have t495 : x495.toInt = k.toInt + 1 := by rw [e495]; exact xi_add rfl (by decide) (by omega) (by omega)
  refine va_sld hx hb hX hbl hbA hS (xi_in (by omega) (by omega)) dL_law_496 ?_
  refine xk_top (z := xs (k.toInt.toNat + 1)) (xk_rd (by omega)) ?_
  refine lv_aload_n hx hb dL_law_497 rfl (lv_at hl 3 rfl) ?_
  refine lv_iload_n hx hb dL_law_498 rfl (lv_at hl 0 rfl) ?_
  refine lv_iconst (v := 2) hx hb dL_law_499 (by decide) ?_
  refine lv_iadd hx hb dL_law_500 ?_
  refine lv_topi (fun x500 e500 => ?_)
  have t500 : x500.toInt = k.toInt + 2 := by rw [e500]; exact xi_add rfl (by decide) (by omega) (by omega)
  refine va_sld hx hb hX hbl hbA hS (xi_in (by omega) (by omega)) dL_law_501 ?_
  refine xk_top (z := xs (k.toInt.toNat + 2)) (xk_rd (by omega)) ?_
  refine xk_Vi (As := [.int (xs (k.toInt.toNat + 1)), .int (xs (k.toInt.toNat + 2))]) (rest := []) hx hb hml hown hts hK hN hZ (xg_P hP List.perm_append_comm) (xg_D hD List.perm_append_comm) hS hA mb_X7_meets mw_3_7 mw_3_8 mw_3_9 (k_X7_meets l D cI cZ cS q0_1 xa xv ho0 ho1 pd0 pd1 m0 ts0 ts1 a ha sa cn cs sc tm tv pd sv ln old sz z (xs (k.toInt.toNat + 1)) (xs (k.toInt.toNat + 2)) hRS hI) (List.range ((xwW cI cZ cS q0_1 xa xv ho0 ho1 pd0 pd1 m0 ts0 ts1 a ha sa cn cs sc tm tv pd sv ln old sz z) : va_W).length) 0 7 rfl rfl (xg_ndr _) (xg_range _ _) (fun _ => by exact xwW_f) (by decide) (by decide) rfl hl.1 rfl (Nat.le_of_ble_eq_true rfl) dL_law_502 ⟨Nat.le_of_ble_eq_true rfl, Nat.le_of_ble_eq_true rfl⟩ (fun r502 u502 H locs hw hP hD hS => ?_)
  have p502 : meetA z (xs (k.toInt.toNat + 1)) (xs (k.toInt.toNat + 2)) r502 := hw
  have hP : va_P D vwCl ((xwW cI cZ cS q0_1 xa xv ho0 ho1 pd0 pd1 m0 ts0 ts1 a ha sa cn cs sc tm tv pd sv ln old sz z) ++ [(q8_2, .inr (8, [.ref h1, .ref h2, .ref h3, .int sz, .ref h4, .ref h5, .ref h6, .int ln, .int gse, .int gte, .int gsp, .ref h7, .ref h8, .int gtl])), (h1, .inl (cI, 190, .inl z)), (h2, .inl (cI, 190, .inl spare)), (h3, .inl (cI, 1140, .inl past)), (h4, .inl (cI, 380, .inl slots)), (h5, .inl (cZ, 2, .inl sv)), (h6, .inl (cI, 60, .inl pd)), (h7, .inl (cI, 120, .inl tf)), (h8, .inl (cI, 10, .inl tmm))]) H := xk_P hP (xg_set (by exact xwW_f))
  have hD : va_D A ((xwW cI cZ cS q0_1 xa xv ho0 ho1 pd0 pd1 m0 ts0 ts1 a ha sa cn cs sc tm tv pd sv ln old sz z) ++ [(q8_2, .inr (8, [.ref h1, .ref h2, .ref h3, .int sz, .ref h4, .ref h5, .ref h6, .int ln, .int gse, .int gte, .int gsp, .ref h7, .ref h8, .int gtl])), (h1, .inl (cI, 190, .inl z)), (h2, .inl (cI, 190, .inl spare)), (h3, .inl (cI, 1140, .inl past)), (h4, .inl (cI, 380, .inl slots)), (h5, .inl (cZ, 2, .inl sv)), (h6, .inl (cI, 60, .inl pd)), (h7, .inl (cI, 120, .inl tf)), (h8, .inl (cI, 10, .inl tmm))]) := xk_D hD (xg_set (by exact xwW_f))
  have hP := xg_P hP List.perm_append_comm
  have hD := xg_D hD List.perm_append_comm
  have hP : va_P D vwCl ([(q8_2, .inr (8, [.ref h1, .ref h2, .ref h3, .int sz, .ref h4, .ref h5, .ref h6, .int ln, .int gse, .int gte, .int gsp, .ref h7, .ref h8, .int gtl])), (h1, .inl (cI, 190, .inl z)), (h2, .inl (cI, 190, .inl spare)), (h3, .inl (cI, 1140, .inl past)), (h4, .inl (cI, 380, .inl slots)), (h5, .inl (cZ, 2, .inl sv)), (h6, .inl (cI, 60, .inl pd)), (h7, .inl (cI, 120, .inl tf)), (h8, .inl (cI, 10, .inl tmm))] ++ (xwW cI cZ cS q0_1 xa xv ho0 ho1 pd0 pd1 m0 ts0 ts1 a ha sa cn cs sc tm tv pd sv ln old sz z)) H := hP
  have hD : va_D A ([(q8_2, .inr (8, [.ref h1, .ref h2, .ref h3, .int sz, .ref h4, .ref h5, .ref h6, .int ln, .int gse, .int gte, .int gsp, .ref h7, .ref h8, .int gtl])), (h1, .inl (cI, 190, .inl z)), (h2, .inl (cI, 190, .inl spare)), (h3, .inl (cI, 1140, .inl past)), (h4, .inl (cI, 380, .inl slots)), (h5, .inl (cZ, 2, .inl sv)), (h6, .inl (cI, 60, .inl pd)), (h7, .inl (cI, 120, .inl tf)), (h8, .inl (cI, 10, .inl tmm))] ++ (xwW cI cZ cS q0_1 xa xv ho0 ho1 pd0 pd1 m0 ts0 ts1 a ha sa cn cs sc tm tv pd sv ln old sz z)) := hD
  refine lv_aload_n hx hb dL_law_505 rfl (lv_at hl 1 rfl) ?_
  refine lv_aload_n hx hb dL_law_506 rfl (lv_at hl 3 rfl) ?_
  refine lv_iload_n hx hb dL_law_507 rfl (lv_at hl 0 rfl) ?_
  refine lv_iconst (v := 1) hx hb dL_law_508 (by decide) ?_
  refine lv_iadd hx hb dL_law_509 ?_
  refine lv_topi (fun x509 e509 => ?_)
  have t509 : x509.toInt = k.toInt + 1 := by rw [e509]; exact xi_add rfl (by decide) (by omega) (by omega)
  refine va_sld hx hb hX hbl hbA hS (xi_in (by omega) (by omega)) dL_law_510 ?_
  refine xk_top (z := xs (k.toInt.toNat + 1)) (xk_rd (by omega)) ?_
  refine lv_aload_n hx hb dL_law_511 rfl (lv_at hl 3 rfl) ?_
  refine lv_iload_n hx hb dL_law_512 rfl (lv_at hl 0 rfl) ?_
  refine lv_iconst (v := 2) hx hb dL_law_513 (by decide) ?_
  refine lv_iadd hx hb dL_law_514 ?_
  refine lv_topi (fun x514 e514 => ?_)
  have t514 : x514.toInt = k.toInt + 2 := by rw [e514]; exact xi_add rfl (by decide) (by omega) (by omega)
  refine va_sld hx hb hX hbl hbA hS (xi_in (by omega) (by omega)) dL_law_515 ?_
  refine xk_top (z := xs (k.toInt.toNat + 2)) (xk_rd (by omega)) ?_
  refine xk_Vi0 (As := [.int (xs (k.toInt.toNat + 1)), .int (xs (k.toInt.toNat + 2))]) (rest := [.int r502]) hx hb hml hown hts hK hN hZ hP hD hS hA mb_X8_meets mw_4_66 mw_4_67 mw_4_68 (c_X8_meets l D cI cZ cS q8_2 h1 h2 h3 h4 h5 h6 h7 h8 sz ln gse gte gsp gtl z (xs (k.toInt.toNat + 1)) (xs (k.toInt.toNat + 2)) (by exact hI.2.1) (by exact hI.2.2.1)) [0, 1] 0 8 rfl rfl (by decide) rfl (fun _ => by simp only [List.map]) (by decide) (by decide) rfl hl.1 rfl (Nat.le_of_ble_eq_true rfl) dL_law_516 ⟨Nat.le_of_ble_eq_true rfl, Nat.le_of_ble_eq_true rfl⟩ (fun _ => rfl) (fun r516 _ H locs hw hP hD hS => ?_)
  have p516 : meetA z (xs (k.toInt.toNat + 1)) (xs (k.toInt.toNat + 2)) r516 := hw
  have hrr : r502 = r516 := meetA_u p502 p516
  refine lv_icmp_eq (tgt := 688) hx hb dL_law_519 (by decide) (fun c519 => ?_) (fun c519 => ?_)
  · have t519 : r502.toInt = r516.toInt := xi_eq rfl rfl c519
    have d519 : r502 = r516 := c519
    exact next cn cs sc tm tv pd sv ln old sz z spare past slots tf tmm gse gte gsp gtl (LI_mono (by omega) hLI) _ _ hP hD hS ls (lv_sub hl [0, 1, 2, 3] rfl)
  · have t519 : ¬ r502.toInt = r516.toInt := xi_ne rfl rfl c519
    have d519 : ¬ r502 = r516 := c519
    exact absurd hrr c519
