set_option maxHeartbeats 4000000 in
set_option maxRecDepth 100000 in
theorem c_X8_beat (l : Launch) (D : va_G) (cI cZ cS : ClassId) (h h1 h2 h3 h4 h5 h6 h7 h8 : Nat) (gst gty gse gte gsp gtl : Int32) (z : Nat → Int32)  (ha : atZ z) (h5m : ¬ z 5 = 0) (hi : 0 ≤ (z 176).toInt ∧ (z 176).toInt ≤ 9 ∧ 0 ≤ (z 177).toInt ∧ (z 177).toInt ≤ 11) : xMv l yX8_beat cX8_beat 2 none ({ frames := 2, cells := 0, slots := 0, locals := 44 } : Room) D (xTy cI cZ cS) [.ref h] [(h, .inr (8, [.ref h1, .ref h2, .ref h3, .int gst, .ref h4, .ref h5, .ref h6, .int gty, .int gse, .int gte, .int gsp, .ref h7, .ref h8, .int gtl])), (h1, .inl (cI, 190, .inl z))] (fun (_ : Unit) => True) (fun (_ : Unit) => [(h, .inr (8, [.ref h1, .ref h2, .ref h3, .int gst, .ref h4, .ref h5, .ref h6, .int gty, .int (if endG z then (1 : Int32) else 0), .int (if endS z then (1 : Int32) else 0), .int gsp, .ref h7, .ref h8, .int gtl])), (h1, .inl (cI, 190, .inl (beatZ z)))]) := by
  refine xk_bodyv (by decide) (Nat.le_of_ble_eq_true rfl) ?_
  intro p e s m below meth c A ls args Q hx hb hr hts hown hlocks hml hin hK hP hD hS hA hN hZ hl hQ
  have hl : lv_has ls 2 [(0, .ref h)] := hl
  have ha0 := ha
  obtain ⟨ha1, ha2⟩ := ha
  refine lv_iconst (v := 1) hx hb dX8_beat_0 (by decide) ?_
  refine lv_aload_n hx hb dX8_beat_1 rfl (lv_at hl 0 rfl) ?_
  refine xk_Vi (As := []) (rest := [.int 1]) hx hb hml hown hts hK hN hZ hP hD hS hA mb_X8_climb mw_3_170 mw_3_172 mw_0_10 (c_X8_climb l D cI cZ cS h h1 h2 h3 h4 h5 h6 h7 h8 gst gty gse gte gsp gtl z (by exact ha0)) [0, 1] 0 8 rfl rfl (by decide) rfl (fun _ => by simp only [List.map]) (by decide) (by decide) rfl hl.1 rfl (Nat.le_of_ble_eq_true rfl) dX8_beat_2 ⟨Nat.zero_le _, Nat.zero_le _⟩ (fun r2 _ H locs hw hP hD hS => ?_)
  have hP : va_P D vwCl [(h, .inr (8, [.ref h1, .ref h2, .ref h3, .int gst, .ref h4, .ref h5, .ref h6, .int gty, .int gse, .int gte, .int gsp, .ref h7, .ref h8, .int gtl])), (h1, .inl (cI, 190, .inl z))] H := hP
  have hD : va_D A [(h, .inr (8, [.ref h1, .ref h2, .ref h3, .int gst, .ref h4, .ref h5, .ref h6, .int gty, .int gse, .int gte, .int gsp, .ref h7, .ref h8, .int gtl])), (h1, .inl (cI, 190, .inl z))] := hD
  have e2 : r2 = climbZ z := hw
  refine lv_iadd hx hb dX8_beat_5 ?_
  refine lv_topi (fun x5 e5 => ?_)
  refine lv_istore_n (lv' := [(1, .int x5), (0, .ref h)]) hx hb dX8_beat_6 rfl hl (by decide) rfl (fun ls hl => ?_)
  refine lv_aload_n hx hb dX8_beat_7 rfl (lv_at hl 1 rfl) ?_
  refine lv_iconst (v := 0) hx hb dX8_beat_8 (by decide) ?_
  refine va_put (D := D) (ci := 8) (v := .int 0) (ty := .boolean) (C := RX8) (T := TX8) (N := 14) hx hb hts xin8 tyX8 tyX8_ok nmX8 hown hK hP hD hS 0 rfl rfl 8 (by decide) (hts _ (List.mem_cons_of_mem _ mw_3_97)) (fun _ h9 => h9) rfl (by decide +kernel) rfl rfl (Nat.le_of_ble_eq_true rfl) dX8_beat_9 (fun H locs hP hD hS => ?_)
  have hP : va_P D vwCl [(h, .inr (8, [.ref h1, .ref h2, .ref h3, .int gst, .ref h4, .ref h5, .ref h6, .int gty, .int 0, .int gte, .int gsp, .ref h7, .ref h8, .int gtl])), (h1, .inl (cI, 190, .inl z))] H := hP
  have hD : va_D A [(h, .inr (8, [.ref h1, .ref h2, .ref h3, .int gst, .ref h4, .ref h5, .ref h6, .int gty, .int 0, .int gte, .int gsp, .ref h7, .ref h8, .int gtl])), (h1, .inl (cI, 190, .inl z))] := hD
  refine lv_aload_n hx hb dX8_beat_12 rfl (lv_at hl 1 rfl) ?_
  refine lv_iconst (v := 0) hx hb dX8_beat_13 (by decide) ?_
  refine va_put (D := D) (ci := 8) (v := .int 0) (ty := .boolean) (C := RX8) (T := TX8) (N := 14) hx hb hts xin8 tyX8 tyX8_ok nmX8 hown hK hP hD hS 0 rfl rfl 9 (by decide) (hts _ (List.mem_cons_of_mem _ mw_3_98)) (fun _ h9 => h9) rfl (by decide +kernel) rfl rfl (Nat.le_of_ble_eq_true rfl) dX8_beat_14 (fun H locs hP hD hS => ?_)
  have hP : va_P D vwCl [(h, .inr (8, [.ref h1, .ref h2, .ref h3, .int gst, .ref h4, .ref h5, .ref h6, .int gty, .int 0, .int 0, .int gsp, .ref h7, .ref h8, .int gtl])), (h1, .inl (cI, 190, .inl z))] H := hP
  have hD : va_D A [(h, .inr (8, [.ref h1, .ref h2, .ref h3, .int gst, .ref h4, .ref h5, .ref h6, .int gty, .int 0, .int 0, .int gsp, .ref h7, .ref h8, .int gtl])), (h1, .inl (cI, 190, .inl z))] := hD
  refine lv_aload_n hx hb dX8_beat_17 rfl (lv_at hl 1 rfl) ?_
  refine va_get (D := D) (ci := 8) (v := .ref h1) (C := RX8) (T := TX8) (N := 14) hx hb hts xin8 hown hK hP 0 rfl rfl 0 (by decide) (hts _ (List.mem_cons_of_mem _ mw_3_89)) (fun _ h9 => h9) rfl dX8_beat_18 ?_
  refine lv_sipush (v := 174) hx hb dX8_beat_21 (by decide) ?_
  refine lv_dup2_11 hx hb dX8_beat_24 rfl rfl ?_
  refine va_iald hx hb hK hP 1 0 rfl rfl (xi_in (by decide) (by decide)) dX8_beat_25 ?_
  refine xk_top (z := z 174) rfl ?_
  refine lv_iconst (v := 1) hx hb dX8_beat_26 (by decide) ?_
  refine lv_iadd hx hb dX8_beat_27 ?_
  refine lv_topi (fun x27 e27 => ?_)
  refine va_iast hx hb hK hP hD hS 1 0 rfl rfl (xi_in (by decide) (by decide)) dX8_beat_28 (fun H locs hP hD hS => ?_)
  have hP : va_P D vwCl [(h, .inr (8, [.ref h1, .ref h2, .ref h3, .int gst, .ref h4, .ref h5, .ref h6, .int gty, .int 0, .int 0, .int gsp, .ref h7, .ref h8, .int gtl])), (h1, .inl (cI, 190, .inl (upd z 174 x27)))] H := hP
  have hD : va_D A [(h, .inr (8, [.ref h1, .ref h2, .ref h3, .int gst, .ref h4, .ref h5, .ref h6, .int gty, .int 0, .int 0, .int gsp, .ref h7, .ref h8, .int gtl])), (h1, .inl (cI, 190, .inl (upd z 174 x27)))] := hD
  refine lv_aload_n hx hb dX8_beat_29 rfl (lv_at hl 1 rfl) ?_
  refine va_get (D := D) (ci := 8) (v := .ref h1) (C := RX8) (T := TX8) (N := 14) hx hb hts xin8 hown hK hP 0 rfl rfl 0 (by decide) (hts _ (List.mem_cons_of_mem _ mw_3_89)) (fun _ h9 => h9) rfl dX8_beat_30 ?_
  refine lv_sipush (v := 182) hx hb dX8_beat_33 (by decide) ?_
  refine va_iald hx hb hK hP 1 0 rfl rfl (xi_in (by decide) (by decide)) dX8_beat_36 ?_
  refine xk_top (z := z 182) rfl ?_
  refine lv_if_ne (tgt := 78) hx hb dX8_beat_37 (by decide) (fun c37 => ?_) (fun c37 => ?_)
  · have t37 : ¬ (z 182).toInt = 0 := xi_ne rfl (by decide) c37
    have d37 : ¬ (z 182) = 0 := c37
    refine lv_aload_n hx hb dX8_beat_78 rfl (lv_at hl 1 rfl) ?_
    refine va_get (D := D) (ci := 8) (v := .ref h1) (C := RX8) (T := TX8) (N := 14) hx hb hts xin8 hown hK hP 0 rfl rfl 0 (by decide) (hts _ (List.mem_cons_of_mem _ mw_3_89)) (fun _ h9 => h9) rfl dX8_beat_79 ?_
    refine lv_sipush (v := 175) hx hb dX8_beat_82 (by decide) ?_
    refine lv_dup2_11 hx hb dX8_beat_85 rfl rfl ?_
    refine va_iald hx hb hK hP 1 0 rfl rfl (xi_in (by decide) (by decide)) dX8_beat_86 ?_
    refine xk_top (z := z 175) rfl ?_
    refine lv_aload_n hx hb dX8_beat_87 rfl (lv_at hl 1 rfl) ?_
    refine va_get (D := D) (ci := 8) (v := .ref h1) (C := RX8) (T := TX8) (N := 14) hx hb hts xin8 hown hK hP 0 rfl rfl 0 (by decide) (hts _ (List.mem_cons_of_mem _ mw_3_89)) (fun _ h9 => h9) rfl dX8_beat_88 ?_
    refine lv_iconst (v := 0) hx hb dX8_beat_91 (by decide) ?_
    refine va_iald hx hb hK hP 1 0 rfl rfl (xi_in (by decide) (by decide)) dX8_beat_92 ?_
    refine xk_top (z := z 0) rfl ?_
    refine lv_iadd hx hb dX8_beat_93 ?_
    refine lv_topi (fun x93 e93 => ?_)
    refine va_iast hx hb hK hP hD hS 1 0 rfl rfl (xi_in (by decide) (by decide)) dX8_beat_94 (fun H locs hP hD hS => ?_)
    have hP : va_P D vwCl [(h, .inr (8, [.ref h1, .ref h2, .ref h3, .int gst, .ref h4, .ref h5, .ref h6, .int gty, .int 0, .int 0, .int gsp, .ref h7, .ref h8, .int gtl])), (h1, .inl (cI, 190, .inl (upd (upd z 174 x27) 175 x93)))] H := hP
    have hD : va_D A [(h, .inr (8, [.ref h1, .ref h2, .ref h3, .int gst, .ref h4, .ref h5, .ref h6, .int gty, .int 0, .int 0, .int gsp, .ref h7, .ref h8, .int gtl])), (h1, .inl (cI, 190, .inl (upd (upd z 174 x27) 175 x93)))] := hD
    have hg : ¬ gaspZ z := by subst e93 e27 e5 e2; exact fun hh => d37 hh.1
    have f95 : (upd (upd z 174 x27) 175 x93) = preZ z := by subst e93 e27 e5 e2; rw [preZ, if_neg hg]
    rw [f95] at hP hD
    have hP : va_P D vwCl [(h, .inr (8, [.ref h1, .ref h2, .ref h3, .int gst, .ref h4, .ref h5, .ref h6, .int gty, .int 0, .int 0, .int gsp, .ref h7, .ref h8, .int gtl])), (h1, .inl (cI, 190, .inl (preZ z)))] H := hP
    have hD : va_D A [(h, .inr (8, [.ref h1, .ref h2, .ref h3, .int gst, .ref h4, .ref h5, .ref h6, .int gty, .int 0, .int 0, .int gsp, .ref h7, .ref h8, .int gtl])), (h1, .inl (cI, 190, .inl (preZ z)))] := hD
    obtain ⟨g95_1, hg95_1⟩ : ∃ g, g = (preZ z) := ⟨_, rfl⟩
    rw [← hg95_1] at hP hD
    have hP : va_P D vwCl [(h, .inr (8, [.ref h1, .ref h2, .ref h3, .int gst, .ref h4, .ref h5, .ref h6, .int gty, .int 0, .int 0, .int gsp, .ref h7, .ref h8, .int gtl])), (h1, .inl (cI, 190, .inl g95_1))] H := hP
    have hD : va_D A [(h, .inr (8, [.ref h1, .ref h2, .ref h3, .int gst, .ref h4, .ref h5, .ref h6, .int gty, .int 0, .int 0, .int gsp, .ref h7, .ref h8, .int gtl])), (h1, .inl (cI, 190, .inl g95_1))] := hD
    refine lv_aload_n hx hb dX8_beat_95 rfl (lv_at hl 1 rfl) ?_
    refine va_get (D := D) (ci := 8) (v := .ref h1) (C := RX8) (T := TX8) (N := 14) hx hb hts xin8 hown hK hP 0 rfl rfl 0 (by decide) (hts _ (List.mem_cons_of_mem _ mw_3_89)) (fun _ h9 => h9) rfl dX8_beat_96 ?_
    refine lv_sipush (v := 182) hx hb dX8_beat_99 (by decide) ?_
    refine va_iald hx hb hK hP 1 0 rfl rfl (xi_in (by decide) (by decide)) dX8_beat_102 ?_
    refine xk_top (z := g95_1 182) rfl ?_
    refine lv_if_le (tgt := 175) hx hb dX8_beat_103 (by decide) (fun c103 => ?_) (fun c103 => ?_)
    · have t103 : (g95_1 182).toInt ≤ 0 := xi_le rfl (by decide) c103
      refine lv_aload_n hx hb dX8_beat_175 rfl (lv_at hl 1 rfl) ?_
      refine va_get (D := D) (ci := 8) (v := .ref h1) (C := RX8) (T := TX8) (N := 14) hx hb hts xin8 hown hK hP 0 rfl rfl 0 (by decide) (hts _ (List.mem_cons_of_mem _ mw_3_89)) (fun _ h9 => h9) rfl dX8_beat_176 ?_
      refine lv_sipush (v := 181) hx hb dX8_beat_179 (by decide) ?_
      refine lv_dup2_11 hx hb dX8_beat_182 rfl rfl ?_
      refine va_iald hx hb hK hP 1 0 rfl rfl (xi_in (by decide) (by decide)) dX8_beat_183 ?_
      refine xk_top (z := g95_1 181) rfl ?_
      refine lv_iload_n hx hb dX8_beat_184 rfl (lv_at hl 0 rfl) ?_
      refine lv_isub hx hb dX8_beat_185 ?_
      refine lv_topi (fun x185 e185 => ?_)
      refine va_iast hx hb hK hP hD hS 1 0 rfl rfl (xi_in (by decide) (by decide)) dX8_beat_186 (fun H locs hP hD hS => ?_)
      have hP : va_P D vwCl [(h, .inr (8, [.ref h1, .ref h2, .ref h3, .int gst, .ref h4, .ref h5, .ref h6, .int gty, .int 0, .int 0, .int gsp, .ref h7, .ref h8, .int gtl])), (h1, .inl (cI, 190, .inl (upd g95_1 181 x185)))] H := hP
      have hD : va_D A [(h, .inr (8, [.ref h1, .ref h2, .ref h3, .int gst, .ref h4, .ref h5, .ref h6, .int gty, .int 0, .int 0, .int gsp, .ref h7, .ref h8, .int gtl])), (h1, .inl (cI, 190, .inl (upd g95_1 181 x185)))] := hD
      refine lv_aload_n hx hb dX8_beat_187 rfl (lv_at hl 1 rfl) ?_
      refine va_get (D := D) (ci := 8) (v := .ref h1) (C := RX8) (T := TX8) (N := 14) hx hb hts xin8 hown hK hP 0 rfl rfl 0 (by decide) (hts _ (List.mem_cons_of_mem _ mw_3_89)) (fun _ h9 => h9) rfl dX8_beat_188 ?_
      refine lv_sipush (v := 175) hx hb dX8_beat_191 (by decide) ?_
      refine lv_dup2_11 hx hb dX8_beat_194 rfl rfl ?_
      refine va_iald hx hb hK hP 1 0 rfl rfl (xi_in (by decide) (by decide)) dX8_beat_195 ?_
      refine xk_top (z := g95_1 175) rfl ?_
      refine lv_aload_n hx hb dX8_beat_196 rfl (lv_at hl 1 rfl) ?_
      refine xk_Vi (As := []) (rest := [.int (g95_1 175), .int 175, .ref h1]) hx hb hml hown hts hK hN hZ hP hD hS hA mb_X8_climb mw_3_170 mw_3_172 mw_0_10 (c_X8_climb l D cI cZ cS h h1 h2 h3 h4 h5 h6 h7 h8 gst gty (0 : Int32) (0 : Int32) gsp gtl (upd g95_1 181 x185) (by unfold atZ; rw [upd_n _ _ _ (by omega), hg95_1, preZ_o z (by omega) (by omega) (by omega) (by omega)]; exact ha0)) [0, 1] 0 8 rfl rfl (by decide) rfl (fun _ => by simp only [List.map]) (by decide) (by decide) rfl hl.1 rfl (Nat.le_of_ble_eq_true rfl) dX8_beat_197 ⟨Nat.zero_le _, Nat.zero_le _⟩ (fun r197 _ H locs hw hP hD hS => ?_)
      have hP : va_P D vwCl [(h, .inr (8, [.ref h1, .ref h2, .ref h3, .int gst, .ref h4, .ref h5, .ref h6, .int gty, .int 0, .int 0, .int gsp, .ref h7, .ref h8, .int gtl])), (h1, .inl (cI, 190, .inl (upd g95_1 181 x185)))] H := hP
      have hD : va_D A [(h, .inr (8, [.ref h1, .ref h2, .ref h3, .int gst, .ref h4, .ref h5, .ref h6, .int gty, .int 0, .int 0, .int gsp, .ref h7, .ref h8, .int gtl])), (h1, .inl (cI, 190, .inl (upd g95_1 181 x185)))] := hD
      have e197 : r197 = climbZ (upd g95_1 181 x185) := hw
      have e197 : r197 = climbZ z := by rw [e197, climbZ_upd _ (by unfold atZ; rw [hg95_1, preZ_o z (by omega) (by omega) (by omega) (by omega)]; exact ha0) _ (by omega) (by omega), hg95_1, climbZ_pre z ha0]
      refine lv_iadd hx hb dX8_beat_200 ?_
      refine lv_topi (fun x200 e200 => ?_)
      refine va_iast hx hb hK hP hD hS 1 0 rfl rfl (xi_in (by decide) (by decide)) dX8_beat_201 (fun H locs hP hD hS => ?_)
      have hP : va_P D vwCl [(h, .inr (8, [.ref h1, .ref h2, .ref h3, .int gst, .ref h4, .ref h5, .ref h6, .int gty, .int 0, .int 0, .int gsp, .ref h7, .ref h8, .int gtl])), (h1, .inl (cI, 190, .inl (upd (upd g95_1 181 x185) 175 x200)))] H := hP
      have hD : va_D A [(h, .inr (8, [.ref h1, .ref h2, .ref h3, .int gst, .ref h4, .ref h5, .ref h6, .int gty, .int 0, .int 0, .int gsp, .ref h7, .ref h8, .int gtl])), (h1, .inl (cI, 190, .inl (upd (upd g95_1 181 x185) 175 x200)))] := hD
      refine lv_aload_n hx hb dX8_beat_202 rfl (lv_at hl 1 rfl) ?_
      refine va_get (D := D) (ci := 8) (v := .ref h1) (C := RX8) (T := TX8) (N := 14) hx hb hts xin8 hown hK hP 0 rfl rfl 0 (by decide) (hts _ (List.mem_cons_of_mem _ mw_3_89)) (fun _ h9 => h9) rfl dX8_beat_203 ?_
      refine lv_sipush (v := 187) hx hb dX8_beat_206 (by decide) ?_
      refine lv_dup2_11 hx hb dX8_beat_209 rfl rfl ?_
      refine va_iald hx hb hK hP 1 0 rfl rfl (xi_in (by decide) (by decide)) dX8_beat_210 ?_
      refine xk_top (z := g95_1 187) rfl ?_
      refine lv_iconst (v := 1) hx hb dX8_beat_211 (by decide) ?_
      refine lv_iadd hx hb dX8_beat_212 ?_
      refine lv_topi (fun x212 e212 => ?_)
      refine va_iast hx hb hK hP hD hS 1 0 rfl rfl (xi_in (by decide) (by decide)) dX8_beat_213 (fun H locs hP hD hS => ?_)
      have hP : va_P D vwCl [(h, .inr (8, [.ref h1, .ref h2, .ref h3, .int gst, .ref h4, .ref h5, .ref h6, .int gty, .int 0, .int 0, .int gsp, .ref h7, .ref h8, .int gtl])), (h1, .inl (cI, 190, .inl (upd (upd (upd g95_1 181 x185) 175 x200) 187 x212)))] H := hP
      have hD : va_D A [(h, .inr (8, [.ref h1, .ref h2, .ref h3, .int gst, .ref h4, .ref h5, .ref h6, .int gty, .int 0, .int 0, .int gsp, .ref h7, .ref h8, .int gtl])), (h1, .inl (cI, 190, .inl (upd (upd (upd g95_1 181 x185) 175 x200) 187 x212)))] := hD
      have f214 : (upd (upd (upd g95_1 181 x185) 175 x200) 187 x212) = singZ z := by subst e212 e200 e197 e185; subst e5; subst e2; rw [singZ, ← hg95_1]; rfl
      rw [f214] at hP hD
      have hP : va_P D vwCl [(h, .inr (8, [.ref h1, .ref h2, .ref h3, .int gst, .ref h4, .ref h5, .ref h6, .int gty, .int 0, .int 0, .int gsp, .ref h7, .ref h8, .int gtl])), (h1, .inl (cI, 190, .inl (singZ z)))] H := hP
      have hD : va_D A [(h, .inr (8, [.ref h1, .ref h2, .ref h3, .int gst, .ref h4, .ref h5, .ref h6, .int gty, .int 0, .int 0, .int gsp, .ref h7, .ref h8, .int gtl])), (h1, .inl (cI, 190, .inl (singZ z)))] := hD
      obtain ⟨g214_1, hg214_1⟩ : ∃ g, g = (singZ z) := ⟨_, rfl⟩
      rw [← hg214_1] at hP hD
      have hP : va_P D vwCl [(h, .inr (8, [.ref h1, .ref h2, .ref h3, .int gst, .ref h4, .ref h5, .ref h6, .int gty, .int 0, .int 0, .int gsp, .ref h7, .ref h8, .int gtl])), (h1, .inl (cI, 190, .inl g214_1))] H := hP
      have hD : va_D A [(h, .inr (8, [.ref h1, .ref h2, .ref h3, .int gst, .ref h4, .ref h5, .ref h6, .int gty, .int 0, .int 0, .int gsp, .ref h7, .ref h8, .int gtl])), (h1, .inl (cI, 190, .inl g214_1))] := hD
      have hrz : ¬ restZ z := by show ¬ 0 < (preZ z 182).toInt; rw [← hg95_1]; exact Int.not_lt.mpr t103
      have hsa : atZ g214_1 := by rw [hg214_1]; unfold atZ; rw [singZ_o z (by omega) (by omega) (by omega) (by omega) (by omega) (by omega)]; exact ha0
      refine lv_aload_n hx hb dX8_beat_214 rfl (lv_at hl 1 rfl) ?_
      refine xk_Vv (As := []) (rest := []) hx hb hml hown hts hK hN hZ hP hD hS hA mb_X8_step mw_3_178 mw_3_180 mw_0_12 (c_X8_step l D cI cZ cS h h1 h2 h3 h4 h5 h6 h7 h8 gst gty (0 : Int32) (0 : Int32) gsp gtl g214_1 (by exact hsa) (by rw [hg214_1, singZ_o z (by omega) (by omega) (by omega) (by omega) (by omega) (by omega)]; exact h5m)) [0, 1] 0 8 rfl rfl (by decide) rfl (fun _ => by simp only [List.map]) (by decide) (by decide) rfl hl.1 rfl (Nat.le_of_ble_eq_true rfl) dX8_beat_215 ⟨Nat.zero_le _, Nat.zero_le _⟩ (fun _ H locs hw hP hD hS => ?_)
      have hP : va_P D vwCl [(h, .inr (8, [.ref h1, .ref h2, .ref h3, .int gst, .ref h4, .ref h5, .ref h6, .int gty, .int 0, .int (if (¬ skipZ g214_1 ∧ fullZ g214_1) then 1 else (0 : Int32)), .int gsp, .ref h7, .ref h8, .int gtl])), (h1, .inl (cI, 190, .inl (stepZ g214_1)))] H := hP
      have hD : va_D A [(h, .inr (8, [.ref h1, .ref h2, .ref h3, .int gst, .ref h4, .ref h5, .ref h6, .int gty, .int 0, .int (if (¬ skipZ g214_1 ∧ fullZ g214_1) then 1 else (0 : Int32)), .int gsp, .ref h7, .ref h8, .int gtl])), (h1, .inl (cI, 190, .inl (stepZ g214_1)))] := hD
      obtain ⟨g215_1, hg215_1⟩ : ∃ g, g = (stepZ g214_1) := ⟨_, rfl⟩
      rw [← hg215_1] at hP hD
      have hP : va_P D vwCl [(h, .inr (8, [.ref h1, .ref h2, .ref h3, .int gst, .ref h4, .ref h5, .ref h6, .int gty, .int 0, .int (if (¬ skipZ g214_1 ∧ fullZ g214_1) then 1 else (0 : Int32)), .int gsp, .ref h7, .ref h8, .int gtl])), (h1, .inl (cI, 190, .inl g215_1))] H := hP
      have hD : va_D A [(h, .inr (8, [.ref h1, .ref h2, .ref h3, .int gst, .ref h4, .ref h5, .ref h6, .int gty, .int 0, .int (if (¬ skipZ g214_1 ∧ fullZ g214_1) then 1 else (0 : Int32)), .int gsp, .ref h7, .ref h8, .int gtl])), (h1, .inl (cI, 190, .inl g215_1))] := hD
      refine lv_aload_n hx hb dX8_beat_218 rfl (lv_at hl 1 rfl) ?_
      refine xk_Vv (As := []) (rest := []) hx hb hml hown hts hK hN hZ hP hD hS hA mb_X8_goOn mw_3_182 mw_3_184 mw_0_13 (c_X8_goOn l D cI cZ cS h h1 h2 h3 h4 h5 h6 h7 h8 gst gty (0 : Int32) (if (¬ skipZ g214_1 ∧ fullZ g214_1) then 1 else (0 : Int32)) gsp gtl g215_1 (by rw [hg215_1, stepZ_o _ (by omega) (by omega) (by omega) (by omega) (by omega) (by omega), stepZ_o _ (by omega) (by omega) (by omega) (by omega) (by omega) (by omega), hg214_1, singZ_o z (by omega) (by omega) (by omega) (by omega) (by omega) (by omega), singZ_o z (by omega) (by omega) (by omega) (by omega) (by omega) (by omega)]; exact hi)) [0, 1] 0 8 rfl rfl (by decide) rfl (fun _ => by simp only [List.map]) (by decide) (by decide) rfl hl.1 rfl (Nat.le_of_ble_eq_true rfl) dX8_beat_219 ⟨Nat.zero_le _, Nat.zero_le _⟩ (fun _ H locs hw hP hD hS => ?_)
      have hP : va_P D vwCl [(h, .inr (8, [.ref h1, .ref h2, .ref h3, .int gst, .ref h4, .ref h5, .ref h6, .int gty, .int (if (¬ inFootZ g215_1 ∧ songEZ g215_1) then 1 else (0 : Int32)), .int (if (¬ skipZ g214_1 ∧ fullZ g214_1) then 1 else (0 : Int32)), .int gsp, .ref h7, .ref h8, .int gtl])), (h1, .inl (cI, 190, .inl (goOnZ g215_1)))] H := hP
      have hD : va_D A [(h, .inr (8, [.ref h1, .ref h2, .ref h3, .int gst, .ref h4, .ref h5, .ref h6, .int gty, .int (if (¬ inFootZ g215_1 ∧ songEZ g215_1) then 1 else (0 : Int32)), .int (if (¬ skipZ g214_1 ∧ fullZ g214_1) then 1 else (0 : Int32)), .int gsp, .ref h7, .ref h8, .int gtl])), (h1, .inl (cI, 190, .inl (goOnZ g215_1)))] := hD
      obtain ⟨g219_1, hg219_1⟩ : ∃ g, g = (goOnZ g215_1) := ⟨_, rfl⟩
      rw [← hg219_1] at hP hD
      have hP : va_P D vwCl [(h, .inr (8, [.ref h1, .ref h2, .ref h3, .int gst, .ref h4, .ref h5, .ref h6, .int gty, .int (if (¬ inFootZ g215_1 ∧ songEZ g215_1) then 1 else (0 : Int32)), .int (if (¬ skipZ g214_1 ∧ fullZ g214_1) then 1 else (0 : Int32)), .int gsp, .ref h7, .ref h8, .int gtl])), (h1, .inl (cI, 190, .inl g219_1))] H := hP
      have hD : va_D A [(h, .inr (8, [.ref h1, .ref h2, .ref h3, .int gst, .ref h4, .ref h5, .ref h6, .int gty, .int (if (¬ inFootZ g215_1 ∧ songEZ g215_1) then 1 else (0 : Int32)), .int (if (¬ skipZ g214_1 ∧ fullZ g214_1) then 1 else (0 : Int32)), .int gsp, .ref h7, .ref h8, .int gtl])), (h1, .inl (cI, 190, .inl g219_1))] := hD
      have hz : g219_1 = beatZ z := by rw [hg219_1, hg215_1, hg214_1, beatZ, if_neg hrz]
      have hu1 : (if (¬ skipZ g214_1 ∧ fullZ g214_1) then 1 else (0 : Int32)) = if endS z then 1 else 0 := by rw [hg214_1]; simp only [endS, hrz, not_false_eq_true, true_and]
      have hu2 : (if (¬ inFootZ g215_1 ∧ songEZ g215_1) then 1 else (0 : Int32)) = if endG z then 1 else 0 := by rw [hg215_1, hg214_1]; simp only [endG, hrz, not_false_eq_true, true_and]
      exact xk_retv () hx hb hr hlocks (xk_P hP (by rw [← hu1, ← hu2, ← hz])) (by trivial) hS dX8_beat_222 hQ
    · have t103 : 0 < (g95_1 182).toInt := xi_nle rfl (by decide) c103
      refine lv_aload_n hx hb dX8_beat_106 rfl (lv_at hl 1 rfl) ?_
      refine va_get (D := D) (ci := 8) (v := .ref h1) (C := RX8) (T := TX8) (N := 14) hx hb hts xin8 hown hK hP 0 rfl rfl 0 (by decide) (hts _ (List.mem_cons_of_mem _ mw_3_89)) (fun _ h9 => h9) rfl dX8_beat_107 ?_
      refine lv_sipush (v := 182) hx hb dX8_beat_110 (by decide) ?_
      refine lv_dup2_11 hx hb dX8_beat_113 rfl rfl ?_
      refine va_iald hx hb hK hP 1 0 rfl rfl (xi_in (by decide) (by decide)) dX8_beat_114 ?_
      refine xk_top (z := g95_1 182) rfl ?_
      refine lv_iconst (v := 1) hx hb dX8_beat_115 (by decide) ?_
      refine lv_isub hx hb dX8_beat_116 ?_
      refine lv_topi (fun x116 e116 => ?_)
      refine va_iast hx hb hK hP hD hS 1 0 rfl rfl (xi_in (by decide) (by decide)) dX8_beat_117 (fun H locs hP hD hS => ?_)
      have hP : va_P D vwCl [(h, .inr (8, [.ref h1, .ref h2, .ref h3, .int gst, .ref h4, .ref h5, .ref h6, .int gty, .int 0, .int 0, .int gsp, .ref h7, .ref h8, .int gtl])), (h1, .inl (cI, 190, .inl (upd g95_1 182 x116)))] H := hP
      have hD : va_D A [(h, .inr (8, [.ref h1, .ref h2, .ref h3, .int gst, .ref h4, .ref h5, .ref h6, .int gty, .int 0, .int 0, .int gsp, .ref h7, .ref h8, .int gtl])), (h1, .inl (cI, 190, .inl (upd g95_1 182 x116)))] := hD
      refine lv_aload_n hx hb dX8_beat_118 rfl (lv_at hl 1 rfl) ?_
      refine va_get (D := D) (ci := 8) (v := .ref h1) (C := RX8) (T := TX8) (N := 14) hx hb hts xin8 hown hK hP 0 rfl rfl 0 (by decide) (hts _ (List.mem_cons_of_mem _ mw_3_89)) (fun _ h9 => h9) rfl dX8_beat_119 ?_
      refine lv_sipush (v := 181) hx hb dX8_beat_122 (by decide) ?_
      refine lv_aload_n hx hb dX8_beat_125 rfl (lv_at hl 1 rfl) ?_
      refine va_get (D := D) (ci := 8) (v := .ref h1) (C := RX8) (T := TX8) (N := 14) hx hb hts xin8 hown hK hP 0 rfl rfl 0 (by decide) (hts _ (List.mem_cons_of_mem _ mw_3_89)) (fun _ h9 => h9) rfl dX8_beat_126 ?_
      refine lv_sipush (v := 181) hx hb dX8_beat_129 (by decide) ?_
      refine va_iald hx hb hK hP 1 0 rfl rfl (xi_in (by decide) (by decide)) dX8_beat_132 ?_
      refine xk_top (z := g95_1 181) rfl ?_
      refine lv_aload_n hx hb dX8_beat_133 rfl (lv_at hl 1 rfl) ?_
      refine va_get (D := D) (ci := 8) (v := .ref h1) (C := RX8) (T := TX8) (N := 14) hx hb hts xin8 hown hK hP 0 rfl rfl 0 (by decide) (hts _ (List.mem_cons_of_mem _ mw_3_89)) (fun _ h9 => h9) rfl dX8_beat_134 ?_
      refine lv_iconst (v := 3) hx hb dX8_beat_137 (by decide) ?_
      refine va_iald hx hb hK hP 1 0 rfl rfl (xi_in (by decide) (by decide)) dX8_beat_138 ?_
      refine xk_top (z := g95_1 3) rfl ?_
      refine lv_iadd hx hb dX8_beat_139 ?_
      refine lv_topi (fun x139 e139 => ?_)
      refine lv_aload_n hx hb dX8_beat_140 rfl (lv_at hl 1 rfl) ?_
      refine va_get (D := D) (ci := 8) (v := .ref h1) (C := RX8) (T := TX8) (N := 14) hx hb hts xin8 hown hK hP 0 rfl rfl 0 (by decide) (hts _ (List.mem_cons_of_mem _ mw_3_89)) (fun _ h9 => h9) rfl dX8_beat_141 ?_
      refine lv_iconst (v := 4) hx hb dX8_beat_144 (by decide) ?_
      refine va_iald hx hb hK hP 1 0 rfl rfl (xi_in (by decide) (by decide)) dX8_beat_145 ?_
      refine xk_top (z := g95_1 4) rfl ?_
      refine lv_icmp_ge (tgt := 167) hx hb dX8_beat_146 (by decide) (fun c146 => ?_) (fun c146 => ?_)
      · have t146 : (g95_1 4).toInt ≤ x139.toInt := xi_le rfl rfl c146
        refine lv_aload_n hx hb dX8_beat_167 rfl (lv_at hl 1 rfl) ?_
        refine va_get (D := D) (ci := 8) (v := .ref h1) (C := RX8) (T := TX8) (N := 14) hx hb hts xin8 hown hK hP 0 rfl rfl 0 (by decide) (hts _ (List.mem_cons_of_mem _ mw_3_89)) (fun _ h9 => h9) rfl dX8_beat_168 ?_
        refine lv_iconst (v := 4) hx hb dX8_beat_171 (by decide) ?_
        refine va_iald hx hb hK hP 1 0 rfl rfl (xi_in (by decide) (by decide)) dX8_beat_172 ?_
        refine xk_top (z := g95_1 4) rfl ?_
        refine va_iast hx hb hK hP hD hS 1 0 rfl rfl (xi_in (by decide) (by decide)) dX8_beat_173 (fun H locs hP hD hS => ?_)
        have hP : va_P D vwCl [(h, .inr (8, [.ref h1, .ref h2, .ref h3, .int gst, .ref h4, .ref h5, .ref h6, .int gty, .int 0, .int 0, .int gsp, .ref h7, .ref h8, .int gtl])), (h1, .inl (cI, 190, .inl (upd (upd g95_1 182 x116) 181 (g95_1 4))))] H := hP
        have hD : va_D A [(h, .inr (8, [.ref h1, .ref h2, .ref h3, .int gst, .ref h4, .ref h5, .ref h6, .int gty, .int 0, .int 0, .int gsp, .ref h7, .ref h8, .int gtl])), (h1, .inl (cI, 190, .inl (upd (upd g95_1 182 x116) 181 (g95_1 4))))] := hD
        have hrz : restZ z := by show 0 < (preZ z 182).toInt; rw [← hg95_1]; exact t103
        have hz : (upd (upd g95_1 182 x116) 181 (g95_1 4)) = beatZ z := by rw [beatZ, if_pos hrz, restsZ, ← hg95_1]; subst e139 e116; rw [if_neg (Int.not_lt.mpr t146)]
        have hu1 : (0 : Int32) = if endS z then 1 else 0 := by rw [if_neg (fun hh => hh.1 hrz)]
        have hu2 : (0 : Int32) = if endG z then 1 else 0 := by rw [if_neg (fun hh => hh.1 hrz)]
        exact xk_retv () hx hb hr hlocks (xk_P hP (by rw [← hu1, ← hu2, ← hz])) (by trivial) hS dX8_beat_174 hQ
      · have t146 : x139.toInt < (g95_1 4).toInt := xi_nle rfl rfl c146
        refine lv_aload_n hx hb dX8_beat_149 rfl (lv_at hl 1 rfl) ?_
        refine va_get (D := D) (ci := 8) (v := .ref h1) (C := RX8) (T := TX8) (N := 14) hx hb hts xin8 hown hK hP 0 rfl rfl 0 (by decide) (hts _ (List.mem_cons_of_mem _ mw_3_89)) (fun _ h9 => h9) rfl dX8_beat_150 ?_
        refine lv_sipush (v := 181) hx hb dX8_beat_153 (by decide) ?_
        refine va_iald hx hb hK hP 1 0 rfl rfl (xi_in (by decide) (by decide)) dX8_beat_156 ?_
        refine xk_top (z := g95_1 181) rfl ?_
        refine lv_aload_n hx hb dX8_beat_157 rfl (lv_at hl 1 rfl) ?_
        refine va_get (D := D) (ci := 8) (v := .ref h1) (C := RX8) (T := TX8) (N := 14) hx hb hts xin8 hown hK hP 0 rfl rfl 0 (by decide) (hts _ (List.mem_cons_of_mem _ mw_3_89)) (fun _ h9 => h9) rfl dX8_beat_158 ?_
        refine lv_iconst (v := 3) hx hb dX8_beat_161 (by decide) ?_
        refine va_iald hx hb hK hP 1 0 rfl rfl (xi_in (by decide) (by decide)) dX8_beat_162 ?_
        refine xk_top (z := g95_1 3) rfl ?_
        refine lv_iadd hx hb dX8_beat_163 ?_
        refine lv_topi (fun x163 e163 => ?_)
        refine lv_goto (tgt := 173) hx hb dX8_beat_164 (by decide) ?_
        refine va_iast hx hb hK hP hD hS 1 0 rfl rfl (xi_in (by decide) (by decide)) dX8_beat_173 (fun H locs hP hD hS => ?_)
        have hP : va_P D vwCl [(h, .inr (8, [.ref h1, .ref h2, .ref h3, .int gst, .ref h4, .ref h5, .ref h6, .int gty, .int 0, .int 0, .int gsp, .ref h7, .ref h8, .int gtl])), (h1, .inl (cI, 190, .inl (upd (upd g95_1 182 x116) 181 x163)))] H := hP
        have hD : va_D A [(h, .inr (8, [.ref h1, .ref h2, .ref h3, .int gst, .ref h4, .ref h5, .ref h6, .int gty, .int 0, .int 0, .int gsp, .ref h7, .ref h8, .int gtl])), (h1, .inl (cI, 190, .inl (upd (upd g95_1 182 x116) 181 x163)))] := hD
        have hrz : restZ z := by show 0 < (preZ z 182).toInt; rw [← hg95_1]; exact t103
        have hz : (upd (upd g95_1 182 x116) 181 x163) = beatZ z := by rw [beatZ, if_pos hrz, restsZ, ← hg95_1]; subst e163 e139 e116; rw [if_pos t146]
        have hu1 : (0 : Int32) = if endS z then 1 else 0 := by rw [if_neg (fun hh => hh.1 hrz)]
        have hu2 : (0 : Int32) = if endG z then 1 else 0 := by rw [if_neg (fun hh => hh.1 hrz)]
        exact xk_retv () hx hb hr hlocks (xk_P hP (by rw [← hu1, ← hu2, ← hz])) (by trivial) hS dX8_beat_174 hQ
  · have t37 : (z 182).toInt = 0 := xi_eq rfl (by decide) c37
    have d37 : (z 182) = 0 := c37
    refine lv_aload_n hx hb dX8_beat_40 rfl (lv_at hl 1 rfl) ?_
    refine va_get (D := D) (ci := 8) (v := .ref h1) (C := RX8) (T := TX8) (N := 14) hx hb hts xin8 hown hK hP 0 rfl rfl 0 (by decide) (hts _ (List.mem_cons_of_mem _ mw_3_89)) (fun _ h9 => h9) rfl dX8_beat_41 ?_
    refine lv_sipush (v := 181) hx hb dX8_beat_44 (by decide) ?_
    refine va_iald hx hb hK hP 1 0 rfl rfl (xi_in (by decide) (by decide)) dX8_beat_47 ?_
    refine xk_top (z := z 181) rfl ?_
    refine lv_iload_n hx hb dX8_beat_48 rfl (lv_at hl 0 rfl) ?_
    refine lv_icmp_ge (tgt := 78) hx hb dX8_beat_49 (by decide) (fun c49 => ?_) (fun c49 => ?_)
    · have t49 : x5.toInt ≤ (z 181).toInt := xi_le rfl rfl c49
      refine lv_aload_n hx hb dX8_beat_78 rfl (lv_at hl 1 rfl) ?_
      refine va_get (D := D) (ci := 8) (v := .ref h1) (C := RX8) (T := TX8) (N := 14) hx hb hts xin8 hown hK hP 0 rfl rfl 0 (by decide) (hts _ (List.mem_cons_of_mem _ mw_3_89)) (fun _ h9 => h9) rfl dX8_beat_79 ?_
      refine lv_sipush (v := 175) hx hb dX8_beat_82 (by decide) ?_
      refine lv_dup2_11 hx hb dX8_beat_85 rfl rfl ?_
      refine va_iald hx hb hK hP 1 0 rfl rfl (xi_in (by decide) (by decide)) dX8_beat_86 ?_
      refine xk_top (z := z 175) rfl ?_
      refine lv_aload_n hx hb dX8_beat_87 rfl (lv_at hl 1 rfl) ?_
      refine va_get (D := D) (ci := 8) (v := .ref h1) (C := RX8) (T := TX8) (N := 14) hx hb hts xin8 hown hK hP 0 rfl rfl 0 (by decide) (hts _ (List.mem_cons_of_mem _ mw_3_89)) (fun _ h9 => h9) rfl dX8_beat_88 ?_
      refine lv_iconst (v := 0) hx hb dX8_beat_91 (by decide) ?_
      refine va_iald hx hb hK hP 1 0 rfl rfl (xi_in (by decide) (by decide)) dX8_beat_92 ?_
      refine xk_top (z := z 0) rfl ?_
      refine lv_iadd hx hb dX8_beat_93 ?_
      refine lv_topi (fun x93 e93 => ?_)
      refine va_iast hx hb hK hP hD hS 1 0 rfl rfl (xi_in (by decide) (by decide)) dX8_beat_94 (fun H locs hP hD hS => ?_)
      have hP : va_P D vwCl [(h, .inr (8, [.ref h1, .ref h2, .ref h3, .int gst, .ref h4, .ref h5, .ref h6, .int gty, .int 0, .int 0, .int gsp, .ref h7, .ref h8, .int gtl])), (h1, .inl (cI, 190, .inl (upd (upd z 174 x27) 175 x93)))] H := hP
      have hD : va_D A [(h, .inr (8, [.ref h1, .ref h2, .ref h3, .int gst, .ref h4, .ref h5, .ref h6, .int gty, .int 0, .int 0, .int gsp, .ref h7, .ref h8, .int gtl])), (h1, .inl (cI, 190, .inl (upd (upd z 174 x27) 175 x93)))] := hD
      have hg : ¬ gaspZ z := by subst e93 e27 e5 e2; exact fun hh => absurd hh.2 (Int.not_lt.mpr t49)
      have f95 : (upd (upd z 174 x27) 175 x93) = preZ z := by subst e93 e27 e5 e2; rw [preZ, if_neg hg]
      rw [f95] at hP hD
      have hP : va_P D vwCl [(h, .inr (8, [.ref h1, .ref h2, .ref h3, .int gst, .ref h4, .ref h5, .ref h6, .int gty, .int 0, .int 0, .int gsp, .ref h7, .ref h8, .int gtl])), (h1, .inl (cI, 190, .inl (preZ z)))] H := hP
      have hD : va_D A [(h, .inr (8, [.ref h1, .ref h2, .ref h3, .int gst, .ref h4, .ref h5, .ref h6, .int gty, .int 0, .int 0, .int gsp, .ref h7, .ref h8, .int gtl])), (h1, .inl (cI, 190, .inl (preZ z)))] := hD
      obtain ⟨g95_1, hg95_1⟩ : ∃ g, g = (preZ z) := ⟨_, rfl⟩
      rw [← hg95_1] at hP hD
      have hP : va_P D vwCl [(h, .inr (8, [.ref h1, .ref h2, .ref h3, .int gst, .ref h4, .ref h5, .ref h6, .int gty, .int 0, .int 0, .int gsp, .ref h7, .ref h8, .int gtl])), (h1, .inl (cI, 190, .inl g95_1))] H := hP
      have hD : va_D A [(h, .inr (8, [.ref h1, .ref h2, .ref h3, .int gst, .ref h4, .ref h5, .ref h6, .int gty, .int 0, .int 0, .int gsp, .ref h7, .ref h8, .int gtl])), (h1, .inl (cI, 190, .inl g95_1))] := hD
      refine lv_aload_n hx hb dX8_beat_95 rfl (lv_at hl 1 rfl) ?_
      refine va_get (D := D) (ci := 8) (v := .ref h1) (C := RX8) (T := TX8) (N := 14) hx hb hts xin8 hown hK hP 0 rfl rfl 0 (by decide) (hts _ (List.mem_cons_of_mem _ mw_3_89)) (fun _ h9 => h9) rfl dX8_beat_96 ?_
      refine lv_sipush (v := 182) hx hb dX8_beat_99 (by decide) ?_
      refine va_iald hx hb hK hP 1 0 rfl rfl (xi_in (by decide) (by decide)) dX8_beat_102 ?_
      refine xk_top (z := g95_1 182) rfl ?_
      refine lv_if_le (tgt := 175) hx hb dX8_beat_103 (by decide) (fun c103 => ?_) (fun c103 => ?_)
      · have t103 : (g95_1 182).toInt ≤ 0 := xi_le rfl (by decide) c103
        refine lv_aload_n hx hb dX8_beat_175 rfl (lv_at hl 1 rfl) ?_
        refine va_get (D := D) (ci := 8) (v := .ref h1) (C := RX8) (T := TX8) (N := 14) hx hb hts xin8 hown hK hP 0 rfl rfl 0 (by decide) (hts _ (List.mem_cons_of_mem _ mw_3_89)) (fun _ h9 => h9) rfl dX8_beat_176 ?_
        refine lv_sipush (v := 181) hx hb dX8_beat_179 (by decide) ?_
        refine lv_dup2_11 hx hb dX8_beat_182 rfl rfl ?_
        refine va_iald hx hb hK hP 1 0 rfl rfl (xi_in (by decide) (by decide)) dX8_beat_183 ?_
        refine xk_top (z := g95_1 181) rfl ?_
        refine lv_iload_n hx hb dX8_beat_184 rfl (lv_at hl 0 rfl) ?_
        refine lv_isub hx hb dX8_beat_185 ?_
        refine lv_topi (fun x185 e185 => ?_)
        refine va_iast hx hb hK hP hD hS 1 0 rfl rfl (xi_in (by decide) (by decide)) dX8_beat_186 (fun H locs hP hD hS => ?_)
        have hP : va_P D vwCl [(h, .inr (8, [.ref h1, .ref h2, .ref h3, .int gst, .ref h4, .ref h5, .ref h6, .int gty, .int 0, .int 0, .int gsp, .ref h7, .ref h8, .int gtl])), (h1, .inl (cI, 190, .inl (upd g95_1 181 x185)))] H := hP
        have hD : va_D A [(h, .inr (8, [.ref h1, .ref h2, .ref h3, .int gst, .ref h4, .ref h5, .ref h6, .int gty, .int 0, .int 0, .int gsp, .ref h7, .ref h8, .int gtl])), (h1, .inl (cI, 190, .inl (upd g95_1 181 x185)))] := hD
        refine lv_aload_n hx hb dX8_beat_187 rfl (lv_at hl 1 rfl) ?_
        refine va_get (D := D) (ci := 8) (v := .ref h1) (C := RX8) (T := TX8) (N := 14) hx hb hts xin8 hown hK hP 0 rfl rfl 0 (by decide) (hts _ (List.mem_cons_of_mem _ mw_3_89)) (fun _ h9 => h9) rfl dX8_beat_188 ?_
        refine lv_sipush (v := 175) hx hb dX8_beat_191 (by decide) ?_
        refine lv_dup2_11 hx hb dX8_beat_194 rfl rfl ?_
        refine va_iald hx hb hK hP 1 0 rfl rfl (xi_in (by decide) (by decide)) dX8_beat_195 ?_
        refine xk_top (z := g95_1 175) rfl ?_
        refine lv_aload_n hx hb dX8_beat_196 rfl (lv_at hl 1 rfl) ?_
        refine xk_Vi (As := []) (rest := [.int (g95_1 175), .int 175, .ref h1]) hx hb hml hown hts hK hN hZ hP hD hS hA mb_X8_climb mw_3_170 mw_3_172 mw_0_10 (c_X8_climb l D cI cZ cS h h1 h2 h3 h4 h5 h6 h7 h8 gst gty (0 : Int32) (0 : Int32) gsp gtl (upd g95_1 181 x185) (by unfold atZ; rw [upd_n _ _ _ (by omega), hg95_1, preZ_o z (by omega) (by omega) (by omega) (by omega)]; exact ha0)) [0, 1] 0 8 rfl rfl (by decide) rfl (fun _ => by simp only [List.map]) (by decide) (by decide) rfl hl.1 rfl (Nat.le_of_ble_eq_true rfl) dX8_beat_197 ⟨Nat.zero_le _, Nat.zero_le _⟩ (fun r197 _ H locs hw hP hD hS => ?_)
        have hP : va_P D vwCl [(h, .inr (8, [.ref h1, .ref h2, .ref h3, .int gst, .ref h4, .ref h5, .ref h6, .int gty, .int 0, .int 0, .int gsp, .ref h7, .ref h8, .int gtl])), (h1, .inl (cI, 190, .inl (upd g95_1 181 x185)))] H := hP
        have hD : va_D A [(h, .inr (8, [.ref h1, .ref h2, .ref h3, .int gst, .ref h4, .ref h5, .ref h6, .int gty, .int 0, .int 0, .int gsp, .ref h7, .ref h8, .int gtl])), (h1, .inl (cI, 190, .inl (upd g95_1 181 x185)))] := hD
        have e197 : r197 = climbZ (upd g95_1 181 x185) := hw
        have e197 : r197 = climbZ z := by rw [e197, climbZ_upd _ (by unfold atZ; rw [hg95_1, preZ_o z (by omega) (by omega) (by omega) (by omega)]; exact ha0) _ (by omega) (by omega), hg95_1, climbZ_pre z ha0]
        refine lv_iadd hx hb dX8_beat_200 ?_
        refine lv_topi (fun x200 e200 => ?_)
        refine va_iast hx hb hK hP hD hS 1 0 rfl rfl (xi_in (by decide) (by decide)) dX8_beat_201 (fun H locs hP hD hS => ?_)
        have hP : va_P D vwCl [(h, .inr (8, [.ref h1, .ref h2, .ref h3, .int gst, .ref h4, .ref h5, .ref h6, .int gty, .int 0, .int 0, .int gsp, .ref h7, .ref h8, .int gtl])), (h1, .inl (cI, 190, .inl (upd (upd g95_1 181 x185) 175 x200)))] H := hP
        have hD : va_D A [(h, .inr (8, [.ref h1, .ref h2, .ref h3, .int gst, .ref h4, .ref h5, .ref h6, .int gty, .int 0, .int 0, .int gsp, .ref h7, .ref h8, .int gtl])), (h1, .inl (cI, 190, .inl (upd (upd g95_1 181 x185) 175 x200)))] := hD
        refine lv_aload_n hx hb dX8_beat_202 rfl (lv_at hl 1 rfl) ?_
        refine va_get (D := D) (ci := 8) (v := .ref h1) (C := RX8) (T := TX8) (N := 14) hx hb hts xin8 hown hK hP 0 rfl rfl 0 (by decide) (hts _ (List.mem_cons_of_mem _ mw_3_89)) (fun _ h9 => h9) rfl dX8_beat_203 ?_
        refine lv_sipush (v := 187) hx hb dX8_beat_206 (by decide) ?_
        refine lv_dup2_11 hx hb dX8_beat_209 rfl rfl ?_
        refine va_iald hx hb hK hP 1 0 rfl rfl (xi_in (by decide) (by decide)) dX8_beat_210 ?_
        refine xk_top (z := g95_1 187) rfl ?_
        refine lv_iconst (v := 1) hx hb dX8_beat_211 (by decide) ?_
        refine lv_iadd hx hb dX8_beat_212 ?_
        refine lv_topi (fun x212 e212 => ?_)
        refine va_iast hx hb hK hP hD hS 1 0 rfl rfl (xi_in (by decide) (by decide)) dX8_beat_213 (fun H locs hP hD hS => ?_)
        have hP : va_P D vwCl [(h, .inr (8, [.ref h1, .ref h2, .ref h3, .int gst, .ref h4, .ref h5, .ref h6, .int gty, .int 0, .int 0, .int gsp, .ref h7, .ref h8, .int gtl])), (h1, .inl (cI, 190, .inl (upd (upd (upd g95_1 181 x185) 175 x200) 187 x212)))] H := hP
        have hD : va_D A [(h, .inr (8, [.ref h1, .ref h2, .ref h3, .int gst, .ref h4, .ref h5, .ref h6, .int gty, .int 0, .int 0, .int gsp, .ref h7, .ref h8, .int gtl])), (h1, .inl (cI, 190, .inl (upd (upd (upd g95_1 181 x185) 175 x200) 187 x212)))] := hD
        have f214 : (upd (upd (upd g95_1 181 x185) 175 x200) 187 x212) = singZ z := by subst e212 e200 e197 e185; subst e5; subst e2; rw [singZ, ← hg95_1]; rfl
        rw [f214] at hP hD
        have hP : va_P D vwCl [(h, .inr (8, [.ref h1, .ref h2, .ref h3, .int gst, .ref h4, .ref h5, .ref h6, .int gty, .int 0, .int 0, .int gsp, .ref h7, .ref h8, .int gtl])), (h1, .inl (cI, 190, .inl (singZ z)))] H := hP
        have hD : va_D A [(h, .inr (8, [.ref h1, .ref h2, .ref h3, .int gst, .ref h4, .ref h5, .ref h6, .int gty, .int 0, .int 0, .int gsp, .ref h7, .ref h8, .int gtl])), (h1, .inl (cI, 190, .inl (singZ z)))] := hD
        obtain ⟨g214_1, hg214_1⟩ : ∃ g, g = (singZ z) := ⟨_, rfl⟩
        rw [← hg214_1] at hP hD
        have hP : va_P D vwCl [(h, .inr (8, [.ref h1, .ref h2, .ref h3, .int gst, .ref h4, .ref h5, .ref h6, .int gty, .int 0, .int 0, .int gsp, .ref h7, .ref h8, .int gtl])), (h1, .inl (cI, 190, .inl g214_1))] H := hP
        have hD : va_D A [(h, .inr (8, [.ref h1, .ref h2, .ref h3, .int gst, .ref h4, .ref h5, .ref h6, .int gty, .int 0, .int 0, .int gsp, .ref h7, .ref h8, .int gtl])), (h1, .inl (cI, 190, .inl g214_1))] := hD
        have hrz : ¬ restZ z := by show ¬ 0 < (preZ z 182).toInt; rw [← hg95_1]; exact Int.not_lt.mpr t103
        have hsa : atZ g214_1 := by rw [hg214_1]; unfold atZ; rw [singZ_o z (by omega) (by omega) (by omega) (by omega) (by omega) (by omega)]; exact ha0
        refine lv_aload_n hx hb dX8_beat_214 rfl (lv_at hl 1 rfl) ?_
        refine xk_Vv (As := []) (rest := []) hx hb hml hown hts hK hN hZ hP hD hS hA mb_X8_step mw_3_178 mw_3_180 mw_0_12 (c_X8_step l D cI cZ cS h h1 h2 h3 h4 h5 h6 h7 h8 gst gty (0 : Int32) (0 : Int32) gsp gtl g214_1 (by exact hsa) (by rw [hg214_1, singZ_o z (by omega) (by omega) (by omega) (by omega) (by omega) (by omega)]; exact h5m)) [0, 1] 0 8 rfl rfl (by decide) rfl (fun _ => by simp only [List.map]) (by decide) (by decide) rfl hl.1 rfl (Nat.le_of_ble_eq_true rfl) dX8_beat_215 ⟨Nat.zero_le _, Nat.zero_le _⟩ (fun _ H locs hw hP hD hS => ?_)
        have hP : va_P D vwCl [(h, .inr (8, [.ref h1, .ref h2, .ref h3, .int gst, .ref h4, .ref h5, .ref h6, .int gty, .int 0, .int (if (¬ skipZ g214_1 ∧ fullZ g214_1) then 1 else (0 : Int32)), .int gsp, .ref h7, .ref h8, .int gtl])), (h1, .inl (cI, 190, .inl (stepZ g214_1)))] H := hP
        have hD : va_D A [(h, .inr (8, [.ref h1, .ref h2, .ref h3, .int gst, .ref h4, .ref h5, .ref h6, .int gty, .int 0, .int (if (¬ skipZ g214_1 ∧ fullZ g214_1) then 1 else (0 : Int32)), .int gsp, .ref h7, .ref h8, .int gtl])), (h1, .inl (cI, 190, .inl (stepZ g214_1)))] := hD
        obtain ⟨g215_1, hg215_1⟩ : ∃ g, g = (stepZ g214_1) := ⟨_, rfl⟩
        rw [← hg215_1] at hP hD
        have hP : va_P D vwCl [(h, .inr (8, [.ref h1, .ref h2, .ref h3, .int gst, .ref h4, .ref h5, .ref h6, .int gty, .int 0, .int (if (¬ skipZ g214_1 ∧ fullZ g214_1) then 1 else (0 : Int32)), .int gsp, .ref h7, .ref h8, .int gtl])), (h1, .inl (cI, 190, .inl g215_1))] H := hP
        have hD : va_D A [(h, .inr (8, [.ref h1, .ref h2, .ref h3, .int gst, .ref h4, .ref h5, .ref h6, .int gty, .int 0, .int (if (¬ skipZ g214_1 ∧ fullZ g214_1) then 1 else (0 : Int32)), .int gsp, .ref h7, .ref h8, .int gtl])), (h1, .inl (cI, 190, .inl g215_1))] := hD
        refine lv_aload_n hx hb dX8_beat_218 rfl (lv_at hl 1 rfl) ?_
        refine xk_Vv (As := []) (rest := []) hx hb hml hown hts hK hN hZ hP hD hS hA mb_X8_goOn mw_3_182 mw_3_184 mw_0_13 (c_X8_goOn l D cI cZ cS h h1 h2 h3 h4 h5 h6 h7 h8 gst gty (0 : Int32) (if (¬ skipZ g214_1 ∧ fullZ g214_1) then 1 else (0 : Int32)) gsp gtl g215_1 (by rw [hg215_1, stepZ_o _ (by omega) (by omega) (by omega) (by omega) (by omega) (by omega), stepZ_o _ (by omega) (by omega) (by omega) (by omega) (by omega) (by omega), hg214_1, singZ_o z (by omega) (by omega) (by omega) (by omega) (by omega) (by omega), singZ_o z (by omega) (by omega) (by omega) (by omega) (by omega) (by omega)]; exact hi)) [0, 1] 0 8 rfl rfl (by decide) rfl (fun _ => by simp only [List.map]) (by decide) (by decide) rfl hl.1 rfl (Nat.le_of_ble_eq_true rfl) dX8_beat_219 ⟨Nat.zero_le _, Nat.zero_le _⟩ (fun _ H locs hw hP hD hS => ?_)
        have hP : va_P D vwCl [(h, .inr (8, [.ref h1, .ref h2, .ref h3, .int gst, .ref h4, .ref h5, .ref h6, .int gty, .int (if (¬ inFootZ g215_1 ∧ songEZ g215_1) then 1 else (0 : Int32)), .int (if (¬ skipZ g214_1 ∧ fullZ g214_1) then 1 else (0 : Int32)), .int gsp, .ref h7, .ref h8, .int gtl])), (h1, .inl (cI, 190, .inl (goOnZ g215_1)))] H := hP
        have hD : va_D A [(h, .inr (8, [.ref h1, .ref h2, .ref h3, .int gst, .ref h4, .ref h5, .ref h6, .int gty, .int (if (¬ inFootZ g215_1 ∧ songEZ g215_1) then 1 else (0 : Int32)), .int (if (¬ skipZ g214_1 ∧ fullZ g214_1) then 1 else (0 : Int32)), .int gsp, .ref h7, .ref h8, .int gtl])), (h1, .inl (cI, 190, .inl (goOnZ g215_1)))] := hD
        obtain ⟨g219_1, hg219_1⟩ : ∃ g, g = (goOnZ g215_1) := ⟨_, rfl⟩
        rw [← hg219_1] at hP hD
        have hP : va_P D vwCl [(h, .inr (8, [.ref h1, .ref h2, .ref h3, .int gst, .ref h4, .ref h5, .ref h6, .int gty, .int (if (¬ inFootZ g215_1 ∧ songEZ g215_1) then 1 else (0 : Int32)), .int (if (¬ skipZ g214_1 ∧ fullZ g214_1) then 1 else (0 : Int32)), .int gsp, .ref h7, .ref h8, .int gtl])), (h1, .inl (cI, 190, .inl g219_1))] H := hP
        have hD : va_D A [(h, .inr (8, [.ref h1, .ref h2, .ref h3, .int gst, .ref h4, .ref h5, .ref h6, .int gty, .int (if (¬ inFootZ g215_1 ∧ songEZ g215_1) then 1 else (0 : Int32)), .int (if (¬ skipZ g214_1 ∧ fullZ g214_1) then 1 else (0 : Int32)), .int gsp, .ref h7, .ref h8, .int gtl])), (h1, .inl (cI, 190, .inl g219_1))] := hD
        have hz : g219_1 = beatZ z := by rw [hg219_1, hg215_1, hg214_1, beatZ, if_neg hrz]
        have hu1 : (if (¬ skipZ g214_1 ∧ fullZ g214_1) then 1 else (0 : Int32)) = if endS z then 1 else 0 := by rw [hg214_1]; simp only [endS, hrz, not_false_eq_true, true_and]
        have hu2 : (if (¬ inFootZ g215_1 ∧ songEZ g215_1) then 1 else (0 : Int32)) = if endG z then 1 else 0 := by rw [hg215_1, hg214_1]; simp only [endG, hrz, not_false_eq_true, true_and]
        exact xk_retv () hx hb hr hlocks (xk_P hP (by rw [← hu1, ← hu2, ← hz])) (by trivial) hS dX8_beat_222 hQ
      · have t103 : 0 < (g95_1 182).toInt := xi_nle rfl (by decide) c103
        refine lv_aload_n hx hb dX8_beat_106 rfl (lv_at hl 1 rfl) ?_
        refine va_get (D := D) (ci := 8) (v := .ref h1) (C := RX8) (T := TX8) (N := 14) hx hb hts xin8 hown hK hP 0 rfl rfl 0 (by decide) (hts _ (List.mem_cons_of_mem _ mw_3_89)) (fun _ h9 => h9) rfl dX8_beat_107 ?_
        refine lv_sipush (v := 182) hx hb dX8_beat_110 (by decide) ?_
        refine lv_dup2_11 hx hb dX8_beat_113 rfl rfl ?_
        refine va_iald hx hb hK hP 1 0 rfl rfl (xi_in (by decide) (by decide)) dX8_beat_114 ?_
        refine xk_top (z := g95_1 182) rfl ?_
        refine lv_iconst (v := 1) hx hb dX8_beat_115 (by decide) ?_
        refine lv_isub hx hb dX8_beat_116 ?_
        refine lv_topi (fun x116 e116 => ?_)
        refine va_iast hx hb hK hP hD hS 1 0 rfl rfl (xi_in (by decide) (by decide)) dX8_beat_117 (fun H locs hP hD hS => ?_)
        have hP : va_P D vwCl [(h, .inr (8, [.ref h1, .ref h2, .ref h3, .int gst, .ref h4, .ref h5, .ref h6, .int gty, .int 0, .int 0, .int gsp, .ref h7, .ref h8, .int gtl])), (h1, .inl (cI, 190, .inl (upd g95_1 182 x116)))] H := hP
        have hD : va_D A [(h, .inr (8, [.ref h1, .ref h2, .ref h3, .int gst, .ref h4, .ref h5, .ref h6, .int gty, .int 0, .int 0, .int gsp, .ref h7, .ref h8, .int gtl])), (h1, .inl (cI, 190, .inl (upd g95_1 182 x116)))] := hD
        refine lv_aload_n hx hb dX8_beat_118 rfl (lv_at hl 1 rfl) ?_
        refine va_get (D := D) (ci := 8) (v := .ref h1) (C := RX8) (T := TX8) (N := 14) hx hb hts xin8 hown hK hP 0 rfl rfl 0 (by decide) (hts _ (List.mem_cons_of_mem _ mw_3_89)) (fun _ h9 => h9) rfl dX8_beat_119 ?_
        refine lv_sipush (v := 181) hx hb dX8_beat_122 (by decide) ?_
        refine lv_aload_n hx hb dX8_beat_125 rfl (lv_at hl 1 rfl) ?_
        refine va_get (D := D) (ci := 8) (v := .ref h1) (C := RX8) (T := TX8) (N := 14) hx hb hts xin8 hown hK hP 0 rfl rfl 0 (by decide) (hts _ (List.mem_cons_of_mem _ mw_3_89)) (fun _ h9 => h9) rfl dX8_beat_126 ?_
        refine lv_sipush (v := 181) hx hb dX8_beat_129 (by decide) ?_
        refine va_iald hx hb hK hP 1 0 rfl rfl (xi_in (by decide) (by decide)) dX8_beat_132 ?_
        refine xk_top (z := g95_1 181) rfl ?_
        refine lv_aload_n hx hb dX8_beat_133 rfl (lv_at hl 1 rfl) ?_
        refine va_get (D := D) (ci := 8) (v := .ref h1) (C := RX8) (T := TX8) (N := 14) hx hb hts xin8 hown hK hP 0 rfl rfl 0 (by decide) (hts _ (List.mem_cons_of_mem _ mw_3_89)) (fun _ h9 => h9) rfl dX8_beat_134 ?_
        refine lv_iconst (v := 3) hx hb dX8_beat_137 (by decide) ?_
        refine va_iald hx hb hK hP 1 0 rfl rfl (xi_in (by decide) (by decide)) dX8_beat_138 ?_
        refine xk_top (z := g95_1 3) rfl ?_
        refine lv_iadd hx hb dX8_beat_139 ?_
        refine lv_topi (fun x139 e139 => ?_)
        refine lv_aload_n hx hb dX8_beat_140 rfl (lv_at hl 1 rfl) ?_
        refine va_get (D := D) (ci := 8) (v := .ref h1) (C := RX8) (T := TX8) (N := 14) hx hb hts xin8 hown hK hP 0 rfl rfl 0 (by decide) (hts _ (List.mem_cons_of_mem _ mw_3_89)) (fun _ h9 => h9) rfl dX8_beat_141 ?_
        refine lv_iconst (v := 4) hx hb dX8_beat_144 (by decide) ?_
        refine va_iald hx hb hK hP 1 0 rfl rfl (xi_in (by decide) (by decide)) dX8_beat_145 ?_
        refine xk_top (z := g95_1 4) rfl ?_
        refine lv_icmp_ge (tgt := 167) hx hb dX8_beat_146 (by decide) (fun c146 => ?_) (fun c146 => ?_)
        · have t146 : (g95_1 4).toInt ≤ x139.toInt := xi_le rfl rfl c146
          refine lv_aload_n hx hb dX8_beat_167 rfl (lv_at hl 1 rfl) ?_
          refine va_get (D := D) (ci := 8) (v := .ref h1) (C := RX8) (T := TX8) (N := 14) hx hb hts xin8 hown hK hP 0 rfl rfl 0 (by decide) (hts _ (List.mem_cons_of_mem _ mw_3_89)) (fun _ h9 => h9) rfl dX8_beat_168 ?_
          refine lv_iconst (v := 4) hx hb dX8_beat_171 (by decide) ?_
          refine va_iald hx hb hK hP 1 0 rfl rfl (xi_in (by decide) (by decide)) dX8_beat_172 ?_
          refine xk_top (z := g95_1 4) rfl ?_
          refine va_iast hx hb hK hP hD hS 1 0 rfl rfl (xi_in (by decide) (by decide)) dX8_beat_173 (fun H locs hP hD hS => ?_)
          have hP : va_P D vwCl [(h, .inr (8, [.ref h1, .ref h2, .ref h3, .int gst, .ref h4, .ref h5, .ref h6, .int gty, .int 0, .int 0, .int gsp, .ref h7, .ref h8, .int gtl])), (h1, .inl (cI, 190, .inl (upd (upd g95_1 182 x116) 181 (g95_1 4))))] H := hP
          have hD : va_D A [(h, .inr (8, [.ref h1, .ref h2, .ref h3, .int gst, .ref h4, .ref h5, .ref h6, .int gty, .int 0, .int 0, .int gsp, .ref h7, .ref h8, .int gtl])), (h1, .inl (cI, 190, .inl (upd (upd g95_1 182 x116) 181 (g95_1 4))))] := hD
          have hrz : restZ z := by show 0 < (preZ z 182).toInt; rw [← hg95_1]; exact t103
          have hz : (upd (upd g95_1 182 x116) 181 (g95_1 4)) = beatZ z := by rw [beatZ, if_pos hrz, restsZ, ← hg95_1]; subst e139 e116; rw [if_neg (Int.not_lt.mpr t146)]
          have hu1 : (0 : Int32) = if endS z then 1 else 0 := by rw [if_neg (fun hh => hh.1 hrz)]
          have hu2 : (0 : Int32) = if endG z then 1 else 0 := by rw [if_neg (fun hh => hh.1 hrz)]
          exact xk_retv () hx hb hr hlocks (xk_P hP (by rw [← hu1, ← hu2, ← hz])) (by trivial) hS dX8_beat_174 hQ
        · have t146 : x139.toInt < (g95_1 4).toInt := xi_nle rfl rfl c146
          refine lv_aload_n hx hb dX8_beat_149 rfl (lv_at hl 1 rfl) ?_
          refine va_get (D := D) (ci := 8) (v := .ref h1) (C := RX8) (T := TX8) (N := 14) hx hb hts xin8 hown hK hP 0 rfl rfl 0 (by decide) (hts _ (List.mem_cons_of_mem _ mw_3_89)) (fun _ h9 => h9) rfl dX8_beat_150 ?_
          refine lv_sipush (v := 181) hx hb dX8_beat_153 (by decide) ?_
          refine va_iald hx hb hK hP 1 0 rfl rfl (xi_in (by decide) (by decide)) dX8_beat_156 ?_
          refine xk_top (z := g95_1 181) rfl ?_
          refine lv_aload_n hx hb dX8_beat_157 rfl (lv_at hl 1 rfl) ?_
          refine va_get (D := D) (ci := 8) (v := .ref h1) (C := RX8) (T := TX8) (N := 14) hx hb hts xin8 hown hK hP 0 rfl rfl 0 (by decide) (hts _ (List.mem_cons_of_mem _ mw_3_89)) (fun _ h9 => h9) rfl dX8_beat_158 ?_
          refine lv_iconst (v := 3) hx hb dX8_beat_161 (by decide) ?_
          refine va_iald hx hb hK hP 1 0 rfl rfl (xi_in (by decide) (by decide)) dX8_beat_162 ?_
          refine xk_top (z := g95_1 3) rfl ?_
          refine lv_iadd hx hb dX8_beat_163 ?_
          refine lv_topi (fun x163 e163 => ?_)
          refine lv_goto (tgt := 173) hx hb dX8_beat_164 (by decide) ?_
          refine va_iast hx hb hK hP hD hS 1 0 rfl rfl (xi_in (by decide) (by decide)) dX8_beat_173 (fun H locs hP hD hS => ?_)
          have hP : va_P D vwCl [(h, .inr (8, [.ref h1, .ref h2, .ref h3, .int gst, .ref h4, .ref h5, .ref h6, .int gty, .int 0, .int 0, .int gsp, .ref h7, .ref h8, .int gtl])), (h1, .inl (cI, 190, .inl (upd (upd g95_1 182 x116) 181 x163)))] H := hP
          have hD : va_D A [(h, .inr (8, [.ref h1, .ref h2, .ref h3, .int gst, .ref h4, .ref h5, .ref h6, .int gty, .int 0, .int 0, .int gsp, .ref h7, .ref h8, .int gtl])), (h1, .inl (cI, 190, .inl (upd (upd g95_1 182 x116) 181 x163)))] := hD
          have hrz : restZ z := by show 0 < (preZ z 182).toInt; rw [← hg95_1]; exact t103
          have hz : (upd (upd g95_1 182 x116) 181 x163) = beatZ z := by rw [beatZ, if_pos hrz, restsZ, ← hg95_1]; subst e163 e139 e116; rw [if_pos t146]
          have hu1 : (0 : Int32) = if endS z then 1 else 0 := by rw [if_neg (fun hh => hh.1 hrz)]
          have hu2 : (0 : Int32) = if endG z then 1 else 0 := by rw [if_neg (fun hh => hh.1 hrz)]
          exact xk_retv () hx hb hr hlocks (xk_P hP (by rw [← hu1, ← hu2, ← hz])) (by trivial) hS dX8_beat_174 hQ
    · have t49 : (z 181).toInt < x5.toInt := xi_nle rfl rfl c49
      refine lv_aload_n hx hb dX8_beat_52 rfl (lv_at hl 1 rfl) ?_
      refine va_get (D := D) (ci := 8) (v := .ref h1) (C := RX8) (T := TX8) (N := 14) hx hb hts xin8 hown hK hP 0 rfl rfl 0 (by decide) (hts _ (List.mem_cons_of_mem _ mw_3_89)) (fun _ h9 => h9) rfl dX8_beat_53 ?_
      refine lv_sipush (v := 185) hx hb dX8_beat_56 (by decide) ?_
      refine lv_dup2_11 hx hb dX8_beat_59 rfl rfl ?_
      refine va_iald hx hb hK hP 1 0 rfl rfl (xi_in (by decide) (by decide)) dX8_beat_60 ?_
      refine xk_top (z := z 185) rfl ?_
      refine lv_iconst (v := 1) hx hb dX8_beat_61 (by decide) ?_
      refine lv_iadd hx hb dX8_beat_62 ?_
      refine lv_topi (fun x62 e62 => ?_)
      refine va_iast hx hb hK hP hD hS 1 0 rfl rfl (xi_in (by decide) (by decide)) dX8_beat_63 (fun H locs hP hD hS => ?_)
      have hP : va_P D vwCl [(h, .inr (8, [.ref h1, .ref h2, .ref h3, .int gst, .ref h4, .ref h5, .ref h6, .int gty, .int 0, .int 0, .int gsp, .ref h7, .ref h8, .int gtl])), (h1, .inl (cI, 190, .inl (upd (upd z 174 x27) 185 x62)))] H := hP
      have hD : va_D A [(h, .inr (8, [.ref h1, .ref h2, .ref h3, .int gst, .ref h4, .ref h5, .ref h6, .int gty, .int 0, .int 0, .int gsp, .ref h7, .ref h8, .int gtl])), (h1, .inl (cI, 190, .inl (upd (upd z 174 x27) 185 x62)))] := hD
      refine lv_aload_n hx hb dX8_beat_64 rfl (lv_at hl 1 rfl) ?_
      refine va_get (D := D) (ci := 8) (v := .ref h1) (C := RX8) (T := TX8) (N := 14) hx hb hts xin8 hown hK hP 0 rfl rfl 0 (by decide) (hts _ (List.mem_cons_of_mem _ mw_3_89)) (fun _ h9 => h9) rfl dX8_beat_65 ?_
      refine lv_sipush (v := 182) hx hb dX8_beat_68 (by decide) ?_
      refine lv_aload_n hx hb dX8_beat_71 rfl (lv_at hl 1 rfl) ?_
      refine va_get (D := D) (ci := 8) (v := .ref h1) (C := RX8) (T := TX8) (N := 14) hx hb hts xin8 hown hK hP 0 rfl rfl 0 (by decide) (hts _ (List.mem_cons_of_mem _ mw_3_89)) (fun _ h9 => h9) rfl dX8_beat_72 ?_
      refine lv_iconst (v := 2) hx hb dX8_beat_75 (by decide) ?_
      refine va_iald hx hb hK hP 1 0 rfl rfl (xi_in (by decide) (by decide)) dX8_beat_76 ?_
      refine xk_top (z := z 2) rfl ?_
      refine va_iast hx hb hK hP hD hS 1 0 rfl rfl (xi_in (by decide) (by decide)) dX8_beat_77 (fun H locs hP hD hS => ?_)
      have hP : va_P D vwCl [(h, .inr (8, [.ref h1, .ref h2, .ref h3, .int gst, .ref h4, .ref h5, .ref h6, .int gty, .int 0, .int 0, .int gsp, .ref h7, .ref h8, .int gtl])), (h1, .inl (cI, 190, .inl (upd (upd (upd z 174 x27) 185 x62) 182 (z 2))))] H := hP
      have hD : va_D A [(h, .inr (8, [.ref h1, .ref h2, .ref h3, .int gst, .ref h4, .ref h5, .ref h6, .int gty, .int 0, .int 0, .int gsp, .ref h7, .ref h8, .int gtl])), (h1, .inl (cI, 190, .inl (upd (upd (upd z 174 x27) 185 x62) 182 (z 2))))] := hD
      refine lv_aload_n hx hb dX8_beat_78 rfl (lv_at hl 1 rfl) ?_
      refine va_get (D := D) (ci := 8) (v := .ref h1) (C := RX8) (T := TX8) (N := 14) hx hb hts xin8 hown hK hP 0 rfl rfl 0 (by decide) (hts _ (List.mem_cons_of_mem _ mw_3_89)) (fun _ h9 => h9) rfl dX8_beat_79 ?_
      refine lv_sipush (v := 175) hx hb dX8_beat_82 (by decide) ?_
      refine lv_dup2_11 hx hb dX8_beat_85 rfl rfl ?_
      refine va_iald hx hb hK hP 1 0 rfl rfl (xi_in (by decide) (by decide)) dX8_beat_86 ?_
      refine xk_top (z := z 175) rfl ?_
      refine lv_aload_n hx hb dX8_beat_87 rfl (lv_at hl 1 rfl) ?_
      refine va_get (D := D) (ci := 8) (v := .ref h1) (C := RX8) (T := TX8) (N := 14) hx hb hts xin8 hown hK hP 0 rfl rfl 0 (by decide) (hts _ (List.mem_cons_of_mem _ mw_3_89)) (fun _ h9 => h9) rfl dX8_beat_88 ?_
      refine lv_iconst (v := 0) hx hb dX8_beat_91 (by decide) ?_
      refine va_iald hx hb hK hP 1 0 rfl rfl (xi_in (by decide) (by decide)) dX8_beat_92 ?_
      refine xk_top (z := z 0) rfl ?_
      refine lv_iadd hx hb dX8_beat_93 ?_
      refine lv_topi (fun x93 e93 => ?_)
      refine va_iast hx hb hK hP hD hS 1 0 rfl rfl (xi_in (by decide) (by decide)) dX8_beat_94 (fun H locs hP hD hS => ?_)
      have hP : va_P D vwCl [(h, .inr (8, [.ref h1, .ref h2, .ref h3, .int gst, .ref h4, .ref h5, .ref h6, .int gty, .int 0, .int 0, .int gsp, .ref h7, .ref h8, .int gtl])), (h1, .inl (cI, 190, .inl (upd (upd (upd (upd z 174 x27) 185 x62) 182 (z 2)) 175 x93)))] H := hP
      have hD : va_D A [(h, .inr (8, [.ref h1, .ref h2, .ref h3, .int gst, .ref h4, .ref h5, .ref h6, .int gty, .int 0, .int 0, .int gsp, .ref h7, .ref h8, .int gtl])), (h1, .inl (cI, 190, .inl (upd (upd (upd (upd z 174 x27) 185 x62) 182 (z 2)) 175 x93)))] := hD
      have hg : gaspZ z := by subst e93 e62 e27 e5 e2; exact ⟨d37, t49⟩
      have f95 : (upd (upd (upd (upd z 174 x27) 185 x62) 182 (z 2)) 175 x93) = preZ z := by subst e93 e62 e27 e5 e2; rw [preZ, if_pos hg]
      rw [f95] at hP hD
      have hP : va_P D vwCl [(h, .inr (8, [.ref h1, .ref h2, .ref h3, .int gst, .ref h4, .ref h5, .ref h6, .int gty, .int 0, .int 0, .int gsp, .ref h7, .ref h8, .int gtl])), (h1, .inl (cI, 190, .inl (preZ z)))] H := hP
      have hD : va_D A [(h, .inr (8, [.ref h1, .ref h2, .ref h3, .int gst, .ref h4, .ref h5, .ref h6, .int gty, .int 0, .int 0, .int gsp, .ref h7, .ref h8, .int gtl])), (h1, .inl (cI, 190, .inl (preZ z)))] := hD
      obtain ⟨g95_1, hg95_1⟩ : ∃ g, g = (preZ z) := ⟨_, rfl⟩
      rw [← hg95_1] at hP hD
      have hP : va_P D vwCl [(h, .inr (8, [.ref h1, .ref h2, .ref h3, .int gst, .ref h4, .ref h5, .ref h6, .int gty, .int 0, .int 0, .int gsp, .ref h7, .ref h8, .int gtl])), (h1, .inl (cI, 190, .inl g95_1))] H := hP
      have hD : va_D A [(h, .inr (8, [.ref h1, .ref h2, .ref h3, .int gst, .ref h4, .ref h5, .ref h6, .int gty, .int 0, .int 0, .int gsp, .ref h7, .ref h8, .int gtl])), (h1, .inl (cI, 190, .inl g95_1))] := hD
      refine lv_aload_n hx hb dX8_beat_95 rfl (lv_at hl 1 rfl) ?_
      refine va_get (D := D) (ci := 8) (v := .ref h1) (C := RX8) (T := TX8) (N := 14) hx hb hts xin8 hown hK hP 0 rfl rfl 0 (by decide) (hts _ (List.mem_cons_of_mem _ mw_3_89)) (fun _ h9 => h9) rfl dX8_beat_96 ?_
      refine lv_sipush (v := 182) hx hb dX8_beat_99 (by decide) ?_
      refine va_iald hx hb hK hP 1 0 rfl rfl (xi_in (by decide) (by decide)) dX8_beat_102 ?_
      refine xk_top (z := g95_1 182) rfl ?_
      refine lv_if_le (tgt := 175) hx hb dX8_beat_103 (by decide) (fun c103 => ?_) (fun c103 => ?_)
      · have t103 : (g95_1 182).toInt ≤ 0 := xi_le rfl (by decide) c103
        refine lv_aload_n hx hb dX8_beat_175 rfl (lv_at hl 1 rfl) ?_
        refine va_get (D := D) (ci := 8) (v := .ref h1) (C := RX8) (T := TX8) (N := 14) hx hb hts xin8 hown hK hP 0 rfl rfl 0 (by decide) (hts _ (List.mem_cons_of_mem _ mw_3_89)) (fun _ h9 => h9) rfl dX8_beat_176 ?_
        refine lv_sipush (v := 181) hx hb dX8_beat_179 (by decide) ?_
        refine lv_dup2_11 hx hb dX8_beat_182 rfl rfl ?_
        refine va_iald hx hb hK hP 1 0 rfl rfl (xi_in (by decide) (by decide)) dX8_beat_183 ?_
        refine xk_top (z := g95_1 181) rfl ?_
        refine lv_iload_n hx hb dX8_beat_184 rfl (lv_at hl 0 rfl) ?_
        refine lv_isub hx hb dX8_beat_185 ?_
        refine lv_topi (fun x185 e185 => ?_)
        refine va_iast hx hb hK hP hD hS 1 0 rfl rfl (xi_in (by decide) (by decide)) dX8_beat_186 (fun H locs hP hD hS => ?_)
        have hP : va_P D vwCl [(h, .inr (8, [.ref h1, .ref h2, .ref h3, .int gst, .ref h4, .ref h5, .ref h6, .int gty, .int 0, .int 0, .int gsp, .ref h7, .ref h8, .int gtl])), (h1, .inl (cI, 190, .inl (upd g95_1 181 x185)))] H := hP
        have hD : va_D A [(h, .inr (8, [.ref h1, .ref h2, .ref h3, .int gst, .ref h4, .ref h5, .ref h6, .int gty, .int 0, .int 0, .int gsp, .ref h7, .ref h8, .int gtl])), (h1, .inl (cI, 190, .inl (upd g95_1 181 x185)))] := hD
        refine lv_aload_n hx hb dX8_beat_187 rfl (lv_at hl 1 rfl) ?_
        refine va_get (D := D) (ci := 8) (v := .ref h1) (C := RX8) (T := TX8) (N := 14) hx hb hts xin8 hown hK hP 0 rfl rfl 0 (by decide) (hts _ (List.mem_cons_of_mem _ mw_3_89)) (fun _ h9 => h9) rfl dX8_beat_188 ?_
        refine lv_sipush (v := 175) hx hb dX8_beat_191 (by decide) ?_
        refine lv_dup2_11 hx hb dX8_beat_194 rfl rfl ?_
        refine va_iald hx hb hK hP 1 0 rfl rfl (xi_in (by decide) (by decide)) dX8_beat_195 ?_
        refine xk_top (z := g95_1 175) rfl ?_
        refine lv_aload_n hx hb dX8_beat_196 rfl (lv_at hl 1 rfl) ?_
        refine xk_Vi (As := []) (rest := [.int (g95_1 175), .int 175, .ref h1]) hx hb hml hown hts hK hN hZ hP hD hS hA mb_X8_climb mw_3_170 mw_3_172 mw_0_10 (c_X8_climb l D cI cZ cS h h1 h2 h3 h4 h5 h6 h7 h8 gst gty (0 : Int32) (0 : Int32) gsp gtl (upd g95_1 181 x185) (by unfold atZ; rw [upd_n _ _ _ (by omega), hg95_1, preZ_o z (by omega) (by omega) (by omega) (by omega)]; exact ha0)) [0, 1] 0 8 rfl rfl (by decide) rfl (fun _ => by simp only [List.map]) (by decide) (by decide) rfl hl.1 rfl (Nat.le_of_ble_eq_true rfl) dX8_beat_197 ⟨Nat.zero_le _, Nat.zero_le _⟩ (fun r197 _ H locs hw hP hD hS => ?_)
        have hP : va_P D vwCl [(h, .inr (8, [.ref h1, .ref h2, .ref h3, .int gst, .ref h4, .ref h5, .ref h6, .int gty, .int 0, .int 0, .int gsp, .ref h7, .ref h8, .int gtl])), (h1, .inl (cI, 190, .inl (upd g95_1 181 x185)))] H := hP
        have hD : va_D A [(h, .inr (8, [.ref h1, .ref h2, .ref h3, .int gst, .ref h4, .ref h5, .ref h6, .int gty, .int 0, .int 0, .int gsp, .ref h7, .ref h8, .int gtl])), (h1, .inl (cI, 190, .inl (upd g95_1 181 x185)))] := hD
        have e197 : r197 = climbZ (upd g95_1 181 x185) := hw
        have e197 : r197 = climbZ z := by rw [e197, climbZ_upd _ (by unfold atZ; rw [hg95_1, preZ_o z (by omega) (by omega) (by omega) (by omega)]; exact ha0) _ (by omega) (by omega), hg95_1, climbZ_pre z ha0]
        refine lv_iadd hx hb dX8_beat_200 ?_
        refine lv_topi (fun x200 e200 => ?_)
        refine va_iast hx hb hK hP hD hS 1 0 rfl rfl (xi_in (by decide) (by decide)) dX8_beat_201 (fun H locs hP hD hS => ?_)
        have hP : va_P D vwCl [(h, .inr (8, [.ref h1, .ref h2, .ref h3, .int gst, .ref h4, .ref h5, .ref h6, .int gty, .int 0, .int 0, .int gsp, .ref h7, .ref h8, .int gtl])), (h1, .inl (cI, 190, .inl (upd (upd g95_1 181 x185) 175 x200)))] H := hP
        have hD : va_D A [(h, .inr (8, [.ref h1, .ref h2, .ref h3, .int gst, .ref h4, .ref h5, .ref h6, .int gty, .int 0, .int 0, .int gsp, .ref h7, .ref h8, .int gtl])), (h1, .inl (cI, 190, .inl (upd (upd g95_1 181 x185) 175 x200)))] := hD
        refine lv_aload_n hx hb dX8_beat_202 rfl (lv_at hl 1 rfl) ?_
        refine va_get (D := D) (ci := 8) (v := .ref h1) (C := RX8) (T := TX8) (N := 14) hx hb hts xin8 hown hK hP 0 rfl rfl 0 (by decide) (hts _ (List.mem_cons_of_mem _ mw_3_89)) (fun _ h9 => h9) rfl dX8_beat_203 ?_
        refine lv_sipush (v := 187) hx hb dX8_beat_206 (by decide) ?_
        refine lv_dup2_11 hx hb dX8_beat_209 rfl rfl ?_
        refine va_iald hx hb hK hP 1 0 rfl rfl (xi_in (by decide) (by decide)) dX8_beat_210 ?_
        refine xk_top (z := g95_1 187) rfl ?_
        refine lv_iconst (v := 1) hx hb dX8_beat_211 (by decide) ?_
        refine lv_iadd hx hb dX8_beat_212 ?_
        refine lv_topi (fun x212 e212 => ?_)
        refine va_iast hx hb hK hP hD hS 1 0 rfl rfl (xi_in (by decide) (by decide)) dX8_beat_213 (fun H locs hP hD hS => ?_)
        have hP : va_P D vwCl [(h, .inr (8, [.ref h1, .ref h2, .ref h3, .int gst, .ref h4, .ref h5, .ref h6, .int gty, .int 0, .int 0, .int gsp, .ref h7, .ref h8, .int gtl])), (h1, .inl (cI, 190, .inl (upd (upd (upd g95_1 181 x185) 175 x200) 187 x212)))] H := hP
        have hD : va_D A [(h, .inr (8, [.ref h1, .ref h2, .ref h3, .int gst, .ref h4, .ref h5, .ref h6, .int gty, .int 0, .int 0, .int gsp, .ref h7, .ref h8, .int gtl])), (h1, .inl (cI, 190, .inl (upd (upd (upd g95_1 181 x185) 175 x200) 187 x212)))] := hD
        have f214 : (upd (upd (upd g95_1 181 x185) 175 x200) 187 x212) = singZ z := by subst e212 e200 e197 e185; subst e5; subst e2; rw [singZ, ← hg95_1]; rfl
        rw [f214] at hP hD
        have hP : va_P D vwCl [(h, .inr (8, [.ref h1, .ref h2, .ref h3, .int gst, .ref h4, .ref h5, .ref h6, .int gty, .int 0, .int 0, .int gsp, .ref h7, .ref h8, .int gtl])), (h1, .inl (cI, 190, .inl (singZ z)))] H := hP
        have hD : va_D A [(h, .inr (8, [.ref h1, .ref h2, .ref h3, .int gst, .ref h4, .ref h5, .ref h6, .int gty, .int 0, .int 0, .int gsp, .ref h7, .ref h8, .int gtl])), (h1, .inl (cI, 190, .inl (singZ z)))] := hD
        obtain ⟨g214_1, hg214_1⟩ : ∃ g, g = (singZ z) := ⟨_, rfl⟩
        rw [← hg214_1] at hP hD
        have hP : va_P D vwCl [(h, .inr (8, [.ref h1, .ref h2, .ref h3, .int gst, .ref h4, .ref h5, .ref h6, .int gty, .int 0, .int 0, .int gsp, .ref h7, .ref h8, .int gtl])), (h1, .inl (cI, 190, .inl g214_1))] H := hP
        have hD : va_D A [(h, .inr (8, [.ref h1, .ref h2, .ref h3, .int gst, .ref h4, .ref h5, .ref h6, .int gty, .int 0, .int 0, .int gsp, .ref h7, .ref h8, .int gtl])), (h1, .inl (cI, 190, .inl g214_1))] := hD
        have hrz : ¬ restZ z := by show ¬ 0 < (preZ z 182).toInt; rw [← hg95_1]; exact Int.not_lt.mpr t103
        have hsa : atZ g214_1 := by rw [hg214_1]; unfold atZ; rw [singZ_o z (by omega) (by omega) (by omega) (by omega) (by omega) (by omega)]; exact ha0
        refine lv_aload_n hx hb dX8_beat_214 rfl (lv_at hl 1 rfl) ?_
        refine xk_Vv (As := []) (rest := []) hx hb hml hown hts hK hN hZ hP hD hS hA mb_X8_step mw_3_178 mw_3_180 mw_0_12 (c_X8_step l D cI cZ cS h h1 h2 h3 h4 h5 h6 h7 h8 gst gty (0 : Int32) (0 : Int32) gsp gtl g214_1 (by exact hsa) (by rw [hg214_1, singZ_o z (by omega) (by omega) (by omega) (by omega) (by omega) (by omega)]; exact h5m)) [0, 1] 0 8 rfl rfl (by decide) rfl (fun _ => by simp only [List.map]) (by decide) (by decide) rfl hl.1 rfl (Nat.le_of_ble_eq_true rfl) dX8_beat_215 ⟨Nat.zero_le _, Nat.zero_le _⟩ (fun _ H locs hw hP hD hS => ?_)
        have hP : va_P D vwCl [(h, .inr (8, [.ref h1, .ref h2, .ref h3, .int gst, .ref h4, .ref h5, .ref h6, .int gty, .int 0, .int (if (¬ skipZ g214_1 ∧ fullZ g214_1) then 1 else (0 : Int32)), .int gsp, .ref h7, .ref h8, .int gtl])), (h1, .inl (cI, 190, .inl (stepZ g214_1)))] H := hP
        have hD : va_D A [(h, .inr (8, [.ref h1, .ref h2, .ref h3, .int gst, .ref h4, .ref h5, .ref h6, .int gty, .int 0, .int (if (¬ skipZ g214_1 ∧ fullZ g214_1) then 1 else (0 : Int32)), .int gsp, .ref h7, .ref h8, .int gtl])), (h1, .inl (cI, 190, .inl (stepZ g214_1)))] := hD
        obtain ⟨g215_1, hg215_1⟩ : ∃ g, g = (stepZ g214_1) := ⟨_, rfl⟩
        rw [← hg215_1] at hP hD
        have hP : va_P D vwCl [(h, .inr (8, [.ref h1, .ref h2, .ref h3, .int gst, .ref h4, .ref h5, .ref h6, .int gty, .int 0, .int (if (¬ skipZ g214_1 ∧ fullZ g214_1) then 1 else (0 : Int32)), .int gsp, .ref h7, .ref h8, .int gtl])), (h1, .inl (cI, 190, .inl g215_1))] H := hP
        have hD : va_D A [(h, .inr (8, [.ref h1, .ref h2, .ref h3, .int gst, .ref h4, .ref h5, .ref h6, .int gty, .int 0, .int (if (¬ skipZ g214_1 ∧ fullZ g214_1) then 1 else (0 : Int32)), .int gsp, .ref h7, .ref h8, .int gtl])), (h1, .inl (cI, 190, .inl g215_1))] := hD
        refine lv_aload_n hx hb dX8_beat_218 rfl (lv_at hl 1 rfl) ?_
        refine xk_Vv (As := []) (rest := []) hx hb hml hown hts hK hN hZ hP hD hS hA mb_X8_goOn mw_3_182 mw_3_184 mw_0_13 (c_X8_goOn l D cI cZ cS h h1 h2 h3 h4 h5 h6 h7 h8 gst gty (0 : Int32) (if (¬ skipZ g214_1 ∧ fullZ g214_1) then 1 else (0 : Int32)) gsp gtl g215_1 (by rw [hg215_1, stepZ_o _ (by omega) (by omega) (by omega) (by omega) (by omega) (by omega), stepZ_o _ (by omega) (by omega) (by omega) (by omega) (by omega) (by omega), hg214_1, singZ_o z (by omega) (by omega) (by omega) (by omega) (by omega) (by omega), singZ_o z (by omega) (by omega) (by omega) (by omega) (by omega) (by omega)]; exact hi)) [0, 1] 0 8 rfl rfl (by decide) rfl (fun _ => by simp only [List.map]) (by decide) (by decide) rfl hl.1 rfl (Nat.le_of_ble_eq_true rfl) dX8_beat_219 ⟨Nat.zero_le _, Nat.zero_le _⟩ (fun _ H locs hw hP hD hS => ?_)
        have hP : va_P D vwCl [(h, .inr (8, [.ref h1, .ref h2, .ref h3, .int gst, .ref h4, .ref h5, .ref h6, .int gty, .int (if (¬ inFootZ g215_1 ∧ songEZ g215_1) then 1 else (0 : Int32)), .int (if (¬ skipZ g214_1 ∧ fullZ g214_1) then 1 else (0 : Int32)), .int gsp, .ref h7, .ref h8, .int gtl])), (h1, .inl (cI, 190, .inl (goOnZ g215_1)))] H := hP
        have hD : va_D A [(h, .inr (8, [.ref h1, .ref h2, .ref h3, .int gst, .ref h4, .ref h5, .ref h6, .int gty, .int (if (¬ inFootZ g215_1 ∧ songEZ g215_1) then 1 else (0 : Int32)), .int (if (¬ skipZ g214_1 ∧ fullZ g214_1) then 1 else (0 : Int32)), .int gsp, .ref h7, .ref h8, .int gtl])), (h1, .inl (cI, 190, .inl (goOnZ g215_1)))] := hD
        obtain ⟨g219_1, hg219_1⟩ : ∃ g, g = (goOnZ g215_1) := ⟨_, rfl⟩
        rw [← hg219_1] at hP hD
        have hP : va_P D vwCl [(h, .inr (8, [.ref h1, .ref h2, .ref h3, .int gst, .ref h4, .ref h5, .ref h6, .int gty, .int (if (¬ inFootZ g215_1 ∧ songEZ g215_1) then 1 else (0 : Int32)), .int (if (¬ skipZ g214_1 ∧ fullZ g214_1) then 1 else (0 : Int32)), .int gsp, .ref h7, .ref h8, .int gtl])), (h1, .inl (cI, 190, .inl g219_1))] H := hP
        have hD : va_D A [(h, .inr (8, [.ref h1, .ref h2, .ref h3, .int gst, .ref h4, .ref h5, .ref h6, .int gty, .int (if (¬ inFootZ g215_1 ∧ songEZ g215_1) then 1 else (0 : Int32)), .int (if (¬ skipZ g214_1 ∧ fullZ g214_1) then 1 else (0 : Int32)), .int gsp, .ref h7, .ref h8, .int gtl])), (h1, .inl (cI, 190, .inl g219_1))] := hD
        have hz : g219_1 = beatZ z := by rw [hg219_1, hg215_1, hg214_1, beatZ, if_neg hrz]
        have hu1 : (if (¬ skipZ g214_1 ∧ fullZ g214_1) then 1 else (0 : Int32)) = if endS z then 1 else 0 := by rw [hg214_1]; simp only [endS, hrz, not_false_eq_true, true_and]
        have hu2 : (if (¬ inFootZ g215_1 ∧ songEZ g215_1) then 1 else (0 : Int32)) = if endG z then 1 else 0 := by rw [hg215_1, hg214_1]; simp only [endG, hrz, not_false_eq_true, true_and]
        exact xk_retv () hx hb hr hlocks (xk_P hP (by rw [← hu1, ← hu2, ← hz])) (by trivial) hS dX8_beat_222 hQ
      · have t103 : 0 < (g95_1 182).toInt := xi_nle rfl (by decide) c103
        refine lv_aload_n hx hb dX8_beat_106 rfl (lv_at hl 1 rfl) ?_
        refine va_get (D := D) (ci := 8) (v := .ref h1) (C := RX8) (T := TX8) (N := 14) hx hb hts xin8 hown hK hP 0 rfl rfl 0 (by decide) (hts _ (List.mem_cons_of_mem _ mw_3_89)) (fun _ h9 => h9) rfl dX8_beat_107 ?_
        refine lv_sipush (v := 182) hx hb dX8_beat_110 (by decide) ?_
        refine lv_dup2_11 hx hb dX8_beat_113 rfl rfl ?_
        refine va_iald hx hb hK hP 1 0 rfl rfl (xi_in (by decide) (by decide)) dX8_beat_114 ?_
        refine xk_top (z := g95_1 182) rfl ?_
        refine lv_iconst (v := 1) hx hb dX8_beat_115 (by decide) ?_
        refine lv_isub hx hb dX8_beat_116 ?_
        refine lv_topi (fun x116 e116 => ?_)
        refine va_iast hx hb hK hP hD hS 1 0 rfl rfl (xi_in (by decide) (by decide)) dX8_beat_117 (fun H locs hP hD hS => ?_)
        have hP : va_P D vwCl [(h, .inr (8, [.ref h1, .ref h2, .ref h3, .int gst, .ref h4, .ref h5, .ref h6, .int gty, .int 0, .int 0, .int gsp, .ref h7, .ref h8, .int gtl])), (h1, .inl (cI, 190, .inl (upd g95_1 182 x116)))] H := hP
        have hD : va_D A [(h, .inr (8, [.ref h1, .ref h2, .ref h3, .int gst, .ref h4, .ref h5, .ref h6, .int gty, .int 0, .int 0, .int gsp, .ref h7, .ref h8, .int gtl])), (h1, .inl (cI, 190, .inl (upd g95_1 182 x116)))] := hD
        refine lv_aload_n hx hb dX8_beat_118 rfl (lv_at hl 1 rfl) ?_
        refine va_get (D := D) (ci := 8) (v := .ref h1) (C := RX8) (T := TX8) (N := 14) hx hb hts xin8 hown hK hP 0 rfl rfl 0 (by decide) (hts _ (List.mem_cons_of_mem _ mw_3_89)) (fun _ h9 => h9) rfl dX8_beat_119 ?_
        refine lv_sipush (v := 181) hx hb dX8_beat_122 (by decide) ?_
        refine lv_aload_n hx hb dX8_beat_125 rfl (lv_at hl 1 rfl) ?_
        refine va_get (D := D) (ci := 8) (v := .ref h1) (C := RX8) (T := TX8) (N := 14) hx hb hts xin8 hown hK hP 0 rfl rfl 0 (by decide) (hts _ (List.mem_cons_of_mem _ mw_3_89)) (fun _ h9 => h9) rfl dX8_beat_126 ?_
        refine lv_sipush (v := 181) hx hb dX8_beat_129 (by decide) ?_
        refine va_iald hx hb hK hP 1 0 rfl rfl (xi_in (by decide) (by decide)) dX8_beat_132 ?_
        refine xk_top (z := g95_1 181) rfl ?_
        refine lv_aload_n hx hb dX8_beat_133 rfl (lv_at hl 1 rfl) ?_
        refine va_get (D := D) (ci := 8) (v := .ref h1) (C := RX8) (T := TX8) (N := 14) hx hb hts xin8 hown hK hP 0 rfl rfl 0 (by decide) (hts _ (List.mem_cons_of_mem _ mw_3_89)) (fun _ h9 => h9) rfl dX8_beat_134 ?_
        refine lv_iconst (v := 3) hx hb dX8_beat_137 (by decide) ?_
        refine va_iald hx hb hK hP 1 0 rfl rfl (xi_in (by decide) (by decide)) dX8_beat_138 ?_
        refine xk_top (z := g95_1 3) rfl ?_
        refine lv_iadd hx hb dX8_beat_139 ?_
        refine lv_topi (fun x139 e139 => ?_)
        refine lv_aload_n hx hb dX8_beat_140 rfl (lv_at hl 1 rfl) ?_
        refine va_get (D := D) (ci := 8) (v := .ref h1) (C := RX8) (T := TX8) (N := 14) hx hb hts xin8 hown hK hP 0 rfl rfl 0 (by decide) (hts _ (List.mem_cons_of_mem _ mw_3_89)) (fun _ h9 => h9) rfl dX8_beat_141 ?_
        refine lv_iconst (v := 4) hx hb dX8_beat_144 (by decide) ?_
        refine va_iald hx hb hK hP 1 0 rfl rfl (xi_in (by decide) (by decide)) dX8_beat_145 ?_
        refine xk_top (z := g95_1 4) rfl ?_
        refine lv_icmp_ge (tgt := 167) hx hb dX8_beat_146 (by decide) (fun c146 => ?_) (fun c146 => ?_)
        · have t146 : (g95_1 4).toInt ≤ x139.toInt := xi_le rfl rfl c146
          refine lv_aload_n hx hb dX8_beat_167 rfl (lv_at hl 1 rfl) ?_
          refine va_get (D := D) (ci := 8) (v := .ref h1) (C := RX8) (T := TX8) (N := 14) hx hb hts xin8 hown hK hP 0 rfl rfl 0 (by decide) (hts _ (List.mem_cons_of_mem _ mw_3_89)) (fun _ h9 => h9) rfl dX8_beat_168 ?_
          refine lv_iconst (v := 4) hx hb dX8_beat_171 (by decide) ?_
          refine va_iald hx hb hK hP 1 0 rfl rfl (xi_in (by decide) (by decide)) dX8_beat_172 ?_
          refine xk_top (z := g95_1 4) rfl ?_
          refine va_iast hx hb hK hP hD hS 1 0 rfl rfl (xi_in (by decide) (by decide)) dX8_beat_173 (fun H locs hP hD hS => ?_)
          have hP : va_P D vwCl [(h, .inr (8, [.ref h1, .ref h2, .ref h3, .int gst, .ref h4, .ref h5, .ref h6, .int gty, .int 0, .int 0, .int gsp, .ref h7, .ref h8, .int gtl])), (h1, .inl (cI, 190, .inl (upd (upd g95_1 182 x116) 181 (g95_1 4))))] H := hP
          have hD : va_D A [(h, .inr (8, [.ref h1, .ref h2, .ref h3, .int gst, .ref h4, .ref h5, .ref h6, .int gty, .int 0, .int 0, .int gsp, .ref h7, .ref h8, .int gtl])), (h1, .inl (cI, 190, .inl (upd (upd g95_1 182 x116) 181 (g95_1 4))))] := hD
          have hrz : restZ z := by show 0 < (preZ z 182).toInt; rw [← hg95_1]; exact t103
          have hz : (upd (upd g95_1 182 x116) 181 (g95_1 4)) = beatZ z := by rw [beatZ, if_pos hrz, restsZ, ← hg95_1]; subst e139 e116; rw [if_neg (Int.not_lt.mpr t146)]
          have hu1 : (0 : Int32) = if endS z then 1 else 0 := by rw [if_neg (fun hh => hh.1 hrz)]
          have hu2 : (0 : Int32) = if endG z then 1 else 0 := by rw [if_neg (fun hh => hh.1 hrz)]
          exact xk_retv () hx hb hr hlocks (xk_P hP (by rw [← hu1, ← hu2, ← hz])) (by trivial) hS dX8_beat_174 hQ
        · have t146 : x139.toInt < (g95_1 4).toInt := xi_nle rfl rfl c146
          refine lv_aload_n hx hb dX8_beat_149 rfl (lv_at hl 1 rfl) ?_
          refine va_get (D := D) (ci := 8) (v := .ref h1) (C := RX8) (T := TX8) (N := 14) hx hb hts xin8 hown hK hP 0 rfl rfl 0 (by decide) (hts _ (List.mem_cons_of_mem _ mw_3_89)) (fun _ h9 => h9) rfl dX8_beat_150 ?_
          refine lv_sipush (v := 181) hx hb dX8_beat_153 (by decide) ?_
          refine va_iald hx hb hK hP 1 0 rfl rfl (xi_in (by decide) (by decide)) dX8_beat_156 ?_
          refine xk_top (z := g95_1 181) rfl ?_
          refine lv_aload_n hx hb dX8_beat_157 rfl (lv_at hl 1 rfl) ?_
          refine va_get (D := D) (ci := 8) (v := .ref h1) (C := RX8) (T := TX8) (N := 14) hx hb hts xin8 hown hK hP 0 rfl rfl 0 (by decide) (hts _ (List.mem_cons_of_mem _ mw_3_89)) (fun _ h9 => h9) rfl dX8_beat_158 ?_
          refine lv_iconst (v := 3) hx hb dX8_beat_161 (by decide) ?_
          refine va_iald hx hb hK hP 1 0 rfl rfl (xi_in (by decide) (by decide)) dX8_beat_162 ?_
          refine xk_top (z := g95_1 3) rfl ?_
          refine lv_iadd hx hb dX8_beat_163 ?_
          refine lv_topi (fun x163 e163 => ?_)
          refine lv_goto (tgt := 173) hx hb dX8_beat_164 (by decide) ?_
          refine va_iast hx hb hK hP hD hS 1 0 rfl rfl (xi_in (by decide) (by decide)) dX8_beat_173 (fun H locs hP hD hS => ?_)
          have hP : va_P D vwCl [(h, .inr (8, [.ref h1, .ref h2, .ref h3, .int gst, .ref h4, .ref h5, .ref h6, .int gty, .int 0, .int 0, .int gsp, .ref h7, .ref h8, .int gtl])), (h1, .inl (cI, 190, .inl (upd (upd g95_1 182 x116) 181 x163)))] H := hP
          have hD : va_D A [(h, .inr (8, [.ref h1, .ref h2, .ref h3, .int gst, .ref h4, .ref h5, .ref h6, .int gty, .int 0, .int 0, .int gsp, .ref h7, .ref h8, .int gtl])), (h1, .inl (cI, 190, .inl (upd (upd g95_1 182 x116) 181 x163)))] := hD
          have hrz : restZ z := by show 0 < (preZ z 182).toInt; rw [← hg95_1]; exact t103
          have hz : (upd (upd g95_1 182 x116) 181 x163) = beatZ z := by rw [beatZ, if_pos hrz, restsZ, ← hg95_1]; subst e163 e139 e116; rw [if_pos t146]
          have hu1 : (0 : Int32) = if endS z then 1 else 0 := by rw [if_neg (fun hh => hh.1 hrz)]
          have hu2 : (0 : Int32) = if endG z then 1 else 0 := by rw [if_neg (fun hh => hh.1 hrz)]
          exact xk_retv () hx hb hr hlocks (xk_P hP (by rw [← hu1, ← hu2, ← hz])) (by trivial) hS dX8_beat_174 hQ
