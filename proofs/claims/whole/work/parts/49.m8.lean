set_option maxHeartbeats 4000000 in
set_option maxRecDepth 100000 in
theorem c_X8_readPad2 (l : Launch) (D : va_G) (cI cZ cS : ClassId) (h h1 h2 h3 h4 h5 h6 h7 h8 : Nat) (gst gty gse gte gsp gtl : Int32) (pad tf tm : Nat → Int32)  (hsp : 0 ≤ gty.toInt ∧ gty.toInt ≤ 60) : xMi l yX8_readPad cX8_readPad 2 (some .boolean) ({ frames := 3, cells := 0, slots := 0, locals := 65 } : Room) D (xTy cI cZ cS) [.ref h] [(h, .inr (8, [.ref h1, .ref h2, .ref h3, .int gst, .ref h4, .ref h5, .ref h6, .int gty, .int gse, .int gte, .int gsp, .ref h7, .ref h8, .int gtl])), (h6, .inl (cI, 60, .inl pad)), (h7, .inl (cI, 120, .inl tf)), (h8, .inl (cI, 10, .inl tm))] (fun (r : Int32) (u : (Int32) × (Int32) × (Nat → Int32) × (Nat → Int32)) => ((r = 1 ∧ (FN pad gty.toInt.toNat ∧ u.1 = gty ∧ PadT pad gty.toInt.toNat u.2.1 u.2.2.1 u.2.2.2)) ∨ (r = 0 ∧ (FA pad gty.toInt.toNat u.1.toInt.toNat ∧ 0 ≤ u.1.toInt ∧ u.1.toInt ≤ gty.toInt)))) (fun (u : (Int32) × (Int32) × (Nat → Int32) × (Nat → Int32)) => [(h, .inr (8, [.ref h1, .ref h2, .ref h3, .int gst, .ref h4, .ref h5, .ref h6, .int gty, .int gse, .int gte, .int u.1, .ref h7, .ref h8, .int u.2.1])), (h6, .inl (cI, 60, .inl pad)), (h7, .inl (cI, 120, .inl u.2.2.1)), (h8, .inl (cI, 10, .inl u.2.2.2))]) := by
  refine xk_bodyi (by decide) (Nat.le_of_ble_eq_true rfl) ?_
  intro p e s m below meth c A ls args Q hx hb hr hts hown hlocks hml hin hK hP hD hS hA hN hZ hl hQ
  have hl : lv_has ls 2 [(0, .ref h)] := hl
  refine lv_aload_n hx hb dX8_readPad_0 rfl (lv_at hl 0 rfl) ?_
  refine lv_iconst (v := 0) hx hb dX8_readPad_1 (by decide) ?_
  refine va_put (D := D) (ci := 8) (v := .int 0) (ty := .int) (C := RX8) (T := TX8) (N := 14) hx hb hts xin8 tyX8 tyX8_ok nmX8 hown hK hP hD hS 0 rfl rfl 10 (by decide) (hts _ (List.mem_cons_of_mem _ mw_3_99)) (fun _ h9 => h9) rfl (by decide +kernel) rfl rfl (Nat.le_of_ble_eq_true rfl) dX8_readPad_2 (fun H locs hP hD hS => ?_)
  have hP : va_P D vwCl [(h, .inr (8, [.ref h1, .ref h2, .ref h3, .int gst, .ref h4, .ref h5, .ref h6, .int gty, .int gse, .int gte, .int 0, .ref h7, .ref h8, .int gtl])), (h6, .inl (cI, 60, .inl pad)), (h7, .inl (cI, 120, .inl tf)), (h8, .inl (cI, 10, .inl tm))] H := hP
  have hD : va_D A [(h, .inr (8, [.ref h1, .ref h2, .ref h3, .int gst, .ref h4, .ref h5, .ref h6, .int gty, .int gse, .int gte, .int 0, .ref h7, .ref h8, .int gtl])), (h6, .inl (cI, 60, .inl pad)), (h7, .inl (cI, 120, .inl tf)), (h8, .inl (cI, 10, .inl tm))] := hD
  refine lv_aload_n hx hb dX8_readPad_5 rfl (lv_at hl 0 rfl) ?_
  refine lv_iconst (v := 0) hx hb dX8_readPad_6 (by decide) ?_
  refine va_put (D := D) (ci := 8) (v := .int 0) (ty := .int) (C := RX8) (T := TX8) (N := 14) hx hb hts xin8 tyX8 tyX8_ok nmX8 hown hK hP hD hS 0 rfl rfl 13 (by decide) (hts _ (List.mem_cons_of_mem _ mw_3_102)) (fun _ h9 => h9) rfl (by decide +kernel) rfl rfl (Nat.le_of_ble_eq_true rfl) dX8_readPad_7 (fun H locs hP hD hS => ?_)
  have hP : va_P D vwCl [(h, .inr (8, [.ref h1, .ref h2, .ref h3, .int gst, .ref h4, .ref h5, .ref h6, .int gty, .int gse, .int gte, .int 0, .ref h7, .ref h8, .int 0])), (h6, .inl (cI, 60, .inl pad)), (h7, .inl (cI, 120, .inl tf)), (h8, .inl (cI, 10, .inl tm))] H := hP
  have hD : va_D A [(h, .inr (8, [.ref h1, .ref h2, .ref h3, .int gst, .ref h4, .ref h5, .ref h6, .int gty, .int gse, .int gte, .int 0, .ref h7, .ref h8, .int 0])), (h6, .inl (cI, 60, .inl pad)), (h7, .inl (cI, 120, .inl tf)), (h8, .inl (cI, 10, .inl tm))] := hD
  refine lv_aload_n hx hb dX8_readPad_10 rfl (lv_at hl 0 rfl) ?_
  refine xk_Vi (As := []) (rest := []) hx hb hml hown hts hK hN hZ hP hD hS hA mb_X8_readLine mw_3_234 mw_3_236 mw_0_18 (c_X8_readLine l D cI cZ cS h h1 h2 h3 h4 h5 h6 h7 h8 gst gty gse gte (0 : Int32) (0 : Int32) pad tf tm (by rw [show (0 : Int32).toInt = 0 from by decide]; omega) (by decide) (by exact SynL_0 pad tf tm)) [0, 1, 2, 3] 0 8 rfl rfl (by decide) rfl (fun _ => by simp only [List.map]) (by decide) (by decide) rfl hl.1 rfl (Nat.le_of_ble_eq_true rfl) dX8_readPad_11 ⟨Nat.zero_le _, Nat.zero_le _⟩ (fun r11 u11 H locs hw hP hD hS => ?_)
  obtain ⟨w11_0, w11_1, w11_2⟩ := u11
  have hP : va_P D vwCl [(h, .inr (8, [.ref h1, .ref h2, .ref h3, .int gst, .ref h4, .ref h5, .ref h6, .int gty, .int gse, .int gte, .int w11_0, .ref h7, .ref h8, .int ((0 : Int32) + 1)])), (h6, .inl (cI, 60, .inl pad)), (h7, .inl (cI, 120, .inl w11_1)), (h8, .inl (cI, 10, .inl w11_2))] H := hP
  have hD : va_D A [(h, .inr (8, [.ref h1, .ref h2, .ref h3, .int gst, .ref h4, .ref h5, .ref h6, .int gty, .int gse, .int gte, .int w11_0, .ref h7, .ref h8, .int ((0 : Int32) + 1)])), (h6, .inl (cI, 60, .inl pad)), (h7, .inl (cI, 120, .inl w11_1)), (h8, .inl (cI, 10, .inl w11_2))] := hD
  have p11 : (0 ≤ w11_0.toInt ∧ w11_0.toInt ≤ gty.toInt) ∧ Syn pad gty.toInt.toNat w11_0.toInt.toNat 0 w11_1 w11_2 ∧ ((w11_2 0).toInt = 12 ∨ ¬ footS pad gty.toInt.toNat w11_0.toInt.toNat) ∧ ((r11 = 1 ∧ 0 < (w11_2 0).toInt) ∨ (r11 = 0 ∧ (w11_2 0).toInt = 0)) := hw
  refine lv_istore_n (lv' := [(1, .int r11), (0, .ref h)]) hx hb dX8_readPad_14 rfl hl (by decide) rfl (fun ls hl => ?_)
  obtain ⟨k1, k2, k3, k4⟩ := p11
  have L15 : ∀ (n : Nat) (sp : Int32) (gl : Int32) (tf1 : Nat → Int32) (tm1 : Nat → Int32) (g : Int32) (hk : (0 ≤ sp.toInt ∧ sp.toInt ≤ gty.toInt) ∧ 1 ≤ gl.toInt ∧ gl.toInt ≤ 10) (hY : Syn pad gty.toInt.toNat sp.toInt.toNat (gl.toInt.toNat - 1) tf1 tm1 ∧ ((tm1 (gl.toInt.toNat - 1)).toInt = 12 ∨ ¬ footS pad gty.toInt.toNat sp.toInt.toNat) ∧ ((g = 1 ∧ 0 < (tm1 (gl.toInt.toNat - 1)).toInt) ∨ (g = 0 ∧ (tm1 (gl.toInt.toNat - 1)).toInt = 0))) (hn15 : (10 - gl.toInt).toNat < n) (H : Heap) (locs : List Loc), va_P D vwCl [(h, .inr (8, [.ref h1, .ref h2, .ref h3, .int gst, .ref h4, .ref h5, .ref h6, .int gty, .int gse, .int gte, .int sp, .ref h7, .ref h8, .int gl])), (h6, .inl (cI, 60, .inl pad)), (h7, .inl (cI, 120, .inl tf1)), (h8, .inl (cI, 10, .inl tm1))] H → va_D A [(h, .inr (8, [.ref h1, .ref h2, .ref h3, .int gst, .ref h4, .ref h5, .ref h6, .int gty, .int gse, .int gte, .int sp, .ref h7, .ref h8, .int gl])), (h6, .inl (cI, 60, .inl pad)), (h7, .inl (cI, 120, .inl tf1)), (h8, .inl (cI, 10, .inl tm1))] → va_S A s.heap H locs → ∀ ls : Array Slot, lv_has ls 2 [(1, .int g), (0, .ref h)] → W p l e ({ frames := 3, cells := 0, slots := 0, locals := 65 } : Room) s m args below meth c H locs 0 0 Q (F0 m 15 ls []) := by
    intro n
    induction n with
    | zero =>
      intro sp gl tf1 tm1 g hk hY hn15
      exact absurd hn15 (Nat.not_lt_zero _)
    | succ n ih15 =>
      intro sp gl tf1 tm1 g hk hY hn15 H locs hP hD hS ls hl
      obtain ⟨hY1, hY2, hY3⟩ := hY
      refine lv_iload_n hx hb dX8_readPad_15 rfl (lv_at hl 0 rfl) ?_
      refine lv_if_eq (tgt := 45) hx hb dX8_readPad_16 (by decide) (fun c16 => ?_) (fun c16 => ?_)
      · have t16 : g.toInt = 0 := xi_eq rfl (by decide) c16
        have d16 : g = 0 := c16
        refine lv_iload_n hx hb dX8_readPad_45 rfl (lv_at hl 0 rfl) ?_
        refine lv_if_eq (tgt := 64) hx hb dX8_readPad_46 (by decide) (fun c46 => ?_) (fun c46 => ?_)
        · have t46 : g.toInt = 0 := xi_eq rfl (by decide) c46
          have d46 : g = 0 := c46
          refine lv_iconst (v := 0) hx hb dX8_readPad_64 (by decide) ?_
          have hzero : (tm1 (gl.toInt.toNat - 1)).toInt = 0 := hY3.elim (fun q => absurd (q.1.symm.trans d46) (by decide)) (fun q => q.2)
          have hfa := Syn_fault0 hY1 hzero (by omega) (hY2.resolve_left (by omega))
          exact xk_retz (sp, gl, tf1, tm1) hx hb hr hlocks (by decide) (xk_P hP (by rfl)) (by (try dsimp only); exact Or.inr ⟨rfl, hfa, hk.1⟩) hS dX8_readPad_65 hQ
        · have t46 : ¬ g.toInt = 0 := xi_ne rfl (by decide) c46
          have d46 : ¬ g = 0 := c46
          refine lv_aload_n hx hb dX8_readPad_49 rfl (lv_at hl 1 rfl) ?_
          refine va_get (D := D) (ci := 8) (v := .int sp) (C := RX8) (T := TX8) (N := 14) hx hb hts xin8 hown hK hP 0 rfl rfl 10 (by decide) (hts _ (List.mem_cons_of_mem _ mw_3_99)) (fun _ h9 => h9) rfl dX8_readPad_50 ?_
          refine lv_aload_n hx hb dX8_readPad_53 rfl (lv_at hl 1 rfl) ?_
          refine va_get (D := D) (ci := 8) (v := .int gty) (C := RX8) (T := TX8) (N := 14) hx hb hts xin8 hown hK hP 0 rfl rfl 7 (by decide) (hts _ (List.mem_cons_of_mem _ mw_3_96)) (fun _ h9 => h9) rfl dX8_readPad_54 ?_
          refine lv_icmp_ne (tgt := 64) hx hb dX8_readPad_57 (by decide) (fun c57 => ?_) (fun c57 => ?_)
          · have t57 : ¬ sp.toInt = gty.toInt := xi_ne rfl rfl c57
            have d57 : ¬ sp = gty := c57
            refine lv_iconst (v := 0) hx hb dX8_readPad_64 (by decide) ?_
            have hpos : 0 < (tm1 (gl.toInt.toNat - 1)).toInt := hY3.elim (fun q => q.2) (fun q => absurd q.1 d46)
            have hfa := Syn_fault1 hY1 hY2 (by omega) (Or.inl (by omega))
            exact xk_retz (sp, gl, tf1, tm1) hx hb hr hlocks (by decide) (xk_P hP (by rfl)) (by (try dsimp only); exact Or.inr ⟨rfl, hfa, hk.1⟩) hS dX8_readPad_65 hQ
          · have t57 : sp.toInt = gty.toInt := xi_eq rfl rfl c57
            have d57 : sp = gty := c57
            refine lv_iconst (v := 1) hx hb dX8_readPad_60 (by decide) ?_
            refine lv_goto (tgt := 65) hx hb dX8_readPad_61 (by decide) ?_
            have hg1 : g = 1 := (hY3.elim (fun q => q.1) (fun q => absurd q.1 d46))
            have hpos : 0 < (tm1 (gl.toInt.toNat - 1)).toInt := hY3.elim (fun q => q.2) (fun q => absurd q.1 d46)
            obtain ⟨hfn, hpt⟩ := Syn_end (gl := gl) hY1 hpos (by omega) (by omega)
            exact xk_retz (sp, gl, tf1, tm1) hx hb hr hlocks (by decide) (xk_P hP (by rfl)) (by (try dsimp only); exact Or.inl ⟨rfl, hfn, xi_ext t57, by rw [← t57]; exact hpt⟩) hS dX8_readPad_65 hQ
      · have t16 : ¬ g.toInt = 0 := xi_ne rfl (by decide) c16
        have d16 : ¬ g = 0 := c16
        refine lv_aload_n hx hb dX8_readPad_19 rfl (lv_at hl 1 rfl) ?_
        refine va_get (D := D) (ci := 8) (v := .int gl) (C := RX8) (T := TX8) (N := 14) hx hb hts xin8 hown hK hP 0 rfl rfl 13 (by decide) (hts _ (List.mem_cons_of_mem _ mw_3_102)) (fun _ h9 => h9) rfl dX8_readPad_20 ?_
        refine lv_bipush (v := 10) hx hb dX8_readPad_23 (by decide) ?_
        refine lv_icmp_ge (tgt := 45) hx hb dX8_readPad_25 (by decide) (fun c25 => ?_) (fun c25 => ?_)
        · have t25 : 10 ≤ gl.toInt := xi_le (by decide) rfl c25
          refine lv_iload_n hx hb dX8_readPad_45 rfl (lv_at hl 0 rfl) ?_
          refine lv_if_eq (tgt := 64) hx hb dX8_readPad_46 (by decide) (fun c46 => ?_) (fun c46 => ?_)
          · have t46 : g.toInt = 0 := xi_eq rfl (by decide) c46
            have d46 : g = 0 := c46
            refine lv_iconst (v := 0) hx hb dX8_readPad_64 (by decide) ?_
            have hzero : (tm1 (gl.toInt.toNat - 1)).toInt = 0 := hY3.elim (fun q => absurd (q.1.symm.trans d46) (by decide)) (fun q => q.2)
            have hfa := Syn_fault0 hY1 hzero (by omega) (hY2.resolve_left (by omega))
            exact xk_retz (sp, gl, tf1, tm1) hx hb hr hlocks (by decide) (xk_P hP (by rfl)) (by (try dsimp only); exact Or.inr ⟨rfl, hfa, hk.1⟩) hS dX8_readPad_65 hQ
          · have t46 : ¬ g.toInt = 0 := xi_ne rfl (by decide) c46
            have d46 : ¬ g = 0 := c46
            refine lv_aload_n hx hb dX8_readPad_49 rfl (lv_at hl 1 rfl) ?_
            refine va_get (D := D) (ci := 8) (v := .int sp) (C := RX8) (T := TX8) (N := 14) hx hb hts xin8 hown hK hP 0 rfl rfl 10 (by decide) (hts _ (List.mem_cons_of_mem _ mw_3_99)) (fun _ h9 => h9) rfl dX8_readPad_50 ?_
            refine lv_aload_n hx hb dX8_readPad_53 rfl (lv_at hl 1 rfl) ?_
            refine va_get (D := D) (ci := 8) (v := .int gty) (C := RX8) (T := TX8) (N := 14) hx hb hts xin8 hown hK hP 0 rfl rfl 7 (by decide) (hts _ (List.mem_cons_of_mem _ mw_3_96)) (fun _ h9 => h9) rfl dX8_readPad_54 ?_
            refine lv_icmp_ne (tgt := 64) hx hb dX8_readPad_57 (by decide) (fun c57 => ?_) (fun c57 => ?_)
            · have t57 : ¬ sp.toInt = gty.toInt := xi_ne rfl rfl c57
              have d57 : ¬ sp = gty := c57
              refine lv_iconst (v := 0) hx hb dX8_readPad_64 (by decide) ?_
              have hpos : 0 < (tm1 (gl.toInt.toNat - 1)).toInt := hY3.elim (fun q => q.2) (fun q => absurd q.1 d46)
              have hfa := Syn_fault1 hY1 hY2 (by omega) (Or.inl (by omega))
              exact xk_retz (sp, gl, tf1, tm1) hx hb hr hlocks (by decide) (xk_P hP (by rfl)) (by (try dsimp only); exact Or.inr ⟨rfl, hfa, hk.1⟩) hS dX8_readPad_65 hQ
            · have t57 : sp.toInt = gty.toInt := xi_eq rfl rfl c57
              have d57 : sp = gty := c57
              refine lv_iconst (v := 1) hx hb dX8_readPad_60 (by decide) ?_
              refine lv_goto (tgt := 65) hx hb dX8_readPad_61 (by decide) ?_
              have hg1 : g = 1 := (hY3.elim (fun q => q.1) (fun q => absurd q.1 d46))
              have hpos : 0 < (tm1 (gl.toInt.toNat - 1)).toInt := hY3.elim (fun q => q.2) (fun q => absurd q.1 d46)
              obtain ⟨hfn, hpt⟩ := Syn_end (gl := gl) hY1 hpos (by omega) (by omega)
              exact xk_retz (sp, gl, tf1, tm1) hx hb hr hlocks (by decide) (xk_P hP (by rfl)) (by (try dsimp only); exact Or.inl ⟨rfl, hfn, xi_ext t57, by rw [← t57]; exact hpt⟩) hS dX8_readPad_65 hQ
        · have t25 : gl.toInt < 10 := xi_nle (by decide) rfl c25
          refine lv_aload_n hx hb dX8_readPad_28 rfl (lv_at hl 1 rfl) ?_
          refine lv_bipush (v := 47) hx hb dX8_readPad_29 (by decide) ?_
          refine xk_Vi (As := [.int 47]) (rest := []) hx hb hml hown hts hK hN hZ hP hD hS hA mb_X8_takes mw_4_2 mw_4_4 mw_0_20 (c_X8_takes l D cI cZ cS h h1 h2 h3 h4 h5 h6 h7 h8 gst gty gse gte sp gl pad (47 : Int32) (by first | omega | decide | assumption)) [0, 1] 0 8 rfl rfl (by decide) rfl (fun _ => by simp only [List.map]) (by decide) (by decide) rfl hl.1 rfl (Nat.le_of_ble_eq_true rfl) dX8_readPad_31 ⟨Nat.zero_le _, Nat.zero_le _⟩ (fun r31 u31 H locs hw hP hD hS => ?_)
          obtain ⟨w31_0, rfl⟩ : ∃ z, z = u31 := ⟨_, rfl⟩
          have hP : va_P D vwCl [(h, .inr (8, [.ref h1, .ref h2, .ref h3, .int gst, .ref h4, .ref h5, .ref h6, .int gty, .int gse, .int gte, .int w31_0, .ref h7, .ref h8, .int gl])), (h6, .inl (cI, 60, .inl pad)), (h7, .inl (cI, 120, .inl tf1)), (h8, .inl (cI, 10, .inl tm1))] H := hP
          have hD : va_D A [(h, .inr (8, [.ref h1, .ref h2, .ref h3, .int gst, .ref h4, .ref h5, .ref h6, .int gty, .int gse, .int gte, .int w31_0, .ref h7, .ref h8, .int gl])), (h6, .inl (cI, 60, .inl pad)), (h7, .inl (cI, 120, .inl tf1)), (h8, .inl (cI, 10, .inl tm1))] := hD
          rcases hw with ⟨rfl, b31⟩ | ⟨rfl, b31⟩
          · have b31 : sp.toInt < gty.toInt ∧ pad sp.toInt.toNat = (47 : Int32) ∧ w31_0.toInt = sp.toInt + 1 := b31
            have hpos : 0 < (tm1 (gl.toInt.toNat - 1)).toInt := hY3.elim (fun q => q.2) (fun q => absurd q.1 d16)
            have hq := SynL_next hk.1.1 hY1 ⟨by omega, hpos⟩ (by omega) b31.2.1 b31.2.2
            have e1 : gl.toInt.toNat - 1 + 1 = gl.toInt.toNat := by omega
            rw [e1] at hq
            refine lv_if_eq (tgt := 45) hx hb dX8_readPad_34 (by decide) (fun c34 => absurd c34 (by decide)) (fun _ => ?_)
            refine lv_aload_n hx hb dX8_readPad_37 rfl (lv_at hl 1 rfl) ?_
            refine xk_Vi (As := []) (rest := []) hx hb hml hown hts hK hN hZ hP hD hS hA mb_X8_readLine mw_3_234 mw_3_236 mw_0_18 (c_X8_readLine l D cI cZ cS h h1 h2 h3 h4 h5 h6 h7 h8 gst gty gse gte w31_0 gl pad tf1 tm1 (by omega) (by omega) (by exact hq)) [0, 1, 2, 3] 0 8 rfl rfl (by decide) rfl (fun _ => by simp only [List.map]) (by decide) (by decide) rfl hl.1 rfl (Nat.le_of_ble_eq_true rfl) dX8_readPad_38 ⟨Nat.zero_le _, Nat.zero_le _⟩ (fun r38 u38 H locs hw hP hD hS => ?_)
            obtain ⟨w38_0, w38_1, w38_2⟩ := u38
            have hP : va_P D vwCl [(h, .inr (8, [.ref h1, .ref h2, .ref h3, .int gst, .ref h4, .ref h5, .ref h6, .int gty, .int gse, .int gte, .int w38_0, .ref h7, .ref h8, .int (gl + 1)])), (h6, .inl (cI, 60, .inl pad)), (h7, .inl (cI, 120, .inl w38_1)), (h8, .inl (cI, 10, .inl w38_2))] H := hP
            have hD : va_D A [(h, .inr (8, [.ref h1, .ref h2, .ref h3, .int gst, .ref h4, .ref h5, .ref h6, .int gty, .int gse, .int gte, .int w38_0, .ref h7, .ref h8, .int (gl + 1)])), (h6, .inl (cI, 60, .inl pad)), (h7, .inl (cI, 120, .inl w38_1)), (h8, .inl (cI, 10, .inl w38_2))] := hD
            have p38 : (0 ≤ w38_0.toInt ∧ w38_0.toInt ≤ gty.toInt) ∧ Syn pad gty.toInt.toNat w38_0.toInt.toNat gl.toInt.toNat w38_1 w38_2 ∧ ((w38_2 gl.toInt.toNat).toInt = 12 ∨ ¬ footS pad gty.toInt.toNat w38_0.toInt.toNat) ∧ ((r38 = 1 ∧ 0 < (w38_2 gl.toInt.toNat).toInt) ∨ (r38 = 0 ∧ (w38_2 gl.toInt.toNat).toInt = 0)) := hw
            refine lv_istore_n (lv' := [(1, .int r38), (0, .ref h)]) hx hb dX8_readPad_41 rfl hl (by decide) rfl (fun ls hl => ?_)
            refine lv_goto (tgt := 15) hx hb dX8_readPad_42 (by decide) ?_
            obtain ⟨k1, k2, k3, k4⟩ := p38
            have hgg : (gl + 1).toInt = gl.toInt + 1 := xi_add rfl (by decide) (by omega) (by omega)
            have hgi : (gl + 1).toInt.toNat - 1 = gl.toInt.toNat := by omega
            exact ih15  w38_0 (gl + 1) w38_1 w38_2 r38 (by exact ⟨k1, by omega, by omega⟩) (by rw [hgi]; exact ⟨k2, k3, k4⟩) (by omega) _ _ hP hD hS ls (lv_sub hl [0, 1] rfl)
          · have b31 : ¬ (sp.toInt < gty.toInt ∧ pad sp.toInt.toNat = (47 : Int32)) ∧ sp = w31_0 := b31
            obtain ⟨a31, q31⟩ := b31
            subst q31
            refine lv_if_eq (tgt := 45) hx hb dX8_readPad_34 (by decide) (fun _ => ?_) (fun c34 => absurd (by decide) c34)
            refine lv_iload_n hx hb dX8_readPad_45 rfl (lv_at hl 0 rfl) ?_
            refine lv_if_eq (tgt := 64) hx hb dX8_readPad_46 (by decide) (fun c46 => ?_) (fun c46 => ?_)
            · have t46 : g.toInt = 0 := xi_eq rfl (by decide) c46
              have d46 : g = 0 := c46
              refine lv_iconst (v := 0) hx hb dX8_readPad_64 (by decide) ?_
              have hzero : (tm1 (gl.toInt.toNat - 1)).toInt = 0 := hY3.elim (fun q => absurd (q.1.symm.trans d46) (by decide)) (fun q => q.2)
              have hfa := Syn_fault0 hY1 hzero (by omega) (hY2.resolve_left (by omega))
              exact xk_retz (sp, gl, tf1, tm1) hx hb hr hlocks (by decide) (xk_P hP (by rfl)) (by (try dsimp only); exact Or.inr ⟨rfl, hfa, hk.1⟩) hS dX8_readPad_65 hQ
            · have t46 : ¬ g.toInt = 0 := xi_ne rfl (by decide) c46
              have d46 : ¬ g = 0 := c46
              refine lv_aload_n hx hb dX8_readPad_49 rfl (lv_at hl 1 rfl) ?_
              refine va_get (D := D) (ci := 8) (v := .int sp) (C := RX8) (T := TX8) (N := 14) hx hb hts xin8 hown hK hP 0 rfl rfl 10 (by decide) (hts _ (List.mem_cons_of_mem _ mw_3_99)) (fun _ h9 => h9) rfl dX8_readPad_50 ?_
              refine lv_aload_n hx hb dX8_readPad_53 rfl (lv_at hl 1 rfl) ?_
              refine va_get (D := D) (ci := 8) (v := .int gty) (C := RX8) (T := TX8) (N := 14) hx hb hts xin8 hown hK hP 0 rfl rfl 7 (by decide) (hts _ (List.mem_cons_of_mem _ mw_3_96)) (fun _ h9 => h9) rfl dX8_readPad_54 ?_
              refine lv_icmp_ne (tgt := 64) hx hb dX8_readPad_57 (by decide) (fun c57 => ?_) (fun c57 => ?_)
              · have t57 : ¬ sp.toInt = gty.toInt := xi_ne rfl rfl c57
                have d57 : ¬ sp = gty := c57
                refine lv_iconst (v := 0) hx hb dX8_readPad_64 (by decide) ?_
                have hpos : 0 < (tm1 (gl.toInt.toNat - 1)).toInt := hY3.elim (fun q => q.2) (fun q => absurd q.1 d46)
                have hfa := Syn_fault1 hY1 hY2 (by omega) (Or.inr (fun hh => a31 ⟨by omega, hh.2⟩))
                exact xk_retz (sp, gl, tf1, tm1) hx hb hr hlocks (by decide) (xk_P hP (by rfl)) (by (try dsimp only); exact Or.inr ⟨rfl, hfa, hk.1⟩) hS dX8_readPad_65 hQ
              · have t57 : sp.toInt = gty.toInt := xi_eq rfl rfl c57
                have d57 : sp = gty := c57
                refine lv_iconst (v := 1) hx hb dX8_readPad_60 (by decide) ?_
                refine lv_goto (tgt := 65) hx hb dX8_readPad_61 (by decide) ?_
                have hg1 : g = 1 := (hY3.elim (fun q => q.1) (fun q => absurd q.1 d46))
                have hpos : 0 < (tm1 (gl.toInt.toNat - 1)).toInt := hY3.elim (fun q => q.2) (fun q => absurd q.1 d46)
                obtain ⟨hfn, hpt⟩ := Syn_end (gl := gl) hY1 hpos (by omega) (by omega)
                exact xk_retz (sp, gl, tf1, tm1) hx hb hr hlocks (by decide) (xk_P hP (by rfl)) (by (try dsimp only); exact Or.inl ⟨rfl, hfn, xi_ext t57, by rw [← t57]; exact hpt⟩) hS dX8_readPad_65 hQ
  have q15 : ([(h, .inr (8, [.ref h1, .ref h2, .ref h3, .int gst, .ref h4, .ref h5, .ref h6, .int gty, .int gse, .int gte, .int w11_0, .ref h7, .ref h8, .int ((0 : Int32) + 1)])), (h6, .inl (cI, 60, .inl pad)), (h7, .inl (cI, 120, .inl w11_1)), (h8, .inl (cI, 10, .inl w11_2))] : va_W) = [(h, .inr (8, [.ref h1, .ref h2, .ref h3, .int gst, .ref h4, .ref h5, .ref h6, .int gty, .int gse, .int gte, .int w11_0, .ref h7, .ref h8, .int (0 + 1)])), (h6, .inl (cI, 60, .inl pad)), (h7, .inl (cI, 120, .inl w11_1)), (h8, .inl (cI, 10, .inl w11_2))] := by rfl
  exact L15 11 w11_0 (0 + 1) w11_1 w11_2 r11 (by exact ⟨k1, by decide⟩) (by exact ⟨k2, k3, k4⟩) (by decide) _ _ (xk_P hP q15) (xk_D hD q15) hS ls (lv_sub hl [0, 1] rfl)

set_option maxHeartbeats 4000000 in
set_option maxRecDepth 100000 in
theorem c_X8_fault2 (l : Launch) (D : va_G) (cI cZ cS : ClassId) (h h1 h2 h3 h4 h5 h6 h7 h8 : Nat) (gst gty gse gte gsp gtl : Int32) (pad tf tm : Nat → Int32)  (hsp : 0 ≤ gty.toInt ∧ gty.toInt ≤ 60) : xMi l yX8_fault cX8_fault 1 (some .int) ({ frames := 4, cells := 0, slots := 0, locals := 86 } : Room) D (xTy cI cZ cS) [.ref h] [(h, .inr (8, [.ref h1, .ref h2, .ref h3, .int gst, .ref h4, .ref h5, .ref h6, .int gty, .int gse, .int gte, .int gsp, .ref h7, .ref h8, .int gtl])), (h6, .inl (cI, 60, .inl pad)), (h7, .inl (cI, 120, .inl tf)), (h8, .inl (cI, 10, .inl tm))] (fun (r : Int32) (u : (Int32) × (Int32) × (Nat → Int32) × (Nat → Int32)) => (FN pad gty.toInt.toNat ∧ r = -6) ∨ (FA pad gty.toInt.toNat r.toInt.toNat ∧ 0 ≤ r.toInt ∧ r.toInt ≤ gty.toInt)) (fun (u : (Int32) × (Int32) × (Nat → Int32) × (Nat → Int32)) => [(h, .inr (8, [.ref h1, .ref h2, .ref h3, .int gst, .ref h4, .ref h5, .ref h6, .int gty, .int gse, .int gte, .int u.1, .ref h7, .ref h8, .int u.2.1])), (h6, .inl (cI, 60, .inl pad)), (h7, .inl (cI, 120, .inl u.2.2.1)), (h8, .inl (cI, 10, .inl u.2.2.2))]) := by
  refine xk_bodyi (by decide) (Nat.le_of_ble_eq_true rfl) ?_
  intro p e s m below meth c A ls args Q hx hb hr hts hown hlocks hml hin hK hP hD hS hA hN hZ hl hQ
  have hl : lv_has ls 1 [(0, .ref h)] := hl
  refine lv_aload_n hx hb dX8_fault_0 rfl (lv_at hl 0 rfl) ?_
  refine xk_Vi (As := []) (rest := []) hx hb hml hown hts hK hN hZ hP hD hS hA mb_X8_readPad mw_3_230 mw_3_232 mw_0_17 (c_X8_readPad2 l D cI cZ cS h h1 h2 h3 h4 h5 h6 h7 h8 gst gty gse gte gsp gtl pad tf tm (by first | omega | decide | assumption)) [0, 1, 2, 3] 0 8 rfl rfl (by decide) rfl (fun _ => by simp only [List.map]) (by decide) (by decide) rfl hl.1 rfl (Nat.le_of_ble_eq_true rfl) dX8_fault_1 ⟨Nat.zero_le _, Nat.zero_le _⟩ (fun r1 u1 H locs hw hP hD hS => ?_)
  obtain ⟨w1_0, w1_1, w1_2, w1_3⟩ := u1
  have hP : va_P D vwCl [(h, .inr (8, [.ref h1, .ref h2, .ref h3, .int gst, .ref h4, .ref h5, .ref h6, .int gty, .int gse, .int gte, .int w1_0, .ref h7, .ref h8, .int w1_1])), (h6, .inl (cI, 60, .inl pad)), (h7, .inl (cI, 120, .inl w1_2)), (h8, .inl (cI, 10, .inl w1_3))] H := hP
  have hD : va_D A [(h, .inr (8, [.ref h1, .ref h2, .ref h3, .int gst, .ref h4, .ref h5, .ref h6, .int gty, .int gse, .int gte, .int w1_0, .ref h7, .ref h8, .int w1_1])), (h6, .inl (cI, 60, .inl pad)), (h7, .inl (cI, 120, .inl w1_2)), (h8, .inl (cI, 10, .inl w1_3))] := hD
  rcases hw with ⟨rfl, b1⟩ | ⟨rfl, b1⟩
  · have b1 : FN pad gty.toInt.toNat ∧ w1_0 = gty ∧ PadT pad gty.toInt.toNat w1_1 w1_2 w1_3 := b1
    refine lv_if_eq (tgt := 12) hx hb dX8_fault_4 (by decide) (fun c4 => absurd c4 (by decide)) (fun _ => ?_)
    refine lv_bipush (v := (-6)) hx hb dX8_fault_7 (by decide) ?_
    refine lv_goto (tgt := 16) hx hb dX8_fault_9 (by decide) ?_
    exact xk_reti (w1_0, w1_1, w1_2, w1_3) hx hb hr hlocks (xk_P hP (by rfl)) (by (try dsimp only); exact Or.inl ⟨b1.1, rfl⟩) hS dX8_fault_16 hQ
  · have b1 : FA pad gty.toInt.toNat w1_0.toInt.toNat ∧ 0 ≤ w1_0.toInt ∧ w1_0.toInt ≤ gty.toInt := b1
    refine lv_if_eq (tgt := 12) hx hb dX8_fault_4 (by decide) (fun _ => ?_) (fun c4 => absurd (by decide) c4)
    refine lv_aload_n hx hb dX8_fault_12 rfl (lv_at hl 0 rfl) ?_
    refine va_get (D := D) (ci := 8) (v := .int w1_0) (C := RX8) (T := TX8) (N := 14) hx hb hts xin8 hown hK hP 0 rfl rfl 10 (by decide) (hts _ (List.mem_cons_of_mem _ mw_3_99)) (fun _ h9 => h9) rfl dX8_fault_13 ?_
    exact xk_reti (w1_0, w1_1, w1_2, w1_3) hx hb hr hlocks (xk_P hP (by rfl)) (by (try dsimp only); exact Or.inr ⟨b1.1, b1.2⟩) hS dX8_fault_16 hQ

set_option maxHeartbeats 4000000 in
set_option maxRecDepth 100000 in
theorem c_X8_read2 (l : Launch) (D : va_G) (cI cZ cS : ClassId) (h h1 h2 h3 h4 h5 h6 h7 h8 : Nat) (gst gty gse gte gsp gtl : Int32) (z past pad tf tm : Nat → Int32)  (hsp : 0 ≤ gty.toInt ∧ gty.toInt ≤ 60) (hg : 0 ≤ gst.toInt ∧ gst.toInt ≤ 6) : xMi l yX8_read cX8_read 3 (some .int) ({ frames := 4, cells := 0, slots := 0, locals := 86 } : Room) D (xTy cI cZ cS) [.ref h] [(h, .inr (8, [.ref h1, .ref h2, .ref h3, .int gst, .ref h4, .ref h5, .ref h6, .int gty, .int gse, .int gte, .int gsp, .ref h7, .ref h8, .int gtl])), (h1, .inl (cI, 190, .inl z)), (h3, .inl (cI, 1140, .inl past)), (h6, .inl (cI, 60, .inl pad)), (h7, .inl (cI, 120, .inl tf)), (h8, .inl (cI, 10, .inl tm))] (fun (r : Int32) (u : (Int32) × (Int32) × (Nat → Int32) × (Nat → Int32) × (Nat → Int32) × (Nat → Int32) × (Int32) × (Int32)) => (¬ FN pad gty.toInt.toNat ∧ r = -3 ∧ u.2.2.2.2.1 = z ∧ u.2.2.2.2.2.1 = past ∧ u.2.2.2.2.2.2.1 = gst ∧ u.2.2.2.2.2.2.2 = gty) ∨ (FN pad gty.toInt.toNat ∧ ReadZ pad gty.toInt.toNat z u.2.2.2.2.1 ∧ u.2.2.2.2.1 6 = r ∧ u.2.2.2.2.2.1 = recP z past gst ∧ u.2.2.2.2.2.2.1 = recS gst ∧ u.2.2.2.2.2.2.2 = 0)) (fun (u : (Int32) × (Int32) × (Nat → Int32) × (Nat → Int32) × (Nat → Int32) × (Nat → Int32) × (Int32) × (Int32)) => [(h, .inr (8, [.ref h1, .ref h2, .ref h3, .int u.2.2.2.2.2.2.1, .ref h4, .ref h5, .ref h6, .int u.2.2.2.2.2.2.2, .int gse, .int gte, .int u.1, .ref h7, .ref h8, .int u.2.1])), (h1, .inl (cI, 190, .inl u.2.2.2.2.1)), (h3, .inl (cI, 1140, .inl u.2.2.2.2.2.1)), (h6, .inl (cI, 60, .inl pad)), (h7, .inl (cI, 120, .inl u.2.2.1)), (h8, .inl (cI, 10, .inl u.2.2.2.1))]) := by
  refine xk_bodyi (by decide) (Nat.le_of_ble_eq_true rfl) ?_
  intro p e s m below meth c A ls args Q hx hb hr hts hown hlocks hml hin hK hP hD hS hA hN hZ hl hQ
  have hl : lv_has ls 3 [(0, .ref h)] := hl
  refine lv_aload_n hx hb dX8_read_0 rfl (lv_at hl 0 rfl) ?_
  refine xk_Vi (As := []) (rest := []) hx hb hml hown hts hK hN hZ hP hD hS hA mb_X8_readPad mw_3_230 mw_3_232 mw_0_17 (c_X8_readPad2 l D cI cZ cS h h1 h2 h3 h4 h5 h6 h7 h8 gst gty gse gte gsp gtl pad tf tm (by first | omega | decide | assumption)) [0, 3, 4, 5] 0 8 rfl rfl (by decide) rfl (fun _ => by simp only [List.map]) (by decide) (by decide) rfl hl.1 rfl (Nat.le_of_ble_eq_true rfl) dX8_read_1 ⟨Nat.zero_le _, Nat.zero_le _⟩ (fun r1 u1 H locs hw hP hD hS => ?_)
  obtain ⟨w1_0, w1_1, w1_2, w1_3⟩ := u1
  have hP : va_P D vwCl [(h, .inr (8, [.ref h1, .ref h2, .ref h3, .int gst, .ref h4, .ref h5, .ref h6, .int gty, .int gse, .int gte, .int w1_0, .ref h7, .ref h8, .int w1_1])), (h1, .inl (cI, 190, .inl z)), (h3, .inl (cI, 1140, .inl past)), (h6, .inl (cI, 60, .inl pad)), (h7, .inl (cI, 120, .inl w1_2)), (h8, .inl (cI, 10, .inl w1_3))] H := hP
  have hD : va_D A [(h, .inr (8, [.ref h1, .ref h2, .ref h3, .int gst, .ref h4, .ref h5, .ref h6, .int gty, .int gse, .int gte, .int w1_0, .ref h7, .ref h8, .int w1_1])), (h1, .inl (cI, 190, .inl z)), (h3, .inl (cI, 1140, .inl past)), (h6, .inl (cI, 60, .inl pad)), (h7, .inl (cI, 120, .inl w1_2)), (h8, .inl (cI, 10, .inl w1_3))] := hD
  rcases hw with ⟨rfl, b1⟩ | ⟨rfl, b1⟩
  · have b1 : FN pad gty.toInt.toNat ∧ w1_0 = gty ∧ PadT pad gty.toInt.toNat w1_1 w1_2 w1_3 := b1
    obtain ⟨hfn, hsy, hpt⟩ := b1
    obtain ⟨hgl, htm⟩ := PadT_in hpt
    refine lv_if_ne (tgt := 10) hx hb dX8_read_4 (by decide) (fun _ => ?_) (fun c4 => absurd c4 (by decide))
    refine lv_aload_n hx hb dX8_read_10 rfl (lv_at hl 0 rfl) ?_
    refine xk_Vv (As := []) (rest := []) hx hb hml hown hts hK hN hZ hP hD hS hA mb_X8_record mw_3_150 mw_3_152 mw_0_6 (c_X8_record l D cI cZ cS h h1 h2 h3 h4 h5 h6 h7 h8 gst gty gse gte w1_0 w1_1 z past (by first | omega | decide | assumption)) [0, 1, 2] 0 8 rfl rfl (by decide) rfl (fun _ => by simp only [List.map]) (by decide) (by decide) rfl hl.1 rfl (Nat.le_of_ble_eq_true rfl) dX8_read_11 ⟨Nat.zero_le _, Nat.zero_le _⟩ (fun _ H locs hw hP hD hS => ?_)
    have hP : va_P D vwCl [(h, .inr (8, [.ref h1, .ref h2, .ref h3, .int (recS gst), .ref h4, .ref h5, .ref h6, .int gty, .int gse, .int gte, .int w1_0, .ref h7, .ref h8, .int w1_1])), (h1, .inl (cI, 190, .inl z)), (h3, .inl (cI, 1140, .inl (recP z past gst))), (h6, .inl (cI, 60, .inl pad)), (h7, .inl (cI, 120, .inl w1_2)), (h8, .inl (cI, 10, .inl w1_3))] H := hP
    have hD : va_D A [(h, .inr (8, [.ref h1, .ref h2, .ref h3, .int (recS gst), .ref h4, .ref h5, .ref h6, .int gty, .int gse, .int gte, .int w1_0, .ref h7, .ref h8, .int w1_1])), (h1, .inl (cI, 190, .inl z)), (h3, .inl (cI, 1140, .inl (recP z past gst))), (h6, .inl (cI, 60, .inl pad)), (h7, .inl (cI, 120, .inl w1_2)), (h8, .inl (cI, 10, .inl w1_3))] := hD
    obtain ⟨g11_2, hg11_2⟩ : ∃ g, g = (recP z past gst) := ⟨_, rfl⟩
    rw [← hg11_2] at hP hD
    have hP : va_P D vwCl [(h, .inr (8, [.ref h1, .ref h2, .ref h3, .int (recS gst), .ref h4, .ref h5, .ref h6, .int gty, .int gse, .int gte, .int w1_0, .ref h7, .ref h8, .int w1_1])), (h1, .inl (cI, 190, .inl z)), (h3, .inl (cI, 1140, .inl g11_2)), (h6, .inl (cI, 60, .inl pad)), (h7, .inl (cI, 120, .inl w1_2)), (h8, .inl (cI, 10, .inl w1_3))] H := hP
    have hD : va_D A [(h, .inr (8, [.ref h1, .ref h2, .ref h3, .int (recS gst), .ref h4, .ref h5, .ref h6, .int gty, .int gse, .int gte, .int w1_0, .ref h7, .ref h8, .int w1_1])), (h1, .inl (cI, 190, .inl z)), (h3, .inl (cI, 1140, .inl g11_2)), (h6, .inl (cI, 60, .inl pad)), (h7, .inl (cI, 120, .inl w1_2)), (h8, .inl (cI, 10, .inl w1_3))] := hD
    refine lv_aload_n hx hb dX8_read_14 rfl (lv_at hl 0 rfl) ?_
    refine va_get (D := D) (ci := 8) (v := .ref h1) (C := RX8) (T := TX8) (N := 14) hx hb hts xin8 hown hK hP 0 rfl rfl 0 (by decide) (hts _ (List.mem_cons_of_mem _ mw_3_89)) (fun _ h9 => h9) rfl dX8_read_15 ?_
    refine lv_bipush (v := 6) hx hb dX8_read_18 (by decide) ?_
    refine lv_aload_n hx hb dX8_read_20 rfl (lv_at hl 0 rfl) ?_
    refine va_get (D := D) (ci := 8) (v := .int w1_1) (C := RX8) (T := TX8) (N := 14) hx hb hts xin8 hown hK hP 0 rfl rfl 13 (by decide) (hts _ (List.mem_cons_of_mem _ mw_3_102)) (fun _ h9 => h9) rfl dX8_read_21 ?_
    refine va_iast hx hb hK hP hD hS 1 0 rfl rfl (xi_in (by decide) (by decide)) dX8_read_24 (fun H locs hP hD hS => ?_)
    have hP : va_P D vwCl [(h, .inr (8, [.ref h1, .ref h2, .ref h3, .int (recS gst), .ref h4, .ref h5, .ref h6, .int gty, .int gse, .int gte, .int w1_0, .ref h7, .ref h8, .int w1_1])), (h1, .inl (cI, 190, .inl (upd z 6 w1_1))), (h3, .inl (cI, 1140, .inl g11_2)), (h6, .inl (cI, 60, .inl pad)), (h7, .inl (cI, 120, .inl w1_2)), (h8, .inl (cI, 10, .inl w1_3))] H := hP
    have hD : va_D A [(h, .inr (8, [.ref h1, .ref h2, .ref h3, .int (recS gst), .ref h4, .ref h5, .ref h6, .int gty, .int gse, .int gte, .int w1_0, .ref h7, .ref h8, .int w1_1])), (h1, .inl (cI, 190, .inl (upd z 6 w1_1))), (h3, .inl (cI, 1140, .inl g11_2)), (h6, .inl (cI, 60, .inl pad)), (h7, .inl (cI, 120, .inl w1_2)), (h8, .inl (cI, 10, .inl w1_3))] := hD
    refine lv_iconst (v := 0) hx hb dX8_read_25 (by decide) ?_
    refine lv_istore_n (lv' := [(1, .int 0), (0, .ref h)]) hx hb dX8_read_26 rfl hl (by decide) rfl (fun ls hl => ?_)
    have L27 : ∀ (n : Nat) (i : Int32) (w : Nat → Int32) (hi : 0 ≤ i.toInt ∧ i.toInt ≤ w1_1.toInt) (hO : RdO w1_2 w1_3 z w w1_1 i.toInt.toNat) (hn27 : (10 - i.toInt).toNat < n) (H : Heap) (locs : List Loc), va_P D vwCl [(h, .inr (8, [.ref h1, .ref h2, .ref h3, .int (recS gst), .ref h4, .ref h5, .ref h6, .int gty, .int gse, .int gte, .int w1_0, .ref h7, .ref h8, .int w1_1])), (h1, .inl (cI, 190, .inl w)), (h3, .inl (cI, 1140, .inl g11_2)), (h6, .inl (cI, 60, .inl pad)), (h7, .inl (cI, 120, .inl w1_2)), (h8, .inl (cI, 10, .inl w1_3))] H → va_D A [(h, .inr (8, [.ref h1, .ref h2, .ref h3, .int (recS gst), .ref h4, .ref h5, .ref h6, .int gty, .int gse, .int gte, .int w1_0, .ref h7, .ref h8, .int w1_1])), (h1, .inl (cI, 190, .inl w)), (h3, .inl (cI, 1140, .inl g11_2)), (h6, .inl (cI, 60, .inl pad)), (h7, .inl (cI, 120, .inl w1_2)), (h8, .inl (cI, 10, .inl w1_3))] → va_S A s.heap H locs → ∀ ls : Array Slot, lv_has ls 3 [(1, .int i), (0, .ref h)] → W p l e ({ frames := 4, cells := 0, slots := 0, locals := 86 } : Room) s m args below meth c H locs 0 0 Q (F0 m 27 ls []) := by
      intro n
      induction n with
      | zero =>
        intro i w hi hO hn27
        exact absurd hn27 (Nat.not_lt_zero _)
      | succ n ih27 =>
        intro i w hi hO hn27 H locs hP hD hS ls hl
        have hmm : ∀ l : Nat, l < i.toInt.toNat → (w1_3 l).toInt ≤ 12 := fun l hl => (htm l (by omega)).2
        refine lv_iload_n hx hb dX8_read_27 rfl (lv_at hl 0 rfl) ?_
        refine lv_aload_n hx hb dX8_read_28 rfl (lv_at hl 1 rfl) ?_
        refine va_get (D := D) (ci := 8) (v := .int w1_1) (C := RX8) (T := TX8) (N := 14) hx hb hts xin8 hown hK hP 0 rfl rfl 13 (by decide) (hts _ (List.mem_cons_of_mem _ mw_3_102)) (fun _ h9 => h9) rfl dX8_read_29 ?_
        refine lv_icmp_ge (tgt := 99) hx hb dX8_read_32 (by decide) (fun c32 => ?_) (fun c32 => ?_)
        · have t32 : w1_1.toInt ≤ i.toInt := xi_le rfl rfl c32
          refine lv_aload_n hx hb dX8_read_99 rfl (lv_at hl 1 rfl) ?_
          refine lv_iconst (v := 0) hx hb dX8_read_100 (by decide) ?_
          refine va_put (D := D) (ci := 8) (v := .int 0) (ty := .int) (C := RX8) (T := TX8) (N := 14) hx hb hts xin8 tyX8 tyX8_ok nmX8 hown hK hP hD hS 0 rfl rfl 7 (by decide) (hts _ (List.mem_cons_of_mem _ mw_3_96)) (fun _ h9 => h9) rfl (by decide +kernel) rfl rfl (Nat.le_of_ble_eq_true rfl) dX8_read_101 (fun H locs hP hD hS => ?_)
          have hP : va_P D vwCl [(h, .inr (8, [.ref h1, .ref h2, .ref h3, .int (recS gst), .ref h4, .ref h5, .ref h6, .int 0, .int gse, .int gte, .int w1_0, .ref h7, .ref h8, .int w1_1])), (h1, .inl (cI, 190, .inl w)), (h3, .inl (cI, 1140, .inl g11_2)), (h6, .inl (cI, 60, .inl pad)), (h7, .inl (cI, 120, .inl w1_2)), (h8, .inl (cI, 10, .inl w1_3))] H := hP
          have hD : va_D A [(h, .inr (8, [.ref h1, .ref h2, .ref h3, .int (recS gst), .ref h4, .ref h5, .ref h6, .int 0, .int gse, .int gte, .int w1_0, .ref h7, .ref h8, .int w1_1])), (h1, .inl (cI, 190, .inl w)), (h3, .inl (cI, 1140, .inl g11_2)), (h6, .inl (cI, 60, .inl pad)), (h7, .inl (cI, 120, .inl w1_2)), (h8, .inl (cI, 10, .inl w1_3))] := hD
          refine lv_aload_n hx hb dX8_read_104 rfl (lv_at hl 1 rfl) ?_
          refine xk_Vv (As := []) (rest := []) hx hb hml hown hts hK hN hZ hP hD hS hA mb_X8_beginNow mw_3_85 mw_3_87 mw_0_5 (c_X8_beginNow l D cI cZ cS h h1 h2 h3 h4 h5 h6 h7 h8 (recS gst) (0 : Int32) gse gte w1_0 w1_1 w ) [0, 1] 0 8 rfl rfl (by decide) rfl (fun _ => by simp only [List.map]) (by decide) (by decide) rfl hl.1 rfl (Nat.le_of_ble_eq_true rfl) dX8_read_105 ⟨Nat.zero_le _, Nat.zero_le _⟩ (fun _ H locs hw hP hD hS => ?_)
          have hP : va_P D vwCl [(h, .inr (8, [.ref h1, .ref h2, .ref h3, .int (recS gst), .ref h4, .ref h5, .ref h6, .int 0, .int gse, .int gte, .int w1_0, .ref h7, .ref h8, .int w1_1])), (h1, .inl (cI, 190, .inl (beginZ w))), (h3, .inl (cI, 1140, .inl g11_2)), (h6, .inl (cI, 60, .inl pad)), (h7, .inl (cI, 120, .inl w1_2)), (h8, .inl (cI, 10, .inl w1_3))] H := hP
          have hD : va_D A [(h, .inr (8, [.ref h1, .ref h2, .ref h3, .int (recS gst), .ref h4, .ref h5, .ref h6, .int 0, .int gse, .int gte, .int w1_0, .ref h7, .ref h8, .int w1_1])), (h1, .inl (cI, 190, .inl (beginZ w))), (h3, .inl (cI, 1140, .inl g11_2)), (h6, .inl (cI, 60, .inl pad)), (h7, .inl (cI, 120, .inl w1_2)), (h8, .inl (cI, 10, .inl w1_3))] := hD
          obtain ⟨g105_1, hg105_1⟩ : ∃ g, g = (beginZ w) := ⟨_, rfl⟩
          rw [← hg105_1] at hP hD
          have hP : va_P D vwCl [(h, .inr (8, [.ref h1, .ref h2, .ref h3, .int (recS gst), .ref h4, .ref h5, .ref h6, .int 0, .int gse, .int gte, .int w1_0, .ref h7, .ref h8, .int w1_1])), (h1, .inl (cI, 190, .inl g105_1)), (h3, .inl (cI, 1140, .inl g11_2)), (h6, .inl (cI, 60, .inl pad)), (h7, .inl (cI, 120, .inl w1_2)), (h8, .inl (cI, 10, .inl w1_3))] H := hP
          have hD : va_D A [(h, .inr (8, [.ref h1, .ref h2, .ref h3, .int (recS gst), .ref h4, .ref h5, .ref h6, .int 0, .int gse, .int gte, .int w1_0, .ref h7, .ref h8, .int w1_1])), (h1, .inl (cI, 190, .inl g105_1)), (h3, .inl (cI, 1140, .inl g11_2)), (h6, .inl (cI, 60, .inl pad)), (h7, .inl (cI, 120, .inl w1_2)), (h8, .inl (cI, 10, .inl w1_3))] := hD
          refine lv_aload_n hx hb dX8_read_108 rfl (lv_at hl 1 rfl) ?_
          refine va_get (D := D) (ci := 8) (v := .int w1_1) (C := RX8) (T := TX8) (N := 14) hx hb hts xin8 hown hK hP 0 rfl rfl 13 (by decide) (hts _ (List.mem_cons_of_mem _ mw_3_102)) (fun _ h9 => h9) rfl dX8_read_109 ?_
          rw [show i.toInt.toNat = w1_1.toInt.toNat from by omega] at hO
          have hrz : ReadZ pad gty.toInt.toNat z g105_1 := by rw [hg105_1]; exact ReadZ_of hpt hO
          exact xk_reti (w1_0, w1_1, w1_2, w1_3, g105_1, g11_2, (recS gst), (0 : Int32)) hx hb hr hlocks (xk_P hP (by rfl)) (by (try dsimp only); exact Or.inr ⟨hfn, hrz, by rw [hg105_1, beginZ_lo _ (by omega)]; exact hO.1, hg11_2, rfl, rfl⟩) hS dX8_read_112 hQ
        · have t32 : i.toInt < w1_1.toInt := xi_nle rfl rfl c32
          refine lv_aload_n hx hb dX8_read_35 rfl (lv_at hl 1 rfl) ?_
          refine va_get (D := D) (ci := 8) (v := .ref h1) (C := RX8) (T := TX8) (N := 14) hx hb hts xin8 hown hK hP 0 rfl rfl 0 (by decide) (hts _ (List.mem_cons_of_mem _ mw_3_89)) (fun _ h9 => h9) rfl dX8_read_36 ?_
          refine lv_bipush (v := 8) hx hb dX8_read_39 (by decide) ?_
          refine lv_iload_n hx hb dX8_read_41 rfl (lv_at hl 0 rfl) ?_
          refine lv_iadd hx hb dX8_read_42 ?_
          refine lv_topi (fun x42 e42 => ?_)
          have t42 : x42.toInt = 8 + i.toInt := by rw [e42]; exact xi_add (by decide) rfl (by omega) (by omega)
          refine lv_aload_n hx hb dX8_read_43 rfl (lv_at hl 1 rfl) ?_
          refine va_get (D := D) (ci := 8) (v := .ref h8) (C := RX8) (T := TX8) (N := 14) hx hb hts xin8 hown hK hP 0 rfl rfl 12 (by decide) (hts _ (List.mem_cons_of_mem _ mw_3_101)) (fun _ h9 => h9) rfl dX8_read_44 ?_
          refine lv_iload_n hx hb dX8_read_47 rfl (lv_at hl 0 rfl) ?_
          refine va_iald hx hb hK hP 5 0 rfl rfl (xi_in (by omega) (by omega)) dX8_read_48 ?_
          refine xk_top (z := w1_3 i.toInt.toNat) (xk_rd (by omega)) ?_
          refine lv_topi (fun x48 e48 => ?_)
          refine va_iast hx hb hK hP hD hS 1 0 rfl rfl (xi_in (by omega) (by omega)) dX8_read_49 (fun H locs hP hD hS => ?_)
          rw [show x42.toNatClampNeg = 8 + i.toInt.toNat from xk_ix (by omega)] at hP hD
          have hP : va_P D vwCl [(h, .inr (8, [.ref h1, .ref h2, .ref h3, .int (recS gst), .ref h4, .ref h5, .ref h6, .int gty, .int gse, .int gte, .int w1_0, .ref h7, .ref h8, .int w1_1])), (h1, .inl (cI, 190, .inl (upd w (8 + i.toInt.toNat) x48))), (h3, .inl (cI, 1140, .inl g11_2)), (h6, .inl (cI, 60, .inl pad)), (h7, .inl (cI, 120, .inl w1_2)), (h8, .inl (cI, 10, .inl w1_3))] H := hP
          have hD : va_D A [(h, .inr (8, [.ref h1, .ref h2, .ref h3, .int (recS gst), .ref h4, .ref h5, .ref h6, .int gty, .int gse, .int gte, .int w1_0, .ref h7, .ref h8, .int w1_1])), (h1, .inl (cI, 190, .inl (upd w (8 + i.toInt.toNat) x48))), (h3, .inl (cI, 1140, .inl g11_2)), (h6, .inl (cI, 60, .inl pad)), (h7, .inl (cI, 120, .inl w1_2)), (h8, .inl (cI, 10, .inl w1_3))] := hD
          refine lv_iconst (v := 0) hx hb dX8_read_50 (by decide) ?_
          refine lv_istore_n (lv' := [(2, .int 0), (1, .int i), (0, .ref h)]) hx hb dX8_read_51 rfl hl (by decide) rfl (fun ls hl => ?_)
          have h0 := RdN_0 (by omega) hmm hO
          have htmi := htm i.toInt.toNat (by omega)
          have L52 : ∀ (n : Nat) (j : Int32) (v : Nat → Int32) (hj : 0 ≤ j.toInt ∧ j.toInt ≤ (w1_3 i.toInt.toNat).toInt) (hO2 : RdO w1_2 w1_3 z v w1_1 i.toInt.toNat) (hM : RdN w1_2 w1_3 v i.toInt.toNat j.toInt.toNat) (hn52 : (12 - j.toInt).toNat < n) (H : Heap) (locs : List Loc), va_P D vwCl [(h, .inr (8, [.ref h1, .ref h2, .ref h3, .int (recS gst), .ref h4, .ref h5, .ref h6, .int gty, .int gse, .int gte, .int w1_0, .ref h7, .ref h8, .int w1_1])), (h1, .inl (cI, 190, .inl v)), (h3, .inl (cI, 1140, .inl g11_2)), (h6, .inl (cI, 60, .inl pad)), (h7, .inl (cI, 120, .inl w1_2)), (h8, .inl (cI, 10, .inl w1_3))] H → va_D A [(h, .inr (8, [.ref h1, .ref h2, .ref h3, .int (recS gst), .ref h4, .ref h5, .ref h6, .int gty, .int gse, .int gte, .int w1_0, .ref h7, .ref h8, .int w1_1])), (h1, .inl (cI, 190, .inl v)), (h3, .inl (cI, 1140, .inl g11_2)), (h6, .inl (cI, 60, .inl pad)), (h7, .inl (cI, 120, .inl w1_2)), (h8, .inl (cI, 10, .inl w1_3))] → va_S A s.heap H locs → ∀ ls : Array Slot, lv_has ls 3 [(2, .int j), (1, .int i), (0, .ref h)] → W p l e ({ frames := 4, cells := 0, slots := 0, locals := 86 } : Room) s m args below meth c H locs 0 0 Q (F0 m 52 ls []) := by
            intro n
            induction n with
            | zero =>
              intro j v hj hO2 hM hn52
              exact absurd hn52 (Nat.not_lt_zero _)
            | succ n ih52 =>
              intro j v hj hO2 hM hn52 H locs hP hD hS ls hl
              refine lv_iload_n hx hb dX8_read_52 rfl (lv_at hl 0 rfl) ?_
              refine lv_aload_n hx hb dX8_read_53 rfl (lv_at hl 2 rfl) ?_
              refine va_get (D := D) (ci := 8) (v := .ref h8) (C := RX8) (T := TX8) (N := 14) hx hb hts xin8 hown hK hP 0 rfl rfl 12 (by decide) (hts _ (List.mem_cons_of_mem _ mw_3_101)) (fun _ h9 => h9) rfl dX8_read_54 ?_
              refine lv_iload_n hx hb dX8_read_57 rfl (lv_at hl 1 rfl) ?_
              refine va_iald hx hb hK hP 5 0 rfl rfl (xi_in (by omega) (by omega)) dX8_read_58 ?_
              refine xk_top (z := w1_3 i.toInt.toNat) (xk_rd (by omega)) ?_
              refine lv_topi (fun x58 e58 => ?_)
              have t58 : x58.toInt = (w1_3 i.toInt.toNat).toInt := by rw [e58]
              refine lv_icmp_ge (tgt := 93) hx hb dX8_read_59 (by decide) (fun c59 => ?_) (fun c59 => ?_)
              · have t59 : x58.toInt ≤ j.toInt := xi_le rfl rfl c59
                obtain ⟨x93, e93⟩ : ∃ y : Int32, y = i + 1 := ⟨_, rfl⟩
                have t93 : x93.toInt = i.toInt + 1 := by rw [e93]; exact xi_add rfl (by decide) (by omega) (by omega)
                refine lv_iinc (v := x93) (lv' := [(1, .int x93), (2, .int j), (0, .ref h)]) hx hb dX8_read_93 hl (k := 1) rfl (by rw [e93]; rfl) (by decide) rfl (fun ls hl => ?_)
                refine lv_goto (tgt := 27) hx hb dX8_read_96 (by decide) ?_
                exact ih27  x93 v (by omega) (by rw [show x93.toInt.toNat = i.toInt.toNat + 1 from by omega]; exact RdO_s (by rw [e58] at t59; omega) hO2 hM) (by omega) _ _ hP hD hS ls (lv_sub hl [0, 2] rfl)
              · have t59 : j.toInt < x58.toInt := xi_nle rfl rfl c59
                refine lv_aload_n hx hb dX8_read_62 rfl (lv_at hl 2 rfl) ?_
                refine va_get (D := D) (ci := 8) (v := .ref h1) (C := RX8) (T := TX8) (N := 14) hx hb hts xin8 hown hK hP 0 rfl rfl 0 (by decide) (hts _ (List.mem_cons_of_mem _ mw_3_89)) (fun _ h9 => h9) rfl dX8_read_63 ?_
                refine lv_bipush (v := 18) hx hb dX8_read_66 (by decide) ?_
                refine lv_bipush (v := 12) hx hb dX8_read_68 (by decide) ?_
                refine lv_iload_n hx hb dX8_read_70 rfl (lv_at hl 1 rfl) ?_
                refine lv_imul hx hb dX8_read_71 ?_
                refine lv_topi (fun x71 e71 => ?_)
                have t71 : x71.toInt = 12 * i.toInt := by rw [e71]; exact xi_mul (by decide) rfl (by omega) (by omega)
                refine lv_iadd hx hb dX8_read_72 ?_
                refine lv_topi (fun x72 e72 => ?_)
                have t72 : x72.toInt = 18 + x71.toInt := by rw [e72]; exact xi_add (by decide) rfl (by omega) (by omega)
                refine lv_iload_n hx hb dX8_read_73 rfl (lv_at hl 0 rfl) ?_
                refine lv_iadd hx hb dX8_read_74 ?_
                refine lv_topi (fun x74 e74 => ?_)
                have t74 : x74.toInt = x72.toInt + j.toInt := by rw [e74]; exact xi_add rfl rfl (by omega) (by omega)
                refine lv_aload_n hx hb dX8_read_75 rfl (lv_at hl 2 rfl) ?_
                refine va_get (D := D) (ci := 8) (v := .ref h7) (C := RX8) (T := TX8) (N := 14) hx hb hts xin8 hown hK hP 0 rfl rfl 11 (by decide) (hts _ (List.mem_cons_of_mem _ mw_3_100)) (fun _ h9 => h9) rfl dX8_read_76 ?_
                refine lv_bipush (v := 12) hx hb dX8_read_79 (by decide) ?_
                refine lv_iload_n hx hb dX8_read_81 rfl (lv_at hl 1 rfl) ?_
                refine lv_imul hx hb dX8_read_82 ?_
                refine lv_topi (fun x82 e82 => ?_)
                have t82 : x82.toInt = 12 * i.toInt := by rw [e82]; exact xi_mul (by decide) rfl (by omega) (by omega)
                refine lv_iload_n hx hb dX8_read_83 rfl (lv_at hl 0 rfl) ?_
                refine lv_iadd hx hb dX8_read_84 ?_
                refine lv_topi (fun x84 e84 => ?_)
                have t84 : x84.toInt = x82.toInt + j.toInt := by rw [e84]; exact xi_add rfl rfl (by omega) (by omega)
                refine va_iald hx hb hK hP 4 0 rfl rfl (xi_in (by omega) (by omega)) dX8_read_85 ?_
                refine xk_top (z := w1_2 (12 * i.toInt.toNat + j.toInt.toNat)) (xk_rd (by omega)) ?_
                refine lv_topi (fun x85 e85 => ?_)
                refine va_iast hx hb hK hP hD hS 1 0 rfl rfl (xi_in (by omega) (by omega)) dX8_read_86 (fun H locs hP hD hS => ?_)
                rw [show x74.toNatClampNeg = 12 * i.toInt.toNat + j.toInt.toNat + 18 from xk_ix (by omega)] at hP hD
                have hP : va_P D vwCl [(h, .inr (8, [.ref h1, .ref h2, .ref h3, .int (recS gst), .ref h4, .ref h5, .ref h6, .int gty, .int gse, .int gte, .int w1_0, .ref h7, .ref h8, .int w1_1])), (h1, .inl (cI, 190, .inl (upd v (12 * i.toInt.toNat + j.toInt.toNat + 18) x85))), (h3, .inl (cI, 1140, .inl g11_2)), (h6, .inl (cI, 60, .inl pad)), (h7, .inl (cI, 120, .inl w1_2)), (h8, .inl (cI, 10, .inl w1_3))] H := hP
                have hD : va_D A [(h, .inr (8, [.ref h1, .ref h2, .ref h3, .int (recS gst), .ref h4, .ref h5, .ref h6, .int gty, .int gse, .int gte, .int w1_0, .ref h7, .ref h8, .int w1_1])), (h1, .inl (cI, 190, .inl (upd v (12 * i.toInt.toNat + j.toInt.toNat + 18) x85))), (h3, .inl (cI, 1140, .inl g11_2)), (h6, .inl (cI, 60, .inl pad)), (h7, .inl (cI, 120, .inl w1_2)), (h8, .inl (cI, 10, .inl w1_3))] := hD
                obtain ⟨x87, e87⟩ : ∃ y : Int32, y = j + 1 := ⟨_, rfl⟩
                have t87 : x87.toInt = j.toInt + 1 := by rw [e87]; exact xi_add rfl (by decide) (by omega) (by omega)
                refine lv_iinc (v := x87) (lv' := [(2, .int x87), (1, .int i), (0, .ref h)]) hx hb dX8_read_87 hl (k := 0) rfl (by rw [e87]; rfl) (by decide) rfl (fun ls hl => ?_)
                refine lv_goto (tgt := 52) hx hb dX8_read_90 (by decide) ?_
                have h58 : x58.toInt = (w1_3 i.toInt.toNat).toInt := by rw [e58]
                have h1 := RdN_s (by omega) (by omega) hmm hO2 hM
                rw [← e85] at h1
                exact ih52  x87 (upd v (12 * i.toInt.toNat + j.toInt.toNat + 18) x85) (by omega) (by exact h1.1) (by rw [show x87.toInt.toNat = j.toInt.toNat + 1 from by omega]; exact h1.2) (by omega) _ _ hP hD hS ls (lv_sub hl [0, 1, 2] rfl)
          have q52 : ([(h, .inr (8, [.ref h1, .ref h2, .ref h3, .int (recS gst), .ref h4, .ref h5, .ref h6, .int gty, .int gse, .int gte, .int w1_0, .ref h7, .ref h8, .int w1_1])), (h1, .inl (cI, 190, .inl (upd w (8 + i.toInt.toNat) x48))), (h3, .inl (cI, 1140, .inl g11_2)), (h6, .inl (cI, 60, .inl pad)), (h7, .inl (cI, 120, .inl w1_2)), (h8, .inl (cI, 10, .inl w1_3))] : va_W) = [(h, .inr (8, [.ref h1, .ref h2, .ref h3, .int (recS gst), .ref h4, .ref h5, .ref h6, .int gty, .int gse, .int gte, .int w1_0, .ref h7, .ref h8, .int w1_1])), (h1, .inl (cI, 190, .inl (upd w (8 + i.toInt.toNat) (w1_3 i.toInt.toNat)))), (h3, .inl (cI, 1140, .inl g11_2)), (h6, .inl (cI, 60, .inl pad)), (h7, .inl (cI, 120, .inl w1_2)), (h8, .inl (cI, 10, .inl w1_3))] := by rw [e48]
          exact L52 13 (0 : Int32) (upd w (8 + i.toInt.toNat) (w1_3 i.toInt.toNat)) (by rw [show (0 : Int32).toInt = 0 from by decide]; omega) (by exact h0.1) (by exact h0.2) (by decide) _ _ (xk_P hP q52) (xk_D hD q52) hS ls (lv_sub hl [0, 1, 2] rfl)
    exact L27 11 (0 : Int32) (upd z 6 w1_1) (by rw [show (0 : Int32).toInt = 0 from by decide]; omega) (by exact RdO_0 _ _ _ _) (by decide) _ _ hP hD hS ls (lv_sub hl [0, 1] rfl)
  · have b1 : FA pad gty.toInt.toNat w1_0.toInt.toNat ∧ 0 ≤ w1_0.toInt ∧ w1_0.toInt ≤ gty.toInt := b1
    obtain ⟨hfa, -⟩ := b1
    refine lv_if_ne (tgt := 10) hx hb dX8_read_4 (by decide) (fun c4 => absurd (by decide) c4) (fun _ => ?_)
    refine lv_bipush (v := (-3)) hx hb dX8_read_7 (by decide) ?_
    exact xk_reti (w1_0, w1_1, w1_2, w1_3, z, past, gst, gty) hx hb hr hlocks (xk_P hP (by rfl)) (by (try dsimp only); exact Or.inl ⟨FA_FN hfa, rfl, rfl, rfl, rfl, rfl⟩) hS dX8_read_9 hQ
