set_option maxHeartbeats 4000000 in
set_option maxRecDepth 100000 in
theorem c_X8_takes (l : Launch) (D : va_G) (cI cZ cS : ClassId) (h h1 h2 h3 h4 h5 h6 h7 h8 : Nat) (gst gty gse gte gsp gtl : Int32) (pad : Nat → Int32) (p1 : Int32) (hsp : 0 ≤ gsp.toInt ∧ gsp.toInt ≤ gty.toInt ∧ gty.toInt ≤ 60) : xMi l yX8_takes cX8_takes 3 (some .boolean) ({ frames := 0, cells := 0, slots := 0, locals := 0 } : Room) D (xTy cI cZ cS) [.ref h, .int p1] [(h, .inr (8, [.ref h1, .ref h2, .ref h3, .int gst, .ref h4, .ref h5, .ref h6, .int gty, .int gse, .int gte, .int gsp, .ref h7, .ref h8, .int gtl])), (h6, .inl (cI, 60, .inl pad))] (fun (r : Int32) (u : (Int32)) => ((r = 1 ∧ (gsp.toInt < gty.toInt ∧ pad gsp.toInt.toNat = p1 ∧ u.toInt = gsp.toInt + 1)) ∨ (r = 0 ∧ (¬ (gsp.toInt < gty.toInt ∧ pad gsp.toInt.toNat = p1) ∧ gsp = u)))) (fun (u : (Int32)) => [(h, .inr (8, [.ref h1, .ref h2, .ref h3, .int gst, .ref h4, .ref h5, .ref h6, .int gty, .int gse, .int gte, .int u, .ref h7, .ref h8, .int gtl])), (h6, .inl (cI, 60, .inl pad))]) := by
  refine xk_bodyi (by decide) (Nat.le_of_ble_eq_true rfl) ?_
  intro p e s m below meth c A ls args Q hx hb hr hts hown hlocks hml hin hK hP hD hS hA hN hZ hl hQ
  have hl : lv_has ls 3 [(0, .ref h), (1, .int p1)] := hl
  refine lv_aload_n hx hb dX8_takes_0 rfl (lv_at hl 0 rfl) ?_
  refine va_get (D := D) (ci := 8) (v := .int gsp) (C := RX8) (T := TX8) (N := 14) hx hb hts xin8 hown hK hP 0 rfl rfl 10 (by decide) (hts _ (List.mem_cons_of_mem _ mw_3_99)) (fun _ h9 => h9) rfl dX8_takes_1 ?_
  refine lv_aload_n hx hb dX8_takes_4 rfl (lv_at hl 0 rfl) ?_
  refine va_get (D := D) (ci := 8) (v := .int gty) (C := RX8) (T := TX8) (N := 14) hx hb hts xin8 hown hK hP 0 rfl rfl 7 (by decide) (hts _ (List.mem_cons_of_mem _ mw_3_96)) (fun _ h9 => h9) rfl dX8_takes_5 ?_
  refine lv_icmp_ge (tgt := 28) hx hb dX8_takes_8 (by decide) (fun c8 => ?_) (fun c8 => ?_)
  · have t8 : gty.toInt ≤ gsp.toInt := xi_le rfl rfl c8
    refine lv_iconst (v := 0) hx hb dX8_takes_28 (by decide) ?_
    refine lv_istore_n (lv' := [(2, .int 0), (0, .ref h), (1, .int p1)]) hx hb dX8_takes_29 rfl hl (by decide) rfl (fun ls hl => ?_)
    refine lv_aload_n hx hb dX8_takes_30 rfl (lv_at hl 1 rfl) ?_
    refine lv_dup hx hb dX8_takes_31 rfl ?_
    refine va_get (D := D) (ci := 8) (v := .int gsp) (C := RX8) (T := TX8) (N := 14) hx hb hts xin8 hown hK hP 0 rfl rfl 10 (by decide) (hts _ (List.mem_cons_of_mem _ mw_3_99)) (fun _ h9 => h9) rfl dX8_takes_32 ?_
    refine lv_iload_n hx hb dX8_takes_35 rfl (lv_at hl 0 rfl) ?_
    refine lv_if_eq (tgt := 43) hx hb dX8_takes_36 (by decide) (fun _ => ?_) (fun c36 => absurd (by decide) c36)
    refine lv_iconst (v := 0) hx hb dX8_takes_43 (by decide) ?_
    refine lv_iadd hx hb dX8_takes_44 ?_
    refine lv_topi (fun x44 e44 => ?_)
    have t44 : x44.toInt = gsp.toInt + 0 := by rw [e44]; exact xi_add rfl (by decide) (by omega) (by omega)
    refine va_put (D := D) (ci := 8) (v := .int x44) (ty := .int) (C := RX8) (T := TX8) (N := 14) hx hb hts xin8 tyX8 tyX8_ok nmX8 hown hK hP hD hS 0 rfl rfl 10 (by decide) (hts _ (List.mem_cons_of_mem _ mw_3_99)) (fun _ h9 => h9) rfl (by decide +kernel) rfl rfl (Nat.le_of_ble_eq_true rfl) dX8_takes_45 (fun H locs hP hD hS => ?_)
    have hP : va_P D vwCl [(h, .inr (8, [.ref h1, .ref h2, .ref h3, .int gst, .ref h4, .ref h5, .ref h6, .int gty, .int gse, .int gte, .int x44, .ref h7, .ref h8, .int gtl])), (h6, .inl (cI, 60, .inl pad))] H := hP
    have hD : va_D A [(h, .inr (8, [.ref h1, .ref h2, .ref h3, .int gst, .ref h4, .ref h5, .ref h6, .int gty, .int gse, .int gte, .int x44, .ref h7, .ref h8, .int gtl])), (h6, .inl (cI, 60, .inl pad))] := hD
    refine lv_iload_n hx hb dX8_takes_48 rfl (lv_at hl 0 rfl) ?_
    exact xk_retz x44 hx hb hr hlocks (by decide) (xk_P hP (by rfl)) (by exact Or.inr ⟨rfl, fun hh => by omega, (by rw [e44]; exact (Int32.add_zero gsp).symm)⟩) hS dX8_takes_49 hQ
  · have t8 : gsp.toInt < gty.toInt := xi_nle rfl rfl c8
    refine lv_aload_n hx hb dX8_takes_11 rfl (lv_at hl 0 rfl) ?_
    refine va_get (D := D) (ci := 8) (v := .ref h6) (C := RX8) (T := TX8) (N := 14) hx hb hts xin8 hown hK hP 0 rfl rfl 6 (by decide) (hts _ (List.mem_cons_of_mem _ mw_3_95)) (fun _ h9 => h9) rfl dX8_takes_12 ?_
    refine lv_aload_n hx hb dX8_takes_15 rfl (lv_at hl 0 rfl) ?_
    refine va_get (D := D) (ci := 8) (v := .int gsp) (C := RX8) (T := TX8) (N := 14) hx hb hts xin8 hown hK hP 0 rfl rfl 10 (by decide) (hts _ (List.mem_cons_of_mem _ mw_3_99)) (fun _ h9 => h9) rfl dX8_takes_16 ?_
    refine va_iald hx hb hK hP 1 0 rfl rfl (xi_in (by omega) (by omega)) dX8_takes_19 ?_
    refine xk_top (z := pad gsp.toInt.toNat) rfl ?_
    refine lv_topi (fun x19 e19 => ?_)
    refine lv_iload_n hx hb dX8_takes_20 rfl (lv_at hl 1 rfl) ?_
    refine lv_icmp_ne (tgt := 28) hx hb dX8_takes_21 (by decide) (fun c21 => ?_) (fun c21 => ?_)
    · have t21 : ¬ x19.toInt = p1.toInt := xi_ne rfl rfl c21
      have d21 : ¬ x19 = p1 := c21
      refine lv_iconst (v := 0) hx hb dX8_takes_28 (by decide) ?_
      refine lv_istore_n (lv' := [(2, .int 0), (0, .ref h), (1, .int p1)]) hx hb dX8_takes_29 rfl hl (by decide) rfl (fun ls hl => ?_)
      refine lv_aload_n hx hb dX8_takes_30 rfl (lv_at hl 1 rfl) ?_
      refine lv_dup hx hb dX8_takes_31 rfl ?_
      refine va_get (D := D) (ci := 8) (v := .int gsp) (C := RX8) (T := TX8) (N := 14) hx hb hts xin8 hown hK hP 0 rfl rfl 10 (by decide) (hts _ (List.mem_cons_of_mem _ mw_3_99)) (fun _ h9 => h9) rfl dX8_takes_32 ?_
      refine lv_iload_n hx hb dX8_takes_35 rfl (lv_at hl 0 rfl) ?_
      refine lv_if_eq (tgt := 43) hx hb dX8_takes_36 (by decide) (fun _ => ?_) (fun c36 => absurd (by decide) c36)
      refine lv_iconst (v := 0) hx hb dX8_takes_43 (by decide) ?_
      refine lv_iadd hx hb dX8_takes_44 ?_
      refine lv_topi (fun x44 e44 => ?_)
      have t44 : x44.toInt = gsp.toInt + 0 := by rw [e44]; exact xi_add rfl (by decide) (by omega) (by omega)
      refine va_put (D := D) (ci := 8) (v := .int x44) (ty := .int) (C := RX8) (T := TX8) (N := 14) hx hb hts xin8 tyX8 tyX8_ok nmX8 hown hK hP hD hS 0 rfl rfl 10 (by decide) (hts _ (List.mem_cons_of_mem _ mw_3_99)) (fun _ h9 => h9) rfl (by decide +kernel) rfl rfl (Nat.le_of_ble_eq_true rfl) dX8_takes_45 (fun H locs hP hD hS => ?_)
      have hP : va_P D vwCl [(h, .inr (8, [.ref h1, .ref h2, .ref h3, .int gst, .ref h4, .ref h5, .ref h6, .int gty, .int gse, .int gte, .int x44, .ref h7, .ref h8, .int gtl])), (h6, .inl (cI, 60, .inl pad))] H := hP
      have hD : va_D A [(h, .inr (8, [.ref h1, .ref h2, .ref h3, .int gst, .ref h4, .ref h5, .ref h6, .int gty, .int gse, .int gte, .int x44, .ref h7, .ref h8, .int gtl])), (h6, .inl (cI, 60, .inl pad))] := hD
      refine lv_iload_n hx hb dX8_takes_48 rfl (lv_at hl 0 rfl) ?_
      exact xk_retz x44 hx hb hr hlocks (by decide) (xk_P hP (by rfl)) (by exact Or.inr ⟨rfl, fun hh => d21 (by rw [e19]; exact hh.2), (by rw [e44]; exact (Int32.add_zero gsp).symm)⟩) hS dX8_takes_49 hQ
    · have t21 : x19.toInt = p1.toInt := xi_eq rfl rfl c21
      have d21 : x19 = p1 := c21
      refine lv_iconst (v := 1) hx hb dX8_takes_24 (by decide) ?_
      refine lv_goto (tgt := 29) hx hb dX8_takes_25 (by decide) ?_
      refine lv_istore_n (lv' := [(2, .int 1), (0, .ref h), (1, .int p1)]) hx hb dX8_takes_29 rfl hl (by decide) rfl (fun ls hl => ?_)
      refine lv_aload_n hx hb dX8_takes_30 rfl (lv_at hl 1 rfl) ?_
      refine lv_dup hx hb dX8_takes_31 rfl ?_
      refine va_get (D := D) (ci := 8) (v := .int gsp) (C := RX8) (T := TX8) (N := 14) hx hb hts xin8 hown hK hP 0 rfl rfl 10 (by decide) (hts _ (List.mem_cons_of_mem _ mw_3_99)) (fun _ h9 => h9) rfl dX8_takes_32 ?_
      refine lv_iload_n hx hb dX8_takes_35 rfl (lv_at hl 0 rfl) ?_
      refine lv_if_eq (tgt := 43) hx hb dX8_takes_36 (by decide) (fun c36 => absurd c36 (by decide)) (fun _ => ?_)
      refine lv_iconst (v := 1) hx hb dX8_takes_39 (by decide) ?_
      refine lv_goto (tgt := 44) hx hb dX8_takes_40 (by decide) ?_
      refine lv_iadd hx hb dX8_takes_44 ?_
      refine lv_topi (fun x44 e44 => ?_)
      have t44 : x44.toInt = gsp.toInt + 1 := by rw [e44]; exact xi_add rfl (by decide) (by omega) (by omega)
      refine va_put (D := D) (ci := 8) (v := .int x44) (ty := .int) (C := RX8) (T := TX8) (N := 14) hx hb hts xin8 tyX8 tyX8_ok nmX8 hown hK hP hD hS 0 rfl rfl 10 (by decide) (hts _ (List.mem_cons_of_mem _ mw_3_99)) (fun _ h9 => h9) rfl (by decide +kernel) rfl rfl (Nat.le_of_ble_eq_true rfl) dX8_takes_45 (fun H locs hP hD hS => ?_)
      have hP : va_P D vwCl [(h, .inr (8, [.ref h1, .ref h2, .ref h3, .int gst, .ref h4, .ref h5, .ref h6, .int gty, .int gse, .int gte, .int x44, .ref h7, .ref h8, .int gtl])), (h6, .inl (cI, 60, .inl pad))] H := hP
      have hD : va_D A [(h, .inr (8, [.ref h1, .ref h2, .ref h3, .int gst, .ref h4, .ref h5, .ref h6, .int gty, .int gse, .int gte, .int x44, .ref h7, .ref h8, .int gtl])), (h6, .inl (cI, 60, .inl pad))] := hD
      refine lv_iload_n hx hb dX8_takes_48 rfl (lv_at hl 0 rfl) ?_
      exact xk_retz x44 hx hb hr hlocks (by decide) (xk_P hP (by rfl)) (by exact Or.inl ⟨rfl, t8, by rw [← e19]; exact d21, t44⟩) hS dX8_takes_49 hQ

set_option maxHeartbeats 4000000 in
set_option maxRecDepth 100000 in
theorem c_X8_readFoot (l : Launch) (D : va_G) (cI cZ cS : ClassId) (h h1 h2 h3 h4 h5 h6 h7 h8 : Nat) (gst gty gse gte gsp gtl : Int32) (pad tf tm : Nat → Int32)  (hsp : 0 ≤ gsp.toInt ∧ gsp.toInt ≤ gty.toInt ∧ gty.toInt ≤ 60) (hgl : 0 ≤ gtl.toInt ∧ gtl.toInt ≤ 9) (htm : 0 ≤ (tm gtl.toInt.toNat).toInt ∧ (tm gtl.toInt.toNat).toInt ≤ 11) : xMi l yX8_readFoot cX8_readFoot 3 (some .boolean) ({ frames := 1, cells := 0, slots := 0, locals := 22 } : Room) D (xTy cI cZ cS) [.ref h] [(h, .inr (8, [.ref h1, .ref h2, .ref h3, .int gst, .ref h4, .ref h5, .ref h6, .int gty, .int gse, .int gte, .int gsp, .ref h7, .ref h8, .int gtl])), (h6, .inl (cI, 60, .inl pad)), (h7, .inl (cI, 120, .inl tf)), (h8, .inl (cI, 10, .inl tm))] (fun (r : Int32) (u : (Int32) × (Nat → Int32) × (Nat → Int32)) => ((r = 1 ∧ (footS pad gty.toInt.toNat gsp.toInt.toNat ∧ ((mkS pad gty.toInt.toNat gsp.toInt.toNat ∧ u.1.toInt = gsp.toInt + 2 ∧ u.2.1 = upd tf (12 * gtl.toInt.toNat + (tm gtl.toInt.toNat).toInt.toNat) (bOf (pad gsp.toInt.toNat) + 10)) ∨ (¬ mkS pad gty.toInt.toNat gsp.toInt.toNat ∧ u.1.toInt = gsp.toInt + 1 ∧ u.2.1 = upd tf (12 * gtl.toInt.toNat + (tm gtl.toInt.toNat).toInt.toNat) (bOf (pad gsp.toInt.toNat)))) ∧ u.2.2 = upd tm gtl.toInt.toNat (tm gtl.toInt.toNat + 1))) ∨ (r = 0 ∧ (¬ footS pad gty.toInt.toNat gsp.toInt.toNat ∧ gsp = u.1 ∧ tf = u.2.1 ∧ tm = u.2.2)))) (fun (u : (Int32) × (Nat → Int32) × (Nat → Int32)) => [(h, .inr (8, [.ref h1, .ref h2, .ref h3, .int gst, .ref h4, .ref h5, .ref h6, .int gty, .int gse, .int gte, .int u.1, .ref h7, .ref h8, .int gtl])), (h6, .inl (cI, 60, .inl pad)), (h7, .inl (cI, 120, .inl u.2.1)), (h8, .inl (cI, 10, .inl u.2.2))]) := by
  refine xk_bodyi (by decide) (Nat.le_of_ble_eq_true rfl) ?_
  intro p e s m below meth c A ls args Q hx hb hr hts hown hlocks hml hin hK hP hD hS hA hN hZ hl hQ
  have hl : lv_has ls 3 [(0, .ref h)] := hl
  refine lv_aload_n hx hb dX8_readFoot_0 rfl (lv_at hl 0 rfl) ?_
  refine lv_bipush (v := 117) hx hb dX8_readFoot_1 (by decide) ?_
  refine xk_Vi (As := [.int 117]) (rest := []) hx hb hml hown hts hK hN hZ hP hD hS hA mb_X8_takes mw_4_2 mw_4_4 mw_0_20 (c_X8_takes l D cI cZ cS h h1 h2 h3 h4 h5 h6 h7 h8 gst gty gse gte gsp gtl pad (117 : Int32) (by first | omega | decide | assumption)) [0, 1] 0 8 rfl rfl (by decide) rfl (fun _ => by simp only [List.map]) (by decide) (by decide) rfl hl.1 rfl (Nat.le_of_ble_eq_true rfl) dX8_readFoot_3 ⟨Nat.zero_le _, Nat.zero_le _⟩ (fun r3 u3 H locs hw hP hD hS => ?_)
  obtain ⟨w3_0, rfl⟩ : ∃ z, z = u3 := ⟨_, rfl⟩
  have hP : va_P D vwCl [(h, .inr (8, [.ref h1, .ref h2, .ref h3, .int gst, .ref h4, .ref h5, .ref h6, .int gty, .int gse, .int gte, .int w3_0, .ref h7, .ref h8, .int gtl])), (h6, .inl (cI, 60, .inl pad)), (h7, .inl (cI, 120, .inl tf)), (h8, .inl (cI, 10, .inl tm))] H := hP
  have hD : va_D A [(h, .inr (8, [.ref h1, .ref h2, .ref h3, .int gst, .ref h4, .ref h5, .ref h6, .int gty, .int gse, .int gte, .int w3_0, .ref h7, .ref h8, .int gtl])), (h6, .inl (cI, 60, .inl pad)), (h7, .inl (cI, 120, .inl tf)), (h8, .inl (cI, 10, .inl tm))] := hD
  rcases hw with ⟨rfl, b3⟩ | ⟨rfl, b3⟩
  · have b3 : gsp.toInt < gty.toInt ∧ pad gsp.toInt.toNat = (117 : Int32) ∧ w3_0.toInt = gsp.toInt + 1 := b3
    refine lv_if_eq (tgt := 13) hx hb dX8_readFoot_6 (by decide) (fun c6 => absurd c6 (by decide)) (fun _ => ?_)
    refine lv_iconst (v := 2) hx hb dX8_readFoot_9 (by decide) ?_
    refine lv_goto (tgt := 40) hx hb dX8_readFoot_10 (by decide) ?_
    refine lv_istore_n (lv' := [(1, .int 2), (0, .ref h)]) hx hb dX8_readFoot_40 rfl hl (by decide) rfl (fun ls hl => ?_)
    refine lv_iload_n hx hb dX8_readFoot_41 rfl (lv_at hl 0 rfl) ?_
    refine lv_if_ne (tgt := 47) hx hb dX8_readFoot_42 (by decide) (fun _ => ?_) (fun c42 => absurd c42 (by decide))
    refine lv_aload_n hx hb dX8_readFoot_47 rfl (lv_at hl 1 rfl) ?_
    refine lv_bipush (v := 39) hx hb dX8_readFoot_48 (by decide) ?_
    refine xk_Vi (As := [.int 39]) (rest := []) hx hb hml hown hts hK hN hZ hP hD hS hA mb_X8_takes mw_4_2 mw_4_4 mw_0_20 (c_X8_takes l D cI cZ cS h h1 h2 h3 h4 h5 h6 h7 h8 gst gty gse gte w3_0 gtl pad (39 : Int32) (by first | omega | decide | assumption)) [0, 1] 0 8 rfl rfl (by decide) rfl (fun _ => by simp only [List.map]) (by decide) (by decide) rfl hl.1 rfl (Nat.le_of_ble_eq_true rfl) dX8_readFoot_50 ⟨Nat.zero_le _, Nat.zero_le _⟩ (fun r50 u50 H locs hw hP hD hS => ?_)
    obtain ⟨w50_0, rfl⟩ : ∃ z, z = u50 := ⟨_, rfl⟩
    have hP : va_P D vwCl [(h, .inr (8, [.ref h1, .ref h2, .ref h3, .int gst, .ref h4, .ref h5, .ref h6, .int gty, .int gse, .int gte, .int w50_0, .ref h7, .ref h8, .int gtl])), (h6, .inl (cI, 60, .inl pad)), (h7, .inl (cI, 120, .inl tf)), (h8, .inl (cI, 10, .inl tm))] H := hP
    have hD : va_D A [(h, .inr (8, [.ref h1, .ref h2, .ref h3, .int gst, .ref h4, .ref h5, .ref h6, .int gty, .int gse, .int gte, .int w50_0, .ref h7, .ref h8, .int gtl])), (h6, .inl (cI, 60, .inl pad)), (h7, .inl (cI, 120, .inl tf)), (h8, .inl (cI, 10, .inl tm))] := hD
    rcases hw with ⟨rfl, b50⟩ | ⟨rfl, b50⟩
    · have b50 : w3_0.toInt < gty.toInt ∧ pad w3_0.toInt.toNat = (39 : Int32) ∧ w50_0.toInt = w3_0.toInt + 1 := b50
      refine lv_if_eq (tgt := 61) hx hb dX8_readFoot_53 (by decide) (fun c53 => absurd c53 (by decide)) (fun _ => ?_)
      refine lv_bipush (v := 10) hx hb dX8_readFoot_56 (by decide) ?_
      refine lv_goto (tgt := 62) hx hb dX8_readFoot_58 (by decide) ?_
      refine lv_istore_n (lv' := [(2, .int 10), (1, .int 2), (0, .ref h)]) hx hb dX8_readFoot_62 rfl hl (by decide) rfl (fun ls hl => ?_)
      refine lv_aload_n hx hb dX8_readFoot_63 rfl (lv_at hl 2 rfl) ?_
      refine va_get (D := D) (ci := 8) (v := .ref h7) (C := RX8) (T := TX8) (N := 14) hx hb hts xin8 hown hK hP 0 rfl rfl 11 (by decide) (hts _ (List.mem_cons_of_mem _ mw_3_100)) (fun _ h9 => h9) rfl dX8_readFoot_64 ?_
      refine lv_bipush (v := 12) hx hb dX8_readFoot_67 (by decide) ?_
      refine lv_aload_n hx hb dX8_readFoot_69 rfl (lv_at hl 2 rfl) ?_
      refine va_get (D := D) (ci := 8) (v := .int gtl) (C := RX8) (T := TX8) (N := 14) hx hb hts xin8 hown hK hP 0 rfl rfl 13 (by decide) (hts _ (List.mem_cons_of_mem _ mw_3_102)) (fun _ h9 => h9) rfl dX8_readFoot_70 ?_
      refine lv_imul hx hb dX8_readFoot_73 ?_
      refine lv_topi (fun x73 e73 => ?_)
      have t73 : x73.toInt = 12 * gtl.toInt := by rw [e73]; exact xi_mul (by decide) rfl (by omega) (by omega)
      refine lv_aload_n hx hb dX8_readFoot_74 rfl (lv_at hl 2 rfl) ?_
      refine va_get (D := D) (ci := 8) (v := .ref h8) (C := RX8) (T := TX8) (N := 14) hx hb hts xin8 hown hK hP 0 rfl rfl 12 (by decide) (hts _ (List.mem_cons_of_mem _ mw_3_101)) (fun _ h9 => h9) rfl dX8_readFoot_75 ?_
      refine lv_aload_n hx hb dX8_readFoot_78 rfl (lv_at hl 2 rfl) ?_
      refine va_get (D := D) (ci := 8) (v := .int gtl) (C := RX8) (T := TX8) (N := 14) hx hb hts xin8 hown hK hP 0 rfl rfl 13 (by decide) (hts _ (List.mem_cons_of_mem _ mw_3_102)) (fun _ h9 => h9) rfl dX8_readFoot_79 ?_
      refine va_iald hx hb hK hP 3 0 rfl rfl (xi_in (by omega) (by omega)) dX8_readFoot_82 ?_
      refine xk_top (z := tm gtl.toInt.toNat) rfl ?_
      refine lv_topi (fun x82 e82 => ?_)
      have t82 : x82.toInt = (tm gtl.toInt.toNat).toInt := by rw [e82]
      refine lv_iadd hx hb dX8_readFoot_83 ?_
      refine lv_topi (fun x83 e83 => ?_)
      have t83 : x83.toInt = x73.toInt + x82.toInt := by rw [e83]; exact xi_add rfl rfl (by omega) (by omega)
      refine lv_iload_n hx hb dX8_readFoot_84 rfl (lv_at hl 1 rfl) ?_
      refine lv_iload_n hx hb dX8_readFoot_85 rfl (lv_at hl 0 rfl) ?_
      refine lv_iadd hx hb dX8_readFoot_86 ?_
      refine xk_top (z := 12) (by decide) ?_
      refine va_iast hx hb hK hP hD hS 2 0 rfl rfl (xi_in (by omega) (by omega)) dX8_readFoot_87 (fun H locs hP hD hS => ?_)
      rw [show x83.toNatClampNeg = 12 * gtl.toInt.toNat + (tm gtl.toInt.toNat).toInt.toNat from xk_ix (by omega)] at hP hD
      have hP : va_P D vwCl [(h, .inr (8, [.ref h1, .ref h2, .ref h3, .int gst, .ref h4, .ref h5, .ref h6, .int gty, .int gse, .int gte, .int w50_0, .ref h7, .ref h8, .int gtl])), (h6, .inl (cI, 60, .inl pad)), (h7, .inl (cI, 120, .inl (upd tf (12 * gtl.toInt.toNat + (tm gtl.toInt.toNat).toInt.toNat) 12))), (h8, .inl (cI, 10, .inl tm))] H := hP
      have hD : va_D A [(h, .inr (8, [.ref h1, .ref h2, .ref h3, .int gst, .ref h4, .ref h5, .ref h6, .int gty, .int gse, .int gte, .int w50_0, .ref h7, .ref h8, .int gtl])), (h6, .inl (cI, 60, .inl pad)), (h7, .inl (cI, 120, .inl (upd tf (12 * gtl.toInt.toNat + (tm gtl.toInt.toNat).toInt.toNat) 12))), (h8, .inl (cI, 10, .inl tm))] := hD
      refine lv_aload_n hx hb dX8_readFoot_88 rfl (lv_at hl 2 rfl) ?_
      refine va_get (D := D) (ci := 8) (v := .ref h8) (C := RX8) (T := TX8) (N := 14) hx hb hts xin8 hown hK hP 0 rfl rfl 12 (by decide) (hts _ (List.mem_cons_of_mem _ mw_3_101)) (fun _ h9 => h9) rfl dX8_readFoot_89 ?_
      refine lv_aload_n hx hb dX8_readFoot_92 rfl (lv_at hl 2 rfl) ?_
      refine va_get (D := D) (ci := 8) (v := .int gtl) (C := RX8) (T := TX8) (N := 14) hx hb hts xin8 hown hK hP 0 rfl rfl 13 (by decide) (hts _ (List.mem_cons_of_mem _ mw_3_102)) (fun _ h9 => h9) rfl dX8_readFoot_93 ?_
      refine lv_dup2_11 hx hb dX8_readFoot_96 rfl rfl ?_
      refine va_iald hx hb hK hP 3 0 rfl rfl (xi_in (by omega) (by omega)) dX8_readFoot_97 ?_
      refine xk_top (z := tm gtl.toInt.toNat) rfl ?_
      refine lv_topi (fun x97 e97 => ?_)
      have t97 : x97.toInt = (tm gtl.toInt.toNat).toInt := by rw [e97]
      refine lv_iconst (v := 1) hx hb dX8_readFoot_98 (by decide) ?_
      refine lv_iadd hx hb dX8_readFoot_99 ?_
      refine lv_topi (fun x99 e99 => ?_)
      have t99 : x99.toInt = x97.toInt + 1 := by rw [e99]; exact xi_add rfl (by decide) (by omega) (by omega)
      refine va_iast hx hb hK hP hD hS 3 0 rfl rfl (xi_in (by omega) (by omega)) dX8_readFoot_100 (fun H locs hP hD hS => ?_)
      have hP : va_P D vwCl [(h, .inr (8, [.ref h1, .ref h2, .ref h3, .int gst, .ref h4, .ref h5, .ref h6, .int gty, .int gse, .int gte, .int w50_0, .ref h7, .ref h8, .int gtl])), (h6, .inl (cI, 60, .inl pad)), (h7, .inl (cI, 120, .inl (upd tf (12 * gtl.toInt.toNat + (tm gtl.toInt.toNat).toInt.toNat) 12))), (h8, .inl (cI, 10, .inl (upd tm gtl.toInt.toNat x99)))] H := hP
      have hD : va_D A [(h, .inr (8, [.ref h1, .ref h2, .ref h3, .int gst, .ref h4, .ref h5, .ref h6, .int gty, .int gse, .int gte, .int w50_0, .ref h7, .ref h8, .int gtl])), (h6, .inl (cI, 60, .inl pad)), (h7, .inl (cI, 120, .inl (upd tf (12 * gtl.toInt.toNat + (tm gtl.toInt.toNat).toInt.toNat) 12))), (h8, .inl (cI, 10, .inl (upd tm gtl.toInt.toNat x99)))] := hD
      refine lv_iconst (v := 1) hx hb dX8_readFoot_101 (by decide) ?_
      have hw1 : w3_0.toInt.toNat = gsp.toInt.toNat + 1 := by omega
      have hmm : (upd tm gtl.toInt.toNat x99) = upd tm gtl.toInt.toNat (tm gtl.toInt.toNat + 1) := by rw [e99, e97]
      exact xk_retz (w50_0, (upd tf (12 * gtl.toInt.toNat + (tm gtl.toInt.toNat).toInt.toNat) 12), (upd tm gtl.toInt.toNat x99)) hx hb hr hlocks (by decide) (xk_P hP (by rfl)) (by (try dsimp only); exact Or.inl ⟨rfl, ⟨by omega, by rw [(show bOf (pad gsp.toInt.toNat) = 2 from by rw [b3.2.1]; decide)]; decide⟩, Or.inl ⟨⟨by omega, by rw [← hw1]; exact b50.2.1⟩, by omega, by rw [(show bOf (pad gsp.toInt.toNat) = 2 from by rw [b3.2.1]; decide)]; rfl⟩, hmm⟩) hS dX8_readFoot_102 hQ
    · have b50 : ¬ (w3_0.toInt < gty.toInt ∧ pad w3_0.toInt.toNat = (39 : Int32)) ∧ w3_0 = w50_0 := b50
      obtain ⟨a50, q50⟩ := b50
      subst q50
      refine lv_if_eq (tgt := 61) hx hb dX8_readFoot_53 (by decide) (fun _ => ?_) (fun c53 => absurd (by decide) c53)
      refine lv_iconst (v := 0) hx hb dX8_readFoot_61 (by decide) ?_
      refine lv_istore_n (lv' := [(2, .int 0), (1, .int 2), (0, .ref h)]) hx hb dX8_readFoot_62 rfl hl (by decide) rfl (fun ls hl => ?_)
      refine lv_aload_n hx hb dX8_readFoot_63 rfl (lv_at hl 2 rfl) ?_
      refine va_get (D := D) (ci := 8) (v := .ref h7) (C := RX8) (T := TX8) (N := 14) hx hb hts xin8 hown hK hP 0 rfl rfl 11 (by decide) (hts _ (List.mem_cons_of_mem _ mw_3_100)) (fun _ h9 => h9) rfl dX8_readFoot_64 ?_
      refine lv_bipush (v := 12) hx hb dX8_readFoot_67 (by decide) ?_
      refine lv_aload_n hx hb dX8_readFoot_69 rfl (lv_at hl 2 rfl) ?_
      refine va_get (D := D) (ci := 8) (v := .int gtl) (C := RX8) (T := TX8) (N := 14) hx hb hts xin8 hown hK hP 0 rfl rfl 13 (by decide) (hts _ (List.mem_cons_of_mem _ mw_3_102)) (fun _ h9 => h9) rfl dX8_readFoot_70 ?_
      refine lv_imul hx hb dX8_readFoot_73 ?_
      refine lv_topi (fun x73 e73 => ?_)
      have t73 : x73.toInt = 12 * gtl.toInt := by rw [e73]; exact xi_mul (by decide) rfl (by omega) (by omega)
      refine lv_aload_n hx hb dX8_readFoot_74 rfl (lv_at hl 2 rfl) ?_
      refine va_get (D := D) (ci := 8) (v := .ref h8) (C := RX8) (T := TX8) (N := 14) hx hb hts xin8 hown hK hP 0 rfl rfl 12 (by decide) (hts _ (List.mem_cons_of_mem _ mw_3_101)) (fun _ h9 => h9) rfl dX8_readFoot_75 ?_
      refine lv_aload_n hx hb dX8_readFoot_78 rfl (lv_at hl 2 rfl) ?_
      refine va_get (D := D) (ci := 8) (v := .int gtl) (C := RX8) (T := TX8) (N := 14) hx hb hts xin8 hown hK hP 0 rfl rfl 13 (by decide) (hts _ (List.mem_cons_of_mem _ mw_3_102)) (fun _ h9 => h9) rfl dX8_readFoot_79 ?_
      refine va_iald hx hb hK hP 3 0 rfl rfl (xi_in (by omega) (by omega)) dX8_readFoot_82 ?_
      refine xk_top (z := tm gtl.toInt.toNat) rfl ?_
      refine lv_topi (fun x82 e82 => ?_)
      have t82 : x82.toInt = (tm gtl.toInt.toNat).toInt := by rw [e82]
      refine lv_iadd hx hb dX8_readFoot_83 ?_
      refine lv_topi (fun x83 e83 => ?_)
      have t83 : x83.toInt = x73.toInt + x82.toInt := by rw [e83]; exact xi_add rfl rfl (by omega) (by omega)
      refine lv_iload_n hx hb dX8_readFoot_84 rfl (lv_at hl 1 rfl) ?_
      refine lv_iload_n hx hb dX8_readFoot_85 rfl (lv_at hl 0 rfl) ?_
      refine lv_iadd hx hb dX8_readFoot_86 ?_
      refine xk_top (z := 2) (by decide) ?_
      refine va_iast hx hb hK hP hD hS 2 0 rfl rfl (xi_in (by omega) (by omega)) dX8_readFoot_87 (fun H locs hP hD hS => ?_)
      rw [show x83.toNatClampNeg = 12 * gtl.toInt.toNat + (tm gtl.toInt.toNat).toInt.toNat from xk_ix (by omega)] at hP hD
      have hP : va_P D vwCl [(h, .inr (8, [.ref h1, .ref h2, .ref h3, .int gst, .ref h4, .ref h5, .ref h6, .int gty, .int gse, .int gte, .int w3_0, .ref h7, .ref h8, .int gtl])), (h6, .inl (cI, 60, .inl pad)), (h7, .inl (cI, 120, .inl (upd tf (12 * gtl.toInt.toNat + (tm gtl.toInt.toNat).toInt.toNat) 2))), (h8, .inl (cI, 10, .inl tm))] H := hP
      have hD : va_D A [(h, .inr (8, [.ref h1, .ref h2, .ref h3, .int gst, .ref h4, .ref h5, .ref h6, .int gty, .int gse, .int gte, .int w3_0, .ref h7, .ref h8, .int gtl])), (h6, .inl (cI, 60, .inl pad)), (h7, .inl (cI, 120, .inl (upd tf (12 * gtl.toInt.toNat + (tm gtl.toInt.toNat).toInt.toNat) 2))), (h8, .inl (cI, 10, .inl tm))] := hD
      refine lv_aload_n hx hb dX8_readFoot_88 rfl (lv_at hl 2 rfl) ?_
      refine va_get (D := D) (ci := 8) (v := .ref h8) (C := RX8) (T := TX8) (N := 14) hx hb hts xin8 hown hK hP 0 rfl rfl 12 (by decide) (hts _ (List.mem_cons_of_mem _ mw_3_101)) (fun _ h9 => h9) rfl dX8_readFoot_89 ?_
      refine lv_aload_n hx hb dX8_readFoot_92 rfl (lv_at hl 2 rfl) ?_
      refine va_get (D := D) (ci := 8) (v := .int gtl) (C := RX8) (T := TX8) (N := 14) hx hb hts xin8 hown hK hP 0 rfl rfl 13 (by decide) (hts _ (List.mem_cons_of_mem _ mw_3_102)) (fun _ h9 => h9) rfl dX8_readFoot_93 ?_
      refine lv_dup2_11 hx hb dX8_readFoot_96 rfl rfl ?_
      refine va_iald hx hb hK hP 3 0 rfl rfl (xi_in (by omega) (by omega)) dX8_readFoot_97 ?_
      refine xk_top (z := tm gtl.toInt.toNat) rfl ?_
      refine lv_topi (fun x97 e97 => ?_)
      have t97 : x97.toInt = (tm gtl.toInt.toNat).toInt := by rw [e97]
      refine lv_iconst (v := 1) hx hb dX8_readFoot_98 (by decide) ?_
      refine lv_iadd hx hb dX8_readFoot_99 ?_
      refine lv_topi (fun x99 e99 => ?_)
      have t99 : x99.toInt = x97.toInt + 1 := by rw [e99]; exact xi_add rfl (by decide) (by omega) (by omega)
      refine va_iast hx hb hK hP hD hS 3 0 rfl rfl (xi_in (by omega) (by omega)) dX8_readFoot_100 (fun H locs hP hD hS => ?_)
      have hP : va_P D vwCl [(h, .inr (8, [.ref h1, .ref h2, .ref h3, .int gst, .ref h4, .ref h5, .ref h6, .int gty, .int gse, .int gte, .int w3_0, .ref h7, .ref h8, .int gtl])), (h6, .inl (cI, 60, .inl pad)), (h7, .inl (cI, 120, .inl (upd tf (12 * gtl.toInt.toNat + (tm gtl.toInt.toNat).toInt.toNat) 2))), (h8, .inl (cI, 10, .inl (upd tm gtl.toInt.toNat x99)))] H := hP
      have hD : va_D A [(h, .inr (8, [.ref h1, .ref h2, .ref h3, .int gst, .ref h4, .ref h5, .ref h6, .int gty, .int gse, .int gte, .int w3_0, .ref h7, .ref h8, .int gtl])), (h6, .inl (cI, 60, .inl pad)), (h7, .inl (cI, 120, .inl (upd tf (12 * gtl.toInt.toNat + (tm gtl.toInt.toNat).toInt.toNat) 2))), (h8, .inl (cI, 10, .inl (upd tm gtl.toInt.toNat x99)))] := hD
      refine lv_iconst (v := 1) hx hb dX8_readFoot_101 (by decide) ?_
      have hw1 : w3_0.toInt.toNat = gsp.toInt.toNat + 1 := by omega
      have hmm : (upd tm gtl.toInt.toNat x99) = upd tm gtl.toInt.toNat (tm gtl.toInt.toNat + 1) := by rw [e99, e97]
      exact xk_retz (w3_0, (upd tf (12 * gtl.toInt.toNat + (tm gtl.toInt.toNat).toInt.toNat) 2), (upd tm gtl.toInt.toNat x99)) hx hb hr hlocks (by decide) (xk_P hP (by rfl)) (by (try dsimp only); exact Or.inl ⟨rfl, ⟨by omega, by rw [(show bOf (pad gsp.toInt.toNat) = 2 from by rw [b3.2.1]; decide)]; decide⟩, Or.inr ⟨fun hh => a50 ⟨by omega, by rw [hw1]; exact hh.2⟩, by omega, by rw [(show bOf (pad gsp.toInt.toNat) = 2 from by rw [b3.2.1]; decide)]⟩, hmm⟩) hS dX8_readFoot_102 hQ
  · have b3 : ¬ (gsp.toInt < gty.toInt ∧ pad gsp.toInt.toNat = (117 : Int32)) ∧ gsp = w3_0 := b3
    obtain ⟨a3, q3⟩ := b3
    subst q3
    refine lv_if_eq (tgt := 13) hx hb dX8_readFoot_6 (by decide) (fun _ => ?_) (fun c6 => absurd (by decide) c6)
    refine lv_aload_n hx hb dX8_readFoot_13 rfl (lv_at hl 0 rfl) ?_
    refine lv_bipush (v := 100) hx hb dX8_readFoot_14 (by decide) ?_
    refine xk_Vi (As := [.int 100]) (rest := []) hx hb hml hown hts hK hN hZ hP hD hS hA mb_X8_takes mw_4_2 mw_4_4 mw_0_20 (c_X8_takes l D cI cZ cS h h1 h2 h3 h4 h5 h6 h7 h8 gst gty gse gte gsp gtl pad (100 : Int32) (by first | omega | decide | assumption)) [0, 1] 0 8 rfl rfl (by decide) rfl (fun _ => by simp only [List.map]) (by decide) (by decide) rfl hl.1 rfl (Nat.le_of_ble_eq_true rfl) dX8_readFoot_16 ⟨Nat.zero_le _, Nat.zero_le _⟩ (fun r16 u16 H locs hw hP hD hS => ?_)
    obtain ⟨w16_0, rfl⟩ : ∃ z, z = u16 := ⟨_, rfl⟩
    have hP : va_P D vwCl [(h, .inr (8, [.ref h1, .ref h2, .ref h3, .int gst, .ref h4, .ref h5, .ref h6, .int gty, .int gse, .int gte, .int w16_0, .ref h7, .ref h8, .int gtl])), (h6, .inl (cI, 60, .inl pad)), (h7, .inl (cI, 120, .inl tf)), (h8, .inl (cI, 10, .inl tm))] H := hP
    have hD : va_D A [(h, .inr (8, [.ref h1, .ref h2, .ref h3, .int gst, .ref h4, .ref h5, .ref h6, .int gty, .int gse, .int gte, .int w16_0, .ref h7, .ref h8, .int gtl])), (h6, .inl (cI, 60, .inl pad)), (h7, .inl (cI, 120, .inl tf)), (h8, .inl (cI, 10, .inl tm))] := hD
    rcases hw with ⟨rfl, b16⟩ | ⟨rfl, b16⟩
    · have b16 : gsp.toInt < gty.toInt ∧ pad gsp.toInt.toNat = (100 : Int32) ∧ w16_0.toInt = gsp.toInt + 1 := b16
      refine lv_if_eq (tgt := 26) hx hb dX8_readFoot_19 (by decide) (fun c19 => absurd c19 (by decide)) (fun _ => ?_)
      refine lv_iconst (v := 3) hx hb dX8_readFoot_22 (by decide) ?_
      refine lv_goto (tgt := 40) hx hb dX8_readFoot_23 (by decide) ?_
      refine lv_istore_n (lv' := [(1, .int 3), (0, .ref h)]) hx hb dX8_readFoot_40 rfl hl (by decide) rfl (fun ls hl => ?_)
      refine lv_iload_n hx hb dX8_readFoot_41 rfl (lv_at hl 0 rfl) ?_
      refine lv_if_ne (tgt := 47) hx hb dX8_readFoot_42 (by decide) (fun _ => ?_) (fun c42 => absurd c42 (by decide))
      refine lv_aload_n hx hb dX8_readFoot_47 rfl (lv_at hl 1 rfl) ?_
      refine lv_bipush (v := 39) hx hb dX8_readFoot_48 (by decide) ?_
      refine xk_Vi (As := [.int 39]) (rest := []) hx hb hml hown hts hK hN hZ hP hD hS hA mb_X8_takes mw_4_2 mw_4_4 mw_0_20 (c_X8_takes l D cI cZ cS h h1 h2 h3 h4 h5 h6 h7 h8 gst gty gse gte w16_0 gtl pad (39 : Int32) (by first | omega | decide | assumption)) [0, 1] 0 8 rfl rfl (by decide) rfl (fun _ => by simp only [List.map]) (by decide) (by decide) rfl hl.1 rfl (Nat.le_of_ble_eq_true rfl) dX8_readFoot_50 ⟨Nat.zero_le _, Nat.zero_le _⟩ (fun r50 u50 H locs hw hP hD hS => ?_)
      obtain ⟨w50_0, rfl⟩ : ∃ z, z = u50 := ⟨_, rfl⟩
      have hP : va_P D vwCl [(h, .inr (8, [.ref h1, .ref h2, .ref h3, .int gst, .ref h4, .ref h5, .ref h6, .int gty, .int gse, .int gte, .int w50_0, .ref h7, .ref h8, .int gtl])), (h6, .inl (cI, 60, .inl pad)), (h7, .inl (cI, 120, .inl tf)), (h8, .inl (cI, 10, .inl tm))] H := hP
      have hD : va_D A [(h, .inr (8, [.ref h1, .ref h2, .ref h3, .int gst, .ref h4, .ref h5, .ref h6, .int gty, .int gse, .int gte, .int w50_0, .ref h7, .ref h8, .int gtl])), (h6, .inl (cI, 60, .inl pad)), (h7, .inl (cI, 120, .inl tf)), (h8, .inl (cI, 10, .inl tm))] := hD
      rcases hw with ⟨rfl, b50⟩ | ⟨rfl, b50⟩
      · have b50 : w16_0.toInt < gty.toInt ∧ pad w16_0.toInt.toNat = (39 : Int32) ∧ w50_0.toInt = w16_0.toInt + 1 := b50
        refine lv_if_eq (tgt := 61) hx hb dX8_readFoot_53 (by decide) (fun c53 => absurd c53 (by decide)) (fun _ => ?_)
        refine lv_bipush (v := 10) hx hb dX8_readFoot_56 (by decide) ?_
        refine lv_goto (tgt := 62) hx hb dX8_readFoot_58 (by decide) ?_
        refine lv_istore_n (lv' := [(2, .int 10), (1, .int 3), (0, .ref h)]) hx hb dX8_readFoot_62 rfl hl (by decide) rfl (fun ls hl => ?_)
        refine lv_aload_n hx hb dX8_readFoot_63 rfl (lv_at hl 2 rfl) ?_
        refine va_get (D := D) (ci := 8) (v := .ref h7) (C := RX8) (T := TX8) (N := 14) hx hb hts xin8 hown hK hP 0 rfl rfl 11 (by decide) (hts _ (List.mem_cons_of_mem _ mw_3_100)) (fun _ h9 => h9) rfl dX8_readFoot_64 ?_
        refine lv_bipush (v := 12) hx hb dX8_readFoot_67 (by decide) ?_
        refine lv_aload_n hx hb dX8_readFoot_69 rfl (lv_at hl 2 rfl) ?_
        refine va_get (D := D) (ci := 8) (v := .int gtl) (C := RX8) (T := TX8) (N := 14) hx hb hts xin8 hown hK hP 0 rfl rfl 13 (by decide) (hts _ (List.mem_cons_of_mem _ mw_3_102)) (fun _ h9 => h9) rfl dX8_readFoot_70 ?_
        refine lv_imul hx hb dX8_readFoot_73 ?_
        refine lv_topi (fun x73 e73 => ?_)
        have t73 : x73.toInt = 12 * gtl.toInt := by rw [e73]; exact xi_mul (by decide) rfl (by omega) (by omega)
        refine lv_aload_n hx hb dX8_readFoot_74 rfl (lv_at hl 2 rfl) ?_
        refine va_get (D := D) (ci := 8) (v := .ref h8) (C := RX8) (T := TX8) (N := 14) hx hb hts xin8 hown hK hP 0 rfl rfl 12 (by decide) (hts _ (List.mem_cons_of_mem _ mw_3_101)) (fun _ h9 => h9) rfl dX8_readFoot_75 ?_
        refine lv_aload_n hx hb dX8_readFoot_78 rfl (lv_at hl 2 rfl) ?_
        refine va_get (D := D) (ci := 8) (v := .int gtl) (C := RX8) (T := TX8) (N := 14) hx hb hts xin8 hown hK hP 0 rfl rfl 13 (by decide) (hts _ (List.mem_cons_of_mem _ mw_3_102)) (fun _ h9 => h9) rfl dX8_readFoot_79 ?_
        refine va_iald hx hb hK hP 3 0 rfl rfl (xi_in (by omega) (by omega)) dX8_readFoot_82 ?_
        refine xk_top (z := tm gtl.toInt.toNat) rfl ?_
        refine lv_topi (fun x82 e82 => ?_)
        have t82 : x82.toInt = (tm gtl.toInt.toNat).toInt := by rw [e82]
        refine lv_iadd hx hb dX8_readFoot_83 ?_
        refine lv_topi (fun x83 e83 => ?_)
        have t83 : x83.toInt = x73.toInt + x82.toInt := by rw [e83]; exact xi_add rfl rfl (by omega) (by omega)
        refine lv_iload_n hx hb dX8_readFoot_84 rfl (lv_at hl 1 rfl) ?_
        refine lv_iload_n hx hb dX8_readFoot_85 rfl (lv_at hl 0 rfl) ?_
        refine lv_iadd hx hb dX8_readFoot_86 ?_
        refine xk_top (z := 13) (by decide) ?_
        refine va_iast hx hb hK hP hD hS 2 0 rfl rfl (xi_in (by omega) (by omega)) dX8_readFoot_87 (fun H locs hP hD hS => ?_)
        rw [show x83.toNatClampNeg = 12 * gtl.toInt.toNat + (tm gtl.toInt.toNat).toInt.toNat from xk_ix (by omega)] at hP hD
        have hP : va_P D vwCl [(h, .inr (8, [.ref h1, .ref h2, .ref h3, .int gst, .ref h4, .ref h5, .ref h6, .int gty, .int gse, .int gte, .int w50_0, .ref h7, .ref h8, .int gtl])), (h6, .inl (cI, 60, .inl pad)), (h7, .inl (cI, 120, .inl (upd tf (12 * gtl.toInt.toNat + (tm gtl.toInt.toNat).toInt.toNat) 13))), (h8, .inl (cI, 10, .inl tm))] H := hP
        have hD : va_D A [(h, .inr (8, [.ref h1, .ref h2, .ref h3, .int gst, .ref h4, .ref h5, .ref h6, .int gty, .int gse, .int gte, .int w50_0, .ref h7, .ref h8, .int gtl])), (h6, .inl (cI, 60, .inl pad)), (h7, .inl (cI, 120, .inl (upd tf (12 * gtl.toInt.toNat + (tm gtl.toInt.toNat).toInt.toNat) 13))), (h8, .inl (cI, 10, .inl tm))] := hD
        refine lv_aload_n hx hb dX8_readFoot_88 rfl (lv_at hl 2 rfl) ?_
        refine va_get (D := D) (ci := 8) (v := .ref h8) (C := RX8) (T := TX8) (N := 14) hx hb hts xin8 hown hK hP 0 rfl rfl 12 (by decide) (hts _ (List.mem_cons_of_mem _ mw_3_101)) (fun _ h9 => h9) rfl dX8_readFoot_89 ?_
        refine lv_aload_n hx hb dX8_readFoot_92 rfl (lv_at hl 2 rfl) ?_
        refine va_get (D := D) (ci := 8) (v := .int gtl) (C := RX8) (T := TX8) (N := 14) hx hb hts xin8 hown hK hP 0 rfl rfl 13 (by decide) (hts _ (List.mem_cons_of_mem _ mw_3_102)) (fun _ h9 => h9) rfl dX8_readFoot_93 ?_
        refine lv_dup2_11 hx hb dX8_readFoot_96 rfl rfl ?_
        refine va_iald hx hb hK hP 3 0 rfl rfl (xi_in (by omega) (by omega)) dX8_readFoot_97 ?_
        refine xk_top (z := tm gtl.toInt.toNat) rfl ?_
        refine lv_topi (fun x97 e97 => ?_)
        have t97 : x97.toInt = (tm gtl.toInt.toNat).toInt := by rw [e97]
        refine lv_iconst (v := 1) hx hb dX8_readFoot_98 (by decide) ?_
        refine lv_iadd hx hb dX8_readFoot_99 ?_
        refine lv_topi (fun x99 e99 => ?_)
        have t99 : x99.toInt = x97.toInt + 1 := by rw [e99]; exact xi_add rfl (by decide) (by omega) (by omega)
        refine va_iast hx hb hK hP hD hS 3 0 rfl rfl (xi_in (by omega) (by omega)) dX8_readFoot_100 (fun H locs hP hD hS => ?_)
        have hP : va_P D vwCl [(h, .inr (8, [.ref h1, .ref h2, .ref h3, .int gst, .ref h4, .ref h5, .ref h6, .int gty, .int gse, .int gte, .int w50_0, .ref h7, .ref h8, .int gtl])), (h6, .inl (cI, 60, .inl pad)), (h7, .inl (cI, 120, .inl (upd tf (12 * gtl.toInt.toNat + (tm gtl.toInt.toNat).toInt.toNat) 13))), (h8, .inl (cI, 10, .inl (upd tm gtl.toInt.toNat x99)))] H := hP
        have hD : va_D A [(h, .inr (8, [.ref h1, .ref h2, .ref h3, .int gst, .ref h4, .ref h5, .ref h6, .int gty, .int gse, .int gte, .int w50_0, .ref h7, .ref h8, .int gtl])), (h6, .inl (cI, 60, .inl pad)), (h7, .inl (cI, 120, .inl (upd tf (12 * gtl.toInt.toNat + (tm gtl.toInt.toNat).toInt.toNat) 13))), (h8, .inl (cI, 10, .inl (upd tm gtl.toInt.toNat x99)))] := hD
        refine lv_iconst (v := 1) hx hb dX8_readFoot_101 (by decide) ?_
        have hw1 : w16_0.toInt.toNat = gsp.toInt.toNat + 1 := by omega
        have hmm : (upd tm gtl.toInt.toNat x99) = upd tm gtl.toInt.toNat (tm gtl.toInt.toNat + 1) := by rw [e99, e97]
        exact xk_retz (w50_0, (upd tf (12 * gtl.toInt.toNat + (tm gtl.toInt.toNat).toInt.toNat) 13), (upd tm gtl.toInt.toNat x99)) hx hb hr hlocks (by decide) (xk_P hP (by rfl)) (by (try dsimp only); exact Or.inl ⟨rfl, ⟨by omega, by rw [(show bOf (pad gsp.toInt.toNat) = 3 from by rw [b16.2.1]; decide)]; decide⟩, Or.inl ⟨⟨by omega, by rw [← hw1]; exact b50.2.1⟩, by omega, by rw [(show bOf (pad gsp.toInt.toNat) = 3 from by rw [b16.2.1]; decide)]; rfl⟩, hmm⟩) hS dX8_readFoot_102 hQ
      · have b50 : ¬ (w16_0.toInt < gty.toInt ∧ pad w16_0.toInt.toNat = (39 : Int32)) ∧ w16_0 = w50_0 := b50
        obtain ⟨a50, q50⟩ := b50
        subst q50
        refine lv_if_eq (tgt := 61) hx hb dX8_readFoot_53 (by decide) (fun _ => ?_) (fun c53 => absurd (by decide) c53)
        refine lv_iconst (v := 0) hx hb dX8_readFoot_61 (by decide) ?_
        refine lv_istore_n (lv' := [(2, .int 0), (1, .int 3), (0, .ref h)]) hx hb dX8_readFoot_62 rfl hl (by decide) rfl (fun ls hl => ?_)
        refine lv_aload_n hx hb dX8_readFoot_63 rfl (lv_at hl 2 rfl) ?_
        refine va_get (D := D) (ci := 8) (v := .ref h7) (C := RX8) (T := TX8) (N := 14) hx hb hts xin8 hown hK hP 0 rfl rfl 11 (by decide) (hts _ (List.mem_cons_of_mem _ mw_3_100)) (fun _ h9 => h9) rfl dX8_readFoot_64 ?_
        refine lv_bipush (v := 12) hx hb dX8_readFoot_67 (by decide) ?_
        refine lv_aload_n hx hb dX8_readFoot_69 rfl (lv_at hl 2 rfl) ?_
        refine va_get (D := D) (ci := 8) (v := .int gtl) (C := RX8) (T := TX8) (N := 14) hx hb hts xin8 hown hK hP 0 rfl rfl 13 (by decide) (hts _ (List.mem_cons_of_mem _ mw_3_102)) (fun _ h9 => h9) rfl dX8_readFoot_70 ?_
        refine lv_imul hx hb dX8_readFoot_73 ?_
        refine lv_topi (fun x73 e73 => ?_)
        have t73 : x73.toInt = 12 * gtl.toInt := by rw [e73]; exact xi_mul (by decide) rfl (by omega) (by omega)
        refine lv_aload_n hx hb dX8_readFoot_74 rfl (lv_at hl 2 rfl) ?_
        refine va_get (D := D) (ci := 8) (v := .ref h8) (C := RX8) (T := TX8) (N := 14) hx hb hts xin8 hown hK hP 0 rfl rfl 12 (by decide) (hts _ (List.mem_cons_of_mem _ mw_3_101)) (fun _ h9 => h9) rfl dX8_readFoot_75 ?_
        refine lv_aload_n hx hb dX8_readFoot_78 rfl (lv_at hl 2 rfl) ?_
        refine va_get (D := D) (ci := 8) (v := .int gtl) (C := RX8) (T := TX8) (N := 14) hx hb hts xin8 hown hK hP 0 rfl rfl 13 (by decide) (hts _ (List.mem_cons_of_mem _ mw_3_102)) (fun _ h9 => h9) rfl dX8_readFoot_79 ?_
        refine va_iald hx hb hK hP 3 0 rfl rfl (xi_in (by omega) (by omega)) dX8_readFoot_82 ?_
        refine xk_top (z := tm gtl.toInt.toNat) rfl ?_
        refine lv_topi (fun x82 e82 => ?_)
        have t82 : x82.toInt = (tm gtl.toInt.toNat).toInt := by rw [e82]
        refine lv_iadd hx hb dX8_readFoot_83 ?_
        refine lv_topi (fun x83 e83 => ?_)
        have t83 : x83.toInt = x73.toInt + x82.toInt := by rw [e83]; exact xi_add rfl rfl (by omega) (by omega)
        refine lv_iload_n hx hb dX8_readFoot_84 rfl (lv_at hl 1 rfl) ?_
        refine lv_iload_n hx hb dX8_readFoot_85 rfl (lv_at hl 0 rfl) ?_
        refine lv_iadd hx hb dX8_readFoot_86 ?_
        refine xk_top (z := 3) (by decide) ?_
        refine va_iast hx hb hK hP hD hS 2 0 rfl rfl (xi_in (by omega) (by omega)) dX8_readFoot_87 (fun H locs hP hD hS => ?_)
        rw [show x83.toNatClampNeg = 12 * gtl.toInt.toNat + (tm gtl.toInt.toNat).toInt.toNat from xk_ix (by omega)] at hP hD
        have hP : va_P D vwCl [(h, .inr (8, [.ref h1, .ref h2, .ref h3, .int gst, .ref h4, .ref h5, .ref h6, .int gty, .int gse, .int gte, .int w16_0, .ref h7, .ref h8, .int gtl])), (h6, .inl (cI, 60, .inl pad)), (h7, .inl (cI, 120, .inl (upd tf (12 * gtl.toInt.toNat + (tm gtl.toInt.toNat).toInt.toNat) 3))), (h8, .inl (cI, 10, .inl tm))] H := hP
        have hD : va_D A [(h, .inr (8, [.ref h1, .ref h2, .ref h3, .int gst, .ref h4, .ref h5, .ref h6, .int gty, .int gse, .int gte, .int w16_0, .ref h7, .ref h8, .int gtl])), (h6, .inl (cI, 60, .inl pad)), (h7, .inl (cI, 120, .inl (upd tf (12 * gtl.toInt.toNat + (tm gtl.toInt.toNat).toInt.toNat) 3))), (h8, .inl (cI, 10, .inl tm))] := hD
        refine lv_aload_n hx hb dX8_readFoot_88 rfl (lv_at hl 2 rfl) ?_
        refine va_get (D := D) (ci := 8) (v := .ref h8) (C := RX8) (T := TX8) (N := 14) hx hb hts xin8 hown hK hP 0 rfl rfl 12 (by decide) (hts _ (List.mem_cons_of_mem _ mw_3_101)) (fun _ h9 => h9) rfl dX8_readFoot_89 ?_
        refine lv_aload_n hx hb dX8_readFoot_92 rfl (lv_at hl 2 rfl) ?_
        refine va_get (D := D) (ci := 8) (v := .int gtl) (C := RX8) (T := TX8) (N := 14) hx hb hts xin8 hown hK hP 0 rfl rfl 13 (by decide) (hts _ (List.mem_cons_of_mem _ mw_3_102)) (fun _ h9 => h9) rfl dX8_readFoot_93 ?_
        refine lv_dup2_11 hx hb dX8_readFoot_96 rfl rfl ?_
        refine va_iald hx hb hK hP 3 0 rfl rfl (xi_in (by omega) (by omega)) dX8_readFoot_97 ?_
        refine xk_top (z := tm gtl.toInt.toNat) rfl ?_
        refine lv_topi (fun x97 e97 => ?_)
        have t97 : x97.toInt = (tm gtl.toInt.toNat).toInt := by rw [e97]
        refine lv_iconst (v := 1) hx hb dX8_readFoot_98 (by decide) ?_
        refine lv_iadd hx hb dX8_readFoot_99 ?_
        refine lv_topi (fun x99 e99 => ?_)
        have t99 : x99.toInt = x97.toInt + 1 := by rw [e99]; exact xi_add rfl (by decide) (by omega) (by omega)
        refine va_iast hx hb hK hP hD hS 3 0 rfl rfl (xi_in (by omega) (by omega)) dX8_readFoot_100 (fun H locs hP hD hS => ?_)
        have hP : va_P D vwCl [(h, .inr (8, [.ref h1, .ref h2, .ref h3, .int gst, .ref h4, .ref h5, .ref h6, .int gty, .int gse, .int gte, .int w16_0, .ref h7, .ref h8, .int gtl])), (h6, .inl (cI, 60, .inl pad)), (h7, .inl (cI, 120, .inl (upd tf (12 * gtl.toInt.toNat + (tm gtl.toInt.toNat).toInt.toNat) 3))), (h8, .inl (cI, 10, .inl (upd tm gtl.toInt.toNat x99)))] H := hP
        have hD : va_D A [(h, .inr (8, [.ref h1, .ref h2, .ref h3, .int gst, .ref h4, .ref h5, .ref h6, .int gty, .int gse, .int gte, .int w16_0, .ref h7, .ref h8, .int gtl])), (h6, .inl (cI, 60, .inl pad)), (h7, .inl (cI, 120, .inl (upd tf (12 * gtl.toInt.toNat + (tm gtl.toInt.toNat).toInt.toNat) 3))), (h8, .inl (cI, 10, .inl (upd tm gtl.toInt.toNat x99)))] := hD
        refine lv_iconst (v := 1) hx hb dX8_readFoot_101 (by decide) ?_
        have hw1 : w16_0.toInt.toNat = gsp.toInt.toNat + 1 := by omega
        have hmm : (upd tm gtl.toInt.toNat x99) = upd tm gtl.toInt.toNat (tm gtl.toInt.toNat + 1) := by rw [e99, e97]
        exact xk_retz (w16_0, (upd tf (12 * gtl.toInt.toNat + (tm gtl.toInt.toNat).toInt.toNat) 3), (upd tm gtl.toInt.toNat x99)) hx hb hr hlocks (by decide) (xk_P hP (by rfl)) (by (try dsimp only); exact Or.inl ⟨rfl, ⟨by omega, by rw [(show bOf (pad gsp.toInt.toNat) = 3 from by rw [b16.2.1]; decide)]; decide⟩, Or.inr ⟨fun hh => a50 ⟨by omega, by rw [hw1]; exact hh.2⟩, by omega, by rw [(show bOf (pad gsp.toInt.toNat) = 3 from by rw [b16.2.1]; decide)]⟩, hmm⟩) hS dX8_readFoot_102 hQ
    · have b16 : ¬ (gsp.toInt < gty.toInt ∧ pad gsp.toInt.toNat = (100 : Int32)) ∧ gsp = w16_0 := b16
      obtain ⟨a16, q16⟩ := b16
      subst q16
      refine lv_if_eq (tgt := 26) hx hb dX8_readFoot_19 (by decide) (fun _ => ?_) (fun c19 => absurd (by decide) c19)
      refine lv_aload_n hx hb dX8_readFoot_26 rfl (lv_at hl 0 rfl) ?_
      refine lv_bipush (v := 113) hx hb dX8_readFoot_27 (by decide) ?_
      refine xk_Vi (As := [.int 113]) (rest := []) hx hb hml hown hts hK hN hZ hP hD hS hA mb_X8_takes mw_4_2 mw_4_4 mw_0_20 (c_X8_takes l D cI cZ cS h h1 h2 h3 h4 h5 h6 h7 h8 gst gty gse gte gsp gtl pad (113 : Int32) (by first | omega | decide | assumption)) [0, 1] 0 8 rfl rfl (by decide) rfl (fun _ => by simp only [List.map]) (by decide) (by decide) rfl hl.1 rfl (Nat.le_of_ble_eq_true rfl) dX8_readFoot_29 ⟨Nat.zero_le _, Nat.zero_le _⟩ (fun r29 u29 H locs hw hP hD hS => ?_)
      obtain ⟨w29_0, rfl⟩ : ∃ z, z = u29 := ⟨_, rfl⟩
      have hP : va_P D vwCl [(h, .inr (8, [.ref h1, .ref h2, .ref h3, .int gst, .ref h4, .ref h5, .ref h6, .int gty, .int gse, .int gte, .int w29_0, .ref h7, .ref h8, .int gtl])), (h6, .inl (cI, 60, .inl pad)), (h7, .inl (cI, 120, .inl tf)), (h8, .inl (cI, 10, .inl tm))] H := hP
      have hD : va_D A [(h, .inr (8, [.ref h1, .ref h2, .ref h3, .int gst, .ref h4, .ref h5, .ref h6, .int gty, .int gse, .int gte, .int w29_0, .ref h7, .ref h8, .int gtl])), (h6, .inl (cI, 60, .inl pad)), (h7, .inl (cI, 120, .inl tf)), (h8, .inl (cI, 10, .inl tm))] := hD
      rcases hw with ⟨rfl, b29⟩ | ⟨rfl, b29⟩
      · have b29 : gsp.toInt < gty.toInt ∧ pad gsp.toInt.toNat = (113 : Int32) ∧ w29_0.toInt = gsp.toInt + 1 := b29
        refine lv_if_eq (tgt := 39) hx hb dX8_readFoot_32 (by decide) (fun c32 => absurd c32 (by decide)) (fun _ => ?_)
        refine lv_iconst (v := 4) hx hb dX8_readFoot_35 (by decide) ?_
        refine lv_goto (tgt := 40) hx hb dX8_readFoot_36 (by decide) ?_
        refine lv_istore_n (lv' := [(1, .int 4), (0, .ref h)]) hx hb dX8_readFoot_40 rfl hl (by decide) rfl (fun ls hl => ?_)
        refine lv_iload_n hx hb dX8_readFoot_41 rfl (lv_at hl 0 rfl) ?_
        refine lv_if_ne (tgt := 47) hx hb dX8_readFoot_42 (by decide) (fun _ => ?_) (fun c42 => absurd c42 (by decide))
        refine lv_aload_n hx hb dX8_readFoot_47 rfl (lv_at hl 1 rfl) ?_
        refine lv_bipush (v := 39) hx hb dX8_readFoot_48 (by decide) ?_
        refine xk_Vi (As := [.int 39]) (rest := []) hx hb hml hown hts hK hN hZ hP hD hS hA mb_X8_takes mw_4_2 mw_4_4 mw_0_20 (c_X8_takes l D cI cZ cS h h1 h2 h3 h4 h5 h6 h7 h8 gst gty gse gte w29_0 gtl pad (39 : Int32) (by first | omega | decide | assumption)) [0, 1] 0 8 rfl rfl (by decide) rfl (fun _ => by simp only [List.map]) (by decide) (by decide) rfl hl.1 rfl (Nat.le_of_ble_eq_true rfl) dX8_readFoot_50 ⟨Nat.zero_le _, Nat.zero_le _⟩ (fun r50 u50 H locs hw hP hD hS => ?_)
        obtain ⟨w50_0, rfl⟩ : ∃ z, z = u50 := ⟨_, rfl⟩
        have hP : va_P D vwCl [(h, .inr (8, [.ref h1, .ref h2, .ref h3, .int gst, .ref h4, .ref h5, .ref h6, .int gty, .int gse, .int gte, .int w50_0, .ref h7, .ref h8, .int gtl])), (h6, .inl (cI, 60, .inl pad)), (h7, .inl (cI, 120, .inl tf)), (h8, .inl (cI, 10, .inl tm))] H := hP
        have hD : va_D A [(h, .inr (8, [.ref h1, .ref h2, .ref h3, .int gst, .ref h4, .ref h5, .ref h6, .int gty, .int gse, .int gte, .int w50_0, .ref h7, .ref h8, .int gtl])), (h6, .inl (cI, 60, .inl pad)), (h7, .inl (cI, 120, .inl tf)), (h8, .inl (cI, 10, .inl tm))] := hD
        rcases hw with ⟨rfl, b50⟩ | ⟨rfl, b50⟩
        · have b50 : w29_0.toInt < gty.toInt ∧ pad w29_0.toInt.toNat = (39 : Int32) ∧ w50_0.toInt = w29_0.toInt + 1 := b50
          refine lv_if_eq (tgt := 61) hx hb dX8_readFoot_53 (by decide) (fun c53 => absurd c53 (by decide)) (fun _ => ?_)
          refine lv_bipush (v := 10) hx hb dX8_readFoot_56 (by decide) ?_
          refine lv_goto (tgt := 62) hx hb dX8_readFoot_58 (by decide) ?_
          refine lv_istore_n (lv' := [(2, .int 10), (1, .int 4), (0, .ref h)]) hx hb dX8_readFoot_62 rfl hl (by decide) rfl (fun ls hl => ?_)
          refine lv_aload_n hx hb dX8_readFoot_63 rfl (lv_at hl 2 rfl) ?_
          refine va_get (D := D) (ci := 8) (v := .ref h7) (C := RX8) (T := TX8) (N := 14) hx hb hts xin8 hown hK hP 0 rfl rfl 11 (by decide) (hts _ (List.mem_cons_of_mem _ mw_3_100)) (fun _ h9 => h9) rfl dX8_readFoot_64 ?_
          refine lv_bipush (v := 12) hx hb dX8_readFoot_67 (by decide) ?_
          refine lv_aload_n hx hb dX8_readFoot_69 rfl (lv_at hl 2 rfl) ?_
          refine va_get (D := D) (ci := 8) (v := .int gtl) (C := RX8) (T := TX8) (N := 14) hx hb hts xin8 hown hK hP 0 rfl rfl 13 (by decide) (hts _ (List.mem_cons_of_mem _ mw_3_102)) (fun _ h9 => h9) rfl dX8_readFoot_70 ?_
          refine lv_imul hx hb dX8_readFoot_73 ?_
          refine lv_topi (fun x73 e73 => ?_)
          have t73 : x73.toInt = 12 * gtl.toInt := by rw [e73]; exact xi_mul (by decide) rfl (by omega) (by omega)
          refine lv_aload_n hx hb dX8_readFoot_74 rfl (lv_at hl 2 rfl) ?_
          refine va_get (D := D) (ci := 8) (v := .ref h8) (C := RX8) (T := TX8) (N := 14) hx hb hts xin8 hown hK hP 0 rfl rfl 12 (by decide) (hts _ (List.mem_cons_of_mem _ mw_3_101)) (fun _ h9 => h9) rfl dX8_readFoot_75 ?_
          refine lv_aload_n hx hb dX8_readFoot_78 rfl (lv_at hl 2 rfl) ?_
          refine va_get (D := D) (ci := 8) (v := .int gtl) (C := RX8) (T := TX8) (N := 14) hx hb hts xin8 hown hK hP 0 rfl rfl 13 (by decide) (hts _ (List.mem_cons_of_mem _ mw_3_102)) (fun _ h9 => h9) rfl dX8_readFoot_79 ?_
          refine va_iald hx hb hK hP 3 0 rfl rfl (xi_in (by omega) (by omega)) dX8_readFoot_82 ?_
          refine xk_top (z := tm gtl.toInt.toNat) rfl ?_
          refine lv_topi (fun x82 e82 => ?_)
          have t82 : x82.toInt = (tm gtl.toInt.toNat).toInt := by rw [e82]
          refine lv_iadd hx hb dX8_readFoot_83 ?_
          refine lv_topi (fun x83 e83 => ?_)
          have t83 : x83.toInt = x73.toInt + x82.toInt := by rw [e83]; exact xi_add rfl rfl (by omega) (by omega)
          refine lv_iload_n hx hb dX8_readFoot_84 rfl (lv_at hl 1 rfl) ?_
          refine lv_iload_n hx hb dX8_readFoot_85 rfl (lv_at hl 0 rfl) ?_
          refine lv_iadd hx hb dX8_readFoot_86 ?_
          refine xk_top (z := 14) (by decide) ?_
          refine va_iast hx hb hK hP hD hS 2 0 rfl rfl (xi_in (by omega) (by omega)) dX8_readFoot_87 (fun H locs hP hD hS => ?_)
          rw [show x83.toNatClampNeg = 12 * gtl.toInt.toNat + (tm gtl.toInt.toNat).toInt.toNat from xk_ix (by omega)] at hP hD
          have hP : va_P D vwCl [(h, .inr (8, [.ref h1, .ref h2, .ref h3, .int gst, .ref h4, .ref h5, .ref h6, .int gty, .int gse, .int gte, .int w50_0, .ref h7, .ref h8, .int gtl])), (h6, .inl (cI, 60, .inl pad)), (h7, .inl (cI, 120, .inl (upd tf (12 * gtl.toInt.toNat + (tm gtl.toInt.toNat).toInt.toNat) 14))), (h8, .inl (cI, 10, .inl tm))] H := hP
          have hD : va_D A [(h, .inr (8, [.ref h1, .ref h2, .ref h3, .int gst, .ref h4, .ref h5, .ref h6, .int gty, .int gse, .int gte, .int w50_0, .ref h7, .ref h8, .int gtl])), (h6, .inl (cI, 60, .inl pad)), (h7, .inl (cI, 120, .inl (upd tf (12 * gtl.toInt.toNat + (tm gtl.toInt.toNat).toInt.toNat) 14))), (h8, .inl (cI, 10, .inl tm))] := hD
          refine lv_aload_n hx hb dX8_readFoot_88 rfl (lv_at hl 2 rfl) ?_
          refine va_get (D := D) (ci := 8) (v := .ref h8) (C := RX8) (T := TX8) (N := 14) hx hb hts xin8 hown hK hP 0 rfl rfl 12 (by decide) (hts _ (List.mem_cons_of_mem _ mw_3_101)) (fun _ h9 => h9) rfl dX8_readFoot_89 ?_
          refine lv_aload_n hx hb dX8_readFoot_92 rfl (lv_at hl 2 rfl) ?_
          refine va_get (D := D) (ci := 8) (v := .int gtl) (C := RX8) (T := TX8) (N := 14) hx hb hts xin8 hown hK hP 0 rfl rfl 13 (by decide) (hts _ (List.mem_cons_of_mem _ mw_3_102)) (fun _ h9 => h9) rfl dX8_readFoot_93 ?_
          refine lv_dup2_11 hx hb dX8_readFoot_96 rfl rfl ?_
          refine va_iald hx hb hK hP 3 0 rfl rfl (xi_in (by omega) (by omega)) dX8_readFoot_97 ?_
          refine xk_top (z := tm gtl.toInt.toNat) rfl ?_
          refine lv_topi (fun x97 e97 => ?_)
          have t97 : x97.toInt = (tm gtl.toInt.toNat).toInt := by rw [e97]
          refine lv_iconst (v := 1) hx hb dX8_readFoot_98 (by decide) ?_
          refine lv_iadd hx hb dX8_readFoot_99 ?_
          refine lv_topi (fun x99 e99 => ?_)
          have t99 : x99.toInt = x97.toInt + 1 := by rw [e99]; exact xi_add rfl (by decide) (by omega) (by omega)
          refine va_iast hx hb hK hP hD hS 3 0 rfl rfl (xi_in (by omega) (by omega)) dX8_readFoot_100 (fun H locs hP hD hS => ?_)
          have hP : va_P D vwCl [(h, .inr (8, [.ref h1, .ref h2, .ref h3, .int gst, .ref h4, .ref h5, .ref h6, .int gty, .int gse, .int gte, .int w50_0, .ref h7, .ref h8, .int gtl])), (h6, .inl (cI, 60, .inl pad)), (h7, .inl (cI, 120, .inl (upd tf (12 * gtl.toInt.toNat + (tm gtl.toInt.toNat).toInt.toNat) 14))), (h8, .inl (cI, 10, .inl (upd tm gtl.toInt.toNat x99)))] H := hP
          have hD : va_D A [(h, .inr (8, [.ref h1, .ref h2, .ref h3, .int gst, .ref h4, .ref h5, .ref h6, .int gty, .int gse, .int gte, .int w50_0, .ref h7, .ref h8, .int gtl])), (h6, .inl (cI, 60, .inl pad)), (h7, .inl (cI, 120, .inl (upd tf (12 * gtl.toInt.toNat + (tm gtl.toInt.toNat).toInt.toNat) 14))), (h8, .inl (cI, 10, .inl (upd tm gtl.toInt.toNat x99)))] := hD
          refine lv_iconst (v := 1) hx hb dX8_readFoot_101 (by decide) ?_
          have hw1 : w29_0.toInt.toNat = gsp.toInt.toNat + 1 := by omega
          have hmm : (upd tm gtl.toInt.toNat x99) = upd tm gtl.toInt.toNat (tm gtl.toInt.toNat + 1) := by rw [e99, e97]
          exact xk_retz (w50_0, (upd tf (12 * gtl.toInt.toNat + (tm gtl.toInt.toNat).toInt.toNat) 14), (upd tm gtl.toInt.toNat x99)) hx hb hr hlocks (by decide) (xk_P hP (by rfl)) (by (try dsimp only); exact Or.inl ⟨rfl, ⟨by omega, by rw [(show bOf (pad gsp.toInt.toNat) = 4 from by rw [b29.2.1]; decide)]; decide⟩, Or.inl ⟨⟨by omega, by rw [← hw1]; exact b50.2.1⟩, by omega, by rw [(show bOf (pad gsp.toInt.toNat) = 4 from by rw [b29.2.1]; decide)]; rfl⟩, hmm⟩) hS dX8_readFoot_102 hQ
        · have b50 : ¬ (w29_0.toInt < gty.toInt ∧ pad w29_0.toInt.toNat = (39 : Int32)) ∧ w29_0 = w50_0 := b50
          obtain ⟨a50, q50⟩ := b50
          subst q50
          refine lv_if_eq (tgt := 61) hx hb dX8_readFoot_53 (by decide) (fun _ => ?_) (fun c53 => absurd (by decide) c53)
          refine lv_iconst (v := 0) hx hb dX8_readFoot_61 (by decide) ?_
          refine lv_istore_n (lv' := [(2, .int 0), (1, .int 4), (0, .ref h)]) hx hb dX8_readFoot_62 rfl hl (by decide) rfl (fun ls hl => ?_)
          refine lv_aload_n hx hb dX8_readFoot_63 rfl (lv_at hl 2 rfl) ?_
          refine va_get (D := D) (ci := 8) (v := .ref h7) (C := RX8) (T := TX8) (N := 14) hx hb hts xin8 hown hK hP 0 rfl rfl 11 (by decide) (hts _ (List.mem_cons_of_mem _ mw_3_100)) (fun _ h9 => h9) rfl dX8_readFoot_64 ?_
          refine lv_bipush (v := 12) hx hb dX8_readFoot_67 (by decide) ?_
          refine lv_aload_n hx hb dX8_readFoot_69 rfl (lv_at hl 2 rfl) ?_
          refine va_get (D := D) (ci := 8) (v := .int gtl) (C := RX8) (T := TX8) (N := 14) hx hb hts xin8 hown hK hP 0 rfl rfl 13 (by decide) (hts _ (List.mem_cons_of_mem _ mw_3_102)) (fun _ h9 => h9) rfl dX8_readFoot_70 ?_
          refine lv_imul hx hb dX8_readFoot_73 ?_
          refine lv_topi (fun x73 e73 => ?_)
          have t73 : x73.toInt = 12 * gtl.toInt := by rw [e73]; exact xi_mul (by decide) rfl (by omega) (by omega)
          refine lv_aload_n hx hb dX8_readFoot_74 rfl (lv_at hl 2 rfl) ?_
          refine va_get (D := D) (ci := 8) (v := .ref h8) (C := RX8) (T := TX8) (N := 14) hx hb hts xin8 hown hK hP 0 rfl rfl 12 (by decide) (hts _ (List.mem_cons_of_mem _ mw_3_101)) (fun _ h9 => h9) rfl dX8_readFoot_75 ?_
          refine lv_aload_n hx hb dX8_readFoot_78 rfl (lv_at hl 2 rfl) ?_
          refine va_get (D := D) (ci := 8) (v := .int gtl) (C := RX8) (T := TX8) (N := 14) hx hb hts xin8 hown hK hP 0 rfl rfl 13 (by decide) (hts _ (List.mem_cons_of_mem _ mw_3_102)) (fun _ h9 => h9) rfl dX8_readFoot_79 ?_
          refine va_iald hx hb hK hP 3 0 rfl rfl (xi_in (by omega) (by omega)) dX8_readFoot_82 ?_
          refine xk_top (z := tm gtl.toInt.toNat) rfl ?_
          refine lv_topi (fun x82 e82 => ?_)
          have t82 : x82.toInt = (tm gtl.toInt.toNat).toInt := by rw [e82]
          refine lv_iadd hx hb dX8_readFoot_83 ?_
          refine lv_topi (fun x83 e83 => ?_)
          have t83 : x83.toInt = x73.toInt + x82.toInt := by rw [e83]; exact xi_add rfl rfl (by omega) (by omega)
          refine lv_iload_n hx hb dX8_readFoot_84 rfl (lv_at hl 1 rfl) ?_
          refine lv_iload_n hx hb dX8_readFoot_85 rfl (lv_at hl 0 rfl) ?_
          refine lv_iadd hx hb dX8_readFoot_86 ?_
          refine xk_top (z := 4) (by decide) ?_
          refine va_iast hx hb hK hP hD hS 2 0 rfl rfl (xi_in (by omega) (by omega)) dX8_readFoot_87 (fun H locs hP hD hS => ?_)
          rw [show x83.toNatClampNeg = 12 * gtl.toInt.toNat + (tm gtl.toInt.toNat).toInt.toNat from xk_ix (by omega)] at hP hD
          have hP : va_P D vwCl [(h, .inr (8, [.ref h1, .ref h2, .ref h3, .int gst, .ref h4, .ref h5, .ref h6, .int gty, .int gse, .int gte, .int w29_0, .ref h7, .ref h8, .int gtl])), (h6, .inl (cI, 60, .inl pad)), (h7, .inl (cI, 120, .inl (upd tf (12 * gtl.toInt.toNat + (tm gtl.toInt.toNat).toInt.toNat) 4))), (h8, .inl (cI, 10, .inl tm))] H := hP
          have hD : va_D A [(h, .inr (8, [.ref h1, .ref h2, .ref h3, .int gst, .ref h4, .ref h5, .ref h6, .int gty, .int gse, .int gte, .int w29_0, .ref h7, .ref h8, .int gtl])), (h6, .inl (cI, 60, .inl pad)), (h7, .inl (cI, 120, .inl (upd tf (12 * gtl.toInt.toNat + (tm gtl.toInt.toNat).toInt.toNat) 4))), (h8, .inl (cI, 10, .inl tm))] := hD
          refine lv_aload_n hx hb dX8_readFoot_88 rfl (lv_at hl 2 rfl) ?_
          refine va_get (D := D) (ci := 8) (v := .ref h8) (C := RX8) (T := TX8) (N := 14) hx hb hts xin8 hown hK hP 0 rfl rfl 12 (by decide) (hts _ (List.mem_cons_of_mem _ mw_3_101)) (fun _ h9 => h9) rfl dX8_readFoot_89 ?_
          refine lv_aload_n hx hb dX8_readFoot_92 rfl (lv_at hl 2 rfl) ?_
          refine va_get (D := D) (ci := 8) (v := .int gtl) (C := RX8) (T := TX8) (N := 14) hx hb hts xin8 hown hK hP 0 rfl rfl 13 (by decide) (hts _ (List.mem_cons_of_mem _ mw_3_102)) (fun _ h9 => h9) rfl dX8_readFoot_93 ?_
          refine lv_dup2_11 hx hb dX8_readFoot_96 rfl rfl ?_
          refine va_iald hx hb hK hP 3 0 rfl rfl (xi_in (by omega) (by omega)) dX8_readFoot_97 ?_
          refine xk_top (z := tm gtl.toInt.toNat) rfl ?_
          refine lv_topi (fun x97 e97 => ?_)
          have t97 : x97.toInt = (tm gtl.toInt.toNat).toInt := by rw [e97]
          refine lv_iconst (v := 1) hx hb dX8_readFoot_98 (by decide) ?_
          refine lv_iadd hx hb dX8_readFoot_99 ?_
          refine lv_topi (fun x99 e99 => ?_)
          have t99 : x99.toInt = x97.toInt + 1 := by rw [e99]; exact xi_add rfl (by decide) (by omega) (by omega)
          refine va_iast hx hb hK hP hD hS 3 0 rfl rfl (xi_in (by omega) (by omega)) dX8_readFoot_100 (fun H locs hP hD hS => ?_)
          have hP : va_P D vwCl [(h, .inr (8, [.ref h1, .ref h2, .ref h3, .int gst, .ref h4, .ref h5, .ref h6, .int gty, .int gse, .int gte, .int w29_0, .ref h7, .ref h8, .int gtl])), (h6, .inl (cI, 60, .inl pad)), (h7, .inl (cI, 120, .inl (upd tf (12 * gtl.toInt.toNat + (tm gtl.toInt.toNat).toInt.toNat) 4))), (h8, .inl (cI, 10, .inl (upd tm gtl.toInt.toNat x99)))] H := hP
          have hD : va_D A [(h, .inr (8, [.ref h1, .ref h2, .ref h3, .int gst, .ref h4, .ref h5, .ref h6, .int gty, .int gse, .int gte, .int w29_0, .ref h7, .ref h8, .int gtl])), (h6, .inl (cI, 60, .inl pad)), (h7, .inl (cI, 120, .inl (upd tf (12 * gtl.toInt.toNat + (tm gtl.toInt.toNat).toInt.toNat) 4))), (h8, .inl (cI, 10, .inl (upd tm gtl.toInt.toNat x99)))] := hD
          refine lv_iconst (v := 1) hx hb dX8_readFoot_101 (by decide) ?_
          have hw1 : w29_0.toInt.toNat = gsp.toInt.toNat + 1 := by omega
          have hmm : (upd tm gtl.toInt.toNat x99) = upd tm gtl.toInt.toNat (tm gtl.toInt.toNat + 1) := by rw [e99, e97]
          exact xk_retz (w29_0, (upd tf (12 * gtl.toInt.toNat + (tm gtl.toInt.toNat).toInt.toNat) 4), (upd tm gtl.toInt.toNat x99)) hx hb hr hlocks (by decide) (xk_P hP (by rfl)) (by (try dsimp only); exact Or.inl ⟨rfl, ⟨by omega, by rw [(show bOf (pad gsp.toInt.toNat) = 4 from by rw [b29.2.1]; decide)]; decide⟩, Or.inr ⟨fun hh => a50 ⟨by omega, by rw [hw1]; exact hh.2⟩, by omega, by rw [(show bOf (pad gsp.toInt.toNat) = 4 from by rw [b29.2.1]; decide)]⟩, hmm⟩) hS dX8_readFoot_102 hQ
      · have b29 : ¬ (gsp.toInt < gty.toInt ∧ pad gsp.toInt.toNat = (113 : Int32)) ∧ gsp = w29_0 := b29
        obtain ⟨a29, q29⟩ := b29
        subst q29
        refine lv_if_eq (tgt := 39) hx hb dX8_readFoot_32 (by decide) (fun _ => ?_) (fun c32 => absurd (by decide) c32)
        refine lv_iconst (v := 0) hx hb dX8_readFoot_39 (by decide) ?_
        refine lv_istore_n (lv' := [(1, .int 0), (0, .ref h)]) hx hb dX8_readFoot_40 rfl hl (by decide) rfl (fun ls hl => ?_)
        refine lv_iload_n hx hb dX8_readFoot_41 rfl (lv_at hl 0 rfl) ?_
        refine lv_if_ne (tgt := 47) hx hb dX8_readFoot_42 (by decide) (fun c42 => absurd (by decide) c42) (fun _ => ?_)
        refine lv_iconst (v := 0) hx hb dX8_readFoot_45 (by decide) ?_
        exact xk_retz (gsp, tf, tm) hx hb hr hlocks (by decide) (xk_P hP (by rfl)) (by (try dsimp only); exact Or.inr ⟨rfl, notFoot (n := gty.toInt.toNat) (fun hh => a3 ⟨by omega, hh.2⟩) (fun hh => a16 ⟨by omega, hh.2⟩) (fun hh => a29 ⟨by omega, hh.2⟩), rfl, rfl, rfl⟩) hS dX8_readFoot_46 hQ

set_option maxHeartbeats 4000000 in
set_option maxRecDepth 100000 in
theorem c_X8_readLine (l : Launch) (D : va_G) (cI cZ cS : ClassId) (h h1 h2 h3 h4 h5 h6 h7 h8 : Nat) (gst gty gse gte gsp gtl : Int32) (pad tf tm : Nat → Int32)  (hsp : 0 ≤ gsp.toInt ∧ gsp.toInt ≤ gty.toInt ∧ gty.toInt ≤ 60) (hgl : 0 ≤ gtl.toInt ∧ gtl.toInt ≤ 9) (hY0 : SynL pad gsp.toInt.toNat gtl.toInt.toNat tf tm) : xMi l yX8_readLine cX8_readLine 2 (some .boolean) ({ frames := 2, cells := 0, slots := 0, locals := 44 } : Room) D (xTy cI cZ cS) [.ref h] [(h, .inr (8, [.ref h1, .ref h2, .ref h3, .int gst, .ref h4, .ref h5, .ref h6, .int gty, .int gse, .int gte, .int gsp, .ref h7, .ref h8, .int gtl])), (h6, .inl (cI, 60, .inl pad)), (h7, .inl (cI, 120, .inl tf)), (h8, .inl (cI, 10, .inl tm))] (fun (r : Int32) (u : (Int32) × (Nat → Int32) × (Nat → Int32)) => (0 ≤ u.1.toInt ∧ u.1.toInt ≤ gty.toInt) ∧ Syn pad gty.toInt.toNat u.1.toInt.toNat gtl.toInt.toNat u.2.1 u.2.2 ∧ ((u.2.2 gtl.toInt.toNat).toInt = 12 ∨ ¬ footS pad gty.toInt.toNat u.1.toInt.toNat) ∧ ((r = 1 ∧ 0 < (u.2.2 gtl.toInt.toNat).toInt) ∨ (r = 0 ∧ (u.2.2 gtl.toInt.toNat).toInt = 0))) (fun (u : (Int32) × (Nat → Int32) × (Nat → Int32)) => [(h, .inr (8, [.ref h1, .ref h2, .ref h3, .int gst, .ref h4, .ref h5, .ref h6, .int gty, .int gse, .int gte, .int u.1, .ref h7, .ref h8, .int (gtl + 1)])), (h6, .inl (cI, 60, .inl pad)), (h7, .inl (cI, 120, .inl u.2.1)), (h8, .inl (cI, 10, .inl u.2.2))]) := by
  refine xk_bodyi (by decide) (Nat.le_of_ble_eq_true rfl) ?_
  intro p e s m below meth c A ls args Q hx hb hr hts hown hlocks hml hin hK hP hD hS hA hN hZ hl hQ
  have hl : lv_has ls 2 [(0, .ref h)] := hl
  refine lv_aload_n hx hb dX8_readLine_0 rfl (lv_at hl 0 rfl) ?_
  refine va_get (D := D) (ci := 8) (v := .ref h8) (C := RX8) (T := TX8) (N := 14) hx hb hts xin8 hown hK hP 0 rfl rfl 12 (by decide) (hts _ (List.mem_cons_of_mem _ mw_3_101)) (fun _ h9 => h9) rfl dX8_readLine_1 ?_
  refine lv_aload_n hx hb dX8_readLine_4 rfl (lv_at hl 0 rfl) ?_
  refine va_get (D := D) (ci := 8) (v := .int gtl) (C := RX8) (T := TX8) (N := 14) hx hb hts xin8 hown hK hP 0 rfl rfl 13 (by decide) (hts _ (List.mem_cons_of_mem _ mw_3_102)) (fun _ h9 => h9) rfl dX8_readLine_5 ?_
  refine lv_iconst (v := 0) hx hb dX8_readLine_8 (by decide) ?_
  refine va_iast hx hb hK hP hD hS 3 0 rfl rfl (xi_in (by omega) (by omega)) dX8_readLine_9 (fun H locs hP hD hS => ?_)
  have hP : va_P D vwCl [(h, .inr (8, [.ref h1, .ref h2, .ref h3, .int gst, .ref h4, .ref h5, .ref h6, .int gty, .int gse, .int gte, .int gsp, .ref h7, .ref h8, .int gtl])), (h6, .inl (cI, 60, .inl pad)), (h7, .inl (cI, 120, .inl tf)), (h8, .inl (cI, 10, .inl (upd tm gtl.toInt.toNat 0)))] H := hP
  have hD : va_D A [(h, .inr (8, [.ref h1, .ref h2, .ref h3, .int gst, .ref h4, .ref h5, .ref h6, .int gty, .int gse, .int gte, .int gsp, .ref h7, .ref h8, .int gtl])), (h6, .inl (cI, 60, .inl pad)), (h7, .inl (cI, 120, .inl tf)), (h8, .inl (cI, 10, .inl (upd tm gtl.toInt.toNat 0)))] := hD
  have L10 : ∀ (n : Nat) (sp : Int32) (tf1 : Nat → Int32) (tm1 : Nat → Int32) (hk : 0 ≤ sp.toInt ∧ sp.toInt ≤ gty.toInt) (hY : Syn pad gty.toInt.toNat sp.toInt.toNat gtl.toInt.toNat tf1 tm1) (hn10 : (gty.toInt - sp.toInt).toNat < n) (H : Heap) (locs : List Loc), va_P D vwCl [(h, .inr (8, [.ref h1, .ref h2, .ref h3, .int gst, .ref h4, .ref h5, .ref h6, .int gty, .int gse, .int gte, .int sp, .ref h7, .ref h8, .int gtl])), (h6, .inl (cI, 60, .inl pad)), (h7, .inl (cI, 120, .inl tf1)), (h8, .inl (cI, 10, .inl tm1))] H → va_D A [(h, .inr (8, [.ref h1, .ref h2, .ref h3, .int gst, .ref h4, .ref h5, .ref h6, .int gty, .int gse, .int gte, .int sp, .ref h7, .ref h8, .int gtl])), (h6, .inl (cI, 60, .inl pad)), (h7, .inl (cI, 120, .inl tf1)), (h8, .inl (cI, 10, .inl tm1))] → va_S A s.heap H locs → ∀ ls : Array Slot, lv_has ls 2 [(0, .ref h)] → W p l e ({ frames := 2, cells := 0, slots := 0, locals := 44 } : Room) s m args below meth c H locs 0 0 Q (F0 m 10 ls []) := by
    intro n
    induction n with
    | zero =>
      intro sp tf1 tm1 hk hY hn10
      exact absurd hn10 (Nat.not_lt_zero _)
    | succ n ih10 =>
      intro sp tf1 tm1 hk hY hn10 H locs hP hD hS ls hl
      have hF := Syn_F hY
      refine lv_aload_n hx hb dX8_readLine_10 rfl (lv_at hl 0 rfl) ?_
      refine va_get (D := D) (ci := 8) (v := .ref h8) (C := RX8) (T := TX8) (N := 14) hx hb hts xin8 hown hK hP 0 rfl rfl 12 (by decide) (hts _ (List.mem_cons_of_mem _ mw_3_101)) (fun _ h9 => h9) rfl dX8_readLine_11 ?_
      refine lv_aload_n hx hb dX8_readLine_14 rfl (lv_at hl 0 rfl) ?_
      refine va_get (D := D) (ci := 8) (v := .int gtl) (C := RX8) (T := TX8) (N := 14) hx hb hts xin8 hown hK hP 0 rfl rfl 13 (by decide) (hts _ (List.mem_cons_of_mem _ mw_3_102)) (fun _ h9 => h9) rfl dX8_readLine_15 ?_
      refine va_iald hx hb hK hP 3 0 rfl rfl (xi_in (by omega) (by omega)) dX8_readLine_18 ?_
      refine xk_top (z := tm1 gtl.toInt.toNat) rfl ?_
      refine lv_topi (fun x18 e18 => ?_)
      have t18 : x18.toInt = (tm1 gtl.toInt.toNat).toInt := by rw [e18]
      refine lv_bipush (v := 12) hx hb dX8_readLine_19 (by decide) ?_
      refine lv_icmp_ge (tgt := 34) hx hb dX8_readLine_21 (by decide) (fun c21 => ?_) (fun c21 => ?_)
      · have t21 : 12 ≤ x18.toInt := xi_le (by decide) rfl c21
        refine lv_aload_n hx hb dX8_readLine_34 rfl (lv_at hl 0 rfl) ?_
        refine va_get (D := D) (ci := 8) (v := .ref h8) (C := RX8) (T := TX8) (N := 14) hx hb hts xin8 hown hK hP 0 rfl rfl 12 (by decide) (hts _ (List.mem_cons_of_mem _ mw_3_101)) (fun _ h9 => h9) rfl dX8_readLine_35 ?_
        refine lv_aload_n hx hb dX8_readLine_38 rfl (lv_at hl 0 rfl) ?_
        refine va_get (D := D) (ci := 8) (v := .int gtl) (C := RX8) (T := TX8) (N := 14) hx hb hts xin8 hown hK hP 0 rfl rfl 13 (by decide) (hts _ (List.mem_cons_of_mem _ mw_3_102)) (fun _ h9 => h9) rfl dX8_readLine_39 ?_
        refine va_iald hx hb hK hP 3 0 rfl rfl (xi_in (by omega) (by omega)) dX8_readLine_42 ?_
        refine xk_top (z := tm1 gtl.toInt.toNat) rfl ?_
        refine lv_topi (fun x42 e42 => ?_)
        have t42 : x42.toInt = (tm1 gtl.toInt.toNat).toInt := by rw [e42]
        refine lv_if_le (tgt := 50) hx hb dX8_readLine_43 (by decide) (fun c43 => ?_) (fun c43 => ?_)
        · have t43 : x42.toInt ≤ 0 := xi_le rfl (by decide) c43
          refine lv_iconst (v := 0) hx hb dX8_readLine_50 (by decide) ?_
          refine lv_istore_n (lv' := [(1, .int 0), (0, .ref h)]) hx hb dX8_readLine_51 rfl hl (by decide) rfl (fun ls hl => ?_)
          refine lv_aload_n hx hb dX8_readLine_52 rfl (lv_at hl 1 rfl) ?_
          refine lv_dup hx hb dX8_readLine_53 rfl ?_
          refine va_get (D := D) (ci := 8) (v := .int gtl) (C := RX8) (T := TX8) (N := 14) hx hb hts xin8 hown hK hP 0 rfl rfl 13 (by decide) (hts _ (List.mem_cons_of_mem _ mw_3_102)) (fun _ h9 => h9) rfl dX8_readLine_54 ?_
          refine lv_iconst (v := 1) hx hb dX8_readLine_57 (by decide) ?_
          refine lv_iadd hx hb dX8_readLine_58 ?_
          refine lv_topi (fun x58 e58 => ?_)
          have t58 : x58.toInt = gtl.toInt + 1 := by rw [e58]; exact xi_add rfl (by decide) (by omega) (by omega)
          refine va_put (D := D) (ci := 8) (v := .int x58) (ty := .int) (C := RX8) (T := TX8) (N := 14) hx hb hts xin8 tyX8 tyX8_ok nmX8 hown hK hP hD hS 0 rfl rfl 13 (by decide) (hts _ (List.mem_cons_of_mem _ mw_3_102)) (fun _ h9 => h9) rfl (by decide +kernel) rfl rfl (Nat.le_of_ble_eq_true rfl) dX8_readLine_59 (fun H locs hP hD hS => ?_)
          have hP : va_P D vwCl [(h, .inr (8, [.ref h1, .ref h2, .ref h3, .int gst, .ref h4, .ref h5, .ref h6, .int gty, .int gse, .int gte, .int sp, .ref h7, .ref h8, .int x58])), (h6, .inl (cI, 60, .inl pad)), (h7, .inl (cI, 120, .inl tf1)), (h8, .inl (cI, 10, .inl tm1))] H := hP
          have hD : va_D A [(h, .inr (8, [.ref h1, .ref h2, .ref h3, .int gst, .ref h4, .ref h5, .ref h6, .int gty, .int gse, .int gte, .int sp, .ref h7, .ref h8, .int x58])), (h6, .inl (cI, 60, .inl pad)), (h7, .inl (cI, 120, .inl tf1)), (h8, .inl (cI, 10, .inl tm1))] := hD
          refine lv_iload_n hx hb dX8_readLine_62 rfl (lv_at hl 0 rfl) ?_
          exact xk_retz (sp, tf1, tm1) hx hb hr hlocks (by decide) (xk_P hP (by rw [e58])) (by (try dsimp only); exact ⟨hk, hY, Or.inl (by omega), Or.inr ⟨rfl, by omega⟩⟩) hS dX8_readLine_63 hQ
        · have t43 : 0 < x42.toInt := xi_nle rfl (by decide) c43
          refine lv_iconst (v := 1) hx hb dX8_readLine_46 (by decide) ?_
          refine lv_goto (tgt := 51) hx hb dX8_readLine_47 (by decide) ?_
          refine lv_istore_n (lv' := [(1, .int 1), (0, .ref h)]) hx hb dX8_readLine_51 rfl hl (by decide) rfl (fun ls hl => ?_)
          refine lv_aload_n hx hb dX8_readLine_52 rfl (lv_at hl 1 rfl) ?_
          refine lv_dup hx hb dX8_readLine_53 rfl ?_
          refine va_get (D := D) (ci := 8) (v := .int gtl) (C := RX8) (T := TX8) (N := 14) hx hb hts xin8 hown hK hP 0 rfl rfl 13 (by decide) (hts _ (List.mem_cons_of_mem _ mw_3_102)) (fun _ h9 => h9) rfl dX8_readLine_54 ?_
          refine lv_iconst (v := 1) hx hb dX8_readLine_57 (by decide) ?_
          refine lv_iadd hx hb dX8_readLine_58 ?_
          refine lv_topi (fun x58 e58 => ?_)
          have t58 : x58.toInt = gtl.toInt + 1 := by rw [e58]; exact xi_add rfl (by decide) (by omega) (by omega)
          refine va_put (D := D) (ci := 8) (v := .int x58) (ty := .int) (C := RX8) (T := TX8) (N := 14) hx hb hts xin8 tyX8 tyX8_ok nmX8 hown hK hP hD hS 0 rfl rfl 13 (by decide) (hts _ (List.mem_cons_of_mem _ mw_3_102)) (fun _ h9 => h9) rfl (by decide +kernel) rfl rfl (Nat.le_of_ble_eq_true rfl) dX8_readLine_59 (fun H locs hP hD hS => ?_)
          have hP : va_P D vwCl [(h, .inr (8, [.ref h1, .ref h2, .ref h3, .int gst, .ref h4, .ref h5, .ref h6, .int gty, .int gse, .int gte, .int sp, .ref h7, .ref h8, .int x58])), (h6, .inl (cI, 60, .inl pad)), (h7, .inl (cI, 120, .inl tf1)), (h8, .inl (cI, 10, .inl tm1))] H := hP
          have hD : va_D A [(h, .inr (8, [.ref h1, .ref h2, .ref h3, .int gst, .ref h4, .ref h5, .ref h6, .int gty, .int gse, .int gte, .int sp, .ref h7, .ref h8, .int x58])), (h6, .inl (cI, 60, .inl pad)), (h7, .inl (cI, 120, .inl tf1)), (h8, .inl (cI, 10, .inl tm1))] := hD
          refine lv_iload_n hx hb dX8_readLine_62 rfl (lv_at hl 0 rfl) ?_
          exact xk_retz (sp, tf1, tm1) hx hb hr hlocks (by decide) (xk_P hP (by rw [e58])) (by (try dsimp only); exact ⟨hk, hY, Or.inl (by omega), Or.inl ⟨rfl, by omega⟩⟩) hS dX8_readLine_63 hQ
      · have t21 : x18.toInt < 12 := xi_nle (by decide) rfl c21
        refine lv_aload_n hx hb dX8_readLine_24 rfl (lv_at hl 0 rfl) ?_
        refine xk_Vi (As := []) (rest := []) hx hb hml hown hts hK hN hZ hP hD hS hA mb_X8_readFoot mw_3_238 mw_4_0 mw_0_19 (c_X8_readFoot l D cI cZ cS h h1 h2 h3 h4 h5 h6 h7 h8 gst gty gse gte sp gtl pad tf1 tm1 (by omega) (by omega) (by omega)) [0, 1, 2, 3] 0 8 rfl rfl (by decide) rfl (fun _ => by simp only [List.map]) (by decide) (by decide) rfl hl.1 rfl (Nat.le_of_ble_eq_true rfl) dX8_readLine_25 ⟨Nat.zero_le _, Nat.zero_le _⟩ (fun r25 u25 H locs hw hP hD hS => ?_)
        obtain ⟨w25_0, w25_1, w25_2⟩ := u25
        have hP : va_P D vwCl [(h, .inr (8, [.ref h1, .ref h2, .ref h3, .int gst, .ref h4, .ref h5, .ref h6, .int gty, .int gse, .int gte, .int w25_0, .ref h7, .ref h8, .int gtl])), (h6, .inl (cI, 60, .inl pad)), (h7, .inl (cI, 120, .inl w25_1)), (h8, .inl (cI, 10, .inl w25_2))] H := hP
        have hD : va_D A [(h, .inr (8, [.ref h1, .ref h2, .ref h3, .int gst, .ref h4, .ref h5, .ref h6, .int gty, .int gse, .int gte, .int w25_0, .ref h7, .ref h8, .int gtl])), (h6, .inl (cI, 60, .inl pad)), (h7, .inl (cI, 120, .inl w25_1)), (h8, .inl (cI, 10, .inl w25_2))] := hD
        rcases hw with ⟨rfl, b25⟩ | ⟨rfl, b25⟩
        · have b25 : footS pad gty.toInt.toNat sp.toInt.toNat ∧ ((mkS pad gty.toInt.toNat sp.toInt.toNat ∧ w25_0.toInt = sp.toInt + 2 ∧ w25_1 = upd tf1 (12 * gtl.toInt.toNat + (tm1 gtl.toInt.toNat).toInt.toNat) (bOf (pad sp.toInt.toNat) + 10)) ∨ (¬ mkS pad gty.toInt.toNat sp.toInt.toNat ∧ w25_0.toInt = sp.toInt + 1 ∧ w25_1 = upd tf1 (12 * gtl.toInt.toNat + (tm1 gtl.toInt.toNat).toInt.toNat) (bOf (pad sp.toInt.toNat)))) ∧ w25_2 = upd tm1 gtl.toInt.toNat (tm1 gtl.toInt.toNat + 1) := b25
          refine lv_if_eq (tgt := 34) hx hb dX8_readLine_28 (by decide) (fun c28 => absurd c28 (by decide)) (fun _ => ?_)
          refine lv_goto (tgt := 10) hx hb dX8_readLine_31 (by decide) ?_
          have hq := Syn_s hk.1 hY (by omega) b25
          have hlt : sp.toInt.toNat < gty.toInt.toNat := b25.1.1
          have hmk : mkS pad gty.toInt.toNat sp.toInt.toNat → sp.toInt + 1 < gty.toInt := fun hh => by have := hh.1; omega
          exact ih10  w25_0 w25_1 w25_2 (by rcases b25.2.1 with ⟨q0, q, -⟩ | ⟨-, q, -⟩; (have := hmk q0; omega); omega) (by exact hq) (by rcases b25.2.1 with ⟨-, q, -⟩ | ⟨-, q, -⟩ <;> omega) _ _ hP hD hS ls (lv_sub hl [0] rfl)
        · have b25 : ¬ footS pad gty.toInt.toNat sp.toInt.toNat ∧ sp = w25_0 ∧ tf1 = w25_1 ∧ tm1 = w25_2 := b25
          obtain ⟨a25, q1, q2, q3⟩ := b25
          subst q1
          subst q2
          subst q3
          refine lv_if_eq (tgt := 34) hx hb dX8_readLine_28 (by decide) (fun _ => ?_) (fun c28 => absurd (by decide) c28)
          refine lv_aload_n hx hb dX8_readLine_34 rfl (lv_at hl 0 rfl) ?_
          refine va_get (D := D) (ci := 8) (v := .ref h8) (C := RX8) (T := TX8) (N := 14) hx hb hts xin8 hown hK hP 0 rfl rfl 12 (by decide) (hts _ (List.mem_cons_of_mem _ mw_3_101)) (fun _ h9 => h9) rfl dX8_readLine_35 ?_
          refine lv_aload_n hx hb dX8_readLine_38 rfl (lv_at hl 0 rfl) ?_
          refine va_get (D := D) (ci := 8) (v := .int gtl) (C := RX8) (T := TX8) (N := 14) hx hb hts xin8 hown hK hP 0 rfl rfl 13 (by decide) (hts _ (List.mem_cons_of_mem _ mw_3_102)) (fun _ h9 => h9) rfl dX8_readLine_39 ?_
          refine va_iald hx hb hK hP 3 0 rfl rfl (xi_in (by omega) (by omega)) dX8_readLine_42 ?_
          refine xk_top (z := tm1 gtl.toInt.toNat) rfl ?_
          refine lv_topi (fun x42 e42 => ?_)
          have t42 : x42.toInt = (tm1 gtl.toInt.toNat).toInt := by rw [e42]
          refine lv_if_le (tgt := 50) hx hb dX8_readLine_43 (by decide) (fun c43 => ?_) (fun c43 => ?_)
          · have t43 : x42.toInt ≤ 0 := xi_le rfl (by decide) c43
            refine lv_iconst (v := 0) hx hb dX8_readLine_50 (by decide) ?_
            refine lv_istore_n (lv' := [(1, .int 0), (0, .ref h)]) hx hb dX8_readLine_51 rfl hl (by decide) rfl (fun ls hl => ?_)
            refine lv_aload_n hx hb dX8_readLine_52 rfl (lv_at hl 1 rfl) ?_
            refine lv_dup hx hb dX8_readLine_53 rfl ?_
            refine va_get (D := D) (ci := 8) (v := .int gtl) (C := RX8) (T := TX8) (N := 14) hx hb hts xin8 hown hK hP 0 rfl rfl 13 (by decide) (hts _ (List.mem_cons_of_mem _ mw_3_102)) (fun _ h9 => h9) rfl dX8_readLine_54 ?_
            refine lv_iconst (v := 1) hx hb dX8_readLine_57 (by decide) ?_
            refine lv_iadd hx hb dX8_readLine_58 ?_
            refine lv_topi (fun x58 e58 => ?_)
            have t58 : x58.toInt = gtl.toInt + 1 := by rw [e58]; exact xi_add rfl (by decide) (by omega) (by omega)
            refine va_put (D := D) (ci := 8) (v := .int x58) (ty := .int) (C := RX8) (T := TX8) (N := 14) hx hb hts xin8 tyX8 tyX8_ok nmX8 hown hK hP hD hS 0 rfl rfl 13 (by decide) (hts _ (List.mem_cons_of_mem _ mw_3_102)) (fun _ h9 => h9) rfl (by decide +kernel) rfl rfl (Nat.le_of_ble_eq_true rfl) dX8_readLine_59 (fun H locs hP hD hS => ?_)
            have hP : va_P D vwCl [(h, .inr (8, [.ref h1, .ref h2, .ref h3, .int gst, .ref h4, .ref h5, .ref h6, .int gty, .int gse, .int gte, .int sp, .ref h7, .ref h8, .int x58])), (h6, .inl (cI, 60, .inl pad)), (h7, .inl (cI, 120, .inl tf1)), (h8, .inl (cI, 10, .inl tm1))] H := hP
            have hD : va_D A [(h, .inr (8, [.ref h1, .ref h2, .ref h3, .int gst, .ref h4, .ref h5, .ref h6, .int gty, .int gse, .int gte, .int sp, .ref h7, .ref h8, .int x58])), (h6, .inl (cI, 60, .inl pad)), (h7, .inl (cI, 120, .inl tf1)), (h8, .inl (cI, 10, .inl tm1))] := hD
            refine lv_iload_n hx hb dX8_readLine_62 rfl (lv_at hl 0 rfl) ?_
            exact xk_retz (sp, tf1, tm1) hx hb hr hlocks (by decide) (xk_P hP (by rw [e58])) (by (try dsimp only); exact ⟨hk, hY, Or.inr a25, Or.inr ⟨rfl, by omega⟩⟩) hS dX8_readLine_63 hQ
          · have t43 : 0 < x42.toInt := xi_nle rfl (by decide) c43
            refine lv_iconst (v := 1) hx hb dX8_readLine_46 (by decide) ?_
            refine lv_goto (tgt := 51) hx hb dX8_readLine_47 (by decide) ?_
            refine lv_istore_n (lv' := [(1, .int 1), (0, .ref h)]) hx hb dX8_readLine_51 rfl hl (by decide) rfl (fun ls hl => ?_)
            refine lv_aload_n hx hb dX8_readLine_52 rfl (lv_at hl 1 rfl) ?_
            refine lv_dup hx hb dX8_readLine_53 rfl ?_
            refine va_get (D := D) (ci := 8) (v := .int gtl) (C := RX8) (T := TX8) (N := 14) hx hb hts xin8 hown hK hP 0 rfl rfl 13 (by decide) (hts _ (List.mem_cons_of_mem _ mw_3_102)) (fun _ h9 => h9) rfl dX8_readLine_54 ?_
            refine lv_iconst (v := 1) hx hb dX8_readLine_57 (by decide) ?_
            refine lv_iadd hx hb dX8_readLine_58 ?_
            refine lv_topi (fun x58 e58 => ?_)
            have t58 : x58.toInt = gtl.toInt + 1 := by rw [e58]; exact xi_add rfl (by decide) (by omega) (by omega)
            refine va_put (D := D) (ci := 8) (v := .int x58) (ty := .int) (C := RX8) (T := TX8) (N := 14) hx hb hts xin8 tyX8 tyX8_ok nmX8 hown hK hP hD hS 0 rfl rfl 13 (by decide) (hts _ (List.mem_cons_of_mem _ mw_3_102)) (fun _ h9 => h9) rfl (by decide +kernel) rfl rfl (Nat.le_of_ble_eq_true rfl) dX8_readLine_59 (fun H locs hP hD hS => ?_)
            have hP : va_P D vwCl [(h, .inr (8, [.ref h1, .ref h2, .ref h3, .int gst, .ref h4, .ref h5, .ref h6, .int gty, .int gse, .int gte, .int sp, .ref h7, .ref h8, .int x58])), (h6, .inl (cI, 60, .inl pad)), (h7, .inl (cI, 120, .inl tf1)), (h8, .inl (cI, 10, .inl tm1))] H := hP
            have hD : va_D A [(h, .inr (8, [.ref h1, .ref h2, .ref h3, .int gst, .ref h4, .ref h5, .ref h6, .int gty, .int gse, .int gte, .int sp, .ref h7, .ref h8, .int x58])), (h6, .inl (cI, 60, .inl pad)), (h7, .inl (cI, 120, .inl tf1)), (h8, .inl (cI, 10, .inl tm1))] := hD
            refine lv_iload_n hx hb dX8_readLine_62 rfl (lv_at hl 0 rfl) ?_
            exact xk_retz (sp, tf1, tm1) hx hb hr hlocks (by decide) (xk_P hP (by rw [e58])) (by (try dsimp only); exact ⟨hk, hY, Or.inr a25, Or.inl ⟨rfl, by omega⟩⟩) hS dX8_readLine_63 hQ
  exact L10 (gty.toInt.toNat + 1) gsp tf (upd tm gtl.toInt.toNat 0) (by omega) (by exact Syn_0 hY0) (by omega) _ _ hP hD hS ls (lv_sub hl [0] rfl)

set_option maxHeartbeats 4000000 in
set_option maxRecDepth 100000 in
theorem c_X8_readPad (l : Launch) (D : va_G) (cI cZ cS : ClassId) (h h1 h2 h3 h4 h5 h6 h7 h8 : Nat) (gst gty gse gte gsp gtl : Int32) (pad tf tm : Nat → Int32)  (hsp : 0 ≤ gsp.toInt ∧ gsp.toInt ≤ gty.toInt ∧ gty.toInt ≤ 60) : xMi l yX8_readPad cX8_readPad 2 (some .boolean) ({ frames := 3, cells := 0, slots := 0, locals := 65 } : Room) D (xTy cI cZ cS) [.ref h] [(h, .inr (8, [.ref h1, .ref h2, .ref h3, .int gst, .ref h4, .ref h5, .ref h6, .int gty, .int gse, .int gte, .int gsp, .ref h7, .ref h8, .int gtl])), (h6, .inl (cI, 60, .inl pad)), (h7, .inl (cI, 120, .inl tf)), (h8, .inl (cI, 10, .inl tm))] (fun (r : Int32) (u : (Int32) × (Int32) × (Nat → Int32) × (Nat → Int32)) => ((r = 1 ∧ (FN pad gty.toInt.toNat ∧ u.1 = gty ∧ PadT pad gty.toInt.toNat u.2.1 u.2.2.1 u.2.2.2)) ∨ (r = 0 ∧ (FA pad gty.toInt.toNat u.1.toInt.toNat ∧ 0 ≤ u.1.toInt ∧ u.1.toInt ≤ gty.toInt)))) (fun (u : (Int32) × (Int32) × (Nat → Int32) × (Nat → Int32)) => [(h, .inr (8, [.ref h1, .ref h2, .ref h3, .int gst, .ref h4, .ref h5, .ref h6, .int gty, .int gse, .int gte, .int u.1, .ref h7, .ref h8, .int u.2.1])), (h6, .inl (cI, 60, .inl pad)), (h7, .inl (cI, 120, .inl u.2.2.1)), (h8, .inl (cI, 10, .inl u.2.2.2))]) := by
  refine xk_bodyi (by decide) (Nat.le_of_ble_eq_true rfl) ?_
  intro p e s m below meth c A ls args Q hx hb hr hts hown hlocks hml hin hK hP hD hS hA hN hZ hl hQ
  have hl : lv_has ls 2 [(0, .ref h)] := hl
  refine lv_aload_n hx hb dX8_readPad_0 rfl (lv_at hl 0 rfl) ?_
  refine lv_iconst (v := 0) hx hb dX8_readPad_1 (by decide) ?_
  refine va_put (D := D) (ci := 8) (v := .int 0) (ty := .int) (C := RX8) (T := TX8) (N := 14) hx hb hts xin8 tyX8 tyX8_ok nmX8 hown hK hP hD hS 0 rfl rfl 10 (by decide) (hts _ (List.mem_cons_of_mem _ mw_3_99)) (fun _ h9 => h9) rfl (by decide +kernel) rfl rfl (Nat.le_of_ble_eq_true rfl) dX8_readPad_2 (fun H locs hP hD hS => ?_)
  have hP : va_P D vwCl [(h, .inr (8, [.ref h1, .ref h2, .ref h3, .int gst, .ref h4, .ref h5, .ref h6, .int gty, .int gse, .int gte, .int 0, .ref h7, .ref h8, .int gtl])), (h6, .inl (cI, 60, .inl pad)), (h7, .inl (cI, 120, .inl tf)), (h8, .inl (cI, 10, .inl tm))] H := hP
  have hD : va_D A [(h, .inr (8, [.ref h1, .ref h2, .ref h3, .int gst, .ref h4, .ref h5, .ref h6, .int gty, .int gse, .int gte, .int 0, .ref h7, .ref h8, .int gtl])), (h6, .inl (cI, 60, .inl pad)), (h7, .inl (cI, 120, .inl tf)), (h8, .inl (cI, 10, .inl tm))] := hD
  refine lv_aload_n hx hb dX8_readPad_5 rfl (lv_at hl 0 rfl) ?_
  refine lv_iconst (v := 0) hx hb dX8_readPad_6 (by decide) ?_
  refine va_put (D := D) (ci := 8) (v := .int 0) (ty := .int) (C := RX8) (T := TX8) (N := 14) hx hb hts xin8 tyX8 tyX8_ok nmX8 hown hK hP hD hS 0 rfl rfl 13 (by decide) (hts _ (List.mem_cons_of_mem _ mw_3_102)) (fun _ h9 => h9) rfl (by decide +kernel) rfl rfl (Nat.le_of_ble_eq_true rfl) dX8_readPad_7 (fun H locs hP hD hS => ?_)
  have hP : va_P D vwCl [(h, .inr (8, [.ref h1, .ref h2, .ref h3, .int gst, .ref h4, .ref h5, .ref h6, .int gty, .int gse, .int gte, .int 0, .ref h7, .ref h8, .int 0])), (h6, .inl (cI, 60, .inl pad)), (h7, .inl (cI, 120, .inl tf)), (h8, .inl (cI, 10, .inl tm))] H := hP
  have hD : va_D A [(h, .inr (8, [.ref h1, .ref h2, .ref h3, .int gst, .ref h4, .ref h5, .ref h6, .int gty, .int gse, .int gte, .int 0, .ref h7, .ref h8, .int 0])), (h6, .inl (cI, 60, .inl pad)), (h7, .inl (cI, 120, .inl tf)), (h8, .inl (cI, 10, .inl tm))] := hD
  refine lv_aload_n hx hb dX8_readPad_10 rfl (lv_at hl 0 rfl) ?_
  refine xk_Vi (As := []) (rest := []) hx hb hml hown hts hK hN hZ hP hD hS hA mb_X8_readLine mw_3_234 mw_3_236 mw_0_18 (c_X8_readLine l D cI cZ cS h h1 h2 h3 h4 h5 h6 h7 h8 gst gty gse gte (0 : Int32) (0 : Int32) pad tf tm (by rw [show (0 : Int32).toInt = 0 from by decide]; omega) (by decide) (by exact SynL_0 pad tf tm)) [0, 1, 2, 3] 0 8 rfl rfl (by decide) rfl (fun _ => by simp only [List.map]) (by decide) (by decide) rfl hl.1 rfl (Nat.le_of_ble_eq_true rfl) dX8_readPad_11 ⟨Nat.zero_le _, Nat.zero_le _⟩ (fun r11 u11 H locs hw hP hD hS => ?_)
  obtain ⟨w11_0, w11_1, w11_2⟩ := u11
  have hP : va_P D vwCl [(h, .inr (8, [.ref h1, .ref h2, .ref h3, .int gst, .ref h4, .ref h5, .ref h6, .int gty, .int gse, .int gte, .int w11_0, .ref h7, .ref h8, .int ((0 : Int32) + 1)])), (h6, .inl (cI, 60, .inl pad)), (h7, .inl (cI, 120, .inl w11_1)), (h8, .inl (cI, 10, .inl w11_2))] H := hP
  have hD : va_D A [(h, .inr (8, [.ref h1, .ref h2, .ref h3, .int gst, .ref h4, .ref h5, .ref h6, .int gty, .int gse, .int gte, .int w11_0, .ref h7, .ref h8, .int ((0 : Int32) + 1)])), (h6, .inl (cI, 60, .inl pad)), (h7, .inl (cI, 120, .inl w11_1)), (h8, .inl (cI, 10, .inl w11_2))] := hD
  have p11 : (0 ≤ w11_0.toInt ∧ w11_0.toInt ≤ gty.toInt) ∧ Syn pad gty.toInt.toNat w11_0.toInt.toNat 0 w11_1 w11_2 ∧ ((w11_2 0).toInt = 12 ∨ ¬ footS pad gty.toInt.toNat w11_0.toInt.toNat) ∧ ((r11 = 1 ∧ 0 < (w11_2 0).toInt) ∨ (r11 = 0 ∧ (w11_2 0).toInt = 0)) := hw
  refine lv_istore_n (lv' := [(1, .int r11), (0, .ref h)]) hx hb dX8_readPad_14 rfl hl (by decide) rfl (fun ls hl => ?_)
  obtain ⟨k1, k2, k3, k4⟩ := p11
  have L15 : ∀ (n : Nat) (sp : Int32) (gl : Int32) (tf1 : Nat → Int32) (tm1 : Nat → Int32) (g : Int32) (hk : (0 ≤ sp.toInt ∧ sp.toInt ≤ gty.toInt) ∧ 1 ≤ gl.toInt ∧ gl.toInt ≤ 10) (hY : Syn pad gty.toInt.toNat sp.toInt.toNat (gl.toInt.toNat - 1) tf1 tm1 ∧ ((tm1 (gl.toInt.toNat - 1)).toInt = 12 ∨ ¬ footS pad gty.toInt.toNat sp.toInt.toNat) ∧ ((g = 1 ∧ 0 < (tm1 (gl.toInt.toNat - 1)).toInt) ∨ (g = 0 ∧ (tm1 (gl.toInt.toNat - 1)).toInt = 0))) (hn15 : (10 - gl.toInt).toNat < n) (H : Heap) (locs : List Loc), va_P D vwCl [(h, .inr (8, [.ref h1, .ref h2, .ref h3, .int gst, .ref h4, .ref h5, .ref h6, .int gty, .int gse, .int gte, .int sp, .ref h7, .ref h8, .int gl])), (h6, .inl (cI, 60, .inl pad)), (h7, .inl (cI, 120, .inl tf1)), (h8, .inl (cI, 10, .inl tm1))] H → va_D A [(h, .inr (8, [.ref h1, .ref h2, .ref h3, .int gst, .ref h4, .ref h5, .ref h6, .int gty, .int gse, .int gte, .int sp, .ref h7, .ref h8, .int gl])), (h6, .inl (cI, 60, .inl pad)), (h7, .inl (cI, 120, .inl tf1)), (h8, .inl (cI, 10, .inl tm1))] → va_S A s.heap H locs → ∀ ls : Array Slot, lv_has ls 2 [(1, .int g), (0, .ref h)] → W p l e ({ frames := 3, cells := 0, slots := 0, locals := 65 } : Room) s m args below meth c H locs 0 0 Q (F0 m 15 ls []) := by
    intro n
    induction n with
    | zero =>
      intro sp gl tf1 tm1 g hk hY hn15
      exact absurd hn15 (Nat.not_lt_zero _)
    | succ n ih15 =>
      intro sp gl tf1 tm1 g hk hY hn15 H locs hP hD hS ls hl
      obtain ⟨hY1, hY2, hY3⟩ := hY
      refine lv_iload_n hx hb dX8_readPad_15 rfl (lv_at hl 0 rfl) ?_
      refine lv_if_eq (tgt := 45) hx hb dX8_readPad_16 (by decide) (fun c16 => ?_) (fun c16 => ?_)
      · have t16 : g.toInt = 0 := xi_eq rfl (by decide) c16
        have d16 : g = 0 := c16
        refine lv_iload_n hx hb dX8_readPad_45 rfl (lv_at hl 0 rfl) ?_
        refine lv_if_eq (tgt := 64) hx hb dX8_readPad_46 (by decide) (fun c46 => ?_) (fun c46 => ?_)
        · have t46 : g.toInt = 0 := xi_eq rfl (by decide) c46
          have d46 : g = 0 := c46
          refine lv_iconst (v := 0) hx hb dX8_readPad_64 (by decide) ?_
          have hzero : (tm1 (gl.toInt.toNat - 1)).toInt = 0 := hY3.elim (fun q => absurd (q.1.symm.trans d46) (by decide)) (fun q => q.2)
          have hfa := Syn_fault0 hY1 hzero (by omega) (hY2.resolve_left (by omega))
          exact xk_retz (sp, gl, tf1, tm1) hx hb hr hlocks (by decide) (xk_P hP (by rfl)) (by (try dsimp only); exact Or.inr ⟨rfl, hfa, hk.1⟩) hS dX8_readPad_65 hQ
        · have t46 : ¬ g.toInt = 0 := xi_ne rfl (by decide) c46
          have d46 : ¬ g = 0 := c46
          refine lv_aload_n hx hb dX8_readPad_49 rfl (lv_at hl 1 rfl) ?_
          refine va_get (D := D) (ci := 8) (v := .int sp) (C := RX8) (T := TX8) (N := 14) hx hb hts xin8 hown hK hP 0 rfl rfl 10 (by decide) (hts _ (List.mem_cons_of_mem _ mw_3_99)) (fun _ h9 => h9) rfl dX8_readPad_50 ?_
          refine lv_aload_n hx hb dX8_readPad_53 rfl (lv_at hl 1 rfl) ?_
          refine va_get (D := D) (ci := 8) (v := .int gty) (C := RX8) (T := TX8) (N := 14) hx hb hts xin8 hown hK hP 0 rfl rfl 7 (by decide) (hts _ (List.mem_cons_of_mem _ mw_3_96)) (fun _ h9 => h9) rfl dX8_readPad_54 ?_
          refine lv_icmp_ne (tgt := 64) hx hb dX8_readPad_57 (by decide) (fun c57 => ?_) (fun c57 => ?_)
          · have t57 : ¬ sp.toInt = gty.toInt := xi_ne rfl rfl c57
            have d57 : ¬ sp = gty := c57
            refine lv_iconst (v := 0) hx hb dX8_readPad_64 (by decide) ?_
            have hpos : 0 < (tm1 (gl.toInt.toNat - 1)).toInt := hY3.elim (fun q => q.2) (fun q => absurd q.1 d46)
            have hfa := Syn_fault1 hY1 hY2 (by omega) (Or.inl (by omega))
            exact xk_retz (sp, gl, tf1, tm1) hx hb hr hlocks (by decide) (xk_P hP (by rfl)) (by (try dsimp only); exact Or.inr ⟨rfl, hfa, hk.1⟩) hS dX8_readPad_65 hQ
          · have t57 : sp.toInt = gty.toInt := xi_eq rfl rfl c57
            have d57 : sp = gty := c57
            refine lv_iconst (v := 1) hx hb dX8_readPad_60 (by decide) ?_
            refine lv_goto (tgt := 65) hx hb dX8_readPad_61 (by decide) ?_
            have hg1 : g = 1 := (hY3.elim (fun q => q.1) (fun q => absurd q.1 d46))
            have hpos : 0 < (tm1 (gl.toInt.toNat - 1)).toInt := hY3.elim (fun q => q.2) (fun q => absurd q.1 d46)
            obtain ⟨hfn, hpt⟩ := Syn_end (gl := gl) hY1 hpos (by omega) (by omega)
            exact xk_retz (sp, gl, tf1, tm1) hx hb hr hlocks (by decide) (xk_P hP (by rfl)) (by (try dsimp only); exact Or.inl ⟨rfl, hfn, xi_ext t57, by rw [← t57]; exact hpt⟩) hS dX8_readPad_65 hQ
      · have t16 : ¬ g.toInt = 0 := xi_ne rfl (by decide) c16
        have d16 : ¬ g = 0 := c16
        refine lv_aload_n hx hb dX8_readPad_19 rfl (lv_at hl 1 rfl) ?_
        refine va_get (D := D) (ci := 8) (v := .int gl) (C := RX8) (T := TX8) (N := 14) hx hb hts xin8 hown hK hP 0 rfl rfl 13 (by decide) (hts _ (List.mem_cons_of_mem _ mw_3_102)) (fun _ h9 => h9) rfl dX8_readPad_20 ?_
        refine lv_bipush (v := 10) hx hb dX8_readPad_23 (by decide) ?_
        refine lv_icmp_ge (tgt := 45) hx hb dX8_readPad_25 (by decide) (fun c25 => ?_) (fun c25 => ?_)
        · have t25 : 10 ≤ gl.toInt := xi_le (by decide) rfl c25
          refine lv_iload_n hx hb dX8_readPad_45 rfl (lv_at hl 0 rfl) ?_
          refine lv_if_eq (tgt := 64) hx hb dX8_readPad_46 (by decide) (fun c46 => ?_) (fun c46 => ?_)
          · have t46 : g.toInt = 0 := xi_eq rfl (by decide) c46
            have d46 : g = 0 := c46
            refine lv_iconst (v := 0) hx hb dX8_readPad_64 (by decide) ?_
            have hzero : (tm1 (gl.toInt.toNat - 1)).toInt = 0 := hY3.elim (fun q => absurd (q.1.symm.trans d46) (by decide)) (fun q => q.2)
            have hfa := Syn_fault0 hY1 hzero (by omega) (hY2.resolve_left (by omega))
            exact xk_retz (sp, gl, tf1, tm1) hx hb hr hlocks (by decide) (xk_P hP (by rfl)) (by (try dsimp only); exact Or.inr ⟨rfl, hfa, hk.1⟩) hS dX8_readPad_65 hQ
          · have t46 : ¬ g.toInt = 0 := xi_ne rfl (by decide) c46
            have d46 : ¬ g = 0 := c46
            refine lv_aload_n hx hb dX8_readPad_49 rfl (lv_at hl 1 rfl) ?_
            refine va_get (D := D) (ci := 8) (v := .int sp) (C := RX8) (T := TX8) (N := 14) hx hb hts xin8 hown hK hP 0 rfl rfl 10 (by decide) (hts _ (List.mem_cons_of_mem _ mw_3_99)) (fun _ h9 => h9) rfl dX8_readPad_50 ?_
            refine lv_aload_n hx hb dX8_readPad_53 rfl (lv_at hl 1 rfl) ?_
            refine va_get (D := D) (ci := 8) (v := .int gty) (C := RX8) (T := TX8) (N := 14) hx hb hts xin8 hown hK hP 0 rfl rfl 7 (by decide) (hts _ (List.mem_cons_of_mem _ mw_3_96)) (fun _ h9 => h9) rfl dX8_readPad_54 ?_
            refine lv_icmp_ne (tgt := 64) hx hb dX8_readPad_57 (by decide) (fun c57 => ?_) (fun c57 => ?_)
            · have t57 : ¬ sp.toInt = gty.toInt := xi_ne rfl rfl c57
              have d57 : ¬ sp = gty := c57
              refine lv_iconst (v := 0) hx hb dX8_readPad_64 (by decide) ?_
              have hpos : 0 < (tm1 (gl.toInt.toNat - 1)).toInt := hY3.elim (fun q => q.2) (fun q => absurd q.1 d46)
              have hfa := Syn_fault1 hY1 hY2 (by omega) (Or.inl (by omega))
              exact xk_retz (sp, gl, tf1, tm1) hx hb hr hlocks (by decide) (xk_P hP (by rfl)) (by (try dsimp only); exact Or.inr ⟨rfl, hfa, hk.1⟩) hS dX8_readPad_65 hQ
            · have t57 : sp.toInt = gty.toInt := xi_eq rfl rfl c57
              have d57 : sp = gty := c57
              refine lv_iconst (v := 1) hx hb dX8_readPad_60 (by decide) ?_
              refine lv_goto (tgt := 65) hx hb dX8_readPad_61 (by decide) ?_
              have hg1 : g = 1 := (hY3.elim (fun q => q.1) (fun q => absurd q.1 d46))
              have hpos : 0 < (tm1 (gl.toInt.toNat - 1)).toInt := hY3.elim (fun q => q.2) (fun q => absurd q.1 d46)
              obtain ⟨hfn, hpt⟩ := Syn_end (gl := gl) hY1 hpos (by omega) (by omega)
              exact xk_retz (sp, gl, tf1, tm1) hx hb hr hlocks (by decide) (xk_P hP (by rfl)) (by (try dsimp only); exact Or.inl ⟨rfl, hfn, xi_ext t57, by rw [← t57]; exact hpt⟩) hS dX8_readPad_65 hQ
        · have t25 : gl.toInt < 10 := xi_nle (by decide) rfl c25
          refine lv_aload_n hx hb dX8_readPad_28 rfl (lv_at hl 1 rfl) ?_
          refine lv_bipush (v := 47) hx hb dX8_readPad_29 (by decide) ?_
          refine xk_Vi (As := [.int 47]) (rest := []) hx hb hml hown hts hK hN hZ hP hD hS hA mb_X8_takes mw_4_2 mw_4_4 mw_0_20 (c_X8_takes l D cI cZ cS h h1 h2 h3 h4 h5 h6 h7 h8 gst gty gse gte sp gl pad (47 : Int32) (by first | omega | decide | assumption)) [0, 1] 0 8 rfl rfl (by decide) rfl (fun _ => by simp only [List.map]) (by decide) (by decide) rfl hl.1 rfl (Nat.le_of_ble_eq_true rfl) dX8_readPad_31 ⟨Nat.zero_le _, Nat.zero_le _⟩ (fun r31 u31 H locs hw hP hD hS => ?_)
          obtain ⟨w31_0, rfl⟩ : ∃ z, z = u31 := ⟨_, rfl⟩
          have hP : va_P D vwCl [(h, .inr (8, [.ref h1, .ref h2, .ref h3, .int gst, .ref h4, .ref h5, .ref h6, .int gty, .int gse, .int gte, .int w31_0, .ref h7, .ref h8, .int gl])), (h6, .inl (cI, 60, .inl pad)), (h7, .inl (cI, 120, .inl tf1)), (h8, .inl (cI, 10, .inl tm1))] H := hP
          have hD : va_D A [(h, .inr (8, [.ref h1, .ref h2, .ref h3, .int gst, .ref h4, .ref h5, .ref h6, .int gty, .int gse, .int gte, .int w31_0, .ref h7, .ref h8, .int gl])), (h6, .inl (cI, 60, .inl pad)), (h7, .inl (cI, 120, .inl tf1)), (h8, .inl (cI, 10, .inl tm1))] := hD
          rcases hw with ⟨rfl, b31⟩ | ⟨rfl, b31⟩
          · have b31 : sp.toInt < gty.toInt ∧ pad sp.toInt.toNat = (47 : Int32) ∧ w31_0.toInt = sp.toInt + 1 := b31
            have hpos : 0 < (tm1 (gl.toInt.toNat - 1)).toInt := hY3.elim (fun q => q.2) (fun q => absurd q.1 d16)
            have hq := SynL_next hk.1.1 hY1 ⟨by omega, hpos⟩ (by omega) b31.2.1 b31.2.2
            have e1 : gl.toInt.toNat - 1 + 1 = gl.toInt.toNat := by omega
            rw [e1] at hq
            refine lv_if_eq (tgt := 45) hx hb dX8_readPad_34 (by decide) (fun c34 => absurd c34 (by decide)) (fun _ => ?_)
            refine lv_aload_n hx hb dX8_readPad_37 rfl (lv_at hl 1 rfl) ?_
            refine xk_Vi (As := []) (rest := []) hx hb hml hown hts hK hN hZ hP hD hS hA mb_X8_readLine mw_3_234 mw_3_236 mw_0_18 (c_X8_readLine l D cI cZ cS h h1 h2 h3 h4 h5 h6 h7 h8 gst gty gse gte w31_0 gl pad tf1 tm1 (by omega) (by omega) (by exact hq)) [0, 1, 2, 3] 0 8 rfl rfl (by decide) rfl (fun _ => by simp only [List.map]) (by decide) (by decide) rfl hl.1 rfl (Nat.le_of_ble_eq_true rfl) dX8_readPad_38 ⟨Nat.zero_le _, Nat.zero_le _⟩ (fun r38 u38 H locs hw hP hD hS => ?_)
            obtain ⟨w38_0, w38_1, w38_2⟩ := u38
            have hP : va_P D vwCl [(h, .inr (8, [.ref h1, .ref h2, .ref h3, .int gst, .ref h4, .ref h5, .ref h6, .int gty, .int gse, .int gte, .int w38_0, .ref h7, .ref h8, .int (gl + 1)])), (h6, .inl (cI, 60, .inl pad)), (h7, .inl (cI, 120, .inl w38_1)), (h8, .inl (cI, 10, .inl w38_2))] H := hP
            have hD : va_D A [(h, .inr (8, [.ref h1, .ref h2, .ref h3, .int gst, .ref h4, .ref h5, .ref h6, .int gty, .int gse, .int gte, .int w38_0, .ref h7, .ref h8, .int (gl + 1)])), (h6, .inl (cI, 60, .inl pad)), (h7, .inl (cI, 120, .inl w38_1)), (h8, .inl (cI, 10, .inl w38_2))] := hD
            have p38 : (0 ≤ w38_0.toInt ∧ w38_0.toInt ≤ gty.toInt) ∧ Syn pad gty.toInt.toNat w38_0.toInt.toNat gl.toInt.toNat w38_1 w38_2 ∧ ((w38_2 gl.toInt.toNat).toInt = 12 ∨ ¬ footS pad gty.toInt.toNat w38_0.toInt.toNat) ∧ ((r38 = 1 ∧ 0 < (w38_2 gl.toInt.toNat).toInt) ∨ (r38 = 0 ∧ (w38_2 gl.toInt.toNat).toInt = 0)) := hw
            refine lv_istore_n (lv' := [(1, .int r38), (0, .ref h)]) hx hb dX8_readPad_41 rfl hl (by decide) rfl (fun ls hl => ?_)
            refine lv_goto (tgt := 15) hx hb dX8_readPad_42 (by decide) ?_
            obtain ⟨k1, k2, k3, k4⟩ := p38
            have hgg : (gl + 1).toInt = gl.toInt + 1 := xi_add rfl (by decide) (by omega) (by omega)
            have hgi : (gl + 1).toInt.toNat - 1 = gl.toInt.toNat := by omega
            exact ih15  w38_0 (gl + 1) w38_1 w38_2 r38 (by exact ⟨k1, by omega, by omega⟩) (by rw [hgi]; exact ⟨k2, k3, k4⟩) (by omega) _ _ hP hD hS ls (lv_sub hl [0, 1] rfl)
          · have b31 : ¬ (sp.toInt < gty.toInt ∧ pad sp.toInt.toNat = (47 : Int32)) ∧ sp = w31_0 := b31
            obtain ⟨a31, q31⟩ := b31
            subst q31
            refine lv_if_eq (tgt := 45) hx hb dX8_readPad_34 (by decide) (fun _ => ?_) (fun c34 => absurd (by decide) c34)
            refine lv_iload_n hx hb dX8_readPad_45 rfl (lv_at hl 0 rfl) ?_
            refine lv_if_eq (tgt := 64) hx hb dX8_readPad_46 (by decide) (fun c46 => ?_) (fun c46 => ?_)
            · have t46 : g.toInt = 0 := xi_eq rfl (by decide) c46
              have d46 : g = 0 := c46
              refine lv_iconst (v := 0) hx hb dX8_readPad_64 (by decide) ?_
              have hzero : (tm1 (gl.toInt.toNat - 1)).toInt = 0 := hY3.elim (fun q => absurd (q.1.symm.trans d46) (by decide)) (fun q => q.2)
              have hfa := Syn_fault0 hY1 hzero (by omega) (hY2.resolve_left (by omega))
              exact xk_retz (sp, gl, tf1, tm1) hx hb hr hlocks (by decide) (xk_P hP (by rfl)) (by (try dsimp only); exact Or.inr ⟨rfl, hfa, hk.1⟩) hS dX8_readPad_65 hQ
            · have t46 : ¬ g.toInt = 0 := xi_ne rfl (by decide) c46
              have d46 : ¬ g = 0 := c46
              refine lv_aload_n hx hb dX8_readPad_49 rfl (lv_at hl 1 rfl) ?_
              refine va_get (D := D) (ci := 8) (v := .int sp) (C := RX8) (T := TX8) (N := 14) hx hb hts xin8 hown hK hP 0 rfl rfl 10 (by decide) (hts _ (List.mem_cons_of_mem _ mw_3_99)) (fun _ h9 => h9) rfl dX8_readPad_50 ?_
              refine lv_aload_n hx hb dX8_readPad_53 rfl (lv_at hl 1 rfl) ?_
              refine va_get (D := D) (ci := 8) (v := .int gty) (C := RX8) (T := TX8) (N := 14) hx hb hts xin8 hown hK hP 0 rfl rfl 7 (by decide) (hts _ (List.mem_cons_of_mem _ mw_3_96)) (fun _ h9 => h9) rfl dX8_readPad_54 ?_
              refine lv_icmp_ne (tgt := 64) hx hb dX8_readPad_57 (by decide) (fun c57 => ?_) (fun c57 => ?_)
              · have t57 : ¬ sp.toInt = gty.toInt := xi_ne rfl rfl c57
                have d57 : ¬ sp = gty := c57
                refine lv_iconst (v := 0) hx hb dX8_readPad_64 (by decide) ?_
                have hpos : 0 < (tm1 (gl.toInt.toNat - 1)).toInt := hY3.elim (fun q => q.2) (fun q => absurd q.1 d46)
                have hfa := Syn_fault1 hY1 hY2 (by omega) (Or.inr (fun hh => a31 ⟨by omega, hh.2⟩))
                exact xk_retz (sp, gl, tf1, tm1) hx hb hr hlocks (by decide) (xk_P hP (by rfl)) (by (try dsimp only); exact Or.inr ⟨rfl, hfa, hk.1⟩) hS dX8_readPad_65 hQ
              · have t57 : sp.toInt = gty.toInt := xi_eq rfl rfl c57
                have d57 : sp = gty := c57
                refine lv_iconst (v := 1) hx hb dX8_readPad_60 (by decide) ?_
                refine lv_goto (tgt := 65) hx hb dX8_readPad_61 (by decide) ?_
                have hg1 : g = 1 := (hY3.elim (fun q => q.1) (fun q => absurd q.1 d46))
                have hpos : 0 < (tm1 (gl.toInt.toNat - 1)).toInt := hY3.elim (fun q => q.2) (fun q => absurd q.1 d46)
                obtain ⟨hfn, hpt⟩ := Syn_end (gl := gl) hY1 hpos (by omega) (by omega)
                exact xk_retz (sp, gl, tf1, tm1) hx hb hr hlocks (by decide) (xk_P hP (by rfl)) (by (try dsimp only); exact Or.inl ⟨rfl, hfn, xi_ext t57, by rw [← t57]; exact hpt⟩) hS dX8_readPad_65 hQ
  have q15 : ([(h, .inr (8, [.ref h1, .ref h2, .ref h3, .int gst, .ref h4, .ref h5, .ref h6, .int gty, .int gse, .int gte, .int w11_0, .ref h7, .ref h8, .int ((0 : Int32) + 1)])), (h6, .inl (cI, 60, .inl pad)), (h7, .inl (cI, 120, .inl w11_1)), (h8, .inl (cI, 10, .inl w11_2))] : va_W) = [(h, .inr (8, [.ref h1, .ref h2, .ref h3, .int gst, .ref h4, .ref h5, .ref h6, .int gty, .int gse, .int gte, .int w11_0, .ref h7, .ref h8, .int (0 + 1)])), (h6, .inl (cI, 60, .inl pad)), (h7, .inl (cI, 120, .inl w11_1)), (h8, .inl (cI, 10, .inl w11_2))] := by rfl
  exact L15 11 w11_0 (0 + 1) w11_1 w11_2 r11 (by exact ⟨k1, by decide⟩) (by exact ⟨k2, k3, k4⟩) (by decide) _ _ (xk_P hP q15) (xk_D hD q15) hS ls (lv_sub hl [0, 1] rfl)

set_option maxHeartbeats 4000000 in
set_option maxRecDepth 100000 in
theorem c_X8_fault (l : Launch) (D : va_G) (cI cZ cS : ClassId) (h h1 h2 h3 h4 h5 h6 h7 h8 : Nat) (gst gty gse gte gsp gtl : Int32) (pad tf tm : Nat → Int32)  (hsp : 0 ≤ gsp.toInt ∧ gsp.toInt ≤ gty.toInt ∧ gty.toInt ≤ 60) : xMi l yX8_fault cX8_fault 1 (some .int) ({ frames := 4, cells := 0, slots := 0, locals := 86 } : Room) D (xTy cI cZ cS) [.ref h] [(h, .inr (8, [.ref h1, .ref h2, .ref h3, .int gst, .ref h4, .ref h5, .ref h6, .int gty, .int gse, .int gte, .int gsp, .ref h7, .ref h8, .int gtl])), (h6, .inl (cI, 60, .inl pad)), (h7, .inl (cI, 120, .inl tf)), (h8, .inl (cI, 10, .inl tm))] (fun (r : Int32) (u : (Int32) × (Int32) × (Nat → Int32) × (Nat → Int32)) => (FN pad gty.toInt.toNat ∧ r = -6) ∨ (FA pad gty.toInt.toNat r.toInt.toNat ∧ 0 ≤ r.toInt ∧ r.toInt ≤ gty.toInt)) (fun (u : (Int32) × (Int32) × (Nat → Int32) × (Nat → Int32)) => [(h, .inr (8, [.ref h1, .ref h2, .ref h3, .int gst, .ref h4, .ref h5, .ref h6, .int gty, .int gse, .int gte, .int u.1, .ref h7, .ref h8, .int u.2.1])), (h6, .inl (cI, 60, .inl pad)), (h7, .inl (cI, 120, .inl u.2.2.1)), (h8, .inl (cI, 10, .inl u.2.2.2))]) := by
  refine xk_bodyi (by decide) (Nat.le_of_ble_eq_true rfl) ?_
  intro p e s m below meth c A ls args Q hx hb hr hts hown hlocks hml hin hK hP hD hS hA hN hZ hl hQ
  have hl : lv_has ls 1 [(0, .ref h)] := hl
  refine lv_aload_n hx hb dX8_fault_0 rfl (lv_at hl 0 rfl) ?_
  refine xk_Vi (As := []) (rest := []) hx hb hml hown hts hK hN hZ hP hD hS hA mb_X8_readPad mw_3_230 mw_3_232 mw_0_17 (c_X8_readPad l D cI cZ cS h h1 h2 h3 h4 h5 h6 h7 h8 gst gty gse gte gsp gtl pad tf tm (by first | omega | decide | assumption)) [0, 1, 2, 3] 0 8 rfl rfl (by decide) rfl (fun _ => by simp only [List.map]) (by decide) (by decide) rfl hl.1 rfl (Nat.le_of_ble_eq_true rfl) dX8_fault_1 ⟨Nat.zero_le _, Nat.zero_le _⟩ (fun r1 u1 H locs hw hP hD hS => ?_)
  obtain ⟨w1_0, w1_1, w1_2, w1_3⟩ := u1
  have hP : va_P D vwCl [(h, .inr (8, [.ref h1, .ref h2, .ref h3, .int gst, .ref h4, .ref h5, .ref h6, .int gty, .int gse, .int gte, .int w1_0, .ref h7, .ref h8, .int w1_1])), (h6, .inl (cI, 60, .inl pad)), (h7, .inl (cI, 120, .inl w1_2)), (h8, .inl (cI, 10, .inl w1_3))] H := hP
  have hD : va_D A [(h, .inr (8, [.ref h1, .ref h2, .ref h3, .int gst, .ref h4, .ref h5, .ref h6, .int gty, .int gse, .int gte, .int w1_0, .ref h7, .ref h8, .int w1_1])), (h6, .inl (cI, 60, .inl pad)), (h7, .inl (cI, 120, .inl w1_2)), (h8, .inl (cI, 10, .inl w1_3))] := hD
  rcases hw with ⟨rfl, b1⟩ | ⟨rfl, b1⟩
  · have b1 : FN pad gty.toInt.toNat ∧ w1_0 = gty ∧ PadT pad gty.toInt.toNat w1_1 w1_2 w1_3 := b1
    refine lv_if_eq (tgt := 12) hx hb dX8_fault_4 (by decide) (fun c4 => absurd c4 (by decide)) (fun _ => ?_)
    refine lv_bipush (v := (-6)) hx hb dX8_fault_7 (by decide) ?_
    refine lv_goto (tgt := 16) hx hb dX8_fault_9 (by decide) ?_
    exact xk_reti (w1_0, w1_1, w1_2, w1_3) hx hb hr hlocks (xk_P hP (by rfl)) (by (try dsimp only); exact Or.inl ⟨b1.1, rfl⟩) hS dX8_fault_16 hQ
  · have b1 : FA pad gty.toInt.toNat w1_0.toInt.toNat ∧ 0 ≤ w1_0.toInt ∧ w1_0.toInt ≤ gty.toInt := b1
    refine lv_if_eq (tgt := 12) hx hb dX8_fault_4 (by decide) (fun _ => ?_) (fun c4 => absurd (by decide) c4)
    refine lv_aload_n hx hb dX8_fault_12 rfl (lv_at hl 0 rfl) ?_
    refine va_get (D := D) (ci := 8) (v := .int w1_0) (C := RX8) (T := TX8) (N := 14) hx hb hts xin8 hown hK hP 0 rfl rfl 10 (by decide) (hts _ (List.mem_cons_of_mem _ mw_3_99)) (fun _ h9 => h9) rfl dX8_fault_13 ?_
    exact xk_reti (w1_0, w1_1, w1_2, w1_3) hx hb hr hlocks (xk_P hP (by rfl)) (by (try dsimp only); exact Or.inr ⟨b1.1, b1.2⟩) hS dX8_fault_16 hQ
