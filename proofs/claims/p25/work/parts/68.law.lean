set_option maxHeartbeats 4000000 in
set_option maxRecDepth 100000 in
theorem whole_start {p : Program} {e : Env} {s : State} {m : MethodId} {below : List Frame} {meth : Method} {c : Code} (l : Launch) (hflags : l.flags = flags0) {b L : Nat} {xs : Nat → Int32} (hL : L ≤ 260) (C0 : lw_At p s m meth c b L xs) : W p l e room_1 s m #[Value.ref b] below meth c s.heap [] 0 0 (lw_Z below #[Value.ref b] s) (entryFrame m ([Value.ref b] : List Value).toArray 13) := by
  obtain ⟨hx, hb, hr, hml, hown, hts0, hX, hbl, hlocks, hgv⟩ := id C0
  obtain ⟨A, hAe⟩ : ∃ A : Nat → Prop, A = fun q => s.heap.size ≤ q := ⟨_, rfl⟩
  have hA : ∀ q : Nat, s.heap.size ≤ q → A q := fun q h => by rw [hAe]; exact h
  have hbA : ¬ A b := by rw [hAe]; exact Nat.not_le.mpr hbl
  have hts : ∀ w ∈ Cond.arrayClass .int :: wsL_law, w.before #[Value.ref b] s = true := fun w h => by
    rcases List.mem_cons.mp h with e | h
    · rw [e]; exact hts0 _ (wsL_law_in _ mw_1_36)
    · exact hts0 w (wsL_law_in w h)
  obtain ⟨D, cI, cZ, cS, hK⟩ := ls_K hts0
  have hN := ls_N hts0
  have hZ : xZ A s := by rw [hAe]; exact ⟨ls_FIRST_VALUES hts0 hgv, ls_LEAST_VALUES hts0 hgv, ls_MOST_VALUES hts0 hgv⟩
  have hS : va_S A s.heap s.heap [] := va_S.rf
  have hP : va_P D vwCl [] s.heap := fun k q h => by simp at h
  have hD : va_D A [] := ⟨fun i j p q h => by simp at h, fun k q h => by simp at h⟩
  obtain ⟨Q, hQ⟩ : ∃ Q, Q = lw_Z below #[Value.ref b] s := ⟨_, rfl⟩
  rw [← hQ]
  have hLi : (nI L).toInt = L := nI_toInt (by omega)
  have z0t : (0 : Int32).toInt = 0 := by decide
  have hl := lv_entry ([.ref b]) (n := 13) (Nat.le_of_ble_eq_true rfl)
  rw [lg_entry_eq]
  generalize (lg_sl ([.ref b]) ++ List.replicate (13 - (lg_sl ([.ref b])).length) Slot.unset).toArray = ls at hl ⊢
  have hl : lv_has ls 13 [(0, .ref b)] := hl
  refine va_new (ci := 7) (fs := [.null, .null, .null, .null, .null, .null, .null]) (C := RX7) (T := TX7) (N := 7) hx hb hts xin7 tyX7 tyX7_ok hown (hts _ (List.mem_cons_of_mem _ mw_1_10)) (hts _ (List.mem_cons_of_mem _ mw_1_11)) (hts _ (List.mem_cons_of_mem _ mw_1_1)) hK hP hD hS hA rfl (fun j hj => by rcases (show j = 0 ∨ j = 1 ∨ j = 2 ∨ j = 3 ∨ j = 4 ∨ j = 5 ∨ j = 6 by omega) with rfl | rfl | rfl | rfl | rfl | rfl | rfl <;> rfl) (Nat.le_of_ble_eq_true rfl) (Nat.le_of_ble_eq_true rfl) dL_law_0 (fun q0_1 H hP hD hS => ?_)
  refine lv_dup hx hb dL_law_3 rfl ?_
  refine xk_Ic (r := []) (wc := [(q0_1, .inr (7, [.null, .null, .null, .null, .null, .null, .null]))]) (As := []) (rest := [.ref q0_1]) hx hb hml hown hts hK hN hZ hP hD hS hA mb_X7_init rfl mw_1_12 mw_1_13 (c_X7_init l D cI cZ cS q0_1) (by decide) ⟨rfl, rfl⟩ rfl hl.1 rfl (Nat.le_of_ble_eq_true rfl) dL_law_4 ⟨Nat.le_of_ble_eq_true rfl, Nat.le_of_ble_eq_true rfl⟩ (fun u4_1 H locs hw hP hD hS => ?_)
  obtain ⟨xa, xv, ho0, ho1, pd0, pd1, m0, ts0, ts1, a, ha, sa⟩ := u4_1
  have hP : va_P D vwCl (xwW cI cZ cS q0_1 xa xv ho0 ho1 pd0 pd1 m0 ts0 ts1 a ha sa cS0 (fun _ => cS0) (fun _ => cS0) z0 tabF z0 z0 (0 : Int32) (0 : Int32) (0 : Int32) zI) H := hP
  have hD : va_D A (xwW cI cZ cS q0_1 xa xv ho0 ho1 pd0 pd1 m0 ts0 ts1 a ha sa cS0 (fun _ => cS0) (fun _ => cS0) z0 tabF z0 z0 (0 : Int32) (0 : Int32) (0 : Int32) zI) := hD
  refine lv_astore_n (lv' := [(1, .ref q0_1), (0, .ref b)]) hx hb dL_law_7 rfl hl (by decide) rfl (fun ls hl => ?_)
  refine lv_aload_n hx hb dL_law_8 rfl (lv_at hl 0 rfl) ?_
  refine xo_Vi (As := []) (rest := []) hx hb hml hown hts hK hN hZ hP hD hS hA mb_X7_undo mw_2_55 mw_2_56 mw_2_57 (k_X7_undo l D cI cZ cS q0_1 xa xv ho0 ho1 pd0 pd1 m0 ts0 ts1 a ha sa cS0 (fun _ => cS0) (fun _ => cS0) z0 tabF z0 z0 (0 : Int32) (0 : Int32) (0 : Int32) zI zI zI_RS zI_inv ⟨by decide, by decide⟩ ⟨by decide, by decide⟩ (fun _ _ _ _ => Or.inl rfl) (fun _ _ _ _ => Or.inl rfl) (fun h9 => absurd h9 (by decide))) 0 7 rfl rfl (fun _ => xwW_f) (by decide) (by decide) rfl hl.1 rfl (Nat.le_of_ble_eq_true rfl) dL_law_9 ⟨Nat.le_of_ble_eq_true rfl, Nat.le_of_ble_eq_true rfl⟩ (fun r9 u9 H locs hw hP hD hS => ?_)
  obtain ⟨cq_9, zq_9, old1_9, sz1_9, cs1_9⟩ := u9
  have p9 : r9 = undoR (0 : Int32) ∧ (((0 : Int32) = 0 ∧ Same cS0 zI (0 : Int32) (0 : Int32) (fun _ => cS0) cq_9 zq_9 old1_9 sz1_9 cs1_9) ∨ (¬ (0 : Int32) = 0 ∧ cq_9 = (fun _ => cS0) (tbJ (0 : Int32) (0 : Int32)) ∧ zq_9 = zI ∧ old1_9 = (0 : Int32) ∧ sz1_9 = (0 : Int32) - 1 ∧ cs1_9 = (fun _ => cS0))) := hw
  have hP : va_P D vwCl (xwW cI cZ cS q0_1 xa xv ho0 ho1 pd0 pd1 m0 ts0 ts1 a ha sa cq_9 cs1_9 (fun _ => cS0) z0 tabF z0 z0 (0 : Int32) old1_9 sz1_9 zq_9) H := hP
  have hD : va_D A (xwW cI cZ cS q0_1 xa xv ho0 ho1 pd0 pd1 m0 ts0 ts1 a ha sa cq_9 cs1_9 (fun _ => cS0) z0 tabF z0 z0 (0 : Int32) old1_9 sz1_9 zq_9) := hD
  obtain ⟨k1, k2, k3, k4, k5⟩ : cq_9 = cS0 ∧ zq_9 = zI ∧ old1_9 = (0 : Int32) ∧ sz1_9 = (0 : Int32) ∧ cs1_9 = (fun _ => cS0) := (p9.2.resolve_right (fun h9 => h9.1 rfl)).2
  rw [k1, k2, k3, k4, k5] at hP hD
  have hP : va_P D vwCl (xwW cI cZ cS q0_1 xa xv ho0 ho1 pd0 pd1 m0 ts0 ts1 a ha sa cS0 (fun _ => cS0) (fun _ => cS0) z0 tabF z0 z0 (0 : Int32) (0 : Int32) (0 : Int32) zI) H := hP
  have hD : va_D A (xwW cI cZ cS q0_1 xa xv ho0 ho1 pd0 pd1 m0 ts0 ts1 a ha sa cS0 (fun _ => cS0) (fun _ => cS0) z0 tabF z0 z0 (0 : Int32) (0 : Int32) (0 : Int32) zI) := hD
  refine xk_top (z := (-5)) (by exact p9.1.trans (by decide)) ?_
  refine lv_bipush (v := (-5)) hx hb dL_law_12 (by decide) ?_
  refine lv_icmp_ne (tgt := 127) hx hb dL_law_14 (by decide) (fun c14 => absurd (by decide) c14) (fun _ => ?_)
  refine lv_aload_n hx hb dL_law_17 rfl (lv_at hl 0 rfl) ?_
  refine lv_iconst (v := 0) hx hb dL_law_18 (by decide) ?_
  refine xo_Vi (As := [.int 0]) (rest := []) hx hb hml hown hts hK hN hZ hP hD hS hA mb_X7_restore mw_2_102 mw_2_103 mw_2_104 (k_X7_restore l D cI cZ cS q0_1 xa xv ho0 ho1 pd0 pd1 m0 ts0 ts1 a ha sa cS0 (fun _ => cS0) (fun _ => cS0) z0 tabF z0 z0 (0 : Int32) (0 : Int32) (0 : Int32) zI zI (0 : Int32) zI_RS zI_inv ⟨by decide, by decide⟩ ⟨by decide, by decide⟩ (fun _ _ _ _ => Or.inl rfl) (fun _ _ _ _ => Or.inl rfl) (fun h9 => absurd rfl h9.2)) 0 7 rfl rfl (fun _ => xwW_f) (by decide) (by decide) rfl hl.1 rfl (Nat.le_of_ble_eq_true rfl) dL_law_19 ⟨Nat.le_of_ble_eq_true rfl, Nat.le_of_ble_eq_true rfl⟩ (fun r19 u19 H locs hw hP hD hS => ?_)
  obtain ⟨cq_19, zq_19, old1_19, sz1_19, cs1_19⟩ := u19
  have p19 : r19 = (if slotV (0 : Int32) then (if z0 0 = 0 then -5 else zI 174) else -2) ∧ ((restC (0 : Int32) z0 ∧ cq_19 = (fun _ => cS0) 0 ∧ zq_19 = zI ∧ old1_19 = oldR (0 : Int32) (0 : Int32) ∧ sz1_19 = szR (0 : Int32) ∧ cs1_19 = recC (fun _ => cS0) (cZm cS0 zI) (jR (0 : Int32) (0 : Int32))) ∨ (¬ restC (0 : Int32) z0 ∧ Same cS0 zI (0 : Int32) (0 : Int32) (fun _ => cS0) cq_19 zq_19 old1_19 sz1_19 cs1_19)) := hw
  have hP : va_P D vwCl (xwW cI cZ cS q0_1 xa xv ho0 ho1 pd0 pd1 m0 ts0 ts1 a ha sa cq_19 cs1_19 (fun _ => cS0) z0 tabF z0 z0 (0 : Int32) old1_19 sz1_19 zq_19) H := hP
  have hD : va_D A (xwW cI cZ cS q0_1 xa xv ho0 ho1 pd0 pd1 m0 ts0 ts1 a ha sa cq_19 cs1_19 (fun _ => cS0) z0 tabF z0 z0 (0 : Int32) old1_19 sz1_19 zq_19) := hD
  obtain ⟨k1, k2, k3, k4, k5⟩ : cq_19 = cS0 ∧ zq_19 = zI ∧ old1_19 = (0 : Int32) ∧ sz1_19 = (0 : Int32) ∧ cs1_19 = (fun _ => cS0) := (p19.2.resolve_left (fun h9 => h9.1.2 rfl)).2
  rw [k1, k2, k3, k4, k5] at hP hD
  have hP : va_P D vwCl (xwW cI cZ cS q0_1 xa xv ho0 ho1 pd0 pd1 m0 ts0 ts1 a ha sa cS0 (fun _ => cS0) (fun _ => cS0) z0 tabF z0 z0 (0 : Int32) (0 : Int32) (0 : Int32) zI) H := hP
  have hD : va_D A (xwW cI cZ cS q0_1 xa xv ho0 ho1 pd0 pd1 m0 ts0 ts1 a ha sa cS0 (fun _ => cS0) (fun _ => cS0) z0 tabF z0 z0 (0 : Int32) (0 : Int32) (0 : Int32) zI) := hD
  refine xk_top (z := (-5)) (by exact p19.1.trans (by decide)) ?_
  refine lv_bipush (v := (-5)) hx hb dL_law_22 (by decide) ?_
  refine lv_icmp_ne (tgt := 127) hx hb dL_law_24 (by decide) (fun c24 => absurd (by decide) c24) (fun _ => ?_)
  refine lv_aload_n hx hb dL_law_27 rfl (lv_at hl 0 rfl) ?_
  refine lv_iconst (v := 1) hx hb dL_law_28 (by decide) ?_
  refine xo_Vi (As := [.int 1]) (rest := []) hx hb hml hown hts hK hN hZ hP hD hS hA mb_X7_restore mw_2_102 mw_2_103 mw_2_104 (k_X7_restore l D cI cZ cS q0_1 xa xv ho0 ho1 pd0 pd1 m0 ts0 ts1 a ha sa cS0 (fun _ => cS0) (fun _ => cS0) z0 tabF z0 z0 (0 : Int32) (0 : Int32) (0 : Int32) zI zI (1 : Int32) zI_RS zI_inv ⟨by decide, by decide⟩ ⟨by decide, by decide⟩ (fun _ _ _ _ => Or.inl rfl) (fun _ _ _ _ => Or.inl rfl) (fun h9 => absurd rfl h9.2)) 0 7 rfl rfl (fun _ => xwW_f) (by decide) (by decide) rfl hl.1 rfl (Nat.le_of_ble_eq_true rfl) dL_law_29 ⟨Nat.le_of_ble_eq_true rfl, Nat.le_of_ble_eq_true rfl⟩ (fun r29 u29 H locs hw hP hD hS => ?_)
  obtain ⟨cq_29, zq_29, old1_29, sz1_29, cs1_29⟩ := u29
  have p29 : r29 = (if slotV (1 : Int32) then (if z0 1 = 0 then -5 else zI 174) else -2) ∧ ((restC (1 : Int32) z0 ∧ cq_29 = (fun _ => cS0) 1 ∧ zq_29 = zI ∧ old1_29 = oldR (0 : Int32) (0 : Int32) ∧ sz1_29 = szR (0 : Int32) ∧ cs1_29 = recC (fun _ => cS0) (cZm cS0 zI) (jR (0 : Int32) (0 : Int32))) ∨ (¬ restC (1 : Int32) z0 ∧ Same cS0 zI (0 : Int32) (0 : Int32) (fun _ => cS0) cq_29 zq_29 old1_29 sz1_29 cs1_29)) := hw
  have hP : va_P D vwCl (xwW cI cZ cS q0_1 xa xv ho0 ho1 pd0 pd1 m0 ts0 ts1 a ha sa cq_29 cs1_29 (fun _ => cS0) z0 tabF z0 z0 (0 : Int32) old1_29 sz1_29 zq_29) H := hP
  have hD : va_D A (xwW cI cZ cS q0_1 xa xv ho0 ho1 pd0 pd1 m0 ts0 ts1 a ha sa cq_29 cs1_29 (fun _ => cS0) z0 tabF z0 z0 (0 : Int32) old1_29 sz1_29 zq_29) := hD
  obtain ⟨k1, k2, k3, k4, k5⟩ : cq_29 = cS0 ∧ zq_29 = zI ∧ old1_29 = (0 : Int32) ∧ sz1_29 = (0 : Int32) ∧ cs1_29 = (fun _ => cS0) := (p29.2.resolve_left (fun h9 => h9.1.2 rfl)).2
  rw [k1, k2, k3, k4, k5] at hP hD
  have hP : va_P D vwCl (xwW cI cZ cS q0_1 xa xv ho0 ho1 pd0 pd1 m0 ts0 ts1 a ha sa cS0 (fun _ => cS0) (fun _ => cS0) z0 tabF z0 z0 (0 : Int32) (0 : Int32) (0 : Int32) zI) H := hP
  have hD : va_D A (xwW cI cZ cS q0_1 xa xv ho0 ho1 pd0 pd1 m0 ts0 ts1 a ha sa cS0 (fun _ => cS0) (fun _ => cS0) z0 tabF z0 z0 (0 : Int32) (0 : Int32) (0 : Int32) zI) := hD
  refine xk_top (z := (-5)) (by exact p29.1.trans (by decide)) ?_
  refine lv_bipush (v := (-5)) hx hb dL_law_32 (by decide) ?_
  refine lv_icmp_ne (tgt := 127) hx hb dL_law_34 (by decide) (fun c34 => absurd (by decide) c34) (fun _ => ?_)
  refine lv_aload_n hx hb dL_law_37 rfl (lv_at hl 0 rfl) ?_
  refine lv_iconst (v := 0) hx hb dL_law_38 (by decide) ?_
  refine xo_Vi (As := [.int 0]) (rest := []) hx hb hml hown hts hK hN hZ hP hD hS hA mb_X7_count mw_2_6 mw_2_7 mw_2_8 (k_X7_count l D cI cZ cS q0_1 xa xv ho0 ho1 pd0 pd1 m0 ts0 ts1 a ha sa cS0 (fun _ => cS0) (fun _ => cS0) z0 tabF z0 z0 (0 : Int32) (0 : Int32) (0 : Int32) zI (0 : Int32) zI_RS zI_inv) 0 7 rfl rfl (fun _ => xwW_f) (by decide) (by decide) rfl hl.1 rfl (Nat.le_of_ble_eq_true rfl) dL_law_39 ⟨Nat.le_of_ble_eq_true rfl, Nat.le_of_ble_eq_true rfl⟩ (fun r39 u39 H locs hw hP hD hS => ?_)
  have p39 : r39 = cntR zI (0 : Int32) (0 : Int32) (0 : Int32) := hw
  have hP : va_P D vwCl (xwW cI cZ cS q0_1 xa xv ho0 ho1 pd0 pd1 m0 ts0 ts1 a ha sa cS0 (fun _ => cS0) (fun _ => cS0) z0 tabF z0 z0 (0 : Int32) (0 : Int32) (0 : Int32) zI) H := hP
  have hD : va_D A (xwW cI cZ cS q0_1 xa xv ho0 ho1 pd0 pd1 m0 ts0 ts1 a ha sa cS0 (fun _ => cS0) (fun _ => cS0) z0 tabF z0 z0 (0 : Int32) (0 : Int32) (0 : Int32) zI) := hD
  refine xk_top (z := (zI 0)) (by exact p39.trans (ct_0 _ _ _)) ?_
  refine lv_iconst (v := 4) hx hb dL_law_42 (by decide) ?_
  refine lv_icmp_ne (tgt := 127) hx hb dL_law_43 (by decide) (fun c43 => ?_) (fun c43 => ?_)
  · have t43 : ¬ (zI 0).toInt = 4 := xi_ne rfl (by decide) c43
    have d43 : ¬ (zI 0) = 4 := c43
    exact absurd (show zI 0 = 4 from by decide) c43
  · have t43 : (zI 0).toInt = 4 := xi_eq rfl (by decide) c43
    have d43 : (zI 0) = 4 := c43
    refine lv_aload_n hx hb dL_law_46 rfl (lv_at hl 0 rfl) ?_
    refine lv_iconst (v := 1) hx hb dL_law_47 (by decide) ?_
    refine xo_Vi (As := [.int 1]) (rest := []) hx hb hml hown hts hK hN hZ hP hD hS hA mb_X7_count mw_2_6 mw_2_7 mw_2_8 (k_X7_count l D cI cZ cS q0_1 xa xv ho0 ho1 pd0 pd1 m0 ts0 ts1 a ha sa cS0 (fun _ => cS0) (fun _ => cS0) z0 tabF z0 z0 (0 : Int32) (0 : Int32) (0 : Int32) zI (1 : Int32) zI_RS zI_inv) 0 7 rfl rfl (fun _ => xwW_f) (by decide) (by decide) rfl hl.1 rfl (Nat.le_of_ble_eq_true rfl) dL_law_48 ⟨Nat.le_of_ble_eq_true rfl, Nat.le_of_ble_eq_true rfl⟩ (fun r48 u48 H locs hw hP hD hS => ?_)
    have p48 : r48 = cntR zI (0 : Int32) (0 : Int32) (1 : Int32) := hw
    have hP : va_P D vwCl (xwW cI cZ cS q0_1 xa xv ho0 ho1 pd0 pd1 m0 ts0 ts1 a ha sa cS0 (fun _ => cS0) (fun _ => cS0) z0 tabF z0 z0 (0 : Int32) (0 : Int32) (0 : Int32) zI) H := hP
    have hD : va_D A (xwW cI cZ cS q0_1 xa xv ho0 ho1 pd0 pd1 m0 ts0 ts1 a ha sa cS0 (fun _ => cS0) (fun _ => cS0) z0 tabF z0 z0 (0 : Int32) (0 : Int32) (0 : Int32) zI) := hD
    refine xk_top (z := (zI 1)) (by exact p48.trans (ct_1 _ _ _)) ?_
    refine lv_iconst (v := 1) hx hb dL_law_51 (by decide) ?_
    refine lv_icmp_ne (tgt := 127) hx hb dL_law_52 (by decide) (fun c52 => ?_) (fun c52 => ?_)
    · have t52 : ¬ (zI 1).toInt = 1 := xi_ne rfl (by decide) c52
      have d52 : ¬ (zI 1) = 1 := c52
      exact absurd (show zI 1 = 1 from by decide) c52
    · have t52 : (zI 1).toInt = 1 := xi_eq rfl (by decide) c52
      have d52 : (zI 1) = 1 := c52
      refine lv_aload_n hx hb dL_law_55 rfl (lv_at hl 0 rfl) ?_
      refine lv_iconst (v := 2) hx hb dL_law_56 (by decide) ?_
      refine xo_Vi (As := [.int 2]) (rest := []) hx hb hml hown hts hK hN hZ hP hD hS hA mb_X7_count mw_2_6 mw_2_7 mw_2_8 (k_X7_count l D cI cZ cS q0_1 xa xv ho0 ho1 pd0 pd1 m0 ts0 ts1 a ha sa cS0 (fun _ => cS0) (fun _ => cS0) z0 tabF z0 z0 (0 : Int32) (0 : Int32) (0 : Int32) zI (2 : Int32) zI_RS zI_inv) 0 7 rfl rfl (fun _ => xwW_f) (by decide) (by decide) rfl hl.1 rfl (Nat.le_of_ble_eq_true rfl) dL_law_57 ⟨Nat.le_of_ble_eq_true rfl, Nat.le_of_ble_eq_true rfl⟩ (fun r57 u57 H locs hw hP hD hS => ?_)
      have p57 : r57 = cntR zI (0 : Int32) (0 : Int32) (2 : Int32) := hw
      have hP : va_P D vwCl (xwW cI cZ cS q0_1 xa xv ho0 ho1 pd0 pd1 m0 ts0 ts1 a ha sa cS0 (fun _ => cS0) (fun _ => cS0) z0 tabF z0 z0 (0 : Int32) (0 : Int32) (0 : Int32) zI) H := hP
      have hD : va_D A (xwW cI cZ cS q0_1 xa xv ho0 ho1 pd0 pd1 m0 ts0 ts1 a ha sa cS0 (fun _ => cS0) (fun _ => cS0) z0 tabF z0 z0 (0 : Int32) (0 : Int32) (0 : Int32) zI) := hD
      refine xk_top (z := (zI 2)) (by exact p57.trans (ct_2 _ _ _)) ?_
      refine lv_iconst (v := 3) hx hb dL_law_60 (by decide) ?_
      refine lv_icmp_ne (tgt := 127) hx hb dL_law_61 (by decide) (fun c61 => ?_) (fun c61 => ?_)
      · have t61 : ¬ (zI 2).toInt = 3 := xi_ne rfl (by decide) c61
        have d61 : ¬ (zI 2) = 3 := c61
        exact absurd (show zI 2 = 3 from by decide) c61
      · have t61 : (zI 2).toInt = 3 := xi_eq rfl (by decide) c61
        have d61 : (zI 2) = 3 := c61
        refine lv_aload_n hx hb dL_law_64 rfl (lv_at hl 0 rfl) ?_
        refine lv_iconst (v := 3) hx hb dL_law_65 (by decide) ?_
        refine xo_Vi (As := [.int 3]) (rest := []) hx hb hml hown hts hK hN hZ hP hD hS hA mb_X7_count mw_2_6 mw_2_7 mw_2_8 (k_X7_count l D cI cZ cS q0_1 xa xv ho0 ho1 pd0 pd1 m0 ts0 ts1 a ha sa cS0 (fun _ => cS0) (fun _ => cS0) z0 tabF z0 z0 (0 : Int32) (0 : Int32) (0 : Int32) zI (3 : Int32) zI_RS zI_inv) 0 7 rfl rfl (fun _ => xwW_f) (by decide) (by decide) rfl hl.1 rfl (Nat.le_of_ble_eq_true rfl) dL_law_66 ⟨Nat.le_of_ble_eq_true rfl, Nat.le_of_ble_eq_true rfl⟩ (fun r66 u66 H locs hw hP hD hS => ?_)
        have p66 : r66 = cntR zI (0 : Int32) (0 : Int32) (3 : Int32) := hw
        have hP : va_P D vwCl (xwW cI cZ cS q0_1 xa xv ho0 ho1 pd0 pd1 m0 ts0 ts1 a ha sa cS0 (fun _ => cS0) (fun _ => cS0) z0 tabF z0 z0 (0 : Int32) (0 : Int32) (0 : Int32) zI) H := hP
        have hD : va_D A (xwW cI cZ cS q0_1 xa xv ho0 ho1 pd0 pd1 m0 ts0 ts1 a ha sa cS0 (fun _ => cS0) (fun _ => cS0) z0 tabF z0 z0 (0 : Int32) (0 : Int32) (0 : Int32) zI) := hD
        refine xk_top (z := (zI 3)) (by exact p66.trans (ct_3 _ _ _)) ?_
        refine lv_iconst (v := 4) hx hb dL_law_69 (by decide) ?_
        refine lv_icmp_ne (tgt := 127) hx hb dL_law_70 (by decide) (fun c70 => ?_) (fun c70 => ?_)
        · have t70 : ¬ (zI 3).toInt = 4 := xi_ne rfl (by decide) c70
          have d70 : ¬ (zI 3) = 4 := c70
          exact absurd (show zI 3 = 4 from by decide) c70
        · have t70 : (zI 3).toInt = 4 := xi_eq rfl (by decide) c70
          have d70 : (zI 3) = 4 := c70
          refine lv_aload_n hx hb dL_law_73 rfl (lv_at hl 0 rfl) ?_
          refine lv_iconst (v := 4) hx hb dL_law_74 (by decide) ?_
          refine xo_Vi (As := [.int 4]) (rest := []) hx hb hml hown hts hK hN hZ hP hD hS hA mb_X7_count mw_2_6 mw_2_7 mw_2_8 (k_X7_count l D cI cZ cS q0_1 xa xv ho0 ho1 pd0 pd1 m0 ts0 ts1 a ha sa cS0 (fun _ => cS0) (fun _ => cS0) z0 tabF z0 z0 (0 : Int32) (0 : Int32) (0 : Int32) zI (4 : Int32) zI_RS zI_inv) 0 7 rfl rfl (fun _ => xwW_f) (by decide) (by decide) rfl hl.1 rfl (Nat.le_of_ble_eq_true rfl) dL_law_75 ⟨Nat.le_of_ble_eq_true rfl, Nat.le_of_ble_eq_true rfl⟩ (fun r75 u75 H locs hw hP hD hS => ?_)
          have p75 : r75 = cntR zI (0 : Int32) (0 : Int32) (4 : Int32) := hw
          have hP : va_P D vwCl (xwW cI cZ cS q0_1 xa xv ho0 ho1 pd0 pd1 m0 ts0 ts1 a ha sa cS0 (fun _ => cS0) (fun _ => cS0) z0 tabF z0 z0 (0 : Int32) (0 : Int32) (0 : Int32) zI) H := hP
          have hD : va_D A (xwW cI cZ cS q0_1 xa xv ho0 ho1 pd0 pd1 m0 ts0 ts1 a ha sa cS0 (fun _ => cS0) (fun _ => cS0) z0 tabF z0 z0 (0 : Int32) (0 : Int32) (0 : Int32) zI) := hD
          refine xk_top (z := (zI 4)) (by exact p75.trans (ct_4 _ _ _)) ?_
          refine lv_bipush (v := 30) hx hb dL_law_78 (by decide) ?_
          refine lv_icmp_ne (tgt := 127) hx hb dL_law_80 (by decide) (fun c80 => ?_) (fun c80 => ?_)
          · have t80 : ¬ (zI 4).toInt = 30 := xi_ne rfl (by decide) c80
            have d80 : ¬ (zI 4) = 30 := c80
            exact absurd (show zI 4 = 30 from by decide) c80
          · have t80 : (zI 4).toInt = 30 := xi_eq rfl (by decide) c80
            have d80 : (zI 4) = 30 := c80
            refine lv_aload_n hx hb dL_law_83 rfl (lv_at hl 0 rfl) ?_
            refine lv_iconst (v := 5) hx hb dL_law_84 (by decide) ?_
            refine xo_Vi (As := [.int 5]) (rest := []) hx hb hml hown hts hK hN hZ hP hD hS hA mb_X7_count mw_2_6 mw_2_7 mw_2_8 (k_X7_count l D cI cZ cS q0_1 xa xv ho0 ho1 pd0 pd1 m0 ts0 ts1 a ha sa cS0 (fun _ => cS0) (fun _ => cS0) z0 tabF z0 z0 (0 : Int32) (0 : Int32) (0 : Int32) zI (5 : Int32) zI_RS zI_inv) 0 7 rfl rfl (fun _ => xwW_f) (by decide) (by decide) rfl hl.1 rfl (Nat.le_of_ble_eq_true rfl) dL_law_85 ⟨Nat.le_of_ble_eq_true rfl, Nat.le_of_ble_eq_true rfl⟩ (fun r85 u85 H locs hw hP hD hS => ?_)
            have p85 : r85 = cntR zI (0 : Int32) (0 : Int32) (5 : Int32) := hw
            have hP : va_P D vwCl (xwW cI cZ cS q0_1 xa xv ho0 ho1 pd0 pd1 m0 ts0 ts1 a ha sa cS0 (fun _ => cS0) (fun _ => cS0) z0 tabF z0 z0 (0 : Int32) (0 : Int32) (0 : Int32) zI) H := hP
            have hD : va_D A (xwW cI cZ cS q0_1 xa xv ho0 ho1 pd0 pd1 m0 ts0 ts1 a ha sa cS0 (fun _ => cS0) (fun _ => cS0) z0 tabF z0 z0 (0 : Int32) (0 : Int32) (0 : Int32) zI) := hD
            refine xk_top (z := (zI 5)) (by exact p85.trans (ct_5 _ _ _)) ?_
            refine lv_iconst (v := 4) hx hb dL_law_88 (by decide) ?_
            refine lv_icmp_ne (tgt := 127) hx hb dL_law_89 (by decide) (fun c89 => ?_) (fun c89 => ?_)
            · have t89 : ¬ (zI 5).toInt = 4 := xi_ne rfl (by decide) c89
              have d89 : ¬ (zI 5) = 4 := c89
              exact absurd (show zI 5 = 4 from by decide) c89
            · have t89 : (zI 5).toInt = 4 := xi_eq rfl (by decide) c89
              have d89 : (zI 5) = 4 := c89
              refine lv_aload_n hx hb dL_law_92 rfl (lv_at hl 0 rfl) ?_
              refine xo_Si (As := [.ref q0_1]) (rest := []) hx hb hml hown hts hK hN hZ hP hD hS hA mb_L_isBegun mw_3_81 mw_3_82 (c_L_isBegun l D cI cZ cS q0_1 xa xv ho0 ho1 pd0 pd1 m0 ts0 ts1 a ha sa cS0 (fun _ => cS0) (fun _ => cS0) z0 tabF z0 z0 (0 : Int32) (0 : Int32) (0 : Int32) zI z0 z0 0 LI_0 (by decide) (begP_b _) (show zI 181 = zI 4 from by decide)) (fun _ => xwW_f) (by decide) (by decide) rfl hl.1 rfl (Nat.le_of_ble_eq_true rfl) dL_law_93 ⟨Nat.le_of_ble_eq_true rfl, Nat.le_of_ble_eq_true rfl⟩ (fun r93 u93 H locs hw hP hD hS => ?_)
              have p93 : r93 = (1 : Int32) := hw
              have hP : va_P D vwCl (xwW cI cZ cS q0_1 xa xv ho0 ho1 pd0 pd1 m0 ts0 ts1 a ha sa cS0 (fun _ => cS0) (fun _ => cS0) z0 tabF z0 z0 (0 : Int32) (0 : Int32) (0 : Int32) zI) H := hP
              have hD : va_D A (xwW cI cZ cS q0_1 xa xv ho0 ho1 pd0 pd1 m0 ts0 ts1 a ha sa cS0 (fun _ => cS0) (fun _ => cS0) z0 tabF z0 z0 (0 : Int32) (0 : Int32) (0 : Int32) zI) := hD
              refine xk_top (z := 1) (by exact p93) ?_
              refine lv_if_eq (tgt := 127) hx hb dL_law_96 (by decide) (fun c96 => absurd c96 (by decide)) (fun _ => ?_)
              refine lv_aload_n hx hb dL_law_99 rfl (lv_at hl 0 rfl) ?_
              refine lv_iconst (v := 0) hx hb dL_law_100 (by decide) ?_
              refine xo_Si (As := [.ref q0_1, .int 0]) (rest := []) hx hb hml hown hts hK hN hZ hP hD hS hA mb_L_refuses mw_3_2 mw_3_3 (c_L_refuses l D cI cZ cS q0_1 xa xv ho0 ho1 pd0 pd1 m0 ts0 ts1 a ha sa cS0 (fun _ => cS0) (fun _ => cS0) z0 tabF z0 z0 (0 : Int32) (0 : Int32) zI z0 z0 0 (0 : Int32) LI_0 (by decide) (by decide)) (fun _ => xwW_f) (by decide) (by decide) rfl hl.1 rfl (Nat.le_of_ble_eq_true rfl) dL_law_101 ⟨Nat.le_of_ble_eq_true rfl, Nat.le_of_ble_eq_true rfl⟩ (fun r101 u101 H locs hw hP hD hS => ?_)
              obtain ⟨tq_101, rfl⟩ : ∃ q, q = u101 := ⟨_, rfl⟩
              have p101 : r101 = (1 : Int32) := hw
              have hP : va_P D vwCl (xwW cI cZ cS q0_1 xa xv ho0 ho1 pd0 pd1 m0 ts0 ts1 a ha sa cS0 (fun _ => cS0) (fun _ => cS0) tq_101 tabF z0 z0 (0 : Int32) (0 : Int32) (0 : Int32) zI) H := hP
              have hD : va_D A (xwW cI cZ cS q0_1 xa xv ho0 ho1 pd0 pd1 m0 ts0 ts1 a ha sa cS0 (fun _ => cS0) (fun _ => cS0) tq_101 tabF z0 z0 (0 : Int32) (0 : Int32) (0 : Int32) zI) := hD
              refine xk_top (z := 1) (by exact p101) ?_
              refine lv_if_eq (tgt := 127) hx hb dL_law_104 (by decide) (fun c104 => absurd c104 (by decide)) (fun _ => ?_)
              refine lv_aload_n hx hb dL_law_107 rfl (lv_at hl 0 rfl) ?_
              refine lv_iconst (v := 1) hx hb dL_law_108 (by decide) ?_
              refine xo_Si (As := [.ref q0_1, .int 1]) (rest := []) hx hb hml hown hts hK hN hZ hP hD hS hA mb_L_refuses mw_3_2 mw_3_3 (c_L_refuses l D cI cZ cS q0_1 xa xv ho0 ho1 pd0 pd1 m0 ts0 ts1 a ha sa cS0 (fun _ => cS0) (fun _ => cS0) tq_101 tabF z0 z0 (0 : Int32) (0 : Int32) zI z0 z0 0 (1 : Int32) LI_0 (by decide) (by decide)) (fun _ => xwW_f) (by decide) (by decide) rfl hl.1 rfl (Nat.le_of_ble_eq_true rfl) dL_law_109 ⟨Nat.le_of_ble_eq_true rfl, Nat.le_of_ble_eq_true rfl⟩ (fun r109 u109 H locs hw hP hD hS => ?_)
              obtain ⟨tq_109, rfl⟩ : ∃ q, q = u109 := ⟨_, rfl⟩
              have p109 : r109 = (1 : Int32) := hw
              have hP : va_P D vwCl (xwW cI cZ cS q0_1 xa xv ho0 ho1 pd0 pd1 m0 ts0 ts1 a ha sa cS0 (fun _ => cS0) (fun _ => cS0) tq_109 tabF z0 z0 (0 : Int32) (0 : Int32) (0 : Int32) zI) H := hP
              have hD : va_D A (xwW cI cZ cS q0_1 xa xv ho0 ho1 pd0 pd1 m0 ts0 ts1 a ha sa cS0 (fun _ => cS0) (fun _ => cS0) tq_109 tabF z0 z0 (0 : Int32) (0 : Int32) (0 : Int32) zI) := hD
              refine xk_top (z := 1) (by exact p109) ?_
              refine lv_if_eq (tgt := 127) hx hb dL_law_112 (by decide) (fun c112 => absurd c112 (by decide)) (fun _ => ?_)
              refine lv_aload_n hx hb dL_law_115 rfl (lv_at hl 0 rfl) ?_
              refine lv_iconst (v := 1) hx hb dL_law_116 (by decide) ?_
              refine xo_Vi (As := [.int 1]) (rest := []) hx hb hml hown hts hK hN hZ hP hD hS hA mb_X7_save mw_2_94 mw_2_95 mw_2_96 (k_X7_save l D cI cZ cS q0_1 xa xv ho0 ho1 pd0 pd1 m0 ts0 ts1 a ha sa cS0 (fun _ => cS0) (fun _ => cS0) tq_109 tabF z0 z0 (0 : Int32) (0 : Int32) (0 : Int32) zI (1 : Int32) zI_RS zI_inv) 0 7 rfl rfl (fun _ => xwW_f) (by decide) (by decide) rfl hl.1 rfl (Nat.le_of_ble_eq_true rfl) dL_law_117 ⟨Nat.le_of_ble_eq_true rfl, Nat.le_of_ble_eq_true rfl⟩ (fun r117 u117 H locs hw hP hD hS => ?_)
              obtain ⟨sc1_117, sv1_117⟩ := u117
              have p117 : r117 = (if slotV (1 : Int32) then zI 174 else -2) ∧ ((slotV (1 : Int32) ∧ sc1_117 = recC (fun _ => cS0) (cZm cS0 zI) 1 ∧ sv1_117 = upd z0 1 1) ∨ (¬ slotV (1 : Int32) ∧ sc1_117 = (fun _ => cS0) ∧ sv1_117 = z0)) := hw
              have hP : va_P D vwCl (xwW cI cZ cS q0_1 xa xv ho0 ho1 pd0 pd1 m0 ts0 ts1 a ha sa cS0 (fun _ => cS0) sc1_117 tq_109 tabF z0 sv1_117 (0 : Int32) (0 : Int32) (0 : Int32) zI) H := hP
              have hD : va_D A (xwW cI cZ cS q0_1 xa xv ho0 ho1 pd0 pd1 m0 ts0 ts1 a ha sa cS0 (fun _ => cS0) sc1_117 tq_109 tabF z0 sv1_117 (0 : Int32) (0 : Int32) (0 : Int32) zI) := hD
              obtain ⟨hLI1, hsv1⟩ := LI_save (p := 1) LI_0 p117.2
              have hs1i : ¬ sv1_117 1 = 0 := by rw [hsv1, if_pos (by decide), show (1 : Int32).toInt.toNat = 1 from by decide, upd_s]; decide
              rw [if_pos (by decide)] at hLI1
              refine xk_top (z := 0) (by exact p117.1.trans (by decide)) ?_
              refine lv_if_ne (tgt := 127) hx hb dL_law_120 (by decide) (fun c120 => absurd (by decide) c120) (fun _ => ?_)
              refine lv_iconst (v := 1) hx hb dL_law_123 (by decide) ?_
              refine lv_goto (tgt := 128) hx hb dL_law_124 (by decide) ?_
              refine lv_istore_n (lv' := [(2, .int 1), (1, .ref q0_1), (0, .ref b)]) hx hb dL_law_128 rfl hl (by decide) rfl (fun ls hl => ?_)
              refine lv_iconst (v := 0) hx hb dL_law_129 (by decide) ?_
              refine lv_istore_n (lv' := [(3, .int 0), (2, .int 1), (1, .ref q0_1), (0, .ref b)]) hx hb dL_law_130 rfl hl (by decide) rfl (fun ls hl => ?_)
              have L131 : ∀ (n : Nat) (k : Int32) (cn : Nat → Nat → Int32) (cs : Nat → Nat → Nat → Int32) (sc : Nat → Nat → Nat → Int32) (tm : Nat → Int32) (tv : Nat → Int32) (pd : Nat → Int32) (sv : Nat → Int32) (old : Int32) (sz : Int32) (z : Nat → Int32) (past : Nat → Int32) (slots : Nat → Int32) (hk : 0 ≤ k.toInt ∧ k.toInt ≤ 60) (hLI : LI (500 * k.toInt) cn cs sc sv (0 : Int32) old sz z past slots) (hz9 : ∀ j : Nat, 190 ≤ j → z j = 0) (hs1 : ¬ sv 1 = 0) (hsl : ∀ j : Nat, j < 190 → slots (190 + j) = zI j) (hn131 : (60 - k.toInt).toNat < n) (H : Heap) (locs : List Loc), va_P D vwCl (xwW cI cZ cS q0_1 xa xv ho0 ho1 pd0 pd1 m0 ts0 ts1 a ha sa cn cs sc tm tv pd sv (0 : Int32) old sz z) H → va_D A (xwW cI cZ cS q0_1 xa xv ho0 ho1 pd0 pd1 m0 ts0 ts1 a ha sa cn cs sc tm tv pd sv (0 : Int32) old sz z) → va_S A s.heap H locs → ∀ ls : Array Slot, lv_has ls 13 [(3, .int k), (2, .int 1), (1, .ref q0_1), (0, .ref b)] → W p l e room_1 s m #[Value.ref b] below meth c H locs 118 2984 Q (F0 m 131 ls []) := by
                intro n
                induction n with
                | zero =>
                  intro k cn cs sc tm tv pd sv old sz z past slots hk hLI hz9 hs1 hsl hn131
                  exact absurd hn131 (Nat.not_lt_zero _)
                | succ n ih131 =>
                  intro k cn cs sc tm tv pd sv old sz z past slots hk hLI hz9 hs1 hsl hn131 H locs hP hD hS ls hl
                  have hloop := hk
                  obtain ⟨hRS, hI, hBD, ⟨hold, hszz, hlnn⟩, hmcs, hmsc, -, -⟩ := id hLI
                  refine lv_iload_n hx hb dL_law_131 rfl (lv_at hl 0 rfl) ?_
                  refine lv_bipush (v := 60) hx hb dL_law_132 (by decide) ?_
                  refine lv_icmp_ge (tgt := 396) hx hb dL_law_134 (by decide) (fun c134 => ?_) (fun c134 => ?_)
                  · have t134 : 60 ≤ k.toInt := xi_le (by decide) rfl c134
                    refine lv_iload_n hx hb dL_law_396 rfl (lv_at hl 1 rfl) ?_
                    refine lv_if_eq (tgt := 442) hx hb dL_law_397 (by decide) (fun c397 => absurd c397 (by decide)) (fun _ => ?_)
                    refine lv_aload_n hx hb dL_law_400 rfl (lv_at hl 2 rfl) ?_
                    refine lv_iconst (v := 1) hx hb dL_law_401 (by decide) ?_
                    refine xo_Vi (As := [.int 1]) (rest := []) hx hb hml hown hts hK hN hZ hP hD hS hA mb_X7_restore mw_2_102 mw_2_103 mw_2_104 (k_X7_restore l D cI cZ cS q0_1 xa xv ho0 ho1 pd0 pd1 m0 ts0 ts1 a ha sa cn cs sc tm tv pd sv (0 : Int32) old sz z (va_cpy slots z (190 * (1 : Int32).toInt.toNat) 0 190) (1 : Int32) hRS hI hold hszz (fun i hi => (hmsc i hi).1) (fun i hi => (hmsc i hi).2) ((LI_rest hLI 1).1)) 0 7 rfl rfl (fun _ => xwW_f) (by decide) (by decide) rfl hl.1 rfl (Nat.le_of_ble_eq_true rfl) dL_law_402 ⟨Nat.le_of_ble_eq_true rfl, Nat.le_of_ble_eq_true rfl⟩ (fun r402 u402 H locs hw hP hD hS => ?_)
                    obtain ⟨cq_402, zq_402, old1_402, sz1_402, cs1_402⟩ := u402
                    have p402 : r402 = (if slotV (1 : Int32) then (if sv 1 = 0 then -5 else (va_cpy slots z (190 * 1) 0 190) 174) else -2) ∧ ((restC (1 : Int32) sv ∧ cq_402 = sc 1 ∧ zq_402 = (va_cpy slots z (190 * 1) 0 190) ∧ old1_402 = oldR old sz ∧ sz1_402 = szR sz ∧ cs1_402 = recC cs (cZm cn z) (jR old sz)) ∨ (¬ restC (1 : Int32) sv ∧ Same cn z old sz cs cq_402 zq_402 old1_402 sz1_402 cs1_402)) := hw
                    have hP : va_P D vwCl (xwW cI cZ cS q0_1 xa xv ho0 ho1 pd0 pd1 m0 ts0 ts1 a ha sa cq_402 cs1_402 sc tm tv pd sv (0 : Int32) old1_402 sz1_402 zq_402) H := hP
                    have hD : va_D A (xwW cI cZ cS q0_1 xa xv ho0 ho1 pd0 pd1 m0 ts0 ts1 a ha sa cq_402 cs1_402 sc tm tv pd sv (0 : Int32) old1_402 sz1_402 zq_402) := hD
                    have hrs : restC 1 sv := ⟨by decide, hs1⟩
                    obtain ⟨hLIe, hze, hse⟩ := (LI_rest hLI 1).2.2 _ _ _ _ _ p402.2
                    rw [if_pos hrs] at hLIe hze hse
                    rw [if_pos hrs] at hLIe
                    obtain ⟨z2, hz2⟩ : ∃ q, q = va_cpy slots z (190 * (1 : Int32).toInt.toNat) 0 190 := ⟨_, rfl⟩
                    rw [← hz2] at hLIe hze
                    rw [hze] at hP hD
                    have hP : va_P D vwCl (xwW cI cZ cS q0_1 xa xv ho0 ho1 pd0 pd1 m0 ts0 ts1 a ha sa cq_402 cs1_402 sc tm tv pd sv (0 : Int32) old1_402 sz1_402 z2) H := hP
                    have hD : va_D A (xwW cI cZ cS q0_1 xa xv ho0 ho1 pd0 pd1 m0 ts0 ts1 a ha sa cq_402 cs1_402 sc tm tv pd sv (0 : Int32) old1_402 sz1_402 z2) := hD
                    have hzs : ∀ j : Nat, j < 190 → z2 j = zI j := fun j hj => by rw [hz2, cpy_in0 hj, show 190 * (1 : Int32).toInt.toNat + j = 190 + j from by rw [show (1 : Int32).toInt.toNat = 1 from by decide]]; exact hsl j hj
                    have h26 : (z2 6).toInt = 0 := by rw [hzs 6 (by omega)]; decide
                    have hr402 : r402 = 0 := by rw [p402.1, if_pos (by decide), if_neg hs1]; exact (congrFun hz2 174).symm.trans ((hzs 174 (by omega)).trans (by decide))
                    have hrec := recS_t hszz
                    have hset : sz1_402.toInt = (recS sz).toInt := by rw [hse]
                    obtain ⟨hRSe, hIe, hBDe, ⟨holde, hszze, hlnne⟩, hmcse, hmsce, -, -⟩ := id hLIe
                    refine xk_top (z := 0) (by exact hr402) ?_
                    refine lv_if_ne (tgt := 442) hx hb dL_law_405 (by decide) (fun c405 => absurd (by decide) c405) (fun _ => ?_)
                    refine lv_aload_n hx hb dL_law_408 rfl (lv_at hl 2 rfl) ?_
                    refine lv_bipush (v := 6) hx hb dL_law_409 (by decide) ?_
                    refine xo_Vi (As := [.int 6]) (rest := []) hx hb hml hown hts hK hN hZ hP hD hS hA mb_X7_count mw_2_6 mw_2_7 mw_2_8 (k_X7_count l D cI cZ cS q0_1 xa xv ho0 ho1 pd0 pd1 m0 ts0 ts1 a ha sa cq_402 cs1_402 sc tm tv pd sv (0 : Int32) old1_402 sz1_402 z2 (6 : Int32) hRSe hIe) 0 7 rfl rfl (fun _ => xwW_f) (by decide) (by decide) rfl hl.1 rfl (Nat.le_of_ble_eq_true rfl) dL_law_411 ⟨Nat.le_of_ble_eq_true rfl, Nat.le_of_ble_eq_true rfl⟩ (fun r411 u411 H locs hw hP hD hS => ?_)
                    have p411 : r411 = cntR z2 (0 : Int32) sz1_402 (6 : Int32) := hw
                    have hP : va_P D vwCl (xwW cI cZ cS q0_1 xa xv ho0 ho1 pd0 pd1 m0 ts0 ts1 a ha sa cq_402 cs1_402 sc tm tv pd sv (0 : Int32) old1_402 sz1_402 z2) H := hP
                    have hD : va_D A (xwW cI cZ cS q0_1 xa xv ho0 ho1 pd0 pd1 m0 ts0 ts1 a ha sa cq_402 cs1_402 sc tm tv pd sv (0 : Int32) old1_402 sz1_402 z2) := hD
                    refine xk_top (z := (z2 6)) (by exact p411.trans (ct_6 _ _ _)) ?_
                    refine lv_if_ne (tgt := 442) hx hb dL_law_414 (by decide) (fun c414 => ?_) (fun c414 => ?_)
                    · have t414 : ¬ (z2 6).toInt = 0 := xi_ne rfl (by decide) c414
                      have d414 : ¬ (z2 6) = 0 := c414
                      omega
                    · have t414 : (z2 6).toInt = 0 := xi_eq rfl (by decide) c414
                      have d414 : (z2 6) = 0 := c414
                      refine lv_aload_n hx hb dL_law_417 rfl (lv_at hl 2 rfl) ?_
                      refine xo_Vi (As := []) (rest := []) hx hb hml hown hts hK hN hZ hP hD hS hA mb_X7_undo mw_2_55 mw_2_56 mw_2_57 (k_X7_undo l D cI cZ cS q0_1 xa xv ho0 ho1 pd0 pd1 m0 ts0 ts1 a ha sa cq_402 cs1_402 sc tm tv pd sv (0 : Int32) old1_402 sz1_402 z2 (undoZ sz1_402 (recP z past sz) z2) hRSe hIe holde hszze (fun i hi => (hmcse i hi).1) (fun i hi => (hmcse i hi).2) ((LI_undo hLIe).1)) 0 7 rfl rfl (fun _ => xwW_f) (by decide) (by decide) rfl hl.1 rfl (Nat.le_of_ble_eq_true rfl) dL_law_418 ⟨Nat.le_of_ble_eq_true rfl, Nat.le_of_ble_eq_true rfl⟩ (fun r418 u418 H locs hw hP hD hS => ?_)
                      obtain ⟨cq_418, zq_418, old1_418, sz1_418, cs1_418⟩ := u418
                      have p418 : r418 = undoR sz1_402 ∧ ((sz1_402 = 0 ∧ Same cq_402 z2 old1_402 sz1_402 cs1_402 cq_418 zq_418 old1_418 sz1_418 cs1_418) ∨ (¬ sz1_402 = 0 ∧ cq_418 = cs1_402 (tbJ old1_402 sz1_402) ∧ zq_418 = (undoZ sz1_402 (recP z past sz) z2) ∧ old1_418 = old1_402 ∧ sz1_418 = sz1_402 - 1 ∧ cs1_418 = cs1_402)) := hw
                      have hP : va_P D vwCl (xwW cI cZ cS q0_1 xa xv ho0 ho1 pd0 pd1 m0 ts0 ts1 a ha sa cq_418 cs1_418 sc tm tv pd sv (0 : Int32) old1_418 sz1_418 zq_418) H := hP
                      have hD : va_D A (xwW cI cZ cS q0_1 xa xv ho0 ho1 pd0 pd1 m0 ts0 ts1 a ha sa cq_418 cs1_418 sc tm tv pd sv (0 : Int32) old1_418 sz1_418 zq_418) := hD
                      obtain ⟨hLIf, hzf, hsf⟩ := (LI_undo hLIe).2 _ _ _ _ _ p418.2
                      obtain ⟨z3, hz3⟩ : ∃ q, q = undoZ sz1_402 (recP z past sz) z2 := ⟨_, rfl⟩
                      rw [← hz3] at hLIf hzf
                      rw [hzf] at hP hD
                      have hP : va_P D vwCl (xwW cI cZ cS q0_1 xa xv ho0 ho1 pd0 pd1 m0 ts0 ts1 a ha sa cq_418 cs1_418 sc tm tv pd sv (0 : Int32) old1_418 sz1_418 z3) H := hP
                      have hD : va_D A (xwW cI cZ cS q0_1 xa xv ho0 ho1 pd0 pd1 m0 ts0 ts1 a ha sa cq_418 cs1_418 sc tm tv pd sv (0 : Int32) old1_418 sz1_418 z3) := hD
                      obtain ⟨hRSf, hIf, hBDf, ⟨holdf, hszzf, hlnnf⟩, hmcsf, hmscf, -, -⟩ := id hLIf
                      have hund := undoR_t (sz := sz1_402) (by omega)
                      have hr418 : r418.toInt = (undoR sz1_402).toInt := by rw [p418.1]
                      refine lv_if_lt (tgt := 442) hx hb dL_law_421 (by decide) (fun c421 => ?_) (fun c421 => ?_)
                      · have t421 : r418.toInt < 0 := xi_lt rfl (by decide) c421
                        omega
                      · have t421 : 0 ≤ r418.toInt := xi_nlt rfl (by decide) c421
                        refine lv_aload_n hx hb dL_law_424 rfl (lv_at hl 2 rfl) ?_
                        refine xo_Si (As := [.ref q0_1]) (rest := []) hx hb hml hown hts hK hN hZ hP hD hS hA mb_L_isSong mw_2_147 mw_2_148 (c_L_isSong l D cI cZ cS q0_1 xa xv ho0 ho1 pd0 pd1 m0 ts0 ts1 a ha sa cq_418 cs1_418 sc tm tv pd sv (0 : Int32) old1_418 sz1_418 z3 (recP z past sz) slots (500 * k.toInt) hLIf (by first | omega | assumption)) (fun _ => xwW_f) (by decide) (by decide) rfl hl.1 rfl (Nat.le_of_ble_eq_true rfl) dL_law_425 ⟨Nat.le_of_ble_eq_true rfl, Nat.le_of_ble_eq_true rfl⟩ (fun r425 u425 H locs hw hP hD hS => ?_)
                        have p425 : r425 = (1 : Int32) := hw
                        have hP : va_P D vwCl (xwW cI cZ cS q0_1 xa xv ho0 ho1 pd0 pd1 m0 ts0 ts1 a ha sa cq_418 cs1_418 sc tm tv pd sv (0 : Int32) old1_418 sz1_418 z3) H := hP
                        have hD : va_D A (xwW cI cZ cS q0_1 xa xv ho0 ho1 pd0 pd1 m0 ts0 ts1 a ha sa cq_418 cs1_418 sc tm tv pd sv (0 : Int32) old1_418 sz1_418 z3) := hD
                        refine xk_top (z := 1) (by exact p425) ?_
                        refine lv_if_eq (tgt := 442) hx hb dL_law_428 (by decide) (fun c428 => absurd c428 (by decide)) (fun _ => ?_)
                        refine lv_aload_n hx hb dL_law_431 rfl (lv_at hl 2 rfl) ?_
                        refine xo_Si (As := [.ref q0_1]) (rest := []) hx hb hml hown hts hK hN hZ hP hD hS hA mb_L_isMarch mw_2_174 mw_2_175 (c_L_isMarch l D cI cZ cS q0_1 xa xv ho0 ho1 pd0 pd1 m0 ts0 ts1 a ha sa cq_418 cs1_418 sc tm tv pd sv (0 : Int32) old1_418 sz1_418 z3 (recP z past sz) slots (500 * k.toInt) hLIf (by first | omega | assumption)) (fun _ => xwW_f) (by decide) (by decide) rfl hl.1 rfl (Nat.le_of_ble_eq_true rfl) dL_law_432 ⟨Nat.le_of_ble_eq_true rfl, Nat.le_of_ble_eq_true rfl⟩ (fun r432 u432 H locs hw hP hD hS => ?_)
                        obtain ⟨tq_432, vq_432⟩ := u432
                        have p432 : r432 = (1 : Int32) := hw
                        have hP : va_P D vwCl (xwW cI cZ cS q0_1 xa xv ho0 ho1 pd0 pd1 m0 ts0 ts1 a ha sa cq_418 cs1_418 sc tq_432 vq_432 pd sv (0 : Int32) old1_418 sz1_418 z3) H := hP
                        have hD : va_D A (xwW cI cZ cS q0_1 xa xv ho0 ho1 pd0 pd1 m0 ts0 ts1 a ha sa cq_418 cs1_418 sc tq_432 vq_432 pd sv (0 : Int32) old1_418 sz1_418 z3) := hD
                        refine xk_top (z := 1) (by exact p432) ?_
                        refine lv_if_eq (tgt := 442) hx hb dL_law_435 (by decide) (fun c435 => absurd c435 (by decide)) (fun _ => ?_)
                        refine lv_iconst (v := 1) hx hb dL_law_438 (by decide) ?_
                        refine lv_goto (tgt := 443) hx hb dL_law_439 (by decide) ?_
                        refine va_forget (fun q hq => by have := hS.2.2 q hq; rw [hAe] at this; exact this) ?_
                        refine W.widen (k := 600000) (n := 7302250) (Nat.le_of_ble_eq_true rfl) (Nat.le_of_ble_eq_true rfl) ?_
                        rw [hQ]
                        exact lw_ret hx hb hr hlocks dL_law_443
                  · have t134 : k.toInt < 60 := xi_nle (by decide) rfl c134
                    refine lv_iload_n hx hb dL_law_137 rfl (lv_at hl 1 rfl) ?_
                    refine lv_if_eq (tgt := 396) hx hb dL_law_138 (by decide) (fun c138 => absurd c138 (by decide)) (fun _ => ?_)
                    refine lv_aload_n hx hb dL_law_141 rfl (lv_at hl 3 rfl) ?_
                    refine lv_iload_n hx hb dL_law_142 rfl (lv_at hl 0 rfl) ?_
                    refine xo_cell (b := b) (L := L) (xs := xs) hx hb hml hown hts hP hD hS hA hX hbl hbA hL (by omega) mw_2_110 (by decide) hl.1 (Nat.le_of_ble_eq_true rfl) dL_law_143 ⟨Nat.le_of_ble_eq_true rfl, Nat.le_of_ble_eq_true rfl⟩ (fun r143 H locs t143 hP hD hS => ?_)
                    refine lv_istore (lv' := [(4, .int r143), (3, .int k), (2, .int 1), (1, .ref q0_1), (0, .ref b)]) hx hb dL_law_146 hl (by decide) rfl (fun ls hl => ?_)
                    refine lv_aload_n hx hb dL_law_148 rfl (lv_at hl 3 rfl) ?_
                    refine xo_Sl (As := [.ref q0_1]) (rest := []) hx hb hml hown hts hK hN hZ hP hD hS hA mb_L_seen mw_2_116 mw_2_117 (c_L_seen l D cI cZ cS q0_1 xa xv ho0 ho1 pd0 pd1 m0 ts0 ts1 a ha sa cn cs sc tm tv pd sv (0 : Int32) old sz z past slots (500 * k.toInt) hLI (by first | omega | assumption)) (fun _ => xwW_f) (by decide) (by decide) rfl hl.1 rfl (Nat.le_of_ble_eq_true rfl) dL_law_149 ⟨Nat.le_of_ble_eq_true rfl, Nat.le_of_ble_eq_true rfl⟩ (fun r149 u149 H locs hw hP hD hS => ?_)
                    have p149 : r149 = seenZ z := hw
                    have hP : va_P D vwCl (xwW cI cZ cS q0_1 xa xv ho0 ho1 pd0 pd1 m0 ts0 ts1 a ha sa cn cs sc tm tv pd sv (0 : Int32) old sz z) H := hP
                    have hD : va_D A (xwW cI cZ cS q0_1 xa xv ho0 ho1 pd0 pd1 m0 ts0 ts1 a ha sa cn cs sc tm tv pd sv (0 : Int32) old sz z) := hD
                    refine xk_topl (z := (seenZ z)) (by exact p149) ?_
                    refine lv_lstore (lv' := [(5, .long (seenZ z)), (4, .int r143), (3, .int k), (2, .int 1), (1, .ref q0_1), (0, .ref b)]) hx hb dL_law_152 hl (by decide) rfl (fun ls hl => ?_)
                    refine lv_aload_n hx hb dL_law_154 rfl (lv_at hl 4 rfl) ?_
                    refine lv_bipush (v := 12) hx hb dL_law_155 (by decide) ?_
                    refine xo_Vi (As := [.int 12]) (rest := []) hx hb hml hown hts hK hN hZ hP hD hS hA mb_X7_count mw_2_6 mw_2_7 mw_2_8 (k_X7_count l D cI cZ cS q0_1 xa xv ho0 ho1 pd0 pd1 m0 ts0 ts1 a ha sa cn cs sc tm tv pd sv (0 : Int32) old sz z (12 : Int32) hRS hI) 0 7 rfl rfl (fun _ => xwW_f) (by decide) (by decide) rfl hl.1 rfl (Nat.le_of_ble_eq_true rfl) dL_law_157 ⟨Nat.le_of_ble_eq_true rfl, Nat.le_of_ble_eq_true rfl⟩ (fun r157 u157 H locs hw hP hD hS => ?_)
                    have p157 : r157 = cntR z (0 : Int32) sz (12 : Int32) := hw
                    have hP : va_P D vwCl (xwW cI cZ cS q0_1 xa xv ho0 ho1 pd0 pd1 m0 ts0 ts1 a ha sa cn cs sc tm tv pd sv (0 : Int32) old sz z) H := hP
                    have hD : va_D A (xwW cI cZ cS q0_1 xa xv ho0 ho1 pd0 pd1 m0 ts0 ts1 a ha sa cn cs sc tm tv pd sv (0 : Int32) old sz z) := hD
                    refine xk_top (z := sz) (by exact p157.trans (ct_12 _ _ _)) ?_
                    refine lv_istore (lv' := [(7, .int sz), (5, .long (seenZ z)), (4, .int r143), (3, .int k), (2, .int 1), (1, .ref q0_1), (0, .ref b)]) hx hb dL_law_160 hl (by decide) rfl (fun ls hl => ?_)
                    refine lv_aload_n hx hb dL_law_162 rfl (lv_at hl 5 rfl) ?_
                    refine lv_iload hx hb dL_law_163 (lv_at hl 2 rfl) ?_
                    have J174 : ∀ (ff : Int32)  (H : Heap) (locs : List Loc), va_P D vwCl (xwW cI cZ cS q0_1 xa xv ho0 ho1 pd0 pd1 m0 ts0 ts1 a ha sa cn cs sc tm tv pd sv (0 : Int32) old sz z) H → va_D A (xwW cI cZ cS q0_1 xa xv ho0 ho1 pd0 pd1 m0 ts0 ts1 a ha sa cn cs sc tm tv pd sv (0 : Int32) old sz z) → va_S A s.heap H locs → ∀ ls : Array Slot, lv_has ls 13 [(7, .int sz), (5, .long (seenZ z)), (4, .int r143), (3, .int k), (2, .int 1), (1, .ref q0_1), (0, .ref b)] → W p l e room_1 s m #[Value.ref b] below meth c H locs 118 2984 Q (F0 m 174 ls [.int ff, .int r143, .ref q0_1]) := by
                      intro ff H locs hP hD hS ls hl
                      refine xo_Si (As := [.ref q0_1, .int r143, .int ff]) (rest := []) hx hb hml hown hts hK hN hZ hP hD hS hA mb_L_act mw_3_84 mw_3_85 (c_L_act l D cI cZ cS q0_1 xa xv ho0 ho1 pd0 pd1 m0 ts0 ts1 a ha sa cn cs sc tm tv pd sv old sz z past slots (500 * k.toInt) r143 ff hLI (by first | omega | assumption) (by first | omega | assumption)) (fun _ => xwW_f) (by decide) (by decide) rfl hl.1 rfl (Nat.le_of_ble_eq_true rfl) dL_law_174 ⟨Nat.le_of_ble_eq_true rfl, Nat.le_of_ble_eq_true rfl⟩ (fun r174 u174 H locs hw hP hD hS => ?_)
                      obtain ⟨cq_174, cs1_174, tq_174, pdq_174, old1_174, sz1_174, z1_174⟩ := u174
                      have p174 : ((r174 = 1 ∧ LI ((500 * k.toInt) + 500) cq_174 cs1_174 sc sv (0 : Int32) old1_174 sz1_174 z1_174 (recP z past sz) slots ∧ sz1_174 = recS sz) ∨ (r174 = 0 ∧ LI (500 * k.toInt) cq_174 cs1_174 sc sv (0 : Int32) old1_174 sz1_174 z1_174 past slots ∧ z1_174 = z ∧ sz1_174 = sz)) ∧ (∀ k : Nat, 190 ≤ k → z1_174 k = z k) := hw
                      have hP : va_P D vwCl (xwW cI cZ cS q0_1 xa xv ho0 ho1 pd0 pd1 m0 ts0 ts1 a ha sa cq_174 cs1_174 sc tq_174 tv pdq_174 sv (0 : Int32) old1_174 sz1_174 z1_174) H := hP
                      have hD : va_D A (xwW cI cZ cS q0_1 xa xv ho0 ho1 pd0 pd1 m0 ts0 ts1 a ha sa cq_174 cs1_174 sc tq_174 tv pdq_174 sv (0 : Int32) old1_174 sz1_174 z1_174) := hD
                      obtain ⟨past1, hLIa, hcase⟩ := law_act p174.1
                      have hz9a : ∀ j : Nat, 190 ≤ j → z1_174 j = 0 := fun j hj => (p174.2 j hj).trans (hz9 j hj)
                      obtain ⟨hRSa, hIa, hBDa, ⟨holda, hszza, hlnna⟩, hmcsa, hmsca, -, -⟩ := id hLIa
                      have hrec := recS_t hszz
                      refine lv_istore (lv' := [(8, .int r174), (7, .int sz), (5, .long (seenZ z)), (4, .int r143), (3, .int k), (2, .int 1), (1, .ref q0_1), (0, .ref b)]) hx hb dL_law_177 hl (by decide) rfl (fun ls hl => ?_)
                      refine lv_aload_n hx hb dL_law_179 rfl (lv_at hl 6 rfl) ?_
                      refine lv_bipush (v := 12) hx hb dL_law_180 (by decide) ?_
                      refine xo_Vi (As := [.int 12]) (rest := []) hx hb hml hown hts hK hN hZ hP hD hS hA mb_X7_count mw_2_6 mw_2_7 mw_2_8 (k_X7_count l D cI cZ cS q0_1 xa xv ho0 ho1 pd0 pd1 m0 ts0 ts1 a ha sa cq_174 cs1_174 sc tq_174 tv pdq_174 sv (0 : Int32) old1_174 sz1_174 z1_174 (12 : Int32) hRSa hIa) 0 7 rfl rfl (fun _ => xwW_f) (by decide) (by decide) rfl hl.1 rfl (Nat.le_of_ble_eq_true rfl) dL_law_182 ⟨Nat.le_of_ble_eq_true rfl, Nat.le_of_ble_eq_true rfl⟩ (fun r182 u182 H locs hw hP hD hS => ?_)
                      have p182 : r182 = cntR z1_174 (0 : Int32) sz1_174 (12 : Int32) := hw
                      have hP : va_P D vwCl (xwW cI cZ cS q0_1 xa xv ho0 ho1 pd0 pd1 m0 ts0 ts1 a ha sa cq_174 cs1_174 sc tq_174 tv pdq_174 sv (0 : Int32) old1_174 sz1_174 z1_174) H := hP
                      have hD : va_D A (xwW cI cZ cS q0_1 xa xv ho0 ho1 pd0 pd1 m0 ts0 ts1 a ha sa cq_174 cs1_174 sc tq_174 tv pdq_174 sv (0 : Int32) old1_174 sz1_174 z1_174) := hD
                      refine xk_top (z := sz1_174) (by exact p182.trans (ct_12 _ _ _)) ?_
                      refine lv_istore (lv' := [(9, .int sz1_174), (8, .int r174), (7, .int sz), (5, .long (seenZ z)), (4, .int r143), (3, .int k), (2, .int 1), (1, .ref q0_1), (0, .ref b)]) hx hb dL_law_185 hl (by decide) rfl (fun ls hl => ?_)
                      have J238 : ∀   (H : Heap) (locs : List Loc), va_P D vwCl (xwW cI cZ cS q0_1 xa xv ho0 ho1 pd0 pd1 m0 ts0 ts1 a ha sa cq_174 cs1_174 sc tq_174 tv pdq_174 sv (0 : Int32) old1_174 sz1_174 z1_174) H → va_D A (xwW cI cZ cS q0_1 xa xv ho0 ho1 pd0 pd1 m0 ts0 ts1 a ha sa cq_174 cs1_174 sc tq_174 tv pdq_174 sv (0 : Int32) old1_174 sz1_174 z1_174) → va_S A s.heap H locs → ∀ ls : Array Slot, lv_has ls 13 [(9, .int sz1_174), (8, .int r174), (7, .int sz), (5, .long (seenZ z)), (4, .int r143), (3, .int k), (2, .int 1), (1, .ref q0_1), (0, .ref b)] → W p l e room_1 s m #[Value.ref b] below meth c H locs 118 2984 Q (F0 m 238 ls []) := by
                        intro  H locs hP hD hS ls hl
                        have J251 : ∀   (H : Heap) (locs : List Loc), va_P D vwCl (xwW cI cZ cS q0_1 xa xv ho0 ho1 pd0 pd1 m0 ts0 ts1 a ha sa cq_174 cs1_174 sc tq_174 tv pdq_174 sv (0 : Int32) old1_174 sz1_174 z1_174) H → va_D A (xwW cI cZ cS q0_1 xa xv ho0 ho1 pd0 pd1 m0 ts0 ts1 a ha sa cq_174 cs1_174 sc tq_174 tv pdq_174 sv (0 : Int32) old1_174 sz1_174 z1_174) → va_S A s.heap H locs → ∀ ls : Array Slot, lv_has ls 13 [(9, .int sz1_174), (8, .int r174), (7, .int sz), (5, .long (seenZ z)), (4, .int r143), (3, .int k), (2, .int 1), (1, .ref q0_1), (0, .ref b)] → W p l e room_1 s m #[Value.ref b] below meth c H locs 118 2984 Q (F0 m 251 ls []) := by
                          intro  H locs hP hD hS ls hl
                          have J264 : ∀ (tj : Nat → Int32) (vj : Nat → Int32)  (H : Heap) (locs : List Loc), va_P D vwCl (xwW cI cZ cS q0_1 xa xv ho0 ho1 pd0 pd1 m0 ts0 ts1 a ha sa cq_174 cs1_174 sc tj vj pdq_174 sv (0 : Int32) old1_174 sz1_174 z1_174) H → va_D A (xwW cI cZ cS q0_1 xa xv ho0 ho1 pd0 pd1 m0 ts0 ts1 a ha sa cq_174 cs1_174 sc tj vj pdq_174 sv (0 : Int32) old1_174 sz1_174 z1_174) → va_S A s.heap H locs → ∀ ls : Array Slot, lv_has ls 13 [(9, .int sz1_174), (8, .int r174), (7, .int sz), (5, .long (seenZ z)), (4, .int r143), (3, .int k), (2, .int 1), (1, .ref q0_1), (0, .ref b)] → W p l e room_1 s m #[Value.ref b] below meth c H locs 118 2984 Q (F0 m 264 ls []) := by
                            intro tj vj H locs hP hD hS ls hl
                            have J285 : ∀ (tk : Nat → Int32)  (H : Heap) (locs : List Loc), va_P D vwCl (xwW cI cZ cS q0_1 xa xv ho0 ho1 pd0 pd1 m0 ts0 ts1 a ha sa cq_174 cs1_174 sc tk vj pdq_174 sv (0 : Int32) old1_174 sz1_174 z1_174) H → va_D A (xwW cI cZ cS q0_1 xa xv ho0 ho1 pd0 pd1 m0 ts0 ts1 a ha sa cq_174 cs1_174 sc tk vj pdq_174 sv (0 : Int32) old1_174 sz1_174 z1_174) → va_S A s.heap H locs → ∀ ls : Array Slot, lv_has ls 13 [(9, .int sz1_174), (8, .int r174), (7, .int sz), (5, .long (seenZ z)), (4, .int r143), (3, .int k), (2, .int 1), (1, .ref q0_1), (0, .ref b)] → W p l e room_1 s m #[Value.ref b] below meth c H locs 118 2984 Q (F0 m 285 ls []) := by
                              intro tk H locs hP hD hS ls hl
                              refine lv_iconst (v := 1) hx hb dL_law_285 (by decide) ?_
                              refine lv_goto (tgt := 290) hx hb dL_law_286 (by decide) ?_
                              refine lv_istore_n (lv' := [(2, .int 1), (9, .int sz1_174), (8, .int r174), (7, .int sz), (5, .long (seenZ z)), (4, .int r143), (3, .int k), (1, .ref q0_1), (0, .ref b)]) hx hb dL_law_290 rfl hl (by decide) rfl (fun ls hl => ?_)
                              refine lv_iload_n hx hb dL_law_291 rfl (lv_at hl 0 rfl) ?_
                              refine lv_if_eq (tgt := 390) hx hb dL_law_292 (by decide) (fun c292 => absurd c292 (by decide)) (fun _ => ?_)
                              refine lv_iload hx hb dL_law_295 (lv_at hl 2 rfl) ?_
                              refine lv_iconst (v := 1) hx hb dL_law_297 (by decide) ?_
                              refine lv_icmp_ne (tgt := 390) hx hb dL_law_298 (by decide) (fun c298 => ?_) (fun c298 => ?_)
                              · have t298 : ¬ r174.toInt = 1 := xi_ne rfl (by decide) c298
                                have d298 : ¬ r174 = 1 := c298
                                obtain ⟨x390, e390⟩ : ∃ y : Int32, y = k + 1 := ⟨_, rfl⟩
                                have t390 : x390.toInt = k.toInt + 1 := by rw [e390]; exact xi_add rfl (by decide) (by omega) (by omega)
                                refine lv_iinc (v := x390) (lv' := [(3, .int x390), (2, .int 1), (9, .int sz1_174), (8, .int r174), (7, .int sz), (5, .long (seenZ z)), (4, .int r143), (1, .ref q0_1), (0, .ref b)]) hx hb dL_law_390 hl (k := 6) rfl (by rw [e390]; rfl) (by decide) rfl (fun ls hl => ?_)
                                refine lv_goto (tgt := 131) hx hb dL_law_393 (by decide) ?_
                                exact ih131  x390 cq_174 cs1_174 sc tk vj pdq_174 sv old1_174 sz1_174 z1_174 past1 slots (by omega) (by exact LI_mono (by omega) hLIa) (by exact hz9a) (by exact hs1) (by exact hsl) (by omega) _ _ hP hD hS ls (lv_sub hl [0, 1, 7, 8] rfl)
                              · have t298 : r174.toInt = 1 := xi_eq rfl (by decide) c298
                                have d298 : r174 = 1 := c298
                                refine lv_iload hx hb dL_law_301 (lv_at hl 5 rfl) ?_
                                refine lv_bipush (v := 17) hx hb dL_law_303 (by decide) ?_
                                refine lv_idiv hx hb dL_law_305 (by decide) ?_
                                refine lv_topi (fun x305 e305 => ?_)
                                have t305 : x305.toInt = r143.toInt / 17 := by rw [e305]; exact xi_div rfl (by decide) (by omega) (by omega)
                                refine lv_iconst (v := 4) hx hb dL_law_306 (by decide) ?_
                                refine lv_irem hx hb dL_law_307 (by decide) ?_
                                refine lv_topi (fun x307 e307 => ?_)
                                have t307 : x307.toInt = x305.toInt % 4 := by rw [e307]; exact xi_rem rfl (by decide) (by omega) (by omega)
                                refine lv_if_ne (tgt := 390) hx hb dL_law_308 (by decide) (fun c308 => ?_) (fun c308 => ?_)
                                · have t308 : ¬ x307.toInt = 0 := xi_ne rfl (by decide) c308
                                  have d308 : ¬ x307 = 0 := c308
                                  obtain ⟨x390, e390⟩ : ∃ y : Int32, y = k + 1 := ⟨_, rfl⟩
                                  have t390 : x390.toInt = k.toInt + 1 := by rw [e390]; exact xi_add rfl (by decide) (by omega) (by omega)
                                  refine lv_iinc (v := x390) (lv' := [(3, .int x390), (2, .int 1), (9, .int sz1_174), (8, .int r174), (7, .int sz), (5, .long (seenZ z)), (4, .int r143), (1, .ref q0_1), (0, .ref b)]) hx hb dL_law_390 hl (k := 6) rfl (by rw [e390]; rfl) (by decide) rfl (fun ls hl => ?_)
                                  refine lv_goto (tgt := 131) hx hb dL_law_393 (by decide) ?_
                                  exact ih131  x390 cq_174 cs1_174 sc tk vj pdq_174 sv old1_174 sz1_174 z1_174 past1 slots (by omega) (by exact LI_mono (by omega) hLIa) (by exact hz9a) (by exact hs1) (by exact hsl) (by omega) _ _ hP hD hS ls (lv_sub hl [0, 1, 7, 8] rfl)
                                · have t308 : x307.toInt = 0 := xi_eq rfl (by decide) c308
                                  have d308 : x307 = 0 := c308
                                  have hc1 := (hcase.resolve_right (fun h9 => absurd h9.1 (by omega))).2
                                  refine lv_aload_n hx hb dL_law_311 rfl (lv_at hl 7 rfl) ?_
                                  refine xo_Sl (As := [.ref q0_1]) (rest := []) hx hb hml hown hts hK hN hZ hP hD hS hA mb_L_seen mw_2_116 mw_2_117 (c_L_seen l D cI cZ cS q0_1 xa xv ho0 ho1 pd0 pd1 m0 ts0 ts1 a ha sa cq_174 cs1_174 sc tk vj pdq_174 sv (0 : Int32) old1_174 sz1_174 z1_174 past1 slots (500 * k.toInt + 500) hLIa (by first | omega | assumption)) (fun _ => xwW_f) (by decide) (by decide) rfl hl.1 rfl (Nat.le_of_ble_eq_true rfl) dL_law_312 ⟨Nat.le_of_ble_eq_true rfl, Nat.le_of_ble_eq_true rfl⟩ (fun r312 u312 H locs hw hP hD hS => ?_)
                                  have p312 : r312 = seenZ z1_174 := hw
                                  have hP : va_P D vwCl (xwW cI cZ cS q0_1 xa xv ho0 ho1 pd0 pd1 m0 ts0 ts1 a ha sa cq_174 cs1_174 sc tk vj pdq_174 sv (0 : Int32) old1_174 sz1_174 z1_174) H := hP
                                  have hD : va_D A (xwW cI cZ cS q0_1 xa xv ho0 ho1 pd0 pd1 m0 ts0 ts1 a ha sa cq_174 cs1_174 sc tk vj pdq_174 sv (0 : Int32) old1_174 sz1_174 z1_174) := hD
                                  refine xk_topl (z := (seenZ z1_174)) (by exact p312) ?_
                                  refine lv_lstore (lv' := [(10, .long (seenZ z1_174)), (2, .int 1), (9, .int sz1_174), (8, .int r174), (7, .int sz), (5, .long (seenZ z)), (4, .int r143), (3, .int k), (1, .ref q0_1), (0, .ref b)]) hx hb dL_law_315 hl (by decide) rfl (fun ls hl => ?_)
                                  refine lv_aload_n hx hb dL_law_317 rfl (lv_at hl 8 rfl) ?_
                                  refine lv_iconst (v := 0) hx hb dL_law_318 (by decide) ?_
                                  refine xo_Vi (As := [.int 0]) (rest := []) hx hb hml hown hts hK hN hZ hP hD hS hA mb_X7_save mw_2_94 mw_2_95 mw_2_96 (k_X7_save l D cI cZ cS q0_1 xa xv ho0 ho1 pd0 pd1 m0 ts0 ts1 a ha sa cq_174 cs1_174 sc tk vj pdq_174 sv (0 : Int32) old1_174 sz1_174 z1_174 (0 : Int32) hRSa hIa) 0 7 rfl rfl (fun _ => xwW_f) (by decide) (by decide) rfl hl.1 rfl (Nat.le_of_ble_eq_true rfl) dL_law_319 ⟨Nat.le_of_ble_eq_true rfl, Nat.le_of_ble_eq_true rfl⟩ (fun r319 u319 H locs hw hP hD hS => ?_)
                                  obtain ⟨sc1_319, sv1_319⟩ := u319
                                  have p319 : r319 = (if slotV (0 : Int32) then z1_174 174 else -2) ∧ ((slotV (0 : Int32) ∧ sc1_319 = recC sc (cZm cq_174 z1_174) 0 ∧ sv1_319 = upd sv 0 1) ∨ (¬ slotV (0 : Int32) ∧ sc1_319 = sc ∧ sv1_319 = sv)) := hw
                                  have hP : va_P D vwCl (xwW cI cZ cS q0_1 xa xv ho0 ho1 pd0 pd1 m0 ts0 ts1 a ha sa cq_174 cs1_174 sc1_319 tk vj pdq_174 sv1_319 (0 : Int32) old1_174 sz1_174 z1_174) H := hP
                                  have hD : va_D A (xwW cI cZ cS q0_1 xa xv ho0 ho1 pd0 pd1 m0 ts0 ts1 a ha sa cq_174 cs1_174 sc1_319 tk vj pdq_174 sv1_319 (0 : Int32) old1_174 sz1_174 z1_174) := hD
                                  obtain ⟨hLIb, hsvb⟩ := LI_save (p := 0) hLIa p319.2
                                  rw [if_pos (by decide)] at hLIb
                                  have hsb0 : ¬ sv1_319 0 = 0 := by rw [hsvb, if_pos (by decide), show (0 : Int32).toInt.toNat = 0 from by decide, upd_s]; decide
                                  have hsb1 : ¬ sv1_319 1 = 0 := by rw [hsvb, if_pos (by decide), show (0 : Int32).toInt.toNat = 0 from by decide, upd_n _ _ _ (by omega)]; exact hs1
                                  obtain ⟨hRSb, hIb, hBDb, ⟨holdb, hszzb, hlnnb⟩, hmcsb, hmscb, -, -⟩ := id hLIb
                                  have hrs : restC 0 sv1_319 := ⟨by decide, hsb0⟩
                                  refine xk_top (z := (z1_174 174)) (by exact p319.1.trans (if_pos (by decide))) ?_
                                  refine lv_istore (lv' := [(12, .int (z1_174 174)), (10, .long (seenZ z1_174)), (2, .int 1), (9, .int sz1_174), (8, .int r174), (7, .int sz), (5, .long (seenZ z)), (4, .int r143), (3, .int k), (1, .ref q0_1), (0, .ref b)]) hx hb dL_law_322 hl (by decide) rfl (fun ls hl => ?_)
                                  refine lv_iload hx hb dL_law_324 (lv_at hl 0 rfl) ?_
                                  refine lv_aload_n hx hb dL_law_326 rfl (lv_at hl 9 rfl) ?_
                                  refine lv_iconst (v := 0) hx hb dL_law_327 (by decide) ?_
                                  refine xo_Vi (As := [.int 0]) (rest := [.int (z1_174 174)]) hx hb hml hown hts hK hN hZ hP hD hS hA mb_X7_walk mw_1_238 mw_1_239 mw_2_0 (k_X7_walk l D cI cZ cS q0_1 xa xv ho0 ho1 pd0 pd1 m0 ts0 ts1 a ha sa cq_174 cs1_174 sc1_319 tk vj pdq_174 sv1_319 (0 : Int32) old1_174 sz1_174 z1_174 (0 : Int32) hRSb hIb) 0 7 rfl rfl (fun _ => xwW_f) (by decide) (by decide) rfl hl.1 rfl (Nat.le_of_ble_eq_true rfl) dL_law_328 ⟨Nat.le_of_ble_eq_true rfl, Nat.le_of_ble_eq_true rfl⟩ (fun r328 u328 H locs hw hP hD hS => ?_)
                                  have p328 : r328 = walkR z1_174 (0 : Int32) := hw
                                  have hP : va_P D vwCl (xwW cI cZ cS q0_1 xa xv ho0 ho1 pd0 pd1 m0 ts0 ts1 a ha sa cq_174 cs1_174 sc1_319 tk vj pdq_174 sv1_319 (0 : Int32) old1_174 sz1_174 z1_174) H := hP
                                  have hD : va_D A (xwW cI cZ cS q0_1 xa xv ho0 ho1 pd0 pd1 m0 ts0 ts1 a ha sa cq_174 cs1_174 sc1_319 tk vj pdq_174 sv1_319 (0 : Int32) old1_174 sz1_174 z1_174) := hD
                                  refine xk_top (z := (z1_174 174)) (by exact p328.trans (wk_0 _)) ?_
                                  refine lv_icmp_ne (tgt := 388) hx hb dL_law_331 (by decide) (fun c331 => ?_) (fun c331 => ?_)
                                  · have t331 : ¬ (z1_174 174).toInt = (z1_174 174).toInt := xi_ne rfl rfl c331
                                    have d331 : ¬ (z1_174 174) = (z1_174 174) := c331
                                    exact absurd rfl c331
                                  · have t331 : (z1_174 174).toInt = (z1_174 174).toInt := xi_eq rfl rfl c331
                                    have d331 : (z1_174 174) = (z1_174 174) := c331
                                    refine lv_aload_n hx hb dL_law_334 rfl (lv_at hl 9 rfl) ?_
                                    refine xo_Vi (As := []) (rest := []) hx hb hml hown hts hK hN hZ hP hD hS hA mb_X7_undo mw_2_55 mw_2_56 mw_2_57 (k_X7_undo l D cI cZ cS q0_1 xa xv ho0 ho1 pd0 pd1 m0 ts0 ts1 a ha sa cq_174 cs1_174 sc1_319 tk vj pdq_174 sv1_319 (0 : Int32) old1_174 sz1_174 z1_174 (undoZ sz1_174 past1 z1_174) hRSb hIb holdb hszzb (fun i hi => (hmcsb i hi).1) (fun i hi => (hmcsb i hi).2) ((LI_undo hLIb).1)) 0 7 rfl rfl (fun _ => xwW_f) (by decide) (by decide) rfl hl.1 rfl (Nat.le_of_ble_eq_true rfl) dL_law_335 ⟨Nat.le_of_ble_eq_true rfl, Nat.le_of_ble_eq_true rfl⟩ (fun r335 u335 H locs hw hP hD hS => ?_)
                                    obtain ⟨cq_335, zq_335, old1_335, sz1_335, cs1_335⟩ := u335
                                    have p335 : r335 = undoR sz1_174 ∧ ((sz1_174 = 0 ∧ Same cq_174 z1_174 old1_174 sz1_174 cs1_174 cq_335 zq_335 old1_335 sz1_335 cs1_335) ∨ (¬ sz1_174 = 0 ∧ cq_335 = cs1_174 (tbJ old1_174 sz1_174) ∧ zq_335 = (undoZ sz1_174 past1 z1_174) ∧ old1_335 = old1_174 ∧ sz1_335 = sz1_174 - 1 ∧ cs1_335 = cs1_174)) := hw
                                    have hP : va_P D vwCl (xwW cI cZ cS q0_1 xa xv ho0 ho1 pd0 pd1 m0 ts0 ts1 a ha sa cq_335 cs1_335 sc1_319 tk vj pdq_174 sv1_319 (0 : Int32) old1_335 sz1_335 zq_335) H := hP
                                    have hD : va_D A (xwW cI cZ cS q0_1 xa xv ho0 ho1 pd0 pd1 m0 ts0 ts1 a ha sa cq_335 cs1_335 sc1_319 tk vj pdq_174 sv1_319 (0 : Int32) old1_335 sz1_335 zq_335) := hD
                                    obtain ⟨hLIc, hzc, hsc9⟩ := (LI_undo hLIb).2 _ _ _ _ _ p335.2
                                    have hback : undoZ sz1_174 past1 z1_174 = z := by rw [hc1.1, hc1.2]; exact undo_rec hszz hz9 hz9a
                                    rw [hback] at hLIc hzc
                                    rw [hzc] at hP hD
                                    have hP : va_P D vwCl (xwW cI cZ cS q0_1 xa xv ho0 ho1 pd0 pd1 m0 ts0 ts1 a ha sa cq_335 cs1_335 sc1_319 tk vj pdq_174 sv1_319 (0 : Int32) old1_335 sz1_335 z) H := hP
                                    have hD : va_D A (xwW cI cZ cS q0_1 xa xv ho0 ho1 pd0 pd1 m0 ts0 ts1 a ha sa cq_335 cs1_335 sc1_319 tk vj pdq_174 sv1_319 (0 : Int32) old1_335 sz1_335 z) := hD
                                    obtain ⟨hRSc, hIc, hBDc, ⟨holdc, hszzc, hlnnc⟩, hmcsc, hmscc, -, -⟩ := id hLIc
                                    have hszt : sz1_174.toInt = (recS sz).toInt := by rw [hc1.1]
                                    have hund := undoR_t (sz := sz1_174) (by omega)
                                    have hr335 : r335.toInt = (undoR sz1_174).toInt := by rw [p335.1]
                                    refine lv_iload hx hb dL_law_338 (lv_at hl 5 rfl) ?_
                                    refine lv_bipush (v := 6) hx hb dL_law_340 (by decide) ?_
                                    refine lv_icmp_ge (tgt := 350) hx hb dL_law_342 (by decide) (fun c342 => ?_) (fun c342 => ?_)
                                    · have t342 : 6 ≤ sz.toInt := xi_le (by decide) rfl c342
                                      refine lv_iconst (v := 5) hx hb dL_law_350 (by decide) ?_
                                      refine lv_icmp_ne (tgt := 388) hx hb dL_law_351 (by decide) (fun c351 => ?_) (fun c351 => ?_)
                                      · have t351 : ¬ r335.toInt = 5 := xi_ne rfl (by decide) c351
                                        have d351 : ¬ r335 = 5 := c351
                                        omega
                                      · have t351 : r335.toInt = 5 := xi_eq rfl (by decide) c351
                                        have d351 : r335 = 5 := c351
                                        refine lv_aload_n hx hb dL_law_354 rfl (lv_at hl 9 rfl) ?_
                                        refine xo_Sl (As := [.ref q0_1]) (rest := []) hx hb hml hown hts hK hN hZ hP hD hS hA mb_L_seen mw_2_116 mw_2_117 (c_L_seen l D cI cZ cS q0_1 xa xv ho0 ho1 pd0 pd1 m0 ts0 ts1 a ha sa cq_335 cs1_335 sc1_319 tk vj pdq_174 sv1_319 (0 : Int32) old1_335 sz1_335 z past1 (va_cpy z1_174 slots 0 (190 * (0 : Int32).toInt.toNat) 190) (500 * k.toInt + 500) hLIc (by first | omega | assumption)) (fun _ => xwW_f) (by decide) (by decide) rfl hl.1 rfl (Nat.le_of_ble_eq_true rfl) dL_law_355 ⟨Nat.le_of_ble_eq_true rfl, Nat.le_of_ble_eq_true rfl⟩ (fun r355 u355 H locs hw hP hD hS => ?_)
                                        have p355 : r355 = seenZ z := hw
                                        have hP : va_P D vwCl (xwW cI cZ cS q0_1 xa xv ho0 ho1 pd0 pd1 m0 ts0 ts1 a ha sa cq_335 cs1_335 sc1_319 tk vj pdq_174 sv1_319 (0 : Int32) old1_335 sz1_335 z) H := hP
                                        have hD : va_D A (xwW cI cZ cS q0_1 xa xv ho0 ho1 pd0 pd1 m0 ts0 ts1 a ha sa cq_335 cs1_335 sc1_319 tk vj pdq_174 sv1_319 (0 : Int32) old1_335 sz1_335 z) := hD
                                        refine xk_topl (z := (seenZ z)) (by exact p355) ?_
                                        refine lv_lload hx hb dL_law_358 (lv_at hl 6 rfl) ?_
                                        refine W.lcmp hx hb dL_law_360 ?_
                                        refine xk_top (z := 0) (lgc_self _) ?_
                                        refine lv_if_ne (tgt := 388) hx hb dL_law_361 (by decide) (fun c361 => absurd (by decide) c361) (fun _ => ?_)
                                        refine lv_aload_n hx hb dL_law_364 rfl (lv_at hl 9 rfl) ?_
                                        refine lv_iconst (v := 0) hx hb dL_law_365 (by decide) ?_
                                        refine xo_Vi (As := [.int 0]) (rest := []) hx hb hml hown hts hK hN hZ hP hD hS hA mb_X7_restore mw_2_102 mw_2_103 mw_2_104 (k_X7_restore l D cI cZ cS q0_1 xa xv ho0 ho1 pd0 pd1 m0 ts0 ts1 a ha sa cq_335 cs1_335 sc1_319 tk vj pdq_174 sv1_319 (0 : Int32) old1_335 sz1_335 z (va_cpy (va_cpy z1_174 slots 0 (190 * (0 : Int32).toInt.toNat) 190) z (190 * (0 : Int32).toInt.toNat) 0 190) (0 : Int32) hRSc hIc holdc hszzc (fun i hi => (hmscc i hi).1) (fun i hi => (hmscc i hi).2) ((LI_rest hLIc 0).1)) 0 7 rfl rfl (fun _ => xwW_f) (by decide) (by decide) rfl hl.1 rfl (Nat.le_of_ble_eq_true rfl) dL_law_366 ⟨Nat.le_of_ble_eq_true rfl, Nat.le_of_ble_eq_true rfl⟩ (fun r366 u366 H locs hw hP hD hS => ?_)
                                        obtain ⟨cq_366, zq_366, old1_366, sz1_366, cs1_366⟩ := u366
                                        have p366 : r366 = (if slotV (0 : Int32) then (if sv1_319 0 = 0 then -5 else (va_cpy (va_cpy z1_174 slots 0 (190 * 0) 190) z (190 * 0) 0 190) 174) else -2) ∧ ((restC (0 : Int32) sv1_319 ∧ cq_366 = sc1_319 0 ∧ zq_366 = (va_cpy (va_cpy z1_174 slots 0 (190 * 0) 190) z (190 * 0) 0 190) ∧ old1_366 = oldR old1_335 sz1_335 ∧ sz1_366 = szR sz1_335 ∧ cs1_366 = recC cs1_335 (cZm cq_335 z) (jR old1_335 sz1_335)) ∨ (¬ restC (0 : Int32) sv1_319 ∧ Same cq_335 z old1_335 sz1_335 cs1_335 cq_366 zq_366 old1_366 sz1_366 cs1_366)) := hw
                                        have hP : va_P D vwCl (xwW cI cZ cS q0_1 xa xv ho0 ho1 pd0 pd1 m0 ts0 ts1 a ha sa cq_366 cs1_366 sc1_319 tk vj pdq_174 sv1_319 (0 : Int32) old1_366 sz1_366 zq_366) H := hP
                                        have hD : va_D A (xwW cI cZ cS q0_1 xa xv ho0 ho1 pd0 pd1 m0 ts0 ts1 a ha sa cq_366 cs1_366 sc1_319 tk vj pdq_174 sv1_319 (0 : Int32) old1_366 sz1_366 zq_366) := hD
                                        obtain ⟨hLId, hzd, -⟩ := (LI_rest hLIc 0).2.2 _ _ _ _ _ p366.2
                                        rw [if_pos hrs, back_0 hz9 hz9a] at hLId hzd
                                        rw [if_pos hrs] at hLId
                                        rw [hzd] at hP hD
                                        have hP : va_P D vwCl (xwW cI cZ cS q0_1 xa xv ho0 ho1 pd0 pd1 m0 ts0 ts1 a ha sa cq_366 cs1_366 sc1_319 tk vj pdq_174 sv1_319 (0 : Int32) old1_366 sz1_366 z1_174) H := hP
                                        have hD : va_D A (xwW cI cZ cS q0_1 xa xv ho0 ho1 pd0 pd1 m0 ts0 ts1 a ha sa cq_366 cs1_366 sc1_319 tk vj pdq_174 sv1_319 (0 : Int32) old1_366 sz1_366 z1_174) := hD
                                        obtain ⟨hRSd, hId, hBDd, ⟨holdd, hszzd, hlnnd⟩, hmcsd, hmscd, -, -⟩ := id hLId
                                        refine xk_top (z := (z1_174 174)) (by rw [p366.1, if_pos (by decide), if_neg hsb0]; exact congrFun (back_0 hz9 hz9a) 174) ?_
                                        refine lv_iload hx hb dL_law_369 (lv_at hl 0 rfl) ?_
                                        refine lv_icmp_ne (tgt := 388) hx hb dL_law_371 (by decide) (fun c371 => ?_) (fun c371 => ?_)
                                        · have t371 : ¬ (z1_174 174).toInt = (z1_174 174).toInt := xi_ne rfl rfl c371
                                          have d371 : ¬ (z1_174 174) = (z1_174 174) := c371
                                          exact absurd rfl c371
                                        · have t371 : (z1_174 174).toInt = (z1_174 174).toInt := xi_eq rfl rfl c371
                                          have d371 : (z1_174 174) = (z1_174 174) := c371
                                          refine lv_aload_n hx hb dL_law_374 rfl (lv_at hl 9 rfl) ?_
                                          refine xo_Sl (As := [.ref q0_1]) (rest := []) hx hb hml hown hts hK hN hZ hP hD hS hA mb_L_seen mw_2_116 mw_2_117 (c_L_seen l D cI cZ cS q0_1 xa xv ho0 ho1 pd0 pd1 m0 ts0 ts1 a ha sa cq_366 cs1_366 sc1_319 tk vj pdq_174 sv1_319 (0 : Int32) old1_366 sz1_366 z1_174 (recP z past1 sz1_335) (va_cpy z1_174 slots 0 (190 * (0 : Int32).toInt.toNat) 190) (500 * k.toInt + 500) hLId (by first | omega | assumption)) (fun _ => xwW_f) (by decide) (by decide) rfl hl.1 rfl (Nat.le_of_ble_eq_true rfl) dL_law_375 ⟨Nat.le_of_ble_eq_true rfl, Nat.le_of_ble_eq_true rfl⟩ (fun r375 u375 H locs hw hP hD hS => ?_)
                                          have p375 : r375 = seenZ z1_174 := hw
                                          have hP : va_P D vwCl (xwW cI cZ cS q0_1 xa xv ho0 ho1 pd0 pd1 m0 ts0 ts1 a ha sa cq_366 cs1_366 sc1_319 tk vj pdq_174 sv1_319 (0 : Int32) old1_366 sz1_366 z1_174) H := hP
                                          have hD : va_D A (xwW cI cZ cS q0_1 xa xv ho0 ho1 pd0 pd1 m0 ts0 ts1 a ha sa cq_366 cs1_366 sc1_319 tk vj pdq_174 sv1_319 (0 : Int32) old1_366 sz1_366 z1_174) := hD
                                          refine xk_topl (z := (seenZ z1_174)) (by exact p375) ?_
                                          refine lv_lload hx hb dL_law_378 (lv_at hl 1 rfl) ?_
                                          refine W.lcmp hx hb dL_law_380 ?_
                                          refine xk_top (z := 0) (lgc_self _) ?_
                                          refine lv_if_ne (tgt := 388) hx hb dL_law_381 (by decide) (fun c381 => absurd (by decide) c381) (fun _ => ?_)
                                          refine lv_iconst (v := 1) hx hb dL_law_384 (by decide) ?_
                                          refine lv_goto (tgt := 389) hx hb dL_law_385 (by decide) ?_
                                          refine lv_istore_n (lv' := [(2, .int 1), (12, .int (z1_174 174)), (10, .long (seenZ z1_174)), (9, .int sz1_174), (8, .int r174), (7, .int sz), (5, .long (seenZ z)), (4, .int r143), (3, .int k), (1, .ref q0_1), (0, .ref b)]) hx hb dL_law_389 rfl hl (by decide) rfl (fun ls hl => ?_)
                                          obtain ⟨x390, e390⟩ : ∃ y : Int32, y = k + 1 := ⟨_, rfl⟩
                                          have t390 : x390.toInt = k.toInt + 1 := by rw [e390]; exact xi_add rfl (by decide) (by omega) (by omega)
                                          refine lv_iinc (v := x390) (lv' := [(3, .int x390), (2, .int 1), (12, .int (z1_174 174)), (10, .long (seenZ z1_174)), (9, .int sz1_174), (8, .int r174), (7, .int sz), (5, .long (seenZ z)), (4, .int r143), (1, .ref q0_1), (0, .ref b)]) hx hb dL_law_390 hl (k := 8) rfl (by rw [e390]; rfl) (by decide) rfl (fun ls hl => ?_)
                                          refine lv_goto (tgt := 131) hx hb dL_law_393 (by decide) ?_
                                          exact ih131  x390 cq_366 cs1_366 sc1_319 tk vj pdq_174 sv1_319 old1_366 sz1_366 z1_174 (recP z past1 sz1_335) (va_cpy z1_174 slots 0 (190 * (0 : Int32).toInt.toNat) 190) (by omega) (by exact LI_mono (by omega) hLId) (by exact hz9a) (by exact hsb1) (by exact fun j hj => save_0.trans (hsl j hj)) (by omega) _ _ hP hD hS ls (lv_sub hl [0, 1, 9, 10] rfl)
                                    · have t342 : sz.toInt < 6 := xi_nle (by decide) rfl c342
                                      refine lv_iload hx hb dL_law_345 (lv_at hl 5 rfl) ?_
                                      refine lv_goto (tgt := 351) hx hb dL_law_347 (by decide) ?_
                                      refine lv_icmp_ne (tgt := 388) hx hb dL_law_351 (by decide) (fun c351 => ?_) (fun c351 => ?_)
                                      · have t351 : ¬ r335.toInt = sz.toInt := xi_ne rfl rfl c351
                                        have d351 : ¬ r335 = sz := c351
                                        omega
                                      · have t351 : r335.toInt = sz.toInt := xi_eq rfl rfl c351
                                        have d351 : r335 = sz := c351
                                        refine lv_aload_n hx hb dL_law_354 rfl (lv_at hl 9 rfl) ?_
                                        refine xo_Sl (As := [.ref q0_1]) (rest := []) hx hb hml hown hts hK hN hZ hP hD hS hA mb_L_seen mw_2_116 mw_2_117 (c_L_seen l D cI cZ cS q0_1 xa xv ho0 ho1 pd0 pd1 m0 ts0 ts1 a ha sa cq_335 cs1_335 sc1_319 tk vj pdq_174 sv1_319 (0 : Int32) old1_335 sz1_335 z past1 (va_cpy z1_174 slots 0 (190 * (0 : Int32).toInt.toNat) 190) (500 * k.toInt + 500) hLIc (by first | omega | assumption)) (fun _ => xwW_f) (by decide) (by decide) rfl hl.1 rfl (Nat.le_of_ble_eq_true rfl) dL_law_355 ⟨Nat.le_of_ble_eq_true rfl, Nat.le_of_ble_eq_true rfl⟩ (fun r355 u355 H locs hw hP hD hS => ?_)
                                        have p355 : r355 = seenZ z := hw
                                        have hP : va_P D vwCl (xwW cI cZ cS q0_1 xa xv ho0 ho1 pd0 pd1 m0 ts0 ts1 a ha sa cq_335 cs1_335 sc1_319 tk vj pdq_174 sv1_319 (0 : Int32) old1_335 sz1_335 z) H := hP
                                        have hD : va_D A (xwW cI cZ cS q0_1 xa xv ho0 ho1 pd0 pd1 m0 ts0 ts1 a ha sa cq_335 cs1_335 sc1_319 tk vj pdq_174 sv1_319 (0 : Int32) old1_335 sz1_335 z) := hD
                                        refine xk_topl (z := (seenZ z)) (by exact p355) ?_
                                        refine lv_lload hx hb dL_law_358 (lv_at hl 6 rfl) ?_
                                        refine W.lcmp hx hb dL_law_360 ?_
                                        refine xk_top (z := 0) (lgc_self _) ?_
                                        refine lv_if_ne (tgt := 388) hx hb dL_law_361 (by decide) (fun c361 => absurd (by decide) c361) (fun _ => ?_)
                                        refine lv_aload_n hx hb dL_law_364 rfl (lv_at hl 9 rfl) ?_
                                        refine lv_iconst (v := 0) hx hb dL_law_365 (by decide) ?_
                                        refine xo_Vi (As := [.int 0]) (rest := []) hx hb hml hown hts hK hN hZ hP hD hS hA mb_X7_restore mw_2_102 mw_2_103 mw_2_104 (k_X7_restore l D cI cZ cS q0_1 xa xv ho0 ho1 pd0 pd1 m0 ts0 ts1 a ha sa cq_335 cs1_335 sc1_319 tk vj pdq_174 sv1_319 (0 : Int32) old1_335 sz1_335 z (va_cpy (va_cpy z1_174 slots 0 (190 * (0 : Int32).toInt.toNat) 190) z (190 * (0 : Int32).toInt.toNat) 0 190) (0 : Int32) hRSc hIc holdc hszzc (fun i hi => (hmscc i hi).1) (fun i hi => (hmscc i hi).2) ((LI_rest hLIc 0).1)) 0 7 rfl rfl (fun _ => xwW_f) (by decide) (by decide) rfl hl.1 rfl (Nat.le_of_ble_eq_true rfl) dL_law_366 ⟨Nat.le_of_ble_eq_true rfl, Nat.le_of_ble_eq_true rfl⟩ (fun r366 u366 H locs hw hP hD hS => ?_)
                                        obtain ⟨cq_366, zq_366, old1_366, sz1_366, cs1_366⟩ := u366
                                        have p366 : r366 = (if slotV (0 : Int32) then (if sv1_319 0 = 0 then -5 else (va_cpy (va_cpy z1_174 slots 0 (190 * 0) 190) z (190 * 0) 0 190) 174) else -2) ∧ ((restC (0 : Int32) sv1_319 ∧ cq_366 = sc1_319 0 ∧ zq_366 = (va_cpy (va_cpy z1_174 slots 0 (190 * 0) 190) z (190 * 0) 0 190) ∧ old1_366 = oldR old1_335 sz1_335 ∧ sz1_366 = szR sz1_335 ∧ cs1_366 = recC cs1_335 (cZm cq_335 z) (jR old1_335 sz1_335)) ∨ (¬ restC (0 : Int32) sv1_319 ∧ Same cq_335 z old1_335 sz1_335 cs1_335 cq_366 zq_366 old1_366 sz1_366 cs1_366)) := hw
                                        have hP : va_P D vwCl (xwW cI cZ cS q0_1 xa xv ho0 ho1 pd0 pd1 m0 ts0 ts1 a ha sa cq_366 cs1_366 sc1_319 tk vj pdq_174 sv1_319 (0 : Int32) old1_366 sz1_366 zq_366) H := hP
                                        have hD : va_D A (xwW cI cZ cS q0_1 xa xv ho0 ho1 pd0 pd1 m0 ts0 ts1 a ha sa cq_366 cs1_366 sc1_319 tk vj pdq_174 sv1_319 (0 : Int32) old1_366 sz1_366 zq_366) := hD
                                        obtain ⟨hLId, hzd, -⟩ := (LI_rest hLIc 0).2.2 _ _ _ _ _ p366.2
                                        rw [if_pos hrs, back_0 hz9 hz9a] at hLId hzd
                                        rw [if_pos hrs] at hLId
                                        rw [hzd] at hP hD
                                        have hP : va_P D vwCl (xwW cI cZ cS q0_1 xa xv ho0 ho1 pd0 pd1 m0 ts0 ts1 a ha sa cq_366 cs1_366 sc1_319 tk vj pdq_174 sv1_319 (0 : Int32) old1_366 sz1_366 z1_174) H := hP
                                        have hD : va_D A (xwW cI cZ cS q0_1 xa xv ho0 ho1 pd0 pd1 m0 ts0 ts1 a ha sa cq_366 cs1_366 sc1_319 tk vj pdq_174 sv1_319 (0 : Int32) old1_366 sz1_366 z1_174) := hD
                                        obtain ⟨hRSd, hId, hBDd, ⟨holdd, hszzd, hlnnd⟩, hmcsd, hmscd, -, -⟩ := id hLId
                                        refine xk_top (z := (z1_174 174)) (by rw [p366.1, if_pos (by decide), if_neg hsb0]; exact congrFun (back_0 hz9 hz9a) 174) ?_
                                        refine lv_iload hx hb dL_law_369 (lv_at hl 0 rfl) ?_
                                        refine lv_icmp_ne (tgt := 388) hx hb dL_law_371 (by decide) (fun c371 => ?_) (fun c371 => ?_)
                                        · have t371 : ¬ (z1_174 174).toInt = (z1_174 174).toInt := xi_ne rfl rfl c371
                                          have d371 : ¬ (z1_174 174) = (z1_174 174) := c371
                                          exact absurd rfl c371
                                        · have t371 : (z1_174 174).toInt = (z1_174 174).toInt := xi_eq rfl rfl c371
                                          have d371 : (z1_174 174) = (z1_174 174) := c371
                                          refine lv_aload_n hx hb dL_law_374 rfl (lv_at hl 9 rfl) ?_
                                          refine xo_Sl (As := [.ref q0_1]) (rest := []) hx hb hml hown hts hK hN hZ hP hD hS hA mb_L_seen mw_2_116 mw_2_117 (c_L_seen l D cI cZ cS q0_1 xa xv ho0 ho1 pd0 pd1 m0 ts0 ts1 a ha sa cq_366 cs1_366 sc1_319 tk vj pdq_174 sv1_319 (0 : Int32) old1_366 sz1_366 z1_174 (recP z past1 sz1_335) (va_cpy z1_174 slots 0 (190 * (0 : Int32).toInt.toNat) 190) (500 * k.toInt + 500) hLId (by first | omega | assumption)) (fun _ => xwW_f) (by decide) (by decide) rfl hl.1 rfl (Nat.le_of_ble_eq_true rfl) dL_law_375 ⟨Nat.le_of_ble_eq_true rfl, Nat.le_of_ble_eq_true rfl⟩ (fun r375 u375 H locs hw hP hD hS => ?_)
                                          have p375 : r375 = seenZ z1_174 := hw
                                          have hP : va_P D vwCl (xwW cI cZ cS q0_1 xa xv ho0 ho1 pd0 pd1 m0 ts0 ts1 a ha sa cq_366 cs1_366 sc1_319 tk vj pdq_174 sv1_319 (0 : Int32) old1_366 sz1_366 z1_174) H := hP
                                          have hD : va_D A (xwW cI cZ cS q0_1 xa xv ho0 ho1 pd0 pd1 m0 ts0 ts1 a ha sa cq_366 cs1_366 sc1_319 tk vj pdq_174 sv1_319 (0 : Int32) old1_366 sz1_366 z1_174) := hD
                                          refine xk_topl (z := (seenZ z1_174)) (by exact p375) ?_
                                          refine lv_lload hx hb dL_law_378 (lv_at hl 1 rfl) ?_
                                          refine W.lcmp hx hb dL_law_380 ?_
                                          refine xk_top (z := 0) (lgc_self _) ?_
                                          refine lv_if_ne (tgt := 388) hx hb dL_law_381 (by decide) (fun c381 => absurd (by decide) c381) (fun _ => ?_)
                                          refine lv_iconst (v := 1) hx hb dL_law_384 (by decide) ?_
                                          refine lv_goto (tgt := 389) hx hb dL_law_385 (by decide) ?_
                                          refine lv_istore_n (lv' := [(2, .int 1), (12, .int (z1_174 174)), (10, .long (seenZ z1_174)), (9, .int sz1_174), (8, .int r174), (7, .int sz), (5, .long (seenZ z)), (4, .int r143), (3, .int k), (1, .ref q0_1), (0, .ref b)]) hx hb dL_law_389 rfl hl (by decide) rfl (fun ls hl => ?_)
                                          obtain ⟨x390, e390⟩ : ∃ y : Int32, y = k + 1 := ⟨_, rfl⟩
                                          have t390 : x390.toInt = k.toInt + 1 := by rw [e390]; exact xi_add rfl (by decide) (by omega) (by omega)
                                          refine lv_iinc (v := x390) (lv' := [(3, .int x390), (2, .int 1), (12, .int (z1_174 174)), (10, .long (seenZ z1_174)), (9, .int sz1_174), (8, .int r174), (7, .int sz), (5, .long (seenZ z)), (4, .int r143), (1, .ref q0_1), (0, .ref b)]) hx hb dL_law_390 hl (k := 8) rfl (by rw [e390]; rfl) (by decide) rfl (fun ls hl => ?_)
                                          refine lv_goto (tgt := 131) hx hb dL_law_393 (by decide) ?_
                                          exact ih131  x390 cq_366 cs1_366 sc1_319 tk vj pdq_174 sv1_319 old1_366 sz1_366 z1_174 (recP z past1 sz1_335) (va_cpy z1_174 slots 0 (190 * (0 : Int32).toInt.toNat) 190) (by omega) (by exact LI_mono (by omega) hLId) (by exact hz9a) (by exact hsb1) (by exact fun j hj => save_0.trans (hsl j hj)) (by omega) _ _ hP hD hS ls (lv_sub hl [0, 1, 9, 10] rfl)
                            refine lv_iload_n hx hb dL_law_264 rfl (lv_at hl 5 rfl) ?_
                            refine lv_bipush (v := 7) hx hb dL_law_265 (by decide) ?_
                            refine lv_irem hx hb dL_law_267 (by decide) ?_
                            refine lv_topi (fun x267 e267 => ?_)
                            have t267 : x267.toInt = k.toInt % 7 := by rw [e267]; exact xi_rem rfl (by decide) (by omega) (by omega)
                            refine lv_bipush (v := 6) hx hb dL_law_268 (by decide) ?_
                            refine lv_icmp_ne (tgt := 285) hx hb dL_law_270 (by decide) (fun c270 => ?_) (fun c270 => ?_)
                            · have t270 : ¬ x267.toInt = 6 := xi_ne rfl (by decide) c270
                              have d270 : ¬ x267 = 6 := c270
                              exact J285 tj  _ _ hP hD hS ls (lv_sub hl [0, 1, 2, 3, 4, 5, 6, 7, 8] rfl)
                            · have t270 : x267.toInt = 6 := xi_eq rfl (by decide) c270
                              have d270 : x267 = 6 := c270
                              refine lv_aload_n hx hb dL_law_273 rfl (lv_at hl 7 rfl) ?_
                              refine lv_iload hx hb dL_law_274 (lv_at hl 4 rfl) ?_
                              refine lv_bipush (v := 7) hx hb dL_law_276 (by decide) ?_
                              refine lv_idiv hx hb dL_law_278 (by decide) ?_
                              refine lv_topi (fun x278 e278 => ?_)
                              have t278 : x278.toInt = r143.toInt / 7 := by rw [e278]; exact xi_div rfl (by decide) (by omega) (by omega)
                              refine xo_Si (As := [.ref q0_1, .int x278]) (rest := []) hx hb hml hown hts hK hN hZ hP hD hS hA mb_L_refuses mw_3_2 mw_3_3 (c_L_refuses l D cI cZ cS q0_1 xa xv ho0 ho1 pd0 pd1 m0 ts0 ts1 a ha sa cq_174 cs1_174 sc tj vj pdq_174 sv old1_174 sz1_174 z1_174 past1 slots (500 * k.toInt + 500) x278 hLIa (by first | omega | assumption) (by first | omega | assumption)) (fun _ => xwW_f) (by decide) (by decide) rfl hl.1 rfl (Nat.le_of_ble_eq_true rfl) dL_law_279 ⟨Nat.le_of_ble_eq_true rfl, Nat.le_of_ble_eq_true rfl⟩ (fun r279 u279 H locs hw hP hD hS => ?_)
                              obtain ⟨tq_279, rfl⟩ : ∃ q, q = u279 := ⟨_, rfl⟩
                              have p279 : r279 = (1 : Int32) := hw
                              have hP : va_P D vwCl (xwW cI cZ cS q0_1 xa xv ho0 ho1 pd0 pd1 m0 ts0 ts1 a ha sa cq_174 cs1_174 sc tq_279 vj pdq_174 sv (0 : Int32) old1_174 sz1_174 z1_174) H := hP
                              have hD : va_D A (xwW cI cZ cS q0_1 xa xv ho0 ho1 pd0 pd1 m0 ts0 ts1 a ha sa cq_174 cs1_174 sc tq_279 vj pdq_174 sv (0 : Int32) old1_174 sz1_174 z1_174) := hD
                              refine xk_top (z := 1) (by exact p279) ?_
                              refine lv_if_eq (tgt := 289) hx hb dL_law_282 (by decide) (fun c282 => absurd c282 (by decide)) (fun _ => ?_)
                              exact J285 tq_279  _ _ hP hD hS ls (lv_sub hl [0, 1, 2, 3, 4, 5, 6, 7, 8] rfl)
                          refine lv_iload_n hx hb dL_law_251 rfl (lv_at hl 5 rfl) ?_
                          refine lv_iconst (v := 2) hx hb dL_law_252 (by decide) ?_
                          refine lv_irem hx hb dL_law_253 (by decide) ?_
                          refine lv_topi (fun x253 e253 => ?_)
                          have t253 : x253.toInt = k.toInt % 2 := by rw [e253]; exact xi_rem rfl (by decide) (by omega) (by omega)
                          refine lv_if_eq (tgt := 264) hx hb dL_law_254 (by decide) (fun c254 => ?_) (fun c254 => ?_)
                          · have t254 : x253.toInt = 0 := xi_eq rfl (by decide) c254
                            have d254 : x253 = 0 := c254
                            exact J264 tq_174 tv  _ _ hP hD hS ls (lv_sub hl [0, 1, 2, 3, 4, 5, 6, 7, 8] rfl)
                          · have t254 : ¬ x253.toInt = 0 := xi_ne rfl (by decide) c254
                            have d254 : ¬ x253 = 0 := c254
                            refine lv_aload_n hx hb dL_law_257 rfl (lv_at hl 7 rfl) ?_
                            refine xo_Si (As := [.ref q0_1]) (rest := []) hx hb hml hown hts hK hN hZ hP hD hS hA mb_L_isMarch mw_2_174 mw_2_175 (c_L_isMarch l D cI cZ cS q0_1 xa xv ho0 ho1 pd0 pd1 m0 ts0 ts1 a ha sa cq_174 cs1_174 sc tq_174 tv pdq_174 sv (0 : Int32) old1_174 sz1_174 z1_174 past1 slots (500 * k.toInt + 500) hLIa (by first | omega | assumption)) (fun _ => xwW_f) (by decide) (by decide) rfl hl.1 rfl (Nat.le_of_ble_eq_true rfl) dL_law_258 ⟨Nat.le_of_ble_eq_true rfl, Nat.le_of_ble_eq_true rfl⟩ (fun r258 u258 H locs hw hP hD hS => ?_)
                            obtain ⟨tq_258, vq_258⟩ := u258
                            have p258 : r258 = (1 : Int32) := hw
                            have hP : va_P D vwCl (xwW cI cZ cS q0_1 xa xv ho0 ho1 pd0 pd1 m0 ts0 ts1 a ha sa cq_174 cs1_174 sc tq_258 vq_258 pdq_174 sv (0 : Int32) old1_174 sz1_174 z1_174) H := hP
                            have hD : va_D A (xwW cI cZ cS q0_1 xa xv ho0 ho1 pd0 pd1 m0 ts0 ts1 a ha sa cq_174 cs1_174 sc tq_258 vq_258 pdq_174 sv (0 : Int32) old1_174 sz1_174 z1_174) := hD
                            refine xk_top (z := 1) (by exact p258) ?_
                            refine lv_if_eq (tgt := 289) hx hb dL_law_261 (by decide) (fun c261 => absurd c261 (by decide)) (fun _ => ?_)
                            exact J264 tq_258 vq_258  _ _ hP hD hS ls (lv_sub hl [0, 1, 2, 3, 4, 5, 6, 7, 8] rfl)
                        refine lv_iload_n hx hb dL_law_238 rfl (lv_at hl 5 rfl) ?_
                        refine lv_iconst (v := 4) hx hb dL_law_239 (by decide) ?_
                        refine lv_irem hx hb dL_law_240 (by decide) ?_
                        refine lv_topi (fun x240 e240 => ?_)
                        have t240 : x240.toInt = k.toInt % 4 := by rw [e240]; exact xi_rem rfl (by decide) (by omega) (by omega)
                        refine lv_if_gt (tgt := 251) hx hb dL_law_241 (by decide) (fun c241 => ?_) (fun c241 => ?_)
                        · have t241 : 0 < x240.toInt := xi_lt (by decide) rfl c241
                          exact J251   _ _ hP hD hS ls (lv_sub hl [0, 1, 2, 3, 4, 5, 6, 7, 8] rfl)
                        · have t241 : x240.toInt ≤ 0 := xi_nlt (by decide) rfl c241
                          refine lv_aload_n hx hb dL_law_244 rfl (lv_at hl 7 rfl) ?_
                          refine xo_Si (As := [.ref q0_1]) (rest := []) hx hb hml hown hts hK hN hZ hP hD hS hA mb_L_isSong mw_2_147 mw_2_148 (c_L_isSong l D cI cZ cS q0_1 xa xv ho0 ho1 pd0 pd1 m0 ts0 ts1 a ha sa cq_174 cs1_174 sc tq_174 tv pdq_174 sv (0 : Int32) old1_174 sz1_174 z1_174 past1 slots (500 * k.toInt + 500) hLIa (by first | omega | assumption)) (fun _ => xwW_f) (by decide) (by decide) rfl hl.1 rfl (Nat.le_of_ble_eq_true rfl) dL_law_245 ⟨Nat.le_of_ble_eq_true rfl, Nat.le_of_ble_eq_true rfl⟩ (fun r245 u245 H locs hw hP hD hS => ?_)
                          have p245 : r245 = (1 : Int32) := hw
                          have hP : va_P D vwCl (xwW cI cZ cS q0_1 xa xv ho0 ho1 pd0 pd1 m0 ts0 ts1 a ha sa cq_174 cs1_174 sc tq_174 tv pdq_174 sv (0 : Int32) old1_174 sz1_174 z1_174) H := hP
                          have hD : va_D A (xwW cI cZ cS q0_1 xa xv ho0 ho1 pd0 pd1 m0 ts0 ts1 a ha sa cq_174 cs1_174 sc tq_174 tv pdq_174 sv (0 : Int32) old1_174 sz1_174 z1_174) := hD
                          refine xk_top (z := 1) (by exact p245) ?_
                          refine lv_if_eq (tgt := 289) hx hb dL_law_248 (by decide) (fun c248 => absurd c248 (by decide)) (fun _ => ?_)
                          exact J251   _ _ hP hD hS ls (lv_sub hl [0, 1, 2, 3, 4, 5, 6, 7, 8] rfl)
                      refine lv_iload hx hb dL_law_187 (lv_at hl 1 rfl) ?_
                      refine lv_if_lt (tgt := 289) hx hb dL_law_189 (by decide) (fun c189 => ?_) (fun c189 => ?_)
                      · have t189 : r174.toInt < 0 := xi_lt rfl (by decide) c189
                        omega
                      · have t189 : 0 ≤ r174.toInt := xi_nlt rfl (by decide) c189
                        refine lv_iload hx hb dL_law_192 (lv_at hl 1 rfl) ?_
                        refine lv_if_ne (tgt := 217) hx hb dL_law_194 (by decide) (fun c194 => ?_) (fun c194 => ?_)
                        · have t194 : ¬ r174.toInt = 0 := xi_ne rfl (by decide) c194
                          have d194 : ¬ r174 = 0 := c194
                          have hss : sz1_174.toInt = (recS sz).toInt := by rw [(hcase.resolve_right (fun h9 => absurd h9.1 (by omega))).2.1]
                          refine lv_iload hx hb dL_law_217 (lv_at hl 0 rfl) ?_
                          refine lv_iload hx hb dL_law_219 (lv_at hl 2 rfl) ?_
                          refine lv_bipush (v := 6) hx hb dL_law_221 (by decide) ?_
                          refine lv_icmp_ge (tgt := 233) hx hb dL_law_223 (by decide) (fun c223 => ?_) (fun c223 => ?_)
                          · have t223 : 6 ≤ sz.toInt := xi_le (by decide) rfl c223
                            refine lv_bipush (v := 6) hx hb dL_law_233 (by decide) ?_
                            refine lv_icmp_ne (tgt := 289) hx hb dL_law_235 (by decide) (fun c235 => ?_) (fun c235 => ?_)
                            · have t235 : ¬ sz1_174.toInt = 6 := xi_ne rfl (by decide) c235
                              have d235 : ¬ sz1_174 = 6 := c235
                              omega
                            · have t235 : sz1_174.toInt = 6 := xi_eq rfl (by decide) c235
                              have d235 : sz1_174 = 6 := c235
                              exact J238   _ _ hP hD hS ls (lv_sub hl [0, 1, 2, 3, 4, 5, 6, 7, 8] rfl)
                          · have t223 : sz.toInt < 6 := xi_nle (by decide) rfl c223
                            refine lv_iload hx hb dL_law_226 (lv_at hl 2 rfl) ?_
                            refine lv_iconst (v := 1) hx hb dL_law_228 (by decide) ?_
                            refine lv_iadd hx hb dL_law_229 ?_
                            refine lv_topi (fun x229 e229 => ?_)
                            have t229 : x229.toInt = sz.toInt + 1 := by rw [e229]; exact xi_add rfl (by decide) (by omega) (by omega)
                            refine lv_goto (tgt := 235) hx hb dL_law_230 (by decide) ?_
                            refine lv_icmp_ne (tgt := 289) hx hb dL_law_235 (by decide) (fun c235 => ?_) (fun c235 => ?_)
                            · have t235 : ¬ sz1_174.toInt = x229.toInt := xi_ne rfl rfl c235
                              have d235 : ¬ sz1_174 = x229 := c235
                              omega
                            · have t235 : sz1_174.toInt = x229.toInt := xi_eq rfl rfl c235
                              have d235 : sz1_174 = x229 := c235
                              exact J238   _ _ hP hD hS ls (lv_sub hl [0, 1, 2, 3, 4, 5, 6, 7, 8] rfl)
                        · have t194 : r174.toInt = 0 := xi_eq rfl (by decide) c194
                          have d194 : r174 = 0 := c194
                          have hsm : z1_174 = z ∧ sz1_174 = sz := hcase.elim (fun h9 => absurd h9.1 (by omega)) (fun h9 => h9.2)
                          refine lv_iload hx hb dL_law_197 (lv_at hl 0 rfl) ?_
                          refine lv_iload hx hb dL_law_199 (lv_at hl 2 rfl) ?_
                          refine lv_icmp_ne (tgt := 289) hx hb dL_law_201 (by decide) (fun c201 => ?_) (fun c201 => ?_)
                          · have t201 : ¬ sz1_174.toInt = sz.toInt := xi_ne rfl rfl c201
                            have d201 : ¬ sz1_174 = sz := c201
                            exact absurd hsm.2 c201
                          · have t201 : sz1_174.toInt = sz.toInt := xi_eq rfl rfl c201
                            have d201 : sz1_174 = sz := c201
                            refine lv_aload_n hx hb dL_law_204 rfl (lv_at hl 7 rfl) ?_
                            refine xo_Sl (As := [.ref q0_1]) (rest := []) hx hb hml hown hts hK hN hZ hP hD hS hA mb_L_seen mw_2_116 mw_2_117 (c_L_seen l D cI cZ cS q0_1 xa xv ho0 ho1 pd0 pd1 m0 ts0 ts1 a ha sa cq_174 cs1_174 sc tq_174 tv pdq_174 sv (0 : Int32) old1_174 sz1_174 z1_174 past1 slots (500 * k.toInt + 500) hLIa (by first | omega | assumption)) (fun _ => xwW_f) (by decide) (by decide) rfl hl.1 rfl (Nat.le_of_ble_eq_true rfl) dL_law_205 ⟨Nat.le_of_ble_eq_true rfl, Nat.le_of_ble_eq_true rfl⟩ (fun r205 u205 H locs hw hP hD hS => ?_)
                            have p205 : r205 = seenZ z1_174 := hw
                            have hP : va_P D vwCl (xwW cI cZ cS q0_1 xa xv ho0 ho1 pd0 pd1 m0 ts0 ts1 a ha sa cq_174 cs1_174 sc tq_174 tv pdq_174 sv (0 : Int32) old1_174 sz1_174 z1_174) H := hP
                            have hD : va_D A (xwW cI cZ cS q0_1 xa xv ho0 ho1 pd0 pd1 m0 ts0 ts1 a ha sa cq_174 cs1_174 sc tq_174 tv pdq_174 sv (0 : Int32) old1_174 sz1_174 z1_174) := hD
                            refine xk_topl (z := (seenZ z)) (by exact p205.trans (by rw [hsm.1])) ?_
                            refine lv_lload hx hb dL_law_208 (lv_at hl 3 rfl) ?_
                            refine W.lcmp hx hb dL_law_210 ?_
                            refine xk_top (z := 0) (lgc_self _) ?_
                            refine lv_if_ne (tgt := 289) hx hb dL_law_211 (by decide) (fun c211 => absurd (by decide) c211) (fun _ => ?_)
                            refine lv_goto (tgt := 238) hx hb dL_law_214 (by decide) ?_
                            exact J238   _ _ hP hD hS ls (lv_sub hl [0, 1, 2, 3, 4, 5, 6, 7, 8] rfl)
                    refine lv_iload_n hx hb dL_law_165 rfl (lv_at hl 3 rfl) ?_
                    refine lv_if_ne (tgt := 173) hx hb dL_law_166 (by decide) (fun c166 => ?_) (fun c166 => ?_)
                    · have t166 : ¬ k.toInt = 0 := xi_ne rfl (by decide) c166
                      have d166 : ¬ k = 0 := c166
                      refine lv_iconst (v := 0) hx hb dL_law_173 (by decide) ?_
                      exact J174 (0 : Int32)  _ _ hP hD hS ls (lv_sub hl [0, 1, 2, 3, 4, 5, 6] rfl)
                    · have t166 : k.toInt = 0 := xi_eq rfl (by decide) c166
                      have d166 : k = 0 := c166
                      refine lv_iconst (v := 1) hx hb dL_law_169 (by decide) ?_
                      refine lv_goto (tgt := 174) hx hb dL_law_170 (by decide) ?_
                      exact J174 (1 : Int32)  _ _ hP hD hS ls (lv_sub hl [0, 1, 2, 3, 4, 5, 6] rfl)
              exact L131 61 (0 : Int32) cS0 (fun _ => cS0) sc1_117 tq_109 tabF z0 sv1_117 (0 : Int32) (0 : Int32) zI z0 (va_cpy zI z0 0 (190 * (1 : Int32).toInt.toNat) 190) (by decide) (by exact LI_mono (by decide) hLI1) (by exact fun j hj => by show beginZ _ j = 0; rw [beginZ_hi _ hj, upd_n _ _ _ (by omega), upd_n _ _ _ (by omega), upd_n _ _ _ (by omega), upd_n _ _ _ (by omega), upd_n _ _ _ (by omega), upd_n _ _ _ (by omega)]; rfl) (by exact hs1i) (by exact fun j hj => by rw [show 190 + j = 190 * (1 : Int32).toInt.toNat + j from by rw [show (1 : Int32).toInt.toNat = 1 from by decide], cpy_in hj, Nat.zero_add]) (by decide) _ _ hP hD hS ls (lv_sub hl [0, 1, 2, 3] rfl)
