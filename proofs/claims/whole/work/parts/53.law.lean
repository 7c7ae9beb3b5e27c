set_option maxHeartbeats 4000000 in
set_option maxRecDepth 100000 in
theorem whole_start {p : Program} {e : Env} {s : State} {m : MethodId} {below : List Frame} {meth : Method} {c : Code} (l : Launch) (hflags : l.flags = flags0) {b L : Nat} {xs : Nat → Int32} (hL : L ≤ 2048) (C0 : lw_At p s m meth c b L xs) : W p l e room_1 s m #[Value.ref b] below meth c s.heap [] 0 0 (lw_Z below #[Value.ref b] s) (entryFrame m ([Value.ref b] : List Value).toArray 4) := by
  obtain ⟨hx, hb, hr, hml, hown, hts0, hX, hbl, hlocks, hgv⟩ := id C0
  obtain ⟨A, hAe⟩ : ∃ A : Nat → Prop, A = fun q => s.heap.size ≤ q := ⟨_, rfl⟩
  have hA : ∀ q : Nat, s.heap.size ≤ q → A q := fun q h => by rw [hAe]; exact h
  have hbA : ¬ A b := by rw [hAe]; exact Nat.not_le.mpr hbl
  have hts : ∀ w ∈ Cond.arrayClass .int :: wsL_law, w.before #[Value.ref b] s = true := fun w h => by
    rcases List.mem_cons.mp h with e | h
    · rw [e]; exact hts0 _ (wsL_law_in _ mw_1_37)
    · exact hts0 w (wsL_law_in w h)
  obtain ⟨D, cI, cZ, cS, hK⟩ := ls_K hts0
  have hN := ls_N hts0
  have hZ : xZ A s := by rw [hAe]; exact ⟨ls_FIRST_VALUES hts0 hgv, ls_LEAST_VALUES hts0 hgv, ls_MOST_VALUES hts0 hgv⟩
  have hS : va_S A s.heap s.heap [] := va_S.rf
  have hP : va_P D vwCl [] s.heap := fun k q h => by simp at h
  have hD : va_D A [] := ⟨fun i j p q h => by simp at h, fun k q h => by simp at h⟩
  obtain ⟨Q, hQ⟩ : ∃ Q, Q = lw_Z below #[Value.ref b] s := ⟨_, rfl⟩
  rw [← hQ]
  have hLi : (nI L).toInt = L := nI_toInt (by omega)
  have hl := lv_entry ([.ref b]) (n := 4) (Nat.le_of_ble_eq_true rfl)
  rw [lg_entry_eq]
  generalize (lg_sl ([.ref b]) ++ List.replicate (4 - (lg_sl ([.ref b])).length) Slot.unset).toArray = ls at hl ⊢
  have hl : lv_has ls 4 [(0, .ref b)] := hl
  refine va_new (ci := 7) (fs := [.null, .null, .null, .null, .null, .null, .null]) (C := RX7) (T := TX7) (N := 7) hx hb hts xin7 tyX7 tyX7_ok hown (hts _ (List.mem_cons_of_mem _ mw_1_11)) (hts _ (List.mem_cons_of_mem _ mw_1_12)) (hts _ (List.mem_cons_of_mem _ mw_1_1)) hK hP hD hS hA rfl (fun j hj => by rcases (show j = 0 ∨ j = 1 ∨ j = 2 ∨ j = 3 ∨ j = 4 ∨ j = 5 ∨ j = 6 by omega) with rfl | rfl | rfl | rfl | rfl | rfl | rfl <;> rfl) (Nat.le_of_ble_eq_true rfl) (Nat.le_of_ble_eq_true rfl) dL_law_0 (fun q0_1 H hP hD hS => ?_)
  refine lv_dup hx hb dL_law_3 rfl ?_
  refine xk_Ic (r := []) (wc := [(q0_1, .inr (7, [.null, .null, .null, .null, .null, .null, .null]))]) (As := []) (rest := [.ref q0_1]) hx hb hml hown hts hK hN hZ hP hD hS hA mb_X7_init rfl mw_1_13 mw_1_14 (c_X7_init l D cI cZ cS q0_1) (by decide) ⟨rfl, rfl⟩ rfl hl.1 rfl (Nat.le_of_ble_eq_true rfl) dL_law_4 ⟨Nat.le_of_ble_eq_true rfl, Nat.le_of_ble_eq_true rfl⟩ (fun u4_1 H locs hw hP hD hS => ?_)
  obtain ⟨xa, xv, ho0, ho1, pd0, pd1, m0, ts0, ts1, a, ha, sa⟩ := u4_1
  have hP : va_P D vwCl ([] ++ (xwW cI cZ cS q0_1 xa xv ho0 ho1 pd0 pd1 m0 ts0 ts1 a ha sa cS0 (fun _ => cS0) (fun _ => cS0) z0 tabF z0 z0 (0 : Int32) (0 : Int32) (0 : Int32) zI)) H := hP
  have hD : va_D A ([] ++ (xwW cI cZ cS q0_1 xa xv ho0 ho1 pd0 pd1 m0 ts0 ts1 a ha sa cS0 (fun _ => cS0) (fun _ => cS0) z0 tabF z0 z0 (0 : Int32) (0 : Int32) (0 : Int32) zI)) := hD
  refine lv_astore_n (lv' := [(1, .ref q0_1), (0, .ref b)]) hx hb dL_law_7 rfl hl (by decide) rfl (fun ls hl => ?_)
  refine va_new (ci := 8) (fs := [.null, .null, .null, .int 0, .null, .null, .null, .int 0, .int 0, .int 0, .int 0, .null, .null, .int 0]) (C := RX8) (T := TX8) (N := 14) hx hb hts xin8 tyX8 tyX8_ok hown (hts _ (List.mem_cons_of_mem _ mw_3_75)) (hts _ (List.mem_cons_of_mem _ mw_3_76)) (hts _ (List.mem_cons_of_mem _ mw_1_9)) hK hP hD hS hA rfl (fun j hj => by rcases (show j = 0 ∨ j = 1 ∨ j = 2 ∨ j = 3 ∨ j = 4 ∨ j = 5 ∨ j = 6 ∨ j = 7 ∨ j = 8 ∨ j = 9 ∨ j = 10 ∨ j = 11 ∨ j = 12 ∨ j = 13 by omega) with rfl | rfl | rfl | rfl | rfl | rfl | rfl | rfl | rfl | rfl | rfl | rfl | rfl | rfl <;> rfl) (Nat.le_of_ble_eq_true rfl) (Nat.le_of_ble_eq_true rfl) dL_law_8 (fun q8_2 H hP hD hS => ?_)
  refine lv_dup hx hb dL_law_11 rfl ?_
  refine xk_Ic (r := ([] ++ (xwW cI cZ cS q0_1 xa xv ho0 ho1 pd0 pd1 m0 ts0 ts1 a ha sa cS0 (fun _ => cS0) (fun _ => cS0) z0 tabF z0 z0 (0 : Int32) (0 : Int32) (0 : Int32) zI))) (wc := [(q8_2, .inr (8, [.null, .null, .null, .int 0, .null, .null, .null, .int 0, .int 0, .int 0, .int 0, .null, .null, .int 0]))]) (As := []) (rest := [.ref q8_2]) hx hb hml hown hts hK hN hZ hP hD hS hA mb_X8_init rfl mw_3_77 mw_3_78 (c_X8_init l D cI cZ cS q8_2) (by decide) ⟨rfl, rfl⟩ rfl hl.1 rfl (Nat.le_of_ble_eq_true rfl) dL_law_12 ⟨Nat.le_of_ble_eq_true rfl, Nat.le_of_ble_eq_true rfl⟩ (fun u12_2 H locs hw hP hD hS => ?_)
  obtain ⟨h1, h2, h3, h4, h5, h6, h7, h8⟩ := u12_2
  have hP := va_P.swap hP
  have hD := va_D.swap hD
  have hP : va_P D vwCl ([(q8_2, .inr (8, [.ref h1, .ref h2, .ref h3, .int 0, .ref h4, .ref h5, .ref h6, .int 0, .int 0, .int 0, .int 0, .ref h7, .ref h8, .int 0])), (h1, .inl (cI, 190, .inl zI)), (h2, .inl (cI, 190, .inl z0)), (h3, .inl (cI, 1140, .inl z0)), (h4, .inl (cI, 380, .inl z0)), (h5, .inl (cZ, 2, .inl z0)), (h6, .inl (cI, 60, .inl z0)), (h7, .inl (cI, 120, .inl z0)), (h8, .inl (cI, 10, .inl z0))] ++ (xwW cI cZ cS q0_1 xa xv ho0 ho1 pd0 pd1 m0 ts0 ts1 a ha sa cS0 (fun _ => cS0) (fun _ => cS0) z0 tabF z0 z0 (0 : Int32) (0 : Int32) (0 : Int32) zI)) H := hP
  have hD : va_D A ([(q8_2, .inr (8, [.ref h1, .ref h2, .ref h3, .int 0, .ref h4, .ref h5, .ref h6, .int 0, .int 0, .int 0, .int 0, .ref h7, .ref h8, .int 0])), (h1, .inl (cI, 190, .inl zI)), (h2, .inl (cI, 190, .inl z0)), (h3, .inl (cI, 1140, .inl z0)), (h4, .inl (cI, 380, .inl z0)), (h5, .inl (cZ, 2, .inl z0)), (h6, .inl (cI, 60, .inl z0)), (h7, .inl (cI, 120, .inl z0)), (h8, .inl (cI, 10, .inl z0))] ++ (xwW cI cZ cS q0_1 xa xv ho0 ho1 pd0 pd1 m0 ts0 ts1 a ha sa cS0 (fun _ => cS0) (fun _ => cS0) z0 tabF z0 z0 (0 : Int32) (0 : Int32) (0 : Int32) zI)) := hD
  refine lv_astore_n (lv' := [(2, .ref q8_2), (1, .ref q0_1), (0, .ref b)]) hx hb dL_law_15 rfl hl (by decide) rfl (fun ls hl => ?_)
  refine lv_iconst (v := 0) hx hb dL_law_16 (by decide) ?_
  refine lv_istore_n (lv' := [(3, .int 0), (2, .ref q8_2), (1, .ref q0_1), (0, .ref b)]) hx hb dL_law_17 rfl hl (by decide) rfl (fun ls hl => ?_)
  have L18 : ∀ (n : Nat) (k : Int32) (cn : Nat → Nat → Int32) (cs : Nat → Nat → Nat → Int32) (sc : Nat → Nat → Nat → Int32) (tm : Nat → Int32) (tv : Nat → Int32) (pd : Nat → Int32) (sv : Nat → Int32) (ln : Int32) (old : Int32) (sz : Int32) (z : Nat → Int32) (spare : Nat → Int32) (past : Nat → Int32) (slots : Nat → Int32) (tf : Nat → Int32) (tmm : Nat → Int32) (gse : Int32) (gte : Int32) (gsp : Int32) (gtl : Int32) (hk : 0 ≤ k.toInt ∧ k.toInt ≤ 2048) (hLI : LI (125 * k.toInt) cn cs sc sv ln old sz z past slots) (hn18 : (2049 - k.toInt).toNat < n) (H : Heap) (locs : List Loc), va_P D vwCl ([(q8_2, .inr (8, [.ref h1, .ref h2, .ref h3, .int sz, .ref h4, .ref h5, .ref h6, .int ln, .int gse, .int gte, .int gsp, .ref h7, .ref h8, .int gtl])), (h1, .inl (cI, 190, .inl z)), (h2, .inl (cI, 190, .inl spare)), (h3, .inl (cI, 1140, .inl past)), (h4, .inl (cI, 380, .inl slots)), (h5, .inl (cZ, 2, .inl sv)), (h6, .inl (cI, 60, .inl pd)), (h7, .inl (cI, 120, .inl tf)), (h8, .inl (cI, 10, .inl tmm))] ++ (xwW cI cZ cS q0_1 xs xv ho0 ho1 pd0 pd1 m0 ts0 ts1 a ha sa cn cs sc tm tv pd sv ln old sz z)) H → va_D A ([(q8_2, .inr (8, [.ref h1, .ref h2, .ref h3, .int sz, .ref h4, .ref h5, .ref h6, .int ln, .int gse, .int gte, .int gsp, .ref h7, .ref h8, .int gtl])), (h1, .inl (cI, 190, .inl z)), (h2, .inl (cI, 190, .inl spare)), (h3, .inl (cI, 1140, .inl past)), (h4, .inl (cI, 380, .inl slots)), (h5, .inl (cZ, 2, .inl sv)), (h6, .inl (cI, 60, .inl pd)), (h7, .inl (cI, 120, .inl tf)), (h8, .inl (cI, 10, .inl tmm))] ++ (xwW cI cZ cS q0_1 xs xv ho0 ho1 pd0 pd1 m0 ts0 ts1 a ha sa cn cs sc tm tv pd sv ln old sz z)) → va_S A s.heap H locs → ∀ ls : Array Slot, lv_has ls 4 [(3, .int k), (2, .ref q8_2), (1, .ref q0_1), (0, .ref b)] → W p l e room_1 s m #[Value.ref b] below meth c H locs 127 5090 Q (F0 m 18 ls []) := by
    intro n
    induction n with
    | zero =>
      intro k cn cs sc tm tv pd sv ln old sz z spare past slots tf tmm gse gte gsp gtl hk hLI hn18
      exact absurd hn18 (Nat.not_lt_zero _)
    | succ n ih18 =>
      intro k cn cs sc tm tv pd sv ln old sz z spare past slots tf tmm gse gte gsp gtl hk hLI hn18 H locs hP hD hS ls hl
      obtain ⟨hRS, hI, hBD, ⟨hold, hszz, hlnn⟩, hmcs, hmsc, hRH, hRL⟩ := id hLI
      refine lv_iload_n hx hb dL_law_18 rfl (lv_at hl 0 rfl) ?_
      refine lv_aload_n hx hb dL_law_19 rfl (lv_at hl 3 rfl) ?_
      refine va_slen hx hb hX hbl hbA hS dL_law_20 ?_
      refine xk_top (z := nI L) rfl ?_
      refine lv_iconst (v := 4) hx hb dL_law_21 (by decide) ?_
      refine lv_isub hx hb dL_law_22 ?_
      refine lv_topi (fun x22 e22 => ?_)
      have t22 : x22.toInt = ((nI L).toInt) - 4 := by rw [e22]; exact xi_sub rfl (by decide) (by omega) (by omega)
      refine lv_icmp_gt (tgt := 694) hx hb dL_law_23 (by decide) (fun c23 => ?_) (fun c23 => ?_)
      · have t23 : x22.toInt < k.toInt := xi_lt rfl rfl c23
        refine lv_iconst (v := 1) hx hb dL_law_694 (by decide) ?_
        refine va_forget (fun q hq => by have := hS.2.2 q hq; rw [hAe] at this; exact this) ?_
        refine W.widen (k := 600000) (n := 7302250) (Nat.le_of_ble_eq_true rfl) (Nat.le_of_ble_eq_true rfl) ?_
        rw [hQ]
        exact lw_ret hx hb hr hlocks dL_law_695
      · have t23 : k.toInt ≤ x22.toInt := xi_nlt rfl rfl c23
        refine lv_aload_n hx hb dL_law_26 rfl (lv_at hl 3 rfl) ?_
        refine lv_iload_n hx hb dL_law_27 rfl (lv_at hl 0 rfl) ?_
        refine va_sld hx hb hX hbl hbA hS (xi_in (by omega) (by omega)) dL_law_28 ?_
        refine xk_top (z := xs k.toInt.toNat) (xk_rd (by omega)) ?_
        refine lv_bipush (v := 31) hx hb dL_law_29 (by decide) ?_
        refine lv_iand hx hb dL_law_31 ?_
        refine lv_topi (fun x31 e31 => ?_)
        have h32 : x31.toInt < 0 ∨ 21 < x31.toInt ∨ x31.toInt = 0 ∨ x31.toInt = 1 ∨ x31.toInt = 2 ∨ x31.toInt = 3 ∨ x31.toInt = 4 ∨ x31.toInt = 5 ∨ x31.toInt = 6 ∨ x31.toInt = 7 ∨ x31.toInt = 8 ∨ x31.toInt = 9 ∨ x31.toInt = 10 ∨ x31.toInt = 11 ∨ x31.toInt = 12 ∨ x31.toInt = 13 ∨ x31.toInt = 14 ∨ x31.toInt = 15 ∨ x31.toInt = 16 ∨ x31.toInt = 17 ∨ x31.toInt = 18 ∨ x31.toInt = 19 ∨ x31.toInt = 20 ∨ x31.toInt = 21 := by omega
        rcases h32 with t32 | t32 | t32 | t32 | t32 | t32 | t32 | t32 | t32 | t32 | t32 | t32 | t32 | t32 | t32 | t32 | t32 | t32 | t32 | t32 | t32 | t32 | t32 | t32
        · refine lv_tableOut (tgt := 688) hx hb dL_law_32 (by first | exact Or.inl t32 | exact Or.inr t32) (by decide) ?_
          obtain ⟨x688, e688⟩ : ∃ y : Int32, y = k + 4 := ⟨_, rfl⟩
          have t688 : x688.toInt = k.toInt + 4 := by rw [e688]; exact xi_add rfl (by decide) (by omega) (by omega)
          refine lv_iinc (v := x688) (lv' := [(3, .int x688), (2, .ref q8_2), (1, .ref q0_1), (0, .ref b)]) hx hb dL_law_688 hl (k := 0) rfl (by rw [e688]; rfl) (by decide) rfl (fun ls hl => ?_)
          refine lv_goto (tgt := 18) hx hb dL_law_691 (by decide) ?_
          exact ih18  x688 cn cs sc tm tv pd sv ln old sz z spare past slots tf tmm gse gte gsp gtl (by omega) (by exact LI_mono (by omega) hLI) (by omega) _ _ hP hD hS ls (lv_sub hl [0, 1, 2, 3] rfl)
        · refine lv_tableOut (tgt := 688) hx hb dL_law_32 (by first | exact Or.inl t32 | exact Or.inr t32) (by decide) ?_
          obtain ⟨x688, e688⟩ : ∃ y : Int32, y = k + 4 := ⟨_, rfl⟩
          have t688 : x688.toInt = k.toInt + 4 := by rw [e688]; exact xi_add rfl (by decide) (by omega) (by omega)
          refine lv_iinc (v := x688) (lv' := [(3, .int x688), (2, .ref q8_2), (1, .ref q0_1), (0, .ref b)]) hx hb dL_law_688 hl (k := 0) rfl (by rw [e688]; rfl) (by decide) rfl (fun ls hl => ?_)
          refine lv_goto (tgt := 18) hx hb dL_law_691 (by decide) ?_
          exact ih18  x688 cn cs sc tm tv pd sv ln old sz z spare past slots tf tmm gse gte gsp gtl (by omega) (by exact LI_mono (by omega) hLI) (by omega) _ _ hP hD hS ls (lv_sub hl [0, 1, 2, 3] rfl)
        · refine lv_tableIn (off := 104) (tgt := 136) hx hb dL_law_32 (by rw [t32]; decide) (by rw [t32]; decide) (by rw [t32]; rfl) (by decide) ?_
          refine lv_aload_n hx hb dL_law_136 rfl (lv_at hl 2 rfl) ?_
          refine lv_aload_n hx hb dL_law_137 rfl (lv_at hl 3 rfl) ?_
          refine lv_iload_n hx hb dL_law_138 rfl (lv_at hl 0 rfl) ?_
          refine lv_iconst (v := 1) hx hb dL_law_139 (by decide) ?_
          refine lv_iadd hx hb dL_law_140 ?_
          refine lv_topi (fun x140 e140 => ?_)
          have t140 : x140.toInt = k.toInt + 1 := by rw [e140]; exact xi_add rfl (by decide) (by omega) (by omega)
          refine va_sld hx hb hX hbl hbA hS (xi_in (by omega) (by omega)) dL_law_141 ?_
          refine xk_top (z := xs (k.toInt.toNat + 1)) (xk_rd (by omega)) ?_
          refine lv_aload_n hx hb dL_law_142 rfl (lv_at hl 3 rfl) ?_
          refine lv_iload_n hx hb dL_law_143 rfl (lv_at hl 0 rfl) ?_
          refine lv_iconst (v := 2) hx hb dL_law_144 (by decide) ?_
          refine lv_iadd hx hb dL_law_145 ?_
          refine lv_topi (fun x145 e145 => ?_)
          have t145 : x145.toInt = k.toInt + 2 := by rw [e145]; exact xi_add rfl (by decide) (by omega) (by omega)
          refine va_sld hx hb hX hbl hbA hS (xi_in (by omega) (by omega)) dL_law_146 ?_
          refine xk_top (z := xs (k.toInt.toNat + 2)) (xk_rd (by omega)) ?_
          refine xk_Vi (As := [.int (xs (k.toInt.toNat + 1)), .int (xs (k.toInt.toNat + 2))]) (rest := []) hx hb hml hown hts hK hN hZ (xg_P hP List.perm_append_comm) (xg_D hD List.perm_append_comm) hS hA mb_X7_set mw_1_239 mw_2_0 mw_2_1 (k_X7_set l D cI cZ cS x0 xs xv ho0 ho1 pd0 pd1 m0 ts0 ts1 a ha sa cn cs sc tm tv pd sv ln old sz z (xs (k.toInt.toNat + 1)) (xs (k.toInt.toNat + 2)) hRS hI hold hszz) (List.range ((xwW cI cZ cS q0_1 xa xv ho0 ho1 pd0 pd1 m0 ts0 ts1 a ha sa cn cs sc tm tv pd sv ln old sz z) : va_W).length) 0 7 rfl rfl (xg_ndr _) (xg_range _ _) (fun _ => by exact xwW_f) (by decide) (by decide) rfl hl.1 rfl (Nat.le_of_ble_eq_true rfl) dL_law_147 ⟨Nat.zero_le _, Nat.zero_le _⟩ (fun r147 u147 H locs hw hP hD hS => ?_)
          obtain ⟨cq_147, zq_147, old1_147, sz1_147, cs1_147⟩ := u147
          have p147 : (setV (xs (k.toInt.toNat + 1)) (xs (k.toInt.toNat + 2)) ∧ r147 = z (xs (k.toInt.toNat + 1)).toInt.toNat ∧ Chg cn z old sz cs (beginZ (upd z (xs (k.toInt.toNat + 1)).toInt.toNat (xs (k.toInt.toNat + 2)))) cq_147 zq_147 old1_147 sz1_147 cs1_147) ∨ (¬ setV (xs (k.toInt.toNat + 1)) (xs (k.toInt.toNat + 2)) ∧ r147 = -2 ∧ Same cn z old sz cs cq_147 zq_147 old1_147 sz1_147 cs1_147) := hw
          have hP : va_P D vwCl ((xwW cI cZ cS q0_1 xa xv ho0 ho1 pd0 pd1 m0 ts0 ts1 a ha sa cq_147 cs1_147 sc tm tv pd sv ln old1_147 sz1_147 zq_147) ++ [(q8_2, .inr (8, [.ref h1, .ref h2, .ref h3, .int sz, .ref h4, .ref h5, .ref h6, .int ln, .int gse, .int gte, .int gsp, .ref h7, .ref h8, .int gtl])), (h1, .inl (cI, 190, .inl z)), (h2, .inl (cI, 190, .inl spare)), (h3, .inl (cI, 1140, .inl past)), (h4, .inl (cI, 380, .inl slots)), (h5, .inl (cZ, 2, .inl sv)), (h6, .inl (cI, 60, .inl pd)), (h7, .inl (cI, 120, .inl tf)), (h8, .inl (cI, 10, .inl tmm))]) H := xk_P hP (xg_set (by exact xwW_f))
          have hD : va_D A ((xwW cI cZ cS q0_1 xa xv ho0 ho1 pd0 pd1 m0 ts0 ts1 a ha sa cq_147 cs1_147 sc tm tv pd sv ln old1_147 sz1_147 zq_147) ++ [(q8_2, .inr (8, [.ref h1, .ref h2, .ref h3, .int sz, .ref h4, .ref h5, .ref h6, .int ln, .int gse, .int gte, .int gsp, .ref h7, .ref h8, .int gtl])), (h1, .inl (cI, 190, .inl z)), (h2, .inl (cI, 190, .inl spare)), (h3, .inl (cI, 1140, .inl past)), (h4, .inl (cI, 380, .inl slots)), (h5, .inl (cZ, 2, .inl sv)), (h6, .inl (cI, 60, .inl pd)), (h7, .inl (cI, 120, .inl tf)), (h8, .inl (cI, 10, .inl tmm))]) := xk_D hD (xg_set (by exact xwW_f))
          have hP := xg_P hP List.perm_append_comm
          have hD := xg_D hD List.perm_append_comm
          have hP : va_P D vwCl ([(q8_2, .inr (8, [.ref h1, .ref h2, .ref h3, .int sz, .ref h4, .ref h5, .ref h6, .int ln, .int gse, .int gte, .int gsp, .ref h7, .ref h8, .int gtl])), (h1, .inl (cI, 190, .inl z)), (h2, .inl (cI, 190, .inl spare)), (h3, .inl (cI, 1140, .inl past)), (h4, .inl (cI, 380, .inl slots)), (h5, .inl (cZ, 2, .inl sv)), (h6, .inl (cI, 60, .inl pd)), (h7, .inl (cI, 120, .inl tf)), (h8, .inl (cI, 10, .inl tmm))] ++ (xwW cI cZ cS q0_1 xa xv ho0 ho1 pd0 pd1 m0 ts0 ts1 a ha sa cq_147 cs1_147 sc tm tv pd sv ln old1_147 sz1_147 zq_147)) H := hP
          have hD : va_D A ([(q8_2, .inr (8, [.ref h1, .ref h2, .ref h3, .int sz, .ref h4, .ref h5, .ref h6, .int ln, .int gse, .int gte, .int gsp, .ref h7, .ref h8, .int gtl])), (h1, .inl (cI, 190, .inl z)), (h2, .inl (cI, 190, .inl spare)), (h3, .inl (cI, 1140, .inl past)), (h4, .inl (cI, 380, .inl slots)), (h5, .inl (cZ, 2, .inl sv)), (h6, .inl (cI, 60, .inl pd)), (h7, .inl (cI, 120, .inl tf)), (h8, .inl (cI, 10, .inl tmm))] ++ (xwW cI cZ cS q0_1 xa xv ho0 ho1 pd0 pd1 m0 ts0 ts1 a ha sa cq_147 cs1_147 sc tm tv pd sv ln old1_147 sz1_147 zq_147)) := hD
          refine lv_aload_n hx hb dL_law_150 rfl (lv_at hl 1 rfl) ?_
          refine lv_aload_n hx hb dL_law_151 rfl (lv_at hl 3 rfl) ?_
          refine lv_iload_n hx hb dL_law_152 rfl (lv_at hl 0 rfl) ?_
          refine lv_iconst (v := 1) hx hb dL_law_153 (by decide) ?_
          refine lv_iadd hx hb dL_law_154 ?_
          refine lv_topi (fun x154 e154 => ?_)
          have t154 : x154.toInt = k.toInt + 1 := by rw [e154]; exact xi_add rfl (by decide) (by omega) (by omega)
          refine va_sld hx hb hX hbl hbA hS (xi_in (by omega) (by omega)) dL_law_155 ?_
          refine xk_top (z := xs (k.toInt.toNat + 1)) (xk_rd (by omega)) ?_
          refine lv_aload_n hx hb dL_law_156 rfl (lv_at hl 3 rfl) ?_
          refine lv_iload_n hx hb dL_law_157 rfl (lv_at hl 0 rfl) ?_
          refine lv_iconst (v := 2) hx hb dL_law_158 (by decide) ?_
          refine lv_iadd hx hb dL_law_159 ?_
          refine lv_topi (fun x159 e159 => ?_)
          have t159 : x159.toInt = k.toInt + 2 := by rw [e159]; exact xi_add rfl (by decide) (by omega) (by omega)
          refine va_sld hx hb hX hbl hbA hS (xi_in (by omega) (by omega)) dL_law_160 ?_
          refine xk_top (z := xs (k.toInt.toNat + 2)) (xk_rd (by omega)) ?_
          refine xk_Vi (As := [.int (xs (k.toInt.toNat + 1)), .int (xs (k.toInt.toNat + 2))]) (rest := [.int r147]) hx hb hml hown hts hK hN hZ hP hD hS hA mb_X8_set mw_3_194 mw_3_195 mw_3_196 (c_X8_set l D cI cZ cS q8_2 h1 h2 h3 h4 h5 h6 h7 h8 sz ln gse gte gsp gtl z past (xs (k.toInt.toNat + 1)) (xs (k.toInt.toNat + 2)) (by exact hszz)) [0, 1, 3] 0 8 rfl rfl (by decide) rfl (fun _ => by simp only [List.map]) (by decide) (by decide) rfl hl.1 rfl (Nat.le_of_ble_eq_true rfl) dL_law_161 ⟨Nat.le_of_ble_eq_true rfl, Nat.le_of_ble_eq_true rfl⟩ (fun r161 _ H locs hw hP hD hS => ?_)
          have hP : va_P D vwCl ([(q8_2, .inr (8, [.ref h1, .ref h2, .ref h3, .int (if setV (xs (k.toInt.toNat + 1)) (xs (k.toInt.toNat + 2)) then recS sz else sz), .ref h4, .ref h5, .ref h6, .int ln, .int gse, .int gte, .int gsp, .ref h7, .ref h8, .int gtl])), (h1, .inl (cI, 190, .inl (if setV (xs (k.toInt.toNat + 1)) (xs (k.toInt.toNat + 2)) then beginZ (upd z (xs (k.toInt.toNat + 1)).toInt.toNat (xs (k.toInt.toNat + 2))) else z))), (h2, .inl (cI, 190, .inl spare)), (h3, .inl (cI, 1140, .inl (if setV (xs (k.toInt.toNat + 1)) (xs (k.toInt.toNat + 2)) then recP z past sz else past))), (h4, .inl (cI, 380, .inl slots)), (h5, .inl (cZ, 2, .inl sv)), (h6, .inl (cI, 60, .inl pd)), (h7, .inl (cI, 120, .inl tf)), (h8, .inl (cI, 10, .inl tmm))] ++ (xwW cI cZ cS q0_1 xa xv ho0 ho1 pd0 pd1 m0 ts0 ts1 a ha sa cq_147 cs1_147 sc tm tv pd sv ln old1_147 sz1_147 zq_147)) H := hP
          have hD : va_D A ([(q8_2, .inr (8, [.ref h1, .ref h2, .ref h3, .int (if setV (xs (k.toInt.toNat + 1)) (xs (k.toInt.toNat + 2)) then recS sz else sz), .ref h4, .ref h5, .ref h6, .int ln, .int gse, .int gte, .int gsp, .ref h7, .ref h8, .int gtl])), (h1, .inl (cI, 190, .inl (if setV (xs (k.toInt.toNat + 1)) (xs (k.toInt.toNat + 2)) then beginZ (upd z (xs (k.toInt.toNat + 1)).toInt.toNat (xs (k.toInt.toNat + 2))) else z))), (h2, .inl (cI, 190, .inl spare)), (h3, .inl (cI, 1140, .inl (if setV (xs (k.toInt.toNat + 1)) (xs (k.toInt.toNat + 2)) then recP z past sz else past))), (h4, .inl (cI, 380, .inl slots)), (h5, .inl (cZ, 2, .inl sv)), (h6, .inl (cI, 60, .inl pd)), (h7, .inl (cI, 120, .inl tf)), (h8, .inl (cI, 10, .inl tmm))] ++ (xwW cI cZ cS q0_1 xa xv ho0 ho1 pd0 pd1 m0 ts0 ts1 a ha sa cq_147 cs1_147 sc tm tv pd sv ln old1_147 sz1_147 zq_147)) := hD
          have e161 : r161 = if setV (xs (k.toInt.toNat + 1)) (xs (k.toInt.toNat + 2)) then z (xs (k.toInt.toNat + 1)).toInt.toNat else -2 := hw
          obtain ⟨hrr, hLI2, hz2, hs2⟩ := step_set hLI p147 e161
          rw [hz2, hs2] at hP hD
          have hP : va_P D vwCl ([(q8_2, .inr (8, [.ref h1, .ref h2, .ref h3, .int (if setV (xs (k.toInt.toNat + 1)) (xs (k.toInt.toNat + 2)) then recS sz else sz), .ref h4, .ref h5, .ref h6, .int ln, .int gse, .int gte, .int gsp, .ref h7, .ref h8, .int gtl])), (h1, .inl (cI, 190, .inl (if setV (xs (k.toInt.toNat + 1)) (xs (k.toInt.toNat + 2)) then beginZ (upd z (xs (k.toInt.toNat + 1)).toInt.toNat (xs (k.toInt.toNat + 2))) else z))), (h2, .inl (cI, 190, .inl spare)), (h3, .inl (cI, 1140, .inl (if setV (xs (k.toInt.toNat + 1)) (xs (k.toInt.toNat + 2)) then recP z past sz else past))), (h4, .inl (cI, 380, .inl slots)), (h5, .inl (cZ, 2, .inl sv)), (h6, .inl (cI, 60, .inl pd)), (h7, .inl (cI, 120, .inl tf)), (h8, .inl (cI, 10, .inl tmm))] ++ (xwW cI cZ cS q0_1 xa xv ho0 ho1 pd0 pd1 m0 ts0 ts1 a ha sa cq_147 cs1_147 sc tm tv pd sv ln old1_147 (if setV (xs (k.toInt.toNat + 1)) (xs (k.toInt.toNat + 2)) then recS sz else sz) (if setV (xs (k.toInt.toNat + 1)) (xs (k.toInt.toNat + 2)) then beginZ (upd z (xs (k.toInt.toNat + 1)).toInt.toNat (xs (k.toInt.toNat + 2))) else z))) H := hP
          have hD : va_D A ([(q8_2, .inr (8, [.ref h1, .ref h2, .ref h3, .int (if setV (xs (k.toInt.toNat + 1)) (xs (k.toInt.toNat + 2)) then recS sz else sz), .ref h4, .ref h5, .ref h6, .int ln, .int gse, .int gte, .int gsp, .ref h7, .ref h8, .int gtl])), (h1, .inl (cI, 190, .inl (if setV (xs (k.toInt.toNat + 1)) (xs (k.toInt.toNat + 2)) then beginZ (upd z (xs (k.toInt.toNat + 1)).toInt.toNat (xs (k.toInt.toNat + 2))) else z))), (h2, .inl (cI, 190, .inl spare)), (h3, .inl (cI, 1140, .inl (if setV (xs (k.toInt.toNat + 1)) (xs (k.toInt.toNat + 2)) then recP z past sz else past))), (h4, .inl (cI, 380, .inl slots)), (h5, .inl (cZ, 2, .inl sv)), (h6, .inl (cI, 60, .inl pd)), (h7, .inl (cI, 120, .inl tf)), (h8, .inl (cI, 10, .inl tmm))] ++ (xwW cI cZ cS q0_1 xa xv ho0 ho1 pd0 pd1 m0 ts0 ts1 a ha sa cq_147 cs1_147 sc tm tv pd sv ln old1_147 (if setV (xs (k.toInt.toNat + 1)) (xs (k.toInt.toNat + 2)) then recS sz else sz) (if setV (xs (k.toInt.toNat + 1)) (xs (k.toInt.toNat + 2)) then beginZ (upd z (xs (k.toInt.toNat + 1)).toInt.toNat (xs (k.toInt.toNat + 2))) else z))) := hD
          refine lv_icmp_eq (tgt := 688) hx hb dL_law_164 (by decide) (fun c164 => ?_) (fun c164 => ?_)
          · have t164 : r147.toInt = r161.toInt := xi_eq rfl rfl c164
            have d164 : r147 = r161 := c164
            obtain ⟨x688, e688⟩ : ∃ y : Int32, y = k + 4 := ⟨_, rfl⟩
            have t688 : x688.toInt = k.toInt + 4 := by rw [e688]; exact xi_add rfl (by decide) (by omega) (by omega)
            refine lv_iinc (v := x688) (lv' := [(3, .int x688), (2, .ref q8_2), (1, .ref q0_1), (0, .ref b)]) hx hb dL_law_688 hl (k := 0) rfl (by rw [e688]; rfl) (by decide) rfl (fun ls hl => ?_)
            refine lv_goto (tgt := 18) hx hb dL_law_691 (by decide) ?_
            have q18 : (([(q8_2, .inr (8, [.ref h1, .ref h2, .ref h3, .int (if setV (xs (k.toInt.toNat + 1)) (xs (k.toInt.toNat + 2)) then recS sz else sz), .ref h4, .ref h5, .ref h6, .int ln, .int gse, .int gte, .int gsp, .ref h7, .ref h8, .int gtl])), (h1, .inl (cI, 190, .inl (if setV (xs (k.toInt.toNat + 1)) (xs (k.toInt.toNat + 2)) then beginZ (upd z (xs (k.toInt.toNat + 1)).toInt.toNat (xs (k.toInt.toNat + 2))) else z))), (h2, .inl (cI, 190, .inl spare)), (h3, .inl (cI, 1140, .inl (if setV (xs (k.toInt.toNat + 1)) (xs (k.toInt.toNat + 2)) then recP z past sz else past))), (h4, .inl (cI, 380, .inl slots)), (h5, .inl (cZ, 2, .inl sv)), (h6, .inl (cI, 60, .inl pd)), (h7, .inl (cI, 120, .inl tf)), (h8, .inl (cI, 10, .inl tmm))] ++ (xwW cI cZ cS q0_1 xa xv ho0 ho1 pd0 pd1 m0 ts0 ts1 a ha sa cq_147 cs1_147 sc tm tv pd sv ln old1_147 (if setV (xs (k.toInt.toNat + 1)) (xs (k.toInt.toNat + 2)) then recS sz else sz) (if setV (xs (k.toInt.toNat + 1)) (xs (k.toInt.toNat + 2)) then beginZ (upd z (xs (k.toInt.toNat + 1)).toInt.toNat (xs (k.toInt.toNat + 2))) else z))) : va_W) = ([(q8_2, .inr (8, [.ref h1, .ref h2, .ref h3, .int (if setV (xs (k.toInt.toNat + 1)) (xs (k.toInt.toNat + 2)) then recS sz else sz), .ref h4, .ref h5, .ref h6, .int ln, .int gse, .int gte, .int gsp, .ref h7, .ref h8, .int gtl])), (h1, .inl (cI, 190, .inl (if setV (xs (k.toInt.toNat + 1)) (xs (k.toInt.toNat + 2)) then beginZ (upd z (xs (k.toInt.toNat + 1)).toInt.toNat (xs (k.toInt.toNat + 2))) else z))), (h2, .inl (cI, 190, .inl spare)), (h3, .inl (cI, 1140, .inl (if setV (xs (k.toInt.toNat + 1)) (xs (k.toInt.toNat + 2)) then recP z past sz else past))), (h4, .inl (cI, 380, .inl slots)), (h5, .inl (cZ, 2, .inl sv)), (h6, .inl (cI, 60, .inl pd)), (h7, .inl (cI, 120, .inl tf)), (h8, .inl (cI, 10, .inl tmm))] ++ (xwW cI cZ cS q0_1 xs xv ho0 ho1 pd0 pd1 m0 ts0 ts1 a ha sa cq_147 cs1_147 sc tm tv pd sv ln old1_147 (if setV (xs (k.toInt.toNat + 1)) (xs (k.toInt.toNat + 2)) then recS sz else sz) (if setV (xs (k.toInt.toNat + 1)) (xs (k.toInt.toNat + 2)) then beginZ (upd z (xs (k.toInt.toNat + 1)).toInt.toNat (xs (k.toInt.toNat + 2))) else z))) := by rfl
            exact ih18  x688 cq_147 cs1_147 sc tm tv pd sv ln old1_147 (if setV (xs (k.toInt.toNat + 1)) (xs (k.toInt.toNat + 2)) then recS sz else sz) (if setV (xs (k.toInt.toNat + 1)) (xs (k.toInt.toNat + 2)) then beginZ (upd z (xs (k.toInt.toNat + 1)).toInt.toNat (xs (k.toInt.toNat + 2))) else z) spare (if setV (xs (k.toInt.toNat + 1)) (xs (k.toInt.toNat + 2)) then recP z past sz else past) slots tf tmm gse gte gsp gtl (by omega) (by exact LI_mono (by omega) hLI2) (by omega) _ _ (xk_P hP q18) (xk_D hD q18) hS ls (lv_sub hl [0, 1, 2, 3] rfl)
          · have t164 : ¬ r147.toInt = r161.toInt := xi_ne rfl rfl c164
            have d164 : ¬ r147 = r161 := c164
            exact absurd hrr c164
        · refine lv_tableIn (off := 137) (tgt := 169) hx hb dL_law_32 (by rw [t32]; decide) (by rw [t32]; decide) (by rw [t32]; rfl) (by decide) ?_
          refine lv_aload_n hx hb dL_law_169 rfl (lv_at hl 2 rfl) ?_
          refine xk_Vi (As := []) (rest := []) hx hb hml hown hts hK hN hZ (xg_P hP List.perm_append_comm) (xg_D hD List.perm_append_comm) hS hA mb_X7_read mw_2_46 mw_2_47 mw_2_48 (k_X7_read l D cI cZ cS x0 xs xv ho0 ho1 pd0 pd1 m0 ts0 ts1 a ha sa cn cs sc tm tv pd sv ln old sz z hRS hI hold hszz hlnn) (List.range ((xwW cI cZ cS q0_1 xa xv ho0 ho1 pd0 pd1 m0 ts0 ts1 a ha sa cn cs sc tm tv pd sv ln old sz z) : va_W).length) 0 7 rfl rfl (xg_ndr _) (xg_range _ _) (fun _ => by exact xwW_f) (by decide) (by decide) rfl hl.1 rfl (Nat.le_of_ble_eq_true rfl) dL_law_170 ⟨Nat.zero_le _, Nat.zero_le _⟩ (fun r170 u170 H locs hw hP hD hS => ?_)
          obtain ⟨cq_170, zq_170, old1_170, sz1_170, cs1_170, ln1_170⟩ := u170
          have p170 : (FN pd ln.toInt.toNat ∧ r170 = cq_170 7 0 ∧ ln1_170 = 0 ∧ zq_170 = beginZ z ∧ WrI pd ln.toInt.toNat (cq_170 7 0) (cq_170 1) (cq_170 2) (cq_170 3) ∧ cq_170 0 = cn 0 ∧ cq_170 4 = cn 4 ∧ cq_170 5 = cn 5 ∧ cq_170 6 = cn 6 ∧ cq_170 7 1 = cn 7 1 ∧ old1_170 = oldR old sz ∧ sz1_170 = szR sz ∧ cs1_170 = recC cs (cZm cn z) (jR old sz)) ∨ (¬ FN pd ln.toInt.toNat ∧ r170 = -3 ∧ ln1_170 = ln ∧ Same cn z old sz cs cq_170 zq_170 old1_170 sz1_170 cs1_170) := hw
          have hP : va_P D vwCl ((xwW cI cZ cS q0_1 xa xv ho0 ho1 pd0 pd1 m0 ts0 ts1 a ha sa cq_170 cs1_170 sc tm tv pd sv ln1_170 old1_170 sz1_170 zq_170) ++ [(q8_2, .inr (8, [.ref h1, .ref h2, .ref h3, .int sz, .ref h4, .ref h5, .ref h6, .int ln, .int gse, .int gte, .int gsp, .ref h7, .ref h8, .int gtl])), (h1, .inl (cI, 190, .inl z)), (h2, .inl (cI, 190, .inl spare)), (h3, .inl (cI, 1140, .inl past)), (h4, .inl (cI, 380, .inl slots)), (h5, .inl (cZ, 2, .inl sv)), (h6, .inl (cI, 60, .inl pd)), (h7, .inl (cI, 120, .inl tf)), (h8, .inl (cI, 10, .inl tmm))]) H := xk_P hP (xg_set (by exact xwW_f))
          have hD : va_D A ((xwW cI cZ cS q0_1 xa xv ho0 ho1 pd0 pd1 m0 ts0 ts1 a ha sa cq_170 cs1_170 sc tm tv pd sv ln1_170 old1_170 sz1_170 zq_170) ++ [(q8_2, .inr (8, [.ref h1, .ref h2, .ref h3, .int sz, .ref h4, .ref h5, .ref h6, .int ln, .int gse, .int gte, .int gsp, .ref h7, .ref h8, .int gtl])), (h1, .inl (cI, 190, .inl z)), (h2, .inl (cI, 190, .inl spare)), (h3, .inl (cI, 1140, .inl past)), (h4, .inl (cI, 380, .inl slots)), (h5, .inl (cZ, 2, .inl sv)), (h6, .inl (cI, 60, .inl pd)), (h7, .inl (cI, 120, .inl tf)), (h8, .inl (cI, 10, .inl tmm))]) := xk_D hD (xg_set (by exact xwW_f))
          have hP := xg_P hP List.perm_append_comm
          have hD := xg_D hD List.perm_append_comm
          have hP : va_P D vwCl ([(q8_2, .inr (8, [.ref h1, .ref h2, .ref h3, .int sz, .ref h4, .ref h5, .ref h6, .int ln, .int gse, .int gte, .int gsp, .ref h7, .ref h8, .int gtl])), (h1, .inl (cI, 190, .inl z)), (h2, .inl (cI, 190, .inl spare)), (h3, .inl (cI, 1140, .inl past)), (h4, .inl (cI, 380, .inl slots)), (h5, .inl (cZ, 2, .inl sv)), (h6, .inl (cI, 60, .inl pd)), (h7, .inl (cI, 120, .inl tf)), (h8, .inl (cI, 10, .inl tmm))] ++ (xwW cI cZ cS q0_1 xa xv ho0 ho1 pd0 pd1 m0 ts0 ts1 a ha sa cq_170 cs1_170 sc tm tv pd sv ln1_170 old1_170 sz1_170 zq_170)) H := hP
          have hD : va_D A ([(q8_2, .inr (8, [.ref h1, .ref h2, .ref h3, .int sz, .ref h4, .ref h5, .ref h6, .int ln, .int gse, .int gte, .int gsp, .ref h7, .ref h8, .int gtl])), (h1, .inl (cI, 190, .inl z)), (h2, .inl (cI, 190, .inl spare)), (h3, .inl (cI, 1140, .inl past)), (h4, .inl (cI, 380, .inl slots)), (h5, .inl (cZ, 2, .inl sv)), (h6, .inl (cI, 60, .inl pd)), (h7, .inl (cI, 120, .inl tf)), (h8, .inl (cI, 10, .inl tmm))] ++ (xwW cI cZ cS q0_1 xa xv ho0 ho1 pd0 pd1 m0 ts0 ts1 a ha sa cq_170 cs1_170 sc tm tv pd sv ln1_170 old1_170 sz1_170 zq_170)) := hD
          refine lv_aload_n hx hb dL_law_173 rfl (lv_at hl 1 rfl) ?_
          refine xk_Vi (As := []) (rest := [.int r170]) hx hb hml hown hts hK hN hZ hP hD hS hA mb_X8_read mw_4_2 mw_4_3 mw_4_4 (c_X8_read2 l D cI cZ cS q8_2 h1 h2 h3 h4 h5 h6 h7 h8 sz ln gse gte gsp gtl z past pd tf tmm (by exact hlnn) (by exact hszz)) [0, 1, 3, 6, 7, 8] 0 8 rfl rfl (by decide) rfl (fun _ => by simp only [List.map]) (by decide) (by decide) rfl hl.1 rfl (Nat.le_of_ble_eq_true rfl) dL_law_174 ⟨Nat.le_of_ble_eq_true rfl, Nat.le_of_ble_eq_true rfl⟩ (fun r174 u174 H locs hw hP hD hS => ?_)
          obtain ⟨w174_0, w174_1, w174_2, w174_3, w174_4, w174_5, w174_6, w174_7⟩ := u174
          have hP : va_P D vwCl ([(q8_2, .inr (8, [.ref h1, .ref h2, .ref h3, .int w174_6, .ref h4, .ref h5, .ref h6, .int w174_7, .int gse, .int gte, .int w174_0, .ref h7, .ref h8, .int w174_1])), (h1, .inl (cI, 190, .inl w174_4)), (h2, .inl (cI, 190, .inl spare)), (h3, .inl (cI, 1140, .inl w174_5)), (h4, .inl (cI, 380, .inl slots)), (h5, .inl (cZ, 2, .inl sv)), (h6, .inl (cI, 60, .inl pd)), (h7, .inl (cI, 120, .inl w174_2)), (h8, .inl (cI, 10, .inl w174_3))] ++ (xwW cI cZ cS q0_1 xa xv ho0 ho1 pd0 pd1 m0 ts0 ts1 a ha sa cq_170 cs1_170 sc tm tv pd sv ln1_170 old1_170 sz1_170 zq_170)) H := hP
          have hD : va_D A ([(q8_2, .inr (8, [.ref h1, .ref h2, .ref h3, .int w174_6, .ref h4, .ref h5, .ref h6, .int w174_7, .int gse, .int gte, .int w174_0, .ref h7, .ref h8, .int w174_1])), (h1, .inl (cI, 190, .inl w174_4)), (h2, .inl (cI, 190, .inl spare)), (h3, .inl (cI, 1140, .inl w174_5)), (h4, .inl (cI, 380, .inl slots)), (h5, .inl (cZ, 2, .inl sv)), (h6, .inl (cI, 60, .inl pd)), (h7, .inl (cI, 120, .inl w174_2)), (h8, .inl (cI, 10, .inl w174_3))] ++ (xwW cI cZ cS q0_1 xa xv ho0 ho1 pd0 pd1 m0 ts0 ts1 a ha sa cq_170 cs1_170 sc tm tv pd sv ln1_170 old1_170 sz1_170 zq_170)) := hD
          have p174 : (¬ FN pd ln.toInt.toNat ∧ r174 = -3 ∧ w174_4 = z ∧ w174_5 = past ∧ w174_6 = sz ∧ w174_7 = ln) ∨ (FN pd ln.toInt.toNat ∧ ReadZ pd ln.toInt.toNat z w174_4 ∧ w174_4 6 = r174 ∧ w174_5 = recP z past sz ∧ w174_6 = recS sz ∧ w174_7 = 0) := hw
          obtain ⟨hrr, hLI2, hz2, hs2, hl2⟩ := LI_read hLI p170 p174
          rw [xwW_z (zq := zq_170) (z := w174_4) hz2, hs2, hl2] at hP hD
          rw [hs2, hl2] at hLI2
          have hP : va_P D vwCl ([(q8_2, .inr (8, [.ref h1, .ref h2, .ref h3, .int w174_6, .ref h4, .ref h5, .ref h6, .int w174_7, .int gse, .int gte, .int w174_0, .ref h7, .ref h8, .int w174_1])), (h1, .inl (cI, 190, .inl w174_4)), (h2, .inl (cI, 190, .inl spare)), (h3, .inl (cI, 1140, .inl w174_5)), (h4, .inl (cI, 380, .inl slots)), (h5, .inl (cZ, 2, .inl sv)), (h6, .inl (cI, 60, .inl pd)), (h7, .inl (cI, 120, .inl w174_2)), (h8, .inl (cI, 10, .inl w174_3))] ++ (xwW cI cZ cS q0_1 xa xv ho0 ho1 pd0 pd1 m0 ts0 ts1 a ha sa cq_170 cs1_170 sc tm tv pd sv w174_7 old1_170 w174_6 w174_4)) H := hP
          have hD : va_D A ([(q8_2, .inr (8, [.ref h1, .ref h2, .ref h3, .int w174_6, .ref h4, .ref h5, .ref h6, .int w174_7, .int gse, .int gte, .int w174_0, .ref h7, .ref h8, .int w174_1])), (h1, .inl (cI, 190, .inl w174_4)), (h2, .inl (cI, 190, .inl spare)), (h3, .inl (cI, 1140, .inl w174_5)), (h4, .inl (cI, 380, .inl slots)), (h5, .inl (cZ, 2, .inl sv)), (h6, .inl (cI, 60, .inl pd)), (h7, .inl (cI, 120, .inl w174_2)), (h8, .inl (cI, 10, .inl w174_3))] ++ (xwW cI cZ cS q0_1 xa xv ho0 ho1 pd0 pd1 m0 ts0 ts1 a ha sa cq_170 cs1_170 sc tm tv pd sv w174_7 old1_170 w174_6 w174_4)) := hD
          refine lv_icmp_eq (tgt := 688) hx hb dL_law_177 (by decide) (fun c177 => ?_) (fun c177 => ?_)
          · have t177 : r170.toInt = r174.toInt := xi_eq rfl rfl c177
            have d177 : r170 = r174 := c177
            obtain ⟨x688, e688⟩ : ∃ y : Int32, y = k + 4 := ⟨_, rfl⟩
            have t688 : x688.toInt = k.toInt + 4 := by rw [e688]; exact xi_add rfl (by decide) (by omega) (by omega)
            refine lv_iinc (v := x688) (lv' := [(3, .int x688), (2, .ref q8_2), (1, .ref q0_1), (0, .ref b)]) hx hb dL_law_688 hl (k := 0) rfl (by rw [e688]; rfl) (by decide) rfl (fun ls hl => ?_)
            refine lv_goto (tgt := 18) hx hb dL_law_691 (by decide) ?_
            have q18 : (([(q8_2, .inr (8, [.ref h1, .ref h2, .ref h3, .int w174_6, .ref h4, .ref h5, .ref h6, .int w174_7, .int gse, .int gte, .int w174_0, .ref h7, .ref h8, .int w174_1])), (h1, .inl (cI, 190, .inl w174_4)), (h2, .inl (cI, 190, .inl spare)), (h3, .inl (cI, 1140, .inl w174_5)), (h4, .inl (cI, 380, .inl slots)), (h5, .inl (cZ, 2, .inl sv)), (h6, .inl (cI, 60, .inl pd)), (h7, .inl (cI, 120, .inl w174_2)), (h8, .inl (cI, 10, .inl w174_3))] ++ (xwW cI cZ cS q0_1 xa xv ho0 ho1 pd0 pd1 m0 ts0 ts1 a ha sa cq_170 cs1_170 sc tm tv pd sv w174_7 old1_170 w174_6 w174_4)) : va_W) = ([(q8_2, .inr (8, [.ref h1, .ref h2, .ref h3, .int w174_6, .ref h4, .ref h5, .ref h6, .int w174_7, .int gse, .int gte, .int w174_0, .ref h7, .ref h8, .int w174_1])), (h1, .inl (cI, 190, .inl w174_4)), (h2, .inl (cI, 190, .inl spare)), (h3, .inl (cI, 1140, .inl w174_5)), (h4, .inl (cI, 380, .inl slots)), (h5, .inl (cZ, 2, .inl sv)), (h6, .inl (cI, 60, .inl pd)), (h7, .inl (cI, 120, .inl w174_2)), (h8, .inl (cI, 10, .inl w174_3))] ++ (xwW cI cZ cS q0_1 xs xv ho0 ho1 pd0 pd1 m0 ts0 ts1 a ha sa cq_170 cs1_170 sc tm tv pd sv w174_7 old1_170 w174_6 w174_4)) := by rfl
            exact ih18  x688 cq_170 cs1_170 sc tm tv pd sv w174_7 old1_170 w174_6 w174_4 spare w174_5 slots w174_2 w174_3 gse gte w174_0 w174_1 (by omega) (by exact LI_mono (by omega) hLI2) (by omega) _ _ (xk_P hP q18) (xk_D hD q18) hS ls (lv_sub hl [0, 1, 2, 3] rfl)
          · have t177 : ¬ r170.toInt = r174.toInt := xi_ne rfl rfl c177
            have d177 : ¬ r170 = r174 := c177
            exact absurd hrr c177
        · refine lv_tableIn (off := 150) (tgt := 182) hx hb dL_law_32 (by rw [t32]; decide) (by rw [t32]; decide) (by rw [t32]; rfl) (by decide) ?_
          refine lv_aload_n hx hb dL_law_182 rfl (lv_at hl 2 rfl) ?_
          refine lv_aload_n hx hb dL_law_183 rfl (lv_at hl 3 rfl) ?_
          refine lv_iload_n hx hb dL_law_184 rfl (lv_at hl 0 rfl) ?_
          refine lv_iconst (v := 1) hx hb dL_law_185 (by decide) ?_
          refine lv_iadd hx hb dL_law_186 ?_
          refine lv_topi (fun x186 e186 => ?_)
          have t186 : x186.toInt = k.toInt + 1 := by rw [e186]; exact xi_add rfl (by decide) (by omega) (by omega)
          refine va_sld hx hb hX hbl hbA hS (xi_in (by omega) (by omega)) dL_law_187 ?_
          refine xk_top (z := xs (k.toInt.toNat + 1)) (xk_rd (by omega)) ?_
          refine lv_aload_n hx hb dL_law_188 rfl (lv_at hl 3 rfl) ?_
          refine lv_iload_n hx hb dL_law_189 rfl (lv_at hl 0 rfl) ?_
          refine lv_iconst (v := 2) hx hb dL_law_190 (by decide) ?_
          refine lv_iadd hx hb dL_law_191 ?_
          refine lv_topi (fun x191 e191 => ?_)
          have t191 : x191.toInt = k.toInt + 2 := by rw [e191]; exact xi_add rfl (by decide) (by omega) (by omega)
          refine va_sld hx hb hX hbl hbA hS (xi_in (by omega) (by omega)) dL_law_192 ?_
          refine xk_top (z := xs (k.toInt.toNat + 2)) (xk_rd (by omega)) ?_
          refine lv_aload_n hx hb dL_law_193 rfl (lv_at hl 3 rfl) ?_
          refine lv_iload_n hx hb dL_law_194 rfl (lv_at hl 0 rfl) ?_
          refine lv_iconst (v := 3) hx hb dL_law_195 (by decide) ?_
          refine lv_iadd hx hb dL_law_196 ?_
          refine lv_topi (fun x196 e196 => ?_)
          have t196 : x196.toInt = k.toInt + 3 := by rw [e196]; exact xi_add rfl (by decide) (by omega) (by omega)
          refine va_sld hx hb hX hbl hbA hS (xi_in (by omega) (by omega)) dL_law_197 ?_
          refine xk_top (z := xs (k.toInt.toNat + 3)) (xk_rd (by omega)) ?_
          refine lv_if_eq (tgt := 205) hx hb dL_law_198 (by decide) (fun c198 => ?_) (fun c198 => ?_)
          · have t198 : (xs (k.toInt.toNat + 3)).toInt = 0 := xi_eq rfl (by decide) c198
            have d198 : (xs (k.toInt.toNat + 3)) = 0 := c198
            refine lv_iconst (v := 0) hx hb dL_law_205 (by decide) ?_
            refine xk_Vi (As := [.int (xs (k.toInt.toNat + 1)), .int (xs (k.toInt.toNat + 2)), .int 0]) (rest := []) hx hb hml hown hts hK hN hZ (xg_P hP List.perm_append_comm) (xg_D hD List.perm_append_comm) hS hA mb_X7_pave mw_2_93 mw_2_94 mw_2_95 (k_X7_pave l D cI cZ cS x0 xs xv ho0 ho1 pd0 pd1 m0 ts0 ts1 a ha sa cn cs sc tm tv pd sv ln old sz z (xs (k.toInt.toNat + 1)) (xs (k.toInt.toNat + 2)) (0 : Int32) hRS hI hold hszz (Or.inl rfl)) (List.range ((xwW cI cZ cS q0_1 xa xv ho0 ho1 pd0 pd1 m0 ts0 ts1 a ha sa cn cs sc tm tv pd sv ln old sz z) : va_W).length) 0 7 rfl rfl (xg_ndr _) (xg_range _ _) (fun _ => by exact xwW_f) (by decide) (by decide) rfl hl.1 rfl (Nat.le_of_ble_eq_true rfl) dL_law_206 ⟨Nat.zero_le _, Nat.zero_le _⟩ (fun r206 u206 H locs hw hP hD hS => ?_)
            obtain ⟨cq_206, zq_206, old1_206, sz1_206, cs1_206⟩ := u206
            have p206 : r206 = paveR z (xs (k.toInt.toNat + 1)) (xs (k.toInt.toNat + 2)) ∧ ((paveC z (xs (k.toInt.toNat + 1)) (xs (k.toInt.toNat + 2)) ∧ Chg cn z old sz cs (paveZ z (xs (k.toInt.toNat + 1)) (xs (k.toInt.toNat + 2)) (0 : Int32)) cq_206 zq_206 old1_206 sz1_206 cs1_206) ∨ (¬ paveC z (xs (k.toInt.toNat + 1)) (xs (k.toInt.toNat + 2)) ∧ Same cn z old sz cs cq_206 zq_206 old1_206 sz1_206 cs1_206)) := hw
            have hP : va_P D vwCl ((xwW cI cZ cS q0_1 xa xv ho0 ho1 pd0 pd1 m0 ts0 ts1 a ha sa cq_206 cs1_206 sc tm tv pd sv ln old1_206 sz1_206 zq_206) ++ [(q8_2, .inr (8, [.ref h1, .ref h2, .ref h3, .int sz, .ref h4, .ref h5, .ref h6, .int ln, .int gse, .int gte, .int gsp, .ref h7, .ref h8, .int gtl])), (h1, .inl (cI, 190, .inl z)), (h2, .inl (cI, 190, .inl spare)), (h3, .inl (cI, 1140, .inl past)), (h4, .inl (cI, 380, .inl slots)), (h5, .inl (cZ, 2, .inl sv)), (h6, .inl (cI, 60, .inl pd)), (h7, .inl (cI, 120, .inl tf)), (h8, .inl (cI, 10, .inl tmm))]) H := xk_P hP (xg_set (by exact xwW_f))
            have hD : va_D A ((xwW cI cZ cS q0_1 xa xv ho0 ho1 pd0 pd1 m0 ts0 ts1 a ha sa cq_206 cs1_206 sc tm tv pd sv ln old1_206 sz1_206 zq_206) ++ [(q8_2, .inr (8, [.ref h1, .ref h2, .ref h3, .int sz, .ref h4, .ref h5, .ref h6, .int ln, .int gse, .int gte, .int gsp, .ref h7, .ref h8, .int gtl])), (h1, .inl (cI, 190, .inl z)), (h2, .inl (cI, 190, .inl spare)), (h3, .inl (cI, 1140, .inl past)), (h4, .inl (cI, 380, .inl slots)), (h5, .inl (cZ, 2, .inl sv)), (h6, .inl (cI, 60, .inl pd)), (h7, .inl (cI, 120, .inl tf)), (h8, .inl (cI, 10, .inl tmm))]) := xk_D hD (xg_set (by exact xwW_f))
            have hP := xg_P hP List.perm_append_comm
            have hD := xg_D hD List.perm_append_comm
            have hP : va_P D vwCl ([(q8_2, .inr (8, [.ref h1, .ref h2, .ref h3, .int sz, .ref h4, .ref h5, .ref h6, .int ln, .int gse, .int gte, .int gsp, .ref h7, .ref h8, .int gtl])), (h1, .inl (cI, 190, .inl z)), (h2, .inl (cI, 190, .inl spare)), (h3, .inl (cI, 1140, .inl past)), (h4, .inl (cI, 380, .inl slots)), (h5, .inl (cZ, 2, .inl sv)), (h6, .inl (cI, 60, .inl pd)), (h7, .inl (cI, 120, .inl tf)), (h8, .inl (cI, 10, .inl tmm))] ++ (xwW cI cZ cS q0_1 xa xv ho0 ho1 pd0 pd1 m0 ts0 ts1 a ha sa cq_206 cs1_206 sc tm tv pd sv ln old1_206 sz1_206 zq_206)) H := hP
            have hD : va_D A ([(q8_2, .inr (8, [.ref h1, .ref h2, .ref h3, .int sz, .ref h4, .ref h5, .ref h6, .int ln, .int gse, .int gte, .int gsp, .ref h7, .ref h8, .int gtl])), (h1, .inl (cI, 190, .inl z)), (h2, .inl (cI, 190, .inl spare)), (h3, .inl (cI, 1140, .inl past)), (h4, .inl (cI, 380, .inl slots)), (h5, .inl (cZ, 2, .inl sv)), (h6, .inl (cI, 60, .inl pd)), (h7, .inl (cI, 120, .inl tf)), (h8, .inl (cI, 10, .inl tmm))] ++ (xwW cI cZ cS q0_1 xa xv ho0 ho1 pd0 pd1 m0 ts0 ts1 a ha sa cq_206 cs1_206 sc tm tv pd sv ln old1_206 sz1_206 zq_206)) := hD
            refine lv_aload_n hx hb dL_law_209 rfl (lv_at hl 1 rfl) ?_
            refine lv_aload_n hx hb dL_law_210 rfl (lv_at hl 3 rfl) ?_
            refine lv_iload_n hx hb dL_law_211 rfl (lv_at hl 0 rfl) ?_
            refine lv_iconst (v := 1) hx hb dL_law_212 (by decide) ?_
            refine lv_iadd hx hb dL_law_213 ?_
            refine lv_topi (fun x213 e213 => ?_)
            have t213 : x213.toInt = k.toInt + 1 := by rw [e213]; exact xi_add rfl (by decide) (by omega) (by omega)
            refine va_sld hx hb hX hbl hbA hS (xi_in (by omega) (by omega)) dL_law_214 ?_
            refine xk_top (z := xs (k.toInt.toNat + 1)) (xk_rd (by omega)) ?_
            refine lv_aload_n hx hb dL_law_215 rfl (lv_at hl 3 rfl) ?_
            refine lv_iload_n hx hb dL_law_216 rfl (lv_at hl 0 rfl) ?_
            refine lv_iconst (v := 2) hx hb dL_law_217 (by decide) ?_
            refine lv_iadd hx hb dL_law_218 ?_
            refine lv_topi (fun x218 e218 => ?_)
            have t218 : x218.toInt = k.toInt + 2 := by rw [e218]; exact xi_add rfl (by decide) (by omega) (by omega)
            refine va_sld hx hb hX hbl hbA hS (xi_in (by omega) (by omega)) dL_law_219 ?_
            refine xk_top (z := xs (k.toInt.toNat + 2)) (xk_rd (by omega)) ?_
            refine lv_aload_n hx hb dL_law_220 rfl (lv_at hl 3 rfl) ?_
            refine lv_iload_n hx hb dL_law_221 rfl (lv_at hl 0 rfl) ?_
            refine lv_iconst (v := 3) hx hb dL_law_222 (by decide) ?_
            refine lv_iadd hx hb dL_law_223 ?_
            refine lv_topi (fun x223 e223 => ?_)
            have t223 : x223.toInt = k.toInt + 3 := by rw [e223]; exact xi_add rfl (by decide) (by omega) (by omega)
            refine va_sld hx hb hX hbl hbA hS (xi_in (by omega) (by omega)) dL_law_224 ?_
            refine xk_top (z := xs (k.toInt.toNat + 3)) (xk_rd (by omega)) ?_
            refine lv_if_eq (tgt := 232) hx hb dL_law_225 (by decide) (fun _ => ?_) (fun c225 => absurd d198 c225)
            refine lv_iconst (v := 0) hx hb dL_law_232 (by decide) ?_
            refine xk_Vi (As := [.int (xs (k.toInt.toNat + 1)), .int (xs (k.toInt.toNat + 2)), .int 0]) (rest := [.int r206]) hx hb hml hown hts hK hN hZ hP hD hS hA mb_X8_pave mw_3_201 mw_3_202 mw_3_203 (c_X8_pave l D cI cZ cS q8_2 h1 h2 h3 h4 h5 h6 h7 h8 sz ln gse gte gsp gtl z past (xs (k.toInt.toNat + 1)) (xs (k.toInt.toNat + 2)) (0 : Int32) (by exact hszz) (by exact hI.2.2.1.1) (by first | exact Or.inl rfl | exact Or.inr rfl)) [0, 1, 3] 0 8 rfl rfl (by decide) rfl (fun _ => by simp only [List.map]) (by decide) (by decide) rfl hl.1 rfl (Nat.le_of_ble_eq_true rfl) dL_law_233 ⟨Nat.le_of_ble_eq_true rfl, Nat.le_of_ble_eq_true rfl⟩ (fun r233 _ H locs hw hP hD hS => ?_)
            have hP : va_P D vwCl ([(q8_2, .inr (8, [.ref h1, .ref h2, .ref h3, .int (if paveC z (xs (k.toInt.toNat + 1)) (xs (k.toInt.toNat + 2)) then recS sz else sz), .ref h4, .ref h5, .ref h6, .int ln, .int gse, .int gte, .int gsp, .ref h7, .ref h8, .int gtl])), (h1, .inl (cI, 190, .inl (if paveC z (xs (k.toInt.toNat + 1)) (xs (k.toInt.toNat + 2)) then paveZ z (xs (k.toInt.toNat + 1)) (xs (k.toInt.toNat + 2)) (0 : Int32) else z))), (h2, .inl (cI, 190, .inl spare)), (h3, .inl (cI, 1140, .inl (if paveC z (xs (k.toInt.toNat + 1)) (xs (k.toInt.toNat + 2)) then recP z past sz else past))), (h4, .inl (cI, 380, .inl slots)), (h5, .inl (cZ, 2, .inl sv)), (h6, .inl (cI, 60, .inl pd)), (h7, .inl (cI, 120, .inl tf)), (h8, .inl (cI, 10, .inl tmm))] ++ (xwW cI cZ cS q0_1 xa xv ho0 ho1 pd0 pd1 m0 ts0 ts1 a ha sa cq_206 cs1_206 sc tm tv pd sv ln old1_206 sz1_206 zq_206)) H := hP
            have hD : va_D A ([(q8_2, .inr (8, [.ref h1, .ref h2, .ref h3, .int (if paveC z (xs (k.toInt.toNat + 1)) (xs (k.toInt.toNat + 2)) then recS sz else sz), .ref h4, .ref h5, .ref h6, .int ln, .int gse, .int gte, .int gsp, .ref h7, .ref h8, .int gtl])), (h1, .inl (cI, 190, .inl (if paveC z (xs (k.toInt.toNat + 1)) (xs (k.toInt.toNat + 2)) then paveZ z (xs (k.toInt.toNat + 1)) (xs (k.toInt.toNat + 2)) (0 : Int32) else z))), (h2, .inl (cI, 190, .inl spare)), (h3, .inl (cI, 1140, .inl (if paveC z (xs (k.toInt.toNat + 1)) (xs (k.toInt.toNat + 2)) then recP z past sz else past))), (h4, .inl (cI, 380, .inl slots)), (h5, .inl (cZ, 2, .inl sv)), (h6, .inl (cI, 60, .inl pd)), (h7, .inl (cI, 120, .inl tf)), (h8, .inl (cI, 10, .inl tmm))] ++ (xwW cI cZ cS q0_1 xa xv ho0 ho1 pd0 pd1 m0 ts0 ts1 a ha sa cq_206 cs1_206 sc tm tv pd sv ln old1_206 sz1_206 zq_206)) := hD
            have e233 : r233 = paveR z (xs (k.toInt.toNat + 1)) (xs (k.toInt.toNat + 2)) := hw
            obtain ⟨hrr, hLI2, hz2, hs2⟩ := step_pave hLI (Or.inl rfl) p206 e233
            rw [hz2, hs2] at hP hD
            have hP : va_P D vwCl ([(q8_2, .inr (8, [.ref h1, .ref h2, .ref h3, .int (if paveC z (xs (k.toInt.toNat + 1)) (xs (k.toInt.toNat + 2)) then recS sz else sz), .ref h4, .ref h5, .ref h6, .int ln, .int gse, .int gte, .int gsp, .ref h7, .ref h8, .int gtl])), (h1, .inl (cI, 190, .inl (if paveC z (xs (k.toInt.toNat + 1)) (xs (k.toInt.toNat + 2)) then paveZ z (xs (k.toInt.toNat + 1)) (xs (k.toInt.toNat + 2)) (0 : Int32) else z))), (h2, .inl (cI, 190, .inl spare)), (h3, .inl (cI, 1140, .inl (if paveC z (xs (k.toInt.toNat + 1)) (xs (k.toInt.toNat + 2)) then recP z past sz else past))), (h4, .inl (cI, 380, .inl slots)), (h5, .inl (cZ, 2, .inl sv)), (h6, .inl (cI, 60, .inl pd)), (h7, .inl (cI, 120, .inl tf)), (h8, .inl (cI, 10, .inl tmm))] ++ (xwW cI cZ cS q0_1 xa xv ho0 ho1 pd0 pd1 m0 ts0 ts1 a ha sa cq_206 cs1_206 sc tm tv pd sv ln old1_206 (if paveC z (xs (k.toInt.toNat + 1)) (xs (k.toInt.toNat + 2)) then recS sz else sz) (if paveC z (xs (k.toInt.toNat + 1)) (xs (k.toInt.toNat + 2)) then paveZ z (xs (k.toInt.toNat + 1)) (xs (k.toInt.toNat + 2)) (0 : Int32) else z))) H := hP
            have hD : va_D A ([(q8_2, .inr (8, [.ref h1, .ref h2, .ref h3, .int (if paveC z (xs (k.toInt.toNat + 1)) (xs (k.toInt.toNat + 2)) then recS sz else sz), .ref h4, .ref h5, .ref h6, .int ln, .int gse, .int gte, .int gsp, .ref h7, .ref h8, .int gtl])), (h1, .inl (cI, 190, .inl (if paveC z (xs (k.toInt.toNat + 1)) (xs (k.toInt.toNat + 2)) then paveZ z (xs (k.toInt.toNat + 1)) (xs (k.toInt.toNat + 2)) (0 : Int32) else z))), (h2, .inl (cI, 190, .inl spare)), (h3, .inl (cI, 1140, .inl (if paveC z (xs (k.toInt.toNat + 1)) (xs (k.toInt.toNat + 2)) then recP z past sz else past))), (h4, .inl (cI, 380, .inl slots)), (h5, .inl (cZ, 2, .inl sv)), (h6, .inl (cI, 60, .inl pd)), (h7, .inl (cI, 120, .inl tf)), (h8, .inl (cI, 10, .inl tmm))] ++ (xwW cI cZ cS q0_1 xa xv ho0 ho1 pd0 pd1 m0 ts0 ts1 a ha sa cq_206 cs1_206 sc tm tv pd sv ln old1_206 (if paveC z (xs (k.toInt.toNat + 1)) (xs (k.toInt.toNat + 2)) then recS sz else sz) (if paveC z (xs (k.toInt.toNat + 1)) (xs (k.toInt.toNat + 2)) then paveZ z (xs (k.toInt.toNat + 1)) (xs (k.toInt.toNat + 2)) (0 : Int32) else z))) := hD
            refine lv_icmp_eq (tgt := 688) hx hb dL_law_236 (by decide) (fun c236 => ?_) (fun c236 => ?_)
            · have t236 : r206.toInt = r233.toInt := xi_eq rfl rfl c236
              have d236 : r206 = r233 := c236
              obtain ⟨x688, e688⟩ : ∃ y : Int32, y = k + 4 := ⟨_, rfl⟩
              have t688 : x688.toInt = k.toInt + 4 := by rw [e688]; exact xi_add rfl (by decide) (by omega) (by omega)
              refine lv_iinc (v := x688) (lv' := [(3, .int x688), (2, .ref q8_2), (1, .ref q0_1), (0, .ref b)]) hx hb dL_law_688 hl (k := 0) rfl (by rw [e688]; rfl) (by decide) rfl (fun ls hl => ?_)
              refine lv_goto (tgt := 18) hx hb dL_law_691 (by decide) ?_
              have q18 : (([(q8_2, .inr (8, [.ref h1, .ref h2, .ref h3, .int (if paveC z (xs (k.toInt.toNat + 1)) (xs (k.toInt.toNat + 2)) then recS sz else sz), .ref h4, .ref h5, .ref h6, .int ln, .int gse, .int gte, .int gsp, .ref h7, .ref h8, .int gtl])), (h1, .inl (cI, 190, .inl (if paveC z (xs (k.toInt.toNat + 1)) (xs (k.toInt.toNat + 2)) then paveZ z (xs (k.toInt.toNat + 1)) (xs (k.toInt.toNat + 2)) (0 : Int32) else z))), (h2, .inl (cI, 190, .inl spare)), (h3, .inl (cI, 1140, .inl (if paveC z (xs (k.toInt.toNat + 1)) (xs (k.toInt.toNat + 2)) then recP z past sz else past))), (h4, .inl (cI, 380, .inl slots)), (h5, .inl (cZ, 2, .inl sv)), (h6, .inl (cI, 60, .inl pd)), (h7, .inl (cI, 120, .inl tf)), (h8, .inl (cI, 10, .inl tmm))] ++ (xwW cI cZ cS q0_1 xa xv ho0 ho1 pd0 pd1 m0 ts0 ts1 a ha sa cq_206 cs1_206 sc tm tv pd sv ln old1_206 (if paveC z (xs (k.toInt.toNat + 1)) (xs (k.toInt.toNat + 2)) then recS sz else sz) (if paveC z (xs (k.toInt.toNat + 1)) (xs (k.toInt.toNat + 2)) then paveZ z (xs (k.toInt.toNat + 1)) (xs (k.toInt.toNat + 2)) (0 : Int32) else z))) : va_W) = ([(q8_2, .inr (8, [.ref h1, .ref h2, .ref h3, .int (if paveC z (xs (k.toInt.toNat + 1)) (xs (k.toInt.toNat + 2)) then recS sz else sz), .ref h4, .ref h5, .ref h6, .int ln, .int gse, .int gte, .int gsp, .ref h7, .ref h8, .int gtl])), (h1, .inl (cI, 190, .inl (if paveC z (xs (k.toInt.toNat + 1)) (xs (k.toInt.toNat + 2)) then paveZ z (xs (k.toInt.toNat + 1)) (xs (k.toInt.toNat + 2)) (0 : Int32) else z))), (h2, .inl (cI, 190, .inl spare)), (h3, .inl (cI, 1140, .inl (if paveC z (xs (k.toInt.toNat + 1)) (xs (k.toInt.toNat + 2)) then recP z past sz else past))), (h4, .inl (cI, 380, .inl slots)), (h5, .inl (cZ, 2, .inl sv)), (h6, .inl (cI, 60, .inl pd)), (h7, .inl (cI, 120, .inl tf)), (h8, .inl (cI, 10, .inl tmm))] ++ (xwW cI cZ cS q0_1 xs xv ho0 ho1 pd0 pd1 m0 ts0 ts1 a ha sa cq_206 cs1_206 sc tm tv pd sv ln old1_206 (if paveC z (xs (k.toInt.toNat + 1)) (xs (k.toInt.toNat + 2)) then recS sz else sz) (if paveC z (xs (k.toInt.toNat + 1)) (xs (k.toInt.toNat + 2)) then paveZ z (xs (k.toInt.toNat + 1)) (xs (k.toInt.toNat + 2)) (0 : Int32) else z))) := by rfl
              exact ih18  x688 cq_206 cs1_206 sc tm tv pd sv ln old1_206 (if paveC z (xs (k.toInt.toNat + 1)) (xs (k.toInt.toNat + 2)) then recS sz else sz) (if paveC z (xs (k.toInt.toNat + 1)) (xs (k.toInt.toNat + 2)) then paveZ z (xs (k.toInt.toNat + 1)) (xs (k.toInt.toNat + 2)) (0 : Int32) else z) spare (if paveC z (xs (k.toInt.toNat + 1)) (xs (k.toInt.toNat + 2)) then recP z past sz else past) slots tf tmm gse gte gsp gtl (by omega) (by exact LI_mono (by omega) hLI2) (by omega) _ _ (xk_P hP q18) (xk_D hD q18) hS ls (lv_sub hl [0, 1, 2, 3] rfl)
            · have t236 : ¬ r206.toInt = r233.toInt := xi_ne rfl rfl c236
              have d236 : ¬ r206 = r233 := c236
              exact absurd hrr c236
          · have t198 : ¬ (xs (k.toInt.toNat + 3)).toInt = 0 := xi_ne rfl (by decide) c198
            have d198 : ¬ (xs (k.toInt.toNat + 3)) = 0 := c198
            refine lv_iconst (v := 1) hx hb dL_law_201 (by decide) ?_
            refine lv_goto (tgt := 206) hx hb dL_law_202 (by decide) ?_
            refine xk_Vi (As := [.int (xs (k.toInt.toNat + 1)), .int (xs (k.toInt.toNat + 2)), .int 1]) (rest := []) hx hb hml hown hts hK hN hZ (xg_P hP List.perm_append_comm) (xg_D hD List.perm_append_comm) hS hA mb_X7_pave mw_2_93 mw_2_94 mw_2_95 (k_X7_pave l D cI cZ cS x0 xs xv ho0 ho1 pd0 pd1 m0 ts0 ts1 a ha sa cn cs sc tm tv pd sv ln old sz z (xs (k.toInt.toNat + 1)) (xs (k.toInt.toNat + 2)) (1 : Int32) hRS hI hold hszz (Or.inr rfl)) (List.range ((xwW cI cZ cS q0_1 xa xv ho0 ho1 pd0 pd1 m0 ts0 ts1 a ha sa cn cs sc tm tv pd sv ln old sz z) : va_W).length) 0 7 rfl rfl (xg_ndr _) (xg_range _ _) (fun _ => by exact xwW_f) (by decide) (by decide) rfl hl.1 rfl (Nat.le_of_ble_eq_true rfl) dL_law_206 ⟨Nat.zero_le _, Nat.zero_le _⟩ (fun r206 u206 H locs hw hP hD hS => ?_)
            obtain ⟨cq_206, zq_206, old1_206, sz1_206, cs1_206⟩ := u206
            have p206 : r206 = paveR z (xs (k.toInt.toNat + 1)) (xs (k.toInt.toNat + 2)) ∧ ((paveC z (xs (k.toInt.toNat + 1)) (xs (k.toInt.toNat + 2)) ∧ Chg cn z old sz cs (paveZ z (xs (k.toInt.toNat + 1)) (xs (k.toInt.toNat + 2)) (1 : Int32)) cq_206 zq_206 old1_206 sz1_206 cs1_206) ∨ (¬ paveC z (xs (k.toInt.toNat + 1)) (xs (k.toInt.toNat + 2)) ∧ Same cn z old sz cs cq_206 zq_206 old1_206 sz1_206 cs1_206)) := hw
            have hP : va_P D vwCl ((xwW cI cZ cS q0_1 xa xv ho0 ho1 pd0 pd1 m0 ts0 ts1 a ha sa cq_206 cs1_206 sc tm tv pd sv ln old1_206 sz1_206 zq_206) ++ [(q8_2, .inr (8, [.ref h1, .ref h2, .ref h3, .int sz, .ref h4, .ref h5, .ref h6, .int ln, .int gse, .int gte, .int gsp, .ref h7, .ref h8, .int gtl])), (h1, .inl (cI, 190, .inl z)), (h2, .inl (cI, 190, .inl spare)), (h3, .inl (cI, 1140, .inl past)), (h4, .inl (cI, 380, .inl slots)), (h5, .inl (cZ, 2, .inl sv)), (h6, .inl (cI, 60, .inl pd)), (h7, .inl (cI, 120, .inl tf)), (h8, .inl (cI, 10, .inl tmm))]) H := xk_P hP (xg_set (by exact xwW_f))
            have hD : va_D A ((xwW cI cZ cS q0_1 xa xv ho0 ho1 pd0 pd1 m0 ts0 ts1 a ha sa cq_206 cs1_206 sc tm tv pd sv ln old1_206 sz1_206 zq_206) ++ [(q8_2, .inr (8, [.ref h1, .ref h2, .ref h3, .int sz, .ref h4, .ref h5, .ref h6, .int ln, .int gse, .int gte, .int gsp, .ref h7, .ref h8, .int gtl])), (h1, .inl (cI, 190, .inl z)), (h2, .inl (cI, 190, .inl spare)), (h3, .inl (cI, 1140, .inl past)), (h4, .inl (cI, 380, .inl slots)), (h5, .inl (cZ, 2, .inl sv)), (h6, .inl (cI, 60, .inl pd)), (h7, .inl (cI, 120, .inl tf)), (h8, .inl (cI, 10, .inl tmm))]) := xk_D hD (xg_set (by exact xwW_f))
            have hP := xg_P hP List.perm_append_comm
            have hD := xg_D hD List.perm_append_comm
            have hP : va_P D vwCl ([(q8_2, .inr (8, [.ref h1, .ref h2, .ref h3, .int sz, .ref h4, .ref h5, .ref h6, .int ln, .int gse, .int gte, .int gsp, .ref h7, .ref h8, .int gtl])), (h1, .inl (cI, 190, .inl z)), (h2, .inl (cI, 190, .inl spare)), (h3, .inl (cI, 1140, .inl past)), (h4, .inl (cI, 380, .inl slots)), (h5, .inl (cZ, 2, .inl sv)), (h6, .inl (cI, 60, .inl pd)), (h7, .inl (cI, 120, .inl tf)), (h8, .inl (cI, 10, .inl tmm))] ++ (xwW cI cZ cS q0_1 xa xv ho0 ho1 pd0 pd1 m0 ts0 ts1 a ha sa cq_206 cs1_206 sc tm tv pd sv ln old1_206 sz1_206 zq_206)) H := hP
            have hD : va_D A ([(q8_2, .inr (8, [.ref h1, .ref h2, .ref h3, .int sz, .ref h4, .ref h5, .ref h6, .int ln, .int gse, .int gte, .int gsp, .ref h7, .ref h8, .int gtl])), (h1, .inl (cI, 190, .inl z)), (h2, .inl (cI, 190, .inl spare)), (h3, .inl (cI, 1140, .inl past)), (h4, .inl (cI, 380, .inl slots)), (h5, .inl (cZ, 2, .inl sv)), (h6, .inl (cI, 60, .inl pd)), (h7, .inl (cI, 120, .inl tf)), (h8, .inl (cI, 10, .inl tmm))] ++ (xwW cI cZ cS q0_1 xa xv ho0 ho1 pd0 pd1 m0 ts0 ts1 a ha sa cq_206 cs1_206 sc tm tv pd sv ln old1_206 sz1_206 zq_206)) := hD
            refine lv_aload_n hx hb dL_law_209 rfl (lv_at hl 1 rfl) ?_
            refine lv_aload_n hx hb dL_law_210 rfl (lv_at hl 3 rfl) ?_
            refine lv_iload_n hx hb dL_law_211 rfl (lv_at hl 0 rfl) ?_
            refine lv_iconst (v := 1) hx hb dL_law_212 (by decide) ?_
            refine lv_iadd hx hb dL_law_213 ?_
            refine lv_topi (fun x213 e213 => ?_)
            have t213 : x213.toInt = k.toInt + 1 := by rw [e213]; exact xi_add rfl (by decide) (by omega) (by omega)
            refine va_sld hx hb hX hbl hbA hS (xi_in (by omega) (by omega)) dL_law_214 ?_
            refine xk_top (z := xs (k.toInt.toNat + 1)) (xk_rd (by omega)) ?_
            refine lv_aload_n hx hb dL_law_215 rfl (lv_at hl 3 rfl) ?_
            refine lv_iload_n hx hb dL_law_216 rfl (lv_at hl 0 rfl) ?_
            refine lv_iconst (v := 2) hx hb dL_law_217 (by decide) ?_
            refine lv_iadd hx hb dL_law_218 ?_
            refine lv_topi (fun x218 e218 => ?_)
            have t218 : x218.toInt = k.toInt + 2 := by rw [e218]; exact xi_add rfl (by decide) (by omega) (by omega)
            refine va_sld hx hb hX hbl hbA hS (xi_in (by omega) (by omega)) dL_law_219 ?_
            refine xk_top (z := xs (k.toInt.toNat + 2)) (xk_rd (by omega)) ?_
            refine lv_aload_n hx hb dL_law_220 rfl (lv_at hl 3 rfl) ?_
            refine lv_iload_n hx hb dL_law_221 rfl (lv_at hl 0 rfl) ?_
            refine lv_iconst (v := 3) hx hb dL_law_222 (by decide) ?_
            refine lv_iadd hx hb dL_law_223 ?_
            refine lv_topi (fun x223 e223 => ?_)
            have t223 : x223.toInt = k.toInt + 3 := by rw [e223]; exact xi_add rfl (by decide) (by omega) (by omega)
            refine va_sld hx hb hX hbl hbA hS (xi_in (by omega) (by omega)) dL_law_224 ?_
            refine xk_top (z := xs (k.toInt.toNat + 3)) (xk_rd (by omega)) ?_
            refine lv_if_eq (tgt := 232) hx hb dL_law_225 (by decide) (fun c225 => absurd c225 d198) (fun _ => ?_)
            refine lv_iconst (v := 1) hx hb dL_law_228 (by decide) ?_
            refine lv_goto (tgt := 233) hx hb dL_law_229 (by decide) ?_
            refine xk_Vi (As := [.int (xs (k.toInt.toNat + 1)), .int (xs (k.toInt.toNat + 2)), .int 1]) (rest := [.int r206]) hx hb hml hown hts hK hN hZ hP hD hS hA mb_X8_pave mw_3_201 mw_3_202 mw_3_203 (c_X8_pave l D cI cZ cS q8_2 h1 h2 h3 h4 h5 h6 h7 h8 sz ln gse gte gsp gtl z past (xs (k.toInt.toNat + 1)) (xs (k.toInt.toNat + 2)) (1 : Int32) (by exact hszz) (by exact hI.2.2.1.1) (by first | exact Or.inl rfl | exact Or.inr rfl)) [0, 1, 3] 0 8 rfl rfl (by decide) rfl (fun _ => by simp only [List.map]) (by decide) (by decide) rfl hl.1 rfl (Nat.le_of_ble_eq_true rfl) dL_law_233 ⟨Nat.le_of_ble_eq_true rfl, Nat.le_of_ble_eq_true rfl⟩ (fun r233 _ H locs hw hP hD hS => ?_)
            have hP : va_P D vwCl ([(q8_2, .inr (8, [.ref h1, .ref h2, .ref h3, .int (if paveC z (xs (k.toInt.toNat + 1)) (xs (k.toInt.toNat + 2)) then recS sz else sz), .ref h4, .ref h5, .ref h6, .int ln, .int gse, .int gte, .int gsp, .ref h7, .ref h8, .int gtl])), (h1, .inl (cI, 190, .inl (if paveC z (xs (k.toInt.toNat + 1)) (xs (k.toInt.toNat + 2)) then paveZ z (xs (k.toInt.toNat + 1)) (xs (k.toInt.toNat + 2)) (1 : Int32) else z))), (h2, .inl (cI, 190, .inl spare)), (h3, .inl (cI, 1140, .inl (if paveC z (xs (k.toInt.toNat + 1)) (xs (k.toInt.toNat + 2)) then recP z past sz else past))), (h4, .inl (cI, 380, .inl slots)), (h5, .inl (cZ, 2, .inl sv)), (h6, .inl (cI, 60, .inl pd)), (h7, .inl (cI, 120, .inl tf)), (h8, .inl (cI, 10, .inl tmm))] ++ (xwW cI cZ cS q0_1 xa xv ho0 ho1 pd0 pd1 m0 ts0 ts1 a ha sa cq_206 cs1_206 sc tm tv pd sv ln old1_206 sz1_206 zq_206)) H := hP
            have hD : va_D A ([(q8_2, .inr (8, [.ref h1, .ref h2, .ref h3, .int (if paveC z (xs (k.toInt.toNat + 1)) (xs (k.toInt.toNat + 2)) then recS sz else sz), .ref h4, .ref h5, .ref h6, .int ln, .int gse, .int gte, .int gsp, .ref h7, .ref h8, .int gtl])), (h1, .inl (cI, 190, .inl (if paveC z (xs (k.toInt.toNat + 1)) (xs (k.toInt.toNat + 2)) then paveZ z (xs (k.toInt.toNat + 1)) (xs (k.toInt.toNat + 2)) (1 : Int32) else z))), (h2, .inl (cI, 190, .inl spare)), (h3, .inl (cI, 1140, .inl (if paveC z (xs (k.toInt.toNat + 1)) (xs (k.toInt.toNat + 2)) then recP z past sz else past))), (h4, .inl (cI, 380, .inl slots)), (h5, .inl (cZ, 2, .inl sv)), (h6, .inl (cI, 60, .inl pd)), (h7, .inl (cI, 120, .inl tf)), (h8, .inl (cI, 10, .inl tmm))] ++ (xwW cI cZ cS q0_1 xa xv ho0 ho1 pd0 pd1 m0 ts0 ts1 a ha sa cq_206 cs1_206 sc tm tv pd sv ln old1_206 sz1_206 zq_206)) := hD
            have e233 : r233 = paveR z (xs (k.toInt.toNat + 1)) (xs (k.toInt.toNat + 2)) := hw
            obtain ⟨hrr, hLI2, hz2, hs2⟩ := step_pave hLI (Or.inr rfl) p206 e233
            rw [hz2, hs2] at hP hD
            have hP : va_P D vwCl ([(q8_2, .inr (8, [.ref h1, .ref h2, .ref h3, .int (if paveC z (xs (k.toInt.toNat + 1)) (xs (k.toInt.toNat + 2)) then recS sz else sz), .ref h4, .ref h5, .ref h6, .int ln, .int gse, .int gte, .int gsp, .ref h7, .ref h8, .int gtl])), (h1, .inl (cI, 190, .inl (if paveC z (xs (k.toInt.toNat + 1)) (xs (k.toInt.toNat + 2)) then paveZ z (xs (k.toInt.toNat + 1)) (xs (k.toInt.toNat + 2)) (1 : Int32) else z))), (h2, .inl (cI, 190, .inl spare)), (h3, .inl (cI, 1140, .inl (if paveC z (xs (k.toInt.toNat + 1)) (xs (k.toInt.toNat + 2)) then recP z past sz else past))), (h4, .inl (cI, 380, .inl slots)), (h5, .inl (cZ, 2, .inl sv)), (h6, .inl (cI, 60, .inl pd)), (h7, .inl (cI, 120, .inl tf)), (h8, .inl (cI, 10, .inl tmm))] ++ (xwW cI cZ cS q0_1 xa xv ho0 ho1 pd0 pd1 m0 ts0 ts1 a ha sa cq_206 cs1_206 sc tm tv pd sv ln old1_206 (if paveC z (xs (k.toInt.toNat + 1)) (xs (k.toInt.toNat + 2)) then recS sz else sz) (if paveC z (xs (k.toInt.toNat + 1)) (xs (k.toInt.toNat + 2)) then paveZ z (xs (k.toInt.toNat + 1)) (xs (k.toInt.toNat + 2)) (1 : Int32) else z))) H := hP
            have hD : va_D A ([(q8_2, .inr (8, [.ref h1, .ref h2, .ref h3, .int (if paveC z (xs (k.toInt.toNat + 1)) (xs (k.toInt.toNat + 2)) then recS sz else sz), .ref h4, .ref h5, .ref h6, .int ln, .int gse, .int gte, .int gsp, .ref h7, .ref h8, .int gtl])), (h1, .inl (cI, 190, .inl (if paveC z (xs (k.toInt.toNat + 1)) (xs (k.toInt.toNat + 2)) then paveZ z (xs (k.toInt.toNat + 1)) (xs (k.toInt.toNat + 2)) (1 : Int32) else z))), (h2, .inl (cI, 190, .inl spare)), (h3, .inl (cI, 1140, .inl (if paveC z (xs (k.toInt.toNat + 1)) (xs (k.toInt.toNat + 2)) then recP z past sz else past))), (h4, .inl (cI, 380, .inl slots)), (h5, .inl (cZ, 2, .inl sv)), (h6, .inl (cI, 60, .inl pd)), (h7, .inl (cI, 120, .inl tf)), (h8, .inl (cI, 10, .inl tmm))] ++ (xwW cI cZ cS q0_1 xa xv ho0 ho1 pd0 pd1 m0 ts0 ts1 a ha sa cq_206 cs1_206 sc tm tv pd sv ln old1_206 (if paveC z (xs (k.toInt.toNat + 1)) (xs (k.toInt.toNat + 2)) then recS sz else sz) (if paveC z (xs (k.toInt.toNat + 1)) (xs (k.toInt.toNat + 2)) then paveZ z (xs (k.toInt.toNat + 1)) (xs (k.toInt.toNat + 2)) (1 : Int32) else z))) := hD
            refine lv_icmp_eq (tgt := 688) hx hb dL_law_236 (by decide) (fun c236 => ?_) (fun c236 => ?_)
            · have t236 : r206.toInt = r233.toInt := xi_eq rfl rfl c236
              have d236 : r206 = r233 := c236
              obtain ⟨x688, e688⟩ : ∃ y : Int32, y = k + 4 := ⟨_, rfl⟩
              have t688 : x688.toInt = k.toInt + 4 := by rw [e688]; exact xi_add rfl (by decide) (by omega) (by omega)
              refine lv_iinc (v := x688) (lv' := [(3, .int x688), (2, .ref q8_2), (1, .ref q0_1), (0, .ref b)]) hx hb dL_law_688 hl (k := 0) rfl (by rw [e688]; rfl) (by decide) rfl (fun ls hl => ?_)
              refine lv_goto (tgt := 18) hx hb dL_law_691 (by decide) ?_
              have q18 : (([(q8_2, .inr (8, [.ref h1, .ref h2, .ref h3, .int (if paveC z (xs (k.toInt.toNat + 1)) (xs (k.toInt.toNat + 2)) then recS sz else sz), .ref h4, .ref h5, .ref h6, .int ln, .int gse, .int gte, .int gsp, .ref h7, .ref h8, .int gtl])), (h1, .inl (cI, 190, .inl (if paveC z (xs (k.toInt.toNat + 1)) (xs (k.toInt.toNat + 2)) then paveZ z (xs (k.toInt.toNat + 1)) (xs (k.toInt.toNat + 2)) (1 : Int32) else z))), (h2, .inl (cI, 190, .inl spare)), (h3, .inl (cI, 1140, .inl (if paveC z (xs (k.toInt.toNat + 1)) (xs (k.toInt.toNat + 2)) then recP z past sz else past))), (h4, .inl (cI, 380, .inl slots)), (h5, .inl (cZ, 2, .inl sv)), (h6, .inl (cI, 60, .inl pd)), (h7, .inl (cI, 120, .inl tf)), (h8, .inl (cI, 10, .inl tmm))] ++ (xwW cI cZ cS q0_1 xa xv ho0 ho1 pd0 pd1 m0 ts0 ts1 a ha sa cq_206 cs1_206 sc tm tv pd sv ln old1_206 (if paveC z (xs (k.toInt.toNat + 1)) (xs (k.toInt.toNat + 2)) then recS sz else sz) (if paveC z (xs (k.toInt.toNat + 1)) (xs (k.toInt.toNat + 2)) then paveZ z (xs (k.toInt.toNat + 1)) (xs (k.toInt.toNat + 2)) (1 : Int32) else z))) : va_W) = ([(q8_2, .inr (8, [.ref h1, .ref h2, .ref h3, .int (if paveC z (xs (k.toInt.toNat + 1)) (xs (k.toInt.toNat + 2)) then recS sz else sz), .ref h4, .ref h5, .ref h6, .int ln, .int gse, .int gte, .int gsp, .ref h7, .ref h8, .int gtl])), (h1, .inl (cI, 190, .inl (if paveC z (xs (k.toInt.toNat + 1)) (xs (k.toInt.toNat + 2)) then paveZ z (xs (k.toInt.toNat + 1)) (xs (k.toInt.toNat + 2)) (1 : Int32) else z))), (h2, .inl (cI, 190, .inl spare)), (h3, .inl (cI, 1140, .inl (if paveC z (xs (k.toInt.toNat + 1)) (xs (k.toInt.toNat + 2)) then recP z past sz else past))), (h4, .inl (cI, 380, .inl slots)), (h5, .inl (cZ, 2, .inl sv)), (h6, .inl (cI, 60, .inl pd)), (h7, .inl (cI, 120, .inl tf)), (h8, .inl (cI, 10, .inl tmm))] ++ (xwW cI cZ cS q0_1 xs xv ho0 ho1 pd0 pd1 m0 ts0 ts1 a ha sa cq_206 cs1_206 sc tm tv pd sv ln old1_206 (if paveC z (xs (k.toInt.toNat + 1)) (xs (k.toInt.toNat + 2)) then recS sz else sz) (if paveC z (xs (k.toInt.toNat + 1)) (xs (k.toInt.toNat + 2)) then paveZ z (xs (k.toInt.toNat + 1)) (xs (k.toInt.toNat + 2)) (1 : Int32) else z))) := by rfl
              exact ih18  x688 cq_206 cs1_206 sc tm tv pd sv ln old1_206 (if paveC z (xs (k.toInt.toNat + 1)) (xs (k.toInt.toNat + 2)) then recS sz else sz) (if paveC z (xs (k.toInt.toNat + 1)) (xs (k.toInt.toNat + 2)) then paveZ z (xs (k.toInt.toNat + 1)) (xs (k.toInt.toNat + 2)) (1 : Int32) else z) spare (if paveC z (xs (k.toInt.toNat + 1)) (xs (k.toInt.toNat + 2)) then recP z past sz else past) slots tf tmm gse gte gsp gtl (by omega) (by exact LI_mono (by omega) hLI2) (by omega) _ _ (xk_P hP q18) (xk_D hD q18) hS ls (lv_sub hl [0, 1, 2, 3] rfl)
            · have t236 : ¬ r206.toInt = r233.toInt := xi_ne rfl rfl c236
              have d236 : ¬ r206 = r233 := c236
              exact absurd hrr c236
        · refine lv_tableIn (off := 209) (tgt := 241) hx hb dL_law_32 (by rw [t32]; decide) (by rw [t32]; decide) (by rw [t32]; rfl) (by decide) ?_
          refine lv_aload_n hx hb dL_law_241 rfl (lv_at hl 2 rfl) ?_
          refine lv_aload_n hx hb dL_law_242 rfl (lv_at hl 3 rfl) ?_
          refine lv_iload_n hx hb dL_law_243 rfl (lv_at hl 0 rfl) ?_
          refine lv_iconst (v := 1) hx hb dL_law_244 (by decide) ?_
          refine lv_iadd hx hb dL_law_245 ?_
          refine lv_topi (fun x245 e245 => ?_)
          have t245 : x245.toInt = k.toInt + 1 := by rw [e245]; exact xi_add rfl (by decide) (by omega) (by omega)
          refine va_sld hx hb hX hbl hbA hS (xi_in (by omega) (by omega)) dL_law_246 ?_
          refine xk_top (z := xs (k.toInt.toNat + 1)) (xk_rd (by omega)) ?_
          refine xk_Vi (As := [.int (xs (k.toInt.toNat + 1))]) (rest := []) hx hb hml hown hts hK hN hZ (xg_P hP List.perm_append_comm) (xg_D hD List.perm_append_comm) hS hA mb_X7_tear mw_2_101 mw_2_102 mw_2_103 (k_X7_tear l D cI cZ cS x0 xs xv ho0 ho1 pd0 pd1 m0 ts0 ts1 a ha sa cn cs sc tm tv pd sv ln old sz z (xs (k.toInt.toNat + 1)) hRS hI hold hszz) (List.range ((xwW cI cZ cS q0_1 xa xv ho0 ho1 pd0 pd1 m0 ts0 ts1 a ha sa cn cs sc tm tv pd sv ln old sz z) : va_W).length) 0 7 rfl rfl (xg_ndr _) (xg_range _ _) (fun _ => by exact xwW_f) (by decide) (by decide) rfl hl.1 rfl (Nat.le_of_ble_eq_true rfl) dL_law_247 ⟨Nat.zero_le _, Nat.zero_le _⟩ (fun r247 u247 H locs hw hP hD hS => ?_)
          obtain ⟨cq_247, zq_247, old1_247, sz1_247, cs1_247⟩ := u247
          have p247 : (tearC z (xs (k.toInt.toNat + 1)) ∧ r247 = ofZ z (xs (k.toInt.toNat + 1)).toInt.toNat 0 ∧ Chg cn z old sz cs (tearZ z (xs (k.toInt.toNat + 1))) cq_247 zq_247 old1_247 sz1_247 cs1_247) ∨ (¬ tearC z (xs (k.toInt.toNat + 1)) ∧ r247 = -1 ∧ Same cn z old sz cs cq_247 zq_247 old1_247 sz1_247 cs1_247) := hw
          have hP : va_P D vwCl ((xwW cI cZ cS q0_1 xa xv ho0 ho1 pd0 pd1 m0 ts0 ts1 a ha sa cq_247 cs1_247 sc tm tv pd sv ln old1_247 sz1_247 zq_247) ++ [(q8_2, .inr (8, [.ref h1, .ref h2, .ref h3, .int sz, .ref h4, .ref h5, .ref h6, .int ln, .int gse, .int gte, .int gsp, .ref h7, .ref h8, .int gtl])), (h1, .inl (cI, 190, .inl z)), (h2, .inl (cI, 190, .inl spare)), (h3, .inl (cI, 1140, .inl past)), (h4, .inl (cI, 380, .inl slots)), (h5, .inl (cZ, 2, .inl sv)), (h6, .inl (cI, 60, .inl pd)), (h7, .inl (cI, 120, .inl tf)), (h8, .inl (cI, 10, .inl tmm))]) H := xk_P hP (xg_set (by exact xwW_f))
          have hD : va_D A ((xwW cI cZ cS q0_1 xa xv ho0 ho1 pd0 pd1 m0 ts0 ts1 a ha sa cq_247 cs1_247 sc tm tv pd sv ln old1_247 sz1_247 zq_247) ++ [(q8_2, .inr (8, [.ref h1, .ref h2, .ref h3, .int sz, .ref h4, .ref h5, .ref h6, .int ln, .int gse, .int gte, .int gsp, .ref h7, .ref h8, .int gtl])), (h1, .inl (cI, 190, .inl z)), (h2, .inl (cI, 190, .inl spare)), (h3, .inl (cI, 1140, .inl past)), (h4, .inl (cI, 380, .inl slots)), (h5, .inl (cZ, 2, .inl sv)), (h6, .inl (cI, 60, .inl pd)), (h7, .inl (cI, 120, .inl tf)), (h8, .inl (cI, 10, .inl tmm))]) := xk_D hD (xg_set (by exact xwW_f))
          have hP := xg_P hP List.perm_append_comm
          have hD := xg_D hD List.perm_append_comm
          have hP : va_P D vwCl ([(q8_2, .inr (8, [.ref h1, .ref h2, .ref h3, .int sz, .ref h4, .ref h5, .ref h6, .int ln, .int gse, .int gte, .int gsp, .ref h7, .ref h8, .int gtl])), (h1, .inl (cI, 190, .inl z)), (h2, .inl (cI, 190, .inl spare)), (h3, .inl (cI, 1140, .inl past)), (h4, .inl (cI, 380, .inl slots)), (h5, .inl (cZ, 2, .inl sv)), (h6, .inl (cI, 60, .inl pd)), (h7, .inl (cI, 120, .inl tf)), (h8, .inl (cI, 10, .inl tmm))] ++ (xwW cI cZ cS q0_1 xa xv ho0 ho1 pd0 pd1 m0 ts0 ts1 a ha sa cq_247 cs1_247 sc tm tv pd sv ln old1_247 sz1_247 zq_247)) H := hP
          have hD : va_D A ([(q8_2, .inr (8, [.ref h1, .ref h2, .ref h3, .int sz, .ref h4, .ref h5, .ref h6, .int ln, .int gse, .int gte, .int gsp, .ref h7, .ref h8, .int gtl])), (h1, .inl (cI, 190, .inl z)), (h2, .inl (cI, 190, .inl spare)), (h3, .inl (cI, 1140, .inl past)), (h4, .inl (cI, 380, .inl slots)), (h5, .inl (cZ, 2, .inl sv)), (h6, .inl (cI, 60, .inl pd)), (h7, .inl (cI, 120, .inl tf)), (h8, .inl (cI, 10, .inl tmm))] ++ (xwW cI cZ cS q0_1 xa xv ho0 ho1 pd0 pd1 m0 ts0 ts1 a ha sa cq_247 cs1_247 sc tm tv pd sv ln old1_247 sz1_247 zq_247)) := hD
          refine lv_aload_n hx hb dL_law_250 rfl (lv_at hl 1 rfl) ?_
          refine lv_aload_n hx hb dL_law_251 rfl (lv_at hl 3 rfl) ?_
          refine lv_iload_n hx hb dL_law_252 rfl (lv_at hl 0 rfl) ?_
          refine lv_iconst (v := 1) hx hb dL_law_253 (by decide) ?_
          refine lv_iadd hx hb dL_law_254 ?_
          refine lv_topi (fun x254 e254 => ?_)
          have t254 : x254.toInt = k.toInt + 1 := by rw [e254]; exact xi_add rfl (by decide) (by omega) (by omega)
          refine va_sld hx hb hX hbl hbA hS (xi_in (by omega) (by omega)) dL_law_255 ?_
          refine xk_top (z := xs (k.toInt.toNat + 1)) (xk_rd (by omega)) ?_
          refine xk_Vi (As := [.int (xs (k.toInt.toNat + 1))]) (rest := [.int r247]) hx hb hml hown hts hK hN hZ hP hD hS hA mb_X8_tear mw_3_205 mw_3_206 mw_3_207 (c_X8_tear l D cI cZ cS q8_2 h1 h2 h3 h4 h5 h6 h7 h8 sz ln gse gte gsp gtl z past (xs (k.toInt.toNat + 1)) (by exact hszz) (by exact hI.2.2.1.1)) [0, 1, 3] 0 8 rfl rfl (by decide) rfl (fun _ => by simp only [List.map]) (by decide) (by decide) rfl hl.1 rfl (Nat.le_of_ble_eq_true rfl) dL_law_256 ⟨Nat.le_of_ble_eq_true rfl, Nat.le_of_ble_eq_true rfl⟩ (fun r256 _ H locs hw hP hD hS => ?_)
          have hP : va_P D vwCl ([(q8_2, .inr (8, [.ref h1, .ref h2, .ref h3, .int (if tearC z (xs (k.toInt.toNat + 1)) then recS sz else sz), .ref h4, .ref h5, .ref h6, .int ln, .int gse, .int gte, .int gsp, .ref h7, .ref h8, .int gtl])), (h1, .inl (cI, 190, .inl (if tearC z (xs (k.toInt.toNat + 1)) then tearZ z (xs (k.toInt.toNat + 1)) else z))), (h2, .inl (cI, 190, .inl spare)), (h3, .inl (cI, 1140, .inl (if tearC z (xs (k.toInt.toNat + 1)) then recP z past sz else past))), (h4, .inl (cI, 380, .inl slots)), (h5, .inl (cZ, 2, .inl sv)), (h6, .inl (cI, 60, .inl pd)), (h7, .inl (cI, 120, .inl tf)), (h8, .inl (cI, 10, .inl tmm))] ++ (xwW cI cZ cS q0_1 xa xv ho0 ho1 pd0 pd1 m0 ts0 ts1 a ha sa cq_247 cs1_247 sc tm tv pd sv ln old1_247 sz1_247 zq_247)) H := hP
          have hD : va_D A ([(q8_2, .inr (8, [.ref h1, .ref h2, .ref h3, .int (if tearC z (xs (k.toInt.toNat + 1)) then recS sz else sz), .ref h4, .ref h5, .ref h6, .int ln, .int gse, .int gte, .int gsp, .ref h7, .ref h8, .int gtl])), (h1, .inl (cI, 190, .inl (if tearC z (xs (k.toInt.toNat + 1)) then tearZ z (xs (k.toInt.toNat + 1)) else z))), (h2, .inl (cI, 190, .inl spare)), (h3, .inl (cI, 1140, .inl (if tearC z (xs (k.toInt.toNat + 1)) then recP z past sz else past))), (h4, .inl (cI, 380, .inl slots)), (h5, .inl (cZ, 2, .inl sv)), (h6, .inl (cI, 60, .inl pd)), (h7, .inl (cI, 120, .inl tf)), (h8, .inl (cI, 10, .inl tmm))] ++ (xwW cI cZ cS q0_1 xa xv ho0 ho1 pd0 pd1 m0 ts0 ts1 a ha sa cq_247 cs1_247 sc tm tv pd sv ln old1_247 sz1_247 zq_247)) := hD
          have e256 : r256 = if tearC z (xs (k.toInt.toNat + 1)) then ofZ z (xs (k.toInt.toNat + 1)).toInt.toNat 0 else -1 := hw
          obtain ⟨hrr, hLI2, hz2, hs2⟩ := step_tear hLI p247 e256
          rw [hz2, hs2] at hP hD
          have hP : va_P D vwCl ([(q8_2, .inr (8, [.ref h1, .ref h2, .ref h3, .int (if tearC z (xs (k.toInt.toNat + 1)) then recS sz else sz), .ref h4, .ref h5, .ref h6, .int ln, .int gse, .int gte, .int gsp, .ref h7, .ref h8, .int gtl])), (h1, .inl (cI, 190, .inl (if tearC z (xs (k.toInt.toNat + 1)) then tearZ z (xs (k.toInt.toNat + 1)) else z))), (h2, .inl (cI, 190, .inl spare)), (h3, .inl (cI, 1140, .inl (if tearC z (xs (k.toInt.toNat + 1)) then recP z past sz else past))), (h4, .inl (cI, 380, .inl slots)), (h5, .inl (cZ, 2, .inl sv)), (h6, .inl (cI, 60, .inl pd)), (h7, .inl (cI, 120, .inl tf)), (h8, .inl (cI, 10, .inl tmm))] ++ (xwW cI cZ cS q0_1 xa xv ho0 ho1 pd0 pd1 m0 ts0 ts1 a ha sa cq_247 cs1_247 sc tm tv pd sv ln old1_247 (if tearC z (xs (k.toInt.toNat + 1)) then recS sz else sz) (if tearC z (xs (k.toInt.toNat + 1)) then tearZ z (xs (k.toInt.toNat + 1)) else z))) H := hP
          have hD : va_D A ([(q8_2, .inr (8, [.ref h1, .ref h2, .ref h3, .int (if tearC z (xs (k.toInt.toNat + 1)) then recS sz else sz), .ref h4, .ref h5, .ref h6, .int ln, .int gse, .int gte, .int gsp, .ref h7, .ref h8, .int gtl])), (h1, .inl (cI, 190, .inl (if tearC z (xs (k.toInt.toNat + 1)) then tearZ z (xs (k.toInt.toNat + 1)) else z))), (h2, .inl (cI, 190, .inl spare)), (h3, .inl (cI, 1140, .inl (if tearC z (xs (k.toInt.toNat + 1)) then recP z past sz else past))), (h4, .inl (cI, 380, .inl slots)), (h5, .inl (cZ, 2, .inl sv)), (h6, .inl (cI, 60, .inl pd)), (h7, .inl (cI, 120, .inl tf)), (h8, .inl (cI, 10, .inl tmm))] ++ (xwW cI cZ cS q0_1 xa xv ho0 ho1 pd0 pd1 m0 ts0 ts1 a ha sa cq_247 cs1_247 sc tm tv pd sv ln old1_247 (if tearC z (xs (k.toInt.toNat + 1)) then recS sz else sz) (if tearC z (xs (k.toInt.toNat + 1)) then tearZ z (xs (k.toInt.toNat + 1)) else z))) := hD
          refine lv_icmp_eq (tgt := 688) hx hb dL_law_259 (by decide) (fun c259 => ?_) (fun c259 => ?_)
          · have t259 : r247.toInt = r256.toInt := xi_eq rfl rfl c259
            have d259 : r247 = r256 := c259
            obtain ⟨x688, e688⟩ : ∃ y : Int32, y = k + 4 := ⟨_, rfl⟩
            have t688 : x688.toInt = k.toInt + 4 := by rw [e688]; exact xi_add rfl (by decide) (by omega) (by omega)
            refine lv_iinc (v := x688) (lv' := [(3, .int x688), (2, .ref q8_2), (1, .ref q0_1), (0, .ref b)]) hx hb dL_law_688 hl (k := 0) rfl (by rw [e688]; rfl) (by decide) rfl (fun ls hl => ?_)
            refine lv_goto (tgt := 18) hx hb dL_law_691 (by decide) ?_
            have q18 : (([(q8_2, .inr (8, [.ref h1, .ref h2, .ref h3, .int (if tearC z (xs (k.toInt.toNat + 1)) then recS sz else sz), .ref h4, .ref h5, .ref h6, .int ln, .int gse, .int gte, .int gsp, .ref h7, .ref h8, .int gtl])), (h1, .inl (cI, 190, .inl (if tearC z (xs (k.toInt.toNat + 1)) then tearZ z (xs (k.toInt.toNat + 1)) else z))), (h2, .inl (cI, 190, .inl spare)), (h3, .inl (cI, 1140, .inl (if tearC z (xs (k.toInt.toNat + 1)) then recP z past sz else past))), (h4, .inl (cI, 380, .inl slots)), (h5, .inl (cZ, 2, .inl sv)), (h6, .inl (cI, 60, .inl pd)), (h7, .inl (cI, 120, .inl tf)), (h8, .inl (cI, 10, .inl tmm))] ++ (xwW cI cZ cS q0_1 xa xv ho0 ho1 pd0 pd1 m0 ts0 ts1 a ha sa cq_247 cs1_247 sc tm tv pd sv ln old1_247 (if tearC z (xs (k.toInt.toNat + 1)) then recS sz else sz) (if tearC z (xs (k.toInt.toNat + 1)) then tearZ z (xs (k.toInt.toNat + 1)) else z))) : va_W) = ([(q8_2, .inr (8, [.ref h1, .ref h2, .ref h3, .int (if tearC z (xs (k.toInt.toNat + 1)) then recS sz else sz), .ref h4, .ref h5, .ref h6, .int ln, .int gse, .int gte, .int gsp, .ref h7, .ref h8, .int gtl])), (h1, .inl (cI, 190, .inl (if tearC z (xs (k.toInt.toNat + 1)) then tearZ z (xs (k.toInt.toNat + 1)) else z))), (h2, .inl (cI, 190, .inl spare)), (h3, .inl (cI, 1140, .inl (if tearC z (xs (k.toInt.toNat + 1)) then recP z past sz else past))), (h4, .inl (cI, 380, .inl slots)), (h5, .inl (cZ, 2, .inl sv)), (h6, .inl (cI, 60, .inl pd)), (h7, .inl (cI, 120, .inl tf)), (h8, .inl (cI, 10, .inl tmm))] ++ (xwW cI cZ cS q0_1 xs xv ho0 ho1 pd0 pd1 m0 ts0 ts1 a ha sa cq_247 cs1_247 sc tm tv pd sv ln old1_247 (if tearC z (xs (k.toInt.toNat + 1)) then recS sz else sz) (if tearC z (xs (k.toInt.toNat + 1)) then tearZ z (xs (k.toInt.toNat + 1)) else z))) := by rfl
            exact ih18  x688 cq_247 cs1_247 sc tm tv pd sv ln old1_247 (if tearC z (xs (k.toInt.toNat + 1)) then recS sz else sz) (if tearC z (xs (k.toInt.toNat + 1)) then tearZ z (xs (k.toInt.toNat + 1)) else z) spare (if tearC z (xs (k.toInt.toNat + 1)) then recP z past sz else past) slots tf tmm gse gte gsp gtl (by omega) (by exact LI_mono (by omega) hLI2) (by omega) _ _ (xk_P hP q18) (xk_D hD q18) hS ls (lv_sub hl [0, 1, 2, 3] rfl)
          · have t259 : ¬ r247.toInt = r256.toInt := xi_ne rfl rfl c259
            have d259 : ¬ r247 = r256 := c259
            exact absurd hrr c259
        · refine lv_tableIn (off := 232) (tgt := 264) hx hb dL_law_32 (by rw [t32]; decide) (by rw [t32]; decide) (by rw [t32]; rfl) (by decide) ?_
          refine lv_aload_n hx hb dL_law_264 rfl (lv_at hl 2 rfl) ?_
          refine xk_Vi (As := []) (rest := []) hx hb hml hown hts hK hN hZ (xg_P hP List.perm_append_comm) (xg_D hD List.perm_append_comm) hS hA mb_X7_begin mw_2_118 mw_2_119 mw_2_120 (k_X7_begin l D cI cZ cS x0 xs xv ho0 ho1 pd0 pd1 m0 ts0 ts1 a ha sa cn cs sc tm tv pd sv ln old sz z hRS hI hold hszz) (List.range ((xwW cI cZ cS q0_1 xa xv ho0 ho1 pd0 pd1 m0 ts0 ts1 a ha sa cn cs sc tm tv pd sv ln old sz z) : va_W).length) 0 7 rfl rfl (xg_ndr _) (xg_range _ _) (fun _ => by exact xwW_f) (by decide) (by decide) rfl hl.1 rfl (Nat.le_of_ble_eq_true rfl) dL_law_265 ⟨Nat.zero_le _, Nat.zero_le _⟩ (fun r265 u265 H locs hw hP hD hS => ?_)
          obtain ⟨cq_265, zq_265, old1_265, sz1_265, cs1_265⟩ := u265
          have p265 : r265 = z 174 ∧ Chg cn z old sz cs (beginZ z) cq_265 zq_265 old1_265 sz1_265 cs1_265 := hw
          have hP : va_P D vwCl ((xwW cI cZ cS q0_1 xa xv ho0 ho1 pd0 pd1 m0 ts0 ts1 a ha sa cq_265 cs1_265 sc tm tv pd sv ln old1_265 sz1_265 zq_265) ++ [(q8_2, .inr (8, [.ref h1, .ref h2, .ref h3, .int sz, .ref h4, .ref h5, .ref h6, .int ln, .int gse, .int gte, .int gsp, .ref h7, .ref h8, .int gtl])), (h1, .inl (cI, 190, .inl z)), (h2, .inl (cI, 190, .inl spare)), (h3, .inl (cI, 1140, .inl past)), (h4, .inl (cI, 380, .inl slots)), (h5, .inl (cZ, 2, .inl sv)), (h6, .inl (cI, 60, .inl pd)), (h7, .inl (cI, 120, .inl tf)), (h8, .inl (cI, 10, .inl tmm))]) H := xk_P hP (xg_set (by exact xwW_f))
          have hD : va_D A ((xwW cI cZ cS q0_1 xa xv ho0 ho1 pd0 pd1 m0 ts0 ts1 a ha sa cq_265 cs1_265 sc tm tv pd sv ln old1_265 sz1_265 zq_265) ++ [(q8_2, .inr (8, [.ref h1, .ref h2, .ref h3, .int sz, .ref h4, .ref h5, .ref h6, .int ln, .int gse, .int gte, .int gsp, .ref h7, .ref h8, .int gtl])), (h1, .inl (cI, 190, .inl z)), (h2, .inl (cI, 190, .inl spare)), (h3, .inl (cI, 1140, .inl past)), (h4, .inl (cI, 380, .inl slots)), (h5, .inl (cZ, 2, .inl sv)), (h6, .inl (cI, 60, .inl pd)), (h7, .inl (cI, 120, .inl tf)), (h8, .inl (cI, 10, .inl tmm))]) := xk_D hD (xg_set (by exact xwW_f))
          have hP := xg_P hP List.perm_append_comm
          have hD := xg_D hD List.perm_append_comm
          have hP : va_P D vwCl ([(q8_2, .inr (8, [.ref h1, .ref h2, .ref h3, .int sz, .ref h4, .ref h5, .ref h6, .int ln, .int gse, .int gte, .int gsp, .ref h7, .ref h8, .int gtl])), (h1, .inl (cI, 190, .inl z)), (h2, .inl (cI, 190, .inl spare)), (h3, .inl (cI, 1140, .inl past)), (h4, .inl (cI, 380, .inl slots)), (h5, .inl (cZ, 2, .inl sv)), (h6, .inl (cI, 60, .inl pd)), (h7, .inl (cI, 120, .inl tf)), (h8, .inl (cI, 10, .inl tmm))] ++ (xwW cI cZ cS q0_1 xa xv ho0 ho1 pd0 pd1 m0 ts0 ts1 a ha sa cq_265 cs1_265 sc tm tv pd sv ln old1_265 sz1_265 zq_265)) H := hP
          have hD : va_D A ([(q8_2, .inr (8, [.ref h1, .ref h2, .ref h3, .int sz, .ref h4, .ref h5, .ref h6, .int ln, .int gse, .int gte, .int gsp, .ref h7, .ref h8, .int gtl])), (h1, .inl (cI, 190, .inl z)), (h2, .inl (cI, 190, .inl spare)), (h3, .inl (cI, 1140, .inl past)), (h4, .inl (cI, 380, .inl slots)), (h5, .inl (cZ, 2, .inl sv)), (h6, .inl (cI, 60, .inl pd)), (h7, .inl (cI, 120, .inl tf)), (h8, .inl (cI, 10, .inl tmm))] ++ (xwW cI cZ cS q0_1 xa xv ho0 ho1 pd0 pd1 m0 ts0 ts1 a ha sa cq_265 cs1_265 sc tm tv pd sv ln old1_265 sz1_265 zq_265)) := hD
          refine lv_aload_n hx hb dL_law_268 rfl (lv_at hl 1 rfl) ?_
          refine xk_Vi (As := []) (rest := [.int r265]) hx hb hml hown hts hK hN hZ hP hD hS hA mb_X8_begin mw_3_190 mw_3_191 mw_3_192 (c_X8_begin l D cI cZ cS q8_2 h1 h2 h3 h4 h5 h6 h7 h8 sz ln gse gte gsp gtl z past (by exact hszz)) [0, 1, 3] 0 8 rfl rfl (by decide) rfl (fun _ => by simp only [List.map]) (by decide) (by decide) rfl hl.1 rfl (Nat.le_of_ble_eq_true rfl) dL_law_269 ⟨Nat.le_of_ble_eq_true rfl, Nat.le_of_ble_eq_true rfl⟩ (fun r269 _ H locs hw hP hD hS => ?_)
          have hP : va_P D vwCl ([(q8_2, .inr (8, [.ref h1, .ref h2, .ref h3, .int (recS sz), .ref h4, .ref h5, .ref h6, .int ln, .int gse, .int gte, .int gsp, .ref h7, .ref h8, .int gtl])), (h1, .inl (cI, 190, .inl (beginZ z))), (h2, .inl (cI, 190, .inl spare)), (h3, .inl (cI, 1140, .inl (recP z past sz))), (h4, .inl (cI, 380, .inl slots)), (h5, .inl (cZ, 2, .inl sv)), (h6, .inl (cI, 60, .inl pd)), (h7, .inl (cI, 120, .inl tf)), (h8, .inl (cI, 10, .inl tmm))] ++ (xwW cI cZ cS q0_1 xa xv ho0 ho1 pd0 pd1 m0 ts0 ts1 a ha sa cq_265 cs1_265 sc tm tv pd sv ln old1_265 sz1_265 zq_265)) H := hP
          have hD : va_D A ([(q8_2, .inr (8, [.ref h1, .ref h2, .ref h3, .int (recS sz), .ref h4, .ref h5, .ref h6, .int ln, .int gse, .int gte, .int gsp, .ref h7, .ref h8, .int gtl])), (h1, .inl (cI, 190, .inl (beginZ z))), (h2, .inl (cI, 190, .inl spare)), (h3, .inl (cI, 1140, .inl (recP z past sz))), (h4, .inl (cI, 380, .inl slots)), (h5, .inl (cZ, 2, .inl sv)), (h6, .inl (cI, 60, .inl pd)), (h7, .inl (cI, 120, .inl tf)), (h8, .inl (cI, 10, .inl tmm))] ++ (xwW cI cZ cS q0_1 xa xv ho0 ho1 pd0 pd1 m0 ts0 ts1 a ha sa cq_265 cs1_265 sc tm tv pd sv ln old1_265 sz1_265 zq_265)) := hD
          have e269 : r269 = z 174 := hw
          obtain ⟨hrr, hLI2, hz2, hs2⟩ := step_begin hLI p265 e269
          rw [hz2, hs2] at hP hD
          have hP : va_P D vwCl ([(q8_2, .inr (8, [.ref h1, .ref h2, .ref h3, .int (recS sz), .ref h4, .ref h5, .ref h6, .int ln, .int gse, .int gte, .int gsp, .ref h7, .ref h8, .int gtl])), (h1, .inl (cI, 190, .inl (beginZ z))), (h2, .inl (cI, 190, .inl spare)), (h3, .inl (cI, 1140, .inl (recP z past sz))), (h4, .inl (cI, 380, .inl slots)), (h5, .inl (cZ, 2, .inl sv)), (h6, .inl (cI, 60, .inl pd)), (h7, .inl (cI, 120, .inl tf)), (h8, .inl (cI, 10, .inl tmm))] ++ (xwW cI cZ cS q0_1 xa xv ho0 ho1 pd0 pd1 m0 ts0 ts1 a ha sa cq_265 cs1_265 sc tm tv pd sv ln old1_265 (recS sz) (beginZ z))) H := hP
          have hD : va_D A ([(q8_2, .inr (8, [.ref h1, .ref h2, .ref h3, .int (recS sz), .ref h4, .ref h5, .ref h6, .int ln, .int gse, .int gte, .int gsp, .ref h7, .ref h8, .int gtl])), (h1, .inl (cI, 190, .inl (beginZ z))), (h2, .inl (cI, 190, .inl spare)), (h3, .inl (cI, 1140, .inl (recP z past sz))), (h4, .inl (cI, 380, .inl slots)), (h5, .inl (cZ, 2, .inl sv)), (h6, .inl (cI, 60, .inl pd)), (h7, .inl (cI, 120, .inl tf)), (h8, .inl (cI, 10, .inl tmm))] ++ (xwW cI cZ cS q0_1 xa xv ho0 ho1 pd0 pd1 m0 ts0 ts1 a ha sa cq_265 cs1_265 sc tm tv pd sv ln old1_265 (recS sz) (beginZ z))) := hD
          refine lv_icmp_eq (tgt := 688) hx hb dL_law_272 (by decide) (fun c272 => ?_) (fun c272 => ?_)
          · have t272 : r265.toInt = r269.toInt := xi_eq rfl rfl c272
            have d272 : r265 = r269 := c272
            obtain ⟨x688, e688⟩ : ∃ y : Int32, y = k + 4 := ⟨_, rfl⟩
            have t688 : x688.toInt = k.toInt + 4 := by rw [e688]; exact xi_add rfl (by decide) (by omega) (by omega)
            refine lv_iinc (v := x688) (lv' := [(3, .int x688), (2, .ref q8_2), (1, .ref q0_1), (0, .ref b)]) hx hb dL_law_688 hl (k := 0) rfl (by rw [e688]; rfl) (by decide) rfl (fun ls hl => ?_)
            refine lv_goto (tgt := 18) hx hb dL_law_691 (by decide) ?_
            have q18 : (([(q8_2, .inr (8, [.ref h1, .ref h2, .ref h3, .int (recS sz), .ref h4, .ref h5, .ref h6, .int ln, .int gse, .int gte, .int gsp, .ref h7, .ref h8, .int gtl])), (h1, .inl (cI, 190, .inl (beginZ z))), (h2, .inl (cI, 190, .inl spare)), (h3, .inl (cI, 1140, .inl (recP z past sz))), (h4, .inl (cI, 380, .inl slots)), (h5, .inl (cZ, 2, .inl sv)), (h6, .inl (cI, 60, .inl pd)), (h7, .inl (cI, 120, .inl tf)), (h8, .inl (cI, 10, .inl tmm))] ++ (xwW cI cZ cS q0_1 xa xv ho0 ho1 pd0 pd1 m0 ts0 ts1 a ha sa cq_265 cs1_265 sc tm tv pd sv ln old1_265 (recS sz) (beginZ z))) : va_W) = ([(q8_2, .inr (8, [.ref h1, .ref h2, .ref h3, .int (recS sz), .ref h4, .ref h5, .ref h6, .int ln, .int gse, .int gte, .int gsp, .ref h7, .ref h8, .int gtl])), (h1, .inl (cI, 190, .inl (beginZ z))), (h2, .inl (cI, 190, .inl spare)), (h3, .inl (cI, 1140, .inl (recP z past sz))), (h4, .inl (cI, 380, .inl slots)), (h5, .inl (cZ, 2, .inl sv)), (h6, .inl (cI, 60, .inl pd)), (h7, .inl (cI, 120, .inl tf)), (h8, .inl (cI, 10, .inl tmm))] ++ (xwW cI cZ cS q0_1 xs xv ho0 ho1 pd0 pd1 m0 ts0 ts1 a ha sa cq_265 cs1_265 sc tm tv pd sv ln old1_265 (recS sz) (beginZ z))) := by rfl
            exact ih18  x688 cq_265 cs1_265 sc tm tv pd sv ln old1_265 (recS sz) (beginZ z) spare (recP z past sz) slots tf tmm gse gte gsp gtl (by omega) (by exact LI_mono (by omega) hLI2) (by omega) _ _ (xk_P hP q18) (xk_D hD q18) hS ls (lv_sub hl [0, 1, 2, 3] rfl)
          · have t272 : ¬ r265.toInt = r269.toInt := xi_ne rfl rfl c272
            have d272 : ¬ r265 = r269 := c272
            exact absurd hrr c272
        · refine lv_tableIn (off := 245) (tgt := 277) hx hb dL_law_32 (by rw [t32]; decide) (by rw [t32]; decide) (by rw [t32]; rfl) (by decide) ?_
          refine lv_aload_n hx hb dL_law_277 rfl (lv_at hl 2 rfl) ?_
          refine lv_aload_n hx hb dL_law_278 rfl (lv_at hl 3 rfl) ?_
          refine lv_iload_n hx hb dL_law_279 rfl (lv_at hl 0 rfl) ?_
          refine lv_iconst (v := 1) hx hb dL_law_280 (by decide) ?_
          refine lv_iadd hx hb dL_law_281 ?_
          refine lv_topi (fun x281 e281 => ?_)
          have t281 : x281.toInt = k.toInt + 1 := by rw [e281]; exact xi_add rfl (by decide) (by omega) (by omega)
          refine va_sld hx hb hX hbl hbA hS (xi_in (by omega) (by omega)) dL_law_282 ?_
          refine xk_top (z := xs (k.toInt.toNat + 1)) (xk_rd (by omega)) ?_
          refine xk_Vi (As := [.int (xs (k.toInt.toNat + 1))]) (rest := []) hx hb hml hown hts hK hN hZ (xg_P hP List.perm_append_comm) (xg_D hD List.perm_append_comm) hS hA mb_X7_march mw_2_122 mw_2_123 mw_2_124 (k_X7_march l D cI cZ cS x0 xs xv ho0 ho1 pd0 pd1 m0 ts0 ts1 a ha sa cn cs sc tm tv pd sv ln old sz z (xs (k.toInt.toNat + 1)) hRS hI hold hszz ⟨hBD.1.1, by have := hBD.1.2; omega⟩) (List.range ((xwW cI cZ cS q0_1 xa xv ho0 ho1 pd0 pd1 m0 ts0 ts1 a ha sa cn cs sc tm tv pd sv ln old sz z) : va_W).length) 0 7 rfl rfl (xg_ndr _) (xg_range _ _) (fun _ => by exact xwW_f) (by decide) (by decide) rfl hl.1 rfl (Nat.le_of_ble_eq_true rfl) dL_law_283 ⟨Nat.zero_le _, Nat.zero_le _⟩ (fun r283 u283 H locs hw hP hD hS => ?_)
          obtain ⟨cq_283, zq_283, old1_283, sz1_283, cs1_283⟩ := u283
          have p283 : marchA z (xs (k.toInt.toNat + 1)) r283 ∧ ((marchC z (xs (k.toInt.toNat + 1)) ∧ Chg cn z old sz cs (walkZ (xs (k.toInt.toNat + 1)).toInt.toNat z) cq_283 zq_283 old1_283 sz1_283 cs1_283) ∨ (¬ marchC z (xs (k.toInt.toNat + 1)) ∧ Same cn z old sz cs cq_283 zq_283 old1_283 sz1_283 cs1_283)) := hw
          have hP : va_P D vwCl ((xwW cI cZ cS q0_1 xa xv ho0 ho1 pd0 pd1 m0 ts0 ts1 a ha sa cq_283 cs1_283 sc tm tv pd sv ln old1_283 sz1_283 zq_283) ++ [(q8_2, .inr (8, [.ref h1, .ref h2, .ref h3, .int sz, .ref h4, .ref h5, .ref h6, .int ln, .int gse, .int gte, .int gsp, .ref h7, .ref h8, .int gtl])), (h1, .inl (cI, 190, .inl z)), (h2, .inl (cI, 190, .inl spare)), (h3, .inl (cI, 1140, .inl past)), (h4, .inl (cI, 380, .inl slots)), (h5, .inl (cZ, 2, .inl sv)), (h6, .inl (cI, 60, .inl pd)), (h7, .inl (cI, 120, .inl tf)), (h8, .inl (cI, 10, .inl tmm))]) H := xk_P hP (xg_set (by exact xwW_f))
          have hD : va_D A ((xwW cI cZ cS q0_1 xa xv ho0 ho1 pd0 pd1 m0 ts0 ts1 a ha sa cq_283 cs1_283 sc tm tv pd sv ln old1_283 sz1_283 zq_283) ++ [(q8_2, .inr (8, [.ref h1, .ref h2, .ref h3, .int sz, .ref h4, .ref h5, .ref h6, .int ln, .int gse, .int gte, .int gsp, .ref h7, .ref h8, .int gtl])), (h1, .inl (cI, 190, .inl z)), (h2, .inl (cI, 190, .inl spare)), (h3, .inl (cI, 1140, .inl past)), (h4, .inl (cI, 380, .inl slots)), (h5, .inl (cZ, 2, .inl sv)), (h6, .inl (cI, 60, .inl pd)), (h7, .inl (cI, 120, .inl tf)), (h8, .inl (cI, 10, .inl tmm))]) := xk_D hD (xg_set (by exact xwW_f))
          have hP := xg_P hP List.perm_append_comm
          have hD := xg_D hD List.perm_append_comm
          have hP : va_P D vwCl ([(q8_2, .inr (8, [.ref h1, .ref h2, .ref h3, .int sz, .ref h4, .ref h5, .ref h6, .int ln, .int gse, .int gte, .int gsp, .ref h7, .ref h8, .int gtl])), (h1, .inl (cI, 190, .inl z)), (h2, .inl (cI, 190, .inl spare)), (h3, .inl (cI, 1140, .inl past)), (h4, .inl (cI, 380, .inl slots)), (h5, .inl (cZ, 2, .inl sv)), (h6, .inl (cI, 60, .inl pd)), (h7, .inl (cI, 120, .inl tf)), (h8, .inl (cI, 10, .inl tmm))] ++ (xwW cI cZ cS q0_1 xa xv ho0 ho1 pd0 pd1 m0 ts0 ts1 a ha sa cq_283 cs1_283 sc tm tv pd sv ln old1_283 sz1_283 zq_283)) H := hP
          have hD : va_D A ([(q8_2, .inr (8, [.ref h1, .ref h2, .ref h3, .int sz, .ref h4, .ref h5, .ref h6, .int ln, .int gse, .int gte, .int gsp, .ref h7, .ref h8, .int gtl])), (h1, .inl (cI, 190, .inl z)), (h2, .inl (cI, 190, .inl spare)), (h3, .inl (cI, 1140, .inl past)), (h4, .inl (cI, 380, .inl slots)), (h5, .inl (cZ, 2, .inl sv)), (h6, .inl (cI, 60, .inl pd)), (h7, .inl (cI, 120, .inl tf)), (h8, .inl (cI, 10, .inl tmm))] ++ (xwW cI cZ cS q0_1 xa xv ho0 ho1 pd0 pd1 m0 ts0 ts1 a ha sa cq_283 cs1_283 sc tm tv pd sv ln old1_283 sz1_283 zq_283)) := hD
          refine lv_aload_n hx hb dL_law_286 rfl (lv_at hl 1 rfl) ?_
          refine lv_aload_n hx hb dL_law_287 rfl (lv_at hl 3 rfl) ?_
          refine lv_iload_n hx hb dL_law_288 rfl (lv_at hl 0 rfl) ?_
          refine lv_iconst (v := 1) hx hb dL_law_289 (by decide) ?_
          refine lv_iadd hx hb dL_law_290 ?_
          refine lv_topi (fun x290 e290 => ?_)
          have t290 : x290.toInt = k.toInt + 1 := by rw [e290]; exact xi_add rfl (by decide) (by omega) (by omega)
          refine va_sld hx hb hX hbl hbA hS (xi_in (by omega) (by omega)) dL_law_291 ?_
          refine xk_top (z := xs (k.toInt.toNat + 1)) (xk_rd (by omega)) ?_
          refine xk_Vi (As := [.int (xs (k.toInt.toNat + 1))]) (rest := [.int r283]) hx hb hml hown hts hK hN hZ hP hD hS hA mb_X8_march mw_3_150 mw_3_151 mw_3_152 (c_X8_march l D cI cZ cS q8_2 h1 h2 h3 h4 h5 h6 h7 h8 sz ln gse gte gsp gtl z past (xs (k.toInt.toNat + 1)) (by exact hszz) (by exact hI)) [0, 1, 3] 0 8 rfl rfl (by decide) rfl (fun _ => by simp only [List.map]) (by decide) (by decide) rfl hl.1 rfl (Nat.le_of_ble_eq_true rfl) dL_law_292 ⟨Nat.le_of_ble_eq_true rfl, Nat.le_of_ble_eq_true rfl⟩ (fun r292 u292 H locs hw hP hD hS => ?_)
          obtain ⟨w292_0, w292_1⟩ := u292
          have hP : va_P D vwCl ([(q8_2, .inr (8, [.ref h1, .ref h2, .ref h3, .int (if marchC z (xs (k.toInt.toNat + 1)) then recS sz else sz), .ref h4, .ref h5, .ref h6, .int ln, .int w292_0, .int w292_1, .int gsp, .ref h7, .ref h8, .int gtl])), (h1, .inl (cI, 190, .inl (if marchC z (xs (k.toInt.toNat + 1)) then walkZ (xs (k.toInt.toNat + 1)).toInt.toNat z else z))), (h2, .inl (cI, 190, .inl spare)), (h3, .inl (cI, 1140, .inl (if marchC z (xs (k.toInt.toNat + 1)) then recP z past sz else past))), (h4, .inl (cI, 380, .inl slots)), (h5, .inl (cZ, 2, .inl sv)), (h6, .inl (cI, 60, .inl pd)), (h7, .inl (cI, 120, .inl tf)), (h8, .inl (cI, 10, .inl tmm))] ++ (xwW cI cZ cS q0_1 xa xv ho0 ho1 pd0 pd1 m0 ts0 ts1 a ha sa cq_283 cs1_283 sc tm tv pd sv ln old1_283 sz1_283 zq_283)) H := hP
          have hD : va_D A ([(q8_2, .inr (8, [.ref h1, .ref h2, .ref h3, .int (if marchC z (xs (k.toInt.toNat + 1)) then recS sz else sz), .ref h4, .ref h5, .ref h6, .int ln, .int w292_0, .int w292_1, .int gsp, .ref h7, .ref h8, .int gtl])), (h1, .inl (cI, 190, .inl (if marchC z (xs (k.toInt.toNat + 1)) then walkZ (xs (k.toInt.toNat + 1)).toInt.toNat z else z))), (h2, .inl (cI, 190, .inl spare)), (h3, .inl (cI, 1140, .inl (if marchC z (xs (k.toInt.toNat + 1)) then recP z past sz else past))), (h4, .inl (cI, 380, .inl slots)), (h5, .inl (cZ, 2, .inl sv)), (h6, .inl (cI, 60, .inl pd)), (h7, .inl (cI, 120, .inl tf)), (h8, .inl (cI, 10, .inl tmm))] ++ (xwW cI cZ cS q0_1 xa xv ho0 ho1 pd0 pd1 m0 ts0 ts1 a ha sa cq_283 cs1_283 sc tm tv pd sv ln old1_283 sz1_283 zq_283)) := hD
          have p292 : marchA z (xs (k.toInt.toNat + 1)) r292 := hw
          obtain ⟨hrr, hLI2, hz2, hs2⟩ := step_march hLI (by omega) p283 p292
          rw [hz2, hs2] at hP hD
          have hP : va_P D vwCl ([(q8_2, .inr (8, [.ref h1, .ref h2, .ref h3, .int (if marchC z (xs (k.toInt.toNat + 1)) then recS sz else sz), .ref h4, .ref h5, .ref h6, .int ln, .int w292_0, .int w292_1, .int gsp, .ref h7, .ref h8, .int gtl])), (h1, .inl (cI, 190, .inl (if marchC z (xs (k.toInt.toNat + 1)) then walkZ (xs (k.toInt.toNat + 1)).toInt.toNat z else z))), (h2, .inl (cI, 190, .inl spare)), (h3, .inl (cI, 1140, .inl (if marchC z (xs (k.toInt.toNat + 1)) then recP z past sz else past))), (h4, .inl (cI, 380, .inl slots)), (h5, .inl (cZ, 2, .inl sv)), (h6, .inl (cI, 60, .inl pd)), (h7, .inl (cI, 120, .inl tf)), (h8, .inl (cI, 10, .inl tmm))] ++ (xwW cI cZ cS q0_1 xa xv ho0 ho1 pd0 pd1 m0 ts0 ts1 a ha sa cq_283 cs1_283 sc tm tv pd sv ln old1_283 (if marchC z (xs (k.toInt.toNat + 1)) then recS sz else sz) (if marchC z (xs (k.toInt.toNat + 1)) then walkZ (xs (k.toInt.toNat + 1)).toInt.toNat z else z))) H := hP
          have hD : va_D A ([(q8_2, .inr (8, [.ref h1, .ref h2, .ref h3, .int (if marchC z (xs (k.toInt.toNat + 1)) then recS sz else sz), .ref h4, .ref h5, .ref h6, .int ln, .int w292_0, .int w292_1, .int gsp, .ref h7, .ref h8, .int gtl])), (h1, .inl (cI, 190, .inl (if marchC z (xs (k.toInt.toNat + 1)) then walkZ (xs (k.toInt.toNat + 1)).toInt.toNat z else z))), (h2, .inl (cI, 190, .inl spare)), (h3, .inl (cI, 1140, .inl (if marchC z (xs (k.toInt.toNat + 1)) then recP z past sz else past))), (h4, .inl (cI, 380, .inl slots)), (h5, .inl (cZ, 2, .inl sv)), (h6, .inl (cI, 60, .inl pd)), (h7, .inl (cI, 120, .inl tf)), (h8, .inl (cI, 10, .inl tmm))] ++ (xwW cI cZ cS q0_1 xa xv ho0 ho1 pd0 pd1 m0 ts0 ts1 a ha sa cq_283 cs1_283 sc tm tv pd sv ln old1_283 (if marchC z (xs (k.toInt.toNat + 1)) then recS sz else sz) (if marchC z (xs (k.toInt.toNat + 1)) then walkZ (xs (k.toInt.toNat + 1)).toInt.toNat z else z))) := hD
          refine lv_icmp_eq (tgt := 688) hx hb dL_law_295 (by decide) (fun c295 => ?_) (fun c295 => ?_)
          · have t295 : r283.toInt = r292.toInt := xi_eq rfl rfl c295
            have d295 : r283 = r292 := c295
            obtain ⟨x688, e688⟩ : ∃ y : Int32, y = k + 4 := ⟨_, rfl⟩
            have t688 : x688.toInt = k.toInt + 4 := by rw [e688]; exact xi_add rfl (by decide) (by omega) (by omega)
            refine lv_iinc (v := x688) (lv' := [(3, .int x688), (2, .ref q8_2), (1, .ref q0_1), (0, .ref b)]) hx hb dL_law_688 hl (k := 0) rfl (by rw [e688]; rfl) (by decide) rfl (fun ls hl => ?_)
            refine lv_goto (tgt := 18) hx hb dL_law_691 (by decide) ?_
            have q18 : (([(q8_2, .inr (8, [.ref h1, .ref h2, .ref h3, .int (if marchC z (xs (k.toInt.toNat + 1)) then recS sz else sz), .ref h4, .ref h5, .ref h6, .int ln, .int w292_0, .int w292_1, .int gsp, .ref h7, .ref h8, .int gtl])), (h1, .inl (cI, 190, .inl (if marchC z (xs (k.toInt.toNat + 1)) then walkZ (xs (k.toInt.toNat + 1)).toInt.toNat z else z))), (h2, .inl (cI, 190, .inl spare)), (h3, .inl (cI, 1140, .inl (if marchC z (xs (k.toInt.toNat + 1)) then recP z past sz else past))), (h4, .inl (cI, 380, .inl slots)), (h5, .inl (cZ, 2, .inl sv)), (h6, .inl (cI, 60, .inl pd)), (h7, .inl (cI, 120, .inl tf)), (h8, .inl (cI, 10, .inl tmm))] ++ (xwW cI cZ cS q0_1 xa xv ho0 ho1 pd0 pd1 m0 ts0 ts1 a ha sa cq_283 cs1_283 sc tm tv pd sv ln old1_283 (if marchC z (xs (k.toInt.toNat + 1)) then recS sz else sz) (if marchC z (xs (k.toInt.toNat + 1)) then walkZ (xs (k.toInt.toNat + 1)).toInt.toNat z else z))) : va_W) = ([(q8_2, .inr (8, [.ref h1, .ref h2, .ref h3, .int (if marchC z (xs (k.toInt.toNat + 1)) then recS sz else sz), .ref h4, .ref h5, .ref h6, .int ln, .int w292_0, .int w292_1, .int gsp, .ref h7, .ref h8, .int gtl])), (h1, .inl (cI, 190, .inl (if marchC z (xs (k.toInt.toNat + 1)) then walkZ (xs (k.toInt.toNat + 1)).toInt.toNat z else z))), (h2, .inl (cI, 190, .inl spare)), (h3, .inl (cI, 1140, .inl (if marchC z (xs (k.toInt.toNat + 1)) then recP z past sz else past))), (h4, .inl (cI, 380, .inl slots)), (h5, .inl (cZ, 2, .inl sv)), (h6, .inl (cI, 60, .inl pd)), (h7, .inl (cI, 120, .inl tf)), (h8, .inl (cI, 10, .inl tmm))] ++ (xwW cI cZ cS q0_1 xs xv ho0 ho1 pd0 pd1 m0 ts0 ts1 a ha sa cq_283 cs1_283 sc tm tv pd sv ln old1_283 (if marchC z (xs (k.toInt.toNat + 1)) then recS sz else sz) (if marchC z (xs (k.toInt.toNat + 1)) then walkZ (xs (k.toInt.toNat + 1)).toInt.toNat z else z))) := by rfl
            exact ih18  x688 cq_283 cs1_283 sc tm tv pd sv ln old1_283 (if marchC z (xs (k.toInt.toNat + 1)) then recS sz else sz) (if marchC z (xs (k.toInt.toNat + 1)) then walkZ (xs (k.toInt.toNat + 1)).toInt.toNat z else z) spare (if marchC z (xs (k.toInt.toNat + 1)) then recP z past sz else past) slots tf tmm w292_0 w292_1 gsp gtl (by omega) (by exact LI_mono (by omega) hLI2) (by omega) _ _ (xk_P hP q18) (xk_D hD q18) hS ls (lv_sub hl [0, 1, 2, 3] rfl)
          · have t295 : ¬ r283.toInt = r292.toInt := xi_ne rfl rfl c295
            have d295 : ¬ r283 = r292 := c295
            exact absurd hrr c295
        · refine lv_tableIn (off := 268) (tgt := 300) hx hb dL_law_32 (by rw [t32]; decide) (by rw [t32]; decide) (by rw [t32]; rfl) (by decide) ?_
          refine lv_aload_n hx hb dL_law_300 rfl (lv_at hl 2 rfl) ?_
          refine lv_aload_n hx hb dL_law_301 rfl (lv_at hl 3 rfl) ?_
          refine lv_iload_n hx hb dL_law_302 rfl (lv_at hl 0 rfl) ?_
          refine lv_iconst (v := 1) hx hb dL_law_303 (by decide) ?_
          refine lv_iadd hx hb dL_law_304 ?_
          refine lv_topi (fun x304 e304 => ?_)
          have t304 : x304.toInt = k.toInt + 1 := by rw [e304]; exact xi_add rfl (by decide) (by omega) (by omega)
          refine va_sld hx hb hX hbl hbA hS (xi_in (by omega) (by omega)) dL_law_305 ?_
          refine xk_top (z := xs (k.toInt.toNat + 1)) (xk_rd (by omega)) ?_
          refine lv_aload_n hx hb dL_law_306 rfl (lv_at hl 3 rfl) ?_
          refine lv_iload_n hx hb dL_law_307 rfl (lv_at hl 0 rfl) ?_
          refine lv_iconst (v := 2) hx hb dL_law_308 (by decide) ?_
          refine lv_iadd hx hb dL_law_309 ?_
          refine lv_topi (fun x309 e309 => ?_)
          have t309 : x309.toInt = k.toInt + 2 := by rw [e309]; exact xi_add rfl (by decide) (by omega) (by omega)
          refine va_sld hx hb hX hbl hbA hS (xi_in (by omega) (by omega)) dL_law_310 ?_
          refine xk_top (z := xs (k.toInt.toNat + 2)) (xk_rd (by omega)) ?_
          refine xk_Vi (As := [.int (xs (k.toInt.toNat + 1)), .int (xs (k.toInt.toNat + 2))]) (rest := []) hx hb hml hown hts hK hN hZ (xg_P hP List.perm_append_comm) (xg_D hD List.perm_append_comm) hS hA mb_X7_line mw_2_176 mw_2_177 mw_2_178 (k_X7_line l D cI cZ cS x0 xs xv ho0 ho1 pd0 pd1 m0 ts0 ts1 a ha sa cn cs sc tm tv pd sv ln old sz z (xs (k.toInt.toNat + 1)) (xs (k.toInt.toNat + 2)) hRS hI) (List.range ((xwW cI cZ cS q0_1 xa xv ho0 ho1 pd0 pd1 m0 ts0 ts1 a ha sa cn cs sc tm tv pd sv ln old sz z) : va_W).length) 0 7 rfl rfl (xg_ndr _) (xg_range _ _) (fun _ => by exact xwW_f) (by decide) (by decide) rfl hl.1 rfl (Nat.le_of_ble_eq_true rfl) dL_law_311 ⟨Nat.zero_le _, Nat.zero_le _⟩ (fun r311 u311 H locs hw hP hD hS => ?_)
          have p311 : r311 = lineR z (xs (k.toInt.toNat + 1)) (xs (k.toInt.toNat + 2)) := hw
          have hP : va_P D vwCl ((xwW cI cZ cS q0_1 xa xv ho0 ho1 pd0 pd1 m0 ts0 ts1 a ha sa cn cs sc tm tv pd sv ln old sz z) ++ [(q8_2, .inr (8, [.ref h1, .ref h2, .ref h3, .int sz, .ref h4, .ref h5, .ref h6, .int ln, .int gse, .int gte, .int gsp, .ref h7, .ref h8, .int gtl])), (h1, .inl (cI, 190, .inl z)), (h2, .inl (cI, 190, .inl spare)), (h3, .inl (cI, 1140, .inl past)), (h4, .inl (cI, 380, .inl slots)), (h5, .inl (cZ, 2, .inl sv)), (h6, .inl (cI, 60, .inl pd)), (h7, .inl (cI, 120, .inl tf)), (h8, .inl (cI, 10, .inl tmm))]) H := xk_P hP (xg_set (by exact xwW_f))
          have hD : va_D A ((xwW cI cZ cS q0_1 xa xv ho0 ho1 pd0 pd1 m0 ts0 ts1 a ha sa cn cs sc tm tv pd sv ln old sz z) ++ [(q8_2, .inr (8, [.ref h1, .ref h2, .ref h3, .int sz, .ref h4, .ref h5, .ref h6, .int ln, .int gse, .int gte, .int gsp, .ref h7, .ref h8, .int gtl])), (h1, .inl (cI, 190, .inl z)), (h2, .inl (cI, 190, .inl spare)), (h3, .inl (cI, 1140, .inl past)), (h4, .inl (cI, 380, .inl slots)), (h5, .inl (cZ, 2, .inl sv)), (h6, .inl (cI, 60, .inl pd)), (h7, .inl (cI, 120, .inl tf)), (h8, .inl (cI, 10, .inl tmm))]) := xk_D hD (xg_set (by exact xwW_f))
          have hP := xg_P hP List.perm_append_comm
          have hD := xg_D hD List.perm_append_comm
          have hP : va_P D vwCl ([(q8_2, .inr (8, [.ref h1, .ref h2, .ref h3, .int sz, .ref h4, .ref h5, .ref h6, .int ln, .int gse, .int gte, .int gsp, .ref h7, .ref h8, .int gtl])), (h1, .inl (cI, 190, .inl z)), (h2, .inl (cI, 190, .inl spare)), (h3, .inl (cI, 1140, .inl past)), (h4, .inl (cI, 380, .inl slots)), (h5, .inl (cZ, 2, .inl sv)), (h6, .inl (cI, 60, .inl pd)), (h7, .inl (cI, 120, .inl tf)), (h8, .inl (cI, 10, .inl tmm))] ++ (xwW cI cZ cS q0_1 xa xv ho0 ho1 pd0 pd1 m0 ts0 ts1 a ha sa cn cs sc tm tv pd sv ln old sz z)) H := hP
          have hD : va_D A ([(q8_2, .inr (8, [.ref h1, .ref h2, .ref h3, .int sz, .ref h4, .ref h5, .ref h6, .int ln, .int gse, .int gte, .int gsp, .ref h7, .ref h8, .int gtl])), (h1, .inl (cI, 190, .inl z)), (h2, .inl (cI, 190, .inl spare)), (h3, .inl (cI, 1140, .inl past)), (h4, .inl (cI, 380, .inl slots)), (h5, .inl (cZ, 2, .inl sv)), (h6, .inl (cI, 60, .inl pd)), (h7, .inl (cI, 120, .inl tf)), (h8, .inl (cI, 10, .inl tmm))] ++ (xwW cI cZ cS q0_1 xa xv ho0 ho1 pd0 pd1 m0 ts0 ts1 a ha sa cn cs sc tm tv pd sv ln old sz z)) := hD
          refine lv_aload_n hx hb dL_law_314 rfl (lv_at hl 1 rfl) ?_
          refine lv_aload_n hx hb dL_law_315 rfl (lv_at hl 3 rfl) ?_
          refine lv_iload_n hx hb dL_law_316 rfl (lv_at hl 0 rfl) ?_
          refine lv_iconst (v := 1) hx hb dL_law_317 (by decide) ?_
          refine lv_iadd hx hb dL_law_318 ?_
          refine lv_topi (fun x318 e318 => ?_)
          have t318 : x318.toInt = k.toInt + 1 := by rw [e318]; exact xi_add rfl (by decide) (by omega) (by omega)
          refine va_sld hx hb hX hbl hbA hS (xi_in (by omega) (by omega)) dL_law_319 ?_
          refine xk_top (z := xs (k.toInt.toNat + 1)) (xk_rd (by omega)) ?_
          refine lv_aload_n hx hb dL_law_320 rfl (lv_at hl 3 rfl) ?_
          refine lv_iload_n hx hb dL_law_321 rfl (lv_at hl 0 rfl) ?_
          refine lv_iconst (v := 2) hx hb dL_law_322 (by decide) ?_
          refine lv_iadd hx hb dL_law_323 ?_
          refine lv_topi (fun x323 e323 => ?_)
          have t323 : x323.toInt = k.toInt + 2 := by rw [e323]; exact xi_add rfl (by decide) (by omega) (by omega)
          refine va_sld hx hb hX hbl hbA hS (xi_in (by omega) (by omega)) dL_law_324 ?_
          refine xk_top (z := xs (k.toInt.toNat + 2)) (xk_rd (by omega)) ?_
          refine xk_Vi0 (As := [.int (xs (k.toInt.toNat + 1)), .int (xs (k.toInt.toNat + 2))]) (rest := [.int r311]) hx hb hml hown hts hK hN hZ hP hD hS hA mb_X8_line mw_4_6 mw_4_7 mw_4_8 (c_X8_line l D cI cZ cS q8_2 h1 h2 h3 h4 h5 h6 h7 h8 sz ln gse gte gsp gtl z (xs (k.toInt.toNat + 1)) (xs (k.toInt.toNat + 2)) (by exact hI.2.1)) [0, 1] 0 8 rfl rfl (by decide) rfl (fun _ => by simp only [List.map]) (by decide) (by decide) rfl hl.1 rfl (Nat.le_of_ble_eq_true rfl) dL_law_325 ⟨Nat.le_of_ble_eq_true rfl, Nat.le_of_ble_eq_true rfl⟩ (fun _ => rfl) (fun r325 _ H locs hw hP hD hS => ?_)
          have e325 : r325 = lineR z (xs (k.toInt.toNat + 1)) (xs (k.toInt.toNat + 2)) := hw
          have hrr : r311 = r325 := p311.trans e325.symm
          refine lv_icmp_eq (tgt := 688) hx hb dL_law_328 (by decide) (fun c328 => ?_) (fun c328 => ?_)
          · have t328 : r311.toInt = r325.toInt := xi_eq rfl rfl c328
            have d328 : r311 = r325 := c328
            obtain ⟨x688, e688⟩ : ∃ y : Int32, y = k + 4 := ⟨_, rfl⟩
            have t688 : x688.toInt = k.toInt + 4 := by rw [e688]; exact xi_add rfl (by decide) (by omega) (by omega)
            refine lv_iinc (v := x688) (lv' := [(3, .int x688), (2, .ref q8_2), (1, .ref q0_1), (0, .ref b)]) hx hb dL_law_688 hl (k := 0) rfl (by rw [e688]; rfl) (by decide) rfl (fun ls hl => ?_)
            refine lv_goto (tgt := 18) hx hb dL_law_691 (by decide) ?_
            have q18 : (([(q8_2, .inr (8, [.ref h1, .ref h2, .ref h3, .int sz, .ref h4, .ref h5, .ref h6, .int ln, .int gse, .int gte, .int gsp, .ref h7, .ref h8, .int gtl])), (h1, .inl (cI, 190, .inl z)), (h2, .inl (cI, 190, .inl spare)), (h3, .inl (cI, 1140, .inl past)), (h4, .inl (cI, 380, .inl slots)), (h5, .inl (cZ, 2, .inl sv)), (h6, .inl (cI, 60, .inl pd)), (h7, .inl (cI, 120, .inl tf)), (h8, .inl (cI, 10, .inl tmm))] ++ (xwW cI cZ cS q0_1 xa xv ho0 ho1 pd0 pd1 m0 ts0 ts1 a ha sa cn cs sc tm tv pd sv ln old sz z)) : va_W) = ([(q8_2, .inr (8, [.ref h1, .ref h2, .ref h3, .int sz, .ref h4, .ref h5, .ref h6, .int ln, .int gse, .int gte, .int gsp, .ref h7, .ref h8, .int gtl])), (h1, .inl (cI, 190, .inl z)), (h2, .inl (cI, 190, .inl spare)), (h3, .inl (cI, 1140, .inl past)), (h4, .inl (cI, 380, .inl slots)), (h5, .inl (cZ, 2, .inl sv)), (h6, .inl (cI, 60, .inl pd)), (h7, .inl (cI, 120, .inl tf)), (h8, .inl (cI, 10, .inl tmm))] ++ (xwW cI cZ cS q0_1 xs xv ho0 ho1 pd0 pd1 m0 ts0 ts1 a ha sa cn cs sc tm tv pd sv ln old sz z)) := by rfl
            exact ih18  x688 cn cs sc tm tv pd sv ln old sz z spare past slots tf tmm gse gte gsp gtl (by omega) (by exact LI_mono (by omega) hLI) (by omega) _ _ (xk_P hP q18) (xk_D hD q18) hS ls (lv_sub hl [0, 1, 2, 3] rfl)
          · have t328 : ¬ r311.toInt = r325.toInt := xi_ne rfl rfl c328
            have d328 : ¬ r311 = r325 := c328
            exact absurd hrr c328
        · refine lv_tableIn (off := 301) (tgt := 333) hx hb dL_law_32 (by rw [t32]; decide) (by rw [t32]; decide) (by rw [t32]; rfl) (by decide) ?_
          refine lv_aload_n hx hb dL_law_333 rfl (lv_at hl 2 rfl) ?_
          refine lv_aload_n hx hb dL_law_334 rfl (lv_at hl 3 rfl) ?_
          refine lv_iload_n hx hb dL_law_335 rfl (lv_at hl 0 rfl) ?_
          refine lv_iconst (v := 1) hx hb dL_law_336 (by decide) ?_
          refine lv_iadd hx hb dL_law_337 ?_
          refine lv_topi (fun x337 e337 => ?_)
          have t337 : x337.toInt = k.toInt + 1 := by rw [e337]; exact xi_add rfl (by decide) (by omega) (by omega)
          refine va_sld hx hb hX hbl hbA hS (xi_in (by omega) (by omega)) dL_law_338 ?_
          refine xk_top (z := xs (k.toInt.toNat + 1)) (xk_rd (by omega)) ?_
          refine lv_aload_n hx hb dL_law_339 rfl (lv_at hl 3 rfl) ?_
          refine lv_iload_n hx hb dL_law_340 rfl (lv_at hl 0 rfl) ?_
          refine lv_iconst (v := 2) hx hb dL_law_341 (by decide) ?_
          refine lv_iadd hx hb dL_law_342 ?_
          refine lv_topi (fun x342 e342 => ?_)
          have t342 : x342.toInt = k.toInt + 2 := by rw [e342]; exact xi_add rfl (by decide) (by omega) (by omega)
          refine va_sld hx hb hX hbl hbA hS (xi_in (by omega) (by omega)) dL_law_343 ?_
          refine xk_top (z := xs (k.toInt.toNat + 2)) (xk_rd (by omega)) ?_
          refine lv_aload_n hx hb dL_law_344 rfl (lv_at hl 3 rfl) ?_
          refine lv_iload_n hx hb dL_law_345 rfl (lv_at hl 0 rfl) ?_
          refine lv_iconst (v := 3) hx hb dL_law_346 (by decide) ?_
          refine lv_iadd hx hb dL_law_347 ?_
          refine lv_topi (fun x347 e347 => ?_)
          have t347 : x347.toInt = k.toInt + 3 := by rw [e347]; exact xi_add rfl (by decide) (by omega) (by omega)
          refine va_sld hx hb hX hbl hbA hS (xi_in (by omega) (by omega)) dL_law_348 ?_
          refine xk_top (z := xs (k.toInt.toNat + 3)) (xk_rd (by omega)) ?_
          refine xk_Vi (As := [.int (xs (k.toInt.toNat + 1)), .int (xs (k.toInt.toNat + 2)), .int (xs (k.toInt.toNat + 3))]) (rest := []) hx hb hml hown hts hK hN hZ (xg_P hP List.perm_append_comm) (xg_D hD List.perm_append_comm) hS hA mb_X7_foot mw_2_192 mw_2_193 mw_2_194 (k_X7_foot l D cI cZ cS x0 xs xv ho0 ho1 pd0 pd1 m0 ts0 ts1 a ha sa cn cs sc tm tv pd sv ln old sz z (xs (k.toInt.toNat + 1)) (xs (k.toInt.toNat + 2)) (xs (k.toInt.toNat + 3)) hRS hI) (List.range ((xwW cI cZ cS q0_1 xa xv ho0 ho1 pd0 pd1 m0 ts0 ts1 a ha sa cn cs sc tm tv pd sv ln old sz z) : va_W).length) 0 7 rfl rfl (xg_ndr _) (xg_range _ _) (fun _ => by exact xwW_f) (by decide) (by decide) rfl hl.1 rfl (Nat.le_of_ble_eq_true rfl) dL_law_349 ⟨Nat.zero_le _, Nat.zero_le _⟩ (fun r349 u349 H locs hw hP hD hS => ?_)
          have p349 : r349 = footR z (xs (k.toInt.toNat + 1)) (xs (k.toInt.toNat + 2)) (xs (k.toInt.toNat + 3)) := hw
          have hP : va_P D vwCl ((xwW cI cZ cS q0_1 xa xv ho0 ho1 pd0 pd1 m0 ts0 ts1 a ha sa cn cs sc tm tv pd sv ln old sz z) ++ [(q8_2, .inr (8, [.ref h1, .ref h2, .ref h3, .int sz, .ref h4, .ref h5, .ref h6, .int ln, .int gse, .int gte, .int gsp, .ref h7, .ref h8, .int gtl])), (h1, .inl (cI, 190, .inl z)), (h2, .inl (cI, 190, .inl spare)), (h3, .inl (cI, 1140, .inl past)), (h4, .inl (cI, 380, .inl slots)), (h5, .inl (cZ, 2, .inl sv)), (h6, .inl (cI, 60, .inl pd)), (h7, .inl (cI, 120, .inl tf)), (h8, .inl (cI, 10, .inl tmm))]) H := xk_P hP (xg_set (by exact xwW_f))
          have hD : va_D A ((xwW cI cZ cS q0_1 xa xv ho0 ho1 pd0 pd1 m0 ts0 ts1 a ha sa cn cs sc tm tv pd sv ln old sz z) ++ [(q8_2, .inr (8, [.ref h1, .ref h2, .ref h3, .int sz, .ref h4, .ref h5, .ref h6, .int ln, .int gse, .int gte, .int gsp, .ref h7, .ref h8, .int gtl])), (h1, .inl (cI, 190, .inl z)), (h2, .inl (cI, 190, .inl spare)), (h3, .inl (cI, 1140, .inl past)), (h4, .inl (cI, 380, .inl slots)), (h5, .inl (cZ, 2, .inl sv)), (h6, .inl (cI, 60, .inl pd)), (h7, .inl (cI, 120, .inl tf)), (h8, .inl (cI, 10, .inl tmm))]) := xk_D hD (xg_set (by exact xwW_f))
          have hP := xg_P hP List.perm_append_comm
          have hD := xg_D hD List.perm_append_comm
          have hP : va_P D vwCl ([(q8_2, .inr (8, [.ref h1, .ref h2, .ref h3, .int sz, .ref h4, .ref h5, .ref h6, .int ln, .int gse, .int gte, .int gsp, .ref h7, .ref h8, .int gtl])), (h1, .inl (cI, 190, .inl z)), (h2, .inl (cI, 190, .inl spare)), (h3, .inl (cI, 1140, .inl past)), (h4, .inl (cI, 380, .inl slots)), (h5, .inl (cZ, 2, .inl sv)), (h6, .inl (cI, 60, .inl pd)), (h7, .inl (cI, 120, .inl tf)), (h8, .inl (cI, 10, .inl tmm))] ++ (xwW cI cZ cS q0_1 xa xv ho0 ho1 pd0 pd1 m0 ts0 ts1 a ha sa cn cs sc tm tv pd sv ln old sz z)) H := hP
          have hD : va_D A ([(q8_2, .inr (8, [.ref h1, .ref h2, .ref h3, .int sz, .ref h4, .ref h5, .ref h6, .int ln, .int gse, .int gte, .int gsp, .ref h7, .ref h8, .int gtl])), (h1, .inl (cI, 190, .inl z)), (h2, .inl (cI, 190, .inl spare)), (h3, .inl (cI, 1140, .inl past)), (h4, .inl (cI, 380, .inl slots)), (h5, .inl (cZ, 2, .inl sv)), (h6, .inl (cI, 60, .inl pd)), (h7, .inl (cI, 120, .inl tf)), (h8, .inl (cI, 10, .inl tmm))] ++ (xwW cI cZ cS q0_1 xa xv ho0 ho1 pd0 pd1 m0 ts0 ts1 a ha sa cn cs sc tm tv pd sv ln old sz z)) := hD
          refine lv_aload_n hx hb dL_law_352 rfl (lv_at hl 1 rfl) ?_
          refine lv_aload_n hx hb dL_law_353 rfl (lv_at hl 3 rfl) ?_
          refine lv_iload_n hx hb dL_law_354 rfl (lv_at hl 0 rfl) ?_
          refine lv_iconst (v := 1) hx hb dL_law_355 (by decide) ?_
          refine lv_iadd hx hb dL_law_356 ?_
          refine lv_topi (fun x356 e356 => ?_)
          have t356 : x356.toInt = k.toInt + 1 := by rw [e356]; exact xi_add rfl (by decide) (by omega) (by omega)
          refine va_sld hx hb hX hbl hbA hS (xi_in (by omega) (by omega)) dL_law_357 ?_
          refine xk_top (z := xs (k.toInt.toNat + 1)) (xk_rd (by omega)) ?_
          refine lv_aload_n hx hb dL_law_358 rfl (lv_at hl 3 rfl) ?_
          refine lv_iload_n hx hb dL_law_359 rfl (lv_at hl 0 rfl) ?_
          refine lv_iconst (v := 2) hx hb dL_law_360 (by decide) ?_
          refine lv_iadd hx hb dL_law_361 ?_
          refine lv_topi (fun x361 e361 => ?_)
          have t361 : x361.toInt = k.toInt + 2 := by rw [e361]; exact xi_add rfl (by decide) (by omega) (by omega)
          refine va_sld hx hb hX hbl hbA hS (xi_in (by omega) (by omega)) dL_law_362 ?_
          refine xk_top (z := xs (k.toInt.toNat + 2)) (xk_rd (by omega)) ?_
          refine lv_aload_n hx hb dL_law_363 rfl (lv_at hl 3 rfl) ?_
          refine lv_iload_n hx hb dL_law_364 rfl (lv_at hl 0 rfl) ?_
          refine lv_iconst (v := 3) hx hb dL_law_365 (by decide) ?_
          refine lv_iadd hx hb dL_law_366 ?_
          refine lv_topi (fun x366 e366 => ?_)
          have t366 : x366.toInt = k.toInt + 3 := by rw [e366]; exact xi_add rfl (by decide) (by omega) (by omega)
          refine va_sld hx hb hX hbl hbA hS (xi_in (by omega) (by omega)) dL_law_367 ?_
          refine xk_top (z := xs (k.toInt.toNat + 3)) (xk_rd (by omega)) ?_
          refine xk_Vi0 (As := [.int (xs (k.toInt.toNat + 1)), .int (xs (k.toInt.toNat + 2)), .int (xs (k.toInt.toNat + 3))]) (rest := [.int r349]) hx hb hml hown hts hK hN hZ hP hD hS hA mb_X8_foot mw_4_22 mw_4_23 mw_4_24 (c_X8_foot l D cI cZ cS q8_2 h1 h2 h3 h4 h5 h6 h7 h8 sz ln gse gte gsp gtl z (xs (k.toInt.toNat + 1)) (xs (k.toInt.toNat + 2)) (xs (k.toInt.toNat + 3)) (by exact hI.2.1)) [0, 1] 0 8 rfl rfl (by decide) rfl (fun _ => by simp only [List.map]) (by decide) (by decide) rfl hl.1 rfl (Nat.le_of_ble_eq_true rfl) dL_law_368 ⟨Nat.le_of_ble_eq_true rfl, Nat.le_of_ble_eq_true rfl⟩ (fun _ => rfl) (fun r368 _ H locs hw hP hD hS => ?_)
          have e368 : r368 = footR z (xs (k.toInt.toNat + 1)) (xs (k.toInt.toNat + 2)) (xs (k.toInt.toNat + 3)) := hw
          have hrr : r349 = r368 := p349.trans e368.symm
          refine lv_icmp_eq (tgt := 688) hx hb dL_law_371 (by decide) (fun c371 => ?_) (fun c371 => ?_)
          · have t371 : r349.toInt = r368.toInt := xi_eq rfl rfl c371
            have d371 : r349 = r368 := c371
            obtain ⟨x688, e688⟩ : ∃ y : Int32, y = k + 4 := ⟨_, rfl⟩
            have t688 : x688.toInt = k.toInt + 4 := by rw [e688]; exact xi_add rfl (by decide) (by omega) (by omega)
            refine lv_iinc (v := x688) (lv' := [(3, .int x688), (2, .ref q8_2), (1, .ref q0_1), (0, .ref b)]) hx hb dL_law_688 hl (k := 0) rfl (by rw [e688]; rfl) (by decide) rfl (fun ls hl => ?_)
            refine lv_goto (tgt := 18) hx hb dL_law_691 (by decide) ?_
            have q18 : (([(q8_2, .inr (8, [.ref h1, .ref h2, .ref h3, .int sz, .ref h4, .ref h5, .ref h6, .int ln, .int gse, .int gte, .int gsp, .ref h7, .ref h8, .int gtl])), (h1, .inl (cI, 190, .inl z)), (h2, .inl (cI, 190, .inl spare)), (h3, .inl (cI, 1140, .inl past)), (h4, .inl (cI, 380, .inl slots)), (h5, .inl (cZ, 2, .inl sv)), (h6, .inl (cI, 60, .inl pd)), (h7, .inl (cI, 120, .inl tf)), (h8, .inl (cI, 10, .inl tmm))] ++ (xwW cI cZ cS q0_1 xa xv ho0 ho1 pd0 pd1 m0 ts0 ts1 a ha sa cn cs sc tm tv pd sv ln old sz z)) : va_W) = ([(q8_2, .inr (8, [.ref h1, .ref h2, .ref h3, .int sz, .ref h4, .ref h5, .ref h6, .int ln, .int gse, .int gte, .int gsp, .ref h7, .ref h8, .int gtl])), (h1, .inl (cI, 190, .inl z)), (h2, .inl (cI, 190, .inl spare)), (h3, .inl (cI, 1140, .inl past)), (h4, .inl (cI, 380, .inl slots)), (h5, .inl (cZ, 2, .inl sv)), (h6, .inl (cI, 60, .inl pd)), (h7, .inl (cI, 120, .inl tf)), (h8, .inl (cI, 10, .inl tmm))] ++ (xwW cI cZ cS q0_1 xs xv ho0 ho1 pd0 pd1 m0 ts0 ts1 a ha sa cn cs sc tm tv pd sv ln old sz z)) := by rfl
            exact ih18  x688 cn cs sc tm tv pd sv ln old sz z spare past slots tf tmm gse gte gsp gtl (by omega) (by exact LI_mono (by omega) hLI) (by omega) _ _ (xk_P hP q18) (xk_D hD q18) hS ls (lv_sub hl [0, 1, 2, 3] rfl)
          · have t371 : ¬ r349.toInt = r368.toInt := xi_ne rfl rfl c371
            have d371 : ¬ r349 = r368 := c371
            exact absurd hrr c371
        · refine lv_tableIn (off := 344) (tgt := 376) hx hb dL_law_32 (by rw [t32]; decide) (by rw [t32]; decide) (by rw [t32]; rfl) (by decide) ?_
          refine lv_aload_n hx hb dL_law_376 rfl (lv_at hl 2 rfl) ?_
          refine lv_aload_n hx hb dL_law_377 rfl (lv_at hl 3 rfl) ?_
          refine lv_iload_n hx hb dL_law_378 rfl (lv_at hl 0 rfl) ?_
          refine lv_iconst (v := 1) hx hb dL_law_379 (by decide) ?_
          refine lv_iadd hx hb dL_law_380 ?_
          refine lv_topi (fun x380 e380 => ?_)
          have t380 : x380.toInt = k.toInt + 1 := by rw [e380]; exact xi_add rfl (by decide) (by omega) (by omega)
          refine va_sld hx hb hX hbl hbA hS (xi_in (by omega) (by omega)) dL_law_381 ?_
          refine xk_top (z := xs (k.toInt.toNat + 1)) (xk_rd (by omega)) ?_
          refine lv_aload_n hx hb dL_law_382 rfl (lv_at hl 3 rfl) ?_
          refine lv_iload_n hx hb dL_law_383 rfl (lv_at hl 0 rfl) ?_
          refine lv_iconst (v := 2) hx hb dL_law_384 (by decide) ?_
          refine lv_iadd hx hb dL_law_385 ?_
          refine lv_topi (fun x385 e385 => ?_)
          have t385 : x385.toInt = k.toInt + 2 := by rw [e385]; exact xi_add rfl (by decide) (by omega) (by omega)
          refine va_sld hx hb hX hbl hbA hS (xi_in (by omega) (by omega)) dL_law_386 ?_
          refine xk_top (z := xs (k.toInt.toNat + 2)) (xk_rd (by omega)) ?_
          refine xk_Vi (As := [.int (xs (k.toInt.toNat + 1)), .int (xs (k.toInt.toNat + 2))]) (rest := []) hx hb hml hown hts hK hN hZ (xg_P hP List.perm_append_comm) (xg_D hD List.perm_append_comm) hS hA mb_X7_stretch mw_2_199 mw_2_200 mw_2_201 (k_X7_stretch l D cI cZ cS x0 xs xv ho0 ho1 pd0 pd1 m0 ts0 ts1 a ha sa cn cs sc tm tv pd sv ln old sz z (xs (k.toInt.toNat + 1)) (xs (k.toInt.toNat + 2)) hRS hI) (List.range ((xwW cI cZ cS q0_1 xa xv ho0 ho1 pd0 pd1 m0 ts0 ts1 a ha sa cn cs sc tm tv pd sv ln old sz z) : va_W).length) 0 7 rfl rfl (xg_ndr _) (xg_range _ _) (fun _ => by exact xwW_f) (by decide) (by decide) rfl hl.1 rfl (Nat.le_of_ble_eq_true rfl) dL_law_387 ⟨Nat.zero_le _, Nat.zero_le _⟩ (fun r387 u387 H locs hw hP hD hS => ?_)
          have p387 : strA z (xs (k.toInt.toNat + 1)) (xs (k.toInt.toNat + 2)) r387 := hw
          have hP : va_P D vwCl ((xwW cI cZ cS q0_1 xa xv ho0 ho1 pd0 pd1 m0 ts0 ts1 a ha sa cn cs sc tm tv pd sv ln old sz z) ++ [(q8_2, .inr (8, [.ref h1, .ref h2, .ref h3, .int sz, .ref h4, .ref h5, .ref h6, .int ln, .int gse, .int gte, .int gsp, .ref h7, .ref h8, .int gtl])), (h1, .inl (cI, 190, .inl z)), (h2, .inl (cI, 190, .inl spare)), (h3, .inl (cI, 1140, .inl past)), (h4, .inl (cI, 380, .inl slots)), (h5, .inl (cZ, 2, .inl sv)), (h6, .inl (cI, 60, .inl pd)), (h7, .inl (cI, 120, .inl tf)), (h8, .inl (cI, 10, .inl tmm))]) H := xk_P hP (xg_set (by exact xwW_f))
          have hD : va_D A ((xwW cI cZ cS q0_1 xa xv ho0 ho1 pd0 pd1 m0 ts0 ts1 a ha sa cn cs sc tm tv pd sv ln old sz z) ++ [(q8_2, .inr (8, [.ref h1, .ref h2, .ref h3, .int sz, .ref h4, .ref h5, .ref h6, .int ln, .int gse, .int gte, .int gsp, .ref h7, .ref h8, .int gtl])), (h1, .inl (cI, 190, .inl z)), (h2, .inl (cI, 190, .inl spare)), (h3, .inl (cI, 1140, .inl past)), (h4, .inl (cI, 380, .inl slots)), (h5, .inl (cZ, 2, .inl sv)), (h6, .inl (cI, 60, .inl pd)), (h7, .inl (cI, 120, .inl tf)), (h8, .inl (cI, 10, .inl tmm))]) := xk_D hD (xg_set (by exact xwW_f))
          have hP := xg_P hP List.perm_append_comm
          have hD := xg_D hD List.perm_append_comm
          have hP : va_P D vwCl ([(q8_2, .inr (8, [.ref h1, .ref h2, .ref h3, .int sz, .ref h4, .ref h5, .ref h6, .int ln, .int gse, .int gte, .int gsp, .ref h7, .ref h8, .int gtl])), (h1, .inl (cI, 190, .inl z)), (h2, .inl (cI, 190, .inl spare)), (h3, .inl (cI, 1140, .inl past)), (h4, .inl (cI, 380, .inl slots)), (h5, .inl (cZ, 2, .inl sv)), (h6, .inl (cI, 60, .inl pd)), (h7, .inl (cI, 120, .inl tf)), (h8, .inl (cI, 10, .inl tmm))] ++ (xwW cI cZ cS q0_1 xa xv ho0 ho1 pd0 pd1 m0 ts0 ts1 a ha sa cn cs sc tm tv pd sv ln old sz z)) H := hP
          have hD : va_D A ([(q8_2, .inr (8, [.ref h1, .ref h2, .ref h3, .int sz, .ref h4, .ref h5, .ref h6, .int ln, .int gse, .int gte, .int gsp, .ref h7, .ref h8, .int gtl])), (h1, .inl (cI, 190, .inl z)), (h2, .inl (cI, 190, .inl spare)), (h3, .inl (cI, 1140, .inl past)), (h4, .inl (cI, 380, .inl slots)), (h5, .inl (cZ, 2, .inl sv)), (h6, .inl (cI, 60, .inl pd)), (h7, .inl (cI, 120, .inl tf)), (h8, .inl (cI, 10, .inl tmm))] ++ (xwW cI cZ cS q0_1 xa xv ho0 ho1 pd0 pd1 m0 ts0 ts1 a ha sa cn cs sc tm tv pd sv ln old sz z)) := hD
          refine lv_aload_n hx hb dL_law_390 rfl (lv_at hl 1 rfl) ?_
          refine lv_aload_n hx hb dL_law_391 rfl (lv_at hl 3 rfl) ?_
          refine lv_iload_n hx hb dL_law_392 rfl (lv_at hl 0 rfl) ?_
          refine lv_iconst (v := 1) hx hb dL_law_393 (by decide) ?_
          refine lv_iadd hx hb dL_law_394 ?_
          refine lv_topi (fun x394 e394 => ?_)
          have t394 : x394.toInt = k.toInt + 1 := by rw [e394]; exact xi_add rfl (by decide) (by omega) (by omega)
          refine va_sld hx hb hX hbl hbA hS (xi_in (by omega) (by omega)) dL_law_395 ?_
          refine xk_top (z := xs (k.toInt.toNat + 1)) (xk_rd (by omega)) ?_
          refine lv_aload_n hx hb dL_law_396 rfl (lv_at hl 3 rfl) ?_
          refine lv_iload_n hx hb dL_law_397 rfl (lv_at hl 0 rfl) ?_
          refine lv_iconst (v := 2) hx hb dL_law_398 (by decide) ?_
          refine lv_iadd hx hb dL_law_399 ?_
          refine lv_topi (fun x399 e399 => ?_)
          have t399 : x399.toInt = k.toInt + 2 := by rw [e399]; exact xi_add rfl (by decide) (by omega) (by omega)
          refine va_sld hx hb hX hbl hbA hS (xi_in (by omega) (by omega)) dL_law_400 ?_
          refine xk_top (z := xs (k.toInt.toNat + 2)) (xk_rd (by omega)) ?_
          refine xk_Vi0 (As := [.int (xs (k.toInt.toNat + 1)), .int (xs (k.toInt.toNat + 2))]) (rest := [.int r387]) hx hb hml hown hts hK hN hZ hP hD hS hA mb_X8_stretch mw_4_26 mw_4_27 mw_4_28 (c_X8_stretch l D cI cZ cS q8_2 h1 h2 h3 h4 h5 h6 h7 h8 sz ln gse gte gsp gtl z (xs (k.toInt.toNat + 1)) (xs (k.toInt.toNat + 2)) (by exact hI.2.2.1) (by exact hI.1.2.2.2.2)) [0, 1] 0 8 rfl rfl (by decide) rfl (fun _ => by simp only [List.map]) (by decide) (by decide) rfl hl.1 rfl (Nat.le_of_ble_eq_true rfl) dL_law_401 ⟨Nat.le_of_ble_eq_true rfl, Nat.le_of_ble_eq_true rfl⟩ (fun _ => rfl) (fun r401 _ H locs hw hP hD hS => ?_)
          have p401 : strA z (xs (k.toInt.toNat + 1)) (xs (k.toInt.toNat + 2)) r401 := hw
          have hrr : r387 = r401 := strA_u p387 p401
          refine lv_icmp_eq (tgt := 688) hx hb dL_law_404 (by decide) (fun c404 => ?_) (fun c404 => ?_)
          · have t404 : r387.toInt = r401.toInt := xi_eq rfl rfl c404
            have d404 : r387 = r401 := c404
            obtain ⟨x688, e688⟩ : ∃ y : Int32, y = k + 4 := ⟨_, rfl⟩
            have t688 : x688.toInt = k.toInt + 4 := by rw [e688]; exact xi_add rfl (by decide) (by omega) (by omega)
            refine lv_iinc (v := x688) (lv' := [(3, .int x688), (2, .ref q8_2), (1, .ref q0_1), (0, .ref b)]) hx hb dL_law_688 hl (k := 0) rfl (by rw [e688]; rfl) (by decide) rfl (fun ls hl => ?_)
            refine lv_goto (tgt := 18) hx hb dL_law_691 (by decide) ?_
            have q18 : (([(q8_2, .inr (8, [.ref h1, .ref h2, .ref h3, .int sz, .ref h4, .ref h5, .ref h6, .int ln, .int gse, .int gte, .int gsp, .ref h7, .ref h8, .int gtl])), (h1, .inl (cI, 190, .inl z)), (h2, .inl (cI, 190, .inl spare)), (h3, .inl (cI, 1140, .inl past)), (h4, .inl (cI, 380, .inl slots)), (h5, .inl (cZ, 2, .inl sv)), (h6, .inl (cI, 60, .inl pd)), (h7, .inl (cI, 120, .inl tf)), (h8, .inl (cI, 10, .inl tmm))] ++ (xwW cI cZ cS q0_1 xa xv ho0 ho1 pd0 pd1 m0 ts0 ts1 a ha sa cn cs sc tm tv pd sv ln old sz z)) : va_W) = ([(q8_2, .inr (8, [.ref h1, .ref h2, .ref h3, .int sz, .ref h4, .ref h5, .ref h6, .int ln, .int gse, .int gte, .int gsp, .ref h7, .ref h8, .int gtl])), (h1, .inl (cI, 190, .inl z)), (h2, .inl (cI, 190, .inl spare)), (h3, .inl (cI, 1140, .inl past)), (h4, .inl (cI, 380, .inl slots)), (h5, .inl (cZ, 2, .inl sv)), (h6, .inl (cI, 60, .inl pd)), (h7, .inl (cI, 120, .inl tf)), (h8, .inl (cI, 10, .inl tmm))] ++ (xwW cI cZ cS q0_1 xs xv ho0 ho1 pd0 pd1 m0 ts0 ts1 a ha sa cn cs sc tm tv pd sv ln old sz z)) := by rfl
            exact ih18  x688 cn cs sc tm tv pd sv ln old sz z spare past slots tf tmm gse gte gsp gtl (by omega) (by exact LI_mono (by omega) hLI) (by omega) _ _ (xk_P hP q18) (xk_D hD q18) hS ls (lv_sub hl [0, 1, 2, 3] rfl)
          · have t404 : ¬ r387.toInt = r401.toInt := xi_ne rfl rfl c404
            have d404 : ¬ r387 = r401 := c404
            exact absurd hrr c404
        · refine lv_tableIn (off := 377) (tgt := 409) hx hb dL_law_32 (by rw [t32]; decide) (by rw [t32]; decide) (by rw [t32]; rfl) (by decide) ?_
          refine lv_aload_n hx hb dL_law_409 rfl (lv_at hl 2 rfl) ?_
          refine lv_aload_n hx hb dL_law_410 rfl (lv_at hl 3 rfl) ?_
          refine lv_iload_n hx hb dL_law_411 rfl (lv_at hl 0 rfl) ?_
          refine lv_iconst (v := 1) hx hb dL_law_412 (by decide) ?_
          refine lv_iadd hx hb dL_law_413 ?_
          refine lv_topi (fun x413 e413 => ?_)
          have t413 : x413.toInt = k.toInt + 1 := by rw [e413]; exact xi_add rfl (by decide) (by omega) (by omega)
          refine va_sld hx hb hX hbl hbA hS (xi_in (by omega) (by omega)) dL_law_414 ?_
          refine xk_top (z := xs (k.toInt.toNat + 1)) (xk_rd (by omega)) ?_
          refine xk_Vi (As := [.int (xs (k.toInt.toNat + 1))]) (rest := []) hx hb hml hown hts hK hN hZ (xg_P hP List.perm_append_comm) (xg_D hD List.perm_append_comm) hS hA mb_X7_walk mw_2_211 mw_2_212 mw_2_213 (k_X7_walk l D cI cZ cS x0 xs xv ho0 ho1 pd0 pd1 m0 ts0 ts1 a ha sa cn cs sc tm tv pd sv ln old sz z (xs (k.toInt.toNat + 1)) hRS hI) (List.range ((xwW cI cZ cS q0_1 xa xv ho0 ho1 pd0 pd1 m0 ts0 ts1 a ha sa cn cs sc tm tv pd sv ln old sz z) : va_W).length) 0 7 rfl rfl (xg_ndr _) (xg_range _ _) (fun _ => by exact xwW_f) (by decide) (by decide) rfl hl.1 rfl (Nat.le_of_ble_eq_true rfl) dL_law_415 ⟨Nat.zero_le _, Nat.zero_le _⟩ (fun r415 u415 H locs hw hP hD hS => ?_)
          have p415 : r415 = walkR z (xs (k.toInt.toNat + 1)) := hw
          have hP : va_P D vwCl ((xwW cI cZ cS q0_1 xa xv ho0 ho1 pd0 pd1 m0 ts0 ts1 a ha sa cn cs sc tm tv pd sv ln old sz z) ++ [(q8_2, .inr (8, [.ref h1, .ref h2, .ref h3, .int sz, .ref h4, .ref h5, .ref h6, .int ln, .int gse, .int gte, .int gsp, .ref h7, .ref h8, .int gtl])), (h1, .inl (cI, 190, .inl z)), (h2, .inl (cI, 190, .inl spare)), (h3, .inl (cI, 1140, .inl past)), (h4, .inl (cI, 380, .inl slots)), (h5, .inl (cZ, 2, .inl sv)), (h6, .inl (cI, 60, .inl pd)), (h7, .inl (cI, 120, .inl tf)), (h8, .inl (cI, 10, .inl tmm))]) H := xk_P hP (xg_set (by exact xwW_f))
          have hD : va_D A ((xwW cI cZ cS q0_1 xa xv ho0 ho1 pd0 pd1 m0 ts0 ts1 a ha sa cn cs sc tm tv pd sv ln old sz z) ++ [(q8_2, .inr (8, [.ref h1, .ref h2, .ref h3, .int sz, .ref h4, .ref h5, .ref h6, .int ln, .int gse, .int gte, .int gsp, .ref h7, .ref h8, .int gtl])), (h1, .inl (cI, 190, .inl z)), (h2, .inl (cI, 190, .inl spare)), (h3, .inl (cI, 1140, .inl past)), (h4, .inl (cI, 380, .inl slots)), (h5, .inl (cZ, 2, .inl sv)), (h6, .inl (cI, 60, .inl pd)), (h7, .inl (cI, 120, .inl tf)), (h8, .inl (cI, 10, .inl tmm))]) := xk_D hD (xg_set (by exact xwW_f))
          have hP := xg_P hP List.perm_append_comm
          have hD := xg_D hD List.perm_append_comm
          have hP : va_P D vwCl ([(q8_2, .inr (8, [.ref h1, .ref h2, .ref h3, .int sz, .ref h4, .ref h5, .ref h6, .int ln, .int gse, .int gte, .int gsp, .ref h7, .ref h8, .int gtl])), (h1, .inl (cI, 190, .inl z)), (h2, .inl (cI, 190, .inl spare)), (h3, .inl (cI, 1140, .inl past)), (h4, .inl (cI, 380, .inl slots)), (h5, .inl (cZ, 2, .inl sv)), (h6, .inl (cI, 60, .inl pd)), (h7, .inl (cI, 120, .inl tf)), (h8, .inl (cI, 10, .inl tmm))] ++ (xwW cI cZ cS q0_1 xa xv ho0 ho1 pd0 pd1 m0 ts0 ts1 a ha sa cn cs sc tm tv pd sv ln old sz z)) H := hP
          have hD : va_D A ([(q8_2, .inr (8, [.ref h1, .ref h2, .ref h3, .int sz, .ref h4, .ref h5, .ref h6, .int ln, .int gse, .int gte, .int gsp, .ref h7, .ref h8, .int gtl])), (h1, .inl (cI, 190, .inl z)), (h2, .inl (cI, 190, .inl spare)), (h3, .inl (cI, 1140, .inl past)), (h4, .inl (cI, 380, .inl slots)), (h5, .inl (cZ, 2, .inl sv)), (h6, .inl (cI, 60, .inl pd)), (h7, .inl (cI, 120, .inl tf)), (h8, .inl (cI, 10, .inl tmm))] ++ (xwW cI cZ cS q0_1 xa xv ho0 ho1 pd0 pd1 m0 ts0 ts1 a ha sa cn cs sc tm tv pd sv ln old sz z)) := hD
          refine lv_aload_n hx hb dL_law_418 rfl (lv_at hl 1 rfl) ?_
          refine lv_aload_n hx hb dL_law_419 rfl (lv_at hl 3 rfl) ?_
          refine lv_iload_n hx hb dL_law_420 rfl (lv_at hl 0 rfl) ?_
          refine lv_iconst (v := 1) hx hb dL_law_421 (by decide) ?_
          refine lv_iadd hx hb dL_law_422 ?_
          refine lv_topi (fun x422 e422 => ?_)
          have t422 : x422.toInt = k.toInt + 1 := by rw [e422]; exact xi_add rfl (by decide) (by omega) (by omega)
          refine va_sld hx hb hX hbl hbA hS (xi_in (by omega) (by omega)) dL_law_423 ?_
          refine xk_top (z := xs (k.toInt.toNat + 1)) (xk_rd (by omega)) ?_
          refine xk_Vi0 (As := [.int (xs (k.toInt.toNat + 1))]) (rest := [.int r415]) hx hb hml hown hts hK hN hZ hP hD hS hA mb_X8_walk mw_4_34 mw_4_35 mw_4_36 (c_X8_walk l D cI cZ cS q8_2 h1 h2 h3 h4 h5 h6 h7 h8 sz ln gse gte gsp gtl z (xs (k.toInt.toNat + 1)) ) [0, 1] 0 8 rfl rfl (by decide) rfl (fun _ => by simp only [List.map]) (by decide) (by decide) rfl hl.1 rfl (Nat.le_of_ble_eq_true rfl) dL_law_424 ⟨Nat.le_of_ble_eq_true rfl, Nat.le_of_ble_eq_true rfl⟩ (fun _ => rfl) (fun r424 _ H locs hw hP hD hS => ?_)
          have e424 : r424 = walkR z (xs (k.toInt.toNat + 1)) := hw
          have hrr : r415 = r424 := p415.trans e424.symm
          refine lv_icmp_eq (tgt := 688) hx hb dL_law_427 (by decide) (fun c427 => ?_) (fun c427 => ?_)
          · have t427 : r415.toInt = r424.toInt := xi_eq rfl rfl c427
            have d427 : r415 = r424 := c427
            obtain ⟨x688, e688⟩ : ∃ y : Int32, y = k + 4 := ⟨_, rfl⟩
            have t688 : x688.toInt = k.toInt + 4 := by rw [e688]; exact xi_add rfl (by decide) (by omega) (by omega)
            refine lv_iinc (v := x688) (lv' := [(3, .int x688), (2, .ref q8_2), (1, .ref q0_1), (0, .ref b)]) hx hb dL_law_688 hl (k := 0) rfl (by rw [e688]; rfl) (by decide) rfl (fun ls hl => ?_)
            refine lv_goto (tgt := 18) hx hb dL_law_691 (by decide) ?_
            have q18 : (([(q8_2, .inr (8, [.ref h1, .ref h2, .ref h3, .int sz, .ref h4, .ref h5, .ref h6, .int ln, .int gse, .int gte, .int gsp, .ref h7, .ref h8, .int gtl])), (h1, .inl (cI, 190, .inl z)), (h2, .inl (cI, 190, .inl spare)), (h3, .inl (cI, 1140, .inl past)), (h4, .inl (cI, 380, .inl slots)), (h5, .inl (cZ, 2, .inl sv)), (h6, .inl (cI, 60, .inl pd)), (h7, .inl (cI, 120, .inl tf)), (h8, .inl (cI, 10, .inl tmm))] ++ (xwW cI cZ cS q0_1 xa xv ho0 ho1 pd0 pd1 m0 ts0 ts1 a ha sa cn cs sc tm tv pd sv ln old sz z)) : va_W) = ([(q8_2, .inr (8, [.ref h1, .ref h2, .ref h3, .int sz, .ref h4, .ref h5, .ref h6, .int ln, .int gse, .int gte, .int gsp, .ref h7, .ref h8, .int gtl])), (h1, .inl (cI, 190, .inl z)), (h2, .inl (cI, 190, .inl spare)), (h3, .inl (cI, 1140, .inl past)), (h4, .inl (cI, 380, .inl slots)), (h5, .inl (cZ, 2, .inl sv)), (h6, .inl (cI, 60, .inl pd)), (h7, .inl (cI, 120, .inl tf)), (h8, .inl (cI, 10, .inl tmm))] ++ (xwW cI cZ cS q0_1 xs xv ho0 ho1 pd0 pd1 m0 ts0 ts1 a ha sa cn cs sc tm tv pd sv ln old sz z)) := by rfl
            exact ih18  x688 cn cs sc tm tv pd sv ln old sz z spare past slots tf tmm gse gte gsp gtl (by omega) (by exact LI_mono (by omega) hLI) (by omega) _ _ (xk_P hP q18) (xk_D hD q18) hS ls (lv_sub hl [0, 1, 2, 3] rfl)
          · have t427 : ¬ r415.toInt = r424.toInt := xi_ne rfl rfl c427
            have d427 : ¬ r415 = r424 := c427
            exact absurd hrr c427
        · refine lv_tableIn (off := 400) (tgt := 432) hx hb dL_law_32 (by rw [t32]; decide) (by rw [t32]; decide) (by rw [t32]; rfl) (by decide) ?_
          refine lv_aload_n hx hb dL_law_432 rfl (lv_at hl 2 rfl) ?_
          refine lv_aload_n hx hb dL_law_433 rfl (lv_at hl 3 rfl) ?_
          refine lv_iload_n hx hb dL_law_434 rfl (lv_at hl 0 rfl) ?_
          refine lv_iconst (v := 1) hx hb dL_law_435 (by decide) ?_
          refine lv_iadd hx hb dL_law_436 ?_
          refine lv_topi (fun x436 e436 => ?_)
          have t436 : x436.toInt = k.toInt + 1 := by rw [e436]; exact xi_add rfl (by decide) (by omega) (by omega)
          refine va_sld hx hb hX hbl hbA hS (xi_in (by omega) (by omega)) dL_law_437 ?_
          refine xk_top (z := xs (k.toInt.toNat + 1)) (xk_rd (by omega)) ?_
          refine xk_Vi (As := [.int (xs (k.toInt.toNat + 1))]) (rest := []) hx hb hml hown hts hK hN hZ (xg_P hP List.perm_append_comm) (xg_D hD List.perm_append_comm) hS hA mb_X7_count mw_2_215 mw_2_216 mw_2_217 (k_X7_count l D cI cZ cS x0 xs xv ho0 ho1 pd0 pd1 m0 ts0 ts1 a ha sa cn cs sc tm tv pd sv ln old sz z (xs (k.toInt.toNat + 1)) hRS hI) (List.range ((xwW cI cZ cS q0_1 xa xv ho0 ho1 pd0 pd1 m0 ts0 ts1 a ha sa cn cs sc tm tv pd sv ln old sz z) : va_W).length) 0 7 rfl rfl (xg_ndr _) (xg_range _ _) (fun _ => by exact xwW_f) (by decide) (by decide) rfl hl.1 rfl (Nat.le_of_ble_eq_true rfl) dL_law_438 ⟨Nat.zero_le _, Nat.zero_le _⟩ (fun r438 u438 H locs hw hP hD hS => ?_)
          have p438 : r438 = cntR z ln sz (xs (k.toInt.toNat + 1)) := hw
          have hP : va_P D vwCl ((xwW cI cZ cS q0_1 xa xv ho0 ho1 pd0 pd1 m0 ts0 ts1 a ha sa cn cs sc tm tv pd sv ln old sz z) ++ [(q8_2, .inr (8, [.ref h1, .ref h2, .ref h3, .int sz, .ref h4, .ref h5, .ref h6, .int ln, .int gse, .int gte, .int gsp, .ref h7, .ref h8, .int gtl])), (h1, .inl (cI, 190, .inl z)), (h2, .inl (cI, 190, .inl spare)), (h3, .inl (cI, 1140, .inl past)), (h4, .inl (cI, 380, .inl slots)), (h5, .inl (cZ, 2, .inl sv)), (h6, .inl (cI, 60, .inl pd)), (h7, .inl (cI, 120, .inl tf)), (h8, .inl (cI, 10, .inl tmm))]) H := xk_P hP (xg_set (by exact xwW_f))
          have hD : va_D A ((xwW cI cZ cS q0_1 xa xv ho0 ho1 pd0 pd1 m0 ts0 ts1 a ha sa cn cs sc tm tv pd sv ln old sz z) ++ [(q8_2, .inr (8, [.ref h1, .ref h2, .ref h3, .int sz, .ref h4, .ref h5, .ref h6, .int ln, .int gse, .int gte, .int gsp, .ref h7, .ref h8, .int gtl])), (h1, .inl (cI, 190, .inl z)), (h2, .inl (cI, 190, .inl spare)), (h3, .inl (cI, 1140, .inl past)), (h4, .inl (cI, 380, .inl slots)), (h5, .inl (cZ, 2, .inl sv)), (h6, .inl (cI, 60, .inl pd)), (h7, .inl (cI, 120, .inl tf)), (h8, .inl (cI, 10, .inl tmm))]) := xk_D hD (xg_set (by exact xwW_f))
          have hP := xg_P hP List.perm_append_comm
          have hD := xg_D hD List.perm_append_comm
          have hP : va_P D vwCl ([(q8_2, .inr (8, [.ref h1, .ref h2, .ref h3, .int sz, .ref h4, .ref h5, .ref h6, .int ln, .int gse, .int gte, .int gsp, .ref h7, .ref h8, .int gtl])), (h1, .inl (cI, 190, .inl z)), (h2, .inl (cI, 190, .inl spare)), (h3, .inl (cI, 1140, .inl past)), (h4, .inl (cI, 380, .inl slots)), (h5, .inl (cZ, 2, .inl sv)), (h6, .inl (cI, 60, .inl pd)), (h7, .inl (cI, 120, .inl tf)), (h8, .inl (cI, 10, .inl tmm))] ++ (xwW cI cZ cS q0_1 xa xv ho0 ho1 pd0 pd1 m0 ts0 ts1 a ha sa cn cs sc tm tv pd sv ln old sz z)) H := hP
          have hD : va_D A ([(q8_2, .inr (8, [.ref h1, .ref h2, .ref h3, .int sz, .ref h4, .ref h5, .ref h6, .int ln, .int gse, .int gte, .int gsp, .ref h7, .ref h8, .int gtl])), (h1, .inl (cI, 190, .inl z)), (h2, .inl (cI, 190, .inl spare)), (h3, .inl (cI, 1140, .inl past)), (h4, .inl (cI, 380, .inl slots)), (h5, .inl (cZ, 2, .inl sv)), (h6, .inl (cI, 60, .inl pd)), (h7, .inl (cI, 120, .inl tf)), (h8, .inl (cI, 10, .inl tmm))] ++ (xwW cI cZ cS q0_1 xa xv ho0 ho1 pd0 pd1 m0 ts0 ts1 a ha sa cn cs sc tm tv pd sv ln old sz z)) := hD
          refine lv_aload_n hx hb dL_law_441 rfl (lv_at hl 1 rfl) ?_
          refine lv_aload_n hx hb dL_law_442 rfl (lv_at hl 3 rfl) ?_
          refine lv_iload_n hx hb dL_law_443 rfl (lv_at hl 0 rfl) ?_
          refine lv_iconst (v := 1) hx hb dL_law_444 (by decide) ?_
          refine lv_iadd hx hb dL_law_445 ?_
          refine lv_topi (fun x445 e445 => ?_)
          have t445 : x445.toInt = k.toInt + 1 := by rw [e445]; exact xi_add rfl (by decide) (by omega) (by omega)
          refine va_sld hx hb hX hbl hbA hS (xi_in (by omega) (by omega)) dL_law_446 ?_
          refine xk_top (z := xs (k.toInt.toNat + 1)) (xk_rd (by omega)) ?_
          refine xk_Vi0 (As := [.int (xs (k.toInt.toNat + 1))]) (rest := [.int r438]) hx hb hml hown hts hK hN hZ hP hD hS hA mb_X8_count mw_4_38 mw_4_39 mw_4_40 (c_X8_count l D cI cZ cS q8_2 h1 h2 h3 h4 h5 h6 h7 h8 sz ln gse gte gsp gtl z (xs (k.toInt.toNat + 1)) (by exact hI.2.1) (by exact hI.2.2.1)) [0, 1] 0 8 rfl rfl (by decide) rfl (fun _ => by simp only [List.map]) (by decide) (by decide) rfl hl.1 rfl (Nat.le_of_ble_eq_true rfl) dL_law_447 ⟨Nat.le_of_ble_eq_true rfl, Nat.le_of_ble_eq_true rfl⟩ (fun _ => rfl) (fun r447 _ H locs hw hP hD hS => ?_)
          have e447 : r447 = cntR z ln sz (xs (k.toInt.toNat + 1)) := hw
          have hrr : r438 = r447 := p438.trans e447.symm
          refine lv_icmp_eq (tgt := 688) hx hb dL_law_450 (by decide) (fun c450 => ?_) (fun c450 => ?_)
          · have t450 : r438.toInt = r447.toInt := xi_eq rfl rfl c450
            have d450 : r438 = r447 := c450
            obtain ⟨x688, e688⟩ : ∃ y : Int32, y = k + 4 := ⟨_, rfl⟩
            have t688 : x688.toInt = k.toInt + 4 := by rw [e688]; exact xi_add rfl (by decide) (by omega) (by omega)
            refine lv_iinc (v := x688) (lv' := [(3, .int x688), (2, .ref q8_2), (1, .ref q0_1), (0, .ref b)]) hx hb dL_law_688 hl (k := 0) rfl (by rw [e688]; rfl) (by decide) rfl (fun ls hl => ?_)
            refine lv_goto (tgt := 18) hx hb dL_law_691 (by decide) ?_
            have q18 : (([(q8_2, .inr (8, [.ref h1, .ref h2, .ref h3, .int sz, .ref h4, .ref h5, .ref h6, .int ln, .int gse, .int gte, .int gsp, .ref h7, .ref h8, .int gtl])), (h1, .inl (cI, 190, .inl z)), (h2, .inl (cI, 190, .inl spare)), (h3, .inl (cI, 1140, .inl past)), (h4, .inl (cI, 380, .inl slots)), (h5, .inl (cZ, 2, .inl sv)), (h6, .inl (cI, 60, .inl pd)), (h7, .inl (cI, 120, .inl tf)), (h8, .inl (cI, 10, .inl tmm))] ++ (xwW cI cZ cS q0_1 xa xv ho0 ho1 pd0 pd1 m0 ts0 ts1 a ha sa cn cs sc tm tv pd sv ln old sz z)) : va_W) = ([(q8_2, .inr (8, [.ref h1, .ref h2, .ref h3, .int sz, .ref h4, .ref h5, .ref h6, .int ln, .int gse, .int gte, .int gsp, .ref h7, .ref h8, .int gtl])), (h1, .inl (cI, 190, .inl z)), (h2, .inl (cI, 190, .inl spare)), (h3, .inl (cI, 1140, .inl past)), (h4, .inl (cI, 380, .inl slots)), (h5, .inl (cZ, 2, .inl sv)), (h6, .inl (cI, 60, .inl pd)), (h7, .inl (cI, 120, .inl tf)), (h8, .inl (cI, 10, .inl tmm))] ++ (xwW cI cZ cS q0_1 xs xv ho0 ho1 pd0 pd1 m0 ts0 ts1 a ha sa cn cs sc tm tv pd sv ln old sz z)) := by rfl
            exact ih18  x688 cn cs sc tm tv pd sv ln old sz z spare past slots tf tmm gse gte gsp gtl (by omega) (by exact LI_mono (by omega) hLI) (by omega) _ _ (xk_P hP q18) (xk_D hD q18) hS ls (lv_sub hl [0, 1, 2, 3] rfl)
          · have t450 : ¬ r438.toInt = r447.toInt := xi_ne rfl rfl c450
            have d450 : ¬ r438 = r447 := c450
            exact absurd hrr c450
        · refine lv_tableIn (off := 423) (tgt := 455) hx hb dL_law_32 (by rw [t32]; decide) (by rw [t32]; decide) (by rw [t32]; rfl) (by decide) ?_
          refine lv_aload_n hx hb dL_law_455 rfl (lv_at hl 2 rfl) ?_
          refine lv_aload_n hx hb dL_law_456 rfl (lv_at hl 3 rfl) ?_
          refine lv_iload_n hx hb dL_law_457 rfl (lv_at hl 0 rfl) ?_
          refine lv_iconst (v := 1) hx hb dL_law_458 (by decide) ?_
          refine lv_iadd hx hb dL_law_459 ?_
          refine lv_topi (fun x459 e459 => ?_)
          have t459 : x459.toInt = k.toInt + 1 := by rw [e459]; exact xi_add rfl (by decide) (by omega) (by omega)
          refine va_sld hx hb hX hbl hbA hS (xi_in (by omega) (by omega)) dL_law_460 ?_
          refine xk_top (z := xs (k.toInt.toNat + 1)) (xk_rd (by omega)) ?_
          refine xk_Vi (As := [.int (xs (k.toInt.toNat + 1))]) (rest := []) hx hb hml hown hts hK hN hZ (xg_P hP List.perm_append_comm) (xg_D hD List.perm_append_comm) hS hA mb_X7_untilWalked mw_2_233 mw_2_234 mw_2_235 (k_X7_untilWalked l D cI cZ cS x0 xs xv ho0 ho1 pd0 pd1 m0 ts0 ts1 a ha sa cn cs sc tm tv pd sv ln old sz z (xs (k.toInt.toNat + 1)) hRS hI) (List.range ((xwW cI cZ cS q0_1 xa xv ho0 ho1 pd0 pd1 m0 ts0 ts1 a ha sa cn cs sc tm tv pd sv ln old sz z) : va_W).length) 0 7 rfl rfl (xg_ndr _) (xg_range _ _) (fun _ => by exact xwW_f) (by decide) (by decide) rfl hl.1 rfl (Nat.le_of_ble_eq_true rfl) dL_law_461 ⟨Nat.zero_le _, Nat.zero_le _⟩ (fun r461 u461 H locs hw hP hD hS => ?_)
          obtain ⟨tq_461, rfl⟩ : ∃ q, q = u461 := ⟨_, rfl⟩
          have p461 : r461 = untR z (xs (k.toInt.toNat + 1)) := hw
          have hP : va_P D vwCl ((xwW cI cZ cS q0_1 xa xv ho0 ho1 pd0 pd1 m0 ts0 ts1 a ha sa cn cs sc tq_461 tv pd sv ln old sz z) ++ [(q8_2, .inr (8, [.ref h1, .ref h2, .ref h3, .int sz, .ref h4, .ref h5, .ref h6, .int ln, .int gse, .int gte, .int gsp, .ref h7, .ref h8, .int gtl])), (h1, .inl (cI, 190, .inl z)), (h2, .inl (cI, 190, .inl spare)), (h3, .inl (cI, 1140, .inl past)), (h4, .inl (cI, 380, .inl slots)), (h5, .inl (cZ, 2, .inl sv)), (h6, .inl (cI, 60, .inl pd)), (h7, .inl (cI, 120, .inl tf)), (h8, .inl (cI, 10, .inl tmm))]) H := xk_P hP (xg_set (by exact xwW_f))
          have hD : va_D A ((xwW cI cZ cS q0_1 xa xv ho0 ho1 pd0 pd1 m0 ts0 ts1 a ha sa cn cs sc tq_461 tv pd sv ln old sz z) ++ [(q8_2, .inr (8, [.ref h1, .ref h2, .ref h3, .int sz, .ref h4, .ref h5, .ref h6, .int ln, .int gse, .int gte, .int gsp, .ref h7, .ref h8, .int gtl])), (h1, .inl (cI, 190, .inl z)), (h2, .inl (cI, 190, .inl spare)), (h3, .inl (cI, 1140, .inl past)), (h4, .inl (cI, 380, .inl slots)), (h5, .inl (cZ, 2, .inl sv)), (h6, .inl (cI, 60, .inl pd)), (h7, .inl (cI, 120, .inl tf)), (h8, .inl (cI, 10, .inl tmm))]) := xk_D hD (xg_set (by exact xwW_f))
          have hP := xg_P hP List.perm_append_comm
          have hD := xg_D hD List.perm_append_comm
          have hP : va_P D vwCl ([(q8_2, .inr (8, [.ref h1, .ref h2, .ref h3, .int sz, .ref h4, .ref h5, .ref h6, .int ln, .int gse, .int gte, .int gsp, .ref h7, .ref h8, .int gtl])), (h1, .inl (cI, 190, .inl z)), (h2, .inl (cI, 190, .inl spare)), (h3, .inl (cI, 1140, .inl past)), (h4, .inl (cI, 380, .inl slots)), (h5, .inl (cZ, 2, .inl sv)), (h6, .inl (cI, 60, .inl pd)), (h7, .inl (cI, 120, .inl tf)), (h8, .inl (cI, 10, .inl tmm))] ++ (xwW cI cZ cS q0_1 xa xv ho0 ho1 pd0 pd1 m0 ts0 ts1 a ha sa cn cs sc tq_461 tv pd sv ln old sz z)) H := hP
          have hD : va_D A ([(q8_2, .inr (8, [.ref h1, .ref h2, .ref h3, .int sz, .ref h4, .ref h5, .ref h6, .int ln, .int gse, .int gte, .int gsp, .ref h7, .ref h8, .int gtl])), (h1, .inl (cI, 190, .inl z)), (h2, .inl (cI, 190, .inl spare)), (h3, .inl (cI, 1140, .inl past)), (h4, .inl (cI, 380, .inl slots)), (h5, .inl (cZ, 2, .inl sv)), (h6, .inl (cI, 60, .inl pd)), (h7, .inl (cI, 120, .inl tf)), (h8, .inl (cI, 10, .inl tmm))] ++ (xwW cI cZ cS q0_1 xa xv ho0 ho1 pd0 pd1 m0 ts0 ts1 a ha sa cn cs sc tq_461 tv pd sv ln old sz z)) := hD
          refine lv_aload_n hx hb dL_law_464 rfl (lv_at hl 1 rfl) ?_
          refine lv_aload_n hx hb dL_law_465 rfl (lv_at hl 3 rfl) ?_
          refine lv_iload_n hx hb dL_law_466 rfl (lv_at hl 0 rfl) ?_
          refine lv_iconst (v := 1) hx hb dL_law_467 (by decide) ?_
          refine lv_iadd hx hb dL_law_468 ?_
          refine lv_topi (fun x468 e468 => ?_)
          have t468 : x468.toInt = k.toInt + 1 := by rw [e468]; exact xi_add rfl (by decide) (by omega) (by omega)
          refine va_sld hx hb hX hbl hbA hS (xi_in (by omega) (by omega)) dL_law_469 ?_
          refine xk_top (z := xs (k.toInt.toNat + 1)) (xk_rd (by omega)) ?_
          refine xk_Vi (As := [.int (xs (k.toInt.toNat + 1))]) (rest := [.int r461]) hx hb hml hown hts hK hN hZ hP hD hS hA mb_X8_untilWalked mw_4_54 mw_4_55 mw_4_56 (c_X8_untilWalked l D cI cZ cS q8_2 h1 h2 h3 h4 h5 h6 h7 h8 sz ln gse gte gsp gtl z spare (xs (k.toInt.toNat + 1)) (by exact hI)) [0, 1, 2] 0 8 rfl rfl (by decide) rfl (fun _ => by simp only [List.map]) (by decide) (by decide) rfl hl.1 rfl (Nat.le_of_ble_eq_true rfl) dL_law_470 ⟨Nat.le_of_ble_eq_true rfl, Nat.le_of_ble_eq_true rfl⟩ (fun r470 u470 H locs hw hP hD hS => ?_)
          obtain ⟨w470_0, w470_1, w470_2⟩ := u470
          have hP : va_P D vwCl ([(q8_2, .inr (8, [.ref h1, .ref h2, .ref h3, .int sz, .ref h4, .ref h5, .ref h6, .int ln, .int w470_1, .int w470_2, .int gsp, .ref h7, .ref h8, .int gtl])), (h1, .inl (cI, 190, .inl z)), (h2, .inl (cI, 190, .inl w470_0)), (h3, .inl (cI, 1140, .inl past)), (h4, .inl (cI, 380, .inl slots)), (h5, .inl (cZ, 2, .inl sv)), (h6, .inl (cI, 60, .inl pd)), (h7, .inl (cI, 120, .inl tf)), (h8, .inl (cI, 10, .inl tmm))] ++ (xwW cI cZ cS q0_1 xa xv ho0 ho1 pd0 pd1 m0 ts0 ts1 a ha sa cn cs sc tq_461 tv pd sv ln old sz z)) H := hP
          have hD : va_D A ([(q8_2, .inr (8, [.ref h1, .ref h2, .ref h3, .int sz, .ref h4, .ref h5, .ref h6, .int ln, .int w470_1, .int w470_2, .int gsp, .ref h7, .ref h8, .int gtl])), (h1, .inl (cI, 190, .inl z)), (h2, .inl (cI, 190, .inl w470_0)), (h3, .inl (cI, 1140, .inl past)), (h4, .inl (cI, 380, .inl slots)), (h5, .inl (cZ, 2, .inl sv)), (h6, .inl (cI, 60, .inl pd)), (h7, .inl (cI, 120, .inl tf)), (h8, .inl (cI, 10, .inl tmm))] ++ (xwW cI cZ cS q0_1 xa xv ho0 ho1 pd0 pd1 m0 ts0 ts1 a ha sa cn cs sc tq_461 tv pd sv ln old sz z)) := hD
          have e470 : r470 = untR z (xs (k.toInt.toNat + 1)) := hw
          have hrr : r461 = r470 := p461.trans e470.symm
          refine lv_icmp_eq (tgt := 688) hx hb dL_law_473 (by decide) (fun c473 => ?_) (fun c473 => ?_)
          · have t473 : r461.toInt = r470.toInt := xi_eq rfl rfl c473
            have d473 : r461 = r470 := c473
            obtain ⟨x688, e688⟩ : ∃ y : Int32, y = k + 4 := ⟨_, rfl⟩
            have t688 : x688.toInt = k.toInt + 4 := by rw [e688]; exact xi_add rfl (by decide) (by omega) (by omega)
            refine lv_iinc (v := x688) (lv' := [(3, .int x688), (2, .ref q8_2), (1, .ref q0_1), (0, .ref b)]) hx hb dL_law_688 hl (k := 0) rfl (by rw [e688]; rfl) (by decide) rfl (fun ls hl => ?_)
            refine lv_goto (tgt := 18) hx hb dL_law_691 (by decide) ?_
            have q18 : (([(q8_2, .inr (8, [.ref h1, .ref h2, .ref h3, .int sz, .ref h4, .ref h5, .ref h6, .int ln, .int w470_1, .int w470_2, .int gsp, .ref h7, .ref h8, .int gtl])), (h1, .inl (cI, 190, .inl z)), (h2, .inl (cI, 190, .inl w470_0)), (h3, .inl (cI, 1140, .inl past)), (h4, .inl (cI, 380, .inl slots)), (h5, .inl (cZ, 2, .inl sv)), (h6, .inl (cI, 60, .inl pd)), (h7, .inl (cI, 120, .inl tf)), (h8, .inl (cI, 10, .inl tmm))] ++ (xwW cI cZ cS q0_1 xa xv ho0 ho1 pd0 pd1 m0 ts0 ts1 a ha sa cn cs sc tq_461 tv pd sv ln old sz z)) : va_W) = ([(q8_2, .inr (8, [.ref h1, .ref h2, .ref h3, .int sz, .ref h4, .ref h5, .ref h6, .int ln, .int w470_1, .int w470_2, .int gsp, .ref h7, .ref h8, .int gtl])), (h1, .inl (cI, 190, .inl z)), (h2, .inl (cI, 190, .inl w470_0)), (h3, .inl (cI, 1140, .inl past)), (h4, .inl (cI, 380, .inl slots)), (h5, .inl (cZ, 2, .inl sv)), (h6, .inl (cI, 60, .inl pd)), (h7, .inl (cI, 120, .inl tf)), (h8, .inl (cI, 10, .inl tmm))] ++ (xwW cI cZ cS q0_1 xs xv ho0 ho1 pd0 pd1 m0 ts0 ts1 a ha sa cn cs sc tq_461 tv pd sv ln old sz z)) := by rfl
            exact ih18  x688 cn cs sc tq_461 tv pd sv ln old sz z w470_0 past slots tf tmm w470_1 w470_2 gsp gtl (by omega) (by exact LI_mono (by omega) hLI) (by omega) _ _ (xk_P hP q18) (xk_D hD q18) hS ls (lv_sub hl [0, 1, 2, 3] rfl)
          · have t473 : ¬ r461.toInt = r470.toInt := xi_ne rfl rfl c473
            have d473 : ¬ r461 = r470 := c473
            exact absurd hrr c473
        · refine lv_tableIn (off := 446) (tgt := 478) hx hb dL_law_32 (by rw [t32]; decide) (by rw [t32]; decide) (by rw [t32]; rfl) (by decide) ?_
          refine lv_aload_n hx hb dL_law_478 rfl (lv_at hl 2 rfl) ?_
          refine xk_Vi (As := []) (rest := []) hx hb hml hown hts hK hN hZ (xg_P hP List.perm_append_comm) (xg_D hD List.perm_append_comm) hS hA mb_X7_together mw_2_238 mw_2_239 mw_3_0 (k_X7_together l D cI cZ cS x0 xs xv ho0 ho1 pd0 pd1 m0 ts0 ts1 a ha sa cn cs sc tm tv pd sv ln old sz z hRS hI ⟨hBD.2.1, by have := hBD.2.2; omega⟩) (List.range ((xwW cI cZ cS q0_1 xa xv ho0 ho1 pd0 pd1 m0 ts0 ts1 a ha sa cn cs sc tm tv pd sv ln old sz z) : va_W).length) 0 7 rfl rfl (xg_ndr _) (xg_range _ _) (fun _ => by exact xwW_f) (by decide) (by decide) rfl hl.1 rfl (Nat.le_of_ble_eq_true rfl) dL_law_479 ⟨Nat.zero_le _, Nat.zero_le _⟩ (fun r479 u479 H locs hw hP hD hS => ?_)
          obtain ⟨tq_479, rfl⟩ : ∃ q, q = u479 := ⟨_, rfl⟩
          have p479 : r479 = togA z := hw
          have hP : va_P D vwCl ((xwW cI cZ cS q0_1 xa xv ho0 ho1 pd0 pd1 m0 ts0 ts1 a ha sa cn cs sc tq_479 tv pd sv ln old sz z) ++ [(q8_2, .inr (8, [.ref h1, .ref h2, .ref h3, .int sz, .ref h4, .ref h5, .ref h6, .int ln, .int gse, .int gte, .int gsp, .ref h7, .ref h8, .int gtl])), (h1, .inl (cI, 190, .inl z)), (h2, .inl (cI, 190, .inl spare)), (h3, .inl (cI, 1140, .inl past)), (h4, .inl (cI, 380, .inl slots)), (h5, .inl (cZ, 2, .inl sv)), (h6, .inl (cI, 60, .inl pd)), (h7, .inl (cI, 120, .inl tf)), (h8, .inl (cI, 10, .inl tmm))]) H := xk_P hP (xg_set (by exact xwW_f))
          have hD : va_D A ((xwW cI cZ cS q0_1 xa xv ho0 ho1 pd0 pd1 m0 ts0 ts1 a ha sa cn cs sc tq_479 tv pd sv ln old sz z) ++ [(q8_2, .inr (8, [.ref h1, .ref h2, .ref h3, .int sz, .ref h4, .ref h5, .ref h6, .int ln, .int gse, .int gte, .int gsp, .ref h7, .ref h8, .int gtl])), (h1, .inl (cI, 190, .inl z)), (h2, .inl (cI, 190, .inl spare)), (h3, .inl (cI, 1140, .inl past)), (h4, .inl (cI, 380, .inl slots)), (h5, .inl (cZ, 2, .inl sv)), (h6, .inl (cI, 60, .inl pd)), (h7, .inl (cI, 120, .inl tf)), (h8, .inl (cI, 10, .inl tmm))]) := xk_D hD (xg_set (by exact xwW_f))
          have hP := xg_P hP List.perm_append_comm
          have hD := xg_D hD List.perm_append_comm
          have hP : va_P D vwCl ([(q8_2, .inr (8, [.ref h1, .ref h2, .ref h3, .int sz, .ref h4, .ref h5, .ref h6, .int ln, .int gse, .int gte, .int gsp, .ref h7, .ref h8, .int gtl])), (h1, .inl (cI, 190, .inl z)), (h2, .inl (cI, 190, .inl spare)), (h3, .inl (cI, 1140, .inl past)), (h4, .inl (cI, 380, .inl slots)), (h5, .inl (cZ, 2, .inl sv)), (h6, .inl (cI, 60, .inl pd)), (h7, .inl (cI, 120, .inl tf)), (h8, .inl (cI, 10, .inl tmm))] ++ (xwW cI cZ cS q0_1 xa xv ho0 ho1 pd0 pd1 m0 ts0 ts1 a ha sa cn cs sc tq_479 tv pd sv ln old sz z)) H := hP
          have hD : va_D A ([(q8_2, .inr (8, [.ref h1, .ref h2, .ref h3, .int sz, .ref h4, .ref h5, .ref h6, .int ln, .int gse, .int gte, .int gsp, .ref h7, .ref h8, .int gtl])), (h1, .inl (cI, 190, .inl z)), (h2, .inl (cI, 190, .inl spare)), (h3, .inl (cI, 1140, .inl past)), (h4, .inl (cI, 380, .inl slots)), (h5, .inl (cZ, 2, .inl sv)), (h6, .inl (cI, 60, .inl pd)), (h7, .inl (cI, 120, .inl tf)), (h8, .inl (cI, 10, .inl tmm))] ++ (xwW cI cZ cS q0_1 xa xv ho0 ho1 pd0 pd1 m0 ts0 ts1 a ha sa cn cs sc tq_479 tv pd sv ln old sz z)) := hD
          refine lv_aload_n hx hb dL_law_482 rfl (lv_at hl 1 rfl) ?_
          refine xk_Vi (As := []) (rest := [.int r479]) hx hb hml hown hts hK hN hZ hP hD hS hA mb_X8_together mw_4_58 mw_4_59 mw_4_60 (c_X8_together l D cI cZ cS q8_2 h1 h2 h3 h4 h5 h6 h7 h8 sz ln gse gte gsp gtl z spare (by exact hI)) [0, 1, 2] 0 8 rfl rfl (by decide) rfl (fun _ => by simp only [List.map]) (by decide) (by decide) rfl hl.1 rfl (Nat.le_of_ble_eq_true rfl) dL_law_483 ⟨Nat.le_of_ble_eq_true rfl, Nat.le_of_ble_eq_true rfl⟩ (fun r483 u483 H locs hw hP hD hS => ?_)
          obtain ⟨w483_0, w483_1, w483_2⟩ := u483
          have hP : va_P D vwCl ([(q8_2, .inr (8, [.ref h1, .ref h2, .ref h3, .int sz, .ref h4, .ref h5, .ref h6, .int ln, .int w483_1, .int w483_2, .int gsp, .ref h7, .ref h8, .int gtl])), (h1, .inl (cI, 190, .inl z)), (h2, .inl (cI, 190, .inl w483_0)), (h3, .inl (cI, 1140, .inl past)), (h4, .inl (cI, 380, .inl slots)), (h5, .inl (cZ, 2, .inl sv)), (h6, .inl (cI, 60, .inl pd)), (h7, .inl (cI, 120, .inl tf)), (h8, .inl (cI, 10, .inl tmm))] ++ (xwW cI cZ cS q0_1 xa xv ho0 ho1 pd0 pd1 m0 ts0 ts1 a ha sa cn cs sc tq_479 tv pd sv ln old sz z)) H := hP
          have hD : va_D A ([(q8_2, .inr (8, [.ref h1, .ref h2, .ref h3, .int sz, .ref h4, .ref h5, .ref h6, .int ln, .int w483_1, .int w483_2, .int gsp, .ref h7, .ref h8, .int gtl])), (h1, .inl (cI, 190, .inl z)), (h2, .inl (cI, 190, .inl w483_0)), (h3, .inl (cI, 1140, .inl past)), (h4, .inl (cI, 380, .inl slots)), (h5, .inl (cZ, 2, .inl sv)), (h6, .inl (cI, 60, .inl pd)), (h7, .inl (cI, 120, .inl tf)), (h8, .inl (cI, 10, .inl tmm))] ++ (xwW cI cZ cS q0_1 xa xv ho0 ho1 pd0 pd1 m0 ts0 ts1 a ha sa cn cs sc tq_479 tv pd sv ln old sz z)) := hD
          have e483 : r483 = togA z := hw
          have hrr : r479 = r483 := p479.trans e483.symm
          refine lv_icmp_eq (tgt := 688) hx hb dL_law_486 (by decide) (fun c486 => ?_) (fun c486 => ?_)
          · have t486 : r479.toInt = r483.toInt := xi_eq rfl rfl c486
            have d486 : r479 = r483 := c486
            obtain ⟨x688, e688⟩ : ∃ y : Int32, y = k + 4 := ⟨_, rfl⟩
            have t688 : x688.toInt = k.toInt + 4 := by rw [e688]; exact xi_add rfl (by decide) (by omega) (by omega)
            refine lv_iinc (v := x688) (lv' := [(3, .int x688), (2, .ref q8_2), (1, .ref q0_1), (0, .ref b)]) hx hb dL_law_688 hl (k := 0) rfl (by rw [e688]; rfl) (by decide) rfl (fun ls hl => ?_)
            refine lv_goto (tgt := 18) hx hb dL_law_691 (by decide) ?_
            have q18 : (([(q8_2, .inr (8, [.ref h1, .ref h2, .ref h3, .int sz, .ref h4, .ref h5, .ref h6, .int ln, .int w483_1, .int w483_2, .int gsp, .ref h7, .ref h8, .int gtl])), (h1, .inl (cI, 190, .inl z)), (h2, .inl (cI, 190, .inl w483_0)), (h3, .inl (cI, 1140, .inl past)), (h4, .inl (cI, 380, .inl slots)), (h5, .inl (cZ, 2, .inl sv)), (h6, .inl (cI, 60, .inl pd)), (h7, .inl (cI, 120, .inl tf)), (h8, .inl (cI, 10, .inl tmm))] ++ (xwW cI cZ cS q0_1 xa xv ho0 ho1 pd0 pd1 m0 ts0 ts1 a ha sa cn cs sc tq_479 tv pd sv ln old sz z)) : va_W) = ([(q8_2, .inr (8, [.ref h1, .ref h2, .ref h3, .int sz, .ref h4, .ref h5, .ref h6, .int ln, .int w483_1, .int w483_2, .int gsp, .ref h7, .ref h8, .int gtl])), (h1, .inl (cI, 190, .inl z)), (h2, .inl (cI, 190, .inl w483_0)), (h3, .inl (cI, 1140, .inl past)), (h4, .inl (cI, 380, .inl slots)), (h5, .inl (cZ, 2, .inl sv)), (h6, .inl (cI, 60, .inl pd)), (h7, .inl (cI, 120, .inl tf)), (h8, .inl (cI, 10, .inl tmm))] ++ (xwW cI cZ cS q0_1 xs xv ho0 ho1 pd0 pd1 m0 ts0 ts1 a ha sa cn cs sc tq_479 tv pd sv ln old sz z)) := by rfl
            exact ih18  x688 cn cs sc tq_479 tv pd sv ln old sz z w483_0 past slots tf tmm w483_1 w483_2 gsp gtl (by omega) (by exact LI_mono (by omega) hLI) (by omega) _ _ (xk_P hP q18) (xk_D hD q18) hS ls (lv_sub hl [0, 1, 2, 3] rfl)
          · have t486 : ¬ r479.toInt = r483.toInt := xi_ne rfl rfl c486
            have d486 : ¬ r479 = r483 := c486
            exact absurd hrr c486
        · refine lv_tableIn (off := 459) (tgt := 491) hx hb dL_law_32 (by rw [t32]; decide) (by rw [t32]; decide) (by rw [t32]; rfl) (by decide) ?_
          refine lv_aload_n hx hb dL_law_491 rfl (lv_at hl 2 rfl) ?_
          refine lv_aload_n hx hb dL_law_492 rfl (lv_at hl 3 rfl) ?_
          refine lv_iload_n hx hb dL_law_493 rfl (lv_at hl 0 rfl) ?_
          refine lv_iconst (v := 1) hx hb dL_law_494 (by decide) ?_
          refine lv_iadd hx hb dL_law_495 ?_
          refine lv_topi (fun x495 e495 => ?_)
          have t495 : x495.toInt = k.toInt + 1 := by rw [e495]; exact xi_add rfl (by decide) (by omega) (by omega)
          refine va_sld hx hb hX hbl hbA hS (xi_in (by omega) (by omega)) dL_law_496 ?_
          refine xk_top (z := xs (k.toInt.toNat + 1)) (xk_rd (by omega)) ?_
          refine lv_aload_n hx hb dL_law_497 rfl (lv_at hl 3 rfl) ?_
          refine lv_iload_n hx hb dL_law_498 rfl (lv_at hl 0 rfl) ?_
          refine lv_iconst (v := 2) hx hb dL_law_499 (by decide) ?_
          refine lv_iadd hx hb dL_law_500 ?_
          refine lv_topi (fun x500 e500 => ?_)
          have t500 : x500.toInt = k.toInt + 2 := by rw [e500]; exact xi_add rfl (by decide) (by omega) (by omega)
          refine va_sld hx hb hX hbl hbA hS (xi_in (by omega) (by omega)) dL_law_501 ?_
          refine xk_top (z := xs (k.toInt.toNat + 2)) (xk_rd (by omega)) ?_
          refine xk_Vi (As := [.int (xs (k.toInt.toNat + 1)), .int (xs (k.toInt.toNat + 2))]) (rest := []) hx hb hml hown hts hK hN hZ (xg_P hP List.perm_append_comm) (xg_D hD List.perm_append_comm) hS hA mb_X7_meets mw_3_3 mw_3_4 mw_3_5 (k_X7_meets l D cI cZ cS x0 xs xv ho0 ho1 pd0 pd1 m0 ts0 ts1 a ha sa cn cs sc tm tv pd sv ln old sz z (xs (k.toInt.toNat + 1)) (xs (k.toInt.toNat + 2)) hRS hI) (List.range ((xwW cI cZ cS q0_1 xa xv ho0 ho1 pd0 pd1 m0 ts0 ts1 a ha sa cn cs sc tm tv pd sv ln old sz z) : va_W).length) 0 7 rfl rfl (xg_ndr _) (xg_range _ _) (fun _ => by exact xwW_f) (by decide) (by decide) rfl hl.1 rfl (Nat.le_of_ble_eq_true rfl) dL_law_502 ⟨Nat.zero_le _, Nat.zero_le _⟩ (fun r502 u502 H locs hw hP hD hS => ?_)
          have p502 : meetA z (xs (k.toInt.toNat + 1)) (xs (k.toInt.toNat + 2)) r502 := hw
          have hP : va_P D vwCl ((xwW cI cZ cS q0_1 xa xv ho0 ho1 pd0 pd1 m0 ts0 ts1 a ha sa cn cs sc tm tv pd sv ln old sz z) ++ [(q8_2, .inr (8, [.ref h1, .ref h2, .ref h3, .int sz, .ref h4, .ref h5, .ref h6, .int ln, .int gse, .int gte, .int gsp, .ref h7, .ref h8, .int gtl])), (h1, .inl (cI, 190, .inl z)), (h2, .inl (cI, 190, .inl spare)), (h3, .inl (cI, 1140, .inl past)), (h4, .inl (cI, 380, .inl slots)), (h5, .inl (cZ, 2, .inl sv)), (h6, .inl (cI, 60, .inl pd)), (h7, .inl (cI, 120, .inl tf)), (h8, .inl (cI, 10, .inl tmm))]) H := xk_P hP (xg_set (by exact xwW_f))
          have hD : va_D A ((xwW cI cZ cS q0_1 xa xv ho0 ho1 pd0 pd1 m0 ts0 ts1 a ha sa cn cs sc tm tv pd sv ln old sz z) ++ [(q8_2, .inr (8, [.ref h1, .ref h2, .ref h3, .int sz, .ref h4, .ref h5, .ref h6, .int ln, .int gse, .int gte, .int gsp, .ref h7, .ref h8, .int gtl])), (h1, .inl (cI, 190, .inl z)), (h2, .inl (cI, 190, .inl spare)), (h3, .inl (cI, 1140, .inl past)), (h4, .inl (cI, 380, .inl slots)), (h5, .inl (cZ, 2, .inl sv)), (h6, .inl (cI, 60, .inl pd)), (h7, .inl (cI, 120, .inl tf)), (h8, .inl (cI, 10, .inl tmm))]) := xk_D hD (xg_set (by exact xwW_f))
          have hP := xg_P hP List.perm_append_comm
          have hD := xg_D hD List.perm_append_comm
          have hP : va_P D vwCl ([(q8_2, .inr (8, [.ref h1, .ref h2, .ref h3, .int sz, .ref h4, .ref h5, .ref h6, .int ln, .int gse, .int gte, .int gsp, .ref h7, .ref h8, .int gtl])), (h1, .inl (cI, 190, .inl z)), (h2, .inl (cI, 190, .inl spare)), (h3, .inl (cI, 1140, .inl past)), (h4, .inl (cI, 380, .inl slots)), (h5, .inl (cZ, 2, .inl sv)), (h6, .inl (cI, 60, .inl pd)), (h7, .inl (cI, 120, .inl tf)), (h8, .inl (cI, 10, .inl tmm))] ++ (xwW cI cZ cS q0_1 xa xv ho0 ho1 pd0 pd1 m0 ts0 ts1 a ha sa cn cs sc tm tv pd sv ln old sz z)) H := hP
          have hD : va_D A ([(q8_2, .inr (8, [.ref h1, .ref h2, .ref h3, .int sz, .ref h4, .ref h5, .ref h6, .int ln, .int gse, .int gte, .int gsp, .ref h7, .ref h8, .int gtl])), (h1, .inl (cI, 190, .inl z)), (h2, .inl (cI, 190, .inl spare)), (h3, .inl (cI, 1140, .inl past)), (h4, .inl (cI, 380, .inl slots)), (h5, .inl (cZ, 2, .inl sv)), (h6, .inl (cI, 60, .inl pd)), (h7, .inl (cI, 120, .inl tf)), (h8, .inl (cI, 10, .inl tmm))] ++ (xwW cI cZ cS q0_1 xa xv ho0 ho1 pd0 pd1 m0 ts0 ts1 a ha sa cn cs sc tm tv pd sv ln old sz z)) := hD
          refine lv_aload_n hx hb dL_law_505 rfl (lv_at hl 1 rfl) ?_
          refine lv_aload_n hx hb dL_law_506 rfl (lv_at hl 3 rfl) ?_
          refine lv_iload_n hx hb dL_law_507 rfl (lv_at hl 0 rfl) ?_
          refine lv_iconst (v := 1) hx hb dL_law_508 (by decide) ?_
          refine lv_iadd hx hb dL_law_509 ?_
          refine lv_topi (fun x509 e509 => ?_)
          have t509 : x509.toInt = k.toInt + 1 := by rw [e509]; exact xi_add rfl (by decide) (by omega) (by omega)
          refine va_sld hx hb hX hbl hbA hS (xi_in (by omega) (by omega)) dL_law_510 ?_
          refine xk_top (z := xs (k.toInt.toNat + 1)) (xk_rd (by omega)) ?_
          refine lv_aload_n hx hb dL_law_511 rfl (lv_at hl 3 rfl) ?_
          refine lv_iload_n hx hb dL_law_512 rfl (lv_at hl 0 rfl) ?_
          refine lv_iconst (v := 2) hx hb dL_law_513 (by decide) ?_
          refine lv_iadd hx hb dL_law_514 ?_
          refine lv_topi (fun x514 e514 => ?_)
          have t514 : x514.toInt = k.toInt + 2 := by rw [e514]; exact xi_add rfl (by decide) (by omega) (by omega)
          refine va_sld hx hb hX hbl hbA hS (xi_in (by omega) (by omega)) dL_law_515 ?_
          refine xk_top (z := xs (k.toInt.toNat + 2)) (xk_rd (by omega)) ?_
          refine xk_Vi0 (As := [.int (xs (k.toInt.toNat + 1)), .int (xs (k.toInt.toNat + 2))]) (rest := [.int r502]) hx hb hml hown hts hK hN hZ hP hD hS hA mb_X8_meets mw_4_62 mw_4_63 mw_4_64 (c_X8_meets l D cI cZ cS q8_2 h1 h2 h3 h4 h5 h6 h7 h8 sz ln gse gte gsp gtl z (xs (k.toInt.toNat + 1)) (xs (k.toInt.toNat + 2)) (by exact hI.2.1) (by exact hI.2.2.1)) [0, 1] 0 8 rfl rfl (by decide) rfl (fun _ => by simp only [List.map]) (by decide) (by decide) rfl hl.1 rfl (Nat.le_of_ble_eq_true rfl) dL_law_516 ⟨Nat.le_of_ble_eq_true rfl, Nat.le_of_ble_eq_true rfl⟩ (fun _ => rfl) (fun r516 _ H locs hw hP hD hS => ?_)
          have p516 : meetA z (xs (k.toInt.toNat + 1)) (xs (k.toInt.toNat + 2)) r516 := hw
          have hrr : r502 = r516 := meetA_u p502 p516
          refine lv_icmp_eq (tgt := 688) hx hb dL_law_519 (by decide) (fun c519 => ?_) (fun c519 => ?_)
          · have t519 : r502.toInt = r516.toInt := xi_eq rfl rfl c519
            have d519 : r502 = r516 := c519
            obtain ⟨x688, e688⟩ : ∃ y : Int32, y = k + 4 := ⟨_, rfl⟩
            have t688 : x688.toInt = k.toInt + 4 := by rw [e688]; exact xi_add rfl (by decide) (by omega) (by omega)
            refine lv_iinc (v := x688) (lv' := [(3, .int x688), (2, .ref q8_2), (1, .ref q0_1), (0, .ref b)]) hx hb dL_law_688 hl (k := 0) rfl (by rw [e688]; rfl) (by decide) rfl (fun ls hl => ?_)
            refine lv_goto (tgt := 18) hx hb dL_law_691 (by decide) ?_
            have q18 : (([(q8_2, .inr (8, [.ref h1, .ref h2, .ref h3, .int sz, .ref h4, .ref h5, .ref h6, .int ln, .int gse, .int gte, .int gsp, .ref h7, .ref h8, .int gtl])), (h1, .inl (cI, 190, .inl z)), (h2, .inl (cI, 190, .inl spare)), (h3, .inl (cI, 1140, .inl past)), (h4, .inl (cI, 380, .inl slots)), (h5, .inl (cZ, 2, .inl sv)), (h6, .inl (cI, 60, .inl pd)), (h7, .inl (cI, 120, .inl tf)), (h8, .inl (cI, 10, .inl tmm))] ++ (xwW cI cZ cS q0_1 xa xv ho0 ho1 pd0 pd1 m0 ts0 ts1 a ha sa cn cs sc tm tv pd sv ln old sz z)) : va_W) = ([(q8_2, .inr (8, [.ref h1, .ref h2, .ref h3, .int sz, .ref h4, .ref h5, .ref h6, .int ln, .int gse, .int gte, .int gsp, .ref h7, .ref h8, .int gtl])), (h1, .inl (cI, 190, .inl z)), (h2, .inl (cI, 190, .inl spare)), (h3, .inl (cI, 1140, .inl past)), (h4, .inl (cI, 380, .inl slots)), (h5, .inl (cZ, 2, .inl sv)), (h6, .inl (cI, 60, .inl pd)), (h7, .inl (cI, 120, .inl tf)), (h8, .inl (cI, 10, .inl tmm))] ++ (xwW cI cZ cS q0_1 xs xv ho0 ho1 pd0 pd1 m0 ts0 ts1 a ha sa cn cs sc tm tv pd sv ln old sz z)) := by rfl
            exact ih18  x688 cn cs sc tm tv pd sv ln old sz z spare past slots tf tmm gse gte gsp gtl (by omega) (by exact LI_mono (by omega) hLI) (by omega) _ _ (xk_P hP q18) (xk_D hD q18) hS ls (lv_sub hl [0, 1, 2, 3] rfl)
          · have t519 : ¬ r502.toInt = r516.toInt := xi_ne rfl rfl c519
            have d519 : ¬ r502 = r516 := c519
            exact absurd hrr c519
        · refine lv_tableIn (off := 492) (tgt := 524) hx hb dL_law_32 (by rw [t32]; decide) (by rw [t32]; decide) (by rw [t32]; rfl) (by decide) ?_
          refine lv_aload_n hx hb dL_law_524 rfl (lv_at hl 2 rfl) ?_
          refine xk_Vi (As := []) (rest := []) hx hb hml hown hts hK hN hZ (xg_P hP List.perm_append_comm) (xg_D hD List.perm_append_comm) hS hA mb_X7_leastBreath mw_3_16 mw_3_17 mw_3_18 (k_X7_leastBreath l D cI cZ cS x0 xs xv ho0 ho1 pd0 pd1 m0 ts0 ts1 a ha sa cn cs sc tm tv pd sv ln old sz z hRS hI) (List.range ((xwW cI cZ cS q0_1 xa xv ho0 ho1 pd0 pd1 m0 ts0 ts1 a ha sa cn cs sc tm tv pd sv ln old sz z) : va_W).length) 0 7 rfl rfl (xg_ndr _) (xg_range _ _) (fun _ => by exact xwW_f) (by decide) (by decide) rfl hl.1 rfl (Nat.le_of_ble_eq_true rfl) dL_law_525 ⟨Nat.zero_le _, Nat.zero_le _⟩ (fun r525 u525 H locs hw hP hD hS => ?_)
          obtain ⟨tq_525, vq_525⟩ := u525
          have p525 : (canZ z ∧ lbA z r525) ∨ (¬ canZ z ∧ r525 = -5) := hw
          have hP : va_P D vwCl ((xwW cI cZ cS q0_1 xa xv ho0 ho1 pd0 pd1 m0 ts0 ts1 a ha sa cn cs sc tq_525 vq_525 pd sv ln old sz z) ++ [(q8_2, .inr (8, [.ref h1, .ref h2, .ref h3, .int sz, .ref h4, .ref h5, .ref h6, .int ln, .int gse, .int gte, .int gsp, .ref h7, .ref h8, .int gtl])), (h1, .inl (cI, 190, .inl z)), (h2, .inl (cI, 190, .inl spare)), (h3, .inl (cI, 1140, .inl past)), (h4, .inl (cI, 380, .inl slots)), (h5, .inl (cZ, 2, .inl sv)), (h6, .inl (cI, 60, .inl pd)), (h7, .inl (cI, 120, .inl tf)), (h8, .inl (cI, 10, .inl tmm))]) H := xk_P hP (xg_set (by exact xwW_f))
          have hD : va_D A ((xwW cI cZ cS q0_1 xa xv ho0 ho1 pd0 pd1 m0 ts0 ts1 a ha sa cn cs sc tq_525 vq_525 pd sv ln old sz z) ++ [(q8_2, .inr (8, [.ref h1, .ref h2, .ref h3, .int sz, .ref h4, .ref h5, .ref h6, .int ln, .int gse, .int gte, .int gsp, .ref h7, .ref h8, .int gtl])), (h1, .inl (cI, 190, .inl z)), (h2, .inl (cI, 190, .inl spare)), (h3, .inl (cI, 1140, .inl past)), (h4, .inl (cI, 380, .inl slots)), (h5, .inl (cZ, 2, .inl sv)), (h6, .inl (cI, 60, .inl pd)), (h7, .inl (cI, 120, .inl tf)), (h8, .inl (cI, 10, .inl tmm))]) := xk_D hD (xg_set (by exact xwW_f))
          have hP := xg_P hP List.perm_append_comm
          have hD := xg_D hD List.perm_append_comm
          have hP : va_P D vwCl ([(q8_2, .inr (8, [.ref h1, .ref h2, .ref h3, .int sz, .ref h4, .ref h5, .ref h6, .int ln, .int gse, .int gte, .int gsp, .ref h7, .ref h8, .int gtl])), (h1, .inl (cI, 190, .inl z)), (h2, .inl (cI, 190, .inl spare)), (h3, .inl (cI, 1140, .inl past)), (h4, .inl (cI, 380, .inl slots)), (h5, .inl (cZ, 2, .inl sv)), (h6, .inl (cI, 60, .inl pd)), (h7, .inl (cI, 120, .inl tf)), (h8, .inl (cI, 10, .inl tmm))] ++ (xwW cI cZ cS q0_1 xa xv ho0 ho1 pd0 pd1 m0 ts0 ts1 a ha sa cn cs sc tq_525 vq_525 pd sv ln old sz z)) H := hP
          have hD : va_D A ([(q8_2, .inr (8, [.ref h1, .ref h2, .ref h3, .int sz, .ref h4, .ref h5, .ref h6, .int ln, .int gse, .int gte, .int gsp, .ref h7, .ref h8, .int gtl])), (h1, .inl (cI, 190, .inl z)), (h2, .inl (cI, 190, .inl spare)), (h3, .inl (cI, 1140, .inl past)), (h4, .inl (cI, 380, .inl slots)), (h5, .inl (cZ, 2, .inl sv)), (h6, .inl (cI, 60, .inl pd)), (h7, .inl (cI, 120, .inl tf)), (h8, .inl (cI, 10, .inl tmm))] ++ (xwW cI cZ cS q0_1 xa xv ho0 ho1 pd0 pd1 m0 ts0 ts1 a ha sa cn cs sc tq_525 vq_525 pd sv ln old sz z)) := hD
          refine lv_aload_n hx hb dL_law_528 rfl (lv_at hl 1 rfl) ?_
          refine xk_Vi (As := []) (rest := [.int r525]) hx hb hml hown hts hK hN hZ hP hD hS hA mb_X8_leastBreath mw_4_66 mw_4_67 mw_4_68 (c_X8_leastBreath l D cI cZ cS q8_2 h1 h2 h3 h4 h5 h6 h7 h8 sz ln gse gte gsp gtl z spare (by exact hI)) [0, 1, 2] 0 8 rfl rfl (by decide) rfl (fun _ => by simp only [List.map]) (by decide) (by decide) rfl hl.1 rfl (Nat.le_of_ble_eq_true rfl) dL_law_529 ⟨Nat.le_of_ble_eq_true rfl, Nat.le_of_ble_eq_true rfl⟩ (fun r529 u529 H locs hw hP hD hS => ?_)
          obtain ⟨w529_0, w529_1, w529_2⟩ := u529
          have hP : va_P D vwCl ([(q8_2, .inr (8, [.ref h1, .ref h2, .ref h3, .int sz, .ref h4, .ref h5, .ref h6, .int ln, .int w529_1, .int w529_2, .int gsp, .ref h7, .ref h8, .int gtl])), (h1, .inl (cI, 190, .inl z)), (h2, .inl (cI, 190, .inl w529_0)), (h3, .inl (cI, 1140, .inl past)), (h4, .inl (cI, 380, .inl slots)), (h5, .inl (cZ, 2, .inl sv)), (h6, .inl (cI, 60, .inl pd)), (h7, .inl (cI, 120, .inl tf)), (h8, .inl (cI, 10, .inl tmm))] ++ (xwW cI cZ cS q0_1 xa xv ho0 ho1 pd0 pd1 m0 ts0 ts1 a ha sa cn cs sc tq_525 vq_525 pd sv ln old sz z)) H := hP
          have hD : va_D A ([(q8_2, .inr (8, [.ref h1, .ref h2, .ref h3, .int sz, .ref h4, .ref h5, .ref h6, .int ln, .int w529_1, .int w529_2, .int gsp, .ref h7, .ref h8, .int gtl])), (h1, .inl (cI, 190, .inl z)), (h2, .inl (cI, 190, .inl w529_0)), (h3, .inl (cI, 1140, .inl past)), (h4, .inl (cI, 380, .inl slots)), (h5, .inl (cZ, 2, .inl sv)), (h6, .inl (cI, 60, .inl pd)), (h7, .inl (cI, 120, .inl tf)), (h8, .inl (cI, 10, .inl tmm))] ++ (xwW cI cZ cS q0_1 xa xv ho0 ho1 pd0 pd1 m0 ts0 ts1 a ha sa cn cs sc tq_525 vq_525 pd sv ln old sz z)) := hD
          have p529 : (canZ z ∧ lbA z r529) ∨ (¬ canZ z ∧ r529 = -5) := hw
          have hrr : r525 = r529 := lbA_u p525 p529
          refine lv_icmp_eq (tgt := 688) hx hb dL_law_532 (by decide) (fun c532 => ?_) (fun c532 => ?_)
          · have t532 : r525.toInt = r529.toInt := xi_eq rfl rfl c532
            have d532 : r525 = r529 := c532
            obtain ⟨x688, e688⟩ : ∃ y : Int32, y = k + 4 := ⟨_, rfl⟩
            have t688 : x688.toInt = k.toInt + 4 := by rw [e688]; exact xi_add rfl (by decide) (by omega) (by omega)
            refine lv_iinc (v := x688) (lv' := [(3, .int x688), (2, .ref q8_2), (1, .ref q0_1), (0, .ref b)]) hx hb dL_law_688 hl (k := 0) rfl (by rw [e688]; rfl) (by decide) rfl (fun ls hl => ?_)
            refine lv_goto (tgt := 18) hx hb dL_law_691 (by decide) ?_
            have q18 : (([(q8_2, .inr (8, [.ref h1, .ref h2, .ref h3, .int sz, .ref h4, .ref h5, .ref h6, .int ln, .int w529_1, .int w529_2, .int gsp, .ref h7, .ref h8, .int gtl])), (h1, .inl (cI, 190, .inl z)), (h2, .inl (cI, 190, .inl w529_0)), (h3, .inl (cI, 1140, .inl past)), (h4, .inl (cI, 380, .inl slots)), (h5, .inl (cZ, 2, .inl sv)), (h6, .inl (cI, 60, .inl pd)), (h7, .inl (cI, 120, .inl tf)), (h8, .inl (cI, 10, .inl tmm))] ++ (xwW cI cZ cS q0_1 xa xv ho0 ho1 pd0 pd1 m0 ts0 ts1 a ha sa cn cs sc tq_525 vq_525 pd sv ln old sz z)) : va_W) = ([(q8_2, .inr (8, [.ref h1, .ref h2, .ref h3, .int sz, .ref h4, .ref h5, .ref h6, .int ln, .int w529_1, .int w529_2, .int gsp, .ref h7, .ref h8, .int gtl])), (h1, .inl (cI, 190, .inl z)), (h2, .inl (cI, 190, .inl w529_0)), (h3, .inl (cI, 1140, .inl past)), (h4, .inl (cI, 380, .inl slots)), (h5, .inl (cZ, 2, .inl sv)), (h6, .inl (cI, 60, .inl pd)), (h7, .inl (cI, 120, .inl tf)), (h8, .inl (cI, 10, .inl tmm))] ++ (xwW cI cZ cS q0_1 xs xv ho0 ho1 pd0 pd1 m0 ts0 ts1 a ha sa cn cs sc tq_525 vq_525 pd sv ln old sz z)) := by rfl
            exact ih18  x688 cn cs sc tq_525 vq_525 pd sv ln old sz z w529_0 past slots tf tmm w529_1 w529_2 gsp gtl (by omega) (by exact LI_mono (by omega) hLI) (by omega) _ _ (xk_P hP q18) (xk_D hD q18) hS ls (lv_sub hl [0, 1, 2, 3] rfl)
          · have t532 : ¬ r525.toInt = r529.toInt := xi_ne rfl rfl c532
            have d532 : ¬ r525 = r529 := c532
            exact absurd hrr c532
        · refine lv_tableIn (off := 505) (tgt := 537) hx hb dL_law_32 (by rw [t32]; decide) (by rw [t32]; decide) (by rw [t32]; rfl) (by decide) ?_
          refine lv_aload_n hx hb dL_law_537 rfl (lv_at hl 2 rfl) ?_
          refine xk_Vi (As := []) (rest := []) hx hb hml hown hts hK hN hZ (xg_P hP List.perm_append_comm) (xg_D hD List.perm_append_comm) hS hA mb_X7_bestPause mw_3_27 mw_3_28 mw_3_29 (k_X7_bestPause l D cI cZ cS x0 xs xv ho0 ho1 pd0 pd1 m0 ts0 ts1 a ha sa cn cs sc tm tv pd sv ln old sz z hRS hI) (List.range ((xwW cI cZ cS q0_1 xa xv ho0 ho1 pd0 pd1 m0 ts0 ts1 a ha sa cn cs sc tm tv pd sv ln old sz z) : va_W).length) 0 7 rfl rfl (xg_ndr _) (xg_range _ _) (fun _ => by exact xwW_f) (by decide) (by decide) rfl hl.1 rfl (Nat.le_of_ble_eq_true rfl) dL_law_538 ⟨Nat.zero_le _, Nat.zero_le _⟩ (fun r538 u538 H locs hw hP hD hS => ?_)
          obtain ⟨tq_538, vq_538⟩ := u538
          have p538 : (canZ z ∧ bpA z r538) ∨ (¬ canZ z ∧ r538 = -5) := hw
          have hP : va_P D vwCl ((xwW cI cZ cS q0_1 xa xv ho0 ho1 pd0 pd1 m0 ts0 ts1 a ha sa cn cs sc tq_538 vq_538 pd sv ln old sz z) ++ [(q8_2, .inr (8, [.ref h1, .ref h2, .ref h3, .int sz, .ref h4, .ref h5, .ref h6, .int ln, .int gse, .int gte, .int gsp, .ref h7, .ref h8, .int gtl])), (h1, .inl (cI, 190, .inl z)), (h2, .inl (cI, 190, .inl spare)), (h3, .inl (cI, 1140, .inl past)), (h4, .inl (cI, 380, .inl slots)), (h5, .inl (cZ, 2, .inl sv)), (h6, .inl (cI, 60, .inl pd)), (h7, .inl (cI, 120, .inl tf)), (h8, .inl (cI, 10, .inl tmm))]) H := xk_P hP (xg_set (by exact xwW_f))
          have hD : va_D A ((xwW cI cZ cS q0_1 xa xv ho0 ho1 pd0 pd1 m0 ts0 ts1 a ha sa cn cs sc tq_538 vq_538 pd sv ln old sz z) ++ [(q8_2, .inr (8, [.ref h1, .ref h2, .ref h3, .int sz, .ref h4, .ref h5, .ref h6, .int ln, .int gse, .int gte, .int gsp, .ref h7, .ref h8, .int gtl])), (h1, .inl (cI, 190, .inl z)), (h2, .inl (cI, 190, .inl spare)), (h3, .inl (cI, 1140, .inl past)), (h4, .inl (cI, 380, .inl slots)), (h5, .inl (cZ, 2, .inl sv)), (h6, .inl (cI, 60, .inl pd)), (h7, .inl (cI, 120, .inl tf)), (h8, .inl (cI, 10, .inl tmm))]) := xk_D hD (xg_set (by exact xwW_f))
          have hP := xg_P hP List.perm_append_comm
          have hD := xg_D hD List.perm_append_comm
          have hP : va_P D vwCl ([(q8_2, .inr (8, [.ref h1, .ref h2, .ref h3, .int sz, .ref h4, .ref h5, .ref h6, .int ln, .int gse, .int gte, .int gsp, .ref h7, .ref h8, .int gtl])), (h1, .inl (cI, 190, .inl z)), (h2, .inl (cI, 190, .inl spare)), (h3, .inl (cI, 1140, .inl past)), (h4, .inl (cI, 380, .inl slots)), (h5, .inl (cZ, 2, .inl sv)), (h6, .inl (cI, 60, .inl pd)), (h7, .inl (cI, 120, .inl tf)), (h8, .inl (cI, 10, .inl tmm))] ++ (xwW cI cZ cS q0_1 xa xv ho0 ho1 pd0 pd1 m0 ts0 ts1 a ha sa cn cs sc tq_538 vq_538 pd sv ln old sz z)) H := hP
          have hD : va_D A ([(q8_2, .inr (8, [.ref h1, .ref h2, .ref h3, .int sz, .ref h4, .ref h5, .ref h6, .int ln, .int gse, .int gte, .int gsp, .ref h7, .ref h8, .int gtl])), (h1, .inl (cI, 190, .inl z)), (h2, .inl (cI, 190, .inl spare)), (h3, .inl (cI, 1140, .inl past)), (h4, .inl (cI, 380, .inl slots)), (h5, .inl (cZ, 2, .inl sv)), (h6, .inl (cI, 60, .inl pd)), (h7, .inl (cI, 120, .inl tf)), (h8, .inl (cI, 10, .inl tmm))] ++ (xwW cI cZ cS q0_1 xa xv ho0 ho1 pd0 pd1 m0 ts0 ts1 a ha sa cn cs sc tq_538 vq_538 pd sv ln old sz z)) := hD
          refine lv_aload_n hx hb dL_law_541 rfl (lv_at hl 1 rfl) ?_
          refine xk_Vi (As := []) (rest := [.int r538]) hx hb hml hown hts hK hN hZ hP hD hS hA mb_X8_bestPause mw_4_74 mw_4_75 mw_4_76 (c_X8_bestPause l D cI cZ cS q8_2 h1 h2 h3 h4 h5 h6 h7 h8 sz ln gse gte gsp gtl z spare (by exact hI)) [0, 1, 2] 0 8 rfl rfl (by decide) rfl (fun _ => by simp only [List.map]) (by decide) (by decide) rfl hl.1 rfl (Nat.le_of_ble_eq_true rfl) dL_law_542 ⟨Nat.le_of_ble_eq_true rfl, Nat.le_of_ble_eq_true rfl⟩ (fun r542 u542 H locs hw hP hD hS => ?_)
          obtain ⟨w542_0, w542_1, w542_2⟩ := u542
          have hP : va_P D vwCl ([(q8_2, .inr (8, [.ref h1, .ref h2, .ref h3, .int sz, .ref h4, .ref h5, .ref h6, .int ln, .int w542_1, .int w542_2, .int gsp, .ref h7, .ref h8, .int gtl])), (h1, .inl (cI, 190, .inl z)), (h2, .inl (cI, 190, .inl w542_0)), (h3, .inl (cI, 1140, .inl past)), (h4, .inl (cI, 380, .inl slots)), (h5, .inl (cZ, 2, .inl sv)), (h6, .inl (cI, 60, .inl pd)), (h7, .inl (cI, 120, .inl tf)), (h8, .inl (cI, 10, .inl tmm))] ++ (xwW cI cZ cS q0_1 xa xv ho0 ho1 pd0 pd1 m0 ts0 ts1 a ha sa cn cs sc tq_538 vq_538 pd sv ln old sz z)) H := hP
          have hD : va_D A ([(q8_2, .inr (8, [.ref h1, .ref h2, .ref h3, .int sz, .ref h4, .ref h5, .ref h6, .int ln, .int w542_1, .int w542_2, .int gsp, .ref h7, .ref h8, .int gtl])), (h1, .inl (cI, 190, .inl z)), (h2, .inl (cI, 190, .inl w542_0)), (h3, .inl (cI, 1140, .inl past)), (h4, .inl (cI, 380, .inl slots)), (h5, .inl (cZ, 2, .inl sv)), (h6, .inl (cI, 60, .inl pd)), (h7, .inl (cI, 120, .inl tf)), (h8, .inl (cI, 10, .inl tmm))] ++ (xwW cI cZ cS q0_1 xa xv ho0 ho1 pd0 pd1 m0 ts0 ts1 a ha sa cn cs sc tq_538 vq_538 pd sv ln old sz z)) := hD
          have p542 : (canZ z ∧ bpA z r542) ∨ (¬ canZ z ∧ r542 = -5) := hw
          have hrr : r538 = r542 := bpA_u p538 p542
          refine lv_icmp_eq (tgt := 688) hx hb dL_law_545 (by decide) (fun c545 => ?_) (fun c545 => ?_)
          · have t545 : r538.toInt = r542.toInt := xi_eq rfl rfl c545
            have d545 : r538 = r542 := c545
            obtain ⟨x688, e688⟩ : ∃ y : Int32, y = k + 4 := ⟨_, rfl⟩
            have t688 : x688.toInt = k.toInt + 4 := by rw [e688]; exact xi_add rfl (by decide) (by omega) (by omega)
            refine lv_iinc (v := x688) (lv' := [(3, .int x688), (2, .ref q8_2), (1, .ref q0_1), (0, .ref b)]) hx hb dL_law_688 hl (k := 0) rfl (by rw [e688]; rfl) (by decide) rfl (fun ls hl => ?_)
            refine lv_goto (tgt := 18) hx hb dL_law_691 (by decide) ?_
            have q18 : (([(q8_2, .inr (8, [.ref h1, .ref h2, .ref h3, .int sz, .ref h4, .ref h5, .ref h6, .int ln, .int w542_1, .int w542_2, .int gsp, .ref h7, .ref h8, .int gtl])), (h1, .inl (cI, 190, .inl z)), (h2, .inl (cI, 190, .inl w542_0)), (h3, .inl (cI, 1140, .inl past)), (h4, .inl (cI, 380, .inl slots)), (h5, .inl (cZ, 2, .inl sv)), (h6, .inl (cI, 60, .inl pd)), (h7, .inl (cI, 120, .inl tf)), (h8, .inl (cI, 10, .inl tmm))] ++ (xwW cI cZ cS q0_1 xa xv ho0 ho1 pd0 pd1 m0 ts0 ts1 a ha sa cn cs sc tq_538 vq_538 pd sv ln old sz z)) : va_W) = ([(q8_2, .inr (8, [.ref h1, .ref h2, .ref h3, .int sz, .ref h4, .ref h5, .ref h6, .int ln, .int w542_1, .int w542_2, .int gsp, .ref h7, .ref h8, .int gtl])), (h1, .inl (cI, 190, .inl z)), (h2, .inl (cI, 190, .inl w542_0)), (h3, .inl (cI, 1140, .inl past)), (h4, .inl (cI, 380, .inl slots)), (h5, .inl (cZ, 2, .inl sv)), (h6, .inl (cI, 60, .inl pd)), (h7, .inl (cI, 120, .inl tf)), (h8, .inl (cI, 10, .inl tmm))] ++ (xwW cI cZ cS q0_1 xs xv ho0 ho1 pd0 pd1 m0 ts0 ts1 a ha sa cn cs sc tq_538 vq_538 pd sv ln old sz z)) := by rfl
            exact ih18  x688 cn cs sc tq_538 vq_538 pd sv ln old sz z w542_0 past slots tf tmm w542_1 w542_2 gsp gtl (by omega) (by exact LI_mono (by omega) hLI) (by omega) _ _ (xk_P hP q18) (xk_D hD q18) hS ls (lv_sub hl [0, 1, 2, 3] rfl)
          · have t545 : ¬ r538.toInt = r542.toInt := xi_ne rfl rfl c545
            have d545 : ¬ r538 = r542 := c545
            exact absurd hrr c545
        · refine lv_tableIn (off := 518) (tgt := 550) hx hb dL_law_32 (by rw [t32]; decide) (by rw [t32]; decide) (by rw [t32]; rfl) (by decide) ?_
          refine lv_aload_n hx hb dL_law_550 rfl (lv_at hl 2 rfl) ?_
          refine lv_aload_n hx hb dL_law_551 rfl (lv_at hl 3 rfl) ?_
          refine lv_iload_n hx hb dL_law_552 rfl (lv_at hl 0 rfl) ?_
          refine lv_iconst (v := 1) hx hb dL_law_553 (by decide) ?_
          refine lv_iadd hx hb dL_law_554 ?_
          refine lv_topi (fun x554 e554 => ?_)
          have t554 : x554.toInt = k.toInt + 1 := by rw [e554]; exact xi_add rfl (by decide) (by omega) (by omega)
          refine va_sld hx hb hX hbl hbA hS (xi_in (by omega) (by omega)) dL_law_555 ?_
          refine xk_top (z := xs (k.toInt.toNat + 1)) (xk_rd (by omega)) ?_
          refine lv_i2l hx hb dL_law_556 rfl ?_
          refine lv_topl (fun y556 e556 => ?_)
          refine lv_bipush (v := 32) hx hb dL_law_557 (by decide) ?_
          refine lv_lshl hx hb dL_law_559 rfl ?_
          refine lv_topl (fun y559 e559 => ?_)
          refine lv_aload_n hx hb dL_law_560 rfl (lv_at hl 3 rfl) ?_
          refine lv_iload_n hx hb dL_law_561 rfl (lv_at hl 0 rfl) ?_
          refine lv_iconst (v := 2) hx hb dL_law_562 (by decide) ?_
          refine lv_iadd hx hb dL_law_563 ?_
          refine lv_topi (fun x563 e563 => ?_)
          have t563 : x563.toInt = k.toInt + 2 := by rw [e563]; exact xi_add rfl (by decide) (by omega) (by omega)
          refine va_sld hx hb hX hbl hbA hS (xi_in (by omega) (by omega)) dL_law_564 ?_
          refine xk_top (z := xs (k.toInt.toNat + 2)) (xk_rd (by omega)) ?_
          refine lv_i2l hx hb dL_law_565 rfl ?_
          refine lv_topl (fun y565 e565 => ?_)
          refine lv_ldc2 (v := 4294967295) hx hb hown (hts _ (List.mem_cons_of_mem _ mw_4_78)) dL_law_566 ?_
          refine lv_land hx hb dL_law_569 ?_
          refine lv_topl (fun y569 e569 => ?_)
          refine lv_lor hx hb dL_law_570 ?_
          refine lv_topl (fun y570 e570 => ?_)
          refine xk_Vi (As := [.long y570]) (rest := []) hx hb hml hown hts hK hN hZ (xg_P hP List.perm_append_comm) (xg_D hD List.perm_append_comm) hS hA mb_X7_put mw_3_31 mw_3_32 mw_3_33 (k_X7_put l D cI cZ cS x0 xs xv ho0 ho1 pd0 pd1 m0 ts0 ts1 a ha sa cn cs sc tm tv pd sv ln old sz z y570 hRS hI hlnn) (List.range ((xwW cI cZ cS q0_1 xa xv ho0 ho1 pd0 pd1 m0 ts0 ts1 a ha sa cn cs sc tm tv pd sv ln old sz z) : va_W).length) 0 7 rfl rfl (xg_ndr _) (xg_range _ _) (fun _ => by exact xwW_f) (by decide) (by decide) rfl hl.1 rfl (Nat.le_of_ble_eq_true rfl) dL_law_571 ⟨Nat.zero_le _, Nat.zero_le _⟩ (fun r571 u571 H locs hw hP hD hS => ?_)
          obtain ⟨ln1_571, pd1q_571⟩ := u571
          have p571 : putA y570 ln pd r571 ln1_571 pd1q_571 := hw
          have hP : va_P D vwCl ((xwW cI cZ cS q0_1 xa xv ho0 ho1 pd0 pd1 m0 ts0 ts1 a ha sa cn cs sc tm tv pd1q_571 sv ln1_571 old sz z) ++ [(q8_2, .inr (8, [.ref h1, .ref h2, .ref h3, .int sz, .ref h4, .ref h5, .ref h6, .int ln, .int gse, .int gte, .int gsp, .ref h7, .ref h8, .int gtl])), (h1, .inl (cI, 190, .inl z)), (h2, .inl (cI, 190, .inl spare)), (h3, .inl (cI, 1140, .inl past)), (h4, .inl (cI, 380, .inl slots)), (h5, .inl (cZ, 2, .inl sv)), (h6, .inl (cI, 60, .inl pd)), (h7, .inl (cI, 120, .inl tf)), (h8, .inl (cI, 10, .inl tmm))]) H := xk_P hP (xg_set (by exact xwW_f))
          have hD : va_D A ((xwW cI cZ cS q0_1 xa xv ho0 ho1 pd0 pd1 m0 ts0 ts1 a ha sa cn cs sc tm tv pd1q_571 sv ln1_571 old sz z) ++ [(q8_2, .inr (8, [.ref h1, .ref h2, .ref h3, .int sz, .ref h4, .ref h5, .ref h6, .int ln, .int gse, .int gte, .int gsp, .ref h7, .ref h8, .int gtl])), (h1, .inl (cI, 190, .inl z)), (h2, .inl (cI, 190, .inl spare)), (h3, .inl (cI, 1140, .inl past)), (h4, .inl (cI, 380, .inl slots)), (h5, .inl (cZ, 2, .inl sv)), (h6, .inl (cI, 60, .inl pd)), (h7, .inl (cI, 120, .inl tf)), (h8, .inl (cI, 10, .inl tmm))]) := xk_D hD (xg_set (by exact xwW_f))
          have hP := xg_P hP List.perm_append_comm
          have hD := xg_D hD List.perm_append_comm
          have hP : va_P D vwCl ([(q8_2, .inr (8, [.ref h1, .ref h2, .ref h3, .int sz, .ref h4, .ref h5, .ref h6, .int ln, .int gse, .int gte, .int gsp, .ref h7, .ref h8, .int gtl])), (h1, .inl (cI, 190, .inl z)), (h2, .inl (cI, 190, .inl spare)), (h3, .inl (cI, 1140, .inl past)), (h4, .inl (cI, 380, .inl slots)), (h5, .inl (cZ, 2, .inl sv)), (h6, .inl (cI, 60, .inl pd)), (h7, .inl (cI, 120, .inl tf)), (h8, .inl (cI, 10, .inl tmm))] ++ (xwW cI cZ cS q0_1 xa xv ho0 ho1 pd0 pd1 m0 ts0 ts1 a ha sa cn cs sc tm tv pd1q_571 sv ln1_571 old sz z)) H := hP
          have hD : va_D A ([(q8_2, .inr (8, [.ref h1, .ref h2, .ref h3, .int sz, .ref h4, .ref h5, .ref h6, .int ln, .int gse, .int gte, .int gsp, .ref h7, .ref h8, .int gtl])), (h1, .inl (cI, 190, .inl z)), (h2, .inl (cI, 190, .inl spare)), (h3, .inl (cI, 1140, .inl past)), (h4, .inl (cI, 380, .inl slots)), (h5, .inl (cZ, 2, .inl sv)), (h6, .inl (cI, 60, .inl pd)), (h7, .inl (cI, 120, .inl tf)), (h8, .inl (cI, 10, .inl tmm))] ++ (xwW cI cZ cS q0_1 xa xv ho0 ho1 pd0 pd1 m0 ts0 ts1 a ha sa cn cs sc tm tv pd1q_571 sv ln1_571 old sz z)) := hD
          refine lv_aload_n hx hb dL_law_574 rfl (lv_at hl 1 rfl) ?_
          refine lv_aload_n hx hb dL_law_575 rfl (lv_at hl 3 rfl) ?_
          refine lv_iload_n hx hb dL_law_576 rfl (lv_at hl 0 rfl) ?_
          refine lv_iconst (v := 1) hx hb dL_law_577 (by decide) ?_
          refine lv_iadd hx hb dL_law_578 ?_
          refine lv_topi (fun x578 e578 => ?_)
          have t578 : x578.toInt = k.toInt + 1 := by rw [e578]; exact xi_add rfl (by decide) (by omega) (by omega)
          refine va_sld hx hb hX hbl hbA hS (xi_in (by omega) (by omega)) dL_law_579 ?_
          refine xk_top (z := xs (k.toInt.toNat + 1)) (xk_rd (by omega)) ?_
          refine lv_i2l hx hb dL_law_580 rfl ?_
          refine lv_topl (fun y580 e580 => ?_)
          refine lv_bipush (v := 32) hx hb dL_law_581 (by decide) ?_
          refine lv_lshl hx hb dL_law_583 rfl ?_
          refine lv_topl (fun y583 e583 => ?_)
          refine lv_aload_n hx hb dL_law_584 rfl (lv_at hl 3 rfl) ?_
          refine lv_iload_n hx hb dL_law_585 rfl (lv_at hl 0 rfl) ?_
          refine lv_iconst (v := 2) hx hb dL_law_586 (by decide) ?_
          refine lv_iadd hx hb dL_law_587 ?_
          refine lv_topi (fun x587 e587 => ?_)
          have t587 : x587.toInt = k.toInt + 2 := by rw [e587]; exact xi_add rfl (by decide) (by omega) (by omega)
          refine va_sld hx hb hX hbl hbA hS (xi_in (by omega) (by omega)) dL_law_588 ?_
          refine xk_top (z := xs (k.toInt.toNat + 2)) (xk_rd (by omega)) ?_
          refine lv_i2l hx hb dL_law_589 rfl ?_
          refine lv_topl (fun y589 e589 => ?_)
          refine lv_ldc2 (v := 4294967295) hx hb hown (hts _ (List.mem_cons_of_mem _ mw_4_78)) dL_law_590 ?_
          refine lv_land hx hb dL_law_593 ?_
          refine lv_topl (fun y593 e593 => ?_)
          refine lv_lor hx hb dL_law_594 ?_
          refine lv_topl (fun y594 e594 => ?_)
          refine xk_Vi (As := [.long y594]) (rest := [.int r571]) hx hb hml hown hts hK hN hZ hP hD hS hA mb_X8_put mw_3_213 mw_3_214 mw_3_215 (c_X8_put l D cI cZ cS q8_2 h1 h2 h3 h4 h5 h6 h7 h8 sz ln gse gte gsp gtl pd y594 (by exact hlnn)) [0, 6] 0 8 rfl rfl (by decide) rfl (fun _ => by simp only [List.map]) (by decide) (by decide) rfl hl.1 rfl (Nat.le_of_ble_eq_true rfl) dL_law_595 ⟨Nat.le_of_ble_eq_true rfl, Nat.le_of_ble_eq_true rfl⟩ (fun r595 u595 H locs hw hP hD hS => ?_)
          obtain ⟨w595_0, w595_1⟩ := u595
          have hP : va_P D vwCl ([(q8_2, .inr (8, [.ref h1, .ref h2, .ref h3, .int sz, .ref h4, .ref h5, .ref h6, .int w595_0, .int gse, .int gte, .int gsp, .ref h7, .ref h8, .int gtl])), (h1, .inl (cI, 190, .inl z)), (h2, .inl (cI, 190, .inl spare)), (h3, .inl (cI, 1140, .inl past)), (h4, .inl (cI, 380, .inl slots)), (h5, .inl (cZ, 2, .inl sv)), (h6, .inl (cI, 60, .inl w595_1)), (h7, .inl (cI, 120, .inl tf)), (h8, .inl (cI, 10, .inl tmm))] ++ (xwW cI cZ cS q0_1 xa xv ho0 ho1 pd0 pd1 m0 ts0 ts1 a ha sa cn cs sc tm tv pd1q_571 sv ln1_571 old sz z)) H := hP
          have hD : va_D A ([(q8_2, .inr (8, [.ref h1, .ref h2, .ref h3, .int sz, .ref h4, .ref h5, .ref h6, .int w595_0, .int gse, .int gte, .int gsp, .ref h7, .ref h8, .int gtl])), (h1, .inl (cI, 190, .inl z)), (h2, .inl (cI, 190, .inl spare)), (h3, .inl (cI, 1140, .inl past)), (h4, .inl (cI, 380, .inl slots)), (h5, .inl (cZ, 2, .inl sv)), (h6, .inl (cI, 60, .inl w595_1)), (h7, .inl (cI, 120, .inl tf)), (h8, .inl (cI, 10, .inl tmm))] ++ (xwW cI cZ cS q0_1 xa xv ho0 ho1 pd0 pd1 m0 ts0 ts1 a ha sa cn cs sc tm tv pd1q_571 sv ln1_571 old sz z)) := hD
          have p595 : putA y594 ln pd r595 w595_0 w595_1 := hw
          have hyy : y594 = y570 := by subst e594 e593 e589 e583 e580 e570 e569 e565 e559 e556; rfl
          rw [hyy] at p595
          obtain ⟨hrr, hz2, hs2, hl2⟩ := putA_u hlnn p571 p595
          rw [hz2, hs2] at hP hD
          rw [hz2] at hl2
          have hLI2 := LI_ln hLI hl2
          have hP : va_P D vwCl ([(q8_2, .inr (8, [.ref h1, .ref h2, .ref h3, .int sz, .ref h4, .ref h5, .ref h6, .int w595_0, .int gse, .int gte, .int gsp, .ref h7, .ref h8, .int gtl])), (h1, .inl (cI, 190, .inl z)), (h2, .inl (cI, 190, .inl spare)), (h3, .inl (cI, 1140, .inl past)), (h4, .inl (cI, 380, .inl slots)), (h5, .inl (cZ, 2, .inl sv)), (h6, .inl (cI, 60, .inl w595_1)), (h7, .inl (cI, 120, .inl tf)), (h8, .inl (cI, 10, .inl tmm))] ++ (xwW cI cZ cS q0_1 xa xv ho0 ho1 pd0 pd1 m0 ts0 ts1 a ha sa cn cs sc tm tv w595_1 sv w595_0 old sz z)) H := hP
          have hD : va_D A ([(q8_2, .inr (8, [.ref h1, .ref h2, .ref h3, .int sz, .ref h4, .ref h5, .ref h6, .int w595_0, .int gse, .int gte, .int gsp, .ref h7, .ref h8, .int gtl])), (h1, .inl (cI, 190, .inl z)), (h2, .inl (cI, 190, .inl spare)), (h3, .inl (cI, 1140, .inl past)), (h4, .inl (cI, 380, .inl slots)), (h5, .inl (cZ, 2, .inl sv)), (h6, .inl (cI, 60, .inl w595_1)), (h7, .inl (cI, 120, .inl tf)), (h8, .inl (cI, 10, .inl tmm))] ++ (xwW cI cZ cS q0_1 xa xv ho0 ho1 pd0 pd1 m0 ts0 ts1 a ha sa cn cs sc tm tv w595_1 sv w595_0 old sz z)) := hD
          refine lv_icmp_eq (tgt := 688) hx hb dL_law_598 (by decide) (fun c598 => ?_) (fun c598 => ?_)
          · have t598 : r571.toInt = r595.toInt := xi_eq rfl rfl c598
            have d598 : r571 = r595 := c598
            obtain ⟨x688, e688⟩ : ∃ y : Int32, y = k + 4 := ⟨_, rfl⟩
            have t688 : x688.toInt = k.toInt + 4 := by rw [e688]; exact xi_add rfl (by decide) (by omega) (by omega)
            refine lv_iinc (v := x688) (lv' := [(3, .int x688), (2, .ref q8_2), (1, .ref q0_1), (0, .ref b)]) hx hb dL_law_688 hl (k := 0) rfl (by rw [e688]; rfl) (by decide) rfl (fun ls hl => ?_)
            refine lv_goto (tgt := 18) hx hb dL_law_691 (by decide) ?_
            have q18 : (([(q8_2, .inr (8, [.ref h1, .ref h2, .ref h3, .int sz, .ref h4, .ref h5, .ref h6, .int w595_0, .int gse, .int gte, .int gsp, .ref h7, .ref h8, .int gtl])), (h1, .inl (cI, 190, .inl z)), (h2, .inl (cI, 190, .inl spare)), (h3, .inl (cI, 1140, .inl past)), (h4, .inl (cI, 380, .inl slots)), (h5, .inl (cZ, 2, .inl sv)), (h6, .inl (cI, 60, .inl w595_1)), (h7, .inl (cI, 120, .inl tf)), (h8, .inl (cI, 10, .inl tmm))] ++ (xwW cI cZ cS q0_1 xa xv ho0 ho1 pd0 pd1 m0 ts0 ts1 a ha sa cn cs sc tm tv w595_1 sv w595_0 old sz z)) : va_W) = ([(q8_2, .inr (8, [.ref h1, .ref h2, .ref h3, .int sz, .ref h4, .ref h5, .ref h6, .int w595_0, .int gse, .int gte, .int gsp, .ref h7, .ref h8, .int gtl])), (h1, .inl (cI, 190, .inl z)), (h2, .inl (cI, 190, .inl spare)), (h3, .inl (cI, 1140, .inl past)), (h4, .inl (cI, 380, .inl slots)), (h5, .inl (cZ, 2, .inl sv)), (h6, .inl (cI, 60, .inl w595_1)), (h7, .inl (cI, 120, .inl tf)), (h8, .inl (cI, 10, .inl tmm))] ++ (xwW cI cZ cS q0_1 xs xv ho0 ho1 pd0 pd1 m0 ts0 ts1 a ha sa cn cs sc tm tv w595_1 sv w595_0 old sz z)) := by rfl
            exact ih18  x688 cn cs sc tm tv w595_1 sv w595_0 old sz z spare past slots tf tmm gse gte gsp gtl (by omega) (by exact LI_mono (by omega) hLI2) (by omega) _ _ (xk_P hP q18) (xk_D hD q18) hS ls (lv_sub hl [0, 1, 2, 3] rfl)
          · have t598 : ¬ r571.toInt = r595.toInt := xi_ne rfl rfl c598
            have d598 : ¬ r571 = r595 := c598
            exact absurd hrr c598
        · refine lv_tableIn (off := 571) (tgt := 603) hx hb dL_law_32 (by rw [t32]; decide) (by rw [t32]; decide) (by rw [t32]; rfl) (by decide) ?_
          refine lv_aload_n hx hb dL_law_603 rfl (lv_at hl 2 rfl) ?_
          refine xk_Vi (As := []) (rest := []) hx hb hml hown hts hK hN hZ (xg_P hP List.perm_append_comm) (xg_D hD List.perm_append_comm) hS hA mb_X7_wipe mw_3_47 mw_3_48 mw_3_49 (k_X7_wipe l D cI cZ cS x0 xs xv ho0 ho1 pd0 pd1 m0 ts0 ts1 a ha sa cn cs sc tm tv pd sv ln old sz z hRS hI) (List.range ((xwW cI cZ cS q0_1 xa xv ho0 ho1 pd0 pd1 m0 ts0 ts1 a ha sa cn cs sc tm tv pd sv ln old sz z) : va_W).length) 0 7 rfl rfl (xg_ndr _) (xg_range _ _) (fun _ => by exact xwW_f) (by decide) (by decide) rfl hl.1 rfl (Nat.le_of_ble_eq_true rfl) dL_law_604 ⟨Nat.zero_le _, Nat.zero_le _⟩ (fun r604 u604 H locs hw hP hD hS => ?_)
          have p604 : r604 = ln := hw
          have hP : va_P D vwCl ((xwW cI cZ cS q0_1 xa xv ho0 ho1 pd0 pd1 m0 ts0 ts1 a ha sa cn cs sc tm tv pd sv (0 : Int32) old sz z) ++ [(q8_2, .inr (8, [.ref h1, .ref h2, .ref h3, .int sz, .ref h4, .ref h5, .ref h6, .int ln, .int gse, .int gte, .int gsp, .ref h7, .ref h8, .int gtl])), (h1, .inl (cI, 190, .inl z)), (h2, .inl (cI, 190, .inl spare)), (h3, .inl (cI, 1140, .inl past)), (h4, .inl (cI, 380, .inl slots)), (h5, .inl (cZ, 2, .inl sv)), (h6, .inl (cI, 60, .inl pd)), (h7, .inl (cI, 120, .inl tf)), (h8, .inl (cI, 10, .inl tmm))]) H := xk_P hP (xg_set (by exact xwW_f))
          have hD : va_D A ((xwW cI cZ cS q0_1 xa xv ho0 ho1 pd0 pd1 m0 ts0 ts1 a ha sa cn cs sc tm tv pd sv (0 : Int32) old sz z) ++ [(q8_2, .inr (8, [.ref h1, .ref h2, .ref h3, .int sz, .ref h4, .ref h5, .ref h6, .int ln, .int gse, .int gte, .int gsp, .ref h7, .ref h8, .int gtl])), (h1, .inl (cI, 190, .inl z)), (h2, .inl (cI, 190, .inl spare)), (h3, .inl (cI, 1140, .inl past)), (h4, .inl (cI, 380, .inl slots)), (h5, .inl (cZ, 2, .inl sv)), (h6, .inl (cI, 60, .inl pd)), (h7, .inl (cI, 120, .inl tf)), (h8, .inl (cI, 10, .inl tmm))]) := xk_D hD (xg_set (by exact xwW_f))
          have hP := xg_P hP List.perm_append_comm
          have hD := xg_D hD List.perm_append_comm
          have hP : va_P D vwCl ([(q8_2, .inr (8, [.ref h1, .ref h2, .ref h3, .int sz, .ref h4, .ref h5, .ref h6, .int ln, .int gse, .int gte, .int gsp, .ref h7, .ref h8, .int gtl])), (h1, .inl (cI, 190, .inl z)), (h2, .inl (cI, 190, .inl spare)), (h3, .inl (cI, 1140, .inl past)), (h4, .inl (cI, 380, .inl slots)), (h5, .inl (cZ, 2, .inl sv)), (h6, .inl (cI, 60, .inl pd)), (h7, .inl (cI, 120, .inl tf)), (h8, .inl (cI, 10, .inl tmm))] ++ (xwW cI cZ cS q0_1 xa xv ho0 ho1 pd0 pd1 m0 ts0 ts1 a ha sa cn cs sc tm tv pd sv (0 : Int32) old sz z)) H := hP
          have hD : va_D A ([(q8_2, .inr (8, [.ref h1, .ref h2, .ref h3, .int sz, .ref h4, .ref h5, .ref h6, .int ln, .int gse, .int gte, .int gsp, .ref h7, .ref h8, .int gtl])), (h1, .inl (cI, 190, .inl z)), (h2, .inl (cI, 190, .inl spare)), (h3, .inl (cI, 1140, .inl past)), (h4, .inl (cI, 380, .inl slots)), (h5, .inl (cZ, 2, .inl sv)), (h6, .inl (cI, 60, .inl pd)), (h7, .inl (cI, 120, .inl tf)), (h8, .inl (cI, 10, .inl tmm))] ++ (xwW cI cZ cS q0_1 xa xv ho0 ho1 pd0 pd1 m0 ts0 ts1 a ha sa cn cs sc tm tv pd sv (0 : Int32) old sz z)) := hD
          refine lv_aload_n hx hb dL_law_607 rfl (lv_at hl 1 rfl) ?_
          refine xk_Vi1 (As := []) (rest := [.int r604]) hx hb hml hown hts hK hN hZ hP hD hS hA mb_X8_wipe mw_3_218 mw_3_219 mw_3_220 (c_X8_wipe l D cI cZ cS q8_2 h1 h2 h3 h4 h5 h6 h7 h8 sz ln gse gte gsp gtl ) [0] 0 8 rfl rfl (by decide) rfl (fun _ => by simp only [List.map]) (by decide) (by decide) rfl hl.1 rfl (Nat.le_of_ble_eq_true rfl) dL_law_608 ⟨Nat.le_of_ble_eq_true rfl, Nat.le_of_ble_eq_true rfl⟩ (j1 := 0) (i1 := 0) (e1 := fun (_ : Unit) => (q8_2, .inr (8, [.ref h1, .ref h2, .ref h3, .int sz, .ref h4, .ref h5, .ref h6, .int 0, .int gse, .int gte, .int gsp, .ref h7, .ref h8, .int gtl]))) rfl (fun _ => rfl) (fun r608 _ H locs hw hP hD hS => ?_)
          have hP : va_P D vwCl ([(q8_2, .inr (8, [.ref h1, .ref h2, .ref h3, .int sz, .ref h4, .ref h5, .ref h6, .int 0, .int gse, .int gte, .int gsp, .ref h7, .ref h8, .int gtl])), (h1, .inl (cI, 190, .inl z)), (h2, .inl (cI, 190, .inl spare)), (h3, .inl (cI, 1140, .inl past)), (h4, .inl (cI, 380, .inl slots)), (h5, .inl (cZ, 2, .inl sv)), (h6, .inl (cI, 60, .inl pd)), (h7, .inl (cI, 120, .inl tf)), (h8, .inl (cI, 10, .inl tmm))] ++ (xwW cI cZ cS q0_1 xa xv ho0 ho1 pd0 pd1 m0 ts0 ts1 a ha sa cn cs sc tm tv pd sv (0 : Int32) old sz z)) H := hP
          have hD : va_D A ([(q8_2, .inr (8, [.ref h1, .ref h2, .ref h3, .int sz, .ref h4, .ref h5, .ref h6, .int 0, .int gse, .int gte, .int gsp, .ref h7, .ref h8, .int gtl])), (h1, .inl (cI, 190, .inl z)), (h2, .inl (cI, 190, .inl spare)), (h3, .inl (cI, 1140, .inl past)), (h4, .inl (cI, 380, .inl slots)), (h5, .inl (cZ, 2, .inl sv)), (h6, .inl (cI, 60, .inl pd)), (h7, .inl (cI, 120, .inl tf)), (h8, .inl (cI, 10, .inl tmm))] ++ (xwW cI cZ cS q0_1 xa xv ho0 ho1 pd0 pd1 m0 ts0 ts1 a ha sa cn cs sc tm tv pd sv (0 : Int32) old sz z)) := hD
          have e608 : r608 = ln := hw
          have hrr : r604 = r608 := p604.trans e608.symm
          have hLI2 := LI_ln (ln1 := 0) hLI ⟨by decide, by decide⟩
          refine lv_icmp_eq (tgt := 688) hx hb dL_law_611 (by decide) (fun c611 => ?_) (fun c611 => ?_)
          · have t611 : r604.toInt = r608.toInt := xi_eq rfl rfl c611
            have d611 : r604 = r608 := c611
            obtain ⟨x688, e688⟩ : ∃ y : Int32, y = k + 4 := ⟨_, rfl⟩
            have t688 : x688.toInt = k.toInt + 4 := by rw [e688]; exact xi_add rfl (by decide) (by omega) (by omega)
            refine lv_iinc (v := x688) (lv' := [(3, .int x688), (2, .ref q8_2), (1, .ref q0_1), (0, .ref b)]) hx hb dL_law_688 hl (k := 0) rfl (by rw [e688]; rfl) (by decide) rfl (fun ls hl => ?_)
            refine lv_goto (tgt := 18) hx hb dL_law_691 (by decide) ?_
            have q18 : (([(q8_2, .inr (8, [.ref h1, .ref h2, .ref h3, .int sz, .ref h4, .ref h5, .ref h6, .int 0, .int gse, .int gte, .int gsp, .ref h7, .ref h8, .int gtl])), (h1, .inl (cI, 190, .inl z)), (h2, .inl (cI, 190, .inl spare)), (h3, .inl (cI, 1140, .inl past)), (h4, .inl (cI, 380, .inl slots)), (h5, .inl (cZ, 2, .inl sv)), (h6, .inl (cI, 60, .inl pd)), (h7, .inl (cI, 120, .inl tf)), (h8, .inl (cI, 10, .inl tmm))] ++ (xwW cI cZ cS q0_1 xa xv ho0 ho1 pd0 pd1 m0 ts0 ts1 a ha sa cn cs sc tm tv pd sv (0 : Int32) old sz z)) : va_W) = ([(q8_2, .inr (8, [.ref h1, .ref h2, .ref h3, .int sz, .ref h4, .ref h5, .ref h6, .int 0, .int gse, .int gte, .int gsp, .ref h7, .ref h8, .int gtl])), (h1, .inl (cI, 190, .inl z)), (h2, .inl (cI, 190, .inl spare)), (h3, .inl (cI, 1140, .inl past)), (h4, .inl (cI, 380, .inl slots)), (h5, .inl (cZ, 2, .inl sv)), (h6, .inl (cI, 60, .inl pd)), (h7, .inl (cI, 120, .inl tf)), (h8, .inl (cI, 10, .inl tmm))] ++ (xwW cI cZ cS q0_1 xs xv ho0 ho1 pd0 pd1 m0 ts0 ts1 a ha sa cn cs sc tm tv pd sv (0 : Int32) old sz z)) := by rfl
            exact ih18  x688 cn cs sc tm tv pd sv (0 : Int32) old sz z spare past slots tf tmm gse gte gsp gtl (by omega) (by exact LI_mono (by omega) hLI2) (by omega) _ _ (xk_P hP q18) (xk_D hD q18) hS ls (lv_sub hl [0, 1, 2, 3] rfl)
          · have t611 : ¬ r604.toInt = r608.toInt := xi_ne rfl rfl c611
            have d611 : ¬ r604 = r608 := c611
            exact absurd hrr c611
        · refine lv_tableIn (off := 584) (tgt := 616) hx hb dL_law_32 (by rw [t32]; decide) (by rw [t32]; decide) (by rw [t32]; rfl) (by decide) ?_
          refine lv_aload_n hx hb dL_law_616 rfl (lv_at hl 2 rfl) ?_
          refine xk_Vi (As := []) (rest := []) hx hb hml hown hts hK hN hZ (xg_P hP List.perm_append_comm) (xg_D hD List.perm_append_comm) hS hA mb_X7_fault mw_3_51 mw_3_52 mw_3_53 (k_X7_fault l D cI cZ cS x0 xs xv ho0 ho1 pd0 pd1 m0 ts0 ts1 a ha sa cn cs sc tm tv pd sv ln old sz z hRS hI hlnn) (List.range ((xwW cI cZ cS q0_1 xa xv ho0 ho1 pd0 pd1 m0 ts0 ts1 a ha sa cn cs sc tm tv pd sv ln old sz z) : va_W).length) 0 7 rfl rfl (xg_ndr _) (xg_range _ _) (fun _ => by exact xwW_f) (by decide) (by decide) rfl hl.1 rfl (Nat.le_of_ble_eq_true rfl) dL_law_617 ⟨Nat.zero_le _, Nat.zero_le _⟩ (fun r617 u617 H locs hw hP hD hS => ?_)
          have p617 : (FN pd ln.toInt.toNat ∧ r617 = -6) ∨ (FA pd ln.toInt.toNat r617.toInt.toNat ∧ 0 ≤ r617.toInt ∧ r617.toInt ≤ ln.toInt) := hw
          have hP : va_P D vwCl ((xwW cI cZ cS q0_1 xa xv ho0 ho1 pd0 pd1 m0 ts0 ts1 a ha sa cn cs sc tm tv pd sv ln old sz z) ++ [(q8_2, .inr (8, [.ref h1, .ref h2, .ref h3, .int sz, .ref h4, .ref h5, .ref h6, .int ln, .int gse, .int gte, .int gsp, .ref h7, .ref h8, .int gtl])), (h1, .inl (cI, 190, .inl z)), (h2, .inl (cI, 190, .inl spare)), (h3, .inl (cI, 1140, .inl past)), (h4, .inl (cI, 380, .inl slots)), (h5, .inl (cZ, 2, .inl sv)), (h6, .inl (cI, 60, .inl pd)), (h7, .inl (cI, 120, .inl tf)), (h8, .inl (cI, 10, .inl tmm))]) H := xk_P hP (xg_set (by exact xwW_f))
          have hD : va_D A ((xwW cI cZ cS q0_1 xa xv ho0 ho1 pd0 pd1 m0 ts0 ts1 a ha sa cn cs sc tm tv pd sv ln old sz z) ++ [(q8_2, .inr (8, [.ref h1, .ref h2, .ref h3, .int sz, .ref h4, .ref h5, .ref h6, .int ln, .int gse, .int gte, .int gsp, .ref h7, .ref h8, .int gtl])), (h1, .inl (cI, 190, .inl z)), (h2, .inl (cI, 190, .inl spare)), (h3, .inl (cI, 1140, .inl past)), (h4, .inl (cI, 380, .inl slots)), (h5, .inl (cZ, 2, .inl sv)), (h6, .inl (cI, 60, .inl pd)), (h7, .inl (cI, 120, .inl tf)), (h8, .inl (cI, 10, .inl tmm))]) := xk_D hD (xg_set (by exact xwW_f))
          have hP := xg_P hP List.perm_append_comm
          have hD := xg_D hD List.perm_append_comm
          have hP : va_P D vwCl ([(q8_2, .inr (8, [.ref h1, .ref h2, .ref h3, .int sz, .ref h4, .ref h5, .ref h6, .int ln, .int gse, .int gte, .int gsp, .ref h7, .ref h8, .int gtl])), (h1, .inl (cI, 190, .inl z)), (h2, .inl (cI, 190, .inl spare)), (h3, .inl (cI, 1140, .inl past)), (h4, .inl (cI, 380, .inl slots)), (h5, .inl (cZ, 2, .inl sv)), (h6, .inl (cI, 60, .inl pd)), (h7, .inl (cI, 120, .inl tf)), (h8, .inl (cI, 10, .inl tmm))] ++ (xwW cI cZ cS q0_1 xa xv ho0 ho1 pd0 pd1 m0 ts0 ts1 a ha sa cn cs sc tm tv pd sv ln old sz z)) H := hP
          have hD : va_D A ([(q8_2, .inr (8, [.ref h1, .ref h2, .ref h3, .int sz, .ref h4, .ref h5, .ref h6, .int ln, .int gse, .int gte, .int gsp, .ref h7, .ref h8, .int gtl])), (h1, .inl (cI, 190, .inl z)), (h2, .inl (cI, 190, .inl spare)), (h3, .inl (cI, 1140, .inl past)), (h4, .inl (cI, 380, .inl slots)), (h5, .inl (cZ, 2, .inl sv)), (h6, .inl (cI, 60, .inl pd)), (h7, .inl (cI, 120, .inl tf)), (h8, .inl (cI, 10, .inl tmm))] ++ (xwW cI cZ cS q0_1 xa xv ho0 ho1 pd0 pd1 m0 ts0 ts1 a ha sa cn cs sc tm tv pd sv ln old sz z)) := hD
          refine lv_aload_n hx hb dL_law_620 rfl (lv_at hl 1 rfl) ?_
          refine xk_Vi (As := []) (rest := [.int r617]) hx hb hml hown hts hK hN hZ hP hD hS hA mb_X8_fault mw_3_222 mw_3_223 mw_3_224 (c_X8_fault2 l D cI cZ cS q8_2 h1 h2 h3 h4 h5 h6 h7 h8 sz ln gse gte gsp gtl pd tf tmm (by exact hlnn)) [0, 6, 7, 8] 0 8 rfl rfl (by decide) rfl (fun _ => by simp only [List.map]) (by decide) (by decide) rfl hl.1 rfl (Nat.le_of_ble_eq_true rfl) dL_law_621 ⟨Nat.le_of_ble_eq_true rfl, Nat.le_of_ble_eq_true rfl⟩ (fun r621 u621 H locs hw hP hD hS => ?_)
          obtain ⟨w621_0, w621_1, w621_2, w621_3⟩ := u621
          have hP : va_P D vwCl ([(q8_2, .inr (8, [.ref h1, .ref h2, .ref h3, .int sz, .ref h4, .ref h5, .ref h6, .int ln, .int gse, .int gte, .int w621_0, .ref h7, .ref h8, .int w621_1])), (h1, .inl (cI, 190, .inl z)), (h2, .inl (cI, 190, .inl spare)), (h3, .inl (cI, 1140, .inl past)), (h4, .inl (cI, 380, .inl slots)), (h5, .inl (cZ, 2, .inl sv)), (h6, .inl (cI, 60, .inl pd)), (h7, .inl (cI, 120, .inl w621_2)), (h8, .inl (cI, 10, .inl w621_3))] ++ (xwW cI cZ cS q0_1 xa xv ho0 ho1 pd0 pd1 m0 ts0 ts1 a ha sa cn cs sc tm tv pd sv ln old sz z)) H := hP
          have hD : va_D A ([(q8_2, .inr (8, [.ref h1, .ref h2, .ref h3, .int sz, .ref h4, .ref h5, .ref h6, .int ln, .int gse, .int gte, .int w621_0, .ref h7, .ref h8, .int w621_1])), (h1, .inl (cI, 190, .inl z)), (h2, .inl (cI, 190, .inl spare)), (h3, .inl (cI, 1140, .inl past)), (h4, .inl (cI, 380, .inl slots)), (h5, .inl (cZ, 2, .inl sv)), (h6, .inl (cI, 60, .inl pd)), (h7, .inl (cI, 120, .inl w621_2)), (h8, .inl (cI, 10, .inl w621_3))] ++ (xwW cI cZ cS q0_1 xa xv ho0 ho1 pd0 pd1 m0 ts0 ts1 a ha sa cn cs sc tm tv pd sv ln old sz z)) := hD
          have p621 : (FN pd ln.toInt.toNat ∧ r621 = -6) ∨ (FA pd ln.toInt.toNat r621.toInt.toNat ∧ 0 ≤ r621.toInt ∧ r621.toInt ≤ ln.toInt) := hw
          have hrr : r617 = r621 := fault_u p617 p621
          refine lv_icmp_eq (tgt := 688) hx hb dL_law_624 (by decide) (fun c624 => ?_) (fun c624 => ?_)
          · have t624 : r617.toInt = r621.toInt := xi_eq rfl rfl c624
            have d624 : r617 = r621 := c624
            obtain ⟨x688, e688⟩ : ∃ y : Int32, y = k + 4 := ⟨_, rfl⟩
            have t688 : x688.toInt = k.toInt + 4 := by rw [e688]; exact xi_add rfl (by decide) (by omega) (by omega)
            refine lv_iinc (v := x688) (lv' := [(3, .int x688), (2, .ref q8_2), (1, .ref q0_1), (0, .ref b)]) hx hb dL_law_688 hl (k := 0) rfl (by rw [e688]; rfl) (by decide) rfl (fun ls hl => ?_)
            refine lv_goto (tgt := 18) hx hb dL_law_691 (by decide) ?_
            have q18 : (([(q8_2, .inr (8, [.ref h1, .ref h2, .ref h3, .int sz, .ref h4, .ref h5, .ref h6, .int ln, .int gse, .int gte, .int w621_0, .ref h7, .ref h8, .int w621_1])), (h1, .inl (cI, 190, .inl z)), (h2, .inl (cI, 190, .inl spare)), (h3, .inl (cI, 1140, .inl past)), (h4, .inl (cI, 380, .inl slots)), (h5, .inl (cZ, 2, .inl sv)), (h6, .inl (cI, 60, .inl pd)), (h7, .inl (cI, 120, .inl w621_2)), (h8, .inl (cI, 10, .inl w621_3))] ++ (xwW cI cZ cS q0_1 xa xv ho0 ho1 pd0 pd1 m0 ts0 ts1 a ha sa cn cs sc tm tv pd sv ln old sz z)) : va_W) = ([(q8_2, .inr (8, [.ref h1, .ref h2, .ref h3, .int sz, .ref h4, .ref h5, .ref h6, .int ln, .int gse, .int gte, .int w621_0, .ref h7, .ref h8, .int w621_1])), (h1, .inl (cI, 190, .inl z)), (h2, .inl (cI, 190, .inl spare)), (h3, .inl (cI, 1140, .inl past)), (h4, .inl (cI, 380, .inl slots)), (h5, .inl (cZ, 2, .inl sv)), (h6, .inl (cI, 60, .inl pd)), (h7, .inl (cI, 120, .inl w621_2)), (h8, .inl (cI, 10, .inl w621_3))] ++ (xwW cI cZ cS q0_1 xs xv ho0 ho1 pd0 pd1 m0 ts0 ts1 a ha sa cn cs sc tm tv pd sv ln old sz z)) := by rfl
            exact ih18  x688 cn cs sc tm tv pd sv ln old sz z spare past slots w621_2 w621_3 gse gte w621_0 w621_1 (by omega) (by exact LI_mono (by omega) hLI) (by omega) _ _ (xk_P hP q18) (xk_D hD q18) hS ls (lv_sub hl [0, 1, 2, 3] rfl)
          · have t624 : ¬ r617.toInt = r621.toInt := xi_ne rfl rfl c624
            have d624 : ¬ r617 = r621 := c624
            exact absurd hrr c624
        · refine lv_tableIn (off := 597) (tgt := 629) hx hb dL_law_32 (by rw [t32]; decide) (by rw [t32]; decide) (by rw [t32]; rfl) (by decide) ?_
          refine lv_aload_n hx hb dL_law_629 rfl (lv_at hl 2 rfl) ?_
          refine xk_Vi (As := []) (rest := []) hx hb hml hown hts hK hN hZ (xg_P hP List.perm_append_comm) (xg_D hD List.perm_append_comm) hS hA mb_X7_undo mw_3_55 mw_3_56 mw_3_57 (k_X7_undo l D cI cZ cS x0 xs xv ho0 ho1 pd0 pd1 m0 ts0 ts1 a ha sa cn cs sc tm tv pd sv ln old sz z (undoZ sz past z) hRS hI hold hszz (fun i hi => (hmcs i hi).1) (fun i hi => (hmcs i hi).2) ((LI_undo hLI).1)) (List.range ((xwW cI cZ cS q0_1 xa xv ho0 ho1 pd0 pd1 m0 ts0 ts1 a ha sa cn cs sc tm tv pd sv ln old sz z) : va_W).length) 0 7 rfl rfl (xg_ndr _) (xg_range _ _) (fun _ => by exact xwW_f) (by decide) (by decide) rfl hl.1 rfl (Nat.le_of_ble_eq_true rfl) dL_law_630 ⟨Nat.zero_le _, Nat.zero_le _⟩ (fun r630 u630 H locs hw hP hD hS => ?_)
          obtain ⟨cq_630, zq_630, old1_630, sz1_630, cs1_630⟩ := u630
          have p630 : r630 = undoR sz ∧ ((sz = 0 ∧ Same cn z old sz cs cq_630 zq_630 old1_630 sz1_630 cs1_630) ∨ (¬ sz = 0 ∧ cq_630 = cs (tbJ old sz) ∧ zq_630 = (undoZ sz past z) ∧ old1_630 = old ∧ sz1_630 = sz - 1 ∧ cs1_630 = cs)) := hw
          have hP : va_P D vwCl ((xwW cI cZ cS q0_1 xa xv ho0 ho1 pd0 pd1 m0 ts0 ts1 a ha sa cq_630 cs1_630 sc tm tv pd sv ln old1_630 sz1_630 zq_630) ++ [(q8_2, .inr (8, [.ref h1, .ref h2, .ref h3, .int sz, .ref h4, .ref h5, .ref h6, .int ln, .int gse, .int gte, .int gsp, .ref h7, .ref h8, .int gtl])), (h1, .inl (cI, 190, .inl z)), (h2, .inl (cI, 190, .inl spare)), (h3, .inl (cI, 1140, .inl past)), (h4, .inl (cI, 380, .inl slots)), (h5, .inl (cZ, 2, .inl sv)), (h6, .inl (cI, 60, .inl pd)), (h7, .inl (cI, 120, .inl tf)), (h8, .inl (cI, 10, .inl tmm))]) H := xk_P hP (xg_set (by exact xwW_f))
          have hD : va_D A ((xwW cI cZ cS q0_1 xa xv ho0 ho1 pd0 pd1 m0 ts0 ts1 a ha sa cq_630 cs1_630 sc tm tv pd sv ln old1_630 sz1_630 zq_630) ++ [(q8_2, .inr (8, [.ref h1, .ref h2, .ref h3, .int sz, .ref h4, .ref h5, .ref h6, .int ln, .int gse, .int gte, .int gsp, .ref h7, .ref h8, .int gtl])), (h1, .inl (cI, 190, .inl z)), (h2, .inl (cI, 190, .inl spare)), (h3, .inl (cI, 1140, .inl past)), (h4, .inl (cI, 380, .inl slots)), (h5, .inl (cZ, 2, .inl sv)), (h6, .inl (cI, 60, .inl pd)), (h7, .inl (cI, 120, .inl tf)), (h8, .inl (cI, 10, .inl tmm))]) := xk_D hD (xg_set (by exact xwW_f))
          have hP := xg_P hP List.perm_append_comm
          have hD := xg_D hD List.perm_append_comm
          have hP : va_P D vwCl ([(q8_2, .inr (8, [.ref h1, .ref h2, .ref h3, .int sz, .ref h4, .ref h5, .ref h6, .int ln, .int gse, .int gte, .int gsp, .ref h7, .ref h8, .int gtl])), (h1, .inl (cI, 190, .inl z)), (h2, .inl (cI, 190, .inl spare)), (h3, .inl (cI, 1140, .inl past)), (h4, .inl (cI, 380, .inl slots)), (h5, .inl (cZ, 2, .inl sv)), (h6, .inl (cI, 60, .inl pd)), (h7, .inl (cI, 120, .inl tf)), (h8, .inl (cI, 10, .inl tmm))] ++ (xwW cI cZ cS q0_1 xa xv ho0 ho1 pd0 pd1 m0 ts0 ts1 a ha sa cq_630 cs1_630 sc tm tv pd sv ln old1_630 sz1_630 zq_630)) H := hP
          have hD : va_D A ([(q8_2, .inr (8, [.ref h1, .ref h2, .ref h3, .int sz, .ref h4, .ref h5, .ref h6, .int ln, .int gse, .int gte, .int gsp, .ref h7, .ref h8, .int gtl])), (h1, .inl (cI, 190, .inl z)), (h2, .inl (cI, 190, .inl spare)), (h3, .inl (cI, 1140, .inl past)), (h4, .inl (cI, 380, .inl slots)), (h5, .inl (cZ, 2, .inl sv)), (h6, .inl (cI, 60, .inl pd)), (h7, .inl (cI, 120, .inl tf)), (h8, .inl (cI, 10, .inl tmm))] ++ (xwW cI cZ cS q0_1 xa xv ho0 ho1 pd0 pd1 m0 ts0 ts1 a ha sa cq_630 cs1_630 sc tm tv pd sv ln old1_630 sz1_630 zq_630)) := hD
          refine lv_aload_n hx hb dL_law_633 rfl (lv_at hl 1 rfl) ?_
          refine xk_Vi (As := []) (rest := [.int r630]) hx hb hml hown hts hK hN hZ hP hD hS hA mb_X8_undo mw_3_128 mw_3_129 mw_3_130 (c_X8_undo l D cI cZ cS q8_2 h1 h2 h3 h4 h5 h6 h7 h8 sz ln gse gte gsp gtl z past (by exact hszz)) [0, 1, 3] 0 8 rfl rfl (by decide) rfl (fun _ => by simp only [List.map]) (by decide) (by decide) rfl hl.1 rfl (Nat.le_of_ble_eq_true rfl) dL_law_634 ⟨Nat.le_of_ble_eq_true rfl, Nat.le_of_ble_eq_true rfl⟩ (fun r634 _ H locs hw hP hD hS => ?_)
          have hP : va_P D vwCl ([(q8_2, .inr (8, [.ref h1, .ref h2, .ref h3, .int (undoS sz), .ref h4, .ref h5, .ref h6, .int ln, .int gse, .int gte, .int gsp, .ref h7, .ref h8, .int gtl])), (h1, .inl (cI, 190, .inl (undoZ sz past z))), (h2, .inl (cI, 190, .inl spare)), (h3, .inl (cI, 1140, .inl past)), (h4, .inl (cI, 380, .inl slots)), (h5, .inl (cZ, 2, .inl sv)), (h6, .inl (cI, 60, .inl pd)), (h7, .inl (cI, 120, .inl tf)), (h8, .inl (cI, 10, .inl tmm))] ++ (xwW cI cZ cS q0_1 xa xv ho0 ho1 pd0 pd1 m0 ts0 ts1 a ha sa cq_630 cs1_630 sc tm tv pd sv ln old1_630 sz1_630 zq_630)) H := hP
          have hD : va_D A ([(q8_2, .inr (8, [.ref h1, .ref h2, .ref h3, .int (undoS sz), .ref h4, .ref h5, .ref h6, .int ln, .int gse, .int gte, .int gsp, .ref h7, .ref h8, .int gtl])), (h1, .inl (cI, 190, .inl (undoZ sz past z))), (h2, .inl (cI, 190, .inl spare)), (h3, .inl (cI, 1140, .inl past)), (h4, .inl (cI, 380, .inl slots)), (h5, .inl (cZ, 2, .inl sv)), (h6, .inl (cI, 60, .inl pd)), (h7, .inl (cI, 120, .inl tf)), (h8, .inl (cI, 10, .inl tmm))] ++ (xwW cI cZ cS q0_1 xa xv ho0 ho1 pd0 pd1 m0 ts0 ts1 a ha sa cq_630 cs1_630 sc tm tv pd sv ln old1_630 sz1_630 zq_630)) := hD
          have e634 : r634 = undoR sz := hw
          obtain ⟨hLI2, hz2, hs2⟩ := (LI_undo hLI).2 _ _ _ _ _ p630.2
          have hrr : r630 = r634 := by rw [p630.1, e634]
          rw [hz2, hs2] at hP hD
          have hP : va_P D vwCl ([(q8_2, .inr (8, [.ref h1, .ref h2, .ref h3, .int (undoS sz), .ref h4, .ref h5, .ref h6, .int ln, .int gse, .int gte, .int gsp, .ref h7, .ref h8, .int gtl])), (h1, .inl (cI, 190, .inl (undoZ sz past z))), (h2, .inl (cI, 190, .inl spare)), (h3, .inl (cI, 1140, .inl past)), (h4, .inl (cI, 380, .inl slots)), (h5, .inl (cZ, 2, .inl sv)), (h6, .inl (cI, 60, .inl pd)), (h7, .inl (cI, 120, .inl tf)), (h8, .inl (cI, 10, .inl tmm))] ++ (xwW cI cZ cS q0_1 xa xv ho0 ho1 pd0 pd1 m0 ts0 ts1 a ha sa cq_630 cs1_630 sc tm tv pd sv ln old1_630 (undoS sz) (undoZ sz past z))) H := hP
          have hD : va_D A ([(q8_2, .inr (8, [.ref h1, .ref h2, .ref h3, .int (undoS sz), .ref h4, .ref h5, .ref h6, .int ln, .int gse, .int gte, .int gsp, .ref h7, .ref h8, .int gtl])), (h1, .inl (cI, 190, .inl (undoZ sz past z))), (h2, .inl (cI, 190, .inl spare)), (h3, .inl (cI, 1140, .inl past)), (h4, .inl (cI, 380, .inl slots)), (h5, .inl (cZ, 2, .inl sv)), (h6, .inl (cI, 60, .inl pd)), (h7, .inl (cI, 120, .inl tf)), (h8, .inl (cI, 10, .inl tmm))] ++ (xwW cI cZ cS q0_1 xa xv ho0 ho1 pd0 pd1 m0 ts0 ts1 a ha sa cq_630 cs1_630 sc tm tv pd sv ln old1_630 (undoS sz) (undoZ sz past z))) := hD
          refine lv_icmp_eq (tgt := 688) hx hb dL_law_637 (by decide) (fun c637 => ?_) (fun c637 => ?_)
          · have t637 : r630.toInt = r634.toInt := xi_eq rfl rfl c637
            have d637 : r630 = r634 := c637
            obtain ⟨x688, e688⟩ : ∃ y : Int32, y = k + 4 := ⟨_, rfl⟩
            have t688 : x688.toInt = k.toInt + 4 := by rw [e688]; exact xi_add rfl (by decide) (by omega) (by omega)
            refine lv_iinc (v := x688) (lv' := [(3, .int x688), (2, .ref q8_2), (1, .ref q0_1), (0, .ref b)]) hx hb dL_law_688 hl (k := 0) rfl (by rw [e688]; rfl) (by decide) rfl (fun ls hl => ?_)
            refine lv_goto (tgt := 18) hx hb dL_law_691 (by decide) ?_
            have q18 : (([(q8_2, .inr (8, [.ref h1, .ref h2, .ref h3, .int (undoS sz), .ref h4, .ref h5, .ref h6, .int ln, .int gse, .int gte, .int gsp, .ref h7, .ref h8, .int gtl])), (h1, .inl (cI, 190, .inl (undoZ sz past z))), (h2, .inl (cI, 190, .inl spare)), (h3, .inl (cI, 1140, .inl past)), (h4, .inl (cI, 380, .inl slots)), (h5, .inl (cZ, 2, .inl sv)), (h6, .inl (cI, 60, .inl pd)), (h7, .inl (cI, 120, .inl tf)), (h8, .inl (cI, 10, .inl tmm))] ++ (xwW cI cZ cS q0_1 xa xv ho0 ho1 pd0 pd1 m0 ts0 ts1 a ha sa cq_630 cs1_630 sc tm tv pd sv ln old1_630 (undoS sz) (undoZ sz past z))) : va_W) = ([(q8_2, .inr (8, [.ref h1, .ref h2, .ref h3, .int (undoS sz), .ref h4, .ref h5, .ref h6, .int ln, .int gse, .int gte, .int gsp, .ref h7, .ref h8, .int gtl])), (h1, .inl (cI, 190, .inl (undoZ sz past z))), (h2, .inl (cI, 190, .inl spare)), (h3, .inl (cI, 1140, .inl past)), (h4, .inl (cI, 380, .inl slots)), (h5, .inl (cZ, 2, .inl sv)), (h6, .inl (cI, 60, .inl pd)), (h7, .inl (cI, 120, .inl tf)), (h8, .inl (cI, 10, .inl tmm))] ++ (xwW cI cZ cS q0_1 xs xv ho0 ho1 pd0 pd1 m0 ts0 ts1 a ha sa cq_630 cs1_630 sc tm tv pd sv ln old1_630 (undoS sz) (undoZ sz past z))) := by rfl
            exact ih18  x688 cq_630 cs1_630 sc tm tv pd sv ln old1_630 (undoS sz) (undoZ sz past z) spare past slots tf tmm gse gte gsp gtl (by omega) (by exact LI_mono (by omega) hLI2) (by omega) _ _ (xk_P hP q18) (xk_D hD q18) hS ls (lv_sub hl [0, 1, 2, 3] rfl)
          · have t637 : ¬ r630.toInt = r634.toInt := xi_ne rfl rfl c637
            have d637 : ¬ r630 = r634 := c637
            exact absurd hrr c637
        · refine lv_tableIn (off := 610) (tgt := 642) hx hb dL_law_32 (by rw [t32]; decide) (by rw [t32]; decide) (by rw [t32]; rfl) (by decide) ?_
          refine lv_aload_n hx hb dL_law_642 rfl (lv_at hl 2 rfl) ?_
          refine lv_aload_n hx hb dL_law_643 rfl (lv_at hl 3 rfl) ?_
          refine lv_iload_n hx hb dL_law_644 rfl (lv_at hl 0 rfl) ?_
          refine lv_iconst (v := 1) hx hb dL_law_645 (by decide) ?_
          refine lv_iadd hx hb dL_law_646 ?_
          refine lv_topi (fun x646 e646 => ?_)
          have t646 : x646.toInt = k.toInt + 1 := by rw [e646]; exact xi_add rfl (by decide) (by omega) (by omega)
          refine va_sld hx hb hX hbl hbA hS (xi_in (by omega) (by omega)) dL_law_647 ?_
          refine xk_top (z := xs (k.toInt.toNat + 1)) (xk_rd (by omega)) ?_
          refine xk_Vi (As := [.int (xs (k.toInt.toNat + 1))]) (rest := []) hx hb hml hown hts hK hN hZ (xg_P hP List.perm_append_comm) (xg_D hD List.perm_append_comm) hS hA mb_X7_save mw_3_63 mw_3_64 mw_3_65 (k_X7_save l D cI cZ cS x0 xs xv ho0 ho1 pd0 pd1 m0 ts0 ts1 a ha sa cn cs sc tm tv pd sv ln old sz z (xs (k.toInt.toNat + 1)) hRS hI) (List.range ((xwW cI cZ cS q0_1 xa xv ho0 ho1 pd0 pd1 m0 ts0 ts1 a ha sa cn cs sc tm tv pd sv ln old sz z) : va_W).length) 0 7 rfl rfl (xg_ndr _) (xg_range _ _) (fun _ => by exact xwW_f) (by decide) (by decide) rfl hl.1 rfl (Nat.le_of_ble_eq_true rfl) dL_law_648 ⟨Nat.zero_le _, Nat.zero_le _⟩ (fun r648 u648 H locs hw hP hD hS => ?_)
          obtain ⟨sc1_648, sv1_648⟩ := u648
          have p648 : r648 = (if slotV (xs (k.toInt.toNat + 1)) then z 174 else -2) ∧ ((slotV (xs (k.toInt.toNat + 1)) ∧ sc1_648 = recC sc (cZm cn z) (xs (k.toInt.toNat + 1)).toInt.toNat ∧ sv1_648 = upd sv (xs (k.toInt.toNat + 1)).toInt.toNat 1) ∨ (¬ slotV (xs (k.toInt.toNat + 1)) ∧ sc1_648 = sc ∧ sv1_648 = sv)) := hw
          have hP : va_P D vwCl ((xwW cI cZ cS q0_1 xa xv ho0 ho1 pd0 pd1 m0 ts0 ts1 a ha sa cn cs sc1_648 tm tv pd sv1_648 ln old sz z) ++ [(q8_2, .inr (8, [.ref h1, .ref h2, .ref h3, .int sz, .ref h4, .ref h5, .ref h6, .int ln, .int gse, .int gte, .int gsp, .ref h7, .ref h8, .int gtl])), (h1, .inl (cI, 190, .inl z)), (h2, .inl (cI, 190, .inl spare)), (h3, .inl (cI, 1140, .inl past)), (h4, .inl (cI, 380, .inl slots)), (h5, .inl (cZ, 2, .inl sv)), (h6, .inl (cI, 60, .inl pd)), (h7, .inl (cI, 120, .inl tf)), (h8, .inl (cI, 10, .inl tmm))]) H := xk_P hP (xg_set (by exact xwW_f))
          have hD : va_D A ((xwW cI cZ cS q0_1 xa xv ho0 ho1 pd0 pd1 m0 ts0 ts1 a ha sa cn cs sc1_648 tm tv pd sv1_648 ln old sz z) ++ [(q8_2, .inr (8, [.ref h1, .ref h2, .ref h3, .int sz, .ref h4, .ref h5, .ref h6, .int ln, .int gse, .int gte, .int gsp, .ref h7, .ref h8, .int gtl])), (h1, .inl (cI, 190, .inl z)), (h2, .inl (cI, 190, .inl spare)), (h3, .inl (cI, 1140, .inl past)), (h4, .inl (cI, 380, .inl slots)), (h5, .inl (cZ, 2, .inl sv)), (h6, .inl (cI, 60, .inl pd)), (h7, .inl (cI, 120, .inl tf)), (h8, .inl (cI, 10, .inl tmm))]) := xk_D hD (xg_set (by exact xwW_f))
          have hP := xg_P hP List.perm_append_comm
          have hD := xg_D hD List.perm_append_comm
          have hP : va_P D vwCl ([(q8_2, .inr (8, [.ref h1, .ref h2, .ref h3, .int sz, .ref h4, .ref h5, .ref h6, .int ln, .int gse, .int gte, .int gsp, .ref h7, .ref h8, .int gtl])), (h1, .inl (cI, 190, .inl z)), (h2, .inl (cI, 190, .inl spare)), (h3, .inl (cI, 1140, .inl past)), (h4, .inl (cI, 380, .inl slots)), (h5, .inl (cZ, 2, .inl sv)), (h6, .inl (cI, 60, .inl pd)), (h7, .inl (cI, 120, .inl tf)), (h8, .inl (cI, 10, .inl tmm))] ++ (xwW cI cZ cS q0_1 xa xv ho0 ho1 pd0 pd1 m0 ts0 ts1 a ha sa cn cs sc1_648 tm tv pd sv1_648 ln old sz z)) H := hP
          have hD : va_D A ([(q8_2, .inr (8, [.ref h1, .ref h2, .ref h3, .int sz, .ref h4, .ref h5, .ref h6, .int ln, .int gse, .int gte, .int gsp, .ref h7, .ref h8, .int gtl])), (h1, .inl (cI, 190, .inl z)), (h2, .inl (cI, 190, .inl spare)), (h3, .inl (cI, 1140, .inl past)), (h4, .inl (cI, 380, .inl slots)), (h5, .inl (cZ, 2, .inl sv)), (h6, .inl (cI, 60, .inl pd)), (h7, .inl (cI, 120, .inl tf)), (h8, .inl (cI, 10, .inl tmm))] ++ (xwW cI cZ cS q0_1 xa xv ho0 ho1 pd0 pd1 m0 ts0 ts1 a ha sa cn cs sc1_648 tm tv pd sv1_648 ln old sz z)) := hD
          refine lv_aload_n hx hb dL_law_651 rfl (lv_at hl 1 rfl) ?_
          refine lv_aload_n hx hb dL_law_652 rfl (lv_at hl 3 rfl) ?_
          refine lv_iload_n hx hb dL_law_653 rfl (lv_at hl 0 rfl) ?_
          refine lv_iconst (v := 1) hx hb dL_law_654 (by decide) ?_
          refine lv_iadd hx hb dL_law_655 ?_
          refine lv_topi (fun x655 e655 => ?_)
          have t655 : x655.toInt = k.toInt + 1 := by rw [e655]; exact xi_add rfl (by decide) (by omega) (by omega)
          refine va_sld hx hb hX hbl hbA hS (xi_in (by omega) (by omega)) dL_law_656 ?_
          refine xk_top (z := xs (k.toInt.toNat + 1)) (xk_rd (by omega)) ?_
          refine xk_Vi (As := [.int (xs (k.toInt.toNat + 1))]) (rest := [.int r648]) hx hb hml hown hts hK hN hZ hP hD hS hA mb_X8_save mw_3_135 mw_3_136 mw_3_137 (c_X8_save l D cI cZ cS q8_2 h1 h2 h3 h4 h5 h6 h7 h8 sz ln gse gte gsp gtl z slots sv (xs (k.toInt.toNat + 1)) ) [0, 1, 4, 5] 0 8 rfl rfl (by decide) rfl (fun _ => by simp only [List.map]) (by decide) (by decide) rfl hl.1 rfl (Nat.le_of_ble_eq_true rfl) dL_law_657 ⟨Nat.le_of_ble_eq_true rfl, Nat.le_of_ble_eq_true rfl⟩ (fun r657 _ H locs hw hP hD hS => ?_)
          have hP : va_P D vwCl ([(q8_2, .inr (8, [.ref h1, .ref h2, .ref h3, .int sz, .ref h4, .ref h5, .ref h6, .int ln, .int gse, .int gte, .int gsp, .ref h7, .ref h8, .int gtl])), (h1, .inl (cI, 190, .inl z)), (h2, .inl (cI, 190, .inl spare)), (h3, .inl (cI, 1140, .inl past)), (h4, .inl (cI, 380, .inl (if slotV (xs (k.toInt.toNat + 1)) then va_cpy z slots 0 (190 * (xs (k.toInt.toNat + 1)).toInt.toNat) 190 else slots))), (h5, .inl (cZ, 2, .inl (if slotV (xs (k.toInt.toNat + 1)) then upd sv (xs (k.toInt.toNat + 1)).toInt.toNat 1 else sv))), (h6, .inl (cI, 60, .inl pd)), (h7, .inl (cI, 120, .inl tf)), (h8, .inl (cI, 10, .inl tmm))] ++ (xwW cI cZ cS q0_1 xa xv ho0 ho1 pd0 pd1 m0 ts0 ts1 a ha sa cn cs sc1_648 tm tv pd sv1_648 ln old sz z)) H := hP
          have hD : va_D A ([(q8_2, .inr (8, [.ref h1, .ref h2, .ref h3, .int sz, .ref h4, .ref h5, .ref h6, .int ln, .int gse, .int gte, .int gsp, .ref h7, .ref h8, .int gtl])), (h1, .inl (cI, 190, .inl z)), (h2, .inl (cI, 190, .inl spare)), (h3, .inl (cI, 1140, .inl past)), (h4, .inl (cI, 380, .inl (if slotV (xs (k.toInt.toNat + 1)) then va_cpy z slots 0 (190 * (xs (k.toInt.toNat + 1)).toInt.toNat) 190 else slots))), (h5, .inl (cZ, 2, .inl (if slotV (xs (k.toInt.toNat + 1)) then upd sv (xs (k.toInt.toNat + 1)).toInt.toNat 1 else sv))), (h6, .inl (cI, 60, .inl pd)), (h7, .inl (cI, 120, .inl tf)), (h8, .inl (cI, 10, .inl tmm))] ++ (xwW cI cZ cS q0_1 xa xv ho0 ho1 pd0 pd1 m0 ts0 ts1 a ha sa cn cs sc1_648 tm tv pd sv1_648 ln old sz z)) := hD
          have e657 : r657 = if slotV (xs (k.toInt.toNat + 1)) then z 174 else -2 := hw
          obtain ⟨hLI2, hz2⟩ := LI_save hLI p648.2
          have hrr : r648 = r657 := by rw [p648.1, e657]
          rw [hz2] at hP hD
          have hP : va_P D vwCl ([(q8_2, .inr (8, [.ref h1, .ref h2, .ref h3, .int sz, .ref h4, .ref h5, .ref h6, .int ln, .int gse, .int gte, .int gsp, .ref h7, .ref h8, .int gtl])), (h1, .inl (cI, 190, .inl z)), (h2, .inl (cI, 190, .inl spare)), (h3, .inl (cI, 1140, .inl past)), (h4, .inl (cI, 380, .inl (if slotV (xs (k.toInt.toNat + 1)) then va_cpy z slots 0 (190 * (xs (k.toInt.toNat + 1)).toInt.toNat) 190 else slots))), (h5, .inl (cZ, 2, .inl (if slotV (xs (k.toInt.toNat + 1)) then upd sv (xs (k.toInt.toNat + 1)).toInt.toNat 1 else sv))), (h6, .inl (cI, 60, .inl pd)), (h7, .inl (cI, 120, .inl tf)), (h8, .inl (cI, 10, .inl tmm))] ++ (xwW cI cZ cS q0_1 xa xv ho0 ho1 pd0 pd1 m0 ts0 ts1 a ha sa cn cs sc1_648 tm tv pd (if slotV (xs (k.toInt.toNat + 1)) then upd sv (xs (k.toInt.toNat + 1)).toInt.toNat 1 else sv) ln old sz z)) H := hP
          have hD : va_D A ([(q8_2, .inr (8, [.ref h1, .ref h2, .ref h3, .int sz, .ref h4, .ref h5, .ref h6, .int ln, .int gse, .int gte, .int gsp, .ref h7, .ref h8, .int gtl])), (h1, .inl (cI, 190, .inl z)), (h2, .inl (cI, 190, .inl spare)), (h3, .inl (cI, 1140, .inl past)), (h4, .inl (cI, 380, .inl (if slotV (xs (k.toInt.toNat + 1)) then va_cpy z slots 0 (190 * (xs (k.toInt.toNat + 1)).toInt.toNat) 190 else slots))), (h5, .inl (cZ, 2, .inl (if slotV (xs (k.toInt.toNat + 1)) then upd sv (xs (k.toInt.toNat + 1)).toInt.toNat 1 else sv))), (h6, .inl (cI, 60, .inl pd)), (h7, .inl (cI, 120, .inl tf)), (h8, .inl (cI, 10, .inl tmm))] ++ (xwW cI cZ cS q0_1 xa xv ho0 ho1 pd0 pd1 m0 ts0 ts1 a ha sa cn cs sc1_648 tm tv pd (if slotV (xs (k.toInt.toNat + 1)) then upd sv (xs (k.toInt.toNat + 1)).toInt.toNat 1 else sv) ln old sz z)) := hD
          refine lv_icmp_eq (tgt := 688) hx hb dL_law_660 (by decide) (fun c660 => ?_) (fun c660 => ?_)
          · have t660 : r648.toInt = r657.toInt := xi_eq rfl rfl c660
            have d660 : r648 = r657 := c660
            obtain ⟨x688, e688⟩ : ∃ y : Int32, y = k + 4 := ⟨_, rfl⟩
            have t688 : x688.toInt = k.toInt + 4 := by rw [e688]; exact xi_add rfl (by decide) (by omega) (by omega)
            refine lv_iinc (v := x688) (lv' := [(3, .int x688), (2, .ref q8_2), (1, .ref q0_1), (0, .ref b)]) hx hb dL_law_688 hl (k := 0) rfl (by rw [e688]; rfl) (by decide) rfl (fun ls hl => ?_)
            refine lv_goto (tgt := 18) hx hb dL_law_691 (by decide) ?_
            have q18 : (([(q8_2, .inr (8, [.ref h1, .ref h2, .ref h3, .int sz, .ref h4, .ref h5, .ref h6, .int ln, .int gse, .int gte, .int gsp, .ref h7, .ref h8, .int gtl])), (h1, .inl (cI, 190, .inl z)), (h2, .inl (cI, 190, .inl spare)), (h3, .inl (cI, 1140, .inl past)), (h4, .inl (cI, 380, .inl (if slotV (xs (k.toInt.toNat + 1)) then va_cpy z slots 0 (190 * (xs (k.toInt.toNat + 1)).toInt.toNat) 190 else slots))), (h5, .inl (cZ, 2, .inl (if slotV (xs (k.toInt.toNat + 1)) then upd sv (xs (k.toInt.toNat + 1)).toInt.toNat 1 else sv))), (h6, .inl (cI, 60, .inl pd)), (h7, .inl (cI, 120, .inl tf)), (h8, .inl (cI, 10, .inl tmm))] ++ (xwW cI cZ cS q0_1 xa xv ho0 ho1 pd0 pd1 m0 ts0 ts1 a ha sa cn cs sc1_648 tm tv pd (if slotV (xs (k.toInt.toNat + 1)) then upd sv (xs (k.toInt.toNat + 1)).toInt.toNat 1 else sv) ln old sz z)) : va_W) = ([(q8_2, .inr (8, [.ref h1, .ref h2, .ref h3, .int sz, .ref h4, .ref h5, .ref h6, .int ln, .int gse, .int gte, .int gsp, .ref h7, .ref h8, .int gtl])), (h1, .inl (cI, 190, .inl z)), (h2, .inl (cI, 190, .inl spare)), (h3, .inl (cI, 1140, .inl past)), (h4, .inl (cI, 380, .inl (if slotV (xs (k.toInt.toNat + 1)) then va_cpy z slots 0 (190 * (xs (k.toInt.toNat + 1)).toInt.toNat) 190 else slots))), (h5, .inl (cZ, 2, .inl (if slotV (xs (k.toInt.toNat + 1)) then upd sv (xs (k.toInt.toNat + 1)).toInt.toNat 1 else sv))), (h6, .inl (cI, 60, .inl pd)), (h7, .inl (cI, 120, .inl tf)), (h8, .inl (cI, 10, .inl tmm))] ++ (xwW cI cZ cS q0_1 xs xv ho0 ho1 pd0 pd1 m0 ts0 ts1 a ha sa cn cs sc1_648 tm tv pd (if slotV (xs (k.toInt.toNat + 1)) then upd sv (xs (k.toInt.toNat + 1)).toInt.toNat 1 else sv) ln old sz z)) := by rfl
            exact ih18  x688 cn cs sc1_648 tm tv pd (if slotV (xs (k.toInt.toNat + 1)) then upd sv (xs (k.toInt.toNat + 1)).toInt.toNat 1 else sv) ln old sz z spare past (if slotV (xs (k.toInt.toNat + 1)) then va_cpy z slots 0 (190 * (xs (k.toInt.toNat + 1)).toInt.toNat) 190 else slots) tf tmm gse gte gsp gtl (by omega) (by exact LI_mono (by omega) hLI2) (by omega) _ _ (xk_P hP q18) (xk_D hD q18) hS ls (lv_sub hl [0, 1, 2, 3] rfl)
          · have t660 : ¬ r648.toInt = r657.toInt := xi_ne rfl rfl c660
            have d660 : ¬ r648 = r657 := c660
            exact absurd hrr c660
        · refine lv_tableIn (off := 633) (tgt := 665) hx hb dL_law_32 (by rw [t32]; decide) (by rw [t32]; decide) (by rw [t32]; rfl) (by decide) ?_
          refine lv_aload_n hx hb dL_law_665 rfl (lv_at hl 2 rfl) ?_
          refine lv_aload_n hx hb dL_law_666 rfl (lv_at hl 3 rfl) ?_
          refine lv_iload_n hx hb dL_law_667 rfl (lv_at hl 0 rfl) ?_
          refine lv_iconst (v := 1) hx hb dL_law_668 (by decide) ?_
          refine lv_iadd hx hb dL_law_669 ?_
          refine lv_topi (fun x669 e669 => ?_)
          have t669 : x669.toInt = k.toInt + 1 := by rw [e669]; exact xi_add rfl (by decide) (by omega) (by omega)
          refine va_sld hx hb hX hbl hbA hS (xi_in (by omega) (by omega)) dL_law_670 ?_
          refine xk_top (z := xs (k.toInt.toNat + 1)) (xk_rd (by omega)) ?_
          refine xk_Vi (As := [.int (xs (k.toInt.toNat + 1))]) (rest := []) hx hb hml hown hts hK hN hZ (xg_P hP List.perm_append_comm) (xg_D hD List.perm_append_comm) hS hA mb_X7_restore mw_3_71 mw_3_72 mw_3_73 (k_X7_restore l D cI cZ cS x0 xs xv ho0 ho1 pd0 pd1 m0 ts0 ts1 a ha sa cn cs sc tm tv pd sv ln old sz z (va_cpy slots z (190 * (xs (k.toInt.toNat + 1)).toInt.toNat) 0 190) (xs (k.toInt.toNat + 1)) hRS hI hold hszz (fun i hi => (hmsc i hi).1) (fun i hi => (hmsc i hi).2) ((LI_rest hLI (xs (k.toInt.toNat + 1))).1)) (List.range ((xwW cI cZ cS q0_1 xa xv ho0 ho1 pd0 pd1 m0 ts0 ts1 a ha sa cn cs sc tm tv pd sv ln old sz z) : va_W).length) 0 7 rfl rfl (xg_ndr _) (xg_range _ _) (fun _ => by exact xwW_f) (by decide) (by decide) rfl hl.1 rfl (Nat.le_of_ble_eq_true rfl) dL_law_671 ⟨Nat.zero_le _, Nat.zero_le _⟩ (fun r671 u671 H locs hw hP hD hS => ?_)
          obtain ⟨cq_671, zq_671, old1_671, sz1_671, cs1_671⟩ := u671
          have p671 : r671 = (if slotV (xs (k.toInt.toNat + 1)) then (if sv (xs (k.toInt.toNat + 1)).toInt.toNat = 0 then -5 else (va_cpy slots z (190 * (xs (k.toInt.toNat + 1)).toInt.toNat) 0 190) 174) else -2) ∧ ((restC (xs (k.toInt.toNat + 1)) sv ∧ cq_671 = sc (xs (k.toInt.toNat + 1)).toInt.toNat ∧ zq_671 = (va_cpy slots z (190 * (xs (k.toInt.toNat + 1)).toInt.toNat) 0 190) ∧ old1_671 = oldR old sz ∧ sz1_671 = szR sz ∧ cs1_671 = recC cs (cZm cn z) (jR old sz)) ∨ (¬ restC (xs (k.toInt.toNat + 1)) sv ∧ Same cn z old sz cs cq_671 zq_671 old1_671 sz1_671 cs1_671)) := hw
          have hP : va_P D vwCl ((xwW cI cZ cS q0_1 xa xv ho0 ho1 pd0 pd1 m0 ts0 ts1 a ha sa cq_671 cs1_671 sc tm tv pd sv ln old1_671 sz1_671 zq_671) ++ [(q8_2, .inr (8, [.ref h1, .ref h2, .ref h3, .int sz, .ref h4, .ref h5, .ref h6, .int ln, .int gse, .int gte, .int gsp, .ref h7, .ref h8, .int gtl])), (h1, .inl (cI, 190, .inl z)), (h2, .inl (cI, 190, .inl spare)), (h3, .inl (cI, 1140, .inl past)), (h4, .inl (cI, 380, .inl slots)), (h5, .inl (cZ, 2, .inl sv)), (h6, .inl (cI, 60, .inl pd)), (h7, .inl (cI, 120, .inl tf)), (h8, .inl (cI, 10, .inl tmm))]) H := xk_P hP (xg_set (by exact xwW_f))
          have hD : va_D A ((xwW cI cZ cS q0_1 xa xv ho0 ho1 pd0 pd1 m0 ts0 ts1 a ha sa cq_671 cs1_671 sc tm tv pd sv ln old1_671 sz1_671 zq_671) ++ [(q8_2, .inr (8, [.ref h1, .ref h2, .ref h3, .int sz, .ref h4, .ref h5, .ref h6, .int ln, .int gse, .int gte, .int gsp, .ref h7, .ref h8, .int gtl])), (h1, .inl (cI, 190, .inl z)), (h2, .inl (cI, 190, .inl spare)), (h3, .inl (cI, 1140, .inl past)), (h4, .inl (cI, 380, .inl slots)), (h5, .inl (cZ, 2, .inl sv)), (h6, .inl (cI, 60, .inl pd)), (h7, .inl (cI, 120, .inl tf)), (h8, .inl (cI, 10, .inl tmm))]) := xk_D hD (xg_set (by exact xwW_f))
          have hP := xg_P hP List.perm_append_comm
          have hD := xg_D hD List.perm_append_comm
          have hP : va_P D vwCl ([(q8_2, .inr (8, [.ref h1, .ref h2, .ref h3, .int sz, .ref h4, .ref h5, .ref h6, .int ln, .int gse, .int gte, .int gsp, .ref h7, .ref h8, .int gtl])), (h1, .inl (cI, 190, .inl z)), (h2, .inl (cI, 190, .inl spare)), (h3, .inl (cI, 1140, .inl past)), (h4, .inl (cI, 380, .inl slots)), (h5, .inl (cZ, 2, .inl sv)), (h6, .inl (cI, 60, .inl pd)), (h7, .inl (cI, 120, .inl tf)), (h8, .inl (cI, 10, .inl tmm))] ++ (xwW cI cZ cS q0_1 xa xv ho0 ho1 pd0 pd1 m0 ts0 ts1 a ha sa cq_671 cs1_671 sc tm tv pd sv ln old1_671 sz1_671 zq_671)) H := hP
          have hD : va_D A ([(q8_2, .inr (8, [.ref h1, .ref h2, .ref h3, .int sz, .ref h4, .ref h5, .ref h6, .int ln, .int gse, .int gte, .int gsp, .ref h7, .ref h8, .int gtl])), (h1, .inl (cI, 190, .inl z)), (h2, .inl (cI, 190, .inl spare)), (h3, .inl (cI, 1140, .inl past)), (h4, .inl (cI, 380, .inl slots)), (h5, .inl (cZ, 2, .inl sv)), (h6, .inl (cI, 60, .inl pd)), (h7, .inl (cI, 120, .inl tf)), (h8, .inl (cI, 10, .inl tmm))] ++ (xwW cI cZ cS q0_1 xa xv ho0 ho1 pd0 pd1 m0 ts0 ts1 a ha sa cq_671 cs1_671 sc tm tv pd sv ln old1_671 sz1_671 zq_671)) := hD
          refine lv_aload_n hx hb dL_law_674 rfl (lv_at hl 1 rfl) ?_
          refine lv_aload_n hx hb dL_law_675 rfl (lv_at hl 3 rfl) ?_
          refine lv_iload_n hx hb dL_law_676 rfl (lv_at hl 0 rfl) ?_
          refine lv_iconst (v := 1) hx hb dL_law_677 (by decide) ?_
          refine lv_iadd hx hb dL_law_678 ?_
          refine lv_topi (fun x678 e678 => ?_)
          have t678 : x678.toInt = k.toInt + 1 := by rw [e678]; exact xi_add rfl (by decide) (by omega) (by omega)
          refine va_sld hx hb hX hbl hbA hS (xi_in (by omega) (by omega)) dL_law_679 ?_
          refine xk_top (z := xs (k.toInt.toNat + 1)) (xk_rd (by omega)) ?_
          refine xk_Vi (As := [.int (xs (k.toInt.toNat + 1))]) (rest := [.int r671]) hx hb hml hown hts hK hN hZ hP hD hS hA mb_X8_restore mw_3_142 mw_3_143 mw_3_144 (c_X8_restore l D cI cZ cS q8_2 h1 h2 h3 h4 h5 h6 h7 h8 sz ln gse gte gsp gtl z past slots sv (xs (k.toInt.toNat + 1)) (by exact hszz)) [0, 1, 3, 4, 5] 0 8 rfl rfl (by decide) rfl (fun _ => by simp only [List.map]) (by decide) (by decide) rfl hl.1 rfl (Nat.le_of_ble_eq_true rfl) dL_law_680 ⟨Nat.le_of_ble_eq_true rfl, Nat.le_of_ble_eq_true rfl⟩ (fun r680 _ H locs hw hP hD hS => ?_)
          have hP : va_P D vwCl ([(q8_2, .inr (8, [.ref h1, .ref h2, .ref h3, .int (if restC (xs (k.toInt.toNat + 1)) sv then recS sz else sz), .ref h4, .ref h5, .ref h6, .int ln, .int gse, .int gte, .int gsp, .ref h7, .ref h8, .int gtl])), (h1, .inl (cI, 190, .inl (if restC (xs (k.toInt.toNat + 1)) sv then va_cpy slots z (190 * (xs (k.toInt.toNat + 1)).toInt.toNat) 0 190 else z))), (h2, .inl (cI, 190, .inl spare)), (h3, .inl (cI, 1140, .inl (if restC (xs (k.toInt.toNat + 1)) sv then recP z past sz else past))), (h4, .inl (cI, 380, .inl slots)), (h5, .inl (cZ, 2, .inl sv)), (h6, .inl (cI, 60, .inl pd)), (h7, .inl (cI, 120, .inl tf)), (h8, .inl (cI, 10, .inl tmm))] ++ (xwW cI cZ cS q0_1 xa xv ho0 ho1 pd0 pd1 m0 ts0 ts1 a ha sa cq_671 cs1_671 sc tm tv pd sv ln old1_671 sz1_671 zq_671)) H := hP
          have hD : va_D A ([(q8_2, .inr (8, [.ref h1, .ref h2, .ref h3, .int (if restC (xs (k.toInt.toNat + 1)) sv then recS sz else sz), .ref h4, .ref h5, .ref h6, .int ln, .int gse, .int gte, .int gsp, .ref h7, .ref h8, .int gtl])), (h1, .inl (cI, 190, .inl (if restC (xs (k.toInt.toNat + 1)) sv then va_cpy slots z (190 * (xs (k.toInt.toNat + 1)).toInt.toNat) 0 190 else z))), (h2, .inl (cI, 190, .inl spare)), (h3, .inl (cI, 1140, .inl (if restC (xs (k.toInt.toNat + 1)) sv then recP z past sz else past))), (h4, .inl (cI, 380, .inl slots)), (h5, .inl (cZ, 2, .inl sv)), (h6, .inl (cI, 60, .inl pd)), (h7, .inl (cI, 120, .inl tf)), (h8, .inl (cI, 10, .inl tmm))] ++ (xwW cI cZ cS q0_1 xa xv ho0 ho1 pd0 pd1 m0 ts0 ts1 a ha sa cq_671 cs1_671 sc tm tv pd sv ln old1_671 sz1_671 zq_671)) := hD
          have e680 : r680 = restR (xs (k.toInt.toNat + 1)) sv slots := hw
          obtain ⟨hLI2, hz2, hs2⟩ := (LI_rest hLI (xs (k.toInt.toNat + 1))).2.2 _ _ _ _ _ p671.2
          have hrr : r671 = r680 := by rw [p671.1, e680]; exact (LI_rest hLI (xs (k.toInt.toNat + 1))).2.1
          rw [hz2, hs2] at hP hD
          have hP : va_P D vwCl ([(q8_2, .inr (8, [.ref h1, .ref h2, .ref h3, .int (if restC (xs (k.toInt.toNat + 1)) sv then recS sz else sz), .ref h4, .ref h5, .ref h6, .int ln, .int gse, .int gte, .int gsp, .ref h7, .ref h8, .int gtl])), (h1, .inl (cI, 190, .inl (if restC (xs (k.toInt.toNat + 1)) sv then va_cpy slots z (190 * (xs (k.toInt.toNat + 1)).toInt.toNat) 0 190 else z))), (h2, .inl (cI, 190, .inl spare)), (h3, .inl (cI, 1140, .inl (if restC (xs (k.toInt.toNat + 1)) sv then recP z past sz else past))), (h4, .inl (cI, 380, .inl slots)), (h5, .inl (cZ, 2, .inl sv)), (h6, .inl (cI, 60, .inl pd)), (h7, .inl (cI, 120, .inl tf)), (h8, .inl (cI, 10, .inl tmm))] ++ (xwW cI cZ cS q0_1 xa xv ho0 ho1 pd0 pd1 m0 ts0 ts1 a ha sa cq_671 cs1_671 sc tm tv pd sv ln old1_671 (if restC (xs (k.toInt.toNat + 1)) sv then recS sz else sz) (if restC (xs (k.toInt.toNat + 1)) sv then va_cpy slots z (190 * (xs (k.toInt.toNat + 1)).toInt.toNat) 0 190 else z))) H := hP
          have hD : va_D A ([(q8_2, .inr (8, [.ref h1, .ref h2, .ref h3, .int (if restC (xs (k.toInt.toNat + 1)) sv then recS sz else sz), .ref h4, .ref h5, .ref h6, .int ln, .int gse, .int gte, .int gsp, .ref h7, .ref h8, .int gtl])), (h1, .inl (cI, 190, .inl (if restC (xs (k.toInt.toNat + 1)) sv then va_cpy slots z (190 * (xs (k.toInt.toNat + 1)).toInt.toNat) 0 190 else z))), (h2, .inl (cI, 190, .inl spare)), (h3, .inl (cI, 1140, .inl (if restC (xs (k.toInt.toNat + 1)) sv then recP z past sz else past))), (h4, .inl (cI, 380, .inl slots)), (h5, .inl (cZ, 2, .inl sv)), (h6, .inl (cI, 60, .inl pd)), (h7, .inl (cI, 120, .inl tf)), (h8, .inl (cI, 10, .inl tmm))] ++ (xwW cI cZ cS q0_1 xa xv ho0 ho1 pd0 pd1 m0 ts0 ts1 a ha sa cq_671 cs1_671 sc tm tv pd sv ln old1_671 (if restC (xs (k.toInt.toNat + 1)) sv then recS sz else sz) (if restC (xs (k.toInt.toNat + 1)) sv then va_cpy slots z (190 * (xs (k.toInt.toNat + 1)).toInt.toNat) 0 190 else z))) := hD
          refine lv_icmp_eq (tgt := 688) hx hb dL_law_683 (by decide) (fun c683 => ?_) (fun c683 => ?_)
          · have t683 : r671.toInt = r680.toInt := xi_eq rfl rfl c683
            have d683 : r671 = r680 := c683
            obtain ⟨x688, e688⟩ : ∃ y : Int32, y = k + 4 := ⟨_, rfl⟩
            have t688 : x688.toInt = k.toInt + 4 := by rw [e688]; exact xi_add rfl (by decide) (by omega) (by omega)
            refine lv_iinc (v := x688) (lv' := [(3, .int x688), (2, .ref q8_2), (1, .ref q0_1), (0, .ref b)]) hx hb dL_law_688 hl (k := 0) rfl (by rw [e688]; rfl) (by decide) rfl (fun ls hl => ?_)
            refine lv_goto (tgt := 18) hx hb dL_law_691 (by decide) ?_
            have q18 : (([(q8_2, .inr (8, [.ref h1, .ref h2, .ref h3, .int (if restC (xs (k.toInt.toNat + 1)) sv then recS sz else sz), .ref h4, .ref h5, .ref h6, .int ln, .int gse, .int gte, .int gsp, .ref h7, .ref h8, .int gtl])), (h1, .inl (cI, 190, .inl (if restC (xs (k.toInt.toNat + 1)) sv then va_cpy slots z (190 * (xs (k.toInt.toNat + 1)).toInt.toNat) 0 190 else z))), (h2, .inl (cI, 190, .inl spare)), (h3, .inl (cI, 1140, .inl (if restC (xs (k.toInt.toNat + 1)) sv then recP z past sz else past))), (h4, .inl (cI, 380, .inl slots)), (h5, .inl (cZ, 2, .inl sv)), (h6, .inl (cI, 60, .inl pd)), (h7, .inl (cI, 120, .inl tf)), (h8, .inl (cI, 10, .inl tmm))] ++ (xwW cI cZ cS q0_1 xa xv ho0 ho1 pd0 pd1 m0 ts0 ts1 a ha sa cq_671 cs1_671 sc tm tv pd sv ln old1_671 (if restC (xs (k.toInt.toNat + 1)) sv then recS sz else sz) (if restC (xs (k.toInt.toNat + 1)) sv then va_cpy slots z (190 * (xs (k.toInt.toNat + 1)).toInt.toNat) 0 190 else z))) : va_W) = ([(q8_2, .inr (8, [.ref h1, .ref h2, .ref h3, .int (if restC (xs (k.toInt.toNat + 1)) sv then recS sz else sz), .ref h4, .ref h5, .ref h6, .int ln, .int gse, .int gte, .int gsp, .ref h7, .ref h8, .int gtl])), (h1, .inl (cI, 190, .inl (if restC (xs (k.toInt.toNat + 1)) sv then va_cpy slots z (190 * (xs (k.toInt.toNat + 1)).toInt.toNat) 0 190 else z))), (h2, .inl (cI, 190, .inl spare)), (h3, .inl (cI, 1140, .inl (if restC (xs (k.toInt.toNat + 1)) sv then recP z past sz else past))), (h4, .inl (cI, 380, .inl slots)), (h5, .inl (cZ, 2, .inl sv)), (h6, .inl (cI, 60, .inl pd)), (h7, .inl (cI, 120, .inl tf)), (h8, .inl (cI, 10, .inl tmm))] ++ (xwW cI cZ cS q0_1 xs xv ho0 ho1 pd0 pd1 m0 ts0 ts1 a ha sa cq_671 cs1_671 sc tm tv pd sv ln old1_671 (if restC (xs (k.toInt.toNat + 1)) sv then recS sz else sz) (if restC (xs (k.toInt.toNat + 1)) sv then va_cpy slots z (190 * (xs (k.toInt.toNat + 1)).toInt.toNat) 0 190 else z))) := by rfl
            exact ih18  x688 cq_671 cs1_671 sc tm tv pd sv ln old1_671 (if restC (xs (k.toInt.toNat + 1)) sv then recS sz else sz) (if restC (xs (k.toInt.toNat + 1)) sv then va_cpy slots z (190 * (xs (k.toInt.toNat + 1)).toInt.toNat) 0 190 else z) spare (if restC (xs (k.toInt.toNat + 1)) sv then recP z past sz else past) slots tf tmm gse gte gsp gtl (by omega) (by exact LI_mono (by omega) hLI2) (by omega) _ _ (xk_P hP q18) (xk_D hD q18) hS ls (lv_sub hl [0, 1, 2, 3] rfl)
          · have t683 : ¬ r671.toInt = r680.toInt := xi_ne rfl rfl c683
            have d683 : ¬ r671 = r680 := c683
            exact absurd hrr c683
  have q18 : (([(q8_2, .inr (8, [.ref h1, .ref h2, .ref h3, .int 0, .ref h4, .ref h5, .ref h6, .int 0, .int 0, .int 0, .int 0, .ref h7, .ref h8, .int 0])), (h1, .inl (cI, 190, .inl zI)), (h2, .inl (cI, 190, .inl z0)), (h3, .inl (cI, 1140, .inl z0)), (h4, .inl (cI, 380, .inl z0)), (h5, .inl (cZ, 2, .inl z0)), (h6, .inl (cI, 60, .inl z0)), (h7, .inl (cI, 120, .inl z0)), (h8, .inl (cI, 10, .inl z0))] ++ (xwW cI cZ cS q0_1 xa xv ho0 ho1 pd0 pd1 m0 ts0 ts1 a ha sa cS0 (fun _ => cS0) (fun _ => cS0) z0 tabF z0 z0 (0 : Int32) (0 : Int32) (0 : Int32) zI)) : va_W) = ([(q8_2, .inr (8, [.ref h1, .ref h2, .ref h3, .int 0, .ref h4, .ref h5, .ref h6, .int 0, .int 0, .int 0, .int 0, .ref h7, .ref h8, .int 0])), (h1, .inl (cI, 190, .inl zI)), (h2, .inl (cI, 190, .inl z0)), (h3, .inl (cI, 1140, .inl z0)), (h4, .inl (cI, 380, .inl z0)), (h5, .inl (cZ, 2, .inl z0)), (h6, .inl (cI, 60, .inl z0)), (h7, .inl (cI, 120, .inl z0)), (h8, .inl (cI, 10, .inl z0))] ++ (xwW cI cZ cS q0_1 xs xv ho0 ho1 pd0 pd1 m0 ts0 ts1 a ha sa cS0 (fun _ => cS0) (fun _ => cS0) z0 tabF z0 z0 (0 : Int32) (0 : Int32) (0 : Int32) zI)) := by rfl
  exact L18 2050 (0 : Int32) cS0 (fun _ => cS0) (fun _ => cS0) z0 tabF z0 z0 (0 : Int32) (0 : Int32) (0 : Int32) zI z0 z0 z0 z0 z0 (0 : Int32) (0 : Int32) (0 : Int32) (0 : Int32) (by decide) (by exact LI_0) (by decide) _ _ (xk_P hP q18) (xk_D hD q18) hS ls (lv_sub hl [0, 1, 2, 3] rfl)
