set_option maxHeartbeats 4000000 in
set_option maxRecDepth 100000 in
theorem whole_start {p : Program} {e : Env} {s : State} {m : MethodId} {below : List Frame} {meth : Method} {c : Code} (l : Launch) (hflags : l.flags = flags0) {b L : Nat} {xs : Nat → Int32} (hL : L ≤ 2048) (C0 : lw_At p s m meth c b L xs) : W p l e room_1 s m #[Value.ref b] below meth c s.heap [] 0 0 (lw_Z below #[Value.ref b] s) (entryFrame m ([Value.ref b] : List Value).toArray 4) := by
  obtain ⟨hx, hb, hr, hml, hown, hts0, hX, hbl, hlocks, hgv⟩ := id C0
  obtain ⟨A, hAe⟩ : ∃ A : Nat → Prop, A = fun q => s.heap.size ≤ q := ⟨_, rfl⟩
  have hA : ∀ q : Nat, s.heap.size ≤ q → A q := fun q h => by rw [hAe]; exact h
  have hbA : ¬ A b := by rw [hAe]; exact Nat.not_le.mpr hbl
  have hts : ∀ w ∈ Cond.arrayClass .int :: wsL_law, w.before #[Value.ref b] s = true := fun w h => by
    rcases List.mem_cons.mp h with e | h
    · rw [e]; exact hts0 _ (wsL_law_in _ mw_1_37)
    · exact hts0 w (wsL_law_in w h)
  obtain ⟨D, cI, cZ, cS, hK⟩ := ls_K hts0
  have hN := ls_N hts0
  have hZ : xZ A s := by rw [hAe]; exact ⟨ls_FIRST_VALUES hts0 hgv, ls_LEAST_VALUES hts0 hgv, ls_MOST_VALUES hts0 hgv⟩
  have hS : va_S A s.heap s.heap [] := va_S.rf
  have hP : va_P D vwCl [] s.heap := fun k q h => by simp at h
  have hD : va_D A [] := ⟨fun i j p q h => by simp at h, fun k q h => by simp at h⟩
  obtain ⟨Q, hQ⟩ : ∃ Q, Q = lw_Z below #[Value.ref b] s := ⟨_, rfl⟩
  rw [← hQ]
  have hLi : (nI L).toInt = L := nI_toInt (by omega)
  have hl := lv_entry ([.ref b]) (n := 4) (Nat.le_of_ble_eq_true rfl)
  rw [lg_entry_eq]
  generalize (lg_sl ([.ref b]) ++ List.replicate (4 - (lg_sl ([.ref b])).length) Slot.unset).toArray = ls at hl ⊢
  have hl : lv_has ls 4 [(0, .ref b)] := hl
  refine va_new (ci := 7) (fs := [.null, .null, .null, .null, .null, .null, .null]) (C := RX7) (T := TX7) (N := 7) hx hb hts xin7 tyX7 tyX7_ok hown (hts _ (List.mem_cons_of_mem _ mw_1_11)) (hts _ (List.mem_cons_of_mem _ mw_1_12)) (hts _ (List.mem_cons_of_mem _ mw_1_1)) hK hP hD hS hA rfl (fun j hj => by rcases (show j = 0 ∨ j = 1 ∨ j = 2 ∨ j = 3 ∨ j = 4 ∨ j = 5 ∨ j = 6 by omega) with rfl | rfl | rfl | rfl | rfl | rfl | rfl <;> rfl) (Nat.le_of_ble_eq_true rfl) (Nat.le_of_ble_eq_true rfl) dL_law_0 (fun q0_1 H hP hD hS => ?_)
  refine lv_dup hx hb dL_law_3 rfl ?_
  refine xk_Ic (r := []) (wc := [(q0_1, .inr (7, [.null, .null, .null, .null, .null, .null, .null]))]) (As := []) (rest := [.ref q0_1]) hx hb hml hown hts hK hN hZ hP hD hS hA mb_X7_init rfl mw_1_13 mw_1_14 (c_X7_init l D cI cZ cS q0_1) (by decide) ⟨rfl, rfl⟩ rfl hl.1 rfl (Nat.le_of_ble_eq_true rfl) dL_law_4 ⟨Nat.le_of_ble_eq_true rfl, Nat.le_of_ble_eq_true rfl⟩ (fun u4_1 H locs hw hP hD hS => ?_)
  obtain ⟨xa, xv, ho0, ho1, pd0, pd1, m0, ts0, ts1, a, ha, sa⟩ := u4_1
  have hP : va_P D vwCl ([] ++ (xwW cI cZ cS q0_1 xa xv ho0 ho1 pd0 pd1 m0 ts0 ts1 a ha sa cS0 (fun _ => cS0) (fun _ => cS0) z0 tabF z0 z0 (0 : Int32) (0 : Int32) (0 : Int32) zI)) H := hP
  have hD : va_D A ([] ++ (xwW cI cZ cS q0_1 xa xv ho0 ho1 pd0 pd1 m0 ts0 ts1 a ha sa cS0 (fun _ => cS0) (fun _ => cS0) z0 tabF z0 z0 (0 : Int32) (0 : Int32) (0 : Int32) zI)) := hD
  refine lv_astore_n (lv' := [(1, .ref q0_1), (0, .ref b)]) hx hb dL_law_7 rfl hl (by decide) rfl (fun ls hl => ?_)
  refine va_new (ci := 8) (fs := [.null, .null, .null, .int 0, .null, .null, .null, .int 0, .int 0, .int 0, .int 0, .null, .null, .int 0]) (C := RX8) (T := TX8) (N := 14) hx hb hts xin8 tyX8 tyX8_ok hown (hts _ (List.mem_cons_of_mem _ mw_3_79)) (hts _ (List.mem_cons_of_mem _ mw_3_80)) (hts _ (List.mem_cons_of_mem _ mw_1_9)) hK hP hD hS hA rfl (fun j hj => by rcases (show j = 0 ∨ j = 1 ∨ j = 2 ∨ j = 3 ∨ j = 4 ∨ j = 5 ∨ j = 6 ∨ j = 7 ∨ j = 8 ∨ j = 9 ∨ j = 10 ∨ j = 11 ∨ j = 12 ∨ j = 13 by omega) with rfl | rfl | rfl | rfl | rfl | rfl | rfl | rfl | rfl | rfl | rfl | rfl | rfl | rfl <;> rfl) (Nat.le_of_ble_eq_true rfl) (Nat.le_of_ble_eq_true rfl) dL_law_8 (fun q8_2 H hP hD hS => ?_)
  refine lv_dup hx hb dL_law_11 rfl ?_
  refine xk_Ic (r := ([] ++ (xwW cI cZ cS q0_1 xa xv ho0 ho1 pd0 pd1 m0 ts0 ts1 a ha sa cS0 (fun _ => cS0) (fun _ => cS0) z0 tabF z0 z0 (0 : Int32) (0 : Int32) (0 : Int32) zI))) (wc := [(q8_2, .inr (8, [.null, .null, .null, .int 0, .null, .null, .null, .int 0, .int 0, .int 0, .int 0, .null, .null, .int 0]))]) (As := []) (rest := [.ref q8_2]) hx hb hml hown hts hK hN hZ hP hD hS hA mb_X8_init rfl mw_3_81 mw_3_82 (c_X8_init l D cI cZ cS q8_2) (by decide) ⟨rfl, rfl⟩ rfl hl.1 rfl (Nat.le_of_ble_eq_true rfl) dL_law_12 ⟨Nat.le_of_ble_eq_true rfl, Nat.le_of_ble_eq_true rfl⟩ (fun u12_2 H locs hw hP hD hS => ?_)
  obtain ⟨h1, h2, h3, h4, h5, h6, h7, h8⟩ := u12_2
  have hP := va_P.swap hP
  have hD := va_D.swap hD
  have hP : va_P D vwCl ([(q8_2, .inr (8, [.ref h1, .ref h2, .ref h3, .int 0, .ref h4, .ref h5, .ref h6, .int 0, .int 0, .int 0, .int 0, .ref h7, .ref h8, .int 0])), (h1, .inl (cI, 190, .inl zI)), (h2, .inl (cI, 190, .inl z0)), (h3, .inl (cI, 1140, .inl z0)), (h4, .inl (cI, 380, .inl z0)), (h5, .inl (cZ, 2, .inl z0)), (h6, .inl (cI, 60, .inl z0)), (h7, .inl (cI, 120, .inl z0)), (h8, .inl (cI, 10, .inl z0))] ++ (xwW cI cZ cS q0_1 xa xv ho0 ho1 pd0 pd1 m0 ts0 ts1 a ha sa cS0 (fun _ => cS0) (fun _ => cS0) z0 tabF z0 z0 (0 : Int32) (0 : Int32) (0 : Int32) zI)) H := hP
  have hD : va_D A ([(q8_2, .inr (8, [.ref h1, .ref h2, .ref h3, .int 0, .ref h4, .ref h5, .ref h6, .int 0, .int 0, .int 0, .int 0, .ref h7, .ref h8, .int 0])), (h1, .inl (cI, 190, .inl zI)), (h2, .inl (cI, 190, .inl z0)), (h3, .inl (cI, 1140, .inl z0)), (h4, .inl (cI, 380, .inl z0)), (h5, .inl (cZ, 2, .inl z0)), (h6, .inl (cI, 60, .inl z0)), (h7, .inl (cI, 120, .inl z0)), (h8, .inl (cI, 10, .inl z0))] ++ (xwW cI cZ cS q0_1 xa xv ho0 ho1 pd0 pd1 m0 ts0 ts1 a ha sa cS0 (fun _ => cS0) (fun _ => cS0) z0 tabF z0 z0 (0 : Int32) (0 : Int32) (0 : Int32) zI)) := hD
  refine lv_astore_n (lv' := [(2, .ref q8_2), (1, .ref q0_1), (0, .ref b)]) hx hb dL_law_15 rfl hl (by decide) rfl (fun ls hl => ?_)
  refine lv_iconst (v := 0) hx hb dL_law_16 (by decide) ?_
  refine lv_istore_n (lv' := [(3, .int 0), (2, .ref q8_2), (1, .ref q0_1), (0, .ref b)]) hx hb dL_law_17 rfl hl (by decide) rfl (fun ls hl => ?_)
  have L18 : ∀ (n : Nat) (k : Int32) (cn : Nat → Nat → Int32) (cs : Nat → Nat → Nat → Int32) (sc : Nat → Nat → Nat → Int32) (tm : Nat → Int32) (tv : Nat → Int32) (pd : Nat → Int32) (sv : Nat → Int32) (ln : Int32) (old : Int32) (sz : Int32) (z : Nat → Int32) (spare : Nat → Int32) (past : Nat → Int32) (slots : Nat → Int32) (tf : Nat → Int32) (tmm : Nat → Int32) (gse : Int32) (gte : Int32) (gsp : Int32) (gtl : Int32) (hk : 0 ≤ k.toInt ∧ k.toInt ≤ 2048) (hLI : LI (125 * k.toInt) cn cs sc sv ln old sz z past slots) (hn18 : (2049 - k.toInt).toNat < n) (H : Heap) (locs : List Loc), va_P D vwCl ([(q8_2, .inr (8, [.ref h1, .ref h2, .ref h3, .int sz, .ref h4, .ref h5, .ref h6, .int ln, .int gse, .int gte, .int gsp, .ref h7, .ref h8, .int gtl])), (h1, .inl (cI, 190, .inl z)), (h2, .inl (cI, 190, .inl spare)), (h3, .inl (cI, 1140, .inl past)), (h4, .inl (cI, 380, .inl slots)), (h5, .inl (cZ, 2, .inl sv)), (h6, .inl (cI, 60, .inl pd)), (h7, .inl (cI, 120, .inl tf)), (h8, .inl (cI, 10, .inl tmm))] ++ (xwW cI cZ cS q0_1 xa xv ho0 ho1 pd0 pd1 m0 ts0 ts1 a ha sa cn cs sc tm tv pd sv ln old sz z)) H → va_D A ([(q8_2, .inr (8, [.ref h1, .ref h2, .ref h3, .int sz, .ref h4, .ref h5, .ref h6, .int ln, .int gse, .int gte, .int gsp, .ref h7, .ref h8, .int gtl])), (h1, .inl (cI, 190, .inl z)), (h2, .inl (cI, 190, .inl spare)), (h3, .inl (cI, 1140, .inl past)), (h4, .inl (cI, 380, .inl slots)), (h5, .inl (cZ, 2, .inl sv)), (h6, .inl (cI, 60, .inl pd)), (h7, .inl (cI, 120, .inl tf)), (h8, .inl (cI, 10, .inl tmm))] ++ (xwW cI cZ cS q0_1 xa xv ho0 ho1 pd0 pd1 m0 ts0 ts1 a ha sa cn cs sc tm tv pd sv ln old sz z)) → va_S A s.heap H locs → ∀ ls : Array Slot, lv_has ls 4 [(3, .int k), (2, .ref q8_2), (1, .ref q0_1), (0, .ref b)] → W p l e room_1 s m #[Value.ref b] below meth c H locs 127 5090 Q (F0 m 18 ls []) := by
    intro n
    induction n with
    | zero =>
      intro k cn cs sc tm tv pd sv ln old sz z spare past slots tf tmm gse gte gsp gtl hk hLI hn18
      exact absurd hn18 (Nat.not_lt_zero _)
    | succ n ih18 =>
      intro k cn cs sc tm tv pd sv ln old sz z spare past slots tf tmm gse gte gsp gtl hk hLI hn18 H locs hP hD hS ls hl
      refine lv_iload_n hx hb dL_law_18 rfl (lv_at hl 0 rfl) ?_
      refine lv_aload_n hx hb dL_law_19 rfl (lv_at hl 3 rfl) ?_
      refine va_slen hx hb hX hbl hbA hS dL_law_20 ?_
      refine xk_top (z := nI L) rfl ?_
      refine lv_iconst (v := 4) hx hb dL_law_21 (by decide) ?_
      refine lv_isub hx hb dL_law_22 ?_
      refine lv_topi (fun x22 e22 => ?_)
      have t22 : x22.toInt = ((nI L).toInt) - 4 := by rw [e22]; exact xi_sub rfl (by decide) (by omega) (by omega)
      refine lv_icmp_gt (tgt := 694) hx hb dL_law_23 (by decide) (fun c23 => ?_) (fun c23 => ?_)
      · have t23 : x22.toInt < k.toInt := xi_lt rfl rfl c23
        refine lv_iconst (v := 1) hx hb dL_law_694 (by decide) ?_
        refine va_forget (fun q hq => by have := hS.2.2 q hq; rw [hAe] at this; exact this) ?_
        refine W.widen (k := 600000) (n := 7302250) (Nat.le_of_ble_eq_true rfl) (Nat.le_of_ble_eq_true rfl) ?_
        rw [hQ]
        exact lw_ret hx hb hr hlocks dL_law_695
      · have t23 : k.toInt ≤ x22.toInt := xi_nlt rfl rfl c23
        refine lv_aload_n hx hb dL_law_26 rfl (lv_at hl 3 rfl) ?_
        refine lv_iload_n hx hb dL_law_27 rfl (lv_at hl 0 rfl) ?_
        refine va_sld hx hb hX hbl hbA hS (xi_in (by omega) (by omega)) dL_law_28 ?_
        refine xk_top (z := xs k.toInt.toNat) (xk_rd (by omega)) ?_
        refine lv_bipush (v := 31) hx hb dL_law_29 (by decide) ?_
        refine lv_iand hx hb dL_law_31 ?_
        refine lv_topi (fun x31 e31 => ?_)
        have h32 : x31.toInt < 0 ∨ 21 < x31.toInt ∨ x31.toInt = 0 ∨ x31.toInt = 1 ∨ x31.toInt = 2 ∨ x31.toInt = 3 ∨ x31.toInt = 4 ∨ x31.toInt = 5 ∨ x31.toInt = 6 ∨ x31.toInt = 7 ∨ x31.toInt = 8 ∨ x31.toInt = 9 ∨ x31.toInt = 10 ∨ x31.toInt = 11 ∨ x31.toInt = 12 ∨ x31.toInt = 13 ∨ x31.toInt = 14 ∨ x31.toInt = 15 ∨ x31.toInt = 16 ∨ x31.toInt = 17 ∨ x31.toInt = 18 ∨ x31.toInt = 19 ∨ x31.toInt = 20 ∨ x31.toInt = 21 := by omega
        rcases h32 with t32 | t32 | t32 | t32 | t32 | t32 | t32 | t32 | t32 | t32 | t32 | t32 | t32 | t32 | t32 | t32 | t32 | t32 | t32 | t32 | t32 | t32 | t32 | t32
        · refine lv_tableOut (tgt := 688) hx hb dL_law_32 (by first | exact Or.inl t32 | exact Or.inr t32) (by decide) ?_
          obtain ⟨x688, e688⟩ : ∃ y : Int32, y = k + 4 := ⟨_, rfl⟩
          have t688 : x688.toInt = k.toInt + 4 := by rw [e688]; exact xi_add rfl (by decide) (by omega) (by omega)
          refine lv_iinc (v := x688) (lv' := [(3, .int x688), (2, .ref q8_2), (1, .ref q0_1), (0, .ref b)]) hx hb dL_law_688 hl (k := 0) rfl (by rw [e688]; rfl) (by decide) rfl (fun ls hl => ?_)
          refine lv_goto (tgt := 18) hx hb dL_law_691 (by decide) ?_
          exact ih18  x688 cn cs sc tm tv pd sv ln old sz z spare past slots tf tmm gse gte gsp gtl (by omega) (by exact LI_mono (by omega) hLI) (by omega) _ _ hP hD hS ls (lv_sub hl [0, 1, 2, 3] rfl)
        · refine lv_tableOut (tgt := 688) hx hb dL_law_32 (by first | exact Or.inl t32 | exact Or.inr t32) (by decide) ?_
          obtain ⟨x688, e688⟩ : ∃ y : Int32, y = k + 4 := ⟨_, rfl⟩
          have t688 : x688.toInt = k.toInt + 4 := by rw [e688]; exact xi_add rfl (by decide) (by omega) (by omega)
          refine lv_iinc (v := x688) (lv' := [(3, .int x688), (2, .ref q8_2), (1, .ref q0_1), (0, .ref b)]) hx hb dL_law_688 hl (k := 0) rfl (by rw [e688]; rfl) (by decide) rfl (fun ls hl => ?_)
          refine lv_goto (tgt := 18) hx hb dL_law_691 (by decide) ?_
          exact ih18  x688 cn cs sc tm tv pd sv ln old sz z spare past slots tf tmm gse gte gsp gtl (by omega) (by exact LI_mono (by omega) hLI) (by omega) _ _ hP hD hS ls (lv_sub hl [0, 1, 2, 3] rfl)
        · refine lv_tableIn (off := 104) (tgt := 136) hx hb dL_law_32 (by rw [t32]; decide) (by rw [t32]; decide) (by rw [t32]; rfl) (by decide) ?_
          refine lc_set l hx hb hml hown hts hX hbl hbA hA hK hN hZ hL k cn cs sc tm tv pd sv ln old sz z spare past slots tf tmm gse gte gsp gtl (by omega) hLI (fun cn cs sc tm tv pd sv ln old sz z spare past slots tf tmm gse gte gsp gtl hLI2 H locs hP hD hS ls hl => ?_) _ _ hP hD hS ls (lv_sub hl [0, 1, 2, 3] rfl)
          obtain ⟨x688, e688⟩ : ∃ y : Int32, y = k + 4 := ⟨_, rfl⟩
          have t688 : x688.toInt = k.toInt + 4 := by rw [e688]; exact xi_add rfl (by decide) (by omega) (by omega)
          refine lv_iinc (v := x688) (lv' := [(3, .int x688), (2, .ref q8_2), (1, .ref q0_1), (0, .ref b)]) hx hb dL_law_688 hl (k := 0) rfl (by rw [e688]; rfl) (by decide) rfl (fun ls hl => ?_)
          refine lv_goto (tgt := 18) hx hb dL_law_691 (by decide) ?_
          exact ih18  x688 cn cs sc tm tv pd sv ln old sz z spare past slots tf tmm gse gte gsp gtl (by omega) (by exact LI_mono (by omega) hLI2) (by omega) _ _ hP hD hS ls (lv_sub hl [0, 1, 2, 3] rfl)
        · refine lv_tableIn (off := 137) (tgt := 169) hx hb dL_law_32 (by rw [t32]; decide) (by rw [t32]; decide) (by rw [t32]; rfl) (by decide) ?_
          refine lc_read l hx hb hml hown hts hX hbl hbA hA hK hN hZ hL k cn cs sc tm tv pd sv ln old sz z spare past slots tf tmm gse gte gsp gtl (by omega) hLI (fun cn cs sc tm tv pd sv ln old sz z spare past slots tf tmm gse gte gsp gtl hLI2 H locs hP hD hS ls hl => ?_) _ _ hP hD hS ls (lv_sub hl [0, 1, 2, 3] rfl)
          obtain ⟨x688, e688⟩ : ∃ y : Int32, y = k + 4 := ⟨_, rfl⟩
          have t688 : x688.toInt = k.toInt + 4 := by rw [e688]; exact xi_add rfl (by decide) (by omega) (by omega)
          refine lv_iinc (v := x688) (lv' := [(3, .int x688), (2, .ref q8_2), (1, .ref q0_1), (0, .ref b)]) hx hb dL_law_688 hl (k := 0) rfl (by rw [e688]; rfl) (by decide) rfl (fun ls hl => ?_)
          refine lv_goto (tgt := 18) hx hb dL_law_691 (by decide) ?_
          exact ih18  x688 cn cs sc tm tv pd sv ln old sz z spare past slots tf tmm gse gte gsp gtl (by omega) (by exact LI_mono (by omega) hLI2) (by omega) _ _ hP hD hS ls (lv_sub hl [0, 1, 2, 3] rfl)
        · refine lv_tableIn (off := 150) (tgt := 182) hx hb dL_law_32 (by rw [t32]; decide) (by rw [t32]; decide) (by rw [t32]; rfl) (by decide) ?_
          refine lc_pave l hx hb hml hown hts hX hbl hbA hA hK hN hZ hL k cn cs sc tm tv pd sv ln old sz z spare past slots tf tmm gse gte gsp gtl (by omega) hLI (fun cn cs sc tm tv pd sv ln old sz z spare past slots tf tmm gse gte gsp gtl hLI2 H locs hP hD hS ls hl => ?_) _ _ hP hD hS ls (lv_sub hl [0, 1, 2, 3] rfl)
          obtain ⟨x688, e688⟩ : ∃ y : Int32, y = k + 4 := ⟨_, rfl⟩
          have t688 : x688.toInt = k.toInt + 4 := by rw [e688]; exact xi_add rfl (by decide) (by omega) (by omega)
          refine lv_iinc (v := x688) (lv' := [(3, .int x688), (2, .ref q8_2), (1, .ref q0_1), (0, .ref b)]) hx hb dL_law_688 hl (k := 0) rfl (by rw [e688]; rfl) (by decide) rfl (fun ls hl => ?_)
          refine lv_goto (tgt := 18) hx hb dL_law_691 (by decide) ?_
          exact ih18  x688 cn cs sc tm tv pd sv ln old sz z spare past slots tf tmm gse gte gsp gtl (by omega) (by exact LI_mono (by omega) hLI2) (by omega) _ _ hP hD hS ls (lv_sub hl [0, 1, 2, 3] rfl)
        · refine lv_tableIn (off := 209) (tgt := 241) hx hb dL_law_32 (by rw [t32]; decide) (by rw [t32]; decide) (by rw [t32]; rfl) (by decide) ?_
          refine lc_tear l hx hb hml hown hts hX hbl hbA hA hK hN hZ hL k cn cs sc tm tv pd sv ln old sz z spare past slots tf tmm gse gte gsp gtl (by omega) hLI (fun cn cs sc tm tv pd sv ln old sz z spare past slots tf tmm gse gte gsp gtl hLI2 H locs hP hD hS ls hl => ?_) _ _ hP hD hS ls (lv_sub hl [0, 1, 2, 3] rfl)
          obtain ⟨x688, e688⟩ : ∃ y : Int32, y = k + 4 := ⟨_, rfl⟩
          have t688 : x688.toInt = k.toInt + 4 := by rw [e688]; exact xi_add rfl (by decide) (by omega) (by omega)
          refine lv_iinc (v := x688) (lv' := [(3, .int x688), (2, .ref q8_2), (1, .ref q0_1), (0, .ref b)]) hx hb dL_law_688 hl (k := 0) rfl (by rw [e688]; rfl) (by decide) rfl (fun ls hl => ?_)
          refine lv_goto (tgt := 18) hx hb dL_law_691 (by decide) ?_
          exact ih18  x688 cn cs sc tm tv pd sv ln old sz z spare past slots tf tmm gse gte gsp gtl (by omega) (by exact LI_mono (by omega) hLI2) (by omega) _ _ hP hD hS ls (lv_sub hl [0, 1, 2, 3] rfl)
        · refine lv_tableIn (off := 232) (tgt := 264) hx hb dL_law_32 (by rw [t32]; decide) (by rw [t32]; decide) (by rw [t32]; rfl) (by decide) ?_
          refine lc_begin l hx hb hml hown hts hX hbl hbA hA hK hN hZ hL k cn cs sc tm tv pd sv ln old sz z spare past slots tf tmm gse gte gsp gtl (by omega) hLI (fun cn cs sc tm tv pd sv ln old sz z spare past slots tf tmm gse gte gsp gtl hLI2 H locs hP hD hS ls hl => ?_) _ _ hP hD hS ls (lv_sub hl [0, 1, 2, 3] rfl)
          obtain ⟨x688, e688⟩ : ∃ y : Int32, y = k + 4 := ⟨_, rfl⟩
          have t688 : x688.toInt = k.toInt + 4 := by rw [e688]; exact xi_add rfl (by decide) (by omega) (by omega)
          refine lv_iinc (v := x688) (lv' := [(3, .int x688), (2, .ref q8_2), (1, .ref q0_1), (0, .ref b)]) hx hb dL_law_688 hl (k := 0) rfl (by rw [e688]; rfl) (by decide) rfl (fun ls hl => ?_)
          refine lv_goto (tgt := 18) hx hb dL_law_691 (by decide) ?_
          exact ih18  x688 cn cs sc tm tv pd sv ln old sz z spare past slots tf tmm gse gte gsp gtl (by omega) (by exact LI_mono (by omega) hLI2) (by omega) _ _ hP hD hS ls (lv_sub hl [0, 1, 2, 3] rfl)
        · refine lv_tableIn (off := 245) (tgt := 277) hx hb dL_law_32 (by rw [t32]; decide) (by rw [t32]; decide) (by rw [t32]; rfl) (by decide) ?_
          refine lc_march l hx hb hml hown hts hX hbl hbA hA hK hN hZ hL k cn cs sc tm tv pd sv ln old sz z spare past slots tf tmm gse gte gsp gtl (by omega) hLI (fun cn cs sc tm tv pd sv ln old sz z spare past slots tf tmm gse gte gsp gtl hLI2 H locs hP hD hS ls hl => ?_) _ _ hP hD hS ls (lv_sub hl [0, 1, 2, 3] rfl)
          obtain ⟨x688, e688⟩ : ∃ y : Int32, y = k + 4 := ⟨_, rfl⟩
          have t688 : x688.toInt = k.toInt + 4 := by rw [e688]; exact xi_add rfl (by decide) (by omega) (by omega)
          refine lv_iinc (v := x688) (lv' := [(3, .int x688), (2, .ref q8_2), (1, .ref q0_1), (0, .ref b)]) hx hb dL_law_688 hl (k := 0) rfl (by rw [e688]; rfl) (by decide) rfl (fun ls hl => ?_)
          refine lv_goto (tgt := 18) hx hb dL_law_691 (by decide) ?_
          exact ih18  x688 cn cs sc tm tv pd sv ln old sz z spare past slots tf tmm gse gte gsp gtl (by omega) (by exact LI_mono (by omega) hLI2) (by omega) _ _ hP hD hS ls (lv_sub hl [0, 1, 2, 3] rfl)
        · refine lv_tableIn (off := 268) (tgt := 300) hx hb dL_law_32 (by rw [t32]; decide) (by rw [t32]; decide) (by rw [t32]; rfl) (by decide) ?_
          refine lc_line l hx hb hml hown hts hX hbl hbA hA hK hN hZ hL k cn cs sc tm tv pd sv ln old sz z spare past slots tf tmm gse gte gsp gtl (by omega) hLI (fun cn cs sc tm tv pd sv ln old sz z spare past slots tf tmm gse gte gsp gtl hLI2 H locs hP hD hS ls hl => ?_) _ _ hP hD hS ls (lv_sub hl [0, 1, 2, 3] rfl)
          obtain ⟨x688, e688⟩ : ∃ y : Int32, y = k + 4 := ⟨_, rfl⟩
          have t688 : x688.toInt = k.toInt + 4 := by rw [e688]; exact xi_add rfl (by decide) (by omega) (by omega)
          refine lv_iinc (v := x688) (lv' := [(3, .int x688), (2, .ref q8_2), (1, .ref q0_1), (0, .ref b)]) hx hb dL_law_688 hl (k := 0) rfl (by rw [e688]; rfl) (by decide) rfl (fun ls hl => ?_)
          refine lv_goto (tgt := 18) hx hb dL_law_691 (by decide) ?_
          exact ih18  x688 cn cs sc tm tv pd sv ln old sz z spare past slots tf tmm gse gte gsp gtl (by omega) (by exact LI_mono (by omega) hLI2) (by omega) _ _ hP hD hS ls (lv_sub hl [0, 1, 2, 3] rfl)
        · refine lv_tableIn (off := 301) (tgt := 333) hx hb dL_law_32 (by rw [t32]; decide) (by rw [t32]; decide) (by rw [t32]; rfl) (by decide) ?_
          refine lc_foot l hx hb hml hown hts hX hbl hbA hA hK hN hZ hL k cn cs sc tm tv pd sv ln old sz z spare past slots tf tmm gse gte gsp gtl (by omega) hLI (fun cn cs sc tm tv pd sv ln old sz z spare past slots tf tmm gse gte gsp gtl hLI2 H locs hP hD hS ls hl => ?_) _ _ hP hD hS ls (lv_sub hl [0, 1, 2, 3] rfl)
          obtain ⟨x688, e688⟩ : ∃ y : Int32, y = k + 4 := ⟨_, rfl⟩
          have t688 : x688.toInt = k.toInt + 4 := by rw [e688]; exact xi_add rfl (by decide) (by omega) (by omega)
          refine lv_iinc (v := x688) (lv' := [(3, .int x688), (2, .ref q8_2), (1, .ref q0_1), (0, .ref b)]) hx hb dL_law_688 hl (k := 0) rfl (by rw [e688]; rfl) (by decide) rfl (fun ls hl => ?_)
          refine lv_goto (tgt := 18) hx hb dL_law_691 (by decide) ?_
          exact ih18  x688 cn cs sc tm tv pd sv ln old sz z spare past slots tf tmm gse gte gsp gtl (by omega) (by exact LI_mono (by omega) hLI2) (by omega) _ _ hP hD hS ls (lv_sub hl [0, 1, 2, 3] rfl)
        · refine lv_tableIn (off := 344) (tgt := 376) hx hb dL_law_32 (by rw [t32]; decide) (by rw [t32]; decide) (by rw [t32]; rfl) (by decide) ?_
          refine lc_stretch l hx hb hml hown hts hX hbl hbA hA hK hN hZ hL k cn cs sc tm tv pd sv ln old sz z spare past slots tf tmm gse gte gsp gtl (by omega) hLI (fun cn cs sc tm tv pd sv ln old sz z spare past slots tf tmm gse gte gsp gtl hLI2 H locs hP hD hS ls hl => ?_) _ _ hP hD hS ls (lv_sub hl [0, 1, 2, 3] rfl)
          obtain ⟨x688, e688⟩ : ∃ y : Int32, y = k + 4 := ⟨_, rfl⟩
          have t688 : x688.toInt = k.toInt + 4 := by rw [e688]; exact xi_add rfl (by decide) (by omega) (by omega)
          refine lv_iinc (v := x688) (lv' := [(3, .int x688), (2, .ref q8_2), (1, .ref q0_1), (0, .ref b)]) hx hb dL_law_688 hl (k := 0) rfl (by rw [e688]; rfl) (by decide) rfl (fun ls hl => ?_)
          refine lv_goto (tgt := 18) hx hb dL_law_691 (by decide) ?_
          exact ih18  x688 cn cs sc tm tv pd sv ln old sz z spare past slots tf tmm gse gte gsp gtl (by omega) (by exact LI_mono (by omega) hLI2) (by omega) _ _ hP hD hS ls (lv_sub hl [0, 1, 2, 3] rfl)
        · refine lv_tableIn (off := 377) (tgt := 409) hx hb dL_law_32 (by rw [t32]; decide) (by rw [t32]; decide) (by rw [t32]; rfl) (by decide) ?_
          refine lc_walk l hx hb hml hown hts hX hbl hbA hA hK hN hZ hL k cn cs sc tm tv pd sv ln old sz z spare past slots tf tmm gse gte gsp gtl (by omega) hLI (fun cn cs sc tm tv pd sv ln old sz z spare past slots tf tmm gse gte gsp gtl hLI2 H locs hP hD hS ls hl => ?_) _ _ hP hD hS ls (lv_sub hl [0, 1, 2, 3] rfl)
          obtain ⟨x688, e688⟩ : ∃ y : Int32, y = k + 4 := ⟨_, rfl⟩
          have t688 : x688.toInt = k.toInt + 4 := by rw [e688]; exact xi_add rfl (by decide) (by omega) (by omega)
          refine lv_iinc (v := x688) (lv' := [(3, .int x688), (2, .ref q8_2), (1, .ref q0_1), (0, .ref b)]) hx hb dL_law_688 hl (k := 0) rfl (by rw [e688]; rfl) (by decide) rfl (fun ls hl => ?_)
          refine lv_goto (tgt := 18) hx hb dL_law_691 (by decide) ?_
          exact ih18  x688 cn cs sc tm tv pd sv ln old sz z spare past slots tf tmm gse gte gsp gtl (by omega) (by exact LI_mono (by omega) hLI2) (by omega) _ _ hP hD hS ls (lv_sub hl [0, 1, 2, 3] rfl)
        · refine lv_tableIn (off := 400) (tgt := 432) hx hb dL_law_32 (by rw [t32]; decide) (by rw [t32]; decide) (by rw [t32]; rfl) (by decide) ?_
          refine lc_count l hx hb hml hown hts hX hbl hbA hA hK hN hZ hL k cn cs sc tm tv pd sv ln old sz z spare past slots tf tmm gse gte gsp gtl (by omega) hLI (fun cn cs sc tm tv pd sv ln old sz z spare past slots tf tmm gse gte gsp gtl hLI2 H locs hP hD hS ls hl => ?_) _ _ hP hD hS ls (lv_sub hl [0, 1, 2, 3] rfl)
          obtain ⟨x688, e688⟩ : ∃ y : Int32, y = k + 4 := ⟨_, rfl⟩
          have t688 : x688.toInt = k.toInt + 4 := by rw [e688]; exact xi_add rfl (by decide) (by omega) (by omega)
          refine lv_iinc (v := x688) (lv' := [(3, .int x688), (2, .ref q8_2), (1, .ref q0_1), (0, .ref b)]) hx hb dL_law_688 hl (k := 0) rfl (by rw [e688]; rfl) (by decide) rfl (fun ls hl => ?_)
          refine lv_goto (tgt := 18) hx hb dL_law_691 (by decide) ?_
          exact ih18  x688 cn cs sc tm tv pd sv ln old sz z spare past slots tf tmm gse gte gsp gtl (by omega) (by exact LI_mono (by omega) hLI2) (by omega) _ _ hP hD hS ls (lv_sub hl [0, 1, 2, 3] rfl)
        · refine lv_tableIn (off := 423) (tgt := 455) hx hb dL_law_32 (by rw [t32]; decide) (by rw [t32]; decide) (by rw [t32]; rfl) (by decide) ?_
          refine lc_untilWalked l hx hb hml hown hts hX hbl hbA hA hK hN hZ hL k cn cs sc tm tv pd sv ln old sz z spare past slots tf tmm gse gte gsp gtl (by omega) hLI (fun cn cs sc tm tv pd sv ln old sz z spare past slots tf tmm gse gte gsp gtl hLI2 H locs hP hD hS ls hl => ?_) _ _ hP hD hS ls (lv_sub hl [0, 1, 2, 3] rfl)
          obtain ⟨x688, e688⟩ : ∃ y : Int32, y = k + 4 := ⟨_, rfl⟩
          have t688 : x688.toInt = k.toInt + 4 := by rw [e688]; exact xi_add rfl (by decide) (by omega) (by omega)
          refine lv_iinc (v := x688) (lv' := [(3, .int x688), (2, .ref q8_2), (1, .ref q0_1), (0, .ref b)]) hx hb dL_law_688 hl (k := 0) rfl (by rw [e688]; rfl) (by decide) rfl (fun ls hl => ?_)
          refine lv_goto (tgt := 18) hx hb dL_law_691 (by decide) ?_
          exact ih18  x688 cn cs sc tm tv pd sv ln old sz z spare past slots tf tmm gse gte gsp gtl (by omega) (by exact LI_mono (by omega) hLI2) (by omega) _ _ hP hD hS ls (lv_sub hl [0, 1, 2, 3] rfl)
        · refine lv_tableIn (off := 446) (tgt := 478) hx hb dL_law_32 (by rw [t32]; decide) (by rw [t32]; decide) (by rw [t32]; rfl) (by decide) ?_
          refine lc_together l hx hb hml hown hts hX hbl hbA hA hK hN hZ hL k cn cs sc tm tv pd sv ln old sz z spare past slots tf tmm gse gte gsp gtl (by omega) hLI (fun cn cs sc tm tv pd sv ln old sz z spare past slots tf tmm gse gte gsp gtl hLI2 H locs hP hD hS ls hl => ?_) _ _ hP hD hS ls (lv_sub hl [0, 1, 2, 3] rfl)
          obtain ⟨x688, e688⟩ : ∃ y : Int32, y = k + 4 := ⟨_, rfl⟩
          have t688 : x688.toInt = k.toInt + 4 := by rw [e688]; exact xi_add rfl (by decide) (by omega) (by omega)
          refine lv_iinc (v := x688) (lv' := [(3, .int x688), (2, .ref q8_2), (1, .ref q0_1), (0, .ref b)]) hx hb dL_law_688 hl (k := 0) rfl (by rw [e688]; rfl) (by decide) rfl (fun ls hl => ?_)
          refine lv_goto (tgt := 18) hx hb dL_law_691 (by decide) ?_
          exact ih18  x688 cn cs sc tm tv pd sv ln old sz z spare past slots tf tmm gse gte gsp gtl (by omega) (by exact LI_mono (by omega) hLI2) (by omega) _ _ hP hD hS ls (lv_sub hl [0, 1, 2, 3] rfl)
        · refine lv_tableIn (off := 459) (tgt := 491) hx hb dL_law_32 (by rw [t32]; decide) (by rw [t32]; decide) (by rw [t32]; rfl) (by decide) ?_
          refine lc_meets l hx hb hml hown hts hX hbl hbA hA hK hN hZ hL k cn cs sc tm tv pd sv ln old sz z spare past slots tf tmm gse gte gsp gtl (by omega) hLI (fun cn cs sc tm tv pd sv ln old sz z spare past slots tf tmm gse gte gsp gtl hLI2 H locs hP hD hS ls hl => ?_) _ _ hP hD hS ls (lv_sub hl [0, 1, 2, 3] rfl)
          obtain ⟨x688, e688⟩ : ∃ y : Int32, y = k + 4 := ⟨_, rfl⟩
          have t688 : x688.toInt = k.toInt + 4 := by rw [e688]; exact xi_add rfl (by decide) (by omega) (by omega)
          refine lv_iinc (v := x688) (lv' := [(3, .int x688), (2, .ref q8_2), (1, .ref q0_1), (0, .ref b)]) hx hb dL_law_688 hl (k := 0) rfl (by rw [e688]; rfl) (by decide) rfl (fun ls hl => ?_)
          refine lv_goto (tgt := 18) hx hb dL_law_691 (by decide) ?_
          exact ih18  x688 cn cs sc tm tv pd sv ln old sz z spare past slots tf tmm gse gte gsp gtl (by omega) (by exact LI_mono (by omega) hLI2) (by omega) _ _ hP hD hS ls (lv_sub hl [0, 1, 2, 3] rfl)
        · refine lv_tableIn (off := 492) (tgt := 524) hx hb dL_law_32 (by rw [t32]; decide) (by rw [t32]; decide) (by rw [t32]; rfl) (by decide) ?_
          refine lc_leastBreath l hx hb hml hown hts hX hbl hbA hA hK hN hZ hL k cn cs sc tm tv pd sv ln old sz z spare past slots tf tmm gse gte gsp gtl (by omega) hLI (fun cn cs sc tm tv pd sv ln old sz z spare past slots tf tmm gse gte gsp gtl hLI2 H locs hP hD hS ls hl => ?_) _ _ hP hD hS ls (lv_sub hl [0, 1, 2, 3] rfl)
          obtain ⟨x688, e688⟩ : ∃ y : Int32, y = k + 4 := ⟨_, rfl⟩
          have t688 : x688.toInt = k.toInt + 4 := by rw [e688]; exact xi_add rfl (by decide) (by omega) (by omega)
          refine lv_iinc (v := x688) (lv' := [(3, .int x688), (2, .ref q8_2), (1, .ref q0_1), (0, .ref b)]) hx hb dL_law_688 hl (k := 0) rfl (by rw [e688]; rfl) (by decide) rfl (fun ls hl => ?_)
          refine lv_goto (tgt := 18) hx hb dL_law_691 (by decide) ?_
          exact ih18  x688 cn cs sc tm tv pd sv ln old sz z spare past slots tf tmm gse gte gsp gtl (by omega) (by exact LI_mono (by omega) hLI2) (by omega) _ _ hP hD hS ls (lv_sub hl [0, 1, 2, 3] rfl)
        · refine lv_tableIn (off := 505) (tgt := 537) hx hb dL_law_32 (by rw [t32]; decide) (by rw [t32]; decide) (by rw [t32]; rfl) (by decide) ?_
          refine lc_bestPause l hx hb hml hown hts hX hbl hbA hA hK hN hZ hL k cn cs sc tm tv pd sv ln old sz z spare past slots tf tmm gse gte gsp gtl (by omega) hLI (fun cn cs sc tm tv pd sv ln old sz z spare past slots tf tmm gse gte gsp gtl hLI2 H locs hP hD hS ls hl => ?_) _ _ hP hD hS ls (lv_sub hl [0, 1, 2, 3] rfl)
          obtain ⟨x688, e688⟩ : ∃ y : Int32, y = k + 4 := ⟨_, rfl⟩
          have t688 : x688.toInt = k.toInt + 4 := by rw [e688]; exact xi_add rfl (by decide) (by omega) (by omega)
          refine lv_iinc (v := x688) (lv' := [(3, .int x688), (2, .ref q8_2), (1, .ref q0_1), (0, .ref b)]) hx hb dL_law_688 hl (k := 0) rfl (by rw [e688]; rfl) (by decide) rfl (fun ls hl => ?_)
          refine lv_goto (tgt := 18) hx hb dL_law_691 (by decide) ?_
          exact ih18  x688 cn cs sc tm tv pd sv ln old sz z spare past slots tf tmm gse gte gsp gtl (by omega) (by exact LI_mono (by omega) hLI2) (by omega) _ _ hP hD hS ls (lv_sub hl [0, 1, 2, 3] rfl)
        · refine lv_tableIn (off := 518) (tgt := 550) hx hb dL_law_32 (by rw [t32]; decide) (by rw [t32]; decide) (by rw [t32]; rfl) (by decide) ?_
          refine lc_put l hx hb hml hown hts hX hbl hbA hA hK hN hZ hL k cn cs sc tm tv pd sv ln old sz z spare past slots tf tmm gse gte gsp gtl (by omega) hLI (fun cn cs sc tm tv pd sv ln old sz z spare past slots tf tmm gse gte gsp gtl hLI2 H locs hP hD hS ls hl => ?_) _ _ hP hD hS ls (lv_sub hl [0, 1, 2, 3] rfl)
          obtain ⟨x688, e688⟩ : ∃ y : Int32, y = k + 4 := ⟨_, rfl⟩
          have t688 : x688.toInt = k.toInt + 4 := by rw [e688]; exact xi_add rfl (by decide) (by omega) (by omega)
          refine lv_iinc (v := x688) (lv' := [(3, .int x688), (2, .ref q8_2), (1, .ref q0_1), (0, .ref b)]) hx hb dL_law_688 hl (k := 0) rfl (by rw [e688]; rfl) (by decide) rfl (fun ls hl => ?_)
          refine lv_goto (tgt := 18) hx hb dL_law_691 (by decide) ?_
          exact ih18  x688 cn cs sc tm tv pd sv ln old sz z spare past slots tf tmm gse gte gsp gtl (by omega) (by exact LI_mono (by omega) hLI2) (by omega) _ _ hP hD hS ls (lv_sub hl [0, 1, 2, 3] rfl)
        · refine lv_tableIn (off := 571) (tgt := 603) hx hb dL_law_32 (by rw [t32]; decide) (by rw [t32]; decide) (by rw [t32]; rfl) (by decide) ?_
          refine lc_wipe l hx hb hml hown hts hX hbl hbA hA hK hN hZ hL k cn cs sc tm tv pd sv ln old sz z spare past slots tf tmm gse gte gsp gtl (by omega) hLI (fun cn cs sc tm tv pd sv ln old sz z spare past slots tf tmm gse gte gsp gtl hLI2 H locs hP hD hS ls hl => ?_) _ _ hP hD hS ls (lv_sub hl [0, 1, 2, 3] rfl)
          obtain ⟨x688, e688⟩ : ∃ y : Int32, y = k + 4 := ⟨_, rfl⟩
          have t688 : x688.toInt = k.toInt + 4 := by rw [e688]; exact xi_add rfl (by decide) (by omega) (by omega)
          refine lv_iinc (v := x688) (lv' := [(3, .int x688), (2, .ref q8_2), (1, .ref q0_1), (0, .ref b)]) hx hb dL_law_688 hl (k := 0) rfl (by rw [e688]; rfl) (by decide) rfl (fun ls hl => ?_)
          refine lv_goto (tgt := 18) hx hb dL_law_691 (by decide) ?_
          exact ih18  x688 cn cs sc tm tv pd sv ln old sz z spare past slots tf tmm gse gte gsp gtl (by omega) (by exact LI_mono (by omega) hLI2) (by omega) _ _ hP hD hS ls (lv_sub hl [0, 1, 2, 3] rfl)
        · refine lv_tableIn (off := 584) (tgt := 616) hx hb dL_law_32 (by rw [t32]; decide) (by rw [t32]; decide) (by rw [t32]; rfl) (by decide) ?_
          refine lc_fault l hx hb hml hown hts hX hbl hbA hA hK hN hZ hL k cn cs sc tm tv pd sv ln old sz z spare past slots tf tmm gse gte gsp gtl (by omega) hLI (fun cn cs sc tm tv pd sv ln old sz z spare past slots tf tmm gse gte gsp gtl hLI2 H locs hP hD hS ls hl => ?_) _ _ hP hD hS ls (lv_sub hl [0, 1, 2, 3] rfl)
          obtain ⟨x688, e688⟩ : ∃ y : Int32, y = k + 4 := ⟨_, rfl⟩
          have t688 : x688.toInt = k.toInt + 4 := by rw [e688]; exact xi_add rfl (by decide) (by omega) (by omega)
          refine lv_iinc (v := x688) (lv' := [(3, .int x688), (2, .ref q8_2), (1, .ref q0_1), (0, .ref b)]) hx hb dL_law_688 hl (k := 0) rfl (by rw [e688]; rfl) (by decide) rfl (fun ls hl => ?_)
          refine lv_goto (tgt := 18) hx hb dL_law_691 (by decide) ?_
          exact ih18  x688 cn cs sc tm tv pd sv ln old sz z spare past slots tf tmm gse gte gsp gtl (by omega) (by exact LI_mono (by omega) hLI2) (by omega) _ _ hP hD hS ls (lv_sub hl [0, 1, 2, 3] rfl)
        · refine lv_tableIn (off := 597) (tgt := 629) hx hb dL_law_32 (by rw [t32]; decide) (by rw [t32]; decide) (by rw [t32]; rfl) (by decide) ?_
          refine lc_undo l hx hb hml hown hts hX hbl hbA hA hK hN hZ hL k cn cs sc tm tv pd sv ln old sz z spare past slots tf tmm gse gte gsp gtl (by omega) hLI (fun cn cs sc tm tv pd sv ln old sz z spare past slots tf tmm gse gte gsp gtl hLI2 H locs hP hD hS ls hl => ?_) _ _ hP hD hS ls (lv_sub hl [0, 1, 2, 3] rfl)
          obtain ⟨x688, e688⟩ : ∃ y : Int32, y = k + 4 := ⟨_, rfl⟩
          have t688 : x688.toInt = k.toInt + 4 := by rw [e688]; exact xi_add rfl (by decide) (by omega) (by omega)
          refine lv_iinc (v := x688) (lv' := [(3, .int x688), (2, .ref q8_2), (1, .ref q0_1), (0, .ref b)]) hx hb dL_law_688 hl (k := 0) rfl (by rw [e688]; rfl) (by decide) rfl (fun ls hl => ?_)
          refine lv_goto (tgt := 18) hx hb dL_law_691 (by decide) ?_
          exact ih18  x688 cn cs sc tm tv pd sv ln old sz z spare past slots tf tmm gse gte gsp gtl (by omega) (by exact LI_mono (by omega) hLI2) (by omega) _ _ hP hD hS ls (lv_sub hl [0, 1, 2, 3] rfl)
        · refine lv_tableIn (off := 610) (tgt := 642) hx hb dL_law_32 (by rw [t32]; decide) (by rw [t32]; decide) (by rw [t32]; rfl) (by decide) ?_
          refine lc_save l hx hb hml hown hts hX hbl hbA hA hK hN hZ hL k cn cs sc tm tv pd sv ln old sz z spare past slots tf tmm gse gte gsp gtl (by omega) hLI (fun cn cs sc tm tv pd sv ln old sz z spare past slots tf tmm gse gte gsp gtl hLI2 H locs hP hD hS ls hl => ?_) _ _ hP hD hS ls (lv_sub hl [0, 1, 2, 3] rfl)
          obtain ⟨x688, e688⟩ : ∃ y : Int32, y = k + 4 := ⟨_, rfl⟩
          have t688 : x688.toInt = k.toInt + 4 := by rw [e688]; exact xi_add rfl (by decide) (by omega) (by omega)
          refine lv_iinc (v := x688) (lv' := [(3, .int x688), (2, .ref q8_2), (1, .ref q0_1), (0, .ref b)]) hx hb dL_law_688 hl (k := 0) rfl (by rw [e688]; rfl) (by decide) rfl (fun ls hl => ?_)
          refine lv_goto (tgt := 18) hx hb dL_law_691 (by decide) ?_
          exact ih18  x688 cn cs sc tm tv pd sv ln old sz z spare past slots tf tmm gse gte gsp gtl (by omega) (by exact LI_mono (by omega) hLI2) (by omega) _ _ hP hD hS ls (lv_sub hl [0, 1, 2, 3] rfl)
        · refine lv_tableIn (off := 633) (tgt := 665) hx hb dL_law_32 (by rw [t32]; decide) (by rw [t32]; decide) (by rw [t32]; rfl) (by decide) ?_
          refine lc_restore l hx hb hml hown hts hX hbl hbA hA hK hN hZ hL k cn cs sc tm tv pd sv ln old sz z spare past slots tf tmm gse gte gsp gtl (by omega) hLI (fun cn cs sc tm tv pd sv ln old sz z spare past slots tf tmm gse gte gsp gtl hLI2 H locs hP hD hS ls hl => ?_) _ _ hP hD hS ls (lv_sub hl [0, 1, 2, 3] rfl)
          obtain ⟨x688, e688⟩ : ∃ y : Int32, y = k + 4 := ⟨_, rfl⟩
          have t688 : x688.toInt = k.toInt + 4 := by rw [e688]; exact xi_add rfl (by decide) (by omega) (by omega)
          refine lv_iinc (v := x688) (lv' := [(3, .int x688), (2, .ref q8_2), (1, .ref q0_1), (0, .ref b)]) hx hb dL_law_688 hl (k := 0) rfl (by rw [e688]; rfl) (by decide) rfl (fun ls hl => ?_)
          refine lv_goto (tgt := 18) hx hb dL_law_691 (by decide) ?_
          exact ih18  x688 cn cs sc tm tv pd sv ln old sz z spare past slots tf tmm gse gte gsp gtl (by omega) (by exact LI_mono (by omega) hLI2) (by omega) _ _ hP hD hS ls (lv_sub hl [0, 1, 2, 3] rfl)
  exact L18 2050 (0 : Int32) cS0 (fun _ => cS0) (fun _ => cS0) z0 tabF z0 z0 (0 : Int32) (0 : Int32) (0 : Int32) zI z0 z0 z0 z0 z0 (0 : Int32) (0 : Int32) (0 : Int32) (0 : Int32) (by decide) (by exact LI_0) (by decide) _ _ hP hD hS ls (lv_sub hl [0, 1, 2, 3] rfl)
