def tbJ (old sz : Int32) : Nat := (old.toInt.toNat + (sz.toInt.toNat - 1)) % 6
theorem xg_mv (h X O : va_W) : ((h ++ X) ++ O).Perm (X ++ (h ++ O)) := by
  rw [← List.append_assoc]
  exact List.Perm.append_right O List.perm_append_comm
theorem hs_inC (cI cZ : ClassId) (ha : Nat → Nat → Nat) (cs : Nat → Nat → Nat → Int32) (h T : va_W) {k : Nat} (hk : k < 6) : (h ++ (hsW cI cZ ha cs ++ T)).Perm ((stW cI cZ (ha k) (cs k) ++ T) ++ (h ++ oth6 (fun i => stW cI cZ (ha i) (cs i)) k)) := (hs_in cI cZ ha cs h T hk).trans (xg_mv _ _ _)
theorem hs_outC (cI cZ : ClassId) (ha : Nat → Nat → Nat) (cs : Nat → Nat → Nat → Int32) (c0 : Nat → Nat → Int32) (h T : va_W) {k : Nat} (hk : k < 6) : ((stW cI cZ (ha k) c0 ++ T) ++ (h ++ oth6 (fun i => stW cI cZ (ha i) (cs i)) k)).Perm (h ++ (hsW cI cZ ha (recC cs c0 k) ++ T)) := (xg_mv _ _ _).symm.trans (hs_out cI cZ ha cs c0 h T hk rfl)
theorem hs_inT (cI cZ : ClassId) (ha : Nat → Nat → Nat) (cs : Nat → Nat → Nat → Int32) (h T : va_W) {k : Nat} (hk : k < 6) : (h ++ (hsW cI cZ ha cs ++ T)).Perm ((T ++ stW cI cZ (ha k) (cs k)) ++ (h ++ oth6 (fun i => stW cI cZ (ha i) (cs i)) k)) := (hs_inC cI cZ ha cs h T hk).trans (List.Perm.append_right _ List.perm_append_comm)
theorem hs_outT (cI cZ : ClassId) (ha : Nat → Nat → Nat) (cs : Nat → Nat → Nat → Int32) (h T : va_W) {k : Nat} (hk : k < 6) : ((T ++ stW cI cZ (ha k) (cs k)) ++ (h ++ oth6 (fun i => stW cI cZ (ha i) (cs i)) k)).Perm (h ++ (hsW cI cZ ha cs ++ T)) := (hs_inT cI cZ ha cs h T hk).symm
set_option maxRecDepth 100000 in
theorem c_X6_copyS (l : Launch) (D : va_G) (cI cZ cS : ClassId) (a : Nat → Nat) (c0 : Nat → Nat → Int32) (b : Nat → Nat) (c1 : Nat → Nat → Int32) (hm1 : ∀ j : Nat, j < 120 → c1 3 j = 0 ∨ c1 3 j = 1) (hm2 : ∀ j : Nat, j < 12 → c1 6 j = 0 ∨ c1 6 j = 1) : xMv l yX6_copyFrom cX6_copyFrom 2 none ({ frames := 1, cells := 0, slots := 0, locals := 22 } : Room) D (xTy cI cZ cS) [.ref (a 0), .ref (b 0)] (stW cI cZ a c0 ++ stW cI cZ b c1) (fun (_ : Unit) => True) (fun (_ : Unit) => stW cI cZ a c1 ++ stW cI cZ b c1) := c_X6_copyFrom l D cI cZ cS a c0 b c1 hm1 hm2
set_option maxHeartbeats 4000000 in
set_option maxRecDepth 100000 in
theorem c_X0_stateAt (l : Launch) (D : va_G) (cI cZ cS : ClassId) (ho0 ho1 : Nat) (old sz : Int32) (ha : Nat → Nat → Nat) (p1 : Int32) (ho : 0 ≤ old.toInt ∧ old.toInt ≤ 5) (hp1 : 0 ≤ p1.toInt ∧ p1.toInt ≤ 6) : xMr l yX0_stateAt cX0_stateAt 3 (some (.object "MarchMetres$State")) ({ frames := 2, cells := 0, slots := 0, locals := 43 } : Room) D (xTy cI cZ cS) [.ref ho0, .int p1] [(ho0, .inr (0, [.ref ho1, .int old, .int sz])), (ho1, .inl (cS, 6, .inr (.inr (.inr (.inr (stA ha))))))] (fun (u : (Nat)) => u = ((old.toInt + p1.toInt) % 6).toNat) (fun (u : (Nat)) => ha u 0) (fun (u : (Nat)) => [(ho0, .inr (0, [.ref ho1, .int old, .int sz])), (ho1, .inl (cS, 6, .inr (.inr (.inr (.inr (stA ha))))))]) := by
  refine xk_bodyr (by decide) (Nat.le_of_ble_eq_true rfl) ?_
  intro p e s m below meth c A ls args Q hx hb hr hts hown hlocks hml hin hK hP hD hS hA hN hZ hl hQ
  have hl : lv_has ls 3 [(0, .ref ho0), (1, .int p1)] := hl
  refine lv_aload_n hx hb dX0_stateAt_0 rfl (lv_at hl 0 rfl) ?_
  refine lv_iload_n hx hb dX0_stateAt_1 rfl (lv_at hl 1 rfl) ?_
  refine xk_Vi (As := [.int p1]) (rest := []) hx hb hml hown hts hK hN hZ hP hD hS hA mb_X0_placeOf mw_2_67 mw_2_69 mw_0_1 (c_X0_placeOf l D cI cZ cS ho0 ho1 old sz p1 (by first | omega | decide | assumption) (by first | omega | decide | assumption)) [0] 0 0 rfl rfl (by decide) rfl (fun _ => by simp only [List.map]) (by decide) (by decide) rfl hl.1 rfl (Nat.le_of_ble_eq_true rfl) dX0_stateAt_2 ⟨Nat.zero_le _, Nat.zero_le _⟩ (fun r2 _ H locs hw hP hD hS => ?_)
  have hP : va_P D vwCl [(ho0, .inr (0, [.ref ho1, .int old, .int sz])), (ho1, .inl (cS, 6, .inr (.inr (.inr (.inr (stA ha))))))] H := hP
  have hD : va_D A [(ho0, .inr (0, [.ref ho1, .int old, .int sz])), (ho1, .inl (cS, 6, .inr (.inr (.inr (.inr (stA ha))))))] := hD
  have p2 : r2.toInt = (old.toInt + p1.toInt) % 6 := hw
  refine lv_istore_n (lv' := [(2, .int r2), (0, .ref ho0), (1, .int p1)]) hx hb dX0_stateAt_5 rfl hl (by decide) rfl (fun ls hl => ?_)
  refine lv_iload_n hx hb dX0_stateAt_6 rfl (lv_at hl 0 rfl) ?_
  refine lv_if_lt (tgt := 25) hx hb dX0_stateAt_7 (by decide) (fun c7 => ?_) (fun c7 => ?_)
  · have t7 : r2.toInt < 0 := xi_lt rfl (by decide) c7
    omega
  · have t7 : 0 ≤ r2.toInt := xi_nlt rfl (by decide) c7
    refine lv_iload_n hx hb dX0_stateAt_10 rfl (lv_at hl 0 rfl) ?_
    refine lv_bipush (v := 6) hx hb dX0_stateAt_11 (by decide) ?_
    refine lv_icmp_ge (tgt := 25) hx hb dX0_stateAt_13 (by decide) (fun c13 => ?_) (fun c13 => ?_)
    · have t13 : 6 ≤ r2.toInt := xi_le (by decide) rfl c13
      omega
    · have t13 : r2.toInt < 6 := xi_nle (by decide) rfl c13
      refine lv_aload_n hx hb dX0_stateAt_16 rfl (lv_at hl 1 rfl) ?_
      refine va_get (D := D) (ci := 0) (v := .ref ho1) (C := RX0) (T := TX0) (N := 3) hx hb hts xin0 hown hK hP 0 rfl rfl 0 (by decide) (hts _ (List.mem_cons_of_mem _ mw_1_172)) (fun _ h9 => h9) rfl dX0_stateAt_17 ?_
      refine lv_iload_n hx hb dX0_stateAt_20 rfl (lv_at hl 0 rfl) ?_
      refine va_aldq hx hb hK hP 1 2 rfl rfl (xi_in (by omega) (by omega)) dX0_stateAt_21 ?_
      refine xk_stk (st' := [.ref (ha (r2.toInt.toNat) 0)]) rfl ?_
      refine lv_goto (tgt := 26) hx hb dX0_stateAt_22 (by decide) ?_
      exact xk_retr (a := (ha (r2.toInt.toNat) 0)) r2.toInt.toNat hx hb hr hlocks hP (by rw [p2]) rfl hS dX0_stateAt_26 hQ

set_option maxHeartbeats 4000000 in
set_option maxRecDepth 100000 in
theorem c_X0_record (l : Launch) (D : va_G) (cI cZ cS : ClassId) (ho0 ho1 : Nat) (old sz : Int32) (ha : Nat → Nat → Nat) (cs : Nat → Nat → Nat → Int32) (a : Nat → Nat) (c0 : Nat → Nat → Int32) (ho : 0 ≤ old.toInt ∧ old.toInt ≤ 5) (hsz : 0 ≤ sz.toInt ∧ sz.toInt ≤ 6) (hm1 : ∀ j : Nat, j < 120 → c0 3 j = 0 ∨ c0 3 j = 1) (hm2 : ∀ j : Nat, j < 12 → c0 6 j = 0 ∨ c0 6 j = 1) : xMv l yX0_record cX0_record 3 none ({ frames := 3, cells := 0, slots := 0, locals := 65 } : Room) D (xTy cI cZ cS) [.ref ho0, .ref (a 0)] ([(ho0, .inr (0, [.ref ho1, .int old, .int sz])), (ho1, .inl (cS, 6, .inr (.inr (.inr (.inr (stA ha))))))] ++ (hsW cI cZ ha cs ++ stW cI cZ a c0)) (fun (_ : Unit) => True) (fun (_ : Unit) => ([(ho0, .inr (0, [.ref ho1, .int (oldR old sz), .int (szR sz)])), (ho1, .inl (cS, 6, .inr (.inr (.inr (.inr (stA ha))))))] ++ (hsW cI cZ ha (recC cs c0 (jR old sz)) ++ stW cI cZ a c0))) := by
  refine xk_bodyv (by decide) (Nat.le_of_ble_eq_true rfl) ?_
  intro p e s m below meth c A ls args Q hx hb hr hts hown hlocks hml hin hK hP hD hS hA hN hZ hl hQ
  have hl : lv_has ls 3 [(0, .ref ho0), (1, .ref (a 0))] := hl
  refine lv_aload_n hx hb dX0_record_0 rfl (lv_at hl 0 rfl) ?_
  refine va_get (D := D) (ci := 0) (v := .int sz) (C := RX0) (T := TX0) (N := 3) hx hb hts xin0 hown hK hP 0 rfl rfl 2 (by decide) (hts _ (List.mem_cons_of_mem _ mw_1_174)) (fun _ h9 => h9) rfl dX0_record_1 ?_
  refine lv_bipush (v := 6) hx hb dX0_record_4 (by decide) ?_
  refine lv_icmp_ne (tgt := 28) hx hb dX0_record_6 (by decide) (fun c6 => ?_) (fun c6 => ?_)
  · have t6 : ¬ sz.toInt = 6 := xi_ne rfl (by decide) c6
    have d6 : ¬ sz = 6 := c6
    refine lv_aload_n hx hb dX0_record_28 rfl (lv_at hl 0 rfl) ?_
    refine lv_aload_n hx hb dX0_record_29 rfl (lv_at hl 0 rfl) ?_
    refine va_get (D := D) (ci := 0) (v := .int sz) (C := RX0) (T := TX0) (N := 3) hx hb hts xin0 hown hK hP 0 rfl rfl 2 (by decide) (hts _ (List.mem_cons_of_mem _ mw_1_174)) (fun _ h9 => h9) rfl dX0_record_30 ?_
    refine xk_Vr (As := [.int sz]) (rest := []) hx hb hml hown hts hK hN hZ hP hD hS hA mb_X0_stateAt mw_2_63 mw_2_65 mw_0_0 (c_X0_stateAt l D cI cZ cS ho0 ho1 old sz ha sz (by first | omega | decide | assumption) (by first | omega | decide | assumption)) [0, 1] 0 0 rfl rfl (by decide) rfl (fun _ => by simp only [List.map]) (by decide) (by decide) rfl hl.1 rfl (Nat.le_of_ble_eq_true rfl) dX0_record_33 ⟨Nat.zero_le _, Nat.zero_le _⟩ (fun u33 H locs hw hP hD hS => ?_)
    obtain ⟨w33_0, rfl⟩ : ∃ z, z = u33 := ⟨_, rfl⟩
    have hP : va_P D vwCl ([(ho0, .inr (0, [.ref ho1, .int old, .int sz])), (ho1, .inl (cS, 6, .inr (.inr (.inr (.inr (stA ha))))))] ++ (hsW cI cZ ha cs ++ stW cI cZ a c0)) H := hP
    have hD : va_D A ([(ho0, .inr (0, [.ref ho1, .int old, .int sz])), (ho1, .inl (cS, 6, .inr (.inr (.inr (.inr (stA ha))))))] ++ (hsW cI cZ ha cs ++ stW cI cZ a c0)) := hD
    have p33 : w33_0 = ((old.toInt + sz.toInt) % 6).toNat := hw
    refine lv_astore_n (lv' := [(2, .ref (ha w33_0 0)), (0, .ref ho0), (1, .ref (a 0))]) hx hb dX0_record_36 rfl hl (by decide) rfl (fun ls hl => ?_)
    refine lv_aload_n hx hb dX0_record_37 rfl (lv_at hl 0 rfl) ?_
    refine lv_ifnull hx hb dX0_record_38 ?_
    have hk6 : w33_0 < 6 := by omega
    refine lv_aload_n hx hb dX0_record_41 rfl (lv_at hl 0 rfl) ?_
    refine lv_aload_n hx hb dX0_record_42 rfl (lv_at hl 2 rfl) ?_
    refine xk_Vv (As := [.ref (a 0)]) (rest := []) hx hb hml hown hts hK hN hZ (xg_P hP (hs_inC cI cZ ha cs [(ho0, .inr (0, [.ref ho1, .int old, .int sz])), (ho1, .inl (cS, 6, .inr (.inr (.inr (.inr (stA ha))))))] (stW cI cZ a c0) (k := w33_0) hk6)) (xg_D hD (hs_inC cI cZ ha cs [(ho0, .inr (0, [.ref ho1, .int old, .int sz])), (ho1, .inl (cS, 6, .inr (.inr (.inr (.inr (stA ha))))))] (stW cI cZ a c0) (k := w33_0) hk6)) hS hA mb_X6_copyFrom mw_2_74 mw_2_75 mw_2_76 (c_X6_copyS l D cI cZ cS (ha w33_0) (cs w33_0) a c0 hm1 hm2) (List.range ((stW cI cZ (ha w33_0) (cs w33_0) ++ (stW cI cZ a c0)) : va_W).length) 0 6 rfl rfl (xg_ndr _) (xg_range _ _) (fun _ => by simp only [List.map_append, List.map_cons, List.map_nil, stW_f]) (by decide) (by decide) rfl hl.1 rfl (Nat.le_of_ble_eq_true rfl) dX0_record_43 ⟨Nat.zero_le _, Nat.zero_le _⟩ (fun _ H locs hw hP hD hS => ?_)
    have hP : va_P D vwCl ((stW cI cZ (ha w33_0) c0 ++ (stW cI cZ a c0)) ++ ([(ho0, .inr (0, [.ref ho1, .int old, .int sz])), (ho1, .inl (cS, 6, .inr (.inr (.inr (.inr (stA ha))))))] ++ oth6 (fun i => stW cI cZ (ha i) (cs i)) w33_0)) H := xk_P hP (xg_set (by simp only [List.map_append, List.map_cons, List.map_nil, stW_f]))
    have hD : va_D A ((stW cI cZ (ha w33_0) c0 ++ (stW cI cZ a c0)) ++ ([(ho0, .inr (0, [.ref ho1, .int old, .int sz])), (ho1, .inl (cS, 6, .inr (.inr (.inr (.inr (stA ha))))))] ++ oth6 (fun i => stW cI cZ (ha i) (cs i)) w33_0)) := xk_D hD (xg_set (by simp only [List.map_append, List.map_cons, List.map_nil, stW_f]))
    have hP := xg_P hP (hs_outC cI cZ ha cs c0 [(ho0, .inr (0, [.ref ho1, .int old, .int sz])), (ho1, .inl (cS, 6, .inr (.inr (.inr (.inr (stA ha))))))] (stW cI cZ a c0) (k := w33_0) hk6)
    have hD := xg_D hD (hs_outC cI cZ ha cs c0 [(ho0, .inr (0, [.ref ho1, .int old, .int sz])), (ho1, .inl (cS, 6, .inr (.inr (.inr (.inr (stA ha))))))] (stW cI cZ a c0) (k := w33_0) hk6)
    have hP : va_P D vwCl ([(ho0, .inr (0, [.ref ho1, .int old, .int sz])), (ho1, .inl (cS, 6, .inr (.inr (.inr (.inr (stA ha))))))] ++ (hsW cI cZ ha (recC cs c0 w33_0) ++ stW cI cZ a c0)) H := hP
    have hD : va_D A ([(ho0, .inr (0, [.ref ho1, .int old, .int sz])), (ho1, .inl (cS, 6, .inr (.inr (.inr (.inr (stA ha))))))] ++ (hsW cI cZ ha (recC cs c0 w33_0) ++ stW cI cZ a c0)) := hD
    refine lv_aload_n hx hb dX0_record_46 rfl (lv_at hl 1 rfl) ?_
    refine lv_dup hx hb dX0_record_47 rfl ?_
    refine va_get (D := D) (ci := 0) (v := .int sz) (C := RX0) (T := TX0) (N := 3) hx hb hts xin0 hown hK hP 0 rfl rfl 2 (by decide) (hts _ (List.mem_cons_of_mem _ mw_1_174)) (fun _ h9 => h9) rfl dX0_record_48 ?_
    refine lv_iconst (v := 1) hx hb dX0_record_51 (by decide) ?_
    refine lv_iadd hx hb dX0_record_52 ?_
    refine lv_topi (fun x52 e52 => ?_)
    have t52 : x52.toInt = sz.toInt + 1 := by rw [e52]; exact xi_add rfl (by decide) (by omega) (by omega)
    refine va_put (D := D) (ci := 0) (v := .int x52) (ty := .int) (C := RX0) (T := TX0) (N := 3) hx hb hts xin0 tyX0 tyX0_ok nmX0 hown hK hP hD hS 0 rfl rfl 2 (by decide) (hts _ (List.mem_cons_of_mem _ mw_1_174)) (fun _ h9 => h9) rfl (by decide +kernel) rfl rfl (Nat.le_of_ble_eq_true rfl) dX0_record_53 (fun H locs hP hD hS => ?_)
    have hP : va_P D vwCl ([(ho0, .inr (0, [.ref ho1, .int old, .int x52])), (ho1, .inl (cS, 6, .inr (.inr (.inr (.inr (stA ha))))))] ++ (hsW cI cZ ha (recC cs c0 w33_0) ++ stW cI cZ a c0)) H := hP
    have hD : va_D A ([(ho0, .inr (0, [.ref ho1, .int old, .int x52])), (ho1, .inl (cS, 6, .inr (.inr (.inr (.inr (stA ha))))))] ++ (hsW cI cZ ha (recC cs c0 w33_0) ++ stW cI cZ a c0)) := hD
    have hj : jR old sz = w33_0 := by unfold jR; rw [if_neg (by omega)]; omega
    have hs1 : szR sz = x52 := by unfold szR; rw [if_neg (by omega), e52]
    have ho1b : oldR old sz = old := by unfold oldR; rw [if_neg (by omega)]
    exact xk_retv () hx hb hr hlocks (xk_P hP (by rw [ho1b, hs1, hj])) (by trivial) hS dX0_record_56 hQ
  · have t6 : sz.toInt = 6 := xi_eq rfl (by decide) c6
    have d6 : sz = 6 := c6
    refine lv_aload_n hx hb dX0_record_9 rfl (lv_at hl 0 rfl) ?_
    refine lv_aload_n hx hb dX0_record_10 rfl (lv_at hl 0 rfl) ?_
    refine lv_iconst (v := 1) hx hb dX0_record_11 (by decide) ?_
    refine xk_Vi (As := [.int 1]) (rest := [.ref ho0]) hx hb hml hown hts hK hN hZ hP hD hS hA mb_X0_placeOf mw_2_67 mw_2_69 mw_0_1 (c_X0_placeOf l D cI cZ cS ho0 ho1 old sz (1 : Int32) (by first | omega | decide | assumption) (by first | omega | decide | assumption)) [0] 0 0 rfl rfl (by decide) rfl (fun _ => by simp only [List.map]) (by decide) (by decide) rfl hl.1 rfl (Nat.le_of_ble_eq_true rfl) dX0_record_12 ⟨Nat.zero_le _, Nat.zero_le _⟩ (fun r12 _ H locs hw hP hD hS => ?_)
    have hP : va_P D vwCl ([(ho0, .inr (0, [.ref ho1, .int old, .int sz])), (ho1, .inl (cS, 6, .inr (.inr (.inr (.inr (stA ha))))))] ++ (hsW cI cZ ha cs ++ stW cI cZ a c0)) H := hP
    have hD : va_D A ([(ho0, .inr (0, [.ref ho1, .int old, .int sz])), (ho1, .inl (cS, 6, .inr (.inr (.inr (.inr (stA ha))))))] ++ (hsW cI cZ ha cs ++ stW cI cZ a c0)) := hD
    have p12 : r12.toInt = (old.toInt + 1) % 6 := hw
    refine va_put (D := D) (ci := 0) (v := .int r12) (ty := .int) (C := RX0) (T := TX0) (N := 3) hx hb hts xin0 tyX0 tyX0_ok nmX0 hown hK hP hD hS 0 rfl rfl 1 (by decide) (hts _ (List.mem_cons_of_mem _ mw_1_173)) (fun _ h9 => h9) rfl (by decide +kernel) rfl rfl (Nat.le_of_ble_eq_true rfl) dX0_record_15 (fun H locs hP hD hS => ?_)
    have hP : va_P D vwCl ([(ho0, .inr (0, [.ref ho1, .int r12, .int sz])), (ho1, .inl (cS, 6, .inr (.inr (.inr (.inr (stA ha))))))] ++ (hsW cI cZ ha cs ++ stW cI cZ a c0)) H := hP
    have hD : va_D A ([(ho0, .inr (0, [.ref ho1, .int r12, .int sz])), (ho1, .inl (cS, 6, .inr (.inr (.inr (.inr (stA ha))))))] ++ (hsW cI cZ ha cs ++ stW cI cZ a c0)) := hD
    refine lv_aload_n hx hb dX0_record_18 rfl (lv_at hl 0 rfl) ?_
    refine lv_dup hx hb dX0_record_19 rfl ?_
    refine va_get (D := D) (ci := 0) (v := .int sz) (C := RX0) (T := TX0) (N := 3) hx hb hts xin0 hown hK hP 0 rfl rfl 2 (by decide) (hts _ (List.mem_cons_of_mem _ mw_1_174)) (fun _ h9 => h9) rfl dX0_record_20 ?_
    refine lv_iconst (v := 1) hx hb dX0_record_23 (by decide) ?_
    refine lv_isub hx hb dX0_record_24 ?_
    refine lv_topi (fun x24 e24 => ?_)
    have t24 : x24.toInt = sz.toInt - 1 := by rw [e24]; exact xi_sub rfl (by decide) (by omega) (by omega)
    refine va_put (D := D) (ci := 0) (v := .int x24) (ty := .int) (C := RX0) (T := TX0) (N := 3) hx hb hts xin0 tyX0 tyX0_ok nmX0 hown hK hP hD hS 0 rfl rfl 2 (by decide) (hts _ (List.mem_cons_of_mem _ mw_1_174)) (fun _ h9 => h9) rfl (by decide +kernel) rfl rfl (Nat.le_of_ble_eq_true rfl) dX0_record_25 (fun H locs hP hD hS => ?_)
    have hP : va_P D vwCl ([(ho0, .inr (0, [.ref ho1, .int r12, .int x24])), (ho1, .inl (cS, 6, .inr (.inr (.inr (.inr (stA ha))))))] ++ (hsW cI cZ ha cs ++ stW cI cZ a c0)) H := hP
    have hD : va_D A ([(ho0, .inr (0, [.ref ho1, .int r12, .int x24])), (ho1, .inl (cS, 6, .inr (.inr (.inr (.inr (stA ha))))))] ++ (hsW cI cZ ha cs ++ stW cI cZ a c0)) := hD
    refine lv_aload_n hx hb dX0_record_28 rfl (lv_at hl 0 rfl) ?_
    refine lv_aload_n hx hb dX0_record_29 rfl (lv_at hl 0 rfl) ?_
    refine va_get (D := D) (ci := 0) (v := .int x24) (C := RX0) (T := TX0) (N := 3) hx hb hts xin0 hown hK hP 0 rfl rfl 2 (by decide) (hts _ (List.mem_cons_of_mem _ mw_1_174)) (fun _ h9 => h9) rfl dX0_record_30 ?_
    refine xk_Vr (As := [.int x24]) (rest := []) hx hb hml hown hts hK hN hZ hP hD hS hA mb_X0_stateAt mw_2_63 mw_2_65 mw_0_0 (c_X0_stateAt l D cI cZ cS ho0 ho1 r12 x24 ha x24 (by first | omega | decide | assumption) (by first | omega | decide | assumption)) [0, 1] 0 0 rfl rfl (by decide) rfl (fun _ => by simp only [List.map]) (by decide) (by decide) rfl hl.1 rfl (Nat.le_of_ble_eq_true rfl) dX0_record_33 ⟨Nat.zero_le _, Nat.zero_le _⟩ (fun u33 H locs hw hP hD hS => ?_)
    obtain ⟨w33_0, rfl⟩ : ∃ z, z = u33 := ⟨_, rfl⟩
    have hP : va_P D vwCl ([(ho0, .inr (0, [.ref ho1, .int r12, .int x24])), (ho1, .inl (cS, 6, .inr (.inr (.inr (.inr (stA ha))))))] ++ (hsW cI cZ ha cs ++ stW cI cZ a c0)) H := hP
    have hD : va_D A ([(ho0, .inr (0, [.ref ho1, .int r12, .int x24])), (ho1, .inl (cS, 6, .inr (.inr (.inr (.inr (stA ha))))))] ++ (hsW cI cZ ha cs ++ stW cI cZ a c0)) := hD
    have p33 : w33_0 = ((r12.toInt + x24.toInt) % 6).toNat := hw
    refine lv_astore_n (lv' := [(2, .ref (ha w33_0 0)), (0, .ref ho0), (1, .ref (a 0))]) hx hb dX0_record_36 rfl hl (by decide) rfl (fun ls hl => ?_)
    refine lv_aload_n hx hb dX0_record_37 rfl (lv_at hl 0 rfl) ?_
    refine lv_ifnull hx hb dX0_record_38 ?_
    have hk6 : w33_0 < 6 := by omega
    refine lv_aload_n hx hb dX0_record_41 rfl (lv_at hl 0 rfl) ?_
    refine lv_aload_n hx hb dX0_record_42 rfl (lv_at hl 2 rfl) ?_
    refine xk_Vv (As := [.ref (a 0)]) (rest := []) hx hb hml hown hts hK hN hZ (xg_P hP (hs_inC cI cZ ha cs [(ho0, .inr (0, [.ref ho1, .int r12, .int x24])), (ho1, .inl (cS, 6, .inr (.inr (.inr (.inr (stA ha))))))] (stW cI cZ a c0) (k := w33_0) hk6)) (xg_D hD (hs_inC cI cZ ha cs [(ho0, .inr (0, [.ref ho1, .int r12, .int x24])), (ho1, .inl (cS, 6, .inr (.inr (.inr (.inr (stA ha))))))] (stW cI cZ a c0) (k := w33_0) hk6)) hS hA mb_X6_copyFrom mw_2_74 mw_2_75 mw_2_76 (c_X6_copyS l D cI cZ cS (ha w33_0) (cs w33_0) a c0 hm1 hm2) (List.range ((stW cI cZ (ha w33_0) (cs w33_0) ++ (stW cI cZ a c0)) : va_W).length) 0 6 rfl rfl (xg_ndr _) (xg_range _ _) (fun _ => by simp only [List.map_append, List.map_cons, List.map_nil, stW_f]) (by decide) (by decide) rfl hl.1 rfl (Nat.le_of_ble_eq_true rfl) dX0_record_43 ⟨Nat.zero_le _, Nat.zero_le _⟩ (fun _ H locs hw hP hD hS => ?_)
    have hP : va_P D vwCl ((stW cI cZ (ha w33_0) c0 ++ (stW cI cZ a c0)) ++ ([(ho0, .inr (0, [.ref ho1, .int r12, .int x24])), (ho1, .inl (cS, 6, .inr (.inr (.inr (.inr (stA ha))))))] ++ oth6 (fun i => stW cI cZ (ha i) (cs i)) w33_0)) H := xk_P hP (xg_set (by simp only [List.map_append, List.map_cons, List.map_nil, stW_f]))
    have hD : va_D A ((stW cI cZ (ha w33_0) c0 ++ (stW cI cZ a c0)) ++ ([(ho0, .inr (0, [.ref ho1, .int r12, .int x24])), (ho1, .inl (cS, 6, .inr (.inr (.inr (.inr (stA ha))))))] ++ oth6 (fun i => stW cI cZ (ha i) (cs i)) w33_0)) := xk_D hD (xg_set (by simp only [List.map_append, List.map_cons, List.map_nil, stW_f]))
    have hP := xg_P hP (hs_outC cI cZ ha cs c0 [(ho0, .inr (0, [.ref ho1, .int r12, .int x24])), (ho1, .inl (cS, 6, .inr (.inr (.inr (.inr (stA ha))))))] (stW cI cZ a c0) (k := w33_0) hk6)
    have hD := xg_D hD (hs_outC cI cZ ha cs c0 [(ho0, .inr (0, [.ref ho1, .int r12, .int x24])), (ho1, .inl (cS, 6, .inr (.inr (.inr (.inr (stA ha))))))] (stW cI cZ a c0) (k := w33_0) hk6)
    have hP : va_P D vwCl ([(ho0, .inr (0, [.ref ho1, .int r12, .int x24])), (ho1, .inl (cS, 6, .inr (.inr (.inr (.inr (stA ha))))))] ++ (hsW cI cZ ha (recC cs c0 w33_0) ++ stW cI cZ a c0)) H := hP
    have hD : va_D A ([(ho0, .inr (0, [.ref ho1, .int r12, .int x24])), (ho1, .inl (cS, 6, .inr (.inr (.inr (.inr (stA ha))))))] ++ (hsW cI cZ ha (recC cs c0 w33_0) ++ stW cI cZ a c0)) := hD
    refine lv_aload_n hx hb dX0_record_46 rfl (lv_at hl 1 rfl) ?_
    refine lv_dup hx hb dX0_record_47 rfl ?_
    refine va_get (D := D) (ci := 0) (v := .int x24) (C := RX0) (T := TX0) (N := 3) hx hb hts xin0 hown hK hP 0 rfl rfl 2 (by decide) (hts _ (List.mem_cons_of_mem _ mw_1_174)) (fun _ h9 => h9) rfl dX0_record_48 ?_
    refine lv_iconst (v := 1) hx hb dX0_record_51 (by decide) ?_
    refine lv_iadd hx hb dX0_record_52 ?_
    refine lv_topi (fun x52 e52 => ?_)
    have t52 : x52.toInt = x24.toInt + 1 := by rw [e52]; exact xi_add rfl (by decide) (by omega) (by omega)
    refine va_put (D := D) (ci := 0) (v := .int x52) (ty := .int) (C := RX0) (T := TX0) (N := 3) hx hb hts xin0 tyX0 tyX0_ok nmX0 hown hK hP hD hS 0 rfl rfl 2 (by decide) (hts _ (List.mem_cons_of_mem _ mw_1_174)) (fun _ h9 => h9) rfl (by decide +kernel) rfl rfl (Nat.le_of_ble_eq_true rfl) dX0_record_53 (fun H locs hP hD hS => ?_)
    have hP : va_P D vwCl ([(ho0, .inr (0, [.ref ho1, .int r12, .int x52])), (ho1, .inl (cS, 6, .inr (.inr (.inr (.inr (stA ha))))))] ++ (hsW cI cZ ha (recC cs c0 w33_0) ++ stW cI cZ a c0)) H := hP
    have hD : va_D A ([(ho0, .inr (0, [.ref ho1, .int r12, .int x52])), (ho1, .inl (cS, 6, .inr (.inr (.inr (.inr (stA ha))))))] ++ (hsW cI cZ ha (recC cs c0 w33_0) ++ stW cI cZ a c0)) := hD
    have hj : jR old sz = w33_0 := by unfold jR; rw [if_pos (by omega)]; omega
    have hs1 : szR sz = x52 := by unfold szR; rw [if_pos (by omega)]; exact xi_ext (by rw [show (6 : Int32).toInt = 6 from by decide]; omega)
    have ho1b : oldR old sz = r12 := by unfold oldR; rw [if_pos (by omega)]; exact oldR_e ho (by rw [p12])
    exact xk_retv () hx hb hr hlocks (xk_P hP (by rw [ho1b, hs1, hj])) (by trivial) hS dX0_record_56 hQ

set_option maxHeartbeats 4000000 in
set_option maxRecDepth 100000 in
theorem c_X0_takeBackInto (l : Launch) (D : va_G) (cI cZ cS : ClassId) (ho0 ho1 : Nat) (old sz : Int32) (ha : Nat → Nat → Nat) (cs : Nat → Nat → Nat → Int32) (a : Nat → Nat) (c0 : Nat → Nat → Int32) (ho : 0 ≤ old.toInt ∧ old.toInt ≤ 5) (hsz : 1 ≤ sz.toInt ∧ sz.toInt ≤ 6) (hm1 : ∀ i : Nat, i < 6 → ∀ j : Nat, j < 120 → cs i 3 j = 0 ∨ cs i 3 j = 1) (hm2 : ∀ i : Nat, i < 6 → ∀ j : Nat, j < 12 → cs i 6 j = 0 ∨ cs i 6 j = 1) : xMv l yX0_takeBackInto cX0_takeBackInto 3 none ({ frames := 3, cells := 0, slots := 0, locals := 65 } : Room) D (xTy cI cZ cS) [.ref ho0, .ref (a 0)] ([(ho0, .inr (0, [.ref ho1, .int old, .int sz])), (ho1, .inl (cS, 6, .inr (.inr (.inr (.inr (stA ha))))))] ++ (hsW cI cZ ha cs ++ stW cI cZ a c0)) (fun (_ : Unit) => True) (fun (_ : Unit) => ([(ho0, .inr (0, [.ref ho1, .int old, .int (sz - 1)])), (ho1, .inl (cS, 6, .inr (.inr (.inr (.inr (stA ha))))))] ++ (hsW cI cZ ha cs ++ stW cI cZ a (cs (tbJ old sz))))) := by
  refine xk_bodyv (by decide) (Nat.le_of_ble_eq_true rfl) ?_
  intro p e s m below meth c A ls args Q hx hb hr hts hown hlocks hml hin hK hP hD hS hA hN hZ hl hQ
  have hl : lv_has ls 3 [(0, .ref ho0), (1, .ref (a 0))] := hl
  refine lv_aload_n hx hb dX0_takeBackInto_0 rfl (lv_at hl 0 rfl) ?_
  refine va_get (D := D) (ci := 0) (v := .int sz) (C := RX0) (T := TX0) (N := 3) hx hb hts xin0 hown hK hP 0 rfl rfl 2 (by decide) (hts _ (List.mem_cons_of_mem _ mw_1_174)) (fun _ h9 => h9) rfl dX0_takeBackInto_1 ?_
  refine lv_if_gt (tgt := 8) hx hb dX0_takeBackInto_4 (by decide) (fun c4 => ?_) (fun c4 => ?_)
  · have t4 : 0 < sz.toInt := xi_lt (by decide) rfl c4
    refine lv_aload_n hx hb dX0_takeBackInto_8 rfl (lv_at hl 0 rfl) ?_
    refine lv_dup hx hb dX0_takeBackInto_9 rfl ?_
    refine va_get (D := D) (ci := 0) (v := .int sz) (C := RX0) (T := TX0) (N := 3) hx hb hts xin0 hown hK hP 0 rfl rfl 2 (by decide) (hts _ (List.mem_cons_of_mem _ mw_1_174)) (fun _ h9 => h9) rfl dX0_takeBackInto_10 ?_
    refine lv_iconst (v := 1) hx hb dX0_takeBackInto_13 (by decide) ?_
    refine lv_isub hx hb dX0_takeBackInto_14 ?_
    refine lv_topi (fun x14 e14 => ?_)
    have t14 : x14.toInt = sz.toInt - 1 := by rw [e14]; exact xi_sub rfl (by decide) (by omega) (by omega)
    refine va_put (D := D) (ci := 0) (v := .int x14) (ty := .int) (C := RX0) (T := TX0) (N := 3) hx hb hts xin0 tyX0 tyX0_ok nmX0 hown hK hP hD hS 0 rfl rfl 2 (by decide) (hts _ (List.mem_cons_of_mem _ mw_1_174)) (fun _ h9 => h9) rfl (by decide +kernel) rfl rfl (Nat.le_of_ble_eq_true rfl) dX0_takeBackInto_15 (fun H locs hP hD hS => ?_)
    have hP : va_P D vwCl ([(ho0, .inr (0, [.ref ho1, .int old, .int x14])), (ho1, .inl (cS, 6, .inr (.inr (.inr (.inr (stA ha))))))] ++ (hsW cI cZ ha cs ++ stW cI cZ a c0)) H := hP
    have hD : va_D A ([(ho0, .inr (0, [.ref ho1, .int old, .int x14])), (ho1, .inl (cS, 6, .inr (.inr (.inr (.inr (stA ha))))))] ++ (hsW cI cZ ha cs ++ stW cI cZ a c0)) := hD
    refine lv_aload_n hx hb dX0_takeBackInto_18 rfl (lv_at hl 0 rfl) ?_
    refine lv_aload_n hx hb dX0_takeBackInto_19 rfl (lv_at hl 0 rfl) ?_
    refine va_get (D := D) (ci := 0) (v := .int x14) (C := RX0) (T := TX0) (N := 3) hx hb hts xin0 hown hK hP 0 rfl rfl 2 (by decide) (hts _ (List.mem_cons_of_mem _ mw_1_174)) (fun _ h9 => h9) rfl dX0_takeBackInto_20 ?_
    refine xk_Vr (As := [.int x14]) (rest := []) hx hb hml hown hts hK hN hZ hP hD hS hA mb_X0_stateAt mw_2_63 mw_2_65 mw_0_0 (c_X0_stateAt l D cI cZ cS ho0 ho1 old x14 ha x14 (by first | omega | decide | assumption) (by first | omega | decide | assumption)) [0, 1] 0 0 rfl rfl (by decide) rfl (fun _ => by simp only [List.map]) (by decide) (by decide) rfl hl.1 rfl (Nat.le_of_ble_eq_true rfl) dX0_takeBackInto_23 ⟨Nat.zero_le _, Nat.zero_le _⟩ (fun u23 H locs hw hP hD hS => ?_)
    obtain ⟨w23_0, rfl⟩ : ∃ z, z = u23 := ⟨_, rfl⟩
    have hP : va_P D vwCl ([(ho0, .inr (0, [.ref ho1, .int old, .int x14])), (ho1, .inl (cS, 6, .inr (.inr (.inr (.inr (stA ha))))))] ++ (hsW cI cZ ha cs ++ stW cI cZ a c0)) H := hP
    have hD : va_D A ([(ho0, .inr (0, [.ref ho1, .int old, .int x14])), (ho1, .inl (cS, 6, .inr (.inr (.inr (.inr (stA ha))))))] ++ (hsW cI cZ ha cs ++ stW cI cZ a c0)) := hD
    have p23 : w23_0 = ((old.toInt + x14.toInt) % 6).toNat := hw
    refine lv_astore_n (lv' := [(2, .ref (ha w23_0 0)), (0, .ref ho0), (1, .ref (a 0))]) hx hb dX0_takeBackInto_26 rfl hl (by decide) rfl (fun ls hl => ?_)
    refine lv_aload_n hx hb dX0_takeBackInto_27 rfl (lv_at hl 0 rfl) ?_
    refine lv_ifnull hx hb dX0_takeBackInto_28 ?_
    have hk6 : w23_0 < 6 := by omega
    refine lv_aload_n hx hb dX0_takeBackInto_31 rfl (lv_at hl 2 rfl) ?_
    refine lv_aload_n hx hb dX0_takeBackInto_32 rfl (lv_at hl 0 rfl) ?_
    refine xk_Vv (As := [.ref (ha w23_0 0)]) (rest := []) hx hb hml hown hts hK hN hZ (xg_P hP (hs_inT cI cZ ha cs [(ho0, .inr (0, [.ref ho1, .int old, .int x14])), (ho1, .inl (cS, 6, .inr (.inr (.inr (.inr (stA ha))))))] (stW cI cZ a c0) (k := w23_0) hk6)) (xg_D hD (hs_inT cI cZ ha cs [(ho0, .inr (0, [.ref ho1, .int old, .int x14])), (ho1, .inl (cS, 6, .inr (.inr (.inr (.inr (stA ha))))))] (stW cI cZ a c0) (k := w23_0) hk6)) hS hA mb_X6_copyFrom mw_2_74 mw_2_75 mw_2_76 (c_X6_copyS l D cI cZ cS a c0 (ha w23_0) (cs w23_0) (hm1 _ hk6) (hm2 _ hk6)) (List.range (((stW cI cZ a c0) ++ stW cI cZ (ha w23_0) (cs w23_0)) : va_W).length) 0 6 rfl rfl (xg_ndr _) (xg_range _ _) (fun _ => by simp only [List.map_append, List.map_cons, List.map_nil, stW_f]) (by decide) (by decide) rfl hl.1 rfl (Nat.le_of_ble_eq_true rfl) dX0_takeBackInto_33 ⟨Nat.zero_le _, Nat.zero_le _⟩ (fun _ H locs hw hP hD hS => ?_)
    have hP : va_P D vwCl ((stW cI cZ a (cs w23_0) ++ stW cI cZ (ha w23_0) (cs w23_0)) ++ ([(ho0, .inr (0, [.ref ho1, .int old, .int x14])), (ho1, .inl (cS, 6, .inr (.inr (.inr (.inr (stA ha))))))] ++ oth6 (fun i => stW cI cZ (ha i) (cs i)) w23_0)) H := xk_P hP (xg_set (by simp only [List.map_append, List.map_cons, List.map_nil, stW_f]))
    have hD : va_D A ((stW cI cZ a (cs w23_0) ++ stW cI cZ (ha w23_0) (cs w23_0)) ++ ([(ho0, .inr (0, [.ref ho1, .int old, .int x14])), (ho1, .inl (cS, 6, .inr (.inr (.inr (.inr (stA ha))))))] ++ oth6 (fun i => stW cI cZ (ha i) (cs i)) w23_0)) := xk_D hD (xg_set (by simp only [List.map_append, List.map_cons, List.map_nil, stW_f]))
    have hP := xg_P hP (hs_outT cI cZ ha cs [(ho0, .inr (0, [.ref ho1, .int old, .int x14])), (ho1, .inl (cS, 6, .inr (.inr (.inr (.inr (stA ha))))))] (stW cI cZ a (cs w23_0)) (k := w23_0) hk6)
    have hD := xg_D hD (hs_outT cI cZ ha cs [(ho0, .inr (0, [.ref ho1, .int old, .int x14])), (ho1, .inl (cS, 6, .inr (.inr (.inr (.inr (stA ha))))))] (stW cI cZ a (cs w23_0)) (k := w23_0) hk6)
    have hP : va_P D vwCl ([(ho0, .inr (0, [.ref ho1, .int old, .int x14])), (ho1, .inl (cS, 6, .inr (.inr (.inr (.inr (stA ha))))))] ++ (hsW cI cZ ha cs ++ stW cI cZ a (cs w23_0))) H := hP
    have hD : va_D A ([(ho0, .inr (0, [.ref ho1, .int old, .int x14])), (ho1, .inl (cS, 6, .inr (.inr (.inr (.inr (stA ha))))))] ++ (hsW cI cZ ha cs ++ stW cI cZ a (cs w23_0))) := hD
    have hj : tbJ old sz = w23_0 := by unfold tbJ; omega
    exact xk_retv () hx hb hr hlocks (xk_P hP (by rw [hj, e14])) (by trivial) hS dX0_takeBackInto_36 hQ
  · have t4 : sz.toInt ≤ 0 := xi_nlt (by decide) rfl c4
    omega
