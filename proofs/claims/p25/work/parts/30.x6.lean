set_option maxHeartbeats 4000000 in
set_option maxRecDepth 100000 in
theorem c_J9_floorMod_7cf53 (l : Launch) (D : va_G) (cI cZ cS : ClassId) (p0 p1 : Int32) (hp0 : 0 ≤ p0.toInt ∧ p0.toInt ≤ 12) (hp1 : p1 = 6) : xMi l yJ9_floorMod_7cf53 cJ9_floorMod_7cf53 3 (some .int) ({ frames := 0, cells := 0, slots := 0, locals := 0 } : Room) D (xTy cI cZ cS) [.int p0, .int p1] [] (fun (r : Int32) (_ : Unit) => r.toInt = p0.toInt % 6) (fun (_ : Unit) => []) := by
  refine xk_bodyiF (by decide +kernel) (Nat.le_of_ble_eq_true rfl) ?_
  intro p e s m below meth c A ls args Q hx hb hr hts hown hlocks hml hin hK hP hD hS hA hN hZ hl hQ
  have hl : lv_has ls 3 [(0, .int p0), (1, .int p1)] := hl
  have hp6 : p1.toInt = 6 := by rw [hp1]; decide
  refine lv_iload_n hx hb dJ9_floorMod_7cf53_0 rfl (lv_at hl 0 rfl) ?_
  refine lv_iload_n hx hb dJ9_floorMod_7cf53_1 rfl (lv_at hl 1 rfl) ?_
  refine lv_irem hx hb dJ9_floorMod_7cf53_2 (i_ne0 (by omega)) ?_
  refine lv_topi (fun x2 e2 => ?_)
  have t2 : x2.toInt = p0.toInt % p1.toInt := by rw [e2]; exact xi_rem rfl rfl (by omega) (by omega)
  refine lv_istore_n (lv' := [(2, .int x2), (0, .int p0), (1, .int p1)]) hx hb dJ9_floorMod_7cf53_3 rfl hl (by decide) rfl (fun ls hl => ?_)
  refine lv_iload_n hx hb dJ9_floorMod_7cf53_4 rfl (lv_at hl 1 rfl) ?_
  refine lv_iload_n hx hb dJ9_floorMod_7cf53_5 rfl (lv_at hl 2 rfl) ?_
  refine lv_ixor hx hb dJ9_floorMod_7cf53_6 ?_
  refine lv_topi (fun x6 e6 => ?_)
  have q6 : 0 ≤ (p0 ^^^ p1).toInt := by rw [hp1]; exact xor6 hp0
  rw [← e6] at q6
  refine lv_if_ge (tgt := 18) hx hb dJ9_floorMod_7cf53_7 (by decide) (fun c7 => ?_) (fun c7 => ?_)
  · have t7 : 0 ≤ x6.toInt := xi_le (by decide) rfl c7
    refine lv_iload_n hx hb dJ9_floorMod_7cf53_18 rfl (lv_at hl 0 rfl) ?_
    exact xk_reti () hx hb hr hlocks (xk_P hP (by rfl)) (by rw [t2, hp6]) hS dJ9_floorMod_7cf53_19 hQ
  · have t7 : x6.toInt < 0 := xi_nle (by decide) rfl c7
    omega

set_option maxHeartbeats 4000000 in
set_option maxRecDepth 100000 in
theorem c_X0_placeOf (l : Launch) (D : va_G) (cI cZ cS : ClassId) (ho0 ho1 : Nat) (old sz : Int32) (p1 : Int32) (ho : 0 ≤ old.toInt ∧ old.toInt ≤ 5) (hp1 : 0 ≤ p1.toInt ∧ p1.toInt ≤ 6) : xMi l yX0_placeOf cX0_placeOf 2 (some .int) ({ frames := 1, cells := 0, slots := 0, locals := 22 } : Room) D (xTy cI cZ cS) [.ref ho0, .int p1] [(ho0, .inr (0, [.ref ho1, .int old, .int sz]))] (fun (r : Int32) (_ : Unit) => r.toInt = (old.toInt + p1.toInt) % 6) (fun (_ : Unit) => [(ho0, .inr (0, [.ref ho1, .int old, .int sz]))]) := by
  refine xk_bodyi (by decide) (Nat.le_of_ble_eq_true rfl) ?_
  intro p e s m below meth c A ls args Q hx hb hr hts hown hlocks hml hin hK hP hD hS hA hN hZ hl hQ
  have hl : lv_has ls 2 [(0, .ref ho0), (1, .int p1)] := hl
  refine lv_aload_n hx hb dX0_placeOf_0 rfl (lv_at hl 0 rfl) ?_
  refine va_get (D := D) (ci := 0) (v := .int old) (C := RX0) (T := TX0) (N := 3) hx hb hts xin0 hown hK hP 0 rfl rfl 1 (by decide) (hts _ (List.mem_cons_of_mem _ mw_1_173)) (fun _ h9 => h9) rfl dX0_placeOf_1 ?_
  refine lv_iload_n hx hb dX0_placeOf_4 rfl (lv_at hl 1 rfl) ?_
  refine lv_iadd hx hb dX0_placeOf_5 ?_
  refine lv_topi (fun x5 e5 => ?_)
  have t5 : x5.toInt = old.toInt + p1.toInt := by rw [e5]; exact xi_add rfl rfl (by omega) (by omega)
  refine lv_bipush (v := 6) hx hb dX0_placeOf_6 (by decide) ?_
  refine xk_Si (As := [.int x5, .int 6]) (rest := []) hx hb hml hown hts hK hN hZ hP hD hS hA mb_J9_floorMod_7cf53 mw_2_71 mw_2_72 (c_J9_floorMod_7cf53 l D cI cZ cS x5 (6 : Int32) (by omega) (by rfl)) [] (by decide) rfl (fun _ => by simp only [List.map]) (by decide) (by decide) rfl hl.1 rfl (Nat.le_of_ble_eq_true rfl) dX0_placeOf_8 ⟨Nat.zero_le _, Nat.zero_le _⟩ (fun r8 _ H locs hw hP hD hS => ?_)
  have hP : va_P D vwCl [(ho0, .inr (0, [.ref ho1, .int old, .int sz]))] H := hP
  have hD : va_D A [(ho0, .inr (0, [.ref ho1, .int old, .int sz]))] := hD
  have p8 : r8.toInt = x5.toInt % 6 := hw
  exact xk_reti () hx hb hr hlocks (xk_P hP (by rfl)) (by rw [p8, t5]) hS dX0_placeOf_11 hQ
