set_option maxHeartbeats 4000000 in
set_option maxRecDepth 100000 in
theorem c_X2_beatsMeantBy (l : Launch) (D : va_G) (cI cZ cS : ClassId) (p0 : Int32)  : xMi l yX2_beatsMeantBy cX2_beatsMeantBy 1 (some .int) ({ frames := 0, cells := 0, slots := 0, locals := 0 } : Room) D (xTy cI cZ cS) [.int p0] [] (fun (r : Int32) (_ : Unit) => r = bOf p0) (fun (_ : Unit) => []) := by
  refine xk_bodyi (by decide) (Nat.le_of_ble_eq_true rfl) ?_
  intro p e s m below meth c A ls args Q hx hb hr hts hown hlocks hml hin hK hP hD hS hA hN hZ hl hQ
  have hl : lv_has ls 1 [(0, .int p0)] := hl
  refine lv_iload_n hx hb dX2_beatsMeantBy_0 rfl (lv_at hl 0 rfl) ?_
  have h1 : p0.toInt = 100 ∨ p0.toInt = 113 ∨ p0.toInt = 117 ∨ (¬ p0.toInt = 100 ∧ ¬ p0.toInt = 113 ∧ ¬ p0.toInt = 117) := by omega
  rcases h1 with t1 | t1 | t1 | ⟨t1_0, t1_1, t1_2⟩
  · refine lv_lookup (off := 37) (tgt := 38) hx hb dX2_beatsMeantBy_1 (by decide) (by rw [t1]; rfl) (by decide) ?_
    refine lv_iconst (v := 3) hx hb dX2_beatsMeantBy_38 (by decide) ?_
    exact xk_reti () hx hb hr hlocks (xk_P hP (by rfl)) (by rw [show p0 = 100 from xi_ext t1]; rfl) hS dX2_beatsMeantBy_39 hQ
  · refine lv_lookup (off := 39) (tgt := 40) hx hb dX2_beatsMeantBy_1 (by decide) (by rw [t1]; rfl) (by decide) ?_
    refine lv_iconst (v := 4) hx hb dX2_beatsMeantBy_40 (by decide) ?_
    exact xk_reti () hx hb hr hlocks (xk_P hP (by rfl)) (by rw [show p0 = 113 from xi_ext t1]; rfl) hS dX2_beatsMeantBy_41 hQ
  · refine lv_lookup (off := 35) (tgt := 36) hx hb dX2_beatsMeantBy_1 (by decide) (by rw [t1]; rfl) (by decide) ?_
    refine lv_iconst (v := 2) hx hb dX2_beatsMeantBy_36 (by decide) ?_
    exact xk_reti () hx hb hr hlocks (xk_P hP (by rfl)) (by rw [show p0 = 117 from xi_ext t1]; rfl) hS dX2_beatsMeantBy_37 hQ
  · refine lv_lookup (off := 41) (tgt := 42) hx hb dX2_beatsMeantBy_1 (by decide) (by simp [Op.lookupswitch.offset, t1_0, mt Eq.symm t1_0, t1_1, mt Eq.symm t1_1, t1_2, mt Eq.symm t1_2]) (by decide) ?_
    refine lv_iconst (v := 0) hx hb dX2_beatsMeantBy_42 (by decide) ?_
    exact xk_reti () hx hb hr hlocks (xk_P hP (by rfl)) (by unfold bOf; rw [if_neg (fun q => t1_2 (by rw [q]; rfl)), if_neg (fun q => t1_0 (by rw [q]; rfl)), if_neg (fun q => t1_1 (by rw [q]; rfl))]) hS dX2_beatsMeantBy_43 hQ

set_option maxHeartbeats 4000000 in
set_option maxRecDepth 100000 in
theorem c_X2_codeIn (l : Launch) (D : va_G) (cI cZ cS : ClassId) (v : Int64) (p2 : Int32)  : xMi l yX2_codeIn cX2_codeIn 3 (some .int) ({ frames := 0, cells := 0, slots := 0, locals := 0 } : Room) D (xTy cI cZ cS) [.long v, .int p2] [] (fun (r : Int32) (_ : Unit) => r = cdA v p2) (fun (_ : Unit) => []) := by
  refine xk_bodyi (by decide) (Nat.le_of_ble_eq_true rfl) ?_
  intro p e s m below meth c A ls args Q hx hb hr hts hown hlocks hml hin hK hP hD hS hA hN hZ hl hQ
  have hl : lv_has ls 3 [(0, .long v), (2, .int p2)] := hl
  refine lv_lload_n hx hb dX2_codeIn_0 rfl (lv_at hl 0 rfl) ?_
  refine lv_bipush (v := 8) hx hb dX2_codeIn_1 (by decide) ?_
  refine lv_iload_n hx hb dX2_codeIn_3 rfl (lv_at hl 1 rfl) ?_
  refine lv_imul hx hb dX2_codeIn_4 ?_
  refine lv_topi (fun x4 e4 => ?_)
  refine lv_lushr hx hb dX2_codeIn_5 rfl ?_
  refine lv_topl (fun y5 e5 => ?_)
  refine lv_ldc2 (v := 255) hx hb hown (hts _ (List.mem_cons_of_mem _ mw_3_99)) dX2_codeIn_6 ?_
  refine lv_land hx hb dX2_codeIn_9 ?_
  refine lv_topl (fun y9 e9 => ?_)
  refine lv_l2i hx hb dX2_codeIn_10 rfl ?_
  refine lv_topi (fun x10 e10 => ?_)
  exact xk_reti () hx hb hr hlocks (xk_P hP (by rfl)) (by rw [e10, e9, e5, e4]; rfl) hS dX2_codeIn_11 hQ

set_option maxHeartbeats 4000000 in
set_option maxRecDepth 100000 in
theorem c_X2_append (l : Launch) (D : va_G) (cI cZ cS : ClassId) (pd0 pd1 : Nat) (ln : Int32) (pd : Nat → Int32) (p1 : Int32) (hln : 0 ≤ ln.toInt ∧ ln.toInt < 60) : xMv l yX2_append cX2_append 2 none ({ frames := 0, cells := 0, slots := 0, locals := 0 } : Room) D (xTy cI cZ cS) [.ref pd0, .int p1] [(pd0, .inr (2, [.ref pd1, .int ln])), (pd1, .inl (cI, 60, .inl pd))] (fun (_ : Unit) => True) (fun (_ : Unit) => [(pd0, .inr (2, [.ref pd1, .int (ln + 1)])), (pd1, .inl (cI, 60, .inl (upd pd ln.toInt.toNat p1)))]) := by
  refine xk_bodyv (by decide) (Nat.le_of_ble_eq_true rfl) ?_
  intro p e s m below meth c A ls args Q hx hb hr hts hown hlocks hml hin hK hP hD hS hA hN hZ hl hQ
  have hl : lv_has ls 2 [(0, .ref pd0), (1, .int p1)] := hl
  refine lv_aload_n hx hb dX2_append_0 rfl (lv_at hl 0 rfl) ?_
  refine va_get (D := D) (ci := 2) (v := .int ln) (C := RX2) (T := TX2) (N := 2) hx hb hts xin2 hown hK hP 0 rfl rfl 1 (by decide) (hts _ (List.mem_cons_of_mem _ mw_1_190)) (fun _ h9 => h9) rfl dX2_append_1 ?_
  refine lv_if_lt (tgt := 36) hx hb dX2_append_4 (by decide) (fun c4 => ?_) (fun c4 => ?_)
  · have t4 : ln.toInt < 0 := xi_lt rfl (by decide) c4
    omega
  · have t4 : 0 ≤ ln.toInt := xi_nlt rfl (by decide) c4
    refine lv_aload_n hx hb dX2_append_7 rfl (lv_at hl 0 rfl) ?_
    refine va_get (D := D) (ci := 2) (v := .int ln) (C := RX2) (T := TX2) (N := 2) hx hb hts xin2 hown hK hP 0 rfl rfl 1 (by decide) (hts _ (List.mem_cons_of_mem _ mw_1_190)) (fun _ h9 => h9) rfl dX2_append_8 ?_
    refine lv_bipush (v := 60) hx hb dX2_append_11 (by decide) ?_
    refine lv_icmp_ge (tgt := 36) hx hb dX2_append_13 (by decide) (fun c13 => ?_) (fun c13 => ?_)
    · have t13 : 60 ≤ ln.toInt := xi_le (by decide) rfl c13
      omega
    · have t13 : ln.toInt < 60 := xi_nle (by decide) rfl c13
      refine lv_aload_n hx hb dX2_append_16 rfl (lv_at hl 0 rfl) ?_
      refine va_get (D := D) (ci := 2) (v := .ref pd1) (C := RX2) (T := TX2) (N := 2) hx hb hts xin2 hown hK hP 0 rfl rfl 0 (by decide) (hts _ (List.mem_cons_of_mem _ mw_1_189)) (fun _ h9 => h9) rfl dX2_append_17 ?_
      refine lv_aload_n hx hb dX2_append_20 rfl (lv_at hl 0 rfl) ?_
      refine va_get (D := D) (ci := 2) (v := .int ln) (C := RX2) (T := TX2) (N := 2) hx hb hts xin2 hown hK hP 0 rfl rfl 1 (by decide) (hts _ (List.mem_cons_of_mem _ mw_1_190)) (fun _ h9 => h9) rfl dX2_append_21 ?_
      refine lv_iload_n hx hb dX2_append_24 rfl (lv_at hl 1 rfl) ?_
      refine va_iast hx hb hK hP hD hS 1 0 rfl rfl (xi_in (by omega) (by omega)) dX2_append_25 (fun H locs hP hD hS => ?_)
      rw [show ln.toNatClampNeg = ln.toInt.toNat from xk_ix (by omega)] at hP hD
      have hP : va_P D vwCl [(pd0, .inr (2, [.ref pd1, .int ln])), (pd1, .inl (cI, 60, .inl (upd pd ln.toInt.toNat p1)))] H := hP
      have hD : va_D A [(pd0, .inr (2, [.ref pd1, .int ln])), (pd1, .inl (cI, 60, .inl (upd pd ln.toInt.toNat p1)))] := hD
      refine lv_aload_n hx hb dX2_append_26 rfl (lv_at hl 0 rfl) ?_
      refine lv_dup hx hb dX2_append_27 rfl ?_
      refine va_get (D := D) (ci := 2) (v := .int ln) (C := RX2) (T := TX2) (N := 2) hx hb hts xin2 hown hK hP 0 rfl rfl 1 (by decide) (hts _ (List.mem_cons_of_mem _ mw_1_190)) (fun _ h9 => h9) rfl dX2_append_28 ?_
      refine lv_iconst (v := 1) hx hb dX2_append_31 (by decide) ?_
      refine lv_iadd hx hb dX2_append_32 ?_
      refine lv_topi (fun x32 e32 => ?_)
      have t32 : x32.toInt = ln.toInt + 1 := by rw [e32]; exact xi_add rfl (by decide) (by omega) (by omega)
      refine va_put (D := D) (ci := 2) (v := .int x32) (ty := .int) (C := RX2) (T := TX2) (N := 2) hx hb hts xin2 tyX2 tyX2_ok nmX2 hown hK hP hD hS 0 rfl rfl 1 (by decide) (hts _ (List.mem_cons_of_mem _ mw_1_190)) (fun _ h9 => h9) rfl (by decide +kernel) rfl rfl (Nat.le_of_ble_eq_true rfl) dX2_append_33 (fun H locs hP hD hS => ?_)
      have hP : va_P D vwCl [(pd0, .inr (2, [.ref pd1, .int x32])), (pd1, .inl (cI, 60, .inl (upd pd ln.toInt.toNat p1)))] H := hP
      have hD : va_D A [(pd0, .inr (2, [.ref pd1, .int x32])), (pd1, .inl (cI, 60, .inl (upd pd ln.toInt.toNat p1)))] := hD
      exact xk_retv () hx hb hr hlocks (xk_P hP (by rw [e32])) (by trivial) hS dX2_append_36 hQ

set_option maxHeartbeats 4000000 in
set_option maxRecDepth 100000 in
theorem c_X2_empty (l : Launch) (D : va_G) (cI cZ cS : ClassId) (pd0 pd1 : Nat) (ln : Int32)  : xMv l yX2_empty cX2_empty 1 none ({ frames := 0, cells := 0, slots := 0, locals := 0 } : Room) D (xTy cI cZ cS) [.ref pd0] [(pd0, .inr (2, [.ref pd1, .int ln]))] (fun (_ : Unit) => True) (fun (_ : Unit) => [(pd0, .inr (2, [.ref pd1, .int (0 : Int32)]))]) := by
  refine xk_bodyv (by decide) (Nat.le_of_ble_eq_true rfl) ?_
  intro p e s m below meth c A ls args Q hx hb hr hts hown hlocks hml hin hK hP hD hS hA hN hZ hl hQ
  have hl : lv_has ls 1 [(0, .ref pd0)] := hl
  refine lv_aload_n hx hb dX2_empty_0 rfl (lv_at hl 0 rfl) ?_
  refine lv_iconst (v := 0) hx hb dX2_empty_1 (by decide) ?_
  refine va_put (D := D) (ci := 2) (v := .int 0) (ty := .int) (C := RX2) (T := TX2) (N := 2) hx hb hts xin2 tyX2 tyX2_ok nmX2 hown hK hP hD hS 0 rfl rfl 1 (by decide) (hts _ (List.mem_cons_of_mem _ mw_1_190)) (fun _ h9 => h9) rfl (by decide +kernel) rfl rfl (Nat.le_of_ble_eq_true rfl) dX2_empty_2 (fun H locs hP hD hS => ?_)
  have hP : va_P D vwCl [(pd0, .inr (2, [.ref pd1, .int 0]))] H := hP
  have hD : va_D A [(pd0, .inr (2, [.ref pd1, .int 0]))] := hD
  exact xk_retv () hx hb hr hlocks (xk_P hP (by rfl)) (by trivial) hS dX2_empty_5 hQ

set_option maxHeartbeats 4000000 in
set_option maxRecDepth 100000 in
theorem c_X2_charactersIn (l : Launch) (D : va_G) (cI cZ cS : ClassId) (v : Int64)  : xMi l yX2_charactersIn cX2_charactersIn 6 (some .int) ({ frames := 1, cells := 0, slots := 0, locals := 22 } : Room) D (xTy cI cZ cS) [.long v] [] (fun (r : Int32) (_ : Unit) => (∃ n : Nat, chF 8 v 0 = some n ∧ r.toInt = n ∧ n ≤ 8) ∨ (chF 8 v 0 = none ∧ r = 0)) (fun (_ : Unit) => []) := by
  refine xk_bodyi (by decide) (Nat.le_of_ble_eq_true rfl) ?_
  intro p e s m below meth c A ls args Q hx hb hr hts hown hlocks hml hin hK hP hD hS hA hN hZ hl hQ
  have hl : lv_has ls 6 [(0, .long v)] := hl
  refine lv_iconst (v := 0) hx hb dX2_charactersIn_0 (by decide) ?_
  refine lv_istore_n (lv' := [(2, .int 0), (0, .long v)]) hx hb dX2_charactersIn_1 rfl hl (by decide) rfl (fun ls hl => ?_)
  refine lv_lload_n hx hb dX2_charactersIn_2 rfl (lv_at hl 1 rfl) ?_
  refine lv_lstore_n (lv' := [(3, .long v), (2, .int 0), (0, .long v)]) hx hb dX2_charactersIn_3 rfl hl (by decide) rfl (fun ls hl => ?_)
  have L4 : ∀ (n : Nat) (y : Int64) (k : Int32) (hk : 0 ≤ k.toInt ∧ k.toInt ≤ 8) (hch : chF 8 v 0 = chF (8 - k.toInt.toNat) y k.toInt.toNat) (hn4 : 8 - k.toInt.toNat < n) (H : Heap) (locs : List Loc), va_P D vwCl [] H → va_D A [] → va_S A s.heap H locs → ∀ ls : Array Slot, lv_has ls 6 [(3, .long y), (2, .int k), (0, .long v)] → W p l e ({ frames := 1, cells := 0, slots := 0, locals := 22 } : Room) s m args below meth c H locs 0 0 Q (F0 m 4 ls []) := by
    intro n
    induction n with
    | zero =>
      intro y k hk hch hn4
      exact absurd hn4 (Nat.not_lt_zero _)
    | succ n ih4 =>
      intro y k hk hch hn4 H locs hP hD hS ls hl
      refine lv_lload_n hx hb dX2_charactersIn_4 rfl (lv_at hl 0 rfl) ?_
      refine lv_lconst (v := 0) hx hb dX2_charactersIn_5 (by decide) ?_
      refine W.lcmp hx hb dX2_charactersIn_6 ?_
      refine lv_topi (fun x6 e6 => ?_)
      refine lv_if_eq (tgt := 50) hx hb dX2_charactersIn_7 (by decide) (fun c7 => ?_) (fun c7 => ?_)
      · have t7 : x6.toInt = 0 := xi_eq rfl (by decide) c7
        have d7 : x6 = 0 := c7
        have hx0 : y = 0 := lg0 (by rw [← e6]; exact d7)
        have hfin : chF 8 v 0 = some k.toInt.toNat := by rw [hch]; exact chF_0 _ _ hx0
        refine lv_iload_n hx hb dX2_charactersIn_50 rfl (lv_at hl 1 rfl) ?_
        exact xk_reti () hx hb hr hlocks (xk_P hP (by rfl)) (by exact Or.inl ⟨k.toInt.toNat, hfin, by omega, by omega⟩) hS dX2_charactersIn_51 hQ
      · have t7 : ¬ x6.toInt = 0 := xi_ne rfl (by decide) c7
        have d7 : ¬ x6 = 0 := c7
        have hx0 : ¬ y = 0 := lg1 (by rw [← e6]; exact d7)
        refine lv_iload_n hx hb dX2_charactersIn_10 rfl (lv_at hl 1 rfl) ?_
        refine lv_bipush (v := 8) hx hb dX2_charactersIn_11 (by decide) ?_
        refine lv_icmp_ge (tgt := 50) hx hb dX2_charactersIn_13 (by decide) (fun c13 => ?_) (fun c13 => ?_)
        · have t13 : 8 ≤ k.toInt := xi_le (by decide) rfl c13
          have hfin : chF 8 v 0 = some k.toInt.toNat := by rw [hch, show 8 - k.toInt.toNat = 0 from by omega]; rfl
          refine lv_iload_n hx hb dX2_charactersIn_50 rfl (lv_at hl 1 rfl) ?_
          exact xk_reti () hx hb hr hlocks (xk_P hP (by rfl)) (by exact Or.inl ⟨k.toInt.toNat, hfin, by omega, by omega⟩) hS dX2_charactersIn_51 hQ
        · have t13 : k.toInt < 8 := xi_nle (by decide) rfl c13
          have hf8 : 8 - k.toInt.toNat = (8 - k.toInt.toNat - 1) + 1 := by omega
          refine lv_lload_n hx hb dX2_charactersIn_16 rfl (lv_at hl 0 rfl) ?_
          refine lv_iconst (v := 0) hx hb dX2_charactersIn_17 (by decide) ?_
          refine xk_Si (As := [.long y, .int 0]) (rest := []) hx hb hml hown hts hK hN hZ hP hD hS hA mb_X2_codeIn mw_3_96 mw_3_97 (c_X2_codeIn l D cI cZ cS y (0 : Int32) ) [] (by decide) rfl (fun _ => by simp only [List.map]) (by decide) (by decide) rfl hl.1 rfl (Nat.le_of_ble_eq_true rfl) dX2_charactersIn_18 ⟨Nat.zero_le _, Nat.zero_le _⟩ (fun r18 _ H locs hw hP hD hS => ?_)
          have hP : va_P D vwCl [] H := hP
          have hD : va_D A [] := hD
          have e18 : r18 = cdA y (0 : Int32) := hw
          have hcd : r18 = cdL y := by rw [e18, cdA_0]
          refine lv_istore (lv' := [(5, .int r18), (3, .long y), (2, .int k), (0, .long v)]) hx hb dX2_charactersIn_21 hl (by decide) rfl (fun ls hl => ?_)
          refine lv_iload hx hb dX2_charactersIn_23 (lv_at hl 0 rfl) ?_
          refine lv_bipush (v := 33) hx hb dX2_charactersIn_25 (by decide) ?_
          refine lv_icmp_lt (tgt := 37) hx hb dX2_charactersIn_27 (by decide) (fun c27 => ?_) (fun c27 => ?_)
          · have t27 : r18.toInt < 33 := xi_lt rfl (by decide) c27
            refine lv_iconst (v := 0) hx hb dX2_charactersIn_37 (by decide) ?_
            exact xk_reti () hx hb hr hlocks (xk_P hP (by rfl)) (by exact Or.inr ⟨by rw [hch, chF_n _ _ _ hx0 (by rw [← hcd]; omega) hf8], rfl⟩) hS dX2_charactersIn_38 hQ
          · have t27 : 33 ≤ r18.toInt := xi_nlt rfl (by decide) c27
            refine lv_iload hx hb dX2_charactersIn_30 (lv_at hl 0 rfl) ?_
            refine lv_bipush (v := 126) hx hb dX2_charactersIn_32 (by decide) ?_
            refine lv_icmp_le (tgt := 39) hx hb dX2_charactersIn_34 (by decide) (fun c34 => ?_) (fun c34 => ?_)
            · have t34 : r18.toInt ≤ 126 := xi_le rfl (by decide) c34
              obtain ⟨x39, e39⟩ : ∃ y : Int32, y = k + 1 := ⟨_, rfl⟩
              have t39 : x39.toInt = k.toInt + 1 := by rw [e39]; exact xi_add rfl (by decide) (by omega) (by omega)
              refine lv_iinc (v := x39) (lv' := [(2, .int x39), (5, .int r18), (3, .long y), (0, .long v)]) hx hb dX2_charactersIn_39 hl (k := 2) rfl (by rw [e39]; rfl) (by decide) rfl (fun ls hl => ?_)
              refine lv_lload_n hx hb dX2_charactersIn_42 rfl (lv_at hl 2 rfl) ?_
              refine lv_bipush (v := 8) hx hb dX2_charactersIn_43 (by decide) ?_
              refine lv_lushr hx hb dX2_charactersIn_45 rfl ?_
              refine lv_topl (fun y45 e45 => ?_)
              refine lv_lstore_n (lv' := [(3, .long y45), (2, .int x39), (5, .int r18), (0, .long v)]) hx hb dX2_charactersIn_46 rfl hl (by decide) rfl (fun ls hl => ?_)
              refine lv_goto (tgt := 4) hx hb dX2_charactersIn_47 (by decide) ?_
              have hsh : y45 = sh8 y := e45
              have hs : 8 - k.toInt.toNat = (8 - x39.toInt.toNat) + 1 := by omega
              rw [hs, chF_s _ _ _ hx0 (by rw [← hcd]; omega), ← hsh, show k.toInt.toNat + 1 = x39.toInt.toNat from by omega] at hch
              exact ih4  y45 x39 (by omega) (by exact hch) (by omega) _ _ hP hD hS ls (lv_sub hl [0, 1, 3] rfl)
            · have t34 : 126 < r18.toInt := xi_nle rfl (by decide) c34
              refine lv_iconst (v := 0) hx hb dX2_charactersIn_37 (by decide) ?_
              exact xk_reti () hx hb hr hlocks (xk_P hP (by rfl)) (by exact Or.inr ⟨by rw [hch, chF_n _ _ _ hx0 (by rw [← hcd]; omega) hf8], rfl⟩) hS dX2_charactersIn_38 hQ
  exact L4 9 v (0 : Int32) (by decide) (by rfl) (by decide) _ _ hP hD hS ls (lv_sub hl [0, 1, 2] rfl)

set_option maxHeartbeats 4000000 in
set_option maxRecDepth 100000 in
theorem c_X2_faultIndex (l : Launch) (D : va_G) (cI cZ cS : ClassId) (pd0 pd1 : Nat) (ln : Int32) (pd : Nat → Int32) (hln : 0 ≤ ln.toInt ∧ ln.toInt ≤ 60) : xMi l yX2_faultIndex cX2_faultIndex 6 (some .int) ({ frames := 1, cells := 0, slots := 0, locals := 20 } : Room) D (xTy cI cZ cS) [.ref pd0] [(pd0, .inr (2, [.ref pd1, .int ln])), (pd1, .inl (cI, 60, .inl pd))] (fun (r : Int32) (_ : Unit) => (FN pd ln.toInt.toNat ∧ r = -6) ∨ (FA pd ln.toInt.toNat r.toInt.toNat ∧ 0 ≤ r.toInt ∧ r.toInt ≤ ln.toInt)) (fun (_ : Unit) => [(pd0, .inr (2, [.ref pd1, .int ln])), (pd1, .inl (cI, 60, .inl pd))]) := by
  refine xk_bodyi (by decide) (Nat.le_of_ble_eq_true rfl) ?_
  intro p e s m below meth c A ls args Q hx hb hr hts hown hlocks hml hin hK hP hD hS hA hN hZ hl hQ
  have hl : lv_has ls 6 [(0, .ref pd0)] := hl
  refine lv_iconst (v := 1) hx hb dX2_faultIndex_0 (by decide) ?_
  refine lv_istore_n (lv' := [(1, .int 1), (0, .ref pd0)]) hx hb dX2_faultIndex_1 rfl hl (by decide) rfl (fun ls hl => ?_)
  refine lv_iconst (v := 0) hx hb dX2_faultIndex_2 (by decide) ?_
  refine lv_istore_n (lv' := [(2, .int 0), (1, .int 1), (0, .ref pd0)]) hx hb dX2_faultIndex_3 rfl hl (by decide) rfl (fun ls hl => ?_)
  refine lv_iconst (v := 0) hx hb dX2_faultIndex_4 (by decide) ?_
  refine lv_istore_n (lv' := [(3, .int 0), (2, .int 0), (1, .int 1), (0, .ref pd0)]) hx hb dX2_faultIndex_5 rfl hl (by decide) rfl (fun ls hl => ?_)
  refine lv_iconst (v := 0) hx hb dX2_faultIndex_6 (by decide) ?_
  refine lv_istore (lv' := [(4, .int 0), (3, .int 0), (2, .int 0), (1, .int 1), (0, .ref pd0)]) hx hb dX2_faultIndex_7 hl (by decide) rfl (fun ls hl => ?_)
  have L9 : ∀ (n : Nat) (li : Int32) (fe : Int32) (mm : Int32) (k : Int32) (hk : 0 ≤ k.toInt ∧ k.toInt ≤ ln.toInt) (hJ : ScJ pd k.toInt.toNat li fe mm) (hn9 : 60 - k.toInt.toNat < n) (H : Heap) (locs : List Loc), va_P D vwCl [(pd0, .inr (2, [.ref pd1, .int ln])), (pd1, .inl (cI, 60, .inl pd))] H → va_D A [(pd0, .inr (2, [.ref pd1, .int ln])), (pd1, .inl (cI, 60, .inl pd))] → va_S A s.heap H locs → ∀ ls : Array Slot, lv_has ls 6 [(4, .int k), (3, .int mm), (2, .int fe), (1, .int li), (0, .ref pd0)] → W p l e ({ frames := 1, cells := 0, slots := 0, locals := 20 } : Room) s m args below meth c H locs 0 0 Q (F0 m 9 ls []) := by
    intro n
    induction n with
    | zero =>
      intro li fe mm k hk hJ hn9
      exact absurd hn9 (Nat.not_lt_zero _)
    | succ n ih9 =>
      intro li fe mm k hk hJ hn9 H locs hP hD hS ls hl
      have hJi := ScJ_in hJ
      refine lv_iload hx hb dX2_faultIndex_9 (lv_at hl 0 rfl) ?_
      refine lv_aload_n hx hb dX2_faultIndex_11 rfl (lv_at hl 4 rfl) ?_
      refine va_get (D := D) (ci := 2) (v := .int ln) (C := RX2) (T := TX2) (N := 2) hx hb hts xin2 hown hK hP 0 rfl rfl 1 (by decide) (hts _ (List.mem_cons_of_mem _ mw_1_190)) (fun _ h9 => h9) rfl dX2_faultIndex_12 ?_
      refine lv_icmp_ge (tgt := 111) hx hb dX2_faultIndex_15 (by decide) (fun c15 => ?_) (fun c15 => ?_)
      · have t15 : ln.toInt ≤ k.toInt := xi_le rfl rfl c15
        have hJ9 : ScJ pd ln.toInt.toNat li fe mm := by rw [show ln.toInt.toNat = k.toInt.toNat from by omega]; exact hJ
        refine lv_iload_n hx hb dX2_faultIndex_111 rfl (lv_at hl 2 rfl) ?_
        refine lv_if_ne (tgt := 122) hx hb dX2_faultIndex_112 (by decide) (fun c112 => ?_) (fun c112 => ?_)
        · have t112 : ¬ fe.toInt = 0 := xi_ne rfl (by decide) c112
          have d112 : ¬ fe = 0 := c112
          refine lv_bipush (v := (-6)) hx hb dX2_faultIndex_122 (by decide) ?_
          exact xk_reti () hx hb hr hlocks (xk_P hP (by rfl)) (by exact Or.inl ⟨(ScJ_end hJ9).2 (by omega), rfl⟩) hS dX2_faultIndex_124 hQ
        · have t112 : fe.toInt = 0 := xi_eq rfl (by decide) c112
          have d112 : fe = 0 := c112
          refine lv_aload_n hx hb dX2_faultIndex_115 rfl (lv_at hl 4 rfl) ?_
          refine va_get (D := D) (ci := 2) (v := .int ln) (C := RX2) (T := TX2) (N := 2) hx hb hts xin2 hown hK hP 0 rfl rfl 1 (by decide) (hts _ (List.mem_cons_of_mem _ mw_1_190)) (fun _ h9 => h9) rfl dX2_faultIndex_116 ?_
          refine lv_goto (tgt := 124) hx hb dX2_faultIndex_119 (by decide) ?_
          exact xk_reti () hx hb hr hlocks (xk_P hP (by rfl)) (by exact Or.inr ⟨(ScJ_end hJ9).1 (by omega), by omega, by omega⟩) hS dX2_faultIndex_124 hQ
      · have t15 : k.toInt < ln.toInt := xi_nle rfl rfl c15
        refine lv_iload hx hb dX2_faultIndex_18 (lv_at hl 0 rfl) ?_
        refine lv_bipush (v := 60) hx hb dX2_faultIndex_20 (by decide) ?_
        refine lv_icmp_ge (tgt := 111) hx hb dX2_faultIndex_22 (by decide) (fun c22 => ?_) (fun c22 => ?_)
        · have t22 : 60 ≤ k.toInt := xi_le (by decide) rfl c22
          have hJ9 : ScJ pd ln.toInt.toNat li fe mm := by rw [show ln.toInt.toNat = k.toInt.toNat from by omega]; exact hJ
          refine lv_iload_n hx hb dX2_faultIndex_111 rfl (lv_at hl 2 rfl) ?_
          refine lv_if_ne (tgt := 122) hx hb dX2_faultIndex_112 (by decide) (fun c112 => ?_) (fun c112 => ?_)
          · have t112 : ¬ fe.toInt = 0 := xi_ne rfl (by decide) c112
            have d112 : ¬ fe = 0 := c112
            refine lv_bipush (v := (-6)) hx hb dX2_faultIndex_122 (by decide) ?_
            exact xk_reti () hx hb hr hlocks (xk_P hP (by rfl)) (by exact Or.inl ⟨(ScJ_end hJ9).2 (by omega), rfl⟩) hS dX2_faultIndex_124 hQ
          · have t112 : fe.toInt = 0 := xi_eq rfl (by decide) c112
            have d112 : fe = 0 := c112
            refine lv_aload_n hx hb dX2_faultIndex_115 rfl (lv_at hl 4 rfl) ?_
            refine va_get (D := D) (ci := 2) (v := .int ln) (C := RX2) (T := TX2) (N := 2) hx hb hts xin2 hown hK hP 0 rfl rfl 1 (by decide) (hts _ (List.mem_cons_of_mem _ mw_1_190)) (fun _ h9 => h9) rfl dX2_faultIndex_116 ?_
            refine lv_goto (tgt := 124) hx hb dX2_faultIndex_119 (by decide) ?_
            exact xk_reti () hx hb hr hlocks (xk_P hP (by rfl)) (by exact Or.inr ⟨(ScJ_end hJ9).1 (by omega), by omega, by omega⟩) hS dX2_faultIndex_124 hQ
        · have t22 : k.toInt < 60 := xi_nle (by decide) rfl c22
          refine lv_aload_n hx hb dX2_faultIndex_25 rfl (lv_at hl 4 rfl) ?_
          refine va_get (D := D) (ci := 2) (v := .ref pd1) (C := RX2) (T := TX2) (N := 2) hx hb hts xin2 hown hK hP 0 rfl rfl 0 (by decide) (hts _ (List.mem_cons_of_mem _ mw_1_189)) (fun _ h9 => h9) rfl dX2_faultIndex_26 ?_
          refine lv_iload hx hb dX2_faultIndex_29 (lv_at hl 0 rfl) ?_
          refine va_iald hx hb hK hP 1 0 rfl rfl (xi_in (by omega) (by omega)) dX2_faultIndex_31 ?_
          refine xk_top (z := pd k.toInt.toNat) (xk_rd (by omega)) ?_
          refine lv_topi (fun x31 e31 => ?_)
          refine lv_istore (lv' := [(5, .int x31), (4, .int k), (3, .int mm), (2, .int fe), (1, .int li), (0, .ref pd0)]) hx hb dX2_faultIndex_32 hl (by decide) rfl (fun ls hl => ?_)
          refine lv_iload hx hb dX2_faultIndex_34 (lv_at hl 0 rfl) ?_
          refine lv_bipush (v := 39) hx hb dX2_faultIndex_36 (by decide) ?_
          refine lv_icmp_ne (tgt := 53) hx hb dX2_faultIndex_38 (by decide) (fun c38 => ?_) (fun c38 => ?_)
          · have t38 : ¬ x31.toInt = 39 := xi_ne rfl (by decide) c38
            have d38 : ¬ x31 = 39 := c38
            have hc39 : ¬ pd k.toInt.toNat = 39 := by rw [← e31]; exact d38
            refine lv_iload hx hb dX2_faultIndex_53 (lv_at hl 0 rfl) ?_
            refine lv_bipush (v := 47) hx hb dX2_faultIndex_55 (by decide) ?_
            refine lv_icmp_ne (tgt := 83) hx hb dX2_faultIndex_57 (by decide) (fun c57 => ?_) (fun c57 => ?_)
            · have t57 : ¬ x31.toInt = 47 := xi_ne rfl (by decide) c57
              have d57 : ¬ x31 = 47 := c57
              have hc47 : ¬ pd k.toInt.toNat = 47 := by rw [← e31]; exact d57
              refine lv_iload hx hb dX2_faultIndex_83 (lv_at hl 0 rfl) ?_
              refine xk_Si (As := [.int x31]) (rest := []) hx hb hml hown hts hK hN hZ hP hD hS hA mb_X2_beatsMeantBy mw_3_53 mw_3_54 (c_X2_beatsMeantBy l D cI cZ cS x31 ) [] (by decide) rfl (fun _ => by simp only [List.map]) (by decide) (by decide) rfl hl.1 rfl (Nat.le_of_ble_eq_true rfl) dX2_faultIndex_85 ⟨Nat.zero_le _, Nat.zero_le _⟩ (fun r85 _ H locs hw hP hD hS => ?_)
              have hP : va_P D vwCl [(pd0, .inr (2, [.ref pd1, .int ln])), (pd1, .inl (cI, 60, .inl pd))] H := hP
              have hD : va_D A [(pd0, .inr (2, [.ref pd1, .int ln])), (pd1, .inl (cI, 60, .inl pd))] := hD
              have e85 : r85 = bOf x31 := hw
              refine lv_if_eq (tgt := 97) hx hb dX2_faultIndex_88 (by decide) (fun c88 => ?_) (fun c88 => ?_)
              · have t88 : r85.toInt = 0 := xi_eq rfl (by decide) c88
                have d88 : r85 = 0 := c88
                refine lv_iload hx hb dX2_faultIndex_97 (lv_at hl 1 rfl) ?_
                exact xk_reti () hx hb hr hlocks (xk_P hP (by rfl)) (by exact Or.inr ⟨ScJ_footF hJ (by omega) hc39 hc47 (Or.inl (by rw [← e31, ← e85]; exact d88)), by omega, by omega⟩) hS dX2_faultIndex_99 hQ
              · have t88 : ¬ r85.toInt = 0 := xi_ne rfl (by decide) c88
                have d88 : ¬ r85 = 0 := c88
                refine lv_iload_n hx hb dX2_faultIndex_91 rfl (lv_at hl 3 rfl) ?_
                refine lv_bipush (v := 12) hx hb dX2_faultIndex_92 (by decide) ?_
                refine lv_icmp_ne (tgt := 100) hx hb dX2_faultIndex_94 (by decide) (fun c94 => ?_) (fun c94 => ?_)
                · have t94 : ¬ fe.toInt = 12 := xi_ne rfl (by decide) c94
                  have d94 : ¬ fe = 12 := c94
                  obtain ⟨x100, e100⟩ : ∃ y : Int32, y = fe + 1 := ⟨_, rfl⟩
                  have t100 : x100.toInt = fe.toInt + 1 := by rw [e100]; exact xi_add rfl (by decide) (by omega) (by omega)
                  refine lv_iinc (v := x100) (lv' := [(2, .int x100), (5, .int x31), (4, .int k), (3, .int mm), (1, .int li), (0, .ref pd0)]) hx hb dX2_faultIndex_100 hl (k := 3) rfl (by rw [e100]; rfl) (by decide) rfl (fun ls hl => ?_)
                  refine lv_iconst (v := 1) hx hb dX2_faultIndex_103 (by decide) ?_
                  refine lv_istore_n (lv' := [(3, .int 1), (2, .int x100), (5, .int x31), (4, .int k), (1, .int li), (0, .ref pd0)]) hx hb dX2_faultIndex_104 rfl hl (by decide) rfl (fun ls hl => ?_)
                  obtain ⟨x105, e105⟩ : ∃ y : Int32, y = k + 1 := ⟨_, rfl⟩
                  have t105 : x105.toInt = k.toInt + 1 := by rw [e105]; exact xi_add rfl (by decide) (by omega) (by omega)
                  refine lv_iinc (v := x105) (lv' := [(4, .int x105), (3, .int 1), (2, .int x100), (5, .int x31), (1, .int li), (0, .ref pd0)]) hx hb dX2_faultIndex_105 hl (k := 3) rfl (by rw [e105]; rfl) (by decide) rfl (fun ls hl => ?_)
                  refine lv_goto (tgt := 9) hx hb dX2_faultIndex_108 (by decide) ?_
                  have hJ2 : ScJ pd (k.toInt.toNat + 1) li x100 1 := ScJ_foot hJ hc39 hc47 (by rw [← e31, ← e85]; exact d88) (by omega) (by omega)
                  exact ih9  li x100 (1 : Int32) x105 (by omega) (by rw [show x105.toInt.toNat = k.toInt.toNat + 1 from by omega]; exact hJ2) (by omega) _ _ hP hD hS ls (lv_sub hl [0, 1, 2, 4, 5] rfl)
                · have t94 : fe.toInt = 12 := xi_eq rfl (by decide) c94
                  have d94 : fe = 12 := c94
                  refine lv_iload hx hb dX2_faultIndex_97 (lv_at hl 1 rfl) ?_
                  exact xk_reti () hx hb hr hlocks (xk_P hP (by rfl)) (by exact Or.inr ⟨ScJ_footF hJ (by omega) hc39 hc47 (Or.inr (by omega)), by omega, by omega⟩) hS dX2_faultIndex_99 hQ
            · have t57 : x31.toInt = 47 := xi_eq rfl (by decide) c57
              have d57 : x31 = 47 := c57
              have hc : pd k.toInt.toNat = 47 := by rw [← e31]; exact xi_ext (by rw [t57]; rfl)
              refine lv_iload_n hx hb dX2_faultIndex_60 rfl (lv_at hl 3 rfl) ?_
              refine lv_if_eq (tgt := 70) hx hb dX2_faultIndex_61 (by decide) (fun c61 => ?_) (fun c61 => ?_)
              · have t61 : fe.toInt = 0 := xi_eq rfl (by decide) c61
                have d61 : fe = 0 := c61
                refine lv_iload hx hb dX2_faultIndex_70 (lv_at hl 1 rfl) ?_
                exact xk_reti () hx hb hr hlocks (xk_P hP (by rfl)) (by exact Or.inr ⟨ScJ_lineF hJ (by omega) hc (by omega), by omega, by omega⟩) hS dX2_faultIndex_72 hQ
              · have t61 : ¬ fe.toInt = 0 := xi_ne rfl (by decide) c61
                have d61 : ¬ fe = 0 := c61
                refine lv_iload_n hx hb dX2_faultIndex_64 rfl (lv_at hl 4 rfl) ?_
                refine lv_bipush (v := 10) hx hb dX2_faultIndex_65 (by decide) ?_
                refine lv_icmp_ne (tgt := 73) hx hb dX2_faultIndex_67 (by decide) (fun c67 => ?_) (fun c67 => ?_)
                · have t67 : ¬ li.toInt = 10 := xi_ne rfl (by decide) c67
                  have d67 : ¬ li = 10 := c67
                  obtain ⟨x73, e73⟩ : ∃ y : Int32, y = li + 1 := ⟨_, rfl⟩
                  have t73 : x73.toInt = li.toInt + 1 := by rw [e73]; exact xi_add rfl (by decide) (by omega) (by omega)
                  refine lv_iinc (v := x73) (lv' := [(1, .int x73), (5, .int x31), (4, .int k), (3, .int mm), (2, .int fe), (0, .ref pd0)]) hx hb dX2_faultIndex_73 hl (k := 4) rfl (by rw [e73]; rfl) (by decide) rfl (fun ls hl => ?_)
                  refine lv_iconst (v := 0) hx hb dX2_faultIndex_76 (by decide) ?_
                  refine lv_istore_n (lv' := [(2, .int 0), (1, .int x73), (5, .int x31), (4, .int k), (3, .int mm), (0, .ref pd0)]) hx hb dX2_faultIndex_77 rfl hl (by decide) rfl (fun ls hl => ?_)
                  refine lv_iconst (v := 0) hx hb dX2_faultIndex_78 (by decide) ?_
                  refine lv_istore_n (lv' := [(3, .int 0), (2, .int 0), (1, .int x73), (5, .int x31), (4, .int k), (0, .ref pd0)]) hx hb dX2_faultIndex_79 rfl hl (by decide) rfl (fun ls hl => ?_)
                  refine lv_goto (tgt := 105) hx hb dX2_faultIndex_80 (by decide) ?_
                  obtain ⟨x105, e105⟩ : ∃ y : Int32, y = k + 1 := ⟨_, rfl⟩
                  have t105 : x105.toInt = k.toInt + 1 := by rw [e105]; exact xi_add rfl (by decide) (by omega) (by omega)
                  refine lv_iinc (v := x105) (lv' := [(4, .int x105), (3, .int 0), (2, .int 0), (1, .int x73), (5, .int x31), (0, .ref pd0)]) hx hb dX2_faultIndex_105 hl (k := 4) rfl (by rw [e105]; rfl) (by decide) rfl (fun ls hl => ?_)
                  refine lv_goto (tgt := 9) hx hb dX2_faultIndex_108 (by decide) ?_
                  have hJ2 : ScJ pd (k.toInt.toNat + 1) x73 0 0 := ScJ_line hJ hc (by omega) (by omega) (by omega)
                  exact ih9  x73 (0 : Int32) (0 : Int32) x105 (by omega) (by rw [show x105.toInt.toNat = k.toInt.toNat + 1 from by omega]; exact hJ2) (by omega) _ _ hP hD hS ls (lv_sub hl [0, 1, 2, 3, 5] rfl)
                · have t67 : li.toInt = 10 := xi_eq rfl (by decide) c67
                  have d67 : li = 10 := c67
                  refine lv_iload hx hb dX2_faultIndex_70 (lv_at hl 1 rfl) ?_
                  exact xk_reti () hx hb hr hlocks (xk_P hP (by rfl)) (by exact Or.inr ⟨ScJ_lineF hJ (by omega) hc (by omega), by omega, by omega⟩) hS dX2_faultIndex_72 hQ
          · have t38 : x31.toInt = 39 := xi_eq rfl (by decide) c38
            have d38 : x31 = 39 := c38
            have hc : pd k.toInt.toNat = 39 := by rw [← e31]; exact xi_ext (by rw [t38]; rfl)
            refine lv_iload_n hx hb dX2_faultIndex_41 rfl (lv_at hl 2 rfl) ?_
            refine lv_if_ne (tgt := 48) hx hb dX2_faultIndex_42 (by decide) (fun c42 => ?_) (fun c42 => ?_)
            · have t42 : ¬ mm.toInt = 0 := xi_ne rfl (by decide) c42
              have d42 : ¬ mm = 0 := c42
              refine lv_iconst (v := 0) hx hb dX2_faultIndex_48 (by decide) ?_
              refine lv_istore_n (lv' := [(3, .int 0), (5, .int x31), (4, .int k), (2, .int fe), (1, .int li), (0, .ref pd0)]) hx hb dX2_faultIndex_49 rfl hl (by decide) rfl (fun ls hl => ?_)
              refine lv_goto (tgt := 105) hx hb dX2_faultIndex_50 (by decide) ?_
              obtain ⟨x105, e105⟩ : ∃ y : Int32, y = k + 1 := ⟨_, rfl⟩
              have t105 : x105.toInt = k.toInt + 1 := by rw [e105]; exact xi_add rfl (by decide) (by omega) (by omega)
              refine lv_iinc (v := x105) (lv' := [(4, .int x105), (3, .int 0), (5, .int x31), (2, .int fe), (1, .int li), (0, .ref pd0)]) hx hb dX2_faultIndex_105 hl (k := 2) rfl (by rw [e105]; rfl) (by decide) rfl (fun ls hl => ?_)
              refine lv_goto (tgt := 9) hx hb dX2_faultIndex_108 (by decide) ?_
              have hJ2 : ScJ pd (k.toInt.toNat + 1) li fe 0 := ScJ_mark hJ hc d42
              exact ih9  li fe (0 : Int32) x105 (by omega) (by rw [show x105.toInt.toNat = k.toInt.toNat + 1 from by omega]; exact hJ2) (by omega) _ _ hP hD hS ls (lv_sub hl [0, 1, 3, 4, 5] rfl)
            · have t42 : mm.toInt = 0 := xi_eq rfl (by decide) c42
              have d42 : mm = 0 := c42
              refine lv_iload hx hb dX2_faultIndex_45 (lv_at hl 1 rfl) ?_
              exact xk_reti () hx hb hr hlocks (xk_P hP (by rfl)) (by exact Or.inr ⟨ScJ_markF hJ (by omega) hc d42, by omega, by omega⟩) hS dX2_faultIndex_47 hQ
  exact L9 61 (1 : Int32) (0 : Int32) (0 : Int32) (0 : Int32) (by rw [show (0 : Int32).toInt = 0 from by decide]; omega) (by exact ScJ_0 pd) (by decide) _ _ hP hD hS ls (lv_sub hl [0, 1, 2, 3, 4] rfl)

set_option maxHeartbeats 4000000 in
set_option maxRecDepth 100000 in
theorem c_X2_writeInto (l : Launch) (D : va_G) (cI cZ cS : ClassId) (pd0 pd1 : Nat) (ln : Int32) (pd : Nat → Int32) (g0 g1 g2 g3 : Nat) (gn : Int32) (ft bt mk : Nat → Int32) (hln : 0 ≤ ln.toInt ∧ ln.toInt ≤ 60) (hn : ∃ s, scn pd ln.toInt.toNat = some s) (hmk : ∀ j : Nat, j < 120 → mk j = 0 ∨ mk j = 1) : xMv l yX2_writeInto cX2_writeInto 4 none ({ frames := 3, cells := 0, slots := 0, locals := 65 } : Room) D (xTy cI cZ cS) [.ref pd0, .ref g0] [(pd0, .inr (2, [.ref pd1, .int ln])), (pd1, .inl (cI, 60, .inl pd)), (g0, .inr (5, [.int gn, .ref g1, .ref g2, .ref g3])), (g1, .inl (cI, 10, .inl ft)), (g2, .inl (cI, 120, .inl bt)), (g3, .inl (cZ, 120, .inl mk))] (fun (u : (Int32) × (Nat → Int32) × (Nat → Int32) × (Nat → Int32)) => WrI pd ln.toInt.toNat u.1 u.2.1 u.2.2.1 u.2.2.2) (fun (u : (Int32) × (Nat → Int32) × (Nat → Int32) × (Nat → Int32)) => [(pd0, .inr (2, [.ref pd1, .int ln])), (pd1, .inl (cI, 60, .inl pd)), (g0, .inr (5, [.int u.1, .ref g1, .ref g2, .ref g3])), (g1, .inl (cI, 10, .inl u.2.1)), (g2, .inl (cI, 120, .inl u.2.2.1)), (g3, .inl (cZ, 120, .inl u.2.2.2))]) := by
  refine xk_bodyv (by decide) (Nat.le_of_ble_eq_true rfl) ?_
  intro p e s m below meth c A ls args Q hx hb hr hts hown hlocks hml hin hK hP hD hS hA hN hZ hl hQ
  have hl : lv_has ls 4 [(0, .ref pd0), (1, .ref g0)] := hl
  refine lv_aload_n hx hb dX2_writeInto_0 rfl (lv_at hl 1 rfl) ?_
  refine xk_Vv (As := []) (rest := []) hx hb hml hown hts hK hN hZ hP hD hS hA mb_X5_clear mw_3_60 mw_3_61 mw_3_62 (c_X5_clear l D cI cZ cS g0 g1 g2 g3 gn ) [2] 2 5 rfl rfl (by decide) rfl (fun _ => by simp only [List.map]) (by decide) (by decide) rfl hl.1 rfl (Nat.le_of_ble_eq_true rfl) dX2_writeInto_1 ⟨Nat.zero_le _, Nat.zero_le _⟩ (fun _ H locs hw hP hD hS => ?_)
  have hP : va_P D vwCl [(pd0, .inr (2, [.ref pd1, .int ln])), (pd1, .inl (cI, 60, .inl pd)), (g0, .inr (5, [.int 0, .ref g1, .ref g2, .ref g3])), (g1, .inl (cI, 10, .inl ft)), (g2, .inl (cI, 120, .inl bt)), (g3, .inl (cZ, 120, .inl mk))] H := hP
  have hD : va_D A [(pd0, .inr (2, [.ref pd1, .int ln])), (pd1, .inl (cI, 60, .inl pd)), (g0, .inr (5, [.int 0, .ref g1, .ref g2, .ref g3])), (g1, .inl (cI, 10, .inl ft)), (g2, .inl (cI, 120, .inl bt)), (g3, .inl (cZ, 120, .inl mk))] := hD
  refine lv_aload_n hx hb dX2_writeInto_4 rfl (lv_at hl 1 rfl) ?_
  refine xk_Vv (As := []) (rest := []) hx hb hml hown hts hK hN hZ hP hD hS hA mb_X5_addLine mw_3_64 mw_3_65 mw_3_66 (c_X5_addLine l D cI cZ cS g0 g1 g2 g3 (0 : Int32) ft (by decide)) [2, 3] 2 5 rfl rfl (by decide) rfl (fun _ => by simp only [List.map]) (by decide) (by decide) rfl hl.1 rfl (Nat.le_of_ble_eq_true rfl) dX2_writeInto_5 ⟨Nat.zero_le _, Nat.zero_le _⟩ (fun _ H locs hw hP hD hS => ?_)
  have hP : va_P D vwCl [(pd0, .inr (2, [.ref pd1, .int ln])), (pd1, .inl (cI, 60, .inl pd)), (g0, .inr (5, [.int ((0 : Int32) + 1), .ref g1, .ref g2, .ref g3])), (g1, .inl (cI, 10, .inl (upd ft 0 0))), (g2, .inl (cI, 120, .inl bt)), (g3, .inl (cZ, 120, .inl mk))] H := hP
  have hD : va_D A [(pd0, .inr (2, [.ref pd1, .int ln])), (pd1, .inl (cI, 60, .inl pd)), (g0, .inr (5, [.int ((0 : Int32) + 1), .ref g1, .ref g2, .ref g3])), (g1, .inl (cI, 10, .inl (upd ft 0 0))), (g2, .inl (cI, 120, .inl bt)), (g3, .inl (cZ, 120, .inl mk))] := hD
  refine lv_iconst (v := 0) hx hb dX2_writeInto_8 (by decide) ?_
  refine lv_istore_n (lv' := [(2, .int 0), (0, .ref pd0), (1, .ref g0)]) hx hb dX2_writeInto_9 rfl hl (by decide) rfl (fun ls hl => ?_)
  have L10 : ∀ (n : Nat) (k : Int32) (gn1 : Int32) (ft1 : Nat → Int32) (bt1 : Nat → Int32) (mk1 : Nat → Int32) (hk : 0 ≤ k.toInt ∧ k.toInt ≤ ln.toInt) (hW : WrI pd k.toInt.toNat gn1 ft1 bt1 mk1) (hn10 : 60 - k.toInt.toNat < n) (H : Heap) (locs : List Loc), va_P D vwCl [(pd0, .inr (2, [.ref pd1, .int ln])), (pd1, .inl (cI, 60, .inl pd)), (g0, .inr (5, [.int gn1, .ref g1, .ref g2, .ref g3])), (g1, .inl (cI, 10, .inl ft1)), (g2, .inl (cI, 120, .inl bt1)), (g3, .inl (cZ, 120, .inl mk1))] H → va_D A [(pd0, .inr (2, [.ref pd1, .int ln])), (pd1, .inl (cI, 60, .inl pd)), (g0, .inr (5, [.int gn1, .ref g1, .ref g2, .ref g3])), (g1, .inl (cI, 10, .inl ft1)), (g2, .inl (cI, 120, .inl bt1)), (g3, .inl (cZ, 120, .inl mk1))] → va_S A s.heap H locs → ∀ ls : Array Slot, lv_has ls 4 [(2, .int k), (0, .ref pd0), (1, .ref g0)] → W p l e ({ frames := 3, cells := 0, slots := 0, locals := 65 } : Room) s m args below meth c H locs 0 0 Q (F0 m 10 ls []) := by
    intro n
    induction n with
    | zero =>
      intro k gn1 ft1 bt1 mk1 hk hW hn10
      exact absurd hn10 (Nat.not_lt_zero _)
    | succ n ih10 =>
      intro k gn1 ft1 bt1 mk1 hk hW hn10 H locs hP hD hS ls hl
      have hWi := WrI_in hW
      refine lv_iload_n hx hb dX2_writeInto_10 rfl (lv_at hl 0 rfl) ?_
      refine lv_aload_n hx hb dX2_writeInto_11 rfl (lv_at hl 1 rfl) ?_
      refine va_get (D := D) (ci := 2) (v := .int ln) (C := RX2) (T := TX2) (N := 2) hx hb hts xin2 hown hK hP 0 rfl rfl 1 (by decide) (hts _ (List.mem_cons_of_mem _ mw_1_190)) (fun _ h9 => h9) rfl dX2_writeInto_12 ?_
      refine lv_icmp_ge (tgt := 71) hx hb dX2_writeInto_15 (by decide) (fun c15 => ?_) (fun c15 => ?_)
      · have t15 : ln.toInt ≤ k.toInt := xi_le rfl rfl c15
        exact xk_retv (gn1, ft1, bt1, mk1) hx hb hr hlocks (xk_P hP (by rfl)) (by (try dsimp only); rw [show ln.toInt.toNat = k.toInt.toNat from by omega]; exact hW) hS dX2_writeInto_71 hQ
      · have t15 : k.toInt < ln.toInt := xi_nle rfl rfl c15
        refine lv_iload_n hx hb dX2_writeInto_18 rfl (lv_at hl 0 rfl) ?_
        refine lv_bipush (v := 60) hx hb dX2_writeInto_19 (by decide) ?_
        refine lv_icmp_ge (tgt := 71) hx hb dX2_writeInto_21 (by decide) (fun c21 => ?_) (fun c21 => ?_)
        · have t21 : 60 ≤ k.toInt := xi_le (by decide) rfl c21
          exact xk_retv (gn1, ft1, bt1, mk1) hx hb hr hlocks (xk_P hP (by rfl)) (by (try dsimp only); rw [show ln.toInt.toNat = k.toInt.toNat from by omega]; exact hW) hS dX2_writeInto_71 hQ
        · have t21 : k.toInt < 60 := xi_nle (by decide) rfl c21
          refine lv_aload_n hx hb dX2_writeInto_24 rfl (lv_at hl 1 rfl) ?_
          refine va_get (D := D) (ci := 2) (v := .ref pd1) (C := RX2) (T := TX2) (N := 2) hx hb hts xin2 hown hK hP 0 rfl rfl 0 (by decide) (hts _ (List.mem_cons_of_mem _ mw_1_189)) (fun _ h9 => h9) rfl dX2_writeInto_25 ?_
          refine lv_iload_n hx hb dX2_writeInto_28 rfl (lv_at hl 0 rfl) ?_
          refine va_iald hx hb hK hP 1 0 rfl rfl (xi_in (by omega) (by omega)) dX2_writeInto_29 ?_
          refine xk_top (z := pd k.toInt.toNat) (xk_rd (by omega)) ?_
          refine lv_topi (fun x29 e29 => ?_)
          refine lv_istore_n (lv' := [(3, .int x29), (2, .int k), (0, .ref pd0), (1, .ref g0)]) hx hb dX2_writeInto_30 rfl hl (by decide) rfl (fun ls hl => ?_)
          refine lv_iload_n hx hb dX2_writeInto_31 rfl (lv_at hl 0 rfl) ?_
          refine lv_bipush (v := 39) hx hb dX2_writeInto_32 (by decide) ?_
          refine lv_icmp_ne (tgt := 44) hx hb dX2_writeInto_34 (by decide) (fun c34 => ?_) (fun c34 => ?_)
          · have t34 : ¬ x29.toInt = 39 := xi_ne rfl (by decide) c34
            have d34 : ¬ x29 = 39 := c34
            have hc39 : ¬ pd k.toInt.toNat = 39 := by rw [← e29]; exact d34
            refine lv_iload_n hx hb dX2_writeInto_44 rfl (lv_at hl 0 rfl) ?_
            refine lv_bipush (v := 47) hx hb dX2_writeInto_45 (by decide) ?_
            refine lv_icmp_ne (tgt := 57) hx hb dX2_writeInto_47 (by decide) (fun c47 => ?_) (fun c47 => ?_)
            · have t47 : ¬ x29.toInt = 47 := xi_ne rfl (by decide) c47
              have d47 : ¬ x29 = 47 := c47
              have hc47 : ¬ pd k.toInt.toNat = 47 := by rw [← e29]; exact d47
              have hM := WrI_foot hn (by omega) hc39 hc47 hW
              refine lv_aload_n hx hb dX2_writeInto_57 rfl (lv_at hl 3 rfl) ?_
              refine lv_iload_n hx hb dX2_writeInto_58 rfl (lv_at hl 0 rfl) ?_
              refine xk_Si (As := [.int x29]) (rest := [.ref g0]) hx hb hml hown hts hK hN hZ hP hD hS hA mb_X2_beatsMeantBy mw_3_53 mw_3_54 (c_X2_beatsMeantBy l D cI cZ cS x29 ) [] (by decide) rfl (fun _ => by simp only [List.map]) (by decide) (by decide) rfl hl.1 rfl (Nat.le_of_ble_eq_true rfl) dX2_writeInto_59 ⟨Nat.zero_le _, Nat.zero_le _⟩ (fun r59 _ H locs hw hP hD hS => ?_)
              have hP : va_P D vwCl [(pd0, .inr (2, [.ref pd1, .int ln])), (pd1, .inl (cI, 60, .inl pd)), (g0, .inr (5, [.int gn1, .ref g1, .ref g2, .ref g3])), (g1, .inl (cI, 10, .inl ft1)), (g2, .inl (cI, 120, .inl bt1)), (g3, .inl (cZ, 120, .inl mk1))] H := hP
              have hD : va_D A [(pd0, .inr (2, [.ref pd1, .int ln])), (pd1, .inl (cI, 60, .inl pd)), (g0, .inr (5, [.int gn1, .ref g1, .ref g2, .ref g3])), (g1, .inl (cI, 10, .inl ft1)), (g2, .inl (cI, 120, .inl bt1)), (g3, .inl (cZ, 120, .inl mk1))] := hD
              have e59 : r59 = bOf x29 := hw
              refine xk_Vv (As := [.int r59]) (rest := []) hx hb hml hown hts hK hN hZ hP hD hS hA mb_X5_addFoot mw_3_73 mw_3_74 mw_3_75 (c_X5_addFoot l D cI cZ cS g0 g1 g2 g3 gn1 ft1 bt1 mk1 r59 (by omega) (by omega)) [2, 3, 4, 5] 2 5 rfl rfl (by decide) rfl (fun _ => by simp only [List.map]) (by decide) (by decide) rfl hl.1 rfl (Nat.le_of_ble_eq_true rfl) dX2_writeInto_62 ⟨Nat.zero_le _, Nat.zero_le _⟩ (fun _ H locs hw hP hD hS => ?_)
              have hP : va_P D vwCl [(pd0, .inr (2, [.ref pd1, .int ln])), (pd1, .inl (cI, 60, .inl pd)), (g0, .inr (5, [.int gn1, .ref g1, .ref g2, .ref g3])), (g1, .inl (cI, 10, .inl (upd ft1 (gn1.toInt.toNat - 1) (ft1 (gn1.toInt.toNat - 1) + 1)))), (g2, .inl (cI, 120, .inl (upd bt1 (12 * (gn1.toInt.toNat - 1) + (ft1 (gn1.toInt.toNat - 1)).toInt.toNat) r59))), (g3, .inl (cZ, 120, .inl (upd mk1 (12 * (gn1.toInt.toNat - 1) + (ft1 (gn1.toInt.toNat - 1)).toInt.toNat) 0)))] H := hP
              have hD : va_D A [(pd0, .inr (2, [.ref pd1, .int ln])), (pd1, .inl (cI, 60, .inl pd)), (g0, .inr (5, [.int gn1, .ref g1, .ref g2, .ref g3])), (g1, .inl (cI, 10, .inl (upd ft1 (gn1.toInt.toNat - 1) (ft1 (gn1.toInt.toNat - 1) + 1)))), (g2, .inl (cI, 120, .inl (upd bt1 (12 * (gn1.toInt.toNat - 1) + (ft1 (gn1.toInt.toNat - 1)).toInt.toNat) r59))), (g3, .inl (cZ, 120, .inl (upd mk1 (12 * (gn1.toInt.toNat - 1) + (ft1 (gn1.toInt.toNat - 1)).toInt.toNat) 0)))] := hD
              obtain ⟨x65, e65⟩ : ∃ y : Int32, y = k + 1 := ⟨_, rfl⟩
              have t65 : x65.toInt = k.toInt + 1 := by rw [e65]; exact xi_add rfl (by decide) (by omega) (by omega)
              refine lv_iinc (v := x65) (lv' := [(2, .int x65), (3, .int x29), (0, .ref pd0), (1, .ref g0)]) hx hb dX2_writeInto_65 hl (k := 1) rfl (by rw [e65]; rfl) (by decide) rfl (fun ls hl => ?_)
              refine lv_goto (tgt := 10) hx hb dX2_writeInto_68 (by decide) ?_
              have hW2 : WrI pd (k.toInt.toNat + 1) gn1 (upd ft1 (gn1.toInt.toNat - 1) (ft1 (gn1.toInt.toNat - 1) + 1)) (upd bt1 (12 * (gn1.toInt.toNat - 1) + (ft1 (gn1.toInt.toNat - 1)).toInt.toNat) r59) (upd mk1 (12 * (gn1.toInt.toNat - 1) + (ft1 (gn1.toInt.toNat - 1)).toInt.toNat) 0) := by have q := hM.2; rw [show bOf (pd k.toInt.toNat) = r59 from by rw [e59, e29]] at q; exact q
              exact ih10  x65 gn1 (upd ft1 (gn1.toInt.toNat - 1) (ft1 (gn1.toInt.toNat - 1) + 1)) (upd bt1 (12 * (gn1.toInt.toNat - 1) + (ft1 (gn1.toInt.toNat - 1)).toInt.toNat) r59) (upd mk1 (12 * (gn1.toInt.toNat - 1) + (ft1 (gn1.toInt.toNat - 1)).toInt.toNat) 0) (by omega) (by rw [show x65.toInt.toNat = k.toInt.toNat + 1 from by omega]; exact hW2) (by omega) _ _ hP hD hS ls (lv_sub hl [0, 2, 3] rfl)
            · have t47 : x29.toInt = 47 := xi_eq rfl (by decide) c47
              have d47 : x29 = 47 := c47
              have hc : pd k.toInt.toNat = 47 := by rw [← e29]; exact xi_ext (by rw [t47]; rfl)
              have hM := WrI_line hn (by omega) hc hW
              refine lv_aload_n hx hb dX2_writeInto_50 rfl (lv_at hl 3 rfl) ?_
              refine xk_Vv (As := []) (rest := []) hx hb hml hown hts hK hN hZ hP hD hS hA mb_X5_addLine mw_3_64 mw_3_65 mw_3_66 (c_X5_addLine l D cI cZ cS g0 g1 g2 g3 gn1 ft1 (by omega)) [2, 3] 2 5 rfl rfl (by decide) rfl (fun _ => by simp only [List.map]) (by decide) (by decide) rfl hl.1 rfl (Nat.le_of_ble_eq_true rfl) dX2_writeInto_51 ⟨Nat.zero_le _, Nat.zero_le _⟩ (fun _ H locs hw hP hD hS => ?_)
              have hP : va_P D vwCl [(pd0, .inr (2, [.ref pd1, .int ln])), (pd1, .inl (cI, 60, .inl pd)), (g0, .inr (5, [.int (gn1 + 1), .ref g1, .ref g2, .ref g3])), (g1, .inl (cI, 10, .inl (upd ft1 gn1.toInt.toNat 0))), (g2, .inl (cI, 120, .inl bt1)), (g3, .inl (cZ, 120, .inl mk1))] H := hP
              have hD : va_D A [(pd0, .inr (2, [.ref pd1, .int ln])), (pd1, .inl (cI, 60, .inl pd)), (g0, .inr (5, [.int (gn1 + 1), .ref g1, .ref g2, .ref g3])), (g1, .inl (cI, 10, .inl (upd ft1 gn1.toInt.toNat 0))), (g2, .inl (cI, 120, .inl bt1)), (g3, .inl (cZ, 120, .inl mk1))] := hD
              refine lv_goto (tgt := 65) hx hb dX2_writeInto_54 (by decide) ?_
              obtain ⟨x65, e65⟩ : ∃ y : Int32, y = k + 1 := ⟨_, rfl⟩
              have t65 : x65.toInt = k.toInt + 1 := by rw [e65]; exact xi_add rfl (by decide) (by omega) (by omega)
              refine lv_iinc (v := x65) (lv' := [(2, .int x65), (3, .int x29), (0, .ref pd0), (1, .ref g0)]) hx hb dX2_writeInto_65 hl (k := 1) rfl (by rw [e65]; rfl) (by decide) rfl (fun ls hl => ?_)
              refine lv_goto (tgt := 10) hx hb dX2_writeInto_68 (by decide) ?_
              have hW2 : WrI pd (k.toInt.toNat + 1) (gn1 + 1) (upd ft1 gn1.toInt.toNat 0) bt1 mk1 := by exact hM.2
              exact ih10  x65 (gn1 + 1) (upd ft1 gn1.toInt.toNat 0) bt1 mk1 (by omega) (by rw [show x65.toInt.toNat = k.toInt.toNat + 1 from by omega]; exact hW2) (by omega) _ _ hP hD hS ls (lv_sub hl [0, 2, 3] rfl)
          · have t34 : x29.toInt = 39 := xi_eq rfl (by decide) c34
            have d34 : x29 = 39 := c34
            have hc : pd k.toInt.toNat = 39 := by rw [← e29]; exact xi_ext (by rw [t34]; rfl)
            have hM := WrI_mark hn (by omega) hc hW
            refine lv_aload_n hx hb dX2_writeInto_37 rfl (lv_at hl 3 rfl) ?_
            refine xk_Vv (As := []) (rest := []) hx hb hml hown hts hK hN hZ hP hD hS hA mb_X5_markLastFoot mw_3_68 mw_3_69 mw_3_70 (c_X5_markLastFoot l D cI cZ cS g0 g1 g2 g3 gn1 ft1 mk1 (by omega) (by exact hM.1)) [2, 3, 5] 2 5 rfl rfl (by decide) rfl (fun _ => by simp only [List.map]) (by decide) (by decide) rfl hl.1 rfl (Nat.le_of_ble_eq_true rfl) dX2_writeInto_38 ⟨Nat.zero_le _, Nat.zero_le _⟩ (fun _ H locs hw hP hD hS => ?_)
            have hP : va_P D vwCl [(pd0, .inr (2, [.ref pd1, .int ln])), (pd1, .inl (cI, 60, .inl pd)), (g0, .inr (5, [.int gn1, .ref g1, .ref g2, .ref g3])), (g1, .inl (cI, 10, .inl ft1)), (g2, .inl (cI, 120, .inl bt1)), (g3, .inl (cZ, 120, .inl (upd mk1 (12 * (gn1.toInt.toNat - 1) + (ft1 (gn1.toInt.toNat - 1)).toInt.toNat - 1) 1)))] H := hP
            have hD : va_D A [(pd0, .inr (2, [.ref pd1, .int ln])), (pd1, .inl (cI, 60, .inl pd)), (g0, .inr (5, [.int gn1, .ref g1, .ref g2, .ref g3])), (g1, .inl (cI, 10, .inl ft1)), (g2, .inl (cI, 120, .inl bt1)), (g3, .inl (cZ, 120, .inl (upd mk1 (12 * (gn1.toInt.toNat - 1) + (ft1 (gn1.toInt.toNat - 1)).toInt.toNat - 1) 1)))] := hD
            refine lv_goto (tgt := 65) hx hb dX2_writeInto_41 (by decide) ?_
            obtain ⟨x65, e65⟩ : ∃ y : Int32, y = k + 1 := ⟨_, rfl⟩
            have t65 : x65.toInt = k.toInt + 1 := by rw [e65]; exact xi_add rfl (by decide) (by omega) (by omega)
            refine lv_iinc (v := x65) (lv' := [(2, .int x65), (3, .int x29), (0, .ref pd0), (1, .ref g0)]) hx hb dX2_writeInto_65 hl (k := 1) rfl (by rw [e65]; rfl) (by decide) rfl (fun ls hl => ?_)
            refine lv_goto (tgt := 10) hx hb dX2_writeInto_68 (by decide) ?_
            have hW2 : WrI pd (k.toInt.toNat + 1) gn1 ft1 bt1 (upd mk1 (12 * (gn1.toInt.toNat - 1) + (ft1 (gn1.toInt.toNat - 1)).toInt.toNat - 1) 1) := by exact hM.2
            exact ih10  x65 gn1 ft1 bt1 (upd mk1 (12 * (gn1.toInt.toNat - 1) + (ft1 (gn1.toInt.toNat - 1)).toInt.toNat - 1) 1) (by omega) (by rw [show x65.toInt.toNat = k.toInt.toNat + 1 from by omega]; exact hW2) (by omega) _ _ hP hD hS ls (lv_sub hl [0, 2, 3] rfl)
  exact L10 61 (0 : Int32) ((0 : Int32) + 1) (upd ft (0 : Int32).toInt.toNat 0) bt mk (by rw [show (0 : Int32).toInt = 0 from by decide]; omega) (by exact WrI_0 pd ft bt mk hmk) (by decide) _ _ hP hD hS ls (lv_sub hl [0, 1, 2] rfl)
