set_option maxHeartbeats 4000000 in
set_option maxRecDepth 100000 in
theorem c_X8_sungIn (l : Launch) (D : va_G) (cI cZ cS : ClassId) (h h1 h2 h3 h4 h5 h6 h7 h8 : Nat) (gst gty gse gte gsp gtl : Int32) (z : Nat → Int32) (p1 : Int32) (hl1 : 0 ≤ p1.toInt ∧ p1.toInt ≤ 9) (hl2 : 0 ≤ (z (8 + p1.toInt.toNat)).toInt ∧ (z (8 + p1.toInt.toNat)).toInt ≤ 12) : xMi l yX8_sungIn cX8_sungIn 4 (some .int) ({ frames := 1, cells := 0, slots := 0, locals := 22 } : Room) D (xTy cI cZ cS) [.ref h, .int p1] [(h, .inr (8, [.ref h1, .ref h2, .ref h3, .int gst, .ref h4, .ref h5, .ref h6, .int gty, .int gse, .int gte, .int gsp, .ref h7, .ref h8, .int gtl])), (h1, .inl (cI, 190, .inl z))] (fun (r : Int32) (_ : Unit) => r = sungL z p1.toInt.toNat) (fun (_ : Unit) => [(h, .inr (8, [.ref h1, .ref h2, .ref h3, .int gst, .ref h4, .ref h5, .ref h6, .int gty, .int gse, .int gte, .int gsp, .ref h7, .ref h8, .int gtl])), (h1, .inl (cI, 190, .inl z))]) := by
  refine xk_bodyi (by decide) (Nat.le_of_ble_eq_true rfl) ?_
  intro p e s m below meth c A ls args Q hx hb hr hts hown hlocks hml hin hK hP hD hS hA hN hZ hl hQ
  have hl : lv_has ls 4 [(0, .ref h), (1, .int p1)] := hl
  refine lv_iconst (v := 0) hx hb dX8_sungIn_0 (by decide) ?_
  refine lv_istore_n (lv' := [(2, .int 0), (0, .ref h), (1, .int p1)]) hx hb dX8_sungIn_1 rfl hl (by decide) rfl (fun ls hl => ?_)
  refine lv_iconst (v := 0) hx hb dX8_sungIn_2 (by decide) ?_
  refine lv_istore_n (lv' := [(3, .int 0), (2, .int 0), (0, .ref h), (1, .int p1)]) hx hb dX8_sungIn_3 rfl hl (by decide) rfl (fun ls hl => ?_)
  have L4 : ∀ (n : Nat) (k : Int32) (a : Int32) (hk : 0 ≤ k.toInt ∧ k.toInt ≤ (z (8 + p1.toInt.toNat)).toInt) (hs : a = sumB z p1.toInt.toNat k.toInt.toNat) (hn4 : 12 - k.toInt.toNat < n) (H : Heap) (locs : List Loc), va_P D vwCl [(h, .inr (8, [.ref h1, .ref h2, .ref h3, .int gst, .ref h4, .ref h5, .ref h6, .int gty, .int gse, .int gte, .int gsp, .ref h7, .ref h8, .int gtl])), (h1, .inl (cI, 190, .inl z))] H → va_D A [(h, .inr (8, [.ref h1, .ref h2, .ref h3, .int gst, .ref h4, .ref h5, .ref h6, .int gty, .int gse, .int gte, .int gsp, .ref h7, .ref h8, .int gtl])), (h1, .inl (cI, 190, .inl z))] → va_S A s.heap H locs → ∀ ls : Array Slot, lv_has ls 4 [(3, .int k), (2, .int a), (0, .ref h), (1, .int p1)] → W p l e ({ frames := 1, cells := 0, slots := 0, locals := 22 } : Room) s m args below meth c H locs 0 0 Q (F0 m 4 ls []) := by
    intro n
    induction n with
    | zero =>
      intro k a hk hs hn4
      exact absurd hn4 (Nat.not_lt_zero _)
    | succ n ih4 =>
      intro k a hk hs hn4 H locs hP hD hS ls hl
      refine lv_iload_n hx hb dX8_sungIn_4 rfl (lv_at hl 0 rfl) ?_
      refine lv_aload_n hx hb dX8_sungIn_5 rfl (lv_at hl 2 rfl) ?_
      refine va_get (D := D) (ci := 8) (v := .ref h1) (C := RX8) (T := TX8) (N := 14) hx hb hts xin8 hown hK hP 0 rfl rfl 0 (by decide) (hts _ (List.mem_cons_of_mem _ mw_3_89)) (fun _ h9 => h9) rfl dX8_sungIn_6 ?_
      refine lv_bipush (v := 8) hx hb dX8_sungIn_9 (by decide) ?_
      refine lv_iload_n hx hb dX8_sungIn_11 rfl (lv_at hl 3 rfl) ?_
      refine lv_iadd hx hb dX8_sungIn_12 ?_
      refine lv_topi (fun x12 e12 => ?_)
      have t12 : x12.toInt = 8 + p1.toInt := by rw [e12]; exact xi_add (by decide) rfl (by omega) (by omega)
      refine va_iald hx hb hK hP 1 0 rfl rfl (xi_in (by omega) (by omega)) dX8_sungIn_13 ?_
      refine xk_top (z := z (8 + p1.toInt.toNat)) (xk_rd (by omega)) ?_
      refine lv_topi (fun x13 e13 => ?_)
      refine lv_icmp_ge (tgt := 32) hx hb dX8_sungIn_14 (by decide) (fun c14 => ?_) (fun c14 => ?_)
      · have t14 : x13.toInt ≤ k.toInt := xi_le rfl rfl c14
        refine lv_iload_n hx hb dX8_sungIn_32 rfl (lv_at hl 1 rfl) ?_
        rw [e13] at t14
        rw [show k.toInt.toNat = (z (8 + p1.toInt.toNat)).toInt.toNat from by omega] at hs
        exact xk_reti () hx hb hr hlocks (xk_P hP (by rfl)) (by rw [hs]; rfl) hS dX8_sungIn_33 hQ
      · have t14 : k.toInt < x13.toInt := xi_nle rfl rfl c14
        refine lv_iload_n hx hb dX8_sungIn_17 rfl (lv_at hl 1 rfl) ?_
        refine lv_aload_n hx hb dX8_sungIn_18 rfl (lv_at hl 2 rfl) ?_
        refine lv_iload_n hx hb dX8_sungIn_19 rfl (lv_at hl 3 rfl) ?_
        refine lv_iload_n hx hb dX8_sungIn_20 rfl (lv_at hl 0 rfl) ?_
        refine xk_Vi (As := [.int p1, .int k]) (rest := [.int a]) hx hb hml hown hts hK hN hZ hP hD hS hA mb_X8_beatsOf mw_3_186 mw_3_188 mw_0_14 (c_X8_beatsOf l D cI cZ cS h h1 h2 h3 h4 h5 h6 h7 h8 gst gty gse gte gsp gtl z p1 k (by omega) (by rw [e13] at t14; omega)) [0, 1] 0 8 rfl rfl (by decide) rfl (fun _ => by simp only [List.map]) (by decide) (by decide) rfl hl.1 rfl (Nat.le_of_ble_eq_true rfl) dX8_sungIn_21 ⟨Nat.zero_le _, Nat.zero_le _⟩ (fun r21 _ H locs hw hP hD hS => ?_)
        have hP : va_P D vwCl [(h, .inr (8, [.ref h1, .ref h2, .ref h3, .int gst, .ref h4, .ref h5, .ref h6, .int gty, .int gse, .int gte, .int gsp, .ref h7, .ref h8, .int gtl])), (h1, .inl (cI, 190, .inl z))] H := hP
        have hD : va_D A [(h, .inr (8, [.ref h1, .ref h2, .ref h3, .int gst, .ref h4, .ref h5, .ref h6, .int gty, .int gse, .int gte, .int gsp, .ref h7, .ref h8, .int gtl])), (h1, .inl (cI, 190, .inl z))] := hD
        have e21 : r21 = btZ z p1.toInt.toNat k.toInt.toNat := hw
        refine lv_iadd hx hb dX8_sungIn_24 ?_
        refine lv_topi (fun x24 e24 => ?_)
        refine lv_istore_n (lv' := [(2, .int x24), (3, .int k), (0, .ref h), (1, .int p1)]) hx hb dX8_sungIn_25 rfl hl (by decide) rfl (fun ls hl => ?_)
        obtain ⟨x26, e26⟩ : ∃ y : Int32, y = k + 1 := ⟨_, rfl⟩
        have t26 : x26.toInt = k.toInt + 1 := by rw [e26]; exact xi_add rfl (by decide) (by omega) (by omega)
        refine lv_iinc (v := x26) (lv' := [(3, .int x26), (2, .int x24), (0, .ref h), (1, .int p1)]) hx hb dX8_sungIn_26 hl (k := 1) rfl (by rw [e26]; rfl) (by decide) rfl (fun ls hl => ?_)
        refine lv_goto (tgt := 4) hx hb dX8_sungIn_29 (by decide) ?_
        rw [e13] at t14
        have hkk : x26.toInt.toNat = k.toInt.toNat + 1 := by omega
        exact ih4  x26 x24 (by omega) (by rw [hkk, e24, hs, e21]; rfl) (by omega) _ _ hP hD hS ls (lv_sub hl [0, 1, 2, 3] rfl)
  exact L4 13 (0 : Int32) (0 : Int32) (by rw [show (0 : Int32).toInt = 0 from by decide]; omega) (by rfl) (by decide) _ _ hP hD hS ls (lv_sub hl [0, 1, 2, 3] rfl)

set_option maxHeartbeats 4000000 in
set_option maxRecDepth 100000 in
theorem c_X8_marksIn (l : Launch) (D : va_G) (cI cZ cS : ClassId) (h h1 h2 h3 h4 h5 h6 h7 h8 : Nat) (gst gty gse gte gsp gtl : Int32) (z : Nat → Int32) (p1 : Int32) (hl1 : 0 ≤ p1.toInt ∧ p1.toInt ≤ 9) (hl2 : 0 ≤ (z (8 + p1.toInt.toNat)).toInt ∧ (z (8 + p1.toInt.toNat)).toInt ≤ 12) : xMi l yX8_marksIn cX8_marksIn 4 (some .int) ({ frames := 1, cells := 0, slots := 0, locals := 22 } : Room) D (xTy cI cZ cS) [.ref h, .int p1] [(h, .inr (8, [.ref h1, .ref h2, .ref h3, .int gst, .ref h4, .ref h5, .ref h6, .int gty, .int gse, .int gte, .int gsp, .ref h7, .ref h8, .int gtl])), (h1, .inl (cI, 190, .inl z))] (fun (r : Int32) (_ : Unit) => r = marksL z p1.toInt.toNat) (fun (_ : Unit) => [(h, .inr (8, [.ref h1, .ref h2, .ref h3, .int gst, .ref h4, .ref h5, .ref h6, .int gty, .int gse, .int gte, .int gsp, .ref h7, .ref h8, .int gtl])), (h1, .inl (cI, 190, .inl z))]) := by
  refine xk_bodyi (by decide) (Nat.le_of_ble_eq_true rfl) ?_
  intro p e s m below meth c A ls args Q hx hb hr hts hown hlocks hml hin hK hP hD hS hA hN hZ hl hQ
  have hl : lv_has ls 4 [(0, .ref h), (1, .int p1)] := hl
  refine lv_iconst (v := 0) hx hb dX8_marksIn_0 (by decide) ?_
  refine lv_istore_n (lv' := [(2, .int 0), (0, .ref h), (1, .int p1)]) hx hb dX8_marksIn_1 rfl hl (by decide) rfl (fun ls hl => ?_)
  refine lv_iconst (v := 0) hx hb dX8_marksIn_2 (by decide) ?_
  refine lv_istore_n (lv' := [(3, .int 0), (2, .int 0), (0, .ref h), (1, .int p1)]) hx hb dX8_marksIn_3 rfl hl (by decide) rfl (fun ls hl => ?_)
  have L4 : ∀ (n : Nat) (k : Int32) (a : Int32) (hk : 0 ≤ k.toInt ∧ k.toInt ≤ (z (8 + p1.toInt.toNat)).toInt) (hs : a = cntM z p1.toInt.toNat k.toInt.toNat) (hn4 : 12 - k.toInt.toNat < n) (H : Heap) (locs : List Loc), va_P D vwCl [(h, .inr (8, [.ref h1, .ref h2, .ref h3, .int gst, .ref h4, .ref h5, .ref h6, .int gty, .int gse, .int gte, .int gsp, .ref h7, .ref h8, .int gtl])), (h1, .inl (cI, 190, .inl z))] H → va_D A [(h, .inr (8, [.ref h1, .ref h2, .ref h3, .int gst, .ref h4, .ref h5, .ref h6, .int gty, .int gse, .int gte, .int gsp, .ref h7, .ref h8, .int gtl])), (h1, .inl (cI, 190, .inl z))] → va_S A s.heap H locs → ∀ ls : Array Slot, lv_has ls 4 [(3, .int k), (2, .int a), (0, .ref h), (1, .int p1)] → W p l e ({ frames := 1, cells := 0, slots := 0, locals := 22 } : Room) s m args below meth c H locs 0 0 Q (F0 m 4 ls []) := by
    intro n
    induction n with
    | zero =>
      intro k a hk hs hn4
      exact absurd hn4 (Nat.not_lt_zero _)
    | succ n ih4 =>
      intro k a hk hs hn4 H locs hP hD hS ls hl
      refine lv_iload_n hx hb dX8_marksIn_4 rfl (lv_at hl 0 rfl) ?_
      refine lv_aload_n hx hb dX8_marksIn_5 rfl (lv_at hl 2 rfl) ?_
      refine va_get (D := D) (ci := 8) (v := .ref h1) (C := RX8) (T := TX8) (N := 14) hx hb hts xin8 hown hK hP 0 rfl rfl 0 (by decide) (hts _ (List.mem_cons_of_mem _ mw_3_89)) (fun _ h9 => h9) rfl dX8_marksIn_6 ?_
      refine lv_bipush (v := 8) hx hb dX8_marksIn_9 (by decide) ?_
      refine lv_iload_n hx hb dX8_marksIn_11 rfl (lv_at hl 3 rfl) ?_
      refine lv_iadd hx hb dX8_marksIn_12 ?_
      refine lv_topi (fun x12 e12 => ?_)
      have t12 : x12.toInt = 8 + p1.toInt := by rw [e12]; exact xi_add (by decide) rfl (by omega) (by omega)
      refine va_iald hx hb hK hP 1 0 rfl rfl (xi_in (by omega) (by omega)) dX8_marksIn_13 ?_
      refine xk_top (z := z (8 + p1.toInt.toNat)) (xk_rd (by omega)) ?_
      refine lv_topi (fun x13 e13 => ?_)
      refine lv_icmp_ge (tgt := 40) hx hb dX8_marksIn_14 (by decide) (fun c14 => ?_) (fun c14 => ?_)
      · have t14 : x13.toInt ≤ k.toInt := xi_le rfl rfl c14
        refine lv_iload_n hx hb dX8_marksIn_40 rfl (lv_at hl 1 rfl) ?_
        rw [e13] at t14
        rw [show k.toInt.toNat = (z (8 + p1.toInt.toNat)).toInt.toNat from by omega] at hs
        exact xk_reti () hx hb hr hlocks (xk_P hP (by rfl)) (by rw [hs]; rfl) hS dX8_marksIn_41 hQ
      · have t14 : k.toInt < x13.toInt := xi_nle rfl rfl c14
        refine lv_iload_n hx hb dX8_marksIn_17 rfl (lv_at hl 1 rfl) ?_
        refine lv_aload_n hx hb dX8_marksIn_18 rfl (lv_at hl 2 rfl) ?_
        refine lv_iload_n hx hb dX8_marksIn_19 rfl (lv_at hl 3 rfl) ?_
        refine lv_iload_n hx hb dX8_marksIn_20 rfl (lv_at hl 0 rfl) ?_
        refine xk_Vi (As := [.int p1, .int k]) (rest := [.int a]) hx hb hml hown hts hK hN hZ hP hD hS hA mb_X8_hasMark mw_3_190 mw_3_192 mw_0_15 (c_X8_hasMark l D cI cZ cS h h1 h2 h3 h4 h5 h6 h7 h8 gst gty gse gte gsp gtl z p1 k (by omega) (by rw [e13] at t14; omega)) [0, 1] 0 8 rfl rfl (by decide) rfl (fun _ => by simp only [List.map]) (by decide) (by decide) rfl hl.1 rfl (Nat.le_of_ble_eq_true rfl) dX8_marksIn_21 ⟨Nat.zero_le _, Nat.zero_le _⟩ (fun r21 _ H locs hw hP hD hS => ?_)
        have hP : va_P D vwCl [(h, .inr (8, [.ref h1, .ref h2, .ref h3, .int gst, .ref h4, .ref h5, .ref h6, .int gty, .int gse, .int gte, .int gsp, .ref h7, .ref h8, .int gtl])), (h1, .inl (cI, 190, .inl z))] H := hP
        have hD : va_D A [(h, .inr (8, [.ref h1, .ref h2, .ref h3, .int gst, .ref h4, .ref h5, .ref h6, .int gty, .int gse, .int gte, .int gsp, .ref h7, .ref h8, .int gtl])), (h1, .inl (cI, 190, .inl z))] := hD
        rcases hw with ⟨rfl, b21⟩ | ⟨rfl, b21⟩
        · have b21 : mkZ z p1.toInt.toNat k.toInt.toNat := b21
          refine lv_if_eq (tgt := 31) hx hb dX8_marksIn_24 (by decide) (fun c24 => absurd c24 (by decide)) (fun _ => ?_)
          refine lv_iconst (v := 1) hx hb dX8_marksIn_27 (by decide) ?_
          refine lv_goto (tgt := 32) hx hb dX8_marksIn_28 (by decide) ?_
          refine lv_iadd hx hb dX8_marksIn_32 ?_
          refine lv_topi (fun x32 e32 => ?_)
          refine lv_istore_n (lv' := [(2, .int x32), (3, .int k), (0, .ref h), (1, .int p1)]) hx hb dX8_marksIn_33 rfl hl (by decide) rfl (fun ls hl => ?_)
          obtain ⟨x34, e34⟩ : ∃ y : Int32, y = k + 1 := ⟨_, rfl⟩
          have t34 : x34.toInt = k.toInt + 1 := by rw [e34]; exact xi_add rfl (by decide) (by omega) (by omega)
          refine lv_iinc (v := x34) (lv' := [(3, .int x34), (2, .int x32), (0, .ref h), (1, .int p1)]) hx hb dX8_marksIn_34 hl (k := 1) rfl (by rw [e34]; rfl) (by decide) rfl (fun ls hl => ?_)
          refine lv_goto (tgt := 4) hx hb dX8_marksIn_37 (by decide) ?_
          rw [e13] at t14
          have hkk : x34.toInt.toNat = k.toInt.toNat + 1 := by omega
          exact ih4  x34 x32 (by omega) (by rw [hkk, cntM, if_pos b21, e32, hs]) (by omega) _ _ hP hD hS ls (lv_sub hl [0, 1, 2, 3] rfl)
        · have b21 : ¬ (mkZ z p1.toInt.toNat k.toInt.toNat) := b21
          refine lv_if_eq (tgt := 31) hx hb dX8_marksIn_24 (by decide) (fun _ => ?_) (fun c24 => absurd (by decide) c24)
          refine lv_iconst (v := 0) hx hb dX8_marksIn_31 (by decide) ?_
          refine lv_iadd hx hb dX8_marksIn_32 ?_
          refine lv_topi (fun x32 e32 => ?_)
          refine lv_istore_n (lv' := [(2, .int x32), (3, .int k), (0, .ref h), (1, .int p1)]) hx hb dX8_marksIn_33 rfl hl (by decide) rfl (fun ls hl => ?_)
          obtain ⟨x34, e34⟩ : ∃ y : Int32, y = k + 1 := ⟨_, rfl⟩
          have t34 : x34.toInt = k.toInt + 1 := by rw [e34]; exact xi_add rfl (by decide) (by omega) (by omega)
          refine lv_iinc (v := x34) (lv' := [(3, .int x34), (2, .int x32), (0, .ref h), (1, .int p1)]) hx hb dX8_marksIn_34 hl (k := 1) rfl (by rw [e34]; rfl) (by decide) rfl (fun ls hl => ?_)
          refine lv_goto (tgt := 4) hx hb dX8_marksIn_37 (by decide) ?_
          rw [e13] at t14
          have hkk : x34.toInt.toNat = k.toInt.toNat + 1 := by omega
          exact ih4  x34 x32 (by omega) (by rw [hkk, cntM, if_neg b21, e32, hs]) (by omega) _ _ hP hD hS ls (lv_sub hl [0, 1, 2, 3] rfl)
  exact L4 13 (0 : Int32) (0 : Int32) (by rw [show (0 : Int32).toInt = 0 from by decide]; omega) (by rfl) (by decide) _ _ hP hD hS ls (lv_sub hl [0, 1, 2, 3] rfl)

set_option maxHeartbeats 4000000 in
set_option maxRecDepth 100000 in
theorem c_X8_line (l : Launch) (D : va_G) (cI cZ cS : ClassId) (h h1 h2 h3 h4 h5 h6 h7 h8 : Nat) (gst gty gse gte gsp gtl : Int32) (z : Nat → Int32) (p1 p2 : Int32) (hg : SongOK z) : xMi l yX8_line cX8_line 3 (some .int) ({ frames := 2, cells := 0, slots := 0, locals := 45 } : Room) D (xTy cI cZ cS) [.ref h, .int p1, .int p2] [(h, .inr (8, [.ref h1, .ref h2, .ref h3, .int gst, .ref h4, .ref h5, .ref h6, .int gty, .int gse, .int gte, .int gsp, .ref h7, .ref h8, .int gtl])), (h1, .inl (cI, 190, .inl z))] (fun (r : Int32) (_ : Unit) => r = lineR z p1 p2) (fun (_ : Unit) => [(h, .inr (8, [.ref h1, .ref h2, .ref h3, .int gst, .ref h4, .ref h5, .ref h6, .int gty, .int gse, .int gte, .int gsp, .ref h7, .ref h8, .int gtl])), (h1, .inl (cI, 190, .inl z))]) := by
  refine xk_bodyi (by decide) (Nat.le_of_ble_eq_true rfl) ?_
  intro p e s m below meth c A ls args Q hx hb hr hts hown hlocks hml hin hK hP hD hS hA hN hZ hl hQ
  have hl : lv_has ls 3 [(0, .ref h), (1, .int p1), (2, .int p2)] := hl
  have hq0 := hg.1
  refine lv_aload_n hx hb dX8_line_0 rfl (lv_at hl 0 rfl) ?_
  refine lv_iload_n hx hb dX8_line_1 rfl (lv_at hl 1 rfl) ?_
  refine xk_Vi (As := [.int p1]) (rest := []) hx hb hml hown hts hK hN hZ hP hD hS hA mb_X8_isLine mw_4_14 mw_4_16 mw_0_21 (c_X8_isLine l D cI cZ cS h h1 h2 h3 h4 h5 h6 h7 h8 gst gty gse gte gsp gtl z p1 (by omega)) [0, 1] 0 8 rfl rfl (by decide) rfl (fun _ => by simp only [List.map]) (by decide) (by decide) rfl hl.1 rfl (Nat.le_of_ble_eq_true rfl) dX8_line_2 ⟨Nat.zero_le _, Nat.zero_le _⟩ (fun r2 _ H locs hw hP hD hS => ?_)
  have hP : va_P D vwCl [(h, .inr (8, [.ref h1, .ref h2, .ref h3, .int gst, .ref h4, .ref h5, .ref h6, .int gty, .int gse, .int gte, .int gsp, .ref h7, .ref h8, .int gtl])), (h1, .inl (cI, 190, .inl z))] H := hP
  have hD : va_D A [(h, .inr (8, [.ref h1, .ref h2, .ref h3, .int gst, .ref h4, .ref h5, .ref h6, .int gty, .int gse, .int gte, .int gsp, .ref h7, .ref h8, .int gtl])), (h1, .inl (cI, 190, .inl z))] := hD
  rcases hw with ⟨rfl, b2⟩ | ⟨rfl, b2⟩
  · have b2 : 0 ≤ p1.toInt ∧ p1.toInt < (z 6).toInt := b2
    have hq := (hg.2 p1.toInt.toNat (by omega)).1
    refine lv_if_ne (tgt := 10) hx hb dX8_line_5 (by decide) (fun _ => ?_) (fun c5 => absurd c5 (by decide))
    refine lv_iload_n hx hb dX8_line_10 rfl (lv_at hl 2 rfl) ?_
    have h11 : p2.toInt < 0 ∨ 3 < p2.toInt ∨ p2.toInt = 0 ∨ p2.toInt = 1 ∨ p2.toInt = 2 ∨ p2.toInt = 3 := by omega
    rcases h11 with t11 | t11 | t11 | t11 | t11 | t11
    · refine lv_tableOut (tgt := 81) hx hb dX8_line_11 (by first | exact Or.inl t11 | exact Or.inr t11) (by decide) ?_
      refine lv_bipush (v := (-2)) hx hb dX8_line_81 (by decide) ?_
      exact xk_reti () hx hb hr hlocks (xk_P hP (by rfl)) (by rw [lineR, if_pos b2, if_neg (by omega), if_neg (by omega), if_neg (by omega), if_neg (by omega)]) hS dX8_line_83 hQ
    · refine lv_tableOut (tgt := 81) hx hb dX8_line_11 (by first | exact Or.inl t11 | exact Or.inr t11) (by decide) ?_
      refine lv_bipush (v := (-2)) hx hb dX8_line_81 (by decide) ?_
      exact xk_reti () hx hb hr hlocks (xk_P hP (by rfl)) (by rw [lineR, if_pos b2, if_neg (by omega), if_neg (by omega), if_neg (by omega), if_neg (by omega)]) hS dX8_line_83 hQ
    · refine lv_tableIn (off := 29) (tgt := 40) hx hb dX8_line_11 (by rw [t11]; decide) (by rw [t11]; decide) (by rw [t11]; rfl) (by decide) ?_
      refine lv_aload_n hx hb dX8_line_40 rfl (lv_at hl 0 rfl) ?_
      refine va_get (D := D) (ci := 8) (v := .ref h1) (C := RX8) (T := TX8) (N := 14) hx hb hts xin8 hown hK hP 0 rfl rfl 0 (by decide) (hts _ (List.mem_cons_of_mem _ mw_3_89)) (fun _ h9 => h9) rfl dX8_line_41 ?_
      refine lv_bipush (v := 8) hx hb dX8_line_44 (by decide) ?_
      refine lv_iload_n hx hb dX8_line_46 rfl (lv_at hl 1 rfl) ?_
      refine lv_iadd hx hb dX8_line_47 ?_
      refine lv_topi (fun x47 e47 => ?_)
      have t47 : x47.toInt = 8 + p1.toInt := by rw [e47]; exact xi_add (by decide) rfl (by omega) (by omega)
      refine va_iald hx hb hK hP 1 0 rfl rfl (xi_in (by omega) (by omega)) dX8_line_48 ?_
      refine xk_top (z := z (8 + p1.toInt.toNat)) (xk_rd (by omega)) ?_
      refine lv_topi (fun x48 e48 => ?_)
      exact xk_reti () hx hb hr hlocks (xk_P hP (by rfl)) (by rw [lineR, if_pos b2, if_pos t11, e48]) hS dX8_line_49 hQ
    · refine lv_tableIn (off := 39) (tgt := 50) hx hb dX8_line_11 (by rw [t11]; decide) (by rw [t11]; decide) (by rw [t11]; rfl) (by decide) ?_
      refine lv_aload_n hx hb dX8_line_50 rfl (lv_at hl 0 rfl) ?_
      refine lv_iload_n hx hb dX8_line_51 rfl (lv_at hl 1 rfl) ?_
      refine xk_Vi (As := [.int p1]) (rest := []) hx hb hml hown hts hK hN hZ hP hD hS hA mb_X8_sungIn mw_4_18 mw_4_20 mw_0_22 (c_X8_sungIn l D cI cZ cS h h1 h2 h3 h4 h5 h6 h7 h8 gst gty gse gte gsp gtl z p1 (by first | omega | decide | assumption) (by first | omega | decide | assumption)) [0, 1] 0 8 rfl rfl (by decide) rfl (fun _ => by simp only [List.map]) (by decide) (by decide) rfl hl.1 rfl (Nat.le_of_ble_eq_true rfl) dX8_line_52 ⟨Nat.zero_le _, Nat.zero_le _⟩ (fun r52 _ H locs hw hP hD hS => ?_)
      have hP : va_P D vwCl [(h, .inr (8, [.ref h1, .ref h2, .ref h3, .int gst, .ref h4, .ref h5, .ref h6, .int gty, .int gse, .int gte, .int gsp, .ref h7, .ref h8, .int gtl])), (h1, .inl (cI, 190, .inl z))] H := hP
      have hD : va_D A [(h, .inr (8, [.ref h1, .ref h2, .ref h3, .int gst, .ref h4, .ref h5, .ref h6, .int gty, .int gse, .int gte, .int gsp, .ref h7, .ref h8, .int gtl])), (h1, .inl (cI, 190, .inl z))] := hD
      have e52 : r52 = sungL z p1.toInt.toNat := hw
      exact xk_reti () hx hb hr hlocks (xk_P hP (by rfl)) (by rw [lineR, if_pos b2, if_neg (by omega), if_pos t11, e52]) hS dX8_line_55 hQ
    · refine lv_tableIn (off := 45) (tgt := 56) hx hb dX8_line_11 (by rw [t11]; decide) (by rw [t11]; decide) (by rw [t11]; rfl) (by decide) ?_
      refine lv_aload_n hx hb dX8_line_56 rfl (lv_at hl 0 rfl) ?_
      refine lv_iload_n hx hb dX8_line_57 rfl (lv_at hl 1 rfl) ?_
      refine xk_Vi (As := [.int p1]) (rest := []) hx hb hml hown hts hK hN hZ hP hD hS hA mb_X8_marksIn mw_4_22 mw_4_24 mw_0_23 (c_X8_marksIn l D cI cZ cS h h1 h2 h3 h4 h5 h6 h7 h8 gst gty gse gte gsp gtl z p1 (by first | omega | decide | assumption) (by first | omega | decide | assumption)) [0, 1] 0 8 rfl rfl (by decide) rfl (fun _ => by simp only [List.map]) (by decide) (by decide) rfl hl.1 rfl (Nat.le_of_ble_eq_true rfl) dX8_line_58 ⟨Nat.zero_le _, Nat.zero_le _⟩ (fun r58 _ H locs hw hP hD hS => ?_)
      have hP : va_P D vwCl [(h, .inr (8, [.ref h1, .ref h2, .ref h3, .int gst, .ref h4, .ref h5, .ref h6, .int gty, .int gse, .int gte, .int gsp, .ref h7, .ref h8, .int gtl])), (h1, .inl (cI, 190, .inl z))] H := hP
      have hD : va_D A [(h, .inr (8, [.ref h1, .ref h2, .ref h3, .int gst, .ref h4, .ref h5, .ref h6, .int gty, .int gse, .int gte, .int gsp, .ref h7, .ref h8, .int gtl])), (h1, .inl (cI, 190, .inl z))] := hD
      have e58 : r58 = marksL z p1.toInt.toNat := hw
      exact xk_reti () hx hb hr hlocks (xk_P hP (by rfl)) (by rw [lineR, if_pos b2, if_neg (by omega), if_neg (by omega), if_pos t11, e58]) hS dX8_line_61 hQ
    · refine lv_tableIn (off := 51) (tgt := 62) hx hb dX8_line_11 (by rw [t11]; decide) (by rw [t11]; decide) (by rw [t11]; rfl) (by decide) ?_
      refine lv_aload_n hx hb dX8_line_62 rfl (lv_at hl 0 rfl) ?_
      refine lv_iload_n hx hb dX8_line_63 rfl (lv_at hl 1 rfl) ?_
      refine xk_Vi (As := [.int p1]) (rest := []) hx hb hml hown hts hK hN hZ hP hD hS hA mb_X8_sungIn mw_4_18 mw_4_20 mw_0_22 (c_X8_sungIn l D cI cZ cS h h1 h2 h3 h4 h5 h6 h7 h8 gst gty gse gte gsp gtl z p1 (by first | omega | decide | assumption) (by first | omega | decide | assumption)) [0, 1] 0 8 rfl rfl (by decide) rfl (fun _ => by simp only [List.map]) (by decide) (by decide) rfl hl.1 rfl (Nat.le_of_ble_eq_true rfl) dX8_line_64 ⟨Nat.zero_le _, Nat.zero_le _⟩ (fun r64 _ H locs hw hP hD hS => ?_)
      have hP : va_P D vwCl [(h, .inr (8, [.ref h1, .ref h2, .ref h3, .int gst, .ref h4, .ref h5, .ref h6, .int gty, .int gse, .int gte, .int gsp, .ref h7, .ref h8, .int gtl])), (h1, .inl (cI, 190, .inl z))] H := hP
      have hD : va_D A [(h, .inr (8, [.ref h1, .ref h2, .ref h3, .int gst, .ref h4, .ref h5, .ref h6, .int gty, .int gse, .int gte, .int gsp, .ref h7, .ref h8, .int gtl])), (h1, .inl (cI, 190, .inl z))] := hD
      have e64 : r64 = sungL z p1.toInt.toNat := hw
      refine lv_aload_n hx hb dX8_line_67 rfl (lv_at hl 0 rfl) ?_
      refine va_get (D := D) (ci := 8) (v := .ref h1) (C := RX8) (T := TX8) (N := 14) hx hb hts xin8 hown hK hP 0 rfl rfl 0 (by decide) (hts _ (List.mem_cons_of_mem _ mw_3_89)) (fun _ h9 => h9) rfl dX8_line_68 ?_
      refine lv_iconst (v := 1) hx hb dX8_line_71 (by decide) ?_
      refine va_iald hx hb hK hP 1 0 rfl rfl (xi_in (by decide) (by decide)) dX8_line_72 ?_
      refine xk_top (z := z 1) rfl ?_
      refine lv_aload_n hx hb dX8_line_73 rfl (lv_at hl 0 rfl) ?_
      refine lv_iload_n hx hb dX8_line_74 rfl (lv_at hl 1 rfl) ?_
      refine xk_Vi (As := [.int p1]) (rest := [.int (z 1), .int r64]) hx hb hml hown hts hK hN hZ hP hD hS hA mb_X8_marksIn mw_4_22 mw_4_24 mw_0_23 (c_X8_marksIn l D cI cZ cS h h1 h2 h3 h4 h5 h6 h7 h8 gst gty gse gte gsp gtl z p1 (by first | omega | decide | assumption) (by first | omega | decide | assumption)) [0, 1] 0 8 rfl rfl (by decide) rfl (fun _ => by simp only [List.map]) (by decide) (by decide) rfl hl.1 rfl (Nat.le_of_ble_eq_true rfl) dX8_line_75 ⟨Nat.zero_le _, Nat.zero_le _⟩ (fun r75 _ H locs hw hP hD hS => ?_)
      have hP : va_P D vwCl [(h, .inr (8, [.ref h1, .ref h2, .ref h3, .int gst, .ref h4, .ref h5, .ref h6, .int gty, .int gse, .int gte, .int gsp, .ref h7, .ref h8, .int gtl])), (h1, .inl (cI, 190, .inl z))] H := hP
      have hD : va_D A [(h, .inr (8, [.ref h1, .ref h2, .ref h3, .int gst, .ref h4, .ref h5, .ref h6, .int gty, .int gse, .int gte, .int gsp, .ref h7, .ref h8, .int gtl])), (h1, .inl (cI, 190, .inl z))] := hD
      have e75 : r75 = marksL z p1.toInt.toNat := hw
      refine lv_imul hx hb dX8_line_78 ?_
      refine lv_topi (fun x78 e78 => ?_)
      refine lv_iadd hx hb dX8_line_79 ?_
      refine lv_topi (fun x79 e79 => ?_)
      exact xk_reti () hx hb hr hlocks (xk_P hP (by rfl)) (by rw [lineR, if_pos b2, if_neg (by omega), if_neg (by omega), if_neg (by omega), if_pos t11, e79, e78, e64, e75]) hS dX8_line_80 hQ
  · have b2 : ¬ (0 ≤ p1.toInt ∧ p1.toInt < (z 6).toInt) := b2
    refine lv_if_ne (tgt := 10) hx hb dX8_line_5 (by decide) (fun c5 => absurd (by decide) c5) (fun _ => ?_)
    refine lv_iconst (v := (-1)) hx hb dX8_line_8 (by decide) ?_
    exact xk_reti () hx hb hr hlocks (xk_P hP (by rfl)) (by rw [lineR, if_neg b2]) hS dX8_line_9 hQ

set_option maxHeartbeats 4000000 in
set_option maxRecDepth 100000 in
theorem c_X8_foot (l : Launch) (D : va_G) (cI cZ cS : ClassId) (h h1 h2 h3 h4 h5 h6 h7 h8 : Nat) (gst gty gse gte gsp gtl : Int32) (z : Nat → Int32) (p1 p2 p3 : Int32) (hg : SongOK z) : xMi l yX8_foot cX8_foot 4 (some .int) ({ frames := 2, cells := 0, slots := 0, locals := 43 } : Room) D (xTy cI cZ cS) [.ref h, .int p1, .int p2, .int p3] [(h, .inr (8, [.ref h1, .ref h2, .ref h3, .int gst, .ref h4, .ref h5, .ref h6, .int gty, .int gse, .int gte, .int gsp, .ref h7, .ref h8, .int gtl])), (h1, .inl (cI, 190, .inl z))] (fun (r : Int32) (_ : Unit) => r = footR z p1 p2 p3) (fun (_ : Unit) => [(h, .inr (8, [.ref h1, .ref h2, .ref h3, .int gst, .ref h4, .ref h5, .ref h6, .int gty, .int gse, .int gte, .int gsp, .ref h7, .ref h8, .int gtl])), (h1, .inl (cI, 190, .inl z))]) := by
  refine xk_bodyi (by decide) (Nat.le_of_ble_eq_true rfl) ?_
  intro p e s m below meth c A ls args Q hx hb hr hts hown hlocks hml hin hK hP hD hS hA hN hZ hl hQ
  have hl : lv_has ls 4 [(0, .ref h), (1, .int p1), (2, .int p2), (3, .int p3)] := hl
  have hq0 := hg.1
  refine lv_aload_n hx hb dX8_foot_0 rfl (lv_at hl 0 rfl) ?_
  refine lv_iload_n hx hb dX8_foot_1 rfl (lv_at hl 1 rfl) ?_
  refine xk_Vi (As := [.int p1]) (rest := []) hx hb hml hown hts hK hN hZ hP hD hS hA mb_X8_isLine mw_4_14 mw_4_16 mw_0_21 (c_X8_isLine l D cI cZ cS h h1 h2 h3 h4 h5 h6 h7 h8 gst gty gse gte gsp gtl z p1 (by omega)) [0, 1] 0 8 rfl rfl (by decide) rfl (fun _ => by simp only [List.map]) (by decide) (by decide) rfl hl.1 rfl (Nat.le_of_ble_eq_true rfl) dX8_foot_2 ⟨Nat.zero_le _, Nat.zero_le _⟩ (fun r2 _ H locs hw hP hD hS => ?_)
  have hP : va_P D vwCl [(h, .inr (8, [.ref h1, .ref h2, .ref h3, .int gst, .ref h4, .ref h5, .ref h6, .int gty, .int gse, .int gte, .int gsp, .ref h7, .ref h8, .int gtl])), (h1, .inl (cI, 190, .inl z))] H := hP
  have hD : va_D A [(h, .inr (8, [.ref h1, .ref h2, .ref h3, .int gst, .ref h4, .ref h5, .ref h6, .int gty, .int gse, .int gte, .int gsp, .ref h7, .ref h8, .int gtl])), (h1, .inl (cI, 190, .inl z))] := hD
  rcases hw with ⟨rfl, b2⟩ | ⟨rfl, b2⟩
  · have b2 : 0 ≤ p1.toInt ∧ p1.toInt < (z 6).toInt := b2
    have hq := (hg.2 p1.toInt.toNat (by omega)).1
    refine lv_if_eq (tgt := 27) hx hb dX8_foot_5 (by decide) (fun c5 => absurd c5 (by decide)) (fun _ => ?_)
    refine lv_iload_n hx hb dX8_foot_8 rfl (lv_at hl 2 rfl) ?_
    refine lv_iconst (v := 0) hx hb dX8_foot_9 (by decide) ?_
    refine lv_aload_n hx hb dX8_foot_10 rfl (lv_at hl 0 rfl) ?_
    refine va_get (D := D) (ci := 8) (v := .ref h1) (C := RX8) (T := TX8) (N := 14) hx hb hts xin8 hown hK hP 0 rfl rfl 0 (by decide) (hts _ (List.mem_cons_of_mem _ mw_3_89)) (fun _ h9 => h9) rfl dX8_foot_11 ?_
    refine lv_bipush (v := 8) hx hb dX8_foot_14 (by decide) ?_
    refine lv_iload_n hx hb dX8_foot_16 rfl (lv_at hl 1 rfl) ?_
    refine lv_iadd hx hb dX8_foot_17 ?_
    refine lv_topi (fun x17 e17 => ?_)
    have t17 : x17.toInt = 8 + p1.toInt := by rw [e17]; exact xi_add (by decide) rfl (by omega) (by omega)
    refine va_iald hx hb hK hP 1 0 rfl rfl (xi_in (by omega) (by omega)) dX8_foot_18 ?_
    refine xk_top (z := z (8 + p1.toInt.toNat)) (xk_rd (by omega)) ?_
    refine lv_topi (fun x18 e18 => ?_)
    have t18 : x18.toInt = (z (8 + p1.toInt.toNat)).toInt := by rw [e18]
    refine lv_iconst (v := 1) hx hb dX8_foot_19 (by decide) ?_
    refine lv_isub hx hb dX8_foot_20 ?_
    refine lv_topi (fun x20 e20 => ?_)
    have t20 : x20.toInt = x18.toInt - 1 := by rw [e20]; exact xi_sub rfl (by decide) (by omega) (by omega)
    refine xk_Si (As := [.int p2, .int 0, .int x20]) (rest := []) hx hb hml hown hts hK hN hZ hP hD hS hA mb_X8_in mw_3_143 mw_3_144 (c_X8_in l D cI cZ cS p2 (0 : Int32) x20 ) [] (by decide) rfl (fun _ => by simp only [List.map]) (by decide) (by decide) rfl hl.1 rfl (Nat.le_of_ble_eq_true rfl) dX8_foot_21 ⟨Nat.zero_le _, Nat.zero_le _⟩ (fun r21 _ H locs hw hP hD hS => ?_)
    have hP : va_P D vwCl [(h, .inr (8, [.ref h1, .ref h2, .ref h3, .int gst, .ref h4, .ref h5, .ref h6, .int gty, .int gse, .int gte, .int gsp, .ref h7, .ref h8, .int gtl])), (h1, .inl (cI, 190, .inl z))] H := hP
    have hD : va_D A [(h, .inr (8, [.ref h1, .ref h2, .ref h3, .int gst, .ref h4, .ref h5, .ref h6, .int gty, .int gse, .int gte, .int gsp, .ref h7, .ref h8, .int gtl])), (h1, .inl (cI, 190, .inl z))] := hD
    rcases hw with ⟨rfl, b21⟩ | ⟨rfl, b21⟩
    · have b21 : 0 ≤ p2.toInt ∧ p2.toInt ≤ x20.toInt := b21
      have hq21 : 0 ≤ p2.toInt ∧ p2.toInt < (z (8 + p1.toInt.toNat)).toInt := by omega
      refine lv_if_ne (tgt := 29) hx hb dX8_foot_24 (by decide) (fun _ => ?_) (fun c24 => absurd c24 (by decide))
      refine lv_iload_n hx hb dX8_foot_29 rfl (lv_at hl 3 rfl) ?_
      refine lv_if_ne (tgt := 42) hx hb dX8_foot_30 (by decide) (fun c30 => ?_) (fun c30 => ?_)
      · have t30 : ¬ p3.toInt = 0 := xi_ne rfl (by decide) c30
        have d30 : ¬ p3 = 0 := c30
        refine lv_iload_n hx hb dX8_foot_42 rfl (lv_at hl 3 rfl) ?_
        refine lv_iconst (v := 1) hx hb dX8_foot_43 (by decide) ?_
        refine lv_icmp_ne (tgt := 64) hx hb dX8_foot_44 (by decide) (fun c44 => ?_) (fun c44 => ?_)
        · have t44 : ¬ p3.toInt = 1 := xi_ne rfl (by decide) c44
          have d44 : ¬ p3 = 1 := c44
          refine lv_bipush (v := (-2)) hx hb dX8_foot_64 (by decide) ?_
          exact xk_reti () hx hb hr hlocks (xk_P hP (by rfl)) (by rw [footR, if_pos ⟨b2, hq21⟩, if_neg d30, if_neg d44]) hS dX8_foot_66 hQ
        · have t44 : p3.toInt = 1 := xi_eq rfl (by decide) c44
          have d44 : p3 = 1 := c44
          refine lv_aload_n hx hb dX8_foot_47 rfl (lv_at hl 0 rfl) ?_
          refine lv_iload_n hx hb dX8_foot_48 rfl (lv_at hl 1 rfl) ?_
          refine lv_iload_n hx hb dX8_foot_49 rfl (lv_at hl 2 rfl) ?_
          refine xk_Vi (As := [.int p1, .int p2]) (rest := []) hx hb hml hown hts hK hN hZ hP hD hS hA mb_X8_hasMark mw_3_190 mw_3_192 mw_0_15 (c_X8_hasMark l D cI cZ cS h h1 h2 h3 h4 h5 h6 h7 h8 gst gty gse gte gsp gtl z p1 p2 (by omega) (by omega)) [0, 1] 0 8 rfl rfl (by decide) rfl (fun _ => by simp only [List.map]) (by decide) (by decide) rfl hl.1 rfl (Nat.le_of_ble_eq_true rfl) dX8_foot_50 ⟨Nat.zero_le _, Nat.zero_le _⟩ (fun r50 _ H locs hw hP hD hS => ?_)
          have hP : va_P D vwCl [(h, .inr (8, [.ref h1, .ref h2, .ref h3, .int gst, .ref h4, .ref h5, .ref h6, .int gty, .int gse, .int gte, .int gsp, .ref h7, .ref h8, .int gtl])), (h1, .inl (cI, 190, .inl z))] H := hP
          have hD : va_D A [(h, .inr (8, [.ref h1, .ref h2, .ref h3, .int gst, .ref h4, .ref h5, .ref h6, .int gty, .int gse, .int gte, .int gsp, .ref h7, .ref h8, .int gtl])), (h1, .inl (cI, 190, .inl z))] := hD
          rcases hw with ⟨rfl, b50⟩ | ⟨rfl, b50⟩
          · have b50 : mkZ z p1.toInt.toNat p2.toInt.toNat := b50
            refine lv_if_eq (tgt := 60) hx hb dX8_foot_53 (by decide) (fun c53 => absurd c53 (by decide)) (fun _ => ?_)
            refine lv_iconst (v := 1) hx hb dX8_foot_56 (by decide) ?_
            refine lv_goto (tgt := 66) hx hb dX8_foot_57 (by decide) ?_
            exact xk_reti () hx hb hr hlocks (xk_P hP (by rfl)) (by rw [footR, if_pos ⟨b2, hq21⟩, if_neg d30, if_pos d44, if_pos b50]) hS dX8_foot_66 hQ
          · have b50 : ¬ (mkZ z p1.toInt.toNat p2.toInt.toNat) := b50
            refine lv_if_eq (tgt := 60) hx hb dX8_foot_53 (by decide) (fun _ => ?_) (fun c53 => absurd (by decide) c53)
            refine lv_iconst (v := 0) hx hb dX8_foot_60 (by decide) ?_
            refine lv_goto (tgt := 66) hx hb dX8_foot_61 (by decide) ?_
            exact xk_reti () hx hb hr hlocks (xk_P hP (by rfl)) (by rw [footR, if_pos ⟨b2, hq21⟩, if_neg d30, if_pos d44, if_neg b50]) hS dX8_foot_66 hQ
      · have t30 : p3.toInt = 0 := xi_eq rfl (by decide) c30
        have d30 : p3 = 0 := c30
        refine lv_aload_n hx hb dX8_foot_33 rfl (lv_at hl 0 rfl) ?_
        refine lv_iload_n hx hb dX8_foot_34 rfl (lv_at hl 1 rfl) ?_
        refine lv_iload_n hx hb dX8_foot_35 rfl (lv_at hl 2 rfl) ?_
        refine xk_Vi (As := [.int p1, .int p2]) (rest := []) hx hb hml hown hts hK hN hZ hP hD hS hA mb_X8_beatsOf mw_3_186 mw_3_188 mw_0_14 (c_X8_beatsOf l D cI cZ cS h h1 h2 h3 h4 h5 h6 h7 h8 gst gty gse gte gsp gtl z p1 p2 (by omega) (by omega)) [0, 1] 0 8 rfl rfl (by decide) rfl (fun _ => by simp only [List.map]) (by decide) (by decide) rfl hl.1 rfl (Nat.le_of_ble_eq_true rfl) dX8_foot_36 ⟨Nat.zero_le _, Nat.zero_le _⟩ (fun r36 _ H locs hw hP hD hS => ?_)
        have hP : va_P D vwCl [(h, .inr (8, [.ref h1, .ref h2, .ref h3, .int gst, .ref h4, .ref h5, .ref h6, .int gty, .int gse, .int gte, .int gsp, .ref h7, .ref h8, .int gtl])), (h1, .inl (cI, 190, .inl z))] H := hP
        have hD : va_D A [(h, .inr (8, [.ref h1, .ref h2, .ref h3, .int gst, .ref h4, .ref h5, .ref h6, .int gty, .int gse, .int gte, .int gsp, .ref h7, .ref h8, .int gtl])), (h1, .inl (cI, 190, .inl z))] := hD
        have e36 : r36 = btZ z p1.toInt.toNat p2.toInt.toNat := hw
        refine lv_goto (tgt := 66) hx hb dX8_foot_39 (by decide) ?_
        exact xk_reti () hx hb hr hlocks (xk_P hP (by rfl)) (by rw [footR, if_pos ⟨b2, hq21⟩, if_pos d30, e36]) hS dX8_foot_66 hQ
    · have b21 : ¬ (0 ≤ p2.toInt ∧ p2.toInt ≤ x20.toInt) := b21
      have hq21 : ¬ (0 ≤ p2.toInt ∧ p2.toInt < (z (8 + p1.toInt.toNat)).toInt) := by omega
      refine lv_if_ne (tgt := 29) hx hb dX8_foot_24 (by decide) (fun c24 => absurd (by decide) c24) (fun _ => ?_)
      refine lv_iconst (v := (-1)) hx hb dX8_foot_27 (by decide) ?_
      exact xk_reti () hx hb hr hlocks (xk_P hP (by rfl)) (by rw [footR, if_neg (fun hh => hq21 ⟨hh.2.1, hh.2.2⟩)]) hS dX8_foot_28 hQ
  · have b2 : ¬ (0 ≤ p1.toInt ∧ p1.toInt < (z 6).toInt) := b2
    refine lv_if_eq (tgt := 27) hx hb dX8_foot_5 (by decide) (fun _ => ?_) (fun c5 => absurd (by decide) c5)
    refine lv_iconst (v := (-1)) hx hb dX8_foot_27 (by decide) ?_
    exact xk_reti () hx hb hr hlocks (xk_P hP (by rfl)) (by rw [footR, if_neg (fun hh => b2 hh.1)]) hS dX8_foot_28 hQ

set_option maxHeartbeats 4000000 in
set_option maxRecDepth 100000 in
theorem c_X8_sungFor (l : Launch) (D : va_G) (cI cZ cS : ClassId) (h h1 h2 h3 h4 h5 h6 h7 h8 : Nat) (gst gty gse gte gsp gtl : Int32) (z : Nat → Int32) (p1 p2 : Int32) (hp : 1 ≤ p1.toInt ∧ p1.toInt ≤ 99) (hp2 : p2 = 0 ∨ p2 = 1) (h5m : 2 ≤ (z 5).toInt ∧ (z 5).toInt ≤ 9) : xMi l yX8_sungFor cX8_sungFor 5 (some .int) ({ frames := 0, cells := 0, slots := 0, locals := 0 } : Room) D (xTy cI cZ cS) [.ref h, .int p1, .int p2] [(h, .inr (8, [.ref h1, .ref h2, .ref h3, .int gst, .ref h4, .ref h5, .ref h6, .int gty, .int gse, .int gte, .int gsp, .ref h7, .ref h8, .int gtl])), (h1, .inl (cI, 190, .inl z))] (fun (r : Int32) (_ : Unit) => r.toInt = singF p1.toInt (z 5).toInt (p2 = 1)) (fun (_ : Unit) => [(h, .inr (8, [.ref h1, .ref h2, .ref h3, .int gst, .ref h4, .ref h5, .ref h6, .int gty, .int gse, .int gte, .int gsp, .ref h7, .ref h8, .int gtl])), (h1, .inl (cI, 190, .inl z))]) := by
  refine xk_bodyi (by decide) (Nat.le_of_ble_eq_true rfl) ?_
  intro p e s m below meth c A ls args Q hx hb hr hts hown hlocks hml hin hK hP hD hS hA hN hZ hl hQ
  have hl : lv_has ls 5 [(0, .ref h), (1, .int p1), (2, .int p2)] := hl
  refine lv_iconst (v := 0) hx hb dX8_sungFor_0 (by decide) ?_
  refine lv_istore_n (lv' := [(3, .int 0), (0, .ref h), (1, .int p1), (2, .int p2)]) hx hb dX8_sungFor_1 rfl hl (by decide) rfl (fun ls hl => ?_)
  refine lv_iconst (v := 0) hx hb dX8_sungFor_2 (by decide) ?_
  refine lv_istore (lv' := [(4, .int 0), (3, .int 0), (0, .ref h), (1, .int p1), (2, .int p2)]) hx hb dX8_sungFor_3 hl (by decide) rfl (fun ls hl => ?_)
  have L5 : ∀ (n : Nat) (sg : Int32) (md : Int32) (hk : 0 ≤ sg.toInt ∧ sg.toInt ≤ 2 * p1.toInt ∧ 0 ≤ md.toInt ∧ md.toInt ≤ p1.toInt) (hmu : p2 = 1 → md.toInt = sg.toInt - sg.toInt / (z 5).toInt ∧ (md.toInt = p1.toInt → ¬ sg.toInt % (z 5).toInt = 0)) (hno : ¬ p2 = 1 → md = sg) (hn5 : (2 * p1.toInt - sg.toInt).toNat < n) (H : Heap) (locs : List Loc), va_P D vwCl [(h, .inr (8, [.ref h1, .ref h2, .ref h3, .int gst, .ref h4, .ref h5, .ref h6, .int gty, .int gse, .int gte, .int gsp, .ref h7, .ref h8, .int gtl])), (h1, .inl (cI, 190, .inl z))] H → va_D A [(h, .inr (8, [.ref h1, .ref h2, .ref h3, .int gst, .ref h4, .ref h5, .ref h6, .int gty, .int gse, .int gte, .int gsp, .ref h7, .ref h8, .int gtl])), (h1, .inl (cI, 190, .inl z))] → va_S A s.heap H locs → ∀ ls : Array Slot, lv_has ls 5 [(4, .int md), (3, .int sg), (0, .ref h), (1, .int p1), (2, .int p2)] → W p l e ({ frames := 0, cells := 0, slots := 0, locals := 0 } : Room) s m args below meth c H locs 0 0 Q (F0 m 5 ls []) := by
    intro n
    induction n with
    | zero =>
      intro sg md hk hmu hno hn5
      exact absurd hn5 (Nat.not_lt_zero _)
    | succ n ih5 =>
      intro sg md hk hmu hno hn5 H locs hP hD hS ls hl
      refine lv_iload hx hb dX8_sungFor_5 (lv_at hl 0 rfl) ?_
      refine lv_iload_n hx hb dX8_sungFor_7 rfl (lv_at hl 3 rfl) ?_
      refine lv_icmp_ge (tgt := 42) hx hb dX8_sungFor_8 (by decide) (fun c8 => ?_) (fun c8 => ?_)
      · have t8 : p1.toInt ≤ md.toInt := xi_le rfl rfl c8
        refine lv_iload_n hx hb dX8_sungFor_42 rfl (lv_at hl 1 rfl) ?_
        have hv : sg.toInt = singF p1.toInt (z 5).toInt (p2 = 1) := by
          by_cases hh : p2 = 1
          · rw [singF, if_pos hh]; exact singF_end h5m (by omega) (by have := (hmu hh).1; omega) ((hmu hh).2 (by omega))
          · rw [singF, if_neg hh, ← hno hh]; omega
        exact xk_reti () hx hb hr hlocks (xk_P hP (by rfl)) (by exact hv) hS dX8_sungFor_43 hQ
      · have t8 : md.toInt < p1.toInt := xi_nle rfl rfl c8
        obtain ⟨x11, e11⟩ : ∃ y : Int32, y = sg + 1 := ⟨_, rfl⟩
        have t11 : x11.toInt = sg.toInt + 1 := by rw [e11]; exact xi_add rfl (by decide) (by omega) (by omega)
        refine lv_iinc (v := x11) (lv' := [(3, .int x11), (4, .int md), (0, .ref h), (1, .int p1), (2, .int p2)]) hx hb dX8_sungFor_11 hl (k := 1) rfl (by rw [e11]; rfl) (by decide) rfl (fun ls hl => ?_)
        refine lv_iload hx hb dX8_sungFor_14 (lv_at hl 1 rfl) ?_
        refine lv_iload_n hx hb dX8_sungFor_16 rfl (lv_at hl 4 rfl) ?_
        refine lv_if_eq (tgt := 35) hx hb dX8_sungFor_17 (by decide) (fun c17 => ?_) (fun c17 => ?_)
        · have t17 : p2.toInt = 0 := xi_eq rfl (by decide) c17
          have d17 : p2 = 0 := c17
          refine lv_iconst (v := 1) hx hb dX8_sungFor_35 (by decide) ?_
          refine lv_iadd hx hb dX8_sungFor_36 ?_
          refine lv_topi (fun x36 e36 => ?_)
          have t36 : x36.toInt = md.toInt + 1 := by rw [e36]; exact xi_add rfl (by decide) (by omega) (by omega)
          refine lv_istore (lv' := [(4, .int x36), (3, .int x11), (0, .ref h), (1, .int p1), (2, .int p2)]) hx hb dX8_sungFor_37 hl (by decide) rfl (fun ls hl => ?_)
          refine lv_goto (tgt := 5) hx hb dX8_sungFor_39 (by decide) ?_
          have hq2 : ¬ p2 = 1 := by rw [d17]; decide
          have hm := hno hq2
          have q : md.toInt = sg.toInt := congrArg Int32.toInt hm
          exact ih5  x11 x36 (by omega) (by intro q; exact absurd q hq2) (by intro _; exact xi_ext (by rw [t36, t11, hm])) (by omega) _ _ hP hD hS ls (lv_sub hl [0, 1, 2, 3, 4] rfl)
        · have t17 : ¬ p2.toInt = 0 := xi_ne rfl (by decide) c17
          have d17 : ¬ p2 = 0 := c17
          refine lv_iload_n hx hb dX8_sungFor_20 rfl (lv_at hl 0 rfl) ?_
          refine lv_aload_n hx hb dX8_sungFor_21 rfl (lv_at hl 2 rfl) ?_
          refine va_get (D := D) (ci := 8) (v := .ref h1) (C := RX8) (T := TX8) (N := 14) hx hb hts xin8 hown hK hP 0 rfl rfl 0 (by decide) (hts _ (List.mem_cons_of_mem _ mw_3_89)) (fun _ h9 => h9) rfl dX8_sungFor_22 ?_
          refine lv_iconst (v := 5) hx hb dX8_sungFor_25 (by decide) ?_
          refine va_iald hx hb hK hP 1 0 rfl rfl (xi_in (by decide) (by decide)) dX8_sungFor_26 ?_
          refine xk_top (z := z 5) rfl ?_
          refine lv_irem hx hb dX8_sungFor_27 (i_ne0 (by omega)) ?_
          refine lv_topi (fun x27 e27 => ?_)
          have t27 : x27.toInt = x11.toInt % ((z 5).toInt) := by rw [e27]; exact xi_rem rfl rfl (by omega) (by omega)
          refine lv_if_ne (tgt := 35) hx hb dX8_sungFor_28 (by decide) (fun c28 => ?_) (fun c28 => ?_)
          · have t28 : ¬ x27.toInt = 0 := xi_ne rfl (by decide) c28
            have d28 : ¬ x27 = 0 := c28
            refine lv_iconst (v := 1) hx hb dX8_sungFor_35 (by decide) ?_
            refine lv_iadd hx hb dX8_sungFor_36 ?_
            refine lv_topi (fun x36 e36 => ?_)
            have t36 : x36.toInt = md.toInt + 1 := by rw [e36]; exact xi_add rfl (by decide) (by omega) (by omega)
            refine lv_istore (lv' := [(4, .int x36), (3, .int x11), (0, .ref h), (1, .int p1), (2, .int p2)]) hx hb dX8_sungFor_37 hl (by decide) rfl (fun ls hl => ?_)
            refine lv_goto (tgt := 5) hx hb dX8_sungFor_39 (by decide) ?_
            have hq2 : p2 = 1 := xi_z d17 hp2
            have hm := hmu hq2
            have hh := singF_half (mud := (z 5).toInt) (s := sg.toInt + 1) h5m (by omega)
            have h27 : ¬ (sg.toInt + 1) % (z 5).toInt = 0 := by rw [t27, t11] at t28; exact t28
            have hgo := singF_go h5m hk.1 h27
            exact ih5  x11 x36 (by omega) (by intro _; rw [t11]; exact ⟨by omega, fun _ => h27⟩) (by intro q; exact absurd hq2 q) (by omega) _ _ hP hD hS ls (lv_sub hl [0, 1, 2, 3, 4] rfl)
          · have t28 : x27.toInt = 0 := xi_eq rfl (by decide) c28
            have d28 : x27 = 0 := c28
            refine lv_iconst (v := 0) hx hb dX8_sungFor_31 (by decide) ?_
            refine lv_goto (tgt := 36) hx hb dX8_sungFor_32 (by decide) ?_
            refine lv_iadd hx hb dX8_sungFor_36 ?_
            refine lv_topi (fun x36 e36 => ?_)
            have t36 : x36.toInt = md.toInt + 0 := by rw [e36]; exact xi_add rfl (by decide) (by omega) (by omega)
            refine lv_istore (lv' := [(4, .int x36), (3, .int x11), (0, .ref h), (1, .int p1), (2, .int p2)]) hx hb dX8_sungFor_37 hl (by decide) rfl (fun ls hl => ?_)
            refine lv_goto (tgt := 5) hx hb dX8_sungFor_39 (by decide) ?_
            have hq2 : p2 = 1 := xi_z d17 hp2
            have hm := hmu hq2
            have hh := singF_half (mud := (z 5).toInt) (s := sg.toInt + 1) h5m (by omega)
            have h27 : (sg.toInt + 1) % (z 5).toInt = 0 := by rw [t27, t11] at t28; exact t28
            have hgo := singF_skip h5m hk.1 h27
            exact ih5  x11 x36 (by omega) (by intro _; rw [t11]; exact ⟨by omega, fun q => by omega⟩) (by intro q; exact absurd hq2 q) (by omega) _ _ hP hD hS ls (lv_sub hl [0, 1, 2, 3, 4] rfl)
  exact L5 (2 * p1.toInt.toNat + 1) (0 : Int32) (0 : Int32) (by rw [show (0 : Int32).toInt = 0 from by decide]; omega) (by intro _; rw [show (0 : Int32).toInt = 0 from by decide]; exact ⟨by simp, by omega⟩) (by intro _; rfl) (by rw [show (0 : Int32).toInt = 0 from by decide]; omega) _ _ hP hD hS ls (lv_sub hl [0, 1, 2, 3, 4] rfl)

set_option maxHeartbeats 4000000 in
set_option maxRecDepth 100000 in
theorem c_X8_stretch (l : Launch) (D : va_G) (cI cZ cS : ClassId) (h h1 h2 h3 h4 h5 h6 h7 h8 : Nat) (gst gty gse gte gsp gtl : Int32) (z : Nat → Int32) (p1 p2 : Int32) (hrd : RoadOK z) (hmd : 2 ≤ (z 5).toInt ∧ (z 5).toInt ≤ 9) : xMi l yX8_stretch cX8_stretch 3 (some .int) ({ frames := 2, cells := 0, slots := 0, locals := 43 } : Room) D (xTy cI cZ cS) [.ref h, .int p1, .int p2] [(h, .inr (8, [.ref h1, .ref h2, .ref h3, .int gst, .ref h4, .ref h5, .ref h6, .int gty, .int gse, .int gte, .int gsp, .ref h7, .ref h8, .int gtl])), (h1, .inl (cI, 190, .inl z))] (fun (r : Int32) (_ : Unit) => strA z p1 p2 r) (fun (_ : Unit) => [(h, .inr (8, [.ref h1, .ref h2, .ref h3, .int gst, .ref h4, .ref h5, .ref h6, .int gty, .int gse, .int gte, .int gsp, .ref h7, .ref h8, .int gtl])), (h1, .inl (cI, 190, .inl z))]) := by
  refine xk_bodyi (by decide) (Nat.le_of_ble_eq_true rfl) ?_
  intro p e s m below meth c A ls args Q hx hb hr hts hown hlocks hml hin hK hP hD hS hA hN hZ hl hQ
  have hl : lv_has ls 3 [(0, .ref h), (1, .int p1), (2, .int p2)] := hl
  have hq0 := hrd.1
  refine lv_aload_n hx hb dX8_stretch_0 rfl (lv_at hl 0 rfl) ?_
  refine lv_iload_n hx hb dX8_stretch_1 rfl (lv_at hl 1 rfl) ?_
  refine xk_Vi (As := [.int p1]) (rest := []) hx hb hml hown hts hK hN hZ hP hD hS hA mb_X8_isStretch mw_3_213 mw_3_215 mw_0_16 (c_X8_isStretch l D cI cZ cS h h1 h2 h3 h4 h5 h6 h7 h8 gst gty gse gte gsp gtl z p1 (by omega)) [0, 1] 0 8 rfl rfl (by decide) rfl (fun _ => by simp only [List.map]) (by decide) (by decide) rfl hl.1 rfl (Nat.le_of_ble_eq_true rfl) dX8_stretch_2 ⟨Nat.zero_le _, Nat.zero_le _⟩ (fun r2 _ H locs hw hP hD hS => ?_)
  have hP : va_P D vwCl [(h, .inr (8, [.ref h1, .ref h2, .ref h3, .int gst, .ref h4, .ref h5, .ref h6, .int gty, .int gse, .int gte, .int gsp, .ref h7, .ref h8, .int gtl])), (h1, .inl (cI, 190, .inl z))] H := hP
  have hD : va_D A [(h, .inr (8, [.ref h1, .ref h2, .ref h3, .int gst, .ref h4, .ref h5, .ref h6, .int gty, .int gse, .int gte, .int gsp, .ref h7, .ref h8, .int gtl])), (h1, .inl (cI, 190, .inl z))] := hD
  rcases hw with ⟨rfl, b2⟩ | ⟨rfl, b2⟩
  · have b2 : 0 ≤ p1.toInt ∧ p1.toInt < (z 7).toInt := b2
    have hq := hrd.2 p1.toInt.toNat (by omega)
    refine lv_if_ne (tgt := 10) hx hb dX8_stretch_5 (by decide) (fun _ => ?_) (fun c5 => absurd c5 (by decide))
    refine lv_iload_n hx hb dX8_stretch_10 rfl (lv_at hl 2 rfl) ?_
    have h11 : p2.toInt < 0 ∨ 3 < p2.toInt ∨ p2.toInt = 0 ∨ p2.toInt = 1 ∨ p2.toInt = 2 ∨ p2.toInt = 3 := by omega
    rcases h11 with t11 | t11 | t11 | t11 | t11 | t11
    · refine lv_tableOut (tgt := 89) hx hb dX8_stretch_11 (by first | exact Or.inl t11 | exact Or.inr t11) (by decide) ?_
      refine lv_bipush (v := (-2)) hx hb dX8_stretch_89 (by decide) ?_
      exact xk_reti () hx hb hr hlocks (xk_P hP (by rfl)) (by unfold strA; rw [if_pos b2, if_neg (by omega), if_neg (by omega), if_neg (by omega), if_neg (by omega)]) hS dX8_stretch_91 hQ
    · refine lv_tableOut (tgt := 89) hx hb dX8_stretch_11 (by first | exact Or.inl t11 | exact Or.inr t11) (by decide) ?_
      refine lv_bipush (v := (-2)) hx hb dX8_stretch_89 (by decide) ?_
      exact xk_reti () hx hb hr hlocks (xk_P hP (by rfl)) (by unfold strA; rw [if_pos b2, if_neg (by omega), if_neg (by omega), if_neg (by omega), if_neg (by omega)]) hS dX8_stretch_91 hQ
    · refine lv_tableIn (off := 29) (tgt := 40) hx hb dX8_stretch_11 (by rw [t11]; decide) (by rw [t11]; decide) (by rw [t11]; rfl) (by decide) ?_
      refine lv_aload_n hx hb dX8_stretch_40 rfl (lv_at hl 0 rfl) ?_
      refine lv_iload_n hx hb dX8_stretch_41 rfl (lv_at hl 1 rfl) ?_
      refine lv_iconst (v := 0) hx hb dX8_stretch_42 (by decide) ?_
      refine xk_Vi (As := [.int p1, .int 0]) (rest := []) hx hb hml hown hts hK hN hZ hP hD hS hA mb_X8_ofStretch mw_3_174 mw_3_176 mw_0_11 (c_X8_ofStretch l D cI cZ cS h h1 h2 h3 h4 h5 h6 h7 h8 gst gty gse gte gsp gtl z p1 (0 : Int32) (by omega) (by decide)) [0, 1] 0 8 rfl rfl (by decide) rfl (fun _ => by simp only [List.map]) (by decide) (by decide) rfl hl.1 rfl (Nat.le_of_ble_eq_true rfl) dX8_stretch_43 ⟨Nat.zero_le _, Nat.zero_le _⟩ (fun r43 _ H locs hw hP hD hS => ?_)
      have hP : va_P D vwCl [(h, .inr (8, [.ref h1, .ref h2, .ref h3, .int gst, .ref h4, .ref h5, .ref h6, .int gty, .int gse, .int gte, .int gsp, .ref h7, .ref h8, .int gtl])), (h1, .inl (cI, 190, .inl z))] H := hP
      have hD : va_D A [(h, .inr (8, [.ref h1, .ref h2, .ref h3, .int gst, .ref h4, .ref h5, .ref h6, .int gty, .int gse, .int gte, .int gsp, .ref h7, .ref h8, .int gtl])), (h1, .inl (cI, 190, .inl z))] := hD
      have e43 : r43 = ofZ z p1.toInt.toNat 0 := hw
      exact xk_reti () hx hb hr hlocks (xk_P hP (by rfl)) (by unfold strA; rw [if_pos b2, if_pos t11]; exact e43) hS dX8_stretch_46 hQ
    · refine lv_tableIn (off := 36) (tgt := 47) hx hb dX8_stretch_11 (by rw [t11]; decide) (by rw [t11]; decide) (by rw [t11]; rfl) (by decide) ?_
      refine lv_aload_n hx hb dX8_stretch_47 rfl (lv_at hl 0 rfl) ?_
      refine lv_iload_n hx hb dX8_stretch_48 rfl (lv_at hl 1 rfl) ?_
      refine lv_iconst (v := 1) hx hb dX8_stretch_49 (by decide) ?_
      refine xk_Vi (As := [.int p1, .int 1]) (rest := []) hx hb hml hown hts hK hN hZ hP hD hS hA mb_X8_ofStretch mw_3_174 mw_3_176 mw_0_11 (c_X8_ofStretch l D cI cZ cS h h1 h2 h3 h4 h5 h6 h7 h8 gst gty gse gte gsp gtl z p1 (1 : Int32) (by omega) (by decide)) [0, 1] 0 8 rfl rfl (by decide) rfl (fun _ => by simp only [List.map]) (by decide) (by decide) rfl hl.1 rfl (Nat.le_of_ble_eq_true rfl) dX8_stretch_50 ⟨Nat.zero_le _, Nat.zero_le _⟩ (fun r50 _ H locs hw hP hD hS => ?_)
      have hP : va_P D vwCl [(h, .inr (8, [.ref h1, .ref h2, .ref h3, .int gst, .ref h4, .ref h5, .ref h6, .int gty, .int gse, .int gte, .int gsp, .ref h7, .ref h8, .int gtl])), (h1, .inl (cI, 190, .inl z))] H := hP
      have hD : va_D A [(h, .inr (8, [.ref h1, .ref h2, .ref h3, .int gst, .ref h4, .ref h5, .ref h6, .int gty, .int gse, .int gte, .int gsp, .ref h7, .ref h8, .int gtl])), (h1, .inl (cI, 190, .inl z))] := hD
      have e50 : r50 = ofZ z p1.toInt.toNat 1 := hw
      refine lv_iconst (v := 3) hx hb dX8_stretch_53 (by decide) ?_
      refine lv_iadd hx hb dX8_stretch_54 ?_
      refine lv_topi (fun x54 e54 => ?_)
      exact xk_reti () hx hb hr hlocks (xk_P hP (by rfl)) (by unfold strA; rw [if_pos b2, if_neg (by omega), if_pos t11]; rw [e54, e50]) hS dX8_stretch_55 hQ
    · refine lv_tableIn (off := 45) (tgt := 56) hx hb dX8_stretch_11 (by rw [t11]; decide) (by rw [t11]; decide) (by rw [t11]; rfl) (by decide) ?_
      refine lv_aload_n hx hb dX8_stretch_56 rfl (lv_at hl 0 rfl) ?_
      refine lv_iload_n hx hb dX8_stretch_57 rfl (lv_at hl 1 rfl) ?_
      refine lv_iconst (v := 2) hx hb dX8_stretch_58 (by decide) ?_
      refine xk_Vi (As := [.int p1, .int 2]) (rest := []) hx hb hml hown hts hK hN hZ hP hD hS hA mb_X8_ofStretch mw_3_174 mw_3_176 mw_0_11 (c_X8_ofStretch l D cI cZ cS h h1 h2 h3 h4 h5 h6 h7 h8 gst gty gse gte gsp gtl z p1 (2 : Int32) (by omega) (by decide)) [0, 1] 0 8 rfl rfl (by decide) rfl (fun _ => by simp only [List.map]) (by decide) (by decide) rfl hl.1 rfl (Nat.le_of_ble_eq_true rfl) dX8_stretch_59 ⟨Nat.zero_le _, Nat.zero_le _⟩ (fun r59 _ H locs hw hP hD hS => ?_)
      have hP : va_P D vwCl [(h, .inr (8, [.ref h1, .ref h2, .ref h3, .int gst, .ref h4, .ref h5, .ref h6, .int gty, .int gse, .int gte, .int gsp, .ref h7, .ref h8, .int gtl])), (h1, .inl (cI, 190, .inl z))] H := hP
      have hD : va_D A [(h, .inr (8, [.ref h1, .ref h2, .ref h3, .int gst, .ref h4, .ref h5, .ref h6, .int gty, .int gse, .int gte, .int gsp, .ref h7, .ref h8, .int gtl])), (h1, .inl (cI, 190, .inl z))] := hD
      have e59 : r59 = ofZ z p1.toInt.toNat 2 := hw
      exact xk_reti () hx hb hr hlocks (xk_P hP (by rfl)) (by unfold strA; rw [if_pos b2, if_neg (by omega), if_neg (by omega), if_pos t11]; exact e59) hS dX8_stretch_62 hQ
    · refine lv_tableIn (off := 52) (tgt := 63) hx hb dX8_stretch_11 (by rw [t11]; decide) (by rw [t11]; decide) (by rw [t11]; rfl) (by decide) ?_
      refine lv_aload_n hx hb dX8_stretch_63 rfl (lv_at hl 0 rfl) ?_
      refine lv_aload_n hx hb dX8_stretch_64 rfl (lv_at hl 0 rfl) ?_
      refine lv_iload_n hx hb dX8_stretch_65 rfl (lv_at hl 1 rfl) ?_
      refine lv_iconst (v := 0) hx hb dX8_stretch_66 (by decide) ?_
      refine xk_Vi (As := [.int p1, .int 0]) (rest := [.ref h]) hx hb hml hown hts hK hN hZ hP hD hS hA mb_X8_ofStretch mw_3_174 mw_3_176 mw_0_11 (c_X8_ofStretch l D cI cZ cS h h1 h2 h3 h4 h5 h6 h7 h8 gst gty gse gte gsp gtl z p1 (0 : Int32) (by omega) (by decide)) [0, 1] 0 8 rfl rfl (by decide) rfl (fun _ => by simp only [List.map]) (by decide) (by decide) rfl hl.1 rfl (Nat.le_of_ble_eq_true rfl) dX8_stretch_67 ⟨Nat.zero_le _, Nat.zero_le _⟩ (fun r67 _ H locs hw hP hD hS => ?_)
      have hP : va_P D vwCl [(h, .inr (8, [.ref h1, .ref h2, .ref h3, .int gst, .ref h4, .ref h5, .ref h6, .int gty, .int gse, .int gte, .int gsp, .ref h7, .ref h8, .int gtl])), (h1, .inl (cI, 190, .inl z))] H := hP
      have hD : va_D A [(h, .inr (8, [.ref h1, .ref h2, .ref h3, .int gst, .ref h4, .ref h5, .ref h6, .int gty, .int gse, .int gte, .int gsp, .ref h7, .ref h8, .int gtl])), (h1, .inl (cI, 190, .inl z))] := hD
      have e67 : r67 = ofZ z p1.toInt.toNat 0 := hw
      refine lv_aload_n hx hb dX8_stretch_70 rfl (lv_at hl 0 rfl) ?_
      refine lv_iload_n hx hb dX8_stretch_71 rfl (lv_at hl 1 rfl) ?_
      refine lv_iconst (v := 2) hx hb dX8_stretch_72 (by decide) ?_
      refine xk_Vi (As := [.int p1, .int 2]) (rest := [.int r67, .ref h]) hx hb hml hown hts hK hN hZ hP hD hS hA mb_X8_ofStretch mw_3_174 mw_3_176 mw_0_11 (c_X8_ofStretch l D cI cZ cS h h1 h2 h3 h4 h5 h6 h7 h8 gst gty gse gte gsp gtl z p1 (2 : Int32) (by omega) (by decide)) [0, 1] 0 8 rfl rfl (by decide) rfl (fun _ => by simp only [List.map]) (by decide) (by decide) rfl hl.1 rfl (Nat.le_of_ble_eq_true rfl) dX8_stretch_73 ⟨Nat.zero_le _, Nat.zero_le _⟩ (fun r73 _ H locs hw hP hD hS => ?_)
      have hP : va_P D vwCl [(h, .inr (8, [.ref h1, .ref h2, .ref h3, .int gst, .ref h4, .ref h5, .ref h6, .int gty, .int gse, .int gte, .int gsp, .ref h7, .ref h8, .int gtl])), (h1, .inl (cI, 190, .inl z))] H := hP
      have hD : va_D A [(h, .inr (8, [.ref h1, .ref h2, .ref h3, .int gst, .ref h4, .ref h5, .ref h6, .int gty, .int gse, .int gte, .int gsp, .ref h7, .ref h8, .int gtl])), (h1, .inl (cI, 190, .inl z))] := hD
      have e73 : r73 = ofZ z p1.toInt.toNat 2 := hw
      refine lv_iconst (v := 1) hx hb dX8_stretch_76 (by decide) ?_
      refine lv_icmp_ne (tgt := 84) hx hb dX8_stretch_77 (by decide) (fun c77 => ?_) (fun c77 => ?_)
      · have t77 : ¬ r73.toInt = 1 := xi_ne rfl (by decide) c77
        have d77 : ¬ r73 = 1 := c77
        refine lv_iconst (v := 0) hx hb dX8_stretch_84 (by decide) ?_
        refine xk_Vi (As := [.int r67, .int 0]) (rest := []) hx hb hml hown hts hK hN hZ hP hD hS hA mb_X8_sungFor mw_4_34 mw_4_36 mw_0_24 (c_X8_sungFor l D cI cZ cS h h1 h2 h3 h4 h5 h6 h7 h8 gst gty gse gte gsp gtl z r67 (0 : Int32) (by rw [e67]; exact hq.1) (by decide) (by exact hmd)) [0, 1] 0 8 rfl rfl (by decide) rfl (fun _ => by simp only [List.map]) (by decide) (by decide) rfl hl.1 rfl (Nat.le_of_ble_eq_true rfl) dX8_stretch_85 ⟨Nat.zero_le _, Nat.zero_le _⟩ (fun r85 _ H locs hw hP hD hS => ?_)
        have hP : va_P D vwCl [(h, .inr (8, [.ref h1, .ref h2, .ref h3, .int gst, .ref h4, .ref h5, .ref h6, .int gty, .int gse, .int gte, .int gsp, .ref h7, .ref h8, .int gtl])), (h1, .inl (cI, 190, .inl z))] H := hP
        have hD : va_D A [(h, .inr (8, [.ref h1, .ref h2, .ref h3, .int gst, .ref h4, .ref h5, .ref h6, .int gty, .int gse, .int gte, .int gsp, .ref h7, .ref h8, .int gtl])), (h1, .inl (cI, 190, .inl z))] := hD
        have p85 : r85.toInt = singF r67.toInt (z 5).toInt ((0 : Int32) = 1) := hw
        exact xk_reti () hx hb hr hlocks (xk_P hP (by rfl)) (by unfold strA; rw [if_pos b2, if_neg (by omega), if_neg (by omega), if_neg (by omega), if_pos t11]; rw [p85, e67]; unfold singF; rw [if_neg (by decide), if_neg (by rw [← e73]; exact d77)]) hS dX8_stretch_88 hQ
      · have t77 : r73.toInt = 1 := xi_eq rfl (by decide) c77
        have d77 : r73 = 1 := c77
        refine lv_iconst (v := 1) hx hb dX8_stretch_80 (by decide) ?_
        refine lv_goto (tgt := 85) hx hb dX8_stretch_81 (by decide) ?_
        refine xk_Vi (As := [.int r67, .int 1]) (rest := []) hx hb hml hown hts hK hN hZ hP hD hS hA mb_X8_sungFor mw_4_34 mw_4_36 mw_0_24 (c_X8_sungFor l D cI cZ cS h h1 h2 h3 h4 h5 h6 h7 h8 gst gty gse gte gsp gtl z r67 (1 : Int32) (by rw [e67]; exact hq.1) (by decide) (by exact hmd)) [0, 1] 0 8 rfl rfl (by decide) rfl (fun _ => by simp only [List.map]) (by decide) (by decide) rfl hl.1 rfl (Nat.le_of_ble_eq_true rfl) dX8_stretch_85 ⟨Nat.zero_le _, Nat.zero_le _⟩ (fun r85 _ H locs hw hP hD hS => ?_)
        have hP : va_P D vwCl [(h, .inr (8, [.ref h1, .ref h2, .ref h3, .int gst, .ref h4, .ref h5, .ref h6, .int gty, .int gse, .int gte, .int gsp, .ref h7, .ref h8, .int gtl])), (h1, .inl (cI, 190, .inl z))] H := hP
        have hD : va_D A [(h, .inr (8, [.ref h1, .ref h2, .ref h3, .int gst, .ref h4, .ref h5, .ref h6, .int gty, .int gse, .int gte, .int gsp, .ref h7, .ref h8, .int gtl])), (h1, .inl (cI, 190, .inl z))] := hD
        have p85 : r85.toInt = singF r67.toInt (z 5).toInt ((1 : Int32) = 1) := hw
        exact xk_reti () hx hb hr hlocks (xk_P hP (by rfl)) (by unfold strA; rw [if_pos b2, if_neg (by omega), if_neg (by omega), if_neg (by omega), if_pos t11]; rw [p85, e67]; unfold singF; rw [if_pos rfl, if_pos (by rw [← e73]; exact d77)]) hS dX8_stretch_88 hQ
  · have b2 : ¬ (0 ≤ p1.toInt ∧ p1.toInt < (z 7).toInt) := b2
    refine lv_if_ne (tgt := 10) hx hb dX8_stretch_5 (by decide) (fun c5 => absurd (by decide) c5) (fun _ => ?_)
    refine lv_iconst (v := (-1)) hx hb dX8_stretch_8 (by decide) ?_
    exact xk_reti () hx hb hr hlocks (xk_P hP (by rfl)) (by unfold strA; rw [if_neg b2]) hS dX8_stretch_9 hQ

set_option maxHeartbeats 4000000 in
set_option maxRecDepth 100000 in
theorem c_X8_walk (l : Launch) (D : va_G) (cI cZ cS : ClassId) (h h1 h2 h3 h4 h5 h6 h7 h8 : Nat) (gst gty gse gte gsp gtl : Int32) (z : Nat → Int32) (p1 : Int32)  : xMi l yX8_walk cX8_walk 2 (some .int) ({ frames := 1, cells := 0, slots := 0, locals := 22 } : Room) D (xTy cI cZ cS) [.ref h, .int p1] [(h, .inr (8, [.ref h1, .ref h2, .ref h3, .int gst, .ref h4, .ref h5, .ref h6, .int gty, .int gse, .int gte, .int gsp, .ref h7, .ref h8, .int gtl])), (h1, .inl (cI, 190, .inl z))] (fun (r : Int32) (_ : Unit) => r = walkR z p1) (fun (_ : Unit) => [(h, .inr (8, [.ref h1, .ref h2, .ref h3, .int gst, .ref h4, .ref h5, .ref h6, .int gty, .int gse, .int gte, .int gsp, .ref h7, .ref h8, .int gtl])), (h1, .inl (cI, 190, .inl z))]) := by
  refine xk_bodyi (by decide) (Nat.le_of_ble_eq_true rfl) ?_
  intro p e s m below meth c A ls args Q hx hb hr hts hown hlocks hml hin hK hP hD hS hA hN hZ hl hQ
  have hl : lv_has ls 2 [(0, .ref h), (1, .int p1)] := hl
  refine lv_iload_n hx hb dX8_walk_0 rfl (lv_at hl 1 rfl) ?_
  refine lv_iconst (v := 0) hx hb dX8_walk_1 (by decide) ?_
  refine lv_bipush (v := 14) hx hb dX8_walk_2 (by decide) ?_
  refine xk_Si (As := [.int p1, .int 0, .int 14]) (rest := []) hx hb hml hown hts hK hN hZ hP hD hS hA mb_X8_in mw_3_143 mw_3_144 (c_X8_in l D cI cZ cS p1 (0 : Int32) (14 : Int32) ) [] (by decide) rfl (fun _ => by simp only [List.map]) (by decide) (by decide) rfl hl.1 rfl (Nat.le_of_ble_eq_true rfl) dX8_walk_4 ⟨Nat.zero_le _, Nat.zero_le _⟩ (fun r4 _ H locs hw hP hD hS => ?_)
  have hP : va_P D vwCl [(h, .inr (8, [.ref h1, .ref h2, .ref h3, .int gst, .ref h4, .ref h5, .ref h6, .int gty, .int gse, .int gte, .int gsp, .ref h7, .ref h8, .int gtl])), (h1, .inl (cI, 190, .inl z))] H := hP
  have hD : va_D A [(h, .inr (8, [.ref h1, .ref h2, .ref h3, .int gst, .ref h4, .ref h5, .ref h6, .int gty, .int gse, .int gte, .int gsp, .ref h7, .ref h8, .int gtl])), (h1, .inl (cI, 190, .inl z))] := hD
  rcases hw with ⟨rfl, b4⟩ | ⟨rfl, b4⟩
  · have b4 : 0 ≤ p1.toInt ∧ p1.toInt ≤ 14 := b4
    refine lv_if_eq (tgt := 23) hx hb dX8_walk_7 (by decide) (fun c7 => absurd c7 (by decide)) (fun _ => ?_)
    refine lv_aload_n hx hb dX8_walk_10 rfl (lv_at hl 0 rfl) ?_
    refine va_get (D := D) (ci := 8) (v := .ref h1) (C := RX8) (T := TX8) (N := 14) hx hb hts xin8 hown hK hP 0 rfl rfl 0 (by decide) (hts _ (List.mem_cons_of_mem _ mw_3_89)) (fun _ h9 => h9) rfl dX8_walk_11 ?_
    refine lv_sipush (v := 174) hx hb dX8_walk_14 (by decide) ?_
    refine lv_iload_n hx hb dX8_walk_17 rfl (lv_at hl 1 rfl) ?_
    refine lv_iadd hx hb dX8_walk_18 ?_
    refine lv_topi (fun x18 e18 => ?_)
    have t18 : x18.toInt = 174 + p1.toInt := by rw [e18]; exact xi_add (by decide) rfl (by omega) (by omega)
    refine va_iald hx hb hK hP 1 0 rfl rfl (xi_in (by omega) (by omega)) dX8_walk_19 ?_
    refine xk_top (z := z (174 + p1.toInt.toNat)) (xk_rd (by omega)) ?_
    refine lv_topi (fun x19 e19 => ?_)
    refine lv_goto (tgt := 25) hx hb dX8_walk_20 (by decide) ?_
    exact xk_reti () hx hb hr hlocks (xk_P hP (by rfl)) (by rw [walkR, if_pos b4, e19]) hS dX8_walk_25 hQ
  · have b4 : ¬ (0 ≤ p1.toInt ∧ p1.toInt ≤ 14) := b4
    refine lv_if_eq (tgt := 23) hx hb dX8_walk_7 (by decide) (fun _ => ?_) (fun c7 => absurd (by decide) c7)
    refine lv_bipush (v := (-2)) hx hb dX8_walk_23 (by decide) ?_
    exact xk_reti () hx hb hr hlocks (xk_P hP (by rfl)) (by rw [walkR, if_neg b4]) hS dX8_walk_25 hQ

set_option maxHeartbeats 4000000 in
set_option maxRecDepth 100000 in
theorem c_X8_sungInSong (l : Launch) (D : va_G) (cI cZ cS : ClassId) (h h1 h2 h3 h4 h5 h6 h7 h8 : Nat) (gst gty gse gte gsp gtl : Int32) (z : Nat → Int32)  (hg : SongOK z) : xMi l yX8_sungInSong cX8_sungInSong 3 (some .int) ({ frames := 2, cells := 0, slots := 0, locals := 45 } : Room) D (xTy cI cZ cS) [.ref h] [(h, .inr (8, [.ref h1, .ref h2, .ref h3, .int gst, .ref h4, .ref h5, .ref h6, .int gty, .int gse, .int gte, .int gsp, .ref h7, .ref h8, .int gtl])), (h1, .inl (cI, 190, .inl z))] (fun (r : Int32) (_ : Unit) => r = sumS z (z 6).toInt.toNat) (fun (_ : Unit) => [(h, .inr (8, [.ref h1, .ref h2, .ref h3, .int gst, .ref h4, .ref h5, .ref h6, .int gty, .int gse, .int gte, .int gsp, .ref h7, .ref h8, .int gtl])), (h1, .inl (cI, 190, .inl z))]) := by
  refine xk_bodyi (by decide) (Nat.le_of_ble_eq_true rfl) ?_
  intro p e s m below meth c A ls args Q hx hb hr hts hown hlocks hml hin hK hP hD hS hA hN hZ hl hQ
  have hl : lv_has ls 3 [(0, .ref h)] := hl
  have hq0 := hg.1
  refine lv_iconst (v := 0) hx hb dX8_sungInSong_0 (by decide) ?_
  refine lv_istore_n (lv' := [(1, .int 0), (0, .ref h)]) hx hb dX8_sungInSong_1 rfl hl (by decide) rfl (fun ls hl => ?_)
  refine lv_iconst (v := 0) hx hb dX8_sungInSong_2 (by decide) ?_
  refine lv_istore_n (lv' := [(2, .int 0), (1, .int 0), (0, .ref h)]) hx hb dX8_sungInSong_3 rfl hl (by decide) rfl (fun ls hl => ?_)
  have L4 : ∀ (n : Nat) (k : Int32) (a : Int32) (hk : 0 ≤ k.toInt ∧ k.toInt ≤ (z 6).toInt) (hs : a = sumS z k.toInt.toNat) (hn4 : 12 - k.toInt.toNat < n) (H : Heap) (locs : List Loc), va_P D vwCl [(h, .inr (8, [.ref h1, .ref h2, .ref h3, .int gst, .ref h4, .ref h5, .ref h6, .int gty, .int gse, .int gte, .int gsp, .ref h7, .ref h8, .int gtl])), (h1, .inl (cI, 190, .inl z))] H → va_D A [(h, .inr (8, [.ref h1, .ref h2, .ref h3, .int gst, .ref h4, .ref h5, .ref h6, .int gty, .int gse, .int gte, .int gsp, .ref h7, .ref h8, .int gtl])), (h1, .inl (cI, 190, .inl z))] → va_S A s.heap H locs → ∀ ls : Array Slot, lv_has ls 3 [(2, .int k), (1, .int a), (0, .ref h)] → W p l e ({ frames := 2, cells := 0, slots := 0, locals := 45 } : Room) s m args below meth c H locs 0 0 Q (F0 m 4 ls []) := by
    intro n
    induction n with
    | zero =>
      intro k a hk hs hn4
      exact absurd hn4 (Nat.not_lt_zero _)
    | succ n ih4 =>
      intro k a hk hs hn4 H locs hP hD hS ls hl
      refine lv_iload_n hx hb dX8_sungInSong_4 rfl (lv_at hl 0 rfl) ?_
      refine lv_aload_n hx hb dX8_sungInSong_5 rfl (lv_at hl 2 rfl) ?_
      refine va_get (D := D) (ci := 8) (v := .ref h1) (C := RX8) (T := TX8) (N := 14) hx hb hts xin8 hown hK hP 0 rfl rfl 0 (by decide) (hts _ (List.mem_cons_of_mem _ mw_3_89)) (fun _ h9 => h9) rfl dX8_sungInSong_6 ?_
      refine lv_bipush (v := 6) hx hb dX8_sungInSong_9 (by decide) ?_
      refine va_iald hx hb hK hP 1 0 rfl rfl (xi_in (by decide) (by decide)) dX8_sungInSong_11 ?_
      refine xk_top (z := z 6) rfl ?_
      refine lv_icmp_ge (tgt := 29) hx hb dX8_sungInSong_12 (by decide) (fun c12 => ?_) (fun c12 => ?_)
      · have t12 : (z 6).toInt ≤ k.toInt := xi_le rfl rfl c12
        refine lv_iload_n hx hb dX8_sungInSong_29 rfl (lv_at hl 1 rfl) ?_
        rw [show k.toInt.toNat = (z 6).toInt.toNat from by omega] at hs
        exact xk_reti () hx hb hr hlocks (xk_P hP (by rfl)) (by exact hs) hS dX8_sungInSong_30 hQ
      · have t12 : k.toInt < (z 6).toInt := xi_nle rfl rfl c12
        refine lv_iload_n hx hb dX8_sungInSong_15 rfl (lv_at hl 1 rfl) ?_
        refine lv_aload_n hx hb dX8_sungInSong_16 rfl (lv_at hl 2 rfl) ?_
        refine lv_iload_n hx hb dX8_sungInSong_17 rfl (lv_at hl 0 rfl) ?_
        refine xk_Vi (As := [.int k]) (rest := [.int a]) hx hb hml hown hts hK hN hZ hP hD hS hA mb_X8_sungIn mw_4_18 mw_4_20 mw_0_22 (c_X8_sungIn l D cI cZ cS h h1 h2 h3 h4 h5 h6 h7 h8 gst gty gse gte gsp gtl z k (by omega) (by have hq := (hg.2 k.toInt.toNat (by omega)).1; omega)) [0, 1] 0 8 rfl rfl (by decide) rfl (fun _ => by simp only [List.map]) (by decide) (by decide) rfl hl.1 rfl (Nat.le_of_ble_eq_true rfl) dX8_sungInSong_18 ⟨Nat.zero_le _, Nat.zero_le _⟩ (fun r18 _ H locs hw hP hD hS => ?_)
        have hP : va_P D vwCl [(h, .inr (8, [.ref h1, .ref h2, .ref h3, .int gst, .ref h4, .ref h5, .ref h6, .int gty, .int gse, .int gte, .int gsp, .ref h7, .ref h8, .int gtl])), (h1, .inl (cI, 190, .inl z))] H := hP
        have hD : va_D A [(h, .inr (8, [.ref h1, .ref h2, .ref h3, .int gst, .ref h4, .ref h5, .ref h6, .int gty, .int gse, .int gte, .int gsp, .ref h7, .ref h8, .int gtl])), (h1, .inl (cI, 190, .inl z))] := hD
        have e18 : r18 = sungL z k.toInt.toNat := hw
        refine lv_iadd hx hb dX8_sungInSong_21 ?_
        refine lv_topi (fun x21 e21 => ?_)
        refine lv_istore_n (lv' := [(1, .int x21), (2, .int k), (0, .ref h)]) hx hb dX8_sungInSong_22 rfl hl (by decide) rfl (fun ls hl => ?_)
        obtain ⟨x23, e23⟩ : ∃ y : Int32, y = k + 1 := ⟨_, rfl⟩
        have t23 : x23.toInt = k.toInt + 1 := by rw [e23]; exact xi_add rfl (by decide) (by omega) (by omega)
        refine lv_iinc (v := x23) (lv' := [(2, .int x23), (1, .int x21), (0, .ref h)]) hx hb dX8_sungInSong_23 hl (k := 1) rfl (by rw [e23]; rfl) (by decide) rfl (fun ls hl => ?_)
        refine lv_goto (tgt := 4) hx hb dX8_sungInSong_26 (by decide) ?_
        have hkk : x23.toInt.toNat = k.toInt.toNat + 1 := by omega
        exact ih4  x23 x21 (by omega) (by rw [hkk, e21, hs, e18]; rfl) (by omega) _ _ hP hD hS ls (lv_sub hl [0, 1, 2] rfl)
  exact L4 13 (0 : Int32) (0 : Int32) (by rw [show (0 : Int32).toInt = 0 from by decide]; omega) (by rfl) (by decide) _ _ hP hD hS ls (lv_sub hl [0, 1, 2] rfl)

set_option maxHeartbeats 4000000 in
set_option maxRecDepth 100000 in
theorem c_X8_marksInSong (l : Launch) (D : va_G) (cI cZ cS : ClassId) (h h1 h2 h3 h4 h5 h6 h7 h8 : Nat) (gst gty gse gte gsp gtl : Int32) (z : Nat → Int32)  (hg : SongOK z) : xMi l yX8_marksInSong cX8_marksInSong 3 (some .int) ({ frames := 2, cells := 0, slots := 0, locals := 45 } : Room) D (xTy cI cZ cS) [.ref h] [(h, .inr (8, [.ref h1, .ref h2, .ref h3, .int gst, .ref h4, .ref h5, .ref h6, .int gty, .int gse, .int gte, .int gsp, .ref h7, .ref h8, .int gtl])), (h1, .inl (cI, 190, .inl z))] (fun (r : Int32) (_ : Unit) => r = sumM z (z 6).toInt.toNat) (fun (_ : Unit) => [(h, .inr (8, [.ref h1, .ref h2, .ref h3, .int gst, .ref h4, .ref h5, .ref h6, .int gty, .int gse, .int gte, .int gsp, .ref h7, .ref h8, .int gtl])), (h1, .inl (cI, 190, .inl z))]) := by
  refine xk_bodyi (by decide) (Nat.le_of_ble_eq_true rfl) ?_
  intro p e s m below meth c A ls args Q hx hb hr hts hown hlocks hml hin hK hP hD hS hA hN hZ hl hQ
  have hl : lv_has ls 3 [(0, .ref h)] := hl
  have hq0 := hg.1
  refine lv_iconst (v := 0) hx hb dX8_marksInSong_0 (by decide) ?_
  refine lv_istore_n (lv' := [(1, .int 0), (0, .ref h)]) hx hb dX8_marksInSong_1 rfl hl (by decide) rfl (fun ls hl => ?_)
  refine lv_iconst (v := 0) hx hb dX8_marksInSong_2 (by decide) ?_
  refine lv_istore_n (lv' := [(2, .int 0), (1, .int 0), (0, .ref h)]) hx hb dX8_marksInSong_3 rfl hl (by decide) rfl (fun ls hl => ?_)
  have L4 : ∀ (n : Nat) (k : Int32) (a : Int32) (hk : 0 ≤ k.toInt ∧ k.toInt ≤ (z 6).toInt) (hs : a = sumM z k.toInt.toNat) (hn4 : 12 - k.toInt.toNat < n) (H : Heap) (locs : List Loc), va_P D vwCl [(h, .inr (8, [.ref h1, .ref h2, .ref h3, .int gst, .ref h4, .ref h5, .ref h6, .int gty, .int gse, .int gte, .int gsp, .ref h7, .ref h8, .int gtl])), (h1, .inl (cI, 190, .inl z))] H → va_D A [(h, .inr (8, [.ref h1, .ref h2, .ref h3, .int gst, .ref h4, .ref h5, .ref h6, .int gty, .int gse, .int gte, .int gsp, .ref h7, .ref h8, .int gtl])), (h1, .inl (cI, 190, .inl z))] → va_S A s.heap H locs → ∀ ls : Array Slot, lv_has ls 3 [(2, .int k), (1, .int a), (0, .ref h)] → W p l e ({ frames := 2, cells := 0, slots := 0, locals := 45 } : Room) s m args below meth c H locs 0 0 Q (F0 m 4 ls []) := by
    intro n
    induction n with
    | zero =>
      intro k a hk hs hn4
      exact absurd hn4 (Nat.not_lt_zero _)
    | succ n ih4 =>
      intro k a hk hs hn4 H locs hP hD hS ls hl
      refine lv_iload_n hx hb dX8_marksInSong_4 rfl (lv_at hl 0 rfl) ?_
      refine lv_aload_n hx hb dX8_marksInSong_5 rfl (lv_at hl 2 rfl) ?_
      refine va_get (D := D) (ci := 8) (v := .ref h1) (C := RX8) (T := TX8) (N := 14) hx hb hts xin8 hown hK hP 0 rfl rfl 0 (by decide) (hts _ (List.mem_cons_of_mem _ mw_3_89)) (fun _ h9 => h9) rfl dX8_marksInSong_6 ?_
      refine lv_bipush (v := 6) hx hb dX8_marksInSong_9 (by decide) ?_
      refine va_iald hx hb hK hP 1 0 rfl rfl (xi_in (by decide) (by decide)) dX8_marksInSong_11 ?_
      refine xk_top (z := z 6) rfl ?_
      refine lv_icmp_ge (tgt := 29) hx hb dX8_marksInSong_12 (by decide) (fun c12 => ?_) (fun c12 => ?_)
      · have t12 : (z 6).toInt ≤ k.toInt := xi_le rfl rfl c12
        refine lv_iload_n hx hb dX8_marksInSong_29 rfl (lv_at hl 1 rfl) ?_
        rw [show k.toInt.toNat = (z 6).toInt.toNat from by omega] at hs
        exact xk_reti () hx hb hr hlocks (xk_P hP (by rfl)) (by exact hs) hS dX8_marksInSong_30 hQ
      · have t12 : k.toInt < (z 6).toInt := xi_nle rfl rfl c12
        refine lv_iload_n hx hb dX8_marksInSong_15 rfl (lv_at hl 1 rfl) ?_
        refine lv_aload_n hx hb dX8_marksInSong_16 rfl (lv_at hl 2 rfl) ?_
        refine lv_iload_n hx hb dX8_marksInSong_17 rfl (lv_at hl 0 rfl) ?_
        refine xk_Vi (As := [.int k]) (rest := [.int a]) hx hb hml hown hts hK hN hZ hP hD hS hA mb_X8_marksIn mw_4_22 mw_4_24 mw_0_23 (c_X8_marksIn l D cI cZ cS h h1 h2 h3 h4 h5 h6 h7 h8 gst gty gse gte gsp gtl z k (by omega) (by have hq := (hg.2 k.toInt.toNat (by omega)).1; omega)) [0, 1] 0 8 rfl rfl (by decide) rfl (fun _ => by simp only [List.map]) (by decide) (by decide) rfl hl.1 rfl (Nat.le_of_ble_eq_true rfl) dX8_marksInSong_18 ⟨Nat.zero_le _, Nat.zero_le _⟩ (fun r18 _ H locs hw hP hD hS => ?_)
        have hP : va_P D vwCl [(h, .inr (8, [.ref h1, .ref h2, .ref h3, .int gst, .ref h4, .ref h5, .ref h6, .int gty, .int gse, .int gte, .int gsp, .ref h7, .ref h8, .int gtl])), (h1, .inl (cI, 190, .inl z))] H := hP
        have hD : va_D A [(h, .inr (8, [.ref h1, .ref h2, .ref h3, .int gst, .ref h4, .ref h5, .ref h6, .int gty, .int gse, .int gte, .int gsp, .ref h7, .ref h8, .int gtl])), (h1, .inl (cI, 190, .inl z))] := hD
        have e18 : r18 = marksL z k.toInt.toNat := hw
        refine lv_iadd hx hb dX8_marksInSong_21 ?_
        refine lv_topi (fun x21 e21 => ?_)
        refine lv_istore_n (lv' := [(1, .int x21), (2, .int k), (0, .ref h)]) hx hb dX8_marksInSong_22 rfl hl (by decide) rfl (fun ls hl => ?_)
        obtain ⟨x23, e23⟩ : ∃ y : Int32, y = k + 1 := ⟨_, rfl⟩
        have t23 : x23.toInt = k.toInt + 1 := by rw [e23]; exact xi_add rfl (by decide) (by omega) (by omega)
        refine lv_iinc (v := x23) (lv' := [(2, .int x23), (1, .int x21), (0, .ref h)]) hx hb dX8_marksInSong_23 hl (k := 1) rfl (by rw [e23]; rfl) (by decide) rfl (fun ls hl => ?_)
        refine lv_goto (tgt := 4) hx hb dX8_marksInSong_26 (by decide) ?_
        have hkk : x23.toInt.toNat = k.toInt.toNat + 1 := by omega
        exact ih4  x23 x21 (by omega) (by rw [hkk, e21, hs, e18]; rfl) (by omega) _ _ hP hD hS ls (lv_sub hl [0, 1, 2] rfl)
  exact L4 13 (0 : Int32) (0 : Int32) (by rw [show (0 : Int32).toInt = 0 from by decide]; omega) (by rfl) (by decide) _ _ hP hD hS ls (lv_sub hl [0, 1, 2] rfl)

set_option maxHeartbeats 4000000 in
set_option maxRecDepth 100000 in
theorem c_X8_stepsOfRoad (l : Launch) (D : va_G) (cI cZ cS : ClassId) (h h1 h2 h3 h4 h5 h6 h7 h8 : Nat) (gst gty gse gte gsp gtl : Int32) (z : Nat → Int32)  (hrd : RoadOK z) : xMi l yX8_stepsOfRoad cX8_stepsOfRoad 3 (some .int) ({ frames := 1, cells := 0, slots := 0, locals := 22 } : Room) D (xTy cI cZ cS) [.ref h] [(h, .inr (8, [.ref h1, .ref h2, .ref h3, .int gst, .ref h4, .ref h5, .ref h6, .int gty, .int gse, .int gte, .int gsp, .ref h7, .ref h8, .int gtl])), (h1, .inl (cI, 190, .inl z))] (fun (r : Int32) (_ : Unit) => r = sumR z (z 7).toInt.toNat) (fun (_ : Unit) => [(h, .inr (8, [.ref h1, .ref h2, .ref h3, .int gst, .ref h4, .ref h5, .ref h6, .int gty, .int gse, .int gte, .int gsp, .ref h7, .ref h8, .int gtl])), (h1, .inl (cI, 190, .inl z))]) := by
  refine xk_bodyi (by decide) (Nat.le_of_ble_eq_true rfl) ?_
  intro p e s m below meth c A ls args Q hx hb hr hts hown hlocks hml hin hK hP hD hS hA hN hZ hl hQ
  have hl : lv_has ls 3 [(0, .ref h)] := hl
  have hq0 := hrd.1
  refine lv_iconst (v := 0) hx hb dX8_stepsOfRoad_0 (by decide) ?_
  refine lv_istore_n (lv' := [(1, .int 0), (0, .ref h)]) hx hb dX8_stepsOfRoad_1 rfl hl (by decide) rfl (fun ls hl => ?_)
  refine lv_iconst (v := 0) hx hb dX8_stepsOfRoad_2 (by decide) ?_
  refine lv_istore_n (lv' := [(2, .int 0), (1, .int 0), (0, .ref h)]) hx hb dX8_stepsOfRoad_3 rfl hl (by decide) rfl (fun ls hl => ?_)
  have L4 : ∀ (n : Nat) (k : Int32) (a : Int32) (hk : 0 ≤ k.toInt ∧ k.toInt ≤ (z 7).toInt) (hs : a = sumR z k.toInt.toNat) (hn4 : 12 - k.toInt.toNat < n) (H : Heap) (locs : List Loc), va_P D vwCl [(h, .inr (8, [.ref h1, .ref h2, .ref h3, .int gst, .ref h4, .ref h5, .ref h6, .int gty, .int gse, .int gte, .int gsp, .ref h7, .ref h8, .int gtl])), (h1, .inl (cI, 190, .inl z))] H → va_D A [(h, .inr (8, [.ref h1, .ref h2, .ref h3, .int gst, .ref h4, .ref h5, .ref h6, .int gty, .int gse, .int gte, .int gsp, .ref h7, .ref h8, .int gtl])), (h1, .inl (cI, 190, .inl z))] → va_S A s.heap H locs → ∀ ls : Array Slot, lv_has ls 3 [(2, .int k), (1, .int a), (0, .ref h)] → W p l e ({ frames := 1, cells := 0, slots := 0, locals := 22 } : Room) s m args below meth c H locs 0 0 Q (F0 m 4 ls []) := by
    intro n
    induction n with
    | zero =>
      intro k a hk hs hn4
      exact absurd hn4 (Nat.not_lt_zero _)
    | succ n ih4 =>
      intro k a hk hs hn4 H locs hP hD hS ls hl
      refine lv_iload_n hx hb dX8_stepsOfRoad_4 rfl (lv_at hl 0 rfl) ?_
      refine lv_aload_n hx hb dX8_stepsOfRoad_5 rfl (lv_at hl 2 rfl) ?_
      refine va_get (D := D) (ci := 8) (v := .ref h1) (C := RX8) (T := TX8) (N := 14) hx hb hts xin8 hown hK hP 0 rfl rfl 0 (by decide) (hts _ (List.mem_cons_of_mem _ mw_3_89)) (fun _ h9 => h9) rfl dX8_stepsOfRoad_6 ?_
      refine lv_bipush (v := 7) hx hb dX8_stepsOfRoad_9 (by decide) ?_
      refine va_iald hx hb hK hP 1 0 rfl rfl (xi_in (by decide) (by decide)) dX8_stepsOfRoad_11 ?_
      refine xk_top (z := z 7) rfl ?_
      refine lv_icmp_ge (tgt := 30) hx hb dX8_stepsOfRoad_12 (by decide) (fun c12 => ?_) (fun c12 => ?_)
      · have t12 : (z 7).toInt ≤ k.toInt := xi_le rfl rfl c12
        refine lv_iload_n hx hb dX8_stepsOfRoad_30 rfl (lv_at hl 1 rfl) ?_
        rw [show k.toInt.toNat = (z 7).toInt.toNat from by omega] at hs
        exact xk_reti () hx hb hr hlocks (xk_P hP (by rfl)) (by exact hs) hS dX8_stepsOfRoad_31 hQ
      · have t12 : k.toInt < (z 7).toInt := xi_nle rfl rfl c12
        refine lv_iload_n hx hb dX8_stepsOfRoad_15 rfl (lv_at hl 1 rfl) ?_
        refine lv_aload_n hx hb dX8_stepsOfRoad_16 rfl (lv_at hl 2 rfl) ?_
        refine lv_iload_n hx hb dX8_stepsOfRoad_17 rfl (lv_at hl 0 rfl) ?_
        refine lv_iconst (v := 0) hx hb dX8_stepsOfRoad_18 (by decide) ?_
        refine xk_Vi (As := [.int k, .int 0]) (rest := [.int a]) hx hb hml hown hts hK hN hZ hP hD hS hA mb_X8_ofStretch mw_3_174 mw_3_176 mw_0_11 (c_X8_ofStretch l D cI cZ cS h h1 h2 h3 h4 h5 h6 h7 h8 gst gty gse gte gsp gtl z k (0 : Int32) (by omega) (by decide)) [0, 1] 0 8 rfl rfl (by decide) rfl (fun _ => by simp only [List.map]) (by decide) (by decide) rfl hl.1 rfl (Nat.le_of_ble_eq_true rfl) dX8_stepsOfRoad_19 ⟨Nat.zero_le _, Nat.zero_le _⟩ (fun r19 _ H locs hw hP hD hS => ?_)
        have hP : va_P D vwCl [(h, .inr (8, [.ref h1, .ref h2, .ref h3, .int gst, .ref h4, .ref h5, .ref h6, .int gty, .int gse, .int gte, .int gsp, .ref h7, .ref h8, .int gtl])), (h1, .inl (cI, 190, .inl z))] H := hP
        have hD : va_D A [(h, .inr (8, [.ref h1, .ref h2, .ref h3, .int gst, .ref h4, .ref h5, .ref h6, .int gty, .int gse, .int gte, .int gsp, .ref h7, .ref h8, .int gtl])), (h1, .inl (cI, 190, .inl z))] := hD
        have e19 : r19 = ofZ z k.toInt.toNat 0 := hw
        refine lv_iadd hx hb dX8_stepsOfRoad_22 ?_
        refine lv_topi (fun x22 e22 => ?_)
        refine lv_istore_n (lv' := [(1, .int x22), (2, .int k), (0, .ref h)]) hx hb dX8_stepsOfRoad_23 rfl hl (by decide) rfl (fun ls hl => ?_)
        obtain ⟨x24, e24⟩ : ∃ y : Int32, y = k + 1 := ⟨_, rfl⟩
        have t24 : x24.toInt = k.toInt + 1 := by rw [e24]; exact xi_add rfl (by decide) (by omega) (by omega)
        refine lv_iinc (v := x24) (lv' := [(2, .int x24), (1, .int x22), (0, .ref h)]) hx hb dX8_stepsOfRoad_24 hl (k := 1) rfl (by rw [e24]; rfl) (by decide) rfl (fun ls hl => ?_)
        refine lv_goto (tgt := 4) hx hb dX8_stepsOfRoad_27 (by decide) ?_
        have hkk : x24.toInt.toNat = k.toInt.toNat + 1 := by omega
        exact ih4  x24 x22 (by omega) (by rw [hkk, e22, hs, e19]; rfl) (by omega) _ _ hP hD hS ls (lv_sub hl [0, 1, 2] rfl)
  exact L4 13 (0 : Int32) (0 : Int32) (by rw [show (0 : Int32).toInt = 0 from by decide]; omega) (by rfl) (by decide) _ _ hP hD hS ls (lv_sub hl [0, 1, 2] rfl)

set_option maxHeartbeats 4000000 in
set_option maxRecDepth 100000 in
theorem c_X8_count (l : Launch) (D : va_G) (cI cZ cS : ClassId) (h h1 h2 h3 h4 h5 h6 h7 h8 : Nat) (gst gty gse gte gsp gtl : Int32) (z : Nat → Int32) (p1 : Int32) (hg : SongOK z) (hrd : RoadOK z) : xMi l yX8_count cX8_count 2 (some .int) ({ frames := 3, cells := 0, slots := 0, locals := 67 } : Room) D (xTy cI cZ cS) [.ref h, .int p1] [(h, .inr (8, [.ref h1, .ref h2, .ref h3, .int gst, .ref h4, .ref h5, .ref h6, .int gty, .int gse, .int gte, .int gsp, .ref h7, .ref h8, .int gtl])), (h1, .inl (cI, 190, .inl z))] (fun (r : Int32) (_ : Unit) => r = cntR z gty gst p1) (fun (_ : Unit) => [(h, .inr (8, [.ref h1, .ref h2, .ref h3, .int gst, .ref h4, .ref h5, .ref h6, .int gty, .int gse, .int gte, .int gsp, .ref h7, .ref h8, .int gtl])), (h1, .inl (cI, 190, .inl z))]) := by
  refine xk_bodyi (by decide) (Nat.le_of_ble_eq_true rfl) ?_
  intro p e s m below meth c A ls args Q hx hb hr hts hown hlocks hml hin hK hP hD hS hA hN hZ hl hQ
  have hl : lv_has ls 2 [(0, .ref h), (1, .int p1)] := hl
  refine lv_iload_n hx hb dX8_count_0 rfl (lv_at hl 1 rfl) ?_
  have h1 : p1.toInt < 0 ∨ 12 < p1.toInt ∨ p1.toInt = 0 ∨ p1.toInt = 1 ∨ p1.toInt = 2 ∨ p1.toInt = 3 ∨ p1.toInt = 4 ∨ p1.toInt = 5 ∨ p1.toInt = 6 ∨ p1.toInt = 7 ∨ p1.toInt = 8 ∨ p1.toInt = 9 ∨ p1.toInt = 10 ∨ p1.toInt = 11 ∨ p1.toInt = 12 := by omega
  rcases h1 with t1 | t1 | t1 | t1 | t1 | t1 | t1 | t1 | t1 | t1 | t1 | t1 | t1 | t1 | t1
  · refine lv_tableOut (tgt := 108) hx hb dX8_count_1 (by first | exact Or.inl t1 | exact Or.inr t1) (by decide) ?_
    refine lv_bipush (v := (-2)) hx hb dX8_count_108 (by decide) ?_
    exact xk_reti () hx hb hr hlocks (xk_P hP (by rfl)) (by rw [cntR, if_neg (by omega), if_neg (by omega), if_neg (by omega), if_neg (by omega), if_neg (by omega), if_neg (by omega), if_neg (by omega)]) hS dX8_count_110 hQ
  · refine lv_tableOut (tgt := 108) hx hb dX8_count_1 (by first | exact Or.inl t1 | exact Or.inr t1) (by decide) ?_
    refine lv_bipush (v := (-2)) hx hb dX8_count_108 (by decide) ?_
    exact xk_reti () hx hb hr hlocks (xk_P hP (by rfl)) (by rw [cntR, if_neg (by omega), if_neg (by omega), if_neg (by omega), if_neg (by omega), if_neg (by omega), if_neg (by omega), if_neg (by omega)]) hS dX8_count_110 hQ
  · refine lv_tableIn (off := 67) (tgt := 68) hx hb dX8_count_1 (by rw [t1]; decide) (by rw [t1]; decide) (by rw [t1]; rfl) (by decide) ?_
    refine lv_aload_n hx hb dX8_count_68 rfl (lv_at hl 0 rfl) ?_
    refine va_get (D := D) (ci := 8) (v := .ref h1) (C := RX8) (T := TX8) (N := 14) hx hb hts xin8 hown hK hP 0 rfl rfl 0 (by decide) (hts _ (List.mem_cons_of_mem _ mw_3_89)) (fun _ h9 => h9) rfl dX8_count_69 ?_
    refine lv_iload_n hx hb dX8_count_72 rfl (lv_at hl 1 rfl) ?_
    refine va_iald hx hb hK hP 1 0 rfl rfl (xi_in (by omega) (by omega)) dX8_count_73 ?_
    refine xk_top (z := z p1.toInt.toNat) rfl ?_
    refine lv_topi (fun x73 e73 => ?_)
    exact xk_reti () hx hb hr hlocks (xk_P hP (by rfl)) (by rw [cntR, if_pos (by omega), e73]) hS dX8_count_74 hQ
  · refine lv_tableIn (off := 67) (tgt := 68) hx hb dX8_count_1 (by rw [t1]; decide) (by rw [t1]; decide) (by rw [t1]; rfl) (by decide) ?_
    refine lv_aload_n hx hb dX8_count_68 rfl (lv_at hl 0 rfl) ?_
    refine va_get (D := D) (ci := 8) (v := .ref h1) (C := RX8) (T := TX8) (N := 14) hx hb hts xin8 hown hK hP 0 rfl rfl 0 (by decide) (hts _ (List.mem_cons_of_mem _ mw_3_89)) (fun _ h9 => h9) rfl dX8_count_69 ?_
    refine lv_iload_n hx hb dX8_count_72 rfl (lv_at hl 1 rfl) ?_
    refine va_iald hx hb hK hP 1 0 rfl rfl (xi_in (by omega) (by omega)) dX8_count_73 ?_
    refine xk_top (z := z p1.toInt.toNat) rfl ?_
    refine lv_topi (fun x73 e73 => ?_)
    exact xk_reti () hx hb hr hlocks (xk_P hP (by rfl)) (by rw [cntR, if_pos (by omega), e73]) hS dX8_count_74 hQ
  · refine lv_tableIn (off := 67) (tgt := 68) hx hb dX8_count_1 (by rw [t1]; decide) (by rw [t1]; decide) (by rw [t1]; rfl) (by decide) ?_
    refine lv_aload_n hx hb dX8_count_68 rfl (lv_at hl 0 rfl) ?_
    refine va_get (D := D) (ci := 8) (v := .ref h1) (C := RX8) (T := TX8) (N := 14) hx hb hts xin8 hown hK hP 0 rfl rfl 0 (by decide) (hts _ (List.mem_cons_of_mem _ mw_3_89)) (fun _ h9 => h9) rfl dX8_count_69 ?_
    refine lv_iload_n hx hb dX8_count_72 rfl (lv_at hl 1 rfl) ?_
    refine va_iald hx hb hK hP 1 0 rfl rfl (xi_in (by omega) (by omega)) dX8_count_73 ?_
    refine xk_top (z := z p1.toInt.toNat) rfl ?_
    refine lv_topi (fun x73 e73 => ?_)
    exact xk_reti () hx hb hr hlocks (xk_P hP (by rfl)) (by rw [cntR, if_pos (by omega), e73]) hS dX8_count_74 hQ
  · refine lv_tableIn (off := 67) (tgt := 68) hx hb dX8_count_1 (by rw [t1]; decide) (by rw [t1]; decide) (by rw [t1]; rfl) (by decide) ?_
    refine lv_aload_n hx hb dX8_count_68 rfl (lv_at hl 0 rfl) ?_
    refine va_get (D := D) (ci := 8) (v := .ref h1) (C := RX8) (T := TX8) (N := 14) hx hb hts xin8 hown hK hP 0 rfl rfl 0 (by decide) (hts _ (List.mem_cons_of_mem _ mw_3_89)) (fun _ h9 => h9) rfl dX8_count_69 ?_
    refine lv_iload_n hx hb dX8_count_72 rfl (lv_at hl 1 rfl) ?_
    refine va_iald hx hb hK hP 1 0 rfl rfl (xi_in (by omega) (by omega)) dX8_count_73 ?_
    refine xk_top (z := z p1.toInt.toNat) rfl ?_
    refine lv_topi (fun x73 e73 => ?_)
    exact xk_reti () hx hb hr hlocks (xk_P hP (by rfl)) (by rw [cntR, if_pos (by omega), e73]) hS dX8_count_74 hQ
  · refine lv_tableIn (off := 67) (tgt := 68) hx hb dX8_count_1 (by rw [t1]; decide) (by rw [t1]; decide) (by rw [t1]; rfl) (by decide) ?_
    refine lv_aload_n hx hb dX8_count_68 rfl (lv_at hl 0 rfl) ?_
    refine va_get (D := D) (ci := 8) (v := .ref h1) (C := RX8) (T := TX8) (N := 14) hx hb hts xin8 hown hK hP 0 rfl rfl 0 (by decide) (hts _ (List.mem_cons_of_mem _ mw_3_89)) (fun _ h9 => h9) rfl dX8_count_69 ?_
    refine lv_iload_n hx hb dX8_count_72 rfl (lv_at hl 1 rfl) ?_
    refine va_iald hx hb hK hP 1 0 rfl rfl (xi_in (by omega) (by omega)) dX8_count_73 ?_
    refine xk_top (z := z p1.toInt.toNat) rfl ?_
    refine lv_topi (fun x73 e73 => ?_)
    exact xk_reti () hx hb hr hlocks (xk_P hP (by rfl)) (by rw [cntR, if_pos (by omega), e73]) hS dX8_count_74 hQ
  · refine lv_tableIn (off := 67) (tgt := 68) hx hb dX8_count_1 (by rw [t1]; decide) (by rw [t1]; decide) (by rw [t1]; rfl) (by decide) ?_
    refine lv_aload_n hx hb dX8_count_68 rfl (lv_at hl 0 rfl) ?_
    refine va_get (D := D) (ci := 8) (v := .ref h1) (C := RX8) (T := TX8) (N := 14) hx hb hts xin8 hown hK hP 0 rfl rfl 0 (by decide) (hts _ (List.mem_cons_of_mem _ mw_3_89)) (fun _ h9 => h9) rfl dX8_count_69 ?_
    refine lv_iload_n hx hb dX8_count_72 rfl (lv_at hl 1 rfl) ?_
    refine va_iald hx hb hK hP 1 0 rfl rfl (xi_in (by omega) (by omega)) dX8_count_73 ?_
    refine xk_top (z := z p1.toInt.toNat) rfl ?_
    refine lv_topi (fun x73 e73 => ?_)
    exact xk_reti () hx hb hr hlocks (xk_P hP (by rfl)) (by rw [cntR, if_pos (by omega), e73]) hS dX8_count_74 hQ
  · refine lv_tableIn (off := 67) (tgt := 68) hx hb dX8_count_1 (by rw [t1]; decide) (by rw [t1]; decide) (by rw [t1]; rfl) (by decide) ?_
    refine lv_aload_n hx hb dX8_count_68 rfl (lv_at hl 0 rfl) ?_
    refine va_get (D := D) (ci := 8) (v := .ref h1) (C := RX8) (T := TX8) (N := 14) hx hb hts xin8 hown hK hP 0 rfl rfl 0 (by decide) (hts _ (List.mem_cons_of_mem _ mw_3_89)) (fun _ h9 => h9) rfl dX8_count_69 ?_
    refine lv_iload_n hx hb dX8_count_72 rfl (lv_at hl 1 rfl) ?_
    refine va_iald hx hb hK hP 1 0 rfl rfl (xi_in (by omega) (by omega)) dX8_count_73 ?_
    refine xk_top (z := z p1.toInt.toNat) rfl ?_
    refine lv_topi (fun x73 e73 => ?_)
    exact xk_reti () hx hb hr hlocks (xk_P hP (by rfl)) (by rw [cntR, if_pos (by omega), e73]) hS dX8_count_74 hQ
  · refine lv_tableIn (off := 74) (tgt := 75) hx hb dX8_count_1 (by rw [t1]; decide) (by rw [t1]; decide) (by rw [t1]; rfl) (by decide) ?_
    refine lv_aload_n hx hb dX8_count_75 rfl (lv_at hl 0 rfl) ?_
    refine xk_Vi (As := []) (rest := []) hx hb hml hown hts hK hN hZ hP hD hS hA mb_X8_sungInSong mw_4_46 mw_4_48 mw_0_25 (c_X8_sungInSong l D cI cZ cS h h1 h2 h3 h4 h5 h6 h7 h8 gst gty gse gte gsp gtl z (by assumption)) [0, 1] 0 8 rfl rfl (by decide) rfl (fun _ => by simp only [List.map]) (by decide) (by decide) rfl hl.1 rfl (Nat.le_of_ble_eq_true rfl) dX8_count_76 ⟨Nat.zero_le _, Nat.zero_le _⟩ (fun r76 _ H locs hw hP hD hS => ?_)
    have hP : va_P D vwCl [(h, .inr (8, [.ref h1, .ref h2, .ref h3, .int gst, .ref h4, .ref h5, .ref h6, .int gty, .int gse, .int gte, .int gsp, .ref h7, .ref h8, .int gtl])), (h1, .inl (cI, 190, .inl z))] H := hP
    have hD : va_D A [(h, .inr (8, [.ref h1, .ref h2, .ref h3, .int gst, .ref h4, .ref h5, .ref h6, .int gty, .int gse, .int gte, .int gsp, .ref h7, .ref h8, .int gtl])), (h1, .inl (cI, 190, .inl z))] := hD
    have e76 : r76 = sumS z (z 6).toInt.toNat := hw
    exact xk_reti () hx hb hr hlocks (xk_P hP (by rfl)) (by rw [cntR, if_neg (by omega), if_pos t1, e76]) hS dX8_count_79 hQ
  · refine lv_tableIn (off := 79) (tgt := 80) hx hb dX8_count_1 (by rw [t1]; decide) (by rw [t1]; decide) (by rw [t1]; rfl) (by decide) ?_
    refine lv_aload_n hx hb dX8_count_80 rfl (lv_at hl 0 rfl) ?_
    refine xk_Vi (As := []) (rest := []) hx hb hml hown hts hK hN hZ hP hD hS hA mb_X8_marksInSong mw_4_50 mw_4_52 mw_0_26 (c_X8_marksInSong l D cI cZ cS h h1 h2 h3 h4 h5 h6 h7 h8 gst gty gse gte gsp gtl z (by assumption)) [0, 1] 0 8 rfl rfl (by decide) rfl (fun _ => by simp only [List.map]) (by decide) (by decide) rfl hl.1 rfl (Nat.le_of_ble_eq_true rfl) dX8_count_81 ⟨Nat.zero_le _, Nat.zero_le _⟩ (fun r81 _ H locs hw hP hD hS => ?_)
    have hP : va_P D vwCl [(h, .inr (8, [.ref h1, .ref h2, .ref h3, .int gst, .ref h4, .ref h5, .ref h6, .int gty, .int gse, .int gte, .int gsp, .ref h7, .ref h8, .int gtl])), (h1, .inl (cI, 190, .inl z))] H := hP
    have hD : va_D A [(h, .inr (8, [.ref h1, .ref h2, .ref h3, .int gst, .ref h4, .ref h5, .ref h6, .int gty, .int gse, .int gte, .int gsp, .ref h7, .ref h8, .int gtl])), (h1, .inl (cI, 190, .inl z))] := hD
    have e81 : r81 = sumM z (z 6).toInt.toNat := hw
    exact xk_reti () hx hb hr hlocks (xk_P hP (by rfl)) (by rw [cntR, if_neg (by omega), if_neg (by omega), if_pos t1, e81]) hS dX8_count_84 hQ
  · refine lv_tableIn (off := 84) (tgt := 85) hx hb dX8_count_1 (by rw [t1]; decide) (by rw [t1]; decide) (by rw [t1]; rfl) (by decide) ?_
    refine lv_aload_n hx hb dX8_count_85 rfl (lv_at hl 0 rfl) ?_
    refine va_get (D := D) (ci := 8) (v := .ref h1) (C := RX8) (T := TX8) (N := 14) hx hb hts xin8 hown hK hP 0 rfl rfl 0 (by decide) (hts _ (List.mem_cons_of_mem _ mw_3_89)) (fun _ h9 => h9) rfl dX8_count_86 ?_
    refine lv_bipush (v := 7) hx hb dX8_count_89 (by decide) ?_
    refine va_iald hx hb hK hP 1 0 rfl rfl (xi_in (by decide) (by decide)) dX8_count_91 ?_
    refine xk_top (z := z 7) rfl ?_
    exact xk_reti () hx hb hr hlocks (xk_P hP (by rfl)) (by rw [cntR, if_neg (by omega), if_neg (by omega), if_neg (by omega), if_pos t1]) hS dX8_count_92 hQ
  · refine lv_tableIn (off := 92) (tgt := 93) hx hb dX8_count_1 (by rw [t1]; decide) (by rw [t1]; decide) (by rw [t1]; rfl) (by decide) ?_
    refine lv_aload_n hx hb dX8_count_93 rfl (lv_at hl 0 rfl) ?_
    refine xk_Vi (As := []) (rest := []) hx hb hml hown hts hK hN hZ hP hD hS hA mb_X8_stepsOfRoad mw_4_54 mw_4_56 mw_0_27 (c_X8_stepsOfRoad l D cI cZ cS h h1 h2 h3 h4 h5 h6 h7 h8 gst gty gse gte gsp gtl z (by assumption)) [0, 1] 0 8 rfl rfl (by decide) rfl (fun _ => by simp only [List.map]) (by decide) (by decide) rfl hl.1 rfl (Nat.le_of_ble_eq_true rfl) dX8_count_94 ⟨Nat.zero_le _, Nat.zero_le _⟩ (fun r94 _ H locs hw hP hD hS => ?_)
    have hP : va_P D vwCl [(h, .inr (8, [.ref h1, .ref h2, .ref h3, .int gst, .ref h4, .ref h5, .ref h6, .int gty, .int gse, .int gte, .int gsp, .ref h7, .ref h8, .int gtl])), (h1, .inl (cI, 190, .inl z))] H := hP
    have hD : va_D A [(h, .inr (8, [.ref h1, .ref h2, .ref h3, .int gst, .ref h4, .ref h5, .ref h6, .int gty, .int gse, .int gte, .int gsp, .ref h7, .ref h8, .int gtl])), (h1, .inl (cI, 190, .inl z))] := hD
    have e94 : r94 = sumR z (z 7).toInt.toNat := hw
    exact xk_reti () hx hb hr hlocks (xk_P hP (by rfl)) (by rw [cntR, if_neg (by omega), if_neg (by omega), if_neg (by omega), if_neg (by omega), if_pos t1, e94]) hS dX8_count_97 hQ
  · refine lv_tableIn (off := 97) (tgt := 98) hx hb dX8_count_1 (by rw [t1]; decide) (by rw [t1]; decide) (by rw [t1]; rfl) (by decide) ?_
    refine lv_aload_n hx hb dX8_count_98 rfl (lv_at hl 0 rfl) ?_
    refine va_get (D := D) (ci := 8) (v := .int gty) (C := RX8) (T := TX8) (N := 14) hx hb hts xin8 hown hK hP 0 rfl rfl 7 (by decide) (hts _ (List.mem_cons_of_mem _ mw_3_96)) (fun _ h9 => h9) rfl dX8_count_99 ?_
    exact xk_reti () hx hb hr hlocks (xk_P hP (by rfl)) (by rw [cntR, if_neg (by omega), if_neg (by omega), if_neg (by omega), if_neg (by omega), if_neg (by omega), if_pos t1]) hS dX8_count_102 hQ
  · refine lv_tableIn (off := 102) (tgt := 103) hx hb dX8_count_1 (by rw [t1]; decide) (by rw [t1]; decide) (by rw [t1]; rfl) (by decide) ?_
    refine lv_aload_n hx hb dX8_count_103 rfl (lv_at hl 0 rfl) ?_
    refine va_get (D := D) (ci := 8) (v := .int gst) (C := RX8) (T := TX8) (N := 14) hx hb hts xin8 hown hK hP 0 rfl rfl 3 (by decide) (hts _ (List.mem_cons_of_mem _ mw_3_92)) (fun _ h9 => h9) rfl dX8_count_104 ?_
    exact xk_reti () hx hb hr hlocks (xk_P hP (by rfl)) (by rw [cntR, if_neg (by omega), if_neg (by omega), if_neg (by omega), if_neg (by omega), if_neg (by omega), if_neg (by omega), if_pos t1]) hS dX8_count_107 hQ
