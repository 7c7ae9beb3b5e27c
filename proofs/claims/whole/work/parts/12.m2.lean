set_option maxHeartbeats 4000000 in
set_option maxRecDepth 100000 in
theorem c_X8_copyState (l : Launch) (D : va_G) (cI cZ cS : ClassId) (a1 a2 N1 N2 : Nat) (f g : Nat → Int32) (p1 p3 : Int32) (h1 : 0 ≤ p1.toInt ∧ p1.toInt + 190 ≤ N1) (h3 : 0 ≤ p3.toInt ∧ p3.toInt + 190 ≤ N2) (hNN : N1 < 100000 ∧ N2 < 100000) : xMv l yX8_copyState cX8_copyState 5 none ({ frames := 0, cells := 0, slots := 0, locals := 0 } : Room) D (xTy cI cZ cS) [.ref a1, .int p1, .ref a2, .int p3] [(a1, .inl (cI, N1, .inl f)), (a2, .inl (cI, N2, .inl g))] (fun (_ : Unit) => True) (fun (_ : Unit) => [(a1, .inl (cI, N1, .inl f)), (a2, .inl (cI, N2, .inl (va_cpy f g p1.toInt.toNat p3.toInt.toNat 190)))]) := by
  refine xk_bodyv (by decide) (Nat.le_of_ble_eq_true rfl) ?_
  intro p e s m below meth c A ls args Q hx hb hr hts hown hlocks hml hin hK hP hD hS hA hN hZ hl hQ
  have hl : lv_has ls 5 [(0, .ref a1), (1, .int p1), (2, .ref a2), (3, .int p3)] := hl
  refine lv_iconst (v := 0) hx hb dX8_copyState_0 (by decide) ?_
  refine lv_istore (lv' := [(4, .int 0), (0, .ref a1), (1, .int p1), (2, .ref a2), (3, .int p3)]) hx hb dX8_copyState_1 hl (by decide) rfl (fun ls hl => ?_)
  have L3 : ∀ (n : Nat) (k : Int32) (hk : 0 ≤ k.toInt ∧ k.toInt ≤ 190) (hn3 : 190 - k.toInt.toNat < n) (H : Heap) (locs : List Loc), va_P D vwCl [(a1, .inl (cI, N1, .inl f)), (a2, .inl (cI, N2, .inl (va_cpy f g p1.toInt.toNat p3.toInt.toNat k.toInt.toNat)))] H → va_D A [(a1, .inl (cI, N1, .inl f)), (a2, .inl (cI, N2, .inl (va_cpy f g p1.toInt.toNat p3.toInt.toNat k.toInt.toNat)))] → va_S A s.heap H locs → ∀ ls : Array Slot, lv_has ls 5 [(4, .int k), (0, .ref a1), (1, .int p1), (2, .ref a2), (3, .int p3)] → W p l e ({ frames := 0, cells := 0, slots := 0, locals := 0 } : Room) s m args below meth c H locs 0 0 Q (F0 m 3 ls []) := by
    intro n
    induction n with
    | zero =>
      intro k hk hn3
      exact absurd hn3 (Nat.not_lt_zero _)
    | succ n ih3 =>
      intro k hk hn3 H locs hP hD hS ls hl
      refine lv_iload hx hb dX8_copyState_3 (lv_at hl 0 rfl) ?_
      refine lv_sipush (v := 190) hx hb dX8_copyState_5 (by decide) ?_
      refine lv_icmp_ge (tgt := 29) hx hb dX8_copyState_8 (by decide) (fun c8 => ?_) (fun c8 => ?_)
      · have t8 : 190 ≤ k.toInt := xi_le (by decide) rfl c8
        exact xk_retv () hx hb hr hlocks (xk_P hP (by rw [show k.toInt.toNat = 190 from by omega])) (by trivial) hS dX8_copyState_29 hQ
      · have t8 : k.toInt < 190 := xi_nle (by decide) rfl c8
        refine lv_aload_n hx hb dX8_copyState_11 rfl (lv_at hl 3 rfl) ?_
        refine lv_iload_n hx hb dX8_copyState_12 rfl (lv_at hl 4 rfl) ?_
        refine lv_iload hx hb dX8_copyState_13 (lv_at hl 0 rfl) ?_
        refine lv_iadd hx hb dX8_copyState_15 ?_
        refine lv_topi (fun x15 e15 => ?_)
        have t15 : x15.toInt = p3.toInt + k.toInt := by rw [e15]; exact xi_add rfl rfl (by omega) (by omega)
        refine lv_aload_n hx hb dX8_copyState_16 rfl (lv_at hl 1 rfl) ?_
        refine lv_iload_n hx hb dX8_copyState_17 rfl (lv_at hl 2 rfl) ?_
        refine lv_iload hx hb dX8_copyState_18 (lv_at hl 0 rfl) ?_
        refine lv_iadd hx hb dX8_copyState_20 ?_
        refine lv_topi (fun x20 e20 => ?_)
        have t20 : x20.toInt = p1.toInt + k.toInt := by rw [e20]; exact xi_add rfl rfl (by omega) (by omega)
        refine va_iald hx hb hK hP 0 0 rfl rfl (xi_in (by omega) (by omega)) dX8_copyState_21 ?_
        refine xk_top (z := f (p1.toInt.toNat + k.toInt.toNat)) (xk_rd (by omega)) ?_
        refine lv_topi (fun x21 e21 => ?_)
        refine va_iast hx hb hK hP hD hS 1 0 rfl rfl (xi_in (by omega) (by omega)) dX8_copyState_22 (fun H locs hP hD hS => ?_)
        rw [show x15.toNatClampNeg = p3.toInt.toNat + k.toInt.toNat from xk_ix (by omega)] at hP hD
        have hP : va_P D vwCl [(a1, .inl (cI, N1, .inl f)), (a2, .inl (cI, N2, .inl (upd (va_cpy f g p1.toInt.toNat p3.toInt.toNat k.toInt.toNat) (p3.toInt.toNat + k.toInt.toNat) x21)))] H := hP
        have hD : va_D A [(a1, .inl (cI, N1, .inl f)), (a2, .inl (cI, N2, .inl (upd (va_cpy f g p1.toInt.toNat p3.toInt.toNat k.toInt.toNat) (p3.toInt.toNat + k.toInt.toNat) x21)))] := hD
        obtain ⟨x23, e23⟩ : ∃ y : Int32, y = k + 1 := ⟨_, rfl⟩
        have t23 : x23.toInt = k.toInt + 1 := by rw [e23]; exact xi_add rfl (by decide) (by omega) (by omega)
        refine lv_iinc (v := x23) (lv' := [(4, .int x23), (0, .ref a1), (1, .int p1), (2, .ref a2), (3, .int p3)]) hx hb dX8_copyState_23 hl (k := 0) rfl (by rw [e23]; rfl) (by decide) rfl (fun ls hl => ?_)
        refine lv_goto (tgt := 3) hx hb dX8_copyState_26 (by decide) ?_
        have q3 : ([(a1, .inl (cI, N1, .inl f)), (a2, .inl (cI, N2, .inl (upd (va_cpy f g p1.toInt.toNat p3.toInt.toNat k.toInt.toNat) (p3.toInt.toNat + k.toInt.toNat) x21)))] : va_W) = [(a1, .inl (cI, N1, .inl f)), (a2, .inl (cI, N2, .inl (va_cpy f g p1.toInt.toNat p3.toInt.toNat x23.toInt.toNat)))] := by rw [e21, cpy_s, show x23.toInt.toNat = k.toInt.toNat + 1 from by omega]
        exact ih3  x23 (by first | omega | assumption) (by omega) _ _ (xk_P hP q3) (xk_D hD q3) hS ls (lv_sub hl [0, 1, 2, 3, 4] rfl)
  have q3 : ([(a1, .inl (cI, N1, .inl f)), (a2, .inl (cI, N2, .inl g))] : va_W) = [(a1, .inl (cI, N1, .inl f)), (a2, .inl (cI, N2, .inl (va_cpy f g p1.toInt.toNat p3.toInt.toNat 0)))] := by rw [cpy_0]
  exact L3 191 (0 : Int32) (by decide) (by decide) _ _ (xk_P hP q3) (xk_D hD q3) hS ls (lv_sub hl [0, 1, 2, 3, 4] rfl)

set_option maxHeartbeats 4000000 in
set_option maxRecDepth 100000 in
theorem c_X8_record (l : Launch) (D : va_G) (cI cZ cS : ClassId) (h h1 h2 h3 h4 h5 h6 h7 h8 : Nat) (gst gty gse gte gsp gtl : Int32) (z past : Nat → Int32)  (hg : 0 ≤ gst.toInt ∧ gst.toInt ≤ 6) : xMv l yX8_record cX8_record 2 none ({ frames := 1, cells := 0, slots := 0, locals := 24 } : Room) D (xTy cI cZ cS) [.ref h] [(h, .inr (8, [.ref h1, .ref h2, .ref h3, .int gst, .ref h4, .ref h5, .ref h6, .int gty, .int gse, .int gte, .int gsp, .ref h7, .ref h8, .int gtl])), (h1, .inl (cI, 190, .inl z)), (h3, .inl (cI, 1140, .inl past))] (fun (_ : Unit) => True) (fun (_ : Unit) => [(h, .inr (8, [.ref h1, .ref h2, .ref h3, .int (recS gst), .ref h4, .ref h5, .ref h6, .int gty, .int gse, .int gte, .int gsp, .ref h7, .ref h8, .int gtl])), (h1, .inl (cI, 190, .inl z)), (h3, .inl (cI, 1140, .inl (recP z past gst)))]) := by
  refine xk_bodyv (by decide) (Nat.le_of_ble_eq_true rfl) ?_
  intro p e s m below meth c A ls args Q hx hb hr hts hown hlocks hml hin hK hP hD hS hA hN hZ hl hQ
  have hl : lv_has ls 2 [(0, .ref h)] := hl
  refine lv_aload_n hx hb dX8_record_0 rfl (lv_at hl 0 rfl) ?_
  refine va_get (D := D) (ci := 8) (v := .int gst) (C := RX8) (T := TX8) (N := 14) hx hb hts xin8 hown hK hP 0 rfl rfl 3 (by decide) (hts _ (List.mem_cons_of_mem _ mw_3_92)) (fun _ h9 => h9) rfl dX8_record_1 ?_
  refine lv_bipush (v := 6) hx hb dX8_record_4 (by decide) ?_
  refine lv_icmp_ne (tgt := 50) hx hb dX8_record_6 (by decide) (fun c6 => ?_) (fun c6 => ?_)
  · have t6 : ¬ gst.toInt = 6 := xi_ne rfl (by decide) c6
    have d6 : ¬ gst = 6 := c6
    refine lv_aload_n hx hb dX8_record_50 rfl (lv_at hl 0 rfl) ?_
    refine va_get (D := D) (ci := 8) (v := .ref h1) (C := RX8) (T := TX8) (N := 14) hx hb hts xin8 hown hK hP 0 rfl rfl 0 (by decide) (hts _ (List.mem_cons_of_mem _ mw_3_89)) (fun _ h9 => h9) rfl dX8_record_51 ?_
    refine lv_iconst (v := 0) hx hb dX8_record_54 (by decide) ?_
    refine lv_aload_n hx hb dX8_record_55 rfl (lv_at hl 0 rfl) ?_
    refine va_get (D := D) (ci := 8) (v := .ref h3) (C := RX8) (T := TX8) (N := 14) hx hb hts xin8 hown hK hP 0 rfl rfl 2 (by decide) (hts _ (List.mem_cons_of_mem _ mw_3_91)) (fun _ h9 => h9) rfl dX8_record_56 ?_
    refine lv_sipush (v := 190) hx hb dX8_record_59 (by decide) ?_
    refine lv_aload_n hx hb dX8_record_62 rfl (lv_at hl 0 rfl) ?_
    refine va_get (D := D) (ci := 8) (v := .int gst) (C := RX8) (T := TX8) (N := 14) hx hb hts xin8 hown hK hP 0 rfl rfl 3 (by decide) (hts _ (List.mem_cons_of_mem _ mw_3_92)) (fun _ h9 => h9) rfl dX8_record_63 ?_
    refine lv_imul hx hb dX8_record_66 ?_
    refine lv_topi (fun x66 e66 => ?_)
    have t66 : x66.toInt = 190 * gst.toInt := by rw [e66]; exact xi_mul (by decide) rfl (by omega) (by omega)
    refine xk_Sv (As := [.ref h1, .int 0, .ref h3, .int x66]) (rest := []) hx hb hml hown hts hK hN hZ hP hD hS hA mb_X8_copyState mw_3_136 mw_3_137 (c_X8_copyState l D cI cZ cS h1 h3 190 1140 z past (0 : Int32) x66 (by first | omega | decide | assumption) (by first | omega | decide | assumption) (by first | omega | decide | assumption)) [1, 2] (by decide) rfl (fun _ => by simp only [List.map]) (by decide) (by decide) rfl hl.1 rfl (Nat.le_of_ble_eq_true rfl) dX8_record_67 ⟨Nat.zero_le _, Nat.zero_le _⟩ (fun _ H locs hw hP hD hS => ?_)
    have hP : va_P D vwCl [(h, .inr (8, [.ref h1, .ref h2, .ref h3, .int gst, .ref h4, .ref h5, .ref h6, .int gty, .int gse, .int gte, .int gsp, .ref h7, .ref h8, .int gtl])), (h1, .inl (cI, 190, .inl z)), (h3, .inl (cI, 1140, .inl (va_cpy z past 0 x66.toInt.toNat 190)))] H := hP
    have hD : va_D A [(h, .inr (8, [.ref h1, .ref h2, .ref h3, .int gst, .ref h4, .ref h5, .ref h6, .int gty, .int gse, .int gte, .int gsp, .ref h7, .ref h8, .int gtl])), (h1, .inl (cI, 190, .inl z)), (h3, .inl (cI, 1140, .inl (va_cpy z past 0 x66.toInt.toNat 190)))] := hD
    obtain ⟨g67_2, hg67_2⟩ : ∃ g, g = (va_cpy z past 0 x66.toInt.toNat 190) := ⟨_, rfl⟩
    rw [← hg67_2] at hP hD
    have hP : va_P D vwCl [(h, .inr (8, [.ref h1, .ref h2, .ref h3, .int gst, .ref h4, .ref h5, .ref h6, .int gty, .int gse, .int gte, .int gsp, .ref h7, .ref h8, .int gtl])), (h1, .inl (cI, 190, .inl z)), (h3, .inl (cI, 1140, .inl g67_2))] H := hP
    have hD : va_D A [(h, .inr (8, [.ref h1, .ref h2, .ref h3, .int gst, .ref h4, .ref h5, .ref h6, .int gty, .int gse, .int gte, .int gsp, .ref h7, .ref h8, .int gtl])), (h1, .inl (cI, 190, .inl z)), (h3, .inl (cI, 1140, .inl g67_2))] := hD
    refine lv_aload_n hx hb dX8_record_70 rfl (lv_at hl 0 rfl) ?_
    refine lv_dup hx hb dX8_record_71 rfl ?_
    refine va_get (D := D) (ci := 8) (v := .int gst) (C := RX8) (T := TX8) (N := 14) hx hb hts xin8 hown hK hP 0 rfl rfl 3 (by decide) (hts _ (List.mem_cons_of_mem _ mw_3_92)) (fun _ h9 => h9) rfl dX8_record_72 ?_
    refine lv_iconst (v := 1) hx hb dX8_record_75 (by decide) ?_
    refine lv_iadd hx hb dX8_record_76 ?_
    refine lv_topi (fun x76 e76 => ?_)
    have t76 : x76.toInt = gst.toInt + 1 := by rw [e76]; exact xi_add rfl (by decide) (by omega) (by omega)
    refine va_put (D := D) (ci := 8) (v := .int x76) (ty := .int) (C := RX8) (T := TX8) (N := 14) hx hb hts xin8 tyX8 tyX8_ok nmX8 hown hK hP hD hS 0 rfl rfl 3 (by decide) (hts _ (List.mem_cons_of_mem _ mw_3_92)) (fun _ h9 => h9) rfl (by decide +kernel) rfl rfl (Nat.le_of_ble_eq_true rfl) dX8_record_77 (fun H locs hP hD hS => ?_)
    have hP : va_P D vwCl [(h, .inr (8, [.ref h1, .ref h2, .ref h3, .int x76, .ref h4, .ref h5, .ref h6, .int gty, .int gse, .int gte, .int gsp, .ref h7, .ref h8, .int gtl])), (h1, .inl (cI, 190, .inl z)), (h3, .inl (cI, 1140, .inl g67_2))] H := hP
    have hD : va_D A [(h, .inr (8, [.ref h1, .ref h2, .ref h3, .int x76, .ref h4, .ref h5, .ref h6, .int gty, .int gse, .int gte, .int gsp, .ref h7, .ref h8, .int gtl])), (h1, .inl (cI, 190, .inl z)), (h3, .inl (cI, 1140, .inl g67_2))] := hD
    have hz : g67_2 = recP z past gst := by rw [hg67_2, recP, if_neg d6, show x66.toInt.toNat = 190 * gst.toInt.toNat from by omega]
    have hs : x76 = recS gst := by rw [recS, if_neg d6, e76]
    exact xk_retv () hx hb hr hlocks (xk_P hP (by rw [hz, hs])) (by trivial) hS dX8_record_80 hQ
  · have t6 : gst.toInt = 6 := xi_eq rfl (by decide) c6
    have d6 : gst = 6 := c6
    refine lv_iconst (v := 0) hx hb dX8_record_9 (by decide) ?_
    refine lv_istore_n (lv' := [(1, .int 0), (0, .ref h)]) hx hb dX8_record_10 rfl hl (by decide) rfl (fun ls hl => ?_)
    have L11 : ∀ (n : Nat) (k : Int32) (hk : 0 ≤ k.toInt ∧ k.toInt ≤ 950) (hn11 : 950 - k.toInt.toNat < n) (H : Heap) (locs : List Loc), va_P D vwCl [(h, .inr (8, [.ref h1, .ref h2, .ref h3, .int gst, .ref h4, .ref h5, .ref h6, .int gty, .int gse, .int gte, .int gsp, .ref h7, .ref h8, .int gtl])), (h1, .inl (cI, 190, .inl z)), (h3, .inl (cI, 1140, .inl (shiftP past k.toInt.toNat)))] H → va_D A [(h, .inr (8, [.ref h1, .ref h2, .ref h3, .int gst, .ref h4, .ref h5, .ref h6, .int gty, .int gse, .int gte, .int gsp, .ref h7, .ref h8, .int gtl])), (h1, .inl (cI, 190, .inl z)), (h3, .inl (cI, 1140, .inl (shiftP past k.toInt.toNat)))] → va_S A s.heap H locs → ∀ ls : Array Slot, lv_has ls 2 [(1, .int k), (0, .ref h)] → W p l e ({ frames := 1, cells := 0, slots := 0, locals := 24 } : Room) s m args below meth c H locs 0 0 Q (F0 m 11 ls []) := by
      intro n
      induction n with
      | zero =>
        intro k hk hn11
        exact absurd hn11 (Nat.not_lt_zero _)
      | succ n ih11 =>
        intro k hk hn11 H locs hP hD hS ls hl
        refine lv_iload_n hx hb dX8_record_11 rfl (lv_at hl 0 rfl) ?_
        refine lv_sipush (v := 950) hx hb dX8_record_12 (by decide) ?_
        refine lv_icmp_ge (tgt := 40) hx hb dX8_record_15 (by decide) (fun c15 => ?_) (fun c15 => ?_)
        · have t15 : 950 ≤ k.toInt := xi_le (by decide) rfl c15
          have f40 : (shiftP past k.toInt.toNat) = shiftP past 950 := by rw [show k.toInt.toNat = 950 from by omega]
          rw [f40] at hP hD
          have hP : va_P D vwCl [(h, .inr (8, [.ref h1, .ref h2, .ref h3, .int gst, .ref h4, .ref h5, .ref h6, .int gty, .int gse, .int gte, .int gsp, .ref h7, .ref h8, .int gtl])), (h1, .inl (cI, 190, .inl z)), (h3, .inl (cI, 1140, .inl (shiftP past 950)))] H := hP
          have hD : va_D A [(h, .inr (8, [.ref h1, .ref h2, .ref h3, .int gst, .ref h4, .ref h5, .ref h6, .int gty, .int gse, .int gte, .int gsp, .ref h7, .ref h8, .int gtl])), (h1, .inl (cI, 190, .inl z)), (h3, .inl (cI, 1140, .inl (shiftP past 950)))] := hD
          refine lv_aload_n hx hb dX8_record_40 rfl (lv_at hl 1 rfl) ?_
          refine lv_dup hx hb dX8_record_41 rfl ?_
          refine va_get (D := D) (ci := 8) (v := .int gst) (C := RX8) (T := TX8) (N := 14) hx hb hts xin8 hown hK hP 0 rfl rfl 3 (by decide) (hts _ (List.mem_cons_of_mem _ mw_3_92)) (fun _ h9 => h9) rfl dX8_record_42 ?_
          refine lv_iconst (v := 1) hx hb dX8_record_45 (by decide) ?_
          refine lv_isub hx hb dX8_record_46 ?_
          refine lv_topi (fun x46 e46 => ?_)
          have t46 : x46.toInt = gst.toInt - 1 := by rw [e46]; exact xi_sub rfl (by decide) (by omega) (by omega)
          refine va_put (D := D) (ci := 8) (v := .int x46) (ty := .int) (C := RX8) (T := TX8) (N := 14) hx hb hts xin8 tyX8 tyX8_ok nmX8 hown hK hP hD hS 0 rfl rfl 3 (by decide) (hts _ (List.mem_cons_of_mem _ mw_3_92)) (fun _ h9 => h9) rfl (by decide +kernel) rfl rfl (Nat.le_of_ble_eq_true rfl) dX8_record_47 (fun H locs hP hD hS => ?_)
          have hP : va_P D vwCl [(h, .inr (8, [.ref h1, .ref h2, .ref h3, .int x46, .ref h4, .ref h5, .ref h6, .int gty, .int gse, .int gte, .int gsp, .ref h7, .ref h8, .int gtl])), (h1, .inl (cI, 190, .inl z)), (h3, .inl (cI, 1140, .inl (shiftP past 950)))] H := hP
          have hD : va_D A [(h, .inr (8, [.ref h1, .ref h2, .ref h3, .int x46, .ref h4, .ref h5, .ref h6, .int gty, .int gse, .int gte, .int gsp, .ref h7, .ref h8, .int gtl])), (h1, .inl (cI, 190, .inl z)), (h3, .inl (cI, 1140, .inl (shiftP past 950)))] := hD
          refine lv_aload_n hx hb dX8_record_50 rfl (lv_at hl 1 rfl) ?_
          refine va_get (D := D) (ci := 8) (v := .ref h1) (C := RX8) (T := TX8) (N := 14) hx hb hts xin8 hown hK hP 0 rfl rfl 0 (by decide) (hts _ (List.mem_cons_of_mem _ mw_3_89)) (fun _ h9 => h9) rfl dX8_record_51 ?_
          refine lv_iconst (v := 0) hx hb dX8_record_54 (by decide) ?_
          refine lv_aload_n hx hb dX8_record_55 rfl (lv_at hl 1 rfl) ?_
          refine va_get (D := D) (ci := 8) (v := .ref h3) (C := RX8) (T := TX8) (N := 14) hx hb hts xin8 hown hK hP 0 rfl rfl 2 (by decide) (hts _ (List.mem_cons_of_mem _ mw_3_91)) (fun _ h9 => h9) rfl dX8_record_56 ?_
          refine lv_sipush (v := 190) hx hb dX8_record_59 (by decide) ?_
          refine lv_aload_n hx hb dX8_record_62 rfl (lv_at hl 1 rfl) ?_
          refine va_get (D := D) (ci := 8) (v := .int x46) (C := RX8) (T := TX8) (N := 14) hx hb hts xin8 hown hK hP 0 rfl rfl 3 (by decide) (hts _ (List.mem_cons_of_mem _ mw_3_92)) (fun _ h9 => h9) rfl dX8_record_63 ?_
          refine lv_imul hx hb dX8_record_66 ?_
          refine lv_topi (fun x66 e66 => ?_)
          have t66 : x66.toInt = 190 * x46.toInt := by rw [e66]; exact xi_mul (by decide) rfl (by omega) (by omega)
          refine xk_Sv (As := [.ref h1, .int 0, .ref h3, .int x66]) (rest := []) hx hb hml hown hts hK hN hZ hP hD hS hA mb_X8_copyState mw_3_136 mw_3_137 (c_X8_copyState l D cI cZ cS h1 h3 190 1140 z (shiftP past 950) (0 : Int32) x66 (by first | omega | decide | assumption) (by first | omega | decide | assumption) (by first | omega | decide | assumption)) [1, 2] (by decide) rfl (fun _ => by simp only [List.map]) (by decide) (by decide) rfl hl.1 rfl (Nat.le_of_ble_eq_true rfl) dX8_record_67 ⟨Nat.zero_le _, Nat.zero_le _⟩ (fun _ H locs hw hP hD hS => ?_)
          have hP : va_P D vwCl [(h, .inr (8, [.ref h1, .ref h2, .ref h3, .int x46, .ref h4, .ref h5, .ref h6, .int gty, .int gse, .int gte, .int gsp, .ref h7, .ref h8, .int gtl])), (h1, .inl (cI, 190, .inl z)), (h3, .inl (cI, 1140, .inl (va_cpy z (shiftP past 950) 0 x66.toInt.toNat 190)))] H := hP
          have hD : va_D A [(h, .inr (8, [.ref h1, .ref h2, .ref h3, .int x46, .ref h4, .ref h5, .ref h6, .int gty, .int gse, .int gte, .int gsp, .ref h7, .ref h8, .int gtl])), (h1, .inl (cI, 190, .inl z)), (h3, .inl (cI, 1140, .inl (va_cpy z (shiftP past 950) 0 x66.toInt.toNat 190)))] := hD
          obtain ⟨g67_2, hg67_2⟩ : ∃ g, g = (va_cpy z (shiftP past 950) 0 x66.toInt.toNat 190) := ⟨_, rfl⟩
          rw [← hg67_2] at hP hD
          have hP : va_P D vwCl [(h, .inr (8, [.ref h1, .ref h2, .ref h3, .int x46, .ref h4, .ref h5, .ref h6, .int gty, .int gse, .int gte, .int gsp, .ref h7, .ref h8, .int gtl])), (h1, .inl (cI, 190, .inl z)), (h3, .inl (cI, 1140, .inl g67_2))] H := hP
          have hD : va_D A [(h, .inr (8, [.ref h1, .ref h2, .ref h3, .int x46, .ref h4, .ref h5, .ref h6, .int gty, .int gse, .int gte, .int gsp, .ref h7, .ref h8, .int gtl])), (h1, .inl (cI, 190, .inl z)), (h3, .inl (cI, 1140, .inl g67_2))] := hD
          refine lv_aload_n hx hb dX8_record_70 rfl (lv_at hl 1 rfl) ?_
          refine lv_dup hx hb dX8_record_71 rfl ?_
          refine va_get (D := D) (ci := 8) (v := .int x46) (C := RX8) (T := TX8) (N := 14) hx hb hts xin8 hown hK hP 0 rfl rfl 3 (by decide) (hts _ (List.mem_cons_of_mem _ mw_3_92)) (fun _ h9 => h9) rfl dX8_record_72 ?_
          refine lv_iconst (v := 1) hx hb dX8_record_75 (by decide) ?_
          refine lv_iadd hx hb dX8_record_76 ?_
          refine lv_topi (fun x76 e76 => ?_)
          have t76 : x76.toInt = x46.toInt + 1 := by rw [e76]; exact xi_add rfl (by decide) (by omega) (by omega)
          refine va_put (D := D) (ci := 8) (v := .int x76) (ty := .int) (C := RX8) (T := TX8) (N := 14) hx hb hts xin8 tyX8 tyX8_ok nmX8 hown hK hP hD hS 0 rfl rfl 3 (by decide) (hts _ (List.mem_cons_of_mem _ mw_3_92)) (fun _ h9 => h9) rfl (by decide +kernel) rfl rfl (Nat.le_of_ble_eq_true rfl) dX8_record_77 (fun H locs hP hD hS => ?_)
          have hP : va_P D vwCl [(h, .inr (8, [.ref h1, .ref h2, .ref h3, .int x76, .ref h4, .ref h5, .ref h6, .int gty, .int gse, .int gte, .int gsp, .ref h7, .ref h8, .int gtl])), (h1, .inl (cI, 190, .inl z)), (h3, .inl (cI, 1140, .inl g67_2))] H := hP
          have hD : va_D A [(h, .inr (8, [.ref h1, .ref h2, .ref h3, .int x76, .ref h4, .ref h5, .ref h6, .int gty, .int gse, .int gte, .int gsp, .ref h7, .ref h8, .int gtl])), (h1, .inl (cI, 190, .inl z)), (h3, .inl (cI, 1140, .inl g67_2))] := hD
          have hz : g67_2 = recP z past gst := by rw [hg67_2, recP, if_pos d6, show x66.toInt.toNat = 950 from by omega]
          have hs : x76 = recS gst := by rw [recS, if_pos d6]; exact xi_ext (by rw [show (6 : Int32).toInt = 6 from by decide]; omega)
          exact xk_retv () hx hb hr hlocks (xk_P hP (by rw [hz, hs])) (by trivial) hS dX8_record_80 hQ
        · have t15 : k.toInt < 950 := xi_nle (by decide) rfl c15
          refine lv_aload_n hx hb dX8_record_18 rfl (lv_at hl 1 rfl) ?_
          refine va_get (D := D) (ci := 8) (v := .ref h3) (C := RX8) (T := TX8) (N := 14) hx hb hts xin8 hown hK hP 0 rfl rfl 2 (by decide) (hts _ (List.mem_cons_of_mem _ mw_3_91)) (fun _ h9 => h9) rfl dX8_record_19 ?_
          refine lv_iload_n hx hb dX8_record_22 rfl (lv_at hl 0 rfl) ?_
          refine lv_aload_n hx hb dX8_record_23 rfl (lv_at hl 1 rfl) ?_
          refine va_get (D := D) (ci := 8) (v := .ref h3) (C := RX8) (T := TX8) (N := 14) hx hb hts xin8 hown hK hP 0 rfl rfl 2 (by decide) (hts _ (List.mem_cons_of_mem _ mw_3_91)) (fun _ h9 => h9) rfl dX8_record_24 ?_
          refine lv_iload_n hx hb dX8_record_27 rfl (lv_at hl 0 rfl) ?_
          refine lv_sipush (v := 190) hx hb dX8_record_28 (by decide) ?_
          refine lv_iadd hx hb dX8_record_31 ?_
          refine lv_topi (fun x31 e31 => ?_)
          have t31 : x31.toInt = k.toInt + 190 := by rw [e31]; exact xi_add rfl (by decide) (by omega) (by omega)
          refine va_iald hx hb hK hP 2 0 rfl rfl (xi_in (by omega) (by omega)) dX8_record_32 ?_
          refine xk_top (z := (shiftP past k.toInt.toNat) (k.toInt.toNat + 190)) (xk_rd (by omega)) ?_
          refine lv_topi (fun x32 e32 => ?_)
          refine va_iast hx hb hK hP hD hS 2 0 rfl rfl (xi_in (by omega) (by omega)) dX8_record_33 (fun H locs hP hD hS => ?_)
          rw [show k.toNatClampNeg = k.toInt.toNat from xk_ix (by omega)] at hP hD
          have hP : va_P D vwCl [(h, .inr (8, [.ref h1, .ref h2, .ref h3, .int gst, .ref h4, .ref h5, .ref h6, .int gty, .int gse, .int gte, .int gsp, .ref h7, .ref h8, .int gtl])), (h1, .inl (cI, 190, .inl z)), (h3, .inl (cI, 1140, .inl (upd (shiftP past k.toInt.toNat) k.toInt.toNat x32)))] H := hP
          have hD : va_D A [(h, .inr (8, [.ref h1, .ref h2, .ref h3, .int gst, .ref h4, .ref h5, .ref h6, .int gty, .int gse, .int gte, .int gsp, .ref h7, .ref h8, .int gtl])), (h1, .inl (cI, 190, .inl z)), (h3, .inl (cI, 1140, .inl (upd (shiftP past k.toInt.toNat) k.toInt.toNat x32)))] := hD
          obtain ⟨x34, e34⟩ : ∃ y : Int32, y = k + 1 := ⟨_, rfl⟩
          have t34 : x34.toInt = k.toInt + 1 := by rw [e34]; exact xi_add rfl (by decide) (by omega) (by omega)
          refine lv_iinc (v := x34) (lv' := [(1, .int x34), (0, .ref h)]) hx hb dX8_record_34 hl (k := 0) rfl (by rw [e34]; rfl) (by decide) rfl (fun ls hl => ?_)
          refine lv_goto (tgt := 11) hx hb dX8_record_37 (by decide) ?_
          have q11 : ([(h, .inr (8, [.ref h1, .ref h2, .ref h3, .int gst, .ref h4, .ref h5, .ref h6, .int gty, .int gse, .int gte, .int gsp, .ref h7, .ref h8, .int gtl])), (h1, .inl (cI, 190, .inl z)), (h3, .inl (cI, 1140, .inl (upd (shiftP past k.toInt.toNat) k.toInt.toNat x32)))] : va_W) = [(h, .inr (8, [.ref h1, .ref h2, .ref h3, .int gst, .ref h4, .ref h5, .ref h6, .int gty, .int gse, .int gte, .int gsp, .ref h7, .ref h8, .int gtl])), (h1, .inl (cI, 190, .inl z)), (h3, .inl (cI, 1140, .inl (shiftP past x34.toInt.toNat)))] := by rw [e32, shiftP_s, show x34.toInt.toNat = k.toInt.toNat + 1 from by omega]
          exact ih11  x34 (by first | omega | assumption) (by omega) _ _ (xk_P hP q11) (xk_D hD q11) hS ls (lv_sub hl [0, 1] rfl)
    have q11 : ([(h, .inr (8, [.ref h1, .ref h2, .ref h3, .int gst, .ref h4, .ref h5, .ref h6, .int gty, .int gse, .int gte, .int gsp, .ref h7, .ref h8, .int gtl])), (h1, .inl (cI, 190, .inl z)), (h3, .inl (cI, 1140, .inl past))] : va_W) = [(h, .inr (8, [.ref h1, .ref h2, .ref h3, .int gst, .ref h4, .ref h5, .ref h6, .int gty, .int gse, .int gte, .int gsp, .ref h7, .ref h8, .int gtl])), (h1, .inl (cI, 190, .inl z)), (h3, .inl (cI, 1140, .inl (shiftP past 0)))] := by rw [shiftP_0]
    exact L11 951 (0 : Int32) (by decide) (by decide) _ _ (xk_P hP q11) (xk_D hD q11) hS ls (lv_sub hl [0, 1] rfl)

set_option maxHeartbeats 4000000 in
set_option maxRecDepth 100000 in
theorem c_X8_undo (l : Launch) (D : va_G) (cI cZ cS : ClassId) (h h1 h2 h3 h4 h5 h6 h7 h8 : Nat) (gst gty gse gte gsp gtl : Int32) (z past : Nat → Int32)  (hg : 0 ≤ gst.toInt ∧ gst.toInt ≤ 6) : xMi l yX8_undo cX8_undo 1 (some .int) ({ frames := 1, cells := 0, slots := 0, locals := 24 } : Room) D (xTy cI cZ cS) [.ref h] [(h, .inr (8, [.ref h1, .ref h2, .ref h3, .int gst, .ref h4, .ref h5, .ref h6, .int gty, .int gse, .int gte, .int gsp, .ref h7, .ref h8, .int gtl])), (h1, .inl (cI, 190, .inl z)), (h3, .inl (cI, 1140, .inl past))] (fun (r : Int32) (_ : Unit) => r = undoR gst) (fun (_ : Unit) => [(h, .inr (8, [.ref h1, .ref h2, .ref h3, .int (undoS gst), .ref h4, .ref h5, .ref h6, .int gty, .int gse, .int gte, .int gsp, .ref h7, .ref h8, .int gtl])), (h1, .inl (cI, 190, .inl (undoZ gst past z))), (h3, .inl (cI, 1140, .inl past))]) := by
  refine xk_bodyi (by decide) (Nat.le_of_ble_eq_true rfl) ?_
  intro p e s m below meth c A ls args Q hx hb hr hts hown hlocks hml hin hK hP hD hS hA hN hZ hl hQ
  have hl : lv_has ls 1 [(0, .ref h)] := hl
  refine lv_aload_n hx hb dX8_undo_0 rfl (lv_at hl 0 rfl) ?_
  refine va_get (D := D) (ci := 8) (v := .int gst) (C := RX8) (T := TX8) (N := 14) hx hb hts xin8 hown hK hP 0 rfl rfl 3 (by decide) (hts _ (List.mem_cons_of_mem _ mw_3_92)) (fun _ h9 => h9) rfl dX8_undo_1 ?_
  refine lv_if_ne (tgt := 10) hx hb dX8_undo_4 (by decide) (fun c4 => ?_) (fun c4 => ?_)
  · have t4 : ¬ gst.toInt = 0 := xi_ne rfl (by decide) c4
    have d4 : ¬ gst = 0 := c4
    refine lv_aload_n hx hb dX8_undo_10 rfl (lv_at hl 0 rfl) ?_
    refine lv_dup hx hb dX8_undo_11 rfl ?_
    refine va_get (D := D) (ci := 8) (v := .int gst) (C := RX8) (T := TX8) (N := 14) hx hb hts xin8 hown hK hP 0 rfl rfl 3 (by decide) (hts _ (List.mem_cons_of_mem _ mw_3_92)) (fun _ h9 => h9) rfl dX8_undo_12 ?_
    refine lv_iconst (v := 1) hx hb dX8_undo_15 (by decide) ?_
    refine lv_isub hx hb dX8_undo_16 ?_
    refine lv_topi (fun x16 e16 => ?_)
    have t16 : x16.toInt = gst.toInt - 1 := by rw [e16]; exact xi_sub rfl (by decide) (by omega) (by omega)
    refine va_put (D := D) (ci := 8) (v := .int x16) (ty := .int) (C := RX8) (T := TX8) (N := 14) hx hb hts xin8 tyX8 tyX8_ok nmX8 hown hK hP hD hS 0 rfl rfl 3 (by decide) (hts _ (List.mem_cons_of_mem _ mw_3_92)) (fun _ h9 => h9) rfl (by decide +kernel) rfl rfl (Nat.le_of_ble_eq_true rfl) dX8_undo_17 (fun H locs hP hD hS => ?_)
    have hP : va_P D vwCl [(h, .inr (8, [.ref h1, .ref h2, .ref h3, .int x16, .ref h4, .ref h5, .ref h6, .int gty, .int gse, .int gte, .int gsp, .ref h7, .ref h8, .int gtl])), (h1, .inl (cI, 190, .inl z)), (h3, .inl (cI, 1140, .inl past))] H := hP
    have hD : va_D A [(h, .inr (8, [.ref h1, .ref h2, .ref h3, .int x16, .ref h4, .ref h5, .ref h6, .int gty, .int gse, .int gte, .int gsp, .ref h7, .ref h8, .int gtl])), (h1, .inl (cI, 190, .inl z)), (h3, .inl (cI, 1140, .inl past))] := hD
    refine lv_aload_n hx hb dX8_undo_20 rfl (lv_at hl 0 rfl) ?_
    refine va_get (D := D) (ci := 8) (v := .ref h3) (C := RX8) (T := TX8) (N := 14) hx hb hts xin8 hown hK hP 0 rfl rfl 2 (by decide) (hts _ (List.mem_cons_of_mem _ mw_3_91)) (fun _ h9 => h9) rfl dX8_undo_21 ?_
    refine lv_sipush (v := 190) hx hb dX8_undo_24 (by decide) ?_
    refine lv_aload_n hx hb dX8_undo_27 rfl (lv_at hl 0 rfl) ?_
    refine va_get (D := D) (ci := 8) (v := .int x16) (C := RX8) (T := TX8) (N := 14) hx hb hts xin8 hown hK hP 0 rfl rfl 3 (by decide) (hts _ (List.mem_cons_of_mem _ mw_3_92)) (fun _ h9 => h9) rfl dX8_undo_28 ?_
    refine lv_imul hx hb dX8_undo_31 ?_
    refine lv_topi (fun x31 e31 => ?_)
    have t31 : x31.toInt = 190 * x16.toInt := by rw [e31]; exact xi_mul (by decide) rfl (by omega) (by omega)
    refine lv_aload_n hx hb dX8_undo_32 rfl (lv_at hl 0 rfl) ?_
    refine va_get (D := D) (ci := 8) (v := .ref h1) (C := RX8) (T := TX8) (N := 14) hx hb hts xin8 hown hK hP 0 rfl rfl 0 (by decide) (hts _ (List.mem_cons_of_mem _ mw_3_89)) (fun _ h9 => h9) rfl dX8_undo_33 ?_
    refine lv_iconst (v := 0) hx hb dX8_undo_36 (by decide) ?_
    refine xk_Sv (As := [.ref h3, .int x31, .ref h1, .int 0]) (rest := []) hx hb hml hown hts hK hN hZ hP hD hS hA mb_X8_copyState mw_3_136 mw_3_137 (c_X8_copyState l D cI cZ cS h3 h1 1140 190 past z x31 (0 : Int32) (by first | omega | decide | assumption) (by first | omega | decide | assumption) (by first | omega | decide | assumption)) [2, 1] (by decide) rfl (fun _ => by simp only [List.map]) (by decide) (by decide) rfl hl.1 rfl (Nat.le_of_ble_eq_true rfl) dX8_undo_37 ⟨Nat.zero_le _, Nat.zero_le _⟩ (fun _ H locs hw hP hD hS => ?_)
    have hP : va_P D vwCl [(h, .inr (8, [.ref h1, .ref h2, .ref h3, .int x16, .ref h4, .ref h5, .ref h6, .int gty, .int gse, .int gte, .int gsp, .ref h7, .ref h8, .int gtl])), (h1, .inl (cI, 190, .inl (va_cpy past z x31.toInt.toNat 0 190))), (h3, .inl (cI, 1140, .inl past))] H := hP
    have hD : va_D A [(h, .inr (8, [.ref h1, .ref h2, .ref h3, .int x16, .ref h4, .ref h5, .ref h6, .int gty, .int gse, .int gte, .int gsp, .ref h7, .ref h8, .int gtl])), (h1, .inl (cI, 190, .inl (va_cpy past z x31.toInt.toNat 0 190))), (h3, .inl (cI, 1140, .inl past))] := hD
    obtain ⟨g37_1, hg37_1⟩ : ∃ g, g = (va_cpy past z x31.toInt.toNat 0 190) := ⟨_, rfl⟩
    rw [← hg37_1] at hP hD
    have hP : va_P D vwCl [(h, .inr (8, [.ref h1, .ref h2, .ref h3, .int x16, .ref h4, .ref h5, .ref h6, .int gty, .int gse, .int gte, .int gsp, .ref h7, .ref h8, .int gtl])), (h1, .inl (cI, 190, .inl g37_1)), (h3, .inl (cI, 1140, .inl past))] H := hP
    have hD : va_D A [(h, .inr (8, [.ref h1, .ref h2, .ref h3, .int x16, .ref h4, .ref h5, .ref h6, .int gty, .int gse, .int gte, .int gsp, .ref h7, .ref h8, .int gtl])), (h1, .inl (cI, 190, .inl g37_1)), (h3, .inl (cI, 1140, .inl past))] := hD
    refine lv_aload_n hx hb dX8_undo_40 rfl (lv_at hl 0 rfl) ?_
    refine va_get (D := D) (ci := 8) (v := .int x16) (C := RX8) (T := TX8) (N := 14) hx hb hts xin8 hown hK hP 0 rfl rfl 3 (by decide) (hts _ (List.mem_cons_of_mem _ mw_3_92)) (fun _ h9 => h9) rfl dX8_undo_41 ?_
    have hz : g37_1 = undoZ gst past z := by rw [hg37_1, undoZ, if_neg d4, show x31.toInt.toNat = 190 * (gst - 1).toInt.toNat from by rw [← e16]; omega]
    have hs : x16 = undoS gst := by rw [undoS, if_neg d4, e16]
    have hv : x16 = undoR gst := by rw [undoR, if_neg d4, e16]
    exact xk_reti () hx hb hr hlocks (xk_P hP (by rw [← hz, ← hs])) (by exact hv) hS dX8_undo_44 hQ
  · have t4 : gst.toInt = 0 := xi_eq rfl (by decide) c4
    have d4 : gst = 0 := c4
    refine lv_bipush (v := (-5)) hx hb dX8_undo_7 (by decide) ?_
    have hz : z = undoZ gst past z := by rw [undoZ, if_pos d4]
    have hs : gst = undoS gst := by rw [undoS, if_pos d4]
    have hv : -5 = undoR gst := by rw [undoR, if_pos d4]
    exact xk_reti () hx hb hr hlocks (xk_P hP (by rw [← hz, ← hs])) (by exact hv) hS dX8_undo_9 hQ

set_option maxHeartbeats 4000000 in
set_option maxRecDepth 100000 in
theorem c_X8_save (l : Launch) (D : va_G) (cI cZ cS : ClassId) (h h1 h2 h3 h4 h5 h6 h7 h8 : Nat) (gst gty gse gte gsp gtl : Int32) (z slots sv : Nat → Int32) (p1 : Int32)  : xMi l yX8_save cX8_save 2 (some .int) ({ frames := 1, cells := 0, slots := 0, locals := 24 } : Room) D (xTy cI cZ cS) [.ref h, .int p1] [(h, .inr (8, [.ref h1, .ref h2, .ref h3, .int gst, .ref h4, .ref h5, .ref h6, .int gty, .int gse, .int gte, .int gsp, .ref h7, .ref h8, .int gtl])), (h1, .inl (cI, 190, .inl z)), (h4, .inl (cI, 380, .inl slots)), (h5, .inl (cZ, 2, .inl sv))] (fun (r : Int32) (_ : Unit) => r = if slotV p1 then z 174 else -2) (fun (_ : Unit) => [(h, .inr (8, [.ref h1, .ref h2, .ref h3, .int gst, .ref h4, .ref h5, .ref h6, .int gty, .int gse, .int gte, .int gsp, .ref h7, .ref h8, .int gtl])), (h1, .inl (cI, 190, .inl z)), (h4, .inl (cI, 380, .inl (if slotV p1 then va_cpy z slots 0 (190 * p1.toInt.toNat) 190 else slots))), (h5, .inl (cZ, 2, .inl (if slotV p1 then upd sv p1.toInt.toNat 1 else sv)))]) := by
  refine xk_bodyi (by decide) (Nat.le_of_ble_eq_true rfl) ?_
  intro p e s m below meth c A ls args Q hx hb hr hts hown hlocks hml hin hK hP hD hS hA hN hZ hl hQ
  have hl : lv_has ls 2 [(0, .ref h), (1, .int p1)] := hl
  refine lv_iload_n hx hb dX8_save_0 rfl (lv_at hl 1 rfl) ?_
  refine lv_iconst (v := 0) hx hb dX8_save_1 (by decide) ?_
  refine lv_iconst (v := 1) hx hb dX8_save_2 (by decide) ?_
  refine xk_Si (As := [.int p1, .int 0, .int 1]) (rest := []) hx hb hml hown hts hK hN hZ hP hD hS hA mb_X8_in mw_3_143 mw_3_144 (c_X8_in l D cI cZ cS p1 (0 : Int32) (1 : Int32) ) [] (by decide) rfl (fun _ => by simp only [List.map]) (by decide) (by decide) rfl hl.1 rfl (Nat.le_of_ble_eq_true rfl) dX8_save_3 ⟨Nat.zero_le _, Nat.zero_le _⟩ (fun r3 _ H locs hw hP hD hS => ?_)
  have hP : va_P D vwCl [(h, .inr (8, [.ref h1, .ref h2, .ref h3, .int gst, .ref h4, .ref h5, .ref h6, .int gty, .int gse, .int gte, .int gsp, .ref h7, .ref h8, .int gtl])), (h1, .inl (cI, 190, .inl z)), (h4, .inl (cI, 380, .inl slots)), (h5, .inl (cZ, 2, .inl sv))] H := hP
  have hD : va_D A [(h, .inr (8, [.ref h1, .ref h2, .ref h3, .int gst, .ref h4, .ref h5, .ref h6, .int gty, .int gse, .int gte, .int gsp, .ref h7, .ref h8, .int gtl])), (h1, .inl (cI, 190, .inl z)), (h4, .inl (cI, 380, .inl slots)), (h5, .inl (cZ, 2, .inl sv))] := hD
  rcases hw with ⟨rfl, b3⟩ | ⟨rfl, b3⟩
  · have b3 : 0 ≤ p1.toInt ∧ p1.toInt ≤ 1 := b3
    refine lv_if_ne (tgt := 12) hx hb dX8_save_6 (by decide) (fun _ => ?_) (fun c6 => absurd c6 (by decide))
    refine lv_aload_n hx hb dX8_save_12 rfl (lv_at hl 0 rfl) ?_
    refine va_get (D := D) (ci := 8) (v := .ref h1) (C := RX8) (T := TX8) (N := 14) hx hb hts xin8 hown hK hP 0 rfl rfl 0 (by decide) (hts _ (List.mem_cons_of_mem _ mw_3_89)) (fun _ h9 => h9) rfl dX8_save_13 ?_
    refine lv_iconst (v := 0) hx hb dX8_save_16 (by decide) ?_
    refine lv_aload_n hx hb dX8_save_17 rfl (lv_at hl 0 rfl) ?_
    refine va_get (D := D) (ci := 8) (v := .ref h4) (C := RX8) (T := TX8) (N := 14) hx hb hts xin8 hown hK hP 0 rfl rfl 4 (by decide) (hts _ (List.mem_cons_of_mem _ mw_3_93)) (fun _ h9 => h9) rfl dX8_save_18 ?_
    refine lv_sipush (v := 190) hx hb dX8_save_21 (by decide) ?_
    refine lv_iload_n hx hb dX8_save_24 rfl (lv_at hl 1 rfl) ?_
    refine lv_imul hx hb dX8_save_25 ?_
    refine lv_topi (fun x25 e25 => ?_)
    have t25 : x25.toInt = 190 * p1.toInt := by rw [e25]; exact xi_mul (by decide) rfl (by omega) (by omega)
    refine xk_Sv (As := [.ref h1, .int 0, .ref h4, .int x25]) (rest := []) hx hb hml hown hts hK hN hZ hP hD hS hA mb_X8_copyState mw_3_136 mw_3_137 (c_X8_copyState l D cI cZ cS h1 h4 190 380 z slots (0 : Int32) x25 (by first | omega | decide | assumption) (by first | omega | decide | assumption) (by first | omega | decide | assumption)) [1, 2] (by decide) rfl (fun _ => by simp only [List.map]) (by decide) (by decide) rfl hl.1 rfl (Nat.le_of_ble_eq_true rfl) dX8_save_26 ⟨Nat.zero_le _, Nat.zero_le _⟩ (fun _ H locs hw hP hD hS => ?_)
    have hP : va_P D vwCl [(h, .inr (8, [.ref h1, .ref h2, .ref h3, .int gst, .ref h4, .ref h5, .ref h6, .int gty, .int gse, .int gte, .int gsp, .ref h7, .ref h8, .int gtl])), (h1, .inl (cI, 190, .inl z)), (h4, .inl (cI, 380, .inl (va_cpy z slots 0 x25.toInt.toNat 190))), (h5, .inl (cZ, 2, .inl sv))] H := hP
    have hD : va_D A [(h, .inr (8, [.ref h1, .ref h2, .ref h3, .int gst, .ref h4, .ref h5, .ref h6, .int gty, .int gse, .int gte, .int gsp, .ref h7, .ref h8, .int gtl])), (h1, .inl (cI, 190, .inl z)), (h4, .inl (cI, 380, .inl (va_cpy z slots 0 x25.toInt.toNat 190))), (h5, .inl (cZ, 2, .inl sv))] := hD
    obtain ⟨g26_2, hg26_2⟩ : ∃ g, g = (va_cpy z slots 0 x25.toInt.toNat 190) := ⟨_, rfl⟩
    rw [← hg26_2] at hP hD
    have hP : va_P D vwCl [(h, .inr (8, [.ref h1, .ref h2, .ref h3, .int gst, .ref h4, .ref h5, .ref h6, .int gty, .int gse, .int gte, .int gsp, .ref h7, .ref h8, .int gtl])), (h1, .inl (cI, 190, .inl z)), (h4, .inl (cI, 380, .inl g26_2)), (h5, .inl (cZ, 2, .inl sv))] H := hP
    have hD : va_D A [(h, .inr (8, [.ref h1, .ref h2, .ref h3, .int gst, .ref h4, .ref h5, .ref h6, .int gty, .int gse, .int gte, .int gsp, .ref h7, .ref h8, .int gtl])), (h1, .inl (cI, 190, .inl z)), (h4, .inl (cI, 380, .inl g26_2)), (h5, .inl (cZ, 2, .inl sv))] := hD
    refine lv_aload_n hx hb dX8_save_29 rfl (lv_at hl 0 rfl) ?_
    refine va_get (D := D) (ci := 8) (v := .ref h5) (C := RX8) (T := TX8) (N := 14) hx hb hts xin8 hown hK hP 0 rfl rfl 5 (by decide) (hts _ (List.mem_cons_of_mem _ mw_3_94)) (fun _ h9 => h9) rfl dX8_save_30 ?_
    refine lv_iload_n hx hb dX8_save_33 rfl (lv_at hl 1 rfl) ?_
    refine lv_iconst (v := 1) hx hb dX8_save_34 (by decide) ?_
    refine va_zast hx hb hK hP hD hS 3 1 rfl rfl (xi_in (by omega) (by omega)) dX8_save_35 (fun H locs hP hD hS => ?_)
    have hP : va_P D vwCl [(h, .inr (8, [.ref h1, .ref h2, .ref h3, .int gst, .ref h4, .ref h5, .ref h6, .int gty, .int gse, .int gte, .int gsp, .ref h7, .ref h8, .int gtl])), (h1, .inl (cI, 190, .inl z)), (h4, .inl (cI, 380, .inl g26_2)), (h5, .inl (cZ, 2, .inl (upd sv p1.toInt.toNat 1)))] H := hP
    have hD : va_D A [(h, .inr (8, [.ref h1, .ref h2, .ref h3, .int gst, .ref h4, .ref h5, .ref h6, .int gty, .int gse, .int gte, .int gsp, .ref h7, .ref h8, .int gtl])), (h1, .inl (cI, 190, .inl z)), (h4, .inl (cI, 380, .inl g26_2)), (h5, .inl (cZ, 2, .inl (upd sv p1.toInt.toNat 1)))] := hD
    refine lv_aload_n hx hb dX8_save_36 rfl (lv_at hl 0 rfl) ?_
    refine va_get (D := D) (ci := 8) (v := .ref h1) (C := RX8) (T := TX8) (N := 14) hx hb hts xin8 hown hK hP 0 rfl rfl 0 (by decide) (hts _ (List.mem_cons_of_mem _ mw_3_89)) (fun _ h9 => h9) rfl dX8_save_37 ?_
    refine lv_sipush (v := 174) hx hb dX8_save_40 (by decide) ?_
    refine va_iald hx hb hK hP 1 0 rfl rfl (xi_in (by decide) (by decide)) dX8_save_43 ?_
    refine xk_top (z := z 174) rfl ?_
    have hz : g26_2 = if slotV p1 then va_cpy z slots 0 (190 * p1.toInt.toNat) 190 else slots := by rw [hg26_2, if_pos b3, show x25.toInt.toNat = 190 * p1.toInt.toNat from by omega]
    have hs : (upd sv p1.toInt.toNat 1) = if slotV p1 then upd sv p1.toInt.toNat 1 else sv := by rw [if_pos b3]
    have hv : (z 174) = if slotV p1 then z 174 else -2 := by rw [if_pos b3]
    exact xk_reti () hx hb hr hlocks (xk_P hP (by rw [← hz, ← hs])) (by exact hv) hS dX8_save_44 hQ
  · have b3 : ¬ (0 ≤ p1.toInt ∧ p1.toInt ≤ 1) := b3
    refine lv_if_ne (tgt := 12) hx hb dX8_save_6 (by decide) (fun c6 => absurd (by decide) c6) (fun _ => ?_)
    refine lv_bipush (v := (-2)) hx hb dX8_save_9 (by decide) ?_
    have hz : slots = if slotV p1 then va_cpy z slots 0 (190 * p1.toInt.toNat) 190 else slots := by rw [if_neg b3]
    have hs : sv = if slotV p1 then upd sv p1.toInt.toNat 1 else sv := by rw [if_neg b3]
    have hv : -2 = if slotV p1 then z 174 else -2 := by rw [if_neg b3]
    exact xk_reti () hx hb hr hlocks (xk_P hP (by rw [← hz, ← hs])) (by exact hv) hS dX8_save_11 hQ

set_option maxHeartbeats 4000000 in
set_option maxRecDepth 100000 in
theorem c_X8_restore (l : Launch) (D : va_G) (cI cZ cS : ClassId) (h h1 h2 h3 h4 h5 h6 h7 h8 : Nat) (gst gty gse gte gsp gtl : Int32) (z past slots sv : Nat → Int32) (p1 : Int32) (hg : 0 ≤ gst.toInt ∧ gst.toInt ≤ 6) : xMi l yX8_restore cX8_restore 2 (some .int) ({ frames := 2, cells := 0, slots := 0, locals := 45 } : Room) D (xTy cI cZ cS) [.ref h, .int p1] [(h, .inr (8, [.ref h1, .ref h2, .ref h3, .int gst, .ref h4, .ref h5, .ref h6, .int gty, .int gse, .int gte, .int gsp, .ref h7, .ref h8, .int gtl])), (h1, .inl (cI, 190, .inl z)), (h3, .inl (cI, 1140, .inl past)), (h4, .inl (cI, 380, .inl slots)), (h5, .inl (cZ, 2, .inl sv))] (fun (r : Int32) (_ : Unit) => r = restR p1 sv slots) (fun (_ : Unit) => [(h, .inr (8, [.ref h1, .ref h2, .ref h3, .int (if restC p1 sv then recS gst else gst), .ref h4, .ref h5, .ref h6, .int gty, .int gse, .int gte, .int gsp, .ref h7, .ref h8, .int gtl])), (h1, .inl (cI, 190, .inl (if restC p1 sv then va_cpy slots z (190 * p1.toInt.toNat) 0 190 else z))), (h3, .inl (cI, 1140, .inl (if restC p1 sv then recP z past gst else past))), (h4, .inl (cI, 380, .inl slots)), (h5, .inl (cZ, 2, .inl sv))]) := by
  refine xk_bodyi (by decide) (Nat.le_of_ble_eq_true rfl) ?_
  intro p e s m below meth c A ls args Q hx hb hr hts hown hlocks hml hin hK hP hD hS hA hN hZ hl hQ
  have hl : lv_has ls 2 [(0, .ref h), (1, .int p1)] := hl
  refine lv_iload_n hx hb dX8_restore_0 rfl (lv_at hl 1 rfl) ?_
  refine lv_iconst (v := 0) hx hb dX8_restore_1 (by decide) ?_
  refine lv_iconst (v := 1) hx hb dX8_restore_2 (by decide) ?_
  refine xk_Si (As := [.int p1, .int 0, .int 1]) (rest := []) hx hb hml hown hts hK hN hZ hP hD hS hA mb_X8_in mw_3_143 mw_3_144 (c_X8_in l D cI cZ cS p1 (0 : Int32) (1 : Int32) ) [] (by decide) rfl (fun _ => by simp only [List.map]) (by decide) (by decide) rfl hl.1 rfl (Nat.le_of_ble_eq_true rfl) dX8_restore_3 ⟨Nat.zero_le _, Nat.zero_le _⟩ (fun r3 _ H locs hw hP hD hS => ?_)
  have hP : va_P D vwCl [(h, .inr (8, [.ref h1, .ref h2, .ref h3, .int gst, .ref h4, .ref h5, .ref h6, .int gty, .int gse, .int gte, .int gsp, .ref h7, .ref h8, .int gtl])), (h1, .inl (cI, 190, .inl z)), (h3, .inl (cI, 1140, .inl past)), (h4, .inl (cI, 380, .inl slots)), (h5, .inl (cZ, 2, .inl sv))] H := hP
  have hD : va_D A [(h, .inr (8, [.ref h1, .ref h2, .ref h3, .int gst, .ref h4, .ref h5, .ref h6, .int gty, .int gse, .int gte, .int gsp, .ref h7, .ref h8, .int gtl])), (h1, .inl (cI, 190, .inl z)), (h3, .inl (cI, 1140, .inl past)), (h4, .inl (cI, 380, .inl slots)), (h5, .inl (cZ, 2, .inl sv))] := hD
  rcases hw with ⟨rfl, b3⟩ | ⟨rfl, b3⟩
  · have b3 : 0 ≤ p1.toInt ∧ p1.toInt ≤ 1 := b3
    refine lv_if_ne (tgt := 12) hx hb dX8_restore_6 (by decide) (fun _ => ?_) (fun c6 => absurd c6 (by decide))
    refine lv_aload_n hx hb dX8_restore_12 rfl (lv_at hl 0 rfl) ?_
    refine va_get (D := D) (ci := 8) (v := .ref h5) (C := RX8) (T := TX8) (N := 14) hx hb hts xin8 hown hK hP 0 rfl rfl 5 (by decide) (hts _ (List.mem_cons_of_mem _ mw_3_94)) (fun _ h9 => h9) rfl dX8_restore_13 ?_
    refine lv_iload_n hx hb dX8_restore_16 rfl (lv_at hl 1 rfl) ?_
    refine va_zald hx hb hK hP 4 1 rfl rfl (xi_in (by omega) (by omega)) dX8_restore_17 ?_
    refine xk_top (z := sv p1.toInt.toNat) rfl ?_
    refine lv_topi (fun x17 e17 => ?_)
    refine lv_if_ne (tgt := 24) hx hb dX8_restore_18 (by decide) (fun c18 => ?_) (fun c18 => ?_)
    · have t18 : ¬ x17.toInt = 0 := xi_ne rfl (by decide) c18
      have d18 : ¬ x17 = 0 := c18
      refine lv_aload_n hx hb dX8_restore_24 rfl (lv_at hl 0 rfl) ?_
      refine xk_Vv (As := []) (rest := []) hx hb hml hown hts hK hN hZ hP hD hS hA mb_X8_record mw_3_150 mw_3_152 mw_0_6 (c_X8_record l D cI cZ cS h h1 h2 h3 h4 h5 h6 h7 h8 gst gty gse gte gsp gtl z past (by first | omega | decide | assumption)) [0, 1, 2] 0 8 rfl rfl (by decide) rfl (fun _ => by simp only [List.map]) (by decide) (by decide) rfl hl.1 rfl (Nat.le_of_ble_eq_true rfl) dX8_restore_25 ⟨Nat.zero_le _, Nat.zero_le _⟩ (fun _ H locs hw hP hD hS => ?_)
      have hP : va_P D vwCl [(h, .inr (8, [.ref h1, .ref h2, .ref h3, .int (recS gst), .ref h4, .ref h5, .ref h6, .int gty, .int gse, .int gte, .int gsp, .ref h7, .ref h8, .int gtl])), (h1, .inl (cI, 190, .inl z)), (h3, .inl (cI, 1140, .inl (recP z past gst))), (h4, .inl (cI, 380, .inl slots)), (h5, .inl (cZ, 2, .inl sv))] H := hP
      have hD : va_D A [(h, .inr (8, [.ref h1, .ref h2, .ref h3, .int (recS gst), .ref h4, .ref h5, .ref h6, .int gty, .int gse, .int gte, .int gsp, .ref h7, .ref h8, .int gtl])), (h1, .inl (cI, 190, .inl z)), (h3, .inl (cI, 1140, .inl (recP z past gst))), (h4, .inl (cI, 380, .inl slots)), (h5, .inl (cZ, 2, .inl sv))] := hD
      obtain ⟨g25_2, hg25_2⟩ : ∃ g, g = (recP z past gst) := ⟨_, rfl⟩
      rw [← hg25_2] at hP hD
      have hP : va_P D vwCl [(h, .inr (8, [.ref h1, .ref h2, .ref h3, .int (recS gst), .ref h4, .ref h5, .ref h6, .int gty, .int gse, .int gte, .int gsp, .ref h7, .ref h8, .int gtl])), (h1, .inl (cI, 190, .inl z)), (h3, .inl (cI, 1140, .inl g25_2)), (h4, .inl (cI, 380, .inl slots)), (h5, .inl (cZ, 2, .inl sv))] H := hP
      have hD : va_D A [(h, .inr (8, [.ref h1, .ref h2, .ref h3, .int (recS gst), .ref h4, .ref h5, .ref h6, .int gty, .int gse, .int gte, .int gsp, .ref h7, .ref h8, .int gtl])), (h1, .inl (cI, 190, .inl z)), (h3, .inl (cI, 1140, .inl g25_2)), (h4, .inl (cI, 380, .inl slots)), (h5, .inl (cZ, 2, .inl sv))] := hD
      refine lv_aload_n hx hb dX8_restore_28 rfl (lv_at hl 0 rfl) ?_
      refine va_get (D := D) (ci := 8) (v := .ref h4) (C := RX8) (T := TX8) (N := 14) hx hb hts xin8 hown hK hP 0 rfl rfl 4 (by decide) (hts _ (List.mem_cons_of_mem _ mw_3_93)) (fun _ h9 => h9) rfl dX8_restore_29 ?_
      refine lv_sipush (v := 190) hx hb dX8_restore_32 (by decide) ?_
      refine lv_iload_n hx hb dX8_restore_35 rfl (lv_at hl 1 rfl) ?_
      refine lv_imul hx hb dX8_restore_36 ?_
      refine lv_topi (fun x36 e36 => ?_)
      have t36 : x36.toInt = 190 * p1.toInt := by rw [e36]; exact xi_mul (by decide) rfl (by omega) (by omega)
      refine lv_aload_n hx hb dX8_restore_37 rfl (lv_at hl 0 rfl) ?_
      refine va_get (D := D) (ci := 8) (v := .ref h1) (C := RX8) (T := TX8) (N := 14) hx hb hts xin8 hown hK hP 0 rfl rfl 0 (by decide) (hts _ (List.mem_cons_of_mem _ mw_3_89)) (fun _ h9 => h9) rfl dX8_restore_38 ?_
      refine lv_iconst (v := 0) hx hb dX8_restore_41 (by decide) ?_
      refine xk_Sv (As := [.ref h4, .int x36, .ref h1, .int 0]) (rest := []) hx hb hml hown hts hK hN hZ hP hD hS hA mb_X8_copyState mw_3_136 mw_3_137 (c_X8_copyState l D cI cZ cS h4 h1 380 190 slots z x36 (0 : Int32) (by first | omega | decide | assumption) (by first | omega | decide | assumption) (by first | omega | decide | assumption)) [3, 1] (by decide) rfl (fun _ => by simp only [List.map]) (by decide) (by decide) rfl hl.1 rfl (Nat.le_of_ble_eq_true rfl) dX8_restore_42 ⟨Nat.zero_le _, Nat.zero_le _⟩ (fun _ H locs hw hP hD hS => ?_)
      have hP : va_P D vwCl [(h, .inr (8, [.ref h1, .ref h2, .ref h3, .int (recS gst), .ref h4, .ref h5, .ref h6, .int gty, .int gse, .int gte, .int gsp, .ref h7, .ref h8, .int gtl])), (h1, .inl (cI, 190, .inl (va_cpy slots z x36.toInt.toNat 0 190))), (h3, .inl (cI, 1140, .inl g25_2)), (h4, .inl (cI, 380, .inl slots)), (h5, .inl (cZ, 2, .inl sv))] H := hP
      have hD : va_D A [(h, .inr (8, [.ref h1, .ref h2, .ref h3, .int (recS gst), .ref h4, .ref h5, .ref h6, .int gty, .int gse, .int gte, .int gsp, .ref h7, .ref h8, .int gtl])), (h1, .inl (cI, 190, .inl (va_cpy slots z x36.toInt.toNat 0 190))), (h3, .inl (cI, 1140, .inl g25_2)), (h4, .inl (cI, 380, .inl slots)), (h5, .inl (cZ, 2, .inl sv))] := hD
      obtain ⟨g42_1, hg42_1⟩ : ∃ g, g = (va_cpy slots z x36.toInt.toNat 0 190) := ⟨_, rfl⟩
      rw [← hg42_1] at hP hD
      have hP : va_P D vwCl [(h, .inr (8, [.ref h1, .ref h2, .ref h3, .int (recS gst), .ref h4, .ref h5, .ref h6, .int gty, .int gse, .int gte, .int gsp, .ref h7, .ref h8, .int gtl])), (h1, .inl (cI, 190, .inl g42_1)), (h3, .inl (cI, 1140, .inl g25_2)), (h4, .inl (cI, 380, .inl slots)), (h5, .inl (cZ, 2, .inl sv))] H := hP
      have hD : va_D A [(h, .inr (8, [.ref h1, .ref h2, .ref h3, .int (recS gst), .ref h4, .ref h5, .ref h6, .int gty, .int gse, .int gte, .int gsp, .ref h7, .ref h8, .int gtl])), (h1, .inl (cI, 190, .inl g42_1)), (h3, .inl (cI, 1140, .inl g25_2)), (h4, .inl (cI, 380, .inl slots)), (h5, .inl (cZ, 2, .inl sv))] := hD
      refine lv_aload_n hx hb dX8_restore_45 rfl (lv_at hl 0 rfl) ?_
      refine va_get (D := D) (ci := 8) (v := .ref h1) (C := RX8) (T := TX8) (N := 14) hx hb hts xin8 hown hK hP 0 rfl rfl 0 (by decide) (hts _ (List.mem_cons_of_mem _ mw_3_89)) (fun _ h9 => h9) rfl dX8_restore_46 ?_
      refine lv_sipush (v := 174) hx hb dX8_restore_49 (by decide) ?_
      refine va_iald hx hb hK hP 1 0 rfl rfl (xi_in (by decide) (by decide)) dX8_restore_52 ?_
      refine xk_top (z := g42_1 174) rfl ?_
      have hc : restC p1 sv := ⟨b3, by rw [← e17]; exact d18⟩
      have hz : g42_1 = if restC p1 sv then va_cpy slots z (190 * p1.toInt.toNat) 0 190 else z := by rw [hg42_1, if_pos hc, show x36.toInt.toNat = 190 * p1.toInt.toNat from by omega]
      have hp : g25_2 = if restC p1 sv then recP z past gst else past := by rw [hg25_2, if_pos hc]
      have hs : (recS gst) = if restC p1 sv then recS gst else gst := by rw [if_pos hc]
      have hv : (g42_1 174) = restR p1 sv slots := by rw [restR, if_pos b3, if_neg (show ¬ sv p1.toInt.toNat = 0 from by rw [← e17]; exact d18), hg42_1, va_cpy, if_pos (by omega)]; congr 1; omega
      exact xk_reti () hx hb hr hlocks (xk_P hP (by rw [← hz, ← hp, ← hs])) (by exact hv) hS dX8_restore_53 hQ
    · have t18 : x17.toInt = 0 := xi_eq rfl (by decide) c18
      have d18 : x17 = 0 := c18
      refine lv_bipush (v := (-5)) hx hb dX8_restore_21 (by decide) ?_
      have hc : ¬ restC p1 sv := fun hh => hh.2 (by rw [← e17]; exact d18)
      have hz : z = if restC p1 sv then va_cpy slots z (190 * p1.toInt.toNat) 0 190 else z := by rw [if_neg hc]
      have hp : past = if restC p1 sv then recP z past gst else past := by rw [if_neg hc]
      have hs : gst = if restC p1 sv then recS gst else gst := by rw [if_neg hc]
      have hv : (-5) = restR p1 sv slots := by rw [restR, if_pos b3, if_pos (show sv p1.toInt.toNat = 0 from by rw [← e17]; exact d18)]
      exact xk_reti () hx hb hr hlocks (xk_P hP (by rw [← hz, ← hp, ← hs])) (by exact hv) hS dX8_restore_23 hQ
  · have b3 : ¬ (0 ≤ p1.toInt ∧ p1.toInt ≤ 1) := b3
    refine lv_if_ne (tgt := 12) hx hb dX8_restore_6 (by decide) (fun c6 => absurd (by decide) c6) (fun _ => ?_)
    refine lv_bipush (v := (-2)) hx hb dX8_restore_9 (by decide) ?_
    have hc : ¬ restC p1 sv := fun hh => b3 hh.1
    have hz : z = if restC p1 sv then va_cpy slots z (190 * p1.toInt.toNat) 0 190 else z := by rw [if_neg hc]
    have hp : past = if restC p1 sv then recP z past gst else past := by rw [if_neg hc]
    have hs : gst = if restC p1 sv then recS gst else gst := by rw [if_neg hc]
    have hv : (-2) = restR p1 sv slots := by rw [restR, if_neg b3]
    exact xk_reti () hx hb hr hlocks (xk_P hP (by rw [← hz, ← hp, ← hs])) (by exact hv) hS dX8_restore_11 hQ

set_option maxHeartbeats 4000000 in
set_option maxRecDepth 100000 in
theorem c_X8_beginNow (l : Launch) (D : va_G) (cI cZ cS : ClassId) (h h1 h2 h3 h4 h5 h6 h7 h8 : Nat) (gst gty gse gte gsp gtl : Int32) (z : Nat → Int32)   : xMv l yX8_beginNow cX8_beginNow 2 none ({ frames := 0, cells := 0, slots := 0, locals := 0 } : Room) D (xTy cI cZ cS) [.ref h] [(h, .inr (8, [.ref h1, .ref h2, .ref h3, .int gst, .ref h4, .ref h5, .ref h6, .int gty, .int gse, .int gte, .int gsp, .ref h7, .ref h8, .int gtl])), (h1, .inl (cI, 190, .inl z))] (fun (_ : Unit) => True) (fun (_ : Unit) => [(h, .inr (8, [.ref h1, .ref h2, .ref h3, .int gst, .ref h4, .ref h5, .ref h6, .int gty, .int gse, .int gte, .int gsp, .ref h7, .ref h8, .int gtl])), (h1, .inl (cI, 190, .inl (beginZ z)))]) := by
  refine xk_bodyv (by decide) (Nat.le_of_ble_eq_true rfl) ?_
  intro p e s m below meth c A ls args Q hx hb hr hts hown hlocks hml hin hK hP hD hS hA hN hZ hl hQ
  have hl : lv_has ls 2 [(0, .ref h)] := hl
  refine lv_sipush (v := 174) hx hb dX8_beginNow_0 (by decide) ?_
  refine lv_istore_n (lv' := [(1, .int 174), (0, .ref h)]) hx hb dX8_beginNow_3 rfl hl (by decide) rfl (fun ls hl => ?_)
  have L4 : ∀ (n : Nat) (k : Int32) (hk : 174 ≤ k.toInt ∧ k.toInt ≤ 190) (hn4 : 190 - k.toInt.toNat < n) (H : Heap) (locs : List Loc), va_P D vwCl [(h, .inr (8, [.ref h1, .ref h2, .ref h3, .int gst, .ref h4, .ref h5, .ref h6, .int gty, .int gse, .int gte, .int gsp, .ref h7, .ref h8, .int gtl])), (h1, .inl (cI, 190, .inl (begP z k.toInt.toNat)))] H → va_D A [(h, .inr (8, [.ref h1, .ref h2, .ref h3, .int gst, .ref h4, .ref h5, .ref h6, .int gty, .int gse, .int gte, .int gsp, .ref h7, .ref h8, .int gtl])), (h1, .inl (cI, 190, .inl (begP z k.toInt.toNat)))] → va_S A s.heap H locs → ∀ ls : Array Slot, lv_has ls 2 [(1, .int k), (0, .ref h)] → W p l e ({ frames := 0, cells := 0, slots := 0, locals := 0 } : Room) s m args below meth c H locs 0 0 Q (F0 m 4 ls []) := by
    intro n
    induction n with
    | zero =>
      intro k hk hn4
      exact absurd hn4 (Nat.not_lt_zero _)
    | succ n ih4 =>
      intro k hk hn4 H locs hP hD hS ls hl
      refine lv_iload_n hx hb dX8_beginNow_4 rfl (lv_at hl 0 rfl) ?_
      refine lv_sipush (v := 190) hx hb dX8_beginNow_5 (by decide) ?_
      refine lv_icmp_ge (tgt := 24) hx hb dX8_beginNow_8 (by decide) (fun c8 => ?_) (fun c8 => ?_)
      · have t8 : 190 ≤ k.toInt := xi_le (by decide) rfl c8
        have f24 : (begP z k.toInt.toNat) = begP z 190 := by rw [show k.toInt.toNat = 190 from by omega]
        rw [f24] at hP hD
        have hP : va_P D vwCl [(h, .inr (8, [.ref h1, .ref h2, .ref h3, .int gst, .ref h4, .ref h5, .ref h6, .int gty, .int gse, .int gte, .int gsp, .ref h7, .ref h8, .int gtl])), (h1, .inl (cI, 190, .inl (begP z 190)))] H := hP
        have hD : va_D A [(h, .inr (8, [.ref h1, .ref h2, .ref h3, .int gst, .ref h4, .ref h5, .ref h6, .int gty, .int gse, .int gte, .int gsp, .ref h7, .ref h8, .int gtl])), (h1, .inl (cI, 190, .inl (begP z 190)))] := hD
        refine lv_aload_n hx hb dX8_beginNow_24 rfl (lv_at hl 1 rfl) ?_
        refine va_get (D := D) (ci := 8) (v := .ref h1) (C := RX8) (T := TX8) (N := 14) hx hb hts xin8 hown hK hP 0 rfl rfl 0 (by decide) (hts _ (List.mem_cons_of_mem _ mw_3_89)) (fun _ h9 => h9) rfl dX8_beginNow_25 ?_
        refine lv_sipush (v := 181) hx hb dX8_beginNow_28 (by decide) ?_
        refine lv_aload_n hx hb dX8_beginNow_31 rfl (lv_at hl 1 rfl) ?_
        refine va_get (D := D) (ci := 8) (v := .ref h1) (C := RX8) (T := TX8) (N := 14) hx hb hts xin8 hown hK hP 0 rfl rfl 0 (by decide) (hts _ (List.mem_cons_of_mem _ mw_3_89)) (fun _ h9 => h9) rfl dX8_beginNow_32 ?_
        refine lv_iconst (v := 4) hx hb dX8_beginNow_35 (by decide) ?_
        refine va_iald hx hb hK hP 1 0 rfl rfl (xi_in (by decide) (by decide)) dX8_beginNow_36 ?_
        refine xk_top (z := (begP z 190) 4) rfl ?_
        refine lv_topi (fun x36 e36 => ?_)
        refine va_iast hx hb hK hP hD hS 1 0 rfl rfl (xi_in (by decide) (by decide)) dX8_beginNow_37 (fun H locs hP hD hS => ?_)
        have hP : va_P D vwCl [(h, .inr (8, [.ref h1, .ref h2, .ref h3, .int gst, .ref h4, .ref h5, .ref h6, .int gty, .int gse, .int gte, .int gsp, .ref h7, .ref h8, .int gtl])), (h1, .inl (cI, 190, .inl (upd (begP z 190) 181 x36)))] H := hP
        have hD : va_D A [(h, .inr (8, [.ref h1, .ref h2, .ref h3, .int gst, .ref h4, .ref h5, .ref h6, .int gty, .int gse, .int gte, .int gsp, .ref h7, .ref h8, .int gtl])), (h1, .inl (cI, 190, .inl (upd (begP z 190) 181 x36)))] := hD
        have hz : (upd (begP z 190) 181 x36) = beginZ z := by rw [e36, begP_4, begP_e]
        exact xk_retv () hx hb hr hlocks (xk_P hP (by rw [hz])) (by trivial) hS dX8_beginNow_38 hQ
      · have t8 : k.toInt < 190 := xi_nle (by decide) rfl c8
        refine lv_aload_n hx hb dX8_beginNow_11 rfl (lv_at hl 1 rfl) ?_
        refine va_get (D := D) (ci := 8) (v := .ref h1) (C := RX8) (T := TX8) (N := 14) hx hb hts xin8 hown hK hP 0 rfl rfl 0 (by decide) (hts _ (List.mem_cons_of_mem _ mw_3_89)) (fun _ h9 => h9) rfl dX8_beginNow_12 ?_
        refine lv_iload_n hx hb dX8_beginNow_15 rfl (lv_at hl 0 rfl) ?_
        refine lv_iconst (v := 0) hx hb dX8_beginNow_16 (by decide) ?_
        refine va_iast hx hb hK hP hD hS 1 0 rfl rfl (xi_in (by omega) (by omega)) dX8_beginNow_17 (fun H locs hP hD hS => ?_)
        rw [show k.toNatClampNeg = k.toInt.toNat from xk_ix (by omega)] at hP hD
        have hP : va_P D vwCl [(h, .inr (8, [.ref h1, .ref h2, .ref h3, .int gst, .ref h4, .ref h5, .ref h6, .int gty, .int gse, .int gte, .int gsp, .ref h7, .ref h8, .int gtl])), (h1, .inl (cI, 190, .inl (upd (begP z k.toInt.toNat) k.toInt.toNat 0)))] H := hP
        have hD : va_D A [(h, .inr (8, [.ref h1, .ref h2, .ref h3, .int gst, .ref h4, .ref h5, .ref h6, .int gty, .int gse, .int gte, .int gsp, .ref h7, .ref h8, .int gtl])), (h1, .inl (cI, 190, .inl (upd (begP z k.toInt.toNat) k.toInt.toNat 0)))] := hD
        obtain ⟨x18, e18⟩ : ∃ y : Int32, y = k + 1 := ⟨_, rfl⟩
        have t18 : x18.toInt = k.toInt + 1 := by rw [e18]; exact xi_add rfl (by decide) (by omega) (by omega)
        refine lv_iinc (v := x18) (lv' := [(1, .int x18), (0, .ref h)]) hx hb dX8_beginNow_18 hl (k := 0) rfl (by rw [e18]; rfl) (by decide) rfl (fun ls hl => ?_)
        refine lv_goto (tgt := 4) hx hb dX8_beginNow_21 (by decide) ?_
        have q4 : ([(h, .inr (8, [.ref h1, .ref h2, .ref h3, .int gst, .ref h4, .ref h5, .ref h6, .int gty, .int gse, .int gte, .int gsp, .ref h7, .ref h8, .int gtl])), (h1, .inl (cI, 190, .inl (upd (begP z k.toInt.toNat) k.toInt.toNat 0)))] : va_W) = [(h, .inr (8, [.ref h1, .ref h2, .ref h3, .int gst, .ref h4, .ref h5, .ref h6, .int gty, .int gse, .int gte, .int gsp, .ref h7, .ref h8, .int gtl])), (h1, .inl (cI, 190, .inl (begP z x18.toInt.toNat)))] := by rw [begP_s _ _ (by omega), show x18.toInt.toNat = k.toInt.toNat + 1 from by omega]
        exact ih4  x18 (by first | omega | assumption) (by omega) _ _ (xk_P hP q4) (xk_D hD q4) hS ls (lv_sub hl [0, 1] rfl)
  have q4 : ([(h, .inr (8, [.ref h1, .ref h2, .ref h3, .int gst, .ref h4, .ref h5, .ref h6, .int gty, .int gse, .int gte, .int gsp, .ref h7, .ref h8, .int gtl])), (h1, .inl (cI, 190, .inl z))] : va_W) = [(h, .inr (8, [.ref h1, .ref h2, .ref h3, .int gst, .ref h4, .ref h5, .ref h6, .int gty, .int gse, .int gte, .int gsp, .ref h7, .ref h8, .int gtl])), (h1, .inl (cI, 190, .inl (begP z 174)))] := by rw [begP_0]
  exact L4 191 (174 : Int32) (by decide) (by decide) _ _ (xk_P hP q4) (xk_D hD q4) hS ls (lv_sub hl [0, 1] rfl)

set_option maxHeartbeats 4000000 in
set_option maxRecDepth 100000 in
theorem c_X8_marchNow (l : Launch) (D : va_G) (cI cZ cS : ClassId) (h h1 h2 h3 h4 h5 h6 h7 h8 : Nat) (gst gty gse gte gsp gtl : Int32) (z : Nat → Int32) (p1 : Int32) (hp : 0 ≤ p1.toInt ∧ p1.toInt ≤ 100000) (hI0 : InvZ z) (hC0 : canZ z) : xMi l yX8_marchNow cX8_marchNow 3 (some .int) ({ frames := 3, cells := 0, slots := 0, locals := 65 } : Room) D (xTy cI cZ cS) [.ref h, .int p1] [(h, .inr (8, [.ref h1, .ref h2, .ref h3, .int gst, .ref h4, .ref h5, .ref h6, .int gty, .int gse, .int gte, .int gsp, .ref h7, .ref h8, .int gtl])), (h1, .inl (cI, 190, .inl z))] (fun (r : Int32) (u : (Int32) × (Int32)) => r.toInt = (walkN p1.toInt.toNat z : Int)) (fun (u : (Int32) × (Int32)) => [(h, .inr (8, [.ref h1, .ref h2, .ref h3, .int gst, .ref h4, .ref h5, .ref h6, .int gty, .int u.1, .int u.2, .int gsp, .ref h7, .ref h8, .int gtl])), (h1, .inl (cI, 190, .inl (walkZ p1.toInt.toNat z)))]) := by
  refine xk_bodyi (by decide) (Nat.le_of_ble_eq_true rfl) ?_
  intro p e s m below meth c A ls args Q hx hb hr hts hown hlocks hml hin hK hP hD hS hA hN hZ hl hQ
  have hl : lv_has ls 3 [(0, .ref h), (1, .int p1)] := hl
  refine lv_iconst (v := 0) hx hb dX8_marchNow_0 (by decide) ?_
  refine lv_istore_n (lv' := [(2, .int 0), (0, .ref h), (1, .int p1)]) hx hb dX8_marchNow_1 rfl hl (by decide) rfl (fun ls hl => ?_)
  have L2 : ∀ (n : Nat) (k : Int32) (w : Nat → Int32) (se : Int32) (te : Int32) (hk : 0 ≤ k.toInt ∧ k.toInt ≤ p1.toInt) (hI : InvZ w) (hC : canZ w) (hn : k.toInt + walkN (p1.toInt - k.toInt).toNat w = walkN p1.toInt.toNat z) (hW : walkZ (p1.toInt - k.toInt).toNat w = walkZ p1.toInt.toNat z) (hn2 : (p1.toInt - k.toInt).toNat < n) (H : Heap) (locs : List Loc), va_P D vwCl [(h, .inr (8, [.ref h1, .ref h2, .ref h3, .int gst, .ref h4, .ref h5, .ref h6, .int gty, .int se, .int te, .int gsp, .ref h7, .ref h8, .int gtl])), (h1, .inl (cI, 190, .inl w))] H → va_D A [(h, .inr (8, [.ref h1, .ref h2, .ref h3, .int gst, .ref h4, .ref h5, .ref h6, .int gty, .int se, .int te, .int gsp, .ref h7, .ref h8, .int gtl])), (h1, .inl (cI, 190, .inl w))] → va_S A s.heap H locs → ∀ ls : Array Slot, lv_has ls 3 [(2, .int k), (0, .ref h), (1, .int p1)] → W p l e ({ frames := 3, cells := 0, slots := 0, locals := 65 } : Room) s m args below meth c H locs 0 0 Q (F0 m 2 ls []) := by
    intro n
    induction n with
    | zero =>
      intro k w se te hk hI hC hn hW hn2
      exact absurd hn2 (Nat.not_lt_zero _)
    | succ n ih2 =>
      intro k w se te hk hI hC hn hW hn2 H locs hP hD hS ls hl
      refine lv_iload_n hx hb dX8_marchNow_2 rfl (lv_at hl 0 rfl) ?_
      refine lv_iload_n hx hb dX8_marchNow_3 rfl (lv_at hl 2 rfl) ?_
      refine lv_icmp_ge (tgt := 28) hx hb dX8_marchNow_4 (by decide) (fun c4 => ?_) (fun c4 => ?_)
      · have t4 : p1.toInt ≤ k.toInt := xi_le rfl rfl c4
        refine lv_iload_n hx hb dX8_marchNow_28 rfl (lv_at hl 0 rfl) ?_
        rw [show (p1.toInt - k.toInt).toNat = 0 from by omega, walkN] at hn
        rw [show (p1.toInt - k.toInt).toNat = 0 from by omega, walkZ] at hW
        exact xk_reti (se, te) hx hb hr hlocks (xk_P hP (by rw [hW])) (by (try dsimp only); omega) hS dX8_marchNow_29 hQ
      · have t4 : k.toInt < p1.toInt := xi_nle rfl rfl c4
        refine lv_aload_n hx hb dX8_marchNow_7 rfl (lv_at hl 1 rfl) ?_
        refine va_get (D := D) (ci := 8) (v := .ref h1) (C := RX8) (T := TX8) (N := 14) hx hb hts xin8 hown hK hP 0 rfl rfl 0 (by decide) (hts _ (List.mem_cons_of_mem _ mw_3_89)) (fun _ h9 => h9) rfl dX8_marchNow_8 ?_
        refine lv_sipush (v := 188) hx hb dX8_marchNow_11 (by decide) ?_
        refine va_iald hx hb hK hP 1 0 rfl rfl (xi_in (by decide) (by decide)) dX8_marchNow_14 ?_
        refine xk_top (z := w 188) rfl ?_
        refine lv_if_ne (tgt := 28) hx hb dX8_marchNow_15 (by decide) (fun c15 => ?_) (fun c15 => ?_)
        · have t15 : ¬ (w 188).toInt = 0 := xi_ne rfl (by decide) c15
          have d15 : ¬ (w 188) = 0 := c15
          refine lv_iload_n hx hb dX8_marchNow_28 rfl (lv_at hl 0 rfl) ?_
          have hs : (p1.toInt - k.toInt).toNat = ((p1.toInt - k.toInt).toNat - 1) + 1 := by omega
          rw [hs, walkN, if_neg d15] at hn
          rw [hs, walkZ, if_neg d15] at hW
          exact xk_reti (se, te) hx hb hr hlocks (xk_P hP (by rw [hW])) (by (try dsimp only); omega) hS dX8_marchNow_29 hQ
        · have t15 : (w 188).toInt = 0 := xi_eq rfl (by decide) c15
          have d15 : (w 188) = 0 := c15
          refine lv_aload_n hx hb dX8_marchNow_18 rfl (lv_at hl 1 rfl) ?_
          refine xk_Vv (As := []) (rest := []) hx hb hml hown hts hK hN hZ hP hD hS hA mb_X8_beat mw_3_166 mw_3_168 mw_0_9 (c_X8_beat l D cI cZ cS h h1 h2 h3 h4 h5 h6 h7 h8 gst gty se te gsp gtl w (by exact InvZ_at hI hC d15) (by exact InvZ_h5 hI) (by exact InvZ_pos hI)) [0, 1] 0 8 rfl rfl (by decide) rfl (fun _ => by simp only [List.map]) (by decide) (by decide) rfl hl.1 rfl (Nat.le_of_ble_eq_true rfl) dX8_marchNow_19 ⟨Nat.zero_le _, Nat.zero_le _⟩ (fun _ H locs hw hP hD hS => ?_)
          have hP : va_P D vwCl [(h, .inr (8, [.ref h1, .ref h2, .ref h3, .int gst, .ref h4, .ref h5, .ref h6, .int gty, .int (if endG w then (1 : Int32) else 0), .int (if endS w then (1 : Int32) else 0), .int gsp, .ref h7, .ref h8, .int gtl])), (h1, .inl (cI, 190, .inl (beatZ w)))] H := hP
          have hD : va_D A [(h, .inr (8, [.ref h1, .ref h2, .ref h3, .int gst, .ref h4, .ref h5, .ref h6, .int gty, .int (if endG w then (1 : Int32) else 0), .int (if endS w then (1 : Int32) else 0), .int gsp, .ref h7, .ref h8, .int gtl])), (h1, .inl (cI, 190, .inl (beatZ w)))] := hD
          obtain ⟨g19_1, hg19_1⟩ : ∃ g, g = (beatZ w) := ⟨_, rfl⟩
          rw [← hg19_1] at hP hD
          have hP : va_P D vwCl [(h, .inr (8, [.ref h1, .ref h2, .ref h3, .int gst, .ref h4, .ref h5, .ref h6, .int gty, .int (if endG w then (1 : Int32) else 0), .int (if endS w then (1 : Int32) else 0), .int gsp, .ref h7, .ref h8, .int gtl])), (h1, .inl (cI, 190, .inl g19_1))] H := hP
          have hD : va_D A [(h, .inr (8, [.ref h1, .ref h2, .ref h3, .int gst, .ref h4, .ref h5, .ref h6, .int gty, .int (if endG w then (1 : Int32) else 0), .int (if endS w then (1 : Int32) else 0), .int gsp, .ref h7, .ref h8, .int gtl])), (h1, .inl (cI, 190, .inl g19_1))] := hD
          obtain ⟨x22, e22⟩ : ∃ y : Int32, y = k + 1 := ⟨_, rfl⟩
          have t22 : x22.toInt = k.toInt + 1 := by rw [e22]; exact xi_add rfl (by decide) (by omega) (by omega)
          refine lv_iinc (v := x22) (lv' := [(2, .int x22), (0, .ref h), (1, .int p1)]) hx hb dX8_marchNow_22 hl (k := 0) rfl (by rw [e22]; rfl) (by decide) rfl (fun ls hl => ?_)
          refine lv_goto (tgt := 2) hx hb dX8_marchNow_25 (by decide) ?_
          have hs : (p1.toInt - k.toInt).toNat = (p1.toInt - x22.toInt).toNat + 1 := by omega
          rw [hs, walkN, if_pos d15] at hn
          rw [hs, walkZ, if_pos d15] at hW
          have q2 : ([(h, .inr (8, [.ref h1, .ref h2, .ref h3, .int gst, .ref h4, .ref h5, .ref h6, .int gty, .int (if endG w then (1 : Int32) else 0), .int (if endS w then (1 : Int32) else 0), .int gsp, .ref h7, .ref h8, .int gtl])), (h1, .inl (cI, 190, .inl g19_1))] : va_W) = [(h, .inr (8, [.ref h1, .ref h2, .ref h3, .int gst, .ref h4, .ref h5, .ref h6, .int gty, .int (if endG w then (1 : Int32) else 0), .int (if endS w then (1 : Int32) else 0), .int gsp, .ref h7, .ref h8, .int gtl])), (h1, .inl (cI, 190, .inl (beatZ w)))] := by rw [hg19_1]
          exact ih2  x22 (beatZ w) (if endG w then (1 : Int32) else 0) (if endS w then (1 : Int32) else 0) (by first | omega | assumption) (by exact beat_inv hI hC d15) (by exact beat_can hC) (by omega) (by exact hW) (by omega) _ _ (xk_P hP q2) (xk_D hD q2) hS ls (lv_sub hl [0, 1, 2] rfl)
  exact L2 (p1.toInt.toNat + 1) (0 : Int32) z gse gte (by rw [show (0 : Int32).toInt = 0 from by decide]; omega) (by exact hI0) (by exact hC0) (by rw [show (0 : Int32).toInt = 0 from by decide, Int.sub_zero, Int.zero_add]) (by rw [show (0 : Int32).toInt = 0 from by decide, Int.sub_zero]) (by rw [show (0 : Int32).toInt = 0 from by decide]; omega) _ _ hP hD hS ls (lv_sub hl [0, 1, 2] rfl)
