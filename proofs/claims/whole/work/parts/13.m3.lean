set_option maxHeartbeats 4000000 in
set_option maxRecDepth 100000 in
theorem c_X8_march (l : Launch) (D : va_G) (cI cZ cS : ClassId) (h h1 h2 h3 h4 h5 h6 h7 h8 : Nat) (gst gty gse gte gsp gtl : Int32) (z past : Nat → Int32) (p1 : Int32) (hg : 0 ≤ gst.toInt ∧ gst.toInt ≤ 6) (hI : InvZ z) : xMi l yX8_march cX8_march 2 (some .int) ({ frames := 4, cells := 0, slots := 0, locals := 87 } : Room) D (xTy cI cZ cS) [.ref h, .int p1] [(h, .inr (8, [.ref h1, .ref h2, .ref h3, .int gst, .ref h4, .ref h5, .ref h6, .int gty, .int gse, .int gte, .int gsp, .ref h7, .ref h8, .int gtl])), (h1, .inl (cI, 190, .inl z)), (h3, .inl (cI, 1140, .inl past))] (fun (r : Int32) (u : (Int32) × (Int32)) => marchA z p1 r) (fun (u : (Int32) × (Int32)) => [(h, .inr (8, [.ref h1, .ref h2, .ref h3, .int (if marchC z p1 then recS gst else gst), .ref h4, .ref h5, .ref h6, .int gty, .int u.1, .int u.2, .int gsp, .ref h7, .ref h8, .int gtl])), (h1, .inl (cI, 190, .inl (if marchC z p1 then walkZ p1.toInt.toNat z else z))), (h3, .inl (cI, 1140, .inl (if marchC z p1 then recP z past gst else past)))]) := by
  refine xk_bodyi (by decide) (Nat.le_of_ble_eq_true rfl) ?_
  intro p e s m below meth c A ls args Q hx hb hr hts hown hlocks hml hin hK hP hD hS hA hN hZ hl hQ
  have hl : lv_has ls 2 [(0, .ref h), (1, .int p1)] := hl
  refine lv_iload_n hx hb dX8_march_0 rfl (lv_at hl 1 rfl) ?_
  refine lv_iconst (v := 1) hx hb dX8_march_1 (by decide) ?_
  refine lv_sipush (v := 500) hx hb dX8_march_2 (by decide) ?_
  refine xk_Si (As := [.int p1, .int 1, .int 500]) (rest := []) hx hb hml hown hts hK hN hZ hP hD hS hA mb_X8_in mw_3_143 mw_3_144 (c_X8_in l D cI cZ cS p1 (1 : Int32) (500 : Int32) ) [] (by decide) rfl (fun _ => by simp only [List.map]) (by decide) (by decide) rfl hl.1 rfl (Nat.le_of_ble_eq_true rfl) dX8_march_5 ⟨Nat.zero_le _, Nat.zero_le _⟩ (fun r5 _ H locs hw hP hD hS => ?_)
  have hP : va_P D vwCl [(h, .inr (8, [.ref h1, .ref h2, .ref h3, .int gst, .ref h4, .ref h5, .ref h6, .int gty, .int gse, .int gte, .int gsp, .ref h7, .ref h8, .int gtl])), (h1, .inl (cI, 190, .inl z)), (h3, .inl (cI, 1140, .inl past))] H := hP
  have hD : va_D A [(h, .inr (8, [.ref h1, .ref h2, .ref h3, .int gst, .ref h4, .ref h5, .ref h6, .int gty, .int gse, .int gte, .int gsp, .ref h7, .ref h8, .int gtl])), (h1, .inl (cI, 190, .inl z)), (h3, .inl (cI, 1140, .inl past))] := hD
  rcases hw with ⟨rfl, b5⟩ | ⟨rfl, b5⟩
  · have b5 : 1 ≤ p1.toInt ∧ p1.toInt ≤ 500 := b5
    refine lv_if_ne (tgt := 14) hx hb dX8_march_8 (by decide) (fun _ => ?_) (fun c8 => absurd c8 (by decide))
    refine lv_aload_n hx hb dX8_march_14 rfl (lv_at hl 0 rfl) ?_
    refine xk_Vi (As := []) (rest := []) hx hb hml hown hts hK hN hZ hP hD hS hA mb_X8_canMarch mw_3_158 mw_3_160 mw_0_7 (c_X8_canMarch l D cI cZ cS h h1 h2 h3 h4 h5 h6 h7 h8 gst gty gse gte gsp gtl z ) [0, 1] 0 8 rfl rfl (by decide) rfl (fun _ => by simp only [List.map]) (by decide) (by decide) rfl hl.1 rfl (Nat.le_of_ble_eq_true rfl) dX8_march_15 ⟨Nat.zero_le _, Nat.zero_le _⟩ (fun r15 _ H locs hw hP hD hS => ?_)
    have hP : va_P D vwCl [(h, .inr (8, [.ref h1, .ref h2, .ref h3, .int gst, .ref h4, .ref h5, .ref h6, .int gty, .int gse, .int gte, .int gsp, .ref h7, .ref h8, .int gtl])), (h1, .inl (cI, 190, .inl z)), (h3, .inl (cI, 1140, .inl past))] H := hP
    have hD : va_D A [(h, .inr (8, [.ref h1, .ref h2, .ref h3, .int gst, .ref h4, .ref h5, .ref h6, .int gty, .int gse, .int gte, .int gsp, .ref h7, .ref h8, .int gtl])), (h1, .inl (cI, 190, .inl z)), (h3, .inl (cI, 1140, .inl past))] := hD
    rcases hw with ⟨rfl, b15⟩ | ⟨rfl, b15⟩
    · have b15 : canZ z := b15
      refine lv_if_eq (tgt := 33) hx hb dX8_march_18 (by decide) (fun c18 => absurd c18 (by decide)) (fun _ => ?_)
      refine lv_aload_n hx hb dX8_march_21 rfl (lv_at hl 0 rfl) ?_
      refine va_get (D := D) (ci := 8) (v := .ref h1) (C := RX8) (T := TX8) (N := 14) hx hb hts xin8 hown hK hP 0 rfl rfl 0 (by decide) (hts _ (List.mem_cons_of_mem _ mw_3_89)) (fun _ h9 => h9) rfl dX8_march_22 ?_
      refine lv_sipush (v := 188) hx hb dX8_march_25 (by decide) ?_
      refine va_iald hx hb hK hP 1 0 rfl rfl (xi_in (by decide) (by decide)) dX8_march_28 ?_
      refine xk_top (z := z 188) rfl ?_
      refine lv_iconst (v := 1) hx hb dX8_march_29 (by decide) ?_
      refine lv_icmp_ne (tgt := 36) hx hb dX8_march_30 (by decide) (fun c30 => ?_) (fun c30 => ?_)
      · have t30 : ¬ (z 188).toInt = 1 := xi_ne rfl (by decide) c30
        have d30 : ¬ (z 188) = 1 := c30
        refine lv_aload_n hx hb dX8_march_36 rfl (lv_at hl 0 rfl) ?_
        refine xk_Vv (As := []) (rest := []) hx hb hml hown hts hK hN hZ hP hD hS hA mb_X8_record mw_3_150 mw_3_152 mw_0_6 (c_X8_record l D cI cZ cS h h1 h2 h3 h4 h5 h6 h7 h8 gst gty gse gte gsp gtl z past (by first | omega | decide | assumption)) [0, 1, 2] 0 8 rfl rfl (by decide) rfl (fun _ => by simp only [List.map]) (by decide) (by decide) rfl hl.1 rfl (Nat.le_of_ble_eq_true rfl) dX8_march_37 ⟨Nat.zero_le _, Nat.zero_le _⟩ (fun _ H locs hw hP hD hS => ?_)
        have hP : va_P D vwCl [(h, .inr (8, [.ref h1, .ref h2, .ref h3, .int (recS gst), .ref h4, .ref h5, .ref h6, .int gty, .int gse, .int gte, .int gsp, .ref h7, .ref h8, .int gtl])), (h1, .inl (cI, 190, .inl z)), (h3, .inl (cI, 1140, .inl (recP z past gst)))] H := hP
        have hD : va_D A [(h, .inr (8, [.ref h1, .ref h2, .ref h3, .int (recS gst), .ref h4, .ref h5, .ref h6, .int gty, .int gse, .int gte, .int gsp, .ref h7, .ref h8, .int gtl])), (h1, .inl (cI, 190, .inl z)), (h3, .inl (cI, 1140, .inl (recP z past gst)))] := hD
        obtain ⟨g37_2, hg37_2⟩ : ∃ g, g = (recP z past gst) := ⟨_, rfl⟩
        rw [← hg37_2] at hP hD
        have hP : va_P D vwCl [(h, .inr (8, [.ref h1, .ref h2, .ref h3, .int (recS gst), .ref h4, .ref h5, .ref h6, .int gty, .int gse, .int gte, .int gsp, .ref h7, .ref h8, .int gtl])), (h1, .inl (cI, 190, .inl z)), (h3, .inl (cI, 1140, .inl g37_2))] H := hP
        have hD : va_D A [(h, .inr (8, [.ref h1, .ref h2, .ref h3, .int (recS gst), .ref h4, .ref h5, .ref h6, .int gty, .int gse, .int gte, .int gsp, .ref h7, .ref h8, .int gtl])), (h1, .inl (cI, 190, .inl z)), (h3, .inl (cI, 1140, .inl g37_2))] := hD
        refine lv_aload_n hx hb dX8_march_40 rfl (lv_at hl 0 rfl) ?_
        refine lv_iload_n hx hb dX8_march_41 rfl (lv_at hl 1 rfl) ?_
        refine xk_Vi (As := [.int p1]) (rest := []) hx hb hml hown hts hK hN hZ hP hD hS hA mb_X8_marchNow mw_3_162 mw_3_164 mw_0_8 (c_X8_marchNow l D cI cZ cS h h1 h2 h3 h4 h5 h6 h7 h8 (recS gst) gty gse gte gsp gtl z p1 (by omega) (by exact hI) (by exact b15)) [0, 1] 0 8 rfl rfl (by decide) rfl (fun _ => by simp only [List.map]) (by decide) (by decide) rfl hl.1 rfl (Nat.le_of_ble_eq_true rfl) dX8_march_42 ⟨Nat.zero_le _, Nat.zero_le _⟩ (fun r42 u42 H locs hw hP hD hS => ?_)
        obtain ⟨w42_0, w42_1⟩ := u42
        have hP : va_P D vwCl [(h, .inr (8, [.ref h1, .ref h2, .ref h3, .int (recS gst), .ref h4, .ref h5, .ref h6, .int gty, .int w42_0, .int w42_1, .int gsp, .ref h7, .ref h8, .int gtl])), (h1, .inl (cI, 190, .inl (walkZ p1.toInt.toNat z))), (h3, .inl (cI, 1140, .inl g37_2))] H := hP
        have hD : va_D A [(h, .inr (8, [.ref h1, .ref h2, .ref h3, .int (recS gst), .ref h4, .ref h5, .ref h6, .int gty, .int w42_0, .int w42_1, .int gsp, .ref h7, .ref h8, .int gtl])), (h1, .inl (cI, 190, .inl (walkZ p1.toInt.toNat z))), (h3, .inl (cI, 1140, .inl g37_2))] := hD
        obtain ⟨g42_1, hg42_1⟩ : ∃ g, g = (walkZ p1.toInt.toNat z) := ⟨_, rfl⟩
        rw [← hg42_1] at hP hD
        have hP : va_P D vwCl [(h, .inr (8, [.ref h1, .ref h2, .ref h3, .int (recS gst), .ref h4, .ref h5, .ref h6, .int gty, .int w42_0, .int w42_1, .int gsp, .ref h7, .ref h8, .int gtl])), (h1, .inl (cI, 190, .inl g42_1)), (h3, .inl (cI, 1140, .inl g37_2))] H := hP
        have hD : va_D A [(h, .inr (8, [.ref h1, .ref h2, .ref h3, .int (recS gst), .ref h4, .ref h5, .ref h6, .int gty, .int w42_0, .int w42_1, .int gsp, .ref h7, .ref h8, .int gtl])), (h1, .inl (cI, 190, .inl g42_1)), (h3, .inl (cI, 1140, .inl g37_2))] := hD
        have p42 : r42.toInt = (walkN p1.toInt.toNat z : Int) := hw
        have hc : marchC z p1 := ⟨b5, b15, d30⟩
        have hz : g42_1 = if marchC z p1 then walkZ p1.toInt.toNat z else z := by rw [hg42_1, if_pos hc]
        have hq : g37_2 = if marchC z p1 then recP z past gst else past := by rw [hg37_2, if_pos hc]
        have hs : (recS gst) = if marchC z p1 then recS gst else gst := by rw [if_pos hc]
        have hv : marchA z p1 r42 := by unfold marchA; rw [if_pos b5, if_pos ⟨b15, d30⟩]; exact p42
        exact xk_reti (w42_0, w42_1) hx hb hr hlocks (xk_P hP (by rw [← hz, ← hq, ← hs])) (by (try dsimp only); exact hv) hS dX8_march_45 hQ
      · have t30 : (z 188).toInt = 1 := xi_eq rfl (by decide) c30
        have d30 : (z 188) = 1 := c30
        refine lv_bipush (v := (-5)) hx hb dX8_march_33 (by decide) ?_
        have hc : ¬ marchC z p1 := fun hh => hh.2.2 d30
        have hz : z = if marchC z p1 then walkZ p1.toInt.toNat z else z := by rw [if_neg hc]
        have hq : past = if marchC z p1 then recP z past gst else past := by rw [if_neg hc]
        have hs : gst = if marchC z p1 then recS gst else gst := by rw [if_neg hc]
        have hv : marchA z p1 (-5) := by unfold marchA; rw [if_pos b5, if_neg (fun hh => hh.2 d30)]
        exact xk_reti (gse, gte) hx hb hr hlocks (xk_P hP (by rw [← hz, ← hq, ← hs])) (by (try dsimp only); exact hv) hS dX8_march_35 hQ
    · have b15 : ¬ (canZ z) := b15
      refine lv_if_eq (tgt := 33) hx hb dX8_march_18 (by decide) (fun _ => ?_) (fun c18 => absurd (by decide) c18)
      refine lv_bipush (v := (-5)) hx hb dX8_march_33 (by decide) ?_
      have hc : ¬ marchC z p1 := fun hh => b15 hh.2.1
      have hz : z = if marchC z p1 then walkZ p1.toInt.toNat z else z := by rw [if_neg hc]
      have hq : past = if marchC z p1 then recP z past gst else past := by rw [if_neg hc]
      have hs : gst = if marchC z p1 then recS gst else gst := by rw [if_neg hc]
      have hv : marchA z p1 (-5) := by unfold marchA; rw [if_pos b5, if_neg (fun hh => b15 hh.1)]
      exact xk_reti (gse, gte) hx hb hr hlocks (xk_P hP (by rw [← hz, ← hq, ← hs])) (by (try dsimp only); exact hv) hS dX8_march_35 hQ
  · have b5 : ¬ (1 ≤ p1.toInt ∧ p1.toInt ≤ 500) := b5
    refine lv_if_ne (tgt := 14) hx hb dX8_march_8 (by decide) (fun c8 => absurd (by decide) c8) (fun _ => ?_)
    refine lv_bipush (v := (-2)) hx hb dX8_march_11 (by decide) ?_
    have hc : ¬ marchC z p1 := fun hh => b5 hh.1
    have hz : z = if marchC z p1 then walkZ p1.toInt.toNat z else z := by rw [if_neg hc]
    have hq : past = if marchC z p1 then recP z past gst else past := by rw [if_neg hc]
    have hs : gst = if marchC z p1 then recS gst else gst := by rw [if_neg hc]
    have hv : marchA z p1 (-2) := by unfold marchA; rw [if_neg b5]
    exact xk_reti (gse, gte) hx hb hr hlocks (xk_P hP (by rw [← hz, ← hq, ← hs])) (by (try dsimp only); exact hv) hS dX8_march_13 hQ

set_option maxHeartbeats 4000000 in
set_option maxRecDepth 100000 in
theorem c_X8_begin (l : Launch) (D : va_G) (cI cZ cS : ClassId) (h h1 h2 h3 h4 h5 h6 h7 h8 : Nat) (gst gty gse gte gsp gtl : Int32) (z past : Nat → Int32)  (hg : 0 ≤ gst.toInt ∧ gst.toInt ≤ 6) : xMi l yX8_begin cX8_begin 2 (some .int) ({ frames := 2, cells := 0, slots := 0, locals := 45 } : Room) D (xTy cI cZ cS) [.ref h] [(h, .inr (8, [.ref h1, .ref h2, .ref h3, .int gst, .ref h4, .ref h5, .ref h6, .int gty, .int gse, .int gte, .int gsp, .ref h7, .ref h8, .int gtl])), (h1, .inl (cI, 190, .inl z)), (h3, .inl (cI, 1140, .inl past))] (fun (r : Int32) (_ : Unit) => r = z 174) (fun (_ : Unit) => [(h, .inr (8, [.ref h1, .ref h2, .ref h3, .int (recS gst), .ref h4, .ref h5, .ref h6, .int gty, .int gse, .int gte, .int gsp, .ref h7, .ref h8, .int gtl])), (h1, .inl (cI, 190, .inl (beginZ z))), (h3, .inl (cI, 1140, .inl (recP z past gst)))]) := by
  refine xk_bodyi (by decide) (Nat.le_of_ble_eq_true rfl) ?_
  intro p e s m below meth c A ls args Q hx hb hr hts hown hlocks hml hin hK hP hD hS hA hN hZ hl hQ
  have hl : lv_has ls 2 [(0, .ref h)] := hl
  refine lv_aload_n hx hb dX8_begin_0 rfl (lv_at hl 0 rfl) ?_
  refine xk_Vv (As := []) (rest := []) hx hb hml hown hts hK hN hZ hP hD hS hA mb_X8_record mw_3_150 mw_3_152 mw_0_6 (c_X8_record l D cI cZ cS h h1 h2 h3 h4 h5 h6 h7 h8 gst gty gse gte gsp gtl z past (by first | omega | decide | assumption)) [0, 1, 2] 0 8 rfl rfl (by decide) rfl (fun _ => by simp only [List.map]) (by decide) (by decide) rfl hl.1 rfl (Nat.le_of_ble_eq_true rfl) dX8_begin_1 ⟨Nat.zero_le _, Nat.zero_le _⟩ (fun _ H locs hw hP hD hS => ?_)
  have hP : va_P D vwCl [(h, .inr (8, [.ref h1, .ref h2, .ref h3, .int (recS gst), .ref h4, .ref h5, .ref h6, .int gty, .int gse, .int gte, .int gsp, .ref h7, .ref h8, .int gtl])), (h1, .inl (cI, 190, .inl z)), (h3, .inl (cI, 1140, .inl (recP z past gst)))] H := hP
  have hD : va_D A [(h, .inr (8, [.ref h1, .ref h2, .ref h3, .int (recS gst), .ref h4, .ref h5, .ref h6, .int gty, .int gse, .int gte, .int gsp, .ref h7, .ref h8, .int gtl])), (h1, .inl (cI, 190, .inl z)), (h3, .inl (cI, 1140, .inl (recP z past gst)))] := hD
  obtain ⟨g1_2, hg1_2⟩ : ∃ g, g = (recP z past gst) := ⟨_, rfl⟩
  rw [← hg1_2] at hP hD
  have hP : va_P D vwCl [(h, .inr (8, [.ref h1, .ref h2, .ref h3, .int (recS gst), .ref h4, .ref h5, .ref h6, .int gty, .int gse, .int gte, .int gsp, .ref h7, .ref h8, .int gtl])), (h1, .inl (cI, 190, .inl z)), (h3, .inl (cI, 1140, .inl g1_2))] H := hP
  have hD : va_D A [(h, .inr (8, [.ref h1, .ref h2, .ref h3, .int (recS gst), .ref h4, .ref h5, .ref h6, .int gty, .int gse, .int gte, .int gsp, .ref h7, .ref h8, .int gtl])), (h1, .inl (cI, 190, .inl z)), (h3, .inl (cI, 1140, .inl g1_2))] := hD
  refine lv_aload_n hx hb dX8_begin_4 rfl (lv_at hl 0 rfl) ?_
  refine va_get (D := D) (ci := 8) (v := .ref h1) (C := RX8) (T := TX8) (N := 14) hx hb hts xin8 hown hK hP 0 rfl rfl 0 (by decide) (hts _ (List.mem_cons_of_mem _ mw_3_89)) (fun _ h9 => h9) rfl dX8_begin_5 ?_
  refine lv_sipush (v := 174) hx hb dX8_begin_8 (by decide) ?_
  refine va_iald hx hb hK hP 1 0 rfl rfl (xi_in (by decide) (by decide)) dX8_begin_11 ?_
  refine xk_top (z := z 174) rfl ?_
  refine lv_istore_n (lv' := [(1, .int (z 174)), (0, .ref h)]) hx hb dX8_begin_12 rfl hl (by decide) rfl (fun ls hl => ?_)
  refine lv_aload_n hx hb dX8_begin_13 rfl (lv_at hl 1 rfl) ?_
  refine xk_Vv (As := []) (rest := []) hx hb hml hown hts hK hN hZ hP hD hS hA mb_X8_beginNow mw_3_85 mw_3_87 mw_0_5 (c_X8_beginNow l D cI cZ cS h h1 h2 h3 h4 h5 h6 h7 h8 (recS gst) gty gse gte gsp gtl z ) [0, 1] 0 8 rfl rfl (by decide) rfl (fun _ => by simp only [List.map]) (by decide) (by decide) rfl hl.1 rfl (Nat.le_of_ble_eq_true rfl) dX8_begin_14 ⟨Nat.zero_le _, Nat.zero_le _⟩ (fun _ H locs hw hP hD hS => ?_)
  have hP : va_P D vwCl [(h, .inr (8, [.ref h1, .ref h2, .ref h3, .int (recS gst), .ref h4, .ref h5, .ref h6, .int gty, .int gse, .int gte, .int gsp, .ref h7, .ref h8, .int gtl])), (h1, .inl (cI, 190, .inl (beginZ z))), (h3, .inl (cI, 1140, .inl g1_2))] H := hP
  have hD : va_D A [(h, .inr (8, [.ref h1, .ref h2, .ref h3, .int (recS gst), .ref h4, .ref h5, .ref h6, .int gty, .int gse, .int gte, .int gsp, .ref h7, .ref h8, .int gtl])), (h1, .inl (cI, 190, .inl (beginZ z))), (h3, .inl (cI, 1140, .inl g1_2))] := hD
  obtain ⟨g14_1, hg14_1⟩ : ∃ g, g = (beginZ z) := ⟨_, rfl⟩
  rw [← hg14_1] at hP hD
  have hP : va_P D vwCl [(h, .inr (8, [.ref h1, .ref h2, .ref h3, .int (recS gst), .ref h4, .ref h5, .ref h6, .int gty, .int gse, .int gte, .int gsp, .ref h7, .ref h8, .int gtl])), (h1, .inl (cI, 190, .inl g14_1)), (h3, .inl (cI, 1140, .inl g1_2))] H := hP
  have hD : va_D A [(h, .inr (8, [.ref h1, .ref h2, .ref h3, .int (recS gst), .ref h4, .ref h5, .ref h6, .int gty, .int gse, .int gte, .int gsp, .ref h7, .ref h8, .int gtl])), (h1, .inl (cI, 190, .inl g14_1)), (h3, .inl (cI, 1140, .inl g1_2))] := hD
  refine lv_iload_n hx hb dX8_begin_17 rfl (lv_at hl 0 rfl) ?_
  have hz : g14_1 = beginZ z := hg14_1
  have hq : g1_2 = recP z past gst := hg1_2
  exact xk_reti () hx hb hr hlocks (xk_P hP (by rw [hz, hq])) (by rfl) hS dX8_begin_18 hQ

set_option maxHeartbeats 4000000 in
set_option maxRecDepth 100000 in
theorem c_X8_isValue (l : Launch) (D : va_G) (cI cZ cS : ClassId) (p0 p1 : Int32)  : xMi l yX8_isValue cX8_isValue 2 (some .boolean) ({ frames := 1, cells := 0, slots := 0, locals := 22 } : Room) D (xTy cI cZ cS) [.int p0, .int p1] [] (fun (r : Int32) (_ : Unit) => ((r = 1 ∧ (setV p0 p1)) ∨ (r = 0 ∧ ¬ (setV p0 p1)))) (fun (_ : Unit) => []) := by
  refine xk_bodyi (by decide) (Nat.le_of_ble_eq_true rfl) ?_
  intro p e s m below meth c A ls args Q hx hb hr hts hown hlocks hml hin hK hP hD hS hA hN hZ hl hQ
  have hl : lv_has ls 2 [(0, .int p0), (1, .int p1)] := hl
  refine lv_iload_n hx hb dX8_isValue_0 rfl (lv_at hl 0 rfl) ?_
  have h1 : p0.toInt < 0 ∨ 5 < p0.toInt ∨ p0.toInt = 0 ∨ p0.toInt = 1 ∨ p0.toInt = 2 ∨ p0.toInt = 3 ∨ p0.toInt = 4 ∨ p0.toInt = 5 := by omega
  rcases h1 with t1 | t1 | t1 | t1 | t1 | t1 | t1 | t1
  · refine lv_tableOut (tgt := 80) hx hb dX8_isValue_1 (by first | exact Or.inl t1 | exact Or.inr t1) (by decide) ?_
    refine lv_iconst (v := 0) hx hb dX8_isValue_80 (by decide) ?_
    exact xk_retz () hx hb hr hlocks (by decide) (xk_P hP (by rfl)) (by first | exact Or.inl ⟨rfl, by simp only [show (0 : Int32).toInt = 0 from by decide, show (1 : Int32).toInt = 1 from by decide, show (2 : Int32).toInt = 2 from by decide, show (5 : Int32).toInt = 5 from by decide, show (9 : Int32).toInt = 9 from by decide, show (20 : Int32).toInt = 20 from by decide, show (60 : Int32).toInt = 60 from by decide] at *; omega⟩ | exact Or.inr ⟨rfl, by simp only [show (0 : Int32).toInt = 0 from by decide, show (1 : Int32).toInt = 1 from by decide, show (2 : Int32).toInt = 2 from by decide, show (5 : Int32).toInt = 5 from by decide, show (9 : Int32).toInt = 9 from by decide, show (20 : Int32).toInt = 20 from by decide, show (60 : Int32).toInt = 60 from by decide] at *; omega⟩) hS dX8_isValue_81 hQ
  · refine lv_tableOut (tgt := 80) hx hb dX8_isValue_1 (by first | exact Or.inl t1 | exact Or.inr t1) (by decide) ?_
    refine lv_iconst (v := 0) hx hb dX8_isValue_80 (by decide) ?_
    exact xk_retz () hx hb hr hlocks (by decide) (xk_P hP (by rfl)) (by first | exact Or.inl ⟨rfl, by simp only [show (0 : Int32).toInt = 0 from by decide, show (1 : Int32).toInt = 1 from by decide, show (2 : Int32).toInt = 2 from by decide, show (5 : Int32).toInt = 5 from by decide, show (9 : Int32).toInt = 9 from by decide, show (20 : Int32).toInt = 20 from by decide, show (60 : Int32).toInt = 60 from by decide] at *; omega⟩ | exact Or.inr ⟨rfl, by simp only [show (0 : Int32).toInt = 0 from by decide, show (1 : Int32).toInt = 1 from by decide, show (2 : Int32).toInt = 2 from by decide, show (5 : Int32).toInt = 5 from by decide, show (9 : Int32).toInt = 9 from by decide, show (20 : Int32).toInt = 20 from by decide, show (60 : Int32).toInt = 60 from by decide] at *; omega⟩) hS dX8_isValue_81 hQ
  · refine lv_tableIn (off := 39) (tgt := 40) hx hb dX8_isValue_1 (by rw [t1]; decide) (by rw [t1]; decide) (by rw [t1]; rfl) (by decide) ?_
    refine lv_iload_n hx hb dX8_isValue_40 rfl (lv_at hl 1 rfl) ?_
    refine lv_iconst (v := 1) hx hb dX8_isValue_41 (by decide) ?_
    refine lv_bipush (v := 9) hx hb dX8_isValue_42 (by decide) ?_
    refine xk_Si (As := [.int p1, .int 1, .int 9]) (rest := []) hx hb hml hown hts hK hN hZ hP hD hS hA mb_X8_in mw_3_143 mw_3_144 (c_X8_in l D cI cZ cS p1 (1 : Int32) (9 : Int32) ) [] (by decide) rfl (fun _ => by simp only [List.map]) (by decide) (by decide) rfl hl.1 rfl (Nat.le_of_ble_eq_true rfl) dX8_isValue_44 ⟨Nat.zero_le _, Nat.zero_le _⟩ (fun r44 _ H locs hw hP hD hS => ?_)
    have hP : va_P D vwCl [] H := hP
    have hD : va_D A [] := hD
    rcases hw with ⟨rfl, b44⟩ | ⟨rfl, b44⟩
    · have b44 : 1 ≤ p1.toInt ∧ p1.toInt ≤ 9 := b44
      exact xk_retz () hx hb hr hlocks (by decide) (xk_P hP (by rfl)) (by first | exact Or.inl ⟨rfl, by simp only [show (0 : Int32).toInt = 0 from by decide, show (1 : Int32).toInt = 1 from by decide, show (2 : Int32).toInt = 2 from by decide, show (5 : Int32).toInt = 5 from by decide, show (9 : Int32).toInt = 9 from by decide, show (20 : Int32).toInt = 20 from by decide, show (60 : Int32).toInt = 60 from by decide] at *; omega⟩ | exact Or.inr ⟨rfl, by simp only [show (0 : Int32).toInt = 0 from by decide, show (1 : Int32).toInt = 1 from by decide, show (2 : Int32).toInt = 2 from by decide, show (5 : Int32).toInt = 5 from by decide, show (9 : Int32).toInt = 9 from by decide, show (20 : Int32).toInt = 20 from by decide, show (60 : Int32).toInt = 60 from by decide] at *; omega⟩) hS dX8_isValue_47 hQ
    · have b44 : ¬ (1 ≤ p1.toInt ∧ p1.toInt ≤ 9) := b44
      exact xk_retz () hx hb hr hlocks (by decide) (xk_P hP (by rfl)) (by first | exact Or.inl ⟨rfl, by simp only [show (0 : Int32).toInt = 0 from by decide, show (1 : Int32).toInt = 1 from by decide, show (2 : Int32).toInt = 2 from by decide, show (5 : Int32).toInt = 5 from by decide, show (9 : Int32).toInt = 9 from by decide, show (20 : Int32).toInt = 20 from by decide, show (60 : Int32).toInt = 60 from by decide] at *; omega⟩ | exact Or.inr ⟨rfl, by simp only [show (0 : Int32).toInt = 0 from by decide, show (1 : Int32).toInt = 1 from by decide, show (2 : Int32).toInt = 2 from by decide, show (5 : Int32).toInt = 5 from by decide, show (9 : Int32).toInt = 9 from by decide, show (20 : Int32).toInt = 20 from by decide, show (60 : Int32).toInt = 60 from by decide] at *; omega⟩) hS dX8_isValue_47 hQ
  · refine lv_tableIn (off := 47) (tgt := 48) hx hb dX8_isValue_1 (by rw [t1]; decide) (by rw [t1]; decide) (by rw [t1]; rfl) (by decide) ?_
    refine lv_iload_n hx hb dX8_isValue_48 rfl (lv_at hl 1 rfl) ?_
    refine lv_iconst (v := 0) hx hb dX8_isValue_49 (by decide) ?_
    refine lv_bipush (v := 9) hx hb dX8_isValue_50 (by decide) ?_
    refine xk_Si (As := [.int p1, .int 0, .int 9]) (rest := []) hx hb hml hown hts hK hN hZ hP hD hS hA mb_X8_in mw_3_143 mw_3_144 (c_X8_in l D cI cZ cS p1 (0 : Int32) (9 : Int32) ) [] (by decide) rfl (fun _ => by simp only [List.map]) (by decide) (by decide) rfl hl.1 rfl (Nat.le_of_ble_eq_true rfl) dX8_isValue_52 ⟨Nat.zero_le _, Nat.zero_le _⟩ (fun r52 _ H locs hw hP hD hS => ?_)
    have hP : va_P D vwCl [] H := hP
    have hD : va_D A [] := hD
    rcases hw with ⟨rfl, b52⟩ | ⟨rfl, b52⟩
    · have b52 : 0 ≤ p1.toInt ∧ p1.toInt ≤ 9 := b52
      exact xk_retz () hx hb hr hlocks (by decide) (xk_P hP (by rfl)) (by first | exact Or.inl ⟨rfl, by simp only [show (0 : Int32).toInt = 0 from by decide, show (1 : Int32).toInt = 1 from by decide, show (2 : Int32).toInt = 2 from by decide, show (5 : Int32).toInt = 5 from by decide, show (9 : Int32).toInt = 9 from by decide, show (20 : Int32).toInt = 20 from by decide, show (60 : Int32).toInt = 60 from by decide] at *; omega⟩ | exact Or.inr ⟨rfl, by simp only [show (0 : Int32).toInt = 0 from by decide, show (1 : Int32).toInt = 1 from by decide, show (2 : Int32).toInt = 2 from by decide, show (5 : Int32).toInt = 5 from by decide, show (9 : Int32).toInt = 9 from by decide, show (20 : Int32).toInt = 20 from by decide, show (60 : Int32).toInt = 60 from by decide] at *; omega⟩) hS dX8_isValue_55 hQ
    · have b52 : ¬ (0 ≤ p1.toInt ∧ p1.toInt ≤ 9) := b52
      exact xk_retz () hx hb hr hlocks (by decide) (xk_P hP (by rfl)) (by first | exact Or.inl ⟨rfl, by simp only [show (0 : Int32).toInt = 0 from by decide, show (1 : Int32).toInt = 1 from by decide, show (2 : Int32).toInt = 2 from by decide, show (5 : Int32).toInt = 5 from by decide, show (9 : Int32).toInt = 9 from by decide, show (20 : Int32).toInt = 20 from by decide, show (60 : Int32).toInt = 60 from by decide] at *; omega⟩ | exact Or.inr ⟨rfl, by simp only [show (0 : Int32).toInt = 0 from by decide, show (1 : Int32).toInt = 1 from by decide, show (2 : Int32).toInt = 2 from by decide, show (5 : Int32).toInt = 5 from by decide, show (9 : Int32).toInt = 9 from by decide, show (20 : Int32).toInt = 20 from by decide, show (60 : Int32).toInt = 60 from by decide] at *; omega⟩) hS dX8_isValue_55 hQ
  · refine lv_tableIn (off := 39) (tgt := 40) hx hb dX8_isValue_1 (by rw [t1]; decide) (by rw [t1]; decide) (by rw [t1]; rfl) (by decide) ?_
    refine lv_iload_n hx hb dX8_isValue_40 rfl (lv_at hl 1 rfl) ?_
    refine lv_iconst (v := 1) hx hb dX8_isValue_41 (by decide) ?_
    refine lv_bipush (v := 9) hx hb dX8_isValue_42 (by decide) ?_
    refine xk_Si (As := [.int p1, .int 1, .int 9]) (rest := []) hx hb hml hown hts hK hN hZ hP hD hS hA mb_X8_in mw_3_143 mw_3_144 (c_X8_in l D cI cZ cS p1 (1 : Int32) (9 : Int32) ) [] (by decide) rfl (fun _ => by simp only [List.map]) (by decide) (by decide) rfl hl.1 rfl (Nat.le_of_ble_eq_true rfl) dX8_isValue_44 ⟨Nat.zero_le _, Nat.zero_le _⟩ (fun r44 _ H locs hw hP hD hS => ?_)
    have hP : va_P D vwCl [] H := hP
    have hD : va_D A [] := hD
    rcases hw with ⟨rfl, b44⟩ | ⟨rfl, b44⟩
    · have b44 : 1 ≤ p1.toInt ∧ p1.toInt ≤ 9 := b44
      exact xk_retz () hx hb hr hlocks (by decide) (xk_P hP (by rfl)) (by first | exact Or.inl ⟨rfl, by simp only [show (0 : Int32).toInt = 0 from by decide, show (1 : Int32).toInt = 1 from by decide, show (2 : Int32).toInt = 2 from by decide, show (5 : Int32).toInt = 5 from by decide, show (9 : Int32).toInt = 9 from by decide, show (20 : Int32).toInt = 20 from by decide, show (60 : Int32).toInt = 60 from by decide] at *; omega⟩ | exact Or.inr ⟨rfl, by simp only [show (0 : Int32).toInt = 0 from by decide, show (1 : Int32).toInt = 1 from by decide, show (2 : Int32).toInt = 2 from by decide, show (5 : Int32).toInt = 5 from by decide, show (9 : Int32).toInt = 9 from by decide, show (20 : Int32).toInt = 20 from by decide, show (60 : Int32).toInt = 60 from by decide] at *; omega⟩) hS dX8_isValue_47 hQ
    · have b44 : ¬ (1 ≤ p1.toInt ∧ p1.toInt ≤ 9) := b44
      exact xk_retz () hx hb hr hlocks (by decide) (xk_P hP (by rfl)) (by first | exact Or.inl ⟨rfl, by simp only [show (0 : Int32).toInt = 0 from by decide, show (1 : Int32).toInt = 1 from by decide, show (2 : Int32).toInt = 2 from by decide, show (5 : Int32).toInt = 5 from by decide, show (9 : Int32).toInt = 9 from by decide, show (20 : Int32).toInt = 20 from by decide, show (60 : Int32).toInt = 60 from by decide] at *; omega⟩ | exact Or.inr ⟨rfl, by simp only [show (0 : Int32).toInt = 0 from by decide, show (1 : Int32).toInt = 1 from by decide, show (2 : Int32).toInt = 2 from by decide, show (5 : Int32).toInt = 5 from by decide, show (9 : Int32).toInt = 9 from by decide, show (20 : Int32).toInt = 20 from by decide, show (60 : Int32).toInt = 60 from by decide] at *; omega⟩) hS dX8_isValue_47 hQ
  · refine lv_tableIn (off := 55) (tgt := 56) hx hb dX8_isValue_1 (by rw [t1]; decide) (by rw [t1]; decide) (by rw [t1]; rfl) (by decide) ?_
    refine lv_iload_n hx hb dX8_isValue_56 rfl (lv_at hl 1 rfl) ?_
    refine lv_iconst (v := 1) hx hb dX8_isValue_57 (by decide) ?_
    refine lv_bipush (v := 20) hx hb dX8_isValue_58 (by decide) ?_
    refine xk_Si (As := [.int p1, .int 1, .int 20]) (rest := []) hx hb hml hown hts hK hN hZ hP hD hS hA mb_X8_in mw_3_143 mw_3_144 (c_X8_in l D cI cZ cS p1 (1 : Int32) (20 : Int32) ) [] (by decide) rfl (fun _ => by simp only [List.map]) (by decide) (by decide) rfl hl.1 rfl (Nat.le_of_ble_eq_true rfl) dX8_isValue_60 ⟨Nat.zero_le _, Nat.zero_le _⟩ (fun r60 _ H locs hw hP hD hS => ?_)
    have hP : va_P D vwCl [] H := hP
    have hD : va_D A [] := hD
    rcases hw with ⟨rfl, b60⟩ | ⟨rfl, b60⟩
    · have b60 : 1 ≤ p1.toInt ∧ p1.toInt ≤ 20 := b60
      exact xk_retz () hx hb hr hlocks (by decide) (xk_P hP (by rfl)) (by first | exact Or.inl ⟨rfl, by simp only [show (0 : Int32).toInt = 0 from by decide, show (1 : Int32).toInt = 1 from by decide, show (2 : Int32).toInt = 2 from by decide, show (5 : Int32).toInt = 5 from by decide, show (9 : Int32).toInt = 9 from by decide, show (20 : Int32).toInt = 20 from by decide, show (60 : Int32).toInt = 60 from by decide] at *; omega⟩ | exact Or.inr ⟨rfl, by simp only [show (0 : Int32).toInt = 0 from by decide, show (1 : Int32).toInt = 1 from by decide, show (2 : Int32).toInt = 2 from by decide, show (5 : Int32).toInt = 5 from by decide, show (9 : Int32).toInt = 9 from by decide, show (20 : Int32).toInt = 20 from by decide, show (60 : Int32).toInt = 60 from by decide] at *; omega⟩) hS dX8_isValue_63 hQ
    · have b60 : ¬ (1 ≤ p1.toInt ∧ p1.toInt ≤ 20) := b60
      exact xk_retz () hx hb hr hlocks (by decide) (xk_P hP (by rfl)) (by first | exact Or.inl ⟨rfl, by simp only [show (0 : Int32).toInt = 0 from by decide, show (1 : Int32).toInt = 1 from by decide, show (2 : Int32).toInt = 2 from by decide, show (5 : Int32).toInt = 5 from by decide, show (9 : Int32).toInt = 9 from by decide, show (20 : Int32).toInt = 20 from by decide, show (60 : Int32).toInt = 60 from by decide] at *; omega⟩ | exact Or.inr ⟨rfl, by simp only [show (0 : Int32).toInt = 0 from by decide, show (1 : Int32).toInt = 1 from by decide, show (2 : Int32).toInt = 2 from by decide, show (5 : Int32).toInt = 5 from by decide, show (9 : Int32).toInt = 9 from by decide, show (20 : Int32).toInt = 20 from by decide, show (60 : Int32).toInt = 60 from by decide] at *; omega⟩) hS dX8_isValue_63 hQ
  · refine lv_tableIn (off := 63) (tgt := 64) hx hb dX8_isValue_1 (by rw [t1]; decide) (by rw [t1]; decide) (by rw [t1]; rfl) (by decide) ?_
    refine lv_iload_n hx hb dX8_isValue_64 rfl (lv_at hl 1 rfl) ?_
    refine lv_iconst (v := 5) hx hb dX8_isValue_65 (by decide) ?_
    refine lv_bipush (v := 60) hx hb dX8_isValue_66 (by decide) ?_
    refine xk_Si (As := [.int p1, .int 5, .int 60]) (rest := []) hx hb hml hown hts hK hN hZ hP hD hS hA mb_X8_in mw_3_143 mw_3_144 (c_X8_in l D cI cZ cS p1 (5 : Int32) (60 : Int32) ) [] (by decide) rfl (fun _ => by simp only [List.map]) (by decide) (by decide) rfl hl.1 rfl (Nat.le_of_ble_eq_true rfl) dX8_isValue_68 ⟨Nat.zero_le _, Nat.zero_le _⟩ (fun r68 _ H locs hw hP hD hS => ?_)
    have hP : va_P D vwCl [] H := hP
    have hD : va_D A [] := hD
    rcases hw with ⟨rfl, b68⟩ | ⟨rfl, b68⟩
    · have b68 : 5 ≤ p1.toInt ∧ p1.toInt ≤ 60 := b68
      exact xk_retz () hx hb hr hlocks (by decide) (xk_P hP (by rfl)) (by first | exact Or.inl ⟨rfl, by simp only [show (0 : Int32).toInt = 0 from by decide, show (1 : Int32).toInt = 1 from by decide, show (2 : Int32).toInt = 2 from by decide, show (5 : Int32).toInt = 5 from by decide, show (9 : Int32).toInt = 9 from by decide, show (20 : Int32).toInt = 20 from by decide, show (60 : Int32).toInt = 60 from by decide] at *; omega⟩ | exact Or.inr ⟨rfl, by simp only [show (0 : Int32).toInt = 0 from by decide, show (1 : Int32).toInt = 1 from by decide, show (2 : Int32).toInt = 2 from by decide, show (5 : Int32).toInt = 5 from by decide, show (9 : Int32).toInt = 9 from by decide, show (20 : Int32).toInt = 20 from by decide, show (60 : Int32).toInt = 60 from by decide] at *; omega⟩) hS dX8_isValue_71 hQ
    · have b68 : ¬ (5 ≤ p1.toInt ∧ p1.toInt ≤ 60) := b68
      exact xk_retz () hx hb hr hlocks (by decide) (xk_P hP (by rfl)) (by first | exact Or.inl ⟨rfl, by simp only [show (0 : Int32).toInt = 0 from by decide, show (1 : Int32).toInt = 1 from by decide, show (2 : Int32).toInt = 2 from by decide, show (5 : Int32).toInt = 5 from by decide, show (9 : Int32).toInt = 9 from by decide, show (20 : Int32).toInt = 20 from by decide, show (60 : Int32).toInt = 60 from by decide] at *; omega⟩ | exact Or.inr ⟨rfl, by simp only [show (0 : Int32).toInt = 0 from by decide, show (1 : Int32).toInt = 1 from by decide, show (2 : Int32).toInt = 2 from by decide, show (5 : Int32).toInt = 5 from by decide, show (9 : Int32).toInt = 9 from by decide, show (20 : Int32).toInt = 20 from by decide, show (60 : Int32).toInt = 60 from by decide] at *; omega⟩) hS dX8_isValue_71 hQ
  · refine lv_tableIn (off := 71) (tgt := 72) hx hb dX8_isValue_1 (by rw [t1]; decide) (by rw [t1]; decide) (by rw [t1]; rfl) (by decide) ?_
    refine lv_iload_n hx hb dX8_isValue_72 rfl (lv_at hl 1 rfl) ?_
    refine lv_iconst (v := 2) hx hb dX8_isValue_73 (by decide) ?_
    refine lv_bipush (v := 9) hx hb dX8_isValue_74 (by decide) ?_
    refine xk_Si (As := [.int p1, .int 2, .int 9]) (rest := []) hx hb hml hown hts hK hN hZ hP hD hS hA mb_X8_in mw_3_143 mw_3_144 (c_X8_in l D cI cZ cS p1 (2 : Int32) (9 : Int32) ) [] (by decide) rfl (fun _ => by simp only [List.map]) (by decide) (by decide) rfl hl.1 rfl (Nat.le_of_ble_eq_true rfl) dX8_isValue_76 ⟨Nat.zero_le _, Nat.zero_le _⟩ (fun r76 _ H locs hw hP hD hS => ?_)
    have hP : va_P D vwCl [] H := hP
    have hD : va_D A [] := hD
    rcases hw with ⟨rfl, b76⟩ | ⟨rfl, b76⟩
    · have b76 : 2 ≤ p1.toInt ∧ p1.toInt ≤ 9 := b76
      exact xk_retz () hx hb hr hlocks (by decide) (xk_P hP (by rfl)) (by first | exact Or.inl ⟨rfl, by simp only [show (0 : Int32).toInt = 0 from by decide, show (1 : Int32).toInt = 1 from by decide, show (2 : Int32).toInt = 2 from by decide, show (5 : Int32).toInt = 5 from by decide, show (9 : Int32).toInt = 9 from by decide, show (20 : Int32).toInt = 20 from by decide, show (60 : Int32).toInt = 60 from by decide] at *; omega⟩ | exact Or.inr ⟨rfl, by simp only [show (0 : Int32).toInt = 0 from by decide, show (1 : Int32).toInt = 1 from by decide, show (2 : Int32).toInt = 2 from by decide, show (5 : Int32).toInt = 5 from by decide, show (9 : Int32).toInt = 9 from by decide, show (20 : Int32).toInt = 20 from by decide, show (60 : Int32).toInt = 60 from by decide] at *; omega⟩) hS dX8_isValue_79 hQ
    · have b76 : ¬ (2 ≤ p1.toInt ∧ p1.toInt ≤ 9) := b76
      exact xk_retz () hx hb hr hlocks (by decide) (xk_P hP (by rfl)) (by first | exact Or.inl ⟨rfl, by simp only [show (0 : Int32).toInt = 0 from by decide, show (1 : Int32).toInt = 1 from by decide, show (2 : Int32).toInt = 2 from by decide, show (5 : Int32).toInt = 5 from by decide, show (9 : Int32).toInt = 9 from by decide, show (20 : Int32).toInt = 20 from by decide, show (60 : Int32).toInt = 60 from by decide] at *; omega⟩ | exact Or.inr ⟨rfl, by simp only [show (0 : Int32).toInt = 0 from by decide, show (1 : Int32).toInt = 1 from by decide, show (2 : Int32).toInt = 2 from by decide, show (5 : Int32).toInt = 5 from by decide, show (9 : Int32).toInt = 9 from by decide, show (20 : Int32).toInt = 20 from by decide, show (60 : Int32).toInt = 60 from by decide] at *; omega⟩) hS dX8_isValue_79 hQ

set_option maxHeartbeats 4000000 in
set_option maxRecDepth 100000 in
theorem c_X8_set (l : Launch) (D : va_G) (cI cZ cS : ClassId) (h h1 h2 h3 h4 h5 h6 h7 h8 : Nat) (gst gty gse gte gsp gtl : Int32) (z past : Nat → Int32) (p1 p2 : Int32) (hg : 0 ≤ gst.toInt ∧ gst.toInt ≤ 6) : xMi l yX8_set cX8_set 4 (some .int) ({ frames := 2, cells := 0, slots := 0, locals := 45 } : Room) D (xTy cI cZ cS) [.ref h, .int p1, .int p2] [(h, .inr (8, [.ref h1, .ref h2, .ref h3, .int gst, .ref h4, .ref h5, .ref h6, .int gty, .int gse, .int gte, .int gsp, .ref h7, .ref h8, .int gtl])), (h1, .inl (cI, 190, .inl z)), (h3, .inl (cI, 1140, .inl past))] (fun (r : Int32) (_ : Unit) => r = if setV p1 p2 then z p1.toInt.toNat else -2) (fun (_ : Unit) => [(h, .inr (8, [.ref h1, .ref h2, .ref h3, .int (if setV p1 p2 then recS gst else gst), .ref h4, .ref h5, .ref h6, .int gty, .int gse, .int gte, .int gsp, .ref h7, .ref h8, .int gtl])), (h1, .inl (cI, 190, .inl (if setV p1 p2 then beginZ (upd z p1.toInt.toNat p2) else z))), (h3, .inl (cI, 1140, .inl (if setV p1 p2 then recP z past gst else past)))]) := by
  refine xk_bodyi (by decide) (Nat.le_of_ble_eq_true rfl) ?_
  intro p e s m below meth c A ls args Q hx hb hr hts hown hlocks hml hin hK hP hD hS hA hN hZ hl hQ
  have hl : lv_has ls 4 [(0, .ref h), (1, .int p1), (2, .int p2)] := hl
  refine lv_iload_n hx hb dX8_set_0 rfl (lv_at hl 1 rfl) ?_
  refine lv_iload_n hx hb dX8_set_1 rfl (lv_at hl 2 rfl) ?_
  refine xk_Si (As := [.int p1, .int p2]) (rest := []) hx hb hml hown hts hK hN hZ hP hD hS hA mb_X8_isValue mw_3_202 mw_3_203 (c_X8_isValue l D cI cZ cS p1 p2 ) [] (by decide) rfl (fun _ => by simp only [List.map]) (by decide) (by decide) rfl hl.1 rfl (Nat.le_of_ble_eq_true rfl) dX8_set_2 ⟨Nat.zero_le _, Nat.zero_le _⟩ (fun r2 _ H locs hw hP hD hS => ?_)
  have hP : va_P D vwCl [(h, .inr (8, [.ref h1, .ref h2, .ref h3, .int gst, .ref h4, .ref h5, .ref h6, .int gty, .int gse, .int gte, .int gsp, .ref h7, .ref h8, .int gtl])), (h1, .inl (cI, 190, .inl z)), (h3, .inl (cI, 1140, .inl past))] H := hP
  have hD : va_D A [(h, .inr (8, [.ref h1, .ref h2, .ref h3, .int gst, .ref h4, .ref h5, .ref h6, .int gty, .int gse, .int gte, .int gsp, .ref h7, .ref h8, .int gtl])), (h1, .inl (cI, 190, .inl z)), (h3, .inl (cI, 1140, .inl past))] := hD
  rcases hw with ⟨rfl, b2⟩ | ⟨rfl, b2⟩
  · have b2 : setV p1 p2 := b2
    refine lv_if_ne (tgt := 11) hx hb dX8_set_5 (by decide) (fun _ => ?_) (fun c5 => absurd c5 (by decide))
    refine lv_aload_n hx hb dX8_set_11 rfl (lv_at hl 0 rfl) ?_
    refine xk_Vv (As := []) (rest := []) hx hb hml hown hts hK hN hZ hP hD hS hA mb_X8_record mw_3_150 mw_3_152 mw_0_6 (c_X8_record l D cI cZ cS h h1 h2 h3 h4 h5 h6 h7 h8 gst gty gse gte gsp gtl z past (by first | omega | decide | assumption)) [0, 1, 2] 0 8 rfl rfl (by decide) rfl (fun _ => by simp only [List.map]) (by decide) (by decide) rfl hl.1 rfl (Nat.le_of_ble_eq_true rfl) dX8_set_12 ⟨Nat.zero_le _, Nat.zero_le _⟩ (fun _ H locs hw hP hD hS => ?_)
    have hP : va_P D vwCl [(h, .inr (8, [.ref h1, .ref h2, .ref h3, .int (recS gst), .ref h4, .ref h5, .ref h6, .int gty, .int gse, .int gte, .int gsp, .ref h7, .ref h8, .int gtl])), (h1, .inl (cI, 190, .inl z)), (h3, .inl (cI, 1140, .inl (recP z past gst)))] H := hP
    have hD : va_D A [(h, .inr (8, [.ref h1, .ref h2, .ref h3, .int (recS gst), .ref h4, .ref h5, .ref h6, .int gty, .int gse, .int gte, .int gsp, .ref h7, .ref h8, .int gtl])), (h1, .inl (cI, 190, .inl z)), (h3, .inl (cI, 1140, .inl (recP z past gst)))] := hD
    obtain ⟨g12_2, hg12_2⟩ : ∃ g, g = (recP z past gst) := ⟨_, rfl⟩
    rw [← hg12_2] at hP hD
    have hP : va_P D vwCl [(h, .inr (8, [.ref h1, .ref h2, .ref h3, .int (recS gst), .ref h4, .ref h5, .ref h6, .int gty, .int gse, .int gte, .int gsp, .ref h7, .ref h8, .int gtl])), (h1, .inl (cI, 190, .inl z)), (h3, .inl (cI, 1140, .inl g12_2))] H := hP
    have hD : va_D A [(h, .inr (8, [.ref h1, .ref h2, .ref h3, .int (recS gst), .ref h4, .ref h5, .ref h6, .int gty, .int gse, .int gte, .int gsp, .ref h7, .ref h8, .int gtl])), (h1, .inl (cI, 190, .inl z)), (h3, .inl (cI, 1140, .inl g12_2))] := hD
    refine lv_aload_n hx hb dX8_set_15 rfl (lv_at hl 0 rfl) ?_
    refine va_get (D := D) (ci := 8) (v := .ref h1) (C := RX8) (T := TX8) (N := 14) hx hb hts xin8 hown hK hP 0 rfl rfl 0 (by decide) (hts _ (List.mem_cons_of_mem _ mw_3_89)) (fun _ h9 => h9) rfl dX8_set_16 ?_
    refine lv_iload_n hx hb dX8_set_19 rfl (lv_at hl 1 rfl) ?_
    refine va_iald hx hb hK hP 1 0 rfl rfl (xi_in (by omega) (by omega)) dX8_set_20 ?_
    refine xk_top (z := z p1.toInt.toNat) rfl ?_
    refine lv_topi (fun x20 e20 => ?_)
    refine lv_istore_n (lv' := [(3, .int x20), (0, .ref h), (1, .int p1), (2, .int p2)]) hx hb dX8_set_21 rfl hl (by decide) rfl (fun ls hl => ?_)
    refine lv_aload_n hx hb dX8_set_22 rfl (lv_at hl 1 rfl) ?_
    refine va_get (D := D) (ci := 8) (v := .ref h1) (C := RX8) (T := TX8) (N := 14) hx hb hts xin8 hown hK hP 0 rfl rfl 0 (by decide) (hts _ (List.mem_cons_of_mem _ mw_3_89)) (fun _ h9 => h9) rfl dX8_set_23 ?_
    refine lv_iload_n hx hb dX8_set_26 rfl (lv_at hl 2 rfl) ?_
    refine lv_iload_n hx hb dX8_set_27 rfl (lv_at hl 3 rfl) ?_
    refine va_iast hx hb hK hP hD hS 1 0 rfl rfl (xi_in (by omega) (by omega)) dX8_set_28 (fun H locs hP hD hS => ?_)
    have hP : va_P D vwCl [(h, .inr (8, [.ref h1, .ref h2, .ref h3, .int (recS gst), .ref h4, .ref h5, .ref h6, .int gty, .int gse, .int gte, .int gsp, .ref h7, .ref h8, .int gtl])), (h1, .inl (cI, 190, .inl (upd z p1.toInt.toNat p2))), (h3, .inl (cI, 1140, .inl g12_2))] H := hP
    have hD : va_D A [(h, .inr (8, [.ref h1, .ref h2, .ref h3, .int (recS gst), .ref h4, .ref h5, .ref h6, .int gty, .int gse, .int gte, .int gsp, .ref h7, .ref h8, .int gtl])), (h1, .inl (cI, 190, .inl (upd z p1.toInt.toNat p2))), (h3, .inl (cI, 1140, .inl g12_2))] := hD
    refine lv_aload_n hx hb dX8_set_29 rfl (lv_at hl 1 rfl) ?_
    refine xk_Vv (As := []) (rest := []) hx hb hml hown hts hK hN hZ hP hD hS hA mb_X8_beginNow mw_3_85 mw_3_87 mw_0_5 (c_X8_beginNow l D cI cZ cS h h1 h2 h3 h4 h5 h6 h7 h8 (recS gst) gty gse gte gsp gtl (upd z p1.toInt.toNat p2) ) [0, 1] 0 8 rfl rfl (by decide) rfl (fun _ => by simp only [List.map]) (by decide) (by decide) rfl hl.1 rfl (Nat.le_of_ble_eq_true rfl) dX8_set_30 ⟨Nat.zero_le _, Nat.zero_le _⟩ (fun _ H locs hw hP hD hS => ?_)
    have hP : va_P D vwCl [(h, .inr (8, [.ref h1, .ref h2, .ref h3, .int (recS gst), .ref h4, .ref h5, .ref h6, .int gty, .int gse, .int gte, .int gsp, .ref h7, .ref h8, .int gtl])), (h1, .inl (cI, 190, .inl (beginZ (upd z p1.toInt.toNat p2)))), (h3, .inl (cI, 1140, .inl g12_2))] H := hP
    have hD : va_D A [(h, .inr (8, [.ref h1, .ref h2, .ref h3, .int (recS gst), .ref h4, .ref h5, .ref h6, .int gty, .int gse, .int gte, .int gsp, .ref h7, .ref h8, .int gtl])), (h1, .inl (cI, 190, .inl (beginZ (upd z p1.toInt.toNat p2)))), (h3, .inl (cI, 1140, .inl g12_2))] := hD
    obtain ⟨g30_1, hg30_1⟩ : ∃ g, g = (beginZ (upd z p1.toInt.toNat p2)) := ⟨_, rfl⟩
    rw [← hg30_1] at hP hD
    have hP : va_P D vwCl [(h, .inr (8, [.ref h1, .ref h2, .ref h3, .int (recS gst), .ref h4, .ref h5, .ref h6, .int gty, .int gse, .int gte, .int gsp, .ref h7, .ref h8, .int gtl])), (h1, .inl (cI, 190, .inl g30_1)), (h3, .inl (cI, 1140, .inl g12_2))] H := hP
    have hD : va_D A [(h, .inr (8, [.ref h1, .ref h2, .ref h3, .int (recS gst), .ref h4, .ref h5, .ref h6, .int gty, .int gse, .int gte, .int gsp, .ref h7, .ref h8, .int gtl])), (h1, .inl (cI, 190, .inl g30_1)), (h3, .inl (cI, 1140, .inl g12_2))] := hD
    refine lv_iload_n hx hb dX8_set_33 rfl (lv_at hl 0 rfl) ?_
    have hz : g30_1 = if setV p1 p2 then beginZ (upd z p1.toInt.toNat p2) else z := by rw [hg30_1, if_pos b2]
    have hq : g12_2 = if setV p1 p2 then recP z past gst else past := by rw [hg12_2, if_pos b2]
    have hs : (recS gst) = if setV p1 p2 then recS gst else gst := by rw [if_pos b2]
    have hv : x20 = if setV p1 p2 then z p1.toInt.toNat else -2 := by rw [if_pos b2, e20]
    exact xk_reti () hx hb hr hlocks (xk_P hP (by rw [← hz, ← hq, ← hs])) (by exact hv) hS dX8_set_34 hQ
  · have b2 : ¬ (setV p1 p2) := b2
    refine lv_if_ne (tgt := 11) hx hb dX8_set_5 (by decide) (fun c5 => absurd (by decide) c5) (fun _ => ?_)
    refine lv_bipush (v := (-2)) hx hb dX8_set_8 (by decide) ?_
    have hz : z = if setV p1 p2 then beginZ (upd z p1.toInt.toNat p2) else z := by rw [if_neg b2]
    have hq : past = if setV p1 p2 then recP z past gst else past := by rw [if_neg b2]
    have hs : gst = if setV p1 p2 then recS gst else gst := by rw [if_neg b2]
    have hv : -2 = if setV p1 p2 then z p1.toInt.toNat else -2 := by rw [if_neg b2]
    exact xk_reti () hx hb hr hlocks (xk_P hP (by rw [← hz, ← hq, ← hs])) (by exact hv) hS dX8_set_10 hQ

set_option maxHeartbeats 4000000 in
set_option maxRecDepth 100000 in
theorem c_X8_pave (l : Launch) (D : va_G) (cI cZ cS : ClassId) (h h1 h2 h3 h4 h5 h6 h7 h8 : Nat) (gst gty gse gte gsp gtl : Int32) (z past : Nat → Int32) (p1 p2 p3 : Int32) (hg : 0 ≤ gst.toInt ∧ gst.toInt ≤ 6) (hz7 : 0 ≤ (z 7).toInt ∧ (z 7).toInt ≤ 12) (hp3 : p3 = 0 ∨ p3 = 1) : xMi l yX8_pave cX8_pave 5 (some .int) ({ frames := 2, cells := 0, slots := 0, locals := 45 } : Room) D (xTy cI cZ cS) [.ref h, .int p1, .int p2, .int p3] [(h, .inr (8, [.ref h1, .ref h2, .ref h3, .int gst, .ref h4, .ref h5, .ref h6, .int gty, .int gse, .int gte, .int gsp, .ref h7, .ref h8, .int gtl])), (h1, .inl (cI, 190, .inl z)), (h3, .inl (cI, 1140, .inl past))] (fun (r : Int32) (_ : Unit) => r = paveR z p1 p2) (fun (_ : Unit) => [(h, .inr (8, [.ref h1, .ref h2, .ref h3, .int (if paveC z p1 p2 then recS gst else gst), .ref h4, .ref h5, .ref h6, .int gty, .int gse, .int gte, .int gsp, .ref h7, .ref h8, .int gtl])), (h1, .inl (cI, 190, .inl (if paveC z p1 p2 then paveZ z p1 p2 p3 else z))), (h3, .inl (cI, 1140, .inl (if paveC z p1 p2 then recP z past gst else past)))]) := by
  refine xk_bodyi (by decide) (Nat.le_of_ble_eq_true rfl) ?_
  intro p e s m below meth c A ls args Q hx hb hr hts hown hlocks hml hin hK hP hD hS hA hN hZ hl hQ
  have hl : lv_has ls 5 [(0, .ref h), (1, .int p1), (2, .int p2), (3, .int p3)] := hl
  refine lv_iload_n hx hb dX8_pave_0 rfl (lv_at hl 1 rfl) ?_
  refine lv_iconst (v := 1) hx hb dX8_pave_1 (by decide) ?_
  refine lv_bipush (v := 99) hx hb dX8_pave_2 (by decide) ?_
  refine xk_Si (As := [.int p1, .int 1, .int 99]) (rest := []) hx hb hml hown hts hK hN hZ hP hD hS hA mb_X8_in mw_3_143 mw_3_144 (c_X8_in l D cI cZ cS p1 (1 : Int32) (99 : Int32) ) [] (by decide) rfl (fun _ => by simp only [List.map]) (by decide) (by decide) rfl hl.1 rfl (Nat.le_of_ble_eq_true rfl) dX8_pave_4 ⟨Nat.zero_le _, Nat.zero_le _⟩ (fun r4 _ H locs hw hP hD hS => ?_)
  have hP : va_P D vwCl [(h, .inr (8, [.ref h1, .ref h2, .ref h3, .int gst, .ref h4, .ref h5, .ref h6, .int gty, .int gse, .int gte, .int gsp, .ref h7, .ref h8, .int gtl])), (h1, .inl (cI, 190, .inl z)), (h3, .inl (cI, 1140, .inl past))] H := hP
  have hD : va_D A [(h, .inr (8, [.ref h1, .ref h2, .ref h3, .int gst, .ref h4, .ref h5, .ref h6, .int gty, .int gse, .int gte, .int gsp, .ref h7, .ref h8, .int gtl])), (h1, .inl (cI, 190, .inl z)), (h3, .inl (cI, 1140, .inl past))] := hD
  rcases hw with ⟨rfl, b4⟩ | ⟨rfl, b4⟩
  · have b4 : 1 ≤ p1.toInt ∧ p1.toInt ≤ 99 := b4
    refine lv_if_eq (tgt := 20) hx hb dX8_pave_7 (by decide) (fun c7 => absurd c7 (by decide)) (fun _ => ?_)
    refine lv_iload_n hx hb dX8_pave_10 rfl (lv_at hl 2 rfl) ?_
    refine lv_bipush (v := (-3)) hx hb dX8_pave_11 (by decide) ?_
    refine lv_iconst (v := 3) hx hb dX8_pave_13 (by decide) ?_
    refine xk_Si (As := [.int p2, .int (-3), .int 3]) (rest := []) hx hb hml hown hts hK hN hZ hP hD hS hA mb_X8_in mw_3_143 mw_3_144 (c_X8_in l D cI cZ cS p2 (-3 : Int32) (3 : Int32) ) [] (by decide) rfl (fun _ => by simp only [List.map]) (by decide) (by decide) rfl hl.1 rfl (Nat.le_of_ble_eq_true rfl) dX8_pave_14 ⟨Nat.zero_le _, Nat.zero_le _⟩ (fun r14 _ H locs hw hP hD hS => ?_)
    have hP : va_P D vwCl [(h, .inr (8, [.ref h1, .ref h2, .ref h3, .int gst, .ref h4, .ref h5, .ref h6, .int gty, .int gse, .int gte, .int gsp, .ref h7, .ref h8, .int gtl])), (h1, .inl (cI, 190, .inl z)), (h3, .inl (cI, 1140, .inl past))] H := hP
    have hD : va_D A [(h, .inr (8, [.ref h1, .ref h2, .ref h3, .int gst, .ref h4, .ref h5, .ref h6, .int gty, .int gse, .int gte, .int gsp, .ref h7, .ref h8, .int gtl])), (h1, .inl (cI, 190, .inl z)), (h3, .inl (cI, 1140, .inl past))] := hD
    rcases hw with ⟨rfl, b14⟩ | ⟨rfl, b14⟩
    · have b14 : (-3) ≤ p2.toInt ∧ p2.toInt ≤ 3 := b14
      refine lv_if_ne (tgt := 23) hx hb dX8_pave_17 (by decide) (fun _ => ?_) (fun c17 => absurd c17 (by decide))
      refine lv_aload_n hx hb dX8_pave_23 rfl (lv_at hl 0 rfl) ?_
      refine va_get (D := D) (ci := 8) (v := .ref h1) (C := RX8) (T := TX8) (N := 14) hx hb hts xin8 hown hK hP 0 rfl rfl 0 (by decide) (hts _ (List.mem_cons_of_mem _ mw_3_89)) (fun _ h9 => h9) rfl dX8_pave_24 ?_
      refine lv_bipush (v := 7) hx hb dX8_pave_27 (by decide) ?_
      refine va_iald hx hb hK hP 1 0 rfl rfl (xi_in (by decide) (by decide)) dX8_pave_29 ?_
      refine xk_top (z := z 7) rfl ?_
      refine lv_bipush (v := 12) hx hb dX8_pave_30 (by decide) ?_
      refine lv_icmp_ne (tgt := 38) hx hb dX8_pave_32 (by decide) (fun c32 => ?_) (fun c32 => ?_)
      · have t32 : ¬ (z 7).toInt = 12 := xi_ne rfl (by decide) c32
        have d32 : ¬ (z 7) = 12 := c32
        refine lv_aload_n hx hb dX8_pave_38 rfl (lv_at hl 0 rfl) ?_
        refine xk_Vv (As := []) (rest := []) hx hb hml hown hts hK hN hZ hP hD hS hA mb_X8_record mw_3_150 mw_3_152 mw_0_6 (c_X8_record l D cI cZ cS h h1 h2 h3 h4 h5 h6 h7 h8 gst gty gse gte gsp gtl z past (by first | omega | decide | assumption)) [0, 1, 2] 0 8 rfl rfl (by decide) rfl (fun _ => by simp only [List.map]) (by decide) (by decide) rfl hl.1 rfl (Nat.le_of_ble_eq_true rfl) dX8_pave_39 ⟨Nat.zero_le _, Nat.zero_le _⟩ (fun _ H locs hw hP hD hS => ?_)
        have hP : va_P D vwCl [(h, .inr (8, [.ref h1, .ref h2, .ref h3, .int (recS gst), .ref h4, .ref h5, .ref h6, .int gty, .int gse, .int gte, .int gsp, .ref h7, .ref h8, .int gtl])), (h1, .inl (cI, 190, .inl z)), (h3, .inl (cI, 1140, .inl (recP z past gst)))] H := hP
        have hD : va_D A [(h, .inr (8, [.ref h1, .ref h2, .ref h3, .int (recS gst), .ref h4, .ref h5, .ref h6, .int gty, .int gse, .int gte, .int gsp, .ref h7, .ref h8, .int gtl])), (h1, .inl (cI, 190, .inl z)), (h3, .inl (cI, 1140, .inl (recP z past gst)))] := hD
        obtain ⟨g39_2, hg39_2⟩ : ∃ g, g = (recP z past gst) := ⟨_, rfl⟩
        rw [← hg39_2] at hP hD
        have hP : va_P D vwCl [(h, .inr (8, [.ref h1, .ref h2, .ref h3, .int (recS gst), .ref h4, .ref h5, .ref h6, .int gty, .int gse, .int gte, .int gsp, .ref h7, .ref h8, .int gtl])), (h1, .inl (cI, 190, .inl z)), (h3, .inl (cI, 1140, .inl g39_2))] H := hP
        have hD : va_D A [(h, .inr (8, [.ref h1, .ref h2, .ref h3, .int (recS gst), .ref h4, .ref h5, .ref h6, .int gty, .int gse, .int gte, .int gsp, .ref h7, .ref h8, .int gtl])), (h1, .inl (cI, 190, .inl z)), (h3, .inl (cI, 1140, .inl g39_2))] := hD
        refine lv_sipush (v := 138) hx hb dX8_pave_42 (by decide) ?_
        refine lv_iconst (v := 3) hx hb dX8_pave_45 (by decide) ?_
        refine lv_aload_n hx hb dX8_pave_46 rfl (lv_at hl 0 rfl) ?_
        refine va_get (D := D) (ci := 8) (v := .ref h1) (C := RX8) (T := TX8) (N := 14) hx hb hts xin8 hown hK hP 0 rfl rfl 0 (by decide) (hts _ (List.mem_cons_of_mem _ mw_3_89)) (fun _ h9 => h9) rfl dX8_pave_47 ?_
        refine lv_bipush (v := 7) hx hb dX8_pave_50 (by decide) ?_
        refine va_iald hx hb hK hP 1 0 rfl rfl (xi_in (by decide) (by decide)) dX8_pave_52 ?_
        refine xk_top (z := z 7) rfl ?_
        refine lv_imul hx hb dX8_pave_53 ?_
        refine lv_topi (fun x53 e53 => ?_)
        have t53 : x53.toInt = 3 * ((z 7).toInt) := by rw [e53]; exact xi_mul (by decide) rfl (by omega) (by omega)
        refine lv_iadd hx hb dX8_pave_54 ?_
        refine lv_topi (fun x54 e54 => ?_)
        have t54 : x54.toInt = 138 + x53.toInt := by rw [e54]; exact xi_add (by decide) rfl (by omega) (by omega)
        refine lv_istore (lv' := [(4, .int x54), (0, .ref h), (1, .int p1), (2, .int p2), (3, .int p3)]) hx hb dX8_pave_55 hl (by decide) rfl (fun ls hl => ?_)
        refine lv_aload_n hx hb dX8_pave_57 rfl (lv_at hl 1 rfl) ?_
        refine va_get (D := D) (ci := 8) (v := .ref h1) (C := RX8) (T := TX8) (N := 14) hx hb hts xin8 hown hK hP 0 rfl rfl 0 (by decide) (hts _ (List.mem_cons_of_mem _ mw_3_89)) (fun _ h9 => h9) rfl dX8_pave_58 ?_
        refine lv_iload hx hb dX8_pave_61 (lv_at hl 0 rfl) ?_
        refine lv_iconst (v := 0) hx hb dX8_pave_63 (by decide) ?_
        refine lv_iadd hx hb dX8_pave_64 ?_
        refine lv_topi (fun x64 e64 => ?_)
        have t64 : x64.toInt = x54.toInt + 0 := by rw [e64]; exact xi_add rfl (by decide) (by omega) (by omega)
        refine lv_iload_n hx hb dX8_pave_65 rfl (lv_at hl 2 rfl) ?_
        refine va_iast hx hb hK hP hD hS 1 0 rfl rfl (xi_in (by omega) (by omega)) dX8_pave_66 (fun H locs hP hD hS => ?_)
        rw [show x64.toNatClampNeg = 3 * (z 7).toInt.toNat + 138 from xk_ix (by omega)] at hP hD
        have hP : va_P D vwCl [(h, .inr (8, [.ref h1, .ref h2, .ref h3, .int (recS gst), .ref h4, .ref h5, .ref h6, .int gty, .int gse, .int gte, .int gsp, .ref h7, .ref h8, .int gtl])), (h1, .inl (cI, 190, .inl (upd z (3 * (z 7).toInt.toNat + 138) p1))), (h3, .inl (cI, 1140, .inl g39_2))] H := hP
        have hD : va_D A [(h, .inr (8, [.ref h1, .ref h2, .ref h3, .int (recS gst), .ref h4, .ref h5, .ref h6, .int gty, .int gse, .int gte, .int gsp, .ref h7, .ref h8, .int gtl])), (h1, .inl (cI, 190, .inl (upd z (3 * (z 7).toInt.toNat + 138) p1))), (h3, .inl (cI, 1140, .inl g39_2))] := hD
        refine lv_aload_n hx hb dX8_pave_67 rfl (lv_at hl 1 rfl) ?_
        refine va_get (D := D) (ci := 8) (v := .ref h1) (C := RX8) (T := TX8) (N := 14) hx hb hts xin8 hown hK hP 0 rfl rfl 0 (by decide) (hts _ (List.mem_cons_of_mem _ mw_3_89)) (fun _ h9 => h9) rfl dX8_pave_68 ?_
        refine lv_iload hx hb dX8_pave_71 (lv_at hl 0 rfl) ?_
        refine lv_iconst (v := 1) hx hb dX8_pave_73 (by decide) ?_
        refine lv_iadd hx hb dX8_pave_74 ?_
        refine lv_topi (fun x74 e74 => ?_)
        have t74 : x74.toInt = x54.toInt + 1 := by rw [e74]; exact xi_add rfl (by decide) (by omega) (by omega)
        refine lv_iload_n hx hb dX8_pave_75 rfl (lv_at hl 3 rfl) ?_
        refine va_iast hx hb hK hP hD hS 1 0 rfl rfl (xi_in (by omega) (by omega)) dX8_pave_76 (fun H locs hP hD hS => ?_)
        rw [show x74.toNatClampNeg = 3 * (z 7).toInt.toNat + 139 from xk_ix (by omega)] at hP hD
        have hP : va_P D vwCl [(h, .inr (8, [.ref h1, .ref h2, .ref h3, .int (recS gst), .ref h4, .ref h5, .ref h6, .int gty, .int gse, .int gte, .int gsp, .ref h7, .ref h8, .int gtl])), (h1, .inl (cI, 190, .inl (upd (upd z (3 * (z 7).toInt.toNat + 138) p1) (3 * (z 7).toInt.toNat + 139) p2))), (h3, .inl (cI, 1140, .inl g39_2))] H := hP
        have hD : va_D A [(h, .inr (8, [.ref h1, .ref h2, .ref h3, .int (recS gst), .ref h4, .ref h5, .ref h6, .int gty, .int gse, .int gte, .int gsp, .ref h7, .ref h8, .int gtl])), (h1, .inl (cI, 190, .inl (upd (upd z (3 * (z 7).toInt.toNat + 138) p1) (3 * (z 7).toInt.toNat + 139) p2))), (h3, .inl (cI, 1140, .inl g39_2))] := hD
        refine lv_aload_n hx hb dX8_pave_77 rfl (lv_at hl 1 rfl) ?_
        refine va_get (D := D) (ci := 8) (v := .ref h1) (C := RX8) (T := TX8) (N := 14) hx hb hts xin8 hown hK hP 0 rfl rfl 0 (by decide) (hts _ (List.mem_cons_of_mem _ mw_3_89)) (fun _ h9 => h9) rfl dX8_pave_78 ?_
        refine lv_iload hx hb dX8_pave_81 (lv_at hl 0 rfl) ?_
        refine lv_iconst (v := 2) hx hb dX8_pave_83 (by decide) ?_
        refine lv_iadd hx hb dX8_pave_84 ?_
        refine lv_topi (fun x84 e84 => ?_)
        have t84 : x84.toInt = x54.toInt + 2 := by rw [e84]; exact xi_add rfl (by decide) (by omega) (by omega)
        refine lv_iload_n hx hb dX8_pave_85 rfl (lv_at hl 4 rfl) ?_
        refine lv_if_eq (tgt := 93) hx hb dX8_pave_86 (by decide) (fun c86 => ?_) (fun c86 => ?_)
        · have t86 : p3.toInt = 0 := xi_eq rfl (by decide) c86
          have d86 : p3 = 0 := c86
          refine lv_iconst (v := 0) hx hb dX8_pave_93 (by decide) ?_
          refine va_iast hx hb hK hP hD hS 1 0 rfl rfl (xi_in (by omega) (by omega)) dX8_pave_94 (fun H locs hP hD hS => ?_)
          rw [show x84.toNatClampNeg = 3 * (z 7).toInt.toNat + 140 from xk_ix (by omega)] at hP hD
          have hP : va_P D vwCl [(h, .inr (8, [.ref h1, .ref h2, .ref h3, .int (recS gst), .ref h4, .ref h5, .ref h6, .int gty, .int gse, .int gte, .int gsp, .ref h7, .ref h8, .int gtl])), (h1, .inl (cI, 190, .inl (upd (upd (upd z (3 * (z 7).toInt.toNat + 138) p1) (3 * (z 7).toInt.toNat + 139) p2) (3 * (z 7).toInt.toNat + 140) 0))), (h3, .inl (cI, 1140, .inl g39_2))] H := hP
          have hD : va_D A [(h, .inr (8, [.ref h1, .ref h2, .ref h3, .int (recS gst), .ref h4, .ref h5, .ref h6, .int gty, .int gse, .int gte, .int gsp, .ref h7, .ref h8, .int gtl])), (h1, .inl (cI, 190, .inl (upd (upd (upd z (3 * (z 7).toInt.toNat + 138) p1) (3 * (z 7).toInt.toNat + 139) p2) (3 * (z 7).toInt.toNat + 140) 0))), (h3, .inl (cI, 1140, .inl g39_2))] := hD
          refine lv_aload_n hx hb dX8_pave_95 rfl (lv_at hl 1 rfl) ?_
          refine va_get (D := D) (ci := 8) (v := .ref h1) (C := RX8) (T := TX8) (N := 14) hx hb hts xin8 hown hK hP 0 rfl rfl 0 (by decide) (hts _ (List.mem_cons_of_mem _ mw_3_89)) (fun _ h9 => h9) rfl dX8_pave_96 ?_
          refine lv_bipush (v := 7) hx hb dX8_pave_99 (by decide) ?_
          refine lv_dup2_11 hx hb dX8_pave_101 rfl rfl ?_
          refine va_iald hx hb hK hP 1 0 rfl rfl (xi_in (by decide) (by decide)) dX8_pave_102 ?_
          refine xk_top (z := (upd (upd (upd z (3 * (z 7).toInt.toNat + 138) p1) (3 * (z 7).toInt.toNat + 139) p2) (3 * (z 7).toInt.toNat + 140) 0) 7) rfl ?_
          refine lv_topi (fun x102 e102 => ?_)
          have e102 : x102 = z 7 := by rw [e102]; rw [upd_n _ _ _ (by omega), upd_n _ _ _ (by omega), upd_n _ _ _ (by omega)]
          have t102 : x102.toInt = (z 7).toInt := by rw [e102]
          refine lv_iconst (v := 1) hx hb dX8_pave_103 (by decide) ?_
          refine lv_iadd hx hb dX8_pave_104 ?_
          refine lv_topi (fun x104 e104 => ?_)
          have t104 : x104.toInt = x102.toInt + 1 := by rw [e104]; exact xi_add rfl (by decide) (by omega) (by omega)
          refine va_iast hx hb hK hP hD hS 1 0 rfl rfl (xi_in (by decide) (by decide)) dX8_pave_105 (fun H locs hP hD hS => ?_)
          have hP : va_P D vwCl [(h, .inr (8, [.ref h1, .ref h2, .ref h3, .int (recS gst), .ref h4, .ref h5, .ref h6, .int gty, .int gse, .int gte, .int gsp, .ref h7, .ref h8, .int gtl])), (h1, .inl (cI, 190, .inl (upd (upd (upd (upd z (3 * (z 7).toInt.toNat + 138) p1) (3 * (z 7).toInt.toNat + 139) p2) (3 * (z 7).toInt.toNat + 140) 0) 7 x104))), (h3, .inl (cI, 1140, .inl g39_2))] H := hP
          have hD : va_D A [(h, .inr (8, [.ref h1, .ref h2, .ref h3, .int (recS gst), .ref h4, .ref h5, .ref h6, .int gty, .int gse, .int gte, .int gsp, .ref h7, .ref h8, .int gtl])), (h1, .inl (cI, 190, .inl (upd (upd (upd (upd z (3 * (z 7).toInt.toNat + 138) p1) (3 * (z 7).toInt.toNat + 139) p2) (3 * (z 7).toInt.toNat + 140) 0) 7 x104))), (h3, .inl (cI, 1140, .inl g39_2))] := hD
          refine lv_aload_n hx hb dX8_pave_106 rfl (lv_at hl 1 rfl) ?_
          refine xk_Vv (As := []) (rest := []) hx hb hml hown hts hK hN hZ hP hD hS hA mb_X8_beginNow mw_3_85 mw_3_87 mw_0_5 (c_X8_beginNow l D cI cZ cS h h1 h2 h3 h4 h5 h6 h7 h8 (recS gst) gty gse gte gsp gtl (upd (upd (upd (upd z (3 * (z 7).toInt.toNat + 138) p1) (3 * (z 7).toInt.toNat + 139) p2) (3 * (z 7).toInt.toNat + 140) 0) 7 x104) ) [0, 1] 0 8 rfl rfl (by decide) rfl (fun _ => by simp only [List.map]) (by decide) (by decide) rfl hl.1 rfl (Nat.le_of_ble_eq_true rfl) dX8_pave_107 ⟨Nat.zero_le _, Nat.zero_le _⟩ (fun _ H locs hw hP hD hS => ?_)
          have hP : va_P D vwCl [(h, .inr (8, [.ref h1, .ref h2, .ref h3, .int (recS gst), .ref h4, .ref h5, .ref h6, .int gty, .int gse, .int gte, .int gsp, .ref h7, .ref h8, .int gtl])), (h1, .inl (cI, 190, .inl (beginZ (upd (upd (upd (upd z (3 * (z 7).toInt.toNat + 138) p1) (3 * (z 7).toInt.toNat + 139) p2) (3 * (z 7).toInt.toNat + 140) 0) 7 x104)))), (h3, .inl (cI, 1140, .inl g39_2))] H := hP
          have hD : va_D A [(h, .inr (8, [.ref h1, .ref h2, .ref h3, .int (recS gst), .ref h4, .ref h5, .ref h6, .int gty, .int gse, .int gte, .int gsp, .ref h7, .ref h8, .int gtl])), (h1, .inl (cI, 190, .inl (beginZ (upd (upd (upd (upd z (3 * (z 7).toInt.toNat + 138) p1) (3 * (z 7).toInt.toNat + 139) p2) (3 * (z 7).toInt.toNat + 140) 0) 7 x104)))), (h3, .inl (cI, 1140, .inl g39_2))] := hD
          obtain ⟨g107_1, hg107_1⟩ : ∃ g, g = (beginZ (upd (upd (upd (upd z (3 * (z 7).toInt.toNat + 138) p1) (3 * (z 7).toInt.toNat + 139) p2) (3 * (z 7).toInt.toNat + 140) 0) 7 x104)) := ⟨_, rfl⟩
          rw [← hg107_1] at hP hD
          have hP : va_P D vwCl [(h, .inr (8, [.ref h1, .ref h2, .ref h3, .int (recS gst), .ref h4, .ref h5, .ref h6, .int gty, .int gse, .int gte, .int gsp, .ref h7, .ref h8, .int gtl])), (h1, .inl (cI, 190, .inl g107_1)), (h3, .inl (cI, 1140, .inl g39_2))] H := hP
          have hD : va_D A [(h, .inr (8, [.ref h1, .ref h2, .ref h3, .int (recS gst), .ref h4, .ref h5, .ref h6, .int gty, .int gse, .int gte, .int gsp, .ref h7, .ref h8, .int gtl])), (h1, .inl (cI, 190, .inl g107_1)), (h3, .inl (cI, 1140, .inl g39_2))] := hD
          refine lv_aload_n hx hb dX8_pave_110 rfl (lv_at hl 1 rfl) ?_
          refine va_get (D := D) (ci := 8) (v := .ref h1) (C := RX8) (T := TX8) (N := 14) hx hb hts xin8 hown hK hP 0 rfl rfl 0 (by decide) (hts _ (List.mem_cons_of_mem _ mw_3_89)) (fun _ h9 => h9) rfl dX8_pave_111 ?_
          refine lv_bipush (v := 7) hx hb dX8_pave_114 (by decide) ?_
          refine va_iald hx hb hK hP 1 0 rfl rfl (xi_in (by decide) (by decide)) dX8_pave_116 ?_
          refine xk_top (z := g107_1 7) rfl ?_
          refine lv_iconst (v := 1) hx hb dX8_pave_117 (by decide) ?_
          refine lv_isub hx hb dX8_pave_118 ?_
          refine lv_topi (fun x118 e118 => ?_)
          have hc : paveC z p1 p2 := ⟨⟨b4, b14⟩, d32⟩
          have h3 : 0 = p3 := by exact d86.symm
          have hz : g107_1 = if paveC z p1 p2 then paveZ z p1 p2 p3 else z := by rw [if_pos hc, hg107_1, paveZ, ← h3, e104, e102]
          have hq : g39_2 = if paveC z p1 p2 then recP z past gst else past := by rw [hg39_2, if_pos hc]
          have hs : (recS gst) = if paveC z p1 p2 then recS gst else gst := by rw [if_pos hc]
          have q7 : (g107_1 7) = x104 := by rw [hg107_1, beginZ_lo _ (by omega), upd_s]
          have hv : x118 = paveR z p1 p2 := by rw [paveR, if_pos ⟨b4, b14⟩, if_neg d32, e118, q7]; exact xi_ext (by rw [xi_sub (b := 1) rfl (by decide) (by omega) (by omega)]; omega)
          exact xk_reti () hx hb hr hlocks (xk_P hP (by rw [← hz, ← hq, ← hs])) (by exact hv) hS dX8_pave_119 hQ
        · have t86 : ¬ p3.toInt = 0 := xi_ne rfl (by decide) c86
          have d86 : ¬ p3 = 0 := c86
          refine lv_iconst (v := 1) hx hb dX8_pave_89 (by decide) ?_
          refine lv_goto (tgt := 94) hx hb dX8_pave_90 (by decide) ?_
          refine va_iast hx hb hK hP hD hS 1 0 rfl rfl (xi_in (by omega) (by omega)) dX8_pave_94 (fun H locs hP hD hS => ?_)
          rw [show x84.toNatClampNeg = 3 * (z 7).toInt.toNat + 140 from xk_ix (by omega)] at hP hD
          have hP : va_P D vwCl [(h, .inr (8, [.ref h1, .ref h2, .ref h3, .int (recS gst), .ref h4, .ref h5, .ref h6, .int gty, .int gse, .int gte, .int gsp, .ref h7, .ref h8, .int gtl])), (h1, .inl (cI, 190, .inl (upd (upd (upd z (3 * (z 7).toInt.toNat + 138) p1) (3 * (z 7).toInt.toNat + 139) p2) (3 * (z 7).toInt.toNat + 140) 1))), (h3, .inl (cI, 1140, .inl g39_2))] H := hP
          have hD : va_D A [(h, .inr (8, [.ref h1, .ref h2, .ref h3, .int (recS gst), .ref h4, .ref h5, .ref h6, .int gty, .int gse, .int gte, .int gsp, .ref h7, .ref h8, .int gtl])), (h1, .inl (cI, 190, .inl (upd (upd (upd z (3 * (z 7).toInt.toNat + 138) p1) (3 * (z 7).toInt.toNat + 139) p2) (3 * (z 7).toInt.toNat + 140) 1))), (h3, .inl (cI, 1140, .inl g39_2))] := hD
          refine lv_aload_n hx hb dX8_pave_95 rfl (lv_at hl 1 rfl) ?_
          refine va_get (D := D) (ci := 8) (v := .ref h1) (C := RX8) (T := TX8) (N := 14) hx hb hts xin8 hown hK hP 0 rfl rfl 0 (by decide) (hts _ (List.mem_cons_of_mem _ mw_3_89)) (fun _ h9 => h9) rfl dX8_pave_96 ?_
          refine lv_bipush (v := 7) hx hb dX8_pave_99 (by decide) ?_
          refine lv_dup2_11 hx hb dX8_pave_101 rfl rfl ?_
          refine va_iald hx hb hK hP 1 0 rfl rfl (xi_in (by decide) (by decide)) dX8_pave_102 ?_
          refine xk_top (z := (upd (upd (upd z (3 * (z 7).toInt.toNat + 138) p1) (3 * (z 7).toInt.toNat + 139) p2) (3 * (z 7).toInt.toNat + 140) 1) 7) rfl ?_
          refine lv_topi (fun x102 e102 => ?_)
          have e102 : x102 = z 7 := by rw [e102]; rw [upd_n _ _ _ (by omega), upd_n _ _ _ (by omega), upd_n _ _ _ (by omega)]
          have t102 : x102.toInt = (z 7).toInt := by rw [e102]
          refine lv_iconst (v := 1) hx hb dX8_pave_103 (by decide) ?_
          refine lv_iadd hx hb dX8_pave_104 ?_
          refine lv_topi (fun x104 e104 => ?_)
          have t104 : x104.toInt = x102.toInt + 1 := by rw [e104]; exact xi_add rfl (by decide) (by omega) (by omega)
          refine va_iast hx hb hK hP hD hS 1 0 rfl rfl (xi_in (by decide) (by decide)) dX8_pave_105 (fun H locs hP hD hS => ?_)
          have hP : va_P D vwCl [(h, .inr (8, [.ref h1, .ref h2, .ref h3, .int (recS gst), .ref h4, .ref h5, .ref h6, .int gty, .int gse, .int gte, .int gsp, .ref h7, .ref h8, .int gtl])), (h1, .inl (cI, 190, .inl (upd (upd (upd (upd z (3 * (z 7).toInt.toNat + 138) p1) (3 * (z 7).toInt.toNat + 139) p2) (3 * (z 7).toInt.toNat + 140) 1) 7 x104))), (h3, .inl (cI, 1140, .inl g39_2))] H := hP
          have hD : va_D A [(h, .inr (8, [.ref h1, .ref h2, .ref h3, .int (recS gst), .ref h4, .ref h5, .ref h6, .int gty, .int gse, .int gte, .int gsp, .ref h7, .ref h8, .int gtl])), (h1, .inl (cI, 190, .inl (upd (upd (upd (upd z (3 * (z 7).toInt.toNat + 138) p1) (3 * (z 7).toInt.toNat + 139) p2) (3 * (z 7).toInt.toNat + 140) 1) 7 x104))), (h3, .inl (cI, 1140, .inl g39_2))] := hD
          refine lv_aload_n hx hb dX8_pave_106 rfl (lv_at hl 1 rfl) ?_
          refine xk_Vv (As := []) (rest := []) hx hb hml hown hts hK hN hZ hP hD hS hA mb_X8_beginNow mw_3_85 mw_3_87 mw_0_5 (c_X8_beginNow l D cI cZ cS h h1 h2 h3 h4 h5 h6 h7 h8 (recS gst) gty gse gte gsp gtl (upd (upd (upd (upd z (3 * (z 7).toInt.toNat + 138) p1) (3 * (z 7).toInt.toNat + 139) p2) (3 * (z 7).toInt.toNat + 140) 1) 7 x104) ) [0, 1] 0 8 rfl rfl (by decide) rfl (fun _ => by simp only [List.map]) (by decide) (by decide) rfl hl.1 rfl (Nat.le_of_ble_eq_true rfl) dX8_pave_107 ⟨Nat.zero_le _, Nat.zero_le _⟩ (fun _ H locs hw hP hD hS => ?_)
          have hP : va_P D vwCl [(h, .inr (8, [.ref h1, .ref h2, .ref h3, .int (recS gst), .ref h4, .ref h5, .ref h6, .int gty, .int gse, .int gte, .int gsp, .ref h7, .ref h8, .int gtl])), (h1, .inl (cI, 190, .inl (beginZ (upd (upd (upd (upd z (3 * (z 7).toInt.toNat + 138) p1) (3 * (z 7).toInt.toNat + 139) p2) (3 * (z 7).toInt.toNat + 140) 1) 7 x104)))), (h3, .inl (cI, 1140, .inl g39_2))] H := hP
          have hD : va_D A [(h, .inr (8, [.ref h1, .ref h2, .ref h3, .int (recS gst), .ref h4, .ref h5, .ref h6, .int gty, .int gse, .int gte, .int gsp, .ref h7, .ref h8, .int gtl])), (h1, .inl (cI, 190, .inl (beginZ (upd (upd (upd (upd z (3 * (z 7).toInt.toNat + 138) p1) (3 * (z 7).toInt.toNat + 139) p2) (3 * (z 7).toInt.toNat + 140) 1) 7 x104)))), (h3, .inl (cI, 1140, .inl g39_2))] := hD
          obtain ⟨g107_1, hg107_1⟩ : ∃ g, g = (beginZ (upd (upd (upd (upd z (3 * (z 7).toInt.toNat + 138) p1) (3 * (z 7).toInt.toNat + 139) p2) (3 * (z 7).toInt.toNat + 140) 1) 7 x104)) := ⟨_, rfl⟩
          rw [← hg107_1] at hP hD
          have hP : va_P D vwCl [(h, .inr (8, [.ref h1, .ref h2, .ref h3, .int (recS gst), .ref h4, .ref h5, .ref h6, .int gty, .int gse, .int gte, .int gsp, .ref h7, .ref h8, .int gtl])), (h1, .inl (cI, 190, .inl g107_1)), (h3, .inl (cI, 1140, .inl g39_2))] H := hP
          have hD : va_D A [(h, .inr (8, [.ref h1, .ref h2, .ref h3, .int (recS gst), .ref h4, .ref h5, .ref h6, .int gty, .int gse, .int gte, .int gsp, .ref h7, .ref h8, .int gtl])), (h1, .inl (cI, 190, .inl g107_1)), (h3, .inl (cI, 1140, .inl g39_2))] := hD
          refine lv_aload_n hx hb dX8_pave_110 rfl (lv_at hl 1 rfl) ?_
          refine va_get (D := D) (ci := 8) (v := .ref h1) (C := RX8) (T := TX8) (N := 14) hx hb hts xin8 hown hK hP 0 rfl rfl 0 (by decide) (hts _ (List.mem_cons_of_mem _ mw_3_89)) (fun _ h9 => h9) rfl dX8_pave_111 ?_
          refine lv_bipush (v := 7) hx hb dX8_pave_114 (by decide) ?_
          refine va_iald hx hb hK hP 1 0 rfl rfl (xi_in (by decide) (by decide)) dX8_pave_116 ?_
          refine xk_top (z := g107_1 7) rfl ?_
          refine lv_iconst (v := 1) hx hb dX8_pave_117 (by decide) ?_
          refine lv_isub hx hb dX8_pave_118 ?_
          refine lv_topi (fun x118 e118 => ?_)
          have hc : paveC z p1 p2 := ⟨⟨b4, b14⟩, d32⟩
          have h3 : 1 = p3 := by exact (xi_z d86 hp3).symm
          have hz : g107_1 = if paveC z p1 p2 then paveZ z p1 p2 p3 else z := by rw [if_pos hc, hg107_1, paveZ, ← h3, e104, e102]
          have hq : g39_2 = if paveC z p1 p2 then recP z past gst else past := by rw [hg39_2, if_pos hc]
          have hs : (recS gst) = if paveC z p1 p2 then recS gst else gst := by rw [if_pos hc]
          have q7 : (g107_1 7) = x104 := by rw [hg107_1, beginZ_lo _ (by omega), upd_s]
          have hv : x118 = paveR z p1 p2 := by rw [paveR, if_pos ⟨b4, b14⟩, if_neg d32, e118, q7]; exact xi_ext (by rw [xi_sub (b := 1) rfl (by decide) (by omega) (by omega)]; omega)
          exact xk_reti () hx hb hr hlocks (xk_P hP (by rw [← hz, ← hq, ← hs])) (by exact hv) hS dX8_pave_119 hQ
      · have t32 : (z 7).toInt = 12 := xi_eq rfl (by decide) c32
        have d32 : (z 7) = 12 := c32
        refine lv_bipush (v := (-4)) hx hb dX8_pave_35 (by decide) ?_
        have hc : ¬ paveC z p1 p2 := fun hh => hh.2 d32
        have hz : z = if paveC z p1 p2 then paveZ z p1 p2 p3 else z := by rw [if_neg hc]
        have hq : past = if paveC z p1 p2 then recP z past gst else past := by rw [if_neg hc]
        have hs : gst = if paveC z p1 p2 then recS gst else gst := by rw [if_neg hc]
        have hv : (-4) = paveR z p1 p2 := by rw [paveR, if_pos ⟨b4, b14⟩, if_pos d32]
        exact xk_reti () hx hb hr hlocks (xk_P hP (by rw [← hz, ← hq, ← hs])) (by exact hv) hS dX8_pave_37 hQ
    · have b14 : ¬ ((-3) ≤ p2.toInt ∧ p2.toInt ≤ 3) := b14
      refine lv_if_ne (tgt := 23) hx hb dX8_pave_17 (by decide) (fun c17 => absurd (by decide) c17) (fun _ => ?_)
      refine lv_bipush (v := (-2)) hx hb dX8_pave_20 (by decide) ?_
      have hc : ¬ paveC z p1 p2 := fun hh => b14 hh.1.2
      have hz : z = if paveC z p1 p2 then paveZ z p1 p2 p3 else z := by rw [if_neg hc]
      have hq : past = if paveC z p1 p2 then recP z past gst else past := by rw [if_neg hc]
      have hs : gst = if paveC z p1 p2 then recS gst else gst := by rw [if_neg hc]
      have hv : (-2) = paveR z p1 p2 := by rw [paveR, if_neg (fun hh => b14 hh.2)]
      exact xk_reti () hx hb hr hlocks (xk_P hP (by rw [← hz, ← hq, ← hs])) (by exact hv) hS dX8_pave_22 hQ
  · have b4 : ¬ (1 ≤ p1.toInt ∧ p1.toInt ≤ 99) := b4
    refine lv_if_eq (tgt := 20) hx hb dX8_pave_7 (by decide) (fun _ => ?_) (fun c7 => absurd (by decide) c7)
    refine lv_bipush (v := (-2)) hx hb dX8_pave_20 (by decide) ?_
    have hc : ¬ paveC z p1 p2 := fun hh => b4 hh.1.1
    have hz : z = if paveC z p1 p2 then paveZ z p1 p2 p3 else z := by rw [if_neg hc]
    have hq : past = if paveC z p1 p2 then recP z past gst else past := by rw [if_neg hc]
    have hs : gst = if paveC z p1 p2 then recS gst else gst := by rw [if_neg hc]
    have hv : (-2) = paveR z p1 p2 := by rw [paveR, if_neg (fun hh => b4 hh.1)]
    exact xk_reti () hx hb hr hlocks (xk_P hP (by rw [← hz, ← hq, ← hs])) (by exact hv) hS dX8_pave_22 hQ

set_option maxHeartbeats 4000000 in
set_option maxRecDepth 100000 in
theorem c_X8_tear (l : Launch) (D : va_G) (cI cZ cS : ClassId) (h h1 h2 h3 h4 h5 h6 h7 h8 : Nat) (gst gty gse gte gsp gtl : Int32) (z past : Nat → Int32) (p1 : Int32) (hg : 0 ≤ gst.toInt ∧ gst.toInt ≤ 6) (hz7 : 0 ≤ (z 7).toInt ∧ (z 7).toInt ≤ 12) : xMi l yX8_tear cX8_tear 4 (some .int) ({ frames := 2, cells := 0, slots := 0, locals := 45 } : Room) D (xTy cI cZ cS) [.ref h, .int p1] [(h, .inr (8, [.ref h1, .ref h2, .ref h3, .int gst, .ref h4, .ref h5, .ref h6, .int gty, .int gse, .int gte, .int gsp, .ref h7, .ref h8, .int gtl])), (h1, .inl (cI, 190, .inl z)), (h3, .inl (cI, 1140, .inl past))] (fun (r : Int32) (_ : Unit) => r = if tearC z p1 then ofZ z p1.toInt.toNat 0 else -1) (fun (_ : Unit) => [(h, .inr (8, [.ref h1, .ref h2, .ref h3, .int (if tearC z p1 then recS gst else gst), .ref h4, .ref h5, .ref h6, .int gty, .int gse, .int gte, .int gsp, .ref h7, .ref h8, .int gtl])), (h1, .inl (cI, 190, .inl (if tearC z p1 then tearZ z p1 else z))), (h3, .inl (cI, 1140, .inl (if tearC z p1 then recP z past gst else past)))]) := by
  refine xk_bodyi (by decide) (Nat.le_of_ble_eq_true rfl) ?_
  intro p e s m below meth c A ls args Q hx hb hr hts hown hlocks hml hin hK hP hD hS hA hN hZ hl hQ
  have hl : lv_has ls 4 [(0, .ref h), (1, .int p1)] := hl
  refine lv_aload_n hx hb dX8_tear_0 rfl (lv_at hl 0 rfl) ?_
  refine lv_iload_n hx hb dX8_tear_1 rfl (lv_at hl 1 rfl) ?_
  refine xk_Vi (As := [.int p1]) (rest := []) hx hb hml hown hts hK hN hZ hP hD hS hA mb_X8_isStretch mw_3_213 mw_3_215 mw_0_16 (c_X8_isStretch l D cI cZ cS h h1 h2 h3 h4 h5 h6 h7 h8 gst gty gse gte gsp gtl z p1 (by first | omega | decide | assumption)) [0, 1] 0 8 rfl rfl (by decide) rfl (fun _ => by simp only [List.map]) (by decide) (by decide) rfl hl.1 rfl (Nat.le_of_ble_eq_true rfl) dX8_tear_2 ⟨Nat.zero_le _, Nat.zero_le _⟩ (fun r2 _ H locs hw hP hD hS => ?_)
  have hP : va_P D vwCl [(h, .inr (8, [.ref h1, .ref h2, .ref h3, .int gst, .ref h4, .ref h5, .ref h6, .int gty, .int gse, .int gte, .int gsp, .ref h7, .ref h8, .int gtl])), (h1, .inl (cI, 190, .inl z)), (h3, .inl (cI, 1140, .inl past))] H := hP
  have hD : va_D A [(h, .inr (8, [.ref h1, .ref h2, .ref h3, .int gst, .ref h4, .ref h5, .ref h6, .int gty, .int gse, .int gte, .int gsp, .ref h7, .ref h8, .int gtl])), (h1, .inl (cI, 190, .inl z)), (h3, .inl (cI, 1140, .inl past))] := hD
  rcases hw with ⟨rfl, b2⟩ | ⟨rfl, b2⟩
  · have b2 : 0 ≤ p1.toInt ∧ p1.toInt < (z 7).toInt := b2
    refine lv_if_ne (tgt := 10) hx hb dX8_tear_5 (by decide) (fun _ => ?_) (fun c5 => absurd c5 (by decide))
    refine lv_aload_n hx hb dX8_tear_10 rfl (lv_at hl 0 rfl) ?_
    refine xk_Vv (As := []) (rest := []) hx hb hml hown hts hK hN hZ hP hD hS hA mb_X8_record mw_3_150 mw_3_152 mw_0_6 (c_X8_record l D cI cZ cS h h1 h2 h3 h4 h5 h6 h7 h8 gst gty gse gte gsp gtl z past (by first | omega | decide | assumption)) [0, 1, 2] 0 8 rfl rfl (by decide) rfl (fun _ => by simp only [List.map]) (by decide) (by decide) rfl hl.1 rfl (Nat.le_of_ble_eq_true rfl) dX8_tear_11 ⟨Nat.zero_le _, Nat.zero_le _⟩ (fun _ H locs hw hP hD hS => ?_)
    have hP : va_P D vwCl [(h, .inr (8, [.ref h1, .ref h2, .ref h3, .int (recS gst), .ref h4, .ref h5, .ref h6, .int gty, .int gse, .int gte, .int gsp, .ref h7, .ref h8, .int gtl])), (h1, .inl (cI, 190, .inl z)), (h3, .inl (cI, 1140, .inl (recP z past gst)))] H := hP
    have hD : va_D A [(h, .inr (8, [.ref h1, .ref h2, .ref h3, .int (recS gst), .ref h4, .ref h5, .ref h6, .int gty, .int gse, .int gte, .int gsp, .ref h7, .ref h8, .int gtl])), (h1, .inl (cI, 190, .inl z)), (h3, .inl (cI, 1140, .inl (recP z past gst)))] := hD
    obtain ⟨g11_2, hg11_2⟩ : ∃ g, g = (recP z past gst) := ⟨_, rfl⟩
    rw [← hg11_2] at hP hD
    have hP : va_P D vwCl [(h, .inr (8, [.ref h1, .ref h2, .ref h3, .int (recS gst), .ref h4, .ref h5, .ref h6, .int gty, .int gse, .int gte, .int gsp, .ref h7, .ref h8, .int gtl])), (h1, .inl (cI, 190, .inl z)), (h3, .inl (cI, 1140, .inl g11_2))] H := hP
    have hD : va_D A [(h, .inr (8, [.ref h1, .ref h2, .ref h3, .int (recS gst), .ref h4, .ref h5, .ref h6, .int gty, .int gse, .int gte, .int gsp, .ref h7, .ref h8, .int gtl])), (h1, .inl (cI, 190, .inl z)), (h3, .inl (cI, 1140, .inl g11_2))] := hD
    refine lv_aload_n hx hb dX8_tear_14 rfl (lv_at hl 0 rfl) ?_
    refine lv_iload_n hx hb dX8_tear_15 rfl (lv_at hl 1 rfl) ?_
    refine lv_iconst (v := 0) hx hb dX8_tear_16 (by decide) ?_
    refine xk_Vi (As := [.int p1, .int 0]) (rest := []) hx hb hml hown hts hK hN hZ hP hD hS hA mb_X8_ofStretch mw_3_174 mw_3_176 mw_0_11 (c_X8_ofStretch l D cI cZ cS h h1 h2 h3 h4 h5 h6 h7 h8 (recS gst) gty gse gte gsp gtl z p1 (0 : Int32) (by omega) (by decide)) [0, 1] 0 8 rfl rfl (by decide) rfl (fun _ => by simp only [List.map]) (by decide) (by decide) rfl hl.1 rfl (Nat.le_of_ble_eq_true rfl) dX8_tear_17 ⟨Nat.zero_le _, Nat.zero_le _⟩ (fun r17 _ H locs hw hP hD hS => ?_)
    have hP : va_P D vwCl [(h, .inr (8, [.ref h1, .ref h2, .ref h3, .int (recS gst), .ref h4, .ref h5, .ref h6, .int gty, .int gse, .int gte, .int gsp, .ref h7, .ref h8, .int gtl])), (h1, .inl (cI, 190, .inl z)), (h3, .inl (cI, 1140, .inl g11_2))] H := hP
    have hD : va_D A [(h, .inr (8, [.ref h1, .ref h2, .ref h3, .int (recS gst), .ref h4, .ref h5, .ref h6, .int gty, .int gse, .int gte, .int gsp, .ref h7, .ref h8, .int gtl])), (h1, .inl (cI, 190, .inl z)), (h3, .inl (cI, 1140, .inl g11_2))] := hD
    have e17 : r17 = ofZ z p1.toInt.toNat 0 := hw
    refine lv_istore_n (lv' := [(2, .int r17), (0, .ref h), (1, .int p1)]) hx hb dX8_tear_20 rfl hl (by decide) rfl (fun ls hl => ?_)
    refine lv_aload_n hx hb dX8_tear_21 rfl (lv_at hl 1 rfl) ?_
    refine va_get (D := D) (ci := 8) (v := .ref h1) (C := RX8) (T := TX8) (N := 14) hx hb hts xin8 hown hK hP 0 rfl rfl 0 (by decide) (hts _ (List.mem_cons_of_mem _ mw_3_89)) (fun _ h9 => h9) rfl dX8_tear_22 ?_
    refine lv_bipush (v := 7) hx hb dX8_tear_25 (by decide) ?_
    refine lv_dup2_11 hx hb dX8_tear_27 rfl rfl ?_
    refine va_iald hx hb hK hP 1 0 rfl rfl (xi_in (by decide) (by decide)) dX8_tear_28 ?_
    refine xk_top (z := z 7) rfl ?_
    refine lv_iconst (v := 1) hx hb dX8_tear_29 (by decide) ?_
    refine lv_isub hx hb dX8_tear_30 ?_
    refine lv_topi (fun x30 e30 => ?_)
    have t30 : x30.toInt = ((z 7).toInt) - 1 := by rw [e30]; exact xi_sub rfl (by decide) (by omega) (by omega)
    refine va_iast hx hb hK hP hD hS 1 0 rfl rfl (xi_in (by decide) (by decide)) dX8_tear_31 (fun H locs hP hD hS => ?_)
    have hP : va_P D vwCl [(h, .inr (8, [.ref h1, .ref h2, .ref h3, .int (recS gst), .ref h4, .ref h5, .ref h6, .int gty, .int gse, .int gte, .int gsp, .ref h7, .ref h8, .int gtl])), (h1, .inl (cI, 190, .inl (upd z 7 x30))), (h3, .inl (cI, 1140, .inl g11_2))] H := hP
    have hD : va_D A [(h, .inr (8, [.ref h1, .ref h2, .ref h3, .int (recS gst), .ref h4, .ref h5, .ref h6, .int gty, .int gse, .int gte, .int gsp, .ref h7, .ref h8, .int gtl])), (h1, .inl (cI, 190, .inl (upd z 7 x30))), (h3, .inl (cI, 1140, .inl g11_2))] := hD
    refine lv_iconst (v := 3) hx hb dX8_tear_32 (by decide) ?_
    refine lv_iload_n hx hb dX8_tear_33 rfl (lv_at hl 2 rfl) ?_
    refine lv_imul hx hb dX8_tear_34 ?_
    refine lv_topi (fun x34 e34 => ?_)
    have t34 : x34.toInt = 3 * p1.toInt := by rw [e34]; exact xi_mul (by decide) rfl (by omega) (by omega)
    refine lv_istore_n (lv' := [(3, .int x34), (2, .int r17), (0, .ref h), (1, .int p1)]) hx hb dX8_tear_35 rfl hl (by decide) rfl (fun ls hl => ?_)
    have L36 : ∀ (n : Nat) (k : Int32) (hk : 3 * p1.toInt ≤ k.toInt ∧ k.toInt ≤ 3 * ((z 7).toInt - 1)) (hn36 : 40 - k.toInt.toNat < n) (H : Heap) (locs : List Loc), va_P D vwCl [(h, .inr (8, [.ref h1, .ref h2, .ref h3, .int (recS gst), .ref h4, .ref h5, .ref h6, .int gty, .int gse, .int gte, .int gsp, .ref h7, .ref h8, .int gtl])), (h1, .inl (cI, 190, .inl (shiftR (upd z 7 (z 7 - 1)) (3 * p1.toInt.toNat + 138) (k.toInt.toNat + 138)))), (h3, .inl (cI, 1140, .inl g11_2))] H → va_D A [(h, .inr (8, [.ref h1, .ref h2, .ref h3, .int (recS gst), .ref h4, .ref h5, .ref h6, .int gty, .int gse, .int gte, .int gsp, .ref h7, .ref h8, .int gtl])), (h1, .inl (cI, 190, .inl (shiftR (upd z 7 (z 7 - 1)) (3 * p1.toInt.toNat + 138) (k.toInt.toNat + 138)))), (h3, .inl (cI, 1140, .inl g11_2))] → va_S A s.heap H locs → ∀ ls : Array Slot, lv_has ls 4 [(3, .int k), (2, .int r17), (0, .ref h), (1, .int p1)] → W p l e ({ frames := 2, cells := 0, slots := 0, locals := 45 } : Room) s m args below meth c H locs 0 0 Q (F0 m 36 ls []) := by
      intro n
      induction n with
      | zero =>
        intro k hk hn36
        exact absurd hn36 (Nat.not_lt_zero _)
      | succ n ih36 =>
        intro k hk hn36 H locs hP hD hS ls hl
        refine lv_iload_n hx hb dX8_tear_36 rfl (lv_at hl 0 rfl) ?_
        refine lv_iconst (v := 3) hx hb dX8_tear_37 (by decide) ?_
        refine lv_aload_n hx hb dX8_tear_38 rfl (lv_at hl 2 rfl) ?_
        refine va_get (D := D) (ci := 8) (v := .ref h1) (C := RX8) (T := TX8) (N := 14) hx hb hts xin8 hown hK hP 0 rfl rfl 0 (by decide) (hts _ (List.mem_cons_of_mem _ mw_3_89)) (fun _ h9 => h9) rfl dX8_tear_39 ?_
        refine lv_bipush (v := 7) hx hb dX8_tear_42 (by decide) ?_
        refine va_iald hx hb hK hP 1 0 rfl rfl (xi_in (by decide) (by decide)) dX8_tear_44 ?_
        refine xk_top (z := (shiftR (upd z 7 (z 7 - 1)) (3 * p1.toInt.toNat + 138) (k.toInt.toNat + 138)) 7) rfl ?_
        refine lv_topi (fun x44 e44 => ?_)
        have e44 : x44 = z 7 - 1 := by rw [e44, shiftR, if_neg (by omega), upd_s]
        have ht44 : x44.toInt = (z 7).toInt - 1 := by rw [e44]; exact xi_sub rfl (by decide) (by omega) (by omega)
        refine lv_imul hx hb dX8_tear_45 ?_
        refine lv_topi (fun x45 e45 => ?_)
        have t45 : x45.toInt = 3 * x44.toInt := by rw [e45]; exact xi_mul (by decide) rfl (by omega) (by omega)
        refine lv_icmp_ge (tgt := 77) hx hb dX8_tear_46 (by decide) (fun c46 => ?_) (fun c46 => ?_)
        · have t46 : x45.toInt ≤ k.toInt := xi_le rfl rfl c46
          have f77 : (shiftR (upd z 7 (z 7 - 1)) (3 * p1.toInt.toNat + 138) (k.toInt.toNat + 138)) = shiftR (upd z 7 (z 7 - 1)) (3 * p1.toInt.toNat + 138) (3 * ((z 7).toInt.toNat - 1) + 138) := by rw [show k.toInt.toNat + 138 = 3 * ((z 7).toInt.toNat - 1) + 138 from by omega]
          rw [f77] at hP hD
          have hP : va_P D vwCl [(h, .inr (8, [.ref h1, .ref h2, .ref h3, .int (recS gst), .ref h4, .ref h5, .ref h6, .int gty, .int gse, .int gte, .int gsp, .ref h7, .ref h8, .int gtl])), (h1, .inl (cI, 190, .inl (shiftR (upd z 7 (z 7 - 1)) (3 * p1.toInt.toNat + 138) (3 * ((z 7).toInt.toNat - 1) + 138)))), (h3, .inl (cI, 1140, .inl g11_2))] H := hP
          have hD : va_D A [(h, .inr (8, [.ref h1, .ref h2, .ref h3, .int (recS gst), .ref h4, .ref h5, .ref h6, .int gty, .int gse, .int gte, .int gsp, .ref h7, .ref h8, .int gtl])), (h1, .inl (cI, 190, .inl (shiftR (upd z 7 (z 7 - 1)) (3 * p1.toInt.toNat + 138) (3 * ((z 7).toInt.toNat - 1) + 138)))), (h3, .inl (cI, 1140, .inl g11_2))] := hD
          refine lv_aload_n hx hb dX8_tear_77 rfl (lv_at hl 2 rfl) ?_
          refine xk_Vv (As := []) (rest := []) hx hb hml hown hts hK hN hZ hP hD hS hA mb_X8_beginNow mw_3_85 mw_3_87 mw_0_5 (c_X8_beginNow l D cI cZ cS h h1 h2 h3 h4 h5 h6 h7 h8 (recS gst) gty gse gte gsp gtl (shiftR (upd z 7 (z 7 - 1)) (3 * p1.toInt.toNat + 138) (3 * ((z 7).toInt.toNat - 1) + 138)) ) [0, 1] 0 8 rfl rfl (by decide) rfl (fun _ => by simp only [List.map]) (by decide) (by decide) rfl hl.1 rfl (Nat.le_of_ble_eq_true rfl) dX8_tear_78 ⟨Nat.zero_le _, Nat.zero_le _⟩ (fun _ H locs hw hP hD hS => ?_)
          have hP : va_P D vwCl [(h, .inr (8, [.ref h1, .ref h2, .ref h3, .int (recS gst), .ref h4, .ref h5, .ref h6, .int gty, .int gse, .int gte, .int gsp, .ref h7, .ref h8, .int gtl])), (h1, .inl (cI, 190, .inl (beginZ (shiftR (upd z 7 (z 7 - 1)) (3 * p1.toInt.toNat + 138) (3 * ((z 7).toInt.toNat - 1) + 138))))), (h3, .inl (cI, 1140, .inl g11_2))] H := hP
          have hD : va_D A [(h, .inr (8, [.ref h1, .ref h2, .ref h3, .int (recS gst), .ref h4, .ref h5, .ref h6, .int gty, .int gse, .int gte, .int gsp, .ref h7, .ref h8, .int gtl])), (h1, .inl (cI, 190, .inl (beginZ (shiftR (upd z 7 (z 7 - 1)) (3 * p1.toInt.toNat + 138) (3 * ((z 7).toInt.toNat - 1) + 138))))), (h3, .inl (cI, 1140, .inl g11_2))] := hD
          obtain ⟨g78_1, hg78_1⟩ : ∃ g, g = (beginZ (shiftR (upd z 7 (z 7 - 1)) (3 * p1.toInt.toNat + 138) (3 * ((z 7).toInt.toNat - 1) + 138))) := ⟨_, rfl⟩
          rw [← hg78_1] at hP hD
          have hP : va_P D vwCl [(h, .inr (8, [.ref h1, .ref h2, .ref h3, .int (recS gst), .ref h4, .ref h5, .ref h6, .int gty, .int gse, .int gte, .int gsp, .ref h7, .ref h8, .int gtl])), (h1, .inl (cI, 190, .inl g78_1)), (h3, .inl (cI, 1140, .inl g11_2))] H := hP
          have hD : va_D A [(h, .inr (8, [.ref h1, .ref h2, .ref h3, .int (recS gst), .ref h4, .ref h5, .ref h6, .int gty, .int gse, .int gte, .int gsp, .ref h7, .ref h8, .int gtl])), (h1, .inl (cI, 190, .inl g78_1)), (h3, .inl (cI, 1140, .inl g11_2))] := hD
          refine lv_iload_n hx hb dX8_tear_81 rfl (lv_at hl 1 rfl) ?_
          have hz : g78_1 = if tearC z p1 then tearZ z p1 else z := by rw [hg78_1, if_pos b2, tearZ]
          have hq : g11_2 = if tearC z p1 then recP z past gst else past := by rw [hg11_2, if_pos b2]
          have hs : (recS gst) = if tearC z p1 then recS gst else gst := by rw [if_pos b2]
          have hv : r17 = if tearC z p1 then ofZ z p1.toInt.toNat 0 else -1 := by rw [if_pos b2, e17]
          exact xk_reti () hx hb hr hlocks (xk_P hP (by rw [← hz, ← hq, ← hs])) (by exact hv) hS dX8_tear_82 hQ
        · have t46 : k.toInt < x45.toInt := xi_nle rfl rfl c46
          refine lv_aload_n hx hb dX8_tear_49 rfl (lv_at hl 2 rfl) ?_
          refine va_get (D := D) (ci := 8) (v := .ref h1) (C := RX8) (T := TX8) (N := 14) hx hb hts xin8 hown hK hP 0 rfl rfl 0 (by decide) (hts _ (List.mem_cons_of_mem _ mw_3_89)) (fun _ h9 => h9) rfl dX8_tear_50 ?_
          refine lv_sipush (v := 138) hx hb dX8_tear_53 (by decide) ?_
          refine lv_iload_n hx hb dX8_tear_56 rfl (lv_at hl 0 rfl) ?_
          refine lv_iadd hx hb dX8_tear_57 ?_
          refine lv_topi (fun x57 e57 => ?_)
          have t57 : x57.toInt = 138 + k.toInt := by rw [e57]; exact xi_add (by decide) rfl (by omega) (by omega)
          refine lv_aload_n hx hb dX8_tear_58 rfl (lv_at hl 2 rfl) ?_
          refine va_get (D := D) (ci := 8) (v := .ref h1) (C := RX8) (T := TX8) (N := 14) hx hb hts xin8 hown hK hP 0 rfl rfl 0 (by decide) (hts _ (List.mem_cons_of_mem _ mw_3_89)) (fun _ h9 => h9) rfl dX8_tear_59 ?_
          refine lv_sipush (v := 138) hx hb dX8_tear_62 (by decide) ?_
          refine lv_iload_n hx hb dX8_tear_65 rfl (lv_at hl 0 rfl) ?_
          refine lv_iadd hx hb dX8_tear_66 ?_
          refine lv_topi (fun x66 e66 => ?_)
          have t66 : x66.toInt = 138 + k.toInt := by rw [e66]; exact xi_add (by decide) rfl (by omega) (by omega)
          refine lv_iconst (v := 3) hx hb dX8_tear_67 (by decide) ?_
          refine lv_iadd hx hb dX8_tear_68 ?_
          refine lv_topi (fun x68 e68 => ?_)
          have t68 : x68.toInt = x66.toInt + 3 := by rw [e68]; exact xi_add rfl (by decide) (by omega) (by omega)
          refine va_iald hx hb hK hP 1 0 rfl rfl (xi_in (by omega) (by omega)) dX8_tear_69 ?_
          refine xk_top (z := (shiftR (upd z 7 (z 7 - 1)) (3 * p1.toInt.toNat + 138) (k.toInt.toNat + 138)) (k.toInt.toNat + 138 + 3)) (xk_rd (by omega)) ?_
          refine lv_topi (fun x69 e69 => ?_)
          refine va_iast hx hb hK hP hD hS 1 0 rfl rfl (xi_in (by omega) (by omega)) dX8_tear_70 (fun H locs hP hD hS => ?_)
          rw [show x57.toNatClampNeg = k.toInt.toNat + 138 from xk_ix (by omega)] at hP hD
          have hP : va_P D vwCl [(h, .inr (8, [.ref h1, .ref h2, .ref h3, .int (recS gst), .ref h4, .ref h5, .ref h6, .int gty, .int gse, .int gte, .int gsp, .ref h7, .ref h8, .int gtl])), (h1, .inl (cI, 190, .inl (upd (shiftR (upd z 7 (z 7 - 1)) (3 * p1.toInt.toNat + 138) (k.toInt.toNat + 138)) (k.toInt.toNat + 138) x69))), (h3, .inl (cI, 1140, .inl g11_2))] H := hP
          have hD : va_D A [(h, .inr (8, [.ref h1, .ref h2, .ref h3, .int (recS gst), .ref h4, .ref h5, .ref h6, .int gty, .int gse, .int gte, .int gsp, .ref h7, .ref h8, .int gtl])), (h1, .inl (cI, 190, .inl (upd (shiftR (upd z 7 (z 7 - 1)) (3 * p1.toInt.toNat + 138) (k.toInt.toNat + 138)) (k.toInt.toNat + 138) x69))), (h3, .inl (cI, 1140, .inl g11_2))] := hD
          obtain ⟨x71, e71⟩ : ∃ y : Int32, y = k + 1 := ⟨_, rfl⟩
          have t71 : x71.toInt = k.toInt + 1 := by rw [e71]; exact xi_add rfl (by decide) (by omega) (by omega)
          refine lv_iinc (v := x71) (lv' := [(3, .int x71), (2, .int r17), (0, .ref h), (1, .int p1)]) hx hb dX8_tear_71 hl (k := 0) rfl (by rw [e71]; rfl) (by decide) rfl (fun ls hl => ?_)
          refine lv_goto (tgt := 36) hx hb dX8_tear_74 (by decide) ?_
          have q36 : ([(h, .inr (8, [.ref h1, .ref h2, .ref h3, .int (recS gst), .ref h4, .ref h5, .ref h6, .int gty, .int gse, .int gte, .int gsp, .ref h7, .ref h8, .int gtl])), (h1, .inl (cI, 190, .inl (upd (shiftR (upd z 7 (z 7 - 1)) (3 * p1.toInt.toNat + 138) (k.toInt.toNat + 138)) (k.toInt.toNat + 138) x69))), (h3, .inl (cI, 1140, .inl g11_2))] : va_W) = [(h, .inr (8, [.ref h1, .ref h2, .ref h3, .int (recS gst), .ref h4, .ref h5, .ref h6, .int gty, .int gse, .int gte, .int gsp, .ref h7, .ref h8, .int gtl])), (h1, .inl (cI, 190, .inl (shiftR (upd z 7 (z 7 - 1)) (3 * p1.toInt.toNat + 138) (x71.toInt.toNat + 138)))), (h3, .inl (cI, 1140, .inl g11_2))] := by rw [e69, shiftR_s _ _ _ (by omega), show x71.toInt.toNat + 138 = k.toInt.toNat + 138 + 1 from by omega]
          exact ih36  x71 (by first | omega | assumption) (by omega) _ _ (xk_P hP q36) (xk_D hD q36) hS ls (lv_sub hl [0, 1, 2, 3] rfl)
    have q36 : ([(h, .inr (8, [.ref h1, .ref h2, .ref h3, .int (recS gst), .ref h4, .ref h5, .ref h6, .int gty, .int gse, .int gte, .int gsp, .ref h7, .ref h8, .int gtl])), (h1, .inl (cI, 190, .inl (upd z 7 x30))), (h3, .inl (cI, 1140, .inl g11_2))] : va_W) = [(h, .inr (8, [.ref h1, .ref h2, .ref h3, .int (recS gst), .ref h4, .ref h5, .ref h6, .int gty, .int gse, .int gte, .int gsp, .ref h7, .ref h8, .int gtl])), (h1, .inl (cI, 190, .inl (shiftR (upd z 7 (z 7 - 1)) (3 * p1.toInt.toNat + 138) (x34.toInt.toNat + 138)))), (h3, .inl (cI, 1140, .inl g11_2))] := by rw [e30, shiftR_0 _ _ _ (by omega)]
    exact L36 41 x34 (by omega) (by omega) _ _ (xk_P hP q36) (xk_D hD q36) hS ls (lv_sub hl [0, 1, 2, 3] rfl)
  · have b2 : ¬ (0 ≤ p1.toInt ∧ p1.toInt < (z 7).toInt) := b2
    refine lv_if_ne (tgt := 10) hx hb dX8_tear_5 (by decide) (fun c5 => absurd (by decide) c5) (fun _ => ?_)
    refine lv_iconst (v := (-1)) hx hb dX8_tear_8 (by decide) ?_
    have hz : z = if tearC z p1 then tearZ z p1 else z := by rw [if_neg b2]
    have hq : past = if tearC z p1 then recP z past gst else past := by rw [if_neg b2]
    have hs : gst = if tearC z p1 then recS gst else gst := by rw [if_neg b2]
    have hv : -1 = if tearC z p1 then ofZ z p1.toInt.toNat 0 else -1 := by rw [if_neg b2]
    exact xk_reti () hx hb hr hlocks (xk_P hP (by rw [← hz, ← hq, ← hs])) (by exact hv) hS dX8_tear_9 hQ

set_option maxHeartbeats 4000000 in
set_option maxRecDepth 100000 in
theorem c_X8_wipe (l : Launch) (D : va_G) (cI cZ cS : ClassId) (h h1 h2 h3 h4 h5 h6 h7 h8 : Nat) (gst gty gse gte gsp gtl : Int32)    : xMi l yX8_wipe cX8_wipe 2 (some .int) ({ frames := 0, cells := 0, slots := 0, locals := 0 } : Room) D (xTy cI cZ cS) [.ref h] [(h, .inr (8, [.ref h1, .ref h2, .ref h3, .int gst, .ref h4, .ref h5, .ref h6, .int gty, .int gse, .int gte, .int gsp, .ref h7, .ref h8, .int gtl]))] (fun (r : Int32) (_ : Unit) => r = gty) (fun (_ : Unit) => [(h, .inr (8, [.ref h1, .ref h2, .ref h3, .int gst, .ref h4, .ref h5, .ref h6, .int 0, .int gse, .int gte, .int gsp, .ref h7, .ref h8, .int gtl]))]) := by
  refine xk_bodyi (by decide) (Nat.le_of_ble_eq_true rfl) ?_
  intro p e s m below meth c A ls args Q hx hb hr hts hown hlocks hml hin hK hP hD hS hA hN hZ hl hQ
  have hl : lv_has ls 2 [(0, .ref h)] := hl
  refine lv_aload_n hx hb dX8_wipe_0 rfl (lv_at hl 0 rfl) ?_
  refine va_get (D := D) (ci := 8) (v := .int gty) (C := RX8) (T := TX8) (N := 14) hx hb hts xin8 hown hK hP 0 rfl rfl 7 (by decide) (hts _ (List.mem_cons_of_mem _ mw_3_96)) (fun _ h9 => h9) rfl dX8_wipe_1 ?_
  refine lv_istore_n (lv' := [(1, .int gty), (0, .ref h)]) hx hb dX8_wipe_4 rfl hl (by decide) rfl (fun ls hl => ?_)
  refine lv_aload_n hx hb dX8_wipe_5 rfl (lv_at hl 1 rfl) ?_
  refine lv_iconst (v := 0) hx hb dX8_wipe_6 (by decide) ?_
  refine va_put (D := D) (ci := 8) (v := .int 0) (ty := .int) (C := RX8) (T := TX8) (N := 14) hx hb hts xin8 tyX8 tyX8_ok nmX8 hown hK hP hD hS 0 rfl rfl 7 (by decide) (hts _ (List.mem_cons_of_mem _ mw_3_96)) (fun _ h9 => h9) rfl (by decide +kernel) rfl rfl (Nat.le_of_ble_eq_true rfl) dX8_wipe_7 (fun H locs hP hD hS => ?_)
  have hP : va_P D vwCl [(h, .inr (8, [.ref h1, .ref h2, .ref h3, .int gst, .ref h4, .ref h5, .ref h6, .int 0, .int gse, .int gte, .int gsp, .ref h7, .ref h8, .int gtl]))] H := hP
  have hD : va_D A [(h, .inr (8, [.ref h1, .ref h2, .ref h3, .int gst, .ref h4, .ref h5, .ref h6, .int 0, .int gse, .int gte, .int gsp, .ref h7, .ref h8, .int gtl]))] := hD
  refine lv_iload_n hx hb dX8_wipe_10 rfl (lv_at hl 0 rfl) ?_
  exact xk_reti () hx hb hr hlocks (xk_P hP (by rfl)) (by first | rfl | assumption | (simp [*]; done)) hS dX8_wipe_11 hQ
