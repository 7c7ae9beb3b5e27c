set_option maxHeartbeats 4000000 in
set_option maxRecDepth 100000 in
theorem c_X8_isWalkedAnew (l : Launch) (D : va_G) (cI cZ cS : ClassId) (h h1 h2 h3 h4 h5 h6 h7 h8 : Nat) (gst gty gse gte gsp gtl : Int32) (z : Nat → Int32)  (his : SetOK z) (hig : SongOK z) (hir : RoadOK z) (hca : canZ z) : xMi l yX8_isWalkedAnew cX8_isWalkedAnew 1 (some .boolean) ({ frames := 4, cells := 0, slots := 0, locals := 87 } : Room) D (xTy cI cZ cS) [.ref h] [(h, .inr (8, [.ref h1, .ref h2, .ref h3, .int gst, .ref h4, .ref h5, .ref h6, .int gty, .int gse, .int gte, .int gsp, .ref h7, .ref h8, .int gtl])), (h1, .inl (cI, 190, .inl z))] (fun (r : Int32) (u : (Int32) × (Int32)) => ((r = 1 ∧ (aneZ z 188 = 1)) ∨ (r = 0 ∧ ¬ (aneZ z 188 = 1)))) (fun (u : (Int32) × (Int32)) => [(h, .inr (8, [.ref h1, .ref h2, .ref h3, .int gst, .ref h4, .ref h5, .ref h6, .int gty, .int u.1, .int u.2, .int gsp, .ref h7, .ref h8, .int gtl])), (h1, .inl (cI, 190, .inl (aneZ z)))]) := by
  refine xk_bodyi (by decide) (Nat.le_of_ble_eq_true rfl) ?_
  intro p e s m below meth c A ls args Q hx hb hr hts hown hlocks hml hin hK hP hD hS hA hN hZ hl hQ
  have hl : lv_has ls 1 [(0, .ref h)] := hl
  refine lv_aload_n hx hb dX8_isWalkedAnew_0 rfl (lv_at hl 0 rfl) ?_
  refine xk_Vv (As := []) (rest := []) hx hb hml hown hts hK hN hZ hP hD hS hA mb_X8_beginNow mw_3_85 mw_3_87 mw_0_5 (c_X8_beginNow l D cI cZ cS h h1 h2 h3 h4 h5 h6 h7 h8 gst gty gse gte gsp gtl z ) [0, 1] 0 8 rfl rfl (by decide) rfl (fun _ => by simp only [List.map]) (by decide) (by decide) rfl hl.1 rfl (Nat.le_of_ble_eq_true rfl) dX8_isWalkedAnew_1 ⟨Nat.zero_le _, Nat.zero_le _⟩ (fun _ H locs hw hP hD hS => ?_)
  have hP : va_P D vwCl [(h, .inr (8, [.ref h1, .ref h2, .ref h3, .int gst, .ref h4, .ref h5, .ref h6, .int gty, .int gse, .int gte, .int gsp, .ref h7, .ref h8, .int gtl])), (h1, .inl (cI, 190, .inl (beginZ z)))] H := hP
  have hD : va_D A [(h, .inr (8, [.ref h1, .ref h2, .ref h3, .int gst, .ref h4, .ref h5, .ref h6, .int gty, .int gse, .int gte, .int gsp, .ref h7, .ref h8, .int gtl])), (h1, .inl (cI, 190, .inl (beginZ z)))] := hD
  obtain ⟨g1_1, hg1_1⟩ : ∃ g, g = (beginZ z) := ⟨_, rfl⟩
  rw [← hg1_1] at hP hD
  have hP : va_P D vwCl [(h, .inr (8, [.ref h1, .ref h2, .ref h3, .int gst, .ref h4, .ref h5, .ref h6, .int gty, .int gse, .int gte, .int gsp, .ref h7, .ref h8, .int gtl])), (h1, .inl (cI, 190, .inl g1_1))] H := hP
  have hD : va_D A [(h, .inr (8, [.ref h1, .ref h2, .ref h3, .int gst, .ref h4, .ref h5, .ref h6, .int gty, .int gse, .int gte, .int gsp, .ref h7, .ref h8, .int gtl])), (h1, .inl (cI, 190, .inl g1_1))] := hD
  refine lv_aload_n hx hb dX8_isWalkedAnew_4 rfl (lv_at hl 0 rfl) ?_
  refine lv_sipush (v := 5000) hx hb dX8_isWalkedAnew_5 (by decide) ?_
  refine xk_Vi (As := [.int 5000]) (rest := []) hx hb hml hown hts hK hN hZ hP hD hS hA mb_X8_marchNow mw_3_162 mw_3_164 mw_0_8 (c_X8_marchNow l D cI cZ cS h h1 h2 h3 h4 h5 h6 h7 h8 gst gty gse gte gsp gtl g1_1 (5000 : Int32) (by decide) (by rw [hg1_1]; exact begin_inv his hig hir) (by rw [hg1_1]; exact begin_can hca)) [0, 1] 0 8 rfl rfl (by decide) rfl (fun _ => by simp only [List.map]) (by decide) (by decide) rfl hl.1 rfl (Nat.le_of_ble_eq_true rfl) dX8_isWalkedAnew_8 ⟨Nat.zero_le _, Nat.zero_le _⟩ (fun r8 u8 H locs hw hP hD hS => ?_)
  obtain ⟨w8_0, w8_1⟩ := u8
  have hP : va_P D vwCl [(h, .inr (8, [.ref h1, .ref h2, .ref h3, .int gst, .ref h4, .ref h5, .ref h6, .int gty, .int w8_0, .int w8_1, .int gsp, .ref h7, .ref h8, .int gtl])), (h1, .inl (cI, 190, .inl (walkZ 5000 g1_1)))] H := hP
  have hD : va_D A [(h, .inr (8, [.ref h1, .ref h2, .ref h3, .int gst, .ref h4, .ref h5, .ref h6, .int gty, .int w8_0, .int w8_1, .int gsp, .ref h7, .ref h8, .int gtl])), (h1, .inl (cI, 190, .inl (walkZ 5000 g1_1)))] := hD
  obtain ⟨g8_1, hg8_1⟩ : ∃ g, g = (walkZ 5000 g1_1) := ⟨_, rfl⟩
  rw [← hg8_1] at hP hD
  have hP : va_P D vwCl [(h, .inr (8, [.ref h1, .ref h2, .ref h3, .int gst, .ref h4, .ref h5, .ref h6, .int gty, .int w8_0, .int w8_1, .int gsp, .ref h7, .ref h8, .int gtl])), (h1, .inl (cI, 190, .inl g8_1))] H := hP
  have hD : va_D A [(h, .inr (8, [.ref h1, .ref h2, .ref h3, .int gst, .ref h4, .ref h5, .ref h6, .int gty, .int w8_0, .int w8_1, .int gsp, .ref h7, .ref h8, .int gtl])), (h1, .inl (cI, 190, .inl g8_1))] := hD
  have p8 : r8.toInt = (walkN 5000 g1_1 : Int) := hw
  refine lv_pop hx hb dX8_isWalkedAnew_11 rfl ?_
  refine lv_aload_n hx hb dX8_isWalkedAnew_12 rfl (lv_at hl 0 rfl) ?_
  refine va_get (D := D) (ci := 8) (v := .ref h1) (C := RX8) (T := TX8) (N := 14) hx hb hts xin8 hown hK hP 0 rfl rfl 0 (by decide) (hts _ (List.mem_cons_of_mem _ mw_3_89)) (fun _ h9 => h9) rfl dX8_isWalkedAnew_13 ?_
  refine lv_sipush (v := 188) hx hb dX8_isWalkedAnew_16 (by decide) ?_
  refine va_iald hx hb hK hP 1 0 rfl rfl (xi_in (by decide) (by decide)) dX8_isWalkedAnew_19 ?_
  refine xk_top (z := g8_1 188) rfl ?_
  refine lv_iconst (v := 1) hx hb dX8_isWalkedAnew_20 (by decide) ?_
  refine lv_icmp_ne (tgt := 28) hx hb dX8_isWalkedAnew_21 (by decide) (fun c21 => ?_) (fun c21 => ?_)
  · have t21 : ¬ (g8_1 188).toInt = 1 := xi_ne rfl (by decide) c21
    have d21 : ¬ (g8_1 188) = 1 := c21
    refine lv_iconst (v := 0) hx hb dX8_isWalkedAnew_28 (by decide) ?_
    have hz : g8_1 = aneZ z := by rw [hg8_1, hg1_1, aneZ]
    exact xk_retz (w8_0, w8_1) hx hb hr hlocks (by decide) (xk_P hP (by rw [hz])) (by (try dsimp only); rw [hz] at d21; first | exact Or.inl ⟨rfl, d21⟩ | exact Or.inr ⟨rfl, d21⟩) hS dX8_isWalkedAnew_29 hQ
  · have t21 : (g8_1 188).toInt = 1 := xi_eq rfl (by decide) c21
    have d21 : (g8_1 188) = 1 := c21
    refine lv_iconst (v := 1) hx hb dX8_isWalkedAnew_24 (by decide) ?_
    refine lv_goto (tgt := 29) hx hb dX8_isWalkedAnew_25 (by decide) ?_
    have hz : g8_1 = aneZ z := by rw [hg8_1, hg1_1, aneZ]
    exact xk_retz (w8_0, w8_1) hx hb hr hlocks (by decide) (xk_P hP (by rw [hz])) (by (try dsimp only); rw [hz] at d21; first | exact Or.inl ⟨rfl, d21⟩ | exact Or.inr ⟨rfl, d21⟩) hS dX8_isWalkedAnew_29 hQ

set_option maxHeartbeats 4000000 in
set_option maxRecDepth 100000 in
theorem c_X8_untilWalked (l : Launch) (D : va_G) (cI cZ cS : ClassId) (h h1 h2 h3 h4 h5 h6 h7 h8 : Nat) (gst gty gse gte gsp gtl : Int32) (z spare : Nat → Int32) (p1 : Int32) (hI : InvZ z) : xMi l yX8_untilWalked cX8_untilWalked 4 (some .int) ({ frames := 4, cells := 0, slots := 0, locals := 87 } : Room) D (xTy cI cZ cS) [.ref h, .int p1] [(h, .inr (8, [.ref h1, .ref h2, .ref h3, .int gst, .ref h4, .ref h5, .ref h6, .int gty, .int gse, .int gte, .int gsp, .ref h7, .ref h8, .int gtl])), (h1, .inl (cI, 190, .inl z)), (h2, .inl (cI, 190, .inl spare))] (fun (r : Int32) (u : (Nat → Int32) × (Int32) × (Int32)) => r = untR z p1) (fun (u : (Nat → Int32) × (Int32) × (Int32)) => [(h, .inr (8, [.ref h1, .ref h2, .ref h3, .int gst, .ref h4, .ref h5, .ref h6, .int gty, .int u.2.1, .int u.2.2, .int gsp, .ref h7, .ref h8, .int gtl])), (h1, .inl (cI, 190, .inl z)), (h2, .inl (cI, 190, .inl u.1))]) := by
  refine xk_bodyi (by decide) (Nat.le_of_ble_eq_true rfl) ?_
  intro p e s m below meth c A ls args Q hx hb hr hts hown hlocks hml hin hK hP hD hS hA hN hZ hl hQ
  have hl : lv_has ls 4 [(0, .ref h), (1, .int p1)] := hl
  refine lv_iload_n hx hb dX8_untilWalked_0 rfl (lv_at hl 1 rfl) ?_
  refine lv_iconst (v := 0) hx hb dX8_untilWalked_1 (by decide) ?_
  refine lv_iconst (v := 3) hx hb dX8_untilWalked_2 (by decide) ?_
  refine xk_Si (As := [.int p1, .int 0, .int 3]) (rest := []) hx hb hml hown hts hK hN hZ hP hD hS hA mb_X8_in mw_3_143 mw_3_144 (c_X8_in l D cI cZ cS p1 (0 : Int32) (3 : Int32) ) [] (by decide) rfl (fun _ => by simp only [List.map]) (by decide) (by decide) rfl hl.1 rfl (Nat.le_of_ble_eq_true rfl) dX8_untilWalked_3 ⟨Nat.zero_le _, Nat.zero_le _⟩ (fun r3 _ H locs hw hP hD hS => ?_)
  have hP : va_P D vwCl [(h, .inr (8, [.ref h1, .ref h2, .ref h3, .int gst, .ref h4, .ref h5, .ref h6, .int gty, .int gse, .int gte, .int gsp, .ref h7, .ref h8, .int gtl])), (h1, .inl (cI, 190, .inl z)), (h2, .inl (cI, 190, .inl spare))] H := hP
  have hD : va_D A [(h, .inr (8, [.ref h1, .ref h2, .ref h3, .int gst, .ref h4, .ref h5, .ref h6, .int gty, .int gse, .int gte, .int gsp, .ref h7, .ref h8, .int gtl])), (h1, .inl (cI, 190, .inl z)), (h2, .inl (cI, 190, .inl spare))] := hD
  rcases hw with ⟨rfl, b3⟩ | ⟨rfl, b3⟩
  · have b3 : 0 ≤ p1.toInt ∧ p1.toInt ≤ 3 := b3
    refine lv_if_ne (tgt := 12) hx hb dX8_untilWalked_6 (by decide) (fun _ => ?_) (fun c6 => absurd c6 (by decide))
    refine lv_aload_n hx hb dX8_untilWalked_12 rfl (lv_at hl 0 rfl) ?_
    refine xk_Vi (As := []) (rest := []) hx hb hml hown hts hK hN hZ hP hD hS hA mb_X8_canMarch mw_3_158 mw_3_160 mw_0_7 (c_X8_canMarch l D cI cZ cS h h1 h2 h3 h4 h5 h6 h7 h8 gst gty gse gte gsp gtl z ) [0, 1] 0 8 rfl rfl (by decide) rfl (fun _ => by simp only [List.map]) (by decide) (by decide) rfl hl.1 rfl (Nat.le_of_ble_eq_true rfl) dX8_untilWalked_13 ⟨Nat.zero_le _, Nat.zero_le _⟩ (fun r13 _ H locs hw hP hD hS => ?_)
    have hP : va_P D vwCl [(h, .inr (8, [.ref h1, .ref h2, .ref h3, .int gst, .ref h4, .ref h5, .ref h6, .int gty, .int gse, .int gte, .int gsp, .ref h7, .ref h8, .int gtl])), (h1, .inl (cI, 190, .inl z)), (h2, .inl (cI, 190, .inl spare))] H := hP
    have hD : va_D A [(h, .inr (8, [.ref h1, .ref h2, .ref h3, .int gst, .ref h4, .ref h5, .ref h6, .int gty, .int gse, .int gte, .int gsp, .ref h7, .ref h8, .int gtl])), (h1, .inl (cI, 190, .inl z)), (h2, .inl (cI, 190, .inl spare))] := hD
    rcases hw with ⟨rfl, b13⟩ | ⟨rfl, b13⟩
    · have b13 : canZ z := b13
      refine lv_if_ne (tgt := 22) hx hb dX8_untilWalked_16 (by decide) (fun _ => ?_) (fun c16 => absurd c16 (by decide))
      refine lv_iload_n hx hb dX8_untilWalked_22 rfl (lv_at hl 1 rfl) ?_
      refine lv_if_ne (tgt := 32) hx hb dX8_untilWalked_23 (by decide) (fun c23 => ?_) (fun c23 => ?_)
      · have t23 : ¬ p1.toInt = 0 := xi_ne rfl (by decide) c23
        have d23 : ¬ p1 = 0 := c23
        refine lv_iload_n hx hb dX8_untilWalked_32 rfl (lv_at hl 1 rfl) ?_
        refine lv_iconst (v := 1) hx hb dX8_untilWalked_33 (by decide) ?_
        refine lv_icmp_ne (tgt := 43) hx hb dX8_untilWalked_34 (by decide) (fun c34 => ?_) (fun c34 => ?_)
        · have t34 : ¬ p1.toInt = 1 := xi_ne rfl (by decide) c34
          have d34 : ¬ p1 = 1 := c34
          refine lv_iload_n hx hb dX8_untilWalked_43 rfl (lv_at hl 1 rfl) ?_
          refine lv_iconst (v := 2) hx hb dX8_untilWalked_44 (by decide) ?_
          refine lv_icmp_ne (tgt := 54) hx hb dX8_untilWalked_45 (by decide) (fun c45 => ?_) (fun c45 => ?_)
          · have t45 : ¬ p1.toInt = 2 := xi_ne rfl (by decide) c45
            have d45 : ¬ p1 = 2 := c45
            refine lv_sipush (v := 186) hx hb dX8_untilWalked_54 (by decide) ?_
            refine lv_istore_n (lv' := [(2, .int 186), (0, .ref h), (1, .int p1)]) hx hb dX8_untilWalked_57 rfl hl (by decide) rfl (fun ls hl => ?_)
            refine lv_aload_n hx hb dX8_untilWalked_58 rfl (lv_at hl 1 rfl) ?_
            refine va_get (D := D) (ci := 8) (v := .ref h1) (C := RX8) (T := TX8) (N := 14) hx hb hts xin8 hown hK hP 0 rfl rfl 0 (by decide) (hts _ (List.mem_cons_of_mem _ mw_3_89)) (fun _ h9 => h9) rfl dX8_untilWalked_59 ?_
            refine lv_iconst (v := 0) hx hb dX8_untilWalked_62 (by decide) ?_
            refine lv_aload_n hx hb dX8_untilWalked_63 rfl (lv_at hl 1 rfl) ?_
            refine va_get (D := D) (ci := 8) (v := .ref h2) (C := RX8) (T := TX8) (N := 14) hx hb hts xin8 hown hK hP 0 rfl rfl 1 (by decide) (hts _ (List.mem_cons_of_mem _ mw_3_90)) (fun _ h9 => h9) rfl dX8_untilWalked_64 ?_
            refine lv_iconst (v := 0) hx hb dX8_untilWalked_67 (by decide) ?_
            refine xk_Sv (As := [.ref h1, .int 0, .ref h2, .int 0]) (rest := []) hx hb hml hown hts hK hN hZ hP hD hS hA mb_X8_copyState mw_3_136 mw_3_137 (c_X8_copyState l D cI cZ cS h1 h2 190 190 z spare (0 : Int32) (0 : Int32) (by first | omega | decide | assumption) (by first | omega | decide | assumption) (by first | omega | decide | assumption)) [1, 2] (by decide) rfl (fun _ => by simp only [List.map]) (by decide) (by decide) rfl hl.1 rfl (Nat.le_of_ble_eq_true rfl) dX8_untilWalked_68 ⟨Nat.zero_le _, Nat.zero_le _⟩ (fun _ H locs hw hP hD hS => ?_)
            have hP : va_P D vwCl [(h, .inr (8, [.ref h1, .ref h2, .ref h3, .int gst, .ref h4, .ref h5, .ref h6, .int gty, .int gse, .int gte, .int gsp, .ref h7, .ref h8, .int gtl])), (h1, .inl (cI, 190, .inl z)), (h2, .inl (cI, 190, .inl (va_cpy z spare 0 0 190)))] H := hP
            have hD : va_D A [(h, .inr (8, [.ref h1, .ref h2, .ref h3, .int gst, .ref h4, .ref h5, .ref h6, .int gty, .int gse, .int gte, .int gsp, .ref h7, .ref h8, .int gtl])), (h1, .inl (cI, 190, .inl z)), (h2, .inl (cI, 190, .inl (va_cpy z spare 0 0 190)))] := hD
            obtain ⟨g68_2, hg68_2⟩ : ∃ g, g = (va_cpy z spare 0 0 190) := ⟨_, rfl⟩
            rw [← hg68_2] at hP hD
            have hP : va_P D vwCl [(h, .inr (8, [.ref h1, .ref h2, .ref h3, .int gst, .ref h4, .ref h5, .ref h6, .int gty, .int gse, .int gte, .int gsp, .ref h7, .ref h8, .int gtl])), (h1, .inl (cI, 190, .inl z)), (h2, .inl (cI, 190, .inl g68_2))] H := hP
            have hD : va_D A [(h, .inr (8, [.ref h1, .ref h2, .ref h3, .int gst, .ref h4, .ref h5, .ref h6, .int gty, .int gse, .int gte, .int gsp, .ref h7, .ref h8, .int gtl])), (h1, .inl (cI, 190, .inl z)), (h2, .inl (cI, 190, .inl g68_2))] := hD
            refine lv_aload_n hx hb dX8_untilWalked_71 rfl (lv_at hl 1 rfl) ?_
            refine lv_sipush (v := 5000) hx hb dX8_untilWalked_72 (by decide) ?_
            refine xk_Vi (As := [.int 5000]) (rest := []) hx hb hml hown hts hK hN hZ hP hD hS hA mb_X8_marchNow mw_3_162 mw_3_164 mw_0_8 (c_X8_marchNow l D cI cZ cS h h1 h2 h3 h4 h5 h6 h7 h8 gst gty gse gte gsp gtl z (5000 : Int32) (by decide) (by exact hI) (by exact b13)) [0, 1] 0 8 rfl rfl (by decide) rfl (fun _ => by simp only [List.map]) (by decide) (by decide) rfl hl.1 rfl (Nat.le_of_ble_eq_true rfl) dX8_untilWalked_75 ⟨Nat.zero_le _, Nat.zero_le _⟩ (fun r75 u75 H locs hw hP hD hS => ?_)
            obtain ⟨w75_0, w75_1⟩ := u75
            have hP : va_P D vwCl [(h, .inr (8, [.ref h1, .ref h2, .ref h3, .int gst, .ref h4, .ref h5, .ref h6, .int gty, .int w75_0, .int w75_1, .int gsp, .ref h7, .ref h8, .int gtl])), (h1, .inl (cI, 190, .inl (walkZ 5000 z))), (h2, .inl (cI, 190, .inl g68_2))] H := hP
            have hD : va_D A [(h, .inr (8, [.ref h1, .ref h2, .ref h3, .int gst, .ref h4, .ref h5, .ref h6, .int gty, .int w75_0, .int w75_1, .int gsp, .ref h7, .ref h8, .int gtl])), (h1, .inl (cI, 190, .inl (walkZ 5000 z))), (h2, .inl (cI, 190, .inl g68_2))] := hD
            obtain ⟨g75_1, hg75_1⟩ : ∃ g, g = (walkZ 5000 z) := ⟨_, rfl⟩
            rw [← hg75_1] at hP hD
            have hP : va_P D vwCl [(h, .inr (8, [.ref h1, .ref h2, .ref h3, .int gst, .ref h4, .ref h5, .ref h6, .int gty, .int w75_0, .int w75_1, .int gsp, .ref h7, .ref h8, .int gtl])), (h1, .inl (cI, 190, .inl g75_1)), (h2, .inl (cI, 190, .inl g68_2))] H := hP
            have hD : va_D A [(h, .inr (8, [.ref h1, .ref h2, .ref h3, .int gst, .ref h4, .ref h5, .ref h6, .int gty, .int w75_0, .int w75_1, .int gsp, .ref h7, .ref h8, .int gtl])), (h1, .inl (cI, 190, .inl g75_1)), (h2, .inl (cI, 190, .inl g68_2))] := hD
            have p75 : r75.toInt = (walkN 5000 z : Int) := hw
            refine lv_pop hx hb dX8_untilWalked_78 rfl ?_
            refine lv_aload_n hx hb dX8_untilWalked_79 rfl (lv_at hl 1 rfl) ?_
            refine va_get (D := D) (ci := 8) (v := .ref h1) (C := RX8) (T := TX8) (N := 14) hx hb hts xin8 hown hK hP 0 rfl rfl 0 (by decide) (hts _ (List.mem_cons_of_mem _ mw_3_89)) (fun _ h9 => h9) rfl dX8_untilWalked_80 ?_
            refine lv_sipush (v := 188) hx hb dX8_untilWalked_83 (by decide) ?_
            refine va_iald hx hb hK hP 1 0 rfl rfl (xi_in (by decide) (by decide)) dX8_untilWalked_86 ?_
            refine xk_top (z := g75_1 188) rfl ?_
            refine lv_iconst (v := 1) hx hb dX8_untilWalked_87 (by decide) ?_
            refine lv_icmp_ne (tgt := 107) hx hb dX8_untilWalked_88 (by decide) (fun c88 => ?_) (fun c88 => ?_)
            · have t88 : ¬ (g75_1 188).toInt = 1 := xi_ne rfl (by decide) c88
              have d88 : ¬ (g75_1 188) = 1 := c88
              refine lv_bipush (v := (-6)) hx hb dX8_untilWalked_107 (by decide) ?_
              refine lv_istore_n (lv' := [(3, .int (-6)), (2, .int 186), (0, .ref h), (1, .int p1)]) hx hb dX8_untilWalked_109 rfl hl (by decide) rfl (fun ls hl => ?_)
              refine lv_aload_n hx hb dX8_untilWalked_110 rfl (lv_at hl 2 rfl) ?_
              refine va_get (D := D) (ci := 8) (v := .ref h2) (C := RX8) (T := TX8) (N := 14) hx hb hts xin8 hown hK hP 0 rfl rfl 1 (by decide) (hts _ (List.mem_cons_of_mem _ mw_3_90)) (fun _ h9 => h9) rfl dX8_untilWalked_111 ?_
              refine lv_iconst (v := 0) hx hb dX8_untilWalked_114 (by decide) ?_
              refine lv_aload_n hx hb dX8_untilWalked_115 rfl (lv_at hl 2 rfl) ?_
              refine va_get (D := D) (ci := 8) (v := .ref h1) (C := RX8) (T := TX8) (N := 14) hx hb hts xin8 hown hK hP 0 rfl rfl 0 (by decide) (hts _ (List.mem_cons_of_mem _ mw_3_89)) (fun _ h9 => h9) rfl dX8_untilWalked_116 ?_
              refine lv_iconst (v := 0) hx hb dX8_untilWalked_119 (by decide) ?_
              refine xk_Sv (As := [.ref h2, .int 0, .ref h1, .int 0]) (rest := []) hx hb hml hown hts hK hN hZ hP hD hS hA mb_X8_copyState mw_3_136 mw_3_137 (c_X8_copyState l D cI cZ cS h2 h1 190 190 g68_2 g75_1 (0 : Int32) (0 : Int32) (by first | omega | decide | assumption) (by first | omega | decide | assumption) (by first | omega | decide | assumption)) [2, 1] (by decide) rfl (fun _ => by simp only [List.map]) (by decide) (by decide) rfl hl.1 rfl (Nat.le_of_ble_eq_true rfl) dX8_untilWalked_120 ⟨Nat.zero_le _, Nat.zero_le _⟩ (fun _ H locs hw hP hD hS => ?_)
              have hP : va_P D vwCl [(h, .inr (8, [.ref h1, .ref h2, .ref h3, .int gst, .ref h4, .ref h5, .ref h6, .int gty, .int w75_0, .int w75_1, .int gsp, .ref h7, .ref h8, .int gtl])), (h1, .inl (cI, 190, .inl (va_cpy g68_2 g75_1 0 0 190))), (h2, .inl (cI, 190, .inl g68_2))] H := hP
              have hD : va_D A [(h, .inr (8, [.ref h1, .ref h2, .ref h3, .int gst, .ref h4, .ref h5, .ref h6, .int gty, .int w75_0, .int w75_1, .int gsp, .ref h7, .ref h8, .int gtl])), (h1, .inl (cI, 190, .inl (va_cpy g68_2 g75_1 0 0 190))), (h2, .inl (cI, 190, .inl g68_2))] := hD
              obtain ⟨g120_1, hg120_1⟩ : ∃ g, g = (va_cpy g68_2 g75_1 0 0 190) := ⟨_, rfl⟩
              rw [← hg120_1] at hP hD
              have hP : va_P D vwCl [(h, .inr (8, [.ref h1, .ref h2, .ref h3, .int gst, .ref h4, .ref h5, .ref h6, .int gty, .int w75_0, .int w75_1, .int gsp, .ref h7, .ref h8, .int gtl])), (h1, .inl (cI, 190, .inl g120_1)), (h2, .inl (cI, 190, .inl g68_2))] H := hP
              have hD : va_D A [(h, .inr (8, [.ref h1, .ref h2, .ref h3, .int gst, .ref h4, .ref h5, .ref h6, .int gty, .int w75_0, .int w75_1, .int gsp, .ref h7, .ref h8, .int gtl])), (h1, .inl (cI, 190, .inl g120_1)), (h2, .inl (cI, 190, .inl g68_2))] := hD
              have hP := xk_arr hP 1 z rfl (fun j hj => by rw [hg120_1, cpy_at _ _ hj, hg68_2, cpy_at _ _ hj])
              have hD := xk_arrD (e' := .inl (cI, 190, .inl z)) hD (k := 1) rfl
              have hP : va_P D vwCl [(h, .inr (8, [.ref h1, .ref h2, .ref h3, .int gst, .ref h4, .ref h5, .ref h6, .int gty, .int w75_0, .int w75_1, .int gsp, .ref h7, .ref h8, .int gtl])), (h1, .inl (cI, 190, .inl z)), (h2, .inl (cI, 190, .inl g68_2))] H := hP
              have hD : va_D A [(h, .inr (8, [.ref h1, .ref h2, .ref h3, .int gst, .ref h4, .ref h5, .ref h6, .int gty, .int w75_0, .int w75_1, .int gsp, .ref h7, .ref h8, .int gtl])), (h1, .inl (cI, 190, .inl z)), (h2, .inl (cI, 190, .inl g68_2))] := hD
              refine lv_iload_n hx hb dX8_untilWalked_123 rfl (lv_at hl 0 rfl) ?_
              exact xk_reti (g68_2, w75_0, w75_1) hx hb hr hlocks (xk_P hP (by rfl)) (by (try dsimp only); rw [untR, if_pos b3, if_pos b13, if_neg (by rw [← hg75_1]; exact d88)]) hS dX8_untilWalked_124 hQ
            · have t88 : (g75_1 188).toInt = 1 := xi_eq rfl (by decide) c88
              have d88 : (g75_1 188) = 1 := c88
              refine lv_aload_n hx hb dX8_untilWalked_91 rfl (lv_at hl 1 rfl) ?_
              refine va_get (D := D) (ci := 8) (v := .ref h1) (C := RX8) (T := TX8) (N := 14) hx hb hts xin8 hown hK hP 0 rfl rfl 0 (by decide) (hts _ (List.mem_cons_of_mem _ mw_3_89)) (fun _ h9 => h9) rfl dX8_untilWalked_92 ?_
              refine lv_iload_n hx hb dX8_untilWalked_95 rfl (lv_at hl 0 rfl) ?_
              refine va_iald hx hb hK hP 1 0 rfl rfl (xi_in (by decide) (by decide)) dX8_untilWalked_96 ?_
              refine xk_top (z := g75_1 186) rfl ?_
              refine lv_aload_n hx hb dX8_untilWalked_97 rfl (lv_at hl 1 rfl) ?_
              refine va_get (D := D) (ci := 8) (v := .ref h2) (C := RX8) (T := TX8) (N := 14) hx hb hts xin8 hown hK hP 0 rfl rfl 1 (by decide) (hts _ (List.mem_cons_of_mem _ mw_3_90)) (fun _ h9 => h9) rfl dX8_untilWalked_98 ?_
              refine lv_iload_n hx hb dX8_untilWalked_101 rfl (lv_at hl 0 rfl) ?_
              refine va_iald hx hb hK hP 2 0 rfl rfl (xi_in (by decide) (by decide)) dX8_untilWalked_102 ?_
              refine xk_top (z := g68_2 186) rfl ?_
              refine lv_isub hx hb dX8_untilWalked_103 ?_
              refine lv_topi (fun x103 e103 => ?_)
              refine lv_goto (tgt := 109) hx hb dX8_untilWalked_104 (by decide) ?_
              refine lv_istore_n (lv' := [(3, .int x103), (2, .int 186), (0, .ref h), (1, .int p1)]) hx hb dX8_untilWalked_109 rfl hl (by decide) rfl (fun ls hl => ?_)
              refine lv_aload_n hx hb dX8_untilWalked_110 rfl (lv_at hl 2 rfl) ?_
              refine va_get (D := D) (ci := 8) (v := .ref h2) (C := RX8) (T := TX8) (N := 14) hx hb hts xin8 hown hK hP 0 rfl rfl 1 (by decide) (hts _ (List.mem_cons_of_mem _ mw_3_90)) (fun _ h9 => h9) rfl dX8_untilWalked_111 ?_
              refine lv_iconst (v := 0) hx hb dX8_untilWalked_114 (by decide) ?_
              refine lv_aload_n hx hb dX8_untilWalked_115 rfl (lv_at hl 2 rfl) ?_
              refine va_get (D := D) (ci := 8) (v := .ref h1) (C := RX8) (T := TX8) (N := 14) hx hb hts xin8 hown hK hP 0 rfl rfl 0 (by decide) (hts _ (List.mem_cons_of_mem _ mw_3_89)) (fun _ h9 => h9) rfl dX8_untilWalked_116 ?_
              refine lv_iconst (v := 0) hx hb dX8_untilWalked_119 (by decide) ?_
              refine xk_Sv (As := [.ref h2, .int 0, .ref h1, .int 0]) (rest := []) hx hb hml hown hts hK hN hZ hP hD hS hA mb_X8_copyState mw_3_136 mw_3_137 (c_X8_copyState l D cI cZ cS h2 h1 190 190 g68_2 g75_1 (0 : Int32) (0 : Int32) (by first | omega | decide | assumption) (by first | omega | decide | assumption) (by first | omega | decide | assumption)) [2, 1] (by decide) rfl (fun _ => by simp only [List.map]) (by decide) (by decide) rfl hl.1 rfl (Nat.le_of_ble_eq_true rfl) dX8_untilWalked_120 ⟨Nat.zero_le _, Nat.zero_le _⟩ (fun _ H locs hw hP hD hS => ?_)
              have hP : va_P D vwCl [(h, .inr (8, [.ref h1, .ref h2, .ref h3, .int gst, .ref h4, .ref h5, .ref h6, .int gty, .int w75_0, .int w75_1, .int gsp, .ref h7, .ref h8, .int gtl])), (h1, .inl (cI, 190, .inl (va_cpy g68_2 g75_1 0 0 190))), (h2, .inl (cI, 190, .inl g68_2))] H := hP
              have hD : va_D A [(h, .inr (8, [.ref h1, .ref h2, .ref h3, .int gst, .ref h4, .ref h5, .ref h6, .int gty, .int w75_0, .int w75_1, .int gsp, .ref h7, .ref h8, .int gtl])), (h1, .inl (cI, 190, .inl (va_cpy g68_2 g75_1 0 0 190))), (h2, .inl (cI, 190, .inl g68_2))] := hD
              obtain ⟨g120_1, hg120_1⟩ : ∃ g, g = (va_cpy g68_2 g75_1 0 0 190) := ⟨_, rfl⟩
              rw [← hg120_1] at hP hD
              have hP : va_P D vwCl [(h, .inr (8, [.ref h1, .ref h2, .ref h3, .int gst, .ref h4, .ref h5, .ref h6, .int gty, .int w75_0, .int w75_1, .int gsp, .ref h7, .ref h8, .int gtl])), (h1, .inl (cI, 190, .inl g120_1)), (h2, .inl (cI, 190, .inl g68_2))] H := hP
              have hD : va_D A [(h, .inr (8, [.ref h1, .ref h2, .ref h3, .int gst, .ref h4, .ref h5, .ref h6, .int gty, .int w75_0, .int w75_1, .int gsp, .ref h7, .ref h8, .int gtl])), (h1, .inl (cI, 190, .inl g120_1)), (h2, .inl (cI, 190, .inl g68_2))] := hD
              have hP := xk_arr hP 1 z rfl (fun j hj => by rw [hg120_1, cpy_at _ _ hj, hg68_2, cpy_at _ _ hj])
              have hD := xk_arrD (e' := .inl (cI, 190, .inl z)) hD (k := 1) rfl
              have hP : va_P D vwCl [(h, .inr (8, [.ref h1, .ref h2, .ref h3, .int gst, .ref h4, .ref h5, .ref h6, .int gty, .int w75_0, .int w75_1, .int gsp, .ref h7, .ref h8, .int gtl])), (h1, .inl (cI, 190, .inl z)), (h2, .inl (cI, 190, .inl g68_2))] H := hP
              have hD : va_D A [(h, .inr (8, [.ref h1, .ref h2, .ref h3, .int gst, .ref h4, .ref h5, .ref h6, .int gty, .int w75_0, .int w75_1, .int gsp, .ref h7, .ref h8, .int gtl])), (h1, .inl (cI, 190, .inl z)), (h2, .inl (cI, 190, .inl g68_2))] := hD
              refine lv_iload_n hx hb dX8_untilWalked_123 rfl (lv_at hl 0 rfl) ?_
              exact xk_reti (g68_2, w75_0, w75_1) hx hb hr hlocks (xk_P hP (by rfl)) (by (try dsimp only); rw [untR, if_pos b3, if_pos b13, if_pos (by rw [← hg75_1]; exact d88), untW, if_neg d23, if_neg d34, if_neg d45, e103, ← hg75_1, hg68_2, cpy_at _ _ (by omega)]) hS dX8_untilWalked_124 hQ
          · have t45 : p1.toInt = 2 := xi_eq rfl (by decide) c45
            have d45 : p1 = 2 := c45
            refine lv_sipush (v := 185) hx hb dX8_untilWalked_48 (by decide) ?_
            refine lv_goto (tgt := 57) hx hb dX8_untilWalked_51 (by decide) ?_
            refine lv_istore_n (lv' := [(2, .int 185), (0, .ref h), (1, .int p1)]) hx hb dX8_untilWalked_57 rfl hl (by decide) rfl (fun ls hl => ?_)
            refine lv_aload_n hx hb dX8_untilWalked_58 rfl (lv_at hl 1 rfl) ?_
            refine va_get (D := D) (ci := 8) (v := .ref h1) (C := RX8) (T := TX8) (N := 14) hx hb hts xin8 hown hK hP 0 rfl rfl 0 (by decide) (hts _ (List.mem_cons_of_mem _ mw_3_89)) (fun _ h9 => h9) rfl dX8_untilWalked_59 ?_
            refine lv_iconst (v := 0) hx hb dX8_untilWalked_62 (by decide) ?_
            refine lv_aload_n hx hb dX8_untilWalked_63 rfl (lv_at hl 1 rfl) ?_
            refine va_get (D := D) (ci := 8) (v := .ref h2) (C := RX8) (T := TX8) (N := 14) hx hb hts xin8 hown hK hP 0 rfl rfl 1 (by decide) (hts _ (List.mem_cons_of_mem _ mw_3_90)) (fun _ h9 => h9) rfl dX8_untilWalked_64 ?_
            refine lv_iconst (v := 0) hx hb dX8_untilWalked_67 (by decide) ?_
            refine xk_Sv (As := [.ref h1, .int 0, .ref h2, .int 0]) (rest := []) hx hb hml hown hts hK hN hZ hP hD hS hA mb_X8_copyState mw_3_136 mw_3_137 (c_X8_copyState l D cI cZ cS h1 h2 190 190 z spare (0 : Int32) (0 : Int32) (by first | omega | decide | assumption) (by first | omega | decide | assumption) (by first | omega | decide | assumption)) [1, 2] (by decide) rfl (fun _ => by simp only [List.map]) (by decide) (by decide) rfl hl.1 rfl (Nat.le_of_ble_eq_true rfl) dX8_untilWalked_68 ⟨Nat.zero_le _, Nat.zero_le _⟩ (fun _ H locs hw hP hD hS => ?_)
            have hP : va_P D vwCl [(h, .inr (8, [.ref h1, .ref h2, .ref h3, .int gst, .ref h4, .ref h5, .ref h6, .int gty, .int gse, .int gte, .int gsp, .ref h7, .ref h8, .int gtl])), (h1, .inl (cI, 190, .inl z)), (h2, .inl (cI, 190, .inl (va_cpy z spare 0 0 190)))] H := hP
            have hD : va_D A [(h, .inr (8, [.ref h1, .ref h2, .ref h3, .int gst, .ref h4, .ref h5, .ref h6, .int gty, .int gse, .int gte, .int gsp, .ref h7, .ref h8, .int gtl])), (h1, .inl (cI, 190, .inl z)), (h2, .inl (cI, 190, .inl (va_cpy z spare 0 0 190)))] := hD
            obtain ⟨g68_2, hg68_2⟩ : ∃ g, g = (va_cpy z spare 0 0 190) := ⟨_, rfl⟩
            rw [← hg68_2] at hP hD
            have hP : va_P D vwCl [(h, .inr (8, [.ref h1, .ref h2, .ref h3, .int gst, .ref h4, .ref h5, .ref h6, .int gty, .int gse, .int gte, .int gsp, .ref h7, .ref h8, .int gtl])), (h1, .inl (cI, 190, .inl z)), (h2, .inl (cI, 190, .inl g68_2))] H := hP
            have hD : va_D A [(h, .inr (8, [.ref h1, .ref h2, .ref h3, .int gst, .ref h4, .ref h5, .ref h6, .int gty, .int gse, .int gte, .int gsp, .ref h7, .ref h8, .int gtl])), (h1, .inl (cI, 190, .inl z)), (h2, .inl (cI, 190, .inl g68_2))] := hD
            refine lv_aload_n hx hb dX8_untilWalked_71 rfl (lv_at hl 1 rfl) ?_
            refine lv_sipush (v := 5000) hx hb dX8_untilWalked_72 (by decide) ?_
            refine xk_Vi (As := [.int 5000]) (rest := []) hx hb hml hown hts hK hN hZ hP hD hS hA mb_X8_marchNow mw_3_162 mw_3_164 mw_0_8 (c_X8_marchNow l D cI cZ cS h h1 h2 h3 h4 h5 h6 h7 h8 gst gty gse gte gsp gtl z (5000 : Int32) (by decide) (by exact hI) (by exact b13)) [0, 1] 0 8 rfl rfl (by decide) rfl (fun _ => by simp only [List.map]) (by decide) (by decide) rfl hl.1 rfl (Nat.le_of_ble_eq_true rfl) dX8_untilWalked_75 ⟨Nat.zero_le _, Nat.zero_le _⟩ (fun r75 u75 H locs hw hP hD hS => ?_)
            obtain ⟨w75_0, w75_1⟩ := u75
            have hP : va_P D vwCl [(h, .inr (8, [.ref h1, .ref h2, .ref h3, .int gst, .ref h4, .ref h5, .ref h6, .int gty, .int w75_0, .int w75_1, .int gsp, .ref h7, .ref h8, .int gtl])), (h1, .inl (cI, 190, .inl (walkZ 5000 z))), (h2, .inl (cI, 190, .inl g68_2))] H := hP
            have hD : va_D A [(h, .inr (8, [.ref h1, .ref h2, .ref h3, .int gst, .ref h4, .ref h5, .ref h6, .int gty, .int w75_0, .int w75_1, .int gsp, .ref h7, .ref h8, .int gtl])), (h1, .inl (cI, 190, .inl (walkZ 5000 z))), (h2, .inl (cI, 190, .inl g68_2))] := hD
            obtain ⟨g75_1, hg75_1⟩ : ∃ g, g = (walkZ 5000 z) := ⟨_, rfl⟩
            rw [← hg75_1] at hP hD
            have hP : va_P D vwCl [(h, .inr (8, [.ref h1, .ref h2, .ref h3, .int gst, .ref h4, .ref h5, .ref h6, .int gty, .int w75_0, .int w75_1, .int gsp, .ref h7, .ref h8, .int gtl])), (h1, .inl (cI, 190, .inl g75_1)), (h2, .inl (cI, 190, .inl g68_2))] H := hP
            have hD : va_D A [(h, .inr (8, [.ref h1, .ref h2, .ref h3, .int gst, .ref h4, .ref h5, .ref h6, .int gty, .int w75_0, .int w75_1, .int gsp, .ref h7, .ref h8, .int gtl])), (h1, .inl (cI, 190, .inl g75_1)), (h2, .inl (cI, 190, .inl g68_2))] := hD
            have p75 : r75.toInt = (walkN 5000 z : Int) := hw
            refine lv_pop hx hb dX8_untilWalked_78 rfl ?_
            refine lv_aload_n hx hb dX8_untilWalked_79 rfl (lv_at hl 1 rfl) ?_
            refine va_get (D := D) (ci := 8) (v := .ref h1) (C := RX8) (T := TX8) (N := 14) hx hb hts xin8 hown hK hP 0 rfl rfl 0 (by decide) (hts _ (List.mem_cons_of_mem _ mw_3_89)) (fun _ h9 => h9) rfl dX8_untilWalked_80 ?_
            refine lv_sipush (v := 188) hx hb dX8_untilWalked_83 (by decide) ?_
            refine va_iald hx hb hK hP 1 0 rfl rfl (xi_in (by decide) (by decide)) dX8_untilWalked_86 ?_
            refine xk_top (z := g75_1 188) rfl ?_
            refine lv_iconst (v := 1) hx hb dX8_untilWalked_87 (by decide) ?_
            refine lv_icmp_ne (tgt := 107) hx hb dX8_untilWalked_88 (by decide) (fun c88 => ?_) (fun c88 => ?_)
            · have t88 : ¬ (g75_1 188).toInt = 1 := xi_ne rfl (by decide) c88
              have d88 : ¬ (g75_1 188) = 1 := c88
              refine lv_bipush (v := (-6)) hx hb dX8_untilWalked_107 (by decide) ?_
              refine lv_istore_n (lv' := [(3, .int (-6)), (2, .int 185), (0, .ref h), (1, .int p1)]) hx hb dX8_untilWalked_109 rfl hl (by decide) rfl (fun ls hl => ?_)
              refine lv_aload_n hx hb dX8_untilWalked_110 rfl (lv_at hl 2 rfl) ?_
              refine va_get (D := D) (ci := 8) (v := .ref h2) (C := RX8) (T := TX8) (N := 14) hx hb hts xin8 hown hK hP 0 rfl rfl 1 (by decide) (hts _ (List.mem_cons_of_mem _ mw_3_90)) (fun _ h9 => h9) rfl dX8_untilWalked_111 ?_
              refine lv_iconst (v := 0) hx hb dX8_untilWalked_114 (by decide) ?_
              refine lv_aload_n hx hb dX8_untilWalked_115 rfl (lv_at hl 2 rfl) ?_
              refine va_get (D := D) (ci := 8) (v := .ref h1) (C := RX8) (T := TX8) (N := 14) hx hb hts xin8 hown hK hP 0 rfl rfl 0 (by decide) (hts _ (List.mem_cons_of_mem _ mw_3_89)) (fun _ h9 => h9) rfl dX8_untilWalked_116 ?_
              refine lv_iconst (v := 0) hx hb dX8_untilWalked_119 (by decide) ?_
              refine xk_Sv (As := [.ref h2, .int 0, .ref h1, .int 0]) (rest := []) hx hb hml hown hts hK hN hZ hP hD hS hA mb_X8_copyState mw_3_136 mw_3_137 (c_X8_copyState l D cI cZ cS h2 h1 190 190 g68_2 g75_1 (0 : Int32) (0 : Int32) (by first | omega | decide | assumption) (by first | omega | decide | assumption) (by first | omega | decide | assumption)) [2, 1] (by decide) rfl (fun _ => by simp only [List.map]) (by decide) (by decide) rfl hl.1 rfl (Nat.le_of_ble_eq_true rfl) dX8_untilWalked_120 ⟨Nat.zero_le _, Nat.zero_le _⟩ (fun _ H locs hw hP hD hS => ?_)
              have hP : va_P D vwCl [(h, .inr (8, [.ref h1, .ref h2, .ref h3, .int gst, .ref h4, .ref h5, .ref h6, .int gty, .int w75_0, .int w75_1, .int gsp, .ref h7, .ref h8, .int gtl])), (h1, .inl (cI, 190, .inl (va_cpy g68_2 g75_1 0 0 190))), (h2, .inl (cI, 190, .inl g68_2))] H := hP
              have hD : va_D A [(h, .inr (8, [.ref h1, .ref h2, .ref h3, .int gst, .ref h4, .ref h5, .ref h6, .int gty, .int w75_0, .int w75_1, .int gsp, .ref h7, .ref h8, .int gtl])), (h1, .inl (cI, 190, .inl (va_cpy g68_2 g75_1 0 0 190))), (h2, .inl (cI, 190, .inl g68_2))] := hD
              obtain ⟨g120_1, hg120_1⟩ : ∃ g, g = (va_cpy g68_2 g75_1 0 0 190) := ⟨_, rfl⟩
              rw [← hg120_1] at hP hD
              have hP : va_P D vwCl [(h, .inr (8, [.ref h1, .ref h2, .ref h3, .int gst, .ref h4, .ref h5, .ref h6, .int gty, .int w75_0, .int w75_1, .int gsp, .ref h7, .ref h8, .int gtl])), (h1, .inl (cI, 190, .inl g120_1)), (h2, .inl (cI, 190, .inl g68_2))] H := hP
              have hD : va_D A [(h, .inr (8, [.ref h1, .ref h2, .ref h3, .int gst, .ref h4, .ref h5, .ref h6, .int gty, .int w75_0, .int w75_1, .int gsp, .ref h7, .ref h8, .int gtl])), (h1, .inl (cI, 190, .inl g120_1)), (h2, .inl (cI, 190, .inl g68_2))] := hD
              have hP := xk_arr hP 1 z rfl (fun j hj => by rw [hg120_1, cpy_at _ _ hj, hg68_2, cpy_at _ _ hj])
              have hD := xk_arrD (e' := .inl (cI, 190, .inl z)) hD (k := 1) rfl
              have hP : va_P D vwCl [(h, .inr (8, [.ref h1, .ref h2, .ref h3, .int gst, .ref h4, .ref h5, .ref h6, .int gty, .int w75_0, .int w75_1, .int gsp, .ref h7, .ref h8, .int gtl])), (h1, .inl (cI, 190, .inl z)), (h2, .inl (cI, 190, .inl g68_2))] H := hP
              have hD : va_D A [(h, .inr (8, [.ref h1, .ref h2, .ref h3, .int gst, .ref h4, .ref h5, .ref h6, .int gty, .int w75_0, .int w75_1, .int gsp, .ref h7, .ref h8, .int gtl])), (h1, .inl (cI, 190, .inl z)), (h2, .inl (cI, 190, .inl g68_2))] := hD
              refine lv_iload_n hx hb dX8_untilWalked_123 rfl (lv_at hl 0 rfl) ?_
              exact xk_reti (g68_2, w75_0, w75_1) hx hb hr hlocks (xk_P hP (by rfl)) (by (try dsimp only); rw [untR, if_pos b3, if_pos b13, if_neg (by rw [← hg75_1]; exact d88)]) hS dX8_untilWalked_124 hQ
            · have t88 : (g75_1 188).toInt = 1 := xi_eq rfl (by decide) c88
              have d88 : (g75_1 188) = 1 := c88
              refine lv_aload_n hx hb dX8_untilWalked_91 rfl (lv_at hl 1 rfl) ?_
              refine va_get (D := D) (ci := 8) (v := .ref h1) (C := RX8) (T := TX8) (N := 14) hx hb hts xin8 hown hK hP 0 rfl rfl 0 (by decide) (hts _ (List.mem_cons_of_mem _ mw_3_89)) (fun _ h9 => h9) rfl dX8_untilWalked_92 ?_
              refine lv_iload_n hx hb dX8_untilWalked_95 rfl (lv_at hl 0 rfl) ?_
              refine va_iald hx hb hK hP 1 0 rfl rfl (xi_in (by decide) (by decide)) dX8_untilWalked_96 ?_
              refine xk_top (z := g75_1 185) rfl ?_
              refine lv_aload_n hx hb dX8_untilWalked_97 rfl (lv_at hl 1 rfl) ?_
              refine va_get (D := D) (ci := 8) (v := .ref h2) (C := RX8) (T := TX8) (N := 14) hx hb hts xin8 hown hK hP 0 rfl rfl 1 (by decide) (hts _ (List.mem_cons_of_mem _ mw_3_90)) (fun _ h9 => h9) rfl dX8_untilWalked_98 ?_
              refine lv_iload_n hx hb dX8_untilWalked_101 rfl (lv_at hl 0 rfl) ?_
              refine va_iald hx hb hK hP 2 0 rfl rfl (xi_in (by decide) (by decide)) dX8_untilWalked_102 ?_
              refine xk_top (z := g68_2 185) rfl ?_
              refine lv_isub hx hb dX8_untilWalked_103 ?_
              refine lv_topi (fun x103 e103 => ?_)
              refine lv_goto (tgt := 109) hx hb dX8_untilWalked_104 (by decide) ?_
              refine lv_istore_n (lv' := [(3, .int x103), (2, .int 185), (0, .ref h), (1, .int p1)]) hx hb dX8_untilWalked_109 rfl hl (by decide) rfl (fun ls hl => ?_)
              refine lv_aload_n hx hb dX8_untilWalked_110 rfl (lv_at hl 2 rfl) ?_
              refine va_get (D := D) (ci := 8) (v := .ref h2) (C := RX8) (T := TX8) (N := 14) hx hb hts xin8 hown hK hP 0 rfl rfl 1 (by decide) (hts _ (List.mem_cons_of_mem _ mw_3_90)) (fun _ h9 => h9) rfl dX8_untilWalked_111 ?_
              refine lv_iconst (v := 0) hx hb dX8_untilWalked_114 (by decide) ?_
              refine lv_aload_n hx hb dX8_untilWalked_115 rfl (lv_at hl 2 rfl) ?_
              refine va_get (D := D) (ci := 8) (v := .ref h1) (C := RX8) (T := TX8) (N := 14) hx hb hts xin8 hown hK hP 0 rfl rfl 0 (by decide) (hts _ (List.mem_cons_of_mem _ mw_3_89)) (fun _ h9 => h9) rfl dX8_untilWalked_116 ?_
              refine lv_iconst (v := 0) hx hb dX8_untilWalked_119 (by decide) ?_
              refine xk_Sv (As := [.ref h2, .int 0, .ref h1, .int 0]) (rest := []) hx hb hml hown hts hK hN hZ hP hD hS hA mb_X8_copyState mw_3_136 mw_3_137 (c_X8_copyState l D cI cZ cS h2 h1 190 190 g68_2 g75_1 (0 : Int32) (0 : Int32) (by first | omega | decide | assumption) (by first | omega | decide | assumption) (by first | omega | decide | assumption)) [2, 1] (by decide) rfl (fun _ => by simp only [List.map]) (by decide) (by decide) rfl hl.1 rfl (Nat.le_of_ble_eq_true rfl) dX8_untilWalked_120 ⟨Nat.zero_le _, Nat.zero_le _⟩ (fun _ H locs hw hP hD hS => ?_)
              have hP : va_P D vwCl [(h, .inr (8, [.ref h1, .ref h2, .ref h3, .int gst, .ref h4, .ref h5, .ref h6, .int gty, .int w75_0, .int w75_1, .int gsp, .ref h7, .ref h8, .int gtl])), (h1, .inl (cI, 190, .inl (va_cpy g68_2 g75_1 0 0 190))), (h2, .inl (cI, 190, .inl g68_2))] H := hP
              have hD : va_D A [(h, .inr (8, [.ref h1, .ref h2, .ref h3, .int gst, .ref h4, .ref h5, .ref h6, .int gty, .int w75_0, .int w75_1, .int gsp, .ref h7, .ref h8, .int gtl])), (h1, .inl (cI, 190, .inl (va_cpy g68_2 g75_1 0 0 190))), (h2, .inl (cI, 190, .inl g68_2))] := hD
              obtain ⟨g120_1, hg120_1⟩ : ∃ g, g = (va_cpy g68_2 g75_1 0 0 190) := ⟨_, rfl⟩
              rw [← hg120_1] at hP hD
              have hP : va_P D vwCl [(h, .inr (8, [.ref h1, .ref h2, .ref h3, .int gst, .ref h4, .ref h5, .ref h6, .int gty, .int w75_0, .int w75_1, .int gsp, .ref h7, .ref h8, .int gtl])), (h1, .inl (cI, 190, .inl g120_1)), (h2, .inl (cI, 190, .inl g68_2))] H := hP
              have hD : va_D A [(h, .inr (8, [.ref h1, .ref h2, .ref h3, .int gst, .ref h4, .ref h5, .ref h6, .int gty, .int w75_0, .int w75_1, .int gsp, .ref h7, .ref h8, .int gtl])), (h1, .inl (cI, 190, .inl g120_1)), (h2, .inl (cI, 190, .inl g68_2))] := hD
              have hP := xk_arr hP 1 z rfl (fun j hj => by rw [hg120_1, cpy_at _ _ hj, hg68_2, cpy_at _ _ hj])
              have hD := xk_arrD (e' := .inl (cI, 190, .inl z)) hD (k := 1) rfl
              have hP : va_P D vwCl [(h, .inr (8, [.ref h1, .ref h2, .ref h3, .int gst, .ref h4, .ref h5, .ref h6, .int gty, .int w75_0, .int w75_1, .int gsp, .ref h7, .ref h8, .int gtl])), (h1, .inl (cI, 190, .inl z)), (h2, .inl (cI, 190, .inl g68_2))] H := hP
              have hD : va_D A [(h, .inr (8, [.ref h1, .ref h2, .ref h3, .int gst, .ref h4, .ref h5, .ref h6, .int gty, .int w75_0, .int w75_1, .int gsp, .ref h7, .ref h8, .int gtl])), (h1, .inl (cI, 190, .inl z)), (h2, .inl (cI, 190, .inl g68_2))] := hD
              refine lv_iload_n hx hb dX8_untilWalked_123 rfl (lv_at hl 0 rfl) ?_
              exact xk_reti (g68_2, w75_0, w75_1) hx hb hr hlocks (xk_P hP (by rfl)) (by (try dsimp only); rw [untR, if_pos b3, if_pos b13, if_pos (by rw [← hg75_1]; exact d88), untW, if_neg d23, if_neg d34, if_pos d45, e103, ← hg75_1, hg68_2, cpy_at _ _ (by omega)]) hS dX8_untilWalked_124 hQ
        · have t34 : p1.toInt = 1 := xi_eq rfl (by decide) c34
          have d34 : p1 = 1 := c34
          refine lv_sipush (v := 175) hx hb dX8_untilWalked_37 (by decide) ?_
          refine lv_goto (tgt := 57) hx hb dX8_untilWalked_40 (by decide) ?_
          refine lv_istore_n (lv' := [(2, .int 175), (0, .ref h), (1, .int p1)]) hx hb dX8_untilWalked_57 rfl hl (by decide) rfl (fun ls hl => ?_)
          refine lv_aload_n hx hb dX8_untilWalked_58 rfl (lv_at hl 1 rfl) ?_
          refine va_get (D := D) (ci := 8) (v := .ref h1) (C := RX8) (T := TX8) (N := 14) hx hb hts xin8 hown hK hP 0 rfl rfl 0 (by decide) (hts _ (List.mem_cons_of_mem _ mw_3_89)) (fun _ h9 => h9) rfl dX8_untilWalked_59 ?_
          refine lv_iconst (v := 0) hx hb dX8_untilWalked_62 (by decide) ?_
          refine lv_aload_n hx hb dX8_untilWalked_63 rfl (lv_at hl 1 rfl) ?_
          refine va_get (D := D) (ci := 8) (v := .ref h2) (C := RX8) (T := TX8) (N := 14) hx hb hts xin8 hown hK hP 0 rfl rfl 1 (by decide) (hts _ (List.mem_cons_of_mem _ mw_3_90)) (fun _ h9 => h9) rfl dX8_untilWalked_64 ?_
          refine lv_iconst (v := 0) hx hb dX8_untilWalked_67 (by decide) ?_
          refine xk_Sv (As := [.ref h1, .int 0, .ref h2, .int 0]) (rest := []) hx hb hml hown hts hK hN hZ hP hD hS hA mb_X8_copyState mw_3_136 mw_3_137 (c_X8_copyState l D cI cZ cS h1 h2 190 190 z spare (0 : Int32) (0 : Int32) (by first | omega | decide | assumption) (by first | omega | decide | assumption) (by first | omega | decide | assumption)) [1, 2] (by decide) rfl (fun _ => by simp only [List.map]) (by decide) (by decide) rfl hl.1 rfl (Nat.le_of_ble_eq_true rfl) dX8_untilWalked_68 ⟨Nat.zero_le _, Nat.zero_le _⟩ (fun _ H locs hw hP hD hS => ?_)
          have hP : va_P D vwCl [(h, .inr (8, [.ref h1, .ref h2, .ref h3, .int gst, .ref h4, .ref h5, .ref h6, .int gty, .int gse, .int gte, .int gsp, .ref h7, .ref h8, .int gtl])), (h1, .inl (cI, 190, .inl z)), (h2, .inl (cI, 190, .inl (va_cpy z spare 0 0 190)))] H := hP
          have hD : va_D A [(h, .inr (8, [.ref h1, .ref h2, .ref h3, .int gst, .ref h4, .ref h5, .ref h6, .int gty, .int gse, .int gte, .int gsp, .ref h7, .ref h8, .int gtl])), (h1, .inl (cI, 190, .inl z)), (h2, .inl (cI, 190, .inl (va_cpy z spare 0 0 190)))] := hD
          obtain ⟨g68_2, hg68_2⟩ : ∃ g, g = (va_cpy z spare 0 0 190) := ⟨_, rfl⟩
          rw [← hg68_2] at hP hD
          have hP : va_P D vwCl [(h, .inr (8, [.ref h1, .ref h2, .ref h3, .int gst, .ref h4, .ref h5, .ref h6, .int gty, .int gse, .int gte, .int gsp, .ref h7, .ref h8, .int gtl])), (h1, .inl (cI, 190, .inl z)), (h2, .inl (cI, 190, .inl g68_2))] H := hP
          have hD : va_D A [(h, .inr (8, [.ref h1, .ref h2, .ref h3, .int gst, .ref h4, .ref h5, .ref h6, .int gty, .int gse, .int gte, .int gsp, .ref h7, .ref h8, .int gtl])), (h1, .inl (cI, 190, .inl z)), (h2, .inl (cI, 190, .inl g68_2))] := hD
          refine lv_aload_n hx hb dX8_untilWalked_71 rfl (lv_at hl 1 rfl) ?_
          refine lv_sipush (v := 5000) hx hb dX8_untilWalked_72 (by decide) ?_
          refine xk_Vi (As := [.int 5000]) (rest := []) hx hb hml hown hts hK hN hZ hP hD hS hA mb_X8_marchNow mw_3_162 mw_3_164 mw_0_8 (c_X8_marchNow l D cI cZ cS h h1 h2 h3 h4 h5 h6 h7 h8 gst gty gse gte gsp gtl z (5000 : Int32) (by decide) (by exact hI) (by exact b13)) [0, 1] 0 8 rfl rfl (by decide) rfl (fun _ => by simp only [List.map]) (by decide) (by decide) rfl hl.1 rfl (Nat.le_of_ble_eq_true rfl) dX8_untilWalked_75 ⟨Nat.zero_le _, Nat.zero_le _⟩ (fun r75 u75 H locs hw hP hD hS => ?_)
          obtain ⟨w75_0, w75_1⟩ := u75
          have hP : va_P D vwCl [(h, .inr (8, [.ref h1, .ref h2, .ref h3, .int gst, .ref h4, .ref h5, .ref h6, .int gty, .int w75_0, .int w75_1, .int gsp, .ref h7, .ref h8, .int gtl])), (h1, .inl (cI, 190, .inl (walkZ 5000 z))), (h2, .inl (cI, 190, .inl g68_2))] H := hP
          have hD : va_D A [(h, .inr (8, [.ref h1, .ref h2, .ref h3, .int gst, .ref h4, .ref h5, .ref h6, .int gty, .int w75_0, .int w75_1, .int gsp, .ref h7, .ref h8, .int gtl])), (h1, .inl (cI, 190, .inl (walkZ 5000 z))), (h2, .inl (cI, 190, .inl g68_2))] := hD
          obtain ⟨g75_1, hg75_1⟩ : ∃ g, g = (walkZ 5000 z) := ⟨_, rfl⟩
          rw [← hg75_1] at hP hD
          have hP : va_P D vwCl [(h, .inr (8, [.ref h1, .ref h2, .ref h3, .int gst, .ref h4, .ref h5, .ref h6, .int gty, .int w75_0, .int w75_1, .int gsp, .ref h7, .ref h8, .int gtl])), (h1, .inl (cI, 190, .inl g75_1)), (h2, .inl (cI, 190, .inl g68_2))] H := hP
          have hD : va_D A [(h, .inr (8, [.ref h1, .ref h2, .ref h3, .int gst, .ref h4, .ref h5, .ref h6, .int gty, .int w75_0, .int w75_1, .int gsp, .ref h7, .ref h8, .int gtl])), (h1, .inl (cI, 190, .inl g75_1)), (h2, .inl (cI, 190, .inl g68_2))] := hD
          have p75 : r75.toInt = (walkN 5000 z : Int) := hw
          refine lv_pop hx hb dX8_untilWalked_78 rfl ?_
          refine lv_aload_n hx hb dX8_untilWalked_79 rfl (lv_at hl 1 rfl) ?_
          refine va_get (D := D) (ci := 8) (v := .ref h1) (C := RX8) (T := TX8) (N := 14) hx hb hts xin8 hown hK hP 0 rfl rfl 0 (by decide) (hts _ (List.mem_cons_of_mem _ mw_3_89)) (fun _ h9 => h9) rfl dX8_untilWalked_80 ?_
          refine lv_sipush (v := 188) hx hb dX8_untilWalked_83 (by decide) ?_
          refine va_iald hx hb hK hP 1 0 rfl rfl (xi_in (by decide) (by decide)) dX8_untilWalked_86 ?_
          refine xk_top (z := g75_1 188) rfl ?_
          refine lv_iconst (v := 1) hx hb dX8_untilWalked_87 (by decide) ?_
          refine lv_icmp_ne (tgt := 107) hx hb dX8_untilWalked_88 (by decide) (fun c88 => ?_) (fun c88 => ?_)
          · have t88 : ¬ (g75_1 188).toInt = 1 := xi_ne rfl (by decide) c88
            have d88 : ¬ (g75_1 188) = 1 := c88
            refine lv_bipush (v := (-6)) hx hb dX8_untilWalked_107 (by decide) ?_
            refine lv_istore_n (lv' := [(3, .int (-6)), (2, .int 175), (0, .ref h), (1, .int p1)]) hx hb dX8_untilWalked_109 rfl hl (by decide) rfl (fun ls hl => ?_)
            refine lv_aload_n hx hb dX8_untilWalked_110 rfl (lv_at hl 2 rfl) ?_
            refine va_get (D := D) (ci := 8) (v := .ref h2) (C := RX8) (T := TX8) (N := 14) hx hb hts xin8 hown hK hP 0 rfl rfl 1 (by decide) (hts _ (List.mem_cons_of_mem _ mw_3_90)) (fun _ h9 => h9) rfl dX8_untilWalked_111 ?_
            refine lv_iconst (v := 0) hx hb dX8_untilWalked_114 (by decide) ?_
            refine lv_aload_n hx hb dX8_untilWalked_115 rfl (lv_at hl 2 rfl) ?_
            refine va_get (D := D) (ci := 8) (v := .ref h1) (C := RX8) (T := TX8) (N := 14) hx hb hts xin8 hown hK hP 0 rfl rfl 0 (by decide) (hts _ (List.mem_cons_of_mem _ mw_3_89)) (fun _ h9 => h9) rfl dX8_untilWalked_116 ?_
            refine lv_iconst (v := 0) hx hb dX8_untilWalked_119 (by decide) ?_
            refine xk_Sv (As := [.ref h2, .int 0, .ref h1, .int 0]) (rest := []) hx hb hml hown hts hK hN hZ hP hD hS hA mb_X8_copyState mw_3_136 mw_3_137 (c_X8_copyState l D cI cZ cS h2 h1 190 190 g68_2 g75_1 (0 : Int32) (0 : Int32) (by first | omega | decide | assumption) (by first | omega | decide | assumption) (by first | omega | decide | assumption)) [2, 1] (by decide) rfl (fun _ => by simp only [List.map]) (by decide) (by decide) rfl hl.1 rfl (Nat.le_of_ble_eq_true rfl) dX8_untilWalked_120 ⟨Nat.zero_le _, Nat.zero_le _⟩ (fun _ H locs hw hP hD hS => ?_)
            have hP : va_P D vwCl [(h, .inr (8, [.ref h1, .ref h2, .ref h3, .int gst, .ref h4, .ref h5, .ref h6, .int gty, .int w75_0, .int w75_1, .int gsp, .ref h7, .ref h8, .int gtl])), (h1, .inl (cI, 190, .inl (va_cpy g68_2 g75_1 0 0 190))), (h2, .inl (cI, 190, .inl g68_2))] H := hP
            have hD : va_D A [(h, .inr (8, [.ref h1, .ref h2, .ref h3, .int gst, .ref h4, .ref h5, .ref h6, .int gty, .int w75_0, .int w75_1, .int gsp, .ref h7, .ref h8, .int gtl])), (h1, .inl (cI, 190, .inl (va_cpy g68_2 g75_1 0 0 190))), (h2, .inl (cI, 190, .inl g68_2))] := hD
            obtain ⟨g120_1, hg120_1⟩ : ∃ g, g = (va_cpy g68_2 g75_1 0 0 190) := ⟨_, rfl⟩
            rw [← hg120_1] at hP hD
            have hP : va_P D vwCl [(h, .inr (8, [.ref h1, .ref h2, .ref h3, .int gst, .ref h4, .ref h5, .ref h6, .int gty, .int w75_0, .int w75_1, .int gsp, .ref h7, .ref h8, .int gtl])), (h1, .inl (cI, 190, .inl g120_1)), (h2, .inl (cI, 190, .inl g68_2))] H := hP
            have hD : va_D A [(h, .inr (8, [.ref h1, .ref h2, .ref h3, .int gst, .ref h4, .ref h5, .ref h6, .int gty, .int w75_0, .int w75_1, .int gsp, .ref h7, .ref h8, .int gtl])), (h1, .inl (cI, 190, .inl g120_1)), (h2, .inl (cI, 190, .inl g68_2))] := hD
            have hP := xk_arr hP 1 z rfl (fun j hj => by rw [hg120_1, cpy_at _ _ hj, hg68_2, cpy_at _ _ hj])
            have hD := xk_arrD (e' := .inl (cI, 190, .inl z)) hD (k := 1) rfl
            have hP : va_P D vwCl [(h, .inr (8, [.ref h1, .ref h2, .ref h3, .int gst, .ref h4, .ref h5, .ref h6, .int gty, .int w75_0, .int w75_1, .int gsp, .ref h7, .ref h8, .int gtl])), (h1, .inl (cI, 190, .inl z)), (h2, .inl (cI, 190, .inl g68_2))] H := hP
            have hD : va_D A [(h, .inr (8, [.ref h1, .ref h2, .ref h3, .int gst, .ref h4, .ref h5, .ref h6, .int gty, .int w75_0, .int w75_1, .int gsp, .ref h7, .ref h8, .int gtl])), (h1, .inl (cI, 190, .inl z)), (h2, .inl (cI, 190, .inl g68_2))] := hD
            refine lv_iload_n hx hb dX8_untilWalked_123 rfl (lv_at hl 0 rfl) ?_
            exact xk_reti (g68_2, w75_0, w75_1) hx hb hr hlocks (xk_P hP (by rfl)) (by (try dsimp only); rw [untR, if_pos b3, if_pos b13, if_neg (by rw [← hg75_1]; exact d88)]) hS dX8_untilWalked_124 hQ
          · have t88 : (g75_1 188).toInt = 1 := xi_eq rfl (by decide) c88
            have d88 : (g75_1 188) = 1 := c88
            refine lv_aload_n hx hb dX8_untilWalked_91 rfl (lv_at hl 1 rfl) ?_
            refine va_get (D := D) (ci := 8) (v := .ref h1) (C := RX8) (T := TX8) (N := 14) hx hb hts xin8 hown hK hP 0 rfl rfl 0 (by decide) (hts _ (List.mem_cons_of_mem _ mw_3_89)) (fun _ h9 => h9) rfl dX8_untilWalked_92 ?_
            refine lv_iload_n hx hb dX8_untilWalked_95 rfl (lv_at hl 0 rfl) ?_
            refine va_iald hx hb hK hP 1 0 rfl rfl (xi_in (by decide) (by decide)) dX8_untilWalked_96 ?_
            refine xk_top (z := g75_1 175) rfl ?_
            refine lv_aload_n hx hb dX8_untilWalked_97 rfl (lv_at hl 1 rfl) ?_
            refine va_get (D := D) (ci := 8) (v := .ref h2) (C := RX8) (T := TX8) (N := 14) hx hb hts xin8 hown hK hP 0 rfl rfl 1 (by decide) (hts _ (List.mem_cons_of_mem _ mw_3_90)) (fun _ h9 => h9) rfl dX8_untilWalked_98 ?_
            refine lv_iload_n hx hb dX8_untilWalked_101 rfl (lv_at hl 0 rfl) ?_
            refine va_iald hx hb hK hP 2 0 rfl rfl (xi_in (by decide) (by decide)) dX8_untilWalked_102 ?_
            refine xk_top (z := g68_2 175) rfl ?_
            refine lv_isub hx hb dX8_untilWalked_103 ?_
            refine lv_topi (fun x103 e103 => ?_)
            refine lv_goto (tgt := 109) hx hb dX8_untilWalked_104 (by decide) ?_
            refine lv_istore_n (lv' := [(3, .int x103), (2, .int 175), (0, .ref h), (1, .int p1)]) hx hb dX8_untilWalked_109 rfl hl (by decide) rfl (fun ls hl => ?_)
            refine lv_aload_n hx hb dX8_untilWalked_110 rfl (lv_at hl 2 rfl) ?_
            refine va_get (D := D) (ci := 8) (v := .ref h2) (C := RX8) (T := TX8) (N := 14) hx hb hts xin8 hown hK hP 0 rfl rfl 1 (by decide) (hts _ (List.mem_cons_of_mem _ mw_3_90)) (fun _ h9 => h9) rfl dX8_untilWalked_111 ?_
            refine lv_iconst (v := 0) hx hb dX8_untilWalked_114 (by decide) ?_
            refine lv_aload_n hx hb dX8_untilWalked_115 rfl (lv_at hl 2 rfl) ?_
            refine va_get (D := D) (ci := 8) (v := .ref h1) (C := RX8) (T := TX8) (N := 14) hx hb hts xin8 hown hK hP 0 rfl rfl 0 (by decide) (hts _ (List.mem_cons_of_mem _ mw_3_89)) (fun _ h9 => h9) rfl dX8_untilWalked_116 ?_
            refine lv_iconst (v := 0) hx hb dX8_untilWalked_119 (by decide) ?_
            refine xk_Sv (As := [.ref h2, .int 0, .ref h1, .int 0]) (rest := []) hx hb hml hown hts hK hN hZ hP hD hS hA mb_X8_copyState mw_3_136 mw_3_137 (c_X8_copyState l D cI cZ cS h2 h1 190 190 g68_2 g75_1 (0 : Int32) (0 : Int32) (by first | omega | decide | assumption) (by first | omega | decide | assumption) (by first | omega | decide | assumption)) [2, 1] (by decide) rfl (fun _ => by simp only [List.map]) (by decide) (by decide) rfl hl.1 rfl (Nat.le_of_ble_eq_true rfl) dX8_untilWalked_120 ⟨Nat.zero_le _, Nat.zero_le _⟩ (fun _ H locs hw hP hD hS => ?_)
            have hP : va_P D vwCl [(h, .inr (8, [.ref h1, .ref h2, .ref h3, .int gst, .ref h4, .ref h5, .ref h6, .int gty, .int w75_0, .int w75_1, .int gsp, .ref h7, .ref h8, .int gtl])), (h1, .inl (cI, 190, .inl (va_cpy g68_2 g75_1 0 0 190))), (h2, .inl (cI, 190, .inl g68_2))] H := hP
            have hD : va_D A [(h, .inr (8, [.ref h1, .ref h2, .ref h3, .int gst, .ref h4, .ref h5, .ref h6, .int gty, .int w75_0, .int w75_1, .int gsp, .ref h7, .ref h8, .int gtl])), (h1, .inl (cI, 190, .inl (va_cpy g68_2 g75_1 0 0 190))), (h2, .inl (cI, 190, .inl g68_2))] := hD
            obtain ⟨g120_1, hg120_1⟩ : ∃ g, g = (va_cpy g68_2 g75_1 0 0 190) := ⟨_, rfl⟩
            rw [← hg120_1] at hP hD
            have hP : va_P D vwCl [(h, .inr (8, [.ref h1, .ref h2, .ref h3, .int gst, .ref h4, .ref h5, .ref h6, .int gty, .int w75_0, .int w75_1, .int gsp, .ref h7, .ref h8, .int gtl])), (h1, .inl (cI, 190, .inl g120_1)), (h2, .inl (cI, 190, .inl g68_2))] H := hP
            have hD : va_D A [(h, .inr (8, [.ref h1, .ref h2, .ref h3, .int gst, .ref h4, .ref h5, .ref h6, .int gty, .int w75_0, .int w75_1, .int gsp, .ref h7, .ref h8, .int gtl])), (h1, .inl (cI, 190, .inl g120_1)), (h2, .inl (cI, 190, .inl g68_2))] := hD
            have hP := xk_arr hP 1 z rfl (fun j hj => by rw [hg120_1, cpy_at _ _ hj, hg68_2, cpy_at _ _ hj])
            have hD := xk_arrD (e' := .inl (cI, 190, .inl z)) hD (k := 1) rfl
            have hP : va_P D vwCl [(h, .inr (8, [.ref h1, .ref h2, .ref h3, .int gst, .ref h4, .ref h5, .ref h6, .int gty, .int w75_0, .int w75_1, .int gsp, .ref h7, .ref h8, .int gtl])), (h1, .inl (cI, 190, .inl z)), (h2, .inl (cI, 190, .inl g68_2))] H := hP
            have hD : va_D A [(h, .inr (8, [.ref h1, .ref h2, .ref h3, .int gst, .ref h4, .ref h5, .ref h6, .int gty, .int w75_0, .int w75_1, .int gsp, .ref h7, .ref h8, .int gtl])), (h1, .inl (cI, 190, .inl z)), (h2, .inl (cI, 190, .inl g68_2))] := hD
            refine lv_iload_n hx hb dX8_untilWalked_123 rfl (lv_at hl 0 rfl) ?_
            exact xk_reti (g68_2, w75_0, w75_1) hx hb hr hlocks (xk_P hP (by rfl)) (by (try dsimp only); rw [untR, if_pos b3, if_pos b13, if_pos (by rw [← hg75_1]; exact d88), untW, if_neg d23, if_pos d34, e103, ← hg75_1, hg68_2, cpy_at _ _ (by omega)]) hS dX8_untilWalked_124 hQ
      · have t23 : p1.toInt = 0 := xi_eq rfl (by decide) c23
        have d23 : p1 = 0 := c23
        refine lv_sipush (v := 174) hx hb dX8_untilWalked_26 (by decide) ?_
        refine lv_goto (tgt := 57) hx hb dX8_untilWalked_29 (by decide) ?_
        refine lv_istore_n (lv' := [(2, .int 174), (0, .ref h), (1, .int p1)]) hx hb dX8_untilWalked_57 rfl hl (by decide) rfl (fun ls hl => ?_)
        refine lv_aload_n hx hb dX8_untilWalked_58 rfl (lv_at hl 1 rfl) ?_
        refine va_get (D := D) (ci := 8) (v := .ref h1) (C := RX8) (T := TX8) (N := 14) hx hb hts xin8 hown hK hP 0 rfl rfl 0 (by decide) (hts _ (List.mem_cons_of_mem _ mw_3_89)) (fun _ h9 => h9) rfl dX8_untilWalked_59 ?_
        refine lv_iconst (v := 0) hx hb dX8_untilWalked_62 (by decide) ?_
        refine lv_aload_n hx hb dX8_untilWalked_63 rfl (lv_at hl 1 rfl) ?_
        refine va_get (D := D) (ci := 8) (v := .ref h2) (C := RX8) (T := TX8) (N := 14) hx hb hts xin8 hown hK hP 0 rfl rfl 1 (by decide) (hts _ (List.mem_cons_of_mem _ mw_3_90)) (fun _ h9 => h9) rfl dX8_untilWalked_64 ?_
        refine lv_iconst (v := 0) hx hb dX8_untilWalked_67 (by decide) ?_
        refine xk_Sv (As := [.ref h1, .int 0, .ref h2, .int 0]) (rest := []) hx hb hml hown hts hK hN hZ hP hD hS hA mb_X8_copyState mw_3_136 mw_3_137 (c_X8_copyState l D cI cZ cS h1 h2 190 190 z spare (0 : Int32) (0 : Int32) (by first | omega | decide | assumption) (by first | omega | decide | assumption) (by first | omega | decide | assumption)) [1, 2] (by decide) rfl (fun _ => by simp only [List.map]) (by decide) (by decide) rfl hl.1 rfl (Nat.le_of_ble_eq_true rfl) dX8_untilWalked_68 ⟨Nat.zero_le _, Nat.zero_le _⟩ (fun _ H locs hw hP hD hS => ?_)
        have hP : va_P D vwCl [(h, .inr (8, [.ref h1, .ref h2, .ref h3, .int gst, .ref h4, .ref h5, .ref h6, .int gty, .int gse, .int gte, .int gsp, .ref h7, .ref h8, .int gtl])), (h1, .inl (cI, 190, .inl z)), (h2, .inl (cI, 190, .inl (va_cpy z spare 0 0 190)))] H := hP
        have hD : va_D A [(h, .inr (8, [.ref h1, .ref h2, .ref h3, .int gst, .ref h4, .ref h5, .ref h6, .int gty, .int gse, .int gte, .int gsp, .ref h7, .ref h8, .int gtl])), (h1, .inl (cI, 190, .inl z)), (h2, .inl (cI, 190, .inl (va_cpy z spare 0 0 190)))] := hD
        obtain ⟨g68_2, hg68_2⟩ : ∃ g, g = (va_cpy z spare 0 0 190) := ⟨_, rfl⟩
        rw [← hg68_2] at hP hD
        have hP : va_P D vwCl [(h, .inr (8, [.ref h1, .ref h2, .ref h3, .int gst, .ref h4, .ref h5, .ref h6, .int gty, .int gse, .int gte, .int gsp, .ref h7, .ref h8, .int gtl])), (h1, .inl (cI, 190, .inl z)), (h2, .inl (cI, 190, .inl g68_2))] H := hP
        have hD : va_D A [(h, .inr (8, [.ref h1, .ref h2, .ref h3, .int gst, .ref h4, .ref h5, .ref h6, .int gty, .int gse, .int gte, .int gsp, .ref h7, .ref h8, .int gtl])), (h1, .inl (cI, 190, .inl z)), (h2, .inl (cI, 190, .inl g68_2))] := hD
        refine lv_aload_n hx hb dX8_untilWalked_71 rfl (lv_at hl 1 rfl) ?_
        refine lv_sipush (v := 5000) hx hb dX8_untilWalked_72 (by decide) ?_
        refine xk_Vi (As := [.int 5000]) (rest := []) hx hb hml hown hts hK hN hZ hP hD hS hA mb_X8_marchNow mw_3_162 mw_3_164 mw_0_8 (c_X8_marchNow l D cI cZ cS h h1 h2 h3 h4 h5 h6 h7 h8 gst gty gse gte gsp gtl z (5000 : Int32) (by decide) (by exact hI) (by exact b13)) [0, 1] 0 8 rfl rfl (by decide) rfl (fun _ => by simp only [List.map]) (by decide) (by decide) rfl hl.1 rfl (Nat.le_of_ble_eq_true rfl) dX8_untilWalked_75 ⟨Nat.zero_le _, Nat.zero_le _⟩ (fun r75 u75 H locs hw hP hD hS => ?_)
        obtain ⟨w75_0, w75_1⟩ := u75
        have hP : va_P D vwCl [(h, .inr (8, [.ref h1, .ref h2, .ref h3, .int gst, .ref h4, .ref h5, .ref h6, .int gty, .int w75_0, .int w75_1, .int gsp, .ref h7, .ref h8, .int gtl])), (h1, .inl (cI, 190, .inl (walkZ 5000 z))), (h2, .inl (cI, 190, .inl g68_2))] H := hP
        have hD : va_D A [(h, .inr (8, [.ref h1, .ref h2, .ref h3, .int gst, .ref h4, .ref h5, .ref h6, .int gty, .int w75_0, .int w75_1, .int gsp, .ref h7, .ref h8, .int gtl])), (h1, .inl (cI, 190, .inl (walkZ 5000 z))), (h2, .inl (cI, 190, .inl g68_2))] := hD
        obtain ⟨g75_1, hg75_1⟩ : ∃ g, g = (walkZ 5000 z) := ⟨_, rfl⟩
        rw [← hg75_1] at hP hD
        have hP : va_P D vwCl [(h, .inr (8, [.ref h1, .ref h2, .ref h3, .int gst, .ref h4, .ref h5, .ref h6, .int gty, .int w75_0, .int w75_1, .int gsp, .ref h7, .ref h8, .int gtl])), (h1, .inl (cI, 190, .inl g75_1)), (h2, .inl (cI, 190, .inl g68_2))] H := hP
        have hD : va_D A [(h, .inr (8, [.ref h1, .ref h2, .ref h3, .int gst, .ref h4, .ref h5, .ref h6, .int gty, .int w75_0, .int w75_1, .int gsp, .ref h7, .ref h8, .int gtl])), (h1, .inl (cI, 190, .inl g75_1)), (h2, .inl (cI, 190, .inl g68_2))] := hD
        have p75 : r75.toInt = (walkN 5000 z : Int) := hw
        refine lv_pop hx hb dX8_untilWalked_78 rfl ?_
        refine lv_aload_n hx hb dX8_untilWalked_79 rfl (lv_at hl 1 rfl) ?_
        refine va_get (D := D) (ci := 8) (v := .ref h1) (C := RX8) (T := TX8) (N := 14) hx hb hts xin8 hown hK hP 0 rfl rfl 0 (by decide) (hts _ (List.mem_cons_of_mem _ mw_3_89)) (fun _ h9 => h9) rfl dX8_untilWalked_80 ?_
        refine lv_sipush (v := 188) hx hb dX8_untilWalked_83 (by decide) ?_
        refine va_iald hx hb hK hP 1 0 rfl rfl (xi_in (by decide) (by decide)) dX8_untilWalked_86 ?_
        refine xk_top (z := g75_1 188) rfl ?_
        refine lv_iconst (v := 1) hx hb dX8_untilWalked_87 (by decide) ?_
        refine lv_icmp_ne (tgt := 107) hx hb dX8_untilWalked_88 (by decide) (fun c88 => ?_) (fun c88 => ?_)
        · have t88 : ¬ (g75_1 188).toInt = 1 := xi_ne rfl (by decide) c88
          have d88 : ¬ (g75_1 188) = 1 := c88
          refine lv_bipush (v := (-6)) hx hb dX8_untilWalked_107 (by decide) ?_
          refine lv_istore_n (lv' := [(3, .int (-6)), (2, .int 174), (0, .ref h), (1, .int p1)]) hx hb dX8_untilWalked_109 rfl hl (by decide) rfl (fun ls hl => ?_)
          refine lv_aload_n hx hb dX8_untilWalked_110 rfl (lv_at hl 2 rfl) ?_
          refine va_get (D := D) (ci := 8) (v := .ref h2) (C := RX8) (T := TX8) (N := 14) hx hb hts xin8 hown hK hP 0 rfl rfl 1 (by decide) (hts _ (List.mem_cons_of_mem _ mw_3_90)) (fun _ h9 => h9) rfl dX8_untilWalked_111 ?_
          refine lv_iconst (v := 0) hx hb dX8_untilWalked_114 (by decide) ?_
          refine lv_aload_n hx hb dX8_untilWalked_115 rfl (lv_at hl 2 rfl) ?_
          refine va_get (D := D) (ci := 8) (v := .ref h1) (C := RX8) (T := TX8) (N := 14) hx hb hts xin8 hown hK hP 0 rfl rfl 0 (by decide) (hts _ (List.mem_cons_of_mem _ mw_3_89)) (fun _ h9 => h9) rfl dX8_untilWalked_116 ?_
          refine lv_iconst (v := 0) hx hb dX8_untilWalked_119 (by decide) ?_
          refine xk_Sv (As := [.ref h2, .int 0, .ref h1, .int 0]) (rest := []) hx hb hml hown hts hK hN hZ hP hD hS hA mb_X8_copyState mw_3_136 mw_3_137 (c_X8_copyState l D cI cZ cS h2 h1 190 190 g68_2 g75_1 (0 : Int32) (0 : Int32) (by first | omega | decide | assumption) (by first | omega | decide | assumption) (by first | omega | decide | assumption)) [2, 1] (by decide) rfl (fun _ => by simp only [List.map]) (by decide) (by decide) rfl hl.1 rfl (Nat.le_of_ble_eq_true rfl) dX8_untilWalked_120 ⟨Nat.zero_le _, Nat.zero_le _⟩ (fun _ H locs hw hP hD hS => ?_)
          have hP : va_P D vwCl [(h, .inr (8, [.ref h1, .ref h2, .ref h3, .int gst, .ref h4, .ref h5, .ref h6, .int gty, .int w75_0, .int w75_1, .int gsp, .ref h7, .ref h8, .int gtl])), (h1, .inl (cI, 190, .inl (va_cpy g68_2 g75_1 0 0 190))), (h2, .inl (cI, 190, .inl g68_2))] H := hP
          have hD : va_D A [(h, .inr (8, [.ref h1, .ref h2, .ref h3, .int gst, .ref h4, .ref h5, .ref h6, .int gty, .int w75_0, .int w75_1, .int gsp, .ref h7, .ref h8, .int gtl])), (h1, .inl (cI, 190, .inl (va_cpy g68_2 g75_1 0 0 190))), (h2, .inl (cI, 190, .inl g68_2))] := hD
          obtain ⟨g120_1, hg120_1⟩ : ∃ g, g = (va_cpy g68_2 g75_1 0 0 190) := ⟨_, rfl⟩
          rw [← hg120_1] at hP hD
          have hP : va_P D vwCl [(h, .inr (8, [.ref h1, .ref h2, .ref h3, .int gst, .ref h4, .ref h5, .ref h6, .int gty, .int w75_0, .int w75_1, .int gsp, .ref h7, .ref h8, .int gtl])), (h1, .inl (cI, 190, .inl g120_1)), (h2, .inl (cI, 190, .inl g68_2))] H := hP
          have hD : va_D A [(h, .inr (8, [.ref h1, .ref h2, .ref h3, .int gst, .ref h4, .ref h5, .ref h6, .int gty, .int w75_0, .int w75_1, .int gsp, .ref h7, .ref h8, .int gtl])), (h1, .inl (cI, 190, .inl g120_1)), (h2, .inl (cI, 190, .inl g68_2))] := hD
          have hP := xk_arr hP 1 z rfl (fun j hj => by rw [hg120_1, cpy_at _ _ hj, hg68_2, cpy_at _ _ hj])
          have hD := xk_arrD (e' := .inl (cI, 190, .inl z)) hD (k := 1) rfl
          have hP : va_P D vwCl [(h, .inr (8, [.ref h1, .ref h2, .ref h3, .int gst, .ref h4, .ref h5, .ref h6, .int gty, .int w75_0, .int w75_1, .int gsp, .ref h7, .ref h8, .int gtl])), (h1, .inl (cI, 190, .inl z)), (h2, .inl (cI, 190, .inl g68_2))] H := hP
          have hD : va_D A [(h, .inr (8, [.ref h1, .ref h2, .ref h3, .int gst, .ref h4, .ref h5, .ref h6, .int gty, .int w75_0, .int w75_1, .int gsp, .ref h7, .ref h8, .int gtl])), (h1, .inl (cI, 190, .inl z)), (h2, .inl (cI, 190, .inl g68_2))] := hD
          refine lv_iload_n hx hb dX8_untilWalked_123 rfl (lv_at hl 0 rfl) ?_
          exact xk_reti (g68_2, w75_0, w75_1) hx hb hr hlocks (xk_P hP (by rfl)) (by (try dsimp only); rw [untR, if_pos b3, if_pos b13, if_neg (by rw [← hg75_1]; exact d88)]) hS dX8_untilWalked_124 hQ
        · have t88 : (g75_1 188).toInt = 1 := xi_eq rfl (by decide) c88
          have d88 : (g75_1 188) = 1 := c88
          refine lv_aload_n hx hb dX8_untilWalked_91 rfl (lv_at hl 1 rfl) ?_
          refine va_get (D := D) (ci := 8) (v := .ref h1) (C := RX8) (T := TX8) (N := 14) hx hb hts xin8 hown hK hP 0 rfl rfl 0 (by decide) (hts _ (List.mem_cons_of_mem _ mw_3_89)) (fun _ h9 => h9) rfl dX8_untilWalked_92 ?_
          refine lv_iload_n hx hb dX8_untilWalked_95 rfl (lv_at hl 0 rfl) ?_
          refine va_iald hx hb hK hP 1 0 rfl rfl (xi_in (by decide) (by decide)) dX8_untilWalked_96 ?_
          refine xk_top (z := g75_1 174) rfl ?_
          refine lv_aload_n hx hb dX8_untilWalked_97 rfl (lv_at hl 1 rfl) ?_
          refine va_get (D := D) (ci := 8) (v := .ref h2) (C := RX8) (T := TX8) (N := 14) hx hb hts xin8 hown hK hP 0 rfl rfl 1 (by decide) (hts _ (List.mem_cons_of_mem _ mw_3_90)) (fun _ h9 => h9) rfl dX8_untilWalked_98 ?_
          refine lv_iload_n hx hb dX8_untilWalked_101 rfl (lv_at hl 0 rfl) ?_
          refine va_iald hx hb hK hP 2 0 rfl rfl (xi_in (by decide) (by decide)) dX8_untilWalked_102 ?_
          refine xk_top (z := g68_2 174) rfl ?_
          refine lv_isub hx hb dX8_untilWalked_103 ?_
          refine lv_topi (fun x103 e103 => ?_)
          refine lv_goto (tgt := 109) hx hb dX8_untilWalked_104 (by decide) ?_
          refine lv_istore_n (lv' := [(3, .int x103), (2, .int 174), (0, .ref h), (1, .int p1)]) hx hb dX8_untilWalked_109 rfl hl (by decide) rfl (fun ls hl => ?_)
          refine lv_aload_n hx hb dX8_untilWalked_110 rfl (lv_at hl 2 rfl) ?_
          refine va_get (D := D) (ci := 8) (v := .ref h2) (C := RX8) (T := TX8) (N := 14) hx hb hts xin8 hown hK hP 0 rfl rfl 1 (by decide) (hts _ (List.mem_cons_of_mem _ mw_3_90)) (fun _ h9 => h9) rfl dX8_untilWalked_111 ?_
          refine lv_iconst (v := 0) hx hb dX8_untilWalked_114 (by decide) ?_
          refine lv_aload_n hx hb dX8_untilWalked_115 rfl (lv_at hl 2 rfl) ?_
          refine va_get (D := D) (ci := 8) (v := .ref h1) (C := RX8) (T := TX8) (N := 14) hx hb hts xin8 hown hK hP 0 rfl rfl 0 (by decide) (hts _ (List.mem_cons_of_mem _ mw_3_89)) (fun _ h9 => h9) rfl dX8_untilWalked_116 ?_
          refine lv_iconst (v := 0) hx hb dX8_untilWalked_119 (by decide) ?_
          refine xk_Sv (As := [.ref h2, .int 0, .ref h1, .int 0]) (rest := []) hx hb hml hown hts hK hN hZ hP hD hS hA mb_X8_copyState mw_3_136 mw_3_137 (c_X8_copyState l D cI cZ cS h2 h1 190 190 g68_2 g75_1 (0 : Int32) (0 : Int32) (by first | omega | decide | assumption) (by first | omega | decide | assumption) (by first | omega | decide | assumption)) [2, 1] (by decide) rfl (fun _ => by simp only [List.map]) (by decide) (by decide) rfl hl.1 rfl (Nat.le_of_ble_eq_true rfl) dX8_untilWalked_120 ⟨Nat.zero_le _, Nat.zero_le _⟩ (fun _ H locs hw hP hD hS => ?_)
          have hP : va_P D vwCl [(h, .inr (8, [.ref h1, .ref h2, .ref h3, .int gst, .ref h4, .ref h5, .ref h6, .int gty, .int w75_0, .int w75_1, .int gsp, .ref h7, .ref h8, .int gtl])), (h1, .inl (cI, 190, .inl (va_cpy g68_2 g75_1 0 0 190))), (h2, .inl (cI, 190, .inl g68_2))] H := hP
          have hD : va_D A [(h, .inr (8, [.ref h1, .ref h2, .ref h3, .int gst, .ref h4, .ref h5, .ref h6, .int gty, .int w75_0, .int w75_1, .int gsp, .ref h7, .ref h8, .int gtl])), (h1, .inl (cI, 190, .inl (va_cpy g68_2 g75_1 0 0 190))), (h2, .inl (cI, 190, .inl g68_2))] := hD
          obtain ⟨g120_1, hg120_1⟩ : ∃ g, g = (va_cpy g68_2 g75_1 0 0 190) := ⟨_, rfl⟩
          rw [← hg120_1] at hP hD
          have hP : va_P D vwCl [(h, .inr (8, [.ref h1, .ref h2, .ref h3, .int gst, .ref h4, .ref h5, .ref h6, .int gty, .int w75_0, .int w75_1, .int gsp, .ref h7, .ref h8, .int gtl])), (h1, .inl (cI, 190, .inl g120_1)), (h2, .inl (cI, 190, .inl g68_2))] H := hP
          have hD : va_D A [(h, .inr (8, [.ref h1, .ref h2, .ref h3, .int gst, .ref h4, .ref h5, .ref h6, .int gty, .int w75_0, .int w75_1, .int gsp, .ref h7, .ref h8, .int gtl])), (h1, .inl (cI, 190, .inl g120_1)), (h2, .inl (cI, 190, .inl g68_2))] := hD
          have hP := xk_arr hP 1 z rfl (fun j hj => by rw [hg120_1, cpy_at _ _ hj, hg68_2, cpy_at _ _ hj])
          have hD := xk_arrD (e' := .inl (cI, 190, .inl z)) hD (k := 1) rfl
          have hP : va_P D vwCl [(h, .inr (8, [.ref h1, .ref h2, .ref h3, .int gst, .ref h4, .ref h5, .ref h6, .int gty, .int w75_0, .int w75_1, .int gsp, .ref h7, .ref h8, .int gtl])), (h1, .inl (cI, 190, .inl z)), (h2, .inl (cI, 190, .inl g68_2))] H := hP
          have hD : va_D A [(h, .inr (8, [.ref h1, .ref h2, .ref h3, .int gst, .ref h4, .ref h5, .ref h6, .int gty, .int w75_0, .int w75_1, .int gsp, .ref h7, .ref h8, .int gtl])), (h1, .inl (cI, 190, .inl z)), (h2, .inl (cI, 190, .inl g68_2))] := hD
          refine lv_iload_n hx hb dX8_untilWalked_123 rfl (lv_at hl 0 rfl) ?_
          exact xk_reti (g68_2, w75_0, w75_1) hx hb hr hlocks (xk_P hP (by rfl)) (by (try dsimp only); rw [untR, if_pos b3, if_pos b13, if_pos (by rw [← hg75_1]; exact d88), untW, if_pos d23, e103, ← hg75_1, hg68_2, cpy_at _ _ (by omega)]) hS dX8_untilWalked_124 hQ
    · have b13 : ¬ (canZ z) := b13
      refine lv_if_ne (tgt := 22) hx hb dX8_untilWalked_16 (by decide) (fun c16 => absurd (by decide) c16) (fun _ => ?_)
      refine lv_bipush (v := (-5)) hx hb dX8_untilWalked_19 (by decide) ?_
      exact xk_reti (spare, gse, gte) hx hb hr hlocks (xk_P hP (by rfl)) (by (try dsimp only); rw [untR, if_pos b3, if_neg b13]) hS dX8_untilWalked_21 hQ
  · have b3 : ¬ (0 ≤ p1.toInt ∧ p1.toInt ≤ 3) := b3
    refine lv_if_ne (tgt := 12) hx hb dX8_untilWalked_6 (by decide) (fun c6 => absurd (by decide) c6) (fun _ => ?_)
    refine lv_bipush (v := (-2)) hx hb dX8_untilWalked_9 (by decide) ?_
    exact xk_reti (spare, gse, gte) hx hb hr hlocks (xk_P hP (by rfl)) (by (try dsimp only); rw [untR, if_neg b3]) hS dX8_untilWalked_11 hQ

set_option maxHeartbeats 4000000 in
set_option maxRecDepth 100000 in
theorem c_X8_together (l : Launch) (D : va_G) (cI cZ cS : ClassId) (h h1 h2 h3 h4 h5 h6 h7 h8 : Nat) (gst gty gse gte gsp gtl : Int32) (z spare : Nat → Int32)  (hI : InvZ z) : xMi l yX8_together cX8_together 3 (some .int) ({ frames := 3, cells := 0, slots := 0, locals := 65 } : Room) D (xTy cI cZ cS) [.ref h] [(h, .inr (8, [.ref h1, .ref h2, .ref h3, .int gst, .ref h4, .ref h5, .ref h6, .int gty, .int gse, .int gte, .int gsp, .ref h7, .ref h8, .int gtl])), (h1, .inl (cI, 190, .inl z)), (h2, .inl (cI, 190, .inl spare))] (fun (r : Int32) (u : (Nat → Int32) × (Int32) × (Int32)) => r = togA z) (fun (u : (Nat → Int32) × (Int32) × (Int32)) => [(h, .inr (8, [.ref h1, .ref h2, .ref h3, .int gst, .ref h4, .ref h5, .ref h6, .int gty, .int u.2.1, .int u.2.2, .int gsp, .ref h7, .ref h8, .int gtl])), (h1, .inl (cI, 190, .inl z)), (h2, .inl (cI, 190, .inl u.1))]) := by
  refine xk_bodyi (by decide) (Nat.le_of_ble_eq_true rfl) ?_
  intro p e s m below meth c A ls args Q hx hb hr hts hown hlocks hml hin hK hP hD hS hA hN hZ hl hQ
  have hl : lv_has ls 3 [(0, .ref h)] := hl
  refine lv_aload_n hx hb dX8_together_0 rfl (lv_at hl 0 rfl) ?_
  refine xk_Vi (As := []) (rest := []) hx hb hml hown hts hK hN hZ hP hD hS hA mb_X8_canMarch mw_3_158 mw_3_160 mw_0_7 (c_X8_canMarch l D cI cZ cS h h1 h2 h3 h4 h5 h6 h7 h8 gst gty gse gte gsp gtl z ) [0, 1] 0 8 rfl rfl (by decide) rfl (fun _ => by simp only [List.map]) (by decide) (by decide) rfl hl.1 rfl (Nat.le_of_ble_eq_true rfl) dX8_together_1 ⟨Nat.zero_le _, Nat.zero_le _⟩ (fun r1 _ H locs hw hP hD hS => ?_)
  have hP : va_P D vwCl [(h, .inr (8, [.ref h1, .ref h2, .ref h3, .int gst, .ref h4, .ref h5, .ref h6, .int gty, .int gse, .int gte, .int gsp, .ref h7, .ref h8, .int gtl])), (h1, .inl (cI, 190, .inl z)), (h2, .inl (cI, 190, .inl spare))] H := hP
  have hD : va_D A [(h, .inr (8, [.ref h1, .ref h2, .ref h3, .int gst, .ref h4, .ref h5, .ref h6, .int gty, .int gse, .int gte, .int gsp, .ref h7, .ref h8, .int gtl])), (h1, .inl (cI, 190, .inl z)), (h2, .inl (cI, 190, .inl spare))] := hD
  rcases hw with ⟨rfl, b1⟩ | ⟨rfl, b1⟩
  · have b1 : canZ z := b1
    refine lv_if_ne (tgt := 10) hx hb dX8_together_4 (by decide) (fun _ => ?_) (fun c4 => absurd c4 (by decide))
    refine lv_aload_n hx hb dX8_together_10 rfl (lv_at hl 0 rfl) ?_
    refine va_get (D := D) (ci := 8) (v := .ref h1) (C := RX8) (T := TX8) (N := 14) hx hb hts xin8 hown hK hP 0 rfl rfl 0 (by decide) (hts _ (List.mem_cons_of_mem _ mw_3_89)) (fun _ h9 => h9) rfl dX8_together_11 ?_
    refine lv_iconst (v := 0) hx hb dX8_together_14 (by decide) ?_
    refine lv_aload_n hx hb dX8_together_15 rfl (lv_at hl 0 rfl) ?_
    refine va_get (D := D) (ci := 8) (v := .ref h2) (C := RX8) (T := TX8) (N := 14) hx hb hts xin8 hown hK hP 0 rfl rfl 1 (by decide) (hts _ (List.mem_cons_of_mem _ mw_3_90)) (fun _ h9 => h9) rfl dX8_together_16 ?_
    refine lv_iconst (v := 0) hx hb dX8_together_19 (by decide) ?_
    refine xk_Sv (As := [.ref h1, .int 0, .ref h2, .int 0]) (rest := []) hx hb hml hown hts hK hN hZ hP hD hS hA mb_X8_copyState mw_3_136 mw_3_137 (c_X8_copyState l D cI cZ cS h1 h2 190 190 z spare (0 : Int32) (0 : Int32) (by first | omega | decide | assumption) (by first | omega | decide | assumption) (by first | omega | decide | assumption)) [1, 2] (by decide) rfl (fun _ => by simp only [List.map]) (by decide) (by decide) rfl hl.1 rfl (Nat.le_of_ble_eq_true rfl) dX8_together_20 ⟨Nat.zero_le _, Nat.zero_le _⟩ (fun _ H locs hw hP hD hS => ?_)
    have hP : va_P D vwCl [(h, .inr (8, [.ref h1, .ref h2, .ref h3, .int gst, .ref h4, .ref h5, .ref h6, .int gty, .int gse, .int gte, .int gsp, .ref h7, .ref h8, .int gtl])), (h1, .inl (cI, 190, .inl z)), (h2, .inl (cI, 190, .inl (va_cpy z spare 0 0 190)))] H := hP
    have hD : va_D A [(h, .inr (8, [.ref h1, .ref h2, .ref h3, .int gst, .ref h4, .ref h5, .ref h6, .int gty, .int gse, .int gte, .int gsp, .ref h7, .ref h8, .int gtl])), (h1, .inl (cI, 190, .inl z)), (h2, .inl (cI, 190, .inl (va_cpy z spare 0 0 190)))] := hD
    obtain ⟨g20_2, hg20_2⟩ : ∃ g, g = (va_cpy z spare 0 0 190) := ⟨_, rfl⟩
    rw [← hg20_2] at hP hD
    have hP : va_P D vwCl [(h, .inr (8, [.ref h1, .ref h2, .ref h3, .int gst, .ref h4, .ref h5, .ref h6, .int gty, .int gse, .int gte, .int gsp, .ref h7, .ref h8, .int gtl])), (h1, .inl (cI, 190, .inl z)), (h2, .inl (cI, 190, .inl g20_2))] H := hP
    have hD : va_D A [(h, .inr (8, [.ref h1, .ref h2, .ref h3, .int gst, .ref h4, .ref h5, .ref h6, .int gty, .int gse, .int gte, .int gsp, .ref h7, .ref h8, .int gtl])), (h1, .inl (cI, 190, .inl z)), (h2, .inl (cI, 190, .inl g20_2))] := hD
    refine lv_iconst (v := 0) hx hb dX8_together_23 (by decide) ?_
    refine lv_istore_n (lv' := [(1, .int 0), (0, .ref h)]) hx hb dX8_together_24 rfl hl (by decide) rfl (fun ls hl => ?_)
    refine lv_bipush (v := (-6)) hx hb dX8_together_25 (by decide) ?_
    refine lv_istore_n (lv' := [(2, .int (-6)), (1, .int 0), (0, .ref h)]) hx hb dX8_together_27 rfl hl (by decide) rfl (fun ls hl => ?_)
    have L28 : ∀ (n : Nat) (k : Int32) (f : Int32) (w : Nat → Int32) (se : Int32) (te : Int32) (hk : 0 ≤ k.toInt ∧ k.toInt ≤ 5000) (hJ : InvZ w) (hC : canZ w) (hf1 : f = -6 → togR (5000 - k.toInt).toNat k w = togR 5000 0 z) (hf2 : ¬ f = -6 → f = togR 5000 0 z ∧ True) (hn28 : (5000 - k.toInt).toNat < n) (H : Heap) (locs : List Loc), va_P D vwCl [(h, .inr (8, [.ref h1, .ref h2, .ref h3, .int gst, .ref h4, .ref h5, .ref h6, .int gty, .int se, .int te, .int gsp, .ref h7, .ref h8, .int gtl])), (h1, .inl (cI, 190, .inl w)), (h2, .inl (cI, 190, .inl g20_2))] H → va_D A [(h, .inr (8, [.ref h1, .ref h2, .ref h3, .int gst, .ref h4, .ref h5, .ref h6, .int gty, .int se, .int te, .int gsp, .ref h7, .ref h8, .int gtl])), (h1, .inl (cI, 190, .inl w)), (h2, .inl (cI, 190, .inl g20_2))] → va_S A s.heap H locs → ∀ ls : Array Slot, lv_has ls 3 [(2, .int f), (1, .int k), (0, .ref h)] → W p l e ({ frames := 3, cells := 0, slots := 0, locals := 65 } : Room) s m args below meth c H locs 0 0 Q (F0 m 28 ls []) := by
      intro n
      induction n with
      | zero =>
        intro k f w se te hk hJ hC hf1 hf2 hn28
        exact absurd hn28 (Nat.not_lt_zero _)
      | succ n ih28 =>
        intro k f w se te hk hJ hC hf1 hf2 hn28 H locs hP hD hS ls hl
        refine lv_iload_n hx hb dX8_together_28 rfl (lv_at hl 1 rfl) ?_
        refine lv_sipush (v := 5000) hx hb dX8_together_29 (by decide) ?_
        refine lv_icmp_ge (tgt := 83) hx hb dX8_together_32 (by decide) (fun c32 => ?_) (fun c32 => ?_)
        · have t32 : 5000 ≤ k.toInt := xi_le (by decide) rfl c32
          refine lv_aload_n hx hb dX8_together_83 rfl (lv_at hl 2 rfl) ?_
          refine va_get (D := D) (ci := 8) (v := .ref h2) (C := RX8) (T := TX8) (N := 14) hx hb hts xin8 hown hK hP 0 rfl rfl 1 (by decide) (hts _ (List.mem_cons_of_mem _ mw_3_90)) (fun _ h9 => h9) rfl dX8_together_84 ?_
          refine lv_iconst (v := 0) hx hb dX8_together_87 (by decide) ?_
          refine lv_aload_n hx hb dX8_together_88 rfl (lv_at hl 2 rfl) ?_
          refine va_get (D := D) (ci := 8) (v := .ref h1) (C := RX8) (T := TX8) (N := 14) hx hb hts xin8 hown hK hP 0 rfl rfl 0 (by decide) (hts _ (List.mem_cons_of_mem _ mw_3_89)) (fun _ h9 => h9) rfl dX8_together_89 ?_
          refine lv_iconst (v := 0) hx hb dX8_together_92 (by decide) ?_
          refine xk_Sv (As := [.ref h2, .int 0, .ref h1, .int 0]) (rest := []) hx hb hml hown hts hK hN hZ hP hD hS hA mb_X8_copyState mw_3_136 mw_3_137 (c_X8_copyState l D cI cZ cS h2 h1 190 190 g20_2 w (0 : Int32) (0 : Int32) (by first | omega | decide | assumption) (by first | omega | decide | assumption) (by first | omega | decide | assumption)) [2, 1] (by decide) rfl (fun _ => by simp only [List.map]) (by decide) (by decide) rfl hl.1 rfl (Nat.le_of_ble_eq_true rfl) dX8_together_93 ⟨Nat.zero_le _, Nat.zero_le _⟩ (fun _ H locs hw hP hD hS => ?_)
          have hP : va_P D vwCl [(h, .inr (8, [.ref h1, .ref h2, .ref h3, .int gst, .ref h4, .ref h5, .ref h6, .int gty, .int se, .int te, .int gsp, .ref h7, .ref h8, .int gtl])), (h1, .inl (cI, 190, .inl (va_cpy g20_2 w 0 0 190))), (h2, .inl (cI, 190, .inl g20_2))] H := hP
          have hD : va_D A [(h, .inr (8, [.ref h1, .ref h2, .ref h3, .int gst, .ref h4, .ref h5, .ref h6, .int gty, .int se, .int te, .int gsp, .ref h7, .ref h8, .int gtl])), (h1, .inl (cI, 190, .inl (va_cpy g20_2 w 0 0 190))), (h2, .inl (cI, 190, .inl g20_2))] := hD
          obtain ⟨g93_1, hg93_1⟩ : ∃ g, g = (va_cpy g20_2 w 0 0 190) := ⟨_, rfl⟩
          rw [← hg93_1] at hP hD
          have hP : va_P D vwCl [(h, .inr (8, [.ref h1, .ref h2, .ref h3, .int gst, .ref h4, .ref h5, .ref h6, .int gty, .int se, .int te, .int gsp, .ref h7, .ref h8, .int gtl])), (h1, .inl (cI, 190, .inl g93_1)), (h2, .inl (cI, 190, .inl g20_2))] H := hP
          have hD : va_D A [(h, .inr (8, [.ref h1, .ref h2, .ref h3, .int gst, .ref h4, .ref h5, .ref h6, .int gty, .int se, .int te, .int gsp, .ref h7, .ref h8, .int gtl])), (h1, .inl (cI, 190, .inl g93_1)), (h2, .inl (cI, 190, .inl g20_2))] := hD
          have hP := xk_arr hP 1 z rfl (fun j hj => by rw [hg93_1, cpy_at _ _ hj, hg20_2, cpy_at _ _ hj])
          have hD := xk_arrD (e' := .inl (cI, 190, .inl z)) hD (k := 1) rfl
          have hP : va_P D vwCl [(h, .inr (8, [.ref h1, .ref h2, .ref h3, .int gst, .ref h4, .ref h5, .ref h6, .int gty, .int se, .int te, .int gsp, .ref h7, .ref h8, .int gtl])), (h1, .inl (cI, 190, .inl z)), (h2, .inl (cI, 190, .inl g20_2))] H := hP
          have hD : va_D A [(h, .inr (8, [.ref h1, .ref h2, .ref h3, .int gst, .ref h4, .ref h5, .ref h6, .int gty, .int se, .int te, .int gsp, .ref h7, .ref h8, .int gtl])), (h1, .inl (cI, 190, .inl z)), (h2, .inl (cI, 190, .inl g20_2))] := hD
          refine lv_iload_n hx hb dX8_together_96 rfl (lv_at hl 0 rfl) ?_
          exact xk_reti (g20_2, se, te) hx hb hr hlocks (xk_P hP (by rfl)) (by (try dsimp only); rw [togA, if_pos b1]; by_cases q : f = -6; (rw [← hf1 q, show (5000 - k.toInt).toNat = 0 from by omega, togR, q]); exact (hf2 q).1) hS dX8_together_97 hQ
        · have t32 : k.toInt < 5000 := xi_nle (by decide) rfl c32
          refine lv_aload_n hx hb dX8_together_35 rfl (lv_at hl 2 rfl) ?_
          refine va_get (D := D) (ci := 8) (v := .ref h1) (C := RX8) (T := TX8) (N := 14) hx hb hts xin8 hown hK hP 0 rfl rfl 0 (by decide) (hts _ (List.mem_cons_of_mem _ mw_3_89)) (fun _ h9 => h9) rfl dX8_together_36 ?_
          refine lv_sipush (v := 188) hx hb dX8_together_39 (by decide) ?_
          refine va_iald hx hb hK hP 1 0 rfl rfl (xi_in (by decide) (by decide)) dX8_together_42 ?_
          refine xk_top (z := w 188) rfl ?_
          refine lv_if_ne (tgt := 83) hx hb dX8_together_43 (by decide) (fun c43 => ?_) (fun c43 => ?_)
          · have t43 : ¬ (w 188).toInt = 0 := xi_ne rfl (by decide) c43
            have d43 : ¬ (w 188) = 0 := c43
            refine lv_aload_n hx hb dX8_together_83 rfl (lv_at hl 2 rfl) ?_
            refine va_get (D := D) (ci := 8) (v := .ref h2) (C := RX8) (T := TX8) (N := 14) hx hb hts xin8 hown hK hP 0 rfl rfl 1 (by decide) (hts _ (List.mem_cons_of_mem _ mw_3_90)) (fun _ h9 => h9) rfl dX8_together_84 ?_
            refine lv_iconst (v := 0) hx hb dX8_together_87 (by decide) ?_
            refine lv_aload_n hx hb dX8_together_88 rfl (lv_at hl 2 rfl) ?_
            refine va_get (D := D) (ci := 8) (v := .ref h1) (C := RX8) (T := TX8) (N := 14) hx hb hts xin8 hown hK hP 0 rfl rfl 0 (by decide) (hts _ (List.mem_cons_of_mem _ mw_3_89)) (fun _ h9 => h9) rfl dX8_together_89 ?_
            refine lv_iconst (v := 0) hx hb dX8_together_92 (by decide) ?_
            refine xk_Sv (As := [.ref h2, .int 0, .ref h1, .int 0]) (rest := []) hx hb hml hown hts hK hN hZ hP hD hS hA mb_X8_copyState mw_3_136 mw_3_137 (c_X8_copyState l D cI cZ cS h2 h1 190 190 g20_2 w (0 : Int32) (0 : Int32) (by first | omega | decide | assumption) (by first | omega | decide | assumption) (by first | omega | decide | assumption)) [2, 1] (by decide) rfl (fun _ => by simp only [List.map]) (by decide) (by decide) rfl hl.1 rfl (Nat.le_of_ble_eq_true rfl) dX8_together_93 ⟨Nat.zero_le _, Nat.zero_le _⟩ (fun _ H locs hw hP hD hS => ?_)
            have hP : va_P D vwCl [(h, .inr (8, [.ref h1, .ref h2, .ref h3, .int gst, .ref h4, .ref h5, .ref h6, .int gty, .int se, .int te, .int gsp, .ref h7, .ref h8, .int gtl])), (h1, .inl (cI, 190, .inl (va_cpy g20_2 w 0 0 190))), (h2, .inl (cI, 190, .inl g20_2))] H := hP
            have hD : va_D A [(h, .inr (8, [.ref h1, .ref h2, .ref h3, .int gst, .ref h4, .ref h5, .ref h6, .int gty, .int se, .int te, .int gsp, .ref h7, .ref h8, .int gtl])), (h1, .inl (cI, 190, .inl (va_cpy g20_2 w 0 0 190))), (h2, .inl (cI, 190, .inl g20_2))] := hD
            obtain ⟨g93_1, hg93_1⟩ : ∃ g, g = (va_cpy g20_2 w 0 0 190) := ⟨_, rfl⟩
            rw [← hg93_1] at hP hD
            have hP : va_P D vwCl [(h, .inr (8, [.ref h1, .ref h2, .ref h3, .int gst, .ref h4, .ref h5, .ref h6, .int gty, .int se, .int te, .int gsp, .ref h7, .ref h8, .int gtl])), (h1, .inl (cI, 190, .inl g93_1)), (h2, .inl (cI, 190, .inl g20_2))] H := hP
            have hD : va_D A [(h, .inr (8, [.ref h1, .ref h2, .ref h3, .int gst, .ref h4, .ref h5, .ref h6, .int gty, .int se, .int te, .int gsp, .ref h7, .ref h8, .int gtl])), (h1, .inl (cI, 190, .inl g93_1)), (h2, .inl (cI, 190, .inl g20_2))] := hD
            have hP := xk_arr hP 1 z rfl (fun j hj => by rw [hg93_1, cpy_at _ _ hj, hg20_2, cpy_at _ _ hj])
            have hD := xk_arrD (e' := .inl (cI, 190, .inl z)) hD (k := 1) rfl
            have hP : va_P D vwCl [(h, .inr (8, [.ref h1, .ref h2, .ref h3, .int gst, .ref h4, .ref h5, .ref h6, .int gty, .int se, .int te, .int gsp, .ref h7, .ref h8, .int gtl])), (h1, .inl (cI, 190, .inl z)), (h2, .inl (cI, 190, .inl g20_2))] H := hP
            have hD : va_D A [(h, .inr (8, [.ref h1, .ref h2, .ref h3, .int gst, .ref h4, .ref h5, .ref h6, .int gty, .int se, .int te, .int gsp, .ref h7, .ref h8, .int gtl])), (h1, .inl (cI, 190, .inl z)), (h2, .inl (cI, 190, .inl g20_2))] := hD
            refine lv_iload_n hx hb dX8_together_96 rfl (lv_at hl 0 rfl) ?_
            exact xk_reti (g20_2, se, te) hx hb hr hlocks (xk_P hP (by rfl)) (by (try dsimp only); rw [togA, if_pos b1]; by_cases q : f = -6; (rw [← hf1 q, show (5000 - k.toInt).toNat = ((5000 - k.toInt).toNat - 1) + 1 from by omega, togR, if_neg d43, q]); exact (hf2 q).1) hS dX8_together_97 hQ
          · have t43 : (w 188).toInt = 0 := xi_eq rfl (by decide) c43
            have d43 : (w 188) = 0 := c43
            refine lv_iload_n hx hb dX8_together_46 rfl (lv_at hl 0 rfl) ?_
            refine lv_bipush (v := (-6)) hx hb dX8_together_47 (by decide) ?_
            refine lv_icmp_ne (tgt := 83) hx hb dX8_together_49 (by decide) (fun c49 => ?_) (fun c49 => ?_)
            · have t49 : ¬ f.toInt = -6 := xi_ne rfl (by decide) c49
              have d49 : ¬ f = (-6) := c49
              refine lv_aload_n hx hb dX8_together_83 rfl (lv_at hl 2 rfl) ?_
              refine va_get (D := D) (ci := 8) (v := .ref h2) (C := RX8) (T := TX8) (N := 14) hx hb hts xin8 hown hK hP 0 rfl rfl 1 (by decide) (hts _ (List.mem_cons_of_mem _ mw_3_90)) (fun _ h9 => h9) rfl dX8_together_84 ?_
              refine lv_iconst (v := 0) hx hb dX8_together_87 (by decide) ?_
              refine lv_aload_n hx hb dX8_together_88 rfl (lv_at hl 2 rfl) ?_
              refine va_get (D := D) (ci := 8) (v := .ref h1) (C := RX8) (T := TX8) (N := 14) hx hb hts xin8 hown hK hP 0 rfl rfl 0 (by decide) (hts _ (List.mem_cons_of_mem _ mw_3_89)) (fun _ h9 => h9) rfl dX8_together_89 ?_
              refine lv_iconst (v := 0) hx hb dX8_together_92 (by decide) ?_
              refine xk_Sv (As := [.ref h2, .int 0, .ref h1, .int 0]) (rest := []) hx hb hml hown hts hK hN hZ hP hD hS hA mb_X8_copyState mw_3_136 mw_3_137 (c_X8_copyState l D cI cZ cS h2 h1 190 190 g20_2 w (0 : Int32) (0 : Int32) (by first | omega | decide | assumption) (by first | omega | decide | assumption) (by first | omega | decide | assumption)) [2, 1] (by decide) rfl (fun _ => by simp only [List.map]) (by decide) (by decide) rfl hl.1 rfl (Nat.le_of_ble_eq_true rfl) dX8_together_93 ⟨Nat.zero_le _, Nat.zero_le _⟩ (fun _ H locs hw hP hD hS => ?_)
              have hP : va_P D vwCl [(h, .inr (8, [.ref h1, .ref h2, .ref h3, .int gst, .ref h4, .ref h5, .ref h6, .int gty, .int se, .int te, .int gsp, .ref h7, .ref h8, .int gtl])), (h1, .inl (cI, 190, .inl (va_cpy g20_2 w 0 0 190))), (h2, .inl (cI, 190, .inl g20_2))] H := hP
              have hD : va_D A [(h, .inr (8, [.ref h1, .ref h2, .ref h3, .int gst, .ref h4, .ref h5, .ref h6, .int gty, .int se, .int te, .int gsp, .ref h7, .ref h8, .int gtl])), (h1, .inl (cI, 190, .inl (va_cpy g20_2 w 0 0 190))), (h2, .inl (cI, 190, .inl g20_2))] := hD
              obtain ⟨g93_1, hg93_1⟩ : ∃ g, g = (va_cpy g20_2 w 0 0 190) := ⟨_, rfl⟩
              rw [← hg93_1] at hP hD
              have hP : va_P D vwCl [(h, .inr (8, [.ref h1, .ref h2, .ref h3, .int gst, .ref h4, .ref h5, .ref h6, .int gty, .int se, .int te, .int gsp, .ref h7, .ref h8, .int gtl])), (h1, .inl (cI, 190, .inl g93_1)), (h2, .inl (cI, 190, .inl g20_2))] H := hP
              have hD : va_D A [(h, .inr (8, [.ref h1, .ref h2, .ref h3, .int gst, .ref h4, .ref h5, .ref h6, .int gty, .int se, .int te, .int gsp, .ref h7, .ref h8, .int gtl])), (h1, .inl (cI, 190, .inl g93_1)), (h2, .inl (cI, 190, .inl g20_2))] := hD
              have hP := xk_arr hP 1 z rfl (fun j hj => by rw [hg93_1, cpy_at _ _ hj, hg20_2, cpy_at _ _ hj])
              have hD := xk_arrD (e' := .inl (cI, 190, .inl z)) hD (k := 1) rfl
              have hP : va_P D vwCl [(h, .inr (8, [.ref h1, .ref h2, .ref h3, .int gst, .ref h4, .ref h5, .ref h6, .int gty, .int se, .int te, .int gsp, .ref h7, .ref h8, .int gtl])), (h1, .inl (cI, 190, .inl z)), (h2, .inl (cI, 190, .inl g20_2))] H := hP
              have hD : va_D A [(h, .inr (8, [.ref h1, .ref h2, .ref h3, .int gst, .ref h4, .ref h5, .ref h6, .int gty, .int se, .int te, .int gsp, .ref h7, .ref h8, .int gtl])), (h1, .inl (cI, 190, .inl z)), (h2, .inl (cI, 190, .inl g20_2))] := hD
              refine lv_iload_n hx hb dX8_together_96 rfl (lv_at hl 0 rfl) ?_
              exact xk_reti (g20_2, se, te) hx hb hr hlocks (xk_P hP (by rfl)) (by (try dsimp only); rw [togA, if_pos b1]; exact (hf2 d49).1) hS dX8_together_97 hQ
            · have t49 : f.toInt = -6 := xi_eq rfl (by decide) c49
              have d49 : f = (-6) := c49
              refine lv_aload_n hx hb dX8_together_52 rfl (lv_at hl 2 rfl) ?_
              refine xk_Vv (As := []) (rest := []) hx hb hml hown hts hK hN hZ hP hD hS hA mb_X8_beat mw_3_166 mw_3_168 mw_0_9 (c_X8_beat l D cI cZ cS h h1 h2 h3 h4 h5 h6 h7 h8 gst gty se te gsp gtl w (by exact InvZ_at hJ hC d43) (by exact InvZ_h5 hJ) (by exact InvZ_pos hJ)) [0, 1] 0 8 rfl rfl (by decide) rfl (fun _ => by simp only [List.map]) (by decide) (by decide) rfl hl.1 rfl (Nat.le_of_ble_eq_true rfl) dX8_together_53 ⟨Nat.zero_le _, Nat.zero_le _⟩ (fun _ H locs hw hP hD hS => ?_)
              have hP : va_P D vwCl [(h, .inr (8, [.ref h1, .ref h2, .ref h3, .int gst, .ref h4, .ref h5, .ref h6, .int gty, .int (if endG w then (1 : Int32) else 0), .int (if endS w then (1 : Int32) else 0), .int gsp, .ref h7, .ref h8, .int gtl])), (h1, .inl (cI, 190, .inl (beatZ w))), (h2, .inl (cI, 190, .inl g20_2))] H := hP
              have hD : va_D A [(h, .inr (8, [.ref h1, .ref h2, .ref h3, .int gst, .ref h4, .ref h5, .ref h6, .int gty, .int (if endG w then (1 : Int32) else 0), .int (if endS w then (1 : Int32) else 0), .int gsp, .ref h7, .ref h8, .int gtl])), (h1, .inl (cI, 190, .inl (beatZ w))), (h2, .inl (cI, 190, .inl g20_2))] := hD
              obtain ⟨g53_1, hg53_1⟩ : ∃ g, g = (beatZ w) := ⟨_, rfl⟩
              rw [← hg53_1] at hP hD
              have hP : va_P D vwCl [(h, .inr (8, [.ref h1, .ref h2, .ref h3, .int gst, .ref h4, .ref h5, .ref h6, .int gty, .int (if endG w then (1 : Int32) else 0), .int (if endS w then (1 : Int32) else 0), .int gsp, .ref h7, .ref h8, .int gtl])), (h1, .inl (cI, 190, .inl g53_1)), (h2, .inl (cI, 190, .inl g20_2))] H := hP
              have hD : va_D A [(h, .inr (8, [.ref h1, .ref h2, .ref h3, .int gst, .ref h4, .ref h5, .ref h6, .int gty, .int (if endG w then (1 : Int32) else 0), .int (if endS w then (1 : Int32) else 0), .int gsp, .ref h7, .ref h8, .int gtl])), (h1, .inl (cI, 190, .inl g53_1)), (h2, .inl (cI, 190, .inl g20_2))] := hD
              obtain ⟨x56, e56⟩ : ∃ y : Int32, y = k + 1 := ⟨_, rfl⟩
              have t56 : x56.toInt = k.toInt + 1 := by rw [e56]; exact xi_add rfl (by decide) (by omega) (by omega)
              refine lv_iinc (v := x56) (lv' := [(1, .int x56), (2, .int f), (0, .ref h)]) hx hb dX8_together_56 hl (k := 1) rfl (by rw [e56]; rfl) (by decide) rfl (fun ls hl => ?_)
              refine lv_aload_n hx hb dX8_together_59 rfl (lv_at hl 2 rfl) ?_
              refine va_get (D := D) (ci := 8) (v := .int (if endG w then (1 : Int32) else 0)) (C := RX8) (T := TX8) (N := 14) hx hb hts xin8 hown hK hP 0 rfl rfl 8 (by decide) (hts _ (List.mem_cons_of_mem _ mw_3_97)) (fun _ h9 => h9) rfl dX8_together_60 ?_
              refine lv_if_eq (tgt := 77) hx hb dX8_together_63 (by decide) (fun c63 => ?_) (fun c63 => ?_)
              · have t63 : (if endG w then (1 : Int32) else 0).toInt = 0 := xi_eq rfl (by decide) c63
                have d63 : (if endG w then (1 : Int32) else 0) = 0 := c63
                refine lv_bipush (v := (-6)) hx hb dX8_together_77 (by decide) ?_
                refine lv_istore_n (lv' := [(2, .int (-6)), (1, .int x56), (0, .ref h)]) hx hb dX8_together_79 rfl hl (by decide) rfl (fun ls hl => ?_)
                refine lv_goto (tgt := 28) hx hb dX8_together_80 (by decide) ?_
                have hs : (5000 - k.toInt).toNat = (5000 - x56.toInt).toNat + 1 := by omega
                have h48 := hf1 d49
                rw [hs, togR, if_pos d43] at h48
                have q1 := ite01 d63
                rw [if_neg (fun hh => q1 hh.1), ← e56] at h48
                have q28 : ([(h, .inr (8, [.ref h1, .ref h2, .ref h3, .int gst, .ref h4, .ref h5, .ref h6, .int gty, .int (if endG w then (1 : Int32) else 0), .int (if endS w then (1 : Int32) else 0), .int gsp, .ref h7, .ref h8, .int gtl])), (h1, .inl (cI, 190, .inl g53_1)), (h2, .inl (cI, 190, .inl g20_2))] : va_W) = [(h, .inr (8, [.ref h1, .ref h2, .ref h3, .int gst, .ref h4, .ref h5, .ref h6, .int gty, .int (if endG w then (1 : Int32) else 0), .int (if endS w then (1 : Int32) else 0), .int gsp, .ref h7, .ref h8, .int gtl])), (h1, .inl (cI, 190, .inl (beatZ w))), (h2, .inl (cI, 190, .inl g20_2))] := by rw [hg53_1]
                exact ih28  x56 ((-6 : Int32)) (beatZ w) (if endG w then (1 : Int32) else 0) (if endS w then (1 : Int32) else 0) (by omega) (by exact beat_inv hJ hC d43) (by exact beat_can hC) (by intro _; exact h48) (by intro q; exact absurd rfl q) (by omega) _ _ (xk_P hP q28) (xk_D hD q28) hS ls (lv_sub hl [0, 1, 2] rfl)
              · have t63 : ¬ (if endG w then (1 : Int32) else 0).toInt = 0 := xi_ne rfl (by decide) c63
                have d63 : ¬ (if endG w then (1 : Int32) else 0) = 0 := c63
                refine lv_aload_n hx hb dX8_together_66 rfl (lv_at hl 2 rfl) ?_
                refine va_get (D := D) (ci := 8) (v := .int (if endS w then (1 : Int32) else 0)) (C := RX8) (T := TX8) (N := 14) hx hb hts xin8 hown hK hP 0 rfl rfl 9 (by decide) (hts _ (List.mem_cons_of_mem _ mw_3_98)) (fun _ h9 => h9) rfl dX8_together_67 ?_
                refine lv_if_eq (tgt := 77) hx hb dX8_together_70 (by decide) (fun c70 => ?_) (fun c70 => ?_)
                · have t70 : (if endS w then (1 : Int32) else 0).toInt = 0 := xi_eq rfl (by decide) c70
                  have d70 : (if endS w then (1 : Int32) else 0) = 0 := c70
                  refine lv_bipush (v := (-6)) hx hb dX8_together_77 (by decide) ?_
                  refine lv_istore_n (lv' := [(2, .int (-6)), (1, .int x56), (0, .ref h)]) hx hb dX8_together_79 rfl hl (by decide) rfl (fun ls hl => ?_)
                  refine lv_goto (tgt := 28) hx hb dX8_together_80 (by decide) ?_
                  have hs : (5000 - k.toInt).toNat = (5000 - x56.toInt).toNat + 1 := by omega
                  have h48 := hf1 d49
                  rw [hs, togR, if_pos d43] at h48
                  have q1 := ite10 d63
                  have q2 := ite01 d70
                  rw [if_neg (fun hh => q2 hh.2), ← e56] at h48
                  have q28 : ([(h, .inr (8, [.ref h1, .ref h2, .ref h3, .int gst, .ref h4, .ref h5, .ref h6, .int gty, .int (if endG w then (1 : Int32) else 0), .int (if endS w then (1 : Int32) else 0), .int gsp, .ref h7, .ref h8, .int gtl])), (h1, .inl (cI, 190, .inl g53_1)), (h2, .inl (cI, 190, .inl g20_2))] : va_W) = [(h, .inr (8, [.ref h1, .ref h2, .ref h3, .int gst, .ref h4, .ref h5, .ref h6, .int gty, .int (if endG w then (1 : Int32) else 0), .int (if endS w then (1 : Int32) else 0), .int gsp, .ref h7, .ref h8, .int gtl])), (h1, .inl (cI, 190, .inl (beatZ w))), (h2, .inl (cI, 190, .inl g20_2))] := by rw [hg53_1]
                  exact ih28  x56 ((-6 : Int32)) (beatZ w) (if endG w then (1 : Int32) else 0) (if endS w then (1 : Int32) else 0) (by omega) (by exact beat_inv hJ hC d43) (by exact beat_can hC) (by intro _; exact h48) (by intro q; exact absurd rfl q) (by omega) _ _ (xk_P hP q28) (xk_D hD q28) hS ls (lv_sub hl [0, 1, 2] rfl)
                · have t70 : ¬ (if endS w then (1 : Int32) else 0).toInt = 0 := xi_ne rfl (by decide) c70
                  have d70 : ¬ (if endS w then (1 : Int32) else 0) = 0 := c70
                  refine lv_iload_n hx hb dX8_together_73 rfl (lv_at hl 0 rfl) ?_
                  refine lv_goto (tgt := 79) hx hb dX8_together_74 (by decide) ?_
                  refine lv_istore_n (lv' := [(2, .int x56), (1, .int x56), (0, .ref h)]) hx hb dX8_together_79 rfl hl (by decide) rfl (fun ls hl => ?_)
                  refine lv_goto (tgt := 28) hx hb dX8_together_80 (by decide) ?_
                  have hs : (5000 - k.toInt).toNat = (5000 - x56.toInt).toNat + 1 := by omega
                  have h48 := hf1 d49
                  rw [hs, togR, if_pos d43] at h48
                  have q1 := ite10 d63
                  have q2 := ite10 d70
                  rw [if_pos ⟨q1, q2⟩, ← e56] at h48
                  have q28 : ([(h, .inr (8, [.ref h1, .ref h2, .ref h3, .int gst, .ref h4, .ref h5, .ref h6, .int gty, .int (if endG w then (1 : Int32) else 0), .int (if endS w then (1 : Int32) else 0), .int gsp, .ref h7, .ref h8, .int gtl])), (h1, .inl (cI, 190, .inl g53_1)), (h2, .inl (cI, 190, .inl g20_2))] : va_W) = [(h, .inr (8, [.ref h1, .ref h2, .ref h3, .int gst, .ref h4, .ref h5, .ref h6, .int gty, .int (if endG w then (1 : Int32) else 0), .int (if endS w then (1 : Int32) else 0), .int gsp, .ref h7, .ref h8, .int gtl])), (h1, .inl (cI, 190, .inl (beatZ w))), (h2, .inl (cI, 190, .inl g20_2))] := by rw [hg53_1]
                  exact ih28  x56 (x56) (beatZ w) (if endG w then (1 : Int32) else 0) (if endS w then (1 : Int32) else 0) (by omega) (by exact beat_inv hJ hC d43) (by exact beat_can hC) (by intro q; have := congrArg Int32.toInt q; rw [show (-6 : Int32).toInt = -6 from by decide] at this; omega) (by intro _; exact ⟨h48, trivial⟩) (by omega) _ _ (xk_P hP q28) (xk_D hD q28) hS ls (lv_sub hl [0, 1, 2] rfl)
    exact L28 5001 (0 : Int32) (-6 : Int32) z gse gte (by decide) (by exact hI) (by exact b1) (by intro _; rfl) (by intro q; exact absurd rfl q) (by decide) _ _ hP hD hS ls (lv_sub hl [0, 1, 2] rfl)
  · have b1 : ¬ (canZ z) := b1
    refine lv_if_ne (tgt := 10) hx hb dX8_together_4 (by decide) (fun c4 => absurd (by decide) c4) (fun _ => ?_)
    refine lv_bipush (v := (-5)) hx hb dX8_together_7 (by decide) ?_
    exact xk_reti (spare, gse, gte) hx hb hr hlocks (xk_P hP (by rfl)) (by (try dsimp only); rw [togA, if_neg b1]) hS dX8_together_9 hQ

set_option maxHeartbeats 4000000 in
set_option maxRecDepth 100000 in
theorem c_X8_meets (l : Launch) (D : va_G) (cI cZ cS : ClassId) (h h1 h2 h3 h4 h5 h6 h7 h8 : Nat) (gst gty gse gte gsp gtl : Int32) (z : Nat → Int32) (p1 p2 : Int32) (hg : SongOK z) (hrd : RoadOK z) : xMi l yX8_meets cX8_meets 4 (some .int) ({ frames := 3, cells := 0, slots := 0, locals := 67 } : Room) D (xTy cI cZ cS) [.ref h, .int p1, .int p2] [(h, .inr (8, [.ref h1, .ref h2, .ref h3, .int gst, .ref h4, .ref h5, .ref h6, .int gty, .int gse, .int gte, .int gsp, .ref h7, .ref h8, .int gtl])), (h1, .inl (cI, 190, .inl z))] (fun (r : Int32) (_ : Unit) => meetA z p1 p2 r) (fun (_ : Unit) => [(h, .inr (8, [.ref h1, .ref h2, .ref h3, .int gst, .ref h4, .ref h5, .ref h6, .int gty, .int gse, .int gte, .int gsp, .ref h7, .ref h8, .int gtl])), (h1, .inl (cI, 190, .inl z))]) := by
  refine xk_bodyi (by decide) (Nat.le_of_ble_eq_true rfl) ?_
  intro p e s m below meth c A ls args Q hx hb hr hts hown hlocks hml hin hK hP hD hS hA hN hZ hl hQ
  have hl : lv_has ls 4 [(0, .ref h), (1, .int p1), (2, .int p2)] := hl
  have hq0 := hrd.1
  have hq6 := hg.1
  refine lv_aload_n hx hb dX8_meets_0 rfl (lv_at hl 0 rfl) ?_
  refine lv_iload_n hx hb dX8_meets_1 rfl (lv_at hl 1 rfl) ?_
  refine xk_Vi (As := [.int p1]) (rest := []) hx hb hml hown hts hK hN hZ hP hD hS hA mb_X8_isStretch mw_3_213 mw_3_215 mw_0_16 (c_X8_isStretch l D cI cZ cS h h1 h2 h3 h4 h5 h6 h7 h8 gst gty gse gte gsp gtl z p1 (by omega)) [0, 1] 0 8 rfl rfl (by decide) rfl (fun _ => by simp only [List.map]) (by decide) (by decide) rfl hl.1 rfl (Nat.le_of_ble_eq_true rfl) dX8_meets_2 ⟨Nat.zero_le _, Nat.zero_le _⟩ (fun r2 _ H locs hw hP hD hS => ?_)
  have hP : va_P D vwCl [(h, .inr (8, [.ref h1, .ref h2, .ref h3, .int gst, .ref h4, .ref h5, .ref h6, .int gty, .int gse, .int gte, .int gsp, .ref h7, .ref h8, .int gtl])), (h1, .inl (cI, 190, .inl z))] H := hP
  have hD : va_D A [(h, .inr (8, [.ref h1, .ref h2, .ref h3, .int gst, .ref h4, .ref h5, .ref h6, .int gty, .int gse, .int gte, .int gsp, .ref h7, .ref h8, .int gtl])), (h1, .inl (cI, 190, .inl z))] := hD
  rcases hw with ⟨rfl, b2⟩ | ⟨rfl, b2⟩
  · have b2 : 0 ≤ p1.toInt ∧ p1.toInt < (z 7).toInt := b2
    have hq := (hrd.2 p1.toInt.toNat (by omega)).1
    refine lv_if_ne (tgt := 10) hx hb dX8_meets_5 (by decide) (fun _ => ?_) (fun c5 => absurd c5 (by decide))
    refine lv_iload_n hx hb dX8_meets_10 rfl (lv_at hl 2 rfl) ?_
    refine lv_iconst (v := 0) hx hb dX8_meets_11 (by decide) ?_
    refine lv_iconst (v := 1) hx hb dX8_meets_12 (by decide) ?_
    refine xk_Si (As := [.int p2, .int 0, .int 1]) (rest := []) hx hb hml hown hts hK hN hZ hP hD hS hA mb_X8_in mw_3_143 mw_3_144 (c_X8_in l D cI cZ cS p2 (0 : Int32) (1 : Int32) ) [] (by decide) rfl (fun _ => by simp only [List.map]) (by decide) (by decide) rfl hl.1 rfl (Nat.le_of_ble_eq_true rfl) dX8_meets_13 ⟨Nat.zero_le _, Nat.zero_le _⟩ (fun r13 _ H locs hw hP hD hS => ?_)
    have hP : va_P D vwCl [(h, .inr (8, [.ref h1, .ref h2, .ref h3, .int gst, .ref h4, .ref h5, .ref h6, .int gty, .int gse, .int gte, .int gsp, .ref h7, .ref h8, .int gtl])), (h1, .inl (cI, 190, .inl z))] H := hP
    have hD : va_D A [(h, .inr (8, [.ref h1, .ref h2, .ref h3, .int gst, .ref h4, .ref h5, .ref h6, .int gty, .int gse, .int gte, .int gsp, .ref h7, .ref h8, .int gtl])), (h1, .inl (cI, 190, .inl z))] := hD
    rcases hw with ⟨rfl, b13⟩ | ⟨rfl, b13⟩
    · have b13 : 0 ≤ p2.toInt ∧ p2.toInt ≤ 1 := b13
      refine lv_if_ne (tgt := 22) hx hb dX8_meets_16 (by decide) (fun _ => ?_) (fun c16 => absurd c16 (by decide))
      refine lv_aload_n hx hb dX8_meets_22 rfl (lv_at hl 0 rfl) ?_
      refine va_get (D := D) (ci := 8) (v := .ref h1) (C := RX8) (T := TX8) (N := 14) hx hb hts xin8 hown hK hP 0 rfl rfl 0 (by decide) (hts _ (List.mem_cons_of_mem _ mw_3_89)) (fun _ h9 => h9) rfl dX8_meets_23 ?_
      refine lv_bipush (v := 6) hx hb dX8_meets_26 (by decide) ?_
      refine va_iald hx hb hK hP 1 0 rfl rfl (xi_in (by decide) (by decide)) dX8_meets_28 ?_
      refine xk_top (z := z 6) rfl ?_
      refine lv_if_ne (tgt := 35) hx hb dX8_meets_29 (by decide) (fun c29 => ?_) (fun c29 => ?_)
      · have t29 : ¬ (z 6).toInt = 0 := xi_ne rfl (by decide) c29
        have d29 : ¬ (z 6) = 0 := c29
        refine lv_iconst (v := 1) hx hb dX8_meets_35 (by decide) ?_
        refine lv_istore_n (lv' := [(3, .int 1), (0, .ref h), (1, .int p1), (2, .int p2)]) hx hb dX8_meets_36 rfl hl (by decide) rfl (fun ls hl => ?_)
        have L37 : ∀ (n : Nat) (k : Int32) (hk : 1 ≤ k.toInt ∧ k.toInt ≤ (ofZ z p1.toInt.toNat 0).toInt) (hj : ∀ j : Int, 1 ≤ j → j < k.toInt → ¬ j * (sumS z (z 6).toInt.toNat).toInt % (ofZ z p1.toInt.toNat 0).toInt = 0) (hn37 : (100 - k.toInt).toNat < n) (H : Heap) (locs : List Loc), va_P D vwCl [(h, .inr (8, [.ref h1, .ref h2, .ref h3, .int gst, .ref h4, .ref h5, .ref h6, .int gty, .int gse, .int gte, .int gsp, .ref h7, .ref h8, .int gtl])), (h1, .inl (cI, 190, .inl z))] H → va_D A [(h, .inr (8, [.ref h1, .ref h2, .ref h3, .int gst, .ref h4, .ref h5, .ref h6, .int gty, .int gse, .int gte, .int gsp, .ref h7, .ref h8, .int gtl])), (h1, .inl (cI, 190, .inl z))] → va_S A s.heap H locs → ∀ ls : Array Slot, lv_has ls 4 [(3, .int k), (0, .ref h), (1, .int p1), (2, .int p2)] → W p l e ({ frames := 3, cells := 0, slots := 0, locals := 67 } : Room) s m args below meth c H locs 0 0 Q (F0 m 37 ls []) := by
          intro n
          induction n with
          | zero =>
            intro k hk hj hn37
            exact absurd hn37 (Nat.not_lt_zero _)
          | succ n ih37 =>
            intro k hk hj hn37 H locs hP hD hS ls hl
            refine lv_iload_n hx hb dX8_meets_37 rfl (lv_at hl 0 rfl) ?_
            refine lv_aload_n hx hb dX8_meets_38 rfl (lv_at hl 1 rfl) ?_
            refine xk_Vi (As := []) (rest := [.int k]) hx hb hml hown hts hK hN hZ hP hD hS hA mb_X8_sungInSong mw_4_46 mw_4_48 mw_0_25 (c_X8_sungInSong l D cI cZ cS h h1 h2 h3 h4 h5 h6 h7 h8 gst gty gse gte gsp gtl z (by assumption)) [0, 1] 0 8 rfl rfl (by decide) rfl (fun _ => by simp only [List.map]) (by decide) (by decide) rfl hl.1 rfl (Nat.le_of_ble_eq_true rfl) dX8_meets_39 ⟨Nat.zero_le _, Nat.zero_le _⟩ (fun r39 _ H locs hw hP hD hS => ?_)
            have hP : va_P D vwCl [(h, .inr (8, [.ref h1, .ref h2, .ref h3, .int gst, .ref h4, .ref h5, .ref h6, .int gty, .int gse, .int gte, .int gsp, .ref h7, .ref h8, .int gtl])), (h1, .inl (cI, 190, .inl z))] H := hP
            have hD : va_D A [(h, .inr (8, [.ref h1, .ref h2, .ref h3, .int gst, .ref h4, .ref h5, .ref h6, .int gty, .int gse, .int gte, .int gsp, .ref h7, .ref h8, .int gtl])), (h1, .inl (cI, 190, .inl z))] := hD
            have e39 : r39 = sumS z (z 6).toInt.toNat := hw
            have hB := sumS_in hg (z 6).toInt.toNat (by omega)
            rw [← e39] at hB
            have hM := mul_in (k := k.toInt) (b := r39.toInt) (by omega) (by omega)
            refine lv_imul hx hb dX8_meets_42 ?_
            refine lv_topi (fun x42 e42 => ?_)
            have t42 : x42.toInt = k.toInt * r39.toInt := by rw [e42]; exact xi_mul rfl rfl (by omega) (by omega)
            refine lv_aload_n hx hb dX8_meets_43 rfl (lv_at hl 1 rfl) ?_
            refine lv_iload_n hx hb dX8_meets_44 rfl (lv_at hl 2 rfl) ?_
            refine lv_iconst (v := 0) hx hb dX8_meets_45 (by decide) ?_
            refine xk_Vi (As := [.int p1, .int 0]) (rest := [.int x42]) hx hb hml hown hts hK hN hZ hP hD hS hA mb_X8_ofStretch mw_3_174 mw_3_176 mw_0_11 (c_X8_ofStretch l D cI cZ cS h h1 h2 h3 h4 h5 h6 h7 h8 gst gty gse gte gsp gtl z p1 (0 : Int32) (by omega) (by decide)) [0, 1] 0 8 rfl rfl (by decide) rfl (fun _ => by simp only [List.map]) (by decide) (by decide) rfl hl.1 rfl (Nat.le_of_ble_eq_true rfl) dX8_meets_46 ⟨Nat.zero_le _, Nat.zero_le _⟩ (fun r46 _ H locs hw hP hD hS => ?_)
            have hP : va_P D vwCl [(h, .inr (8, [.ref h1, .ref h2, .ref h3, .int gst, .ref h4, .ref h5, .ref h6, .int gty, .int gse, .int gte, .int gsp, .ref h7, .ref h8, .int gtl])), (h1, .inl (cI, 190, .inl z))] H := hP
            have hD : va_D A [(h, .inr (8, [.ref h1, .ref h2, .ref h3, .int gst, .ref h4, .ref h5, .ref h6, .int gty, .int gse, .int gte, .int gsp, .ref h7, .ref h8, .int gtl])), (h1, .inl (cI, 190, .inl z))] := hD
            have e46 : r46 = ofZ z p1.toInt.toNat 0 := hw
            refine lv_irem hx hb dX8_meets_49 (i_ne0 (by rw [e46]; omega)) ?_
            refine lv_topi (fun x49 e49 => ?_)
            have t46 : r46.toInt = (ofZ z p1.toInt.toNat 0).toInt := by rw [e46]
            have t49 : x49.toInt = k.toInt * r39.toInt % r46.toInt := by rw [e49, xi_rem rfl rfl (by omega) (by omega), t42]
            refine lv_if_eq (tgt := 59) hx hb dX8_meets_50 (by decide) (fun c50 => ?_) (fun c50 => ?_)
            · have t50 : x49.toInt = 0 := xi_eq rfl (by decide) c50
              have d50 : x49 = 0 := c50
              refine lv_iload_n hx hb dX8_meets_59 rfl (lv_at hl 0 rfl) ?_
              exact xk_reti () hx hb hr hlocks (xk_P hP (by rfl)) (by unfold meetA; rw [if_pos b2, if_pos b13, if_neg d29]; exact ⟨hk, by rw [← e39, ← t46, ← t49]; exact t50, hj⟩) hS dX8_meets_60 hQ
            · have t50 : ¬ x49.toInt = 0 := xi_ne rfl (by decide) c50
              have d50 : ¬ x49 = 0 := c50
              obtain ⟨x53, e53⟩ : ∃ y : Int32, y = k + 1 := ⟨_, rfl⟩
              have t53 : x53.toInt = k.toInt + 1 := by rw [e53]; exact xi_add rfl (by decide) (by omega) (by omega)
              refine lv_iinc (v := x53) (lv' := [(3, .int x53), (0, .ref h), (1, .int p1), (2, .int p2)]) hx hb dX8_meets_53 hl (k := 0) rfl (by rw [e53]; rfl) (by decide) rfl (fun ls hl => ?_)
              refine lv_goto (tgt := 37) hx hb dX8_meets_56 (by decide) ?_
              have hne : ¬ k.toInt * (sumS z (z 6).toInt.toNat).toInt % (ofZ z p1.toInt.toNat 0).toInt = 0 := by rw [← e39, ← t46, ← t49]; exact t50
              have hkn : ¬ k.toInt = (ofZ z p1.toInt.toNat 0).toInt := fun q => hne (by rw [q]; exact Int.mul_emod_right _ _)
              exact ih37  x53 (by omega) (by intro j q1 q2; by_cases q : j = k.toInt; (rw [q]; exact hne); exact hj j q1 (by omega)) (by omega) _ _ hP hD hS ls (lv_sub hl [0, 1, 2, 3] rfl)
        exact L37 100 (1 : Int32) (by rw [show (1 : Int32).toInt = 1 from by decide]; omega) (by intro j q1 q2; rw [show (1 : Int32).toInt = 1 from by decide] at q2; omega) (by decide) _ _ hP hD hS ls (lv_sub hl [0, 1, 2, 3] rfl)
      · have t29 : (z 6).toInt = 0 := xi_eq rfl (by decide) c29
        have d29 : (z 6) = 0 := c29
        refine lv_bipush (v := (-5)) hx hb dX8_meets_32 (by decide) ?_
        exact xk_reti () hx hb hr hlocks (xk_P hP (by rfl)) (by unfold meetA; rw [if_pos b2, if_pos b13, if_pos d29]) hS dX8_meets_34 hQ
    · have b13 : ¬ (0 ≤ p2.toInt ∧ p2.toInt ≤ 1) := b13
      refine lv_if_ne (tgt := 22) hx hb dX8_meets_16 (by decide) (fun c16 => absurd (by decide) c16) (fun _ => ?_)
      refine lv_bipush (v := (-2)) hx hb dX8_meets_19 (by decide) ?_
      exact xk_reti () hx hb hr hlocks (xk_P hP (by rfl)) (by unfold meetA; rw [if_pos b2, if_neg b13]) hS dX8_meets_21 hQ
  · have b2 : ¬ (0 ≤ p1.toInt ∧ p1.toInt < (z 7).toInt) := b2
    refine lv_if_ne (tgt := 10) hx hb dX8_meets_5 (by decide) (fun c5 => absurd (by decide) c5) (fun _ => ?_)
    refine lv_iconst (v := (-1)) hx hb dX8_meets_8 (by decide) ?_
    exact xk_reti () hx hb hr hlocks (xk_P hP (by rfl)) (by unfold meetA; rw [if_neg b2]) hS dX8_meets_9 hQ

set_option maxHeartbeats 4000000 in
set_option maxRecDepth 100000 in
theorem c_X8_leastBreath (l : Launch) (D : va_G) (cI cZ cS : ClassId) (h h1 h2 h3 h4 h5 h6 h7 h8 : Nat) (gst gty gse gte gsp gtl : Int32) (z spare : Nat → Int32)  (hI : InvZ z) : xMi l yX8_leastBreath cX8_leastBreath 3 (some .int) ({ frames := 5, cells := 0, slots := 0, locals := 107 } : Room) D (xTy cI cZ cS) [.ref h] [(h, .inr (8, [.ref h1, .ref h2, .ref h3, .int gst, .ref h4, .ref h5, .ref h6, .int gty, .int gse, .int gte, .int gsp, .ref h7, .ref h8, .int gtl])), (h1, .inl (cI, 190, .inl z)), (h2, .inl (cI, 190, .inl spare))] (fun (r : Int32) (u : (Nat → Int32) × (Int32) × (Int32)) => (canZ z ∧ lbA z r) ∨ (¬ canZ z ∧ r = -5)) (fun (u : (Nat → Int32) × (Int32) × (Int32)) => [(h, .inr (8, [.ref h1, .ref h2, .ref h3, .int gst, .ref h4, .ref h5, .ref h6, .int gty, .int u.2.1, .int u.2.2, .int gsp, .ref h7, .ref h8, .int gtl])), (h1, .inl (cI, 190, .inl z)), (h2, .inl (cI, 190, .inl u.1))]) := by
  refine xk_bodyi (by decide) (Nat.le_of_ble_eq_true rfl) ?_
  intro p e s m below meth c A ls args Q hx hb hr hts hown hlocks hml hin hK hP hD hS hA hN hZ hl hQ
  have hl : lv_has ls 3 [(0, .ref h)] := hl
  obtain ⟨his, hig, hir, -⟩ := id hI
  refine lv_aload_n hx hb dX8_leastBreath_0 rfl (lv_at hl 0 rfl) ?_
  refine xk_Vi (As := []) (rest := []) hx hb hml hown hts hK hN hZ hP hD hS hA mb_X8_canMarch mw_3_158 mw_3_160 mw_0_7 (c_X8_canMarch l D cI cZ cS h h1 h2 h3 h4 h5 h6 h7 h8 gst gty gse gte gsp gtl z ) [0, 1] 0 8 rfl rfl (by decide) rfl (fun _ => by simp only [List.map]) (by decide) (by decide) rfl hl.1 rfl (Nat.le_of_ble_eq_true rfl) dX8_leastBreath_1 ⟨Nat.zero_le _, Nat.zero_le _⟩ (fun r1 _ H locs hw hP hD hS => ?_)
  have hP : va_P D vwCl [(h, .inr (8, [.ref h1, .ref h2, .ref h3, .int gst, .ref h4, .ref h5, .ref h6, .int gty, .int gse, .int gte, .int gsp, .ref h7, .ref h8, .int gtl])), (h1, .inl (cI, 190, .inl z)), (h2, .inl (cI, 190, .inl spare))] H := hP
  have hD : va_D A [(h, .inr (8, [.ref h1, .ref h2, .ref h3, .int gst, .ref h4, .ref h5, .ref h6, .int gty, .int gse, .int gte, .int gsp, .ref h7, .ref h8, .int gtl])), (h1, .inl (cI, 190, .inl z)), (h2, .inl (cI, 190, .inl spare))] := hD
  rcases hw with ⟨rfl, b1⟩ | ⟨rfl, b1⟩
  · have b1 : canZ z := b1
    refine lv_if_ne (tgt := 10) hx hb dX8_leastBreath_4 (by decide) (fun _ => ?_) (fun c4 => absurd c4 (by decide))
    refine lv_aload_n hx hb dX8_leastBreath_10 rfl (lv_at hl 0 rfl) ?_
    refine va_get (D := D) (ci := 8) (v := .ref h1) (C := RX8) (T := TX8) (N := 14) hx hb hts xin8 hown hK hP 0 rfl rfl 0 (by decide) (hts _ (List.mem_cons_of_mem _ mw_3_89)) (fun _ h9 => h9) rfl dX8_leastBreath_11 ?_
    refine lv_iconst (v := 0) hx hb dX8_leastBreath_14 (by decide) ?_
    refine lv_aload_n hx hb dX8_leastBreath_15 rfl (lv_at hl 0 rfl) ?_
    refine va_get (D := D) (ci := 8) (v := .ref h2) (C := RX8) (T := TX8) (N := 14) hx hb hts xin8 hown hK hP 0 rfl rfl 1 (by decide) (hts _ (List.mem_cons_of_mem _ mw_3_90)) (fun _ h9 => h9) rfl dX8_leastBreath_16 ?_
    refine lv_iconst (v := 0) hx hb dX8_leastBreath_19 (by decide) ?_
    refine xk_Sv (As := [.ref h1, .int 0, .ref h2, .int 0]) (rest := []) hx hb hml hown hts hK hN hZ hP hD hS hA mb_X8_copyState mw_3_136 mw_3_137 (c_X8_copyState l D cI cZ cS h1 h2 190 190 z spare (0 : Int32) (0 : Int32) (by first | omega | decide | assumption) (by first | omega | decide | assumption) (by first | omega | decide | assumption)) [1, 2] (by decide) rfl (fun _ => by simp only [List.map]) (by decide) (by decide) rfl hl.1 rfl (Nat.le_of_ble_eq_true rfl) dX8_leastBreath_20 ⟨Nat.zero_le _, Nat.zero_le _⟩ (fun _ H locs hw hP hD hS => ?_)
    have hP : va_P D vwCl [(h, .inr (8, [.ref h1, .ref h2, .ref h3, .int gst, .ref h4, .ref h5, .ref h6, .int gty, .int gse, .int gte, .int gsp, .ref h7, .ref h8, .int gtl])), (h1, .inl (cI, 190, .inl z)), (h2, .inl (cI, 190, .inl (va_cpy z spare 0 0 190)))] H := hP
    have hD : va_D A [(h, .inr (8, [.ref h1, .ref h2, .ref h3, .int gst, .ref h4, .ref h5, .ref h6, .int gty, .int gse, .int gte, .int gsp, .ref h7, .ref h8, .int gtl])), (h1, .inl (cI, 190, .inl z)), (h2, .inl (cI, 190, .inl (va_cpy z spare 0 0 190)))] := hD
    obtain ⟨g20_2, hg20_2⟩ : ∃ g, g = (va_cpy z spare 0 0 190) := ⟨_, rfl⟩
    rw [← hg20_2] at hP hD
    have hP : va_P D vwCl [(h, .inr (8, [.ref h1, .ref h2, .ref h3, .int gst, .ref h4, .ref h5, .ref h6, .int gty, .int gse, .int gte, .int gsp, .ref h7, .ref h8, .int gtl])), (h1, .inl (cI, 190, .inl z)), (h2, .inl (cI, 190, .inl g20_2))] H := hP
    have hD : va_D A [(h, .inr (8, [.ref h1, .ref h2, .ref h3, .int gst, .ref h4, .ref h5, .ref h6, .int gty, .int gse, .int gte, .int gsp, .ref h7, .ref h8, .int gtl])), (h1, .inl (cI, 190, .inl z)), (h2, .inl (cI, 190, .inl g20_2))] := hD
    refine lv_bipush (v := (-6)) hx hb dX8_leastBreath_23 (by decide) ?_
    refine lv_istore_n (lv' := [(1, .int (-6)), (0, .ref h)]) hx hb dX8_leastBreath_25 rfl hl (by decide) rfl (fun ls hl => ?_)
    refine lv_bipush (v := 60) hx hb dX8_leastBreath_26 (by decide) ?_
    refine lv_istore_n (lv' := [(2, .int 60), (1, .int (-6)), (0, .ref h)]) hx hb dX8_leastBreath_28 rfl hl (by decide) rfl (fun ls hl => ?_)
    have L29 : ∀ (n : Nat) (b : Int32) (f : Int32) (w : Nat → Int32) (se : Int32) (te : Int32) (hk : 4 ≤ b.toInt ∧ b.toInt ≤ 60) (hX : sameX 4 z w) (hL : lbI z b f) (hn29 : b.toInt.toNat < n) (H : Heap) (locs : List Loc), va_P D vwCl [(h, .inr (8, [.ref h1, .ref h2, .ref h3, .int gst, .ref h4, .ref h5, .ref h6, .int gty, .int se, .int te, .int gsp, .ref h7, .ref h8, .int gtl])), (h1, .inl (cI, 190, .inl w)), (h2, .inl (cI, 190, .inl g20_2))] H → va_D A [(h, .inr (8, [.ref h1, .ref h2, .ref h3, .int gst, .ref h4, .ref h5, .ref h6, .int gty, .int se, .int te, .int gsp, .ref h7, .ref h8, .int gtl])), (h1, .inl (cI, 190, .inl w)), (h2, .inl (cI, 190, .inl g20_2))] → va_S A s.heap H locs → ∀ ls : Array Slot, lv_has ls 3 [(2, .int b), (1, .int f), (0, .ref h)] → W p l e ({ frames := 5, cells := 0, slots := 0, locals := 107 } : Room) s m args below meth c H locs 0 0 Q (F0 m 29 ls []) := by
      intro n
      induction n with
      | zero =>
        intro b f w se te hk hX hL hn29
        exact absurd hn29 (Nat.not_lt_zero _)
      | succ n ih29 =>
        intro b f w se te hk hX hL hn29 H locs hP hD hS ls hl
        refine lv_iload_n hx hb dX8_leastBreath_29 rfl (lv_at hl 0 rfl) ?_
        refine lv_iconst (v := 5) hx hb dX8_leastBreath_30 (by decide) ?_
        refine lv_icmp_lt (tgt := 71) hx hb dX8_leastBreath_31 (by decide) (fun c31 => ?_) (fun c31 => ?_)
        · have t31 : b.toInt < 5 := xi_lt rfl (by decide) c31
          refine lv_aload_n hx hb dX8_leastBreath_71 rfl (lv_at hl 2 rfl) ?_
          refine va_get (D := D) (ci := 8) (v := .ref h2) (C := RX8) (T := TX8) (N := 14) hx hb hts xin8 hown hK hP 0 rfl rfl 1 (by decide) (hts _ (List.mem_cons_of_mem _ mw_3_90)) (fun _ h9 => h9) rfl dX8_leastBreath_72 ?_
          refine lv_iconst (v := 0) hx hb dX8_leastBreath_75 (by decide) ?_
          refine lv_aload_n hx hb dX8_leastBreath_76 rfl (lv_at hl 2 rfl) ?_
          refine va_get (D := D) (ci := 8) (v := .ref h1) (C := RX8) (T := TX8) (N := 14) hx hb hts xin8 hown hK hP 0 rfl rfl 0 (by decide) (hts _ (List.mem_cons_of_mem _ mw_3_89)) (fun _ h9 => h9) rfl dX8_leastBreath_77 ?_
          refine lv_iconst (v := 0) hx hb dX8_leastBreath_80 (by decide) ?_
          refine xk_Sv (As := [.ref h2, .int 0, .ref h1, .int 0]) (rest := []) hx hb hml hown hts hK hN hZ hP hD hS hA mb_X8_copyState mw_3_136 mw_3_137 (c_X8_copyState l D cI cZ cS h2 h1 190 190 g20_2 w (0 : Int32) (0 : Int32) (by first | omega | decide | assumption) (by first | omega | decide | assumption) (by first | omega | decide | assumption)) [2, 1] (by decide) rfl (fun _ => by simp only [List.map]) (by decide) (by decide) rfl hl.1 rfl (Nat.le_of_ble_eq_true rfl) dX8_leastBreath_81 ⟨Nat.zero_le _, Nat.zero_le _⟩ (fun _ H locs hw hP hD hS => ?_)
          have hP : va_P D vwCl [(h, .inr (8, [.ref h1, .ref h2, .ref h3, .int gst, .ref h4, .ref h5, .ref h6, .int gty, .int se, .int te, .int gsp, .ref h7, .ref h8, .int gtl])), (h1, .inl (cI, 190, .inl (va_cpy g20_2 w 0 0 190))), (h2, .inl (cI, 190, .inl g20_2))] H := hP
          have hD : va_D A [(h, .inr (8, [.ref h1, .ref h2, .ref h3, .int gst, .ref h4, .ref h5, .ref h6, .int gty, .int se, .int te, .int gsp, .ref h7, .ref h8, .int gtl])), (h1, .inl (cI, 190, .inl (va_cpy g20_2 w 0 0 190))), (h2, .inl (cI, 190, .inl g20_2))] := hD
          obtain ⟨g81_1, hg81_1⟩ : ∃ g, g = (va_cpy g20_2 w 0 0 190) := ⟨_, rfl⟩
          rw [← hg81_1] at hP hD
          have hP : va_P D vwCl [(h, .inr (8, [.ref h1, .ref h2, .ref h3, .int gst, .ref h4, .ref h5, .ref h6, .int gty, .int se, .int te, .int gsp, .ref h7, .ref h8, .int gtl])), (h1, .inl (cI, 190, .inl g81_1)), (h2, .inl (cI, 190, .inl g20_2))] H := hP
          have hD : va_D A [(h, .inr (8, [.ref h1, .ref h2, .ref h3, .int gst, .ref h4, .ref h5, .ref h6, .int gty, .int se, .int te, .int gsp, .ref h7, .ref h8, .int gtl])), (h1, .inl (cI, 190, .inl g81_1)), (h2, .inl (cI, 190, .inl g20_2))] := hD
          have hP := xk_arr hP 1 z rfl (fun j hj => by rw [hg81_1, cpy_at _ _ hj, hg20_2, cpy_at _ _ hj])
          have hD := xk_arrD (e' := .inl (cI, 190, .inl z)) hD (k := 1) rfl
          have hP : va_P D vwCl [(h, .inr (8, [.ref h1, .ref h2, .ref h3, .int gst, .ref h4, .ref h5, .ref h6, .int gty, .int se, .int te, .int gsp, .ref h7, .ref h8, .int gtl])), (h1, .inl (cI, 190, .inl z)), (h2, .inl (cI, 190, .inl g20_2))] H := hP
          have hD : va_D A [(h, .inr (8, [.ref h1, .ref h2, .ref h3, .int gst, .ref h4, .ref h5, .ref h6, .int gty, .int se, .int te, .int gsp, .ref h7, .ref h8, .int gtl])), (h1, .inl (cI, 190, .inl z)), (h2, .inl (cI, 190, .inl g20_2))] := hD
          refine lv_iload_n hx hb dX8_leastBreath_84 rfl (lv_at hl 1 rfl) ?_
          exact xk_reti (g20_2, se, te) hx hb hr hlocks (xk_P hP (by rfl)) (by (try dsimp only); exact Or.inl ⟨b1, by rcases hL with ⟨l1, l2⟩ | ⟨l1, l2, l3⟩; (exact Or.inl ⟨l1, fun c q1 q2 => l2 c (by omega) q2⟩); exact Or.inr ⟨⟨by omega, l1.2⟩, l2, fun c q1 q2 => l3 c (by omega) q2⟩⟩) hS dX8_leastBreath_85 hQ
        · have t31 : 5 ≤ b.toInt := xi_nlt rfl (by decide) c31
          refine lv_aload_n hx hb dX8_leastBreath_34 rfl (lv_at hl 2 rfl) ?_
          refine va_get (D := D) (ci := 8) (v := .ref h1) (C := RX8) (T := TX8) (N := 14) hx hb hts xin8 hown hK hP 0 rfl rfl 0 (by decide) (hts _ (List.mem_cons_of_mem _ mw_3_89)) (fun _ h9 => h9) rfl dX8_leastBreath_35 ?_
          refine lv_iconst (v := 4) hx hb dX8_leastBreath_38 (by decide) ?_
          refine lv_iload_n hx hb dX8_leastBreath_39 rfl (lv_at hl 0 rfl) ?_
          refine va_iast hx hb hK hP hD hS 1 0 rfl rfl (xi_in (by decide) (by decide)) dX8_leastBreath_40 (fun H locs hP hD hS => ?_)
          have hP : va_P D vwCl [(h, .inr (8, [.ref h1, .ref h2, .ref h3, .int gst, .ref h4, .ref h5, .ref h6, .int gty, .int se, .int te, .int gsp, .ref h7, .ref h8, .int gtl])), (h1, .inl (cI, 190, .inl (upd w 4 b))), (h2, .inl (cI, 190, .inl g20_2))] H := hP
          have hD : va_D A [(h, .inr (8, [.ref h1, .ref h2, .ref h3, .int gst, .ref h4, .ref h5, .ref h6, .int gty, .int se, .int te, .int gsp, .ref h7, .ref h8, .int gtl])), (h1, .inl (cI, 190, .inl (upd w 4 b))), (h2, .inl (cI, 190, .inl g20_2))] := hD
          refine lv_aload_n hx hb dX8_leastBreath_41 rfl (lv_at hl 2 rfl) ?_
          refine xk_Vi (As := []) (rest := []) hx hb hml hown hts hK hN hZ hP hD hS hA mb_X8_isWalkedAnew mw_4_74 mw_4_76 mw_0_28 (c_X8_isWalkedAnew l D cI cZ cS h h1 h2 h3 h4 h5 h6 h7 h8 gst gty se te gsp gtl (upd w 4 b) (by exact SetOK_4 his hX b) (by exact (sameX_lo (by omega) hX b).1 hig) (by exact (sameX_lo (by omega) hX b).2.1 hir) (by exact (sameX_lo (by omega) hX b).2.2 b1)) [0, 1] 0 8 rfl rfl (by decide) rfl (fun _ => by simp only [List.map]) (by decide) (by decide) rfl hl.1 rfl (Nat.le_of_ble_eq_true rfl) dX8_leastBreath_42 ⟨Nat.zero_le _, Nat.zero_le _⟩ (fun r42 u42 H locs hw hP hD hS => ?_)
          obtain ⟨w42_0, w42_1⟩ := u42
          have hP : va_P D vwCl [(h, .inr (8, [.ref h1, .ref h2, .ref h3, .int gst, .ref h4, .ref h5, .ref h6, .int gty, .int w42_0, .int w42_1, .int gsp, .ref h7, .ref h8, .int gtl])), (h1, .inl (cI, 190, .inl (aneZ (upd w 4 b)))), (h2, .inl (cI, 190, .inl g20_2))] H := hP
          have hD : va_D A [(h, .inr (8, [.ref h1, .ref h2, .ref h3, .int gst, .ref h4, .ref h5, .ref h6, .int gty, .int w42_0, .int w42_1, .int gsp, .ref h7, .ref h8, .int gtl])), (h1, .inl (cI, 190, .inl (aneZ (upd w 4 b)))), (h2, .inl (cI, 190, .inl g20_2))] := hD
          obtain ⟨g42_1, hg42_1⟩ : ∃ g, g = (aneZ (upd w 4 b)) := ⟨_, rfl⟩
          rw [← hg42_1] at hP hD
          have hP : va_P D vwCl [(h, .inr (8, [.ref h1, .ref h2, .ref h3, .int gst, .ref h4, .ref h5, .ref h6, .int gty, .int w42_0, .int w42_1, .int gsp, .ref h7, .ref h8, .int gtl])), (h1, .inl (cI, 190, .inl g42_1)), (h2, .inl (cI, 190, .inl g20_2))] H := hP
          have hD : va_D A [(h, .inr (8, [.ref h1, .ref h2, .ref h3, .int gst, .ref h4, .ref h5, .ref h6, .int gty, .int w42_0, .int w42_1, .int gsp, .ref h7, .ref h8, .int gtl])), (h1, .inl (cI, 190, .inl g42_1)), (h2, .inl (cI, 190, .inl g20_2))] := hD
          rcases hw with ⟨rfl, b42⟩ | ⟨rfl, b42⟩
          · have b42 : aneZ (upd w 4 b) 188 = 1 := b42
            refine lv_if_eq (tgt := 63) hx hb dX8_leastBreath_45 (by decide) (fun c45 => absurd c45 (by decide)) (fun _ => ?_)
            refine lv_aload_n hx hb dX8_leastBreath_48 rfl (lv_at hl 2 rfl) ?_
            refine va_get (D := D) (ci := 8) (v := .ref h1) (C := RX8) (T := TX8) (N := 14) hx hb hts xin8 hown hK hP 0 rfl rfl 0 (by decide) (hts _ (List.mem_cons_of_mem _ mw_3_89)) (fun _ h9 => h9) rfl dX8_leastBreath_49 ?_
            refine lv_sipush (v := 185) hx hb dX8_leastBreath_52 (by decide) ?_
            refine va_iald hx hb hK hP 1 0 rfl rfl (xi_in (by decide) (by decide)) dX8_leastBreath_55 ?_
            refine xk_top (z := g42_1 185) rfl ?_
            refine lv_if_ne (tgt := 63) hx hb dX8_leastBreath_56 (by decide) (fun c56 => ?_) (fun c56 => ?_)
            · have t56 : ¬ (g42_1 185).toInt = 0 := xi_ne rfl (by decide) c56
              have d56 : ¬ (g42_1 185) = 0 := c56
              refine lv_iload_n hx hb dX8_leastBreath_63 rfl (lv_at hl 1 rfl) ?_
              refine lv_istore_n (lv' := [(1, .int f), (2, .int b), (0, .ref h)]) hx hb dX8_leastBreath_64 rfl hl (by decide) rfl (fun ls hl => ?_)
              obtain ⟨x65, e65⟩ : ∃ y : Int32, y = b + (-1) := ⟨_, rfl⟩
              have t65 : x65.toInt = b.toInt + (-1) := by rw [e65]; exact xi_add rfl (by decide) (by omega) (by omega)
              refine lv_iinc (v := x65) (lv' := [(2, .int x65), (1, .int f), (0, .ref h)]) hx hb dX8_leastBreath_65 hl (k := 1) rfl (by rw [e65]; rfl) (by decide) rfl (fun ls hl => ?_)
              refine lv_goto (tgt := 29) hx hb dX8_leastBreath_68 (by decide) ?_
              have he := sameX_ane (by omega) hX b
              have hok : ¬ okB z b := fun hh => d56 (by rw [hg42_1, he]; exact hh.2)
              have hL2 : lbI z x65 f := by
                have hc : ∀ c : Int32, x65.toInt < c.toInt → ¬ okB z c ∨ b.toInt < c.toInt := fun c q => by
                  by_cases q2 : c = b
                  · rw [q2]; exact Or.inl hok
                  · have : ¬ c.toInt = b.toInt := fun q3 => q2 (xi_ext q3)
                    exact Or.inr (by omega)
                rcases hL with ⟨l1, l2⟩ | ⟨l1, l2, l3⟩
                · exact Or.inl ⟨l1, fun c q1 q2 => (hc c q1).elim id (fun q3 => l2 c q3 q2)⟩
                · exact Or.inr ⟨⟨by omega, l1.2⟩, l2, fun c q1 q2 => (hc c q1).elim id (fun q3 => l3 c q3 q2)⟩
              have q29 : ([(h, .inr (8, [.ref h1, .ref h2, .ref h3, .int gst, .ref h4, .ref h5, .ref h6, .int gty, .int w42_0, .int w42_1, .int gsp, .ref h7, .ref h8, .int gtl])), (h1, .inl (cI, 190, .inl g42_1)), (h2, .inl (cI, 190, .inl g20_2))] : va_W) = [(h, .inr (8, [.ref h1, .ref h2, .ref h3, .int gst, .ref h4, .ref h5, .ref h6, .int gty, .int w42_0, .int w42_1, .int gsp, .ref h7, .ref h8, .int gtl])), (h1, .inl (cI, 190, .inl (aneZ (upd w 4 b)))), (h2, .inl (cI, 190, .inl g20_2))] := by rw [hg42_1]
              exact ih29  x65 f (aneZ (upd w 4 b)) w42_0 w42_1 (by omega) (by exact sameX_next hX b) (by exact hL2) (by omega) _ _ (xk_P hP q29) (xk_D hD q29) hS ls (lv_sub hl [0, 1, 2] rfl)
            · have t56 : (g42_1 185).toInt = 0 := xi_eq rfl (by decide) c56
              have d56 : (g42_1 185) = 0 := c56
              refine lv_iload_n hx hb dX8_leastBreath_59 rfl (lv_at hl 0 rfl) ?_
              refine lv_goto (tgt := 64) hx hb dX8_leastBreath_60 (by decide) ?_
              refine lv_istore_n (lv' := [(1, .int b), (2, .int b), (0, .ref h)]) hx hb dX8_leastBreath_64 rfl hl (by decide) rfl (fun ls hl => ?_)
              obtain ⟨x65, e65⟩ : ∃ y : Int32, y = b + (-1) := ⟨_, rfl⟩
              have t65 : x65.toInt = b.toInt + (-1) := by rw [e65]; exact xi_add rfl (by decide) (by omega) (by omega)
              refine lv_iinc (v := x65) (lv' := [(2, .int x65), (1, .int b), (0, .ref h)]) hx hb dX8_leastBreath_65 hl (k := 1) rfl (by rw [e65]; rfl) (by decide) rfl (fun ls hl => ?_)
              refine lv_goto (tgt := 29) hx hb dX8_leastBreath_68 (by decide) ?_
              have he := sameX_ane (by omega) hX b
              have hok : okB z b := ⟨by rw [← he]; exact b42, by rw [← he, ← hg42_1]; exact d56⟩
              have hL2 : lbI z x65 b := Or.inr ⟨⟨by omega, by omega⟩, hok, fun c q1 q2 => by omega⟩
              have q29 : ([(h, .inr (8, [.ref h1, .ref h2, .ref h3, .int gst, .ref h4, .ref h5, .ref h6, .int gty, .int w42_0, .int w42_1, .int gsp, .ref h7, .ref h8, .int gtl])), (h1, .inl (cI, 190, .inl g42_1)), (h2, .inl (cI, 190, .inl g20_2))] : va_W) = [(h, .inr (8, [.ref h1, .ref h2, .ref h3, .int gst, .ref h4, .ref h5, .ref h6, .int gty, .int w42_0, .int w42_1, .int gsp, .ref h7, .ref h8, .int gtl])), (h1, .inl (cI, 190, .inl (aneZ (upd w 4 b)))), (h2, .inl (cI, 190, .inl g20_2))] := by rw [hg42_1]
              exact ih29  x65 b (aneZ (upd w 4 b)) w42_0 w42_1 (by omega) (by exact sameX_next hX b) (by exact hL2) (by omega) _ _ (xk_P hP q29) (xk_D hD q29) hS ls (lv_sub hl [0, 1, 2] rfl)
          · have b42 : ¬ (aneZ (upd w 4 b) 188 = 1) := b42
            refine lv_if_eq (tgt := 63) hx hb dX8_leastBreath_45 (by decide) (fun _ => ?_) (fun c45 => absurd (by decide) c45)
            refine lv_iload_n hx hb dX8_leastBreath_63 rfl (lv_at hl 1 rfl) ?_
            refine lv_istore_n (lv' := [(1, .int f), (2, .int b), (0, .ref h)]) hx hb dX8_leastBreath_64 rfl hl (by decide) rfl (fun ls hl => ?_)
            obtain ⟨x65, e65⟩ : ∃ y : Int32, y = b + (-1) := ⟨_, rfl⟩
            have t65 : x65.toInt = b.toInt + (-1) := by rw [e65]; exact xi_add rfl (by decide) (by omega) (by omega)
            refine lv_iinc (v := x65) (lv' := [(2, .int x65), (1, .int f), (0, .ref h)]) hx hb dX8_leastBreath_65 hl (k := 1) rfl (by rw [e65]; rfl) (by decide) rfl (fun ls hl => ?_)
            refine lv_goto (tgt := 29) hx hb dX8_leastBreath_68 (by decide) ?_
            have he := sameX_ane (by omega) hX b
            have hok : ¬ okB z b := fun hh => b42 (by rw [he]; exact hh.1)
            have hL2 : lbI z x65 f := by
              have hc : ∀ c : Int32, x65.toInt < c.toInt → ¬ okB z c ∨ b.toInt < c.toInt := fun c q => by
                by_cases q2 : c = b
                · rw [q2]; exact Or.inl hok
                · have : ¬ c.toInt = b.toInt := fun q3 => q2 (xi_ext q3)
                  exact Or.inr (by omega)
              rcases hL with ⟨l1, l2⟩ | ⟨l1, l2, l3⟩
              · exact Or.inl ⟨l1, fun c q1 q2 => (hc c q1).elim id (fun q3 => l2 c q3 q2)⟩
              · exact Or.inr ⟨⟨by omega, l1.2⟩, l2, fun c q1 q2 => (hc c q1).elim id (fun q3 => l3 c q3 q2)⟩
            have q29 : ([(h, .inr (8, [.ref h1, .ref h2, .ref h3, .int gst, .ref h4, .ref h5, .ref h6, .int gty, .int w42_0, .int w42_1, .int gsp, .ref h7, .ref h8, .int gtl])), (h1, .inl (cI, 190, .inl g42_1)), (h2, .inl (cI, 190, .inl g20_2))] : va_W) = [(h, .inr (8, [.ref h1, .ref h2, .ref h3, .int gst, .ref h4, .ref h5, .ref h6, .int gty, .int w42_0, .int w42_1, .int gsp, .ref h7, .ref h8, .int gtl])), (h1, .inl (cI, 190, .inl (aneZ (upd w 4 b)))), (h2, .inl (cI, 190, .inl g20_2))] := by rw [hg42_1]
            exact ih29  x65 f (aneZ (upd w 4 b)) w42_0 w42_1 (by omega) (by exact sameX_next hX b) (by exact hL2) (by omega) _ _ (xk_P hP q29) (xk_D hD q29) hS ls (lv_sub hl [0, 1, 2] rfl)
    exact L29 61 (60 : Int32) (-6 : Int32) z gse gte (by decide) (by exact sameX_0 4 z) (by exact Or.inl ⟨rfl, fun c q1 q2 => by rw [show (60 : Int32).toInt = 60 from by decide] at q1; omega⟩) (by decide) _ _ hP hD hS ls (lv_sub hl [0, 1, 2] rfl)
  · have b1 : ¬ (canZ z) := b1
    refine lv_if_ne (tgt := 10) hx hb dX8_leastBreath_4 (by decide) (fun c4 => absurd (by decide) c4) (fun _ => ?_)
    refine lv_bipush (v := (-5)) hx hb dX8_leastBreath_7 (by decide) ?_
    exact xk_reti (spare, gse, gte) hx hb hr hlocks (xk_P hP (by rfl)) (by (try dsimp only); exact Or.inr ⟨b1, rfl⟩) hS dX8_leastBreath_9 hQ

set_option maxHeartbeats 4000000 in
set_option maxRecDepth 100000 in
theorem c_X8_bestPause (l : Launch) (D : va_G) (cI cZ cS : ClassId) (h h1 h2 h3 h4 h5 h6 h7 h8 : Nat) (gst gty gse gte gsp gtl : Int32) (z spare : Nat → Int32)  (hI : InvZ z) : xMi l yX8_bestPause cX8_bestPause 5 (some .int) ({ frames := 5, cells := 0, slots := 0, locals := 107 } : Room) D (xTy cI cZ cS) [.ref h] [(h, .inr (8, [.ref h1, .ref h2, .ref h3, .int gst, .ref h4, .ref h5, .ref h6, .int gty, .int gse, .int gte, .int gsp, .ref h7, .ref h8, .int gtl])), (h1, .inl (cI, 190, .inl z)), (h2, .inl (cI, 190, .inl spare))] (fun (r : Int32) (u : (Nat → Int32) × (Int32) × (Int32)) => (canZ z ∧ bpA z r) ∨ (¬ canZ z ∧ r = -5)) (fun (u : (Nat → Int32) × (Int32) × (Int32)) => [(h, .inr (8, [.ref h1, .ref h2, .ref h3, .int gst, .ref h4, .ref h5, .ref h6, .int gty, .int u.2.1, .int u.2.2, .int gsp, .ref h7, .ref h8, .int gtl])), (h1, .inl (cI, 190, .inl z)), (h2, .inl (cI, 190, .inl u.1))]) := by
  refine xk_bodyi (by decide) (Nat.le_of_ble_eq_true rfl) ?_
  intro p e s m below meth c A ls args Q hx hb hr hts hown hlocks hml hin hK hP hD hS hA hN hZ hl hQ
  have hl : lv_has ls 5 [(0, .ref h)] := hl
  obtain ⟨his, hig, hir, -⟩ := id hI
  refine lv_aload_n hx hb dX8_bestPause_0 rfl (lv_at hl 0 rfl) ?_
  refine xk_Vi (As := []) (rest := []) hx hb hml hown hts hK hN hZ hP hD hS hA mb_X8_canMarch mw_3_158 mw_3_160 mw_0_7 (c_X8_canMarch l D cI cZ cS h h1 h2 h3 h4 h5 h6 h7 h8 gst gty gse gte gsp gtl z ) [0, 1] 0 8 rfl rfl (by decide) rfl (fun _ => by simp only [List.map]) (by decide) (by decide) rfl hl.1 rfl (Nat.le_of_ble_eq_true rfl) dX8_bestPause_1 ⟨Nat.zero_le _, Nat.zero_le _⟩ (fun r1 _ H locs hw hP hD hS => ?_)
  have hP : va_P D vwCl [(h, .inr (8, [.ref h1, .ref h2, .ref h3, .int gst, .ref h4, .ref h5, .ref h6, .int gty, .int gse, .int gte, .int gsp, .ref h7, .ref h8, .int gtl])), (h1, .inl (cI, 190, .inl z)), (h2, .inl (cI, 190, .inl spare))] H := hP
  have hD : va_D A [(h, .inr (8, [.ref h1, .ref h2, .ref h3, .int gst, .ref h4, .ref h5, .ref h6, .int gty, .int gse, .int gte, .int gsp, .ref h7, .ref h8, .int gtl])), (h1, .inl (cI, 190, .inl z)), (h2, .inl (cI, 190, .inl spare))] := hD
  rcases hw with ⟨rfl, b1⟩ | ⟨rfl, b1⟩
  · have b1 : canZ z := b1
    refine lv_if_ne (tgt := 10) hx hb dX8_bestPause_4 (by decide) (fun _ => ?_) (fun c4 => absurd c4 (by decide))
    refine lv_aload_n hx hb dX8_bestPause_10 rfl (lv_at hl 0 rfl) ?_
    refine va_get (D := D) (ci := 8) (v := .ref h1) (C := RX8) (T := TX8) (N := 14) hx hb hts xin8 hown hK hP 0 rfl rfl 0 (by decide) (hts _ (List.mem_cons_of_mem _ mw_3_89)) (fun _ h9 => h9) rfl dX8_bestPause_11 ?_
    refine lv_iconst (v := 0) hx hb dX8_bestPause_14 (by decide) ?_
    refine lv_aload_n hx hb dX8_bestPause_15 rfl (lv_at hl 0 rfl) ?_
    refine va_get (D := D) (ci := 8) (v := .ref h2) (C := RX8) (T := TX8) (N := 14) hx hb hts xin8 hown hK hP 0 rfl rfl 1 (by decide) (hts _ (List.mem_cons_of_mem _ mw_3_90)) (fun _ h9 => h9) rfl dX8_bestPause_16 ?_
    refine lv_iconst (v := 0) hx hb dX8_bestPause_19 (by decide) ?_
    refine xk_Sv (As := [.ref h1, .int 0, .ref h2, .int 0]) (rest := []) hx hb hml hown hts hK hN hZ hP hD hS hA mb_X8_copyState mw_3_136 mw_3_137 (c_X8_copyState l D cI cZ cS h1 h2 190 190 z spare (0 : Int32) (0 : Int32) (by first | omega | decide | assumption) (by first | omega | decide | assumption) (by first | omega | decide | assumption)) [1, 2] (by decide) rfl (fun _ => by simp only [List.map]) (by decide) (by decide) rfl hl.1 rfl (Nat.le_of_ble_eq_true rfl) dX8_bestPause_20 ⟨Nat.zero_le _, Nat.zero_le _⟩ (fun _ H locs hw hP hD hS => ?_)
    have hP : va_P D vwCl [(h, .inr (8, [.ref h1, .ref h2, .ref h3, .int gst, .ref h4, .ref h5, .ref h6, .int gty, .int gse, .int gte, .int gsp, .ref h7, .ref h8, .int gtl])), (h1, .inl (cI, 190, .inl z)), (h2, .inl (cI, 190, .inl (va_cpy z spare 0 0 190)))] H := hP
    have hD : va_D A [(h, .inr (8, [.ref h1, .ref h2, .ref h3, .int gst, .ref h4, .ref h5, .ref h6, .int gty, .int gse, .int gte, .int gsp, .ref h7, .ref h8, .int gtl])), (h1, .inl (cI, 190, .inl z)), (h2, .inl (cI, 190, .inl (va_cpy z spare 0 0 190)))] := hD
    obtain ⟨g20_2, hg20_2⟩ : ∃ g, g = (va_cpy z spare 0 0 190) := ⟨_, rfl⟩
    rw [← hg20_2] at hP hD
    have hP : va_P D vwCl [(h, .inr (8, [.ref h1, .ref h2, .ref h3, .int gst, .ref h4, .ref h5, .ref h6, .int gty, .int gse, .int gte, .int gsp, .ref h7, .ref h8, .int gtl])), (h1, .inl (cI, 190, .inl z)), (h2, .inl (cI, 190, .inl g20_2))] H := hP
    have hD : va_D A [(h, .inr (8, [.ref h1, .ref h2, .ref h3, .int gst, .ref h4, .ref h5, .ref h6, .int gty, .int gse, .int gte, .int gsp, .ref h7, .ref h8, .int gtl])), (h1, .inl (cI, 190, .inl z)), (h2, .inl (cI, 190, .inl g20_2))] := hD
    refine lv_bipush (v := (-6)) hx hb dX8_bestPause_23 (by decide) ?_
    refine lv_istore_n (lv' := [(1, .int (-6)), (0, .ref h)]) hx hb dX8_bestPause_25 rfl hl (by decide) rfl (fun ls hl => ?_)
    refine lv_sipush (v := 5001) hx hb dX8_bestPause_26 (by decide) ?_
    refine lv_istore_n (lv' := [(2, .int 5001), (1, .int (-6)), (0, .ref h)]) hx hb dX8_bestPause_29 rfl hl (by decide) rfl (fun ls hl => ?_)
    refine lv_iconst (v := 0) hx hb dX8_bestPause_30 (by decide) ?_
    refine lv_istore_n (lv' := [(3, .int 0), (2, .int 5001), (1, .int (-6)), (0, .ref h)]) hx hb dX8_bestPause_31 rfl hl (by decide) rfl (fun ls hl => ?_)
    have L32 : ∀ (n : Nat) (k : Int32) (f : Int32) (le : Int32) (w : Nat → Int32) (se : Int32) (te : Int32) (hk : 0 ≤ k.toInt ∧ k.toInt ≤ 10) (hX : sameX 1 z w) (hL : bpI z k f le) (hn32 : (10 - k.toInt).toNat < n) (H : Heap) (locs : List Loc), va_P D vwCl [(h, .inr (8, [.ref h1, .ref h2, .ref h3, .int gst, .ref h4, .ref h5, .ref h6, .int gty, .int se, .int te, .int gsp, .ref h7, .ref h8, .int gtl])), (h1, .inl (cI, 190, .inl w)), (h2, .inl (cI, 190, .inl g20_2))] H → va_D A [(h, .inr (8, [.ref h1, .ref h2, .ref h3, .int gst, .ref h4, .ref h5, .ref h6, .int gty, .int se, .int te, .int gsp, .ref h7, .ref h8, .int gtl])), (h1, .inl (cI, 190, .inl w)), (h2, .inl (cI, 190, .inl g20_2))] → va_S A s.heap H locs → ∀ ls : Array Slot, lv_has ls 5 [(3, .int k), (2, .int le), (1, .int f), (0, .ref h)] → W p l e ({ frames := 5, cells := 0, slots := 0, locals := 107 } : Room) s m args below meth c H locs 0 0 Q (F0 m 32 ls []) := by
      intro n
      induction n with
      | zero =>
        intro k f le w se te hk hX hL hn32
        exact absurd hn32 (Nat.not_lt_zero _)
      | succ n ih32 =>
        intro k f le w se te hk hX hL hn32 H locs hP hD hS ls hl
        refine lv_iload_n hx hb dX8_bestPause_32 rfl (lv_at hl 0 rfl) ?_
        refine lv_bipush (v := 10) hx hb dX8_bestPause_33 (by decide) ?_
        refine lv_icmp_ge (tgt := 106) hx hb dX8_bestPause_35 (by decide) (fun c35 => ?_) (fun c35 => ?_)
        · have t35 : 10 ≤ k.toInt := xi_le (by decide) rfl c35
          refine lv_aload_n hx hb dX8_bestPause_106 rfl (lv_at hl 3 rfl) ?_
          refine va_get (D := D) (ci := 8) (v := .ref h2) (C := RX8) (T := TX8) (N := 14) hx hb hts xin8 hown hK hP 0 rfl rfl 1 (by decide) (hts _ (List.mem_cons_of_mem _ mw_3_90)) (fun _ h9 => h9) rfl dX8_bestPause_107 ?_
          refine lv_iconst (v := 0) hx hb dX8_bestPause_110 (by decide) ?_
          refine lv_aload_n hx hb dX8_bestPause_111 rfl (lv_at hl 3 rfl) ?_
          refine va_get (D := D) (ci := 8) (v := .ref h1) (C := RX8) (T := TX8) (N := 14) hx hb hts xin8 hown hK hP 0 rfl rfl 0 (by decide) (hts _ (List.mem_cons_of_mem _ mw_3_89)) (fun _ h9 => h9) rfl dX8_bestPause_112 ?_
          refine lv_iconst (v := 0) hx hb dX8_bestPause_115 (by decide) ?_
          refine xk_Sv (As := [.ref h2, .int 0, .ref h1, .int 0]) (rest := []) hx hb hml hown hts hK hN hZ hP hD hS hA mb_X8_copyState mw_3_136 mw_3_137 (c_X8_copyState l D cI cZ cS h2 h1 190 190 g20_2 w (0 : Int32) (0 : Int32) (by first | omega | decide | assumption) (by first | omega | decide | assumption) (by first | omega | decide | assumption)) [2, 1] (by decide) rfl (fun _ => by simp only [List.map]) (by decide) (by decide) rfl hl.1 rfl (Nat.le_of_ble_eq_true rfl) dX8_bestPause_116 ⟨Nat.zero_le _, Nat.zero_le _⟩ (fun _ H locs hw hP hD hS => ?_)
          have hP : va_P D vwCl [(h, .inr (8, [.ref h1, .ref h2, .ref h3, .int gst, .ref h4, .ref h5, .ref h6, .int gty, .int se, .int te, .int gsp, .ref h7, .ref h8, .int gtl])), (h1, .inl (cI, 190, .inl (va_cpy g20_2 w 0 0 190))), (h2, .inl (cI, 190, .inl g20_2))] H := hP
          have hD : va_D A [(h, .inr (8, [.ref h1, .ref h2, .ref h3, .int gst, .ref h4, .ref h5, .ref h6, .int gty, .int se, .int te, .int gsp, .ref h7, .ref h8, .int gtl])), (h1, .inl (cI, 190, .inl (va_cpy g20_2 w 0 0 190))), (h2, .inl (cI, 190, .inl g20_2))] := hD
          obtain ⟨g116_1, hg116_1⟩ : ∃ g, g = (va_cpy g20_2 w 0 0 190) := ⟨_, rfl⟩
          rw [← hg116_1] at hP hD
          have hP : va_P D vwCl [(h, .inr (8, [.ref h1, .ref h2, .ref h3, .int gst, .ref h4, .ref h5, .ref h6, .int gty, .int se, .int te, .int gsp, .ref h7, .ref h8, .int gtl])), (h1, .inl (cI, 190, .inl g116_1)), (h2, .inl (cI, 190, .inl g20_2))] H := hP
          have hD : va_D A [(h, .inr (8, [.ref h1, .ref h2, .ref h3, .int gst, .ref h4, .ref h5, .ref h6, .int gty, .int se, .int te, .int gsp, .ref h7, .ref h8, .int gtl])), (h1, .inl (cI, 190, .inl g116_1)), (h2, .inl (cI, 190, .inl g20_2))] := hD
          have hP := xk_arr hP 1 z rfl (fun j hj => by rw [hg116_1, cpy_at _ _ hj, hg20_2, cpy_at _ _ hj])
          have hD := xk_arrD (e' := .inl (cI, 190, .inl z)) hD (k := 1) rfl
          have hP : va_P D vwCl [(h, .inr (8, [.ref h1, .ref h2, .ref h3, .int gst, .ref h4, .ref h5, .ref h6, .int gty, .int se, .int te, .int gsp, .ref h7, .ref h8, .int gtl])), (h1, .inl (cI, 190, .inl z)), (h2, .inl (cI, 190, .inl g20_2))] H := hP
          have hD : va_D A [(h, .inr (8, [.ref h1, .ref h2, .ref h3, .int gst, .ref h4, .ref h5, .ref h6, .int gty, .int se, .int te, .int gsp, .ref h7, .ref h8, .int gtl])), (h1, .inl (cI, 190, .inl z)), (h2, .inl (cI, 190, .inl g20_2))] := hD
          refine lv_iload_n hx hb dX8_bestPause_119 rfl (lv_at hl 2 rfl) ?_
          exact xk_reti (g20_2, se, te) hx hb hr hlocks (xk_P hP (by rfl)) (by (try dsimp only); exact Or.inl ⟨b1, by rcases hL with ⟨l1, l2, l3⟩ | ⟨l1, l2, l3, l4⟩; (exact Or.inl ⟨l1, fun c q1 q2 => l3 c q1 (by omega)⟩); exact Or.inr ⟨⟨l1.1, by omega⟩, l2, fun c q1 q2 q3 => l4 c q1 (by omega) q3⟩⟩) hS dX8_bestPause_120 hQ
        · have t35 : k.toInt < 10 := xi_nle (by decide) rfl c35
          refine lv_aload_n hx hb dX8_bestPause_38 rfl (lv_at hl 3 rfl) ?_
          refine va_get (D := D) (ci := 8) (v := .ref h1) (C := RX8) (T := TX8) (N := 14) hx hb hts xin8 hown hK hP 0 rfl rfl 0 (by decide) (hts _ (List.mem_cons_of_mem _ mw_3_89)) (fun _ h9 => h9) rfl dX8_bestPause_39 ?_
          refine lv_iconst (v := 1) hx hb dX8_bestPause_42 (by decide) ?_
          refine lv_iload_n hx hb dX8_bestPause_43 rfl (lv_at hl 0 rfl) ?_
          refine va_iast hx hb hK hP hD hS 1 0 rfl rfl (xi_in (by decide) (by decide)) dX8_bestPause_44 (fun H locs hP hD hS => ?_)
          have hP : va_P D vwCl [(h, .inr (8, [.ref h1, .ref h2, .ref h3, .int gst, .ref h4, .ref h5, .ref h6, .int gty, .int se, .int te, .int gsp, .ref h7, .ref h8, .int gtl])), (h1, .inl (cI, 190, .inl (upd w 1 k))), (h2, .inl (cI, 190, .inl g20_2))] H := hP
          have hD : va_D A [(h, .inr (8, [.ref h1, .ref h2, .ref h3, .int gst, .ref h4, .ref h5, .ref h6, .int gty, .int se, .int te, .int gsp, .ref h7, .ref h8, .int gtl])), (h1, .inl (cI, 190, .inl (upd w 1 k))), (h2, .inl (cI, 190, .inl g20_2))] := hD
          refine lv_aload_n hx hb dX8_bestPause_45 rfl (lv_at hl 3 rfl) ?_
          refine xk_Vi (As := []) (rest := []) hx hb hml hown hts hK hN hZ hP hD hS hA mb_X8_isWalkedAnew mw_4_74 mw_4_76 mw_0_28 (c_X8_isWalkedAnew l D cI cZ cS h h1 h2 h3 h4 h5 h6 h7 h8 gst gty se te gsp gtl (upd w 1 k) (by exact SetOK_1 his hX (by omega)) (by exact (sameX_lo (by omega) hX k).1 hig) (by exact (sameX_lo (by omega) hX k).2.1 hir) (by exact (sameX_lo (by omega) hX k).2.2 b1)) [0, 1] 0 8 rfl rfl (by decide) rfl (fun _ => by simp only [List.map]) (by decide) (by decide) rfl hl.1 rfl (Nat.le_of_ble_eq_true rfl) dX8_bestPause_46 ⟨Nat.zero_le _, Nat.zero_le _⟩ (fun r46 u46 H locs hw hP hD hS => ?_)
          obtain ⟨w46_0, w46_1⟩ := u46
          have hP : va_P D vwCl [(h, .inr (8, [.ref h1, .ref h2, .ref h3, .int gst, .ref h4, .ref h5, .ref h6, .int gty, .int w46_0, .int w46_1, .int gsp, .ref h7, .ref h8, .int gtl])), (h1, .inl (cI, 190, .inl (aneZ (upd w 1 k)))), (h2, .inl (cI, 190, .inl g20_2))] H := hP
          have hD : va_D A [(h, .inr (8, [.ref h1, .ref h2, .ref h3, .int gst, .ref h4, .ref h5, .ref h6, .int gty, .int w46_0, .int w46_1, .int gsp, .ref h7, .ref h8, .int gtl])), (h1, .inl (cI, 190, .inl (aneZ (upd w 1 k)))), (h2, .inl (cI, 190, .inl g20_2))] := hD
          obtain ⟨g46_1, hg46_1⟩ : ∃ g, g = (aneZ (upd w 1 k)) := ⟨_, rfl⟩
          rw [← hg46_1] at hP hD
          have hP : va_P D vwCl [(h, .inr (8, [.ref h1, .ref h2, .ref h3, .int gst, .ref h4, .ref h5, .ref h6, .int gty, .int w46_0, .int w46_1, .int gsp, .ref h7, .ref h8, .int gtl])), (h1, .inl (cI, 190, .inl g46_1)), (h2, .inl (cI, 190, .inl g20_2))] H := hP
          have hD : va_D A [(h, .inr (8, [.ref h1, .ref h2, .ref h3, .int gst, .ref h4, .ref h5, .ref h6, .int gty, .int w46_0, .int w46_1, .int gsp, .ref h7, .ref h8, .int gtl])), (h1, .inl (cI, 190, .inl g46_1)), (h2, .inl (cI, 190, .inl g20_2))] := hD
          rcases hw with ⟨rfl, b46⟩ | ⟨rfl, b46⟩
          · have b46 : aneZ (upd w 1 k) 188 = 1 := b46
            refine lv_if_eq (tgt := 68) hx hb dX8_bestPause_49 (by decide) (fun c49 => absurd c49 (by decide)) (fun _ => ?_)
            refine lv_aload_n hx hb dX8_bestPause_52 rfl (lv_at hl 3 rfl) ?_
            refine va_get (D := D) (ci := 8) (v := .ref h1) (C := RX8) (T := TX8) (N := 14) hx hb hts xin8 hown hK hP 0 rfl rfl 0 (by decide) (hts _ (List.mem_cons_of_mem _ mw_3_89)) (fun _ h9 => h9) rfl dX8_bestPause_53 ?_
            refine lv_sipush (v := 174) hx hb dX8_bestPause_56 (by decide) ?_
            refine va_iald hx hb hK hP 1 0 rfl rfl (xi_in (by decide) (by decide)) dX8_bestPause_59 ?_
            refine xk_top (z := g46_1 174) rfl ?_
            refine lv_iload_n hx hb dX8_bestPause_60 rfl (lv_at hl 1 rfl) ?_
            refine lv_icmp_ge (tgt := 68) hx hb dX8_bestPause_61 (by decide) (fun c61 => ?_) (fun c61 => ?_)
            · have t61 : le.toInt ≤ (g46_1 174).toInt := xi_le rfl rfl c61
              refine lv_iconst (v := 0) hx hb dX8_bestPause_68 (by decide) ?_
              refine lv_istore (lv' := [(4, .int 0), (3, .int k), (2, .int le), (1, .int f), (0, .ref h)]) hx hb dX8_bestPause_69 hl (by decide) rfl (fun ls hl => ?_)
              refine lv_iload hx hb dX8_bestPause_71 (lv_at hl 0 rfl) ?_
              refine lv_if_eq (tgt := 80) hx hb dX8_bestPause_73 (by decide) (fun _ => ?_) (fun c73 => absurd (by decide) c73)
              refine lv_iload_n hx hb dX8_bestPause_80 rfl (lv_at hl 3 rfl) ?_
              refine lv_istore_n (lv' := [(1, .int f), (4, .int 0), (3, .int k), (2, .int le), (0, .ref h)]) hx hb dX8_bestPause_81 rfl hl (by decide) rfl (fun ls hl => ?_)
              refine lv_iload hx hb dX8_bestPause_82 (lv_at hl 1 rfl) ?_
              refine lv_if_eq (tgt := 98) hx hb dX8_bestPause_84 (by decide) (fun _ => ?_) (fun c84 => absurd (by decide) c84)
              refine lv_iload_n hx hb dX8_bestPause_98 rfl (lv_at hl 3 rfl) ?_
              refine lv_istore_n (lv' := [(2, .int le), (1, .int f), (4, .int 0), (3, .int k), (0, .ref h)]) hx hb dX8_bestPause_99 rfl hl (by decide) rfl (fun ls hl => ?_)
              obtain ⟨x100, e100⟩ : ∃ y : Int32, y = k + 1 := ⟨_, rfl⟩
              have t100 : x100.toInt = k.toInt + 1 := by rw [e100]; exact xi_add rfl (by decide) (by omega) (by omega)
              refine lv_iinc (v := x100) (lv' := [(3, .int x100), (2, .int le), (1, .int f), (4, .int 0), (0, .ref h)]) hx hb dX8_bestPause_100 hl (k := 3) rfl (by rw [e100]; rfl) (by decide) rfl (fun ls hl => ?_)
              refine lv_goto (tgt := 32) hx hb dX8_bestPause_103 (by decide) ?_
              have he := sameX_ane (by omega) hX k
              have hok : okP z k := by rw [he] at b46; exact b46
              have hbt : (g46_1 174).toInt = btP z k := by rw [hg46_1, he]
              have hL2 : bpI z x100 f le := by
                have hc : ∀ c : Int32, c.toInt < x100.toInt → c = k ∨ c.toInt < k.toInt := fun c q => by
                  by_cases q2 : c = k
                  · exact Or.inl q2
                  · have : ¬ c.toInt = k.toInt := fun q3 => q2 (xi_ext q3)
                    exact Or.inr (by omega)
                rcases hL with ⟨l1, l2, l3⟩ | ⟨l1, l2, l3, l4⟩
                · have : btP z k ≤ 5000 := (ane_174 (upd z 1 k)).2
                  omega
                · refine Or.inr ⟨⟨by omega, by omega⟩, l2, l3, fun c q1 q2 q3 => ?_⟩
                  rcases hc c q2 with q | q
                  · rw [q]; exact ⟨by omega, fun q4 => by omega⟩
                  · exact l4 c q1 q q3
              have q32 : ([(h, .inr (8, [.ref h1, .ref h2, .ref h3, .int gst, .ref h4, .ref h5, .ref h6, .int gty, .int w46_0, .int w46_1, .int gsp, .ref h7, .ref h8, .int gtl])), (h1, .inl (cI, 190, .inl g46_1)), (h2, .inl (cI, 190, .inl g20_2))] : va_W) = [(h, .inr (8, [.ref h1, .ref h2, .ref h3, .int gst, .ref h4, .ref h5, .ref h6, .int gty, .int w46_0, .int w46_1, .int gsp, .ref h7, .ref h8, .int gtl])), (h1, .inl (cI, 190, .inl (aneZ (upd w 1 k)))), (h2, .inl (cI, 190, .inl g20_2))] := by rw [hg46_1]
              exact ih32  x100 f le (aneZ (upd w 1 k)) w46_0 w46_1 (by omega) (by exact sameX_next hX k) (by exact hL2) (by omega) _ _ (xk_P hP q32) (xk_D hD q32) hS ls (lv_sub hl [0, 1, 2, 4] rfl)
            · have t61 : (g46_1 174).toInt < le.toInt := xi_nle rfl rfl c61
              refine lv_iconst (v := 1) hx hb dX8_bestPause_64 (by decide) ?_
              refine lv_goto (tgt := 69) hx hb dX8_bestPause_65 (by decide) ?_
              refine lv_istore (lv' := [(4, .int 1), (3, .int k), (2, .int le), (1, .int f), (0, .ref h)]) hx hb dX8_bestPause_69 hl (by decide) rfl (fun ls hl => ?_)
              refine lv_iload hx hb dX8_bestPause_71 (lv_at hl 0 rfl) ?_
              refine lv_if_eq (tgt := 80) hx hb dX8_bestPause_73 (by decide) (fun c73 => absurd c73 (by decide)) (fun _ => ?_)
              refine lv_iload_n hx hb dX8_bestPause_76 rfl (lv_at hl 1 rfl) ?_
              refine lv_goto (tgt := 81) hx hb dX8_bestPause_77 (by decide) ?_
              refine lv_istore_n (lv' := [(1, .int k), (4, .int 1), (3, .int k), (2, .int le), (0, .ref h)]) hx hb dX8_bestPause_81 rfl hl (by decide) rfl (fun ls hl => ?_)
              refine lv_iload hx hb dX8_bestPause_82 (lv_at hl 1 rfl) ?_
              refine lv_if_eq (tgt := 98) hx hb dX8_bestPause_84 (by decide) (fun c84 => absurd c84 (by decide)) (fun _ => ?_)
              refine lv_aload_n hx hb dX8_bestPause_87 rfl (lv_at hl 4 rfl) ?_
              refine va_get (D := D) (ci := 8) (v := .ref h1) (C := RX8) (T := TX8) (N := 14) hx hb hts xin8 hown hK hP 0 rfl rfl 0 (by decide) (hts _ (List.mem_cons_of_mem _ mw_3_89)) (fun _ h9 => h9) rfl dX8_bestPause_88 ?_
              refine lv_sipush (v := 174) hx hb dX8_bestPause_91 (by decide) ?_
              refine va_iald hx hb hK hP 1 0 rfl rfl (xi_in (by decide) (by decide)) dX8_bestPause_94 ?_
              refine xk_top (z := g46_1 174) rfl ?_
              refine lv_goto (tgt := 99) hx hb dX8_bestPause_95 (by decide) ?_
              refine lv_istore_n (lv' := [(2, .int (g46_1 174)), (1, .int k), (4, .int 1), (3, .int k), (0, .ref h)]) hx hb dX8_bestPause_99 rfl hl (by decide) rfl (fun ls hl => ?_)
              obtain ⟨x100, e100⟩ : ∃ y : Int32, y = k + 1 := ⟨_, rfl⟩
              have t100 : x100.toInt = k.toInt + 1 := by rw [e100]; exact xi_add rfl (by decide) (by omega) (by omega)
              refine lv_iinc (v := x100) (lv' := [(3, .int x100), (2, .int (g46_1 174)), (1, .int k), (4, .int 1), (0, .ref h)]) hx hb dX8_bestPause_100 hl (k := 3) rfl (by rw [e100]; rfl) (by decide) rfl (fun ls hl => ?_)
              refine lv_goto (tgt := 32) hx hb dX8_bestPause_103 (by decide) ?_
              have he := sameX_ane (by omega) hX k
              have hok : okP z k := by rw [he] at b46; exact b46
              have hbt : (g46_1 174).toInt = btP z k := by rw [hg46_1, he]
              have hL2 : bpI z x100 k (g46_1 174) := by
                have hc : ∀ c : Int32, c.toInt < x100.toInt → c = k ∨ c.toInt < k.toInt := fun c q => by
                  by_cases q2 : c = k
                  · exact Or.inl q2
                  · have : ¬ c.toInt = k.toInt := fun q3 => q2 (xi_ext q3)
                    exact Or.inr (by omega)
                refine Or.inr ⟨⟨by omega, by omega⟩, hok, hbt, fun c q1 q2 q3 => ?_⟩
                rcases hL with ⟨l1, l2, l3⟩ | ⟨l1, l2, l3, l4⟩
                · rcases hc c q2 with q | q
                  · rw [q]; exact ⟨Int.le_refl _, fun q4 => absurd q4 (Int.lt_irrefl _)⟩
                  · exact absurd q3 (l3 c q1 q)
                · rcases hc c q2 with q | q
                  · rw [q]; exact ⟨Int.le_refl _, fun q4 => absurd q4 (Int.lt_irrefl _)⟩
                  · have := (l4 c q1 q q3).1
                    exact ⟨by omega, fun _ => by omega⟩
              have q32 : ([(h, .inr (8, [.ref h1, .ref h2, .ref h3, .int gst, .ref h4, .ref h5, .ref h6, .int gty, .int w46_0, .int w46_1, .int gsp, .ref h7, .ref h8, .int gtl])), (h1, .inl (cI, 190, .inl g46_1)), (h2, .inl (cI, 190, .inl g20_2))] : va_W) = [(h, .inr (8, [.ref h1, .ref h2, .ref h3, .int gst, .ref h4, .ref h5, .ref h6, .int gty, .int w46_0, .int w46_1, .int gsp, .ref h7, .ref h8, .int gtl])), (h1, .inl (cI, 190, .inl (aneZ (upd w 1 k)))), (h2, .inl (cI, 190, .inl g20_2))] := by rw [hg46_1]
              exact ih32  x100 k (g46_1 174) (aneZ (upd w 1 k)) w46_0 w46_1 (by omega) (by exact sameX_next hX k) (by exact hL2) (by omega) _ _ (xk_P hP q32) (xk_D hD q32) hS ls (lv_sub hl [0, 1, 2, 4] rfl)
          · have b46 : ¬ (aneZ (upd w 1 k) 188 = 1) := b46
            refine lv_if_eq (tgt := 68) hx hb dX8_bestPause_49 (by decide) (fun _ => ?_) (fun c49 => absurd (by decide) c49)
            refine lv_iconst (v := 0) hx hb dX8_bestPause_68 (by decide) ?_
            refine lv_istore (lv' := [(4, .int 0), (3, .int k), (2, .int le), (1, .int f), (0, .ref h)]) hx hb dX8_bestPause_69 hl (by decide) rfl (fun ls hl => ?_)
            refine lv_iload hx hb dX8_bestPause_71 (lv_at hl 0 rfl) ?_
            refine lv_if_eq (tgt := 80) hx hb dX8_bestPause_73 (by decide) (fun _ => ?_) (fun c73 => absurd (by decide) c73)
            refine lv_iload_n hx hb dX8_bestPause_80 rfl (lv_at hl 3 rfl) ?_
            refine lv_istore_n (lv' := [(1, .int f), (4, .int 0), (3, .int k), (2, .int le), (0, .ref h)]) hx hb dX8_bestPause_81 rfl hl (by decide) rfl (fun ls hl => ?_)
            refine lv_iload hx hb dX8_bestPause_82 (lv_at hl 1 rfl) ?_
            refine lv_if_eq (tgt := 98) hx hb dX8_bestPause_84 (by decide) (fun _ => ?_) (fun c84 => absurd (by decide) c84)
            refine lv_iload_n hx hb dX8_bestPause_98 rfl (lv_at hl 3 rfl) ?_
            refine lv_istore_n (lv' := [(2, .int le), (1, .int f), (4, .int 0), (3, .int k), (0, .ref h)]) hx hb dX8_bestPause_99 rfl hl (by decide) rfl (fun ls hl => ?_)
            obtain ⟨x100, e100⟩ : ∃ y : Int32, y = k + 1 := ⟨_, rfl⟩
            have t100 : x100.toInt = k.toInt + 1 := by rw [e100]; exact xi_add rfl (by decide) (by omega) (by omega)
            refine lv_iinc (v := x100) (lv' := [(3, .int x100), (2, .int le), (1, .int f), (4, .int 0), (0, .ref h)]) hx hb dX8_bestPause_100 hl (k := 3) rfl (by rw [e100]; rfl) (by decide) rfl (fun ls hl => ?_)
            refine lv_goto (tgt := 32) hx hb dX8_bestPause_103 (by decide) ?_
            have he := sameX_ane (by omega) hX k
            have hok : ¬ okP z k := fun hh => b46 (by rw [he]; exact hh)
            have hL2 : bpI z x100 f le := by
              have hc : ∀ c : Int32, c.toInt < x100.toInt → c = k ∨ c.toInt < k.toInt := fun c q => by
                by_cases q2 : c = k
                · exact Or.inl q2
                · have : ¬ c.toInt = k.toInt := fun q3 => q2 (xi_ext q3)
                  exact Or.inr (by omega)
              rcases hL with ⟨l1, l2, l3⟩ | ⟨l1, l2, l3, l4⟩
              · exact Or.inl ⟨l1, l2, fun c q1 q2 => (hc c q2).elim (fun q => by rw [q]; exact hok) (fun q => l3 c q1 q)⟩
              · exact Or.inr ⟨⟨by omega, by omega⟩, l2, l3, fun c q1 q2 q3 => (hc c q2).elim (fun q => absurd q3 (by rw [q]; exact hok)) (fun q => l4 c q1 q q3)⟩
            have q32 : ([(h, .inr (8, [.ref h1, .ref h2, .ref h3, .int gst, .ref h4, .ref h5, .ref h6, .int gty, .int w46_0, .int w46_1, .int gsp, .ref h7, .ref h8, .int gtl])), (h1, .inl (cI, 190, .inl g46_1)), (h2, .inl (cI, 190, .inl g20_2))] : va_W) = [(h, .inr (8, [.ref h1, .ref h2, .ref h3, .int gst, .ref h4, .ref h5, .ref h6, .int gty, .int w46_0, .int w46_1, .int gsp, .ref h7, .ref h8, .int gtl])), (h1, .inl (cI, 190, .inl (aneZ (upd w 1 k)))), (h2, .inl (cI, 190, .inl g20_2))] := by rw [hg46_1]
            exact ih32  x100 f le (aneZ (upd w 1 k)) w46_0 w46_1 (by omega) (by exact sameX_next hX k) (by exact hL2) (by omega) _ _ (xk_P hP q32) (xk_D hD q32) hS ls (lv_sub hl [0, 1, 2, 4] rfl)
    exact L32 11 (0 : Int32) (-6 : Int32) (5001 : Int32) z gse gte (by decide) (by exact sameX_0 1 z) (by exact Or.inl ⟨rfl, by decide, fun c q1 q2 => by rw [show (0 : Int32).toInt = 0 from by decide] at q2; omega⟩) (by decide) _ _ hP hD hS ls (lv_sub hl [0, 1, 2, 3] rfl)
  · have b1 : ¬ (canZ z) := b1
    refine lv_if_ne (tgt := 10) hx hb dX8_bestPause_4 (by decide) (fun c4 => absurd (by decide) c4) (fun _ => ?_)
    refine lv_bipush (v := (-5)) hx hb dX8_bestPause_7 (by decide) ?_
    exact xk_reti (spare, gse, gte) hx hb hr hlocks (xk_P hP (by rfl)) (by (try dsimp only); exact Or.inr ⟨b1, rfl⟩) hS dX8_bestPause_9 hQ
