set_option maxHeartbeats 4000000 in
set_option maxRecDepth 100000 in
theorem c_X8_read (l : Launch) (D : va_G) (cI cZ cS : ClassId) (h h1 h2 h3 h4 h5 h6 h7 h8 : Nat) (gst gty gse gte gsp gtl : Int32) (z past pad tf tm : Nat → Int32)  (hsp : 0 ≤ gsp.toInt ∧ gsp.toInt ≤ gty.toInt ∧ gty.toInt ≤ 60) (hg : 0 ≤ gst.toInt ∧ gst.toInt ≤ 6) : xMi l yX8_read cX8_read 3 (some .int) ({ frames := 4, cells := 0, slots := 0, locals := 86 } : Room) D (xTy cI cZ cS) [.ref h] [(h, .inr (8, [.ref h1, .ref h2, .ref h3, .int gst, .ref h4, .ref h5, .ref h6, .int gty, .int gse, .int gte, .int gsp, .ref h7, .ref h8, .int gtl])), (h1, .inl (cI, 190, .inl z)), (h3, .inl (cI, 1140, .inl past)), (h6, .inl (cI, 60, .inl pad)), (h7, .inl (cI, 120, .inl tf)), (h8, .inl (cI, 10, .inl tm))] (fun (r : Int32) (u : (Int32) × (Int32) × (Nat → Int32) × (Nat → Int32) × (Nat → Int32) × (Nat → Int32) × (Int32) × (Int32)) => (¬ FN pad gty.toInt.toNat ∧ r = -3 ∧ u.2.2.2.2.1 = z ∧ u.2.2.2.2.2.1 = past ∧ u.2.2.2.2.2.2.1 = gst ∧ u.2.2.2.2.2.2.2 = gty) ∨ (FN pad gty.toInt.toNat ∧ ReadZ pad gty.toInt.toNat z u.2.2.2.2.1 ∧ u.2.2.2.2.1 6 = r ∧ u.2.2.2.2.2.1 = recP z past gst ∧ u.2.2.2.2.2.2.1 = recS gst ∧ u.2.2.2.2.2.2.2 = 0)) (fun (u : (Int32) × (Int32) × (Nat → Int32) × (Nat → Int32) × (Nat → Int32) × (Nat → Int32) × (Int32) × (Int32)) => [(h, .inr (8, [.ref h1, .ref h2, .ref h3, .int u.2.2.2.2.2.2.1, .ref h4, .ref h5, .ref h6, .int u.2.2.2.2.2.2.2, .int gse, .int gte, .int u.1, .ref h7, .ref h8, .int u.2.1])), (h1, .inl (cI, 190, .inl u.2.2.2.2.1)), (h3, .inl (cI, 1140, .inl u.2.2.2.2.2.1)), (h6, .inl (cI, 60, .inl pad)), (h7, .inl (cI, 120, .inl u.2.2.1)), (h8, .inl (cI, 10, .inl u.2.2.2.1))]) := by
  refine xk_bodyi (by decide) (Nat.le_of_ble_eq_true rfl) ?_
  intro p e s m below meth c A ls args Q hx hb hr hts hown hlocks hml hin hK hP hD hS hA hN hZ hl hQ
  have hl : lv_has ls 3 [(0, .ref h)] := hl
  refine lv_aload_n hx hb dX8_read_0 rfl (lv_at hl 0 rfl) ?_
  refine xk_Vi (As := []) (rest := []) hx hb hml hown hts hK hN hZ hP hD hS hA mb_X8_readPad mw_3_230 mw_3_232 mw_0_17 (c_X8_readPad l D cI cZ cS h h1 h2 h3 h4 h5 h6 h7 h8 gst gty gse gte gsp gtl pad tf tm (by first | omega | decide | assumption)) [0, 3, 4, 5] 0 8 rfl rfl (by decide) rfl (fun _ => by simp only [List.map]) (by decide) (by decide) rfl hl.1 rfl (Nat.le_of_ble_eq_true rfl) dX8_read_1 ⟨Nat.zero_le _, Nat.zero_le _⟩ (fun r1 u1 H locs hw hP hD hS => ?_)
  obtain ⟨w1_0, w1_1, w1_2, w1_3⟩ := u1
  have hP : va_P D vwCl [(h, .inr (8, [.ref h1, .ref h2, .ref h3, .int gst, .ref h4, .ref h5, .ref h6, .int gty, .int gse, .int gte, .int w1_0, .ref h7, .ref h8, .int w1_1])), (h1, .inl (cI, 190, .inl z)), (h3, .inl (cI, 1140, .inl past)), (h6, .inl (cI, 60, .inl pad)), (h7, .inl (cI, 120, .inl w1_2)), (h8, .inl (cI, 10, .inl w1_3))] H := hP
  have hD : va_D A [(h, .inr (8, [.ref h1, .ref h2, .ref h3, .int gst, .ref h4, .ref h5, .ref h6, .int gty, .int gse, .int gte, .int w1_0, .ref h7, .ref h8, .int w1_1])), (h1, .inl (cI, 190, .inl z)), (h3, .inl (cI, 1140, .inl past)), (h6, .inl (cI, 60, .inl pad)), (h7, .inl (cI, 120, .inl w1_2)), (h8, .inl (cI, 10, .inl w1_3))] := hD
  rcases hw with ⟨rfl, b1⟩ | ⟨rfl, b1⟩
  · have b1 : FN pad gty.toInt.toNat ∧ w1_0 = gty ∧ PadT pad gty.toInt.toNat w1_1 w1_2 w1_3 := b1
    obtain ⟨hfn, hsy, hpt⟩ := b1
    obtain ⟨hgl, htm⟩ := PadT_in hpt
    refine lv_if_ne (tgt := 10) hx hb dX8_read_4 (by decide) (fun _ => ?_) (fun c4 => absurd c4 (by decide))
    refine lv_aload_n hx hb dX8_read_10 rfl (lv_at hl 0 rfl) ?_
    refine xk_Vv (As := []) (rest := []) hx hb hml hown hts hK hN hZ hP hD hS hA mb_X8_record mw_3_150 mw_3_152 mw_0_6 (c_X8_record l D cI cZ cS h h1 h2 h3 h4 h5 h6 h7 h8 gst gty gse gte w1_0 w1_1 z past (by first | omega | decide | assumption)) [0, 1, 2] 0 8 rfl rfl (by decide) rfl (fun _ => by simp only [List.map]) (by decide) (by decide) rfl hl.1 rfl (Nat.le_of_ble_eq_true rfl) dX8_read_11 ⟨Nat.zero_le _, Nat.zero_le _⟩ (fun _ H locs hw hP hD hS => ?_)
    have hP : va_P D vwCl [(h, .inr (8, [.ref h1, .ref h2, .ref h3, .int (recS gst), .ref h4, .ref h5, .ref h6, .int gty, .int gse, .int gte, .int w1_0, .ref h7, .ref h8, .int w1_1])), (h1, .inl (cI, 190, .inl z)), (h3, .inl (cI, 1140, .inl (recP z past gst))), (h6, .inl (cI, 60, .inl pad)), (h7, .inl (cI, 120, .inl w1_2)), (h8, .inl (cI, 10, .inl w1_3))] H := hP
    have hD : va_D A [(h, .inr (8, [.ref h1, .ref h2, .ref h3, .int (recS gst), .ref h4, .ref h5, .ref h6, .int gty, .int gse, .int gte, .int w1_0, .ref h7, .ref h8, .int w1_1])), (h1, .inl (cI, 190, .inl z)), (h3, .inl (cI, 1140, .inl (recP z past gst))), (h6, .inl (cI, 60, .inl pad)), (h7, .inl (cI, 120, .inl w1_2)), (h8, .inl (cI, 10, .inl w1_3))] := hD
    obtain ⟨g11_2, hg11_2⟩ : ∃ g, g = (recP z past gst) := ⟨_, rfl⟩
    rw [← hg11_2] at hP hD
    have hP : va_P D vwCl [(h, .inr (8, [.ref h1, .ref h2, .ref h3, .int (recS gst), .ref h4, .ref h5, .ref h6, .int gty, .int gse, .int gte, .int w1_0, .ref h7, .ref h8, .int w1_1])), (h1, .inl (cI, 190, .inl z)), (h3, .inl (cI, 1140, .inl g11_2)), (h6, .inl (cI, 60, .inl pad)), (h7, .inl (cI, 120, .inl w1_2)), (h8, .inl (cI, 10, .inl w1_3))] H := hP
    have hD : va_D A [(h, .inr (8, [.ref h1, .ref h2, .ref h3, .int (recS gst), .ref h4, .ref h5, .ref h6, .int gty, .int gse, .int gte, .int w1_0, .ref h7, .ref h8, .int w1_1])), (h1, .inl (cI, 190, .inl z)), (h3, .inl (cI, 1140, .inl g11_2)), (h6, .inl (cI, 60, .inl pad)), (h7, .inl (cI, 120, .inl w1_2)), (h8, .inl (cI, 10, .inl w1_3))] := hD
    refine lv_aload_n hx hb dX8_read_14 rfl (lv_at hl 0 rfl) ?_
    refine va_get (D := D) (ci := 8) (v := .ref h1) (C := RX8) (T := TX8) (N := 14) hx hb hts xin8 hown hK hP 0 rfl rfl 0 (by decide) (hts _ (List.mem_cons_of_mem _ mw_3_89)) (fun _ h9 => h9) rfl dX8_read_15 ?_
    refine lv_bipush (v := 6) hx hb dX8_read_18 (by decide) ?_
    refine lv_aload_n hx hb dX8_read_20 rfl (lv_at hl 0 rfl) ?_
    refine va_get (D := D) (ci := 8) (v := .int w1_1) (C := RX8) (T := TX8) (N := 14) hx hb hts xin8 hown hK hP 0 rfl rfl 13 (by decide) (hts _ (List.mem_cons_of_mem _ mw_3_102)) (fun _ h9 => h9) rfl dX8_read_21 ?_
    refine va_iast hx hb hK hP hD hS 1 0 rfl rfl (xi_in (by decide) (by decide)) dX8_read_24 (fun H locs hP hD hS => ?_)
    have hP : va_P D vwCl [(h, .inr (8, [.ref h1, .ref h2, .ref h3, .int (recS gst), .ref h4, .ref h5, .ref h6, .int gty, .int gse, .int gte, .int w1_0, .ref h7, .ref h8, .int w1_1])), (h1, .inl (cI, 190, .inl (upd z 6 w1_1))), (h3, .inl (cI, 1140, .inl g11_2)), (h6, .inl (cI, 60, .inl pad)), (h7, .inl (cI, 120, .inl w1_2)), (h8, .inl (cI, 10, .inl w1_3))] H := hP
    have hD : va_D A [(h, .inr (8, [.ref h1, .ref h2, .ref h3, .int (recS gst), .ref h4, .ref h5, .ref h6, .int gty, .int gse, .int gte, .int w1_0, .ref h7, .ref h8, .int w1_1])), (h1, .inl (cI, 190, .inl (upd z 6 w1_1))), (h3, .inl (cI, 1140, .inl g11_2)), (h6, .inl (cI, 60, .inl pad)), (h7, .inl (cI, 120, .inl w1_2)), (h8, .inl (cI, 10, .inl w1_3))] := hD
    refine lv_iconst (v := 0) hx hb dX8_read_25 (by decide) ?_
    refine lv_istore_n (lv' := [(1, .int 0), (0, .ref h)]) hx hb dX8_read_26 rfl hl (by decide) rfl (fun ls hl => ?_)
    have L27 : ∀ (n : Nat) (i : Int32) (w : Nat → Int32) (hi : 0 ≤ i.toInt ∧ i.toInt ≤ w1_1.toInt) (hO : RdO w1_2 w1_3 z w w1_1 i.toInt.toNat) (hn27 : (10 - i.toInt).toNat < n) (H : Heap) (locs : List Loc), va_P D vwCl [(h, .inr (8, [.ref h1, .ref h2, .ref h3, .int (recS gst), .ref h4, .ref h5, .ref h6, .int gty, .int gse, .int gte, .int w1_0, .ref h7, .ref h8, .int w1_1])), (h1, .inl (cI, 190, .inl w)), (h3, .inl (cI, 1140, .inl g11_2)), (h6, .inl (cI, 60, .inl pad)), (h7, .inl (cI, 120, .inl w1_2)), (h8, .inl (cI, 10, .inl w1_3))] H → va_D A [(h, .inr (8, [.ref h1, .ref h2, .ref h3, .int (recS gst), .ref h4, .ref h5, .ref h6, .int gty, .int gse, .int gte, .int w1_0, .ref h7, .ref h8, .int w1_1])), (h1, .inl (cI, 190, .inl w)), (h3, .inl (cI, 1140, .inl g11_2)), (h6, .inl (cI, 60, .inl pad)), (h7, .inl (cI, 120, .inl w1_2)), (h8, .inl (cI, 10, .inl w1_3))] → va_S A s.heap H locs → ∀ ls : Array Slot, lv_has ls 3 [(1, .int i), (0, .ref h)] → W p l e ({ frames := 4, cells := 0, slots := 0, locals := 86 } : Room) s m args below meth c H locs 0 0 Q (F0 m 27 ls []) := by
      intro n
      induction n with
      | zero =>
        intro i w hi hO hn27
        exact absurd hn27 (Nat.not_lt_zero _)
      | succ n ih27 =>
        intro i w hi hO hn27 H locs hP hD hS ls hl
        have hmm : ∀ l : Nat, l < i.toInt.toNat → (w1_3 l).toInt ≤ 12 := fun l hl => (htm l (by omega)).2
        refine lv_iload_n hx hb dX8_read_27 rfl (lv_at hl 0 rfl) ?_
        refine lv_aload_n hx hb dX8_read_28 rfl (lv_at hl 1 rfl) ?_
        refine va_get (D := D) (ci := 8) (v := .int w1_1) (C := RX8) (T := TX8) (N := 14) hx hb hts xin8 hown hK hP 0 rfl rfl 13 (by decide) (hts _ (List.mem_cons_of_mem _ mw_3_102)) (fun _ h9 => h9) rfl dX8_read_29 ?_
        refine lv_icmp_ge (tgt := 99) hx hb dX8_read_32 (by decide) (fun c32 => ?_) (fun c32 => ?_)
        · have t32 : w1_1.toInt ≤ i.toInt := xi_le rfl rfl c32
          refine lv_aload_n hx hb dX8_read_99 rfl (lv_at hl 1 rfl) ?_
          refine lv_iconst (v := 0) hx hb dX8_read_100 (by decide) ?_
          refine va_put (D := D) (ci := 8) (v := .int 0) (ty := .int) (C := RX8) (T := TX8) (N := 14) hx hb hts xin8 tyX8 tyX8_ok nmX8 hown hK hP hD hS 0 rfl rfl 7 (by decide) (hts _ (List.mem_cons_of_mem _ mw_3_96)) (fun _ h9 => h9) rfl (by decide +kernel) rfl rfl (Nat.le_of_ble_eq_true rfl) dX8_read_101 (fun H locs hP hD hS => ?_)
          have hP : va_P D vwCl [(h, .inr (8, [.ref h1, .ref h2, .ref h3, .int (recS gst), .ref h4, .ref h5, .ref h6, .int 0, .int gse, .int gte, .int w1_0, .ref h7, .ref h8, .int w1_1])), (h1, .inl (cI, 190, .inl w)), (h3, .inl (cI, 1140, .inl g11_2)), (h6, .inl (cI, 60, .inl pad)), (h7, .inl (cI, 120, .inl w1_2)), (h8, .inl (cI, 10, .inl w1_3))] H := hP
          have hD : va_D A [(h, .inr (8, [.ref h1, .ref h2, .ref h3, .int (recS gst), .ref h4, .ref h5, .ref h6, .int 0, .int gse, .int gte, .int w1_0, .ref h7, .ref h8, .int w1_1])), (h1, .inl (cI, 190, .inl w)), (h3, .inl (cI, 1140, .inl g11_2)), (h6, .inl (cI, 60, .inl pad)), (h7, .inl (cI, 120, .inl w1_2)), (h8, .inl (cI, 10, .inl w1_3))] := hD
          refine lv_aload_n hx hb dX8_read_104 rfl (lv_at hl 1 rfl) ?_
          refine xk_Vv (As := []) (rest := []) hx hb hml hown hts hK hN hZ hP hD hS hA mb_X8_beginNow mw_3_85 mw_3_87 mw_0_5 (c_X8_beginNow l D cI cZ cS h h1 h2 h3 h4 h5 h6 h7 h8 (recS gst) (0 : Int32) gse gte w1_0 w1_1 w ) [0, 1] 0 8 rfl rfl (by decide) rfl (fun _ => by simp only [List.map]) (by decide) (by decide) rfl hl.1 rfl (Nat.le_of_ble_eq_true rfl) dX8_read_105 ⟨Nat.zero_le _, Nat.zero_le _⟩ (fun _ H locs hw hP hD hS => ?_)
          have hP : va_P D vwCl [(h, .inr (8, [.ref h1, .ref h2, .ref h3, .int (recS gst), .ref h4, .ref h5, .ref h6, .int 0, .int gse, .int gte, .int w1_0, .ref h7, .ref h8, .int w1_1])), (h1, .inl (cI, 190, .inl (beginZ w))), (h3, .inl (cI, 1140, .inl g11_2)), (h6, .inl (cI, 60, .inl pad)), (h7, .inl (cI, 120, .inl w1_2)), (h8, .inl (cI, 10, .inl w1_3))] H := hP
          have hD : va_D A [(h, .inr (8, [.ref h1, .ref h2, .ref h3, .int (recS gst), .ref h4, .ref h5, .ref h6, .int 0, .int gse, .int gte, .int w1_0, .ref h7, .ref h8, .int w1_1])), (h1, .inl (cI, 190, .inl (beginZ w))), (h3, .inl (cI, 1140, .inl g11_2)), (h6, .inl (cI, 60, .inl pad)), (h7, .inl (cI, 120, .inl w1_2)), (h8, .inl (cI, 10, .inl w1_3))] := hD
          obtain ⟨g105_1, hg105_1⟩ : ∃ g, g = (beginZ w) := ⟨_, rfl⟩
          rw [← hg105_1] at hP hD
          have hP : va_P D vwCl [(h, .inr (8, [.ref h1, .ref h2, .ref h3, .int (recS gst), .ref h4, .ref h5, .ref h6, .int 0, .int gse, .int gte, .int w1_0, .ref h7, .ref h8, .int w1_1])), (h1, .inl (cI, 190, .inl g105_1)), (h3, .inl (cI, 1140, .inl g11_2)), (h6, .inl (cI, 60, .inl pad)), (h7, .inl (cI, 120, .inl w1_2)), (h8, .inl (cI, 10, .inl w1_3))] H := hP
          have hD : va_D A [(h, .inr (8, [.ref h1, .ref h2, .ref h3, .int (recS gst), .ref h4, .ref h5, .ref h6, .int 0, .int gse, .int gte, .int w1_0, .ref h7, .ref h8, .int w1_1])), (h1, .inl (cI, 190, .inl g105_1)), (h3, .inl (cI, 1140, .inl g11_2)), (h6, .inl (cI, 60, .inl pad)), (h7, .inl (cI, 120, .inl w1_2)), (h8, .inl (cI, 10, .inl w1_3))] := hD
          refine lv_aload_n hx hb dX8_read_108 rfl (lv_at hl 1 rfl) ?_
          refine va_get (D := D) (ci := 8) (v := .int w1_1) (C := RX8) (T := TX8) (N := 14) hx hb hts xin8 hown hK hP 0 rfl rfl 13 (by decide) (hts _ (List.mem_cons_of_mem _ mw_3_102)) (fun _ h9 => h9) rfl dX8_read_109 ?_
          rw [show i.toInt.toNat = w1_1.toInt.toNat from by omega] at hO
          have hrz : ReadZ pad gty.toInt.toNat z g105_1 := by rw [hg105_1]; exact ReadZ_of hpt hO
          exact xk_reti (w1_0, w1_1, w1_2, w1_3, g105_1, g11_2, (recS gst), (0 : Int32)) hx hb hr hlocks (xk_P hP (by rfl)) (by (try dsimp only); exact Or.inr ⟨hfn, hrz, by rw [hg105_1, beginZ_lo _ (by omega)]; exact hO.1, hg11_2, rfl, rfl⟩) hS dX8_read_112 hQ
        · have t32 : i.toInt < w1_1.toInt := xi_nle rfl rfl c32
          refine lv_aload_n hx hb dX8_read_35 rfl (lv_at hl 1 rfl) ?_
          refine va_get (D := D) (ci := 8) (v := .ref h1) (C := RX8) (T := TX8) (N := 14) hx hb hts xin8 hown hK hP 0 rfl rfl 0 (by decide) (hts _ (List.mem_cons_of_mem _ mw_3_89)) (fun _ h9 => h9) rfl dX8_read_36 ?_
          refine lv_bipush (v := 8) hx hb dX8_read_39 (by decide) ?_
          refine lv_iload_n hx hb dX8_read_41 rfl (lv_at hl 0 rfl) ?_
          refine lv_iadd hx hb dX8_read_42 ?_
          refine lv_topi (fun x42 e42 => ?_)
          have t42 : x42.toInt = 8 + i.toInt := by rw [e42]; exact xi_add (by decide) rfl (by omega) (by omega)
          refine lv_aload_n hx hb dX8_read_43 rfl (lv_at hl 1 rfl) ?_
          refine va_get (D := D) (ci := 8) (v := .ref h8) (C := RX8) (T := TX8) (N := 14) hx hb hts xin8 hown hK hP 0 rfl rfl 12 (by decide) (hts _ (List.mem_cons_of_mem _ mw_3_101)) (fun _ h9 => h9) rfl dX8_read_44 ?_
          refine lv_iload_n hx hb dX8_read_47 rfl (lv_at hl 0 rfl) ?_
          refine va_iald hx hb hK hP 5 0 rfl rfl (xi_in (by omega) (by omega)) dX8_read_48 ?_
          refine xk_top (z := w1_3 i.toInt.toNat) (xk_rd (by omega)) ?_
          refine lv_topi (fun x48 e48 => ?_)
          refine va_iast hx hb hK hP hD hS 1 0 rfl rfl (xi_in (by omega) (by omega)) dX8_read_49 (fun H locs hP hD hS => ?_)
          rw [show x42.toNatClampNeg = 8 + i.toInt.toNat from xk_ix (by omega)] at hP hD
          have hP : va_P D vwCl [(h, .inr (8, [.ref h1, .ref h2, .ref h3, .int (recS gst), .ref h4, .ref h5, .ref h6, .int gty, .int gse, .int gte, .int w1_0, .ref h7, .ref h8, .int w1_1])), (h1, .inl (cI, 190, .inl (upd w (8 + i.toInt.toNat) x48))), (h3, .inl (cI, 1140, .inl g11_2)), (h6, .inl (cI, 60, .inl pad)), (h7, .inl (cI, 120, .inl w1_2)), (h8, .inl (cI, 10, .inl w1_3))] H := hP
          have hD : va_D A [(h, .inr (8, [.ref h1, .ref h2, .ref h3, .int (recS gst), .ref h4, .ref h5, .ref h6, .int gty, .int gse, .int gte, .int w1_0, .ref h7, .ref h8, .int w1_1])), (h1, .inl (cI, 190, .inl (upd w (8 + i.toInt.toNat) x48))), (h3, .inl (cI, 1140, .inl g11_2)), (h6, .inl (cI, 60, .inl pad)), (h7, .inl (cI, 120, .inl w1_2)), (h8, .inl (cI, 10, .inl w1_3))] := hD
          refine lv_iconst (v := 0) hx hb dX8_read_50 (by decide) ?_
          refine lv_istore_n (lv' := [(2, .int 0), (1, .int i), (0, .ref h)]) hx hb dX8_read_51 rfl hl (by decide) rfl (fun ls hl => ?_)
          have h0 := RdN_0 (by omega) hmm hO
          have htmi := htm i.toInt.toNat (by omega)
          have L52 : ∀ (n : Nat) (j : Int32) (v : Nat → Int32) (hj : 0 ≤ j.toInt ∧ j.toInt ≤ (w1_3 i.toInt.toNat).toInt) (hO2 : RdO w1_2 w1_3 z v w1_1 i.toInt.toNat) (hM : RdN w1_2 w1_3 v i.toInt.toNat j.toInt.toNat) (hn52 : (12 - j.toInt).toNat < n) (H : Heap) (locs : List Loc), va_P D vwCl [(h, .inr (8, [.ref h1, .ref h2, .ref h3, .int (recS gst), .ref h4, .ref h5, .ref h6, .int gty, .int gse, .int gte, .int w1_0, .ref h7, .ref h8, .int w1_1])), (h1, .inl (cI, 190, .inl v)), (h3, .inl (cI, 1140, .inl g11_2)), (h6, .inl (cI, 60, .inl pad)), (h7, .inl (cI, 120, .inl w1_2)), (h8, .inl (cI, 10, .inl w1_3))] H → va_D A [(h, .inr (8, [.ref h1, .ref h2, .ref h3, .int (recS gst), .ref h4, .ref h5, .ref h6, .int gty, .int gse, .int gte, .int w1_0, .ref h7, .ref h8, .int w1_1])), (h1, .inl (cI, 190, .inl v)), (h3, .inl (cI, 1140, .inl g11_2)), (h6, .inl (cI, 60, .inl pad)), (h7, .inl (cI, 120, .inl w1_2)), (h8, .inl (cI, 10, .inl w1_3))] → va_S A s.heap H locs → ∀ ls : Array Slot, lv_has ls 3 [(2, .int j), (1, .int i), (0, .ref h)] → W p l e ({ frames := 4, cells := 0, slots := 0, locals := 86 } : Room) s m args below meth c H locs 0 0 Q (F0 m 52 ls []) := by
            intro n
            induction n with
            | zero =>
              intro j v hj hO2 hM hn52
              exact absurd hn52 (Nat.not_lt_zero _)
            | succ n ih52 =>
              intro j v hj hO2 hM hn52 H locs hP hD hS ls hl
              refine lv_iload_n hx hb dX8_read_52 rfl (lv_at hl 0 rfl) ?_
              refine lv_aload_n hx hb dX8_read_53 rfl (lv_at hl 2 rfl) ?_
              refine va_get (D := D) (ci := 8) (v := .ref h8) (C := RX8) (T := TX8) (N := 14) hx hb hts xin8 hown hK hP 0 rfl rfl 12 (by decide) (hts _ (List.mem_cons_of_mem _ mw_3_101)) (fun _ h9 => h9) rfl dX8_read_54 ?_
              refine lv_iload_n hx hb dX8_read_57 rfl (lv_at hl 1 rfl) ?_
              refine va_iald hx hb hK hP 5 0 rfl rfl (xi_in (by omega) (by omega)) dX8_read_58 ?_
              refine xk_top (z := w1_3 i.toInt.toNat) (xk_rd (by omega)) ?_
              refine lv_topi (fun x58 e58 => ?_)
              have t58 : x58.toInt = (w1_3 i.toInt.toNat).toInt := by rw [e58]
              refine lv_icmp_ge (tgt := 93) hx hb dX8_read_59 (by decide) (fun c59 => ?_) (fun c59 => ?_)
              · have t59 : x58.toInt ≤ j.toInt := xi_le rfl rfl c59
                obtain ⟨x93, e93⟩ : ∃ y : Int32, y = i + 1 := ⟨_, rfl⟩
                have t93 : x93.toInt = i.toInt + 1 := by rw [e93]; exact xi_add rfl (by decide) (by omega) (by omega)
                refine lv_iinc (v := x93) (lv' := [(1, .int x93), (2, .int j), (0, .ref h)]) hx hb dX8_read_93 hl (k := 1) rfl (by rw [e93]; rfl) (by decide) rfl (fun ls hl => ?_)
                refine lv_goto (tgt := 27) hx hb dX8_read_96 (by decide) ?_
                exact ih27  x93 v (by omega) (by rw [show x93.toInt.toNat = i.toInt.toNat + 1 from by omega]; exact RdO_s (by rw [e58] at t59; omega) hO2 hM) (by omega) _ _ hP hD hS ls (lv_sub hl [0, 2] rfl)
              · have t59 : j.toInt < x58.toInt := xi_nle rfl rfl c59
                refine lv_aload_n hx hb dX8_read_62 rfl (lv_at hl 2 rfl) ?_
                refine va_get (D := D) (ci := 8) (v := .ref h1) (C := RX8) (T := TX8) (N := 14) hx hb hts xin8 hown hK hP 0 rfl rfl 0 (by decide) (hts _ (List.mem_cons_of_mem _ mw_3_89)) (fun _ h9 => h9) rfl dX8_read_63 ?_
                refine lv_bipush (v := 18) hx hb dX8_read_66 (by decide) ?_
                refine lv_bipush (v := 12) hx hb dX8_read_68 (by decide) ?_
                refine lv_iload_n hx hb dX8_read_70 rfl (lv_at hl 1 rfl) ?_
                refine lv_imul hx hb dX8_read_71 ?_
                refine lv_topi (fun x71 e71 => ?_)
                have t71 : x71.toInt = 12 * i.toInt := by rw [e71]; exact xi_mul (by decide) rfl (by omega) (by omega)
                refine lv_iadd hx hb dX8_read_72 ?_
                refine lv_topi (fun x72 e72 => ?_)
                have t72 : x72.toInt = 18 + x71.toInt := by rw [e72]; exact xi_add (by decide) rfl (by omega) (by omega)
                refine lv_iload_n hx hb dX8_read_73 rfl (lv_at hl 0 rfl) ?_
                refine lv_iadd hx hb dX8_read_74 ?_
                refine lv_topi (fun x74 e74 => ?_)
                have t74 : x74.toInt = x72.toInt + j.toInt := by rw [e74]; exact xi_add rfl rfl (by omega) (by omega)
                refine lv_aload_n hx hb dX8_read_75 rfl (lv_at hl 2 rfl) ?_
                refine va_get (D := D) (ci := 8) (v := .ref h7) (C := RX8) (T := TX8) (N := 14) hx hb hts xin8 hown hK hP 0 rfl rfl 11 (by decide) (hts _ (List.mem_cons_of_mem _ mw_3_100)) (fun _ h9 => h9) rfl dX8_read_76 ?_
                refine lv_bipush (v := 12) hx hb dX8_read_79 (by decide) ?_
                refine lv_iload_n hx hb dX8_read_81 rfl (lv_at hl 1 rfl) ?_
                refine lv_imul hx hb dX8_read_82 ?_
                refine lv_topi (fun x82 e82 => ?_)
                have t82 : x82.toInt = 12 * i.toInt := by rw [e82]; exact xi_mul (by decide) rfl (by omega) (by omega)
                refine lv_iload_n hx hb dX8_read_83 rfl (lv_at hl 0 rfl) ?_
                refine lv_iadd hx hb dX8_read_84 ?_
                refine lv_topi (fun x84 e84 => ?_)
                have t84 : x84.toInt = x82.toInt + j.toInt := by rw [e84]; exact xi_add rfl rfl (by omega) (by omega)
                refine va_iald hx hb hK hP 4 0 rfl rfl (xi_in (by omega) (by omega)) dX8_read_85 ?_
                refine xk_top (z := w1_2 (12 * i.toInt.toNat + j.toInt.toNat)) (xk_rd (by omega)) ?_
                refine lv_topi (fun x85 e85 => ?_)
                refine va_iast hx hb hK hP hD hS 1 0 rfl rfl (xi_in (by omega) (by omega)) dX8_read_86 (fun H locs hP hD hS => ?_)
                rw [show x74.toNatClampNeg = 12 * i.toInt.toNat + j.toInt.toNat + 18 from xk_ix (by omega)] at hP hD
                have hP : va_P D vwCl [(h, .inr (8, [.ref h1, .ref h2, .ref h3, .int (recS gst), .ref h4, .ref h5, .ref h6, .int gty, .int gse, .int gte, .int w1_0, .ref h7, .ref h8, .int w1_1])), (h1, .inl (cI, 190, .inl (upd v (12 * i.toInt.toNat + j.toInt.toNat + 18) x85))), (h3, .inl (cI, 1140, .inl g11_2)), (h6, .inl (cI, 60, .inl pad)), (h7, .inl (cI, 120, .inl w1_2)), (h8, .inl (cI, 10, .inl w1_3))] H := hP
                have hD : va_D A [(h, .inr (8, [.ref h1, .ref h2, .ref h3, .int (recS gst), .ref h4, .ref h5, .ref h6, .int gty, .int gse, .int gte, .int w1_0, .ref h7, .ref h8, .int w1_1])), (h1, .inl (cI, 190, .inl (upd v (12 * i.toInt.toNat + j.toInt.toNat + 18) x85))), (h3, .inl (cI, 1140, .inl g11_2)), (h6, .inl (cI, 60, .inl pad)), (h7, .inl (cI, 120, .inl w1_2)), (h8, .inl (cI, 10, .inl w1_3))] := hD
                obtain ⟨x87, e87⟩ : ∃ y : Int32, y = j + 1 := ⟨_, rfl⟩
                have t87 : x87.toInt = j.toInt + 1 := by rw [e87]; exact xi_add rfl (by decide) (by omega) (by omega)
                refine lv_iinc (v := x87) (lv' := [(2, .int x87), (1, .int i), (0, .ref h)]) hx hb dX8_read_87 hl (k := 0) rfl (by rw [e87]; rfl) (by decide) rfl (fun ls hl => ?_)
                refine lv_goto (tgt := 52) hx hb dX8_read_90 (by decide) ?_
                have h58 : x58.toInt = (w1_3 i.toInt.toNat).toInt := by rw [e58]
                have h1 := RdN_s (by omega) (by omega) hmm hO2 hM
                rw [← e85] at h1
                exact ih52  x87 (upd v (12 * i.toInt.toNat + j.toInt.toNat + 18) x85) (by omega) (by exact h1.1) (by rw [show x87.toInt.toNat = j.toInt.toNat + 1 from by omega]; exact h1.2) (by omega) _ _ hP hD hS ls (lv_sub hl [0, 1, 2] rfl)
          have q52 : ([(h, .inr (8, [.ref h1, .ref h2, .ref h3, .int (recS gst), .ref h4, .ref h5, .ref h6, .int gty, .int gse, .int gte, .int w1_0, .ref h7, .ref h8, .int w1_1])), (h1, .inl (cI, 190, .inl (upd w (8 + i.toInt.toNat) x48))), (h3, .inl (cI, 1140, .inl g11_2)), (h6, .inl (cI, 60, .inl pad)), (h7, .inl (cI, 120, .inl w1_2)), (h8, .inl (cI, 10, .inl w1_3))] : va_W) = [(h, .inr (8, [.ref h1, .ref h2, .ref h3, .int (recS gst), .ref h4, .ref h5, .ref h6, .int gty, .int gse, .int gte, .int w1_0, .ref h7, .ref h8, .int w1_1])), (h1, .inl (cI, 190, .inl (upd w (8 + i.toInt.toNat) (w1_3 i.toInt.toNat)))), (h3, .inl (cI, 1140, .inl g11_2)), (h6, .inl (cI, 60, .inl pad)), (h7, .inl (cI, 120, .inl w1_2)), (h8, .inl (cI, 10, .inl w1_3))] := by rw [e48]
          exact L52 13 (0 : Int32) (upd w (8 + i.toInt.toNat) (w1_3 i.toInt.toNat)) (by rw [show (0 : Int32).toInt = 0 from by decide]; omega) (by exact h0.1) (by exact h0.2) (by decide) _ _ (xk_P hP q52) (xk_D hD q52) hS ls (lv_sub hl [0, 1, 2] rfl)
    exact L27 11 (0 : Int32) (upd z 6 w1_1) (by rw [show (0 : Int32).toInt = 0 from by decide]; omega) (by exact RdO_0 _ _ _ _) (by decide) _ _ hP hD hS ls (lv_sub hl [0, 1] rfl)
  · have b1 : FA pad gty.toInt.toNat w1_0.toInt.toNat ∧ 0 ≤ w1_0.toInt ∧ w1_0.toInt ≤ gty.toInt := b1
    obtain ⟨hfa, -⟩ := b1
    refine lv_if_ne (tgt := 10) hx hb dX8_read_4 (by decide) (fun c4 => absurd (by decide) c4) (fun _ => ?_)
    refine lv_bipush (v := (-3)) hx hb dX8_read_7 (by decide) ?_
    exact xk_reti (w1_0, w1_1, w1_2, w1_3, z, past, gst, gty) hx hb hr hlocks (xk_P hP (by rfl)) (by (try dsimp only); exact Or.inl ⟨FA_FN hfa, rfl, rfl, rfl, rfl, rfl⟩) hS dX8_read_9 hQ

set_option maxHeartbeats 4000000 in
set_option maxRecDepth 100000 in
theorem c_X8_put (l : Launch) (D : va_G) (cI cZ cS : ClassId) (h h1 h2 h3 h4 h5 h6 h7 h8 : Nat) (gst gty gse gte gsp gtl : Int32) (pad : Nat → Int32) (v : Int64) (hty : 0 ≤ gty.toInt ∧ gty.toInt ≤ 60) : xMi l yX8_put cX8_put 7 (some .int) ({ frames := 1, cells := 0, slots := 0, locals := 22 } : Room) D (xTy cI cZ cS) [.ref h, .long v] [(h, .inr (8, [.ref h1, .ref h2, .ref h3, .int gst, .ref h4, .ref h5, .ref h6, .int gty, .int gse, .int gte, .int gsp, .ref h7, .ref h8, .int gtl])), (h6, .inl (cI, 60, .inl pad))] (fun (r : Int32) (u : (Int32) × (Nat → Int32)) => putA v gty pad r u.1 u.2) (fun (u : (Int32) × (Nat → Int32)) => [(h, .inr (8, [.ref h1, .ref h2, .ref h3, .int gst, .ref h4, .ref h5, .ref h6, .int u.1, .int gse, .int gte, .int gsp, .ref h7, .ref h8, .int gtl])), (h6, .inl (cI, 60, .inl u.2))]) := by
  refine xk_bodyi (by decide) (Nat.le_of_ble_eq_true rfl) ?_
  intro p e s m below meth c A ls args Q hx hb hr hts hown hlocks hml hin hK hP hD hS hA hN hZ hl hQ
  have hl : lv_has ls 7 [(0, .ref h), (1, .long v)] := hl
  refine lv_lload_n hx hb dX8_put_0 rfl (lv_at hl 1 rfl) ?_
  refine lv_lstore_n (lv' := [(3, .long v), (0, .ref h), (1, .long v)]) hx hb dX8_put_1 rfl hl (by decide) rfl (fun ls hl => ?_)
  refine lv_iconst (v := 0) hx hb dX8_put_2 (by decide) ?_
  refine lv_istore (lv' := [(5, .int 0), (3, .long v), (0, .ref h), (1, .long v)]) hx hb dX8_put_3 hl (by decide) rfl (fun ls hl => ?_)
  have L5 : ∀ (n : Nat) (y : Int64) (k : Int32) (hk : 0 ≤ k.toInt ∧ k.toInt ≤ 8) (hch : chF 8 v 0 = chF (8 - k.toInt.toNat) y k.toInt.toNat) (hn5 : 8 - k.toInt.toNat < n) (H : Heap) (locs : List Loc), va_P D vwCl [(h, .inr (8, [.ref h1, .ref h2, .ref h3, .int gst, .ref h4, .ref h5, .ref h6, .int gty, .int gse, .int gte, .int gsp, .ref h7, .ref h8, .int gtl])), (h6, .inl (cI, 60, .inl pad))] H → va_D A [(h, .inr (8, [.ref h1, .ref h2, .ref h3, .int gst, .ref h4, .ref h5, .ref h6, .int gty, .int gse, .int gte, .int gsp, .ref h7, .ref h8, .int gtl])), (h6, .inl (cI, 60, .inl pad))] → va_S A s.heap H locs → ∀ ls : Array Slot, lv_has ls 7 [(5, .int k), (3, .long y), (0, .ref h), (1, .long v)] → W p l e ({ frames := 1, cells := 0, slots := 0, locals := 22 } : Room) s m args below meth c H locs 0 0 Q (F0 m 5 ls []) := by
    intro n
    induction n with
    | zero =>
      intro y k hk hch hn5
      exact absurd hn5 (Nat.not_lt_zero _)
    | succ n ih5 =>
      intro y k hk hch hn5 H locs hP hD hS ls hl
      refine lv_lload_n hx hb dX8_put_5 rfl (lv_at hl 1 rfl) ?_
      refine lv_lconst (v := 0) hx hb dX8_put_6 (by decide) ?_
      refine W.lcmp hx hb dX8_put_7 ?_
      refine lv_topi (fun x7 e7 => ?_)
      refine lv_if_eq (tgt := 48) hx hb dX8_put_8 (by decide) (fun c8 => ?_) (fun c8 => ?_)
      · have t8 : x7.toInt = 0 := xi_eq rfl (by decide) c8
        have d8 : x7 = 0 := c8
        have hx0 : y = 0 := lg0 (by rw [← e7]; exact d8)
        have hfin : chF 8 v 0 = some k.toInt.toNat := by rw [hch]; exact chF_0 _ _ hx0
        refine lv_iload hx hb dX8_put_48 (lv_at hl 0 rfl) ?_
        refine lv_if_ne (tgt := 56) hx hb dX8_put_50 (by decide) (fun c50 => ?_) (fun c50 => ?_)
        · have t50 : ¬ k.toInt = 0 := xi_ne rfl (by decide) c50
          have d50 : ¬ k = 0 := c50
          refine lv_aload_n hx hb dX8_put_56 rfl (lv_at hl 2 rfl) ?_
          refine va_get (D := D) (ci := 8) (v := .int gty) (C := RX8) (T := TX8) (N := 14) hx hb hts xin8 hown hK hP 0 rfl rfl 7 (by decide) (hts _ (List.mem_cons_of_mem _ mw_3_96)) (fun _ h9 => h9) rfl dX8_put_57 ?_
          refine lv_iload hx hb dX8_put_60 (lv_at hl 0 rfl) ?_
          refine lv_iadd hx hb dX8_put_62 ?_
          refine lv_topi (fun x62 e62 => ?_)
          have t62 : x62.toInt = gty.toInt + k.toInt := by rw [e62]; exact xi_add rfl rfl (by omega) (by omega)
          refine lv_bipush (v := 60) hx hb dX8_put_63 (by decide) ?_
          refine lv_icmp_le (tgt := 71) hx hb dX8_put_65 (by decide) (fun c65 => ?_) (fun c65 => ?_)
          · have t65 : x62.toInt ≤ 60 := xi_le rfl (by decide) c65
            refine lv_iload hx hb dX8_put_71 (lv_at hl 0 rfl) ?_
            refine lv_iconst (v := 1) hx hb dX8_put_73 (by decide) ?_
            refine lv_isub hx hb dX8_put_74 ?_
            refine lv_topi (fun x74 e74 => ?_)
            have t74 : x74.toInt = k.toInt - 1 := by rw [e74]; exact xi_sub rfl (by decide) (by omega) (by omega)
            refine lv_istore (lv' := [(6, .int x74), (5, .int k), (3, .long y), (0, .ref h), (1, .long v)]) hx hb dX8_put_75 hl (by decide) rfl (fun ls hl => ?_)
            have L77 : ∀ (n : Nat) (q : Int32) (ty1 : Int32) (p1 : Nat → Int32) (hq : -1 ≤ q.toInt ∧ q.toInt ≤ 7 ∧ 0 ≤ ty1.toInt ∧ ty1.toInt + q.toInt + 1 = gty.toInt + k.toInt) (hap : apP v (q.toInt + 1).toNat ty1.toInt.toNat p1 = apP v k.toInt.toNat gty.toInt.toNat pad) (hn77 : (q.toInt + 1).toNat < n) (H : Heap) (locs : List Loc), va_P D vwCl [(h, .inr (8, [.ref h1, .ref h2, .ref h3, .int gst, .ref h4, .ref h5, .ref h6, .int ty1, .int gse, .int gte, .int gsp, .ref h7, .ref h8, .int gtl])), (h6, .inl (cI, 60, .inl p1))] H → va_D A [(h, .inr (8, [.ref h1, .ref h2, .ref h3, .int gst, .ref h4, .ref h5, .ref h6, .int ty1, .int gse, .int gte, .int gsp, .ref h7, .ref h8, .int gtl])), (h6, .inl (cI, 60, .inl p1))] → va_S A s.heap H locs → ∀ ls : Array Slot, lv_has ls 7 [(6, .int q), (5, .int k), (3, .long y), (0, .ref h), (1, .long v)] → W p l e ({ frames := 1, cells := 0, slots := 0, locals := 22 } : Room) s m args below meth c H locs 0 0 Q (F0 m 77 ls []) := by
              intro n
              induction n with
              | zero =>
                intro q ty1 p1 hq hap hn77
                exact absurd hn77 (Nat.not_lt_zero _)
              | succ n ih77 =>
                intro q ty1 p1 hq hap hn77 H locs hP hD hS ls hl
                refine lv_iload hx hb dX8_put_77 (lv_at hl 0 rfl) ?_
                refine lv_if_lt (tgt := 119) hx hb dX8_put_79 (by decide) (fun c79 => ?_) (fun c79 => ?_)
                · have t79 : q.toInt < 0 := xi_lt rfl (by decide) c79
                  refine lv_aload_n hx hb dX8_put_119 rfl (lv_at hl 3 rfl) ?_
                  refine va_get (D := D) (ci := 8) (v := .int ty1) (C := RX8) (T := TX8) (N := 14) hx hb hts xin8 hown hK hP 0 rfl rfl 7 (by decide) (hts _ (List.mem_cons_of_mem _ mw_3_96)) (fun _ h9 => h9) rfl dX8_put_120 ?_
                  have hpp : p1 = apP v k.toInt.toNat gty.toInt.toNat pad := by rw [← hap, show (q.toInt + 1).toNat = 0 from by omega]; rfl
                  exact xk_reti (ty1, p1) hx hb hr hlocks (xk_P hP (by rfl)) (by (try dsimp only); unfold putA; rw [hfin]; dsimp only; rw [if_neg (by omega), if_neg (by omega)]; exact ⟨rfl, by omega, hpp⟩) hS dX8_put_123 hQ
                · have t79 : 0 ≤ q.toInt := xi_nlt rfl (by decide) c79
                  refine lv_aload_n hx hb dX8_put_82 rfl (lv_at hl 3 rfl) ?_
                  refine va_get (D := D) (ci := 8) (v := .ref h6) (C := RX8) (T := TX8) (N := 14) hx hb hts xin8 hown hK hP 0 rfl rfl 6 (by decide) (hts _ (List.mem_cons_of_mem _ mw_3_95)) (fun _ h9 => h9) rfl dX8_put_83 ?_
                  refine lv_aload_n hx hb dX8_put_86 rfl (lv_at hl 3 rfl) ?_
                  refine va_get (D := D) (ci := 8) (v := .int ty1) (C := RX8) (T := TX8) (N := 14) hx hb hts xin8 hown hK hP 0 rfl rfl 7 (by decide) (hts _ (List.mem_cons_of_mem _ mw_3_96)) (fun _ h9 => h9) rfl dX8_put_87 ?_
                  refine lv_lload_n hx hb dX8_put_90 rfl (lv_at hl 4 rfl) ?_
                  refine lv_bipush (v := 8) hx hb dX8_put_91 (by decide) ?_
                  refine lv_iload hx hb dX8_put_93 (lv_at hl 0 rfl) ?_
                  refine lv_imul hx hb dX8_put_95 ?_
                  refine lv_topi (fun x95 e95 => ?_)
                  have t95 : x95.toInt = 8 * q.toInt := by rw [e95]; exact xi_mul (by decide) rfl (by omega) (by omega)
                  refine lv_lushr hx hb dX8_put_96 rfl ?_
                  refine lv_topl (fun y96 e96 => ?_)
                  refine lv_ldc2 (v := 255) hx hb hown (hts _ (List.mem_cons_of_mem _ mw_3_221)) dX8_put_97 ?_
                  refine lv_land hx hb dX8_put_100 ?_
                  refine lv_topl (fun y100 e100 => ?_)
                  refine lv_l2i hx hb dX8_put_101 rfl ?_
                  refine lv_topi (fun x101 e101 => ?_)
                  refine va_iast hx hb hK hP hD hS 1 0 rfl rfl (xi_in (by omega) (by omega)) dX8_put_102 (fun H locs hP hD hS => ?_)
                  have hP : va_P D vwCl [(h, .inr (8, [.ref h1, .ref h2, .ref h3, .int gst, .ref h4, .ref h5, .ref h6, .int ty1, .int gse, .int gte, .int gsp, .ref h7, .ref h8, .int gtl])), (h6, .inl (cI, 60, .inl (upd p1 ty1.toInt.toNat x101)))] H := hP
                  have hD : va_D A [(h, .inr (8, [.ref h1, .ref h2, .ref h3, .int gst, .ref h4, .ref h5, .ref h6, .int ty1, .int gse, .int gte, .int gsp, .ref h7, .ref h8, .int gtl])), (h6, .inl (cI, 60, .inl (upd p1 ty1.toInt.toNat x101)))] := hD
                  refine lv_aload_n hx hb dX8_put_103 rfl (lv_at hl 3 rfl) ?_
                  refine lv_dup hx hb dX8_put_104 rfl ?_
                  refine va_get (D := D) (ci := 8) (v := .int ty1) (C := RX8) (T := TX8) (N := 14) hx hb hts xin8 hown hK hP 0 rfl rfl 7 (by decide) (hts _ (List.mem_cons_of_mem _ mw_3_96)) (fun _ h9 => h9) rfl dX8_put_105 ?_
                  refine lv_iconst (v := 1) hx hb dX8_put_108 (by decide) ?_
                  refine lv_iadd hx hb dX8_put_109 ?_
                  refine lv_topi (fun x109 e109 => ?_)
                  have t109 : x109.toInt = ty1.toInt + 1 := by rw [e109]; exact xi_add rfl (by decide) (by omega) (by omega)
                  refine va_put (D := D) (ci := 8) (v := .int x109) (ty := .int) (C := RX8) (T := TX8) (N := 14) hx hb hts xin8 tyX8 tyX8_ok nmX8 hown hK hP hD hS 0 rfl rfl 7 (by decide) (hts _ (List.mem_cons_of_mem _ mw_3_96)) (fun _ h9 => h9) rfl (by decide +kernel) rfl rfl (Nat.le_of_ble_eq_true rfl) dX8_put_110 (fun H locs hP hD hS => ?_)
                  have hP : va_P D vwCl [(h, .inr (8, [.ref h1, .ref h2, .ref h3, .int gst, .ref h4, .ref h5, .ref h6, .int x109, .int gse, .int gte, .int gsp, .ref h7, .ref h8, .int gtl])), (h6, .inl (cI, 60, .inl (upd p1 ty1.toInt.toNat x101)))] H := hP
                  have hD : va_D A [(h, .inr (8, [.ref h1, .ref h2, .ref h3, .int gst, .ref h4, .ref h5, .ref h6, .int x109, .int gse, .int gte, .int gsp, .ref h7, .ref h8, .int gtl])), (h6, .inl (cI, 60, .inl (upd p1 ty1.toInt.toNat x101)))] := hD
                  obtain ⟨x113, e113⟩ : ∃ y : Int32, y = q + (-1) := ⟨_, rfl⟩
                  have t113 : x113.toInt = q.toInt + (-1) := by rw [e113]; exact xi_add rfl (by decide) (by omega) (by omega)
                  refine lv_iinc (v := x113) (lv' := [(6, .int x113), (5, .int k), (3, .long y), (0, .ref h), (1, .long v)]) hx hb dX8_put_113 hl (k := 0) rfl (by rw [e113]; rfl) (by decide) rfl (fun ls hl => ?_)
                  refine lv_goto (tgt := 77) hx hb dX8_put_116 (by decide) ?_
                  have hq1 : (q.toInt + 1).toNat = (x113.toInt + 1).toNat + 1 := by omega
                  have hqn : nI (x113.toInt + 1).toNat = q := xi_ext (by rw [nI_toInt (by omega)]; omega)
                  rw [hq1, apP, hqn, show ty1.toInt.toNat + 1 = x109.toInt.toNat from by omega] at hap
                  have hcA : x101 = cdA v q := by rw [e101, e100, e96, e95]; rfl
                  exact ih77  x113 x109 (upd p1 ty1.toInt.toNat x101) (by omega) (by rw [hcA]; exact hap) (by omega) _ _ hP hD hS ls (lv_sub hl [0, 1, 2, 3, 4] rfl)
            exact L77 9 x74 gty pad (by omega) (by rw [show (x74.toInt + 1).toNat = k.toInt.toNat from by omega]) (by omega) _ _ hP hD hS ls (lv_sub hl [0, 1, 2, 3, 4] rfl)
          · have t65 : 60 < x62.toInt := xi_nle rfl (by decide) c65
            refine lv_bipush (v := (-4)) hx hb dX8_put_68 (by decide) ?_
            exact xk_reti (gty, pad) hx hb hr hlocks (xk_P hP (by rfl)) (by (try dsimp only); unfold putA; rw [hfin]; dsimp only; rw [if_neg (by omega), if_pos (by omega)]; exact ⟨rfl, rfl, rfl⟩) hS dX8_put_70 hQ
        · have t50 : k.toInt = 0 := xi_eq rfl (by decide) c50
          have d50 : k = 0 := c50
          refine lv_bipush (v := (-2)) hx hb dX8_put_53 (by decide) ?_
          exact xk_reti (gty, pad) hx hb hr hlocks (xk_P hP (by rfl)) (by (try dsimp only); unfold putA; rw [hfin]; dsimp only; rw [if_pos (by omega)]; exact ⟨rfl, rfl, rfl⟩) hS dX8_put_55 hQ
      · have t8 : ¬ x7.toInt = 0 := xi_ne rfl (by decide) c8
        have d8 : ¬ x7 = 0 := c8
        have hx0 : ¬ y = 0 := lg1 (by rw [← e7]; exact d8)
        refine lv_iload hx hb dX8_put_11 (lv_at hl 0 rfl) ?_
        refine lv_bipush (v := 8) hx hb dX8_put_13 (by decide) ?_
        refine lv_icmp_ge (tgt := 48) hx hb dX8_put_15 (by decide) (fun c15 => ?_) (fun c15 => ?_)
        · have t15 : 8 ≤ k.toInt := xi_le (by decide) rfl c15
          have hfin : chF 8 v 0 = some k.toInt.toNat := by rw [hch, show 8 - k.toInt.toNat = 0 from by omega]; rfl
          refine lv_iload hx hb dX8_put_48 (lv_at hl 0 rfl) ?_
          refine lv_if_ne (tgt := 56) hx hb dX8_put_50 (by decide) (fun c50 => ?_) (fun c50 => ?_)
          · have t50 : ¬ k.toInt = 0 := xi_ne rfl (by decide) c50
            have d50 : ¬ k = 0 := c50
            refine lv_aload_n hx hb dX8_put_56 rfl (lv_at hl 2 rfl) ?_
            refine va_get (D := D) (ci := 8) (v := .int gty) (C := RX8) (T := TX8) (N := 14) hx hb hts xin8 hown hK hP 0 rfl rfl 7 (by decide) (hts _ (List.mem_cons_of_mem _ mw_3_96)) (fun _ h9 => h9) rfl dX8_put_57 ?_
            refine lv_iload hx hb dX8_put_60 (lv_at hl 0 rfl) ?_
            refine lv_iadd hx hb dX8_put_62 ?_
            refine lv_topi (fun x62 e62 => ?_)
            have t62 : x62.toInt = gty.toInt + k.toInt := by rw [e62]; exact xi_add rfl rfl (by omega) (by omega)
            refine lv_bipush (v := 60) hx hb dX8_put_63 (by decide) ?_
            refine lv_icmp_le (tgt := 71) hx hb dX8_put_65 (by decide) (fun c65 => ?_) (fun c65 => ?_)
            · have t65 : x62.toInt ≤ 60 := xi_le rfl (by decide) c65
              refine lv_iload hx hb dX8_put_71 (lv_at hl 0 rfl) ?_
              refine lv_iconst (v := 1) hx hb dX8_put_73 (by decide) ?_
              refine lv_isub hx hb dX8_put_74 ?_
              refine lv_topi (fun x74 e74 => ?_)
              have t74 : x74.toInt = k.toInt - 1 := by rw [e74]; exact xi_sub rfl (by decide) (by omega) (by omega)
              refine lv_istore (lv' := [(6, .int x74), (5, .int k), (3, .long y), (0, .ref h), (1, .long v)]) hx hb dX8_put_75 hl (by decide) rfl (fun ls hl => ?_)
              have L77 : ∀ (n : Nat) (q : Int32) (ty1 : Int32) (p1 : Nat → Int32) (hq : -1 ≤ q.toInt ∧ q.toInt ≤ 7 ∧ 0 ≤ ty1.toInt ∧ ty1.toInt + q.toInt + 1 = gty.toInt + k.toInt) (hap : apP v (q.toInt + 1).toNat ty1.toInt.toNat p1 = apP v k.toInt.toNat gty.toInt.toNat pad) (hn77 : (q.toInt + 1).toNat < n) (H : Heap) (locs : List Loc), va_P D vwCl [(h, .inr (8, [.ref h1, .ref h2, .ref h3, .int gst, .ref h4, .ref h5, .ref h6, .int ty1, .int gse, .int gte, .int gsp, .ref h7, .ref h8, .int gtl])), (h6, .inl (cI, 60, .inl p1))] H → va_D A [(h, .inr (8, [.ref h1, .ref h2, .ref h3, .int gst, .ref h4, .ref h5, .ref h6, .int ty1, .int gse, .int gte, .int gsp, .ref h7, .ref h8, .int gtl])), (h6, .inl (cI, 60, .inl p1))] → va_S A s.heap H locs → ∀ ls : Array Slot, lv_has ls 7 [(6, .int q), (5, .int k), (3, .long y), (0, .ref h), (1, .long v)] → W p l e ({ frames := 1, cells := 0, slots := 0, locals := 22 } : Room) s m args below meth c H locs 0 0 Q (F0 m 77 ls []) := by
                intro n
                induction n with
                | zero =>
                  intro q ty1 p1 hq hap hn77
                  exact absurd hn77 (Nat.not_lt_zero _)
                | succ n ih77 =>
                  intro q ty1 p1 hq hap hn77 H locs hP hD hS ls hl
                  refine lv_iload hx hb dX8_put_77 (lv_at hl 0 rfl) ?_
                  refine lv_if_lt (tgt := 119) hx hb dX8_put_79 (by decide) (fun c79 => ?_) (fun c79 => ?_)
                  · have t79 : q.toInt < 0 := xi_lt rfl (by decide) c79
                    refine lv_aload_n hx hb dX8_put_119 rfl (lv_at hl 3 rfl) ?_
                    refine va_get (D := D) (ci := 8) (v := .int ty1) (C := RX8) (T := TX8) (N := 14) hx hb hts xin8 hown hK hP 0 rfl rfl 7 (by decide) (hts _ (List.mem_cons_of_mem _ mw_3_96)) (fun _ h9 => h9) rfl dX8_put_120 ?_
                    have hpp : p1 = apP v k.toInt.toNat gty.toInt.toNat pad := by rw [← hap, show (q.toInt + 1).toNat = 0 from by omega]; rfl
                    exact xk_reti (ty1, p1) hx hb hr hlocks (xk_P hP (by rfl)) (by (try dsimp only); unfold putA; rw [hfin]; dsimp only; rw [if_neg (by omega), if_neg (by omega)]; exact ⟨rfl, by omega, hpp⟩) hS dX8_put_123 hQ
                  · have t79 : 0 ≤ q.toInt := xi_nlt rfl (by decide) c79
                    refine lv_aload_n hx hb dX8_put_82 rfl (lv_at hl 3 rfl) ?_
                    refine va_get (D := D) (ci := 8) (v := .ref h6) (C := RX8) (T := TX8) (N := 14) hx hb hts xin8 hown hK hP 0 rfl rfl 6 (by decide) (hts _ (List.mem_cons_of_mem _ mw_3_95)) (fun _ h9 => h9) rfl dX8_put_83 ?_
                    refine lv_aload_n hx hb dX8_put_86 rfl (lv_at hl 3 rfl) ?_
                    refine va_get (D := D) (ci := 8) (v := .int ty1) (C := RX8) (T := TX8) (N := 14) hx hb hts xin8 hown hK hP 0 rfl rfl 7 (by decide) (hts _ (List.mem_cons_of_mem _ mw_3_96)) (fun _ h9 => h9) rfl dX8_put_87 ?_
                    refine lv_lload_n hx hb dX8_put_90 rfl (lv_at hl 4 rfl) ?_
                    refine lv_bipush (v := 8) hx hb dX8_put_91 (by decide) ?_
                    refine lv_iload hx hb dX8_put_93 (lv_at hl 0 rfl) ?_
                    refine lv_imul hx hb dX8_put_95 ?_
                    refine lv_topi (fun x95 e95 => ?_)
                    have t95 : x95.toInt = 8 * q.toInt := by rw [e95]; exact xi_mul (by decide) rfl (by omega) (by omega)
                    refine lv_lushr hx hb dX8_put_96 rfl ?_
                    refine lv_topl (fun y96 e96 => ?_)
                    refine lv_ldc2 (v := 255) hx hb hown (hts _ (List.mem_cons_of_mem _ mw_3_221)) dX8_put_97 ?_
                    refine lv_land hx hb dX8_put_100 ?_
                    refine lv_topl (fun y100 e100 => ?_)
                    refine lv_l2i hx hb dX8_put_101 rfl ?_
                    refine lv_topi (fun x101 e101 => ?_)
                    refine va_iast hx hb hK hP hD hS 1 0 rfl rfl (xi_in (by omega) (by omega)) dX8_put_102 (fun H locs hP hD hS => ?_)
                    have hP : va_P D vwCl [(h, .inr (8, [.ref h1, .ref h2, .ref h3, .int gst, .ref h4, .ref h5, .ref h6, .int ty1, .int gse, .int gte, .int gsp, .ref h7, .ref h8, .int gtl])), (h6, .inl (cI, 60, .inl (upd p1 ty1.toInt.toNat x101)))] H := hP
                    have hD : va_D A [(h, .inr (8, [.ref h1, .ref h2, .ref h3, .int gst, .ref h4, .ref h5, .ref h6, .int ty1, .int gse, .int gte, .int gsp, .ref h7, .ref h8, .int gtl])), (h6, .inl (cI, 60, .inl (upd p1 ty1.toInt.toNat x101)))] := hD
                    refine lv_aload_n hx hb dX8_put_103 rfl (lv_at hl 3 rfl) ?_
                    refine lv_dup hx hb dX8_put_104 rfl ?_
                    refine va_get (D := D) (ci := 8) (v := .int ty1) (C := RX8) (T := TX8) (N := 14) hx hb hts xin8 hown hK hP 0 rfl rfl 7 (by decide) (hts _ (List.mem_cons_of_mem _ mw_3_96)) (fun _ h9 => h9) rfl dX8_put_105 ?_
                    refine lv_iconst (v := 1) hx hb dX8_put_108 (by decide) ?_
                    refine lv_iadd hx hb dX8_put_109 ?_
                    refine lv_topi (fun x109 e109 => ?_)
                    have t109 : x109.toInt = ty1.toInt + 1 := by rw [e109]; exact xi_add rfl (by decide) (by omega) (by omega)
                    refine va_put (D := D) (ci := 8) (v := .int x109) (ty := .int) (C := RX8) (T := TX8) (N := 14) hx hb hts xin8 tyX8 tyX8_ok nmX8 hown hK hP hD hS 0 rfl rfl 7 (by decide) (hts _ (List.mem_cons_of_mem _ mw_3_96)) (fun _ h9 => h9) rfl (by decide +kernel) rfl rfl (Nat.le_of_ble_eq_true rfl) dX8_put_110 (fun H locs hP hD hS => ?_)
                    have hP : va_P D vwCl [(h, .inr (8, [.ref h1, .ref h2, .ref h3, .int gst, .ref h4, .ref h5, .ref h6, .int x109, .int gse, .int gte, .int gsp, .ref h7, .ref h8, .int gtl])), (h6, .inl (cI, 60, .inl (upd p1 ty1.toInt.toNat x101)))] H := hP
                    have hD : va_D A [(h, .inr (8, [.ref h1, .ref h2, .ref h3, .int gst, .ref h4, .ref h5, .ref h6, .int x109, .int gse, .int gte, .int gsp, .ref h7, .ref h8, .int gtl])), (h6, .inl (cI, 60, .inl (upd p1 ty1.toInt.toNat x101)))] := hD
                    obtain ⟨x113, e113⟩ : ∃ y : Int32, y = q + (-1) := ⟨_, rfl⟩
                    have t113 : x113.toInt = q.toInt + (-1) := by rw [e113]; exact xi_add rfl (by decide) (by omega) (by omega)
                    refine lv_iinc (v := x113) (lv' := [(6, .int x113), (5, .int k), (3, .long y), (0, .ref h), (1, .long v)]) hx hb dX8_put_113 hl (k := 0) rfl (by rw [e113]; rfl) (by decide) rfl (fun ls hl => ?_)
                    refine lv_goto (tgt := 77) hx hb dX8_put_116 (by decide) ?_
                    have hq1 : (q.toInt + 1).toNat = (x113.toInt + 1).toNat + 1 := by omega
                    have hqn : nI (x113.toInt + 1).toNat = q := xi_ext (by rw [nI_toInt (by omega)]; omega)
                    rw [hq1, apP, hqn, show ty1.toInt.toNat + 1 = x109.toInt.toNat from by omega] at hap
                    have hcA : x101 = cdA v q := by rw [e101, e100, e96, e95]; rfl
                    exact ih77  x113 x109 (upd p1 ty1.toInt.toNat x101) (by omega) (by rw [hcA]; exact hap) (by omega) _ _ hP hD hS ls (lv_sub hl [0, 1, 2, 3, 4] rfl)
              exact L77 9 x74 gty pad (by omega) (by rw [show (x74.toInt + 1).toNat = k.toInt.toNat from by omega]) (by omega) _ _ hP hD hS ls (lv_sub hl [0, 1, 2, 3, 4] rfl)
            · have t65 : 60 < x62.toInt := xi_nle rfl (by decide) c65
              refine lv_bipush (v := (-4)) hx hb dX8_put_68 (by decide) ?_
              exact xk_reti (gty, pad) hx hb hr hlocks (xk_P hP (by rfl)) (by (try dsimp only); unfold putA; rw [hfin]; dsimp only; rw [if_neg (by omega), if_pos (by omega)]; exact ⟨rfl, rfl, rfl⟩) hS dX8_put_70 hQ
          · have t50 : k.toInt = 0 := xi_eq rfl (by decide) c50
            have d50 : k = 0 := c50
            refine lv_bipush (v := (-2)) hx hb dX8_put_53 (by decide) ?_
            exact xk_reti (gty, pad) hx hb hr hlocks (xk_P hP (by rfl)) (by (try dsimp only); unfold putA; rw [hfin]; dsimp only; rw [if_pos (by omega)]; exact ⟨rfl, rfl, rfl⟩) hS dX8_put_55 hQ
        · have t15 : k.toInt < 8 := xi_nle (by decide) rfl c15
          refine lv_lload_n hx hb dX8_put_18 rfl (lv_at hl 1 rfl) ?_
          refine lv_ldc2 (v := 255) hx hb hown (hts _ (List.mem_cons_of_mem _ mw_3_221)) dX8_put_19 ?_
          refine lv_land hx hb dX8_put_22 ?_
          refine lv_topl (fun y22 e22 => ?_)
          refine lv_l2i hx hb dX8_put_23 rfl ?_
          refine lv_topi (fun x23 e23 => ?_)
          refine lv_bipush (v := 33) hx hb dX8_put_24 (by decide) ?_
          refine lv_bipush (v := 126) hx hb dX8_put_26 (by decide) ?_
          refine xk_Si (As := [.int x23, .int 33, .int 126]) (rest := []) hx hb hml hown hts hK hN hZ hP hD hS hA mb_X8_in mw_3_143 mw_3_144 (c_X8_in l D cI cZ cS x23 (33 : Int32) (126 : Int32) ) [] (by decide) rfl (fun _ => by simp only [List.map]) (by decide) (by decide) rfl hl.1 rfl (Nat.le_of_ble_eq_true rfl) dX8_put_28 ⟨Nat.zero_le _, Nat.zero_le _⟩ (fun r28 _ H locs hw hP hD hS => ?_)
          have hP : va_P D vwCl [(h, .inr (8, [.ref h1, .ref h2, .ref h3, .int gst, .ref h4, .ref h5, .ref h6, .int gty, .int gse, .int gte, .int gsp, .ref h7, .ref h8, .int gtl])), (h6, .inl (cI, 60, .inl pad))] H := hP
          have hD : va_D A [(h, .inr (8, [.ref h1, .ref h2, .ref h3, .int gst, .ref h4, .ref h5, .ref h6, .int gty, .int gse, .int gte, .int gsp, .ref h7, .ref h8, .int gtl])), (h6, .inl (cI, 60, .inl pad))] := hD
          rcases hw with ⟨rfl, b28⟩ | ⟨rfl, b28⟩
          · have b28 : 33 ≤ x23.toInt ∧ x23.toInt ≤ 126 := b28
            have hf8 : 8 - k.toInt.toNat = (8 - k.toInt.toNat - 1) + 1 := by omega
            have hcd : x23 = cdL y := by rw [e23, e22]; rfl
            refine lv_if_ne (tgt := 37) hx hb dX8_put_31 (by decide) (fun _ => ?_) (fun c31 => absurd c31 (by decide))
            refine lv_lload_n hx hb dX8_put_37 rfl (lv_at hl 1 rfl) ?_
            refine lv_bipush (v := 8) hx hb dX8_put_38 (by decide) ?_
            refine lv_lushr hx hb dX8_put_40 rfl ?_
            refine lv_topl (fun y40 e40 => ?_)
            have hsh : y40 = sh8 y := e40
            refine lv_lstore_n (lv' := [(3, .long y40), (5, .int k), (0, .ref h), (1, .long v)]) hx hb dX8_put_41 rfl hl (by decide) rfl (fun ls hl => ?_)
            obtain ⟨x42, e42⟩ : ∃ y : Int32, y = k + 1 := ⟨_, rfl⟩
            have t42 : x42.toInt = k.toInt + 1 := by rw [e42]; exact xi_add rfl (by decide) (by omega) (by omega)
            refine lv_iinc (v := x42) (lv' := [(5, .int x42), (3, .long y40), (0, .ref h), (1, .long v)]) hx hb dX8_put_42 hl (k := 1) rfl (by rw [e42]; rfl) (by decide) rfl (fun ls hl => ?_)
            refine lv_goto (tgt := 5) hx hb dX8_put_45 (by decide) ?_
            have hs : 8 - k.toInt.toNat = (8 - x42.toInt.toNat) + 1 := by omega
            rw [hs, chF_s _ _ _ hx0 (by rw [← hcd]; exact b28), ← hsh, show k.toInt.toNat + 1 = x42.toInt.toNat from by omega] at hch
            exact ih5  y40 x42 (by omega) (by exact hch) (by omega) _ _ hP hD hS ls (lv_sub hl [0, 1, 2, 3] rfl)
          · have b28 : ¬ (33 ≤ x23.toInt ∧ x23.toInt ≤ 126) := b28
            have hf8 : 8 - k.toInt.toNat = (8 - k.toInt.toNat - 1) + 1 := by omega
            have hcd : x23 = cdL y := by rw [e23, e22]; rfl
            refine lv_if_ne (tgt := 37) hx hb dX8_put_31 (by decide) (fun c31 => absurd (by decide) c31) (fun _ => ?_)
            refine lv_bipush (v := (-2)) hx hb dX8_put_34 (by decide) ?_
            exact xk_reti (gty, pad) hx hb hr hlocks (xk_P hP (by rfl)) (by (try dsimp only); unfold putA; rw [hch, chF_n _ _ _ hx0 (by rw [← hcd]; exact b28) hf8]; exact ⟨rfl, rfl, rfl⟩) hS dX8_put_36 hQ
  exact L5 9 v (0 : Int32) (by decide) (by rfl) (by decide) _ _ hP hD hS ls (lv_sub hl [0, 1, 2, 3] rfl)
