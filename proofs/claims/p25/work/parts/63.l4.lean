set_option maxHeartbeats 4000000 in
set_option maxRecDepth 100000 in
theorem c_L_isMarch (l : Launch) (D : va_G) (cI cZ cS : ClassId) (x0 : Nat) (xs : Nat) (xv : Nat) (ho0 : Nat) (ho1 : Nat) (pd0 : Nat) (pd1 : Nat) (m0 : Nat) (ts0 : Nat) (ts1 : Nat) (a : Nat → Nat) (ha : Nat → Nat → Nat) (sa : Nat → Nat → Nat) (cn : Nat → Nat → Int32) (cs : Nat → Nat → Nat → Int32) (sc : Nat → Nat → Nat → Int32) (tm : Nat → Int32) (tv : Nat → Int32) (pd : Nat → Int32) (sv : Nat → Int32) (ln : Int32) (old : Int32) (sz : Int32) (z : Nat → Int32) (past : Nat → Int32) (slots : Nat → Int32) (bd : Int)  (hLI : LI bd cn cs sc sv ln old sz z past slots) (hbd : bd ≤ 100000) : xMi l yL_isMarch cL_isMarch 11 (some .boolean) ({ frames := 7, cells := 0, slots := 0, locals := 160 } : Room) D (xTy cI cZ cS) [.ref x0] (xwW cI cZ cS x0 xs xv ho0 ho1 pd0 pd1 m0 ts0 ts1 a ha sa cn cs sc tm tv pd sv ln old sz z) (fun (r : Int32) (u : (Nat → Int32) × (Nat → Int32)) => r = (1 : Int32)) (fun (u : (Nat → Int32) × (Nat → Int32)) => (xwW cI cZ cS x0 xs xv ho0 ho1 pd0 pd1 m0 ts0 ts1 a ha sa cn cs sc u.1 u.2 pd sv ln old sz z)) := by
  refine xk_bodyi (by decide) (Nat.le_of_ble_eq_true rfl) ?_
  intro p e s m below meth c A ls args Q hx hb hr hts hown hlocks hml hin hK hP hD hS hA hN hZ hl hQ
  have hl : lv_has ls 11 [(0, .ref x0)] := hl
  obtain ⟨hRS, hI, hBD, ⟨hold, hszz, hlnn⟩, hmcs, hmsc, hRH, hRL⟩ := id hLI
  obtain ⟨⟨hb74, hb74u⟩, ⟨hb86, hb86u⟩, hIP⟩ := id hBD
  have hs0 : (1 ≤ (z 0).toInt ∧ (z 0).toInt ≤ 9) ∧ (0 ≤ (z 1).toInt ∧ (z 1).toInt ≤ 9) ∧ (1 ≤ (z 2).toInt ∧ (z 2).toInt ≤ 9) ∧ (1 ≤ (z 3).toInt ∧ (z 3).toInt ≤ 20) ∧ (2 ≤ (z 5).toInt ∧ (z 5).toInt ≤ 9) := hI.1
  have hg6 : 0 ≤ (z 6).toInt ∧ (z 6).toInt ≤ 10 := hI.2.1.1
  have hr7 : 0 ≤ (z 7).toInt ∧ (z 7).toInt ≤ 12 := hI.2.2.1.1
  have z0 : (0 : Int32).toInt = 0 := by decide
  obtain ⟨hp4, ⟨q83, q84, q87, q87b⟩, ⟨q183, q180⟩, ⟨q81, q81b⟩, ⟨q75, q75b⟩, qnc, qcan⟩ := id hIP
  obtain ⟨⟨r79, r79b⟩, r80, r188⟩ := id hI.2.2.2.2.1
  have hlok : 0 ≤ (z 182).toInt ∧ (z 182).toInt ≤ 9 := hI.2.2.2.2.2
  have o1 : (1 : Int32).toInt = 1 := by decide
  have hwt := walked_t hI
  have hroad := road_le hI hIP
  have hsat := sumR_in hI.2.2.1 (z 179).toInt.toNat (by omega)
  have J24 : ∀ (b : Int32) (hb24 : (b.toInt = 1 ∧ canZ z) ∨ (b.toInt = 0 ∧ ¬ canZ z)) (H : Heap) (locs : List Loc), va_P D vwCl (xwW cI cZ cS x0 xs xv ho0 ho1 pd0 pd1 m0 ts0 ts1 a ha sa cn cs sc tm tv pd sv ln old sz z) H → va_D A (xwW cI cZ cS x0 xs xv ho0 ho1 pd0 pd1 m0 ts0 ts1 a ha sa cn cs sc tm tv pd sv ln old sz z) → va_S A s.heap H locs → ∀ ls : Array Slot, lv_has ls 11 [(0, .ref x0), (1, .int b)] → W p l e ({ frames := 7, cells := 0, slots := 0, locals := 160 } : Room) s m args below meth c H locs 0 0 Q (F0 m 24 ls []) := by
    intro b hb24 H locs hP hD hS ls hl
    refine lv_aload_n hx hb dL_isMarch_24 rfl (lv_at hl 0 rfl) ?_
    refine lv_iconst (v := 0) hx hb dL_isMarch_25 (by decide) ?_
    refine xo_Vi (As := [.int 0]) (rest := []) hx hb hml hown hts hK hN hZ hP hD hS hA mb_X7_walk mw_1_238 mw_1_239 mw_2_0 (k_X7_walk l D cI cZ cS x0 xs xv ho0 ho1 pd0 pd1 m0 ts0 ts1 a ha sa cn cs sc tm tv pd sv ln old sz z (0 : Int32) hRS hI) 0 7 rfl rfl (fun _ => xwW_f) (by decide) (by decide) rfl hl.1 rfl (Nat.le_of_ble_eq_true rfl) dL_isMarch_26 ⟨Nat.zero_le _, Nat.zero_le _⟩ (fun r26 u26 H locs hw hP hD hS => ?_)
    have p26 : r26 = walkR z (0 : Int32) := hw
    have hP : va_P D vwCl (xwW cI cZ cS x0 xs xv ho0 ho1 pd0 pd1 m0 ts0 ts1 a ha sa cn cs sc tm tv pd sv ln old sz z) H := hP
    have hD : va_D A (xwW cI cZ cS x0 xs xv ho0 ho1 pd0 pd1 m0 ts0 ts1 a ha sa cn cs sc tm tv pd sv ln old sz z) := hD
    refine xk_top (z := (z 174)) (by exact p26.trans (wk_0 _)) ?_
    refine lv_istore_n (lv' := [(2, .int (z 174)), (0, .ref x0), (1, .int b)]) hx hb dL_isMarch_29 rfl hl (by decide) rfl (fun ls hl => ?_)
    refine lv_aload_n hx hb dL_isMarch_30 rfl (lv_at hl 1 rfl) ?_
    refine lv_bipush (v := 13) hx hb dL_isMarch_31 (by decide) ?_
    refine xo_Vi (As := [.int 13]) (rest := []) hx hb hml hown hts hK hN hZ hP hD hS hA mb_X7_walk mw_1_238 mw_1_239 mw_2_0 (k_X7_walk l D cI cZ cS x0 xs xv ho0 ho1 pd0 pd1 m0 ts0 ts1 a ha sa cn cs sc tm tv pd sv ln old sz z (13 : Int32) hRS hI) 0 7 rfl rfl (fun _ => xwW_f) (by decide) (by decide) rfl hl.1 rfl (Nat.le_of_ble_eq_true rfl) dL_isMarch_33 ⟨Nat.zero_le _, Nat.zero_le _⟩ (fun r33 u33 H locs hw hP hD hS => ?_)
    have p33 : r33 = walkR z (13 : Int32) := hw
    have hP : va_P D vwCl (xwW cI cZ cS x0 xs xv ho0 ho1 pd0 pd1 m0 ts0 ts1 a ha sa cn cs sc tm tv pd sv ln old sz z) H := hP
    have hD : va_D A (xwW cI cZ cS x0 xs xv ho0 ho1 pd0 pd1 m0 ts0 ts1 a ha sa cn cs sc tm tv pd sv ln old sz z) := hD
    refine xk_top (z := (z 187)) (by exact p33.trans (wk_13 _)) ?_
    refine lv_istore_n (lv' := [(3, .int (z 187)), (2, .int (z 174)), (0, .ref x0), (1, .int b)]) hx hb dL_isMarch_36 rfl hl (by decide) rfl (fun ls hl => ?_)
    refine lv_aload_n hx hb dL_isMarch_37 rfl (lv_at hl 2 rfl) ?_
    refine lv_iconst (v := 5) hx hb dL_isMarch_38 (by decide) ?_
    refine xo_Vi (As := [.int 5]) (rest := []) hx hb hml hown hts hK hN hZ hP hD hS hA mb_X7_walk mw_1_238 mw_1_239 mw_2_0 (k_X7_walk l D cI cZ cS x0 xs xv ho0 ho1 pd0 pd1 m0 ts0 ts1 a ha sa cn cs sc tm tv pd sv ln old sz z (5 : Int32) hRS hI) 0 7 rfl rfl (fun _ => xwW_f) (by decide) (by decide) rfl hl.1 rfl (Nat.le_of_ble_eq_true rfl) dL_isMarch_39 ⟨Nat.zero_le _, Nat.zero_le _⟩ (fun r39 u39 H locs hw hP hD hS => ?_)
    have p39 : r39 = walkR z (5 : Int32) := hw
    have hP : va_P D vwCl (xwW cI cZ cS x0 xs xv ho0 ho1 pd0 pd1 m0 ts0 ts1 a ha sa cn cs sc tm tv pd sv ln old sz z) H := hP
    have hD : va_D A (xwW cI cZ cS x0 xs xv ho0 ho1 pd0 pd1 m0 ts0 ts1 a ha sa cn cs sc tm tv pd sv ln old sz z) := hD
    refine xk_top (z := (z 179)) (by exact p39.trans (wk_5 _)) ?_
    refine lv_istore (lv' := [(4, .int (z 179)), (3, .int (z 187)), (2, .int (z 174)), (0, .ref x0), (1, .int b)]) hx hb dL_isMarch_42 hl (by decide) rfl (fun ls hl => ?_)
    have J61 : ∀ (c0 : Int32) (hc61 : (c0.toInt = 1 ∧ (z 188).toInt = 1) ∨ (c0.toInt = 0 ∧ (z 188).toInt = 0)) (H : Heap) (locs : List Loc), va_P D vwCl (xwW cI cZ cS x0 xs xv ho0 ho1 pd0 pd1 m0 ts0 ts1 a ha sa cn cs sc tm tv pd sv ln old sz z) H → va_D A (xwW cI cZ cS x0 xs xv ho0 ho1 pd0 pd1 m0 ts0 ts1 a ha sa cn cs sc tm tv pd sv ln old sz z) → va_S A s.heap H locs → ∀ ls : Array Slot, lv_has ls 11 [(4, .int (z 179)), (3, .int (z 187)), (2, .int (z 174)), (0, .ref x0), (1, .int b), (5, .int c0)] → W p l e ({ frames := 7, cells := 0, slots := 0, locals := 160 } : Room) s m args below meth c H locs 0 0 Q (F0 m 61 ls []) := by
      intro c0 hc61 H locs hP hD hS ls hl
      refine lv_aload_n hx hb dL_isMarch_61 rfl (lv_at hl 3 rfl) ?_
      refine lv_bipush (v := 6) hx hb dL_isMarch_62 (by decide) ?_
      refine xo_Vi (As := [.int 6]) (rest := []) hx hb hml hown hts hK hN hZ hP hD hS hA mb_X7_walk mw_1_238 mw_1_239 mw_2_0 (k_X7_walk l D cI cZ cS x0 xs xv ho0 ho1 pd0 pd1 m0 ts0 ts1 a ha sa cn cs sc tm tv pd sv ln old sz z (6 : Int32) hRS hI) 0 7 rfl rfl (fun _ => xwW_f) (by decide) (by decide) rfl hl.1 rfl (Nat.le_of_ble_eq_true rfl) dL_isMarch_64 ⟨Nat.zero_le _, Nat.zero_le _⟩ (fun r64 u64 H locs hw hP hD hS => ?_)
      have p64 : r64 = walkR z (6 : Int32) := hw
      have hP : va_P D vwCl (xwW cI cZ cS x0 xs xv ho0 ho1 pd0 pd1 m0 ts0 ts1 a ha sa cn cs sc tm tv pd sv ln old sz z) H := hP
      have hD : va_D A (xwW cI cZ cS x0 xs xv ho0 ho1 pd0 pd1 m0 ts0 ts1 a ha sa cn cs sc tm tv pd sv ln old sz z) := hD
      refine xk_top (z := (z 180)) (by exact p64.trans (wk_6 _)) ?_
      refine lv_istore (lv' := [(6, .int (z 180)), (4, .int (z 179)), (3, .int (z 187)), (2, .int (z 174)), (0, .ref x0), (1, .int b), (5, .int c0)]) hx hb dL_isMarch_67 hl (by decide) rfl (fun ls hl => ?_)
      refine lv_iconst (v := 0) hx hb dL_isMarch_69 (by decide) ?_
      refine lv_istore (lv' := [(7, .int 0), (6, .int (z 180)), (4, .int (z 179)), (3, .int (z 187)), (2, .int (z 174)), (0, .ref x0), (1, .int b), (5, .int c0)]) hx hb dL_isMarch_70 hl (by decide) rfl (fun ls hl => ?_)
      have L72 : ∀ (n : Nat) (w : Int32) (k : Int32) (hk : 0 ≤ k.toInt ∧ k.toInt ≤ (z 179).toInt) (hww : w.toInt = (z 180).toInt + (sumR z k.toInt.toNat).toInt) (hn72 : ((z 179).toInt - k.toInt).toNat < n) (H : Heap) (locs : List Loc), va_P D vwCl (xwW cI cZ cS x0 xs xv ho0 ho1 pd0 pd1 m0 ts0 ts1 a ha sa cn cs sc tm tv pd sv ln old sz z) H → va_D A (xwW cI cZ cS x0 xs xv ho0 ho1 pd0 pd1 m0 ts0 ts1 a ha sa cn cs sc tm tv pd sv ln old sz z) → va_S A s.heap H locs → ∀ ls : Array Slot, lv_has ls 11 [(7, .int k), (6, .int w), (4, .int (z 179)), (3, .int (z 187)), (2, .int (z 174)), (0, .ref x0), (1, .int b), (5, .int c0)] → W p l e ({ frames := 7, cells := 0, slots := 0, locals := 160 } : Room) s m args below meth c H locs 0 0 Q (F0 m 72 ls []) := by
        intro n
        induction n with
        | zero =>
          intro w k hk hww hn72
          exact absurd hn72 (Nat.not_lt_zero _)
        | succ n ih72 =>
          intro w k hk hww hn72 H locs hP hD hS ls hl
          refine lv_iload hx hb dL_isMarch_72 (lv_at hl 0 rfl) ?_
          refine lv_iload hx hb dL_isMarch_74 (lv_at hl 2 rfl) ?_
          refine lv_icmp_ge (tgt := 97) hx hb dL_isMarch_76 (by decide) (fun c76 => ?_) (fun c76 => ?_)
          · have t76 : (z 179).toInt ≤ k.toInt := xi_le rfl rfl c76
            have hst : w.toInt = (z 183).toInt := by rw [hww, q183, show k.toInt.toNat = (z 179).toInt.toNat from by omega]
            have hmm := mul_up (m := 100000) (n := 9) (show 0 ≤ (z 174).toInt ∧ (z 174).toInt ≤ 100000 by omega) (show 0 ≤ (z 0).toInt ∧ (z 0).toInt ≤ 9 by omega)
            refine lv_iload_n hx hb dL_isMarch_97 rfl (lv_at hl 4 rfl) ?_
            refine lv_iload_n hx hb dL_isMarch_98 rfl (lv_at hl 3 rfl) ?_
            refine lv_icmp_lt (tgt := 282) hx hb dL_isMarch_99 (by decide) (fun c99 => ?_) (fun c99 => ?_)
            · have t99 : (z 174).toInt < (z 187).toInt := xi_lt rfl rfl c99
              omega
            · have t99 : (z 187).toInt ≤ (z 174).toInt := xi_nlt rfl rfl c99
              refine lv_iload_n hx hb dL_isMarch_102 rfl (lv_at hl 3 rfl) ?_
              refine lv_aload_n hx hb dL_isMarch_103 rfl (lv_at hl 5 rfl) ?_
              refine lv_bipush (v := 9) hx hb dL_isMarch_104 (by decide) ?_
              refine xo_Vi (As := [.int 9]) (rest := [.int (z 187)]) hx hb hml hown hts hK hN hZ hP hD hS hA mb_X7_walk mw_1_238 mw_1_239 mw_2_0 (k_X7_walk l D cI cZ cS x0 xs xv ho0 ho1 pd0 pd1 m0 ts0 ts1 a ha sa cn cs sc tm tv pd sv ln old sz z (9 : Int32) hRS hI) 0 7 rfl rfl (fun _ => xwW_f) (by decide) (by decide) rfl hl.1 rfl (Nat.le_of_ble_eq_true rfl) dL_isMarch_106 ⟨Nat.zero_le _, Nat.zero_le _⟩ (fun r106 u106 H locs hw hP hD hS => ?_)
              have p106 : r106 = walkR z (9 : Int32) := hw
              have hP : va_P D vwCl (xwW cI cZ cS x0 xs xv ho0 ho1 pd0 pd1 m0 ts0 ts1 a ha sa cn cs sc tm tv pd sv ln old sz z) H := hP
              have hD : va_D A (xwW cI cZ cS x0 xs xv ho0 ho1 pd0 pd1 m0 ts0 ts1 a ha sa cn cs sc tm tv pd sv ln old sz z) := hD
              refine xk_top (z := (z 183)) (by exact p106.trans (wk_9 _)) ?_
              refine lv_aload_n hx hb dL_isMarch_109 rfl (lv_at hl 5 rfl) ?_
              refine lv_bipush (v := 10) hx hb dL_isMarch_110 (by decide) ?_
              refine xo_Vi (As := [.int 10]) (rest := [.int (z 183), .int (z 187)]) hx hb hml hown hts hK hN hZ hP hD hS hA mb_X7_walk mw_1_238 mw_1_239 mw_2_0 (k_X7_walk l D cI cZ cS x0 xs xv ho0 ho1 pd0 pd1 m0 ts0 ts1 a ha sa cn cs sc tm tv pd sv ln old sz z (10 : Int32) hRS hI) 0 7 rfl rfl (fun _ => xwW_f) (by decide) (by decide) rfl hl.1 rfl (Nat.le_of_ble_eq_true rfl) dL_isMarch_112 ⟨Nat.zero_le _, Nat.zero_le _⟩ (fun r112 u112 H locs hw hP hD hS => ?_)
              have p112 : r112 = walkR z (10 : Int32) := hw
              have hP : va_P D vwCl (xwW cI cZ cS x0 xs xv ho0 ho1 pd0 pd1 m0 ts0 ts1 a ha sa cn cs sc tm tv pd sv ln old sz z) H := hP
              have hD : va_D A (xwW cI cZ cS x0 xs xv ho0 ho1 pd0 pd1 m0 ts0 ts1 a ha sa cn cs sc tm tv pd sv ln old sz z) := hD
              refine xk_top (z := (z 184)) (by exact p112.trans (wk_10 _)) ?_
              refine lv_iadd hx hb dL_isMarch_115 ?_
              refine lv_topi (fun x115 e115 => ?_)
              have t115 : x115.toInt = ((z 183).toInt) + ((z 184).toInt) := by rw [e115]; exact xi_add rfl rfl (by omega) (by omega)
              refine lv_icmp_ne (tgt := 282) hx hb dL_isMarch_116 (by decide) (fun c116 => ?_) (fun c116 => ?_)
              · have t116 : ¬ (z 187).toInt = x115.toInt := xi_ne rfl rfl c116
                have d116 : ¬ (z 187) = x115 := c116
                omega
              · have t116 : (z 187).toInt = x115.toInt := xi_eq rfl rfl c116
                have d116 : (z 187) = x115 := c116
                refine lv_iload hx hb dL_isMarch_119 (lv_at hl 1 rfl) ?_
                refine lv_aload_n hx hb dL_isMarch_121 rfl (lv_at hl 5 rfl) ?_
                refine lv_bipush (v := 9) hx hb dL_isMarch_122 (by decide) ?_
                refine xo_Vi (As := [.int 9]) (rest := [.int w]) hx hb hml hown hts hK hN hZ hP hD hS hA mb_X7_walk mw_1_238 mw_1_239 mw_2_0 (k_X7_walk l D cI cZ cS x0 xs xv ho0 ho1 pd0 pd1 m0 ts0 ts1 a ha sa cn cs sc tm tv pd sv ln old sz z (9 : Int32) hRS hI) 0 7 rfl rfl (fun _ => xwW_f) (by decide) (by decide) rfl hl.1 rfl (Nat.le_of_ble_eq_true rfl) dL_isMarch_124 ⟨Nat.zero_le _, Nat.zero_le _⟩ (fun r124 u124 H locs hw hP hD hS => ?_)
                have p124 : r124 = walkR z (9 : Int32) := hw
                have hP : va_P D vwCl (xwW cI cZ cS x0 xs xv ho0 ho1 pd0 pd1 m0 ts0 ts1 a ha sa cn cs sc tm tv pd sv ln old sz z) H := hP
                have hD : va_D A (xwW cI cZ cS x0 xs xv ho0 ho1 pd0 pd1 m0 ts0 ts1 a ha sa cn cs sc tm tv pd sv ln old sz z) := hD
                refine xk_top (z := (z 183)) (by exact p124.trans (wk_9 _)) ?_
                refine lv_icmp_ne (tgt := 282) hx hb dL_isMarch_127 (by decide) (fun c127 => ?_) (fun c127 => ?_)
                · have t127 : ¬ w.toInt = (z 183).toInt := xi_ne rfl rfl c127
                  have d127 : ¬ w = (z 183) := c127
                  omega
                · have t127 : w.toInt = (z 183).toInt := xi_eq rfl rfl c127
                  have d127 : w = (z 183) := c127
                  refine lv_aload_n hx hb dL_isMarch_130 rfl (lv_at hl 5 rfl) ?_
                  refine lv_bipush (v := 7) hx hb dL_isMarch_131 (by decide) ?_
                  refine xo_Vi (As := [.int 7]) (rest := []) hx hb hml hown hts hK hN hZ hP hD hS hA mb_X7_walk mw_1_238 mw_1_239 mw_2_0 (k_X7_walk l D cI cZ cS x0 xs xv ho0 ho1 pd0 pd1 m0 ts0 ts1 a ha sa cn cs sc tm tv pd sv ln old sz z (7 : Int32) hRS hI) 0 7 rfl rfl (fun _ => xwW_f) (by decide) (by decide) rfl hl.1 rfl (Nat.le_of_ble_eq_true rfl) dL_isMarch_133 ⟨Nat.zero_le _, Nat.zero_le _⟩ (fun r133 u133 H locs hw hP hD hS => ?_)
                  have p133 : r133 = walkR z (7 : Int32) := hw
                  have hP : va_P D vwCl (xwW cI cZ cS x0 xs xv ho0 ho1 pd0 pd1 m0 ts0 ts1 a ha sa cn cs sc tm tv pd sv ln old sz z) H := hP
                  have hD : va_D A (xwW cI cZ cS x0 xs xv ho0 ho1 pd0 pd1 m0 ts0 ts1 a ha sa cn cs sc tm tv pd sv ln old sz z) := hD
                  refine xk_top (z := (z 181)) (by exact p133.trans (wk_7 _)) ?_
                  refine lv_if_lt (tgt := 282) hx hb dL_isMarch_136 (by decide) (fun c136 => ?_) (fun c136 => ?_)
                  · have t136 : (z 181).toInt < 0 := xi_lt rfl (by decide) c136
                    omega
                  · have t136 : 0 ≤ (z 181).toInt := xi_nlt rfl (by decide) c136
                    refine lv_aload_n hx hb dL_isMarch_139 rfl (lv_at hl 5 rfl) ?_
                    refine lv_bipush (v := 7) hx hb dL_isMarch_140 (by decide) ?_
                    refine xo_Vi (As := [.int 7]) (rest := []) hx hb hml hown hts hK hN hZ hP hD hS hA mb_X7_walk mw_1_238 mw_1_239 mw_2_0 (k_X7_walk l D cI cZ cS x0 xs xv ho0 ho1 pd0 pd1 m0 ts0 ts1 a ha sa cn cs sc tm tv pd sv ln old sz z (7 : Int32) hRS hI) 0 7 rfl rfl (fun _ => xwW_f) (by decide) (by decide) rfl hl.1 rfl (Nat.le_of_ble_eq_true rfl) dL_isMarch_142 ⟨Nat.zero_le _, Nat.zero_le _⟩ (fun r142 u142 H locs hw hP hD hS => ?_)
                    have p142 : r142 = walkR z (7 : Int32) := hw
                    have hP : va_P D vwCl (xwW cI cZ cS x0 xs xv ho0 ho1 pd0 pd1 m0 ts0 ts1 a ha sa cn cs sc tm tv pd sv ln old sz z) H := hP
                    have hD : va_D A (xwW cI cZ cS x0 xs xv ho0 ho1 pd0 pd1 m0 ts0 ts1 a ha sa cn cs sc tm tv pd sv ln old sz z) := hD
                    refine xk_top (z := (z 181)) (by exact p142.trans (wk_7 _)) ?_
                    refine lv_aload_n hx hb dL_isMarch_145 rfl (lv_at hl 5 rfl) ?_
                    refine lv_iconst (v := 4) hx hb dL_isMarch_146 (by decide) ?_
                    refine xo_Vi (As := [.int 4]) (rest := [.int (z 181)]) hx hb hml hown hts hK hN hZ hP hD hS hA mb_X7_count mw_2_6 mw_2_7 mw_2_8 (k_X7_count l D cI cZ cS x0 xs xv ho0 ho1 pd0 pd1 m0 ts0 ts1 a ha sa cn cs sc tm tv pd sv ln old sz z (4 : Int32) hRS hI) 0 7 rfl rfl (fun _ => xwW_f) (by decide) (by decide) rfl hl.1 rfl (Nat.le_of_ble_eq_true rfl) dL_isMarch_147 ⟨Nat.zero_le _, Nat.zero_le _⟩ (fun r147 u147 H locs hw hP hD hS => ?_)
                    have p147 : r147 = cntR z ln sz (4 : Int32) := hw
                    have hP : va_P D vwCl (xwW cI cZ cS x0 xs xv ho0 ho1 pd0 pd1 m0 ts0 ts1 a ha sa cn cs sc tm tv pd sv ln old sz z) H := hP
                    have hD : va_D A (xwW cI cZ cS x0 xs xv ho0 ho1 pd0 pd1 m0 ts0 ts1 a ha sa cn cs sc tm tv pd sv ln old sz z) := hD
                    refine xk_top (z := (z 4)) (by exact p147.trans (ct_4 _ _ _)) ?_
                    refine lv_icmp_gt (tgt := 282) hx hb dL_isMarch_150 (by decide) (fun c150 => ?_) (fun c150 => ?_)
                    · have t150 : (z 4).toInt < (z 181).toInt := xi_lt rfl rfl c150
                      omega
                    · have t150 : (z 181).toInt ≤ (z 4).toInt := xi_nlt rfl rfl c150
                      refine lv_aload_n hx hb dL_isMarch_153 rfl (lv_at hl 5 rfl) ?_
                      refine lv_bipush (v := 8) hx hb dL_isMarch_154 (by decide) ?_
                      refine xo_Vi (As := [.int 8]) (rest := []) hx hb hml hown hts hK hN hZ hP hD hS hA mb_X7_walk mw_1_238 mw_1_239 mw_2_0 (k_X7_walk l D cI cZ cS x0 xs xv ho0 ho1 pd0 pd1 m0 ts0 ts1 a ha sa cn cs sc tm tv pd sv ln old sz z (8 : Int32) hRS hI) 0 7 rfl rfl (fun _ => xwW_f) (by decide) (by decide) rfl hl.1 rfl (Nat.le_of_ble_eq_true rfl) dL_isMarch_156 ⟨Nat.zero_le _, Nat.zero_le _⟩ (fun r156 u156 H locs hw hP hD hS => ?_)
                      have p156 : r156 = walkR z (8 : Int32) := hw
                      have hP : va_P D vwCl (xwW cI cZ cS x0 xs xv ho0 ho1 pd0 pd1 m0 ts0 ts1 a ha sa cn cs sc tm tv pd sv ln old sz z) H := hP
                      have hD : va_D A (xwW cI cZ cS x0 xs xv ho0 ho1 pd0 pd1 m0 ts0 ts1 a ha sa cn cs sc tm tv pd sv ln old sz z) := hD
                      refine xk_top (z := (z 182)) (by exact p156.trans (wk_8 _)) ?_
                      refine lv_if_lt (tgt := 282) hx hb dL_isMarch_159 (by decide) (fun c159 => ?_) (fun c159 => ?_)
                      · have t159 : (z 182).toInt < 0 := xi_lt rfl (by decide) c159
                        omega
                      · have t159 : 0 ≤ (z 182).toInt := xi_nlt rfl (by decide) c159
                        refine lv_aload_n hx hb dL_isMarch_162 rfl (lv_at hl 5 rfl) ?_
                        refine lv_bipush (v := 8) hx hb dL_isMarch_163 (by decide) ?_
                        refine xo_Vi (As := [.int 8]) (rest := []) hx hb hml hown hts hK hN hZ hP hD hS hA mb_X7_walk mw_1_238 mw_1_239 mw_2_0 (k_X7_walk l D cI cZ cS x0 xs xv ho0 ho1 pd0 pd1 m0 ts0 ts1 a ha sa cn cs sc tm tv pd sv ln old sz z (8 : Int32) hRS hI) 0 7 rfl rfl (fun _ => xwW_f) (by decide) (by decide) rfl hl.1 rfl (Nat.le_of_ble_eq_true rfl) dL_isMarch_165 ⟨Nat.zero_le _, Nat.zero_le _⟩ (fun r165 u165 H locs hw hP hD hS => ?_)
                        have p165 : r165 = walkR z (8 : Int32) := hw
                        have hP : va_P D vwCl (xwW cI cZ cS x0 xs xv ho0 ho1 pd0 pd1 m0 ts0 ts1 a ha sa cn cs sc tm tv pd sv ln old sz z) H := hP
                        have hD : va_D A (xwW cI cZ cS x0 xs xv ho0 ho1 pd0 pd1 m0 ts0 ts1 a ha sa cn cs sc tm tv pd sv ln old sz z) := hD
                        refine xk_top (z := (z 182)) (by exact p165.trans (wk_8 _)) ?_
                        refine lv_bipush (v := 10) hx hb dL_isMarch_168 (by decide) ?_
                        refine lv_icmp_ge (tgt := 282) hx hb dL_isMarch_170 (by decide) (fun c170 => ?_) (fun c170 => ?_)
                        · have t170 : 10 ≤ (z 182).toInt := xi_le (by decide) rfl c170
                          omega
                        · have t170 : (z 182).toInt < 10 := xi_nle (by decide) rfl c170
                          refine lv_aload_n hx hb dL_isMarch_173 rfl (lv_at hl 5 rfl) ?_
                          refine lv_iconst (v := 1) hx hb dL_isMarch_174 (by decide) ?_
                          refine xo_Vi (As := [.int 1]) (rest := []) hx hb hml hown hts hK hN hZ hP hD hS hA mb_X7_walk mw_1_238 mw_1_239 mw_2_0 (k_X7_walk l D cI cZ cS x0 xs xv ho0 ho1 pd0 pd1 m0 ts0 ts1 a ha sa cn cs sc tm tv pd sv ln old sz z (1 : Int32) hRS hI) 0 7 rfl rfl (fun _ => xwW_f) (by decide) (by decide) rfl hl.1 rfl (Nat.le_of_ble_eq_true rfl) dL_isMarch_175 ⟨Nat.zero_le _, Nat.zero_le _⟩ (fun r175 u175 H locs hw hP hD hS => ?_)
                          have p175 : r175 = walkR z (1 : Int32) := hw
                          have hP : va_P D vwCl (xwW cI cZ cS x0 xs xv ho0 ho1 pd0 pd1 m0 ts0 ts1 a ha sa cn cs sc tm tv pd sv ln old sz z) H := hP
                          have hD : va_D A (xwW cI cZ cS x0 xs xv ho0 ho1 pd0 pd1 m0 ts0 ts1 a ha sa cn cs sc tm tv pd sv ln old sz z) := hD
                          refine xk_top (z := (z 175)) (by exact p175.trans (wk_1 _)) ?_
                          refine lv_iload_n hx hb dL_isMarch_178 rfl (lv_at hl 4 rfl) ?_
                          refine lv_aload_n hx hb dL_isMarch_179 rfl (lv_at hl 5 rfl) ?_
                          refine lv_iconst (v := 0) hx hb dL_isMarch_180 (by decide) ?_
                          refine xo_Vi (As := [.int 0]) (rest := [.int (z 174), .int (z 175)]) hx hb hml hown hts hK hN hZ hP hD hS hA mb_X7_count mw_2_6 mw_2_7 mw_2_8 (k_X7_count l D cI cZ cS x0 xs xv ho0 ho1 pd0 pd1 m0 ts0 ts1 a ha sa cn cs sc tm tv pd sv ln old sz z (0 : Int32) hRS hI) 0 7 rfl rfl (fun _ => xwW_f) (by decide) (by decide) rfl hl.1 rfl (Nat.le_of_ble_eq_true rfl) dL_isMarch_181 ⟨Nat.zero_le _, Nat.zero_le _⟩ (fun r181 u181 H locs hw hP hD hS => ?_)
                          have p181 : r181 = cntR z ln sz (0 : Int32) := hw
                          have hP : va_P D vwCl (xwW cI cZ cS x0 xs xv ho0 ho1 pd0 pd1 m0 ts0 ts1 a ha sa cn cs sc tm tv pd sv ln old sz z) H := hP
                          have hD : va_D A (xwW cI cZ cS x0 xs xv ho0 ho1 pd0 pd1 m0 ts0 ts1 a ha sa cn cs sc tm tv pd sv ln old sz z) := hD
                          refine xk_top (z := (z 0)) (by exact p181.trans (ct_0 _ _ _)) ?_
                          refine lv_imul hx hb dL_isMarch_184 ?_
                          refine lv_topi (fun x184 e184 => ?_)
                          have t184 : x184.toInt = ((z 174).toInt) * ((z 0).toInt) := by rw [e184]; exact xi_mul rfl rfl (by omega) (by omega)
                          refine lv_icmp_lt (tgt := 282) hx hb dL_isMarch_185 (by decide) (fun c185 => ?_) (fun c185 => ?_)
                          · have t185 : (z 175).toInt < x184.toInt := xi_lt rfl rfl c185
                            omega
                          · have t185 : x184.toInt ≤ (z 175).toInt := xi_nlt rfl rfl c185
                            refine lv_aload_n hx hb dL_isMarch_188 rfl (lv_at hl 5 rfl) ?_
                            refine lv_iconst (v := 1) hx hb dL_isMarch_189 (by decide) ?_
                            refine xo_Vi (As := [.int 1]) (rest := []) hx hb hml hown hts hK hN hZ hP hD hS hA mb_X7_walk mw_1_238 mw_1_239 mw_2_0 (k_X7_walk l D cI cZ cS x0 xs xv ho0 ho1 pd0 pd1 m0 ts0 ts1 a ha sa cn cs sc tm tv pd sv ln old sz z (1 : Int32) hRS hI) 0 7 rfl rfl (fun _ => xwW_f) (by decide) (by decide) rfl hl.1 rfl (Nat.le_of_ble_eq_true rfl) dL_isMarch_190 ⟨Nat.zero_le _, Nat.zero_le _⟩ (fun r190 u190 H locs hw hP hD hS => ?_)
                            have p190 : r190 = walkR z (1 : Int32) := hw
                            have hP : va_P D vwCl (xwW cI cZ cS x0 xs xv ho0 ho1 pd0 pd1 m0 ts0 ts1 a ha sa cn cs sc tm tv pd sv ln old sz z) H := hP
                            have hD : va_D A (xwW cI cZ cS x0 xs xv ho0 ho1 pd0 pd1 m0 ts0 ts1 a ha sa cn cs sc tm tv pd sv ln old sz z) := hD
                            refine xk_top (z := (z 175)) (by exact p190.trans (wk_1 _)) ?_
                            refine lv_iload_n hx hb dL_isMarch_193 rfl (lv_at hl 4 rfl) ?_
                            refine lv_aload_n hx hb dL_isMarch_194 rfl (lv_at hl 5 rfl) ?_
                            refine lv_iconst (v := 0) hx hb dL_isMarch_195 (by decide) ?_
                            refine xo_Vi (As := [.int 0]) (rest := [.int (z 174), .int (z 175)]) hx hb hml hown hts hK hN hZ hP hD hS hA mb_X7_count mw_2_6 mw_2_7 mw_2_8 (k_X7_count l D cI cZ cS x0 xs xv ho0 ho1 pd0 pd1 m0 ts0 ts1 a ha sa cn cs sc tm tv pd sv ln old sz z (0 : Int32) hRS hI) 0 7 rfl rfl (fun _ => xwW_f) (by decide) (by decide) rfl hl.1 rfl (Nat.le_of_ble_eq_true rfl) dL_isMarch_196 ⟨Nat.zero_le _, Nat.zero_le _⟩ (fun r196 u196 H locs hw hP hD hS => ?_)
                            have p196 : r196 = cntR z ln sz (0 : Int32) := hw
                            have hP : va_P D vwCl (xwW cI cZ cS x0 xs xv ho0 ho1 pd0 pd1 m0 ts0 ts1 a ha sa cn cs sc tm tv pd sv ln old sz z) H := hP
                            have hD : va_D A (xwW cI cZ cS x0 xs xv ho0 ho1 pd0 pd1 m0 ts0 ts1 a ha sa cn cs sc tm tv pd sv ln old sz z) := hD
                            refine xk_top (z := (z 0)) (by exact p196.trans (ct_0 _ _ _)) ?_
                            refine lv_imul hx hb dL_isMarch_199 ?_
                            refine lv_topi (fun x199 e199 => ?_)
                            have t199 : x199.toInt = ((z 174).toInt) * ((z 0).toInt) := by rw [e199]; exact xi_mul rfl rfl (by omega) (by omega)
                            refine lv_iconst (v := 3) hx hb dL_isMarch_200 (by decide) ?_
                            refine lv_iload_n hx hb dL_isMarch_201 rfl (lv_at hl 3 rfl) ?_
                            refine lv_imul hx hb dL_isMarch_202 ?_
                            refine lv_topi (fun x202 e202 => ?_)
                            have t202 : x202.toInt = 3 * ((z 187).toInt) := by rw [e202]; exact xi_mul (by decide) rfl (by omega) (by omega)
                            refine lv_iadd hx hb dL_isMarch_203 ?_
                            refine lv_topi (fun x203 e203 => ?_)
                            have t203 : x203.toInt = x199.toInt + x202.toInt := by rw [e203]; exact xi_add rfl rfl (by omega) (by omega)
                            refine lv_icmp_gt (tgt := 282) hx hb dL_isMarch_204 (by decide) (fun c204 => ?_) (fun c204 => ?_)
                            · have t204 : x203.toInt < (z 175).toInt := xi_lt rfl rfl c204
                              omega
                            · have t204 : (z 175).toInt ≤ x203.toInt := xi_nlt rfl rfl c204
                              have J255 : ∀   (H : Heap) (locs : List Loc), va_P D vwCl (xwW cI cZ cS x0 xs xv ho0 ho1 pd0 pd1 m0 ts0 ts1 a ha sa cn cs sc tm tv pd sv ln old sz z) H → va_D A (xwW cI cZ cS x0 xs xv ho0 ho1 pd0 pd1 m0 ts0 ts1 a ha sa cn cs sc tm tv pd sv ln old sz z) → va_S A s.heap H locs → ∀ ls : Array Slot, lv_has ls 11 [(7, .int k), (6, .int w), (4, .int (z 179)), (3, .int (z 187)), (2, .int (z 174)), (0, .ref x0), (1, .int b), (5, .int c0)] → W p l e ({ frames := 7, cells := 0, slots := 0, locals := 160 } : Room) s m args below meth c H locs 0 0 Q (F0 m 255 ls []) := by
                                intro  H locs hP hD hS ls hl
                                refine lv_aload_n hx hb dL_isMarch_255 rfl (lv_at hl 5 rfl) ?_
                                refine lv_bipush (v := 9) hx hb dL_isMarch_256 (by decide) ?_
                                refine xo_Vi (As := [.int 9]) (rest := []) hx hb hml hown hts hK hN hZ hP hD hS hA mb_X7_walk mw_1_238 mw_1_239 mw_2_0 (k_X7_walk l D cI cZ cS x0 xs xv ho0 ho1 pd0 pd1 m0 ts0 ts1 a ha sa cn cs sc tm tv pd sv ln old sz z (9 : Int32) hRS hI) 0 7 rfl rfl (fun _ => xwW_f) (by decide) (by decide) rfl hl.1 rfl (Nat.le_of_ble_eq_true rfl) dL_isMarch_258 ⟨Nat.zero_le _, Nat.zero_le _⟩ (fun r258 u258 H locs hw hP hD hS => ?_)
                                have p258 : r258 = walkR z (9 : Int32) := hw
                                have hP : va_P D vwCl (xwW cI cZ cS x0 xs xv ho0 ho1 pd0 pd1 m0 ts0 ts1 a ha sa cn cs sc tm tv pd sv ln old sz z) H := hP
                                have hD : va_D A (xwW cI cZ cS x0 xs xv ho0 ho1 pd0 pd1 m0 ts0 ts1 a ha sa cn cs sc tm tv pd sv ln old sz z) := hD
                                refine xk_top (z := (z 183)) (by exact p258.trans (wk_9 _)) ?_
                                refine lv_aload_n hx hb dL_isMarch_261 rfl (lv_at hl 5 rfl) ?_
                                refine lv_bipush (v := 10) hx hb dL_isMarch_262 (by decide) ?_
                                refine xo_Vi (As := [.int 10]) (rest := [.int (z 183)]) hx hb hml hown hts hK hN hZ hP hD hS hA mb_X7_count mw_2_6 mw_2_7 mw_2_8 (k_X7_count l D cI cZ cS x0 xs xv ho0 ho1 pd0 pd1 m0 ts0 ts1 a ha sa cn cs sc tm tv pd sv ln old sz z (10 : Int32) hRS hI) 0 7 rfl rfl (fun _ => xwW_f) (by decide) (by decide) rfl hl.1 rfl (Nat.le_of_ble_eq_true rfl) dL_isMarch_264 ⟨Nat.zero_le _, Nat.zero_le _⟩ (fun r264 u264 H locs hw hP hD hS => ?_)
                                have p264 : r264 = cntR z ln sz (10 : Int32) := hw
                                have hP : va_P D vwCl (xwW cI cZ cS x0 xs xv ho0 ho1 pd0 pd1 m0 ts0 ts1 a ha sa cn cs sc tm tv pd sv ln old sz z) H := hP
                                have hD : va_D A (xwW cI cZ cS x0 xs xv ho0 ho1 pd0 pd1 m0 ts0 ts1 a ha sa cn cs sc tm tv pd sv ln old sz z) := hD
                                refine xk_top (z := (sumR z (z 7).toInt.toNat)) (by exact p264.trans (ct_10 _ _ _)) ?_
                                refine lv_icmp_gt (tgt := 282) hx hb dL_isMarch_267 (by decide) (fun c267 => ?_) (fun c267 => ?_)
                                · have t267 : (sumR z (z 7).toInt.toNat).toInt < (z 183).toInt := xi_lt rfl rfl c267
                                  omega
                                · have t267 : (z 183).toInt ≤ (sumR z (z 7).toInt.toNat).toInt := xi_nlt rfl rfl c267
                                  have J278 : ∀   (H : Heap) (locs : List Loc), va_P D vwCl (xwW cI cZ cS x0 xs xv ho0 ho1 pd0 pd1 m0 ts0 ts1 a ha sa cn cs sc tm tv pd sv ln old sz z) H → va_D A (xwW cI cZ cS x0 xs xv ho0 ho1 pd0 pd1 m0 ts0 ts1 a ha sa cn cs sc tm tv pd sv ln old sz z) → va_S A s.heap H locs → ∀ ls : Array Slot, lv_has ls 11 [(7, .int k), (6, .int w), (4, .int (z 179)), (3, .int (z 187)), (2, .int (z 174)), (0, .ref x0), (1, .int b), (5, .int c0)] → W p l e ({ frames := 7, cells := 0, slots := 0, locals := 160 } : Room) s m args below meth c H locs 0 0 Q (F0 m 278 ls []) := by
                                    intro  H locs hP hD hS ls hl
                                    refine lv_iconst (v := 1) hx hb dL_isMarch_278 (by decide) ?_
                                    refine lv_goto (tgt := 283) hx hb dL_isMarch_279 (by decide) ?_
                                    refine lv_istore (lv' := [(7, .int 1), (6, .int w), (4, .int (z 179)), (3, .int (z 187)), (2, .int (z 174)), (0, .ref x0), (1, .int b), (5, .int c0)]) hx hb dL_isMarch_283 hl (by decide) rfl (fun ls hl => ?_)
                                    refine lv_iload_n hx hb dL_isMarch_285 rfl (lv_at hl 6 rfl) ?_
                                    refine lv_if_ne (tgt := 361) hx hb dL_isMarch_286 (by decide) (fun c286 => ?_) (fun c286 => ?_)
                                    · have t286 : ¬ b.toInt = 0 := xi_ne rfl (by decide) c286
                                      have d286 : ¬ b = 0 := c286
                                      have hcz : canZ z := hb24.elim (fun g => g.2) (fun g => by have := g.1; omega)
                                      have hpos : (z 187).toInt = (z 186).toInt * (sumS z (z 6).toInt.toNat).toInt + (sumS z (z 176).toInt.toNat).toInt + (sumB z (z 176).toInt.toNat (z 177).toInt.toNat).toInt + (z 178).toInt := qcan hcz
                                      obtain ⟨j1, j2, j3⟩ := hI.2.2.2.1.2.2.2 hcz.1
                                      obtain ⟨⟨s76, s76b⟩, ⟨s77, s77b⟩, s78, -⟩ := id hI.2.2.2.1
                                      have hS6 := sumS_in hI.2.1 (z 6).toInt.toNat (by omega)
                                      have hSL := sumS_in hI.2.1 (z 176).toInt.toNat (by omega)
                                      have h8 := (hI.2.1.2 (z 176).toInt.toNat (by omega)).1
                                      have hSB := sumB_in hI.2.1 (l := (z 176).toInt.toNat) (by omega) (z 177).toInt.toNat (by omega)
                                      have hpr := Int.mul_nonneg hb86 (show 0 ≤ (sumS z (z 6).toInt.toNat).toInt by omega)
                                      refine lv_aload_n hx hb dL_isMarch_361 rfl (lv_at hl 5 rfl) ?_
                                      refine lv_bipush (v := 12) hx hb dL_isMarch_362 (by decide) ?_
                                      refine xo_Vi (As := [.int 12]) (rest := []) hx hb hml hown hts hK hN hZ hP hD hS hA mb_X7_walk mw_1_238 mw_1_239 mw_2_0 (k_X7_walk l D cI cZ cS x0 xs xv ho0 ho1 pd0 pd1 m0 ts0 ts1 a ha sa cn cs sc tm tv pd sv ln old sz z (12 : Int32) hRS hI) 0 7 rfl rfl (fun _ => xwW_f) (by decide) (by decide) rfl hl.1 rfl (Nat.le_of_ble_eq_true rfl) dL_isMarch_364 ⟨Nat.zero_le _, Nat.zero_le _⟩ (fun r364 u364 H locs hw hP hD hS => ?_)
                                      have p364 : r364 = walkR z (12 : Int32) := hw
                                      have hP : va_P D vwCl (xwW cI cZ cS x0 xs xv ho0 ho1 pd0 pd1 m0 ts0 ts1 a ha sa cn cs sc tm tv pd sv ln old sz z) H := hP
                                      have hD : va_D A (xwW cI cZ cS x0 xs xv ho0 ho1 pd0 pd1 m0 ts0 ts1 a ha sa cn cs sc tm tv pd sv ln old sz z) := hD
                                      refine xk_top (z := (z 186)) (by exact p364.trans (wk_12 _)) ?_
                                      refine lv_aload_n hx hb dL_isMarch_367 rfl (lv_at hl 5 rfl) ?_
                                      refine lv_bipush (v := 7) hx hb dL_isMarch_368 (by decide) ?_
                                      refine xo_Vi (As := [.int 7]) (rest := [.int (z 186)]) hx hb hml hown hts hK hN hZ hP hD hS hA mb_X7_count mw_2_6 mw_2_7 mw_2_8 (k_X7_count l D cI cZ cS x0 xs xv ho0 ho1 pd0 pd1 m0 ts0 ts1 a ha sa cn cs sc tm tv pd sv ln old sz z (7 : Int32) hRS hI) 0 7 rfl rfl (fun _ => xwW_f) (by decide) (by decide) rfl hl.1 rfl (Nat.le_of_ble_eq_true rfl) dL_isMarch_370 ⟨Nat.zero_le _, Nat.zero_le _⟩ (fun r370 u370 H locs hw hP hD hS => ?_)
                                      have p370 : r370 = cntR z ln sz (7 : Int32) := hw
                                      have hP : va_P D vwCl (xwW cI cZ cS x0 xs xv ho0 ho1 pd0 pd1 m0 ts0 ts1 a ha sa cn cs sc tm tv pd sv ln old sz z) H := hP
                                      have hD : va_D A (xwW cI cZ cS x0 xs xv ho0 ho1 pd0 pd1 m0 ts0 ts1 a ha sa cn cs sc tm tv pd sv ln old sz z) := hD
                                      refine xk_top (z := (sumS z (z 6).toInt.toNat)) (by exact p370.trans (ct_7 _ _ _)) ?_
                                      refine lv_imul hx hb dL_isMarch_373 ?_
                                      refine lv_topi (fun x373 e373 => ?_)
                                      have t373 : x373.toInt = ((z 186).toInt) * ((sumS z (z 6).toInt.toNat).toInt) := by rw [e373]; exact xi_mul rfl rfl (by omega) (by omega)
                                      refine lv_aload_n hx hb dL_isMarch_374 rfl (lv_at hl 5 rfl) ?_
                                      refine lv_iconst (v := 4) hx hb dL_isMarch_375 (by decide) ?_
                                      refine xo_Vi (As := [.int 4]) (rest := [.int x373]) hx hb hml hown hts hK hN hZ hP hD hS hA mb_X7_walk mw_1_238 mw_1_239 mw_2_0 (k_X7_walk l D cI cZ cS x0 xs xv ho0 ho1 pd0 pd1 m0 ts0 ts1 a ha sa cn cs sc tm tv pd sv ln old sz z (4 : Int32) hRS hI) 0 7 rfl rfl (fun _ => xwW_f) (by decide) (by decide) rfl hl.1 rfl (Nat.le_of_ble_eq_true rfl) dL_isMarch_376 ⟨Nat.zero_le _, Nat.zero_le _⟩ (fun r376 u376 H locs hw hP hD hS => ?_)
                                      have p376 : r376 = walkR z (4 : Int32) := hw
                                      have hP : va_P D vwCl (xwW cI cZ cS x0 xs xv ho0 ho1 pd0 pd1 m0 ts0 ts1 a ha sa cn cs sc tm tv pd sv ln old sz z) H := hP
                                      have hD : va_D A (xwW cI cZ cS x0 xs xv ho0 ho1 pd0 pd1 m0 ts0 ts1 a ha sa cn cs sc tm tv pd sv ln old sz z) := hD
                                      refine xk_top (z := (z 178)) (by exact p376.trans (wk_4 _)) ?_
                                      refine lv_iadd hx hb dL_isMarch_379 ?_
                                      refine lv_topi (fun x379 e379 => ?_)
                                      have t379 : x379.toInt = x373.toInt + ((z 178).toInt) := by rw [e379]; exact xi_add rfl rfl (by omega) (by omega)
                                      refine lv_istore (lv' := [(8, .int x379), (7, .int 1), (6, .int w), (4, .int (z 179)), (3, .int (z 187)), (2, .int (z 174)), (0, .ref x0), (1, .int b), (5, .int c0)]) hx hb dL_isMarch_380 hl (by decide) rfl (fun ls hl => ?_)
                                      refine lv_iconst (v := 0) hx hb dL_isMarch_382 (by decide) ?_
                                      refine lv_istore (lv' := [(9, .int 0), (8, .int x379), (7, .int 1), (6, .int w), (4, .int (z 179)), (3, .int (z 187)), (2, .int (z 174)), (0, .ref x0), (1, .int b), (5, .int c0)]) hx hb dL_isMarch_383 hl (by decide) rfl (fun ls hl => ?_)
                                      have L385 : ∀ (n : Nat) (w2 : Int32) (k2 : Int32) (hk2 : 0 ≤ k2.toInt ∧ k2.toInt ≤ (z 176).toInt) (hw2 : w2.toInt = (z 186).toInt * (sumS z (z 6).toInt.toNat).toInt + (z 178).toInt + (sumS z k2.toInt.toNat).toInt) (hn385 : ((z 176).toInt - k2.toInt).toNat < n) (H : Heap) (locs : List Loc), va_P D vwCl (xwW cI cZ cS x0 xs xv ho0 ho1 pd0 pd1 m0 ts0 ts1 a ha sa cn cs sc tm tv pd sv ln old sz z) H → va_D A (xwW cI cZ cS x0 xs xv ho0 ho1 pd0 pd1 m0 ts0 ts1 a ha sa cn cs sc tm tv pd sv ln old sz z) → va_S A s.heap H locs → ∀ ls : Array Slot, lv_has ls 11 [(9, .int k2), (8, .int w2), (7, .int 1), (6, .int w), (4, .int (z 179)), (3, .int (z 187)), (2, .int (z 174)), (0, .ref x0), (1, .int b), (5, .int c0)] → W p l e ({ frames := 7, cells := 0, slots := 0, locals := 160 } : Room) s m args below meth c H locs 0 0 Q (F0 m 385 ls []) := by
                                        intro n
                                        induction n with
                                        | zero =>
                                          intro w2 k2 hk2 hw2 hn385
                                          exact absurd hn385 (Nat.not_lt_zero _)
                                        | succ n ih385 =>
                                          intro w2 k2 hk2 hw2 hn385 H locs hP hD hS ls hl
                                          refine lv_iload hx hb dL_isMarch_385 (lv_at hl 0 rfl) ?_
                                          refine lv_aload_n hx hb dL_isMarch_387 rfl (lv_at hl 7 rfl) ?_
                                          refine lv_iconst (v := 2) hx hb dL_isMarch_388 (by decide) ?_
                                          refine xo_Vi (As := [.int 2]) (rest := [.int k2]) hx hb hml hown hts hK hN hZ hP hD hS hA mb_X7_walk mw_1_238 mw_1_239 mw_2_0 (k_X7_walk l D cI cZ cS x0 xs xv ho0 ho1 pd0 pd1 m0 ts0 ts1 a ha sa cn cs sc tm tv pd sv ln old sz z (2 : Int32) hRS hI) 0 7 rfl rfl (fun _ => xwW_f) (by decide) (by decide) rfl hl.1 rfl (Nat.le_of_ble_eq_true rfl) dL_isMarch_389 ⟨Nat.zero_le _, Nat.zero_le _⟩ (fun r389 u389 H locs hw hP hD hS => ?_)
                                          have p389 : r389 = walkR z (2 : Int32) := hw
                                          have hP : va_P D vwCl (xwW cI cZ cS x0 xs xv ho0 ho1 pd0 pd1 m0 ts0 ts1 a ha sa cn cs sc tm tv pd sv ln old sz z) H := hP
                                          have hD : va_D A (xwW cI cZ cS x0 xs xv ho0 ho1 pd0 pd1 m0 ts0 ts1 a ha sa cn cs sc tm tv pd sv ln old sz z) := hD
                                          refine xk_top (z := (z 176)) (by exact p389.trans (wk_2 _)) ?_
                                          refine lv_icmp_ge (tgt := 413) hx hb dL_isMarch_392 (by decide) (fun c392 => ?_) (fun c392 => ?_)
                                          · have t392 : (z 176).toInt ≤ k2.toInt := xi_le rfl rfl c392
                                            refine lv_iconst (v := 0) hx hb dL_isMarch_413 (by decide) ?_
                                            refine lv_istore (lv' := [(9, .int 0), (8, .int w2), (7, .int 1), (6, .int w), (4, .int (z 179)), (3, .int (z 187)), (2, .int (z 174)), (0, .ref x0), (1, .int b), (5, .int c0)]) hx hb dL_isMarch_414 hl (by decide) rfl (fun ls hl => ?_)
                                            have L416 : ∀ (n : Nat) (w3 : Int32) (k3 : Int32) (hk3 : 0 ≤ k3.toInt ∧ k3.toInt ≤ (z 177).toInt) (hw3 : w3.toInt = (z 186).toInt * (sumS z (z 6).toInt.toNat).toInt + (z 178).toInt + (sumS z (z 176).toInt.toNat).toInt + (sumB z (z 176).toInt.toNat k3.toInt.toNat).toInt) (hn416 : ((z 177).toInt - k3.toInt).toNat < n) (H : Heap) (locs : List Loc), va_P D vwCl (xwW cI cZ cS x0 xs xv ho0 ho1 pd0 pd1 m0 ts0 ts1 a ha sa cn cs sc tm tv pd sv ln old sz z) H → va_D A (xwW cI cZ cS x0 xs xv ho0 ho1 pd0 pd1 m0 ts0 ts1 a ha sa cn cs sc tm tv pd sv ln old sz z) → va_S A s.heap H locs → ∀ ls : Array Slot, lv_has ls 11 [(9, .int k3), (8, .int w3), (7, .int 1), (6, .int w), (4, .int (z 179)), (3, .int (z 187)), (2, .int (z 174)), (0, .ref x0), (1, .int b), (5, .int c0)] → W p l e ({ frames := 7, cells := 0, slots := 0, locals := 160 } : Room) s m args below meth c H locs 0 0 Q (F0 m 416 ls []) := by
                                              intro n
                                              induction n with
                                              | zero =>
                                                intro w3 k3 hk3 hw3 hn416
                                                exact absurd hn416 (Nat.not_lt_zero _)
                                              | succ n ih416 =>
                                                intro w3 k3 hk3 hw3 hn416 H locs hP hD hS ls hl
                                                refine lv_iload hx hb dL_isMarch_416 (lv_at hl 0 rfl) ?_
                                                refine lv_aload_n hx hb dL_isMarch_418 rfl (lv_at hl 7 rfl) ?_
                                                refine lv_iconst (v := 3) hx hb dL_isMarch_419 (by decide) ?_
                                                refine xo_Vi (As := [.int 3]) (rest := [.int k3]) hx hb hml hown hts hK hN hZ hP hD hS hA mb_X7_walk mw_1_238 mw_1_239 mw_2_0 (k_X7_walk l D cI cZ cS x0 xs xv ho0 ho1 pd0 pd1 m0 ts0 ts1 a ha sa cn cs sc tm tv pd sv ln old sz z (3 : Int32) hRS hI) 0 7 rfl rfl (fun _ => xwW_f) (by decide) (by decide) rfl hl.1 rfl (Nat.le_of_ble_eq_true rfl) dL_isMarch_420 ⟨Nat.zero_le _, Nat.zero_le _⟩ (fun r420 u420 H locs hw hP hD hS => ?_)
                                                have p420 : r420 = walkR z (3 : Int32) := hw
                                                have hP : va_P D vwCl (xwW cI cZ cS x0 xs xv ho0 ho1 pd0 pd1 m0 ts0 ts1 a ha sa cn cs sc tm tv pd sv ln old sz z) H := hP
                                                have hD : va_D A (xwW cI cZ cS x0 xs xv ho0 ho1 pd0 pd1 m0 ts0 ts1 a ha sa cn cs sc tm tv pd sv ln old sz z) := hD
                                                refine xk_top (z := (z 177)) (by exact p420.trans (wk_3 _)) ?_
                                                refine lv_icmp_ge (tgt := 449) hx hb dL_isMarch_423 (by decide) (fun c423 => ?_) (fun c423 => ?_)
                                                · have t423 : (z 177).toInt ≤ k3.toInt := xi_le rfl rfl c423
                                                  have hall : w3.toInt = (z 187).toInt := by rw [hw3, hpos, show k3.toInt.toNat = (z 177).toInt.toNat from by omega]; omega
                                                  have hfc2 : footC z (z 176) (z 177) := ⟨⟨by omega, by omega⟩, by omega, by omega⟩
                                                  refine lv_aload_n hx hb dL_isMarch_449 rfl (lv_at hl 7 rfl) ?_
                                                  refine lv_iconst (v := 0) hx hb dL_isMarch_450 (by decide) ?_
                                                  refine xo_Vi (As := [.int 0]) (rest := []) hx hb hml hown hts hK hN hZ hP hD hS hA mb_X7_untilWalked mw_2_177 mw_2_178 mw_2_179 (k_X7_untilWalked l D cI cZ cS x0 xs xv ho0 ho1 pd0 pd1 m0 ts0 ts1 a ha sa cn cs sc tm tv pd sv ln old sz z (0 : Int32) hRS hI) 0 7 rfl rfl (fun _ => xwW_f) (by decide) (by decide) rfl hl.1 rfl (Nat.le_of_ble_eq_true rfl) dL_isMarch_451 ⟨Nat.zero_le _, Nat.zero_le _⟩ (fun r451 u451 H locs hw hP hD hS => ?_)
                                                  obtain ⟨tq_451, rfl⟩ : ∃ q, q = u451 := ⟨_, rfl⟩
                                                  have p451 : r451 = untR z (0 : Int32) := hw
                                                  have hP : va_P D vwCl (xwW cI cZ cS x0 xs xv ho0 ho1 pd0 pd1 m0 ts0 ts1 a ha sa cn cs sc tq_451 tv pd sv ln old sz z) H := hP
                                                  have hD : va_D A (xwW cI cZ cS x0 xs xv ho0 ho1 pd0 pd1 m0 ts0 ts1 a ha sa cn cs sc tq_451 tv pd sv ln old sz z) := hD
                                                  obtain ⟨hun, hun2⟩ := until_is hI hIP hcz ⟨hb74, by omega⟩ ⟨hb86, by omega⟩ p451
                                                  have hn5 := walkN_le 5000 z
                                                  refine lv_istore (lv' := [(9, .int r451), (8, .int w3), (7, .int 1), (6, .int w), (4, .int (z 179)), (3, .int (z 187)), (2, .int (z 174)), (0, .ref x0), (1, .int b), (5, .int c0)]) hx hb dL_isMarch_454 hl (by decide) rfl (fun ls hl => ?_)
                                                  refine lv_aload_n hx hb dL_isMarch_456 rfl (lv_at hl 7 rfl) ?_
                                                  refine xo_Vi (As := []) (rest := []) hx hb hml hown hts hK hN hZ hP hD hS hA mb_X7_together mw_2_216 mw_2_217 mw_2_218 (k_X7_together l D cI cZ cS x0 xs xv ho0 ho1 pd0 pd1 m0 ts0 ts1 a ha sa cn cs sc tq_451 tv pd sv ln old sz z hRS hI ⟨hb86, by omega⟩) 0 7 rfl rfl (fun _ => xwW_f) (by decide) (by decide) rfl hl.1 rfl (Nat.le_of_ble_eq_true rfl) dL_isMarch_457 ⟨Nat.zero_le _, Nat.zero_le _⟩ (fun r457 u457 H locs hw hP hD hS => ?_)
                                                  obtain ⟨tq_457, rfl⟩ : ∃ q, q = u457 := ⟨_, rfl⟩
                                                  have p457 : r457 = togA z := hw
                                                  have hP : va_P D vwCl (xwW cI cZ cS x0 xs xv ho0 ho1 pd0 pd1 m0 ts0 ts1 a ha sa cn cs sc tq_457 tv pd sv ln old sz z) H := hP
                                                  have hD : va_D A (xwW cI cZ cS x0 xs xv ho0 ho1 pd0 pd1 m0 ts0 ts1 a ha sa cn cs sc tq_457 tv pd sv ln old sz z) := hD
                                                  have htg := tog_is hcz p457
                                                  refine lv_istore (lv' := [(10, .int r457), (9, .int r451), (8, .int w3), (7, .int 1), (6, .int w), (4, .int (z 179)), (3, .int (z 187)), (2, .int (z 174)), (0, .ref x0), (1, .int b), (5, .int c0)]) hx hb dL_isMarch_460 hl (by decide) rfl (fun ls hl => ?_)
                                                  refine lv_iload hx hb dL_isMarch_462 (lv_at hl 3 rfl) ?_
                                                  refine lv_if_eq (tgt := 582) hx hb dL_isMarch_464 (by decide) (fun c464 => absurd c464 (by decide)) (fun _ => ?_)
                                                  refine lv_iload hx hb dL_isMarch_467 (lv_at hl 2 rfl) ?_
                                                  refine lv_iload_n hx hb dL_isMarch_469 rfl (lv_at hl 6 rfl) ?_
                                                  refine lv_icmp_ne (tgt := 582) hx hb dL_isMarch_470 (by decide) (fun c470 => ?_) (fun c470 => ?_)
                                                  · have t470 : ¬ w3.toInt = (z 187).toInt := xi_ne rfl rfl c470
                                                    have d470 : ¬ w3 = (z 187) := c470
                                                    omega
                                                  · have t470 : w3.toInt = (z 187).toInt := xi_eq rfl rfl c470
                                                    have d470 : w3 = (z 187) := c470
                                                    refine lv_aload_n hx hb dL_isMarch_473 rfl (lv_at hl 8 rfl) ?_
                                                    refine lv_iconst (v := 4) hx hb dL_isMarch_474 (by decide) ?_
                                                    refine xo_Vi (As := [.int 4]) (rest := []) hx hb hml hown hts hK hN hZ hP hD hS hA mb_X7_walk mw_1_238 mw_1_239 mw_2_0 (k_X7_walk l D cI cZ cS x0 xs xv ho0 ho1 pd0 pd1 m0 ts0 ts1 a ha sa cn cs sc tq_457 tv pd sv ln old sz z (4 : Int32) hRS hI) 0 7 rfl rfl (fun _ => xwW_f) (by decide) (by decide) rfl hl.1 rfl (Nat.le_of_ble_eq_true rfl) dL_isMarch_475 ⟨Nat.zero_le _, Nat.zero_le _⟩ (fun r475 u475 H locs hw hP hD hS => ?_)
                                                    have p475 : r475 = walkR z (4 : Int32) := hw
                                                    have hP : va_P D vwCl (xwW cI cZ cS x0 xs xv ho0 ho1 pd0 pd1 m0 ts0 ts1 a ha sa cn cs sc tq_457 tv pd sv ln old sz z) H := hP
                                                    have hD : va_D A (xwW cI cZ cS x0 xs xv ho0 ho1 pd0 pd1 m0 ts0 ts1 a ha sa cn cs sc tq_457 tv pd sv ln old sz z) := hD
                                                    refine xk_top (z := (z 178)) (by exact p475.trans (wk_4 _)) ?_
                                                    refine lv_aload_n hx hb dL_isMarch_478 rfl (lv_at hl 8 rfl) ?_
                                                    refine lv_aload_n hx hb dL_isMarch_479 rfl (lv_at hl 8 rfl) ?_
                                                    refine lv_iconst (v := 2) hx hb dL_isMarch_480 (by decide) ?_
                                                    refine xo_Vi (As := [.int 2]) (rest := [.ref x0, .int (z 178)]) hx hb hml hown hts hK hN hZ hP hD hS hA mb_X7_walk mw_1_238 mw_1_239 mw_2_0 (k_X7_walk l D cI cZ cS x0 xs xv ho0 ho1 pd0 pd1 m0 ts0 ts1 a ha sa cn cs sc tq_457 tv pd sv ln old sz z (2 : Int32) hRS hI) 0 7 rfl rfl (fun _ => xwW_f) (by decide) (by decide) rfl hl.1 rfl (Nat.le_of_ble_eq_true rfl) dL_isMarch_481 ⟨Nat.zero_le _, Nat.zero_le _⟩ (fun r481 u481 H locs hw hP hD hS => ?_)
                                                    have p481 : r481 = walkR z (2 : Int32) := hw
                                                    have hP : va_P D vwCl (xwW cI cZ cS x0 xs xv ho0 ho1 pd0 pd1 m0 ts0 ts1 a ha sa cn cs sc tq_457 tv pd sv ln old sz z) H := hP
                                                    have hD : va_D A (xwW cI cZ cS x0 xs xv ho0 ho1 pd0 pd1 m0 ts0 ts1 a ha sa cn cs sc tq_457 tv pd sv ln old sz z) := hD
                                                    refine xk_top (z := (z 176)) (by exact p481.trans (wk_2 _)) ?_
                                                    refine lv_aload_n hx hb dL_isMarch_484 rfl (lv_at hl 8 rfl) ?_
                                                    refine lv_iconst (v := 3) hx hb dL_isMarch_485 (by decide) ?_
                                                    refine xo_Vi (As := [.int 3]) (rest := [.int (z 176), .ref x0, .int (z 178)]) hx hb hml hown hts hK hN hZ hP hD hS hA mb_X7_walk mw_1_238 mw_1_239 mw_2_0 (k_X7_walk l D cI cZ cS x0 xs xv ho0 ho1 pd0 pd1 m0 ts0 ts1 a ha sa cn cs sc tq_457 tv pd sv ln old sz z (3 : Int32) hRS hI) 0 7 rfl rfl (fun _ => xwW_f) (by decide) (by decide) rfl hl.1 rfl (Nat.le_of_ble_eq_true rfl) dL_isMarch_486 ⟨Nat.zero_le _, Nat.zero_le _⟩ (fun r486 u486 H locs hw hP hD hS => ?_)
                                                    have p486 : r486 = walkR z (3 : Int32) := hw
                                                    have hP : va_P D vwCl (xwW cI cZ cS x0 xs xv ho0 ho1 pd0 pd1 m0 ts0 ts1 a ha sa cn cs sc tq_457 tv pd sv ln old sz z) H := hP
                                                    have hD : va_D A (xwW cI cZ cS x0 xs xv ho0 ho1 pd0 pd1 m0 ts0 ts1 a ha sa cn cs sc tq_457 tv pd sv ln old sz z) := hD
                                                    refine xk_top (z := (z 177)) (by exact p486.trans (wk_3 _)) ?_
                                                    refine lv_iconst (v := 0) hx hb dL_isMarch_489 (by decide) ?_
                                                    refine xo_Vi (As := [.int (z 176), .int (z 177), .int 0]) (rest := [.int (z 178)]) hx hb hml hown hts hK hN hZ hP hD hS hA mb_X7_foot mw_2_140 mw_2_141 mw_2_142 (k_X7_foot l D cI cZ cS x0 xs xv ho0 ho1 pd0 pd1 m0 ts0 ts1 a ha sa cn cs sc tq_457 tv pd sv ln old sz z (z 176) (z 177) (0 : Int32) hRS hI) 0 7 rfl rfl (fun _ => xwW_f) (by decide) (by decide) rfl hl.1 rfl (Nat.le_of_ble_eq_true rfl) dL_isMarch_490 ⟨Nat.zero_le _, Nat.zero_le _⟩ (fun r490 u490 H locs hw hP hD hS => ?_)
                                                    have p490 : r490 = footR z (z 176) (z 177) (0 : Int32) := hw
                                                    have hP : va_P D vwCl (xwW cI cZ cS x0 xs xv ho0 ho1 pd0 pd1 m0 ts0 ts1 a ha sa cn cs sc tq_457 tv pd sv ln old sz z) H := hP
                                                    have hD : va_D A (xwW cI cZ cS x0 xs xv ho0 ho1 pd0 pd1 m0 ts0 ts1 a ha sa cn cs sc tq_457 tv pd sv ln old sz z) := hD
                                                    refine xk_top (z := (btZ z (z 176).toInt.toNat (z 177).toInt.toNat)) (by exact p490.trans (ft_0 hfc2)) ?_
                                                    refine lv_icmp_ge (tgt := 582) hx hb dL_isMarch_493 (by decide) (fun c493 => ?_) (fun c493 => ?_)
                                                    · have t493 : (btZ z (z 176).toInt.toNat (z 177).toInt.toNat).toInt ≤ (z 178).toInt := xi_le rfl rfl c493
                                                      omega
                                                    · have t493 : (z 178).toInt < (btZ z (z 176).toInt.toNat (z 177).toInt.toNat).toInt := xi_nle rfl rfl c493
                                                      refine lv_iload hx hb dL_isMarch_496 (lv_at hl 1 rfl) ?_
                                                      refine lv_if_ne (tgt := 505) hx hb dL_isMarch_498 (by decide) (fun c498 => ?_) (fun c498 => ?_)
                                                      · have t498 : ¬ r451.toInt = 0 := xi_ne rfl (by decide) c498
                                                        have d498 : ¬ r451 = 0 := c498
                                                        refine lv_iconst (v := 0) hx hb dL_isMarch_505 (by decide) ?_
                                                        refine lv_iload hx hb dL_isMarch_506 (lv_at hl 10 rfl) ?_
                                                        refine lv_icmp_ne (tgt := 582) hx hb dL_isMarch_508 (by decide) (fun c508 => ?_) (fun c508 => ?_)
                                                        · have t508 : ¬ 0 = c0.toInt := xi_ne (by decide) rfl c508
                                                          have d508 : ¬ (0 : Int32) = c0 := c508
                                                          omega
                                                        · have t508 : 0 = c0.toInt := xi_eq (by decide) rfl c508
                                                          have d508 : (0 : Int32) = c0 := c508
                                                          have J552 : ∀ (tj : Nat → Int32)  (H : Heap) (locs : List Loc), va_P D vwCl (xwW cI cZ cS x0 xs xv ho0 ho1 pd0 pd1 m0 ts0 ts1 a ha sa cn cs sc tj tv pd sv ln old sz z) H → va_D A (xwW cI cZ cS x0 xs xv ho0 ho1 pd0 pd1 m0 ts0 ts1 a ha sa cn cs sc tj tv pd sv ln old sz z) → va_S A s.heap H locs → ∀ ls : Array Slot, lv_has ls 11 [(10, .int r457), (9, .int r451), (8, .int w3), (7, .int 1), (6, .int w), (4, .int (z 179)), (3, .int (z 187)), (2, .int (z 174)), (0, .ref x0), (1, .int b), (5, .int c0)] → W p l e ({ frames := 7, cells := 0, slots := 0, locals := 160 } : Room) s m args below meth c H locs 0 0 Q (F0 m 552 ls []) := by
                                                            intro tj H locs hP hD hS ls hl
                                                            refine lv_iload hx hb dL_isMarch_552 (lv_at hl 0 rfl) ?_
                                                            refine lv_bipush (v := (-6)) hx hb dL_isMarch_554 (by decide) ?_
                                                            refine lv_icmp_eq (tgt := 578) hx hb dL_isMarch_556 (by decide) (fun c556 => ?_) (fun c556 => ?_)
                                                            · have t556 : r457.toInt = -6 := xi_eq rfl (by decide) c556
                                                              have d556 : r457 = (-6) := c556
                                                              refine lv_iconst (v := 1) hx hb dL_isMarch_578 (by decide) ?_
                                                              refine lv_goto (tgt := 583) hx hb dL_isMarch_579 (by decide) ?_
                                                              exact xk_retz (tj, tv) hx hb hr hlocks (by decide) (xk_P hP (by rfl)) (by first | rfl | trivial) hS dL_isMarch_583 hQ
                                                            · have t556 : ¬ r457.toInt = -6 := xi_ne rfl (by decide) c556
                                                              have d556 : ¬ r457 = (-6) := c556
                                                              refine lv_iload hx hb dL_isMarch_559 (lv_at hl 0 rfl) ?_
                                                              refine lv_if_le (tgt := 582) hx hb dL_isMarch_561 (by decide) (fun c561 => ?_) (fun c561 => ?_)
                                                              · have t561 : r457.toInt ≤ 0 := xi_le rfl (by decide) c561
                                                                omega
                                                              · have t561 : 0 < r457.toInt := xi_nle rfl (by decide) c561
                                                                refine lv_iload hx hb dL_isMarch_564 (lv_at hl 1 rfl) ?_
                                                                refine lv_bipush (v := (-6)) hx hb dL_isMarch_566 (by decide) ?_
                                                                refine lv_icmp_eq (tgt := 578) hx hb dL_isMarch_568 (by decide) (fun c568 => ?_) (fun c568 => ?_)
                                                                · have t568 : r451.toInt = -6 := xi_eq rfl (by decide) c568
                                                                  have d568 : r451 = (-6) := c568
                                                                  refine lv_iconst (v := 1) hx hb dL_isMarch_578 (by decide) ?_
                                                                  refine lv_goto (tgt := 583) hx hb dL_isMarch_579 (by decide) ?_
                                                                  exact xk_retz (tj, tv) hx hb hr hlocks (by decide) (xk_P hP (by rfl)) (by first | rfl | trivial) hS dL_isMarch_583 hQ
                                                                · have t568 : ¬ r451.toInt = -6 := xi_ne rfl (by decide) c568
                                                                  have d568 : ¬ r451 = (-6) := c568
                                                                  refine lv_iload hx hb dL_isMarch_571 (lv_at hl 0 rfl) ?_
                                                                  refine lv_iload hx hb dL_isMarch_573 (lv_at hl 1 rfl) ?_
                                                                  refine lv_icmp_gt (tgt := 582) hx hb dL_isMarch_575 (by decide) (fun c575 => ?_) (fun c575 => ?_)
                                                                  · have t575 : r451.toInt < r457.toInt := xi_lt rfl rfl c575
                                                                    omega
                                                                  · have t575 : r457.toInt ≤ r451.toInt := xi_nlt rfl rfl c575
                                                                    refine lv_iconst (v := 1) hx hb dL_isMarch_578 (by decide) ?_
                                                                    refine lv_goto (tgt := 583) hx hb dL_isMarch_579 (by decide) ?_
                                                                    exact xk_retz (tj, tv) hx hb hr hlocks (by decide) (xk_P hP (by rfl)) (by first | rfl | trivial) hS dL_isMarch_583 hQ
                                                          refine lv_iload hx hb dL_isMarch_511 (lv_at hl 1 rfl) ?_
                                                          refine lv_bipush (v := (-6)) hx hb dL_isMarch_513 (by decide) ?_
                                                          refine lv_icmp_eq (tgt := 552) hx hb dL_isMarch_515 (by decide) (fun c515 => ?_) (fun c515 => ?_)
                                                          · have t515 : r451.toInt = -6 := xi_eq rfl (by decide) c515
                                                            have d515 : r451 = (-6) := c515
                                                            exact J552 tq_457  _ _ hP hD hS ls (lv_sub hl [0, 1, 2, 3, 4, 5, 6, 7, 8, 9, 10] rfl)
                                                          · have t515 : ¬ r451.toInt = -6 := xi_ne rfl (by decide) c515
                                                            have d515 : ¬ r451 = (-6) := c515
                                                            refine lv_iload hx hb dL_isMarch_518 (lv_at hl 1 rfl) ?_
                                                            refine lv_aload_n hx hb dL_isMarch_520 rfl (lv_at hl 8 rfl) ?_
                                                            refine lv_bipush (v := 10) hx hb dL_isMarch_521 (by decide) ?_
                                                            refine xo_Vi (As := [.int 10]) (rest := [.int r451]) hx hb hml hown hts hK hN hZ hP hD hS hA mb_X7_count mw_2_6 mw_2_7 mw_2_8 (k_X7_count l D cI cZ cS x0 xs xv ho0 ho1 pd0 pd1 m0 ts0 ts1 a ha sa cn cs sc tq_457 tv pd sv ln old sz z (10 : Int32) hRS hI) 0 7 rfl rfl (fun _ => xwW_f) (by decide) (by decide) rfl hl.1 rfl (Nat.le_of_ble_eq_true rfl) dL_isMarch_523 ⟨Nat.zero_le _, Nat.zero_le _⟩ (fun r523 u523 H locs hw hP hD hS => ?_)
                                                            have p523 : r523 = cntR z ln sz (10 : Int32) := hw
                                                            have hP : va_P D vwCl (xwW cI cZ cS x0 xs xv ho0 ho1 pd0 pd1 m0 ts0 ts1 a ha sa cn cs sc tq_457 tv pd sv ln old sz z) H := hP
                                                            have hD : va_D A (xwW cI cZ cS x0 xs xv ho0 ho1 pd0 pd1 m0 ts0 ts1 a ha sa cn cs sc tq_457 tv pd sv ln old sz z) := hD
                                                            refine xk_top (z := (sumR z (z 7).toInt.toNat)) (by exact p523.trans (ct_10 _ _ _)) ?_
                                                            refine lv_aload_n hx hb dL_isMarch_526 rfl (lv_at hl 8 rfl) ?_
                                                            refine lv_bipush (v := 9) hx hb dL_isMarch_527 (by decide) ?_
                                                            refine xo_Vi (As := [.int 9]) (rest := [.int (sumR z (z 7).toInt.toNat), .int r451]) hx hb hml hown hts hK hN hZ hP hD hS hA mb_X7_walk mw_1_238 mw_1_239 mw_2_0 (k_X7_walk l D cI cZ cS x0 xs xv ho0 ho1 pd0 pd1 m0 ts0 ts1 a ha sa cn cs sc tq_457 tv pd sv ln old sz z (9 : Int32) hRS hI) 0 7 rfl rfl (fun _ => xwW_f) (by decide) (by decide) rfl hl.1 rfl (Nat.le_of_ble_eq_true rfl) dL_isMarch_529 ⟨Nat.zero_le _, Nat.zero_le _⟩ (fun r529 u529 H locs hw hP hD hS => ?_)
                                                            have p529 : r529 = walkR z (9 : Int32) := hw
                                                            have hP : va_P D vwCl (xwW cI cZ cS x0 xs xv ho0 ho1 pd0 pd1 m0 ts0 ts1 a ha sa cn cs sc tq_457 tv pd sv ln old sz z) H := hP
                                                            have hD : va_D A (xwW cI cZ cS x0 xs xv ho0 ho1 pd0 pd1 m0 ts0 ts1 a ha sa cn cs sc tq_457 tv pd sv ln old sz z) := hD
                                                            refine xk_top (z := (z 183)) (by exact p529.trans (wk_9 _)) ?_
                                                            refine lv_isub hx hb dL_isMarch_532 ?_
                                                            refine lv_topi (fun x532 e532 => ?_)
                                                            have t532 : x532.toInt = ((sumR z (z 7).toInt.toNat).toInt) - ((z 183).toInt) := by rw [e532]; exact xi_sub rfl rfl (by omega) (by omega)
                                                            refine lv_icmp_lt (tgt := 582) hx hb dL_isMarch_533 (by decide) (fun c533 => ?_) (fun c533 => ?_)
                                                            · have t533 : r451.toInt < x532.toInt := xi_lt rfl rfl c533
                                                              omega
                                                            · have t533 : x532.toInt ≤ r451.toInt := xi_nlt rfl rfl c533
                                                              refine lv_aload_n hx hb dL_isMarch_536 rfl (lv_at hl 8 rfl) ?_
                                                              refine lv_iconst (v := 1) hx hb dL_isMarch_537 (by decide) ?_
                                                              refine xo_Vi (As := [.int 1]) (rest := []) hx hb hml hown hts hK hN hZ hP hD hS hA mb_X7_untilWalked mw_2_177 mw_2_178 mw_2_179 (k_X7_untilWalked l D cI cZ cS x0 xs xv ho0 ho1 pd0 pd1 m0 ts0 ts1 a ha sa cn cs sc tq_457 tv pd sv ln old sz z (1 : Int32) hRS hI) 0 7 rfl rfl (fun _ => xwW_f) (by decide) (by decide) rfl hl.1 rfl (Nat.le_of_ble_eq_true rfl) dL_isMarch_538 ⟨Nat.zero_le _, Nat.zero_le _⟩ (fun r538 u538 H locs hw hP hD hS => ?_)
                                                              obtain ⟨tq_538, rfl⟩ : ∃ q, q = u538 := ⟨_, rfl⟩
                                                              have p538 : r538 = untR z (1 : Int32) := hw
                                                              have hP : va_P D vwCl (xwW cI cZ cS x0 xs xv ho0 ho1 pd0 pd1 m0 ts0 ts1 a ha sa cn cs sc tq_538 tv pd sv ln old sz z) H := hP
                                                              have hD : va_D A (xwW cI cZ cS x0 xs xv ho0 ho1 pd0 pd1 m0 ts0 ts1 a ha sa cn cs sc tq_538 tv pd sv ln old sz z) := hD
                                                              have he5 : walkZ 5000 z 188 = 1 ∧ r451.toInt = (walkN 5000 z : Int) := hun2.elim (fun g => absurd g.1 t515) (fun g => ⟨g.1, g.2.1⟩)
                                                              have hu1 := until1_is hI hIP hcz ⟨hb74, by omega⟩ ⟨hb86, by omega⟩ he5.1 p538
                                                              rw [← he5.2] at hu1
                                                              have hmu := mul_up (m := 5000) (n := 9) (show 0 ≤ r451.toInt ∧ r451.toInt ≤ 5000 by omega) (show 0 ≤ (z 0).toInt ∧ (z 0).toInt ≤ 9 by omega)
                                                              refine lv_iload hx hb dL_isMarch_541 (lv_at hl 1 rfl) ?_
                                                              refine lv_aload_n hx hb dL_isMarch_543 rfl (lv_at hl 8 rfl) ?_
                                                              refine lv_iconst (v := 0) hx hb dL_isMarch_544 (by decide) ?_
                                                              refine xo_Vi (As := [.int 0]) (rest := [.int r451, .int r538]) hx hb hml hown hts hK hN hZ hP hD hS hA mb_X7_count mw_2_6 mw_2_7 mw_2_8 (k_X7_count l D cI cZ cS x0 xs xv ho0 ho1 pd0 pd1 m0 ts0 ts1 a ha sa cn cs sc tq_538 tv pd sv ln old sz z (0 : Int32) hRS hI) 0 7 rfl rfl (fun _ => xwW_f) (by decide) (by decide) rfl hl.1 rfl (Nat.le_of_ble_eq_true rfl) dL_isMarch_545 ⟨Nat.zero_le _, Nat.zero_le _⟩ (fun r545 u545 H locs hw hP hD hS => ?_)
                                                              have p545 : r545 = cntR z ln sz (0 : Int32) := hw
                                                              have hP : va_P D vwCl (xwW cI cZ cS x0 xs xv ho0 ho1 pd0 pd1 m0 ts0 ts1 a ha sa cn cs sc tq_538 tv pd sv ln old sz z) H := hP
                                                              have hD : va_D A (xwW cI cZ cS x0 xs xv ho0 ho1 pd0 pd1 m0 ts0 ts1 a ha sa cn cs sc tq_538 tv pd sv ln old sz z) := hD
                                                              refine xk_top (z := (z 0)) (by exact p545.trans (ct_0 _ _ _)) ?_
                                                              refine lv_imul hx hb dL_isMarch_548 ?_
                                                              refine lv_topi (fun x548 e548 => ?_)
                                                              have t548 : x548.toInt = r451.toInt * ((z 0).toInt) := by rw [e548]; exact xi_mul rfl rfl (by omega) (by omega)
                                                              refine lv_icmp_lt (tgt := 582) hx hb dL_isMarch_549 (by decide) (fun c549 => ?_) (fun c549 => ?_)
                                                              · have t549 : r538.toInt < x548.toInt := xi_lt rfl rfl c549
                                                                omega
                                                              · have t549 : x548.toInt ≤ r538.toInt := xi_nlt rfl rfl c549
                                                                exact J552 tq_538  _ _ hP hD hS ls (lv_sub hl [0, 1, 2, 3, 4, 5, 6, 7, 8, 9, 10] rfl)
                                                      · have t498 : r451.toInt = 0 := xi_eq rfl (by decide) c498
                                                        have d498 : r451 = 0 := c498
                                                        refine lv_iconst (v := 1) hx hb dL_isMarch_501 (by decide) ?_
                                                        refine lv_goto (tgt := 506) hx hb dL_isMarch_502 (by decide) ?_
                                                        refine lv_iload hx hb dL_isMarch_506 (lv_at hl 10 rfl) ?_
                                                        refine lv_icmp_ne (tgt := 582) hx hb dL_isMarch_508 (by decide) (fun c508 => ?_) (fun c508 => ?_)
                                                        · have t508 : ¬ 1 = c0.toInt := xi_ne (by decide) rfl c508
                                                          have d508 : ¬ (1 : Int32) = c0 := c508
                                                          omega
                                                        · have t508 : 1 = c0.toInt := xi_eq (by decide) rfl c508
                                                          have d508 : (1 : Int32) = c0 := c508
                                                          have J552 : ∀ (tj : Nat → Int32)  (H : Heap) (locs : List Loc), va_P D vwCl (xwW cI cZ cS x0 xs xv ho0 ho1 pd0 pd1 m0 ts0 ts1 a ha sa cn cs sc tj tv pd sv ln old sz z) H → va_D A (xwW cI cZ cS x0 xs xv ho0 ho1 pd0 pd1 m0 ts0 ts1 a ha sa cn cs sc tj tv pd sv ln old sz z) → va_S A s.heap H locs → ∀ ls : Array Slot, lv_has ls 11 [(10, .int r457), (9, .int r451), (8, .int w3), (7, .int 1), (6, .int w), (4, .int (z 179)), (3, .int (z 187)), (2, .int (z 174)), (0, .ref x0), (1, .int b), (5, .int c0)] → W p l e ({ frames := 7, cells := 0, slots := 0, locals := 160 } : Room) s m args below meth c H locs 0 0 Q (F0 m 552 ls []) := by
                                                            intro tj H locs hP hD hS ls hl
                                                            refine lv_iload hx hb dL_isMarch_552 (lv_at hl 0 rfl) ?_
                                                            refine lv_bipush (v := (-6)) hx hb dL_isMarch_554 (by decide) ?_
                                                            refine lv_icmp_eq (tgt := 578) hx hb dL_isMarch_556 (by decide) (fun c556 => ?_) (fun c556 => ?_)
                                                            · have t556 : r457.toInt = -6 := xi_eq rfl (by decide) c556
                                                              have d556 : r457 = (-6) := c556
                                                              refine lv_iconst (v := 1) hx hb dL_isMarch_578 (by decide) ?_
                                                              refine lv_goto (tgt := 583) hx hb dL_isMarch_579 (by decide) ?_
                                                              exact xk_retz (tj, tv) hx hb hr hlocks (by decide) (xk_P hP (by rfl)) (by first | rfl | trivial) hS dL_isMarch_583 hQ
                                                            · have t556 : ¬ r457.toInt = -6 := xi_ne rfl (by decide) c556
                                                              have d556 : ¬ r457 = (-6) := c556
                                                              refine lv_iload hx hb dL_isMarch_559 (lv_at hl 0 rfl) ?_
                                                              refine lv_if_le (tgt := 582) hx hb dL_isMarch_561 (by decide) (fun c561 => ?_) (fun c561 => ?_)
                                                              · have t561 : r457.toInt ≤ 0 := xi_le rfl (by decide) c561
                                                                omega
                                                              · have t561 : 0 < r457.toInt := xi_nle rfl (by decide) c561
                                                                refine lv_iload hx hb dL_isMarch_564 (lv_at hl 1 rfl) ?_
                                                                refine lv_bipush (v := (-6)) hx hb dL_isMarch_566 (by decide) ?_
                                                                refine lv_icmp_eq (tgt := 578) hx hb dL_isMarch_568 (by decide) (fun c568 => ?_) (fun c568 => ?_)
                                                                · have t568 : r451.toInt = -6 := xi_eq rfl (by decide) c568
                                                                  have d568 : r451 = (-6) := c568
                                                                  refine lv_iconst (v := 1) hx hb dL_isMarch_578 (by decide) ?_
                                                                  refine lv_goto (tgt := 583) hx hb dL_isMarch_579 (by decide) ?_
                                                                  exact xk_retz (tj, tv) hx hb hr hlocks (by decide) (xk_P hP (by rfl)) (by first | rfl | trivial) hS dL_isMarch_583 hQ
                                                                · have t568 : ¬ r451.toInt = -6 := xi_ne rfl (by decide) c568
                                                                  have d568 : ¬ r451 = (-6) := c568
                                                                  refine lv_iload hx hb dL_isMarch_571 (lv_at hl 0 rfl) ?_
                                                                  refine lv_iload hx hb dL_isMarch_573 (lv_at hl 1 rfl) ?_
                                                                  refine lv_icmp_gt (tgt := 582) hx hb dL_isMarch_575 (by decide) (fun c575 => ?_) (fun c575 => ?_)
                                                                  · have t575 : r451.toInt < r457.toInt := xi_lt rfl rfl c575
                                                                    omega
                                                                  · have t575 : r457.toInt ≤ r451.toInt := xi_nlt rfl rfl c575
                                                                    refine lv_iconst (v := 1) hx hb dL_isMarch_578 (by decide) ?_
                                                                    refine lv_goto (tgt := 583) hx hb dL_isMarch_579 (by decide) ?_
                                                                    exact xk_retz (tj, tv) hx hb hr hlocks (by decide) (xk_P hP (by rfl)) (by first | rfl | trivial) hS dL_isMarch_583 hQ
                                                          refine lv_iload hx hb dL_isMarch_511 (lv_at hl 1 rfl) ?_
                                                          refine lv_bipush (v := (-6)) hx hb dL_isMarch_513 (by decide) ?_
                                                          refine lv_icmp_eq (tgt := 552) hx hb dL_isMarch_515 (by decide) (fun c515 => ?_) (fun c515 => ?_)
                                                          · have t515 : r451.toInt = -6 := xi_eq rfl (by decide) c515
                                                            have d515 : r451 = (-6) := c515
                                                            exact J552 tq_457  _ _ hP hD hS ls (lv_sub hl [0, 1, 2, 3, 4, 5, 6, 7, 8, 9, 10] rfl)
                                                          · have t515 : ¬ r451.toInt = -6 := xi_ne rfl (by decide) c515
                                                            have d515 : ¬ r451 = (-6) := c515
                                                            refine lv_iload hx hb dL_isMarch_518 (lv_at hl 1 rfl) ?_
                                                            refine lv_aload_n hx hb dL_isMarch_520 rfl (lv_at hl 8 rfl) ?_
                                                            refine lv_bipush (v := 10) hx hb dL_isMarch_521 (by decide) ?_
                                                            refine xo_Vi (As := [.int 10]) (rest := [.int r451]) hx hb hml hown hts hK hN hZ hP hD hS hA mb_X7_count mw_2_6 mw_2_7 mw_2_8 (k_X7_count l D cI cZ cS x0 xs xv ho0 ho1 pd0 pd1 m0 ts0 ts1 a ha sa cn cs sc tq_457 tv pd sv ln old sz z (10 : Int32) hRS hI) 0 7 rfl rfl (fun _ => xwW_f) (by decide) (by decide) rfl hl.1 rfl (Nat.le_of_ble_eq_true rfl) dL_isMarch_523 ⟨Nat.zero_le _, Nat.zero_le _⟩ (fun r523 u523 H locs hw hP hD hS => ?_)
                                                            have p523 : r523 = cntR z ln sz (10 : Int32) := hw
                                                            have hP : va_P D vwCl (xwW cI cZ cS x0 xs xv ho0 ho1 pd0 pd1 m0 ts0 ts1 a ha sa cn cs sc tq_457 tv pd sv ln old sz z) H := hP
                                                            have hD : va_D A (xwW cI cZ cS x0 xs xv ho0 ho1 pd0 pd1 m0 ts0 ts1 a ha sa cn cs sc tq_457 tv pd sv ln old sz z) := hD
                                                            refine xk_top (z := (sumR z (z 7).toInt.toNat)) (by exact p523.trans (ct_10 _ _ _)) ?_
                                                            refine lv_aload_n hx hb dL_isMarch_526 rfl (lv_at hl 8 rfl) ?_
                                                            refine lv_bipush (v := 9) hx hb dL_isMarch_527 (by decide) ?_
                                                            refine xo_Vi (As := [.int 9]) (rest := [.int (sumR z (z 7).toInt.toNat), .int r451]) hx hb hml hown hts hK hN hZ hP hD hS hA mb_X7_walk mw_1_238 mw_1_239 mw_2_0 (k_X7_walk l D cI cZ cS x0 xs xv ho0 ho1 pd0 pd1 m0 ts0 ts1 a ha sa cn cs sc tq_457 tv pd sv ln old sz z (9 : Int32) hRS hI) 0 7 rfl rfl (fun _ => xwW_f) (by decide) (by decide) rfl hl.1 rfl (Nat.le_of_ble_eq_true rfl) dL_isMarch_529 ⟨Nat.zero_le _, Nat.zero_le _⟩ (fun r529 u529 H locs hw hP hD hS => ?_)
                                                            have p529 : r529 = walkR z (9 : Int32) := hw
                                                            have hP : va_P D vwCl (xwW cI cZ cS x0 xs xv ho0 ho1 pd0 pd1 m0 ts0 ts1 a ha sa cn cs sc tq_457 tv pd sv ln old sz z) H := hP
                                                            have hD : va_D A (xwW cI cZ cS x0 xs xv ho0 ho1 pd0 pd1 m0 ts0 ts1 a ha sa cn cs sc tq_457 tv pd sv ln old sz z) := hD
                                                            refine xk_top (z := (z 183)) (by exact p529.trans (wk_9 _)) ?_
                                                            refine lv_isub hx hb dL_isMarch_532 ?_
                                                            refine lv_topi (fun x532 e532 => ?_)
                                                            have t532 : x532.toInt = ((sumR z (z 7).toInt.toNat).toInt) - ((z 183).toInt) := by rw [e532]; exact xi_sub rfl rfl (by omega) (by omega)
                                                            refine lv_icmp_lt (tgt := 582) hx hb dL_isMarch_533 (by decide) (fun c533 => ?_) (fun c533 => ?_)
                                                            · have t533 : r451.toInt < x532.toInt := xi_lt rfl rfl c533
                                                              omega
                                                            · have t533 : x532.toInt ≤ r451.toInt := xi_nlt rfl rfl c533
                                                              refine lv_aload_n hx hb dL_isMarch_536 rfl (lv_at hl 8 rfl) ?_
                                                              refine lv_iconst (v := 1) hx hb dL_isMarch_537 (by decide) ?_
                                                              refine xo_Vi (As := [.int 1]) (rest := []) hx hb hml hown hts hK hN hZ hP hD hS hA mb_X7_untilWalked mw_2_177 mw_2_178 mw_2_179 (k_X7_untilWalked l D cI cZ cS x0 xs xv ho0 ho1 pd0 pd1 m0 ts0 ts1 a ha sa cn cs sc tq_457 tv pd sv ln old sz z (1 : Int32) hRS hI) 0 7 rfl rfl (fun _ => xwW_f) (by decide) (by decide) rfl hl.1 rfl (Nat.le_of_ble_eq_true rfl) dL_isMarch_538 ⟨Nat.zero_le _, Nat.zero_le _⟩ (fun r538 u538 H locs hw hP hD hS => ?_)
                                                              obtain ⟨tq_538, rfl⟩ : ∃ q, q = u538 := ⟨_, rfl⟩
                                                              have p538 : r538 = untR z (1 : Int32) := hw
                                                              have hP : va_P D vwCl (xwW cI cZ cS x0 xs xv ho0 ho1 pd0 pd1 m0 ts0 ts1 a ha sa cn cs sc tq_538 tv pd sv ln old sz z) H := hP
                                                              have hD : va_D A (xwW cI cZ cS x0 xs xv ho0 ho1 pd0 pd1 m0 ts0 ts1 a ha sa cn cs sc tq_538 tv pd sv ln old sz z) := hD
                                                              have he5 : walkZ 5000 z 188 = 1 ∧ r451.toInt = (walkN 5000 z : Int) := hun2.elim (fun g => absurd g.1 t515) (fun g => ⟨g.1, g.2.1⟩)
                                                              have hu1 := until1_is hI hIP hcz ⟨hb74, by omega⟩ ⟨hb86, by omega⟩ he5.1 p538
                                                              rw [← he5.2] at hu1
                                                              have hmu := mul_up (m := 5000) (n := 9) (show 0 ≤ r451.toInt ∧ r451.toInt ≤ 5000 by omega) (show 0 ≤ (z 0).toInt ∧ (z 0).toInt ≤ 9 by omega)
                                                              refine lv_iload hx hb dL_isMarch_541 (lv_at hl 1 rfl) ?_
                                                              refine lv_aload_n hx hb dL_isMarch_543 rfl (lv_at hl 8 rfl) ?_
                                                              refine lv_iconst (v := 0) hx hb dL_isMarch_544 (by decide) ?_
                                                              refine xo_Vi (As := [.int 0]) (rest := [.int r451, .int r538]) hx hb hml hown hts hK hN hZ hP hD hS hA mb_X7_count mw_2_6 mw_2_7 mw_2_8 (k_X7_count l D cI cZ cS x0 xs xv ho0 ho1 pd0 pd1 m0 ts0 ts1 a ha sa cn cs sc tq_538 tv pd sv ln old sz z (0 : Int32) hRS hI) 0 7 rfl rfl (fun _ => xwW_f) (by decide) (by decide) rfl hl.1 rfl (Nat.le_of_ble_eq_true rfl) dL_isMarch_545 ⟨Nat.zero_le _, Nat.zero_le _⟩ (fun r545 u545 H locs hw hP hD hS => ?_)
                                                              have p545 : r545 = cntR z ln sz (0 : Int32) := hw
                                                              have hP : va_P D vwCl (xwW cI cZ cS x0 xs xv ho0 ho1 pd0 pd1 m0 ts0 ts1 a ha sa cn cs sc tq_538 tv pd sv ln old sz z) H := hP
                                                              have hD : va_D A (xwW cI cZ cS x0 xs xv ho0 ho1 pd0 pd1 m0 ts0 ts1 a ha sa cn cs sc tq_538 tv pd sv ln old sz z) := hD
                                                              refine xk_top (z := (z 0)) (by exact p545.trans (ct_0 _ _ _)) ?_
                                                              refine lv_imul hx hb dL_isMarch_548 ?_
                                                              refine lv_topi (fun x548 e548 => ?_)
                                                              have t548 : x548.toInt = r451.toInt * ((z 0).toInt) := by rw [e548]; exact xi_mul rfl rfl (by omega) (by omega)
                                                              refine lv_icmp_lt (tgt := 582) hx hb dL_isMarch_549 (by decide) (fun c549 => ?_) (fun c549 => ?_)
                                                              · have t549 : r538.toInt < x548.toInt := xi_lt rfl rfl c549
                                                                omega
                                                              · have t549 : x548.toInt ≤ r538.toInt := xi_nlt rfl rfl c549
                                                                exact J552 tq_538  _ _ hP hD hS ls (lv_sub hl [0, 1, 2, 3, 4, 5, 6, 7, 8, 9, 10] rfl)
                                                · have t423 : k3.toInt < (z 177).toInt := xi_nle rfl rfl c423
                                                  have hfc : footC z (z 176) k3 := ⟨⟨by omega, by omega⟩, by omega, by omega⟩
                                                  have hbt := btZ_in hI.2.1 (l := (z 176).toInt.toNat) (f := k3.toInt.toNat) (by omega) (by omega)
                                                  have hsk3 := sumB_in hI.2.1 (l := (z 176).toInt.toNat) (by omega) k3.toInt.toNat (by omega)
                                                  have hss3 := sumB_s hI.2.1 (l := (z 176).toInt.toNat) (by omega) k3.toInt.toNat (by omega)
                                                  refine lv_iload hx hb dL_isMarch_426 (lv_at hl 1 rfl) ?_
                                                  refine lv_aload_n hx hb dL_isMarch_428 rfl (lv_at hl 7 rfl) ?_
                                                  refine lv_aload_n hx hb dL_isMarch_429 rfl (lv_at hl 7 rfl) ?_
                                                  refine lv_iconst (v := 2) hx hb dL_isMarch_430 (by decide) ?_
                                                  refine xo_Vi (As := [.int 2]) (rest := [.ref x0, .int w3]) hx hb hml hown hts hK hN hZ hP hD hS hA mb_X7_walk mw_1_238 mw_1_239 mw_2_0 (k_X7_walk l D cI cZ cS x0 xs xv ho0 ho1 pd0 pd1 m0 ts0 ts1 a ha sa cn cs sc tm tv pd sv ln old sz z (2 : Int32) hRS hI) 0 7 rfl rfl (fun _ => xwW_f) (by decide) (by decide) rfl hl.1 rfl (Nat.le_of_ble_eq_true rfl) dL_isMarch_431 ⟨Nat.zero_le _, Nat.zero_le _⟩ (fun r431 u431 H locs hw hP hD hS => ?_)
                                                  have p431 : r431 = walkR z (2 : Int32) := hw
                                                  have hP : va_P D vwCl (xwW cI cZ cS x0 xs xv ho0 ho1 pd0 pd1 m0 ts0 ts1 a ha sa cn cs sc tm tv pd sv ln old sz z) H := hP
                                                  have hD : va_D A (xwW cI cZ cS x0 xs xv ho0 ho1 pd0 pd1 m0 ts0 ts1 a ha sa cn cs sc tm tv pd sv ln old sz z) := hD
                                                  refine xk_top (z := (z 176)) (by exact p431.trans (wk_2 _)) ?_
                                                  refine lv_iload hx hb dL_isMarch_434 (lv_at hl 0 rfl) ?_
                                                  refine lv_iconst (v := 0) hx hb dL_isMarch_436 (by decide) ?_
                                                  refine xo_Vi (As := [.int (z 176), .int k3, .int 0]) (rest := [.int w3]) hx hb hml hown hts hK hN hZ hP hD hS hA mb_X7_foot mw_2_140 mw_2_141 mw_2_142 (k_X7_foot l D cI cZ cS x0 xs xv ho0 ho1 pd0 pd1 m0 ts0 ts1 a ha sa cn cs sc tm tv pd sv ln old sz z (z 176) k3 (0 : Int32) hRS hI) 0 7 rfl rfl (fun _ => xwW_f) (by decide) (by decide) rfl hl.1 rfl (Nat.le_of_ble_eq_true rfl) dL_isMarch_437 ⟨Nat.zero_le _, Nat.zero_le _⟩ (fun r437 u437 H locs hw hP hD hS => ?_)
                                                  have p437 : r437 = footR z (z 176) k3 (0 : Int32) := hw
                                                  have hP : va_P D vwCl (xwW cI cZ cS x0 xs xv ho0 ho1 pd0 pd1 m0 ts0 ts1 a ha sa cn cs sc tm tv pd sv ln old sz z) H := hP
                                                  have hD : va_D A (xwW cI cZ cS x0 xs xv ho0 ho1 pd0 pd1 m0 ts0 ts1 a ha sa cn cs sc tm tv pd sv ln old sz z) := hD
                                                  refine xk_top (z := (btZ z (z 176).toInt.toNat k3.toInt.toNat)) (by exact p437.trans (ft_0 hfc)) ?_
                                                  refine lv_iadd hx hb dL_isMarch_440 ?_
                                                  refine lv_topi (fun x440 e440 => ?_)
                                                  have t440 : x440.toInt = w3.toInt + ((btZ z (z 176).toInt.toNat k3.toInt.toNat).toInt) := by rw [e440]; exact xi_add rfl rfl (by omega) (by omega)
                                                  refine lv_istore (lv' := [(8, .int x440), (9, .int k3), (7, .int 1), (6, .int w), (4, .int (z 179)), (3, .int (z 187)), (2, .int (z 174)), (0, .ref x0), (1, .int b), (5, .int c0)]) hx hb dL_isMarch_441 hl (by decide) rfl (fun ls hl => ?_)
                                                  obtain ⟨x443, e443⟩ : ∃ y : Int32, y = k3 + 1 := ⟨_, rfl⟩
                                                  have t443 : x443.toInt = k3.toInt + 1 := by rw [e443]; exact xi_add rfl (by decide) (by omega) (by omega)
                                                  refine lv_iinc (v := x443) (lv' := [(9, .int x443), (8, .int x440), (7, .int 1), (6, .int w), (4, .int (z 179)), (3, .int (z 187)), (2, .int (z 174)), (0, .ref x0), (1, .int b), (5, .int c0)]) hx hb dL_isMarch_443 hl (k := 1) rfl (by rw [e443]; rfl) (by decide) rfl (fun ls hl => ?_)
                                                  refine lv_goto (tgt := 416) hx hb dL_isMarch_446 (by decide) ?_
                                                  exact ih416  x440 x443 (by omega) (by rw [show x443.toInt.toNat = k3.toInt.toNat + 1 from by omega]; omega) (by omega) _ _ hP hD hS ls (lv_sub hl [0, 1, 2, 3, 4, 5, 6, 7, 8, 9] rfl)
                                            exact L416 12 w2 (0 : Int32) (by omega) (by show w2.toInt = (z 186).toInt * (sumS z (z 6).toInt.toNat).toInt + (z 178).toInt + (sumS z (z 176).toInt.toNat).toInt + (0 : Int32).toInt; rw [show (z 176).toInt.toNat = k2.toInt.toNat from by omega]; omega) (by omega) _ _ hP hD hS ls (lv_sub hl [0, 1, 2, 3, 4, 5, 6, 7, 8, 9] rfl)
                                          · have t392 : k2.toInt < (z 176).toInt := xi_nle rfl rfl c392
                                            have hlc : lineC z k2 := ⟨by omega, by omega⟩
                                            have hsk2 := sumS_in hI.2.1 k2.toInt.toNat (by omega)
                                            have hss2 := sumS_s hI.2.1 k2.toInt.toNat (by omega)
                                            have hsg := sumS_in hI.2.1 (k2.toInt.toNat + 1) (by omega)
                                            refine lv_iload hx hb dL_isMarch_395 (lv_at hl 1 rfl) ?_
                                            refine lv_aload_n hx hb dL_isMarch_397 rfl (lv_at hl 7 rfl) ?_
                                            refine lv_iload hx hb dL_isMarch_398 (lv_at hl 0 rfl) ?_
                                            refine lv_iconst (v := 1) hx hb dL_isMarch_400 (by decide) ?_
                                            refine xo_Vi (As := [.int k2, .int 1]) (rest := [.int w2]) hx hb hml hown hts hK hN hZ hP hD hS hA mb_X7_line mw_2_150 mw_2_151 mw_2_152 (k_X7_line l D cI cZ cS x0 xs xv ho0 ho1 pd0 pd1 m0 ts0 ts1 a ha sa cn cs sc tm tv pd sv ln old sz z k2 (1 : Int32) hRS hI) 0 7 rfl rfl (fun _ => xwW_f) (by decide) (by decide) rfl hl.1 rfl (Nat.le_of_ble_eq_true rfl) dL_isMarch_401 ⟨Nat.zero_le _, Nat.zero_le _⟩ (fun r401 u401 H locs hw hP hD hS => ?_)
                                            have p401 : r401 = lineR z k2 (1 : Int32) := hw
                                            have hP : va_P D vwCl (xwW cI cZ cS x0 xs xv ho0 ho1 pd0 pd1 m0 ts0 ts1 a ha sa cn cs sc tm tv pd sv ln old sz z) H := hP
                                            have hD : va_D A (xwW cI cZ cS x0 xs xv ho0 ho1 pd0 pd1 m0 ts0 ts1 a ha sa cn cs sc tm tv pd sv ln old sz z) := hD
                                            refine xk_top (z := (sungL z k2.toInt.toNat)) (by exact p401.trans (ln_1 hlc)) ?_
                                            refine lv_iadd hx hb dL_isMarch_404 ?_
                                            refine lv_topi (fun x404 e404 => ?_)
                                            have t404 : x404.toInt = w2.toInt + ((sungL z k2.toInt.toNat).toInt) := by rw [e404]; exact xi_add rfl rfl (by omega) (by omega)
                                            refine lv_istore (lv' := [(8, .int x404), (9, .int k2), (7, .int 1), (6, .int w), (4, .int (z 179)), (3, .int (z 187)), (2, .int (z 174)), (0, .ref x0), (1, .int b), (5, .int c0)]) hx hb dL_isMarch_405 hl (by decide) rfl (fun ls hl => ?_)
                                            obtain ⟨x407, e407⟩ : ∃ y : Int32, y = k2 + 1 := ⟨_, rfl⟩
                                            have t407 : x407.toInt = k2.toInt + 1 := by rw [e407]; exact xi_add rfl (by decide) (by omega) (by omega)
                                            refine lv_iinc (v := x407) (lv' := [(9, .int x407), (8, .int x404), (7, .int 1), (6, .int w), (4, .int (z 179)), (3, .int (z 187)), (2, .int (z 174)), (0, .ref x0), (1, .int b), (5, .int c0)]) hx hb dL_isMarch_407 hl (k := 1) rfl (by rw [e407]; rfl) (by decide) rfl (fun ls hl => ?_)
                                            refine lv_goto (tgt := 385) hx hb dL_isMarch_410 (by decide) ?_
                                            exact ih385  x404 x407 (by omega) (by rw [show x407.toInt.toNat = k2.toInt.toNat + 1 from by omega]; omega) (by omega) _ _ hP hD hS ls (lv_sub hl [0, 1, 2, 3, 4, 5, 6, 7, 8, 9] rfl)
                                      exact L385 11 x379 (0 : Int32) (by omega) (by show x379.toInt = (z 186).toInt * (sumS z (z 6).toInt.toNat).toInt + (z 178).toInt + (0 : Int32).toInt; omega) (by omega) _ _ hP hD hS ls (lv_sub hl [0, 1, 2, 3, 4, 5, 6, 7, 8, 9] rfl)
                                    · have t286 : b.toInt = 0 := xi_eq rfl (by decide) c286
                                      have d286 : b = 0 := c286
                                      have hnc : ¬ canZ z := hb24.elim (fun g => by have := g.1; omega) (fun g => g.2)
                                      have h176 : (z 176).toInt = 0 := by rw [qnc hnc 176 (by omega) (by omega) (by omega)]; exact z0
                                      have h177 : (z 177).toInt = 0 := by rw [qnc hnc 177 (by omega) (by omega) (by omega)]; exact z0
                                      have h178 : (z 178).toInt = 0 := by rw [qnc hnc 178 (by omega) (by omega) (by omega)]; exact z0
                                      refine lv_iload hx hb dL_isMarch_289 (lv_at hl 0 rfl) ?_
                                      refine lv_if_eq (tgt := 359) hx hb dL_isMarch_291 (by decide) (fun c291 => absurd c291 (by decide)) (fun _ => ?_)
                                      refine lv_aload_n hx hb dL_isMarch_294 rfl (lv_at hl 5 rfl) ?_
                                      refine lv_iconst (v := 2) hx hb dL_isMarch_295 (by decide) ?_
                                      refine xo_Vi (As := [.int 2]) (rest := []) hx hb hml hown hts hK hN hZ hP hD hS hA mb_X7_walk mw_1_238 mw_1_239 mw_2_0 (k_X7_walk l D cI cZ cS x0 xs xv ho0 ho1 pd0 pd1 m0 ts0 ts1 a ha sa cn cs sc tm tv pd sv ln old sz z (2 : Int32) hRS hI) 0 7 rfl rfl (fun _ => xwW_f) (by decide) (by decide) rfl hl.1 rfl (Nat.le_of_ble_eq_true rfl) dL_isMarch_296 ⟨Nat.zero_le _, Nat.zero_le _⟩ (fun r296 u296 H locs hw hP hD hS => ?_)
                                      have p296 : r296 = walkR z (2 : Int32) := hw
                                      have hP : va_P D vwCl (xwW cI cZ cS x0 xs xv ho0 ho1 pd0 pd1 m0 ts0 ts1 a ha sa cn cs sc tm tv pd sv ln old sz z) H := hP
                                      have hD : va_D A (xwW cI cZ cS x0 xs xv ho0 ho1 pd0 pd1 m0 ts0 ts1 a ha sa cn cs sc tm tv pd sv ln old sz z) := hD
                                      refine xk_top (z := (z 176)) (by exact p296.trans (wk_2 _)) ?_
                                      refine lv_if_ne (tgt := 359) hx hb dL_isMarch_299 (by decide) (fun c299 => ?_) (fun c299 => ?_)
                                      · have t299 : ¬ (z 176).toInt = 0 := xi_ne rfl (by decide) c299
                                        have d299 : ¬ (z 176) = 0 := c299
                                        omega
                                      · have t299 : (z 176).toInt = 0 := xi_eq rfl (by decide) c299
                                        have d299 : (z 176) = 0 := c299
                                        refine lv_aload_n hx hb dL_isMarch_302 rfl (lv_at hl 5 rfl) ?_
                                        refine lv_iconst (v := 3) hx hb dL_isMarch_303 (by decide) ?_
                                        refine xo_Vi (As := [.int 3]) (rest := []) hx hb hml hown hts hK hN hZ hP hD hS hA mb_X7_walk mw_1_238 mw_1_239 mw_2_0 (k_X7_walk l D cI cZ cS x0 xs xv ho0 ho1 pd0 pd1 m0 ts0 ts1 a ha sa cn cs sc tm tv pd sv ln old sz z (3 : Int32) hRS hI) 0 7 rfl rfl (fun _ => xwW_f) (by decide) (by decide) rfl hl.1 rfl (Nat.le_of_ble_eq_true rfl) dL_isMarch_304 ⟨Nat.zero_le _, Nat.zero_le _⟩ (fun r304 u304 H locs hw hP hD hS => ?_)
                                        have p304 : r304 = walkR z (3 : Int32) := hw
                                        have hP : va_P D vwCl (xwW cI cZ cS x0 xs xv ho0 ho1 pd0 pd1 m0 ts0 ts1 a ha sa cn cs sc tm tv pd sv ln old sz z) H := hP
                                        have hD : va_D A (xwW cI cZ cS x0 xs xv ho0 ho1 pd0 pd1 m0 ts0 ts1 a ha sa cn cs sc tm tv pd sv ln old sz z) := hD
                                        refine xk_top (z := (z 177)) (by exact p304.trans (wk_3 _)) ?_
                                        refine lv_if_ne (tgt := 359) hx hb dL_isMarch_307 (by decide) (fun c307 => ?_) (fun c307 => ?_)
                                        · have t307 : ¬ (z 177).toInt = 0 := xi_ne rfl (by decide) c307
                                          have d307 : ¬ (z 177) = 0 := c307
                                          omega
                                        · have t307 : (z 177).toInt = 0 := xi_eq rfl (by decide) c307
                                          have d307 : (z 177) = 0 := c307
                                          refine lv_aload_n hx hb dL_isMarch_310 rfl (lv_at hl 5 rfl) ?_
                                          refine lv_iconst (v := 4) hx hb dL_isMarch_311 (by decide) ?_
                                          refine xo_Vi (As := [.int 4]) (rest := []) hx hb hml hown hts hK hN hZ hP hD hS hA mb_X7_walk mw_1_238 mw_1_239 mw_2_0 (k_X7_walk l D cI cZ cS x0 xs xv ho0 ho1 pd0 pd1 m0 ts0 ts1 a ha sa cn cs sc tm tv pd sv ln old sz z (4 : Int32) hRS hI) 0 7 rfl rfl (fun _ => xwW_f) (by decide) (by decide) rfl hl.1 rfl (Nat.le_of_ble_eq_true rfl) dL_isMarch_312 ⟨Nat.zero_le _, Nat.zero_le _⟩ (fun r312 u312 H locs hw hP hD hS => ?_)
                                          have p312 : r312 = walkR z (4 : Int32) := hw
                                          have hP : va_P D vwCl (xwW cI cZ cS x0 xs xv ho0 ho1 pd0 pd1 m0 ts0 ts1 a ha sa cn cs sc tm tv pd sv ln old sz z) H := hP
                                          have hD : va_D A (xwW cI cZ cS x0 xs xv ho0 ho1 pd0 pd1 m0 ts0 ts1 a ha sa cn cs sc tm tv pd sv ln old sz z) := hD
                                          refine xk_top (z := (z 178)) (by exact p312.trans (wk_4 _)) ?_
                                          refine lv_if_ne (tgt := 359) hx hb dL_isMarch_315 (by decide) (fun c315 => ?_) (fun c315 => ?_)
                                          · have t315 : ¬ (z 178).toInt = 0 := xi_ne rfl (by decide) c315
                                            have d315 : ¬ (z 178) = 0 := c315
                                            omega
                                          · have t315 : (z 178).toInt = 0 := xi_eq rfl (by decide) c315
                                            have d315 : (z 178) = 0 := c315
                                            refine lv_aload_n hx hb dL_isMarch_318 rfl (lv_at hl 5 rfl) ?_
                                            refine lv_iconst (v := 0) hx hb dL_isMarch_319 (by decide) ?_
                                            refine xo_Vi (As := [.int 0]) (rest := []) hx hb hml hown hts hK hN hZ hP hD hS hA mb_X7_untilWalked mw_2_177 mw_2_178 mw_2_179 (k_X7_untilWalked l D cI cZ cS x0 xs xv ho0 ho1 pd0 pd1 m0 ts0 ts1 a ha sa cn cs sc tm tv pd sv ln old sz z (0 : Int32) hRS hI) 0 7 rfl rfl (fun _ => xwW_f) (by decide) (by decide) rfl hl.1 rfl (Nat.le_of_ble_eq_true rfl) dL_isMarch_320 ⟨Nat.zero_le _, Nat.zero_le _⟩ (fun r320 u320 H locs hw hP hD hS => ?_)
                                            obtain ⟨tq_320, rfl⟩ : ∃ q, q = u320 := ⟨_, rfl⟩
                                            have p320 : r320 = untR z (0 : Int32) := hw
                                            have hP : va_P D vwCl (xwW cI cZ cS x0 xs xv ho0 ho1 pd0 pd1 m0 ts0 ts1 a ha sa cn cs sc tq_320 tv pd sv ln old sz z) H := hP
                                            have hD : va_D A (xwW cI cZ cS x0 xs xv ho0 ho1 pd0 pd1 m0 ts0 ts1 a ha sa cn cs sc tq_320 tv pd sv ln old sz z) := hD
                                            refine xk_top (z := (-5)) (by exact p320.trans (un_not (by decide) hnc)) ?_
                                            refine lv_bipush (v := (-5)) hx hb dL_isMarch_323 (by decide) ?_
                                            refine lv_icmp_ne (tgt := 359) hx hb dL_isMarch_325 (by decide) (fun c325 => absurd (by decide) c325) (fun _ => ?_)
                                            refine lv_aload_n hx hb dL_isMarch_328 rfl (lv_at hl 5 rfl) ?_
                                            refine xo_Vi (As := []) (rest := []) hx hb hml hown hts hK hN hZ hP hD hS hA mb_X7_together mw_2_216 mw_2_217 mw_2_218 (k_X7_together l D cI cZ cS x0 xs xv ho0 ho1 pd0 pd1 m0 ts0 ts1 a ha sa cn cs sc tq_320 tv pd sv ln old sz z hRS hI ⟨hb86, by omega⟩) 0 7 rfl rfl (fun _ => xwW_f) (by decide) (by decide) rfl hl.1 rfl (Nat.le_of_ble_eq_true rfl) dL_isMarch_329 ⟨Nat.zero_le _, Nat.zero_le _⟩ (fun r329 u329 H locs hw hP hD hS => ?_)
                                            obtain ⟨tq_329, rfl⟩ : ∃ q, q = u329 := ⟨_, rfl⟩
                                            have p329 : r329 = togA z := hw
                                            have hP : va_P D vwCl (xwW cI cZ cS x0 xs xv ho0 ho1 pd0 pd1 m0 ts0 ts1 a ha sa cn cs sc tq_329 tv pd sv ln old sz z) H := hP
                                            have hD : va_D A (xwW cI cZ cS x0 xs xv ho0 ho1 pd0 pd1 m0 ts0 ts1 a ha sa cn cs sc tq_329 tv pd sv ln old sz z) := hD
                                            refine xk_top (z := (-5)) (by exact p329.trans (show togA z = -5 from if_neg hnc)) ?_
                                            refine lv_bipush (v := (-5)) hx hb dL_isMarch_332 (by decide) ?_
                                            refine lv_icmp_ne (tgt := 359) hx hb dL_isMarch_334 (by decide) (fun c334 => absurd (by decide) c334) (fun _ => ?_)
                                            refine lv_aload_n hx hb dL_isMarch_337 rfl (lv_at hl 5 rfl) ?_
                                            refine xo_Vi (As := []) (rest := []) hx hb hml hown hts hK hN hZ hP hD hS hA mb_X7_leastBreath mw_2_221 mw_2_222 mw_2_223 (k_X7_leastBreath l D cI cZ cS x0 xs xv ho0 ho1 pd0 pd1 m0 ts0 ts1 a ha sa cn cs sc tq_329 tv pd sv ln old sz z hRS hI) 0 7 rfl rfl (fun _ => xwW_f) (by decide) (by decide) rfl hl.1 rfl (Nat.le_of_ble_eq_true rfl) dL_isMarch_338 ⟨Nat.zero_le _, Nat.zero_le _⟩ (fun r338 u338 H locs hw hP hD hS => ?_)
                                            obtain ⟨tq_338, vq_338⟩ := u338
                                            have p338 : (canZ z ∧ lbA z r338) ∨ (¬ canZ z ∧ r338 = -5) := hw
                                            have hP : va_P D vwCl (xwW cI cZ cS x0 xs xv ho0 ho1 pd0 pd1 m0 ts0 ts1 a ha sa cn cs sc tq_338 vq_338 pd sv ln old sz z) H := hP
                                            have hD : va_D A (xwW cI cZ cS x0 xs xv ho0 ho1 pd0 pd1 m0 ts0 ts1 a ha sa cn cs sc tq_338 vq_338 pd sv ln old sz z) := hD
                                            refine xk_top (z := (-5)) (by exact p338.elim (fun h9 => absurd h9.1 hnc) (fun h9 => h9.2)) ?_
                                            refine lv_bipush (v := (-5)) hx hb dL_isMarch_341 (by decide) ?_
                                            refine lv_icmp_ne (tgt := 359) hx hb dL_isMarch_343 (by decide) (fun c343 => absurd (by decide) c343) (fun _ => ?_)
                                            refine lv_aload_n hx hb dL_isMarch_346 rfl (lv_at hl 5 rfl) ?_
                                            refine xo_Vi (As := []) (rest := []) hx hb hml hown hts hK hN hZ hP hD hS hA mb_X7_bestPause mw_2_238 mw_2_239 mw_3_0 (k_X7_bestPause l D cI cZ cS x0 xs xv ho0 ho1 pd0 pd1 m0 ts0 ts1 a ha sa cn cs sc tq_338 vq_338 pd sv ln old sz z hRS hI) 0 7 rfl rfl (fun _ => xwW_f) (by decide) (by decide) rfl hl.1 rfl (Nat.le_of_ble_eq_true rfl) dL_isMarch_347 ⟨Nat.zero_le _, Nat.zero_le _⟩ (fun r347 u347 H locs hw hP hD hS => ?_)
                                            obtain ⟨tq_347, vq_347⟩ := u347
                                            have p347 : (canZ z ∧ bpA z r347) ∨ (¬ canZ z ∧ r347 = -5) := hw
                                            have hP : va_P D vwCl (xwW cI cZ cS x0 xs xv ho0 ho1 pd0 pd1 m0 ts0 ts1 a ha sa cn cs sc tq_347 vq_347 pd sv ln old sz z) H := hP
                                            have hD : va_D A (xwW cI cZ cS x0 xs xv ho0 ho1 pd0 pd1 m0 ts0 ts1 a ha sa cn cs sc tq_347 vq_347 pd sv ln old sz z) := hD
                                            refine xk_top (z := (-5)) (by exact p347.elim (fun h9 => absurd h9.1 hnc) (fun h9 => h9.2)) ?_
                                            refine lv_bipush (v := (-5)) hx hb dL_isMarch_350 (by decide) ?_
                                            refine lv_icmp_ne (tgt := 359) hx hb dL_isMarch_352 (by decide) (fun c352 => absurd (by decide) c352) (fun _ => ?_)
                                            refine lv_iconst (v := 1) hx hb dL_isMarch_355 (by decide) ?_
                                            refine lv_goto (tgt := 360) hx hb dL_isMarch_356 (by decide) ?_
                                            exact xk_retz (tq_347, vq_347) hx hb hr hlocks (by decide) (xk_P hP (by rfl)) (by first | rfl | trivial) hS dL_isMarch_360 hQ
                                  refine lv_iload_n hx hb dL_isMarch_270 rfl (lv_at hl 6 rfl) ?_
                                  refine lv_if_ne (tgt := 278) hx hb dL_isMarch_271 (by decide) (fun c271 => ?_) (fun c271 => ?_)
                                  · have t271 : ¬ b.toInt = 0 := xi_ne rfl (by decide) c271
                                    have d271 : ¬ b = 0 := c271
                                    exact J278   _ _ hP hD hS ls (lv_sub hl [0, 1, 2, 3, 4, 5, 6, 7] rfl)
                                  · have t271 : b.toInt = 0 := xi_eq rfl (by decide) c271
                                    have d271 : b = 0 := c271
                                    have hnc : ¬ canZ z := hb24.elim (fun g => by have := g.1; omega) (fun g => g.2)
                                    have h174 : (z 174).toInt = 0 := by rw [qnc hnc 174 (by omega) (by omega) (by omega)]; exact z0
                                    refine lv_iload_n hx hb dL_isMarch_274 rfl (lv_at hl 4 rfl) ?_
                                    refine lv_if_ne (tgt := 282) hx hb dL_isMarch_275 (by decide) (fun c275 => ?_) (fun c275 => ?_)
                                    · have t275 : ¬ (z 174).toInt = 0 := xi_ne rfl (by decide) c275
                                      have d275 : ¬ (z 174) = 0 := c275
                                      omega
                                    · have t275 : (z 174).toInt = 0 := xi_eq rfl (by decide) c275
                                      have d275 : (z 174) = 0 := c275
                                      exact J278   _ _ hP hD hS ls (lv_sub hl [0, 1, 2, 3, 4, 5, 6, 7] rfl)
                              refine lv_iload hx hb dL_isMarch_207 (lv_at hl 7 rfl) ?_
                              refine lv_if_eq (tgt := 239) hx hb dL_isMarch_209 (by decide) (fun c209 => ?_) (fun c209 => ?_)
                              · have t209 : c0.toInt = 0 := xi_eq rfl (by decide) c209
                                have d209 : c0 = 0 := c209
                                have h80 : z 188 = 0 := xi_ext (by omega)
                                have hna := notwalked_at hI h80
                                refine lv_iload hx hb dL_isMarch_239 (lv_at hl 2 rfl) ?_
                                refine lv_if_eq (tgt := 255) hx hb dL_isMarch_241 (by decide) (fun c241 => ?_) (fun c241 => ?_)
                                · have t241 : (z 179).toInt = 0 := xi_eq rfl (by decide) c241
                                  have d241 : (z 179) = 0 := c241
                                  exact J255   _ _ hP hD hS ls (lv_sub hl [0, 1, 2, 3, 4, 5, 6, 7] rfl)
                                · have t241 : ¬ (z 179).toInt = 0 := xi_ne rfl (by decide) c241
                                  have d241 : ¬ (z 179) = 0 := c241
                                  refine lv_iload hx hb dL_isMarch_244 (lv_at hl 2 rfl) ?_
                                  refine lv_aload_n hx hb dL_isMarch_246 rfl (lv_at hl 5 rfl) ?_
                                  refine lv_bipush (v := 9) hx hb dL_isMarch_247 (by decide) ?_
                                  refine xo_Vi (As := [.int 9]) (rest := [.int (z 179)]) hx hb hml hown hts hK hN hZ hP hD hS hA mb_X7_count mw_2_6 mw_2_7 mw_2_8 (k_X7_count l D cI cZ cS x0 xs xv ho0 ho1 pd0 pd1 m0 ts0 ts1 a ha sa cn cs sc tm tv pd sv ln old sz z (9 : Int32) hRS hI) 0 7 rfl rfl (fun _ => xwW_f) (by decide) (by decide) rfl hl.1 rfl (Nat.le_of_ble_eq_true rfl) dL_isMarch_249 ⟨Nat.zero_le _, Nat.zero_le _⟩ (fun r249 u249 H locs hw hP hD hS => ?_)
                                  have p249 : r249 = cntR z ln sz (9 : Int32) := hw
                                  have hP : va_P D vwCl (xwW cI cZ cS x0 xs xv ho0 ho1 pd0 pd1 m0 ts0 ts1 a ha sa cn cs sc tm tv pd sv ln old sz z) H := hP
                                  have hD : va_D A (xwW cI cZ cS x0 xs xv ho0 ho1 pd0 pd1 m0 ts0 ts1 a ha sa cn cs sc tm tv pd sv ln old sz z) := hD
                                  refine xk_top (z := (z 7)) (by exact p249.trans (ct_9 _ _ _)) ?_
                                  refine lv_icmp_ge (tgt := 282) hx hb dL_isMarch_252 (by decide) (fun c252 => ?_) (fun c252 => ?_)
                                  · have t252 : (z 7).toInt ≤ (z 179).toInt := xi_le rfl rfl c252
                                    omega
                                  · have t252 : (z 179).toInt < (z 7).toInt := xi_nle rfl rfl c252
                                    exact J255   _ _ hP hD hS ls (lv_sub hl [0, 1, 2, 3, 4, 5, 6, 7] rfl)
                              · have t209 : ¬ c0.toInt = 0 := xi_ne rfl (by decide) c209
                                have d209 : ¬ c0 = 0 := c209
                                have h81 : z 188 = 1 := xi_ext (by omega)
                                have hcz : canZ z := Decidable.byContradiction (fun h9 => by have h7 := qnc h9 188 (by omega) (by omega) (by omega); rw [h81] at h7; exact absurd h7 (by decide))
                                obtain ⟨ha1, ha2⟩ := walked_at hI h81
                                have ha3 := q180 ha2
                                refine lv_iload_n hx hb dL_isMarch_212 rfl (lv_at hl 6 rfl) ?_
                                refine lv_if_eq (tgt := 282) hx hb dL_isMarch_213 (by decide) (fun c213 => ?_) (fun c213 => ?_)
                                · have t213 : b.toInt = 0 := xi_eq rfl (by decide) c213
                                  have d213 : b = 0 := c213
                                  exact hb24.elim (fun g => absurd g.1 (by omega)) (fun g => absurd hcz g.2)
                                · have t213 : ¬ b.toInt = 0 := xi_ne rfl (by decide) c213
                                  have d213 : ¬ b = 0 := c213
                                  refine lv_iload hx hb dL_isMarch_216 (lv_at hl 2 rfl) ?_
                                  refine lv_aload_n hx hb dL_isMarch_218 rfl (lv_at hl 5 rfl) ?_
                                  refine lv_bipush (v := 9) hx hb dL_isMarch_219 (by decide) ?_
                                  refine xo_Vi (As := [.int 9]) (rest := [.int (z 179)]) hx hb hml hown hts hK hN hZ hP hD hS hA mb_X7_count mw_2_6 mw_2_7 mw_2_8 (k_X7_count l D cI cZ cS x0 xs xv ho0 ho1 pd0 pd1 m0 ts0 ts1 a ha sa cn cs sc tm tv pd sv ln old sz z (9 : Int32) hRS hI) 0 7 rfl rfl (fun _ => xwW_f) (by decide) (by decide) rfl hl.1 rfl (Nat.le_of_ble_eq_true rfl) dL_isMarch_221 ⟨Nat.zero_le _, Nat.zero_le _⟩ (fun r221 u221 H locs hw hP hD hS => ?_)
                                  have p221 : r221 = cntR z ln sz (9 : Int32) := hw
                                  have hP : va_P D vwCl (xwW cI cZ cS x0 xs xv ho0 ho1 pd0 pd1 m0 ts0 ts1 a ha sa cn cs sc tm tv pd sv ln old sz z) H := hP
                                  have hD : va_D A (xwW cI cZ cS x0 xs xv ho0 ho1 pd0 pd1 m0 ts0 ts1 a ha sa cn cs sc tm tv pd sv ln old sz z) := hD
                                  refine xk_top (z := (z 7)) (by exact p221.trans (ct_9 _ _ _)) ?_
                                  refine lv_icmp_ne (tgt := 282) hx hb dL_isMarch_224 (by decide) (fun c224 => ?_) (fun c224 => ?_)
                                  · have t224 : ¬ (z 179).toInt = (z 7).toInt := xi_ne rfl rfl c224
                                    have d224 : ¬ (z 179) = (z 7) := c224
                                    omega
                                  · have t224 : (z 179).toInt = (z 7).toInt := xi_eq rfl rfl c224
                                    have d224 : (z 179) = (z 7) := c224
                                    refine lv_aload_n hx hb dL_isMarch_227 rfl (lv_at hl 5 rfl) ?_
                                    refine lv_bipush (v := 6) hx hb dL_isMarch_228 (by decide) ?_
                                    refine xo_Vi (As := [.int 6]) (rest := []) hx hb hml hown hts hK hN hZ hP hD hS hA mb_X7_walk mw_1_238 mw_1_239 mw_2_0 (k_X7_walk l D cI cZ cS x0 xs xv ho0 ho1 pd0 pd1 m0 ts0 ts1 a ha sa cn cs sc tm tv pd sv ln old sz z (6 : Int32) hRS hI) 0 7 rfl rfl (fun _ => xwW_f) (by decide) (by decide) rfl hl.1 rfl (Nat.le_of_ble_eq_true rfl) dL_isMarch_230 ⟨Nat.zero_le _, Nat.zero_le _⟩ (fun r230 u230 H locs hw hP hD hS => ?_)
                                    have p230 : r230 = walkR z (6 : Int32) := hw
                                    have hP : va_P D vwCl (xwW cI cZ cS x0 xs xv ho0 ho1 pd0 pd1 m0 ts0 ts1 a ha sa cn cs sc tm tv pd sv ln old sz z) H := hP
                                    have hD : va_D A (xwW cI cZ cS x0 xs xv ho0 ho1 pd0 pd1 m0 ts0 ts1 a ha sa cn cs sc tm tv pd sv ln old sz z) := hD
                                    refine xk_top (z := (z 180)) (by exact p230.trans (wk_6 _)) ?_
                                    refine lv_if_ne (tgt := 282) hx hb dL_isMarch_233 (by decide) (fun c233 => ?_) (fun c233 => ?_)
                                    · have t233 : ¬ (z 180).toInt = 0 := xi_ne rfl (by decide) c233
                                      have d233 : ¬ (z 180) = 0 := c233
                                      omega
                                    · have t233 : (z 180).toInt = 0 := xi_eq rfl (by decide) c233
                                      have d233 : (z 180) = 0 := c233
                                      refine lv_goto (tgt := 255) hx hb dL_isMarch_236 (by decide) ?_
                                      exact J255   _ _ hP hD hS ls (lv_sub hl [0, 1, 2, 3, 4, 5, 6, 7] rfl)
          · have t76 : k.toInt < (z 179).toInt := xi_nle rfl rfl c76
            have hsc : strC z k := ⟨by omega, by omega⟩
            obtain ⟨hr1, -, -⟩ := hI.2.2.1.2 k.toInt.toNat (by omega)
            have hsk := sumR_in hI.2.2.1 k.toInt.toNat (by omega)
            have hss := sumR_s hI.2.2.1 k.toInt.toNat (by omega)
            refine lv_iload hx hb dL_isMarch_79 (lv_at hl 1 rfl) ?_
            refine lv_aload_n hx hb dL_isMarch_81 rfl (lv_at hl 5 rfl) ?_
            refine lv_iload hx hb dL_isMarch_82 (lv_at hl 0 rfl) ?_
            refine lv_iconst (v := 0) hx hb dL_isMarch_84 (by decide) ?_
            refine xo_Vi (As := [.int k, .int 0]) (rest := [.int w]) hx hb hml hown hts hK hN hZ hP hD hS hA mb_X7_stretch mw_2_121 mw_2_122 mw_2_123 (k_X7_stretch l D cI cZ cS x0 xs xv ho0 ho1 pd0 pd1 m0 ts0 ts1 a ha sa cn cs sc tm tv pd sv ln old sz z k (0 : Int32) hRS hI) 0 7 rfl rfl (fun _ => xwW_f) (by decide) (by decide) rfl hl.1 rfl (Nat.le_of_ble_eq_true rfl) dL_isMarch_85 ⟨Nat.zero_le _, Nat.zero_le _⟩ (fun r85 u85 H locs hw hP hD hS => ?_)
            have p85 : strA z k (0 : Int32) r85 := hw
            have hP : va_P D vwCl (xwW cI cZ cS x0 xs xv ho0 ho1 pd0 pd1 m0 ts0 ts1 a ha sa cn cs sc tm tv pd sv ln old sz z) H := hP
            have hD : va_D A (xwW cI cZ cS x0 xs xv ho0 ho1 pd0 pd1 m0 ts0 ts1 a ha sa cn cs sc tm tv pd sv ln old sz z) := hD
            refine xk_top (z := (ofZ z k.toInt.toNat 0)) (by exact st_0 hsc p85) ?_
            refine lv_iadd hx hb dL_isMarch_88 ?_
            refine lv_topi (fun x88 e88 => ?_)
            have t88 : x88.toInt = w.toInt + ((ofZ z k.toInt.toNat 0).toInt) := by rw [e88]; exact xi_add rfl rfl (by omega) (by omega)
            refine lv_istore (lv' := [(6, .int x88), (7, .int k), (4, .int (z 179)), (3, .int (z 187)), (2, .int (z 174)), (0, .ref x0), (1, .int b), (5, .int c0)]) hx hb dL_isMarch_89 hl (by decide) rfl (fun ls hl => ?_)
            obtain ⟨x91, e91⟩ : ∃ y : Int32, y = k + 1 := ⟨_, rfl⟩
            have t91 : x91.toInt = k.toInt + 1 := by rw [e91]; exact xi_add rfl (by decide) (by omega) (by omega)
            refine lv_iinc (v := x91) (lv' := [(7, .int x91), (6, .int x88), (4, .int (z 179)), (3, .int (z 187)), (2, .int (z 174)), (0, .ref x0), (1, .int b), (5, .int c0)]) hx hb dL_isMarch_91 hl (k := 1) rfl (by rw [e91]; rfl) (by decide) rfl (fun ls hl => ?_)
            refine lv_goto (tgt := 72) hx hb dL_isMarch_94 (by decide) ?_
            exact ih72  x88 x91 (by omega) (by rw [show x91.toInt.toNat = k.toInt.toNat + 1 from by omega]; omega) (by omega) _ _ hP hD hS ls (lv_sub hl [0, 1, 2, 3, 4, 5, 6, 7] rfl)
      exact L72 13 (z 180) (0 : Int32) (by omega) (by show (z 180).toInt = (z 180).toInt + (0 : Int32).toInt; omega) (by omega) _ _ hP hD hS ls (lv_sub hl [0, 1, 2, 3, 4, 5, 6, 7] rfl)
    refine lv_aload_n hx hb dL_isMarch_44 rfl (lv_at hl 3 rfl) ?_
    refine lv_bipush (v := 14) hx hb dL_isMarch_45 (by decide) ?_
    refine xo_Vi (As := [.int 14]) (rest := []) hx hb hml hown hts hK hN hZ hP hD hS hA mb_X7_walk mw_1_238 mw_1_239 mw_2_0 (k_X7_walk l D cI cZ cS x0 xs xv ho0 ho1 pd0 pd1 m0 ts0 ts1 a ha sa cn cs sc tm tv pd sv ln old sz z (14 : Int32) hRS hI) 0 7 rfl rfl (fun _ => xwW_f) (by decide) (by decide) rfl hl.1 rfl (Nat.le_of_ble_eq_true rfl) dL_isMarch_47 ⟨Nat.zero_le _, Nat.zero_le _⟩ (fun r47 u47 H locs hw hP hD hS => ?_)
    have p47 : r47 = walkR z (14 : Int32) := hw
    have hP : va_P D vwCl (xwW cI cZ cS x0 xs xv ho0 ho1 pd0 pd1 m0 ts0 ts1 a ha sa cn cs sc tm tv pd sv ln old sz z) H := hP
    have hD : va_D A (xwW cI cZ cS x0 xs xv ho0 ho1 pd0 pd1 m0 ts0 ts1 a ha sa cn cs sc tm tv pd sv ln old sz z) := hD
    refine xk_top (z := (z 188)) (by exact p47.trans (wk_14 _)) ?_
    refine lv_iconst (v := 1) hx hb dL_isMarch_50 (by decide) ?_
    refine lv_icmp_ne (tgt := 58) hx hb dL_isMarch_51 (by decide) (fun c51 => ?_) (fun c51 => ?_)
    · have t51 : ¬ (z 188).toInt = 1 := xi_ne rfl (by decide) c51
      have d51 : ¬ (z 188) = 1 := c51
      refine lv_iconst (v := 0) hx hb dL_isMarch_58 (by decide) ?_
      refine lv_istore (lv' := [(5, .int 0), (4, .int (z 179)), (3, .int (z 187)), (2, .int (z 174)), (0, .ref x0), (1, .int b)]) hx hb dL_isMarch_59 hl (by decide) rfl (fun ls hl => ?_)
      exact J61 (0 : Int32) (by exact Or.inr ⟨by decide, by omega⟩) _ _ hP hD hS ls (lv_sub hl [1, 2, 3, 4, 5, 0] rfl)
    · have t51 : (z 188).toInt = 1 := xi_eq rfl (by decide) c51
      have d51 : (z 188) = 1 := c51
      refine lv_iconst (v := 1) hx hb dL_isMarch_54 (by decide) ?_
      refine lv_goto (tgt := 59) hx hb dL_isMarch_55 (by decide) ?_
      refine lv_istore (lv' := [(5, .int 1), (4, .int (z 179)), (3, .int (z 187)), (2, .int (z 174)), (0, .ref x0), (1, .int b)]) hx hb dL_isMarch_59 hl (by decide) rfl (fun ls hl => ?_)
      exact J61 (1 : Int32) (by exact Or.inl ⟨by decide, by omega⟩) _ _ hP hD hS ls (lv_sub hl [1, 2, 3, 4, 5, 0] rfl)
  refine lv_aload_n hx hb dL_isMarch_0 rfl (lv_at hl 0 rfl) ?_
  refine lv_bipush (v := 6) hx hb dL_isMarch_1 (by decide) ?_
  refine xo_Vi (As := [.int 6]) (rest := []) hx hb hml hown hts hK hN hZ hP hD hS hA mb_X7_count mw_2_6 mw_2_7 mw_2_8 (k_X7_count l D cI cZ cS x0 xs xv ho0 ho1 pd0 pd1 m0 ts0 ts1 a ha sa cn cs sc tm tv pd sv ln old sz z (6 : Int32) hRS hI) 0 7 rfl rfl (fun _ => xwW_f) (by decide) (by decide) rfl hl.1 rfl (Nat.le_of_ble_eq_true rfl) dL_isMarch_3 ⟨Nat.zero_le _, Nat.zero_le _⟩ (fun r3 u3 H locs hw hP hD hS => ?_)
  have p3 : r3 = cntR z ln sz (6 : Int32) := hw
  have hP : va_P D vwCl (xwW cI cZ cS x0 xs xv ho0 ho1 pd0 pd1 m0 ts0 ts1 a ha sa cn cs sc tm tv pd sv ln old sz z) H := hP
  have hD : va_D A (xwW cI cZ cS x0 xs xv ho0 ho1 pd0 pd1 m0 ts0 ts1 a ha sa cn cs sc tm tv pd sv ln old sz z) := hD
  refine xk_top (z := (z 6)) (by exact p3.trans (ct_6 _ _ _)) ?_
  refine lv_if_le (tgt := 22) hx hb dL_isMarch_6 (by decide) (fun c6 => ?_) (fun c6 => ?_)
  · have t6 : (z 6).toInt ≤ 0 := xi_le rfl (by decide) c6
    refine lv_iconst (v := 0) hx hb dL_isMarch_22 (by decide) ?_
    refine lv_istore_n (lv' := [(1, .int 0), (0, .ref x0)]) hx hb dL_isMarch_23 rfl hl (by decide) rfl (fun ls hl => ?_)
    exact J24 (0 : Int32) (by exact Or.inr ⟨by decide, fun c9 => by have := c9.1; have := c9.2; omega⟩) _ _ hP hD hS ls (lv_sub hl [1, 0] rfl)
  · have t6 : 0 < (z 6).toInt := xi_nle rfl (by decide) c6
    refine lv_aload_n hx hb dL_isMarch_9 rfl (lv_at hl 0 rfl) ?_
    refine lv_bipush (v := 9) hx hb dL_isMarch_10 (by decide) ?_
    refine xo_Vi (As := [.int 9]) (rest := []) hx hb hml hown hts hK hN hZ hP hD hS hA mb_X7_count mw_2_6 mw_2_7 mw_2_8 (k_X7_count l D cI cZ cS x0 xs xv ho0 ho1 pd0 pd1 m0 ts0 ts1 a ha sa cn cs sc tm tv pd sv ln old sz z (9 : Int32) hRS hI) 0 7 rfl rfl (fun _ => xwW_f) (by decide) (by decide) rfl hl.1 rfl (Nat.le_of_ble_eq_true rfl) dL_isMarch_12 ⟨Nat.zero_le _, Nat.zero_le _⟩ (fun r12 u12 H locs hw hP hD hS => ?_)
    have p12 : r12 = cntR z ln sz (9 : Int32) := hw
    have hP : va_P D vwCl (xwW cI cZ cS x0 xs xv ho0 ho1 pd0 pd1 m0 ts0 ts1 a ha sa cn cs sc tm tv pd sv ln old sz z) H := hP
    have hD : va_D A (xwW cI cZ cS x0 xs xv ho0 ho1 pd0 pd1 m0 ts0 ts1 a ha sa cn cs sc tm tv pd sv ln old sz z) := hD
    refine xk_top (z := (z 7)) (by exact p12.trans (ct_9 _ _ _)) ?_
    refine lv_if_le (tgt := 22) hx hb dL_isMarch_15 (by decide) (fun c15 => ?_) (fun c15 => ?_)
    · have t15 : (z 7).toInt ≤ 0 := xi_le rfl (by decide) c15
      refine lv_iconst (v := 0) hx hb dL_isMarch_22 (by decide) ?_
      refine lv_istore_n (lv' := [(1, .int 0), (0, .ref x0)]) hx hb dL_isMarch_23 rfl hl (by decide) rfl (fun ls hl => ?_)
      exact J24 (0 : Int32) (by exact Or.inr ⟨by decide, fun c9 => by have := c9.1; have := c9.2; omega⟩) _ _ hP hD hS ls (lv_sub hl [1, 0] rfl)
    · have t15 : 0 < (z 7).toInt := xi_nle rfl (by decide) c15
      refine lv_iconst (v := 1) hx hb dL_isMarch_18 (by decide) ?_
      refine lv_goto (tgt := 23) hx hb dL_isMarch_19 (by decide) ?_
      refine lv_istore_n (lv' := [(1, .int 1), (0, .ref x0)]) hx hb dL_isMarch_23 rfl hl (by decide) rfl (fun ls hl => ?_)
      exact J24 (1 : Int32) (by exact Or.inl ⟨by decide, by omega, by omega⟩) _ _ hP hD hS ls (lv_sub hl [1, 0] rfl)
