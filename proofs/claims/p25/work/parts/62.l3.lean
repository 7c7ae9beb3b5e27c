set_option maxHeartbeats 4000000 in
set_option maxRecDepth 100000 in
theorem c_L_isSong (l : Launch) (D : va_G) (cI cZ cS : ClassId) (x0 : Nat) (xs : Nat) (xv : Nat) (ho0 : Nat) (ho1 : Nat) (pd0 : Nat) (pd1 : Nat) (m0 : Nat) (ts0 : Nat) (ts1 : Nat) (a : Nat → Nat) (ha : Nat → Nat → Nat) (sa : Nat → Nat → Nat) (cn : Nat → Nat → Int32) (cs : Nat → Nat → Nat → Int32) (sc : Nat → Nat → Nat → Int32) (tm : Nat → Int32) (tv : Nat → Int32) (pd : Nat → Int32) (sv : Nat → Int32) (ln : Int32) (old : Int32) (sz : Int32) (z : Nat → Int32) (past : Nat → Int32) (slots : Nat → Int32) (bd : Int)  (hLI : LI bd cn cs sc sv ln old sz z past slots) (hbd : bd ≤ 100000) : xMi l yL_isSong cL_isSong 12 (some .boolean) ({ frames := 6, cells := 0, slots := 0, locals := 134 } : Room) D (xTy cI cZ cS) [.ref x0] (xwW cI cZ cS x0 xs xv ho0 ho1 pd0 pd1 m0 ts0 ts1 a ha sa cn cs sc tm tv pd sv ln old sz z) (fun (r : Int32) (_ : Unit) => r = (1 : Int32)) (fun (_ : Unit) => (xwW cI cZ cS x0 xs xv ho0 ho1 pd0 pd1 m0 ts0 ts1 a ha sa cn cs sc tm tv pd sv ln old sz z)) := by
  refine xk_bodyi (by decide) (Nat.le_of_ble_eq_true rfl) ?_
  intro p e s m below meth c A ls args Q hx hb hr hts hown hlocks hml hin hK hP hD hS hA hN hZ hl hQ
  have hl : lv_has ls 12 [(0, .ref x0)] := hl
  obtain ⟨hRS, hI, hBD, ⟨hold, hszz, hlnn⟩, hmcs, hmsc, hRH, hRL⟩ := id hLI
  obtain ⟨⟨hb74, hb74u⟩, ⟨hb86, hb86u⟩, hIP⟩ := id hBD
  have hs0 : (1 ≤ (z 0).toInt ∧ (z 0).toInt ≤ 9) ∧ (0 ≤ (z 1).toInt ∧ (z 1).toInt ≤ 9) ∧ (1 ≤ (z 2).toInt ∧ (z 2).toInt ≤ 9) ∧ (1 ≤ (z 3).toInt ∧ (z 3).toInt ≤ 20) ∧ (2 ≤ (z 5).toInt ∧ (z 5).toInt ≤ 9) := hI.1
  have hg6 : 0 ≤ (z 6).toInt ∧ (z 6).toInt ≤ 10 := hI.2.1.1
  have hr7 : 0 ≤ (z 7).toInt ∧ (z 7).toInt ≤ 12 := hI.2.2.1.1
  have z0 : (0 : Int32).toInt = 0 := by decide
  refine lv_aload_n hx hb dL_isSong_0 rfl (lv_at hl 0 rfl) ?_
  refine lv_bipush (v := 6) hx hb dL_isSong_1 (by decide) ?_
  refine xo_Vi (As := [.int 6]) (rest := []) hx hb hml hown hts hK hN hZ hP hD hS hA mb_X7_count mw_2_6 mw_2_7 mw_2_8 (k_X7_count l D cI cZ cS x0 xs xv ho0 ho1 pd0 pd1 m0 ts0 ts1 a ha sa cn cs sc tm tv pd sv ln old sz z (6 : Int32) hRS hI) 0 7 rfl rfl (fun _ => xwW_f) (by decide) (by decide) rfl hl.1 rfl (Nat.le_of_ble_eq_true rfl) dL_isSong_3 ⟨Nat.zero_le _, Nat.zero_le _⟩ (fun r3 u3 H locs hw hP hD hS => ?_)
  have p3 : r3 = cntR z ln sz (6 : Int32) := hw
  have hP : va_P D vwCl (xwW cI cZ cS x0 xs xv ho0 ho1 pd0 pd1 m0 ts0 ts1 a ha sa cn cs sc tm tv pd sv ln old sz z) H := hP
  have hD : va_D A (xwW cI cZ cS x0 xs xv ho0 ho1 pd0 pd1 m0 ts0 ts1 a ha sa cn cs sc tm tv pd sv ln old sz z) := hD
  refine xk_top (z := (z 6)) (by exact p3.trans (ct_6 _ _ _)) ?_
  refine lv_istore_n (lv' := [(1, .int (z 6)), (0, .ref x0)]) hx hb dL_isSong_6 rfl hl (by decide) rfl (fun ls hl => ?_)
  refine lv_iconst (v := 0) hx hb dL_isSong_7 (by decide) ?_
  refine lv_istore_n (lv' := [(2, .int 0), (1, .int (z 6)), (0, .ref x0)]) hx hb dL_isSong_8 rfl hl (by decide) rfl (fun ls hl => ?_)
  refine lv_iconst (v := 0) hx hb dL_isSong_9 (by decide) ?_
  refine lv_istore_n (lv' := [(3, .int 0), (2, .int 0), (1, .int (z 6)), (0, .ref x0)]) hx hb dL_isSong_10 rfl hl (by decide) rfl (fun ls hl => ?_)
  refine lv_iload_n hx hb dL_isSong_11 rfl (lv_at hl 2 rfl) ?_
  refine lv_if_lt (tgt := 25) hx hb dL_isSong_12 (by decide) (fun c12 => ?_) (fun c12 => ?_)
  · have t12 : (z 6).toInt < 0 := xi_lt rfl (by decide) c12
    omega
  · have t12 : 0 ≤ (z 6).toInt := xi_nlt rfl (by decide) c12
    refine lv_iload_n hx hb dL_isSong_15 rfl (lv_at hl 2 rfl) ?_
    refine lv_bipush (v := 10) hx hb dL_isSong_16 (by decide) ?_
    refine lv_icmp_gt (tgt := 25) hx hb dL_isSong_18 (by decide) (fun c18 => ?_) (fun c18 => ?_)
    · have t18 : 10 < (z 6).toInt := xi_lt (by decide) rfl c18
      omega
    · have t18 : (z 6).toInt ≤ 10 := xi_nlt (by decide) rfl c18
      refine lv_iconst (v := 1) hx hb dL_isSong_21 (by decide) ?_
      refine lv_goto (tgt := 26) hx hb dL_isSong_22 (by decide) ?_
      refine lv_istore (lv' := [(4, .int 1), (3, .int 0), (2, .int 0), (1, .int (z 6)), (0, .ref x0)]) hx hb dL_isSong_26 hl (by decide) rfl (fun ls hl => ?_)
      refine lv_iconst (v := 0) hx hb dL_isSong_28 (by decide) ?_
      refine lv_istore (lv' := [(5, .int 0), (4, .int 1), (3, .int 0), (2, .int 0), (1, .int (z 6)), (0, .ref x0)]) hx hb dL_isSong_29 hl (by decide) rfl (fun ls hl => ?_)
      have L31 : ∀ (n : Nat) (u : Int32) (v : Int32) (k : Int32) (hk : 0 ≤ k.toInt ∧ k.toInt ≤ (z 6).toInt) (hu : u = sumS z k.toInt.toNat) (hv : v = sumM z k.toInt.toNat) (hn31 : ((z 6).toInt - k.toInt).toNat < n) (H : Heap) (locs : List Loc), va_P D vwCl (xwW cI cZ cS x0 xs xv ho0 ho1 pd0 pd1 m0 ts0 ts1 a ha sa cn cs sc tm tv pd sv ln old sz z) H → va_D A (xwW cI cZ cS x0 xs xv ho0 ho1 pd0 pd1 m0 ts0 ts1 a ha sa cn cs sc tm tv pd sv ln old sz z) → va_S A s.heap H locs → ∀ ls : Array Slot, lv_has ls 12 [(5, .int k), (4, .int 1), (3, .int v), (2, .int u), (1, .int (z 6)), (0, .ref x0)] → W p l e ({ frames := 6, cells := 0, slots := 0, locals := 134 } : Room) s m args below meth c H locs 0 0 Q (F0 m 31 ls []) := by
        intro n
        induction n with
        | zero =>
          intro u v k hk hu hv hn31
          exact absurd hn31 (Nat.not_lt_zero _)
        | succ n ih31 =>
          intro u v k hk hu hv hn31 H locs hP hD hS ls hl
          refine lv_iload hx hb dL_isSong_31 (lv_at hl 0 rfl) ?_
          refine lv_iload_n hx hb dL_isSong_33 rfl (lv_at hl 4 rfl) ?_
          refine lv_icmp_ge (tgt := 242) hx hb dL_isSong_34 (by decide) (fun c34 => ?_) (fun c34 => ?_)
          · have t34 : (z 6).toInt ≤ k.toInt := xi_le rfl rfl c34
            have hu6 : u = sumS z (z 6).toInt.toNat := by rw [hu, show k.toInt.toNat = (z 6).toInt.toNat from by omega]
            have hv6 : v = sumM z (z 6).toInt.toNat := by rw [hv, show k.toInt.toNat = (z 6).toInt.toNat from by omega]
            refine lv_iconst (v := 0) hx hb dL_isSong_242 (by decide) ?_
            refine lv_istore (lv' := [(5, .int 0), (4, .int 1), (3, .int v), (2, .int u), (1, .int (z 6)), (0, .ref x0)]) hx hb dL_isSong_243 hl (by decide) rfl (fun ls hl => ?_)
            refine lv_iconst (v := 0) hx hb dL_isSong_245 (by decide) ?_
            refine lv_istore (lv' := [(6, .int 0), (5, .int 0), (4, .int 1), (3, .int v), (2, .int u), (1, .int (z 6)), (0, .ref x0)]) hx hb dL_isSong_246 hl (by decide) rfl (fun ls hl => ?_)
            have L248 : ∀ (n : Nat) (w : Int32) (q : Int32) (hq6 : 0 ≤ q.toInt ∧ q.toInt ≤ (z 7).toInt) (hww : w = sumR z q.toInt.toNat) (hn248 : ((z 7).toInt - q.toInt).toNat < n) (H : Heap) (locs : List Loc), va_P D vwCl (xwW cI cZ cS x0 xs xv ho0 ho1 pd0 pd1 m0 ts0 ts1 a ha sa cn cs sc tm tv pd sv ln old sz z) H → va_D A (xwW cI cZ cS x0 xs xv ho0 ho1 pd0 pd1 m0 ts0 ts1 a ha sa cn cs sc tm tv pd sv ln old sz z) → va_S A s.heap H locs → ∀ ls : Array Slot, lv_has ls 12 [(6, .int q), (5, .int w), (4, .int 1), (3, .int v), (2, .int u), (1, .int (z 6)), (0, .ref x0)] → W p l e ({ frames := 6, cells := 0, slots := 0, locals := 134 } : Room) s m args below meth c H locs 0 0 Q (F0 m 248 ls []) := by
              intro n
              induction n with
              | zero =>
                intro w q hq6 hww hn248
                exact absurd hn248 (Nat.not_lt_zero _)
              | succ n ih248 =>
                intro w q hq6 hww hn248 H locs hP hD hS ls hl
                refine lv_iload hx hb dL_isSong_248 (lv_at hl 0 rfl) ?_
                refine lv_aload_n hx hb dL_isSong_250 rfl (lv_at hl 6 rfl) ?_
                refine lv_bipush (v := 9) hx hb dL_isSong_251 (by decide) ?_
                refine xo_Vi (As := [.int 9]) (rest := [.int q]) hx hb hml hown hts hK hN hZ hP hD hS hA mb_X7_count mw_2_6 mw_2_7 mw_2_8 (k_X7_count l D cI cZ cS x0 xs xv ho0 ho1 pd0 pd1 m0 ts0 ts1 a ha sa cn cs sc tm tv pd sv ln old sz z (9 : Int32) hRS hI) 0 7 rfl rfl (fun _ => xwW_f) (by decide) (by decide) rfl hl.1 rfl (Nat.le_of_ble_eq_true rfl) dL_isSong_253 ⟨Nat.zero_le _, Nat.zero_le _⟩ (fun r253 u253 H locs hw hP hD hS => ?_)
                have p253 : r253 = cntR z ln sz (9 : Int32) := hw
                have hP : va_P D vwCl (xwW cI cZ cS x0 xs xv ho0 ho1 pd0 pd1 m0 ts0 ts1 a ha sa cn cs sc tm tv pd sv ln old sz z) H := hP
                have hD : va_D A (xwW cI cZ cS x0 xs xv ho0 ho1 pd0 pd1 m0 ts0 ts1 a ha sa cn cs sc tm tv pd sv ln old sz z) := hD
                refine xk_top (z := (z 7)) (by exact p253.trans (ct_9 _ _ _)) ?_
                refine lv_icmp_ge (tgt := 467) hx hb dL_isSong_256 (by decide) (fun c256 => ?_) (fun c256 => ?_)
                · have t256 : (z 7).toInt ≤ q.toInt := xi_le rfl rfl c256
                  refine lv_iload hx hb dL_isSong_467 (lv_at hl 2 rfl) ?_
                  refine lv_if_eq (tgt := 507) hx hb dL_isSong_469 (by decide) (fun c469 => absurd c469 (by decide)) (fun _ => ?_)
                  refine lv_iload_n hx hb dL_isSong_472 rfl (lv_at hl 4 rfl) ?_
                  refine lv_aload_n hx hb dL_isSong_473 rfl (lv_at hl 6 rfl) ?_
                  refine lv_bipush (v := 7) hx hb dL_isSong_474 (by decide) ?_
                  refine xo_Vi (As := [.int 7]) (rest := [.int u]) hx hb hml hown hts hK hN hZ hP hD hS hA mb_X7_count mw_2_6 mw_2_7 mw_2_8 (k_X7_count l D cI cZ cS x0 xs xv ho0 ho1 pd0 pd1 m0 ts0 ts1 a ha sa cn cs sc tm tv pd sv ln old sz z (7 : Int32) hRS hI) 0 7 rfl rfl (fun _ => xwW_f) (by decide) (by decide) rfl hl.1 rfl (Nat.le_of_ble_eq_true rfl) dL_isSong_476 ⟨Nat.zero_le _, Nat.zero_le _⟩ (fun r476 u476 H locs hw hP hD hS => ?_)
                  have p476 : r476 = cntR z ln sz (7 : Int32) := hw
                  have hP : va_P D vwCl (xwW cI cZ cS x0 xs xv ho0 ho1 pd0 pd1 m0 ts0 ts1 a ha sa cn cs sc tm tv pd sv ln old sz z) H := hP
                  have hD : va_D A (xwW cI cZ cS x0 xs xv ho0 ho1 pd0 pd1 m0 ts0 ts1 a ha sa cn cs sc tm tv pd sv ln old sz z) := hD
                  refine xk_top (z := (sumS z (z 6).toInt.toNat)) (by exact p476.trans (ct_7 _ _ _)) ?_
                  refine lv_icmp_ne (tgt := 507) hx hb dL_isSong_479 (by decide) (fun c479 => ?_) (fun c479 => ?_)
                  · have t479 : ¬ u.toInt = (sumS z (z 6).toInt.toNat).toInt := xi_ne rfl rfl c479
                    have d479 : ¬ u = (sumS z (z 6).toInt.toNat) := c479
                    exact absurd hu6 c479
                  · have t479 : u.toInt = (sumS z (z 6).toInt.toNat).toInt := xi_eq rfl rfl c479
                    have d479 : u = (sumS z (z 6).toInt.toNat) := c479
                    refine lv_iload_n hx hb dL_isSong_482 rfl (lv_at hl 3 rfl) ?_
                    refine lv_aload_n hx hb dL_isSong_483 rfl (lv_at hl 6 rfl) ?_
                    refine lv_bipush (v := 8) hx hb dL_isSong_484 (by decide) ?_
                    refine xo_Vi (As := [.int 8]) (rest := [.int v]) hx hb hml hown hts hK hN hZ hP hD hS hA mb_X7_count mw_2_6 mw_2_7 mw_2_8 (k_X7_count l D cI cZ cS x0 xs xv ho0 ho1 pd0 pd1 m0 ts0 ts1 a ha sa cn cs sc tm tv pd sv ln old sz z (8 : Int32) hRS hI) 0 7 rfl rfl (fun _ => xwW_f) (by decide) (by decide) rfl hl.1 rfl (Nat.le_of_ble_eq_true rfl) dL_isSong_486 ⟨Nat.zero_le _, Nat.zero_le _⟩ (fun r486 u486 H locs hw hP hD hS => ?_)
                    have p486 : r486 = cntR z ln sz (8 : Int32) := hw
                    have hP : va_P D vwCl (xwW cI cZ cS x0 xs xv ho0 ho1 pd0 pd1 m0 ts0 ts1 a ha sa cn cs sc tm tv pd sv ln old sz z) H := hP
                    have hD : va_D A (xwW cI cZ cS x0 xs xv ho0 ho1 pd0 pd1 m0 ts0 ts1 a ha sa cn cs sc tm tv pd sv ln old sz z) := hD
                    refine xk_top (z := (sumM z (z 6).toInt.toNat)) (by exact p486.trans (ct_8 _ _ _)) ?_
                    refine lv_icmp_ne (tgt := 507) hx hb dL_isSong_489 (by decide) (fun c489 => ?_) (fun c489 => ?_)
                    · have t489 : ¬ v.toInt = (sumM z (z 6).toInt.toNat).toInt := xi_ne rfl rfl c489
                      have d489 : ¬ v = (sumM z (z 6).toInt.toNat) := c489
                      exact absurd hv6 c489
                    · have t489 : v.toInt = (sumM z (z 6).toInt.toNat).toInt := xi_eq rfl rfl c489
                      have d489 : v = (sumM z (z 6).toInt.toNat) := c489
                      refine lv_iload hx hb dL_isSong_492 (lv_at hl 1 rfl) ?_
                      refine lv_aload_n hx hb dL_isSong_494 rfl (lv_at hl 6 rfl) ?_
                      refine lv_bipush (v := 10) hx hb dL_isSong_495 (by decide) ?_
                      refine xo_Vi (As := [.int 10]) (rest := [.int w]) hx hb hml hown hts hK hN hZ hP hD hS hA mb_X7_count mw_2_6 mw_2_7 mw_2_8 (k_X7_count l D cI cZ cS x0 xs xv ho0 ho1 pd0 pd1 m0 ts0 ts1 a ha sa cn cs sc tm tv pd sv ln old sz z (10 : Int32) hRS hI) 0 7 rfl rfl (fun _ => xwW_f) (by decide) (by decide) rfl hl.1 rfl (Nat.le_of_ble_eq_true rfl) dL_isSong_497 ⟨Nat.zero_le _, Nat.zero_le _⟩ (fun r497 u497 H locs hw hP hD hS => ?_)
                      have p497 : r497 = cntR z ln sz (10 : Int32) := hw
                      have hP : va_P D vwCl (xwW cI cZ cS x0 xs xv ho0 ho1 pd0 pd1 m0 ts0 ts1 a ha sa cn cs sc tm tv pd sv ln old sz z) H := hP
                      have hD : va_D A (xwW cI cZ cS x0 xs xv ho0 ho1 pd0 pd1 m0 ts0 ts1 a ha sa cn cs sc tm tv pd sv ln old sz z) := hD
                      refine xk_top (z := (sumR z (z 7).toInt.toNat)) (by exact p497.trans (ct_10 _ _ _)) ?_
                      refine lv_icmp_ne (tgt := 507) hx hb dL_isSong_500 (by decide) (fun c500 => ?_) (fun c500 => ?_)
                      · have t500 : ¬ w.toInt = (sumR z (z 7).toInt.toNat).toInt := xi_ne rfl rfl c500
                        have d500 : ¬ w = (sumR z (z 7).toInt.toNat) := c500
                        exact absurd (by rw [hww, show q.toInt.toNat = (z 7).toInt.toNat from by omega]) c500
                      · have t500 : w.toInt = (sumR z (z 7).toInt.toNat).toInt := xi_eq rfl rfl c500
                        have d500 : w = (sumR z (z 7).toInt.toNat) := c500
                        refine lv_iconst (v := 1) hx hb dL_isSong_503 (by decide) ?_
                        refine lv_goto (tgt := 508) hx hb dL_isSong_504 (by decide) ?_
                        exact xk_retz () hx hb hr hlocks (by decide) (xk_P hP (by rfl)) (by rfl) hS dL_isSong_508 hQ
                · have t256 : q.toInt < (z 7).toInt := xi_nle rfl rfl c256
                  refine lv_iload hx hb dL_isSong_259 (lv_at hl 2 rfl) ?_
                  refine lv_if_eq (tgt := 467) hx hb dL_isSong_261 (by decide) (fun c261 => absurd c261 (by decide)) (fun _ => ?_)
                  have hsc : strC z q := ⟨by omega, by omega⟩
                  obtain ⟨hr1, hr2, hr3⟩ := hI.2.2.1.2 q.toInt.toNat (by omega)
                  have h13 : ((ofZ z q.toInt.toNat 1) + 3).toInt = (ofZ z q.toInt.toNat 1).toInt + 3 := xi_add rfl (by decide) (by omega) (by omega)
                  refine lv_aload_n hx hb dL_isSong_264 rfl (lv_at hl 6 rfl) ?_
                  refine lv_iload hx hb dL_isSong_265 (lv_at hl 0 rfl) ?_
                  refine lv_iconst (v := 0) hx hb dL_isSong_267 (by decide) ?_
                  refine xo_Vi (As := [.int q, .int 0]) (rest := []) hx hb hml hown hts hK hN hZ hP hD hS hA mb_X7_stretch mw_2_121 mw_2_122 mw_2_123 (k_X7_stretch l D cI cZ cS x0 xs xv ho0 ho1 pd0 pd1 m0 ts0 ts1 a ha sa cn cs sc tm tv pd sv ln old sz z q (0 : Int32) hRS hI) 0 7 rfl rfl (fun _ => xwW_f) (by decide) (by decide) rfl hl.1 rfl (Nat.le_of_ble_eq_true rfl) dL_isSong_268 ⟨Nat.zero_le _, Nat.zero_le _⟩ (fun r268 u268 H locs hw hP hD hS => ?_)
                  have p268 : strA z q (0 : Int32) r268 := hw
                  have hP : va_P D vwCl (xwW cI cZ cS x0 xs xv ho0 ho1 pd0 pd1 m0 ts0 ts1 a ha sa cn cs sc tm tv pd sv ln old sz z) H := hP
                  have hD : va_D A (xwW cI cZ cS x0 xs xv ho0 ho1 pd0 pd1 m0 ts0 ts1 a ha sa cn cs sc tm tv pd sv ln old sz z) := hD
                  refine xk_top (z := (ofZ z q.toInt.toNat 0)) (by exact st_0 hsc p268) ?_
                  refine lv_istore (lv' := [(7, .int (ofZ z q.toInt.toNat 0)), (6, .int q), (5, .int w), (4, .int 1), (3, .int v), (2, .int u), (1, .int (z 6)), (0, .ref x0)]) hx hb dL_isSong_271 hl (by decide) rfl (fun ls hl => ?_)
                  refine lv_aload_n hx hb dL_isSong_273 rfl (lv_at hl 7 rfl) ?_
                  refine lv_iload hx hb dL_isSong_274 (lv_at hl 1 rfl) ?_
                  refine lv_iconst (v := 3) hx hb dL_isSong_276 (by decide) ?_
                  refine xo_Vi (As := [.int q, .int 3]) (rest := []) hx hb hml hown hts hK hN hZ hP hD hS hA mb_X7_stretch mw_2_121 mw_2_122 mw_2_123 (k_X7_stretch l D cI cZ cS x0 xs xv ho0 ho1 pd0 pd1 m0 ts0 ts1 a ha sa cn cs sc tm tv pd sv ln old sz z q (3 : Int32) hRS hI) 0 7 rfl rfl (fun _ => xwW_f) (by decide) (by decide) rfl hl.1 rfl (Nat.le_of_ble_eq_true rfl) dL_isSong_277 ⟨Nat.zero_le _, Nat.zero_le _⟩ (fun r277 u277 H locs hw hP hD hS => ?_)
                  have p277 : strA z q (3 : Int32) r277 := hw
                  have hP : va_P D vwCl (xwW cI cZ cS x0 xs xv ho0 ho1 pd0 pd1 m0 ts0 ts1 a ha sa cn cs sc tm tv pd sv ln old sz z) H := hP
                  have hD : va_D A (xwW cI cZ cS x0 xs xv ho0 ho1 pd0 pd1 m0 ts0 ts1 a ha sa cn cs sc tm tv pd sv ln old sz z) := hD
                  have hs3 := st_3 hsc p277
                  refine lv_istore (lv' := [(8, .int r277), (7, .int (ofZ z q.toInt.toNat 0)), (6, .int q), (5, .int w), (4, .int 1), (3, .int v), (2, .int u), (1, .int (z 6)), (0, .ref x0)]) hx hb dL_isSong_280 hl (by decide) rfl (fun ls hl => ?_)
                  refine lv_iload hx hb dL_isSong_282 (lv_at hl 3 rfl) ?_
                  refine lv_iload hx hb dL_isSong_284 (lv_at hl 1 rfl) ?_
                  refine lv_iadd hx hb dL_isSong_286 ?_
                  refine lv_topi (fun x286 e286 => ?_)
                  refine lv_istore (lv' := [(5, .int x286), (8, .int r277), (7, .int (ofZ z q.toInt.toNat 0)), (6, .int q), (4, .int 1), (3, .int v), (2, .int u), (1, .int (z 6)), (0, .ref x0)]) hx hb dL_isSong_287 hl (by decide) rfl (fun ls hl => ?_)
                  refine lv_iload hx hb dL_isSong_289 (lv_at hl 2 rfl) ?_
                  refine lv_if_le (tgt := 458) hx hb dL_isSong_291 (by decide) (fun c291 => ?_) (fun c291 => ?_)
                  · have t291 : (ofZ z q.toInt.toNat 0).toInt ≤ 0 := xi_le rfl (by decide) c291
                    omega
                  · have t291 : 0 < (ofZ z q.toInt.toNat 0).toInt := xi_nle rfl (by decide) c291
                    refine lv_iload hx hb dL_isSong_294 (lv_at hl 2 rfl) ?_
                    refine lv_bipush (v := 100) hx hb dL_isSong_296 (by decide) ?_
                    refine lv_icmp_ge (tgt := 458) hx hb dL_isSong_298 (by decide) (fun c298 => ?_) (fun c298 => ?_)
                    · have t298 : 100 ≤ (ofZ z q.toInt.toNat 0).toInt := xi_le (by decide) rfl c298
                      omega
                    · have t298 : (ofZ z q.toInt.toNat 0).toInt < 100 := xi_nle (by decide) rfl c298
                      refine lv_aload_n hx hb dL_isSong_301 rfl (lv_at hl 8 rfl) ?_
                      refine lv_iload hx hb dL_isSong_302 (lv_at hl 3 rfl) ?_
                      refine lv_iconst (v := 1) hx hb dL_isSong_304 (by decide) ?_
                      refine xo_Vi (As := [.int q, .int 1]) (rest := []) hx hb hml hown hts hK hN hZ hP hD hS hA mb_X7_stretch mw_2_121 mw_2_122 mw_2_123 (k_X7_stretch l D cI cZ cS x0 xs xv ho0 ho1 pd0 pd1 m0 ts0 ts1 a ha sa cn cs sc tm tv pd sv ln old sz z q (1 : Int32) hRS hI) 0 7 rfl rfl (fun _ => xwW_f) (by decide) (by decide) rfl hl.1 rfl (Nat.le_of_ble_eq_true rfl) dL_isSong_305 ⟨Nat.zero_le _, Nat.zero_le _⟩ (fun r305 u305 H locs hw hP hD hS => ?_)
                      have p305 : strA z q (1 : Int32) r305 := hw
                      have hP : va_P D vwCl (xwW cI cZ cS x0 xs xv ho0 ho1 pd0 pd1 m0 ts0 ts1 a ha sa cn cs sc tm tv pd sv ln old sz z) H := hP
                      have hD : va_D A (xwW cI cZ cS x0 xs xv ho0 ho1 pd0 pd1 m0 ts0 ts1 a ha sa cn cs sc tm tv pd sv ln old sz z) := hD
                      refine xk_top (z := ((ofZ z q.toInt.toNat 1) + 3)) (by exact st_1 hsc p305) ?_
                      refine lv_if_lt (tgt := 458) hx hb dL_isSong_308 (by decide) (fun c308 => ?_) (fun c308 => ?_)
                      · have t308 : ((ofZ z q.toInt.toNat 1) + 3).toInt < 0 := xi_lt rfl (by decide) c308
                        omega
                      · have t308 : 0 ≤ ((ofZ z q.toInt.toNat 1) + 3).toInt := xi_nlt rfl (by decide) c308
                        refine lv_aload_n hx hb dL_isSong_311 rfl (lv_at hl 8 rfl) ?_
                        refine lv_iload hx hb dL_isSong_312 (lv_at hl 3 rfl) ?_
                        refine lv_iconst (v := 1) hx hb dL_isSong_314 (by decide) ?_
                        refine xo_Vi (As := [.int q, .int 1]) (rest := []) hx hb hml hown hts hK hN hZ hP hD hS hA mb_X7_stretch mw_2_121 mw_2_122 mw_2_123 (k_X7_stretch l D cI cZ cS x0 xs xv ho0 ho1 pd0 pd1 m0 ts0 ts1 a ha sa cn cs sc tm tv pd sv ln old sz z q (1 : Int32) hRS hI) 0 7 rfl rfl (fun _ => xwW_f) (by decide) (by decide) rfl hl.1 rfl (Nat.le_of_ble_eq_true rfl) dL_isSong_315 ⟨Nat.zero_le _, Nat.zero_le _⟩ (fun r315 u315 H locs hw hP hD hS => ?_)
                        have p315 : strA z q (1 : Int32) r315 := hw
                        have hP : va_P D vwCl (xwW cI cZ cS x0 xs xv ho0 ho1 pd0 pd1 m0 ts0 ts1 a ha sa cn cs sc tm tv pd sv ln old sz z) H := hP
                        have hD : va_D A (xwW cI cZ cS x0 xs xv ho0 ho1 pd0 pd1 m0 ts0 ts1 a ha sa cn cs sc tm tv pd sv ln old sz z) := hD
                        refine xk_top (z := ((ofZ z q.toInt.toNat 1) + 3)) (by exact st_1 hsc p315) ?_
                        refine lv_bipush (v := 7) hx hb dL_isSong_318 (by decide) ?_
                        refine lv_icmp_ge (tgt := 458) hx hb dL_isSong_320 (by decide) (fun c320 => ?_) (fun c320 => ?_)
                        · have t320 : 7 ≤ ((ofZ z q.toInt.toNat 1) + 3).toInt := xi_le (by decide) rfl c320
                          omega
                        · have t320 : ((ofZ z q.toInt.toNat 1) + 3).toInt < 7 := xi_nle (by decide) rfl c320
                          have J381 : ∀   (H : Heap) (locs : List Loc), va_P D vwCl (xwW cI cZ cS x0 xs xv ho0 ho1 pd0 pd1 m0 ts0 ts1 a ha sa cn cs sc tm tv pd sv ln old sz z) H → va_D A (xwW cI cZ cS x0 xs xv ho0 ho1 pd0 pd1 m0 ts0 ts1 a ha sa cn cs sc tm tv pd sv ln old sz z) → va_S A s.heap H locs → ∀ ls : Array Slot, lv_has ls 12 [(5, .int x286), (8, .int r277), (7, .int (ofZ z q.toInt.toNat 0)), (6, .int q), (4, .int 1), (3, .int v), (2, .int u), (1, .int (z 6)), (0, .ref x0)] → W p l e ({ frames := 6, cells := 0, slots := 0, locals := 134 } : Room) s m args below meth c H locs 0 0 Q (F0 m 381 ls []) := by
                            intro  H locs hP hD hS ls hl
                            refine lv_iload_n hx hb dL_isSong_381 rfl (lv_at hl 7 rfl) ?_
                            refine lv_if_ne (tgt := 400) hx hb dL_isSong_382 (by decide) (fun c382 => ?_) (fun c382 => ?_)
                            · have t382 : ¬ (z 6).toInt = 0 := xi_ne rfl (by decide) c382
                              have d382 : ¬ (z 6) = 0 := c382
                              refine lv_aload_n hx hb dL_isSong_400 rfl (lv_at hl 8 rfl) ?_
                              refine lv_iload hx hb dL_isSong_401 (lv_at hl 3 rfl) ?_
                              refine lv_iconst (v := 0) hx hb dL_isSong_403 (by decide) ?_
                              refine xo_Vi (As := [.int q, .int 0]) (rest := []) hx hb hml hown hts hK hN hZ hP hD hS hA mb_X7_meets mw_2_161 mw_2_162 mw_2_163 (k_X7_meets l D cI cZ cS x0 xs xv ho0 ho1 pd0 pd1 m0 ts0 ts1 a ha sa cn cs sc tm tv pd sv ln old sz z q (0 : Int32) hRS hI) 0 7 rfl rfl (fun _ => xwW_f) (by decide) (by decide) rfl hl.1 rfl (Nat.le_of_ble_eq_true rfl) dL_isSong_404 ⟨Nat.zero_le _, Nat.zero_le _⟩ (fun r404 u404 H locs hw hP hD hS => ?_)
                              have p404 : meetA z q (0 : Int32) r404 := hw
                              have hP : va_P D vwCl (xwW cI cZ cS x0 xs xv ho0 ho1 pd0 pd1 m0 ts0 ts1 a ha sa cn cs sc tm tv pd sv ln old sz z) H := hP
                              have hD : va_D A (xwW cI cZ cS x0 xs xv ho0 ho1 pd0 pd1 m0 ts0 ts1 a ha sa cn cs sc tm tv pd sv ln old sz z) := hD
                              have hk404 := mt_is hsc (by decide) d382 p404
                              refine lv_aload_n hx hb dL_isSong_407 rfl (lv_at hl 8 rfl) ?_
                              refine lv_iload hx hb dL_isSong_408 (lv_at hl 3 rfl) ?_
                              refine lv_iconst (v := 1) hx hb dL_isSong_410 (by decide) ?_
                              refine xo_Vi (As := [.int q, .int 1]) (rest := [.int r404]) hx hb hml hown hts hK hN hZ hP hD hS hA mb_X7_meets mw_2_161 mw_2_162 mw_2_163 (k_X7_meets l D cI cZ cS x0 xs xv ho0 ho1 pd0 pd1 m0 ts0 ts1 a ha sa cn cs sc tm tv pd sv ln old sz z q (1 : Int32) hRS hI) 0 7 rfl rfl (fun _ => xwW_f) (by decide) (by decide) rfl hl.1 rfl (Nat.le_of_ble_eq_true rfl) dL_isSong_411 ⟨Nat.zero_le _, Nat.zero_le _⟩ (fun r411 u411 H locs hw hP hD hS => ?_)
                              have p411 : meetA z q (1 : Int32) r411 := hw
                              have hP : va_P D vwCl (xwW cI cZ cS x0 xs xv ho0 ho1 pd0 pd1 m0 ts0 ts1 a ha sa cn cs sc tm tv pd sv ln old sz z) H := hP
                              have hD : va_D A (xwW cI cZ cS x0 xs xv ho0 ho1 pd0 pd1 m0 ts0 ts1 a ha sa cn cs sc tm tv pd sv ln old sz z) := hD
                              have hk411 := mt_is hsc (by decide) d382 p411
                              refine lv_icmp_ne (tgt := 458) hx hb dL_isSong_414 (by decide) (fun c414 => ?_) (fun c414 => ?_)
                              · have t414 : ¬ r404.toInt = r411.toInt := xi_ne rfl rfl c414
                                have d414 : ¬ r404 = r411 := c414
                                exact absurd (xi_ext (leastK_u hk404 hk411)) c414
                              · have t414 : r404.toInt = r411.toInt := xi_eq rfl rfl c414
                                have d414 : r404 = r411 := c414
                                refine lv_aload_n hx hb dL_isSong_417 rfl (lv_at hl 8 rfl) ?_
                                refine lv_iload hx hb dL_isSong_418 (lv_at hl 3 rfl) ?_
                                refine lv_iconst (v := 0) hx hb dL_isSong_420 (by decide) ?_
                                refine xo_Vi (As := [.int q, .int 0]) (rest := []) hx hb hml hown hts hK hN hZ hP hD hS hA mb_X7_meets mw_2_161 mw_2_162 mw_2_163 (k_X7_meets l D cI cZ cS x0 xs xv ho0 ho1 pd0 pd1 m0 ts0 ts1 a ha sa cn cs sc tm tv pd sv ln old sz z q (0 : Int32) hRS hI) 0 7 rfl rfl (fun _ => xwW_f) (by decide) (by decide) rfl hl.1 rfl (Nat.le_of_ble_eq_true rfl) dL_isSong_421 ⟨Nat.zero_le _, Nat.zero_le _⟩ (fun r421 u421 H locs hw hP hD hS => ?_)
                                have p421 : meetA z q (0 : Int32) r421 := hw
                                have hP : va_P D vwCl (xwW cI cZ cS x0 xs xv ho0 ho1 pd0 pd1 m0 ts0 ts1 a ha sa cn cs sc tm tv pd sv ln old sz z) H := hP
                                have hD : va_D A (xwW cI cZ cS x0 xs xv ho0 ho1 pd0 pd1 m0 ts0 ts1 a ha sa cn cs sc tm tv pd sv ln old sz z) := hD
                                have hk421 := mt_is hsc (by decide) d382 p421
                                have hk421b : 1 ≤ r421.toInt ∧ r421.toInt ≤ (ofZ z q.toInt.toNat 0).toInt := hk421.1
                                refine lv_if_le (tgt := 458) hx hb dL_isSong_424 (by decide) (fun c424 => ?_) (fun c424 => ?_)
                                · have t424 : r421.toInt ≤ 0 := xi_le rfl (by decide) c424
                                  omega
                                · have t424 : 0 < r421.toInt := xi_nle rfl (by decide) c424
                                  refine lv_aload_n hx hb dL_isSong_427 rfl (lv_at hl 8 rfl) ?_
                                  refine lv_iload hx hb dL_isSong_428 (lv_at hl 3 rfl) ?_
                                  refine lv_iconst (v := 0) hx hb dL_isSong_430 (by decide) ?_
                                  refine xo_Vi (As := [.int q, .int 0]) (rest := []) hx hb hml hown hts hK hN hZ hP hD hS hA mb_X7_meets mw_2_161 mw_2_162 mw_2_163 (k_X7_meets l D cI cZ cS x0 xs xv ho0 ho1 pd0 pd1 m0 ts0 ts1 a ha sa cn cs sc tm tv pd sv ln old sz z q (0 : Int32) hRS hI) 0 7 rfl rfl (fun _ => xwW_f) (by decide) (by decide) rfl hl.1 rfl (Nat.le_of_ble_eq_true rfl) dL_isSong_431 ⟨Nat.zero_le _, Nat.zero_le _⟩ (fun r431 u431 H locs hw hP hD hS => ?_)
                                  have p431 : meetA z q (0 : Int32) r431 := hw
                                  have hP : va_P D vwCl (xwW cI cZ cS x0 xs xv ho0 ho1 pd0 pd1 m0 ts0 ts1 a ha sa cn cs sc tm tv pd sv ln old sz z) H := hP
                                  have hD : va_D A (xwW cI cZ cS x0 xs xv ho0 ho1 pd0 pd1 m0 ts0 ts1 a ha sa cn cs sc tm tv pd sv ln old sz z) := hD
                                  have hk431 := mt_is hsc (by decide) d382 p431
                                  have hk431b : 1 ≤ r431.toInt ∧ r431.toInt ≤ (ofZ z q.toInt.toNat 0).toInt := hk431.1
                                  refine lv_iload hx hb dL_isSong_434 (lv_at hl 2 rfl) ?_
                                  refine lv_icmp_gt (tgt := 458) hx hb dL_isSong_436 (by decide) (fun c436 => ?_) (fun c436 => ?_)
                                  · have t436 : (ofZ z q.toInt.toNat 0).toInt < r431.toInt := xi_lt rfl rfl c436
                                    omega
                                  · have t436 : r431.toInt ≤ (ofZ z q.toInt.toNat 0).toInt := xi_nlt rfl rfl c436
                                    refine lv_aload_n hx hb dL_isSong_439 rfl (lv_at hl 8 rfl) ?_
                                    refine lv_iload hx hb dL_isSong_440 (lv_at hl 3 rfl) ?_
                                    refine lv_iconst (v := 0) hx hb dL_isSong_442 (by decide) ?_
                                    refine xo_Vi (As := [.int q, .int 0]) (rest := []) hx hb hml hown hts hK hN hZ hP hD hS hA mb_X7_meets mw_2_161 mw_2_162 mw_2_163 (k_X7_meets l D cI cZ cS x0 xs xv ho0 ho1 pd0 pd1 m0 ts0 ts1 a ha sa cn cs sc tm tv pd sv ln old sz z q (0 : Int32) hRS hI) 0 7 rfl rfl (fun _ => xwW_f) (by decide) (by decide) rfl hl.1 rfl (Nat.le_of_ble_eq_true rfl) dL_isSong_443 ⟨Nat.zero_le _, Nat.zero_le _⟩ (fun r443 u443 H locs hw hP hD hS => ?_)
                                    have p443 : meetA z q (0 : Int32) r443 := hw
                                    have hP : va_P D vwCl (xwW cI cZ cS x0 xs xv ho0 ho1 pd0 pd1 m0 ts0 ts1 a ha sa cn cs sc tm tv pd sv ln old sz z) H := hP
                                    have hD : va_D A (xwW cI cZ cS x0 xs xv ho0 ho1 pd0 pd1 m0 ts0 ts1 a ha sa cn cs sc tm tv pd sv ln old sz z) := hD
                                    have hk443 := mt_is hsc (by decide) d382 p443
                                    have hk443b : 1 ≤ r443.toInt ∧ r443.toInt ≤ (ofZ z q.toInt.toNat 0).toInt := hk443.1
                                    have hsu := sumS_in hI.2.1 (z 6).toInt.toNat (by omega)
                                    rw [← hu6] at hsu
                                    have hmul := mul_in (k := r443.toInt) (b := u.toInt) (by omega) (by omega)
                                    refine lv_iload_n hx hb dL_isSong_446 rfl (lv_at hl 6 rfl) ?_
                                    refine lv_imul hx hb dL_isSong_447 ?_
                                    refine lv_topi (fun x447 e447 => ?_)
                                    have t447 : x447.toInt = r443.toInt * u.toInt := by rw [e447]; exact xi_mul rfl rfl (by omega) (by omega)
                                    refine lv_iload hx hb dL_isSong_448 (lv_at hl 2 rfl) ?_
                                    refine lv_irem hx hb dL_isSong_450 (i_ne0 (by omega)) ?_
                                    refine lv_topi (fun x450 e450 => ?_)
                                    have t450 : x450.toInt = x447.toInt % ((ofZ z q.toInt.toNat 0).toInt) := by rw [e450]; exact xi_rem rfl rfl (by omega) (by omega)
                                    refine lv_if_ne (tgt := 458) hx hb dL_isSong_451 (by decide) (fun c451 => ?_) (fun c451 => ?_)
                                    · have t451 : ¬ x450.toInt = 0 := xi_ne rfl (by decide) c451
                                      have d451 : ¬ x450 = 0 := c451
                                      exact absurd (by rw [t450, t447, hu6]; exact hk443.2.1) t451
                                    · have t451 : x450.toInt = 0 := xi_eq rfl (by decide) c451
                                      have d451 : x450 = 0 := c451
                                      refine lv_iconst (v := 1) hx hb dL_isSong_454 (by decide) ?_
                                      refine lv_goto (tgt := 459) hx hb dL_isSong_455 (by decide) ?_
                                      refine lv_istore (lv' := [(4, .int 1), (5, .int x286), (8, .int r277), (7, .int (ofZ z q.toInt.toNat 0)), (6, .int q), (3, .int v), (2, .int u), (1, .int (z 6)), (0, .ref x0)]) hx hb dL_isSong_459 hl (by decide) rfl (fun ls hl => ?_)
                                      obtain ⟨x461, e461⟩ : ∃ y : Int32, y = q + 1 := ⟨_, rfl⟩
                                      have t461 : x461.toInt = q.toInt + 1 := by rw [e461]; exact xi_add rfl (by decide) (by omega) (by omega)
                                      refine lv_iinc (v := x461) (lv' := [(6, .int x461), (4, .int 1), (5, .int x286), (8, .int r277), (7, .int (ofZ z q.toInt.toNat 0)), (3, .int v), (2, .int u), (1, .int (z 6)), (0, .ref x0)]) hx hb dL_isSong_461 hl (k := 4) rfl (by rw [e461]; rfl) (by decide) rfl (fun ls hl => ?_)
                                      refine lv_goto (tgt := 248) hx hb dL_isSong_464 (by decide) ?_
                                      exact ih248  x286 x461 (by omega) (by rw [e286, hww, show x461.toInt.toNat = q.toInt.toNat + 1 from by omega]; rfl) (by omega) _ _ hP hD hS ls (lv_sub hl [0, 2, 1, 5, 6, 7, 8] rfl)
                            · have t382 : (z 6).toInt = 0 := xi_eq rfl (by decide) c382
                              have d382 : (z 6) = 0 := c382
                              refine lv_aload_n hx hb dL_isSong_385 rfl (lv_at hl 8 rfl) ?_
                              refine lv_iload hx hb dL_isSong_386 (lv_at hl 3 rfl) ?_
                              refine lv_iconst (v := 0) hx hb dL_isSong_388 (by decide) ?_
                              refine xo_Vi (As := [.int q, .int 0]) (rest := []) hx hb hml hown hts hK hN hZ hP hD hS hA mb_X7_meets mw_2_161 mw_2_162 mw_2_163 (k_X7_meets l D cI cZ cS x0 xs xv ho0 ho1 pd0 pd1 m0 ts0 ts1 a ha sa cn cs sc tm tv pd sv ln old sz z q (0 : Int32) hRS hI) 0 7 rfl rfl (fun _ => xwW_f) (by decide) (by decide) rfl hl.1 rfl (Nat.le_of_ble_eq_true rfl) dL_isSong_389 ⟨Nat.zero_le _, Nat.zero_le _⟩ (fun r389 u389 H locs hw hP hD hS => ?_)
                              have p389 : meetA z q (0 : Int32) r389 := hw
                              have hP : va_P D vwCl (xwW cI cZ cS x0 xs xv ho0 ho1 pd0 pd1 m0 ts0 ts1 a ha sa cn cs sc tm tv pd sv ln old sz z) H := hP
                              have hD : va_D A (xwW cI cZ cS x0 xs xv ho0 ho1 pd0 pd1 m0 ts0 ts1 a ha sa cn cs sc tm tv pd sv ln old sz z) := hD
                              refine xk_top (z := (-5)) (by exact mt_none hsc (by decide) d382 p389) ?_
                              refine lv_bipush (v := (-5)) hx hb dL_isSong_392 (by decide) ?_
                              refine lv_icmp_ne (tgt := 458) hx hb dL_isSong_394 (by decide) (fun c394 => absurd (by decide) c394) (fun _ => ?_)
                              refine lv_goto (tgt := 454) hx hb dL_isSong_397 (by decide) ?_
                              refine lv_iconst (v := 1) hx hb dL_isSong_454 (by decide) ?_
                              refine lv_goto (tgt := 459) hx hb dL_isSong_455 (by decide) ?_
                              refine lv_istore (lv' := [(4, .int 1), (5, .int x286), (8, .int r277), (7, .int (ofZ z q.toInt.toNat 0)), (6, .int q), (3, .int v), (2, .int u), (1, .int (z 6)), (0, .ref x0)]) hx hb dL_isSong_459 hl (by decide) rfl (fun ls hl => ?_)
                              obtain ⟨x461, e461⟩ : ∃ y : Int32, y = q + 1 := ⟨_, rfl⟩
                              have t461 : x461.toInt = q.toInt + 1 := by rw [e461]; exact xi_add rfl (by decide) (by omega) (by omega)
                              refine lv_iinc (v := x461) (lv' := [(6, .int x461), (4, .int 1), (5, .int x286), (8, .int r277), (7, .int (ofZ z q.toInt.toNat 0)), (3, .int v), (2, .int u), (1, .int (z 6)), (0, .ref x0)]) hx hb dL_isSong_461 hl (k := 4) rfl (by rw [e461]; rfl) (by decide) rfl (fun ls hl => ?_)
                              refine lv_goto (tgt := 248) hx hb dL_isSong_464 (by decide) ?_
                              exact ih248  x286 x461 (by omega) (by rw [e286, hww, show x461.toInt.toNat = q.toInt.toNat + 1 from by omega]; rfl) (by omega) _ _ hP hD hS ls (lv_sub hl [0, 2, 1, 5, 6, 7, 8] rfl)
                          refine lv_aload_n hx hb dL_isSong_323 rfl (lv_at hl 8 rfl) ?_
                          refine lv_iload hx hb dL_isSong_324 (lv_at hl 3 rfl) ?_
                          refine lv_iconst (v := 2) hx hb dL_isSong_326 (by decide) ?_
                          refine xo_Vi (As := [.int q, .int 2]) (rest := []) hx hb hml hown hts hK hN hZ hP hD hS hA mb_X7_stretch mw_2_121 mw_2_122 mw_2_123 (k_X7_stretch l D cI cZ cS x0 xs xv ho0 ho1 pd0 pd1 m0 ts0 ts1 a ha sa cn cs sc tm tv pd sv ln old sz z q (2 : Int32) hRS hI) 0 7 rfl rfl (fun _ => xwW_f) (by decide) (by decide) rfl hl.1 rfl (Nat.le_of_ble_eq_true rfl) dL_isSong_327 ⟨Nat.zero_le _, Nat.zero_le _⟩ (fun r327 u327 H locs hw hP hD hS => ?_)
                          have p327 : strA z q (2 : Int32) r327 := hw
                          have hP : va_P D vwCl (xwW cI cZ cS x0 xs xv ho0 ho1 pd0 pd1 m0 ts0 ts1 a ha sa cn cs sc tm tv pd sv ln old sz z) H := hP
                          have hD : va_D A (xwW cI cZ cS x0 xs xv ho0 ho1 pd0 pd1 m0 ts0 ts1 a ha sa cn cs sc tm tv pd sv ln old sz z) := hD
                          refine xk_top (z := (ofZ z q.toInt.toNat 2)) (by exact st_2 hsc p327) ?_
                          refine lv_if_ne (tgt := 343) hx hb dL_isSong_330 (by decide) (fun c330 => ?_) (fun c330 => ?_)
                          · have t330 : ¬ (ofZ z q.toInt.toNat 2).toInt = 0 := xi_ne rfl (by decide) c330
                            have d330 : ¬ (ofZ z q.toInt.toNat 2) = 0 := c330
                            obtain ⟨⟨ha0, ha0b⟩, ha1, ha2⟩ := sing_mud hs0.2.2.2.2 hr1 (hr3.resolve_left d330) hs3
                            refine lv_aload_n hx hb dL_isSong_343 rfl (lv_at hl 8 rfl) ?_
                            refine lv_iload hx hb dL_isSong_344 (lv_at hl 3 rfl) ?_
                            refine lv_iconst (v := 2) hx hb dL_isSong_346 (by decide) ?_
                            refine xo_Vi (As := [.int q, .int 2]) (rest := []) hx hb hml hown hts hK hN hZ hP hD hS hA mb_X7_stretch mw_2_121 mw_2_122 mw_2_123 (k_X7_stretch l D cI cZ cS x0 xs xv ho0 ho1 pd0 pd1 m0 ts0 ts1 a ha sa cn cs sc tm tv pd sv ln old sz z q (2 : Int32) hRS hI) 0 7 rfl rfl (fun _ => xwW_f) (by decide) (by decide) rfl hl.1 rfl (Nat.le_of_ble_eq_true rfl) dL_isSong_347 ⟨Nat.zero_le _, Nat.zero_le _⟩ (fun r347 u347 H locs hw hP hD hS => ?_)
                            have p347 : strA z q (2 : Int32) r347 := hw
                            have hP : va_P D vwCl (xwW cI cZ cS x0 xs xv ho0 ho1 pd0 pd1 m0 ts0 ts1 a ha sa cn cs sc tm tv pd sv ln old sz z) H := hP
                            have hD : va_D A (xwW cI cZ cS x0 xs xv ho0 ho1 pd0 pd1 m0 ts0 ts1 a ha sa cn cs sc tm tv pd sv ln old sz z) := hD
                            refine xk_top (z := (ofZ z q.toInt.toNat 2)) (by exact st_2 hsc p347) ?_
                            refine lv_iconst (v := 1) hx hb dL_isSong_350 (by decide) ?_
                            refine lv_icmp_ne (tgt := 458) hx hb dL_isSong_351 (by decide) (fun c351 => ?_) (fun c351 => ?_)
                            · have t351 : ¬ (ofZ z q.toInt.toNat 2).toInt = 1 := xi_ne rfl (by decide) c351
                              have d351 : ¬ (ofZ z q.toInt.toNat 2) = 1 := c351
                              exact False.elim (hr3.elim (fun h9 => d330 h9) (fun h9 => c351 h9))
                            · have t351 : (ofZ z q.toInt.toNat 2).toInt = 1 := xi_eq rfl (by decide) c351
                              have d351 : (ofZ z q.toInt.toNat 2) = 1 := c351
                              refine lv_iload hx hb dL_isSong_354 (lv_at hl 1 rfl) ?_
                              refine lv_iload hx hb dL_isSong_356 (lv_at hl 1 rfl) ?_
                              refine lv_aload_n hx hb dL_isSong_358 rfl (lv_at hl 8 rfl) ?_
                              refine lv_iconst (v := 5) hx hb dL_isSong_359 (by decide) ?_
                              refine xo_Vi (As := [.int 5]) (rest := [.int r277, .int r277]) hx hb hml hown hts hK hN hZ hP hD hS hA mb_X7_count mw_2_6 mw_2_7 mw_2_8 (k_X7_count l D cI cZ cS x0 xs xv ho0 ho1 pd0 pd1 m0 ts0 ts1 a ha sa cn cs sc tm tv pd sv ln old sz z (5 : Int32) hRS hI) 0 7 rfl rfl (fun _ => xwW_f) (by decide) (by decide) rfl hl.1 rfl (Nat.le_of_ble_eq_true rfl) dL_isSong_360 ⟨Nat.zero_le _, Nat.zero_le _⟩ (fun r360 u360 H locs hw hP hD hS => ?_)
                              have p360 : r360 = cntR z ln sz (5 : Int32) := hw
                              have hP : va_P D vwCl (xwW cI cZ cS x0 xs xv ho0 ho1 pd0 pd1 m0 ts0 ts1 a ha sa cn cs sc tm tv pd sv ln old sz z) H := hP
                              have hD : va_D A (xwW cI cZ cS x0 xs xv ho0 ho1 pd0 pd1 m0 ts0 ts1 a ha sa cn cs sc tm tv pd sv ln old sz z) := hD
                              refine xk_top (z := (z 5)) (by exact p360.trans (ct_5 _ _ _)) ?_
                              refine lv_idiv hx hb dL_isSong_363 (i_ne0 (by omega)) ?_
                              refine lv_topi (fun x363 e363 => ?_)
                              have t363 : x363.toInt = r277.toInt / ((z 5).toInt) := by rw [e363]; exact xi_div rfl rfl (by omega) (by omega)
                              refine lv_isub hx hb dL_isSong_364 ?_
                              refine lv_topi (fun x364 e364 => ?_)
                              have t364 : x364.toInt = r277.toInt - x363.toInt := by rw [e364]; exact xi_sub rfl rfl (by omega) (by omega)
                              refine lv_iload hx hb dL_isSong_365 (lv_at hl 2 rfl) ?_
                              refine lv_icmp_ne (tgt := 458) hx hb dL_isSong_367 (by decide) (fun c367 => ?_) (fun c367 => ?_)
                              · have t367 : ¬ x364.toInt = (ofZ z q.toInt.toNat 0).toInt := xi_ne rfl rfl c367
                                have d367 : ¬ x364 = (ofZ z q.toInt.toNat 0) := c367
                                omega
                              · have t367 : x364.toInt = (ofZ z q.toInt.toNat 0).toInt := xi_eq rfl rfl c367
                                have d367 : x364 = (ofZ z q.toInt.toNat 0) := c367
                                refine lv_iload hx hb dL_isSong_370 (lv_at hl 1 rfl) ?_
                                refine lv_aload_n hx hb dL_isSong_372 rfl (lv_at hl 8 rfl) ?_
                                refine lv_iconst (v := 5) hx hb dL_isSong_373 (by decide) ?_
                                refine xo_Vi (As := [.int 5]) (rest := [.int r277]) hx hb hml hown hts hK hN hZ hP hD hS hA mb_X7_count mw_2_6 mw_2_7 mw_2_8 (k_X7_count l D cI cZ cS x0 xs xv ho0 ho1 pd0 pd1 m0 ts0 ts1 a ha sa cn cs sc tm tv pd sv ln old sz z (5 : Int32) hRS hI) 0 7 rfl rfl (fun _ => xwW_f) (by decide) (by decide) rfl hl.1 rfl (Nat.le_of_ble_eq_true rfl) dL_isSong_374 ⟨Nat.zero_le _, Nat.zero_le _⟩ (fun r374 u374 H locs hw hP hD hS => ?_)
                                have p374 : r374 = cntR z ln sz (5 : Int32) := hw
                                have hP : va_P D vwCl (xwW cI cZ cS x0 xs xv ho0 ho1 pd0 pd1 m0 ts0 ts1 a ha sa cn cs sc tm tv pd sv ln old sz z) H := hP
                                have hD : va_D A (xwW cI cZ cS x0 xs xv ho0 ho1 pd0 pd1 m0 ts0 ts1 a ha sa cn cs sc tm tv pd sv ln old sz z) := hD
                                refine xk_top (z := (z 5)) (by exact p374.trans (ct_5 _ _ _)) ?_
                                refine lv_irem hx hb dL_isSong_377 (i_ne0 (by omega)) ?_
                                refine lv_topi (fun x377 e377 => ?_)
                                have t377 : x377.toInt = r277.toInt % ((z 5).toInt) := by rw [e377]; exact xi_rem rfl rfl (by omega) (by omega)
                                refine lv_if_eq (tgt := 458) hx hb dL_isSong_378 (by decide) (fun c378 => ?_) (fun c378 => ?_)
                                · have t378 : x377.toInt = 0 := xi_eq rfl (by decide) c378
                                  have d378 : x377 = 0 := c378
                                  exact absurd (by omega) ha2
                                · have t378 : ¬ x377.toInt = 0 := xi_ne rfl (by decide) c378
                                  have d378 : ¬ x377 = 0 := c378
                                  exact J381   _ _ hP hD hS ls (lv_sub hl [0, 1, 2, 3, 4, 5, 6, 7, 8] rfl)
                          · have t330 : (ofZ z q.toInt.toNat 2).toInt = 0 := xi_eq rfl (by decide) c330
                            have d330 : (ofZ z q.toInt.toNat 2) = 0 := c330
                            refine lv_iload hx hb dL_isSong_333 (lv_at hl 1 rfl) ?_
                            refine lv_iload hx hb dL_isSong_335 (lv_at hl 2 rfl) ?_
                            refine lv_icmp_ne (tgt := 458) hx hb dL_isSong_337 (by decide) (fun c337 => ?_) (fun c337 => ?_)
                            · have t337 : ¬ r277.toInt = (ofZ z q.toInt.toNat 0).toInt := xi_ne rfl rfl c337
                              have d337 : ¬ r277 = (ofZ z q.toInt.toNat 0) := c337
                              exact absurd (xi_ext (by rw [hs3, sing_dry (by rw [d330]; decide)])) c337
                            · have t337 : r277.toInt = (ofZ z q.toInt.toNat 0).toInt := xi_eq rfl rfl c337
                              have d337 : r277 = (ofZ z q.toInt.toNat 0) := c337
                              refine lv_goto (tgt := 381) hx hb dL_isSong_340 (by decide) ?_
                              exact J381   _ _ hP hD hS ls (lv_sub hl [0, 1, 2, 3, 4, 5, 6, 7, 8] rfl)
            exact L248 13 (0 : Int32) (0 : Int32) (by omega) (by rfl) (by omega) _ _ hP hD hS ls (lv_sub hl [0, 1, 2, 3, 4, 5, 6] rfl)
          · have t34 : k.toInt < (z 6).toInt := xi_nle rfl rfl c34
            refine lv_iload hx hb dL_isSong_37 (lv_at hl 1 rfl) ?_
            refine lv_if_eq (tgt := 242) hx hb dL_isSong_39 (by decide) (fun c39 => absurd c39 (by decide)) (fun _ => ?_)
            have hlc : lineC z k := ⟨by omega, by omega⟩
            have h8 := (hI.2.1.2 k.toInt.toNat (by omega)).1
            refine lv_aload_n hx hb dL_isSong_42 rfl (lv_at hl 5 rfl) ?_
            refine lv_iload hx hb dL_isSong_43 (lv_at hl 0 rfl) ?_
            refine lv_iconst (v := 0) hx hb dL_isSong_45 (by decide) ?_
            refine xo_Vi (As := [.int k, .int 0]) (rest := []) hx hb hml hown hts hK hN hZ hP hD hS hA mb_X7_line mw_2_150 mw_2_151 mw_2_152 (k_X7_line l D cI cZ cS x0 xs xv ho0 ho1 pd0 pd1 m0 ts0 ts1 a ha sa cn cs sc tm tv pd sv ln old sz z k (0 : Int32) hRS hI) 0 7 rfl rfl (fun _ => xwW_f) (by decide) (by decide) rfl hl.1 rfl (Nat.le_of_ble_eq_true rfl) dL_isSong_46 ⟨Nat.zero_le _, Nat.zero_le _⟩ (fun r46 u46 H locs hw hP hD hS => ?_)
            have p46 : r46 = lineR z k (0 : Int32) := hw
            have hP : va_P D vwCl (xwW cI cZ cS x0 xs xv ho0 ho1 pd0 pd1 m0 ts0 ts1 a ha sa cn cs sc tm tv pd sv ln old sz z) H := hP
            have hD : va_D A (xwW cI cZ cS x0 xs xv ho0 ho1 pd0 pd1 m0 ts0 ts1 a ha sa cn cs sc tm tv pd sv ln old sz z) := hD
            refine xk_top (z := (z (8 + k.toInt.toNat))) (by exact p46.trans (ln_0 hlc)) ?_
            refine lv_istore (lv' := [(6, .int (z (8 + k.toInt.toNat))), (5, .int k), (4, .int 1), (3, .int v), (2, .int u), (1, .int (z 6)), (0, .ref x0)]) hx hb dL_isSong_49 hl (by decide) rfl (fun ls hl => ?_)
            refine lv_iconst (v := 0) hx hb dL_isSong_51 (by decide) ?_
            refine lv_istore (lv' := [(7, .int 0), (6, .int (z (8 + k.toInt.toNat))), (5, .int k), (4, .int 1), (3, .int v), (2, .int u), (1, .int (z 6)), (0, .ref x0)]) hx hb dL_isSong_52 hl (by decide) rfl (fun ls hl => ?_)
            refine lv_iconst (v := 0) hx hb dL_isSong_54 (by decide) ?_
            refine lv_istore (lv' := [(8, .int 0), (7, .int 0), (6, .int (z (8 + k.toInt.toNat))), (5, .int k), (4, .int 1), (3, .int v), (2, .int u), (1, .int (z 6)), (0, .ref x0)]) hx hb dL_isSong_55 hl (by decide) rfl (fun ls hl => ?_)
            refine lv_iconst (v := 0) hx hb dL_isSong_57 (by decide) ?_
            refine lv_istore (lv' := [(9, .int 0), (8, .int 0), (7, .int 0), (6, .int (z (8 + k.toInt.toNat))), (5, .int k), (4, .int 1), (3, .int v), (2, .int u), (1, .int (z 6)), (0, .ref x0)]) hx hb dL_isSong_58 hl (by decide) rfl (fun ls hl => ?_)
            have L60 : ∀ (n : Nat) (b : Int32) (i : Int32) (f : Int32) (hf : 0 ≤ f.toInt ∧ f.toInt ≤ (z (8 + k.toInt.toNat)).toInt) (hb7 : b = sumB z k.toInt.toNat f.toInt.toNat) (hi8 : i = cntM z k.toInt.toNat f.toInt.toNat) (hn60 : ((z (8 + k.toInt.toNat)).toInt - f.toInt).toNat < n) (H : Heap) (locs : List Loc), va_P D vwCl (xwW cI cZ cS x0 xs xv ho0 ho1 pd0 pd1 m0 ts0 ts1 a ha sa cn cs sc tm tv pd sv ln old sz z) H → va_D A (xwW cI cZ cS x0 xs xv ho0 ho1 pd0 pd1 m0 ts0 ts1 a ha sa cn cs sc tm tv pd sv ln old sz z) → va_S A s.heap H locs → ∀ ls : Array Slot, lv_has ls 12 [(9, .int f), (8, .int i), (7, .int b), (6, .int (z (8 + k.toInt.toNat))), (5, .int k), (4, .int 1), (3, .int v), (2, .int u), (1, .int (z 6)), (0, .ref x0)] → W p l e ({ frames := 6, cells := 0, slots := 0, locals := 134 } : Room) s m args below meth c H locs 0 0 Q (F0 m 60 ls []) := by
              intro n
              induction n with
              | zero =>
                intro b i f hf hb7 hi8 hn60
                exact absurd hn60 (Nat.not_lt_zero _)
              | succ n ih60 =>
                intro b i f hf hb7 hi8 hn60 H locs hP hD hS ls hl
                refine lv_iload hx hb dL_isSong_60 (lv_at hl 0 rfl) ?_
                refine lv_iload hx hb dL_isSong_62 (lv_at hl 3 rfl) ?_
                refine lv_icmp_ge (tgt := 144) hx hb dL_isSong_64 (by decide) (fun c64 => ?_) (fun c64 => ?_)
                · have t64 : (z (8 + k.toInt.toNat)).toInt ≤ f.toInt := xi_le rfl rfl c64
                  have hsb : sungL z k.toInt.toNat = b := by rw [hb7, show f.toInt.toNat = (z (8 + k.toInt.toNat)).toInt.toNat from by omega]; rfl
                  have hsm : marksL z k.toInt.toNat = i := by rw [hi8, show f.toInt.toNat = (z (8 + k.toInt.toNat)).toInt.toNat from by omega]; rfl
                  refine lv_iload_n hx hb dL_isSong_144 rfl (lv_at hl 7 rfl) ?_
                  refine lv_iload hx hb dL_isSong_145 (lv_at hl 2 rfl) ?_
                  refine lv_iadd hx hb dL_isSong_147 ?_
                  refine lv_topi (fun x147 e147 => ?_)
                  refine lv_istore_n (lv' := [(2, .int x147), (9, .int f), (8, .int i), (7, .int b), (6, .int (z (8 + k.toInt.toNat))), (5, .int k), (4, .int 1), (3, .int v), (1, .int (z 6)), (0, .ref x0)]) hx hb dL_isSong_148 rfl hl (by decide) rfl (fun ls hl => ?_)
                  refine lv_iload_n hx hb dL_isSong_149 rfl (lv_at hl 7 rfl) ?_
                  refine lv_iload hx hb dL_isSong_150 (lv_at hl 2 rfl) ?_
                  refine lv_iadd hx hb dL_isSong_152 ?_
                  refine lv_topi (fun x152 e152 => ?_)
                  refine lv_istore_n (lv' := [(3, .int x152), (2, .int x147), (9, .int f), (8, .int i), (7, .int b), (6, .int (z (8 + k.toInt.toNat))), (5, .int k), (4, .int 1), (1, .int (z 6)), (0, .ref x0)]) hx hb dL_isSong_153 rfl hl (by decide) rfl (fun ls hl => ?_)
                  refine lv_iload hx hb dL_isSong_154 (lv_at hl 7 rfl) ?_
                  refine lv_if_eq (tgt := 233) hx hb dL_isSong_156 (by decide) (fun c156 => absurd c156 (by decide)) (fun _ => ?_)
                  refine lv_iload hx hb dL_isSong_159 (lv_at hl 5 rfl) ?_
                  refine lv_if_le (tgt := 233) hx hb dL_isSong_161 (by decide) (fun c161 => ?_) (fun c161 => ?_)
                  · have t161 : (z (8 + k.toInt.toNat)).toInt ≤ 0 := xi_le rfl (by decide) c161
                    omega
                  · have t161 : 0 < (z (8 + k.toInt.toNat)).toInt := xi_nle rfl (by decide) c161
                    refine lv_iload hx hb dL_isSong_164 (lv_at hl 5 rfl) ?_
                    refine lv_bipush (v := 13) hx hb dL_isSong_166 (by decide) ?_
                    refine lv_icmp_ge (tgt := 233) hx hb dL_isSong_168 (by decide) (fun c168 => ?_) (fun c168 => ?_)
                    · have t168 : 13 ≤ (z (8 + k.toInt.toNat)).toInt := xi_le (by decide) rfl c168
                      omega
                    · have t168 : (z (8 + k.toInt.toNat)).toInt < 13 := xi_nle (by decide) rfl c168
                      refine lv_aload_n hx hb dL_isSong_171 rfl (lv_at hl 9 rfl) ?_
                      refine lv_iload hx hb dL_isSong_172 (lv_at hl 6 rfl) ?_
                      refine lv_iconst (v := 1) hx hb dL_isSong_174 (by decide) ?_
                      refine xo_Vi (As := [.int k, .int 1]) (rest := []) hx hb hml hown hts hK hN hZ hP hD hS hA mb_X7_line mw_2_150 mw_2_151 mw_2_152 (k_X7_line l D cI cZ cS x0 xs xv ho0 ho1 pd0 pd1 m0 ts0 ts1 a ha sa cn cs sc tm tv pd sv ln old sz z k (1 : Int32) hRS hI) 0 7 rfl rfl (fun _ => xwW_f) (by decide) (by decide) rfl hl.1 rfl (Nat.le_of_ble_eq_true rfl) dL_isSong_175 ⟨Nat.zero_le _, Nat.zero_le _⟩ (fun r175 u175 H locs hw hP hD hS => ?_)
                      have p175 : r175 = lineR z k (1 : Int32) := hw
                      have hP : va_P D vwCl (xwW cI cZ cS x0 xs xv ho0 ho1 pd0 pd1 m0 ts0 ts1 a ha sa cn cs sc tm tv pd sv ln old sz z) H := hP
                      have hD : va_D A (xwW cI cZ cS x0 xs xv ho0 ho1 pd0 pd1 m0 ts0 ts1 a ha sa cn cs sc tm tv pd sv ln old sz z) := hD
                      refine xk_top (z := (sungL z k.toInt.toNat)) (by exact p175.trans (ln_1 hlc)) ?_
                      refine lv_iload hx hb dL_isSong_178 (lv_at hl 4 rfl) ?_
                      refine lv_icmp_ne (tgt := 233) hx hb dL_isSong_180 (by decide) (fun c180 => ?_) (fun c180 => ?_)
                      · have t180 : ¬ (sungL z k.toInt.toNat).toInt = b.toInt := xi_ne rfl rfl c180
                        have d180 : ¬ (sungL z k.toInt.toNat) = b := c180
                        exact absurd hsb c180
                      · have t180 : (sungL z k.toInt.toNat).toInt = b.toInt := xi_eq rfl rfl c180
                        have d180 : (sungL z k.toInt.toNat) = b := c180
                        refine lv_aload_n hx hb dL_isSong_183 rfl (lv_at hl 9 rfl) ?_
                        refine lv_iload hx hb dL_isSong_184 (lv_at hl 6 rfl) ?_
                        refine lv_iconst (v := 2) hx hb dL_isSong_186 (by decide) ?_
                        refine xo_Vi (As := [.int k, .int 2]) (rest := []) hx hb hml hown hts hK hN hZ hP hD hS hA mb_X7_line mw_2_150 mw_2_151 mw_2_152 (k_X7_line l D cI cZ cS x0 xs xv ho0 ho1 pd0 pd1 m0 ts0 ts1 a ha sa cn cs sc tm tv pd sv ln old sz z k (2 : Int32) hRS hI) 0 7 rfl rfl (fun _ => xwW_f) (by decide) (by decide) rfl hl.1 rfl (Nat.le_of_ble_eq_true rfl) dL_isSong_187 ⟨Nat.zero_le _, Nat.zero_le _⟩ (fun r187 u187 H locs hw hP hD hS => ?_)
                        have p187 : r187 = lineR z k (2 : Int32) := hw
                        have hP : va_P D vwCl (xwW cI cZ cS x0 xs xv ho0 ho1 pd0 pd1 m0 ts0 ts1 a ha sa cn cs sc tm tv pd sv ln old sz z) H := hP
                        have hD : va_D A (xwW cI cZ cS x0 xs xv ho0 ho1 pd0 pd1 m0 ts0 ts1 a ha sa cn cs sc tm tv pd sv ln old sz z) := hD
                        refine xk_top (z := (marksL z k.toInt.toNat)) (by exact p187.trans (ln_2 hlc)) ?_
                        refine lv_iload hx hb dL_isSong_190 (lv_at hl 3 rfl) ?_
                        refine lv_icmp_ne (tgt := 233) hx hb dL_isSong_192 (by decide) (fun c192 => ?_) (fun c192 => ?_)
                        · have t192 : ¬ (marksL z k.toInt.toNat).toInt = i.toInt := xi_ne rfl rfl c192
                          have d192 : ¬ (marksL z k.toInt.toNat) = i := c192
                          exact absurd hsm c192
                        · have t192 : (marksL z k.toInt.toNat).toInt = i.toInt := xi_eq rfl rfl c192
                          have d192 : (marksL z k.toInt.toNat) = i := c192
                          refine lv_aload_n hx hb dL_isSong_195 rfl (lv_at hl 9 rfl) ?_
                          refine lv_iload hx hb dL_isSong_196 (lv_at hl 6 rfl) ?_
                          refine lv_iconst (v := 3) hx hb dL_isSong_198 (by decide) ?_
                          refine xo_Vi (As := [.int k, .int 3]) (rest := []) hx hb hml hown hts hK hN hZ hP hD hS hA mb_X7_line mw_2_150 mw_2_151 mw_2_152 (k_X7_line l D cI cZ cS x0 xs xv ho0 ho1 pd0 pd1 m0 ts0 ts1 a ha sa cn cs sc tm tv pd sv ln old sz z k (3 : Int32) hRS hI) 0 7 rfl rfl (fun _ => xwW_f) (by decide) (by decide) rfl hl.1 rfl (Nat.le_of_ble_eq_true rfl) dL_isSong_199 ⟨Nat.zero_le _, Nat.zero_le _⟩ (fun r199 u199 H locs hw hP hD hS => ?_)
                          have p199 : r199 = lineR z k (3 : Int32) := hw
                          have hP : va_P D vwCl (xwW cI cZ cS x0 xs xv ho0 ho1 pd0 pd1 m0 ts0 ts1 a ha sa cn cs sc tm tv pd sv ln old sz z) H := hP
                          have hD : va_D A (xwW cI cZ cS x0 xs xv ho0 ho1 pd0 pd1 m0 ts0 ts1 a ha sa cn cs sc tm tv pd sv ln old sz z) := hD
                          refine xk_top (z := (sungL z k.toInt.toNat + z 1 * marksL z k.toInt.toNat)) (by exact p199.trans (ln_3 hlc)) ?_
                          refine lv_iload hx hb dL_isSong_202 (lv_at hl 4 rfl) ?_
                          refine lv_iload hx hb dL_isSong_204 (lv_at hl 3 rfl) ?_
                          refine lv_aload_n hx hb dL_isSong_206 rfl (lv_at hl 9 rfl) ?_
                          refine lv_iconst (v := 1) hx hb dL_isSong_207 (by decide) ?_
                          refine xo_Vi (As := [.int 1]) (rest := [.int i, .int b, .int (sungL z k.toInt.toNat + z 1 * marksL z k.toInt.toNat)]) hx hb hml hown hts hK hN hZ hP hD hS hA mb_X7_count mw_2_6 mw_2_7 mw_2_8 (k_X7_count l D cI cZ cS x0 xs xv ho0 ho1 pd0 pd1 m0 ts0 ts1 a ha sa cn cs sc tm tv pd sv ln old sz z (1 : Int32) hRS hI) 0 7 rfl rfl (fun _ => xwW_f) (by decide) (by decide) rfl hl.1 rfl (Nat.le_of_ble_eq_true rfl) dL_isSong_208 ⟨Nat.zero_le _, Nat.zero_le _⟩ (fun r208 u208 H locs hw hP hD hS => ?_)
                          have p208 : r208 = cntR z ln sz (1 : Int32) := hw
                          have hP : va_P D vwCl (xwW cI cZ cS x0 xs xv ho0 ho1 pd0 pd1 m0 ts0 ts1 a ha sa cn cs sc tm tv pd sv ln old sz z) H := hP
                          have hD : va_D A (xwW cI cZ cS x0 xs xv ho0 ho1 pd0 pd1 m0 ts0 ts1 a ha sa cn cs sc tm tv pd sv ln old sz z) := hD
                          refine xk_top (z := (z 1)) (by exact p208.trans (ct_1 _ _ _)) ?_
                          refine lv_imul hx hb dL_isSong_211 ?_
                          refine lv_topi (fun x211 e211 => ?_)
                          refine lv_iadd hx hb dL_isSong_212 ?_
                          refine lv_topi (fun x212 e212 => ?_)
                          refine lv_icmp_ne (tgt := 233) hx hb dL_isSong_213 (by decide) (fun c213 => ?_) (fun c213 => ?_)
                          · have t213 : ¬ (sungL z k.toInt.toNat + z 1 * marksL z k.toInt.toNat).toInt = x212.toInt := xi_ne rfl rfl c213
                            have d213 : ¬ (sungL z k.toInt.toNat + z 1 * marksL z k.toInt.toNat) = x212 := c213
                            exact absurd (by rw [e212, e211, hsb, hsm, Int32.mul_comm]) c213
                          · have t213 : (sungL z k.toInt.toNat + z 1 * marksL z k.toInt.toNat).toInt = x212.toInt := xi_eq rfl rfl c213
                            have d213 : (sungL z k.toInt.toNat + z 1 * marksL z k.toInt.toNat) = x212 := c213
                            refine lv_aload_n hx hb dL_isSong_216 rfl (lv_at hl 9 rfl) ?_
                            refine lv_iload hx hb dL_isSong_217 (lv_at hl 6 rfl) ?_
                            refine lv_iload hx hb dL_isSong_219 (lv_at hl 5 rfl) ?_
                            refine lv_iconst (v := 0) hx hb dL_isSong_221 (by decide) ?_
                            refine xo_Vi (As := [.int k, .int (z (8 + k.toInt.toNat)), .int 0]) (rest := []) hx hb hml hown hts hK hN hZ hP hD hS hA mb_X7_foot mw_2_140 mw_2_141 mw_2_142 (k_X7_foot l D cI cZ cS x0 xs xv ho0 ho1 pd0 pd1 m0 ts0 ts1 a ha sa cn cs sc tm tv pd sv ln old sz z k (z (8 + k.toInt.toNat)) (0 : Int32) hRS hI) 0 7 rfl rfl (fun _ => xwW_f) (by decide) (by decide) rfl hl.1 rfl (Nat.le_of_ble_eq_true rfl) dL_isSong_222 ⟨Nat.zero_le _, Nat.zero_le _⟩ (fun r222 u222 H locs hw hP hD hS => ?_)
                            have p222 : r222 = footR z k (z (8 + k.toInt.toNat)) (0 : Int32) := hw
                            have hP : va_P D vwCl (xwW cI cZ cS x0 xs xv ho0 ho1 pd0 pd1 m0 ts0 ts1 a ha sa cn cs sc tm tv pd sv ln old sz z) H := hP
                            have hD : va_D A (xwW cI cZ cS x0 xs xv ho0 ho1 pd0 pd1 m0 ts0 ts1 a ha sa cn cs sc tm tv pd sv ln old sz z) := hD
                            refine xk_top (z := (-1)) (by exact p222.trans (ft_no (fun c8 => by have := c8.2.2; omega))) ?_
                            refine lv_iconst (v := (-1)) hx hb dL_isSong_225 (by decide) ?_
                            refine lv_icmp_ne (tgt := 233) hx hb dL_isSong_226 (by decide) (fun c226 => absurd (by decide) c226) (fun _ => ?_)
                            refine lv_iconst (v := 1) hx hb dL_isSong_229 (by decide) ?_
                            refine lv_goto (tgt := 234) hx hb dL_isSong_230 (by decide) ?_
                            refine lv_istore (lv' := [(4, .int 1), (3, .int x152), (2, .int x147), (9, .int f), (8, .int i), (7, .int b), (6, .int (z (8 + k.toInt.toNat))), (5, .int k), (1, .int (z 6)), (0, .ref x0)]) hx hb dL_isSong_234 hl (by decide) rfl (fun ls hl => ?_)
                            obtain ⟨x236, e236⟩ : ∃ y : Int32, y = k + 1 := ⟨_, rfl⟩
                            have t236 : x236.toInt = k.toInt + 1 := by rw [e236]; exact xi_add rfl (by decide) (by omega) (by omega)
                            refine lv_iinc (v := x236) (lv' := [(5, .int x236), (4, .int 1), (3, .int x152), (2, .int x147), (9, .int f), (8, .int i), (7, .int b), (6, .int (z (8 + k.toInt.toNat))), (1, .int (z 6)), (0, .ref x0)]) hx hb dL_isSong_236 hl (k := 7) rfl (by rw [e236]; rfl) (by decide) rfl (fun ls hl => ?_)
                            refine lv_goto (tgt := 31) hx hb dL_isSong_239 (by decide) ?_
                            exact ih31  x147 x152 x236 (by omega) (by rw [e147, hu, ← hsb, show x236.toInt.toNat = k.toInt.toNat + 1 from by omega]; rfl) (by rw [e152, hv, ← hsm, show x236.toInt.toNat = k.toInt.toNat + 1 from by omega]; rfl) (by omega) _ _ hP hD hS ls (lv_sub hl [0, 1, 2, 3, 8, 9] rfl)
                · have t64 : f.toInt < (z (8 + k.toInt.toNat)).toInt := xi_nle rfl rfl c64
                  refine lv_iload hx hb dL_isSong_67 (lv_at hl 5 rfl) ?_
                  refine lv_if_eq (tgt := 144) hx hb dL_isSong_69 (by decide) (fun c69 => absurd c69 (by decide)) (fun _ => ?_)
                  have hfc : footC z k f := ⟨hlc, by omega, by omega⟩
                  have hbt := btZ_in hI.2.1 (l := k.toInt.toNat) (f := f.toInt.toNat) (by omega) (by omega)
                  have hmk := mkN_in z k.toInt.toNat f.toInt.toNat
                  refine lv_aload_n hx hb dL_isSong_72 rfl (lv_at hl 9 rfl) ?_
                  refine lv_iload hx hb dL_isSong_73 (lv_at hl 4 rfl) ?_
                  refine lv_iload hx hb dL_isSong_75 (lv_at hl 0 rfl) ?_
                  refine lv_iconst (v := 0) hx hb dL_isSong_77 (by decide) ?_
                  refine xo_Vi (As := [.int k, .int f, .int 0]) (rest := []) hx hb hml hown hts hK hN hZ hP hD hS hA mb_X7_foot mw_2_140 mw_2_141 mw_2_142 (k_X7_foot l D cI cZ cS x0 xs xv ho0 ho1 pd0 pd1 m0 ts0 ts1 a ha sa cn cs sc tm tv pd sv ln old sz z k f (0 : Int32) hRS hI) 0 7 rfl rfl (fun _ => xwW_f) (by decide) (by decide) rfl hl.1 rfl (Nat.le_of_ble_eq_true rfl) dL_isSong_78 ⟨Nat.zero_le _, Nat.zero_le _⟩ (fun r78 u78 H locs hw hP hD hS => ?_)
                  have p78 : r78 = footR z k f (0 : Int32) := hw
                  have hP : va_P D vwCl (xwW cI cZ cS x0 xs xv ho0 ho1 pd0 pd1 m0 ts0 ts1 a ha sa cn cs sc tm tv pd sv ln old sz z) H := hP
                  have hD : va_D A (xwW cI cZ cS x0 xs xv ho0 ho1 pd0 pd1 m0 ts0 ts1 a ha sa cn cs sc tm tv pd sv ln old sz z) := hD
                  refine xk_top (z := (btZ z k.toInt.toNat f.toInt.toNat)) (by exact p78.trans (ft_0 hfc)) ?_
                  refine lv_istore (lv' := [(10, .int (btZ z k.toInt.toNat f.toInt.toNat)), (9, .int f), (8, .int i), (7, .int b), (6, .int (z (8 + k.toInt.toNat))), (5, .int k), (4, .int 1), (3, .int v), (2, .int u), (1, .int (z 6)), (0, .ref x0)]) hx hb dL_isSong_81 hl (by decide) rfl (fun ls hl => ?_)
                  refine lv_aload_n hx hb dL_isSong_83 rfl (lv_at hl 10 rfl) ?_
                  refine lv_iload hx hb dL_isSong_84 (lv_at hl 5 rfl) ?_
                  refine lv_iload hx hb dL_isSong_86 (lv_at hl 1 rfl) ?_
                  refine lv_iconst (v := 1) hx hb dL_isSong_88 (by decide) ?_
                  refine xo_Vi (As := [.int k, .int f, .int 1]) (rest := []) hx hb hml hown hts hK hN hZ hP hD hS hA mb_X7_foot mw_2_140 mw_2_141 mw_2_142 (k_X7_foot l D cI cZ cS x0 xs xv ho0 ho1 pd0 pd1 m0 ts0 ts1 a ha sa cn cs sc tm tv pd sv ln old sz z k f (1 : Int32) hRS hI) 0 7 rfl rfl (fun _ => xwW_f) (by decide) (by decide) rfl hl.1 rfl (Nat.le_of_ble_eq_true rfl) dL_isSong_89 ⟨Nat.zero_le _, Nat.zero_le _⟩ (fun r89 u89 H locs hw hP hD hS => ?_)
                  have p89 : r89 = footR z k f (1 : Int32) := hw
                  have hP : va_P D vwCl (xwW cI cZ cS x0 xs xv ho0 ho1 pd0 pd1 m0 ts0 ts1 a ha sa cn cs sc tm tv pd sv ln old sz z) H := hP
                  have hD : va_D A (xwW cI cZ cS x0 xs xv ho0 ho1 pd0 pd1 m0 ts0 ts1 a ha sa cn cs sc tm tv pd sv ln old sz z) := hD
                  refine xk_top (z := (mkN z k.toInt.toNat f.toInt.toNat)) (by exact p89.trans (ft_1 hfc)) ?_
                  refine lv_istore (lv' := [(11, .int (mkN z k.toInt.toNat f.toInt.toNat)), (10, .int (btZ z k.toInt.toNat f.toInt.toNat)), (9, .int f), (8, .int i), (7, .int b), (6, .int (z (8 + k.toInt.toNat))), (5, .int k), (4, .int 1), (3, .int v), (2, .int u), (1, .int (z 6)), (0, .ref x0)]) hx hb dL_isSong_92 hl (by decide) rfl (fun ls hl => ?_)
                  refine lv_iload hx hb dL_isSong_94 (lv_at hl 4 rfl) ?_
                  refine lv_iload hx hb dL_isSong_96 (lv_at hl 1 rfl) ?_
                  refine lv_iadd hx hb dL_isSong_98 ?_
                  refine lv_topi (fun x98 e98 => ?_)
                  refine lv_istore (lv' := [(7, .int x98), (11, .int (mkN z k.toInt.toNat f.toInt.toNat)), (10, .int (btZ z k.toInt.toNat f.toInt.toNat)), (9, .int f), (8, .int i), (6, .int (z (8 + k.toInt.toNat))), (5, .int k), (4, .int 1), (3, .int v), (2, .int u), (1, .int (z 6)), (0, .ref x0)]) hx hb dL_isSong_99 hl (by decide) rfl (fun ls hl => ?_)
                  refine lv_iload hx hb dL_isSong_101 (lv_at hl 4 rfl) ?_
                  refine lv_iload hx hb dL_isSong_103 (lv_at hl 1 rfl) ?_
                  refine lv_iadd hx hb dL_isSong_105 ?_
                  refine lv_topi (fun x105 e105 => ?_)
                  refine lv_istore (lv' := [(8, .int x105), (7, .int x98), (11, .int (mkN z k.toInt.toNat f.toInt.toNat)), (10, .int (btZ z k.toInt.toNat f.toInt.toNat)), (9, .int f), (6, .int (z (8 + k.toInt.toNat))), (5, .int k), (4, .int 1), (3, .int v), (2, .int u), (1, .int (z 6)), (0, .ref x0)]) hx hb dL_isSong_106 hl (by decide) rfl (fun ls hl => ?_)
                  refine lv_iload hx hb dL_isSong_108 (lv_at hl 3 rfl) ?_
                  refine lv_iconst (v := 1) hx hb dL_isSong_110 (by decide) ?_
                  refine lv_icmp_le (tgt := 135) hx hb dL_isSong_111 (by decide) (fun c111 => ?_) (fun c111 => ?_)
                  · have t111 : (btZ z k.toInt.toNat f.toInt.toNat).toInt ≤ 1 := xi_le rfl (by decide) c111
                    omega
                  · have t111 : 1 < (btZ z k.toInt.toNat f.toInt.toNat).toInt := xi_nle rfl (by decide) c111
                    refine lv_iload hx hb dL_isSong_114 (lv_at hl 3 rfl) ?_
                    refine lv_iconst (v := 5) hx hb dL_isSong_116 (by decide) ?_
                    refine lv_icmp_ge (tgt := 135) hx hb dL_isSong_117 (by decide) (fun c117 => ?_) (fun c117 => ?_)
                    · have t117 : 5 ≤ (btZ z k.toInt.toNat f.toInt.toNat).toInt := xi_le (by decide) rfl c117
                      omega
                    · have t117 : (btZ z k.toInt.toNat f.toInt.toNat).toInt < 5 := xi_nle (by decide) rfl c117
                      refine lv_iload hx hb dL_isSong_120 (lv_at hl 2 rfl) ?_
                      refine lv_if_lt (tgt := 135) hx hb dL_isSong_122 (by decide) (fun c122 => ?_) (fun c122 => ?_)
                      · have t122 : (mkN z k.toInt.toNat f.toInt.toNat).toInt < 0 := xi_lt rfl (by decide) c122
                        omega
                      · have t122 : 0 ≤ (mkN z k.toInt.toNat f.toInt.toNat).toInt := xi_nlt rfl (by decide) c122
                        refine lv_iload hx hb dL_isSong_125 (lv_at hl 2 rfl) ?_
                        refine lv_iconst (v := 2) hx hb dL_isSong_127 (by decide) ?_
                        refine lv_icmp_ge (tgt := 135) hx hb dL_isSong_128 (by decide) (fun c128 => ?_) (fun c128 => ?_)
                        · have t128 : 2 ≤ (mkN z k.toInt.toNat f.toInt.toNat).toInt := xi_le (by decide) rfl c128
                          omega
                        · have t128 : (mkN z k.toInt.toNat f.toInt.toNat).toInt < 2 := xi_nle (by decide) rfl c128
                          refine lv_iconst (v := 1) hx hb dL_isSong_131 (by decide) ?_
                          refine lv_goto (tgt := 136) hx hb dL_isSong_132 (by decide) ?_
                          refine lv_istore (lv' := [(4, .int 1), (8, .int x105), (7, .int x98), (11, .int (mkN z k.toInt.toNat f.toInt.toNat)), (10, .int (btZ z k.toInt.toNat f.toInt.toNat)), (9, .int f), (6, .int (z (8 + k.toInt.toNat))), (5, .int k), (3, .int v), (2, .int u), (1, .int (z 6)), (0, .ref x0)]) hx hb dL_isSong_136 hl (by decide) rfl (fun ls hl => ?_)
                          obtain ⟨x138, e138⟩ : ∃ y : Int32, y = f + 1 := ⟨_, rfl⟩
                          have t138 : x138.toInt = f.toInt + 1 := by rw [e138]; exact xi_add rfl (by decide) (by omega) (by omega)
                          refine lv_iinc (v := x138) (lv' := [(9, .int x138), (4, .int 1), (8, .int x105), (7, .int x98), (11, .int (mkN z k.toInt.toNat f.toInt.toNat)), (10, .int (btZ z k.toInt.toNat f.toInt.toNat)), (6, .int (z (8 + k.toInt.toNat))), (5, .int k), (3, .int v), (2, .int u), (1, .int (z 6)), (0, .ref x0)]) hx hb dL_isSong_138 hl (k := 5) rfl (by rw [e138]; rfl) (by decide) rfl (fun ls hl => ?_)
                          refine lv_goto (tgt := 60) hx hb dL_isSong_141 (by decide) ?_
                          exact ih60  x98 x105 x138 (by omega) (by rw [e98, hb7, show x138.toInt.toNat = f.toInt.toNat + 1 from by omega]; rfl) (by rw [e105, hi8, show x138.toInt.toNat = f.toInt.toNat + 1 from by omega]; rfl) (by omega) _ _ hP hD hS ls (lv_sub hl [0, 2, 3, 6, 7, 1, 8, 9, 10, 11] rfl)
            exact L60 13 (0 : Int32) (0 : Int32) (0 : Int32) (by omega) (by rfl) (by rfl) (by omega) _ _ hP hD hS ls (lv_sub hl [0, 1, 2, 3, 4, 5, 6, 7, 8, 9] rfl)
      exact L31 11 (0 : Int32) (0 : Int32) (0 : Int32) (by omega) (by rfl) (by rfl) (by omega) _ _ hP hD hS ls (lv_sub hl [0, 1, 2, 3, 4, 5] rfl)
