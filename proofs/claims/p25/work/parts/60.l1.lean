set_option maxHeartbeats 4000000 in
set_option maxRecDepth 100000 in
theorem c_L_isBegun (l : Launch) (D : va_G) (cI cZ cS : ClassId) (x0 : Nat) (xs : Nat) (xv : Nat) (ho0 : Nat) (ho1 : Nat) (pd0 : Nat) (pd1 : Nat) (m0 : Nat) (ts0 : Nat) (ts1 : Nat) (a : Nat → Nat) (ha : Nat → Nat → Nat) (sa : Nat → Nat → Nat) (cn : Nat → Nat → Int32) (cs : Nat → Nat → Nat → Int32) (sc : Nat → Nat → Nat → Int32) (tm : Nat → Int32) (tv : Nat → Int32) (pd : Nat → Int32) (sv : Nat → Int32) (ln : Int32) (old : Int32) (sz : Int32) (z : Nat → Int32) (past : Nat → Int32) (slots : Nat → Int32) (bd : Int)  (hLI : LI bd cn cs sc sv ln old sz z past slots) (hbd : bd ≤ 100000) (hbg : begP0 z) (h81 : z 181 = z 4) : xMi l yL_isBegun cL_isBegun 3 (some .boolean) ({ frames := 6, cells := 0, slots := 0, locals := 131 } : Room) D (xTy cI cZ cS) [.ref x0] (xwW cI cZ cS x0 xs xv ho0 ho1 pd0 pd1 m0 ts0 ts1 a ha sa cn cs sc tm tv pd sv ln old sz z) (fun (r : Int32) (_ : Unit) => r = (1 : Int32)) (fun (_ : Unit) => (xwW cI cZ cS x0 xs xv ho0 ho1 pd0 pd1 m0 ts0 ts1 a ha sa cn cs sc tm tv pd sv ln old sz z)) := by
  refine xk_bodyi (by decide) (Nat.le_of_ble_eq_true rfl) ?_
  intro p e s m below meth c A ls args Q hx hb hr hts hown hlocks hml hin hK hP hD hS hA hN hZ hl hQ
  have hl : lv_has ls 3 [(0, .ref x0)] := hl
  obtain ⟨hRS, hI, hBD, ⟨hold, hszz, hlnn⟩, hmcs, hmsc, hRH, hRL⟩ := id hLI
  obtain ⟨⟨hb74, hb74u⟩, ⟨hb86, hb86u⟩, hIP⟩ := id hBD
  have hs0 : (1 ≤ (z 0).toInt ∧ (z 0).toInt ≤ 9) ∧ (0 ≤ (z 1).toInt ∧ (z 1).toInt ≤ 9) ∧ (1 ≤ (z 2).toInt ∧ (z 2).toInt ≤ 9) ∧ (1 ≤ (z 3).toInt ∧ (z 3).toInt ≤ 20) ∧ (2 ≤ (z 5).toInt ∧ (z 5).toInt ≤ 9) := hI.1
  have hg6 : 0 ≤ (z 6).toInt ∧ (z 6).toInt ≤ 10 := hI.2.1.1
  have hr7 : 0 ≤ (z 7).toInt ∧ (z 7).toInt ≤ 12 := hI.2.2.1.1
  refine lv_aload_n hx hb dL_isBegun_0 rfl (lv_at hl 0 rfl) ?_
  refine lv_bipush (v := 7) hx hb dL_isBegun_1 (by decide) ?_
  refine xo_Vi (As := [.int 7]) (rest := []) hx hb hml hown hts hK hN hZ hP hD hS hA mb_X7_walk mw_1_238 mw_1_239 mw_2_0 (k_X7_walk l D cI cZ cS x0 xs xv ho0 ho1 pd0 pd1 m0 ts0 ts1 a ha sa cn cs sc tm tv pd sv ln old sz z (7 : Int32) hRS hI) 0 7 rfl rfl (fun _ => xwW_f) (by decide) (by decide) rfl hl.1 rfl (Nat.le_of_ble_eq_true rfl) dL_isBegun_3 ⟨Nat.zero_le _, Nat.zero_le _⟩ (fun r3 u3 H locs hw hP hD hS => ?_)
  have p3 : r3 = walkR z (7 : Int32) := hw
  have hP : va_P D vwCl (xwW cI cZ cS x0 xs xv ho0 ho1 pd0 pd1 m0 ts0 ts1 a ha sa cn cs sc tm tv pd sv ln old sz z) H := hP
  have hD : va_D A (xwW cI cZ cS x0 xs xv ho0 ho1 pd0 pd1 m0 ts0 ts1 a ha sa cn cs sc tm tv pd sv ln old sz z) := hD
  refine xk_top (z := (z 181)) (by exact p3.trans (wk_7 _)) ?_
  refine lv_aload_n hx hb dL_isBegun_6 rfl (lv_at hl 0 rfl) ?_
  refine lv_iconst (v := 4) hx hb dL_isBegun_7 (by decide) ?_
  refine xo_Vi (As := [.int 4]) (rest := [.int (z 181)]) hx hb hml hown hts hK hN hZ hP hD hS hA mb_X7_count mw_2_6 mw_2_7 mw_2_8 (k_X7_count l D cI cZ cS x0 xs xv ho0 ho1 pd0 pd1 m0 ts0 ts1 a ha sa cn cs sc tm tv pd sv ln old sz z (4 : Int32) hRS hI) 0 7 rfl rfl (fun _ => xwW_f) (by decide) (by decide) rfl hl.1 rfl (Nat.le_of_ble_eq_true rfl) dL_isBegun_8 ⟨Nat.zero_le _, Nat.zero_le _⟩ (fun r8 u8 H locs hw hP hD hS => ?_)
  have p8 : r8 = cntR z ln sz (4 : Int32) := hw
  have hP : va_P D vwCl (xwW cI cZ cS x0 xs xv ho0 ho1 pd0 pd1 m0 ts0 ts1 a ha sa cn cs sc tm tv pd sv ln old sz z) H := hP
  have hD : va_D A (xwW cI cZ cS x0 xs xv ho0 ho1 pd0 pd1 m0 ts0 ts1 a ha sa cn cs sc tm tv pd sv ln old sz z) := hD
  refine xk_top (z := (z 4)) (by exact p8.trans (ct_4 _ _ _)) ?_
  refine lv_icmp_ne (tgt := 18) hx hb dL_isBegun_11 (by decide) (fun c11 => ?_) (fun c11 => ?_)
  · have t11 : ¬ (z 181).toInt = (z 4).toInt := xi_ne rfl rfl c11
    have d11 : ¬ (z 181) = (z 4) := c11
    exact absurd h81 c11
  · have t11 : (z 181).toInt = (z 4).toInt := xi_eq rfl rfl c11
    have d11 : (z 181) = (z 4) := c11
    refine lv_iconst (v := 1) hx hb dL_isBegun_14 (by decide) ?_
    refine lv_goto (tgt := 19) hx hb dL_isBegun_15 (by decide) ?_
    refine lv_istore_n (lv' := [(1, .int 1), (0, .ref x0)]) hx hb dL_isBegun_19 rfl hl (by decide) rfl (fun ls hl => ?_)
    refine lv_iconst (v := 0) hx hb dL_isBegun_20 (by decide) ?_
    refine lv_istore_n (lv' := [(2, .int 0), (1, .int 1), (0, .ref x0)]) hx hb dL_isBegun_21 rfl hl (by decide) rfl (fun ls hl => ?_)
    have L22 : ∀ (n : Nat) (k : Int32) (hk : 0 ≤ k.toInt ∧ k.toInt ≤ 15) (hn22 : (15 - k.toInt).toNat < n) (H : Heap) (locs : List Loc), va_P D vwCl (xwW cI cZ cS x0 xs xv ho0 ho1 pd0 pd1 m0 ts0 ts1 a ha sa cn cs sc tm tv pd sv ln old sz z) H → va_D A (xwW cI cZ cS x0 xs xv ho0 ho1 pd0 pd1 m0 ts0 ts1 a ha sa cn cs sc tm tv pd sv ln old sz z) → va_S A s.heap H locs → ∀ ls : Array Slot, lv_has ls 3 [(2, .int k), (1, .int 1), (0, .ref x0)] → W p l e ({ frames := 6, cells := 0, slots := 0, locals := 131 } : Room) s m args below meth c H locs 0 0 Q (F0 m 22 ls []) := by
      intro n
      induction n with
      | zero =>
        intro k hk hn22
        exact absurd hn22 (Nat.not_lt_zero _)
      | succ n ih22 =>
        intro k hk hn22 H locs hP hD hS ls hl
        refine lv_iload_n hx hb dL_isBegun_22 rfl (lv_at hl 0 rfl) ?_
        refine lv_bipush (v := 15) hx hb dL_isBegun_23 (by decide) ?_
        refine lv_icmp_ge (tgt := 58) hx hb dL_isBegun_25 (by decide) (fun c25 => ?_) (fun c25 => ?_)
        · have t25 : 15 ≤ k.toInt := xi_le (by decide) rfl c25
          refine lv_iload_n hx hb dL_isBegun_58 rfl (lv_at hl 1 rfl) ?_
          exact xk_retz () hx hb hr hlocks (by decide) (xk_P hP (by rfl)) (by rfl) hS dL_isBegun_59 hQ
        · have t25 : k.toInt < 15 := xi_nle (by decide) rfl c25
          refine lv_iload_n hx hb dL_isBegun_28 rfl (lv_at hl 1 rfl) ?_
          refine lv_if_eq (tgt := 58) hx hb dL_isBegun_29 (by decide) (fun c29 => absurd c29 (by decide)) (fun _ => ?_)
          refine lv_iload_n hx hb dL_isBegun_32 rfl (lv_at hl 0 rfl) ?_
          refine lv_bipush (v := 7) hx hb dL_isBegun_33 (by decide) ?_
          refine lv_icmp_eq (tgt := 46) hx hb dL_isBegun_35 (by decide) (fun c35 => ?_) (fun c35 => ?_)
          · have t35 : k.toInt = 7 := xi_eq rfl (by decide) c35
            have d35 : k = 7 := c35
            refine lv_iconst (v := 1) hx hb dL_isBegun_46 (by decide) ?_
            refine lv_goto (tgt := 51) hx hb dL_isBegun_47 (by decide) ?_
            refine lv_istore_n (lv' := [(1, .int 1), (2, .int k), (0, .ref x0)]) hx hb dL_isBegun_51 rfl hl (by decide) rfl (fun ls hl => ?_)
            obtain ⟨x52, e52⟩ : ∃ y : Int32, y = k + 1 := ⟨_, rfl⟩
            have t52 : x52.toInt = k.toInt + 1 := by rw [e52]; exact xi_add rfl (by decide) (by omega) (by omega)
            refine lv_iinc (v := x52) (lv' := [(2, .int x52), (1, .int 1), (0, .ref x0)]) hx hb dL_isBegun_52 hl (k := 1) rfl (by rw [e52]; rfl) (by decide) rfl (fun ls hl => ?_)
            refine lv_goto (tgt := 22) hx hb dL_isBegun_55 (by decide) ?_
            exact ih22  x52 (by omega) (by omega) _ _ hP hD hS ls (lv_sub hl [0, 1, 2] rfl)
          · have t35 : ¬ k.toInt = 7 := xi_ne rfl (by decide) c35
            have d35 : ¬ k = 7 := c35
            refine lv_aload_n hx hb dL_isBegun_38 rfl (lv_at hl 2 rfl) ?_
            refine lv_iload_n hx hb dL_isBegun_39 rfl (lv_at hl 0 rfl) ?_
            refine xo_Vi (As := [.int k]) (rest := []) hx hb hml hown hts hK hN hZ hP hD hS hA mb_X7_walk mw_1_238 mw_1_239 mw_2_0 (k_X7_walk l D cI cZ cS x0 xs xv ho0 ho1 pd0 pd1 m0 ts0 ts1 a ha sa cn cs sc tm tv pd sv ln old sz z k hRS hI) 0 7 rfl rfl (fun _ => xwW_f) (by decide) (by decide) rfl hl.1 rfl (Nat.le_of_ble_eq_true rfl) dL_isBegun_40 ⟨Nat.zero_le _, Nat.zero_le _⟩ (fun r40 u40 H locs hw hP hD hS => ?_)
            have p40 : r40 = walkR z k := hw
            have hP : va_P D vwCl (xwW cI cZ cS x0 xs xv ho0 ho1 pd0 pd1 m0 ts0 ts1 a ha sa cn cs sc tm tv pd sv ln old sz z) H := hP
            have hD : va_D A (xwW cI cZ cS x0 xs xv ho0 ho1 pd0 pd1 m0 ts0 ts1 a ha sa cn cs sc tm tv pd sv ln old sz z) := hD
            refine xk_top (z := 0) (by exact p40.trans (wk_beg hbg (by omega) t35)) ?_
            refine lv_if_ne (tgt := 50) hx hb dL_isBegun_43 (by decide) (fun c43 => absurd (by decide) c43) (fun _ => ?_)
            refine lv_iconst (v := 1) hx hb dL_isBegun_46 (by decide) ?_
            refine lv_goto (tgt := 51) hx hb dL_isBegun_47 (by decide) ?_
            refine lv_istore_n (lv' := [(1, .int 1), (2, .int k), (0, .ref x0)]) hx hb dL_isBegun_51 rfl hl (by decide) rfl (fun ls hl => ?_)
            obtain ⟨x52, e52⟩ : ∃ y : Int32, y = k + 1 := ⟨_, rfl⟩
            have t52 : x52.toInt = k.toInt + 1 := by rw [e52]; exact xi_add rfl (by decide) (by omega) (by omega)
            refine lv_iinc (v := x52) (lv' := [(2, .int x52), (1, .int 1), (0, .ref x0)]) hx hb dL_isBegun_52 hl (k := 1) rfl (by rw [e52]; rfl) (by decide) rfl (fun ls hl => ?_)
            refine lv_goto (tgt := 22) hx hb dL_isBegun_55 (by decide) ?_
            exact ih22  x52 (by omega) (by omega) _ _ hP hD hS ls (lv_sub hl [0, 1, 2] rfl)
    exact L22 16 (0 : Int32) (by decide) (by decide) _ _ hP hD hS ls (lv_sub hl [0, 1, 2] rfl)

set_option maxHeartbeats 4000000 in
set_option maxRecDepth 100000 in
theorem c_L_seen (l : Launch) (D : va_G) (cI cZ cS : ClassId) (x0 : Nat) (xs : Nat) (xv : Nat) (ho0 : Nat) (ho1 : Nat) (pd0 : Nat) (pd1 : Nat) (m0 : Nat) (ts0 : Nat) (ts1 : Nat) (a : Nat → Nat) (ha : Nat → Nat → Nat) (sa : Nat → Nat → Nat) (cn : Nat → Nat → Int32) (cs : Nat → Nat → Nat → Int32) (sc : Nat → Nat → Nat → Int32) (tm : Nat → Int32) (tv : Nat → Int32) (pd : Nat → Int32) (sv : Nat → Int32) (ln : Int32) (old : Int32) (sz : Int32) (z : Nat → Int32) (past : Nat → Int32) (slots : Nat → Int32) (bd : Int)  (hLI : LI bd cn cs sc sv ln old sz z past slots) (hbd : bd ≤ 100000) : xMl l yL_seen cL_seen 4 (some .long) ({ frames := 6, cells := 0, slots := 0, locals := 131 } : Room) D (xTy cI cZ cS) [.ref x0] (xwW cI cZ cS x0 xs xv ho0 ho1 pd0 pd1 m0 ts0 ts1 a ha sa cn cs sc tm tv pd sv ln old sz z) (fun (r : Int64) (_ : Unit) => r = seenZ z) (fun (_ : Unit) => (xwW cI cZ cS x0 xs xv ho0 ho1 pd0 pd1 m0 ts0 ts1 a ha sa cn cs sc tm tv pd sv ln old sz z)) := by
  refine xk_bodyl (by decide) (Nat.le_of_ble_eq_true rfl) ?_
  intro p e s m below meth c A ls args Q hx hb hr hts hown hlocks hml hin hK hP hD hS hA hN hZ hl hQ
  have hl : lv_has ls 4 [(0, .ref x0)] := hl
  obtain ⟨hRS, hI, hBD, ⟨hold, hszz, hlnn⟩, hmcs, hmsc, hRH, hRL⟩ := id hLI
  obtain ⟨⟨hb74, hb74u⟩, ⟨hb86, hb86u⟩, hIP⟩ := id hBD
  have hs0 : (1 ≤ (z 0).toInt ∧ (z 0).toInt ≤ 9) ∧ (0 ≤ (z 1).toInt ∧ (z 1).toInt ≤ 9) ∧ (1 ≤ (z 2).toInt ∧ (z 2).toInt ≤ 9) ∧ (1 ≤ (z 3).toInt ∧ (z 3).toInt ≤ 20) ∧ (2 ≤ (z 5).toInt ∧ (z 5).toInt ≤ 9) := hI.1
  have hg6 : 0 ≤ (z 6).toInt ∧ (z 6).toInt ≤ 10 := hI.2.1.1
  have hr7 : 0 ≤ (z 7).toInt ∧ (z 7).toInt ≤ 12 := hI.2.2.1.1
  refine lv_ldc2 (v := 223) hx hb hown (hts _ (List.mem_cons_of_mem _ mw_2_119)) dL_seen_0 ?_
  refine lv_lstore_n (lv' := [(1, .long 223), (0, .ref x0)]) hx hb dL_seen_3 rfl hl (by decide) rfl (fun ls hl => ?_)
  refine lv_iconst (v := 0) hx hb dL_seen_4 (by decide) ?_
  refine lv_istore_n (lv' := [(3, .int 0), (1, .long 223), (0, .ref x0)]) hx hb dL_seen_5 rfl hl (by decide) rfl (fun ls hl => ?_)
  have L6 : ∀ (n : Nat) (h6 : Int64) (k6 : Int32) (hk : 0 ≤ k6.toInt ∧ k6.toInt ≤ 15) (hh : h6 = se1 z k6.toInt.toNat) (hn6 : (15 - k6.toInt).toNat < n) (H : Heap) (locs : List Loc), va_P D vwCl (xwW cI cZ cS x0 xs xv ho0 ho1 pd0 pd1 m0 ts0 ts1 a ha sa cn cs sc tm tv pd sv ln old sz z) H → va_D A (xwW cI cZ cS x0 xs xv ho0 ho1 pd0 pd1 m0 ts0 ts1 a ha sa cn cs sc tm tv pd sv ln old sz z) → va_S A s.heap H locs → ∀ ls : Array Slot, lv_has ls 4 [(3, .int k6), (1, .long h6), (0, .ref x0)] → W p l e ({ frames := 6, cells := 0, slots := 0, locals := 131 } : Room) s m args below meth c H locs 0 0 Q (F0 m 6 ls []) := by
    intro n
    induction n with
    | zero =>
      intro h6 k6 hk hh hn6
      exact absurd hn6 (Nat.not_lt_zero _)
    | succ n ih6 =>
      intro h6 k6 hk hh hn6 H locs hP hD hS ls hl
      refine lv_iload_n hx hb dL_seen_6 rfl (lv_at hl 0 rfl) ?_
      refine lv_bipush (v := 15) hx hb dL_seen_7 (by decide) ?_
      refine lv_icmp_ge (tgt := 31) hx hb dL_seen_9 (by decide) (fun c9 => ?_) (fun c9 => ?_)
      · have t9 : 15 ≤ k6.toInt := xi_le (by decide) rfl c9
        refine lv_iconst (v := 0) hx hb dL_seen_31 (by decide) ?_
        refine lv_istore_n (lv' := [(3, .int 0), (1, .long h6), (0, .ref x0)]) hx hb dL_seen_32 rfl hl (by decide) rfl (fun ls hl => ?_)
        have L33 : ∀ (n : Nat) (h33 : Int64) (k33 : Int32) (hk : 0 ≤ k33.toInt ∧ k33.toInt ≤ 11) (hh : h33 = se2 z k33.toInt.toNat) (hn33 : (11 - k33.toInt).toNat < n) (H : Heap) (locs : List Loc), va_P D vwCl (xwW cI cZ cS x0 xs xv ho0 ho1 pd0 pd1 m0 ts0 ts1 a ha sa cn cs sc tm tv pd sv ln old sz z) H → va_D A (xwW cI cZ cS x0 xs xv ho0 ho1 pd0 pd1 m0 ts0 ts1 a ha sa cn cs sc tm tv pd sv ln old sz z) → va_S A s.heap H locs → ∀ ls : Array Slot, lv_has ls 4 [(3, .int k33), (1, .long h33), (0, .ref x0)] → W p l e ({ frames := 6, cells := 0, slots := 0, locals := 131 } : Room) s m args below meth c H locs 0 0 Q (F0 m 33 ls []) := by
          intro n
          induction n with
          | zero =>
            intro h33 k33 hk hh hn33
            exact absurd hn33 (Nat.not_lt_zero _)
          | succ n ih33 =>
            intro h33 k33 hk hh hn33 H locs hP hD hS ls hl
            refine lv_iload_n hx hb dL_seen_33 rfl (lv_at hl 0 rfl) ?_
            refine lv_bipush (v := 11) hx hb dL_seen_34 (by decide) ?_
            refine lv_icmp_ge (tgt := 58) hx hb dL_seen_36 (by decide) (fun c36 => ?_) (fun c36 => ?_)
            · have t36 : 11 ≤ k33.toInt := xi_le (by decide) rfl c36
              refine lv_iconst (v := 0) hx hb dL_seen_58 (by decide) ?_
              refine lv_istore_n (lv' := [(3, .int 0), (1, .long h33), (0, .ref x0)]) hx hb dL_seen_59 rfl hl (by decide) rfl (fun ls hl => ?_)
              have L60 : ∀ (n : Nat) (h60 : Int64) (k60 : Int32) (hk : 0 ≤ k60.toInt ∧ k60.toInt ≤ 36) (hh : h60 = se3 z k60.toInt.toNat) (hn60 : (36 - k60.toInt).toNat < n) (H : Heap) (locs : List Loc), va_P D vwCl (xwW cI cZ cS x0 xs xv ho0 ho1 pd0 pd1 m0 ts0 ts1 a ha sa cn cs sc tm tv pd sv ln old sz z) H → va_D A (xwW cI cZ cS x0 xs xv ho0 ho1 pd0 pd1 m0 ts0 ts1 a ha sa cn cs sc tm tv pd sv ln old sz z) → va_S A s.heap H locs → ∀ ls : Array Slot, lv_has ls 4 [(3, .int k60), (1, .long h60), (0, .ref x0)] → W p l e ({ frames := 6, cells := 0, slots := 0, locals := 131 } : Room) s m args below meth c H locs 0 0 Q (F0 m 60 ls []) := by
                intro n
                induction n with
                | zero =>
                  intro h60 k60 hk hh hn60
                  exact absurd hn60 (Nat.not_lt_zero _)
                | succ n ih60 =>
                  intro h60 k60 hk hh hn60 H locs hP hD hS ls hl
                  refine lv_iload_n hx hb dL_seen_60 rfl (lv_at hl 0 rfl) ?_
                  refine lv_bipush (v := 36) hx hb dL_seen_61 (by decide) ?_
                  refine lv_icmp_ge (tgt := 90) hx hb dL_seen_63 (by decide) (fun c63 => ?_) (fun c63 => ?_)
                  · have t63 : 36 ≤ k60.toInt := xi_le (by decide) rfl c63
                    refine lv_iconst (v := 0) hx hb dL_seen_90 (by decide) ?_
                    refine lv_istore_n (lv' := [(3, .int 0), (1, .long h60), (0, .ref x0)]) hx hb dL_seen_91 rfl hl (by decide) rfl (fun ls hl => ?_)
                    have L92 : ∀ (n : Nat) (h92 : Int64) (k92 : Int32) (hk : 0 ≤ k92.toInt ∧ k92.toInt ≤ 120) (hh : h92 = se4 z k92.toInt.toNat) (hn92 : (120 - k92.toInt).toNat < n) (H : Heap) (locs : List Loc), va_P D vwCl (xwW cI cZ cS x0 xs xv ho0 ho1 pd0 pd1 m0 ts0 ts1 a ha sa cn cs sc tm tv pd sv ln old sz z) H → va_D A (xwW cI cZ cS x0 xs xv ho0 ho1 pd0 pd1 m0 ts0 ts1 a ha sa cn cs sc tm tv pd sv ln old sz z) → va_S A s.heap H locs → ∀ ls : Array Slot, lv_has ls 4 [(3, .int k92), (1, .long h92), (0, .ref x0)] → W p l e ({ frames := 6, cells := 0, slots := 0, locals := 131 } : Room) s m args below meth c H locs 0 0 Q (F0 m 92 ls []) := by
                      intro n
                      induction n with
                      | zero =>
                        intro h92 k92 hk hh hn92
                        exact absurd hn92 (Nat.not_lt_zero _)
                      | succ n ih92 =>
                        intro h92 k92 hk hh hn92 H locs hP hD hS ls hl
                        refine lv_iload_n hx hb dL_seen_92 rfl (lv_at hl 0 rfl) ?_
                        refine lv_bipush (v := 120) hx hb dL_seen_93 (by decide) ?_
                        refine lv_icmp_ge (tgt := 144) hx hb dL_seen_95 (by decide) (fun c95 => ?_) (fun c95 => ?_)
                        · have t95 : 120 ≤ k92.toInt := xi_le (by decide) rfl c95
                          refine lv_lload_n hx hb dL_seen_144 rfl (lv_at hl 1 rfl) ?_
                          exact xk_retl () hx hb hr hlocks hP (by rw [hh, show k92.toInt.toNat = 120 from by omega]; rfl) hS dL_seen_145 hQ
                        · have t95 : k92.toInt < 120 := xi_nle (by decide) rfl c95
                          refine lv_ldc2 (v := 31) hx hb hown (hts _ (List.mem_cons_of_mem _ mw_2_120)) dL_seen_98 ?_
                          refine lv_ldc2 (v := 31) hx hb hown (hts _ (List.mem_cons_of_mem _ mw_2_120)) dL_seen_101 ?_
                          refine lv_lload_n hx hb dL_seen_104 rfl (lv_at hl 1 rfl) ?_
                          refine lv_lmul hx hb dL_seen_105 ?_
                          refine lv_topl (fun y105 e105 => ?_)
                          refine lv_aload_n hx hb dL_seen_106 rfl (lv_at hl 2 rfl) ?_
                          refine lv_iload_n hx hb dL_seen_107 rfl (lv_at hl 0 rfl) ?_
                          refine lv_bipush (v := 12) hx hb dL_seen_108 (by decide) ?_
                          refine lv_idiv hx hb dL_seen_110 (by decide) ?_
                          refine lv_topi (fun x110 e110 => ?_)
                          have t110 : x110.toInt = k92.toInt / 12 := by rw [e110]; exact xi_div rfl (by decide) (by omega) (by omega)
                          refine lv_iload_n hx hb dL_seen_111 rfl (lv_at hl 0 rfl) ?_
                          refine lv_bipush (v := 12) hx hb dL_seen_112 (by decide) ?_
                          refine lv_irem hx hb dL_seen_114 (by decide) ?_
                          refine lv_topi (fun x114 e114 => ?_)
                          have t114 : x114.toInt = k92.toInt % 12 := by rw [e114]; exact xi_rem rfl (by decide) (by omega) (by omega)
                          refine lv_iconst (v := 0) hx hb dL_seen_115 (by decide) ?_
                          refine xo_Vi (As := [.int x110, .int x114, .int 0]) (rest := [.long y105, .long 31]) hx hb hml hown hts hK hN hZ hP hD hS hA mb_X7_foot mw_2_140 mw_2_141 mw_2_142 (k_X7_foot l D cI cZ cS x0 xs xv ho0 ho1 pd0 pd1 m0 ts0 ts1 a ha sa cn cs sc tm tv pd sv ln old sz z x110 x114 (0 : Int32) hRS hI) 0 7 rfl rfl (fun _ => xwW_f) (by decide) (by decide) rfl hl.1 rfl (Nat.le_of_ble_eq_true rfl) dL_seen_116 ⟨Nat.zero_le _, Nat.zero_le _⟩ (fun r116 u116 H locs hw hP hD hS => ?_)
                          have p116 : r116 = footR z x110 x114 (0 : Int32) := hw
                          have hP : va_P D vwCl (xwW cI cZ cS x0 xs xv ho0 ho1 pd0 pd1 m0 ts0 ts1 a ha sa cn cs sc tm tv pd sv ln old sz z) H := hP
                          have hD : va_D A (xwW cI cZ cS x0 xs xv ho0 ho1 pd0 pd1 m0 ts0 ts1 a ha sa cn cs sc tm tv pd sv ln old sz z) := hD
                          refine lv_i2l hx hb dL_seen_119 rfl ?_
                          refine lv_topl (fun y119 e119 => ?_)
                          refine lv_ladd hx hb dL_seen_120 ?_
                          refine lv_topl (fun y120 e120 => ?_)
                          refine lv_lmul hx hb dL_seen_121 ?_
                          refine lv_topl (fun y121 e121 => ?_)
                          refine lv_aload_n hx hb dL_seen_122 rfl (lv_at hl 2 rfl) ?_
                          refine lv_iload_n hx hb dL_seen_123 rfl (lv_at hl 0 rfl) ?_
                          refine lv_bipush (v := 12) hx hb dL_seen_124 (by decide) ?_
                          refine lv_idiv hx hb dL_seen_126 (by decide) ?_
                          refine lv_topi (fun x126 e126 => ?_)
                          have t126 : x126.toInt = k92.toInt / 12 := by rw [e126]; exact xi_div rfl (by decide) (by omega) (by omega)
                          refine lv_iload_n hx hb dL_seen_127 rfl (lv_at hl 0 rfl) ?_
                          refine lv_bipush (v := 12) hx hb dL_seen_128 (by decide) ?_
                          refine lv_irem hx hb dL_seen_130 (by decide) ?_
                          refine lv_topi (fun x130 e130 => ?_)
                          have t130 : x130.toInt = k92.toInt % 12 := by rw [e130]; exact xi_rem rfl (by decide) (by omega) (by omega)
                          refine lv_iconst (v := 1) hx hb dL_seen_131 (by decide) ?_
                          refine xo_Vi (As := [.int x126, .int x130, .int 1]) (rest := [.long y121]) hx hb hml hown hts hK hN hZ hP hD hS hA mb_X7_foot mw_2_140 mw_2_141 mw_2_142 (k_X7_foot l D cI cZ cS x0 xs xv ho0 ho1 pd0 pd1 m0 ts0 ts1 a ha sa cn cs sc tm tv pd sv ln old sz z x126 x130 (1 : Int32) hRS hI) 0 7 rfl rfl (fun _ => xwW_f) (by decide) (by decide) rfl hl.1 rfl (Nat.le_of_ble_eq_true rfl) dL_seen_132 ⟨Nat.zero_le _, Nat.zero_le _⟩ (fun r132 u132 H locs hw hP hD hS => ?_)
                          have p132 : r132 = footR z x126 x130 (1 : Int32) := hw
                          have hP : va_P D vwCl (xwW cI cZ cS x0 xs xv ho0 ho1 pd0 pd1 m0 ts0 ts1 a ha sa cn cs sc tm tv pd sv ln old sz z) H := hP
                          have hD : va_D A (xwW cI cZ cS x0 xs xv ho0 ho1 pd0 pd1 m0 ts0 ts1 a ha sa cn cs sc tm tv pd sv ln old sz z) := hD
                          refine lv_i2l hx hb dL_seen_135 rfl ?_
                          refine lv_topl (fun y135 e135 => ?_)
                          refine lv_ladd hx hb dL_seen_136 ?_
                          refine lv_topl (fun y136 e136 => ?_)
                          refine lv_lstore_n (lv' := [(1, .long y136), (3, .int k92), (0, .ref x0)]) hx hb dL_seen_137 rfl hl (by decide) rfl (fun ls hl => ?_)
                          obtain ⟨x138, e138⟩ : ∃ y : Int32, y = k92 + 1 := ⟨_, rfl⟩
                          have t138 : x138.toInt = k92.toInt + 1 := by rw [e138]; exact xi_add rfl (by decide) (by omega) (by omega)
                          refine lv_iinc (v := x138) (lv' := [(3, .int x138), (1, .long y136), (0, .ref x0)]) hx hb dL_seen_138 hl (k := 1) rfl (by rw [e138]; rfl) (by decide) rfl (fun ls hl => ?_)
                          refine lv_goto (tgt := 92) hx hb dL_seen_141 (by decide) ?_
                          exact ih92  y136 x138 (by omega) (by rw [e136, e135, e121, e120, e119, e105, p116, p132, ft_var z (by omega) (by omega) (Or.inl rfl), ft_var z (by omega) (by omega) (Or.inr rfl), hh, show x138.toInt.toNat = k92.toInt.toNat + 1 from by omega, show x110.toInt.toNat = k92.toInt.toNat / 12 from by omega, show x114.toInt.toNat = k92.toInt.toNat % 12 from by omega, show x126.toInt.toNat = k92.toInt.toNat / 12 from by omega, show x130.toInt.toNat = k92.toInt.toNat % 12 from by omega]; rfl) (by omega) _ _ hP hD hS ls (lv_sub hl [0, 1, 2] rfl)
                    exact L92 121 h60 (0 : Int32) (by decide) (by rw [hh, show k60.toInt.toNat = 36 from by omega]; rfl) (by decide) _ _ hP hD hS ls (lv_sub hl [0, 1, 2] rfl)
                  · have t63 : k60.toInt < 36 := xi_nle (by decide) rfl c63
                    refine lv_ldc2 (v := 31) hx hb hown (hts _ (List.mem_cons_of_mem _ mw_2_120)) dL_seen_66 ?_
                    refine lv_lload_n hx hb dL_seen_69 rfl (lv_at hl 1 rfl) ?_
                    refine lv_lmul hx hb dL_seen_70 ?_
                    refine lv_topl (fun y70 e70 => ?_)
                    refine lv_aload_n hx hb dL_seen_71 rfl (lv_at hl 2 rfl) ?_
                    refine lv_iload_n hx hb dL_seen_72 rfl (lv_at hl 0 rfl) ?_
                    refine lv_iconst (v := 3) hx hb dL_seen_73 (by decide) ?_
                    refine lv_idiv hx hb dL_seen_74 (by decide) ?_
                    refine lv_topi (fun x74 e74 => ?_)
                    have t74 : x74.toInt = k60.toInt / 3 := by rw [e74]; exact xi_div rfl (by decide) (by omega) (by omega)
                    refine lv_iload_n hx hb dL_seen_75 rfl (lv_at hl 0 rfl) ?_
                    refine lv_iconst (v := 3) hx hb dL_seen_76 (by decide) ?_
                    refine lv_irem hx hb dL_seen_77 (by decide) ?_
                    refine lv_topi (fun x77 e77 => ?_)
                    have t77 : x77.toInt = k60.toInt % 3 := by rw [e77]; exact xi_rem rfl (by decide) (by omega) (by omega)
                    refine xo_Vi (As := [.int x74, .int x77]) (rest := [.long y70]) hx hb hml hown hts hK hN hZ hP hD hS hA mb_X7_stretch mw_2_121 mw_2_122 mw_2_123 (k_X7_stretch l D cI cZ cS x0 xs xv ho0 ho1 pd0 pd1 m0 ts0 ts1 a ha sa cn cs sc tm tv pd sv ln old sz z x74 x77 hRS hI) 0 7 rfl rfl (fun _ => xwW_f) (by decide) (by decide) rfl hl.1 rfl (Nat.le_of_ble_eq_true rfl) dL_seen_78 ⟨Nat.zero_le _, Nat.zero_le _⟩ (fun r78 u78 H locs hw hP hD hS => ?_)
                    have p78 : strA z x74 x77 r78 := hw
                    have hP : va_P D vwCl (xwW cI cZ cS x0 xs xv ho0 ho1 pd0 pd1 m0 ts0 ts1 a ha sa cn cs sc tm tv pd sv ln old sz z) H := hP
                    have hD : va_D A (xwW cI cZ cS x0 xs xv ho0 ho1 pd0 pd1 m0 ts0 ts1 a ha sa cn cs sc tm tv pd sv ln old sz z) := hD
                    refine lv_i2l hx hb dL_seen_81 rfl ?_
                    refine lv_topl (fun y81 e81 => ?_)
                    refine lv_ladd hx hb dL_seen_82 ?_
                    refine lv_topl (fun y82 e82 => ?_)
                    refine lv_lstore_n (lv' := [(1, .long y82), (3, .int k60), (0, .ref x0)]) hx hb dL_seen_83 rfl hl (by decide) rfl (fun ls hl => ?_)
                    obtain ⟨x84, e84⟩ : ∃ y : Int32, y = k60 + 1 := ⟨_, rfl⟩
                    have t84 : x84.toInt = k60.toInt + 1 := by rw [e84]; exact xi_add rfl (by decide) (by omega) (by omega)
                    refine lv_iinc (v := x84) (lv' := [(3, .int x84), (1, .long y82), (0, .ref x0)]) hx hb dL_seen_84 hl (k := 1) rfl (by rw [e84]; rfl) (by decide) rfl (fun ls hl => ?_)
                    refine lv_goto (tgt := 60) hx hb dL_seen_87 (by decide) ?_
                    exact ih60  y82 x84 (by omega) (by rw [e82, e81, e70, st_var (by omega) (by omega) p78, hh, show x84.toInt.toNat = k60.toInt.toNat + 1 from by omega, show x74.toInt.toNat = k60.toInt.toNat / 3 from by omega, show x77.toInt.toNat = k60.toInt.toNat % 3 from by omega]; rfl) (by omega) _ _ hP hD hS ls (lv_sub hl [0, 1, 2] rfl)
              exact L60 37 h33 (0 : Int32) (by decide) (by rw [hh, show k33.toInt.toNat = 11 from by omega]; rfl) (by decide) _ _ hP hD hS ls (lv_sub hl [0, 1, 2] rfl)
            · have t36 : k33.toInt < 11 := xi_nle (by decide) rfl c36
              refine lv_ldc2 (v := 31) hx hb hown (hts _ (List.mem_cons_of_mem _ mw_2_120)) dL_seen_39 ?_
              refine lv_lload_n hx hb dL_seen_42 rfl (lv_at hl 1 rfl) ?_
              refine lv_lmul hx hb dL_seen_43 ?_
              refine lv_topl (fun y43 e43 => ?_)
              refine lv_aload_n hx hb dL_seen_44 rfl (lv_at hl 2 rfl) ?_
              refine lv_iload_n hx hb dL_seen_45 rfl (lv_at hl 0 rfl) ?_
              refine xo_Vi (As := [.int k33]) (rest := [.long y43]) hx hb hml hown hts hK hN hZ hP hD hS hA mb_X7_count mw_2_6 mw_2_7 mw_2_8 (k_X7_count l D cI cZ cS x0 xs xv ho0 ho1 pd0 pd1 m0 ts0 ts1 a ha sa cn cs sc tm tv pd sv ln old sz z k33 hRS hI) 0 7 rfl rfl (fun _ => xwW_f) (by decide) (by decide) rfl hl.1 rfl (Nat.le_of_ble_eq_true rfl) dL_seen_46 ⟨Nat.zero_le _, Nat.zero_le _⟩ (fun r46 u46 H locs hw hP hD hS => ?_)
              have p46 : r46 = cntR z ln sz k33 := hw
              have hP : va_P D vwCl (xwW cI cZ cS x0 xs xv ho0 ho1 pd0 pd1 m0 ts0 ts1 a ha sa cn cs sc tm tv pd sv ln old sz z) H := hP
              have hD : va_D A (xwW cI cZ cS x0 xs xv ho0 ho1 pd0 pd1 m0 ts0 ts1 a ha sa cn cs sc tm tv pd sv ln old sz z) := hD
              refine lv_i2l hx hb dL_seen_49 rfl ?_
              refine lv_topl (fun y49 e49 => ?_)
              refine lv_ladd hx hb dL_seen_50 ?_
              refine lv_topl (fun y50 e50 => ?_)
              refine lv_lstore_n (lv' := [(1, .long y50), (3, .int k33), (0, .ref x0)]) hx hb dL_seen_51 rfl hl (by decide) rfl (fun ls hl => ?_)
              obtain ⟨x52, e52⟩ : ∃ y : Int32, y = k33 + 1 := ⟨_, rfl⟩
              have t52 : x52.toInt = k33.toInt + 1 := by rw [e52]; exact xi_add rfl (by decide) (by omega) (by omega)
              refine lv_iinc (v := x52) (lv' := [(3, .int x52), (1, .long y50), (0, .ref x0)]) hx hb dL_seen_52 hl (k := 1) rfl (by rw [e52]; rfl) (by decide) rfl (fun ls hl => ?_)
              refine lv_goto (tgt := 33) hx hb dL_seen_55 (by decide) ?_
              exact ih33  y50 x52 (by omega) (by rw [e50, e49, e43, p46, ct_var z _ _ (by omega), hh, show x52.toInt.toNat = k33.toInt.toNat + 1 from by omega]; rfl) (by omega) _ _ hP hD hS ls (lv_sub hl [0, 1, 2] rfl)
        exact L33 12 h6 (0 : Int32) (by decide) (by rw [hh, show k6.toInt.toNat = 15 from by omega]; rfl) (by decide) _ _ hP hD hS ls (lv_sub hl [0, 1, 2] rfl)
      · have t9 : k6.toInt < 15 := xi_nle (by decide) rfl c9
        refine lv_ldc2 (v := 31) hx hb hown (hts _ (List.mem_cons_of_mem _ mw_2_120)) dL_seen_12 ?_
        refine lv_lload_n hx hb dL_seen_15 rfl (lv_at hl 1 rfl) ?_
        refine lv_lmul hx hb dL_seen_16 ?_
        refine lv_topl (fun y16 e16 => ?_)
        refine lv_aload_n hx hb dL_seen_17 rfl (lv_at hl 2 rfl) ?_
        refine lv_iload_n hx hb dL_seen_18 rfl (lv_at hl 0 rfl) ?_
        refine xo_Vi (As := [.int k6]) (rest := [.long y16]) hx hb hml hown hts hK hN hZ hP hD hS hA mb_X7_walk mw_1_238 mw_1_239 mw_2_0 (k_X7_walk l D cI cZ cS x0 xs xv ho0 ho1 pd0 pd1 m0 ts0 ts1 a ha sa cn cs sc tm tv pd sv ln old sz z k6 hRS hI) 0 7 rfl rfl (fun _ => xwW_f) (by decide) (by decide) rfl hl.1 rfl (Nat.le_of_ble_eq_true rfl) dL_seen_19 ⟨Nat.zero_le _, Nat.zero_le _⟩ (fun r19 u19 H locs hw hP hD hS => ?_)
        have p19 : r19 = walkR z k6 := hw
        have hP : va_P D vwCl (xwW cI cZ cS x0 xs xv ho0 ho1 pd0 pd1 m0 ts0 ts1 a ha sa cn cs sc tm tv pd sv ln old sz z) H := hP
        have hD : va_D A (xwW cI cZ cS x0 xs xv ho0 ho1 pd0 pd1 m0 ts0 ts1 a ha sa cn cs sc tm tv pd sv ln old sz z) := hD
        refine lv_i2l hx hb dL_seen_22 rfl ?_
        refine lv_topl (fun y22 e22 => ?_)
        refine lv_ladd hx hb dL_seen_23 ?_
        refine lv_topl (fun y23 e23 => ?_)
        refine lv_lstore_n (lv' := [(1, .long y23), (3, .int k6), (0, .ref x0)]) hx hb dL_seen_24 rfl hl (by decide) rfl (fun ls hl => ?_)
        obtain ⟨x25, e25⟩ : ∃ y : Int32, y = k6 + 1 := ⟨_, rfl⟩
        have t25 : x25.toInt = k6.toInt + 1 := by rw [e25]; exact xi_add rfl (by decide) (by omega) (by omega)
        refine lv_iinc (v := x25) (lv' := [(3, .int x25), (1, .long y23), (0, .ref x0)]) hx hb dL_seen_25 hl (k := 1) rfl (by rw [e25]; rfl) (by decide) rfl (fun ls hl => ?_)
        refine lv_goto (tgt := 6) hx hb dL_seen_28 (by decide) ?_
        exact ih6  y23 x25 (by omega) (by rw [e23, e22, e16, p19, wk_var z (by omega), hh, show x25.toInt.toNat = k6.toInt.toNat + 1 from by omega]; rfl) (by omega) _ _ hP hD hS ls (lv_sub hl [0, 1, 2] rfl)
  exact L6 16 (223 : Int64) (0 : Int32) (by decide) (by rfl) (by decide) _ _ hP hD hS ls (lv_sub hl [0, 1, 2] rfl)
