set_option maxHeartbeats 4000000 in
set_option maxRecDepth 100000 in
theorem c_L_act (l : Launch) (D : va_G) (cI cZ cS : ClassId) (x0 : Nat) (xs : Nat) (xv : Nat) (ho0 : Nat) (ho1 : Nat) (pd0 : Nat) (pd1 : Nat) (m0 : Nat) (ts0 : Nat) (ts1 : Nat) (a : Nat → Nat) (ha : Nat → Nat → Nat) (sa : Nat → Nat → Nat) (cn : Nat → Nat → Int32) (cs : Nat → Nat → Nat → Int32) (sc : Nat → Nat → Nat → Int32) (tm : Nat → Int32) (tv : Nat → Int32) (pd : Nat → Int32) (sv : Nat → Int32) (old : Int32) (sz : Int32) (z : Nat → Int32) (past : Nat → Int32) (slots : Nat → Int32) (bd : Int) (p1 p2 : Int32) (hLI : LI bd cn cs sc sv (0 : Int32) old sz z past slots) (hbd : bd ≤ 99000) (hp1 : 0 ≤ p1.toInt) : xMi l yL_act cL_act 10 (some .int) ({ frames := 7, cells := 0, slots := 0, locals := 159 } : Room) D (xTy cI cZ cS) [.ref x0, .int p1, .int p2] (xwW cI cZ cS x0 xs xv ho0 ho1 pd0 pd1 m0 ts0 ts1 a ha sa cn cs sc tm tv pd sv (0 : Int32) old sz z) (fun (r : Int32) (u : (Nat → Nat → Int32) × (Nat → Nat → Nat → Int32) × (Nat → Int32) × (Nat → Int32) × (Int32) × (Int32) × (Nat → Int32)) => ((r = 1 ∧ LI (bd + 500) u.1 u.2.1 sc sv (0 : Int32) u.2.2.2.2.1 u.2.2.2.2.2.1 u.2.2.2.2.2.2 (recP z past sz) slots ∧ u.2.2.2.2.2.1 = recS sz) ∨ (r = 0 ∧ LI bd u.1 u.2.1 sc sv (0 : Int32) u.2.2.2.2.1 u.2.2.2.2.2.1 u.2.2.2.2.2.2 past slots ∧ u.2.2.2.2.2.2 = z ∧ u.2.2.2.2.2.1 = sz)) ∧ (∀ k : Nat, 190 ≤ k → u.2.2.2.2.2.2 k = z k)) (fun (u : (Nat → Nat → Int32) × (Nat → Nat → Nat → Int32) × (Nat → Int32) × (Nat → Int32) × (Int32) × (Int32) × (Nat → Int32)) => (xwW cI cZ cS x0 xs xv ho0 ho1 pd0 pd1 m0 ts0 ts1 a ha sa u.1 u.2.1 sc u.2.2.1 tv u.2.2.2.1 sv (0 : Int32) u.2.2.2.2.1 u.2.2.2.2.2.1 u.2.2.2.2.2.2)) := by
  refine xk_bodyi (by decide) (Nat.le_of_ble_eq_true rfl) ?_
  intro p e s m below meth c A ls args Q hx hb hr hts hown hlocks hml hin hK hP hD hS hA hN hZ hl hQ
  have hl : lv_has ls 10 [(0, .ref x0), (1, .int p1), (2, .int p2)] := hl
  obtain ⟨hRS, hI, hBD, ⟨hold, hszz, hlnn⟩, hmcs, hmsc, hRH, hRL⟩ := id hLI
  obtain ⟨⟨hb74, hb74u⟩, ⟨hb86, hb86u⟩, hIP⟩ := id hBD
  have hs0 : (1 ≤ (z 0).toInt ∧ (z 0).toInt ≤ 9) ∧ (0 ≤ (z 1).toInt ∧ (z 1).toInt ≤ 9) ∧ (1 ≤ (z 2).toInt ∧ (z 2).toInt ≤ 9) ∧ (1 ≤ (z 3).toInt ∧ (z 3).toInt ≤ 20) ∧ (2 ≤ (z 5).toInt ∧ (z 5).toInt ≤ 9) := hI.1
  have hg6 : 0 ≤ (z 6).toInt ∧ (z 6).toInt ≤ 10 := hI.2.1.1
  have hr7 : 0 ≤ (z 7).toInt ∧ (z 7).toInt ≤ 12 := hI.2.2.1.1
  have z0 : (0 : Int32).toInt = 0 := by decide
  have J12 : ∀ (ho : Int32)  (H : Heap) (locs : List Loc), va_P D vwCl (xwW cI cZ cS x0 xs xv ho0 ho1 pd0 pd1 m0 ts0 ts1 a ha sa cn cs sc tm tv pd sv (0 : Int32) old sz z) H → va_D A (xwW cI cZ cS x0 xs xv ho0 ho1 pd0 pd1 m0 ts0 ts1 a ha sa cn cs sc tm tv pd sv (0 : Int32) old sz z) → va_S A s.heap H locs → ∀ ls : Array Slot, lv_has ls 10 [(0, .ref x0), (1, .int p1), (2, .int p2)] → W p l e ({ frames := 7, cells := 0, slots := 0, locals := 159 } : Room) s m args below meth c H locs 0 0 Q (F0 m 12 ls [.int ho]) := by
    intro ho H locs hP hD hS ls hl
    refine lv_istore_n (lv' := [(3, .int ho), (0, .ref x0), (1, .int p1), (2, .int p2)]) hx hb dL_act_12 rfl hl (by decide) rfl (fun ls hl => ?_)
    refine lv_iload_n hx hb dL_act_13 rfl (lv_at hl 2 rfl) ?_
    refine lv_bipush (v := 16) hx hb dL_act_14 (by decide) ?_
    refine lv_idiv hx hb dL_act_16 (by decide) ?_
    refine lv_topi (fun x16 e16 => ?_)
    have t16 : x16.toInt = p1.toInt / 16 := by rw [e16]; exact xi_div rfl (by decide) (by omega) (by omega)
    refine lv_istore (lv' := [(4, .int x16), (3, .int ho), (0, .ref x0), (1, .int p1), (2, .int p2)]) hx hb dL_act_17 hl (by decide) rfl (fun ls hl => ?_)
    refine lv_iload_n hx hb dL_act_19 rfl (lv_at hl 1 rfl) ?_
    refine lv_if_ne (tgt := 254) hx hb dL_act_20 (by decide) (fun c20 => ?_) (fun c20 => ?_)
    · have t20 : ¬ ho.toInt = 0 := xi_ne rfl (by decide) c20
      have d20 : ¬ ho = 0 := c20
      refine lv_iload_n hx hb dL_act_254 rfl (lv_at hl 1 rfl) ?_
      refine lv_iconst (v := 3) hx hb dL_act_255 (by decide) ?_
      refine lv_icmp_ge (tgt := 422) hx hb dL_act_256 (by decide) (fun c256 => ?_) (fun c256 => ?_)
      · have t256 : 3 ≤ ho.toInt := xi_le (by decide) rfl c256
        refine lv_iload_n hx hb dL_act_422 rfl (lv_at hl 1 rfl) ?_
        refine lv_iconst (v := 3) hx hb dL_act_423 (by decide) ?_
        refine lv_icmp_ne (tgt := 537) hx hb dL_act_424 (by decide) (fun c424 => ?_) (fun c424 => ?_)
        · have t424 : ¬ ho.toInt = 3 := xi_ne rfl (by decide) c424
          have d424 : ¬ ho = 3 := c424
          refine lv_iload_n hx hb dL_act_537 rfl (lv_at hl 1 rfl) ?_
          refine lv_iconst (v := 4) hx hb dL_act_538 (by decide) ?_
          refine lv_icmp_ne (tgt := 572) hx hb dL_act_539 (by decide) (fun c539 => ?_) (fun c539 => ?_)
          · have t539 : ¬ ho.toInt = 4 := xi_ne rfl (by decide) c539
            have d539 : ¬ ho = 4 := c539
            refine lv_iload_n hx hb dL_act_572 rfl (lv_at hl 1 rfl) ?_
            refine lv_bipush (v := 14) hx hb dL_act_573 (by decide) ?_
            refine lv_icmp_ge (tgt := 771) hx hb dL_act_575 (by decide) (fun c575 => ?_) (fun c575 => ?_)
            · have t575 : 14 ≤ ho.toInt := xi_le (by decide) rfl c575
              exact la_set l x0 xs xv ho0 ho1 pd0 pd1 m0 ts0 ts1 a ha sa cn cs sc tm tv pd sv old sz z past slots bd p1 p2 ho x16 hLI (by omega) hx hb hr hts hown hlocks hml hK hA hN hZ hQ (by omega) _ _ hP hD hS ls (lv_sub hl [0, 1, 2, 3, 4] rfl)
            · have t575 : ho.toInt < 14 := xi_nle (by decide) rfl c575
              exact la_march l x0 xs xv ho0 ho1 pd0 pd1 m0 ts0 ts1 a ha sa cn cs sc tm tv pd sv old sz z past slots bd p1 p2 ho x16 hLI (by omega) hx hb hr hts hown hlocks hml hK hA hN hZ hQ (by omega) _ _ hP hD hS ls (lv_sub hl [0, 1, 2, 3, 4] rfl)
          · have t539 : ho.toInt = 4 := xi_eq rfl (by decide) c539
            have d539 : ho = 4 := c539
            exact la_begin l x0 xs xv ho0 ho1 pd0 pd1 m0 ts0 ts1 a ha sa cn cs sc tm tv pd sv old sz z past slots bd p1 p2 ho x16 hLI (by omega) hx hb hr hts hown hlocks hml hK hA hN hZ hQ (by omega) _ _ hP hD hS ls (lv_sub hl [0, 1, 2, 3, 4] rfl)
        · have t424 : ho.toInt = 3 := xi_eq rfl (by decide) c424
          have d424 : ho = 3 := c424
          exact la_tear l x0 xs xv ho0 ho1 pd0 pd1 m0 ts0 ts1 a ha sa cn cs sc tm tv pd sv old sz z past slots bd p1 p2 ho x16 hLI (by omega) hx hb hr hts hown hlocks hml hK hA hN hZ hQ (by omega) _ _ hP hD hS ls (lv_sub hl [0, 1, 2, 3, 4] rfl)
      · have t256 : ho.toInt < 3 := xi_nle (by decide) rfl c256
        exact la_pave l x0 xs xv ho0 ho1 pd0 pd1 m0 ts0 ts1 a ha sa cn cs sc tm tv pd sv old sz z past slots bd p1 p2 ho x16 hLI (by omega) hx hb hr hts hown hlocks hml hK hA hN hZ hQ (by omega) _ _ hP hD hS ls (lv_sub hl [0, 1, 2, 3, 4] rfl)
    · have t20 : ho.toInt = 0 := xi_eq rfl (by decide) c20
      have d20 : ho = 0 := c20
      exact la_text l x0 xs xv ho0 ho1 pd0 pd1 m0 ts0 ts1 a ha sa cn cs sc tm tv pd sv old sz z past slots bd p1 p2 ho x16 hLI (by omega) hx hb hr hts hown hlocks hml hK hA hN hZ hQ (by omega) _ _ hP hD hS ls (lv_sub hl [0, 1, 2, 3, 4] rfl)
  refine lv_iload_n hx hb dL_act_0 rfl (lv_at hl 2 rfl) ?_
  refine lv_if_eq (tgt := 8) hx hb dL_act_1 (by decide) (fun c1 => ?_) (fun c1 => ?_)
  · have t1 : p2.toInt = 0 := xi_eq rfl (by decide) c1
    have d1 : p2 = 0 := c1
    refine lv_iload_n hx hb dL_act_8 rfl (lv_at hl 1 rfl) ?_
    refine lv_bipush (v := 16) hx hb dL_act_9 (by decide) ?_
    refine lv_irem hx hb dL_act_11 (by decide) ?_
    refine lv_topi (fun x11 e11 => ?_)
    have t11 : x11.toInt = p1.toInt % 16 := by rw [e11]; exact xi_rem rfl (by decide) (by omega) (by omega)
    exact J12 x11  _ _ hP hD hS ls (lv_sub hl [0, 1, 2] rfl)
  · have t1 : ¬ p2.toInt = 0 := xi_ne rfl (by decide) c1
    have d1 : ¬ p2 = 0 := c1
    refine lv_iconst (v := 0) hx hb dL_act_4 (by decide) ?_
    refine lv_goto (tgt := 12) hx hb dL_act_5 (by decide) ?_
    exact J12 (0 : Int32)  _ _ hP hD hS ls (lv_sub hl [0, 1, 2] rfl)
