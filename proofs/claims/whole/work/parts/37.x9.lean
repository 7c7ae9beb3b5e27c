set_option maxHeartbeats 4000000 in
set_option maxRecDepth 100000 in
theorem c_X7_isReady (l : Launch) (D : va_G) (cI cZ cS : ClassId) (x0 xs xv ho0 pd0 m0 ts0 : Nat) (a : Nat → Nat) (cn : Nat → Nat → Int32) (z : Nat → Int32) (h6 : cn 7 0 = z 6) (h7 : cn 7 1 = z 7) : xMi l yX7_isReady cX7_isReady 1 (some .boolean) ({ frames := 0, cells := 0, slots := 0, locals := 0 } : Room) D (xTy cI cZ cS) [.ref x0] [(x0, .inr (7, [.ref (a 0), .ref xs, .ref xv, .ref ho0, .ref pd0, .ref m0, .ref ts0])), ((a 0), .inr (6, [.ref (a 1), .ref (a 3), .ref (a 7), .ref (a 11)])), ((a 3), .inr (5, [.int (cn 7 0), .ref (a 4), .ref (a 5), .ref (a 6)])), ((a 7), .inr (3, [.int (cn 7 1), .ref (a 8), .ref (a 9), .ref (a 10)]))] (fun (r : Int32) (_ : Unit) => ((r = 1 ∧ (canZ z)) ∨ (r = 0 ∧ ¬ (canZ z)))) (fun (_ : Unit) => [(x0, .inr (7, [.ref (a 0), .ref xs, .ref xv, .ref ho0, .ref pd0, .ref m0, .ref ts0])), ((a 0), .inr (6, [.ref (a 1), .ref (a 3), .ref (a 7), .ref (a 11)])), ((a 3), .inr (5, [.int (cn 7 0), .ref (a 4), .ref (a 5), .ref (a 6)])), ((a 7), .inr (3, [.int (cn 7 1), .ref (a 8), .ref (a 9), .ref (a 10)]))]) := by
  refine xk_bodyi (by decide) (Nat.le_of_ble_eq_true rfl) ?_
  intro p e s m below meth c A ls args Q hx hb hr hts hown hlocks hml hin hK hP hD hS hA hN hZ hl hQ
  have hl : lv_has ls 1 [(0, .ref x0)] := hl
  have g6 : (cn 7 0).toInt = (z 6).toInt := by rw [h6]
  have g7 : (cn 7 1).toInt = (z 7).toInt := by rw [h7]
  refine lv_aload_n hx hb dX7_isReady_0 rfl (lv_at hl 0 rfl) ?_
  refine va_get (D := D) (ci := 7) (v := .ref (a 0)) (C := RX7) (T := TX7) (N := 7) hx hb hts xin7 hown hK hP 0 rfl rfl 0 (by decide) (hts _ (List.mem_cons_of_mem _ mw_1_217)) (fun _ h9 => h9) rfl dX7_isReady_1 ?_
  refine va_getN (D := D) (ci := 6) (v := .ref (a 3)) (C := RX6) (T := TX6) (N := 4) hx hb hts xin6 hown hK hP 1 rfl rfl 1 (by decide) (xnf_20 hN) (fun _ h9 => h9) rfl dX7_isReady_4 ?_
  refine va_getN (D := D) (ci := 5) (v := .int (cn 7 0)) (C := RX5) (T := TX5) (N := 4) hx hb hts xin5 hown hK hP 2 rfl rfl 0 (by decide) (xnf_1 hN) (fun _ h9 => h9) rfl dX7_isReady_7 ?_
  refine lv_if_le (tgt := 30) hx hb dX7_isReady_10 (by decide) (fun c10 => ?_) (fun c10 => ?_)
  · have t10 : (cn 7 0).toInt ≤ 0 := xi_le rfl (by decide) c10
    refine lv_iconst (v := 0) hx hb dX7_isReady_30 (by decide) ?_
    exact xk_retz () hx hb hr hlocks (by decide) (xk_P hP (by rfl)) (by first | exact Or.inl ⟨rfl, by omega⟩ | exact Or.inr ⟨rfl, by omega⟩) hS dX7_isReady_31 hQ
  · have t10 : 0 < (cn 7 0).toInt := xi_nle rfl (by decide) c10
    refine lv_aload_n hx hb dX7_isReady_13 rfl (lv_at hl 0 rfl) ?_
    refine va_get (D := D) (ci := 7) (v := .ref (a 0)) (C := RX7) (T := TX7) (N := 7) hx hb hts xin7 hown hK hP 0 rfl rfl 0 (by decide) (hts _ (List.mem_cons_of_mem _ mw_1_217)) (fun _ h9 => h9) rfl dX7_isReady_14 ?_
    refine va_getN (D := D) (ci := 6) (v := .ref (a 7)) (C := RX6) (T := TX6) (N := 4) hx hb hts xin6 hown hK hP 1 rfl rfl 2 (by decide) (xnf_21 hN) (fun _ h9 => h9) rfl dX7_isReady_17 ?_
    refine va_getN (D := D) (ci := 3) (v := .int (cn 7 1)) (C := RX3) (T := TX3) (N := 4) hx hb hts xin3 hown hK hP 3 rfl rfl 0 (by decide) (xnf_4 hN) (fun _ h9 => h9) rfl dX7_isReady_20 ?_
    refine lv_if_le (tgt := 30) hx hb dX7_isReady_23 (by decide) (fun c23 => ?_) (fun c23 => ?_)
    · have t23 : (cn 7 1).toInt ≤ 0 := xi_le rfl (by decide) c23
      refine lv_iconst (v := 0) hx hb dX7_isReady_30 (by decide) ?_
      exact xk_retz () hx hb hr hlocks (by decide) (xk_P hP (by rfl)) (by first | exact Or.inl ⟨rfl, by omega⟩ | exact Or.inr ⟨rfl, by omega⟩) hS dX7_isReady_31 hQ
    · have t23 : 0 < (cn 7 1).toInt := xi_nle rfl (by decide) c23
      refine lv_iconst (v := 1) hx hb dX7_isReady_26 (by decide) ?_
      refine lv_goto (tgt := 31) hx hb dX7_isReady_27 (by decide) ?_
      exact xk_retz () hx hb hr hlocks (by decide) (xk_P hP (by rfl)) (by first | exact Or.inl ⟨rfl, by omega⟩ | exact Or.inr ⟨rfl, by omega⟩) hS dX7_isReady_31 hQ

set_option maxHeartbeats 4000000 in
set_option maxRecDepth 100000 in
theorem c_X7_isSlot (l : Launch) (D : va_G) (cI cZ cS : ClassId) (p0 : Int32)  : xMi l yX7_isSlot cX7_isSlot 1 (some .boolean) ({ frames := 0, cells := 0, slots := 0, locals := 0 } : Room) D (xTy cI cZ cS) [.int p0] [] (fun (r : Int32) (_ : Unit) => ((r = 1 ∧ (slotV p0)) ∨ (r = 0 ∧ ¬ (slotV p0)))) (fun (_ : Unit) => []) := by
  refine xk_bodyi (by decide) (Nat.le_of_ble_eq_true rfl) ?_
  intro p e s m below meth c A ls args Q hx hb hr hts hown hlocks hml hin hK hP hD hS hA hN hZ hl hQ
  have hl : lv_has ls 1 [(0, .int p0)] := hl
  refine lv_iload_n hx hb dX7_isSlot_0 rfl (lv_at hl 0 rfl) ?_
  refine lv_if_lt (tgt := 13) hx hb dX7_isSlot_1 (by decide) (fun c1 => ?_) (fun c1 => ?_)
  · have t1 : p0.toInt < 0 := xi_lt rfl (by decide) c1
    refine lv_iconst (v := 0) hx hb dX7_isSlot_13 (by decide) ?_
    exact xk_retz () hx hb hr hlocks (by decide) (xk_P hP (by rfl)) (by first | exact Or.inl ⟨rfl, by omega⟩ | exact Or.inr ⟨rfl, by omega⟩) hS dX7_isSlot_14 hQ
  · have t1 : 0 ≤ p0.toInt := xi_nlt rfl (by decide) c1
    refine lv_iload_n hx hb dX7_isSlot_4 rfl (lv_at hl 0 rfl) ?_
    refine lv_iconst (v := 2) hx hb dX7_isSlot_5 (by decide) ?_
    refine lv_icmp_ge (tgt := 13) hx hb dX7_isSlot_6 (by decide) (fun c6 => ?_) (fun c6 => ?_)
    · have t6 : 2 ≤ p0.toInt := xi_le (by decide) rfl c6
      refine lv_iconst (v := 0) hx hb dX7_isSlot_13 (by decide) ?_
      exact xk_retz () hx hb hr hlocks (by decide) (xk_P hP (by rfl)) (by first | exact Or.inl ⟨rfl, by omega⟩ | exact Or.inr ⟨rfl, by omega⟩) hS dX7_isSlot_14 hQ
    · have t6 : p0.toInt < 2 := xi_nle (by decide) rfl c6
      refine lv_iconst (v := 1) hx hb dX7_isSlot_9 (by decide) ?_
      refine lv_goto (tgt := 14) hx hb dX7_isSlot_10 (by decide) ?_
      exact xk_retz () hx hb hr hlocks (by decide) (xk_P hP (by rfl)) (by first | exact Or.inl ⟨rfl, by omega⟩ | exact Or.inr ⟨rfl, by omega⟩) hS dX7_isSlot_14 hQ

set_option maxHeartbeats 4000000 in
set_option maxRecDepth 100000 in
theorem c_X7_songsByCounting (l : Launch) (D : va_G) (cI cZ cS : ClassId) (p0 p1 : Int32) (hp0 : 0 ≤ p0.toInt ∧ p0.toInt ≤ 480) (hp1 : 1 ≤ p1.toInt ∧ p1.toInt ≤ 99) : xMi l yX7_songsByCounting cX7_songsByCounting 3 (some .int) ({ frames := 0, cells := 0, slots := 0, locals := 0 } : Room) D (xTy cI cZ cS) [.int p0, .int p1] [] (fun (r : Int32) (_ : Unit) => leastK p0.toInt p1.toInt r.toInt) (fun (_ : Unit) => []) := by
  refine xk_bodyi (by decide) (Nat.le_of_ble_eq_true rfl) ?_
  intro p e s m below meth c A ls args Q hx hb hr hts hown hlocks hml hin hK hP hD hS hA hN hZ hl hQ
  have hl : lv_has ls 3 [(0, .int p0), (1, .int p1)] := hl
  refine lv_iconst (v := 1) hx hb dX7_songsByCounting_0 (by decide) ?_
  refine lv_istore_n (lv' := [(2, .int 1), (0, .int p0), (1, .int p1)]) hx hb dX7_songsByCounting_1 rfl hl (by decide) rfl (fun ls hl => ?_)
  have L2 : ∀ (n : Nat) (k : Int32) (hk : 1 ≤ k.toInt ∧ k.toInt ≤ p1.toInt) (hj : ∀ j : Int, 1 ≤ j → j < k.toInt → ¬ j * p0.toInt % p1.toInt = 0) (hn2 : (100 - k.toInt).toNat < n) (H : Heap) (locs : List Loc), va_P D vwCl [] H → va_D A [] → va_S A s.heap H locs → ∀ ls : Array Slot, lv_has ls 3 [(2, .int k), (0, .int p0), (1, .int p1)] → W p l e ({ frames := 0, cells := 0, slots := 0, locals := 0 } : Room) s m args below meth c H locs 0 0 Q (F0 m 2 ls []) := by
    intro n
    induction n with
    | zero =>
      intro k hk hj hn2
      exact absurd hn2 (Nat.not_lt_zero _)
    | succ n ih2 =>
      intro k hk hj hn2 H locs hP hD hS ls hl
      refine lv_iload_n hx hb dX7_songsByCounting_2 rfl (lv_at hl 0 rfl) ?_
      refine lv_iload_n hx hb dX7_songsByCounting_3 rfl (lv_at hl 2 rfl) ?_
      refine lv_icmp_ge (tgt := 23) hx hb dX7_songsByCounting_4 (by decide) (fun c4 => ?_) (fun c4 => ?_)
      · have t4 : p1.toInt ≤ k.toInt := xi_le rfl rfl c4
        refine lv_iload_n hx hb dX7_songsByCounting_23 rfl (lv_at hl 2 rfl) ?_
        exact xk_reti () hx hb hr hlocks (xk_P hP (by rfl)) (by exact ⟨by omega, by rw [show p1.toInt = k.toInt from by omega]; exact Int.mul_emod_right _ _, fun j q1 q2 => hj j q1 (by omega)⟩) hS dX7_songsByCounting_24 hQ
      · have t4 : k.toInt < p1.toInt := xi_nle rfl rfl c4
        refine lv_iload_n hx hb dX7_songsByCounting_7 rfl (lv_at hl 0 rfl) ?_
        refine lv_iload_n hx hb dX7_songsByCounting_8 rfl (lv_at hl 1 rfl) ?_
        refine lv_imul hx hb dX7_songsByCounting_9 ?_
        refine lv_topi (fun x9 e9 => ?_)
        have hM := mul_in (k := k.toInt) (b := p0.toInt) (by omega) (by omega)
        have t9 : x9.toInt = k.toInt * p0.toInt := by rw [e9]; exact xi_mul rfl rfl (by omega) (by omega)
        refine lv_iload_n hx hb dX7_songsByCounting_10 rfl (lv_at hl 2 rfl) ?_
        refine lv_irem hx hb dX7_songsByCounting_11 (i_ne0 (by omega)) ?_
        refine lv_topi (fun x11 e11 => ?_)
        have t11 : x11.toInt = k.toInt * p0.toInt % p1.toInt := by rw [e11, xi_rem rfl rfl (by omega) (by omega), t9]
        refine lv_if_ne (tgt := 17) hx hb dX7_songsByCounting_12 (by decide) (fun c12 => ?_) (fun c12 => ?_)
        · have t12 : ¬ x11.toInt = 0 := xi_ne rfl (by decide) c12
          have d12 : ¬ x11 = 0 := c12
          obtain ⟨x17, e17⟩ : ∃ y : Int32, y = k + 1 := ⟨_, rfl⟩
          have t17 : x17.toInt = k.toInt + 1 := by rw [e17]; exact xi_add rfl (by decide) (by omega) (by omega)
          refine lv_iinc (v := x17) (lv' := [(2, .int x17), (0, .int p0), (1, .int p1)]) hx hb dX7_songsByCounting_17 hl (k := 0) rfl (by rw [e17]; rfl) (by decide) rfl (fun ls hl => ?_)
          refine lv_goto (tgt := 2) hx hb dX7_songsByCounting_20 (by decide) ?_
          have hne : ¬ k.toInt * p0.toInt % p1.toInt = 0 := by rw [← t11]; exact t12
          exact ih2  x17 (by omega) (by intro j q1 q2; by_cases q : j = k.toInt; (rw [q]; exact hne); exact hj j q1 (by omega)) (by omega) _ _ hP hD hS ls (lv_sub hl [0, 1, 2] rfl)
        · have t12 : x11.toInt = 0 := xi_eq rfl (by decide) c12
          have d12 : x11 = 0 := c12
          refine lv_iload_n hx hb dX7_songsByCounting_15 rfl (lv_at hl 0 rfl) ?_
          exact xk_reti () hx hb hr hlocks (xk_P hP (by rfl)) (by exact ⟨by omega, by rw [← t11]; exact t12, hj⟩) hS dX7_songsByCounting_16 hQ
  exact L2 100 (1 : Int32) (by rw [show (1 : Int32).toInt = 1 from by decide]; omega) (by intro j q1 q2; rw [show (1 : Int32).toInt = 1 from by decide] at q2; omega) (by decide) _ _ hP hD hS ls (lv_sub hl [0, 1, 2] rfl)

set_option maxHeartbeats 4000000 in
set_option maxRecDepth 100000 in
theorem c_X7_greatestShared (l : Launch) (D : va_G) (cI cZ cS : ClassId) (p0 p1 : Int32) (hp0 : 0 ≤ p0.toInt ∧ p0.toInt ≤ 480) (hp1 : 1 ≤ p1.toInt ∧ p1.toInt ≤ 99) : xMi l yX7_greatestShared cX7_greatestShared 6 (some .int) ({ frames := 0, cells := 0, slots := 0, locals := 0 } : Room) D (xTy cI cZ cS) [.int p0, .int p1] [] (fun (r : Int32) (_ : Unit) => r.toInt = (Nat.gcd p0.toInt.toNat p1.toInt.toNat : Int)) (fun (_ : Unit) => []) := by
  refine xk_bodyi (by decide) (Nat.le_of_ble_eq_true rfl) ?_
  intro p e s m below meth c A ls args Q hx hb hr hts hown hlocks hml hin hK hP hD hS hA hN hZ hl hQ
  have hl : lv_has ls 6 [(0, .int p0), (1, .int p1)] := hl
  refine lv_iload_n hx hb dX7_greatestShared_0 rfl (lv_at hl 0 rfl) ?_
  refine lv_istore_n (lv' := [(2, .int p0), (0, .int p0), (1, .int p1)]) hx hb dX7_greatestShared_1 rfl hl (by decide) rfl (fun ls hl => ?_)
  refine lv_iload_n hx hb dX7_greatestShared_2 rfl (lv_at hl 2 rfl) ?_
  refine lv_istore_n (lv' := [(3, .int p1), (2, .int p0), (0, .int p0), (1, .int p1)]) hx hb dX7_greatestShared_3 rfl hl (by decide) rfl (fun ls hl => ?_)
  refine lv_iconst (v := 0) hx hb dX7_greatestShared_4 (by decide) ?_
  refine lv_istore (lv' := [(4, .int 0), (3, .int p1), (2, .int p0), (0, .int p0), (1, .int p1)]) hx hb dX7_greatestShared_5 hl (by decide) rfl (fun ls hl => ?_)
  have L7 : ∀ (n : Nat) (ga : Int32) (gb : Int32) (k : Int32) (hk : 0 ≤ k.toInt ∧ 0 ≤ gb.toInt ∧ k.toInt + gb.toInt ≤ 99 ∧ 0 ≤ ga.toInt) (hgd : Nat.gcd ga.toInt.toNat gb.toInt.toNat = Nat.gcd p0.toInt.toNat p1.toInt.toNat) (hn7 : gb.toInt.toNat < n) (H : Heap) (locs : List Loc), va_P D vwCl [] H → va_D A [] → va_S A s.heap H locs → ∀ ls : Array Slot, lv_has ls 6 [(4, .int k), (3, .int gb), (2, .int ga), (0, .int p0), (1, .int p1)] → W p l e ({ frames := 0, cells := 0, slots := 0, locals := 0 } : Room) s m args below meth c H locs 0 0 Q (F0 m 7 ls []) := by
    intro n
    induction n with
    | zero =>
      intro ga gb k hk hgd hn7
      exact absurd hn7 (Nat.not_lt_zero _)
    | succ n ih7 =>
      intro ga gb k hk hgd hn7 H locs hP hD hS ls hl
      refine lv_iload hx hb dX7_greatestShared_7 (lv_at hl 0 rfl) ?_
      refine lv_sipush (v := 1000) hx hb dX7_greatestShared_9 (by decide) ?_
      refine lv_icmp_ge (tgt := 35) hx hb dX7_greatestShared_12 (by decide) (fun c12 => ?_) (fun c12 => ?_)
      · have t12 : 1000 ≤ k.toInt := xi_le (by decide) rfl c12
        omega
      · have t12 : k.toInt < 1000 := xi_nle (by decide) rfl c12
        refine lv_iload_n hx hb dX7_greatestShared_15 rfl (lv_at hl 1 rfl) ?_
        refine lv_if_eq (tgt := 35) hx hb dX7_greatestShared_16 (by decide) (fun c16 => ?_) (fun c16 => ?_)
        · have t16 : gb.toInt = 0 := xi_eq rfl (by decide) c16
          have d16 : gb = 0 := c16
          refine lv_iload_n hx hb dX7_greatestShared_35 rfl (lv_at hl 2 rfl) ?_
          exact xk_reti () hx hb hr hlocks (xk_P hP (by rfl)) (by rw [← hgd, show gb.toInt.toNat = 0 from by omega, Nat.gcd_zero_right]; omega) hS dX7_greatestShared_36 hQ
        · have t16 : ¬ gb.toInt = 0 := xi_ne rfl (by decide) c16
          have d16 : ¬ gb = 0 := c16
          refine lv_iload_n hx hb dX7_greatestShared_19 rfl (lv_at hl 2 rfl) ?_
          refine lv_iload_n hx hb dX7_greatestShared_20 rfl (lv_at hl 1 rfl) ?_
          refine lv_irem hx hb dX7_greatestShared_21 (d16) ?_
          refine lv_topi (fun x21 e21 => ?_)
          have t21 : x21.toInt = ga.toInt % gb.toInt := by rw [e21]; exact xi_rem rfl rfl (by omega) (by omega)
          have hb2 := Int.emod_nonneg ga.toInt (show gb.toInt ≠ 0 by omega)
          have hb3 := Int.emod_lt_of_pos ga.toInt (show 0 < gb.toInt by omega)
          refine lv_istore (lv' := [(5, .int x21), (4, .int k), (3, .int gb), (2, .int ga), (0, .int p0), (1, .int p1)]) hx hb dX7_greatestShared_22 hl (by decide) rfl (fun ls hl => ?_)
          refine lv_iload_n hx hb dX7_greatestShared_24 rfl (lv_at hl 2 rfl) ?_
          refine lv_istore_n (lv' := [(2, .int gb), (5, .int x21), (4, .int k), (3, .int gb), (0, .int p0), (1, .int p1)]) hx hb dX7_greatestShared_25 rfl hl (by decide) rfl (fun ls hl => ?_)
          refine lv_iload hx hb dX7_greatestShared_26 (lv_at hl 1 rfl) ?_
          refine lv_istore_n (lv' := [(3, .int x21), (2, .int gb), (5, .int x21), (4, .int k), (0, .int p0), (1, .int p1)]) hx hb dX7_greatestShared_28 rfl hl (by decide) rfl (fun ls hl => ?_)
          obtain ⟨x29, e29⟩ : ∃ y : Int32, y = k + 1 := ⟨_, rfl⟩
          have t29 : x29.toInt = k.toInt + 1 := by rw [e29]; exact xi_add rfl (by decide) (by omega) (by omega)
          refine lv_iinc (v := x29) (lv' := [(4, .int x29), (3, .int x21), (2, .int gb), (5, .int x21), (0, .int p0), (1, .int p1)]) hx hb dX7_greatestShared_29 hl (k := 3) rfl (by rw [e29]; rfl) (by decide) rfl (fun ls hl => ?_)
          refine lv_goto (tgt := 7) hx hb dX7_greatestShared_32 (by decide) ?_
          exact ih7  gb x21 x29 (by omega) (by rw [t21, gcd_go (by omega) (by omega)]; exact hgd) (by omega) _ _ hP hD hS ls (lv_sub hl [0, 1, 2, 4, 5] rfl)
  exact L7 (p1.toInt.toNat + 1) p0 p1 (0 : Int32) (by rw [show (0 : Int32).toInt = 0 from by decide]; omega) (by rfl) (by omega) _ _ hP hD hS ls (lv_sub hl [0, 1, 2, 3, 4] rfl)

set_option maxHeartbeats 4000000 in
set_option maxRecDepth 100000 in
theorem c_X7_songsAtOnce (l : Launch) (D : va_G) (cI cZ cS : ClassId) (p0 p1 : Int32) (hp0 : 0 ≤ p0.toInt ∧ p0.toInt ≤ 480) (hp1 : 1 ≤ p1.toInt ∧ p1.toInt ≤ 99) : xMi l yX7_songsAtOnce cX7_songsAtOnce 3 (some .int) ({ frames := 1, cells := 0, slots := 0, locals := 25 } : Room) D (xTy cI cZ cS) [.int p0, .int p1] [] (fun (r : Int32) (_ : Unit) => leastK p0.toInt p1.toInt r.toInt) (fun (_ : Unit) => []) := by
  refine xk_bodyi (by decide) (Nat.le_of_ble_eq_true rfl) ?_
  intro p e s m below meth c A ls args Q hx hb hr hts hown hlocks hml hin hK hP hD hS hA hN hZ hl hQ
  have hl : lv_has ls 3 [(0, .int p0), (1, .int p1)] := hl
  refine lv_iload_n hx hb dX7_songsAtOnce_0 rfl (lv_at hl 0 rfl) ?_
  refine lv_iload_n hx hb dX7_songsAtOnce_1 rfl (lv_at hl 1 rfl) ?_
  refine xk_Si0 (As := [.int p0, .int p1]) (rest := []) hx hb hml hown hts hK hN hZ hP hD hS hA mb_X7_greatestShared mw_3_17 mw_3_18 (c_X7_greatestShared l D cI cZ cS p0 p1 (by first | omega | decide | assumption) (by first | omega | decide | assumption)) [] (by decide) rfl (fun _ => by simp only [List.map]) (by decide) (by decide) rfl hl.1 rfl (Nat.le_of_ble_eq_true rfl) dX7_songsAtOnce_2 ⟨Nat.zero_le _, Nat.zero_le _⟩ (fun _ => rfl) (fun r2 _ H locs hw hP hD hS => ?_)
  have p2 : r2.toInt = (Nat.gcd p0.toInt.toNat p1.toInt.toNat : Int) := hw
  have hgp := Nat.gcd_pos_of_pos_right p0.toInt.toNat (show 0 < p1.toInt.toNat by omega)
  refine lv_istore_n (lv' := [(2, .int r2), (0, .int p0), (1, .int p1)]) hx hb dX7_songsAtOnce_5 rfl hl (by decide) rfl (fun ls hl => ?_)
  refine lv_iload_n hx hb dX7_songsAtOnce_6 rfl (lv_at hl 0 rfl) ?_
  refine lv_if_le (tgt := 16) hx hb dX7_songsAtOnce_7 (by decide) (fun c7 => ?_) (fun c7 => ?_)
  · have t7 : r2.toInt ≤ 0 := xi_le rfl (by decide) c7
    omega
  · have t7 : 0 < r2.toInt := xi_nle rfl (by decide) c7
    refine lv_iload_n hx hb dX7_songsAtOnce_10 rfl (lv_at hl 2 rfl) ?_
    refine lv_iload_n hx hb dX7_songsAtOnce_11 rfl (lv_at hl 0 rfl) ?_
    refine lv_idiv hx hb dX7_songsAtOnce_12 (i_ne0 (by omega)) ?_
    refine lv_topi (fun x12 e12 => ?_)
    have t12 : x12.toInt = p1.toInt / r2.toInt := by rw [e12]; exact xi_div rfl rfl (by omega) (by omega)
    refine lv_goto (tgt := 17) hx hb dX7_songsAtOnce_13 (by decide) ?_
    exact xk_reti () hx hb hr hlocks (xk_P hP (by rfl)) (by exact meet_leastI (by omega) (by omega) p2 t12) hS dX7_songsAtOnce_17 hQ
