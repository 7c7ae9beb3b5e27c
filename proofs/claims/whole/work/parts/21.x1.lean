set_option maxHeartbeats 4000000 in
set_option maxRecDepth 100000 in
theorem c_X4_has (l : Launch) (D : va_G) (cI cZ cS : ClassId) (p0 : Int32)  : xMi l yX4_has cX4_has 1 (some .boolean) ({ frames := 0, cells := 0, slots := 0, locals := 0 } : Room) D (xTy cI cZ cS) [.int p0] [] (fun (r : Int32) (_ : Unit) => ((r = 1 ∧ (0 ≤ p0.toInt ∧ p0.toInt < 6)) ∨ (r = 0 ∧ ¬ (0 ≤ p0.toInt ∧ p0.toInt < 6)))) (fun (_ : Unit) => []) := by
  refine xk_bodyi (by decide) (Nat.le_of_ble_eq_true rfl) ?_
  intro p e s m below meth c A ls args Q hx hb hr hts hown hlocks hml hin hK hP hD hS hA hN hZ hl hQ
  have hl : lv_has ls 1 [(0, .int p0)] := hl
  refine lv_iload_n hx hb dX4_has_0 rfl (lv_at hl 0 rfl) ?_
  refine lv_if_lt (tgt := 14) hx hb dX4_has_1 (by decide) (fun c1 => ?_) (fun c1 => ?_)
  · have t1 : p0.toInt < 0 := xi_lt rfl (by decide) c1
    refine lv_iconst (v := 0) hx hb dX4_has_14 (by decide) ?_
    exact xk_retz () hx hb hr hlocks (by decide) (xk_P hP (by rfl)) (by first | exact Or.inl ⟨rfl, by omega⟩ | exact Or.inr ⟨rfl, by omega⟩) hS dX4_has_15 hQ
  · have t1 : 0 ≤ p0.toInt := xi_nlt rfl (by decide) c1
    refine lv_iload_n hx hb dX4_has_4 rfl (lv_at hl 0 rfl) ?_
    refine lv_bipush (v := 6) hx hb dX4_has_5 (by decide) ?_
    refine lv_icmp_ge (tgt := 14) hx hb dX4_has_7 (by decide) (fun c7 => ?_) (fun c7 => ?_)
    · have t7 : 6 ≤ p0.toInt := xi_le (by decide) rfl c7
      refine lv_iconst (v := 0) hx hb dX4_has_14 (by decide) ?_
      exact xk_retz () hx hb hr hlocks (by decide) (xk_P hP (by rfl)) (by first | exact Or.inl ⟨rfl, by omega⟩ | exact Or.inr ⟨rfl, by omega⟩) hS dX4_has_15 hQ
    · have t7 : p0.toInt < 6 := xi_nle (by decide) rfl c7
      refine lv_iconst (v := 1) hx hb dX4_has_10 (by decide) ?_
      refine lv_goto (tgt := 15) hx hb dX4_has_11 (by decide) ?_
      exact xk_retz () hx hb hr hlocks (by decide) (xk_P hP (by rfl)) (by first | exact Or.inl ⟨rfl, by omega⟩ | exact Or.inr ⟨rfl, by omega⟩) hS dX4_has_15 hQ

set_option maxHeartbeats 4000000 in
set_option maxRecDepth 100000 in
theorem c_X4_allows (l : Launch) (D : va_G) (cI cZ cS : ClassId) (p0 p1 : Int32)  : xMi l yX4_allows cX4_allows 2 (some .boolean) ({ frames := 1, cells := 0, slots := 0, locals := 20 } : Room) D (xTy cI cZ cS) [.int p0, .int p1] [] (fun (r : Int32) (_ : Unit) => ((r = 1 ∧ (setV p0 p1)) ∨ (r = 0 ∧ ¬ (setV p0 p1)))) (fun (_ : Unit) => []) := by
  refine xk_bodyi (by decide) (Nat.le_of_ble_eq_true rfl) ?_
  intro p e s m below meth c A ls args Q hx hb hr hts hown hlocks hml hin hK hP hD hS hA hN hZ hl hQ
  have hl : lv_has ls 2 [(0, .int p0), (1, .int p1)] := hl
  obtain ⟨⟨tF, tFZ, tFT⟩, ⟨tL, tLZ, tLT⟩, ⟨tM, tMZ, tMT⟩⟩ := id hZ
  refine lv_iload_n hx hb dX4_allows_0 rfl (lv_at hl 0 rfl) ?_
  refine xk_Si (As := [.int p0]) (rest := []) hx hb hml hown hts hK hN hZ hP hD hS hA mb_X4_has mw_1_210 mw_1_211 (c_X4_has l D cI cZ cS p0 ) [] (by decide) rfl (fun _ => by simp only [List.map]) (by decide) (by decide) rfl hl.1 rfl (Nat.le_of_ble_eq_true rfl) dX4_allows_1 ⟨Nat.zero_le _, Nat.zero_le _⟩ (fun r1 _ H locs hw hP hD hS => ?_)
  have hP : va_P D vwCl [] H := hP
  have hD : va_D A [] := hD
  rcases hw with ⟨rfl, b1⟩ | ⟨rfl, b1⟩
  · have b1 : 0 ≤ p0.toInt ∧ p0.toInt < 6 := b1
    refine lv_if_eq (tgt := 29) hx hb dX4_allows_4 (by decide) (fun c4 => absurd c4 (by decide)) (fun _ => ?_)
    refine lv_iload_n hx hb dX4_allows_7 rfl (lv_at hl 1 rfl) ?_
    refine va_getsN hx hb tLZ hS hown (xnf_25 hN) (fun _ h9 => h9) dX4_allows_8 ?_
    refine lv_iload_n hx hb dX4_allows_11 rfl (lv_at hl 0 rfl) ?_
    refine va_ti (v := .int (tabL p0.toInt.toNat)) hx hb tLT hS (xi_in (by omega) (by omega)) rfl dX4_allows_12 ?_
    refine lv_topi (fun x12 e12 => ?_)
    refine lv_icmp_lt (tgt := 29) hx hb dX4_allows_13 (by decide) (fun c13 => ?_) (fun c13 => ?_)
    · have t13 : p1.toInt < x12.toInt := xi_lt rfl rfl c13
      refine lv_iconst (v := 0) hx hb dX4_allows_29 (by decide) ?_
      exact xk_retz () hx hb hr hlocks (by decide) (xk_P hP (by rfl)) (by exact Or.inr ⟨rfl, fun hh => by have q := (allows_iff b1).mp hh; rw [← e12] at q; omega⟩) hS dX4_allows_30 hQ
    · have t13 : x12.toInt ≤ p1.toInt := xi_nlt rfl rfl c13
      refine lv_iload_n hx hb dX4_allows_16 rfl (lv_at hl 1 rfl) ?_
      refine va_getsN hx hb tMZ hS hown (xnf_26 hN) (fun _ h9 => h9) dX4_allows_17 ?_
      refine lv_iload_n hx hb dX4_allows_20 rfl (lv_at hl 0 rfl) ?_
      refine va_ti (v := .int (tabM p0.toInt.toNat)) hx hb tMT hS (xi_in (by omega) (by omega)) rfl dX4_allows_21 ?_
      refine lv_topi (fun x21 e21 => ?_)
      refine lv_icmp_gt (tgt := 29) hx hb dX4_allows_22 (by decide) (fun c22 => ?_) (fun c22 => ?_)
      · have t22 : x21.toInt < p1.toInt := xi_lt rfl rfl c22
        refine lv_iconst (v := 0) hx hb dX4_allows_29 (by decide) ?_
        exact xk_retz () hx hb hr hlocks (by decide) (xk_P hP (by rfl)) (by exact Or.inr ⟨rfl, fun hh => by have q := (allows_iff b1).mp hh; rw [← e12, ← e21] at q; omega⟩) hS dX4_allows_30 hQ
      · have t22 : p1.toInt ≤ x21.toInt := xi_nlt rfl rfl c22
        refine lv_iconst (v := 1) hx hb dX4_allows_25 (by decide) ?_
        refine lv_goto (tgt := 30) hx hb dX4_allows_26 (by decide) ?_
        exact xk_retz () hx hb hr hlocks (by decide) (xk_P hP (by rfl)) (by exact Or.inl ⟨rfl, (allows_iff b1).mpr ⟨by rw [← e12]; omega, by rw [← e21]; omega⟩⟩) hS dX4_allows_30 hQ
  · have b1 : ¬ (0 ≤ p0.toInt ∧ p0.toInt < 6) := b1
    refine lv_if_eq (tgt := 29) hx hb dX4_allows_4 (by decide) (fun _ => ?_) (fun c4 => absurd (by decide) c4)
    refine lv_iconst (v := 0) hx hb dX4_allows_29 (by decide) ?_
    exact xk_retz () hx hb hr hlocks (by decide) (xk_P hP (by rfl)) (by exact Or.inr ⟨rfl, fun hh => b1 (by unfold setV at hh; omega)⟩) hS dX4_allows_30 hQ

set_option maxHeartbeats 4000000 in
set_option maxRecDepth 100000 in
theorem c_X4_valueOf (l : Launch) (D : va_G) (cI cZ cS : ClassId) (s0 s1 : Nat) (sv : Nat → Int32) (p1 : Int32)  : xMi l yX4_valueOf cX4_valueOf 2 (some .int) ({ frames := 1, cells := 0, slots := 0, locals := 20 } : Room) D (xTy cI cZ cS) [.ref s0, .int p1] [(s0, .inr (4, [.ref s1])), (s1, .inl (cI, 6, .inl sv))] (fun (r : Int32) (_ : Unit) => r = if 0 ≤ p1.toInt ∧ p1.toInt < 6 then sv p1.toInt.toNat else 0) (fun (_ : Unit) => [(s0, .inr (4, [.ref s1])), (s1, .inl (cI, 6, .inl sv))]) := by
  refine xk_bodyi (by decide) (Nat.le_of_ble_eq_true rfl) ?_
  intro p e s m below meth c A ls args Q hx hb hr hts hown hlocks hml hin hK hP hD hS hA hN hZ hl hQ
  have hl : lv_has ls 2 [(0, .ref s0), (1, .int p1)] := hl
  refine lv_iload_n hx hb dX4_valueOf_0 rfl (lv_at hl 1 rfl) ?_
  refine xk_Si (As := [.int p1]) (rest := []) hx hb hml hown hts hK hN hZ hP hD hS hA mb_X4_has mw_1_210 mw_1_211 (c_X4_has l D cI cZ cS p1 ) [] (by decide) rfl (fun _ => by simp only [List.map]) (by decide) (by decide) rfl hl.1 rfl (Nat.le_of_ble_eq_true rfl) dX4_valueOf_1 ⟨Nat.zero_le _, Nat.zero_le _⟩ (fun r1 _ H locs hw hP hD hS => ?_)
  have hP : va_P D vwCl [(s0, .inr (4, [.ref s1])), (s1, .inl (cI, 6, .inl sv))] H := hP
  have hD : va_D A [(s0, .inr (4, [.ref s1])), (s1, .inl (cI, 6, .inl sv))] := hD
  rcases hw with ⟨rfl, b1⟩ | ⟨rfl, b1⟩
  · have b1 : 0 ≤ p1.toInt ∧ p1.toInt < 6 := b1
    refine lv_if_eq (tgt := 16) hx hb dX4_valueOf_4 (by decide) (fun c4 => absurd c4 (by decide)) (fun _ => ?_)
    refine lv_aload_n hx hb dX4_valueOf_7 rfl (lv_at hl 0 rfl) ?_
    refine va_get (D := D) (ci := 4) (v := .ref s1) (C := RX4) (T := TX4) (N := 1) hx hb hts xin4 hown hK hP 0 rfl rfl 0 (by decide) (hts _ (List.mem_cons_of_mem _ mw_1_33)) (fun _ h9 => h9) rfl dX4_valueOf_8 ?_
    refine lv_iload_n hx hb dX4_valueOf_11 rfl (lv_at hl 1 rfl) ?_
    refine va_iald hx hb hK hP 1 0 rfl rfl (xi_in (by omega) (by omega)) dX4_valueOf_12 ?_
    refine xk_top (z := sv p1.toInt.toNat) rfl ?_
    refine lv_topi (fun x12 e12 => ?_)
    refine lv_goto (tgt := 17) hx hb dX4_valueOf_13 (by decide) ?_
    exact xk_reti () hx hb hr hlocks (xk_P hP (by rfl)) (by rw [if_pos b1, e12]) hS dX4_valueOf_17 hQ
  · have b1 : ¬ (0 ≤ p1.toInt ∧ p1.toInt < 6) := b1
    refine lv_if_eq (tgt := 16) hx hb dX4_valueOf_4 (by decide) (fun _ => ?_) (fun c4 => absurd (by decide) c4)
    refine lv_iconst (v := 0) hx hb dX4_valueOf_16 (by decide) ?_
    exact xk_reti () hx hb hr hlocks (xk_P hP (by rfl)) (by rw [if_neg b1]) hS dX4_valueOf_17 hQ

set_option maxHeartbeats 4000000 in
set_option maxRecDepth 100000 in
theorem c_X4_change (l : Launch) (D : va_G) (cI cZ cS : ClassId) (s0 s1 : Nat) (sv : Nat → Int32) (p1 p2 : Int32) (hp : 0 ≤ p1.toInt ∧ p1.toInt < 6) : xMv l yX4_change cX4_change 3 none ({ frames := 1, cells := 0, slots := 0, locals := 20 } : Room) D (xTy cI cZ cS) [.ref s0, .int p1, .int p2] [(s0, .inr (4, [.ref s1])), (s1, .inl (cI, 6, .inl sv))] (fun (_ : Unit) => True) (fun (_ : Unit) => [(s0, .inr (4, [.ref s1])), (s1, .inl (cI, 6, .inl (upd sv p1.toInt.toNat p2)))]) := by
  refine xk_bodyv (by decide) (Nat.le_of_ble_eq_true rfl) ?_
  intro p e s m below meth c A ls args Q hx hb hr hts hown hlocks hml hin hK hP hD hS hA hN hZ hl hQ
  have hl : lv_has ls 3 [(0, .ref s0), (1, .int p1), (2, .int p2)] := hl
  refine lv_iload_n hx hb dX4_change_0 rfl (lv_at hl 1 rfl) ?_
  refine xk_Si (As := [.int p1]) (rest := []) hx hb hml hown hts hK hN hZ hP hD hS hA mb_X4_has mw_1_210 mw_1_211 (c_X4_has l D cI cZ cS p1 ) [] (by decide) rfl (fun _ => by simp only [List.map]) (by decide) (by decide) rfl hl.1 rfl (Nat.le_of_ble_eq_true rfl) dX4_change_1 ⟨Nat.zero_le _, Nat.zero_le _⟩ (fun r1 _ H locs hw hP hD hS => ?_)
  have hP : va_P D vwCl [(s0, .inr (4, [.ref s1])), (s1, .inl (cI, 6, .inl sv))] H := hP
  have hD : va_D A [(s0, .inr (4, [.ref s1])), (s1, .inl (cI, 6, .inl sv))] := hD
  rcases hw with ⟨rfl, b1⟩ | ⟨rfl, b1⟩
  · have b1 : 0 ≤ p1.toInt ∧ p1.toInt < 6 := b1
    refine lv_if_eq (tgt := 14) hx hb dX4_change_4 (by decide) (fun c4 => absurd c4 (by decide)) (fun _ => ?_)
    refine lv_aload_n hx hb dX4_change_7 rfl (lv_at hl 0 rfl) ?_
    refine va_get (D := D) (ci := 4) (v := .ref s1) (C := RX4) (T := TX4) (N := 1) hx hb hts xin4 hown hK hP 0 rfl rfl 0 (by decide) (hts _ (List.mem_cons_of_mem _ mw_1_33)) (fun _ h9 => h9) rfl dX4_change_8 ?_
    refine lv_iload_n hx hb dX4_change_11 rfl (lv_at hl 1 rfl) ?_
    refine lv_iload_n hx hb dX4_change_12 rfl (lv_at hl 2 rfl) ?_
    refine va_iast hx hb hK hP hD hS 1 0 rfl rfl (xi_in (by omega) (by omega)) dX4_change_13 (fun H locs hP hD hS => ?_)
    have hP : va_P D vwCl [(s0, .inr (4, [.ref s1])), (s1, .inl (cI, 6, .inl (upd sv p1.toInt.toNat p2)))] H := hP
    have hD : va_D A [(s0, .inr (4, [.ref s1])), (s1, .inl (cI, 6, .inl (upd sv p1.toInt.toNat p2)))] := hD
    exact xk_retv () hx hb hr hlocks (xk_P hP (by rfl)) (by trivial) hS dX4_change_14 hQ
  · have b1 : ¬ (0 ≤ p1.toInt ∧ p1.toInt < 6) := b1
    exact absurd hp b1

set_option maxHeartbeats 4000000 in
set_option maxRecDepth 100000 in
theorem c_X4_copyFrom (l : Launch) (D : va_G) (cI cZ cS : ClassId) (s0 s1 : Nat) (sv : Nat → Int32) (u0 u1 : Nat) (uv : Nat → Int32)  : xMv l yX4_copyFrom cX4_copyFrom 3 none ({ frames := 0, cells := 0, slots := 0, locals := 0 } : Room) D (xTy cI cZ cS) [.ref s0, .ref u0] [(s0, .inr (4, [.ref s1])), (s1, .inl (cI, 6, .inl sv)), (u0, .inr (4, [.ref u1])), (u1, .inl (cI, 6, .inl uv))] (fun (_ : Unit) => True) (fun (_ : Unit) => [(s0, .inr (4, [.ref s1])), (s1, .inl (cI, 6, .inl uv)), (u0, .inr (4, [.ref u1])), (u1, .inl (cI, 6, .inl uv))]) := by
  refine xk_bodyv (by decide) (Nat.le_of_ble_eq_true rfl) ?_
  intro p e s m below meth c A ls args Q hx hb hr hts hown hlocks hml hin hK hP hD hS hA hN hZ hl hQ
  have hl : lv_has ls 3 [(0, .ref s0), (1, .ref u0)] := hl
  refine lv_iconst (v := 0) hx hb dX4_copyFrom_0 (by decide) ?_
  refine lv_istore_n (lv' := [(2, .int 0), (0, .ref s0), (1, .ref u0)]) hx hb dX4_copyFrom_1 rfl hl (by decide) rfl (fun ls hl => ?_)
  have L2 : ∀ (n : Nat) (k : Int32) (hk : 0 ≤ k.toInt ∧ k.toInt ≤ 6) (hn2 : 6 - k.toInt.toNat < n) (H : Heap) (locs : List Loc), va_P D vwCl [(s0, .inr (4, [.ref s1])), (s1, .inl (cI, 6, .inl (cpU uv sv k.toInt.toNat))), (u0, .inr (4, [.ref u1])), (u1, .inl (cI, 6, .inl uv))] H → va_D A [(s0, .inr (4, [.ref s1])), (s1, .inl (cI, 6, .inl (cpU uv sv k.toInt.toNat))), (u0, .inr (4, [.ref u1])), (u1, .inl (cI, 6, .inl uv))] → va_S A s.heap H locs → ∀ ls : Array Slot, lv_has ls 3 [(2, .int k), (0, .ref s0), (1, .ref u0)] → W p l e ({ frames := 0, cells := 0, slots := 0, locals := 0 } : Room) s m args below meth c H locs 0 0 Q (F0 m 2 ls []) := by
    intro n
    induction n with
    | zero =>
      intro k hk hn2
      exact absurd hn2 (Nat.not_lt_zero _)
    | succ n ih2 =>
      intro k hk hn2 H locs hP hD hS ls hl
      refine lv_iload_n hx hb dX4_copyFrom_2 rfl (lv_at hl 0 rfl) ?_
      refine lv_bipush (v := 6) hx hb dX4_copyFrom_3 (by decide) ?_
      refine lv_icmp_ge (tgt := 26) hx hb dX4_copyFrom_5 (by decide) (fun c5 => ?_) (fun c5 => ?_)
      · have t5 : 6 ≤ k.toInt := xi_le (by decide) rfl c5
        have hP := xk_arr hP 1 uv rfl (fun j hj => cpU_e (by omega))
        have hD := xk_arrD (e' := .inl (cI, 6, .inl uv)) hD (k := 1) rfl
        have hP : va_P D vwCl [(s0, .inr (4, [.ref s1])), (s1, .inl (cI, 6, .inl uv)), (u0, .inr (4, [.ref u1])), (u1, .inl (cI, 6, .inl uv))] H := hP
        have hD : va_D A [(s0, .inr (4, [.ref s1])), (s1, .inl (cI, 6, .inl uv)), (u0, .inr (4, [.ref u1])), (u1, .inl (cI, 6, .inl uv))] := hD
        exact xk_retv () hx hb hr hlocks (xk_P hP (by rfl)) (by trivial) hS dX4_copyFrom_26 hQ
      · have t5 : k.toInt < 6 := xi_nle (by decide) rfl c5
        refine lv_aload_n hx hb dX4_copyFrom_8 rfl (lv_at hl 1 rfl) ?_
        refine va_get (D := D) (ci := 4) (v := .ref s1) (C := RX4) (T := TX4) (N := 1) hx hb hts xin4 hown hK hP 0 rfl rfl 0 (by decide) (hts _ (List.mem_cons_of_mem _ mw_1_33)) (fun _ h9 => h9) rfl dX4_copyFrom_9 ?_
        refine lv_iload_n hx hb dX4_copyFrom_12 rfl (lv_at hl 0 rfl) ?_
        refine lv_aload_n hx hb dX4_copyFrom_13 rfl (lv_at hl 2 rfl) ?_
        refine va_get (D := D) (ci := 4) (v := .ref u1) (C := RX4) (T := TX4) (N := 1) hx hb hts xin4 hown hK hP 2 rfl rfl 0 (by decide) (hts _ (List.mem_cons_of_mem _ mw_1_33)) (fun _ h9 => h9) rfl dX4_copyFrom_14 ?_
        refine lv_iload_n hx hb dX4_copyFrom_17 rfl (lv_at hl 0 rfl) ?_
        refine va_iald hx hb hK hP 3 0 rfl rfl (xi_in (by omega) (by omega)) dX4_copyFrom_18 ?_
        refine xk_top (z := uv k.toInt.toNat) (xk_rd (by omega)) ?_
        refine lv_topi (fun x18 e18 => ?_)
        refine va_iast hx hb hK hP hD hS 1 0 rfl rfl (xi_in (by omega) (by omega)) dX4_copyFrom_19 (fun H locs hP hD hS => ?_)
        rw [show k.toNatClampNeg = k.toInt.toNat from xk_ix (by omega)] at hP hD
        have hP : va_P D vwCl [(s0, .inr (4, [.ref s1])), (s1, .inl (cI, 6, .inl (upd (cpU uv sv k.toInt.toNat) k.toInt.toNat x18))), (u0, .inr (4, [.ref u1])), (u1, .inl (cI, 6, .inl uv))] H := hP
        have hD : va_D A [(s0, .inr (4, [.ref s1])), (s1, .inl (cI, 6, .inl (upd (cpU uv sv k.toInt.toNat) k.toInt.toNat x18))), (u0, .inr (4, [.ref u1])), (u1, .inl (cI, 6, .inl uv))] := hD
        obtain ⟨x20, e20⟩ : ∃ y : Int32, y = k + 1 := ⟨_, rfl⟩
        have t20 : x20.toInt = k.toInt + 1 := by rw [e20]; exact xi_add rfl (by decide) (by omega) (by omega)
        refine lv_iinc (v := x20) (lv' := [(2, .int x20), (0, .ref s0), (1, .ref u0)]) hx hb dX4_copyFrom_20 hl (k := 0) rfl (by rw [e20]; rfl) (by decide) rfl (fun ls hl => ?_)
        refine lv_goto (tgt := 2) hx hb dX4_copyFrom_23 (by decide) ?_
        have q2 : ([(s0, .inr (4, [.ref s1])), (s1, .inl (cI, 6, .inl (upd (cpU uv sv k.toInt.toNat) k.toInt.toNat x18))), (u0, .inr (4, [.ref u1])), (u1, .inl (cI, 6, .inl uv))] : va_W) = [(s0, .inr (4, [.ref s1])), (s1, .inl (cI, 6, .inl (cpU uv sv x20.toInt.toNat))), (u0, .inr (4, [.ref u1])), (u1, .inl (cI, 6, .inl uv))] := by rw [e18, cpU_s, show x20.toInt.toNat = k.toInt.toNat + 1 from by omega]
        exact ih2  x20 (by first | omega | assumption) (by omega) _ _ (xk_P hP q2) (xk_D hD q2) hS ls (lv_sub hl [0, 1, 2] rfl)
  have q2 : ([(s0, .inr (4, [.ref s1])), (s1, .inl (cI, 6, .inl sv)), (u0, .inr (4, [.ref u1])), (u1, .inl (cI, 6, .inl uv))] : va_W) = [(s0, .inr (4, [.ref s1])), (s1, .inl (cI, 6, .inl (cpU uv sv 0))), (u0, .inr (4, [.ref u1])), (u1, .inl (cI, 6, .inl uv))] := by rw [cpU_0]
  exact L2 7 (0 : Int32) (by decide) (by decide) _ _ (xk_P hP q2) (xk_D hD q2) hS ls (lv_sub hl [0, 1, 2] rfl)

set_option maxHeartbeats 4000000 in
set_option maxRecDepth 100000 in
theorem c_X5_clear (l : Launch) (D : va_G) (cI cZ cS : ClassId) (g0 g1 g2 g3 : Nat) (gn : Int32)  : xMv l yX5_clear cX5_clear 1 none ({ frames := 0, cells := 0, slots := 0, locals := 0 } : Room) D (xTy cI cZ cS) [.ref g0] [(g0, .inr (5, [.int gn, .ref g1, .ref g2, .ref g3]))] (fun (_ : Unit) => True) (fun (_ : Unit) => [(g0, .inr (5, [.int (0 : Int32), .ref g1, .ref g2, .ref g3]))]) := by
  refine xk_bodyv (by decide) (Nat.le_of_ble_eq_true rfl) ?_
  intro p e s m below meth c A ls args Q hx hb hr hts hown hlocks hml hin hK hP hD hS hA hN hZ hl hQ
  have hl : lv_has ls 1 [(0, .ref g0)] := hl
  refine lv_aload_n hx hb dX5_clear_0 rfl (lv_at hl 0 rfl) ?_
  refine lv_iconst (v := 0) hx hb dX5_clear_1 (by decide) ?_
  refine va_put (D := D) (ci := 5) (v := .int 0) (ty := .int) (C := RX5) (T := TX5) (N := 4) hx hb hts xin5 tyX5 tyX5_ok nmX5 hown hK hP hD hS 0 rfl rfl 0 (by decide) (hts _ (List.mem_cons_of_mem _ mw_1_44)) (fun _ h9 => h9) rfl (by decide +kernel) rfl rfl (Nat.le_of_ble_eq_true rfl) dX5_clear_2 (fun H locs hP hD hS => ?_)
  have hP : va_P D vwCl [(g0, .inr (5, [.int 0, .ref g1, .ref g2, .ref g3]))] H := hP
  have hD : va_D A [(g0, .inr (5, [.int 0, .ref g1, .ref g2, .ref g3]))] := hD
  exact xk_retv () hx hb hr hlocks (xk_P hP (by rfl)) (by trivial) hS dX5_clear_5 hQ

set_option maxHeartbeats 4000000 in
set_option maxRecDepth 100000 in
theorem c_X5_hasLine (l : Launch) (D : va_G) (cI cZ cS : ClassId) (g0 g1 g2 g3 : Nat) (gn : Int32) (p1 : Int32)  : xMi l yX5_hasLine cX5_hasLine 2 (some .boolean) ({ frames := 0, cells := 0, slots := 0, locals := 0 } : Room) D (xTy cI cZ cS) [.ref g0, .int p1] [(g0, .inr (5, [.int gn, .ref g1, .ref g2, .ref g3]))] (fun (r : Int32) (_ : Unit) => ((r = 1 ∧ (hasL gn p1)) ∨ (r = 0 ∧ ¬ (hasL gn p1)))) (fun (_ : Unit) => [(g0, .inr (5, [.int gn, .ref g1, .ref g2, .ref g3]))]) := by
  refine xk_bodyi (by decide) (Nat.le_of_ble_eq_true rfl) ?_
  intro p e s m below meth c A ls args Q hx hb hr hts hown hlocks hml hin hK hP hD hS hA hN hZ hl hQ
  have hl : lv_has ls 2 [(0, .ref g0), (1, .int p1)] := hl
  refine lv_iload_n hx hb dX5_hasLine_0 rfl (lv_at hl 1 rfl) ?_
  refine lv_if_lt (tgt := 22) hx hb dX5_hasLine_1 (by decide) (fun c1 => ?_) (fun c1 => ?_)
  · have t1 : p1.toInt < 0 := xi_lt rfl (by decide) c1
    refine lv_iconst (v := 0) hx hb dX5_hasLine_22 (by decide) ?_
    exact xk_retz () hx hb hr hlocks (by decide) (xk_P hP (by rfl)) (by first | exact Or.inl ⟨rfl, by omega⟩ | exact Or.inr ⟨rfl, by omega⟩) hS dX5_hasLine_23 hQ
  · have t1 : 0 ≤ p1.toInt := xi_nlt rfl (by decide) c1
    refine lv_iload_n hx hb dX5_hasLine_4 rfl (lv_at hl 1 rfl) ?_
    refine lv_aload_n hx hb dX5_hasLine_5 rfl (lv_at hl 0 rfl) ?_
    refine va_get (D := D) (ci := 5) (v := .int gn) (C := RX5) (T := TX5) (N := 4) hx hb hts xin5 hown hK hP 0 rfl rfl 0 (by decide) (hts _ (List.mem_cons_of_mem _ mw_1_44)) (fun _ h9 => h9) rfl dX5_hasLine_6 ?_
    refine lv_icmp_ge (tgt := 22) hx hb dX5_hasLine_9 (by decide) (fun c9 => ?_) (fun c9 => ?_)
    · have t9 : gn.toInt ≤ p1.toInt := xi_le rfl rfl c9
      refine lv_iconst (v := 0) hx hb dX5_hasLine_22 (by decide) ?_
      exact xk_retz () hx hb hr hlocks (by decide) (xk_P hP (by rfl)) (by first | exact Or.inl ⟨rfl, by omega⟩ | exact Or.inr ⟨rfl, by omega⟩) hS dX5_hasLine_23 hQ
    · have t9 : p1.toInt < gn.toInt := xi_nle rfl rfl c9
      refine lv_iload_n hx hb dX5_hasLine_12 rfl (lv_at hl 1 rfl) ?_
      refine lv_bipush (v := 10) hx hb dX5_hasLine_13 (by decide) ?_
      refine lv_icmp_ge (tgt := 22) hx hb dX5_hasLine_15 (by decide) (fun c15 => ?_) (fun c15 => ?_)
      · have t15 : 10 ≤ p1.toInt := xi_le (by decide) rfl c15
        refine lv_iconst (v := 0) hx hb dX5_hasLine_22 (by decide) ?_
        exact xk_retz () hx hb hr hlocks (by decide) (xk_P hP (by rfl)) (by first | exact Or.inl ⟨rfl, by omega⟩ | exact Or.inr ⟨rfl, by omega⟩) hS dX5_hasLine_23 hQ
      · have t15 : p1.toInt < 10 := xi_nle (by decide) rfl c15
        refine lv_iconst (v := 1) hx hb dX5_hasLine_18 (by decide) ?_
        refine lv_goto (tgt := 23) hx hb dX5_hasLine_19 (by decide) ?_
        exact xk_retz () hx hb hr hlocks (by decide) (xk_P hP (by rfl)) (by first | exact Or.inl ⟨rfl, by omega⟩ | exact Or.inr ⟨rfl, by omega⟩) hS dX5_hasLine_23 hQ

set_option maxHeartbeats 4000000 in
set_option maxRecDepth 100000 in
theorem c_X5_hasFoot (l : Launch) (D : va_G) (cI cZ cS : ClassId) (g0 g1 g2 g3 : Nat) (gn : Int32) (ft : Nat → Int32) (p1 p2 : Int32)  : xMi l yX5_hasFoot cX5_hasFoot 3 (some .boolean) ({ frames := 1, cells := 0, slots := 0, locals := 21 } : Room) D (xTy cI cZ cS) [.ref g0, .int p1, .int p2] [(g0, .inr (5, [.int gn, .ref g1, .ref g2, .ref g3])), (g1, .inl (cI, 10, .inl ft))] (fun (r : Int32) (_ : Unit) => ((r = 1 ∧ (hasF gn ft p1 p2)) ∨ (r = 0 ∧ ¬ (hasF gn ft p1 p2)))) (fun (_ : Unit) => [(g0, .inr (5, [.int gn, .ref g1, .ref g2, .ref g3])), (g1, .inl (cI, 10, .inl ft))]) := by
  refine xk_bodyi (by decide) (Nat.le_of_ble_eq_true rfl) ?_
  intro p e s m below meth c A ls args Q hx hb hr hts hown hlocks hml hin hK hP hD hS hA hN hZ hl hQ
  have hl : lv_has ls 3 [(0, .ref g0), (1, .int p1), (2, .int p2)] := hl
  refine lv_aload_n hx hb dX5_hasFoot_0 rfl (lv_at hl 0 rfl) ?_
  refine lv_iload_n hx hb dX5_hasFoot_1 rfl (lv_at hl 1 rfl) ?_
  refine xk_Vi (As := [.int p1]) (rest := []) hx hb hml hown hts hK hN hZ hP hD hS hA mb_X5_hasLine mw_2_81 mw_2_82 mw_2_83 (c_X5_hasLine l D cI cZ cS g0 g1 g2 g3 gn p1 ) [0] 0 5 rfl rfl (by decide) rfl (fun _ => by simp only [List.map]) (by decide) (by decide) rfl hl.1 rfl (Nat.le_of_ble_eq_true rfl) dX5_hasFoot_2 ⟨Nat.zero_le _, Nat.zero_le _⟩ (fun r2 _ H locs hw hP hD hS => ?_)
  have hP : va_P D vwCl [(g0, .inr (5, [.int gn, .ref g1, .ref g2, .ref g3])), (g1, .inl (cI, 10, .inl ft))] H := hP
  have hD : va_D A [(g0, .inr (5, [.int gn, .ref g1, .ref g2, .ref g3])), (g1, .inl (cI, 10, .inl ft))] := hD
  rcases hw with ⟨rfl, b2⟩ | ⟨rfl, b2⟩
  · have b2 : hasL gn p1 := b2
    refine lv_if_eq (tgt := 32) hx hb dX5_hasFoot_5 (by decide) (fun c5 => absurd c5 (by decide)) (fun _ => ?_)
    refine lv_iload_n hx hb dX5_hasFoot_8 rfl (lv_at hl 2 rfl) ?_
    refine lv_if_lt (tgt := 32) hx hb dX5_hasFoot_9 (by decide) (fun c9 => ?_) (fun c9 => ?_)
    · have t9 : p2.toInt < 0 := xi_lt rfl (by decide) c9
      refine lv_iconst (v := 0) hx hb dX5_hasFoot_32 (by decide) ?_
      exact xk_retz () hx hb hr hlocks (by decide) (xk_P hP (by rfl)) (by first | exact Or.inl ⟨rfl, by omega⟩ | exact Or.inr ⟨rfl, by omega⟩) hS dX5_hasFoot_33 hQ
    · have t9 : 0 ≤ p2.toInt := xi_nlt rfl (by decide) c9
      refine lv_iload_n hx hb dX5_hasFoot_12 rfl (lv_at hl 2 rfl) ?_
      refine lv_aload_n hx hb dX5_hasFoot_13 rfl (lv_at hl 0 rfl) ?_
      refine va_get (D := D) (ci := 5) (v := .ref g1) (C := RX5) (T := TX5) (N := 4) hx hb hts xin5 hown hK hP 0 rfl rfl 1 (by decide) (hts _ (List.mem_cons_of_mem _ mw_1_47)) (fun _ h9 => h9) rfl dX5_hasFoot_14 ?_
      refine lv_iload_n hx hb dX5_hasFoot_17 rfl (lv_at hl 1 rfl) ?_
      refine va_iald hx hb hK hP 1 0 rfl rfl (xi_in (by omega) (by omega)) dX5_hasFoot_18 ?_
      refine xk_top (z := ft p1.toInt.toNat) rfl ?_
      refine lv_topi (fun x18 e18 => ?_)
      have t18 : x18.toInt = (ft p1.toInt.toNat).toInt := by rw [e18]
      refine lv_icmp_ge (tgt := 32) hx hb dX5_hasFoot_19 (by decide) (fun c19 => ?_) (fun c19 => ?_)
      · have t19 : x18.toInt ≤ p2.toInt := xi_le rfl rfl c19
        refine lv_iconst (v := 0) hx hb dX5_hasFoot_32 (by decide) ?_
        exact xk_retz () hx hb hr hlocks (by decide) (xk_P hP (by rfl)) (by first | exact Or.inl ⟨rfl, by omega⟩ | exact Or.inr ⟨rfl, by omega⟩) hS dX5_hasFoot_33 hQ
      · have t19 : p2.toInt < x18.toInt := xi_nle rfl rfl c19
        refine lv_iload_n hx hb dX5_hasFoot_22 rfl (lv_at hl 2 rfl) ?_
        refine lv_bipush (v := 12) hx hb dX5_hasFoot_23 (by decide) ?_
        refine lv_icmp_ge (tgt := 32) hx hb dX5_hasFoot_25 (by decide) (fun c25 => ?_) (fun c25 => ?_)
        · have t25 : 12 ≤ p2.toInt := xi_le (by decide) rfl c25
          refine lv_iconst (v := 0) hx hb dX5_hasFoot_32 (by decide) ?_
          exact xk_retz () hx hb hr hlocks (by decide) (xk_P hP (by rfl)) (by first | exact Or.inl ⟨rfl, by omega⟩ | exact Or.inr ⟨rfl, by omega⟩) hS dX5_hasFoot_33 hQ
        · have t25 : p2.toInt < 12 := xi_nle (by decide) rfl c25
          refine lv_iconst (v := 1) hx hb dX5_hasFoot_28 (by decide) ?_
          refine lv_goto (tgt := 33) hx hb dX5_hasFoot_29 (by decide) ?_
          exact xk_retz () hx hb hr hlocks (by decide) (xk_P hP (by rfl)) (by first | exact Or.inl ⟨rfl, by omega⟩ | exact Or.inr ⟨rfl, by omega⟩) hS dX5_hasFoot_33 hQ
  · have b2 : ¬ (hasL gn p1) := b2
    refine lv_if_eq (tgt := 32) hx hb dX5_hasFoot_5 (by decide) (fun _ => ?_) (fun c5 => absurd (by decide) c5)
    refine lv_iconst (v := 0) hx hb dX5_hasFoot_32 (by decide) ?_
    exact xk_retz () hx hb hr hlocks (by decide) (xk_P hP (by rfl)) (by first | exact Or.inl ⟨rfl, by omega⟩ | exact Or.inr ⟨rfl, by omega⟩) hS dX5_hasFoot_33 hQ

set_option maxHeartbeats 4000000 in
set_option maxRecDepth 100000 in
theorem c_X5_feetOf (l : Launch) (D : va_G) (cI cZ cS : ClassId) (g0 g1 g2 g3 : Nat) (gn : Int32) (ft : Nat → Int32) (p1 : Int32)  : xMi l yX5_feetOf cX5_feetOf 2 (some .int) ({ frames := 1, cells := 0, slots := 0, locals := 21 } : Room) D (xTy cI cZ cS) [.ref g0, .int p1] [(g0, .inr (5, [.int gn, .ref g1, .ref g2, .ref g3])), (g1, .inl (cI, 10, .inl ft))] (fun (r : Int32) (_ : Unit) => r = if hasL gn p1 then ft p1.toInt.toNat else 0) (fun (_ : Unit) => [(g0, .inr (5, [.int gn, .ref g1, .ref g2, .ref g3])), (g1, .inl (cI, 10, .inl ft))]) := by
  refine xk_bodyi (by decide) (Nat.le_of_ble_eq_true rfl) ?_
  intro p e s m below meth c A ls args Q hx hb hr hts hown hlocks hml hin hK hP hD hS hA hN hZ hl hQ
  have hl : lv_has ls 2 [(0, .ref g0), (1, .int p1)] := hl
  refine lv_aload_n hx hb dX5_feetOf_0 rfl (lv_at hl 0 rfl) ?_
  refine lv_iload_n hx hb dX5_feetOf_1 rfl (lv_at hl 1 rfl) ?_
  refine xk_Vi (As := [.int p1]) (rest := []) hx hb hml hown hts hK hN hZ hP hD hS hA mb_X5_hasLine mw_2_81 mw_2_82 mw_2_83 (c_X5_hasLine l D cI cZ cS g0 g1 g2 g3 gn p1 ) [0] 0 5 rfl rfl (by decide) rfl (fun _ => by simp only [List.map]) (by decide) (by decide) rfl hl.1 rfl (Nat.le_of_ble_eq_true rfl) dX5_feetOf_2 ⟨Nat.zero_le _, Nat.zero_le _⟩ (fun r2 _ H locs hw hP hD hS => ?_)
  have hP : va_P D vwCl [(g0, .inr (5, [.int gn, .ref g1, .ref g2, .ref g3])), (g1, .inl (cI, 10, .inl ft))] H := hP
  have hD : va_D A [(g0, .inr (5, [.int gn, .ref g1, .ref g2, .ref g3])), (g1, .inl (cI, 10, .inl ft))] := hD
  rcases hw with ⟨rfl, b2⟩ | ⟨rfl, b2⟩
  · have b2 : hasL gn p1 := b2
    refine lv_if_eq (tgt := 17) hx hb dX5_feetOf_5 (by decide) (fun c5 => absurd c5 (by decide)) (fun _ => ?_)
    refine lv_aload_n hx hb dX5_feetOf_8 rfl (lv_at hl 0 rfl) ?_
    refine va_get (D := D) (ci := 5) (v := .ref g1) (C := RX5) (T := TX5) (N := 4) hx hb hts xin5 hown hK hP 0 rfl rfl 1 (by decide) (hts _ (List.mem_cons_of_mem _ mw_1_47)) (fun _ h9 => h9) rfl dX5_feetOf_9 ?_
    refine lv_iload_n hx hb dX5_feetOf_12 rfl (lv_at hl 1 rfl) ?_
    refine va_iald hx hb hK hP 1 0 rfl rfl (xi_in (by omega) (by omega)) dX5_feetOf_13 ?_
    refine xk_top (z := ft p1.toInt.toNat) rfl ?_
    refine lv_topi (fun x13 e13 => ?_)
    refine lv_goto (tgt := 18) hx hb dX5_feetOf_14 (by decide) ?_
    exact xk_reti () hx hb hr hlocks (xk_P hP (by rfl)) (by rw [if_pos b2, e13]) hS dX5_feetOf_18 hQ
  · have b2 : ¬ (hasL gn p1) := b2
    refine lv_if_eq (tgt := 17) hx hb dX5_feetOf_5 (by decide) (fun _ => ?_) (fun c5 => absurd (by decide) c5)
    refine lv_iconst (v := 0) hx hb dX5_feetOf_17 (by decide) ?_
    exact xk_reti () hx hb hr hlocks (xk_P hP (by rfl)) (by rw [if_neg b2]) hS dX5_feetOf_18 hQ

set_option maxHeartbeats 4000000 in
set_option maxRecDepth 100000 in
theorem c_X5_beatsOf (l : Launch) (D : va_G) (cI cZ cS : ClassId) (g0 g1 g2 g3 : Nat) (gn : Int32) (ft bt : Nat → Int32) (p1 p2 : Int32)  : xMi l yX5_beatsOf cX5_beatsOf 3 (some .int) ({ frames := 2, cells := 0, slots := 0, locals := 43 } : Room) D (xTy cI cZ cS) [.ref g0, .int p1, .int p2] [(g0, .inr (5, [.int gn, .ref g1, .ref g2, .ref g3])), (g1, .inl (cI, 10, .inl ft)), (g2, .inl (cI, 120, .inl bt))] (fun (r : Int32) (_ : Unit) => r = if hasF gn ft p1 p2 then bt (12 * p1.toInt.toNat + p2.toInt.toNat) else 0) (fun (_ : Unit) => [(g0, .inr (5, [.int gn, .ref g1, .ref g2, .ref g3])), (g1, .inl (cI, 10, .inl ft)), (g2, .inl (cI, 120, .inl bt))]) := by
  refine xk_bodyi (by decide) (Nat.le_of_ble_eq_true rfl) ?_
  intro p e s m below meth c A ls args Q hx hb hr hts hown hlocks hml hin hK hP hD hS hA hN hZ hl hQ
  have hl : lv_has ls 3 [(0, .ref g0), (1, .int p1), (2, .int p2)] := hl
  refine lv_aload_n hx hb dX5_beatsOf_0 rfl (lv_at hl 0 rfl) ?_
  refine lv_iload_n hx hb dX5_beatsOf_1 rfl (lv_at hl 1 rfl) ?_
  refine lv_iload_n hx hb dX5_beatsOf_2 rfl (lv_at hl 2 rfl) ?_
  refine xk_Vi (As := [.int p1, .int p2]) (rest := []) hx hb hml hown hts hK hN hZ hP hD hS hA mb_X5_hasFoot mw_2_85 mw_2_86 mw_2_87 (c_X5_hasFoot l D cI cZ cS g0 g1 g2 g3 gn ft p1 p2 ) [0, 1] 0 5 rfl rfl (by decide) rfl (fun _ => by simp only [List.map]) (by decide) (by decide) rfl hl.1 rfl (Nat.le_of_ble_eq_true rfl) dX5_beatsOf_3 ⟨Nat.zero_le _, Nat.zero_le _⟩ (fun r3 _ H locs hw hP hD hS => ?_)
  have hP : va_P D vwCl [(g0, .inr (5, [.int gn, .ref g1, .ref g2, .ref g3])), (g1, .inl (cI, 10, .inl ft)), (g2, .inl (cI, 120, .inl bt))] H := hP
  have hD : va_D A [(g0, .inr (5, [.int gn, .ref g1, .ref g2, .ref g3])), (g1, .inl (cI, 10, .inl ft)), (g2, .inl (cI, 120, .inl bt))] := hD
  rcases hw with ⟨rfl, b3⟩ | ⟨rfl, b3⟩
  · have b3 : hasF gn ft p1 p2 := b3
    refine lv_if_eq (tgt := 23) hx hb dX5_beatsOf_6 (by decide) (fun c6 => absurd c6 (by decide)) (fun _ => ?_)
    refine lv_aload_n hx hb dX5_beatsOf_9 rfl (lv_at hl 0 rfl) ?_
    refine va_get (D := D) (ci := 5) (v := .ref g2) (C := RX5) (T := TX5) (N := 4) hx hb hts xin5 hown hK hP 0 rfl rfl 2 (by decide) (hts _ (List.mem_cons_of_mem _ mw_1_48)) (fun _ h9 => h9) rfl dX5_beatsOf_10 ?_
    refine lv_iload_n hx hb dX5_beatsOf_13 rfl (lv_at hl 1 rfl) ?_
    refine lv_bipush (v := 12) hx hb dX5_beatsOf_14 (by decide) ?_
    refine lv_imul hx hb dX5_beatsOf_16 ?_
    refine lv_topi (fun x16 e16 => ?_)
    have t16 : x16.toInt = p1.toInt * 12 := by rw [e16]; exact xi_mul rfl (by decide) (by omega) (by omega)
    refine lv_iload_n hx hb dX5_beatsOf_17 rfl (lv_at hl 2 rfl) ?_
    refine lv_iadd hx hb dX5_beatsOf_18 ?_
    refine lv_topi (fun x18 e18 => ?_)
    have t18 : x18.toInt = x16.toInt + p2.toInt := by rw [e18]; exact xi_add rfl rfl (by omega) (by omega)
    refine va_iald hx hb hK hP 2 0 rfl rfl (xi_in (by omega) (by omega)) dX5_beatsOf_19 ?_
    refine xk_top (z := bt (12 * p1.toInt.toNat + p2.toInt.toNat)) (xk_rd (by omega)) ?_
    refine lv_topi (fun x19 e19 => ?_)
    refine lv_goto (tgt := 24) hx hb dX5_beatsOf_20 (by decide) ?_
    exact xk_reti () hx hb hr hlocks (xk_P hP (by rfl)) (by rw [if_pos b3, e19]) hS dX5_beatsOf_24 hQ
  · have b3 : ¬ (hasF gn ft p1 p2) := b3
    refine lv_if_eq (tgt := 23) hx hb dX5_beatsOf_6 (by decide) (fun _ => ?_) (fun c6 => absurd (by decide) c6)
    refine lv_iconst (v := 0) hx hb dX5_beatsOf_23 (by decide) ?_
    exact xk_reti () hx hb hr hlocks (xk_P hP (by rfl)) (by rw [if_neg b3]) hS dX5_beatsOf_24 hQ

set_option maxHeartbeats 4000000 in
set_option maxRecDepth 100000 in
theorem c_X5_isMarked (l : Launch) (D : va_G) (cI cZ cS : ClassId) (g0 g1 g2 g3 : Nat) (gn : Int32) (ft mk : Nat → Int32) (p1 p2 : Int32)  : xMi l yX5_isMarked cX5_isMarked 3 (some .boolean) ({ frames := 2, cells := 0, slots := 0, locals := 43 } : Room) D (xTy cI cZ cS) [.ref g0, .int p1, .int p2] [(g0, .inr (5, [.int gn, .ref g1, .ref g2, .ref g3])), (g1, .inl (cI, 10, .inl ft)), (g3, .inl (cZ, 120, .inl mk))] (fun (r : Int32) (_ : Unit) => ((r = 1 ∧ (hasF gn ft p1 p2 ∧ ¬ mk (12 * p1.toInt.toNat + p2.toInt.toNat) = 0)) ∨ (r = 0 ∧ ¬ (hasF gn ft p1 p2 ∧ ¬ mk (12 * p1.toInt.toNat + p2.toInt.toNat) = 0)))) (fun (_ : Unit) => [(g0, .inr (5, [.int gn, .ref g1, .ref g2, .ref g3])), (g1, .inl (cI, 10, .inl ft)), (g3, .inl (cZ, 120, .inl mk))]) := by
  refine xk_bodyi (by decide) (Nat.le_of_ble_eq_true rfl) ?_
  intro p e s m below meth c A ls args Q hx hb hr hts hown hlocks hml hin hK hP hD hS hA hN hZ hl hQ
  have hl : lv_has ls 3 [(0, .ref g0), (1, .int p1), (2, .int p2)] := hl
  refine lv_aload_n hx hb dX5_isMarked_0 rfl (lv_at hl 0 rfl) ?_
  refine lv_iload_n hx hb dX5_isMarked_1 rfl (lv_at hl 1 rfl) ?_
  refine lv_iload_n hx hb dX5_isMarked_2 rfl (lv_at hl 2 rfl) ?_
  refine xk_Vi (As := [.int p1, .int p2]) (rest := []) hx hb hml hown hts hK hN hZ hP hD hS hA mb_X5_hasFoot mw_2_85 mw_2_86 mw_2_87 (c_X5_hasFoot l D cI cZ cS g0 g1 g2 g3 gn ft p1 p2 ) [0, 1] 0 5 rfl rfl (by decide) rfl (fun _ => by simp only [List.map]) (by decide) (by decide) rfl hl.1 rfl (Nat.le_of_ble_eq_true rfl) dX5_isMarked_3 ⟨Nat.zero_le _, Nat.zero_le _⟩ (fun r3 _ H locs hw hP hD hS => ?_)
  have hP : va_P D vwCl [(g0, .inr (5, [.int gn, .ref g1, .ref g2, .ref g3])), (g1, .inl (cI, 10, .inl ft)), (g3, .inl (cZ, 120, .inl mk))] H := hP
  have hD : va_D A [(g0, .inr (5, [.int gn, .ref g1, .ref g2, .ref g3])), (g1, .inl (cI, 10, .inl ft)), (g3, .inl (cZ, 120, .inl mk))] := hD
  rcases hw with ⟨rfl, b3⟩ | ⟨rfl, b3⟩
  · have b3 : hasF gn ft p1 p2 := b3
    refine lv_if_eq (tgt := 27) hx hb dX5_isMarked_6 (by decide) (fun c6 => absurd c6 (by decide)) (fun _ => ?_)
    refine lv_aload_n hx hb dX5_isMarked_9 rfl (lv_at hl 0 rfl) ?_
    refine va_get (D := D) (ci := 5) (v := .ref g3) (C := RX5) (T := TX5) (N := 4) hx hb hts xin5 hown hK hP 0 rfl rfl 3 (by decide) (hts _ (List.mem_cons_of_mem _ mw_1_49)) (fun _ h9 => h9) rfl dX5_isMarked_10 ?_
    refine lv_iload_n hx hb dX5_isMarked_13 rfl (lv_at hl 1 rfl) ?_
    refine lv_bipush (v := 12) hx hb dX5_isMarked_14 (by decide) ?_
    refine lv_imul hx hb dX5_isMarked_16 ?_
    refine lv_topi (fun x16 e16 => ?_)
    have t16 : x16.toInt = p1.toInt * 12 := by rw [e16]; exact xi_mul rfl (by decide) (by omega) (by omega)
    refine lv_iload_n hx hb dX5_isMarked_17 rfl (lv_at hl 2 rfl) ?_
    refine lv_iadd hx hb dX5_isMarked_18 ?_
    refine lv_topi (fun x18 e18 => ?_)
    have t18 : x18.toInt = x16.toInt + p2.toInt := by rw [e18]; exact xi_add rfl rfl (by omega) (by omega)
    refine va_zald hx hb hK hP 2 1 rfl rfl (xi_in (by omega) (by omega)) dX5_isMarked_19 ?_
    refine xk_top (z := mk (12 * p1.toInt.toNat + p2.toInt.toNat)) (xk_rd (by omega)) ?_
    refine lv_topi (fun x19 e19 => ?_)
    refine lv_if_eq (tgt := 27) hx hb dX5_isMarked_20 (by decide) (fun c20 => ?_) (fun c20 => ?_)
    · have t20 : x19.toInt = 0 := xi_eq rfl (by decide) c20
      have d20 : x19 = 0 := c20
      refine lv_iconst (v := 0) hx hb dX5_isMarked_27 (by decide) ?_
      exact xk_retz () hx hb hr hlocks (by decide) (xk_P hP (by rfl)) (by exact Or.inr ⟨rfl, fun hh => hh.2 (by rw [← e19]; exact d20)⟩) hS dX5_isMarked_28 hQ
    · have t20 : ¬ x19.toInt = 0 := xi_ne rfl (by decide) c20
      have d20 : ¬ x19 = 0 := c20
      refine lv_iconst (v := 1) hx hb dX5_isMarked_23 (by decide) ?_
      refine lv_goto (tgt := 28) hx hb dX5_isMarked_24 (by decide) ?_
      exact xk_retz () hx hb hr hlocks (by decide) (xk_P hP (by rfl)) (by exact Or.inl ⟨rfl, b3, by rw [← e19]; exact d20⟩) hS dX5_isMarked_28 hQ
  · have b3 : ¬ (hasF gn ft p1 p2) := b3
    refine lv_if_eq (tgt := 27) hx hb dX5_isMarked_6 (by decide) (fun _ => ?_) (fun c6 => absurd (by decide) c6)
    refine lv_iconst (v := 0) hx hb dX5_isMarked_27 (by decide) ?_
    exact xk_retz () hx hb hr hlocks (by decide) (xk_P hP (by rfl)) (by exact Or.inr ⟨rfl, fun hh => b3 hh.1⟩) hS dX5_isMarked_28 hQ

set_option maxHeartbeats 4000000 in
set_option maxRecDepth 100000 in
theorem c_X5_addLine (l : Launch) (D : va_G) (cI cZ cS : ClassId) (g0 g1 g2 g3 : Nat) (gn : Int32) (ft : Nat → Int32) (hgn : 0 ≤ gn.toInt ∧ gn.toInt < 10) : xMv l yX5_addLine cX5_addLine 1 none ({ frames := 0, cells := 0, slots := 0, locals := 0 } : Room) D (xTy cI cZ cS) [.ref g0] [(g0, .inr (5, [.int gn, .ref g1, .ref g2, .ref g3])), (g1, .inl (cI, 10, .inl ft))] (fun (_ : Unit) => True) (fun (_ : Unit) => [(g0, .inr (5, [.int (gn + 1), .ref g1, .ref g2, .ref g3])), (g1, .inl (cI, 10, .inl (upd ft gn.toInt.toNat 0)))]) := by
  refine xk_bodyv (by decide) (Nat.le_of_ble_eq_true rfl) ?_
  intro p e s m below meth c A ls args Q hx hb hr hts hown hlocks hml hin hK hP hD hS hA hN hZ hl hQ
  have hl : lv_has ls 1 [(0, .ref g0)] := hl
  refine lv_aload_n hx hb dX5_addLine_0 rfl (lv_at hl 0 rfl) ?_
  refine va_get (D := D) (ci := 5) (v := .int gn) (C := RX5) (T := TX5) (N := 4) hx hb hts xin5 hown hK hP 0 rfl rfl 0 (by decide) (hts _ (List.mem_cons_of_mem _ mw_1_44)) (fun _ h9 => h9) rfl dX5_addLine_1 ?_
  refine lv_if_lt (tgt := 36) hx hb dX5_addLine_4 (by decide) (fun c4 => ?_) (fun c4 => ?_)
  · have t4 : gn.toInt < 0 := xi_lt rfl (by decide) c4
    omega
  · have t4 : 0 ≤ gn.toInt := xi_nlt rfl (by decide) c4
    refine lv_aload_n hx hb dX5_addLine_7 rfl (lv_at hl 0 rfl) ?_
    refine va_get (D := D) (ci := 5) (v := .int gn) (C := RX5) (T := TX5) (N := 4) hx hb hts xin5 hown hK hP 0 rfl rfl 0 (by decide) (hts _ (List.mem_cons_of_mem _ mw_1_44)) (fun _ h9 => h9) rfl dX5_addLine_8 ?_
    refine lv_bipush (v := 10) hx hb dX5_addLine_11 (by decide) ?_
    refine lv_icmp_ge (tgt := 36) hx hb dX5_addLine_13 (by decide) (fun c13 => ?_) (fun c13 => ?_)
    · have t13 : 10 ≤ gn.toInt := xi_le (by decide) rfl c13
      omega
    · have t13 : gn.toInt < 10 := xi_nle (by decide) rfl c13
      refine lv_aload_n hx hb dX5_addLine_16 rfl (lv_at hl 0 rfl) ?_
      refine va_get (D := D) (ci := 5) (v := .ref g1) (C := RX5) (T := TX5) (N := 4) hx hb hts xin5 hown hK hP 0 rfl rfl 1 (by decide) (hts _ (List.mem_cons_of_mem _ mw_1_47)) (fun _ h9 => h9) rfl dX5_addLine_17 ?_
      refine lv_aload_n hx hb dX5_addLine_20 rfl (lv_at hl 0 rfl) ?_
      refine va_get (D := D) (ci := 5) (v := .int gn) (C := RX5) (T := TX5) (N := 4) hx hb hts xin5 hown hK hP 0 rfl rfl 0 (by decide) (hts _ (List.mem_cons_of_mem _ mw_1_44)) (fun _ h9 => h9) rfl dX5_addLine_21 ?_
      refine lv_iconst (v := 0) hx hb dX5_addLine_24 (by decide) ?_
      refine va_iast hx hb hK hP hD hS 1 0 rfl rfl (xi_in (by omega) (by omega)) dX5_addLine_25 (fun H locs hP hD hS => ?_)
      rw [show gn.toNatClampNeg = gn.toInt.toNat from xk_ix (by omega)] at hP hD
      have hP : va_P D vwCl [(g0, .inr (5, [.int gn, .ref g1, .ref g2, .ref g3])), (g1, .inl (cI, 10, .inl (upd ft gn.toInt.toNat 0)))] H := hP
      have hD : va_D A [(g0, .inr (5, [.int gn, .ref g1, .ref g2, .ref g3])), (g1, .inl (cI, 10, .inl (upd ft gn.toInt.toNat 0)))] := hD
      refine lv_aload_n hx hb dX5_addLine_26 rfl (lv_at hl 0 rfl) ?_
      refine lv_dup hx hb dX5_addLine_27 rfl ?_
      refine va_get (D := D) (ci := 5) (v := .int gn) (C := RX5) (T := TX5) (N := 4) hx hb hts xin5 hown hK hP 0 rfl rfl 0 (by decide) (hts _ (List.mem_cons_of_mem _ mw_1_44)) (fun _ h9 => h9) rfl dX5_addLine_28 ?_
      refine lv_iconst (v := 1) hx hb dX5_addLine_31 (by decide) ?_
      refine lv_iadd hx hb dX5_addLine_32 ?_
      refine lv_topi (fun x32 e32 => ?_)
      have t32 : x32.toInt = gn.toInt + 1 := by rw [e32]; exact xi_add rfl (by decide) (by omega) (by omega)
      refine va_put (D := D) (ci := 5) (v := .int x32) (ty := .int) (C := RX5) (T := TX5) (N := 4) hx hb hts xin5 tyX5 tyX5_ok nmX5 hown hK hP hD hS 0 rfl rfl 0 (by decide) (hts _ (List.mem_cons_of_mem _ mw_1_44)) (fun _ h9 => h9) rfl (by decide +kernel) rfl rfl (Nat.le_of_ble_eq_true rfl) dX5_addLine_33 (fun H locs hP hD hS => ?_)
      have hP : va_P D vwCl [(g0, .inr (5, [.int x32, .ref g1, .ref g2, .ref g3])), (g1, .inl (cI, 10, .inl (upd ft gn.toInt.toNat 0)))] H := hP
      have hD : va_D A [(g0, .inr (5, [.int x32, .ref g1, .ref g2, .ref g3])), (g1, .inl (cI, 10, .inl (upd ft gn.toInt.toNat 0)))] := hD
      exact xk_retv () hx hb hr hlocks (xk_P hP (by rw [e32])) (by trivial) hS dX5_addLine_36 hQ

set_option maxHeartbeats 4000000 in
set_option maxRecDepth 100000 in
theorem c_X5_addFoot (l : Launch) (D : va_G) (cI cZ cS : ClassId) (g0 g1 g2 g3 : Nat) (gn : Int32) (ft bt mk : Nat → Int32) (p1 : Int32) (hgn : 1 ≤ gn.toInt ∧ gn.toInt ≤ 10) (hft : 0 ≤ (ft (gn.toInt.toNat - 1)).toInt ∧ (ft (gn.toInt.toNat - 1)).toInt < 12) : xMv l yX5_addFoot cX5_addFoot 4 none ({ frames := 1, cells := 0, slots := 0, locals := 21 } : Room) D (xTy cI cZ cS) [.ref g0, .int p1] [(g0, .inr (5, [.int gn, .ref g1, .ref g2, .ref g3])), (g1, .inl (cI, 10, .inl ft)), (g2, .inl (cI, 120, .inl bt)), (g3, .inl (cZ, 120, .inl mk))] (fun (_ : Unit) => True) (fun (_ : Unit) => [(g0, .inr (5, [.int gn, .ref g1, .ref g2, .ref g3])), (g1, .inl (cI, 10, .inl (upd ft (gn.toInt.toNat - 1) (ft (gn.toInt.toNat - 1) + 1)))), (g2, .inl (cI, 120, .inl (upd bt (12 * (gn.toInt.toNat - 1) + (ft (gn.toInt.toNat - 1)).toInt.toNat) p1))), (g3, .inl (cZ, 120, .inl (upd mk (12 * (gn.toInt.toNat - 1) + (ft (gn.toInt.toNat - 1)).toInt.toNat) 0)))]) := by
  refine xk_bodyv (by decide) (Nat.le_of_ble_eq_true rfl) ?_
  intro p e s m below meth c A ls args Q hx hb hr hts hown hlocks hml hin hK hP hD hS hA hN hZ hl hQ
  have hl : lv_has ls 4 [(0, .ref g0), (1, .int p1)] := hl
  refine lv_aload_n hx hb dX5_addFoot_0 rfl (lv_at hl 0 rfl) ?_
  refine va_get (D := D) (ci := 5) (v := .int gn) (C := RX5) (T := TX5) (N := 4) hx hb hts xin5 hown hK hP 0 rfl rfl 0 (by decide) (hts _ (List.mem_cons_of_mem _ mw_1_44)) (fun _ h9 => h9) rfl dX5_addFoot_1 ?_
  refine lv_iconst (v := 1) hx hb dX5_addFoot_4 (by decide) ?_
  refine lv_isub hx hb dX5_addFoot_5 ?_
  refine lv_topi (fun x5 e5 => ?_)
  have t5 : x5.toInt = gn.toInt - 1 := by rw [e5]; exact xi_sub rfl (by decide) (by omega) (by omega)
  refine lv_istore_n (lv' := [(2, .int x5), (0, .ref g0), (1, .int p1)]) hx hb dX5_addFoot_6 rfl hl (by decide) rfl (fun ls hl => ?_)
  refine lv_aload_n hx hb dX5_addFoot_7 rfl (lv_at hl 1 rfl) ?_
  refine lv_iload_n hx hb dX5_addFoot_8 rfl (lv_at hl 0 rfl) ?_
  refine xk_Vi (As := [.int x5]) (rest := []) hx hb hml hown hts hK hN hZ hP hD hS hA mb_X5_hasLine mw_2_81 mw_2_82 mw_2_83 (c_X5_hasLine l D cI cZ cS g0 g1 g2 g3 gn x5 ) [0] 0 5 rfl rfl (by decide) rfl (fun _ => by simp only [List.map]) (by decide) (by decide) rfl hl.1 rfl (Nat.le_of_ble_eq_true rfl) dX5_addFoot_9 ⟨Nat.zero_le _, Nat.zero_le _⟩ (fun r9 _ H locs hw hP hD hS => ?_)
  have hP : va_P D vwCl [(g0, .inr (5, [.int gn, .ref g1, .ref g2, .ref g3])), (g1, .inl (cI, 10, .inl ft)), (g2, .inl (cI, 120, .inl bt)), (g3, .inl (cZ, 120, .inl mk))] H := hP
  have hD : va_D A [(g0, .inr (5, [.int gn, .ref g1, .ref g2, .ref g3])), (g1, .inl (cI, 10, .inl ft)), (g2, .inl (cI, 120, .inl bt)), (g3, .inl (cZ, 120, .inl mk))] := hD
  rcases hw with ⟨rfl, b9⟩ | ⟨rfl, b9⟩
  · have b9 : hasL gn x5 := b9
    refine lv_if_eq (tgt := 35) hx hb dX5_addFoot_12 (by decide) (fun c12 => absurd c12 (by decide)) (fun _ => ?_)
    refine lv_aload_n hx hb dX5_addFoot_15 rfl (lv_at hl 1 rfl) ?_
    refine va_get (D := D) (ci := 5) (v := .ref g1) (C := RX5) (T := TX5) (N := 4) hx hb hts xin5 hown hK hP 0 rfl rfl 1 (by decide) (hts _ (List.mem_cons_of_mem _ mw_1_47)) (fun _ h9 => h9) rfl dX5_addFoot_16 ?_
    refine lv_iload_n hx hb dX5_addFoot_19 rfl (lv_at hl 0 rfl) ?_
    refine va_iald hx hb hK hP 1 0 rfl rfl (xi_in (by omega) (by omega)) dX5_addFoot_20 ?_
    refine xk_top (z := ft (gn.toInt.toNat - 1)) (xk_rd (by omega)) ?_
    refine lv_topi (fun x20 e20 => ?_)
    have t20 : x20.toInt = (ft (gn.toInt.toNat - 1)).toInt := by rw [e20]
    refine lv_if_lt (tgt := 35) hx hb dX5_addFoot_21 (by decide) (fun c21 => ?_) (fun c21 => ?_)
    · have t21 : x20.toInt < 0 := xi_lt rfl (by decide) c21
      omega
    · have t21 : 0 ≤ x20.toInt := xi_nlt rfl (by decide) c21
      refine lv_aload_n hx hb dX5_addFoot_24 rfl (lv_at hl 1 rfl) ?_
      refine va_get (D := D) (ci := 5) (v := .ref g1) (C := RX5) (T := TX5) (N := 4) hx hb hts xin5 hown hK hP 0 rfl rfl 1 (by decide) (hts _ (List.mem_cons_of_mem _ mw_1_47)) (fun _ h9 => h9) rfl dX5_addFoot_25 ?_
      refine lv_iload_n hx hb dX5_addFoot_28 rfl (lv_at hl 0 rfl) ?_
      refine va_iald hx hb hK hP 1 0 rfl rfl (xi_in (by omega) (by omega)) dX5_addFoot_29 ?_
      refine xk_top (z := ft (gn.toInt.toNat - 1)) (xk_rd (by omega)) ?_
      refine lv_topi (fun x29 e29 => ?_)
      have t29 : x29.toInt = (ft (gn.toInt.toNat - 1)).toInt := by rw [e29]
      refine lv_bipush (v := 12) hx hb dX5_addFoot_30 (by decide) ?_
      refine lv_icmp_lt (tgt := 36) hx hb dX5_addFoot_32 (by decide) (fun c32 => ?_) (fun c32 => ?_)
      · have t32 : x29.toInt < 12 := xi_lt rfl (by decide) c32
        refine lv_iload_n hx hb dX5_addFoot_36 rfl (lv_at hl 0 rfl) ?_
        refine lv_bipush (v := 12) hx hb dX5_addFoot_37 (by decide) ?_
        refine lv_imul hx hb dX5_addFoot_39 ?_
        refine lv_topi (fun x39 e39 => ?_)
        have t39 : x39.toInt = x5.toInt * 12 := by rw [e39]; exact xi_mul rfl (by decide) (by omega) (by omega)
        refine lv_aload_n hx hb dX5_addFoot_40 rfl (lv_at hl 1 rfl) ?_
        refine va_get (D := D) (ci := 5) (v := .ref g1) (C := RX5) (T := TX5) (N := 4) hx hb hts xin5 hown hK hP 0 rfl rfl 1 (by decide) (hts _ (List.mem_cons_of_mem _ mw_1_47)) (fun _ h9 => h9) rfl dX5_addFoot_41 ?_
        refine lv_iload_n hx hb dX5_addFoot_44 rfl (lv_at hl 0 rfl) ?_
        refine va_iald hx hb hK hP 1 0 rfl rfl (xi_in (by omega) (by omega)) dX5_addFoot_45 ?_
        refine xk_top (z := ft (gn.toInt.toNat - 1)) (xk_rd (by omega)) ?_
        refine lv_topi (fun x45 e45 => ?_)
        have t45 : x45.toInt = (ft (gn.toInt.toNat - 1)).toInt := by rw [e45]
        refine lv_iadd hx hb dX5_addFoot_46 ?_
        refine lv_topi (fun x46 e46 => ?_)
        have t46 : x46.toInt = x39.toInt + x45.toInt := by rw [e46]; exact xi_add rfl rfl (by omega) (by omega)
        refine lv_istore_n (lv' := [(3, .int x46), (2, .int x5), (0, .ref g0), (1, .int p1)]) hx hb dX5_addFoot_47 rfl hl (by decide) rfl (fun ls hl => ?_)
        refine lv_aload_n hx hb dX5_addFoot_48 rfl (lv_at hl 2 rfl) ?_
        refine va_get (D := D) (ci := 5) (v := .ref g2) (C := RX5) (T := TX5) (N := 4) hx hb hts xin5 hown hK hP 0 rfl rfl 2 (by decide) (hts _ (List.mem_cons_of_mem _ mw_1_48)) (fun _ h9 => h9) rfl dX5_addFoot_49 ?_
        refine lv_iload_n hx hb dX5_addFoot_52 rfl (lv_at hl 0 rfl) ?_
        refine lv_iload_n hx hb dX5_addFoot_53 rfl (lv_at hl 3 rfl) ?_
        refine va_iast hx hb hK hP hD hS 2 0 rfl rfl (xi_in (by omega) (by omega)) dX5_addFoot_54 (fun H locs hP hD hS => ?_)
        rw [show x46.toNatClampNeg = 12 * (gn.toInt.toNat - 1) + (ft (gn.toInt.toNat - 1)).toInt.toNat from xk_ix (by omega)] at hP hD
        have hP : va_P D vwCl [(g0, .inr (5, [.int gn, .ref g1, .ref g2, .ref g3])), (g1, .inl (cI, 10, .inl ft)), (g2, .inl (cI, 120, .inl (upd bt (12 * (gn.toInt.toNat - 1) + (ft (gn.toInt.toNat - 1)).toInt.toNat) p1))), (g3, .inl (cZ, 120, .inl mk))] H := hP
        have hD : va_D A [(g0, .inr (5, [.int gn, .ref g1, .ref g2, .ref g3])), (g1, .inl (cI, 10, .inl ft)), (g2, .inl (cI, 120, .inl (upd bt (12 * (gn.toInt.toNat - 1) + (ft (gn.toInt.toNat - 1)).toInt.toNat) p1))), (g3, .inl (cZ, 120, .inl mk))] := hD
        refine lv_aload_n hx hb dX5_addFoot_55 rfl (lv_at hl 2 rfl) ?_
        refine va_get (D := D) (ci := 5) (v := .ref g3) (C := RX5) (T := TX5) (N := 4) hx hb hts xin5 hown hK hP 0 rfl rfl 3 (by decide) (hts _ (List.mem_cons_of_mem _ mw_1_49)) (fun _ h9 => h9) rfl dX5_addFoot_56 ?_
        refine lv_iload_n hx hb dX5_addFoot_59 rfl (lv_at hl 0 rfl) ?_
        refine lv_iconst (v := 0) hx hb dX5_addFoot_60 (by decide) ?_
        refine va_zast hx hb hK hP hD hS 3 1 rfl rfl (xi_in (by omega) (by omega)) dX5_addFoot_61 (fun H locs hP hD hS => ?_)
        rw [show x46.toNatClampNeg = 12 * (gn.toInt.toNat - 1) + (ft (gn.toInt.toNat - 1)).toInt.toNat from xk_ix (by omega)] at hP hD
        have hP : va_P D vwCl [(g0, .inr (5, [.int gn, .ref g1, .ref g2, .ref g3])), (g1, .inl (cI, 10, .inl ft)), (g2, .inl (cI, 120, .inl (upd bt (12 * (gn.toInt.toNat - 1) + (ft (gn.toInt.toNat - 1)).toInt.toNat) p1))), (g3, .inl (cZ, 120, .inl (upd mk (12 * (gn.toInt.toNat - 1) + (ft (gn.toInt.toNat - 1)).toInt.toNat) 0)))] H := hP
        have hD : va_D A [(g0, .inr (5, [.int gn, .ref g1, .ref g2, .ref g3])), (g1, .inl (cI, 10, .inl ft)), (g2, .inl (cI, 120, .inl (upd bt (12 * (gn.toInt.toNat - 1) + (ft (gn.toInt.toNat - 1)).toInt.toNat) p1))), (g3, .inl (cZ, 120, .inl (upd mk (12 * (gn.toInt.toNat - 1) + (ft (gn.toInt.toNat - 1)).toInt.toNat) 0)))] := hD
        refine lv_aload_n hx hb dX5_addFoot_62 rfl (lv_at hl 2 rfl) ?_
        refine va_get (D := D) (ci := 5) (v := .ref g1) (C := RX5) (T := TX5) (N := 4) hx hb hts xin5 hown hK hP 0 rfl rfl 1 (by decide) (hts _ (List.mem_cons_of_mem _ mw_1_47)) (fun _ h9 => h9) rfl dX5_addFoot_63 ?_
        refine lv_iload_n hx hb dX5_addFoot_66 rfl (lv_at hl 1 rfl) ?_
        refine lv_dup2_11 hx hb dX5_addFoot_67 rfl rfl ?_
        refine va_iald hx hb hK hP 1 0 rfl rfl (xi_in (by omega) (by omega)) dX5_addFoot_68 ?_
        refine xk_top (z := ft (gn.toInt.toNat - 1)) (xk_rd (by omega)) ?_
        refine lv_topi (fun x68 e68 => ?_)
        have t68 : x68.toInt = (ft (gn.toInt.toNat - 1)).toInt := by rw [e68]
        refine lv_iconst (v := 1) hx hb dX5_addFoot_69 (by decide) ?_
        refine lv_iadd hx hb dX5_addFoot_70 ?_
        refine lv_topi (fun x70 e70 => ?_)
        have t70 : x70.toInt = x68.toInt + 1 := by rw [e70]; exact xi_add rfl (by decide) (by omega) (by omega)
        refine va_iast hx hb hK hP hD hS 1 0 rfl rfl (xi_in (by omega) (by omega)) dX5_addFoot_71 (fun H locs hP hD hS => ?_)
        rw [show x5.toNatClampNeg = gn.toInt.toNat - 1 from xk_ix (by omega)] at hP hD
        have hP : va_P D vwCl [(g0, .inr (5, [.int gn, .ref g1, .ref g2, .ref g3])), (g1, .inl (cI, 10, .inl (upd ft (gn.toInt.toNat - 1) x70))), (g2, .inl (cI, 120, .inl (upd bt (12 * (gn.toInt.toNat - 1) + (ft (gn.toInt.toNat - 1)).toInt.toNat) p1))), (g3, .inl (cZ, 120, .inl (upd mk (12 * (gn.toInt.toNat - 1) + (ft (gn.toInt.toNat - 1)).toInt.toNat) 0)))] H := hP
        have hD : va_D A [(g0, .inr (5, [.int gn, .ref g1, .ref g2, .ref g3])), (g1, .inl (cI, 10, .inl (upd ft (gn.toInt.toNat - 1) x70))), (g2, .inl (cI, 120, .inl (upd bt (12 * (gn.toInt.toNat - 1) + (ft (gn.toInt.toNat - 1)).toInt.toNat) p1))), (g3, .inl (cZ, 120, .inl (upd mk (12 * (gn.toInt.toNat - 1) + (ft (gn.toInt.toNat - 1)).toInt.toNat) 0)))] := hD
        exact xk_retv () hx hb hr hlocks (xk_P hP (by rw [e70, e68])) (by trivial) hS dX5_addFoot_72 hQ
      · have t32 : 12 ≤ x29.toInt := xi_nlt rfl (by decide) c32
        omega
  · have b9 : ¬ (hasL gn x5) := b9
    exact absurd (show hasL gn x5 from ⟨by omega, by omega, by omega⟩) b9

set_option maxHeartbeats 4000000 in
set_option maxRecDepth 100000 in
theorem c_X5_markLastFoot (l : Launch) (D : va_G) (cI cZ cS : ClassId) (g0 g1 g2 g3 : Nat) (gn : Int32) (ft mk : Nat → Int32) (hgn : 1 ≤ gn.toInt ∧ gn.toInt ≤ 10) (hft : 1 ≤ (ft (gn.toInt.toNat - 1)).toInt ∧ (ft (gn.toInt.toNat - 1)).toInt ≤ 12) : xMv l yX5_markLastFoot cX5_markLastFoot 3 none ({ frames := 2, cells := 0, slots := 0, locals := 43 } : Room) D (xTy cI cZ cS) [.ref g0] [(g0, .inr (5, [.int gn, .ref g1, .ref g2, .ref g3])), (g1, .inl (cI, 10, .inl ft)), (g3, .inl (cZ, 120, .inl mk))] (fun (_ : Unit) => True) (fun (_ : Unit) => [(g0, .inr (5, [.int gn, .ref g1, .ref g2, .ref g3])), (g1, .inl (cI, 10, .inl ft)), (g3, .inl (cZ, 120, .inl (upd mk (12 * (gn.toInt.toNat - 1) + (ft (gn.toInt.toNat - 1)).toInt.toNat - 1) 1)))]) := by
  refine xk_bodyv (by decide) (Nat.le_of_ble_eq_true rfl) ?_
  intro p e s m below meth c A ls args Q hx hb hr hts hown hlocks hml hin hK hP hD hS hA hN hZ hl hQ
  have hl : lv_has ls 3 [(0, .ref g0)] := hl
  refine lv_aload_n hx hb dX5_markLastFoot_0 rfl (lv_at hl 0 rfl) ?_
  refine va_get (D := D) (ci := 5) (v := .int gn) (C := RX5) (T := TX5) (N := 4) hx hb hts xin5 hown hK hP 0 rfl rfl 0 (by decide) (hts _ (List.mem_cons_of_mem _ mw_1_44)) (fun _ h9 => h9) rfl dX5_markLastFoot_1 ?_
  refine lv_iconst (v := 1) hx hb dX5_markLastFoot_4 (by decide) ?_
  refine lv_isub hx hb dX5_markLastFoot_5 ?_
  refine lv_topi (fun x5 e5 => ?_)
  have t5 : x5.toInt = gn.toInt - 1 := by rw [e5]; exact xi_sub rfl (by decide) (by omega) (by omega)
  refine lv_istore_n (lv' := [(1, .int x5), (0, .ref g0)]) hx hb dX5_markLastFoot_6 rfl hl (by decide) rfl (fun ls hl => ?_)
  refine lv_aload_n hx hb dX5_markLastFoot_7 rfl (lv_at hl 1 rfl) ?_
  refine lv_iload_n hx hb dX5_markLastFoot_8 rfl (lv_at hl 0 rfl) ?_
  refine xk_Vi (As := [.int x5]) (rest := []) hx hb hml hown hts hK hN hZ hP hD hS hA mb_X5_feetOf mw_2_77 mw_2_78 mw_2_79 (c_X5_feetOf l D cI cZ cS g0 g1 g2 g3 gn ft x5 ) [0, 1] 0 5 rfl rfl (by decide) rfl (fun _ => by simp only [List.map]) (by decide) (by decide) rfl hl.1 rfl (Nat.le_of_ble_eq_true rfl) dX5_markLastFoot_9 ⟨Nat.zero_le _, Nat.zero_le _⟩ (fun r9 _ H locs hw hP hD hS => ?_)
  have hP : va_P D vwCl [(g0, .inr (5, [.int gn, .ref g1, .ref g2, .ref g3])), (g1, .inl (cI, 10, .inl ft)), (g3, .inl (cZ, 120, .inl mk))] H := hP
  have hD : va_D A [(g0, .inr (5, [.int gn, .ref g1, .ref g2, .ref g3])), (g1, .inl (cI, 10, .inl ft)), (g3, .inl (cZ, 120, .inl mk))] := hD
  have e9 : r9 = if hasL gn x5 then ft x5.toInt.toNat else 0 := hw
  have h5 : x5.toInt.toNat = gn.toInt.toNat - 1 := by omega
  rw [if_pos ⟨by omega, by omega, by omega⟩, h5] at e9
  have t9 : r9.toInt = (ft (gn.toInt.toNat - 1)).toInt := by rw [e9]
  refine lv_iconst (v := 1) hx hb dX5_markLastFoot_12 (by decide) ?_
  refine lv_isub hx hb dX5_markLastFoot_13 ?_
  refine lv_topi (fun x13 e13 => ?_)
  have t13 : x13.toInt = r9.toInt - 1 := by rw [e13]; exact xi_sub rfl (by decide) (by omega) (by omega)
  refine lv_istore_n (lv' := [(2, .int x13), (1, .int x5), (0, .ref g0)]) hx hb dX5_markLastFoot_14 rfl hl (by decide) rfl (fun ls hl => ?_)
  refine lv_aload_n hx hb dX5_markLastFoot_15 rfl (lv_at hl 2 rfl) ?_
  refine lv_iload_n hx hb dX5_markLastFoot_16 rfl (lv_at hl 1 rfl) ?_
  refine lv_iload_n hx hb dX5_markLastFoot_17 rfl (lv_at hl 0 rfl) ?_
  refine xk_Vi (As := [.int x5, .int x13]) (rest := []) hx hb hml hown hts hK hN hZ hP hD hS hA mb_X5_hasFoot mw_2_85 mw_2_86 mw_2_87 (c_X5_hasFoot l D cI cZ cS g0 g1 g2 g3 gn ft x5 x13 ) [0, 1] 0 5 rfl rfl (by decide) rfl (fun _ => by simp only [List.map]) (by decide) (by decide) rfl hl.1 rfl (Nat.le_of_ble_eq_true rfl) dX5_markLastFoot_18 ⟨Nat.zero_le _, Nat.zero_le _⟩ (fun r18 _ H locs hw hP hD hS => ?_)
  have hP : va_P D vwCl [(g0, .inr (5, [.int gn, .ref g1, .ref g2, .ref g3])), (g1, .inl (cI, 10, .inl ft)), (g3, .inl (cZ, 120, .inl mk))] H := hP
  have hD : va_D A [(g0, .inr (5, [.int gn, .ref g1, .ref g2, .ref g3])), (g1, .inl (cI, 10, .inl ft)), (g3, .inl (cZ, 120, .inl mk))] := hD
  rcases hw with ⟨rfl, b18⟩ | ⟨rfl, b18⟩
  · have b18 : hasF gn ft x5 x13 := b18
    refine lv_if_eq (tgt := 36) hx hb dX5_markLastFoot_21 (by decide) (fun c21 => absurd c21 (by decide)) (fun _ => ?_)
    refine lv_aload_n hx hb dX5_markLastFoot_24 rfl (lv_at hl 2 rfl) ?_
    refine va_get (D := D) (ci := 5) (v := .ref g3) (C := RX5) (T := TX5) (N := 4) hx hb hts xin5 hown hK hP 0 rfl rfl 3 (by decide) (hts _ (List.mem_cons_of_mem _ mw_1_49)) (fun _ h9 => h9) rfl dX5_markLastFoot_25 ?_
    refine lv_iload_n hx hb dX5_markLastFoot_28 rfl (lv_at hl 1 rfl) ?_
    refine lv_bipush (v := 12) hx hb dX5_markLastFoot_29 (by decide) ?_
    refine lv_imul hx hb dX5_markLastFoot_31 ?_
    refine lv_topi (fun x31 e31 => ?_)
    have t31 : x31.toInt = x5.toInt * 12 := by rw [e31]; exact xi_mul rfl (by decide) (by omega) (by omega)
    refine lv_iload_n hx hb dX5_markLastFoot_32 rfl (lv_at hl 0 rfl) ?_
    refine lv_iadd hx hb dX5_markLastFoot_33 ?_
    refine lv_topi (fun x33 e33 => ?_)
    have t33 : x33.toInt = x31.toInt + x13.toInt := by rw [e33]; exact xi_add rfl rfl (by omega) (by omega)
    refine lv_iconst (v := 1) hx hb dX5_markLastFoot_34 (by decide) ?_
    refine va_zast hx hb hK hP hD hS 2 1 rfl rfl (xi_in (by omega) (by omega)) dX5_markLastFoot_35 (fun H locs hP hD hS => ?_)
    rw [show x33.toNatClampNeg = 12 * (gn.toInt.toNat - 1) + (ft (gn.toInt.toNat - 1)).toInt.toNat - 1 from xk_ix (by omega)] at hP hD
    have hP : va_P D vwCl [(g0, .inr (5, [.int gn, .ref g1, .ref g2, .ref g3])), (g1, .inl (cI, 10, .inl ft)), (g3, .inl (cZ, 120, .inl (upd mk (12 * (gn.toInt.toNat - 1) + (ft (gn.toInt.toNat - 1)).toInt.toNat - 1) 1)))] H := hP
    have hD : va_D A [(g0, .inr (5, [.int gn, .ref g1, .ref g2, .ref g3])), (g1, .inl (cI, 10, .inl ft)), (g3, .inl (cZ, 120, .inl (upd mk (12 * (gn.toInt.toNat - 1) + (ft (gn.toInt.toNat - 1)).toInt.toNat - 1) 1)))] := hD
    exact xk_retv () hx hb hr hlocks (xk_P hP (by rfl)) (by trivial) hS dX5_markLastFoot_36 hQ
  · have b18 : ¬ (hasF gn ft x5 x13) := b18
    exact absurd (show hasF gn ft x5 x13 from ⟨⟨by omega, by omega, by omega⟩, by omega, by rw [h5]; omega, by omega⟩) b18

set_option maxHeartbeats 4000000 in
set_option maxRecDepth 100000 in
theorem c_X5_copyFrom (l : Launch) (D : va_G) (cI cZ cS : ClassId) (g0 g1 g2 g3 : Nat) (gn : Int32) (ft bt mk : Nat → Int32) (a0 a1 a2 a3 : Nat) (an : Int32) (af ab am : Nat → Int32) (hbm : ∀ j : Nat, j < 120 → am j = 0 ∨ am j = 1) : xMv l yX5_copyFrom cX5_copyFrom 3 none ({ frames := 0, cells := 0, slots := 0, locals := 0 } : Room) D (xTy cI cZ cS) [.ref g0, .ref a0] [(g0, .inr (5, [.int gn, .ref g1, .ref g2, .ref g3])), (g1, .inl (cI, 10, .inl ft)), (g2, .inl (cI, 120, .inl bt)), (g3, .inl (cZ, 120, .inl mk)), (a0, .inr (5, [.int an, .ref a1, .ref a2, .ref a3])), (a1, .inl (cI, 10, .inl af)), (a2, .inl (cI, 120, .inl ab)), (a3, .inl (cZ, 120, .inl am))] (fun (_ : Unit) => True) (fun (_ : Unit) => [(g0, .inr (5, [.int an, .ref g1, .ref g2, .ref g3])), (g1, .inl (cI, 10, .inl af)), (g2, .inl (cI, 120, .inl ab)), (g3, .inl (cZ, 120, .inl am)), (a0, .inr (5, [.int an, .ref a1, .ref a2, .ref a3])), (a1, .inl (cI, 10, .inl af)), (a2, .inl (cI, 120, .inl ab)), (a3, .inl (cZ, 120, .inl am))]) := by
  refine xk_bodyv (by decide) (Nat.le_of_ble_eq_true rfl) ?_
  intro p e s m below meth c A ls args Q hx hb hr hts hown hlocks hml hin hK hP hD hS hA hN hZ hl hQ
  have hl : lv_has ls 3 [(0, .ref g0), (1, .ref a0)] := hl
  refine lv_aload_n hx hb dX5_copyFrom_0 rfl (lv_at hl 0 rfl) ?_
  refine lv_aload_n hx hb dX5_copyFrom_1 rfl (lv_at hl 1 rfl) ?_
  refine va_get (D := D) (ci := 5) (v := .int an) (C := RX5) (T := TX5) (N := 4) hx hb hts xin5 hown hK hP 4 rfl rfl 0 (by decide) (hts _ (List.mem_cons_of_mem _ mw_1_44)) (fun _ h9 => h9) rfl dX5_copyFrom_2 ?_
  refine va_put (D := D) (ci := 5) (v := .int an) (ty := .int) (C := RX5) (T := TX5) (N := 4) hx hb hts xin5 tyX5 tyX5_ok nmX5 hown hK hP hD hS 0 rfl rfl 0 (by decide) (hts _ (List.mem_cons_of_mem _ mw_1_44)) (fun _ h9 => h9) rfl (by decide +kernel) rfl rfl (Nat.le_of_ble_eq_true rfl) dX5_copyFrom_5 (fun H locs hP hD hS => ?_)
  have hP : va_P D vwCl [(g0, .inr (5, [.int an, .ref g1, .ref g2, .ref g3])), (g1, .inl (cI, 10, .inl ft)), (g2, .inl (cI, 120, .inl bt)), (g3, .inl (cZ, 120, .inl mk)), (a0, .inr (5, [.int an, .ref a1, .ref a2, .ref a3])), (a1, .inl (cI, 10, .inl af)), (a2, .inl (cI, 120, .inl ab)), (a3, .inl (cZ, 120, .inl am))] H := hP
  have hD : va_D A [(g0, .inr (5, [.int an, .ref g1, .ref g2, .ref g3])), (g1, .inl (cI, 10, .inl ft)), (g2, .inl (cI, 120, .inl bt)), (g3, .inl (cZ, 120, .inl mk)), (a0, .inr (5, [.int an, .ref a1, .ref a2, .ref a3])), (a1, .inl (cI, 10, .inl af)), (a2, .inl (cI, 120, .inl ab)), (a3, .inl (cZ, 120, .inl am))] := hD
  refine lv_iconst (v := 0) hx hb dX5_copyFrom_8 (by decide) ?_
  refine lv_istore_n (lv' := [(2, .int 0), (0, .ref g0), (1, .ref a0)]) hx hb dX5_copyFrom_9 rfl hl (by decide) rfl (fun ls hl => ?_)
  have L10 : ∀ (n : Nat) (k : Int32) (hk : 0 ≤ k.toInt ∧ k.toInt ≤ 10) (hn10 : 10 - k.toInt.toNat < n) (H : Heap) (locs : List Loc), va_P D vwCl [(g0, .inr (5, [.int an, .ref g1, .ref g2, .ref g3])), (g1, .inl (cI, 10, .inl (cpU af ft k.toInt.toNat))), (g2, .inl (cI, 120, .inl bt)), (g3, .inl (cZ, 120, .inl mk)), (a0, .inr (5, [.int an, .ref a1, .ref a2, .ref a3])), (a1, .inl (cI, 10, .inl af)), (a2, .inl (cI, 120, .inl ab)), (a3, .inl (cZ, 120, .inl am))] H → va_D A [(g0, .inr (5, [.int an, .ref g1, .ref g2, .ref g3])), (g1, .inl (cI, 10, .inl (cpU af ft k.toInt.toNat))), (g2, .inl (cI, 120, .inl bt)), (g3, .inl (cZ, 120, .inl mk)), (a0, .inr (5, [.int an, .ref a1, .ref a2, .ref a3])), (a1, .inl (cI, 10, .inl af)), (a2, .inl (cI, 120, .inl ab)), (a3, .inl (cZ, 120, .inl am))] → va_S A s.heap H locs → ∀ ls : Array Slot, lv_has ls 3 [(2, .int k), (0, .ref g0), (1, .ref a0)] → W p l e ({ frames := 0, cells := 0, slots := 0, locals := 0 } : Room) s m args below meth c H locs 0 0 Q (F0 m 10 ls []) := by
    intro n
    induction n with
    | zero =>
      intro k hk hn10
      exact absurd hn10 (Nat.not_lt_zero _)
    | succ n ih10 =>
      intro k hk hn10 H locs hP hD hS ls hl
      refine lv_iload_n hx hb dX5_copyFrom_10 rfl (lv_at hl 0 rfl) ?_
      refine lv_bipush (v := 10) hx hb dX5_copyFrom_11 (by decide) ?_
      refine lv_icmp_ge (tgt := 34) hx hb dX5_copyFrom_13 (by decide) (fun c13 => ?_) (fun c13 => ?_)
      · have t13 : 10 ≤ k.toInt := xi_le (by decide) rfl c13
        have hP := xk_arr hP 1 af rfl (fun j hj => cpU_e (by omega))
        have hD := xk_arrD (e' := .inl (cI, 10, .inl af)) hD (k := 1) rfl
        have hP : va_P D vwCl [(g0, .inr (5, [.int an, .ref g1, .ref g2, .ref g3])), (g1, .inl (cI, 10, .inl af)), (g2, .inl (cI, 120, .inl bt)), (g3, .inl (cZ, 120, .inl mk)), (a0, .inr (5, [.int an, .ref a1, .ref a2, .ref a3])), (a1, .inl (cI, 10, .inl af)), (a2, .inl (cI, 120, .inl ab)), (a3, .inl (cZ, 120, .inl am))] H := hP
        have hD : va_D A [(g0, .inr (5, [.int an, .ref g1, .ref g2, .ref g3])), (g1, .inl (cI, 10, .inl af)), (g2, .inl (cI, 120, .inl bt)), (g3, .inl (cZ, 120, .inl mk)), (a0, .inr (5, [.int an, .ref a1, .ref a2, .ref a3])), (a1, .inl (cI, 10, .inl af)), (a2, .inl (cI, 120, .inl ab)), (a3, .inl (cZ, 120, .inl am))] := hD
        refine lv_iconst (v := 0) hx hb dX5_copyFrom_34 (by decide) ?_
        refine lv_istore_n (lv' := [(2, .int 0), (0, .ref g0), (1, .ref a0)]) hx hb dX5_copyFrom_35 rfl hl (by decide) rfl (fun ls hl => ?_)
        have L36 : ∀ (n : Nat) (k : Int32) (hk : 0 ≤ k.toInt ∧ k.toInt ≤ 120) (hn36 : 120 - k.toInt.toNat < n) (H : Heap) (locs : List Loc), va_P D vwCl [(g0, .inr (5, [.int an, .ref g1, .ref g2, .ref g3])), (g1, .inl (cI, 10, .inl af)), (g2, .inl (cI, 120, .inl (cpU ab bt k.toInt.toNat))), (g3, .inl (cZ, 120, .inl (cpU am mk k.toInt.toNat))), (a0, .inr (5, [.int an, .ref a1, .ref a2, .ref a3])), (a1, .inl (cI, 10, .inl af)), (a2, .inl (cI, 120, .inl ab)), (a3, .inl (cZ, 120, .inl am))] H → va_D A [(g0, .inr (5, [.int an, .ref g1, .ref g2, .ref g3])), (g1, .inl (cI, 10, .inl af)), (g2, .inl (cI, 120, .inl (cpU ab bt k.toInt.toNat))), (g3, .inl (cZ, 120, .inl (cpU am mk k.toInt.toNat))), (a0, .inr (5, [.int an, .ref a1, .ref a2, .ref a3])), (a1, .inl (cI, 10, .inl af)), (a2, .inl (cI, 120, .inl ab)), (a3, .inl (cZ, 120, .inl am))] → va_S A s.heap H locs → ∀ ls : Array Slot, lv_has ls 3 [(2, .int k), (0, .ref g0), (1, .ref a0)] → W p l e ({ frames := 0, cells := 0, slots := 0, locals := 0 } : Room) s m args below meth c H locs 0 0 Q (F0 m 36 ls []) := by
          intro n
          induction n with
          | zero =>
            intro k hk hn36
            exact absurd hn36 (Nat.not_lt_zero _)
          | succ n ih36 =>
            intro k hk hn36 H locs hP hD hS ls hl
            refine lv_iload_n hx hb dX5_copyFrom_36 rfl (lv_at hl 0 rfl) ?_
            refine lv_bipush (v := 120) hx hb dX5_copyFrom_37 (by decide) ?_
            refine lv_icmp_ge (tgt := 72) hx hb dX5_copyFrom_39 (by decide) (fun c39 => ?_) (fun c39 => ?_)
            · have t39 : 120 ≤ k.toInt := xi_le (by decide) rfl c39
              have hP := xk_arr hP 2 ab rfl (fun j hj => cpU_e (by omega))
              have hD := xk_arrD (e' := .inl (cI, 120, .inl ab)) hD (k := 2) rfl
              have hP : va_P D vwCl [(g0, .inr (5, [.int an, .ref g1, .ref g2, .ref g3])), (g1, .inl (cI, 10, .inl af)), (g2, .inl (cI, 120, .inl ab)), (g3, .inl (cZ, 120, .inl (cpU am mk k.toInt.toNat))), (a0, .inr (5, [.int an, .ref a1, .ref a2, .ref a3])), (a1, .inl (cI, 10, .inl af)), (a2, .inl (cI, 120, .inl ab)), (a3, .inl (cZ, 120, .inl am))] H := hP
              have hD : va_D A [(g0, .inr (5, [.int an, .ref g1, .ref g2, .ref g3])), (g1, .inl (cI, 10, .inl af)), (g2, .inl (cI, 120, .inl ab)), (g3, .inl (cZ, 120, .inl (cpU am mk k.toInt.toNat))), (a0, .inr (5, [.int an, .ref a1, .ref a2, .ref a3])), (a1, .inl (cI, 10, .inl af)), (a2, .inl (cI, 120, .inl ab)), (a3, .inl (cZ, 120, .inl am))] := hD
              have hP := xk_arr hP 3 am rfl (fun j hj => cpU_e (by omega))
              have hD := xk_arrD (e' := .inl (cZ, 120, .inl am)) hD (k := 3) rfl
              have hP : va_P D vwCl [(g0, .inr (5, [.int an, .ref g1, .ref g2, .ref g3])), (g1, .inl (cI, 10, .inl af)), (g2, .inl (cI, 120, .inl ab)), (g3, .inl (cZ, 120, .inl am)), (a0, .inr (5, [.int an, .ref a1, .ref a2, .ref a3])), (a1, .inl (cI, 10, .inl af)), (a2, .inl (cI, 120, .inl ab)), (a3, .inl (cZ, 120, .inl am))] H := hP
              have hD : va_D A [(g0, .inr (5, [.int an, .ref g1, .ref g2, .ref g3])), (g1, .inl (cI, 10, .inl af)), (g2, .inl (cI, 120, .inl ab)), (g3, .inl (cZ, 120, .inl am)), (a0, .inr (5, [.int an, .ref a1, .ref a2, .ref a3])), (a1, .inl (cI, 10, .inl af)), (a2, .inl (cI, 120, .inl ab)), (a3, .inl (cZ, 120, .inl am))] := hD
              exact xk_retv () hx hb hr hlocks (xk_P hP (by rfl)) (by trivial) hS dX5_copyFrom_72 hQ
            · have t39 : k.toInt < 120 := xi_nle (by decide) rfl c39
              refine lv_aload_n hx hb dX5_copyFrom_42 rfl (lv_at hl 1 rfl) ?_
              refine va_get (D := D) (ci := 5) (v := .ref g2) (C := RX5) (T := TX5) (N := 4) hx hb hts xin5 hown hK hP 0 rfl rfl 2 (by decide) (hts _ (List.mem_cons_of_mem _ mw_1_48)) (fun _ h9 => h9) rfl dX5_copyFrom_43 ?_
              refine lv_iload_n hx hb dX5_copyFrom_46 rfl (lv_at hl 0 rfl) ?_
              refine lv_aload_n hx hb dX5_copyFrom_47 rfl (lv_at hl 2 rfl) ?_
              refine va_get (D := D) (ci := 5) (v := .ref a2) (C := RX5) (T := TX5) (N := 4) hx hb hts xin5 hown hK hP 4 rfl rfl 2 (by decide) (hts _ (List.mem_cons_of_mem _ mw_1_48)) (fun _ h9 => h9) rfl dX5_copyFrom_48 ?_
              refine lv_iload_n hx hb dX5_copyFrom_51 rfl (lv_at hl 0 rfl) ?_
              refine va_iald hx hb hK hP 6 0 rfl rfl (xi_in (by omega) (by omega)) dX5_copyFrom_52 ?_
              refine xk_top (z := ab k.toInt.toNat) (xk_rd (by omega)) ?_
              refine lv_topi (fun x52 e52 => ?_)
              refine va_iast hx hb hK hP hD hS 2 0 rfl rfl (xi_in (by omega) (by omega)) dX5_copyFrom_53 (fun H locs hP hD hS => ?_)
              rw [show k.toNatClampNeg = k.toInt.toNat from xk_ix (by omega)] at hP hD
              have hP : va_P D vwCl [(g0, .inr (5, [.int an, .ref g1, .ref g2, .ref g3])), (g1, .inl (cI, 10, .inl af)), (g2, .inl (cI, 120, .inl (upd (cpU ab bt k.toInt.toNat) k.toInt.toNat x52))), (g3, .inl (cZ, 120, .inl (cpU am mk k.toInt.toNat))), (a0, .inr (5, [.int an, .ref a1, .ref a2, .ref a3])), (a1, .inl (cI, 10, .inl af)), (a2, .inl (cI, 120, .inl ab)), (a3, .inl (cZ, 120, .inl am))] H := hP
              have hD : va_D A [(g0, .inr (5, [.int an, .ref g1, .ref g2, .ref g3])), (g1, .inl (cI, 10, .inl af)), (g2, .inl (cI, 120, .inl (upd (cpU ab bt k.toInt.toNat) k.toInt.toNat x52))), (g3, .inl (cZ, 120, .inl (cpU am mk k.toInt.toNat))), (a0, .inr (5, [.int an, .ref a1, .ref a2, .ref a3])), (a1, .inl (cI, 10, .inl af)), (a2, .inl (cI, 120, .inl ab)), (a3, .inl (cZ, 120, .inl am))] := hD
              refine lv_aload_n hx hb dX5_copyFrom_54 rfl (lv_at hl 1 rfl) ?_
              refine va_get (D := D) (ci := 5) (v := .ref g3) (C := RX5) (T := TX5) (N := 4) hx hb hts xin5 hown hK hP 0 rfl rfl 3 (by decide) (hts _ (List.mem_cons_of_mem _ mw_1_49)) (fun _ h9 => h9) rfl dX5_copyFrom_55 ?_
              refine lv_iload_n hx hb dX5_copyFrom_58 rfl (lv_at hl 0 rfl) ?_
              refine lv_aload_n hx hb dX5_copyFrom_59 rfl (lv_at hl 2 rfl) ?_
              refine va_get (D := D) (ci := 5) (v := .ref a3) (C := RX5) (T := TX5) (N := 4) hx hb hts xin5 hown hK hP 4 rfl rfl 3 (by decide) (hts _ (List.mem_cons_of_mem _ mw_1_49)) (fun _ h9 => h9) rfl dX5_copyFrom_60 ?_
              refine lv_iload_n hx hb dX5_copyFrom_63 rfl (lv_at hl 0 rfl) ?_
              refine va_zald hx hb hK hP 7 1 rfl rfl (xi_in (by omega) (by omega)) dX5_copyFrom_64 ?_
              refine xk_top (z := am k.toInt.toNat) (xk_rd (by omega)) ?_
              refine lv_topi (fun x64 e64 => ?_)
              refine va_zast hx hb hK hP hD hS 3 1 rfl rfl (xi_in (by omega) (by omega)) dX5_copyFrom_65 (fun H locs hP hD hS => ?_)
              rw [show vp_nar .boolean x64 = x64 from nar01 (by rw [e64]; exact hbm _ (by omega))] at hP hD
              rw [show k.toNatClampNeg = k.toInt.toNat from xk_ix (by omega)] at hP hD
              have hP : va_P D vwCl [(g0, .inr (5, [.int an, .ref g1, .ref g2, .ref g3])), (g1, .inl (cI, 10, .inl af)), (g2, .inl (cI, 120, .inl (upd (cpU ab bt k.toInt.toNat) k.toInt.toNat x52))), (g3, .inl (cZ, 120, .inl (upd (cpU am mk k.toInt.toNat) k.toInt.toNat x64))), (a0, .inr (5, [.int an, .ref a1, .ref a2, .ref a3])), (a1, .inl (cI, 10, .inl af)), (a2, .inl (cI, 120, .inl ab)), (a3, .inl (cZ, 120, .inl am))] H := hP
              have hD : va_D A [(g0, .inr (5, [.int an, .ref g1, .ref g2, .ref g3])), (g1, .inl (cI, 10, .inl af)), (g2, .inl (cI, 120, .inl (upd (cpU ab bt k.toInt.toNat) k.toInt.toNat x52))), (g3, .inl (cZ, 120, .inl (upd (cpU am mk k.toInt.toNat) k.toInt.toNat x64))), (a0, .inr (5, [.int an, .ref a1, .ref a2, .ref a3])), (a1, .inl (cI, 10, .inl af)), (a2, .inl (cI, 120, .inl ab)), (a3, .inl (cZ, 120, .inl am))] := hD
              obtain ⟨x66, e66⟩ : ∃ y : Int32, y = k + 1 := ⟨_, rfl⟩
              have t66 : x66.toInt = k.toInt + 1 := by rw [e66]; exact xi_add rfl (by decide) (by omega) (by omega)
              refine lv_iinc (v := x66) (lv' := [(2, .int x66), (0, .ref g0), (1, .ref a0)]) hx hb dX5_copyFrom_66 hl (k := 0) rfl (by rw [e66]; rfl) (by decide) rfl (fun ls hl => ?_)
              refine lv_goto (tgt := 36) hx hb dX5_copyFrom_69 (by decide) ?_
              have q36 : ([(g0, .inr (5, [.int an, .ref g1, .ref g2, .ref g3])), (g1, .inl (cI, 10, .inl af)), (g2, .inl (cI, 120, .inl (upd (cpU ab bt k.toInt.toNat) k.toInt.toNat x52))), (g3, .inl (cZ, 120, .inl (upd (cpU am mk k.toInt.toNat) k.toInt.toNat x64))), (a0, .inr (5, [.int an, .ref a1, .ref a2, .ref a3])), (a1, .inl (cI, 10, .inl af)), (a2, .inl (cI, 120, .inl ab)), (a3, .inl (cZ, 120, .inl am))] : va_W) = [(g0, .inr (5, [.int an, .ref g1, .ref g2, .ref g3])), (g1, .inl (cI, 10, .inl af)), (g2, .inl (cI, 120, .inl (cpU ab bt x66.toInt.toNat))), (g3, .inl (cZ, 120, .inl (cpU am mk x66.toInt.toNat))), (a0, .inr (5, [.int an, .ref a1, .ref a2, .ref a3])), (a1, .inl (cI, 10, .inl af)), (a2, .inl (cI, 120, .inl ab)), (a3, .inl (cZ, 120, .inl am))] := by rw [e52, e64, cpU_s, cpU_s, show x66.toInt.toNat = k.toInt.toNat + 1 from by omega]
              exact ih36  x66 (by first | omega | assumption) (by omega) _ _ (xk_P hP q36) (xk_D hD q36) hS ls (lv_sub hl [0, 1, 2] rfl)
        have q36 : ([(g0, .inr (5, [.int an, .ref g1, .ref g2, .ref g3])), (g1, .inl (cI, 10, .inl af)), (g2, .inl (cI, 120, .inl bt)), (g3, .inl (cZ, 120, .inl mk)), (a0, .inr (5, [.int an, .ref a1, .ref a2, .ref a3])), (a1, .inl (cI, 10, .inl af)), (a2, .inl (cI, 120, .inl ab)), (a3, .inl (cZ, 120, .inl am))] : va_W) = [(g0, .inr (5, [.int an, .ref g1, .ref g2, .ref g3])), (g1, .inl (cI, 10, .inl af)), (g2, .inl (cI, 120, .inl (cpU ab bt 0))), (g3, .inl (cZ, 120, .inl (cpU am mk 0))), (a0, .inr (5, [.int an, .ref a1, .ref a2, .ref a3])), (a1, .inl (cI, 10, .inl af)), (a2, .inl (cI, 120, .inl ab)), (a3, .inl (cZ, 120, .inl am))] := by rw [cpU_0, cpU_0]
        exact L36 121 (0 : Int32) (by decide) (by decide) _ _ (xk_P hP q36) (xk_D hD q36) hS ls (lv_sub hl [0, 1, 2] rfl)
      · have t13 : k.toInt < 10 := xi_nle (by decide) rfl c13
        refine lv_aload_n hx hb dX5_copyFrom_16 rfl (lv_at hl 1 rfl) ?_
        refine va_get (D := D) (ci := 5) (v := .ref g1) (C := RX5) (T := TX5) (N := 4) hx hb hts xin5 hown hK hP 0 rfl rfl 1 (by decide) (hts _ (List.mem_cons_of_mem _ mw_1_47)) (fun _ h9 => h9) rfl dX5_copyFrom_17 ?_
        refine lv_iload_n hx hb dX5_copyFrom_20 rfl (lv_at hl 0 rfl) ?_
        refine lv_aload_n hx hb dX5_copyFrom_21 rfl (lv_at hl 2 rfl) ?_
        refine va_get (D := D) (ci := 5) (v := .ref a1) (C := RX5) (T := TX5) (N := 4) hx hb hts xin5 hown hK hP 4 rfl rfl 1 (by decide) (hts _ (List.mem_cons_of_mem _ mw_1_47)) (fun _ h9 => h9) rfl dX5_copyFrom_22 ?_
        refine lv_iload_n hx hb dX5_copyFrom_25 rfl (lv_at hl 0 rfl) ?_
        refine va_iald hx hb hK hP 5 0 rfl rfl (xi_in (by omega) (by omega)) dX5_copyFrom_26 ?_
        refine xk_top (z := af k.toInt.toNat) (xk_rd (by omega)) ?_
        refine lv_topi (fun x26 e26 => ?_)
        refine va_iast hx hb hK hP hD hS 1 0 rfl rfl (xi_in (by omega) (by omega)) dX5_copyFrom_27 (fun H locs hP hD hS => ?_)
        rw [show k.toNatClampNeg = k.toInt.toNat from xk_ix (by omega)] at hP hD
        have hP : va_P D vwCl [(g0, .inr (5, [.int an, .ref g1, .ref g2, .ref g3])), (g1, .inl (cI, 10, .inl (upd (cpU af ft k.toInt.toNat) k.toInt.toNat x26))), (g2, .inl (cI, 120, .inl bt)), (g3, .inl (cZ, 120, .inl mk)), (a0, .inr (5, [.int an, .ref a1, .ref a2, .ref a3])), (a1, .inl (cI, 10, .inl af)), (a2, .inl (cI, 120, .inl ab)), (a3, .inl (cZ, 120, .inl am))] H := hP
        have hD : va_D A [(g0, .inr (5, [.int an, .ref g1, .ref g2, .ref g3])), (g1, .inl (cI, 10, .inl (upd (cpU af ft k.toInt.toNat) k.toInt.toNat x26))), (g2, .inl (cI, 120, .inl bt)), (g3, .inl (cZ, 120, .inl mk)), (a0, .inr (5, [.int an, .ref a1, .ref a2, .ref a3])), (a1, .inl (cI, 10, .inl af)), (a2, .inl (cI, 120, .inl ab)), (a3, .inl (cZ, 120, .inl am))] := hD
        obtain ⟨x28, e28⟩ : ∃ y : Int32, y = k + 1 := ⟨_, rfl⟩
        have t28 : x28.toInt = k.toInt + 1 := by rw [e28]; exact xi_add rfl (by decide) (by omega) (by omega)
        refine lv_iinc (v := x28) (lv' := [(2, .int x28), (0, .ref g0), (1, .ref a0)]) hx hb dX5_copyFrom_28 hl (k := 0) rfl (by rw [e28]; rfl) (by decide) rfl (fun ls hl => ?_)
        refine lv_goto (tgt := 10) hx hb dX5_copyFrom_31 (by decide) ?_
        have q10 : ([(g0, .inr (5, [.int an, .ref g1, .ref g2, .ref g3])), (g1, .inl (cI, 10, .inl (upd (cpU af ft k.toInt.toNat) k.toInt.toNat x26))), (g2, .inl (cI, 120, .inl bt)), (g3, .inl (cZ, 120, .inl mk)), (a0, .inr (5, [.int an, .ref a1, .ref a2, .ref a3])), (a1, .inl (cI, 10, .inl af)), (a2, .inl (cI, 120, .inl ab)), (a3, .inl (cZ, 120, .inl am))] : va_W) = [(g0, .inr (5, [.int an, .ref g1, .ref g2, .ref g3])), (g1, .inl (cI, 10, .inl (cpU af ft x28.toInt.toNat))), (g2, .inl (cI, 120, .inl bt)), (g3, .inl (cZ, 120, .inl mk)), (a0, .inr (5, [.int an, .ref a1, .ref a2, .ref a3])), (a1, .inl (cI, 10, .inl af)), (a2, .inl (cI, 120, .inl ab)), (a3, .inl (cZ, 120, .inl am))] := by rw [e26, cpU_s, show x28.toInt.toNat = k.toInt.toNat + 1 from by omega]
        exact ih10  x28 (by first | omega | assumption) (by omega) _ _ (xk_P hP q10) (xk_D hD q10) hS ls (lv_sub hl [0, 1, 2] rfl)
  have q10 : ([(g0, .inr (5, [.int an, .ref g1, .ref g2, .ref g3])), (g1, .inl (cI, 10, .inl ft)), (g2, .inl (cI, 120, .inl bt)), (g3, .inl (cZ, 120, .inl mk)), (a0, .inr (5, [.int an, .ref a1, .ref a2, .ref a3])), (a1, .inl (cI, 10, .inl af)), (a2, .inl (cI, 120, .inl ab)), (a3, .inl (cZ, 120, .inl am))] : va_W) = [(g0, .inr (5, [.int an, .ref g1, .ref g2, .ref g3])), (g1, .inl (cI, 10, .inl (cpU af ft 0))), (g2, .inl (cI, 120, .inl bt)), (g3, .inl (cZ, 120, .inl mk)), (a0, .inr (5, [.int an, .ref a1, .ref a2, .ref a3])), (a1, .inl (cI, 10, .inl af)), (a2, .inl (cI, 120, .inl ab)), (a3, .inl (cZ, 120, .inl am))] := by rw [cpU_0]
  exact L10 11 (0 : Int32) (by decide) (by decide) _ _ (xk_P hP q10) (xk_D hD q10) hS ls (lv_sub hl [0, 1, 2] rfl)

set_option maxHeartbeats 4000000 in
set_option maxRecDepth 100000 in
theorem c_X3_has (l : Launch) (D : va_G) (cI cZ cS : ClassId) (ro0 ro1 ro2 ro3 : Nat) (rn : Int32) (p1 : Int32)  : xMi l yX3_has cX3_has 2 (some .boolean) ({ frames := 0, cells := 0, slots := 0, locals := 0 } : Room) D (xTy cI cZ cS) [.ref ro0, .int p1] [(ro0, .inr (3, [.int rn, .ref ro1, .ref ro2, .ref ro3]))] (fun (r : Int32) (_ : Unit) => ((r = 1 ∧ (hasS rn p1)) ∨ (r = 0 ∧ ¬ (hasS rn p1)))) (fun (_ : Unit) => [(ro0, .inr (3, [.int rn, .ref ro1, .ref ro2, .ref ro3]))]) := by
  refine xk_bodyi (by decide) (Nat.le_of_ble_eq_true rfl) ?_
  intro p e s m below meth c A ls args Q hx hb hr hts hown hlocks hml hin hK hP hD hS hA hN hZ hl hQ
  have hl : lv_has ls 2 [(0, .ref ro0), (1, .int p1)] := hl
  refine lv_iload_n hx hb dX3_has_0 rfl (lv_at hl 1 rfl) ?_
  refine lv_if_lt (tgt := 22) hx hb dX3_has_1 (by decide) (fun c1 => ?_) (fun c1 => ?_)
  · have t1 : p1.toInt < 0 := xi_lt rfl (by decide) c1
    refine lv_iconst (v := 0) hx hb dX3_has_22 (by decide) ?_
    exact xk_retz () hx hb hr hlocks (by decide) (xk_P hP (by rfl)) (by first | exact Or.inl ⟨rfl, by omega⟩ | exact Or.inr ⟨rfl, by omega⟩) hS dX3_has_23 hQ
  · have t1 : 0 ≤ p1.toInt := xi_nlt rfl (by decide) c1
    refine lv_iload_n hx hb dX3_has_4 rfl (lv_at hl 1 rfl) ?_
    refine lv_aload_n hx hb dX3_has_5 rfl (lv_at hl 0 rfl) ?_
    refine va_get (D := D) (ci := 3) (v := .int rn) (C := RX3) (T := TX3) (N := 4) hx hb hts xin3 hown hK hP 0 rfl rfl 0 (by decide) (hts _ (List.mem_cons_of_mem _ mw_1_66)) (fun _ h9 => h9) rfl dX3_has_6 ?_
    refine lv_icmp_ge (tgt := 22) hx hb dX3_has_9 (by decide) (fun c9 => ?_) (fun c9 => ?_)
    · have t9 : rn.toInt ≤ p1.toInt := xi_le rfl rfl c9
      refine lv_iconst (v := 0) hx hb dX3_has_22 (by decide) ?_
      exact xk_retz () hx hb hr hlocks (by decide) (xk_P hP (by rfl)) (by first | exact Or.inl ⟨rfl, by omega⟩ | exact Or.inr ⟨rfl, by omega⟩) hS dX3_has_23 hQ
    · have t9 : p1.toInt < rn.toInt := xi_nle rfl rfl c9
      refine lv_iload_n hx hb dX3_has_12 rfl (lv_at hl 1 rfl) ?_
      refine lv_bipush (v := 12) hx hb dX3_has_13 (by decide) ?_
      refine lv_icmp_ge (tgt := 22) hx hb dX3_has_15 (by decide) (fun c15 => ?_) (fun c15 => ?_)
      · have t15 : 12 ≤ p1.toInt := xi_le (by decide) rfl c15
        refine lv_iconst (v := 0) hx hb dX3_has_22 (by decide) ?_
        exact xk_retz () hx hb hr hlocks (by decide) (xk_P hP (by rfl)) (by first | exact Or.inl ⟨rfl, by omega⟩ | exact Or.inr ⟨rfl, by omega⟩) hS dX3_has_23 hQ
      · have t15 : p1.toInt < 12 := xi_nle (by decide) rfl c15
        refine lv_iconst (v := 1) hx hb dX3_has_18 (by decide) ?_
        refine lv_goto (tgt := 23) hx hb dX3_has_19 (by decide) ?_
        exact xk_retz () hx hb hr hlocks (by decide) (xk_P hP (by rfl)) (by first | exact Or.inl ⟨rfl, by omega⟩ | exact Or.inr ⟨rfl, by omega⟩) hS dX3_has_23 hQ

set_option maxHeartbeats 4000000 in
set_option maxRecDepth 100000 in
theorem c_X3_stepsOf (l : Launch) (D : va_G) (cI cZ cS : ClassId) (ro0 ro1 ro2 ro3 : Nat) (rn : Int32) (st : Nat → Int32) (p1 : Int32)  : xMi l yX3_stepsOf cX3_stepsOf 2 (some .int) ({ frames := 1, cells := 0, slots := 0, locals := 21 } : Room) D (xTy cI cZ cS) [.ref ro0, .int p1] [(ro0, .inr (3, [.int rn, .ref ro1, .ref ro2, .ref ro3])), (ro1, .inl (cI, 12, .inl st))] (fun (r : Int32) (_ : Unit) => r = if hasS rn p1 then st p1.toInt.toNat else 0) (fun (_ : Unit) => [(ro0, .inr (3, [.int rn, .ref ro1, .ref ro2, .ref ro3])), (ro1, .inl (cI, 12, .inl st))]) := by
  refine xk_bodyi (by decide) (Nat.le_of_ble_eq_true rfl) ?_
  intro p e s m below meth c A ls args Q hx hb hr hts hown hlocks hml hin hK hP hD hS hA hN hZ hl hQ
  have hl : lv_has ls 2 [(0, .ref ro0), (1, .int p1)] := hl
  refine lv_aload_n hx hb dX3_stepsOf_0 rfl (lv_at hl 0 rfl) ?_
  refine lv_iload_n hx hb dX3_stepsOf_1 rfl (lv_at hl 1 rfl) ?_
  refine xk_Vi (As := [.int p1]) (rest := []) hx hb hml hown hts hK hN hZ hP hD hS hA mb_X3_has mw_2_117 mw_2_110 mw_2_111 (c_X3_has l D cI cZ cS ro0 ro1 ro2 ro3 rn p1 ) [0] 0 3 rfl rfl (by decide) rfl (fun _ => by simp only [List.map]) (by decide) (by decide) rfl hl.1 rfl (Nat.le_of_ble_eq_true rfl) dX3_stepsOf_2 ⟨Nat.zero_le _, Nat.zero_le _⟩ (fun r2 _ H locs hw hP hD hS => ?_)
  have hP : va_P D vwCl [(ro0, .inr (3, [.int rn, .ref ro1, .ref ro2, .ref ro3])), (ro1, .inl (cI, 12, .inl st))] H := hP
  have hD : va_D A [(ro0, .inr (3, [.int rn, .ref ro1, .ref ro2, .ref ro3])), (ro1, .inl (cI, 12, .inl st))] := hD
  rcases hw with ⟨rfl, b2⟩ | ⟨rfl, b2⟩
  · have b2 : hasS rn p1 := b2
    refine lv_if_eq (tgt := 17) hx hb dX3_stepsOf_5 (by decide) (fun c5 => absurd c5 (by decide)) (fun _ => ?_)
    refine lv_aload_n hx hb dX3_stepsOf_8 rfl (lv_at hl 0 rfl) ?_
    refine va_get (D := D) (ci := 3) (v := .ref ro1) (C := RX3) (T := TX3) (N := 4) hx hb hts xin3 hown hK hP 0 rfl rfl 1 (by decide) (hts _ (List.mem_cons_of_mem _ mw_1_69)) (fun _ h9 => h9) rfl dX3_stepsOf_9 ?_
    refine lv_iload_n hx hb dX3_stepsOf_12 rfl (lv_at hl 1 rfl) ?_
    refine va_iald hx hb hK hP 1 0 rfl rfl (xi_in (by omega) (by omega)) dX3_stepsOf_13 ?_
    refine xk_top (z := st p1.toInt.toNat) rfl ?_
    refine lv_topi (fun x13 e13 => ?_)
    refine lv_goto (tgt := 18) hx hb dX3_stepsOf_14 (by decide) ?_
    exact xk_reti () hx hb hr hlocks (xk_P hP (by rfl)) (by rw [if_pos b2, e13]) hS dX3_stepsOf_18 hQ
  · have b2 : ¬ (hasS rn p1) := b2
    refine lv_if_eq (tgt := 17) hx hb dX3_stepsOf_5 (by decide) (fun _ => ?_) (fun c5 => absurd (by decide) c5)
    refine lv_iconst (v := 0) hx hb dX3_stepsOf_17 (by decide) ?_
    exact xk_reti () hx hb hr hlocks (xk_P hP (by rfl)) (by rw [if_neg b2]) hS dX3_stepsOf_18 hQ

set_option maxHeartbeats 4000000 in
set_option maxRecDepth 100000 in
theorem c_X3_slopeOf (l : Launch) (D : va_G) (cI cZ cS : ClassId) (ro0 ro1 ro2 ro3 : Nat) (rn : Int32) (sl : Nat → Int32) (p1 : Int32)  : xMi l yX3_slopeOf cX3_slopeOf 2 (some .int) ({ frames := 1, cells := 0, slots := 0, locals := 21 } : Room) D (xTy cI cZ cS) [.ref ro0, .int p1] [(ro0, .inr (3, [.int rn, .ref ro1, .ref ro2, .ref ro3])), (ro2, .inl (cI, 12, .inl sl))] (fun (r : Int32) (_ : Unit) => r = if hasS rn p1 then sl p1.toInt.toNat else 0) (fun (_ : Unit) => [(ro0, .inr (3, [.int rn, .ref ro1, .ref ro2, .ref ro3])), (ro2, .inl (cI, 12, .inl sl))]) := by
  refine xk_bodyi (by decide) (Nat.le_of_ble_eq_true rfl) ?_
  intro p e s m below meth c A ls args Q hx hb hr hts hown hlocks hml hin hK hP hD hS hA hN hZ hl hQ
  have hl : lv_has ls 2 [(0, .ref ro0), (1, .int p1)] := hl
  refine lv_aload_n hx hb dX3_slopeOf_0 rfl (lv_at hl 0 rfl) ?_
  refine lv_iload_n hx hb dX3_slopeOf_1 rfl (lv_at hl 1 rfl) ?_
  refine xk_Vi (As := [.int p1]) (rest := []) hx hb hml hown hts hK hN hZ hP hD hS hA mb_X3_has mw_2_117 mw_2_110 mw_2_111 (c_X3_has l D cI cZ cS ro0 ro1 ro2 ro3 rn p1 ) [0] 0 3 rfl rfl (by decide) rfl (fun _ => by simp only [List.map]) (by decide) (by decide) rfl hl.1 rfl (Nat.le_of_ble_eq_true rfl) dX3_slopeOf_2 ⟨Nat.zero_le _, Nat.zero_le _⟩ (fun r2 _ H locs hw hP hD hS => ?_)
  have hP : va_P D vwCl [(ro0, .inr (3, [.int rn, .ref ro1, .ref ro2, .ref ro3])), (ro2, .inl (cI, 12, .inl sl))] H := hP
  have hD : va_D A [(ro0, .inr (3, [.int rn, .ref ro1, .ref ro2, .ref ro3])), (ro2, .inl (cI, 12, .inl sl))] := hD
  rcases hw with ⟨rfl, b2⟩ | ⟨rfl, b2⟩
  · have b2 : hasS rn p1 := b2
    refine lv_if_eq (tgt := 17) hx hb dX3_slopeOf_5 (by decide) (fun c5 => absurd c5 (by decide)) (fun _ => ?_)
    refine lv_aload_n hx hb dX3_slopeOf_8 rfl (lv_at hl 0 rfl) ?_
    refine va_get (D := D) (ci := 3) (v := .ref ro2) (C := RX3) (T := TX3) (N := 4) hx hb hts xin3 hown hK hP 0 rfl rfl 2 (by decide) (hts _ (List.mem_cons_of_mem _ mw_1_70)) (fun _ h9 => h9) rfl dX3_slopeOf_9 ?_
    refine lv_iload_n hx hb dX3_slopeOf_12 rfl (lv_at hl 1 rfl) ?_
    refine va_iald hx hb hK hP 1 0 rfl rfl (xi_in (by omega) (by omega)) dX3_slopeOf_13 ?_
    refine xk_top (z := sl p1.toInt.toNat) rfl ?_
    refine lv_topi (fun x13 e13 => ?_)
    refine lv_goto (tgt := 18) hx hb dX3_slopeOf_14 (by decide) ?_
    exact xk_reti () hx hb hr hlocks (xk_P hP (by rfl)) (by rw [if_pos b2, e13]) hS dX3_slopeOf_18 hQ
  · have b2 : ¬ (hasS rn p1) := b2
    refine lv_if_eq (tgt := 17) hx hb dX3_slopeOf_5 (by decide) (fun _ => ?_) (fun c5 => absurd (by decide) c5)
    refine lv_iconst (v := 0) hx hb dX3_slopeOf_17 (by decide) ?_
    exact xk_reti () hx hb hr hlocks (xk_P hP (by rfl)) (by rw [if_neg b2]) hS dX3_slopeOf_18 hQ

set_option maxHeartbeats 4000000 in
set_option maxRecDepth 100000 in
theorem c_X3_isMuddy (l : Launch) (D : va_G) (cI cZ cS : ClassId) (ro0 ro1 ro2 ro3 : Nat) (rn : Int32) (md : Nat → Int32) (p1 : Int32)  : xMi l yX3_isMuddy cX3_isMuddy 2 (some .boolean) ({ frames := 1, cells := 0, slots := 0, locals := 21 } : Room) D (xTy cI cZ cS) [.ref ro0, .int p1] [(ro0, .inr (3, [.int rn, .ref ro1, .ref ro2, .ref ro3])), (ro3, .inl (cZ, 12, .inl md))] (fun (r : Int32) (_ : Unit) => ((r = 1 ∧ (hasS rn p1 ∧ ¬ md p1.toInt.toNat = 0)) ∨ (r = 0 ∧ ¬ (hasS rn p1 ∧ ¬ md p1.toInt.toNat = 0)))) (fun (_ : Unit) => [(ro0, .inr (3, [.int rn, .ref ro1, .ref ro2, .ref ro3])), (ro3, .inl (cZ, 12, .inl md))]) := by
  refine xk_bodyi (by decide) (Nat.le_of_ble_eq_true rfl) ?_
  intro p e s m below meth c A ls args Q hx hb hr hts hown hlocks hml hin hK hP hD hS hA hN hZ hl hQ
  have hl : lv_has ls 2 [(0, .ref ro0), (1, .int p1)] := hl
  refine lv_aload_n hx hb dX3_isMuddy_0 rfl (lv_at hl 0 rfl) ?_
  refine lv_iload_n hx hb dX3_isMuddy_1 rfl (lv_at hl 1 rfl) ?_
  refine xk_Vi (As := [.int p1]) (rest := []) hx hb hml hown hts hK hN hZ hP hD hS hA mb_X3_has mw_2_117 mw_2_110 mw_2_111 (c_X3_has l D cI cZ cS ro0 ro1 ro2 ro3 rn p1 ) [0] 0 3 rfl rfl (by decide) rfl (fun _ => by simp only [List.map]) (by decide) (by decide) rfl hl.1 rfl (Nat.le_of_ble_eq_true rfl) dX3_isMuddy_2 ⟨Nat.zero_le _, Nat.zero_le _⟩ (fun r2 _ H locs hw hP hD hS => ?_)
  have hP : va_P D vwCl [(ro0, .inr (3, [.int rn, .ref ro1, .ref ro2, .ref ro3])), (ro3, .inl (cZ, 12, .inl md))] H := hP
  have hD : va_D A [(ro0, .inr (3, [.int rn, .ref ro1, .ref ro2, .ref ro3])), (ro3, .inl (cZ, 12, .inl md))] := hD
  rcases hw with ⟨rfl, b2⟩ | ⟨rfl, b2⟩
  · have b2 : hasS rn p1 := b2
    refine lv_if_eq (tgt := 21) hx hb dX3_isMuddy_5 (by decide) (fun c5 => absurd c5 (by decide)) (fun _ => ?_)
    refine lv_aload_n hx hb dX3_isMuddy_8 rfl (lv_at hl 0 rfl) ?_
    refine va_get (D := D) (ci := 3) (v := .ref ro3) (C := RX3) (T := TX3) (N := 4) hx hb hts xin3 hown hK hP 0 rfl rfl 3 (by decide) (hts _ (List.mem_cons_of_mem _ mw_1_71)) (fun _ h9 => h9) rfl dX3_isMuddy_9 ?_
    refine lv_iload_n hx hb dX3_isMuddy_12 rfl (lv_at hl 1 rfl) ?_
    refine va_zald hx hb hK hP 1 1 rfl rfl (xi_in (by omega) (by omega)) dX3_isMuddy_13 ?_
    refine xk_top (z := md p1.toInt.toNat) rfl ?_
    refine lv_topi (fun x13 e13 => ?_)
    refine lv_if_eq (tgt := 21) hx hb dX3_isMuddy_14 (by decide) (fun c14 => ?_) (fun c14 => ?_)
    · have t14 : x13.toInt = 0 := xi_eq rfl (by decide) c14
      have d14 : x13 = 0 := c14
      refine lv_iconst (v := 0) hx hb dX3_isMuddy_21 (by decide) ?_
      exact xk_retz () hx hb hr hlocks (by decide) (xk_P hP (by rfl)) (by exact Or.inr ⟨rfl, fun hh => hh.2 (by rw [← e13]; exact d14)⟩) hS dX3_isMuddy_22 hQ
    · have t14 : ¬ x13.toInt = 0 := xi_ne rfl (by decide) c14
      have d14 : ¬ x13 = 0 := c14
      refine lv_iconst (v := 1) hx hb dX3_isMuddy_17 (by decide) ?_
      refine lv_goto (tgt := 22) hx hb dX3_isMuddy_18 (by decide) ?_
      exact xk_retz () hx hb hr hlocks (by decide) (xk_P hP (by rfl)) (by exact Or.inl ⟨rfl, b2, by rw [← e13]; exact d14⟩) hS dX3_isMuddy_22 hQ
  · have b2 : ¬ (hasS rn p1) := b2
    refine lv_if_eq (tgt := 21) hx hb dX3_isMuddy_5 (by decide) (fun _ => ?_) (fun c5 => absurd (by decide) c5)
    refine lv_iconst (v := 0) hx hb dX3_isMuddy_21 (by decide) ?_
    exact xk_retz () hx hb hr hlocks (by decide) (xk_P hP (by rfl)) (by exact Or.inr ⟨rfl, fun hh => b2 hh.1⟩) hS dX3_isMuddy_22 hQ

set_option maxHeartbeats 4000000 in
set_option maxRecDepth 100000 in
theorem c_X3_add (l : Launch) (D : va_G) (cI cZ cS : ClassId) (ro0 ro1 ro2 ro3 : Nat) (rn : Int32) (st sl md : Nat → Int32) (p1 p2 p3 : Int32) (hrn : 0 ≤ rn.toInt ∧ rn.toInt < 12) (hp3 : p3 = 0 ∨ p3 = 1) : xMv l yX3_add cX3_add 4 none ({ frames := 0, cells := 0, slots := 0, locals := 0 } : Room) D (xTy cI cZ cS) [.ref ro0, .int p1, .int p2, .int p3] [(ro0, .inr (3, [.int rn, .ref ro1, .ref ro2, .ref ro3])), (ro1, .inl (cI, 12, .inl st)), (ro2, .inl (cI, 12, .inl sl)), (ro3, .inl (cZ, 12, .inl md))] (fun (_ : Unit) => True) (fun (_ : Unit) => [(ro0, .inr (3, [.int (rn + 1), .ref ro1, .ref ro2, .ref ro3])), (ro1, .inl (cI, 12, .inl (upd st rn.toInt.toNat p1))), (ro2, .inl (cI, 12, .inl (upd sl rn.toInt.toNat p2))), (ro3, .inl (cZ, 12, .inl (upd md rn.toInt.toNat p3)))]) := by
  refine xk_bodyv (by decide) (Nat.le_of_ble_eq_true rfl) ?_
  intro p e s m below meth c A ls args Q hx hb hr hts hown hlocks hml hin hK hP hD hS hA hN hZ hl hQ
  have hl : lv_has ls 4 [(0, .ref ro0), (1, .int p1), (2, .int p2), (3, .int p3)] := hl
  refine lv_aload_n hx hb dX3_add_0 rfl (lv_at hl 0 rfl) ?_
  refine va_get (D := D) (ci := 3) (v := .int rn) (C := RX3) (T := TX3) (N := 4) hx hb hts xin3 hown hK hP 0 rfl rfl 0 (by decide) (hts _ (List.mem_cons_of_mem _ mw_1_66)) (fun _ h9 => h9) rfl dX3_add_1 ?_
  refine lv_if_lt (tgt := 56) hx hb dX3_add_4 (by decide) (fun c4 => ?_) (fun c4 => ?_)
  · have t4 : rn.toInt < 0 := xi_lt rfl (by decide) c4
    omega
  · have t4 : 0 ≤ rn.toInt := xi_nlt rfl (by decide) c4
    refine lv_aload_n hx hb dX3_add_7 rfl (lv_at hl 0 rfl) ?_
    refine va_get (D := D) (ci := 3) (v := .int rn) (C := RX3) (T := TX3) (N := 4) hx hb hts xin3 hown hK hP 0 rfl rfl 0 (by decide) (hts _ (List.mem_cons_of_mem _ mw_1_66)) (fun _ h9 => h9) rfl dX3_add_8 ?_
    refine lv_bipush (v := 12) hx hb dX3_add_11 (by decide) ?_
    refine lv_icmp_ge (tgt := 56) hx hb dX3_add_13 (by decide) (fun c13 => ?_) (fun c13 => ?_)
    · have t13 : 12 ≤ rn.toInt := xi_le (by decide) rfl c13
      omega
    · have t13 : rn.toInt < 12 := xi_nle (by decide) rfl c13
      refine lv_aload_n hx hb dX3_add_16 rfl (lv_at hl 0 rfl) ?_
      refine va_get (D := D) (ci := 3) (v := .ref ro1) (C := RX3) (T := TX3) (N := 4) hx hb hts xin3 hown hK hP 0 rfl rfl 1 (by decide) (hts _ (List.mem_cons_of_mem _ mw_1_69)) (fun _ h9 => h9) rfl dX3_add_17 ?_
      refine lv_aload_n hx hb dX3_add_20 rfl (lv_at hl 0 rfl) ?_
      refine va_get (D := D) (ci := 3) (v := .int rn) (C := RX3) (T := TX3) (N := 4) hx hb hts xin3 hown hK hP 0 rfl rfl 0 (by decide) (hts _ (List.mem_cons_of_mem _ mw_1_66)) (fun _ h9 => h9) rfl dX3_add_21 ?_
      refine lv_iload_n hx hb dX3_add_24 rfl (lv_at hl 1 rfl) ?_
      refine va_iast hx hb hK hP hD hS 1 0 rfl rfl (xi_in (by omega) (by omega)) dX3_add_25 (fun H locs hP hD hS => ?_)
      rw [show rn.toNatClampNeg = rn.toInt.toNat from xk_ix (by omega)] at hP hD
      have hP : va_P D vwCl [(ro0, .inr (3, [.int rn, .ref ro1, .ref ro2, .ref ro3])), (ro1, .inl (cI, 12, .inl (upd st rn.toInt.toNat p1))), (ro2, .inl (cI, 12, .inl sl)), (ro3, .inl (cZ, 12, .inl md))] H := hP
      have hD : va_D A [(ro0, .inr (3, [.int rn, .ref ro1, .ref ro2, .ref ro3])), (ro1, .inl (cI, 12, .inl (upd st rn.toInt.toNat p1))), (ro2, .inl (cI, 12, .inl sl)), (ro3, .inl (cZ, 12, .inl md))] := hD
      refine lv_aload_n hx hb dX3_add_26 rfl (lv_at hl 0 rfl) ?_
      refine va_get (D := D) (ci := 3) (v := .ref ro2) (C := RX3) (T := TX3) (N := 4) hx hb hts xin3 hown hK hP 0 rfl rfl 2 (by decide) (hts _ (List.mem_cons_of_mem _ mw_1_70)) (fun _ h9 => h9) rfl dX3_add_27 ?_
      refine lv_aload_n hx hb dX3_add_30 rfl (lv_at hl 0 rfl) ?_
      refine va_get (D := D) (ci := 3) (v := .int rn) (C := RX3) (T := TX3) (N := 4) hx hb hts xin3 hown hK hP 0 rfl rfl 0 (by decide) (hts _ (List.mem_cons_of_mem _ mw_1_66)) (fun _ h9 => h9) rfl dX3_add_31 ?_
      refine lv_iload_n hx hb dX3_add_34 rfl (lv_at hl 2 rfl) ?_
      refine va_iast hx hb hK hP hD hS 2 0 rfl rfl (xi_in (by omega) (by omega)) dX3_add_35 (fun H locs hP hD hS => ?_)
      rw [show rn.toNatClampNeg = rn.toInt.toNat from xk_ix (by omega)] at hP hD
      have hP : va_P D vwCl [(ro0, .inr (3, [.int rn, .ref ro1, .ref ro2, .ref ro3])), (ro1, .inl (cI, 12, .inl (upd st rn.toInt.toNat p1))), (ro2, .inl (cI, 12, .inl (upd sl rn.toInt.toNat p2))), (ro3, .inl (cZ, 12, .inl md))] H := hP
      have hD : va_D A [(ro0, .inr (3, [.int rn, .ref ro1, .ref ro2, .ref ro3])), (ro1, .inl (cI, 12, .inl (upd st rn.toInt.toNat p1))), (ro2, .inl (cI, 12, .inl (upd sl rn.toInt.toNat p2))), (ro3, .inl (cZ, 12, .inl md))] := hD
      refine lv_aload_n hx hb dX3_add_36 rfl (lv_at hl 0 rfl) ?_
      refine va_get (D := D) (ci := 3) (v := .ref ro3) (C := RX3) (T := TX3) (N := 4) hx hb hts xin3 hown hK hP 0 rfl rfl 3 (by decide) (hts _ (List.mem_cons_of_mem _ mw_1_71)) (fun _ h9 => h9) rfl dX3_add_37 ?_
      refine lv_aload_n hx hb dX3_add_40 rfl (lv_at hl 0 rfl) ?_
      refine va_get (D := D) (ci := 3) (v := .int rn) (C := RX3) (T := TX3) (N := 4) hx hb hts xin3 hown hK hP 0 rfl rfl 0 (by decide) (hts _ (List.mem_cons_of_mem _ mw_1_66)) (fun _ h9 => h9) rfl dX3_add_41 ?_
      refine lv_iload_n hx hb dX3_add_44 rfl (lv_at hl 3 rfl) ?_
      refine va_zast hx hb hK hP hD hS 3 1 rfl rfl (xi_in (by omega) (by omega)) dX3_add_45 (fun H locs hP hD hS => ?_)
      rw [show vp_nar .boolean p3 = p3 from nar01 hp3] at hP hD
      rw [show rn.toNatClampNeg = rn.toInt.toNat from xk_ix (by omega)] at hP hD
      have hP : va_P D vwCl [(ro0, .inr (3, [.int rn, .ref ro1, .ref ro2, .ref ro3])), (ro1, .inl (cI, 12, .inl (upd st rn.toInt.toNat p1))), (ro2, .inl (cI, 12, .inl (upd sl rn.toInt.toNat p2))), (ro3, .inl (cZ, 12, .inl (upd md rn.toInt.toNat p3)))] H := hP
      have hD : va_D A [(ro0, .inr (3, [.int rn, .ref ro1, .ref ro2, .ref ro3])), (ro1, .inl (cI, 12, .inl (upd st rn.toInt.toNat p1))), (ro2, .inl (cI, 12, .inl (upd sl rn.toInt.toNat p2))), (ro3, .inl (cZ, 12, .inl (upd md rn.toInt.toNat p3)))] := hD
      refine lv_aload_n hx hb dX3_add_46 rfl (lv_at hl 0 rfl) ?_
      refine lv_dup hx hb dX3_add_47 rfl ?_
      refine va_get (D := D) (ci := 3) (v := .int rn) (C := RX3) (T := TX3) (N := 4) hx hb hts xin3 hown hK hP 0 rfl rfl 0 (by decide) (hts _ (List.mem_cons_of_mem _ mw_1_66)) (fun _ h9 => h9) rfl dX3_add_48 ?_
      refine lv_iconst (v := 1) hx hb dX3_add_51 (by decide) ?_
      refine lv_iadd hx hb dX3_add_52 ?_
      refine lv_topi (fun x52 e52 => ?_)
      have t52 : x52.toInt = rn.toInt + 1 := by rw [e52]; exact xi_add rfl (by decide) (by omega) (by omega)
      refine va_put (D := D) (ci := 3) (v := .int x52) (ty := .int) (C := RX3) (T := TX3) (N := 4) hx hb hts xin3 tyX3 tyX3_ok nmX3 hown hK hP hD hS 0 rfl rfl 0 (by decide) (hts _ (List.mem_cons_of_mem _ mw_1_66)) (fun _ h9 => h9) rfl (by decide +kernel) rfl rfl (Nat.le_of_ble_eq_true rfl) dX3_add_53 (fun H locs hP hD hS => ?_)
      have hP : va_P D vwCl [(ro0, .inr (3, [.int x52, .ref ro1, .ref ro2, .ref ro3])), (ro1, .inl (cI, 12, .inl (upd st rn.toInt.toNat p1))), (ro2, .inl (cI, 12, .inl (upd sl rn.toInt.toNat p2))), (ro3, .inl (cZ, 12, .inl (upd md rn.toInt.toNat p3)))] H := hP
      have hD : va_D A [(ro0, .inr (3, [.int x52, .ref ro1, .ref ro2, .ref ro3])), (ro1, .inl (cI, 12, .inl (upd st rn.toInt.toNat p1))), (ro2, .inl (cI, 12, .inl (upd sl rn.toInt.toNat p2))), (ro3, .inl (cZ, 12, .inl (upd md rn.toInt.toNat p3)))] := hD
      exact xk_retv () hx hb hr hlocks (xk_P hP (by rw [e52])) (by trivial) hS dX3_add_56 hQ

set_option maxHeartbeats 4000000 in
set_option maxRecDepth 100000 in
theorem c_X3_remove (l : Launch) (D : va_G) (cI cZ cS : ClassId) (ro0 ro1 ro2 ro3 : Nat) (rn : Int32) (st sl md : Nat → Int32) (p1 : Int32) (hp : hasS rn p1) (hrn : rn.toInt ≤ 12) (hbm : ∀ j : Nat, j < 12 → md j = 0 ∨ md j = 1) : xMv l yX3_remove cX3_remove 3 none ({ frames := 1, cells := 0, slots := 0, locals := 21 } : Room) D (xTy cI cZ cS) [.ref ro0, .int p1] [(ro0, .inr (3, [.int rn, .ref ro1, .ref ro2, .ref ro3])), (ro1, .inl (cI, 12, .inl st)), (ro2, .inl (cI, 12, .inl sl)), (ro3, .inl (cZ, 12, .inl md))] (fun (_ : Unit) => True) (fun (_ : Unit) => [(ro0, .inr (3, [.int (rn - 1), .ref ro1, .ref ro2, .ref ro3])), (ro1, .inl (cI, 12, .inl (outU st p1.toInt.toNat 11))), (ro2, .inl (cI, 12, .inl (outU sl p1.toInt.toNat 11))), (ro3, .inl (cZ, 12, .inl (outU md p1.toInt.toNat 11)))]) := by
  refine xk_bodyv (by decide) (Nat.le_of_ble_eq_true rfl) ?_
  intro p e s m below meth c A ls args Q hx hb hr hts hown hlocks hml hin hK hP hD hS hA hN hZ hl hQ
  have hl : lv_has ls 3 [(0, .ref ro0), (1, .int p1)] := hl
  refine lv_aload_n hx hb dX3_remove_0 rfl (lv_at hl 0 rfl) ?_
  refine lv_iload_n hx hb dX3_remove_1 rfl (lv_at hl 1 rfl) ?_
  refine xk_Vi (As := [.int p1]) (rest := []) hx hb hml hown hts hK hN hZ hP hD hS hA mb_X3_has mw_2_117 mw_2_110 mw_2_111 (c_X3_has l D cI cZ cS ro0 ro1 ro2 ro3 rn p1 ) [0] 0 3 rfl rfl (by decide) rfl (fun _ => by simp only [List.map]) (by decide) (by decide) rfl hl.1 rfl (Nat.le_of_ble_eq_true rfl) dX3_remove_2 ⟨Nat.zero_le _, Nat.zero_le _⟩ (fun r2 _ H locs hw hP hD hS => ?_)
  have hP : va_P D vwCl [(ro0, .inr (3, [.int rn, .ref ro1, .ref ro2, .ref ro3])), (ro1, .inl (cI, 12, .inl st)), (ro2, .inl (cI, 12, .inl sl)), (ro3, .inl (cZ, 12, .inl md))] H := hP
  have hD : va_D A [(ro0, .inr (3, [.int rn, .ref ro1, .ref ro2, .ref ro3])), (ro1, .inl (cI, 12, .inl st)), (ro2, .inl (cI, 12, .inl sl)), (ro3, .inl (cZ, 12, .inl md))] := hD
  rcases hw with ⟨rfl, b2⟩ | ⟨rfl, b2⟩
  · have b2 : hasS rn p1 := b2
    refine lv_if_ne (tgt := 9) hx hb dX3_remove_5 (by decide) (fun _ => ?_) (fun c5 => absurd c5 (by decide))
    refine lv_iload_n hx hb dX3_remove_9 rfl (lv_at hl 1 rfl) ?_
    refine lv_istore_n (lv' := [(2, .int p1), (0, .ref ro0), (1, .int p1)]) hx hb dX3_remove_10 rfl hl (by decide) rfl (fun ls hl => ?_)
    have L11 : ∀ (n : Nat) (k : Int32) (hk : p1.toInt ≤ k.toInt ∧ k.toInt ≤ 11) (hn11 : 12 - k.toInt.toNat < n) (H : Heap) (locs : List Loc), va_P D vwCl [(ro0, .inr (3, [.int rn, .ref ro1, .ref ro2, .ref ro3])), (ro1, .inl (cI, 12, .inl (outU st p1.toInt.toNat k.toInt.toNat))), (ro2, .inl (cI, 12, .inl (outU sl p1.toInt.toNat k.toInt.toNat))), (ro3, .inl (cZ, 12, .inl (outU md p1.toInt.toNat k.toInt.toNat)))] H → va_D A [(ro0, .inr (3, [.int rn, .ref ro1, .ref ro2, .ref ro3])), (ro1, .inl (cI, 12, .inl (outU st p1.toInt.toNat k.toInt.toNat))), (ro2, .inl (cI, 12, .inl (outU sl p1.toInt.toNat k.toInt.toNat))), (ro3, .inl (cZ, 12, .inl (outU md p1.toInt.toNat k.toInt.toNat)))] → va_S A s.heap H locs → ∀ ls : Array Slot, lv_has ls 3 [(2, .int k), (0, .ref ro0), (1, .int p1)] → W p l e ({ frames := 1, cells := 0, slots := 0, locals := 21 } : Room) s m args below meth c H locs 0 0 Q (F0 m 11 ls []) := by
      intro n
      induction n with
      | zero =>
        intro k hk hn11
        exact absurd hn11 (Nat.not_lt_zero _)
      | succ n ih11 =>
        intro k hk hn11 H locs hP hD hS ls hl
        refine lv_iload_n hx hb dX3_remove_11 rfl (lv_at hl 0 rfl) ?_
        refine lv_iconst (v := 1) hx hb dX3_remove_12 (by decide) ?_
        refine lv_iadd hx hb dX3_remove_13 ?_
        refine lv_topi (fun x13 e13 => ?_)
        have t13 : x13.toInt = k.toInt + 1 := by rw [e13]; exact xi_add rfl (by decide) (by omega) (by omega)
        refine lv_bipush (v := 12) hx hb dX3_remove_14 (by decide) ?_
        refine lv_icmp_ge (tgt := 67) hx hb dX3_remove_16 (by decide) (fun c16 => ?_) (fun c16 => ?_)
        · have t16 : 12 ≤ x13.toInt := xi_le (by decide) rfl c16
          refine lv_aload_n hx hb dX3_remove_67 rfl (lv_at hl 1 rfl) ?_
          refine lv_dup hx hb dX3_remove_68 rfl ?_
          refine va_get (D := D) (ci := 3) (v := .int rn) (C := RX3) (T := TX3) (N := 4) hx hb hts xin3 hown hK hP 0 rfl rfl 0 (by decide) (hts _ (List.mem_cons_of_mem _ mw_1_66)) (fun _ h9 => h9) rfl dX3_remove_69 ?_
          refine lv_iconst (v := 1) hx hb dX3_remove_72 (by decide) ?_
          refine lv_isub hx hb dX3_remove_73 ?_
          refine lv_topi (fun x73 e73 => ?_)
          have t73 : x73.toInt = rn.toInt - 1 := by rw [e73]; exact xi_sub rfl (by decide) (by omega) (by omega)
          refine va_put (D := D) (ci := 3) (v := .int x73) (ty := .int) (C := RX3) (T := TX3) (N := 4) hx hb hts xin3 tyX3 tyX3_ok nmX3 hown hK hP hD hS 0 rfl rfl 0 (by decide) (hts _ (List.mem_cons_of_mem _ mw_1_66)) (fun _ h9 => h9) rfl (by decide +kernel) rfl rfl (Nat.le_of_ble_eq_true rfl) dX3_remove_74 (fun H locs hP hD hS => ?_)
          have hP : va_P D vwCl [(ro0, .inr (3, [.int x73, .ref ro1, .ref ro2, .ref ro3])), (ro1, .inl (cI, 12, .inl (outU st p1.toInt.toNat k.toInt.toNat))), (ro2, .inl (cI, 12, .inl (outU sl p1.toInt.toNat k.toInt.toNat))), (ro3, .inl (cZ, 12, .inl (outU md p1.toInt.toNat k.toInt.toNat)))] H := hP
          have hD : va_D A [(ro0, .inr (3, [.int x73, .ref ro1, .ref ro2, .ref ro3])), (ro1, .inl (cI, 12, .inl (outU st p1.toInt.toNat k.toInt.toNat))), (ro2, .inl (cI, 12, .inl (outU sl p1.toInt.toNat k.toInt.toNat))), (ro3, .inl (cZ, 12, .inl (outU md p1.toInt.toNat k.toInt.toNat)))] := hD
          exact xk_retv () hx hb hr hlocks (xk_P hP (by rw [e73, show k.toInt.toNat = 11 from by omega])) (by trivial) hS dX3_remove_77 hQ
        · have t16 : x13.toInt < 12 := xi_nle (by decide) rfl c16
          refine lv_aload_n hx hb dX3_remove_19 rfl (lv_at hl 1 rfl) ?_
          refine va_get (D := D) (ci := 3) (v := .ref ro1) (C := RX3) (T := TX3) (N := 4) hx hb hts xin3 hown hK hP 0 rfl rfl 1 (by decide) (hts _ (List.mem_cons_of_mem _ mw_1_69)) (fun _ h9 => h9) rfl dX3_remove_20 ?_
          refine lv_iload_n hx hb dX3_remove_23 rfl (lv_at hl 0 rfl) ?_
          refine lv_aload_n hx hb dX3_remove_24 rfl (lv_at hl 1 rfl) ?_
          refine va_get (D := D) (ci := 3) (v := .ref ro1) (C := RX3) (T := TX3) (N := 4) hx hb hts xin3 hown hK hP 0 rfl rfl 1 (by decide) (hts _ (List.mem_cons_of_mem _ mw_1_69)) (fun _ h9 => h9) rfl dX3_remove_25 ?_
          refine lv_iload_n hx hb dX3_remove_28 rfl (lv_at hl 0 rfl) ?_
          refine lv_iconst (v := 1) hx hb dX3_remove_29 (by decide) ?_
          refine lv_iadd hx hb dX3_remove_30 ?_
          refine lv_topi (fun x30 e30 => ?_)
          have t30 : x30.toInt = k.toInt + 1 := by rw [e30]; exact xi_add rfl (by decide) (by omega) (by omega)
          refine va_iald hx hb hK hP 1 0 rfl rfl (xi_in (by omega) (by omega)) dX3_remove_31 ?_
          refine xk_top (z := (outU st p1.toInt.toNat k.toInt.toNat) (k.toInt.toNat + 1)) (xk_rd (by omega)) ?_
          refine lv_topi (fun x31 e31 => ?_)
          refine va_iast hx hb hK hP hD hS 1 0 rfl rfl (xi_in (by omega) (by omega)) dX3_remove_32 (fun H locs hP hD hS => ?_)
          rw [show k.toNatClampNeg = k.toInt.toNat from xk_ix (by omega)] at hP hD
          have hP : va_P D vwCl [(ro0, .inr (3, [.int rn, .ref ro1, .ref ro2, .ref ro3])), (ro1, .inl (cI, 12, .inl (upd (outU st p1.toInt.toNat k.toInt.toNat) k.toInt.toNat x31))), (ro2, .inl (cI, 12, .inl (outU sl p1.toInt.toNat k.toInt.toNat))), (ro3, .inl (cZ, 12, .inl (outU md p1.toInt.toNat k.toInt.toNat)))] H := hP
          have hD : va_D A [(ro0, .inr (3, [.int rn, .ref ro1, .ref ro2, .ref ro3])), (ro1, .inl (cI, 12, .inl (upd (outU st p1.toInt.toNat k.toInt.toNat) k.toInt.toNat x31))), (ro2, .inl (cI, 12, .inl (outU sl p1.toInt.toNat k.toInt.toNat))), (ro3, .inl (cZ, 12, .inl (outU md p1.toInt.toNat k.toInt.toNat)))] := hD
          refine lv_aload_n hx hb dX3_remove_33 rfl (lv_at hl 1 rfl) ?_
          refine va_get (D := D) (ci := 3) (v := .ref ro2) (C := RX3) (T := TX3) (N := 4) hx hb hts xin3 hown hK hP 0 rfl rfl 2 (by decide) (hts _ (List.mem_cons_of_mem _ mw_1_70)) (fun _ h9 => h9) rfl dX3_remove_34 ?_
          refine lv_iload_n hx hb dX3_remove_37 rfl (lv_at hl 0 rfl) ?_
          refine lv_aload_n hx hb dX3_remove_38 rfl (lv_at hl 1 rfl) ?_
          refine va_get (D := D) (ci := 3) (v := .ref ro2) (C := RX3) (T := TX3) (N := 4) hx hb hts xin3 hown hK hP 0 rfl rfl 2 (by decide) (hts _ (List.mem_cons_of_mem _ mw_1_70)) (fun _ h9 => h9) rfl dX3_remove_39 ?_
          refine lv_iload_n hx hb dX3_remove_42 rfl (lv_at hl 0 rfl) ?_
          refine lv_iconst (v := 1) hx hb dX3_remove_43 (by decide) ?_
          refine lv_iadd hx hb dX3_remove_44 ?_
          refine lv_topi (fun x44 e44 => ?_)
          have t44 : x44.toInt = k.toInt + 1 := by rw [e44]; exact xi_add rfl (by decide) (by omega) (by omega)
          refine va_iald hx hb hK hP 2 0 rfl rfl (xi_in (by omega) (by omega)) dX3_remove_45 ?_
          refine xk_top (z := (outU sl p1.toInt.toNat k.toInt.toNat) (k.toInt.toNat + 1)) (xk_rd (by omega)) ?_
          refine lv_topi (fun x45 e45 => ?_)
          refine va_iast hx hb hK hP hD hS 2 0 rfl rfl (xi_in (by omega) (by omega)) dX3_remove_46 (fun H locs hP hD hS => ?_)
          rw [show k.toNatClampNeg = k.toInt.toNat from xk_ix (by omega)] at hP hD
          have hP : va_P D vwCl [(ro0, .inr (3, [.int rn, .ref ro1, .ref ro2, .ref ro3])), (ro1, .inl (cI, 12, .inl (upd (outU st p1.toInt.toNat k.toInt.toNat) k.toInt.toNat x31))), (ro2, .inl (cI, 12, .inl (upd (outU sl p1.toInt.toNat k.toInt.toNat) k.toInt.toNat x45))), (ro3, .inl (cZ, 12, .inl (outU md p1.toInt.toNat k.toInt.toNat)))] H := hP
          have hD : va_D A [(ro0, .inr (3, [.int rn, .ref ro1, .ref ro2, .ref ro3])), (ro1, .inl (cI, 12, .inl (upd (outU st p1.toInt.toNat k.toInt.toNat) k.toInt.toNat x31))), (ro2, .inl (cI, 12, .inl (upd (outU sl p1.toInt.toNat k.toInt.toNat) k.toInt.toNat x45))), (ro3, .inl (cZ, 12, .inl (outU md p1.toInt.toNat k.toInt.toNat)))] := hD
          refine lv_aload_n hx hb dX3_remove_47 rfl (lv_at hl 1 rfl) ?_
          refine va_get (D := D) (ci := 3) (v := .ref ro3) (C := RX3) (T := TX3) (N := 4) hx hb hts xin3 hown hK hP 0 rfl rfl 3 (by decide) (hts _ (List.mem_cons_of_mem _ mw_1_71)) (fun _ h9 => h9) rfl dX3_remove_48 ?_
          refine lv_iload_n hx hb dX3_remove_51 rfl (lv_at hl 0 rfl) ?_
          refine lv_aload_n hx hb dX3_remove_52 rfl (lv_at hl 1 rfl) ?_
          refine va_get (D := D) (ci := 3) (v := .ref ro3) (C := RX3) (T := TX3) (N := 4) hx hb hts xin3 hown hK hP 0 rfl rfl 3 (by decide) (hts _ (List.mem_cons_of_mem _ mw_1_71)) (fun _ h9 => h9) rfl dX3_remove_53 ?_
          refine lv_iload_n hx hb dX3_remove_56 rfl (lv_at hl 0 rfl) ?_
          refine lv_iconst (v := 1) hx hb dX3_remove_57 (by decide) ?_
          refine lv_iadd hx hb dX3_remove_58 ?_
          refine lv_topi (fun x58 e58 => ?_)
          have t58 : x58.toInt = k.toInt + 1 := by rw [e58]; exact xi_add rfl (by decide) (by omega) (by omega)
          refine va_zald hx hb hK hP 3 1 rfl rfl (xi_in (by omega) (by omega)) dX3_remove_59 ?_
          refine xk_top (z := (outU md p1.toInt.toNat k.toInt.toNat) (k.toInt.toNat + 1)) (xk_rd (by omega)) ?_
          refine lv_topi (fun x59 e59 => ?_)
          refine va_zast hx hb hK hP hD hS 3 1 rfl rfl (xi_in (by omega) (by omega)) dX3_remove_60 (fun H locs hP hD hS => ?_)
          rw [show vp_nar .boolean x59 = x59 from nar01 (by rw [e59]; unfold outU; split <;> exact hbm _ (by omega))] at hP hD
          rw [show k.toNatClampNeg = k.toInt.toNat from xk_ix (by omega)] at hP hD
          have hP : va_P D vwCl [(ro0, .inr (3, [.int rn, .ref ro1, .ref ro2, .ref ro3])), (ro1, .inl (cI, 12, .inl (upd (outU st p1.toInt.toNat k.toInt.toNat) k.toInt.toNat x31))), (ro2, .inl (cI, 12, .inl (upd (outU sl p1.toInt.toNat k.toInt.toNat) k.toInt.toNat x45))), (ro3, .inl (cZ, 12, .inl (upd (outU md p1.toInt.toNat k.toInt.toNat) k.toInt.toNat x59)))] H := hP
          have hD : va_D A [(ro0, .inr (3, [.int rn, .ref ro1, .ref ro2, .ref ro3])), (ro1, .inl (cI, 12, .inl (upd (outU st p1.toInt.toNat k.toInt.toNat) k.toInt.toNat x31))), (ro2, .inl (cI, 12, .inl (upd (outU sl p1.toInt.toNat k.toInt.toNat) k.toInt.toNat x45))), (ro3, .inl (cZ, 12, .inl (upd (outU md p1.toInt.toNat k.toInt.toNat) k.toInt.toNat x59)))] := hD
          obtain ⟨x61, e61⟩ : ∃ y : Int32, y = k + 1 := ⟨_, rfl⟩
          have t61 : x61.toInt = k.toInt + 1 := by rw [e61]; exact xi_add rfl (by decide) (by omega) (by omega)
          refine lv_iinc (v := x61) (lv' := [(2, .int x61), (0, .ref ro0), (1, .int p1)]) hx hb dX3_remove_61 hl (k := 0) rfl (by rw [e61]; rfl) (by decide) rfl (fun ls hl => ?_)
          refine lv_goto (tgt := 11) hx hb dX3_remove_64 (by decide) ?_
          have q11 : ([(ro0, .inr (3, [.int rn, .ref ro1, .ref ro2, .ref ro3])), (ro1, .inl (cI, 12, .inl (upd (outU st p1.toInt.toNat k.toInt.toNat) k.toInt.toNat x31))), (ro2, .inl (cI, 12, .inl (upd (outU sl p1.toInt.toNat k.toInt.toNat) k.toInt.toNat x45))), (ro3, .inl (cZ, 12, .inl (upd (outU md p1.toInt.toNat k.toInt.toNat) k.toInt.toNat x59)))] : va_W) = [(ro0, .inr (3, [.int rn, .ref ro1, .ref ro2, .ref ro3])), (ro1, .inl (cI, 12, .inl (outU st p1.toInt.toNat x61.toInt.toNat))), (ro2, .inl (cI, 12, .inl (outU sl p1.toInt.toNat x61.toInt.toNat))), (ro3, .inl (cZ, 12, .inl (outU md p1.toInt.toNat x61.toInt.toNat)))] := by rw [e31, e45, e59, outU_s _ _ _ (by omega), outU_s _ _ _ (by omega), outU_s _ _ _ (by omega), show x61.toInt.toNat = k.toInt.toNat + 1 from by omega]
          exact ih11  x61 (by first | omega | assumption) (by omega) _ _ (xk_P hP q11) (xk_D hD q11) hS ls (lv_sub hl [0, 1, 2] rfl)
    have q11 : ([(ro0, .inr (3, [.int rn, .ref ro1, .ref ro2, .ref ro3])), (ro1, .inl (cI, 12, .inl st)), (ro2, .inl (cI, 12, .inl sl)), (ro3, .inl (cZ, 12, .inl md))] : va_W) = [(ro0, .inr (3, [.int rn, .ref ro1, .ref ro2, .ref ro3])), (ro1, .inl (cI, 12, .inl (outU st p1.toInt.toNat p1.toInt.toNat))), (ro2, .inl (cI, 12, .inl (outU sl p1.toInt.toNat p1.toInt.toNat))), (ro3, .inl (cZ, 12, .inl (outU md p1.toInt.toNat p1.toInt.toNat)))] := by rw [outU_0, outU_0, outU_0]
    exact L11 13 p1 (by omega) (by omega) _ _ (xk_P hP q11) (xk_D hD q11) hS ls (lv_sub hl [0, 1, 2] rfl)
  · have b2 : ¬ (hasS rn p1) := b2
    exact absurd hp b2

set_option maxHeartbeats 4000000 in
set_option maxRecDepth 100000 in
theorem c_X3_copyFrom (l : Launch) (D : va_G) (cI cZ cS : ClassId) (ro0 ro1 ro2 ro3 : Nat) (rn : Int32) (st sl md : Nat → Int32) (a0 a1 a2 a3 : Nat) (an : Int32) (at1 al am : Nat → Int32) (hbm : ∀ j : Nat, j < 12 → am j = 0 ∨ am j = 1) : xMv l yX3_copyFrom cX3_copyFrom 3 none ({ frames := 0, cells := 0, slots := 0, locals := 0 } : Room) D (xTy cI cZ cS) [.ref ro0, .ref a0] [(ro0, .inr (3, [.int rn, .ref ro1, .ref ro2, .ref ro3])), (ro1, .inl (cI, 12, .inl st)), (ro2, .inl (cI, 12, .inl sl)), (ro3, .inl (cZ, 12, .inl md)), (a0, .inr (3, [.int an, .ref a1, .ref a2, .ref a3])), (a1, .inl (cI, 12, .inl at1)), (a2, .inl (cI, 12, .inl al)), (a3, .inl (cZ, 12, .inl am))] (fun (_ : Unit) => True) (fun (_ : Unit) => [(ro0, .inr (3, [.int an, .ref ro1, .ref ro2, .ref ro3])), (ro1, .inl (cI, 12, .inl at1)), (ro2, .inl (cI, 12, .inl al)), (ro3, .inl (cZ, 12, .inl am)), (a0, .inr (3, [.int an, .ref a1, .ref a2, .ref a3])), (a1, .inl (cI, 12, .inl at1)), (a2, .inl (cI, 12, .inl al)), (a3, .inl (cZ, 12, .inl am))]) := by
  refine xk_bodyv (by decide) (Nat.le_of_ble_eq_true rfl) ?_
  intro p e s m below meth c A ls args Q hx hb hr hts hown hlocks hml hin hK hP hD hS hA hN hZ hl hQ
  have hl : lv_has ls 3 [(0, .ref ro0), (1, .ref a0)] := hl
  refine lv_aload_n hx hb dX3_copyFrom_0 rfl (lv_at hl 0 rfl) ?_
  refine lv_aload_n hx hb dX3_copyFrom_1 rfl (lv_at hl 1 rfl) ?_
  refine va_get (D := D) (ci := 3) (v := .int an) (C := RX3) (T := TX3) (N := 4) hx hb hts xin3 hown hK hP 4 rfl rfl 0 (by decide) (hts _ (List.mem_cons_of_mem _ mw_1_66)) (fun _ h9 => h9) rfl dX3_copyFrom_2 ?_
  refine va_put (D := D) (ci := 3) (v := .int an) (ty := .int) (C := RX3) (T := TX3) (N := 4) hx hb hts xin3 tyX3 tyX3_ok nmX3 hown hK hP hD hS 0 rfl rfl 0 (by decide) (hts _ (List.mem_cons_of_mem _ mw_1_66)) (fun _ h9 => h9) rfl (by decide +kernel) rfl rfl (Nat.le_of_ble_eq_true rfl) dX3_copyFrom_5 (fun H locs hP hD hS => ?_)
  have hP : va_P D vwCl [(ro0, .inr (3, [.int an, .ref ro1, .ref ro2, .ref ro3])), (ro1, .inl (cI, 12, .inl st)), (ro2, .inl (cI, 12, .inl sl)), (ro3, .inl (cZ, 12, .inl md)), (a0, .inr (3, [.int an, .ref a1, .ref a2, .ref a3])), (a1, .inl (cI, 12, .inl at1)), (a2, .inl (cI, 12, .inl al)), (a3, .inl (cZ, 12, .inl am))] H := hP
  have hD : va_D A [(ro0, .inr (3, [.int an, .ref ro1, .ref ro2, .ref ro3])), (ro1, .inl (cI, 12, .inl st)), (ro2, .inl (cI, 12, .inl sl)), (ro3, .inl (cZ, 12, .inl md)), (a0, .inr (3, [.int an, .ref a1, .ref a2, .ref a3])), (a1, .inl (cI, 12, .inl at1)), (a2, .inl (cI, 12, .inl al)), (a3, .inl (cZ, 12, .inl am))] := hD
  refine lv_iconst (v := 0) hx hb dX3_copyFrom_8 (by decide) ?_
  refine lv_istore_n (lv' := [(2, .int 0), (0, .ref ro0), (1, .ref a0)]) hx hb dX3_copyFrom_9 rfl hl (by decide) rfl (fun ls hl => ?_)
  have L10 : ∀ (n : Nat) (k : Int32) (hk : 0 ≤ k.toInt ∧ k.toInt ≤ 12) (hn10 : 12 - k.toInt.toNat < n) (H : Heap) (locs : List Loc), va_P D vwCl [(ro0, .inr (3, [.int an, .ref ro1, .ref ro2, .ref ro3])), (ro1, .inl (cI, 12, .inl (cpU at1 st k.toInt.toNat))), (ro2, .inl (cI, 12, .inl (cpU al sl k.toInt.toNat))), (ro3, .inl (cZ, 12, .inl (cpU am md k.toInt.toNat))), (a0, .inr (3, [.int an, .ref a1, .ref a2, .ref a3])), (a1, .inl (cI, 12, .inl at1)), (a2, .inl (cI, 12, .inl al)), (a3, .inl (cZ, 12, .inl am))] H → va_D A [(ro0, .inr (3, [.int an, .ref ro1, .ref ro2, .ref ro3])), (ro1, .inl (cI, 12, .inl (cpU at1 st k.toInt.toNat))), (ro2, .inl (cI, 12, .inl (cpU al sl k.toInt.toNat))), (ro3, .inl (cZ, 12, .inl (cpU am md k.toInt.toNat))), (a0, .inr (3, [.int an, .ref a1, .ref a2, .ref a3])), (a1, .inl (cI, 12, .inl at1)), (a2, .inl (cI, 12, .inl al)), (a3, .inl (cZ, 12, .inl am))] → va_S A s.heap H locs → ∀ ls : Array Slot, lv_has ls 3 [(2, .int k), (0, .ref ro0), (1, .ref a0)] → W p l e ({ frames := 0, cells := 0, slots := 0, locals := 0 } : Room) s m args below meth c H locs 0 0 Q (F0 m 10 ls []) := by
    intro n
    induction n with
    | zero =>
      intro k hk hn10
      exact absurd hn10 (Nat.not_lt_zero _)
    | succ n ih10 =>
      intro k hk hn10 H locs hP hD hS ls hl
      refine lv_iload_n hx hb dX3_copyFrom_10 rfl (lv_at hl 0 rfl) ?_
      refine lv_bipush (v := 12) hx hb dX3_copyFrom_11 (by decide) ?_
      refine lv_icmp_ge (tgt := 58) hx hb dX3_copyFrom_13 (by decide) (fun c13 => ?_) (fun c13 => ?_)
      · have t13 : 12 ≤ k.toInt := xi_le (by decide) rfl c13
        have hP := xk_arr hP 1 at1 rfl (fun j hj => cpU_e (by omega))
        have hD := xk_arrD (e' := .inl (cI, 12, .inl at1)) hD (k := 1) rfl
        have hP : va_P D vwCl [(ro0, .inr (3, [.int an, .ref ro1, .ref ro2, .ref ro3])), (ro1, .inl (cI, 12, .inl at1)), (ro2, .inl (cI, 12, .inl (cpU al sl k.toInt.toNat))), (ro3, .inl (cZ, 12, .inl (cpU am md k.toInt.toNat))), (a0, .inr (3, [.int an, .ref a1, .ref a2, .ref a3])), (a1, .inl (cI, 12, .inl at1)), (a2, .inl (cI, 12, .inl al)), (a3, .inl (cZ, 12, .inl am))] H := hP
        have hD : va_D A [(ro0, .inr (3, [.int an, .ref ro1, .ref ro2, .ref ro3])), (ro1, .inl (cI, 12, .inl at1)), (ro2, .inl (cI, 12, .inl (cpU al sl k.toInt.toNat))), (ro3, .inl (cZ, 12, .inl (cpU am md k.toInt.toNat))), (a0, .inr (3, [.int an, .ref a1, .ref a2, .ref a3])), (a1, .inl (cI, 12, .inl at1)), (a2, .inl (cI, 12, .inl al)), (a3, .inl (cZ, 12, .inl am))] := hD
        have hP := xk_arr hP 2 al rfl (fun j hj => cpU_e (by omega))
        have hD := xk_arrD (e' := .inl (cI, 12, .inl al)) hD (k := 2) rfl
        have hP : va_P D vwCl [(ro0, .inr (3, [.int an, .ref ro1, .ref ro2, .ref ro3])), (ro1, .inl (cI, 12, .inl at1)), (ro2, .inl (cI, 12, .inl al)), (ro3, .inl (cZ, 12, .inl (cpU am md k.toInt.toNat))), (a0, .inr (3, [.int an, .ref a1, .ref a2, .ref a3])), (a1, .inl (cI, 12, .inl at1)), (a2, .inl (cI, 12, .inl al)), (a3, .inl (cZ, 12, .inl am))] H := hP
        have hD : va_D A [(ro0, .inr (3, [.int an, .ref ro1, .ref ro2, .ref ro3])), (ro1, .inl (cI, 12, .inl at1)), (ro2, .inl (cI, 12, .inl al)), (ro3, .inl (cZ, 12, .inl (cpU am md k.toInt.toNat))), (a0, .inr (3, [.int an, .ref a1, .ref a2, .ref a3])), (a1, .inl (cI, 12, .inl at1)), (a2, .inl (cI, 12, .inl al)), (a3, .inl (cZ, 12, .inl am))] := hD
        have hP := xk_arr hP 3 am rfl (fun j hj => cpU_e (by omega))
        have hD := xk_arrD (e' := .inl (cZ, 12, .inl am)) hD (k := 3) rfl
        have hP : va_P D vwCl [(ro0, .inr (3, [.int an, .ref ro1, .ref ro2, .ref ro3])), (ro1, .inl (cI, 12, .inl at1)), (ro2, .inl (cI, 12, .inl al)), (ro3, .inl (cZ, 12, .inl am)), (a0, .inr (3, [.int an, .ref a1, .ref a2, .ref a3])), (a1, .inl (cI, 12, .inl at1)), (a2, .inl (cI, 12, .inl al)), (a3, .inl (cZ, 12, .inl am))] H := hP
        have hD : va_D A [(ro0, .inr (3, [.int an, .ref ro1, .ref ro2, .ref ro3])), (ro1, .inl (cI, 12, .inl at1)), (ro2, .inl (cI, 12, .inl al)), (ro3, .inl (cZ, 12, .inl am)), (a0, .inr (3, [.int an, .ref a1, .ref a2, .ref a3])), (a1, .inl (cI, 12, .inl at1)), (a2, .inl (cI, 12, .inl al)), (a3, .inl (cZ, 12, .inl am))] := hD
        exact xk_retv () hx hb hr hlocks (xk_P hP (by rfl)) (by trivial) hS dX3_copyFrom_58 hQ
      · have t13 : k.toInt < 12 := xi_nle (by decide) rfl c13
        refine lv_aload_n hx hb dX3_copyFrom_16 rfl (lv_at hl 1 rfl) ?_
        refine va_get (D := D) (ci := 3) (v := .ref ro1) (C := RX3) (T := TX3) (N := 4) hx hb hts xin3 hown hK hP 0 rfl rfl 1 (by decide) (hts _ (List.mem_cons_of_mem _ mw_1_69)) (fun _ h9 => h9) rfl dX3_copyFrom_17 ?_
        refine lv_iload_n hx hb dX3_copyFrom_20 rfl (lv_at hl 0 rfl) ?_
        refine lv_aload_n hx hb dX3_copyFrom_21 rfl (lv_at hl 2 rfl) ?_
        refine va_get (D := D) (ci := 3) (v := .ref a1) (C := RX3) (T := TX3) (N := 4) hx hb hts xin3 hown hK hP 4 rfl rfl 1 (by decide) (hts _ (List.mem_cons_of_mem _ mw_1_69)) (fun _ h9 => h9) rfl dX3_copyFrom_22 ?_
        refine lv_iload_n hx hb dX3_copyFrom_25 rfl (lv_at hl 0 rfl) ?_
        refine va_iald hx hb hK hP 5 0 rfl rfl (xi_in (by omega) (by omega)) dX3_copyFrom_26 ?_
        refine xk_top (z := at1 k.toInt.toNat) (xk_rd (by omega)) ?_
        refine lv_topi (fun x26 e26 => ?_)
        refine va_iast hx hb hK hP hD hS 1 0 rfl rfl (xi_in (by omega) (by omega)) dX3_copyFrom_27 (fun H locs hP hD hS => ?_)
        rw [show k.toNatClampNeg = k.toInt.toNat from xk_ix (by omega)] at hP hD
        have hP : va_P D vwCl [(ro0, .inr (3, [.int an, .ref ro1, .ref ro2, .ref ro3])), (ro1, .inl (cI, 12, .inl (upd (cpU at1 st k.toInt.toNat) k.toInt.toNat x26))), (ro2, .inl (cI, 12, .inl (cpU al sl k.toInt.toNat))), (ro3, .inl (cZ, 12, .inl (cpU am md k.toInt.toNat))), (a0, .inr (3, [.int an, .ref a1, .ref a2, .ref a3])), (a1, .inl (cI, 12, .inl at1)), (a2, .inl (cI, 12, .inl al)), (a3, .inl (cZ, 12, .inl am))] H := hP
        have hD : va_D A [(ro0, .inr (3, [.int an, .ref ro1, .ref ro2, .ref ro3])), (ro1, .inl (cI, 12, .inl (upd (cpU at1 st k.toInt.toNat) k.toInt.toNat x26))), (ro2, .inl (cI, 12, .inl (cpU al sl k.toInt.toNat))), (ro3, .inl (cZ, 12, .inl (cpU am md k.toInt.toNat))), (a0, .inr (3, [.int an, .ref a1, .ref a2, .ref a3])), (a1, .inl (cI, 12, .inl at1)), (a2, .inl (cI, 12, .inl al)), (a3, .inl (cZ, 12, .inl am))] := hD
        refine lv_aload_n hx hb dX3_copyFrom_28 rfl (lv_at hl 1 rfl) ?_
        refine va_get (D := D) (ci := 3) (v := .ref ro2) (C := RX3) (T := TX3) (N := 4) hx hb hts xin3 hown hK hP 0 rfl rfl 2 (by decide) (hts _ (List.mem_cons_of_mem _ mw_1_70)) (fun _ h9 => h9) rfl dX3_copyFrom_29 ?_
        refine lv_iload_n hx hb dX3_copyFrom_32 rfl (lv_at hl 0 rfl) ?_
        refine lv_aload_n hx hb dX3_copyFrom_33 rfl (lv_at hl 2 rfl) ?_
        refine va_get (D := D) (ci := 3) (v := .ref a2) (C := RX3) (T := TX3) (N := 4) hx hb hts xin3 hown hK hP 4 rfl rfl 2 (by decide) (hts _ (List.mem_cons_of_mem _ mw_1_70)) (fun _ h9 => h9) rfl dX3_copyFrom_34 ?_
        refine lv_iload_n hx hb dX3_copyFrom_37 rfl (lv_at hl 0 rfl) ?_
        refine va_iald hx hb hK hP 6 0 rfl rfl (xi_in (by omega) (by omega)) dX3_copyFrom_38 ?_
        refine xk_top (z := al k.toInt.toNat) (xk_rd (by omega)) ?_
        refine lv_topi (fun x38 e38 => ?_)
        refine va_iast hx hb hK hP hD hS 2 0 rfl rfl (xi_in (by omega) (by omega)) dX3_copyFrom_39 (fun H locs hP hD hS => ?_)
        rw [show k.toNatClampNeg = k.toInt.toNat from xk_ix (by omega)] at hP hD
        have hP : va_P D vwCl [(ro0, .inr (3, [.int an, .ref ro1, .ref ro2, .ref ro3])), (ro1, .inl (cI, 12, .inl (upd (cpU at1 st k.toInt.toNat) k.toInt.toNat x26))), (ro2, .inl (cI, 12, .inl (upd (cpU al sl k.toInt.toNat) k.toInt.toNat x38))), (ro3, .inl (cZ, 12, .inl (cpU am md k.toInt.toNat))), (a0, .inr (3, [.int an, .ref a1, .ref a2, .ref a3])), (a1, .inl (cI, 12, .inl at1)), (a2, .inl (cI, 12, .inl al)), (a3, .inl (cZ, 12, .inl am))] H := hP
        have hD : va_D A [(ro0, .inr (3, [.int an, .ref ro1, .ref ro2, .ref ro3])), (ro1, .inl (cI, 12, .inl (upd (cpU at1 st k.toInt.toNat) k.toInt.toNat x26))), (ro2, .inl (cI, 12, .inl (upd (cpU al sl k.toInt.toNat) k.toInt.toNat x38))), (ro3, .inl (cZ, 12, .inl (cpU am md k.toInt.toNat))), (a0, .inr (3, [.int an, .ref a1, .ref a2, .ref a3])), (a1, .inl (cI, 12, .inl at1)), (a2, .inl (cI, 12, .inl al)), (a3, .inl (cZ, 12, .inl am))] := hD
        refine lv_aload_n hx hb dX3_copyFrom_40 rfl (lv_at hl 1 rfl) ?_
        refine va_get (D := D) (ci := 3) (v := .ref ro3) (C := RX3) (T := TX3) (N := 4) hx hb hts xin3 hown hK hP 0 rfl rfl 3 (by decide) (hts _ (List.mem_cons_of_mem _ mw_1_71)) (fun _ h9 => h9) rfl dX3_copyFrom_41 ?_
        refine lv_iload_n hx hb dX3_copyFrom_44 rfl (lv_at hl 0 rfl) ?_
        refine lv_aload_n hx hb dX3_copyFrom_45 rfl (lv_at hl 2 rfl) ?_
        refine va_get (D := D) (ci := 3) (v := .ref a3) (C := RX3) (T := TX3) (N := 4) hx hb hts xin3 hown hK hP 4 rfl rfl 3 (by decide) (hts _ (List.mem_cons_of_mem _ mw_1_71)) (fun _ h9 => h9) rfl dX3_copyFrom_46 ?_
        refine lv_iload_n hx hb dX3_copyFrom_49 rfl (lv_at hl 0 rfl) ?_
        refine va_zald hx hb hK hP 7 1 rfl rfl (xi_in (by omega) (by omega)) dX3_copyFrom_50 ?_
        refine xk_top (z := am k.toInt.toNat) (xk_rd (by omega)) ?_
        refine lv_topi (fun x50 e50 => ?_)
        refine va_zast hx hb hK hP hD hS 3 1 rfl rfl (xi_in (by omega) (by omega)) dX3_copyFrom_51 (fun H locs hP hD hS => ?_)
        rw [show vp_nar .boolean x50 = x50 from nar01 (by rw [e50]; exact hbm _ (by omega))] at hP hD
        rw [show k.toNatClampNeg = k.toInt.toNat from xk_ix (by omega)] at hP hD
        have hP : va_P D vwCl [(ro0, .inr (3, [.int an, .ref ro1, .ref ro2, .ref ro3])), (ro1, .inl (cI, 12, .inl (upd (cpU at1 st k.toInt.toNat) k.toInt.toNat x26))), (ro2, .inl (cI, 12, .inl (upd (cpU al sl k.toInt.toNat) k.toInt.toNat x38))), (ro3, .inl (cZ, 12, .inl (upd (cpU am md k.toInt.toNat) k.toInt.toNat x50))), (a0, .inr (3, [.int an, .ref a1, .ref a2, .ref a3])), (a1, .inl (cI, 12, .inl at1)), (a2, .inl (cI, 12, .inl al)), (a3, .inl (cZ, 12, .inl am))] H := hP
        have hD : va_D A [(ro0, .inr (3, [.int an, .ref ro1, .ref ro2, .ref ro3])), (ro1, .inl (cI, 12, .inl (upd (cpU at1 st k.toInt.toNat) k.toInt.toNat x26))), (ro2, .inl (cI, 12, .inl (upd (cpU al sl k.toInt.toNat) k.toInt.toNat x38))), (ro3, .inl (cZ, 12, .inl (upd (cpU am md k.toInt.toNat) k.toInt.toNat x50))), (a0, .inr (3, [.int an, .ref a1, .ref a2, .ref a3])), (a1, .inl (cI, 12, .inl at1)), (a2, .inl (cI, 12, .inl al)), (a3, .inl (cZ, 12, .inl am))] := hD
        obtain ⟨x52, e52⟩ : ∃ y : Int32, y = k + 1 := ⟨_, rfl⟩
        have t52 : x52.toInt = k.toInt + 1 := by rw [e52]; exact xi_add rfl (by decide) (by omega) (by omega)
        refine lv_iinc (v := x52) (lv' := [(2, .int x52), (0, .ref ro0), (1, .ref a0)]) hx hb dX3_copyFrom_52 hl (k := 0) rfl (by rw [e52]; rfl) (by decide) rfl (fun ls hl => ?_)
        refine lv_goto (tgt := 10) hx hb dX3_copyFrom_55 (by decide) ?_
        have q10 : ([(ro0, .inr (3, [.int an, .ref ro1, .ref ro2, .ref ro3])), (ro1, .inl (cI, 12, .inl (upd (cpU at1 st k.toInt.toNat) k.toInt.toNat x26))), (ro2, .inl (cI, 12, .inl (upd (cpU al sl k.toInt.toNat) k.toInt.toNat x38))), (ro3, .inl (cZ, 12, .inl (upd (cpU am md k.toInt.toNat) k.toInt.toNat x50))), (a0, .inr (3, [.int an, .ref a1, .ref a2, .ref a3])), (a1, .inl (cI, 12, .inl at1)), (a2, .inl (cI, 12, .inl al)), (a3, .inl (cZ, 12, .inl am))] : va_W) = [(ro0, .inr (3, [.int an, .ref ro1, .ref ro2, .ref ro3])), (ro1, .inl (cI, 12, .inl (cpU at1 st x52.toInt.toNat))), (ro2, .inl (cI, 12, .inl (cpU al sl x52.toInt.toNat))), (ro3, .inl (cZ, 12, .inl (cpU am md x52.toInt.toNat))), (a0, .inr (3, [.int an, .ref a1, .ref a2, .ref a3])), (a1, .inl (cI, 12, .inl at1)), (a2, .inl (cI, 12, .inl al)), (a3, .inl (cZ, 12, .inl am))] := by rw [e26, e38, e50, cpU_s, cpU_s, cpU_s, show x52.toInt.toNat = k.toInt.toNat + 1 from by omega]
        exact ih10  x52 (by first | omega | assumption) (by omega) _ _ (xk_P hP q10) (xk_D hD q10) hS ls (lv_sub hl [0, 1, 2] rfl)
  have q10 : ([(ro0, .inr (3, [.int an, .ref ro1, .ref ro2, .ref ro3])), (ro1, .inl (cI, 12, .inl st)), (ro2, .inl (cI, 12, .inl sl)), (ro3, .inl (cZ, 12, .inl md)), (a0, .inr (3, [.int an, .ref a1, .ref a2, .ref a3])), (a1, .inl (cI, 12, .inl at1)), (a2, .inl (cI, 12, .inl al)), (a3, .inl (cZ, 12, .inl am))] : va_W) = [(ro0, .inr (3, [.int an, .ref ro1, .ref ro2, .ref ro3])), (ro1, .inl (cI, 12, .inl (cpU at1 st 0))), (ro2, .inl (cI, 12, .inl (cpU al sl 0))), (ro3, .inl (cZ, 12, .inl (cpU am md 0))), (a0, .inr (3, [.int an, .ref a1, .ref a2, .ref a3])), (a1, .inl (cI, 12, .inl at1)), (a2, .inl (cI, 12, .inl al)), (a3, .inl (cZ, 12, .inl am))] := by rw [cpU_0, cpU_0, cpU_0]
  exact L10 13 (0 : Int32) (by decide) (by decide) _ _ (xk_P hP q10) (xk_D hD q10) hS ls (lv_sub hl [0, 1, 2] rfl)
