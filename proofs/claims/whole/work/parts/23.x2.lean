set_option maxHeartbeats 4000000 in
set_option maxRecDepth 100000 in
theorem c_X5_beatsOfLine (l : Launch) (D : va_G) (cI cZ cS : ClassId) (g0 g1 g2 g3 : Nat) (gn : Int32) (ft bt mk : Nat → Int32) (z : Nat → Int32) (p1 : Int32) (hso : RSong gn ft bt mk z) (hig : SongOK z) : xMi l yX5_beatsOfLine cX5_beatsOfLine 4 (some .int) ({ frames := 3, cells := 0, slots := 0, locals := 65 } : Room) D (xTy cI cZ cS) [.ref g0, .int p1] [(g0, .inr (5, [.int gn, .ref g1, .ref g2, .ref g3])), (g1, .inl (cI, 10, .inl ft)), (g2, .inl (cI, 120, .inl bt)), (g3, .inl (cZ, 120, .inl mk))] (fun (r : Int32) (_ : Unit) => r = if lineC z p1 then sungL z p1.toInt.toNat else 0) (fun (_ : Unit) => [(g0, .inr (5, [.int gn, .ref g1, .ref g2, .ref g3])), (g1, .inl (cI, 10, .inl ft)), (g2, .inl (cI, 120, .inl bt)), (g3, .inl (cZ, 120, .inl mk))]) := by
  refine xk_bodyi (by decide) (Nat.le_of_ble_eq_true rfl) ?_
  intro p e s m below meth c A ls args Q hx hb hr hts hown hlocks hml hin hK hP hD hS hA hN hZ hl hQ
  have hl : lv_has ls 4 [(0, .ref g0), (1, .int p1)] := hl
  refine lv_iconst (v := 0) hx hb dX5_beatsOfLine_0 (by decide) ?_
  refine lv_istore_n (lv' := [(2, .int 0), (0, .ref g0), (1, .int p1)]) hx hb dX5_beatsOfLine_1 rfl hl (by decide) rfl (fun ls hl => ?_)
  refine lv_iconst (v := 0) hx hb dX5_beatsOfLine_2 (by decide) ?_
  refine lv_istore_n (lv' := [(3, .int 0), (2, .int 0), (0, .ref g0), (1, .int p1)]) hx hb dX5_beatsOfLine_3 rfl hl (by decide) rfl (fun ls hl => ?_)
  have L4 : ∀ (n : Nat) (k : Int32) (a : Int32) (hk : 0 ≤ k.toInt ∧ k.toInt ≤ 12) (hs : a = blZ z p1 (k.toInt.toNat)) (hn4 : 12 - k.toInt.toNat < n) (H : Heap) (locs : List Loc), va_P D vwCl [(g0, .inr (5, [.int gn, .ref g1, .ref g2, .ref g3])), (g1, .inl (cI, 10, .inl ft)), (g2, .inl (cI, 120, .inl bt)), (g3, .inl (cZ, 120, .inl mk))] H → va_D A [(g0, .inr (5, [.int gn, .ref g1, .ref g2, .ref g3])), (g1, .inl (cI, 10, .inl ft)), (g2, .inl (cI, 120, .inl bt)), (g3, .inl (cZ, 120, .inl mk))] → va_S A s.heap H locs → ∀ ls : Array Slot, lv_has ls 4 [(3, .int k), (2, .int a), (0, .ref g0), (1, .int p1)] → W p l e ({ frames := 3, cells := 0, slots := 0, locals := 65 } : Room) s m args below meth c H locs 0 0 Q (F0 m 4 ls []) := by
    intro n
    induction n with
    | zero =>
      intro k a hk hs hn4
      exact absurd hn4 (Nat.not_lt_zero _)
    | succ n ih4 =>
      intro k a hk hs hn4 H locs hP hD hS ls hl
      refine lv_iload_n hx hb dX5_beatsOfLine_4 rfl (lv_at hl 0 rfl) ?_
      refine lv_bipush (v := 12) hx hb dX5_beatsOfLine_5 (by decide) ?_
      refine lv_icmp_ge (tgt := 25) hx hb dX5_beatsOfLine_7 (by decide) (fun c7 => ?_) (fun c7 => ?_)
      · have t7 : 12 ≤ k.toInt := xi_le (by decide) rfl c7
        refine lv_iload_n hx hb dX5_beatsOfLine_25 rfl (lv_at hl 1 rfl) ?_
        rw [show k.toInt.toNat = 12 from by omega] at hs
        exact xk_reti () hx hb hr hlocks (xk_P hP (by rfl)) (by rw [hs, blZ_e hig]) hS dX5_beatsOfLine_26 hQ
      · have t7 : k.toInt < 12 := xi_nle (by decide) rfl c7
        refine lv_iload_n hx hb dX5_beatsOfLine_10 rfl (lv_at hl 1 rfl) ?_
        refine lv_aload_n hx hb dX5_beatsOfLine_11 rfl (lv_at hl 2 rfl) ?_
        refine lv_iload_n hx hb dX5_beatsOfLine_12 rfl (lv_at hl 3 rfl) ?_
        refine lv_iload_n hx hb dX5_beatsOfLine_13 rfl (lv_at hl 0 rfl) ?_
        refine xk_Vi (As := [.int p1, .int k]) (rest := [.int a]) hx hb hml hown hts hK hN hZ hP hD hS hA mb_X5_beatsOf mw_2_189 mw_2_172 mw_2_173 (c_X5_beatsOf l D cI cZ cS g0 g1 g2 g3 gn ft bt p1 k ) [0, 1, 2] 0 5 rfl rfl (by decide) rfl (fun _ => by simp only [List.map]) (by decide) (by decide) rfl hl.1 rfl (Nat.le_of_ble_eq_true rfl) dX5_beatsOfLine_14 ⟨Nat.zero_le _, Nat.zero_le _⟩ (fun r14 _ H locs hw hP hD hS => ?_)
        have hP : va_P D vwCl [(g0, .inr (5, [.int gn, .ref g1, .ref g2, .ref g3])), (g1, .inl (cI, 10, .inl ft)), (g2, .inl (cI, 120, .inl bt)), (g3, .inl (cZ, 120, .inl mk))] H := hP
        have hD : va_D A [(g0, .inr (5, [.int gn, .ref g1, .ref g2, .ref g3])), (g1, .inl (cI, 10, .inl ft)), (g2, .inl (cI, 120, .inl bt)), (g3, .inl (cZ, 120, .inl mk))] := hD
        have e14 : r14 = if hasF gn ft p1 k then bt (12 * p1.toInt.toNat + k.toInt.toNat) else 0 := hw
        refine lv_iadd hx hb dX5_beatsOfLine_17 ?_
        refine lv_topi (fun x17 e17 => ?_)
        refine lv_istore_n (lv' := [(2, .int x17), (3, .int k), (0, .ref g0), (1, .int p1)]) hx hb dX5_beatsOfLine_18 rfl hl (by decide) rfl (fun ls hl => ?_)
        obtain ⟨x19, e19⟩ : ∃ y : Int32, y = k + 1 := ⟨_, rfl⟩
        have t19 : x19.toInt = k.toInt + 1 := by rw [e19]; exact xi_add rfl (by decide) (by omega) (by omega)
        refine lv_iinc (v := x19) (lv' := [(3, .int x19), (2, .int x17), (0, .ref g0), (1, .int p1)]) hx hb dX5_beatsOfLine_19 hl (k := 1) rfl (by rw [e19]; rfl) (by decide) rfl (fun ls hl => ?_)
        refine lv_goto (tgt := 4) hx hb dX5_beatsOfLine_22 (by decide) ?_
        have hkk : x19.toInt.toNat = k.toInt.toNat + 1 := by omega
        exact ih4  x19 x17 (by omega) (by rw [hkk, blZ_s z p1 k hk.1, e17, hs, e14, beatsOf_z hso hig]) (by omega) _ _ hP hD hS ls (lv_sub hl [0, 1, 2, 3] rfl)
  exact L4 13 (0 : Int32) (0 : Int32) (by decide) (by exact (blZ_0 z p1).symm) (by decide) _ _ hP hD hS ls (lv_sub hl [0, 1, 2, 3] rfl)

set_option maxHeartbeats 4000000 in
set_option maxRecDepth 100000 in
theorem c_X5_marksOfLine (l : Launch) (D : va_G) (cI cZ cS : ClassId) (g0 g1 g2 g3 : Nat) (gn : Int32) (ft bt mk : Nat → Int32) (z : Nat → Int32) (p1 : Int32) (hso : RSong gn ft bt mk z) (hig : SongOK z) : xMi l yX5_marksOfLine cX5_marksOfLine 4 (some .int) ({ frames := 3, cells := 0, slots := 0, locals := 65 } : Room) D (xTy cI cZ cS) [.ref g0, .int p1] [(g0, .inr (5, [.int gn, .ref g1, .ref g2, .ref g3])), (g1, .inl (cI, 10, .inl ft)), (g2, .inl (cI, 120, .inl bt)), (g3, .inl (cZ, 120, .inl mk))] (fun (r : Int32) (_ : Unit) => r = if lineC z p1 then marksL z p1.toInt.toNat else 0) (fun (_ : Unit) => [(g0, .inr (5, [.int gn, .ref g1, .ref g2, .ref g3])), (g1, .inl (cI, 10, .inl ft)), (g2, .inl (cI, 120, .inl bt)), (g3, .inl (cZ, 120, .inl mk))]) := by
  refine xk_bodyi (by decide) (Nat.le_of_ble_eq_true rfl) ?_
  intro p e s m below meth c A ls args Q hx hb hr hts hown hlocks hml hin hK hP hD hS hA hN hZ hl hQ
  have hl : lv_has ls 4 [(0, .ref g0), (1, .int p1)] := hl
  refine lv_iconst (v := 0) hx hb dX5_marksOfLine_0 (by decide) ?_
  refine lv_istore_n (lv' := [(2, .int 0), (0, .ref g0), (1, .int p1)]) hx hb dX5_marksOfLine_1 rfl hl (by decide) rfl (fun ls hl => ?_)
  refine lv_iconst (v := 0) hx hb dX5_marksOfLine_2 (by decide) ?_
  refine lv_istore_n (lv' := [(3, .int 0), (2, .int 0), (0, .ref g0), (1, .int p1)]) hx hb dX5_marksOfLine_3 rfl hl (by decide) rfl (fun ls hl => ?_)
  have L4 : ∀ (n : Nat) (k : Int32) (a : Int32) (hk : 0 ≤ k.toInt ∧ k.toInt ≤ 12) (hs : a = mlZ z p1 (k.toInt.toNat)) (hn4 : 12 - k.toInt.toNat < n) (H : Heap) (locs : List Loc), va_P D vwCl [(g0, .inr (5, [.int gn, .ref g1, .ref g2, .ref g3])), (g1, .inl (cI, 10, .inl ft)), (g2, .inl (cI, 120, .inl bt)), (g3, .inl (cZ, 120, .inl mk))] H → va_D A [(g0, .inr (5, [.int gn, .ref g1, .ref g2, .ref g3])), (g1, .inl (cI, 10, .inl ft)), (g2, .inl (cI, 120, .inl bt)), (g3, .inl (cZ, 120, .inl mk))] → va_S A s.heap H locs → ∀ ls : Array Slot, lv_has ls 4 [(3, .int k), (2, .int a), (0, .ref g0), (1, .int p1)] → W p l e ({ frames := 3, cells := 0, slots := 0, locals := 65 } : Room) s m args below meth c H locs 0 0 Q (F0 m 4 ls []) := by
    intro n
    induction n with
    | zero =>
      intro k a hk hs hn4
      exact absurd hn4 (Nat.not_lt_zero _)
    | succ n ih4 =>
      intro k a hk hs hn4 H locs hP hD hS ls hl
      refine lv_iload_n hx hb dX5_marksOfLine_4 rfl (lv_at hl 0 rfl) ?_
      refine lv_bipush (v := 12) hx hb dX5_marksOfLine_5 (by decide) ?_
      refine lv_icmp_ge (tgt := 33) hx hb dX5_marksOfLine_7 (by decide) (fun c7 => ?_) (fun c7 => ?_)
      · have t7 : 12 ≤ k.toInt := xi_le (by decide) rfl c7
        refine lv_iload_n hx hb dX5_marksOfLine_33 rfl (lv_at hl 1 rfl) ?_
        rw [show k.toInt.toNat = 12 from by omega] at hs
        exact xk_reti () hx hb hr hlocks (xk_P hP (by rfl)) (by rw [hs, mlZ_e hig]) hS dX5_marksOfLine_34 hQ
      · have t7 : k.toInt < 12 := xi_nle (by decide) rfl c7
        refine lv_iload_n hx hb dX5_marksOfLine_10 rfl (lv_at hl 1 rfl) ?_
        refine lv_aload_n hx hb dX5_marksOfLine_11 rfl (lv_at hl 2 rfl) ?_
        refine lv_iload_n hx hb dX5_marksOfLine_12 rfl (lv_at hl 3 rfl) ?_
        refine lv_iload_n hx hb dX5_marksOfLine_13 rfl (lv_at hl 0 rfl) ?_
        refine xk_Vi (As := [.int p1, .int k]) (rest := [.int a]) hx hb hml hown hts hK hN hZ hP hD hS hA mb_X5_isMarked mw_2_194 mw_2_176 mw_2_177 (c_X5_isMarked l D cI cZ cS g0 g1 g2 g3 gn ft mk p1 k ) [0, 1, 3] 0 5 rfl rfl (by decide) rfl (fun _ => by simp only [List.map]) (by decide) (by decide) rfl hl.1 rfl (Nat.le_of_ble_eq_true rfl) dX5_marksOfLine_14 ⟨Nat.zero_le _, Nat.zero_le _⟩ (fun r14 _ H locs hw hP hD hS => ?_)
        have hP : va_P D vwCl [(g0, .inr (5, [.int gn, .ref g1, .ref g2, .ref g3])), (g1, .inl (cI, 10, .inl ft)), (g2, .inl (cI, 120, .inl bt)), (g3, .inl (cZ, 120, .inl mk))] H := hP
        have hD : va_D A [(g0, .inr (5, [.int gn, .ref g1, .ref g2, .ref g3])), (g1, .inl (cI, 10, .inl ft)), (g2, .inl (cI, 120, .inl bt)), (g3, .inl (cZ, 120, .inl mk))] := hD
        rcases hw with ⟨rfl, b14⟩ | ⟨rfl, b14⟩
        · have b14 : hasF gn ft p1 k ∧ ¬ mk (12 * p1.toInt.toNat + k.toInt.toNat) = 0 := b14
          rw [marked_z hso hig] at b14
          refine lv_if_eq (tgt := 24) hx hb dX5_marksOfLine_17 (by decide) (fun c17 => absurd c17 (by decide)) (fun _ => ?_)
          refine lv_iconst (v := 1) hx hb dX5_marksOfLine_20 (by decide) ?_
          refine lv_goto (tgt := 25) hx hb dX5_marksOfLine_21 (by decide) ?_
          refine lv_iadd hx hb dX5_marksOfLine_25 ?_
          refine lv_topi (fun x25 e25 => ?_)
          refine lv_istore_n (lv' := [(2, .int x25), (3, .int k), (0, .ref g0), (1, .int p1)]) hx hb dX5_marksOfLine_26 rfl hl (by decide) rfl (fun ls hl => ?_)
          obtain ⟨x27, e27⟩ : ∃ y : Int32, y = k + 1 := ⟨_, rfl⟩
          have t27 : x27.toInt = k.toInt + 1 := by rw [e27]; exact xi_add rfl (by decide) (by omega) (by omega)
          refine lv_iinc (v := x27) (lv' := [(3, .int x27), (2, .int x25), (0, .ref g0), (1, .int p1)]) hx hb dX5_marksOfLine_27 hl (k := 1) rfl (by rw [e27]; rfl) (by decide) rfl (fun ls hl => ?_)
          refine lv_goto (tgt := 4) hx hb dX5_marksOfLine_30 (by decide) ?_
          have hkk : x27.toInt.toNat = k.toInt.toNat + 1 := by omega
          exact ih4  x27 x25 (by omega) (by rw [hkk, mlZ_s z p1 k hk.1, if_pos b14, e25, hs]) (by omega) _ _ hP hD hS ls (lv_sub hl [0, 1, 2, 3] rfl)
        · have b14 : ¬ (hasF gn ft p1 k ∧ ¬ mk (12 * p1.toInt.toNat + k.toInt.toNat) = 0) := b14
          rw [marked_z hso hig] at b14
          refine lv_if_eq (tgt := 24) hx hb dX5_marksOfLine_17 (by decide) (fun _ => ?_) (fun c17 => absurd (by decide) c17)
          refine lv_iconst (v := 0) hx hb dX5_marksOfLine_24 (by decide) ?_
          refine lv_iadd hx hb dX5_marksOfLine_25 ?_
          refine lv_topi (fun x25 e25 => ?_)
          refine lv_istore_n (lv' := [(2, .int x25), (3, .int k), (0, .ref g0), (1, .int p1)]) hx hb dX5_marksOfLine_26 rfl hl (by decide) rfl (fun ls hl => ?_)
          obtain ⟨x27, e27⟩ : ∃ y : Int32, y = k + 1 := ⟨_, rfl⟩
          have t27 : x27.toInt = k.toInt + 1 := by rw [e27]; exact xi_add rfl (by decide) (by omega) (by omega)
          refine lv_iinc (v := x27) (lv' := [(3, .int x27), (2, .int x25), (0, .ref g0), (1, .int p1)]) hx hb dX5_marksOfLine_27 hl (k := 1) rfl (by rw [e27]; rfl) (by decide) rfl (fun ls hl => ?_)
          refine lv_goto (tgt := 4) hx hb dX5_marksOfLine_30 (by decide) ?_
          have hkk : x27.toInt.toNat = k.toInt.toNat + 1 := by omega
          exact ih4  x27 x25 (by omega) (by rw [hkk, mlZ_s z p1 k hk.1, if_neg b14, e25, hs]) (by omega) _ _ hP hD hS ls (lv_sub hl [0, 1, 2, 3] rfl)
  exact L4 13 (0 : Int32) (0 : Int32) (by decide) (by exact (mlZ_0 z p1).symm) (by decide) _ _ hP hD hS ls (lv_sub hl [0, 1, 2, 3] rfl)

set_option maxHeartbeats 4000000 in
set_option maxRecDepth 100000 in
theorem c_X5_allBeats (l : Launch) (D : va_G) (cI cZ cS : ClassId) (g0 g1 g2 g3 : Nat) (gn : Int32) (ft bt mk : Nat → Int32) (z : Nat → Int32) (hso : RSong gn ft bt mk z) (hig : SongOK z) : xMi l yX5_allBeats cX5_allBeats 3 (some .int) ({ frames := 4, cells := 0, slots := 0, locals := 88 } : Room) D (xTy cI cZ cS) [.ref g0] [(g0, .inr (5, [.int gn, .ref g1, .ref g2, .ref g3])), (g1, .inl (cI, 10, .inl ft)), (g2, .inl (cI, 120, .inl bt)), (g3, .inl (cZ, 120, .inl mk))] (fun (r : Int32) (_ : Unit) => r = sumS z (z 6).toInt.toNat) (fun (_ : Unit) => [(g0, .inr (5, [.int gn, .ref g1, .ref g2, .ref g3])), (g1, .inl (cI, 10, .inl ft)), (g2, .inl (cI, 120, .inl bt)), (g3, .inl (cZ, 120, .inl mk))]) := by
  refine xk_bodyi (by decide) (Nat.le_of_ble_eq_true rfl) ?_
  intro p e s m below meth c A ls args Q hx hb hr hts hown hlocks hml hin hK hP hD hS hA hN hZ hl hQ
  have hl : lv_has ls 3 [(0, .ref g0)] := hl
  refine lv_iconst (v := 0) hx hb dX5_allBeats_0 (by decide) ?_
  refine lv_istore_n (lv' := [(1, .int 0), (0, .ref g0)]) hx hb dX5_allBeats_1 rfl hl (by decide) rfl (fun ls hl => ?_)
  refine lv_iconst (v := 0) hx hb dX5_allBeats_2 (by decide) ?_
  refine lv_istore_n (lv' := [(2, .int 0), (1, .int 0), (0, .ref g0)]) hx hb dX5_allBeats_3 rfl hl (by decide) rfl (fun ls hl => ?_)
  have L4 : ∀ (n : Nat) (k : Int32) (a : Int32) (hk : 0 ≤ k.toInt ∧ k.toInt ≤ 10) (hs : a = sumS z (min (k.toInt.toNat) (z 6).toInt.toNat)) (hn4 : 10 - k.toInt.toNat < n) (H : Heap) (locs : List Loc), va_P D vwCl [(g0, .inr (5, [.int gn, .ref g1, .ref g2, .ref g3])), (g1, .inl (cI, 10, .inl ft)), (g2, .inl (cI, 120, .inl bt)), (g3, .inl (cZ, 120, .inl mk))] H → va_D A [(g0, .inr (5, [.int gn, .ref g1, .ref g2, .ref g3])), (g1, .inl (cI, 10, .inl ft)), (g2, .inl (cI, 120, .inl bt)), (g3, .inl (cZ, 120, .inl mk))] → va_S A s.heap H locs → ∀ ls : Array Slot, lv_has ls 3 [(2, .int k), (1, .int a), (0, .ref g0)] → W p l e ({ frames := 4, cells := 0, slots := 0, locals := 88 } : Room) s m args below meth c H locs 0 0 Q (F0 m 4 ls []) := by
    intro n
    induction n with
    | zero =>
      intro k a hk hs hn4
      exact absurd hn4 (Nat.not_lt_zero _)
    | succ n ih4 =>
      intro k a hk hs hn4 H locs hP hD hS ls hl
      refine lv_iload_n hx hb dX5_allBeats_4 rfl (lv_at hl 0 rfl) ?_
      refine lv_bipush (v := 10) hx hb dX5_allBeats_5 (by decide) ?_
      refine lv_icmp_ge (tgt := 24) hx hb dX5_allBeats_7 (by decide) (fun c7 => ?_) (fun c7 => ?_)
      · have t7 : 10 ≤ k.toInt := xi_le (by decide) rfl c7
        refine lv_iload_n hx hb dX5_allBeats_24 rfl (lv_at hl 1 rfl) ?_
        rw [show k.toInt.toNat = 10 from by omega] at hs
        exact xk_reti () hx hb hr hlocks (xk_P hP (by rfl)) (by rw [hs, show min 10 (z 6).toInt.toNat = (z 6).toInt.toNat from by have := hig.1; omega]) hS dX5_allBeats_25 hQ
      · have t7 : k.toInt < 10 := xi_nle (by decide) rfl c7
        refine lv_iload_n hx hb dX5_allBeats_10 rfl (lv_at hl 1 rfl) ?_
        refine lv_aload_n hx hb dX5_allBeats_11 rfl (lv_at hl 2 rfl) ?_
        refine lv_iload_n hx hb dX5_allBeats_12 rfl (lv_at hl 0 rfl) ?_
        refine xk_Vi (As := [.int k]) (rest := [.int a]) hx hb hml hown hts hK hN hZ hP hD hS hA mb_X5_beatsOfLine mw_2_227 mw_2_186 mw_2_187 (c_X5_beatsOfLine l D cI cZ cS g0 g1 g2 g3 gn ft bt mk z k (by assumption) (by assumption)) [0, 1, 2, 3] 0 5 rfl rfl (by decide) rfl (fun _ => by simp only [List.map]) (by decide) (by decide) rfl hl.1 rfl (Nat.le_of_ble_eq_true rfl) dX5_allBeats_13 ⟨Nat.zero_le _, Nat.zero_le _⟩ (fun r13 _ H locs hw hP hD hS => ?_)
        have hP : va_P D vwCl [(g0, .inr (5, [.int gn, .ref g1, .ref g2, .ref g3])), (g1, .inl (cI, 10, .inl ft)), (g2, .inl (cI, 120, .inl bt)), (g3, .inl (cZ, 120, .inl mk))] H := hP
        have hD : va_D A [(g0, .inr (5, [.int gn, .ref g1, .ref g2, .ref g3])), (g1, .inl (cI, 10, .inl ft)), (g2, .inl (cI, 120, .inl bt)), (g3, .inl (cZ, 120, .inl mk))] := hD
        have e13 : r13 = if lineC z k then sungL z k.toInt.toNat else 0 := hw
        refine lv_iadd hx hb dX5_allBeats_16 ?_
        refine lv_topi (fun x16 e16 => ?_)
        refine lv_istore_n (lv' := [(1, .int x16), (2, .int k), (0, .ref g0)]) hx hb dX5_allBeats_17 rfl hl (by decide) rfl (fun ls hl => ?_)
        obtain ⟨x18, e18⟩ : ∃ y : Int32, y = k + 1 := ⟨_, rfl⟩
        have t18 : x18.toInt = k.toInt + 1 := by rw [e18]; exact xi_add rfl (by decide) (by omega) (by omega)
        refine lv_iinc (v := x18) (lv' := [(2, .int x18), (1, .int x16), (0, .ref g0)]) hx hb dX5_allBeats_18 hl (k := 1) rfl (by rw [e18]; rfl) (by decide) rfl (fun ls hl => ?_)
        refine lv_goto (tgt := 4) hx hb dX5_allBeats_21 (by decide) ?_
        have hkk : x18.toInt.toNat = k.toInt.toNat + 1 := by omega
        exact ih4  x18 x16 (by omega) (by rw [hkk, sumS_m z k hk.1, e16, hs, e13]) (by omega) _ _ hP hD hS ls (lv_sub hl [0, 1, 2] rfl)
  exact L4 11 (0 : Int32) (0 : Int32) (by decide) (by rw [show (0 : Int32).toInt.toNat = 0 from by decide, Nat.zero_min]; rfl) (by decide) _ _ hP hD hS ls (lv_sub hl [0, 1, 2] rfl)

set_option maxHeartbeats 4000000 in
set_option maxRecDepth 100000 in
theorem c_X5_allMarks (l : Launch) (D : va_G) (cI cZ cS : ClassId) (g0 g1 g2 g3 : Nat) (gn : Int32) (ft bt mk : Nat → Int32) (z : Nat → Int32) (hso : RSong gn ft bt mk z) (hig : SongOK z) : xMi l yX5_allMarks cX5_allMarks 3 (some .int) ({ frames := 4, cells := 0, slots := 0, locals := 88 } : Room) D (xTy cI cZ cS) [.ref g0] [(g0, .inr (5, [.int gn, .ref g1, .ref g2, .ref g3])), (g1, .inl (cI, 10, .inl ft)), (g2, .inl (cI, 120, .inl bt)), (g3, .inl (cZ, 120, .inl mk))] (fun (r : Int32) (_ : Unit) => r = sumM z (z 6).toInt.toNat) (fun (_ : Unit) => [(g0, .inr (5, [.int gn, .ref g1, .ref g2, .ref g3])), (g1, .inl (cI, 10, .inl ft)), (g2, .inl (cI, 120, .inl bt)), (g3, .inl (cZ, 120, .inl mk))]) := by
  refine xk_bodyi (by decide) (Nat.le_of_ble_eq_true rfl) ?_
  intro p e s m below meth c A ls args Q hx hb hr hts hown hlocks hml hin hK hP hD hS hA hN hZ hl hQ
  have hl : lv_has ls 3 [(0, .ref g0)] := hl
  refine lv_iconst (v := 0) hx hb dX5_allMarks_0 (by decide) ?_
  refine lv_istore_n (lv' := [(1, .int 0), (0, .ref g0)]) hx hb dX5_allMarks_1 rfl hl (by decide) rfl (fun ls hl => ?_)
  refine lv_iconst (v := 0) hx hb dX5_allMarks_2 (by decide) ?_
  refine lv_istore_n (lv' := [(2, .int 0), (1, .int 0), (0, .ref g0)]) hx hb dX5_allMarks_3 rfl hl (by decide) rfl (fun ls hl => ?_)
  have L4 : ∀ (n : Nat) (k : Int32) (a : Int32) (hk : 0 ≤ k.toInt ∧ k.toInt ≤ 10) (hs : a = sumM z (min (k.toInt.toNat) (z 6).toInt.toNat)) (hn4 : 10 - k.toInt.toNat < n) (H : Heap) (locs : List Loc), va_P D vwCl [(g0, .inr (5, [.int gn, .ref g1, .ref g2, .ref g3])), (g1, .inl (cI, 10, .inl ft)), (g2, .inl (cI, 120, .inl bt)), (g3, .inl (cZ, 120, .inl mk))] H → va_D A [(g0, .inr (5, [.int gn, .ref g1, .ref g2, .ref g3])), (g1, .inl (cI, 10, .inl ft)), (g2, .inl (cI, 120, .inl bt)), (g3, .inl (cZ, 120, .inl mk))] → va_S A s.heap H locs → ∀ ls : Array Slot, lv_has ls 3 [(2, .int k), (1, .int a), (0, .ref g0)] → W p l e ({ frames := 4, cells := 0, slots := 0, locals := 88 } : Room) s m args below meth c H locs 0 0 Q (F0 m 4 ls []) := by
    intro n
    induction n with
    | zero =>
      intro k a hk hs hn4
      exact absurd hn4 (Nat.not_lt_zero _)
    | succ n ih4 =>
      intro k a hk hs hn4 H locs hP hD hS ls hl
      refine lv_iload_n hx hb dX5_allMarks_4 rfl (lv_at hl 0 rfl) ?_
      refine lv_bipush (v := 10) hx hb dX5_allMarks_5 (by decide) ?_
      refine lv_icmp_ge (tgt := 24) hx hb dX5_allMarks_7 (by decide) (fun c7 => ?_) (fun c7 => ?_)
      · have t7 : 10 ≤ k.toInt := xi_le (by decide) rfl c7
        refine lv_iload_n hx hb dX5_allMarks_24 rfl (lv_at hl 1 rfl) ?_
        rw [show k.toInt.toNat = 10 from by omega] at hs
        exact xk_reti () hx hb hr hlocks (xk_P hP (by rfl)) (by rw [hs, show min 10 (z 6).toInt.toNat = (z 6).toInt.toNat from by have := hig.1; omega]) hS dX5_allMarks_25 hQ
      · have t7 : k.toInt < 10 := xi_nle (by decide) rfl c7
        refine lv_iload_n hx hb dX5_allMarks_10 rfl (lv_at hl 1 rfl) ?_
        refine lv_aload_n hx hb dX5_allMarks_11 rfl (lv_at hl 2 rfl) ?_
        refine lv_iload_n hx hb dX5_allMarks_12 rfl (lv_at hl 0 rfl) ?_
        refine xk_Vi (As := [.int k]) (rest := [.int a]) hx hb hml hown hts hK hN hZ hP hD hS hA mb_X5_marksOfLine mw_2_232 mw_2_191 mw_2_192 (c_X5_marksOfLine l D cI cZ cS g0 g1 g2 g3 gn ft bt mk z k (by assumption) (by assumption)) [0, 1, 2, 3] 0 5 rfl rfl (by decide) rfl (fun _ => by simp only [List.map]) (by decide) (by decide) rfl hl.1 rfl (Nat.le_of_ble_eq_true rfl) dX5_allMarks_13 ⟨Nat.zero_le _, Nat.zero_le _⟩ (fun r13 _ H locs hw hP hD hS => ?_)
        have hP : va_P D vwCl [(g0, .inr (5, [.int gn, .ref g1, .ref g2, .ref g3])), (g1, .inl (cI, 10, .inl ft)), (g2, .inl (cI, 120, .inl bt)), (g3, .inl (cZ, 120, .inl mk))] H := hP
        have hD : va_D A [(g0, .inr (5, [.int gn, .ref g1, .ref g2, .ref g3])), (g1, .inl (cI, 10, .inl ft)), (g2, .inl (cI, 120, .inl bt)), (g3, .inl (cZ, 120, .inl mk))] := hD
        have e13 : r13 = if lineC z k then marksL z k.toInt.toNat else 0 := hw
        refine lv_iadd hx hb dX5_allMarks_16 ?_
        refine lv_topi (fun x16 e16 => ?_)
        refine lv_istore_n (lv' := [(1, .int x16), (2, .int k), (0, .ref g0)]) hx hb dX5_allMarks_17 rfl hl (by decide) rfl (fun ls hl => ?_)
        obtain ⟨x18, e18⟩ : ∃ y : Int32, y = k + 1 := ⟨_, rfl⟩
        have t18 : x18.toInt = k.toInt + 1 := by rw [e18]; exact xi_add rfl (by decide) (by omega) (by omega)
        refine lv_iinc (v := x18) (lv' := [(2, .int x18), (1, .int x16), (0, .ref g0)]) hx hb dX5_allMarks_18 hl (k := 1) rfl (by rw [e18]; rfl) (by decide) rfl (fun ls hl => ?_)
        refine lv_goto (tgt := 4) hx hb dX5_allMarks_21 (by decide) ?_
        have hkk : x18.toInt.toNat = k.toInt.toNat + 1 := by omega
        exact ih4  x18 x16 (by omega) (by rw [hkk, sumM_m z k hk.1, e16, hs, e13]) (by omega) _ _ hP hD hS ls (lv_sub hl [0, 1, 2] rfl)
  exact L4 11 (0 : Int32) (0 : Int32) (by decide) (by rw [show (0 : Int32).toInt.toNat = 0 from by decide, Nat.zero_min]; rfl) (by decide) _ _ hP hD hS ls (lv_sub hl [0, 1, 2] rfl)

set_option maxHeartbeats 4000000 in
set_option maxRecDepth 100000 in
theorem c_X3_allSteps (l : Launch) (D : va_G) (cI cZ cS : ClassId) (ro0 ro1 ro2 ro3 : Nat) (rn : Int32) (st sl md : Nat → Int32) (z : Nat → Int32) (hro : RRoad rn st sl md z) (hir : RoadOK z) : xMi l yX3_allSteps cX3_allSteps 3 (some .int) ({ frames := 2, cells := 0, slots := 0, locals := 42 } : Room) D (xTy cI cZ cS) [.ref ro0] [(ro0, .inr (3, [.int rn, .ref ro1, .ref ro2, .ref ro3])), (ro1, .inl (cI, 12, .inl st)), (ro2, .inl (cI, 12, .inl sl)), (ro3, .inl (cZ, 12, .inl md))] (fun (r : Int32) (_ : Unit) => r = sumR z (z 7).toInt.toNat) (fun (_ : Unit) => [(ro0, .inr (3, [.int rn, .ref ro1, .ref ro2, .ref ro3])), (ro1, .inl (cI, 12, .inl st)), (ro2, .inl (cI, 12, .inl sl)), (ro3, .inl (cZ, 12, .inl md))]) := by
  refine xk_bodyi (by decide) (Nat.le_of_ble_eq_true rfl) ?_
  intro p e s m below meth c A ls args Q hx hb hr hts hown hlocks hml hin hK hP hD hS hA hN hZ hl hQ
  have hl : lv_has ls 3 [(0, .ref ro0)] := hl
  refine lv_iconst (v := 0) hx hb dX3_allSteps_0 (by decide) ?_
  refine lv_istore_n (lv' := [(1, .int 0), (0, .ref ro0)]) hx hb dX3_allSteps_1 rfl hl (by decide) rfl (fun ls hl => ?_)
  refine lv_iconst (v := 0) hx hb dX3_allSteps_2 (by decide) ?_
  refine lv_istore_n (lv' := [(2, .int 0), (1, .int 0), (0, .ref ro0)]) hx hb dX3_allSteps_3 rfl hl (by decide) rfl (fun ls hl => ?_)
  have L4 : ∀ (n : Nat) (k : Int32) (a : Int32) (hk : 0 ≤ k.toInt ∧ k.toInt ≤ 12) (hs : a = sumR z (min (k.toInt.toNat) (z 7).toInt.toNat)) (hn4 : 12 - k.toInt.toNat < n) (H : Heap) (locs : List Loc), va_P D vwCl [(ro0, .inr (3, [.int rn, .ref ro1, .ref ro2, .ref ro3])), (ro1, .inl (cI, 12, .inl st)), (ro2, .inl (cI, 12, .inl sl)), (ro3, .inl (cZ, 12, .inl md))] H → va_D A [(ro0, .inr (3, [.int rn, .ref ro1, .ref ro2, .ref ro3])), (ro1, .inl (cI, 12, .inl st)), (ro2, .inl (cI, 12, .inl sl)), (ro3, .inl (cZ, 12, .inl md))] → va_S A s.heap H locs → ∀ ls : Array Slot, lv_has ls 3 [(2, .int k), (1, .int a), (0, .ref ro0)] → W p l e ({ frames := 2, cells := 0, slots := 0, locals := 42 } : Room) s m args below meth c H locs 0 0 Q (F0 m 4 ls []) := by
    intro n
    induction n with
    | zero =>
      intro k a hk hs hn4
      exact absurd hn4 (Nat.not_lt_zero _)
    | succ n ih4 =>
      intro k a hk hs hn4 H locs hP hD hS ls hl
      refine lv_iload_n hx hb dX3_allSteps_4 rfl (lv_at hl 0 rfl) ?_
      refine lv_bipush (v := 12) hx hb dX3_allSteps_5 (by decide) ?_
      refine lv_icmp_ge (tgt := 24) hx hb dX3_allSteps_7 (by decide) (fun c7 => ?_) (fun c7 => ?_)
      · have t7 : 12 ≤ k.toInt := xi_le (by decide) rfl c7
        refine lv_iload_n hx hb dX3_allSteps_24 rfl (lv_at hl 1 rfl) ?_
        rw [show k.toInt.toNat = 12 from by omega] at hs
        exact xk_reti () hx hb hr hlocks (xk_P hP (by rfl)) (by rw [hs, show min 12 (z 7).toInt.toNat = (z 7).toInt.toNat from by have := hir.1; omega]) hS dX3_allSteps_25 hQ
      · have t7 : k.toInt < 12 := xi_nle (by decide) rfl c7
        refine lv_iload_n hx hb dX3_allSteps_10 rfl (lv_at hl 1 rfl) ?_
        refine lv_aload_n hx hb dX3_allSteps_11 rfl (lv_at hl 2 rfl) ?_
        refine lv_iload_n hx hb dX3_allSteps_12 rfl (lv_at hl 0 rfl) ?_
        refine xk_Vi (As := [.int k]) (rest := [.int a]) hx hb hml hown hts hK hN hZ hP hD hS hA mb_X3_stepsOf mw_2_213 mw_2_114 mw_2_115 (c_X3_stepsOf l D cI cZ cS ro0 ro1 ro2 ro3 rn st k ) [0, 1] 0 3 rfl rfl (by decide) rfl (fun _ => by simp only [List.map]) (by decide) (by decide) rfl hl.1 rfl (Nat.le_of_ble_eq_true rfl) dX3_allSteps_13 ⟨Nat.zero_le _, Nat.zero_le _⟩ (fun r13 _ H locs hw hP hD hS => ?_)
        have hP : va_P D vwCl [(ro0, .inr (3, [.int rn, .ref ro1, .ref ro2, .ref ro3])), (ro1, .inl (cI, 12, .inl st)), (ro2, .inl (cI, 12, .inl sl)), (ro3, .inl (cZ, 12, .inl md))] H := hP
        have hD : va_D A [(ro0, .inr (3, [.int rn, .ref ro1, .ref ro2, .ref ro3])), (ro1, .inl (cI, 12, .inl st)), (ro2, .inl (cI, 12, .inl sl)), (ro3, .inl (cZ, 12, .inl md))] := hD
        have e13 : r13 = if hasS rn k then st k.toInt.toNat else 0 := hw
        refine lv_iadd hx hb dX3_allSteps_16 ?_
        refine lv_topi (fun x16 e16 => ?_)
        refine lv_istore_n (lv' := [(1, .int x16), (2, .int k), (0, .ref ro0)]) hx hb dX3_allSteps_17 rfl hl (by decide) rfl (fun ls hl => ?_)
        obtain ⟨x18, e18⟩ : ∃ y : Int32, y = k + 1 := ⟨_, rfl⟩
        have t18 : x18.toInt = k.toInt + 1 := by rw [e18]; exact xi_add rfl (by decide) (by omega) (by omega)
        refine lv_iinc (v := x18) (lv' := [(2, .int x18), (1, .int x16), (0, .ref ro0)]) hx hb dX3_allSteps_18 hl (k := 1) rfl (by rw [e18]; rfl) (by decide) rfl (fun ls hl => ?_)
        refine lv_goto (tgt := 4) hx hb dX3_allSteps_21 (by decide) ?_
        have hkk : x18.toInt.toNat = k.toInt.toNat + 1 := by omega
        exact ih4  x18 x16 (by omega) (by rw [hkk, sumR_m z k hk.1, e16, hs, e13, stepsOf_z hro hir]) (by omega) _ _ hP hD hS ls (lv_sub hl [0, 1, 2] rfl)
  exact L4 13 (0 : Int32) (0 : Int32) (by decide) (by rw [show (0 : Int32).toInt.toNat = 0 from by decide, Nat.zero_min]; rfl) (by decide) _ _ hP hD hS ls (lv_sub hl [0, 1, 2] rfl)

set_option maxHeartbeats 4000000 in
set_option maxRecDepth 100000 in
theorem c_X3_beatsToSing (l : Launch) (D : va_G) (cI cZ cS : ClassId) (ro0 ro1 ro2 ro3 : Nat) (rn : Int32) (st sl md : Nat → Int32) (z : Nat → Int32) (p1 p2 : Int32) (hro : RRoad rn st sl md z) (hir : RoadOK z) (hst1 : strC z p1) (hp2 : 2 ≤ p2.toInt ∧ p2.toInt ≤ 9) : xMi l yX3_beatsToSing cX3_beatsToSing 4 (some .int) ({ frames := 2, cells := 0, slots := 0, locals := 42 } : Room) D (xTy cI cZ cS) [.ref ro0, .int p1, .int p2] [(ro0, .inr (3, [.int rn, .ref ro1, .ref ro2, .ref ro3])), (ro1, .inl (cI, 12, .inl st)), (ro2, .inl (cI, 12, .inl sl)), (ro3, .inl (cZ, 12, .inl md))] (fun (r : Int32) (_ : Unit) => r.toInt = singF (ofZ z p1.toInt.toNat 0).toInt p2.toInt (ofZ z p1.toInt.toNat 2 = 1)) (fun (_ : Unit) => [(ro0, .inr (3, [.int rn, .ref ro1, .ref ro2, .ref ro3])), (ro1, .inl (cI, 12, .inl st)), (ro2, .inl (cI, 12, .inl sl)), (ro3, .inl (cZ, 12, .inl md))]) := by
  refine xk_bodyi (by decide) (Nat.le_of_ble_eq_true rfl) ?_
  intro p e s m below meth c A ls args Q hx hb hr hts hown hlocks hml hin hK hP hD hS hA hN hZ hl hQ
  have hl : lv_has ls 4 [(0, .ref ro0), (1, .int p1), (2, .int p2)] := hl
  have hq := hir.2 p1.toInt.toNat (by have := hst1.1; have := hst1.2; omega)
  refine lv_aload_n hx hb dX3_beatsToSing_0 rfl (lv_at hl 0 rfl) ?_
  refine lv_iload_n hx hb dX3_beatsToSing_1 rfl (lv_at hl 1 rfl) ?_
  refine xk_Vi (As := [.int p1]) (rest := []) hx hb hml hown hts hK hN hZ hP hD hS hA mb_X3_stepsOf mw_2_213 mw_2_114 mw_2_115 (c_X3_stepsOf l D cI cZ cS ro0 ro1 ro2 ro3 rn st p1 ) [0, 1] 0 3 rfl rfl (by decide) rfl (fun _ => by simp only [List.map]) (by decide) (by decide) rfl hl.1 rfl (Nat.le_of_ble_eq_true rfl) dX3_beatsToSing_2 ⟨Nat.zero_le _, Nat.zero_le _⟩ (fun r2 _ H locs hw hP hD hS => ?_)
  have hP : va_P D vwCl [(ro0, .inr (3, [.int rn, .ref ro1, .ref ro2, .ref ro3])), (ro1, .inl (cI, 12, .inl st)), (ro2, .inl (cI, 12, .inl sl)), (ro3, .inl (cZ, 12, .inl md))] H := hP
  have hD : va_D A [(ro0, .inr (3, [.int rn, .ref ro1, .ref ro2, .ref ro3])), (ro1, .inl (cI, 12, .inl st)), (ro2, .inl (cI, 12, .inl sl)), (ro3, .inl (cZ, 12, .inl md))] := hD
  have e2 : r2 = if hasS rn p1 then st p1.toInt.toNat else 0 := hw
  rw [stepsOf_z hro hir, if_pos hst1] at e2
  have t2 : r2.toInt = (ofZ z p1.toInt.toNat 0).toInt := by rw [e2]
  refine lv_istore_n (lv' := [(3, .int r2), (0, .ref ro0), (1, .int p1), (2, .int p2)]) hx hb dX3_beatsToSing_5 rfl hl (by decide) rfl (fun ls hl => ?_)
  refine lv_aload_n hx hb dX3_beatsToSing_6 rfl (lv_at hl 1 rfl) ?_
  refine lv_iload_n hx hb dX3_beatsToSing_7 rfl (lv_at hl 2 rfl) ?_
  refine xk_Vi (As := [.int p1]) (rest := []) hx hb hml hown hts hK hN hZ hP hD hS hA mb_X3_isMuddy mw_2_214 mw_2_163 mw_2_164 (c_X3_isMuddy l D cI cZ cS ro0 ro1 ro2 ro3 rn md p1 ) [0, 3] 0 3 rfl rfl (by decide) rfl (fun _ => by simp only [List.map]) (by decide) (by decide) rfl hl.1 rfl (Nat.le_of_ble_eq_true rfl) dX3_beatsToSing_8 ⟨Nat.zero_le _, Nat.zero_le _⟩ (fun r8 _ H locs hw hP hD hS => ?_)
  have hP : va_P D vwCl [(ro0, .inr (3, [.int rn, .ref ro1, .ref ro2, .ref ro3])), (ro1, .inl (cI, 12, .inl st)), (ro2, .inl (cI, 12, .inl sl)), (ro3, .inl (cZ, 12, .inl md))] H := hP
  have hD : va_D A [(ro0, .inr (3, [.int rn, .ref ro1, .ref ro2, .ref ro3])), (ro1, .inl (cI, 12, .inl st)), (ro2, .inl (cI, 12, .inl sl)), (ro3, .inl (cZ, 12, .inl md))] := hD
  rcases hw with ⟨rfl, b8⟩ | ⟨rfl, b8⟩
  · have b8 : hasS rn p1 ∧ ¬ md p1.toInt.toNat = 0 := b8
    rw [muddy_z hro hir] at b8
    refine lv_if_eq (tgt := 19) hx hb dX3_beatsToSing_11 (by decide) (fun c11 => absurd c11 (by decide)) (fun _ => ?_)
    refine lv_iload_n hx hb dX3_beatsToSing_14 rfl (lv_at hl 3 rfl) ?_
    refine lv_iconst (v := 2) hx hb dX3_beatsToSing_15 (by decide) ?_
    refine lv_icmp_ge (tgt := 21) hx hb dX3_beatsToSing_16 (by decide) (fun c16 => ?_) (fun c16 => ?_)
    · have t16 : 2 ≤ p2.toInt := xi_le (by decide) rfl c16
      refine lv_iload_n hx hb dX3_beatsToSing_21 rfl (lv_at hl 0 rfl) ?_
      refine lv_iload_n hx hb dX3_beatsToSing_22 rfl (lv_at hl 0 rfl) ?_
      refine lv_iconst (v := 1) hx hb dX3_beatsToSing_23 (by decide) ?_
      refine lv_isub hx hb dX3_beatsToSing_24 ?_
      refine lv_topi (fun x24 e24 => ?_)
      have t24 : x24.toInt = r2.toInt - 1 := by rw [e24]; exact xi_sub rfl (by decide) (by omega) (by omega)
      refine lv_iload_n hx hb dX3_beatsToSing_25 rfl (lv_at hl 3 rfl) ?_
      refine lv_iconst (v := 1) hx hb dX3_beatsToSing_26 (by decide) ?_
      refine lv_isub hx hb dX3_beatsToSing_27 ?_
      refine lv_topi (fun x27 e27 => ?_)
      have t27 : x27.toInt = p2.toInt - 1 := by rw [e27]; exact xi_sub rfl (by decide) (by omega) (by omega)
      refine lv_idiv hx hb dX3_beatsToSing_28 (i_ne0 (by omega)) ?_
      refine lv_topi (fun x28 e28 => ?_)
      have t28 : x28.toInt = x24.toInt / x27.toInt := by rw [e28]; exact xi_div rfl rfl (by omega) (by omega)
      have q28 : x28.toInt ≤ x24.toInt := by rw [t28]; exact Int.ediv_le_self _ (by omega)
      have q29 : 0 ≤ x28.toInt := by rw [t28]; exact Int.ediv_nonneg (by omega) (by omega)
      refine lv_iadd hx hb dX3_beatsToSing_29 ?_
      refine lv_topi (fun x29 e29 => ?_)
      have t29 : x29.toInt = r2.toInt + x28.toInt := by rw [e29]; exact xi_add rfl rfl (by omega) (by omega)
      exact xk_reti () hx hb hr hlocks (xk_P hP (by rfl)) (by unfold singF; rw [if_pos b8.2, t29, t28, t27, t24, t2]) hS dX3_beatsToSing_30 hQ
    · have t16 : p2.toInt < 2 := xi_nle (by decide) rfl c16
      omega
  · have b8 : ¬ (hasS rn p1 ∧ ¬ md p1.toInt.toNat = 0) := b8
    rw [muddy_z hro hir] at b8
    refine lv_if_eq (tgt := 19) hx hb dX3_beatsToSing_11 (by decide) (fun _ => ?_) (fun c11 => absurd (by decide) c11)
    refine lv_iload_n hx hb dX3_beatsToSing_19 rfl (lv_at hl 0 rfl) ?_
    exact xk_reti () hx hb hr hlocks (xk_P hP (by rfl)) (by unfold singF; rw [if_neg (fun hh => b8 ⟨hst1, hh⟩), t2]) hS dX3_beatsToSing_20 hQ
