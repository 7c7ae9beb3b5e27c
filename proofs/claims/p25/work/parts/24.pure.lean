/-! ===== the class's march ===== -/
theorem RSet_c {sv z w : Nat → Int32} (h : ∀ k, k < 174 → w k = z k) (i : RSet sv z) : RSet sv w := fun k hk => by rw [h k (by omega)]; exact i k hk
theorem RSong_c {gn : Int32} {ft bt mk z w : Nat → Int32} (h : ∀ k, k < 174 → w k = z k) (ig : SongOK z) (i : RSong gn ft bt mk z) : RSong gn ft bt mk w := by
  obtain ⟨i1, i2⟩ := i
  have g1 := ig.1
  refine ⟨by rw [h 6 (by omega)]; exact i1, ?_⟩
  intro l hl
  rw [h 6 (by omega)] at hl
  have q := i2 l hl
  have g2 := (ig.2 l hl).1
  rw [h (8 + l) (by omega)]
  refine ⟨q.1, ?_⟩
  intro f hf
  have u := q.2 f hf
  rw [btZ_congr h (by omega) (by omega)]
  refine ⟨u.1, ?_⟩
  rw [u.2]
  unfold mkZ
  rw [h (12 * l + f + 18) (by omega)]
theorem RRoad_c {rn : Int32} {st sl md z w : Nat → Int32} (h : ∀ k, k < 174 → w k = z k) (ir : RoadOK z) (i : RRoad rn st sl md z) : RRoad rn st sl md w := by
  obtain ⟨i1, i2⟩ := i
  have g1 := ir.1
  refine ⟨by rw [h 7 (by omega)]; exact i1, ?_⟩
  intro k hk
  rw [h 7 (by omega)] at hk
  have q := i2 k hk
  rw [ofZ_congr h (by omega) (by omega), ofZ_congr h (by omega) (by omega), ofZ_congr h (by omega) (by omega)]
  exact q
theorem at_iff {z : Nat → Int32} (i : RPos z) : (0 < (z 7).toInt ∧ (z 7).toInt ≤ (z 179).toInt) ↔ z 188 = 1 := by
  obtain ⟨⟨a1, a2⟩, a3, a4⟩ := i
  rw [a4]
  constructor
  · intro q
    rw [if_pos ⟨q.1, by omega⟩]
  · intro q
    by_cases c : 0 < (z 7).toInt ∧ (z 179).toInt = (z 7).toInt
    · exact ⟨c.1, by omega⟩
    · rw [if_neg c] at q
      exact absurd q (by decide)
theorem at_not {z : Nat → Int32} (i : RPos z) (q : ¬ (0 < (z 7).toInt ∧ (z 7).toInt ≤ (z 179).toInt)) : z 188 = 0 := by
  obtain ⟨⟨a1, a2⟩, a3, a4⟩ := i
  rw [a4, if_neg (fun c => q ⟨c.1, by omega⟩)]
theorem minJ (x y : Int32) : (if y < x then y else x) = if y.toInt < x.toInt then y else x := by
  by_cases c : y.toInt < x.toInt
  · rw [if_pos c, if_pos (Int32.lt_iff_toInt_lt.mpr c)]
  · rw [if_neg c, if_neg (fun q => c (Int32.lt_iff_toInt_lt.mp q))]
theorem max0 (y : Int32) : (if (0 : Int32) < y then y else 0) = if 0 < y.toInt then y else 0 := by
  have z0 : (0 : Int32).toInt = 0 := by decide
  by_cases c : 0 < y.toInt
  · rw [if_pos c, if_pos (Int32.lt_iff_toInt_lt.mpr (by omega))]
  · rw [if_neg c, if_neg (fun q => by have := Int32.lt_iff_toInt_lt.mp q; omega)]
theorem walkZ_e {n : Nat} {z : Nat → Int32} (h : z 188 = 1) : walkZ n z = z := by
  cases n with
  | zero => rfl
  | succ n => rw [walkZ, if_neg (by rw [h]; decide)]
theorem walkZ_n {n : Nat} {z : Nat → Int32} (h : z 188 = 0) : walkZ (n + 1) z = walkZ n (beatZ z) := by rw [walkZ, if_pos h]
theorem notEnd {z : Nat → Int32} (i : SPos z) (h : 0 < (z 6).toInt) : ¬ z 176 = z 6 := fun q => by
  have := (i.2.2.2 h).1
  rw [q] at this
  omega
theorem beat_mid {z : Nat → Int32} (i : InvZ z) (hc : canZ z) (hw : z 188 = 0) (r : ¬ restZ z) :
    (∀ rn st sl md, RRoad rn st sl md z → RRoad rn st sl md (singZ z)) ∧ RoadOK (singZ z) ∧ (0 ≤ (singZ z 179).toInt ∧ (singZ z 179).toInt < (singZ z 7).toInt) ∧ (0 ≤ (singZ z 180).toInt ∧ (singZ z 180).toInt < (ofZ (singZ z) (singZ z 179).toInt.toNat 0).toInt)
    ∧ (∀ gn ft bt mk, RSong gn ft bt mk z → RSong gn ft bt mk (stepZ (singZ z))) ∧ SongOK (stepZ (singZ z)) ∧ SPos (stepZ (singZ z)) ∧ 0 < (stepZ (singZ z) 6).toInt ∧ stepZ (singZ z) 182 = 0 ∧ stepZ (singZ z) 1 = z 1 := by
  obtain ⟨is, ig, ir, ip, iq, il⟩ := i
  have r' : ¬ 0 < (preZ z 182).toInt := r
  have hg : ¬ gaspZ z := by
    intro g
    have : preZ z 182 = z 2 := by rw [preZ, if_pos g]; rfl
    rw [this] at r'
    have := is.2.2.1
    omega
  have p2 : preZ z 182 = z 182 := by rw [preZ, if_neg hg]; rfl
  have z2 : z 182 = 0 := xi_ext (by have z0 : (0 : Int32).toInt = 0 := by decide
                                    rw [p2] at r'; unfold LOK at il; rw [z0]; omega)
  have s2 : singZ z 182 = 0 := by
    show upd _ _ _ _ = _
    rw [upd_n _ _ _ (by omega), upd_n _ _ _ (by omega), upd_n _ _ _ (by omega), p2, z2]
  have lw : ∀ k, k < 174 → singZ z k = z k := fun k hk => singZ_o z (by omega) (by omega) (by omega) (by omega) (by omega) (by omega)
  have w6 : SPos (singZ z) := SPos_c lw (singZ_o z (by omega) (by omega) (by omega) (by omega) (by omega) (by omega)) (singZ_o z (by omega) (by omega) (by omega) (by omega) (by omega) (by omega)) (singZ_o z (by omega) (by omega) (by omega) (by omega) (by omega) (by omega)) ig ip
  have h188 : singZ z 188 = z 188 := singZ_o z (by omega) (by omega) (by omega) (by omega) (by omega) (by omega)
  have w7 : RPos (singZ z) := RPos_c lw (singZ_o z (by omega) (by omega) (by omega) (by omega) (by omega) (by omega)) (singZ_o z (by omega) (by omega) (by omega) (by omega) (by omega) (by omega)) h188 ir iq
  have wr := RoadOK_c lw ir
  have lv : ∀ k, k < 174 → stepZ (singZ z) k = singZ z k := fun k hk => stepZ_o _ (by omega) (by omega) (by omega) (by omega) (by omega) (by omega)
  have v6 : SPos (stepZ (singZ z)) := SPos_c lv (stepZ_o _ (by omega) (by omega) (by omega) (by omega) (by omega) (by omega)) (stepZ_o _ (by omega) (by omega) (by omega) (by omega) (by omega) (by omega)) (stepZ_o _ (by omega) (by omega) (by omega) (by omega) (by omega) (by omega)) (SongOK_c lw ig) w6
  have lvw : ∀ k, k < 174 → stepZ (singZ z) k = z k := fun k hk => by rw [lv k hk, lw k hk]
  have at7 := RPos_at w7 wr (by rw [lw 7 (by omega)]; exact hc.2) (by rw [h188]; exact hw)
  exact ⟨fun _ _ _ _ h => RRoad_c lw ir h, wr, ⟨w7.1.1, at7⟩, w7.2.1 at7, fun _ _ _ _ h => RSong_c lvw ig h, SongOK_c lvw ig, v6, by rw [lvw 6 (by omega)]; exact hc.1, by rw [stepZ_o _ (by omega) (by omega) (by omega) (by omega) (by omega) (by omega)]; exact s2, lvw 1 (by omega)⟩
theorem restsZ_k (z : Nat → Int32) {k : Nat} (h : k ≠ 181 ∧ k ≠ 182) : restsZ z k = preZ z k := by rw [restsZ, upd_n _ _ _ h.1, upd_n _ _ _ h.2]
theorem restsZ_174 (z : Nat → Int32) : restsZ z 174 = preZ z 174 := restsZ_k z (by omega)
theorem restsZ_175 (z : Nat → Int32) : restsZ z 175 = preZ z 175 := restsZ_k z (by omega)
theorem restsZ_182 (z : Nat → Int32) : restsZ z 182 = preZ z 182 - 1 := by rw [restsZ, upd_n _ _ _ (by omega), upd_s]
theorem restsZ_181 (z : Nat → Int32) : restsZ z 181 = if (preZ z 181 + z 3).toInt < (z 4).toInt then preZ z 181 + z 3 else z 4 := by rw [restsZ, upd_s, preZ_o z (k := 3) (by omega) (by omega) (by omega) (by omega), preZ_o z (k := 4) (by omega) (by omega) (by omega) (by omega)]
