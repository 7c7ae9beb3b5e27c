/-! ===== the best pause ===== -/
theorem bp_lt {c k x : Int32} (hx : x.toInt = k.toInt + 1) (q : c.toInt < x.toInt) : c = k ∨ c.toInt < k.toInt := by
  by_cases q2 : c = k
  · exact Or.inl q2
  · have : ¬ c.toInt = k.toInt := fun q3 => q2 (xi_ext q3)
    exact Or.inr (by omega)
theorem bp_hit {z zw : Nat → Int32} {k f le mo x : Int32} (hL : bpI z k f le) (hle : le.toInt = mo.toInt + 1) (hk : 0 ≤ k.toInt) (h : aneZ (upd z 1 k) = zw) (h1 : zw 188 = 1) (hb : (zw 174).toInt ≤ mo.toInt) (hx : x.toInt = k.toInt + 1) : bpI z x k (zw 174) := by
  have hok : okP z k := by show aneZ (upd z 1 k) 188 = 1; rw [h]; exact h1
  have hbt : btP z k = (zw 174).toInt := by show (aneZ (upd z 1 k) 174).toInt = _; rw [h]
  refine Or.inr ⟨⟨hk, by omega⟩, hok, hbt.symm, fun c q1 q2 q3 => ?_⟩
  rcases hL with ⟨l1, l2, l3⟩ | ⟨l1, l2, l3, l4⟩
  · rcases bp_lt hx q2 with q | q
    · rw [q]; exact ⟨Int.le_refl _, fun q4 => absurd q4 (Int.lt_irrefl _)⟩
    · exact absurd q3 (l3 c q1 q)
  · rcases bp_lt hx q2 with q | q
    · rw [q]; exact ⟨Int.le_refl _, fun q4 => absurd q4 (Int.lt_irrefl _)⟩
    · have := (l4 c q1 q q3).1
      exact ⟨by omega, fun _ => by omega⟩
theorem bp_miss {z : Nat → Int32} {k f le mo x : Int32} (hL : bpI z k f le) (hle : le.toInt = mo.toInt + 1) (h : okP z k → mo.toInt < btP z k) (hx : x.toInt = k.toInt + 1) : bpI z x f le := by
  rcases hL with ⟨l1, l2, l3⟩ | ⟨l1, l2, l3, l4⟩
  · refine Or.inl ⟨l1, l2, fun c q1 q2 q3 => ?_⟩
    rcases bp_lt hx q2 with q | q
    · rw [q] at q3
      have h1 := h q3
      have h2 : btP z k ≤ 5000 := (ane_174 (upd z 1 k)).2
      omega
    · exact l3 c q1 q q3
  · refine Or.inr ⟨⟨by omega, by omega⟩, l2, l3, fun c q1 q2 q3 => ?_⟩
    rcases bp_lt hx q2 with q | q
    · rw [q] at q3 ⊢
      have h1 := h q3
      exact ⟨by omega, fun q4 => by omega⟩
    · exact l4 c q1 q q3
theorem walk_pos {m : Nat} {z : Nat → Int32} (h0 : (z 174).toInt = 0) (hw : z 188 = 0) (hm : m ≤ 5000) (h : walkZ m z 188 = 1) : 1 ≤ (walkZ m z 174).toInt := by
  have hk := walk_174 m z 0 h0 (by omega) (by omega)
  cases m with
  | zero => rw [show walkZ 0 z = z from rfl, hw] at h; exact absurd h (by decide)
  | succ m => rw [hk, walkN, if_pos hw]; omega
theorem pz_inv {z : Nat → Int32} (i : InvZ z) {k : Int32} (hk : 0 ≤ k.toInt ∧ k.toInt ≤ 9) : InvZ (beginZ (upd z 1 k)) := by
  have h : ∀ j, 6 ≤ j → j < 174 → upd z 1 k j = z j := fun j h1 h2 => upd_n _ _ _ (by omega)
  have hs : SetOK (upd z 1 k) := by
    have := i.1
    unfold SetOK at *
    rw [upd_n _ _ _ (by omega), upd_s, upd_n _ _ _ (by omega), upd_n _ _ _ (by omega), upd_n _ _ _ (by omega)]
    exact ⟨this.1, hk, this.2.2⟩
  exact begin_inv hs (SongOK_x h i.2.1) (RoadOK_x h i.2.2.1)
theorem pz_can {z : Nat → Int32} (h : canZ z) (k : Int32) : canZ (beginZ (upd z 1 k)) := begin_can (by unfold canZ; rw [upd_n _ _ _ (by omega), upd_n _ _ _ (by omega)]; exact h)
theorem pz_lo (z : Nat → Int32) (q : Nat) (hq : q < 6) (x : Int32) : ∀ j, 6 ≤ j → j < 174 → beginZ (upd z q x) j = z j := fun j h1 h2 => by rw [beginZ_lo _ h2, upd_n _ _ _ (by omega)]
theorem minL (x y : Int32) : (if y < x then y else x).toInt = min x.toInt y.toInt := by
  by_cases c : y < x
  · have := Int32.lt_iff_toInt_lt.mp c
    rw [if_pos c]; omega
  · have : ¬ y.toInt < x.toInt := fun q => c (Int32.lt_iff_toInt_lt.mpr q)
    rw [if_neg c]; omega
theorem maxL2 (x y : Int32) : (if x < y then y else x).toInt = max x.toInt y.toInt := by
  by_cases c : x < y
  · have := Int32.lt_iff_toInt_lt.mp c
    rw [if_pos c]; omega
  · have : ¬ x.toInt < y.toInt := fun q => c (Int32.lt_iff_toInt_lt.mpr q)
    rw [if_neg c]; omega
theorem low_step {u : Nat → Int32} (i : InvZ u) (hc : canZ u) (hw : u 188 = 0) (h4 : (u 4).toInt = 1000000) (hu : 4 ≤ (u 181).toInt ∧ (u 181).toInt ≤ 1000000) : (u 181).toInt - 4 ≤ (beatZ u 181).toInt ∧ (beatZ u 181).toInt ≤ 1000000 := by
  obtain ⟨q1, q2, q3⟩ := climb_in i hc hw
  have gu : ¬ gaspZ u := fun g => by have := g.2; omega
  have pu : preZ u = upd (upd u 174 (u 174 + 1)) 175 (u 175 + u 0) := by unfold preZ; rw [if_neg gu]
  have pu181 : preZ u 181 = u 181 := by rw [pu, upd_n _ _ _ (by omega), upd_n _ _ _ (by omega)]
  have pu4 : preZ u 4 = u 4 := by rw [pu, upd_n _ _ _ (by omega), upd_n _ _ _ (by omega)]
  have pu3 : preZ u 3 = u 3 := by rw [pu, upd_n _ _ _ (by omega), upd_n _ _ _ (by omega)]
  by_cases r : restZ u
  · have h33 := i.1.2.2.2.1
    have t1 : (u 181 + u 3).toInt = (u 181).toInt + (u 3).toInt := xi_add rfl rfl (by omega) (by omega)
    rw [beatZ, if_pos r, restsZ, upd_s, pu181, pu3, pu4, t1, h4]
    split
    · rw [t1]; omega
    · rw [h4]; omega
  · rw [beatZ, if_neg r, goOnZ_o _ (by omega) (by omega) (by omega) (by omega) (by omega), stepZ_o _ (by omega) (by omega) (by omega) (by omega) (by omega) (by omega)]
    rw [show singZ u 181 = u 181 - needZ u from by rw [singZ, upd_n _ _ _ (by omega), upd_n _ _ _ (by omega), upd_s, pu181], xi_sub rfl rfl (by omega) (by omega)]
    omega
