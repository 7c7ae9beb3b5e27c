/-! ===== what a beat leaves ===== -/
theorem stepZ_o (z : Nat → Int32) {k : Nat} (h1 : k ≠ 179) (h2 : k ≠ 180) (h3 : k ≠ 183) (h4 : k ≠ 184) (h5 : k ≠ 188) (h6 : k ≠ 189) : stepZ z k = z k := by
  unfold stepZ
  split
  · simp [upd, *]
  · split <;> simp [upd, *]
theorem footEZ_o (z : Nat → Int32) {k : Nat} (h1 : k ≠ 177) (h2 : k ≠ 178) (h3 : k ≠ 182) : footEZ z k = z k := by
  unfold footEZ
  simp [upd, *]
theorem lineEZ_o (z : Nat → Int32) {k : Nat} (h0 : k ≠ 176) (h1 : k ≠ 177) (h2 : k ≠ 178) (h3 : k ≠ 182) : lineEZ z k = z k := by
  unfold lineEZ
  split
  · exact footEZ_o z h1 h2 h3
  · rw [upd_n _ _ _ h0, upd_n _ _ _ h1]; exact footEZ_o z h1 h2 h3
theorem goOnZ_o (z : Nat → Int32) {k : Nat} (h0 : k ≠ 176) (h1 : k ≠ 177) (h2 : k ≠ 178) (h3 : k ≠ 182) (h4 : k ≠ 186) : goOnZ z k = z k := by
  unfold goOnZ
  split
  · rw [upd_n _ _ _ h2]
  · split
    · rw [upd_n _ _ _ h4, upd_n _ _ _ h0]; exact lineEZ_o z h0 h1 h2 h3
    · exact lineEZ_o z h0 h1 h2 h3
theorem preZ_o (z : Nat → Int32) {k : Nat} (h0 : k ≠ 174) (h1 : k ≠ 175) (h2 : k ≠ 182) (h3 : k ≠ 185) : preZ z k = z k := by
  unfold preZ
  split <;> simp [upd, *]
theorem singZ_o (z : Nat → Int32) {k : Nat} (h0 : k ≠ 174) (h1 : k ≠ 175) (h2 : k ≠ 182) (h3 : k ≠ 185) (h4 : k ≠ 181) (h5 : k ≠ 187) : singZ z k = z k := by
  unfold singZ
  rw [upd_n _ _ _ h5, upd_n _ _ _ h1, upd_n _ _ _ h4, preZ_o z h0 h1 h2 h3]
theorem restsZ_o (z : Nat → Int32) {k : Nat} (h0 : k ≠ 174) (h1 : k ≠ 175) (h2 : k ≠ 182) (h3 : k ≠ 185) (h4 : k ≠ 181) : restsZ z k = z k := by
  unfold restsZ
  rw [upd_n _ _ _ h4, upd_n _ _ _ h2, preZ_o z h0 h1 h2 h3]
theorem beatZ_lo (z : Nat → Int32) {k : Nat} (h : k < 174) : beatZ z k = z k := by
  unfold beatZ
  split
  · exact restsZ_o z (by omega) (by omega) (by omega) (by omega) (by omega)
  · rw [goOnZ_o _ (by omega) (by omega) (by omega) (by omega) (by omega), stepZ_o _ (by omega) (by omega) (by omega) (by omega) (by omega) (by omega)]
    exact singZ_o z (by omega) (by omega) (by omega) (by omega) (by omega) (by omega)
theorem climbZ_upd (z : Nat → Int32) (ha : atZ z) {k : Nat} (x : Int32) (h : 174 ≤ k) (h2 : k ≠ 179) : climbZ (upd z k x) = climbZ z := by
  obtain ⟨ha1, ha2⟩ := ha
  unfold climbZ
  rw [upd_n _ _ _ (Ne.symm h2), ofZ_upd z x (by omega)]
theorem climbZ_pre (z : Nat → Int32) (ha : atZ z) : climbZ (preZ z) = climbZ z := by
  obtain ⟨ha1, ha2⟩ := ha
  have h1 : preZ z 179 = z 179 := preZ_o z (by omega) (by omega) (by omega) (by omega)
  have h2 : ∀ s : Nat, s ≤ 11 → ofZ (preZ z) s 1 = ofZ z s 1 := fun s hs => preZ_o z (by omega) (by omega) (by omega) (by omega)
  have h3 : ofZ (preZ z) (preZ z 179).toInt.toNat 1 = ofZ z (z 179).toInt.toNat 1 := by
    generalize hw : (preZ z 179).toInt.toNat = w
    rw [h1] at hw
    rw [hw]
    exact h2 w (by omega)
  unfold climbZ
  generalize ofZ (preZ z) (preZ z 179).toInt.toNat 1 = v at h3 ⊢
  rw [h3]
theorem ofZ_congr {z w : Nat → Int32} (h : ∀ k, k < 174 → w k = z k) {s v : Nat} (hs : s < 12) (hv : v < 3) : ofZ w s v = ofZ z s v := h _ (by omega)
theorem btZ_congr {z w : Nat → Int32} (h : ∀ k, k < 174 → w k = z k) {l f : Nat} (hl : l < 10) (hf : f < 12) : btZ w l f = btZ z l f := by
  unfold btZ
  rw [h _ (by omega)]
/-! ===== what holds of the model's state ===== -/
def SetOK (z : Nat → Int32) : Prop := (1 ≤ (z 0).toInt ∧ (z 0).toInt ≤ 9) ∧ (0 ≤ (z 1).toInt ∧ (z 1).toInt ≤ 9) ∧ (1 ≤ (z 2).toInt ∧ (z 2).toInt ≤ 9) ∧ (1 ≤ (z 3).toInt ∧ (z 3).toInt ≤ 20) ∧ (2 ≤ (z 5).toInt ∧ (z 5).toInt ≤ 9)
def footOK (x : Int32) : Prop := x.toInt = 2 ∨ x.toInt = 3 ∨ x.toInt = 4 ∨ x.toInt = 12 ∨ x.toInt = 13 ∨ x.toInt = 14
def SongOK (z : Nat → Int32) : Prop := (0 ≤ (z 6).toInt ∧ (z 6).toInt ≤ 10) ∧ ∀ l : Nat, (l : Int) < (z 6).toInt → (1 ≤ (z (8 + l)).toInt ∧ (z (8 + l)).toInt ≤ 12) ∧ ∀ f : Nat, (f : Int) < (z (8 + l)).toInt → footOK (z (12 * l + f + 18))
def RoadOK (z : Nat → Int32) : Prop := (0 ≤ (z 7).toInt ∧ (z 7).toInt ≤ 12) ∧ ∀ s : Nat, (s : Int) < (z 7).toInt → (1 ≤ (ofZ z s 0).toInt ∧ (ofZ z s 0).toInt ≤ 99) ∧ (-3 ≤ (ofZ z s 1).toInt ∧ (ofZ z s 1).toInt ≤ 3) ∧ (ofZ z s 2 = 0 ∨ ofZ z s 2 = 1)
/-- the place in the song -/
def SPos (z : Nat → Int32) : Prop := (0 ≤ (z 176).toInt ∧ (z 176).toInt ≤ 9) ∧ (0 ≤ (z 177).toInt ∧ (z 177).toInt ≤ 11) ∧ 0 ≤ (z 178).toInt ∧ (0 < (z 6).toInt → (z 176).toInt < (z 6).toInt ∧ (z 177).toInt < (z (8 + (z 176).toInt.toNat)).toInt ∧ (z 178).toInt < (btZ z ((z 176).toInt.toNat) ((z 177).toInt.toNat)).toInt)
/-- the place on the road -/
def RPos (z : Nat → Int32) : Prop := (0 ≤ (z 179).toInt ∧ (z 179).toInt ≤ (z 7).toInt) ∧ ((z 179).toInt < (z 7).toInt → 0 ≤ (z 180).toInt ∧ (z 180).toInt < (ofZ z ((z 179).toInt.toNat) 0).toInt) ∧ z 188 = if 0 < (z 7).toInt ∧ (z 179).toInt = (z 7).toInt then 1 else 0
def LOK (z : Nat → Int32) : Prop := 0 ≤ (z 182).toInt ∧ (z 182).toInt ≤ 9
def InvZ (z : Nat → Int32) : Prop := SetOK z ∧ SongOK z ∧ RoadOK z ∧ SPos z ∧ RPos z ∧ LOK z
theorem SetOK_c {z w : Nat → Int32} (h : ∀ k, k < 174 → w k = z k) (i : SetOK z) : SetOK w := by
  unfold SetOK at *
  rw [h 0 (by omega), h 1 (by omega), h 2 (by omega), h 3 (by omega), h 5 (by omega)]
  exact i
theorem SongOK_c {z w : Nat → Int32} (h : ∀ k, k < 174 → w k = z k) (i : SongOK z) : SongOK w := by
  obtain ⟨i1, i2⟩ := i
  unfold SongOK
  rw [h 6 (by omega)]
  refine ⟨i1, fun l hl => ?_⟩
  rw [h (8 + l) (by omega)]
  obtain ⟨j1, j2⟩ := i2 l hl
  refine ⟨j1, fun f hf => ?_⟩
  rw [h _ (by omega)]
  exact j2 f hf
theorem RoadOK_c {z w : Nat → Int32} (h : ∀ k, k < 174 → w k = z k) (i : RoadOK z) : RoadOK w := by
  obtain ⟨i1, i2⟩ := i
  unfold RoadOK
  rw [h 7 (by omega)]
  refine ⟨i1, fun s hs => ?_⟩
  rw [ofZ_congr h (by omega) (by omega), ofZ_congr h (by omega) (by omega), ofZ_congr h (by omega) (by omega)]
  exact i2 s hs
theorem rem10 {x : Int32} (h : footOK x) : 2 ≤ (x - x / 10 * 10).toInt ∧ (x - x / 10 * 10).toInt ≤ 4 := by
  rw [xi_rem (y := 10) (b := 10) rfl (by decide) (by unfold footOK at h; omega) (by omega)]
  unfold footOK at h
  omega
theorem btZ_in {z : Nat → Int32} (i : SongOK z) {l f : Nat} (hl : (l : Int) < (z 6).toInt) (hf : (f : Int) < (z (8 + l)).toInt) : 2 ≤ (btZ z l f).toInt ∧ (btZ z l f).toInt ≤ 4 := rem10 ((i.2 l hl).2 f hf)
theorem RPos_at {z : Nat → Int32} (i : RPos z) (ir : RoadOK z) (h : 0 < (z 7).toInt) (hw : z 188 = 0) : (z 179).toInt < (z 7).toInt := by
  obtain ⟨⟨i1, i2⟩, -, i3⟩ := i
  rcases Int.lt_or_eq_of_le i2 with q | q
  · exact q
  · rw [if_pos ⟨h, q⟩] at i3
    rw [hw] at i3
    exact absurd i3 (by decide)
theorem RPos_atZ {z : Nat → Int32} (i : RPos z) (ir : RoadOK z) (h : 0 < (z 7).toInt) (hw : z 188 = 0) : atZ z := by
  have := RPos_at i ir h hw
  have := ir.1
  have := i.1
  exact ⟨by omega, by omega⟩
