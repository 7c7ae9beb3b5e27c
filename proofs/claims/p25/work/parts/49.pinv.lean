/-! ===== what a march keeps beside InvZ: sums of beats and steps, breath, ticks ===== -/
theorem sumB_c {z w : Nat → Int32} (h : ∀ k, k < 174 → w k = z k) {l : Nat} (hl : l < 10) : ∀ n : Nat, n ≤ 12 → sumB w l n = sumB z l n
  | 0, _ => rfl
  | n + 1, hn => by rw [sumB, sumB, sumB_c h hl n (by omega), btZ_congr h hl (by omega)]
theorem cntM_c {z w : Nat → Int32} (h : ∀ k, k < 174 → w k = z k) {l : Nat} (hl : l < 10) : ∀ n : Nat, n ≤ 12 → cntM w l n = cntM z l n
  | 0, _ => rfl
  | n + 1, hn => by
    rw [cntM, cntM, cntM_c h hl n (by omega)]
    have e : (mkZ w l n) = (mkZ z l n) := by unfold mkZ; rw [h _ (by omega)]
    simp only [e]
theorem sungL_c {z w : Nat → Int32} (h : ∀ k, k < 174 → w k = z k) (i : SongOK z) {l : Nat} (hl : (l : Int) < (z 6).toInt) : sungL w l = sungL z l := by
  have h6 := i.1
  have h8 := (i.2 l hl).1
  unfold sungL
  rw [h (8 + l) (by omega), sumB_c h (by omega) _ (by omega)]
theorem sumS_c {z w : Nat → Int32} (h : ∀ k, k < 174 → w k = z k) (i : SongOK z) : ∀ n : Nat, (n : Int) ≤ (z 6).toInt → sumS w n = sumS z n
  | 0, _ => rfl
  | n + 1, hn => by rw [sumS, sumS, sumS_c h i n (by omega), sungL_c h i (by omega)]
theorem sumR_c {z w : Nat → Int32} (h : ∀ k, k < 174 → w k = z k) : ∀ n : Nat, n ≤ 12 → sumR w n = sumR z n
  | 0, _ => rfl
  | n + 1, hn => by rw [sumR, sumR, sumR_c h n (by omega), ofZ_congr h (by omega) (by omega)]
theorem sumR_in {z : Nat → Int32} (i : RoadOK z) : ∀ n : Nat, (n : Int) ≤ (z 7).toInt → (n : Int) ≤ (sumR z n).toInt ∧ (sumR z n).toInt ≤ 99 * n
  | 0, _ => by rw [sumR]; decide
  | n + 1, h => by
    have ih := sumR_in i n (by omega)
    have hb := (i.2 n (by omega)).1
    have h7 := i.1
    rw [sumR, xi_add rfl rfl (by omega) (by omega)]
    omega
theorem sumR_s {z : Nat → Int32} (i : RoadOK z) (n : Nat) (h : (n : Int) < (z 7).toInt) : (sumR z (n + 1)).toInt = (sumR z n).toInt + (ofZ z n 0).toInt := by
  have ih := sumR_in i n (by omega)
  have hb := (i.2 n (by omega)).1
  have h7 := i.1
  rw [sumR, xi_add rfl rfl (by omega) (by omega)]
theorem sumR_mono {z : Nat → Int32} (i : RoadOK z) : ∀ m n : Nat, m ≤ n → (n : Int) ≤ (z 7).toInt → (sumR z m).toInt ≤ (sumR z n).toInt
  | m, 0, h, _ => by rw [show m = 0 from by omega]; omega
  | m, n + 1, h, h2 => by
    by_cases e : m = n + 1
    · rw [e]; omega
    · have := sumR_mono i m n (by omega) (by omega)
      have := sumR_s i n (by omega)
      have := (i.2 n (by omega)).1
      omega
theorem sumB_s {z : Nat → Int32} (i : SongOK z) {l : Nat} (hl : (l : Int) < (z 6).toInt) (n : Nat) (h : (n : Int) < (z (8 + l)).toInt) : (sumB z l (n + 1)).toInt = (sumB z l n).toInt + (btZ z l n).toInt := by
  have ih := sumB_in i hl n (by omega)
  have hb := btZ_in i (l := l) (f := n) hl h
  have hn := (i.2 l hl).1
  rw [sumB, xi_add rfl rfl (by omega) (by omega)]
theorem sumS_s {z : Nat → Int32} (i : SongOK z) (n : Nat) (h : (n : Int) < (z 6).toInt) : (sumS z (n + 1)).toInt = (sumS z n).toInt + (sungL z n).toInt := by
  have ih := sumS_in i n (by omega)
  have hn := (i.2 n h).1
  have hb := sumB_in i (l := n) h (z (8 + n)).toInt.toNat (by omega)
  have h6 := i.1
  unfold sungL
  rw [sumS, sungL, xi_add rfl rfl (by omega) (by omega)]
/-- a march that has just begun -/
def begP0 (z : Nat → Int32) : Prop := ∀ k, 174 ≤ k → k < 190 → k ≠ 181 → z k = 0
/-- how many beats lie behind the place in the songs -/
def posV (z : Nat → Int32) : Int := (z 186).toInt * (sumS z (z 6).toInt.toNat).toInt + (sumS z (z 176).toInt.toNat).toInt + (sumB z (z 176).toInt.toNat (z 177).toInt.toNat).toInt + (z 178).toInt
def InvP (z : Nat → Int32) : Prop :=
  (5 ≤ (z 4).toInt ∧ (z 4).toInt ≤ 60) ∧
  (0 ≤ (z 183).toInt ∧ 0 ≤ (z 184).toInt ∧ (z 187).toInt = (z 183).toInt + (z 184).toInt ∧ (z 187).toInt ≤ (z 174).toInt) ∧
  ((z 183).toInt = (z 180).toInt + (sumR z (z 179).toInt.toNat).toInt ∧ ((z 179).toInt = (z 7).toInt → (z 180).toInt = 0)) ∧
  (0 ≤ (z 181).toInt ∧ (z 181).toInt ≤ (z 4).toInt) ∧
  ((z 174).toInt * (z 0).toInt ≤ (z 175).toInt ∧ (z 175).toInt ≤ (z 174).toInt * (z 0).toInt + 3 * (z 187).toInt) ∧
  (¬ canZ z → begP0 z) ∧
  (canZ z → (z 187).toInt = posV z)
theorem InvP_c {z w : Nat → Int32} (h : ∀ k, k < 190 → w k = z k) (i : InvZ z) (p : InvP z) : InvP w := by
  have lo : ∀ k, k < 174 → w k = z k := fun k hk => h k (by omega)
  obtain ⟨i1, i2, i3, i4, i5, i6⟩ := i
  have hc : canZ w = canZ z := by unfold canZ; rw [h 6 (by omega), h 7 (by omega)]
  have h6 := i2.1
  have h7 := i3.1
  have h79 := i5.1
  unfold InvP at *
  rw [hc, h 4 (by omega), h 183 (by omega), h 184 (by omega), h 187 (by omega), h 174 (by omega), h 180 (by omega), h 179 (by omega), h 7 (by omega), h 181 (by omega), h 175 (by omega), h 0 (by omega), sumR_c lo _ (by omega)]
  obtain ⟨p1, p2, p3, p4, p5, p6, p7⟩ := p
  refine ⟨p1, p2, p3, p4, p5, fun q k k1 k2 k3 => ?_, fun q => ?_⟩
  · rw [h k k2]; exact p6 q k k1 k2 k3
  · rw [p7 q]
    obtain ⟨j1, j2, j3⟩ := i4.2.2.2 q.1
    have := i4.1
    have := i4.2.1
    have h8 := (i2.2 (z 176).toInt.toNat (by omega)).1
    unfold posV
    rw [h 186 (by omega), h 6 (by omega), h 176 (by omega), h 177 (by omega), h 178 (by omega), sumS_c lo i2 _ (by omega), sumS_c lo i2 _ (by omega), sumB_c lo (by omega) _ (by omega)]
theorem InvP_beg {z : Nat → Int32} (b : begP0 z) (h1 : z 181 = z 4) (h4 : 5 ≤ (z 4).toInt ∧ (z 4).toInt ≤ 60) : InvP z := by
  have z0 : (0 : Int32).toInt = 0 := by decide
  unfold InvP
  rw [h1, b 183 (by omega) (by omega) (by omega), b 184 (by omega) (by omega) (by omega), b 187 (by omega) (by omega) (by omega), b 174 (by omega) (by omega) (by omega), b 180 (by omega) (by omega) (by omega), b 179 (by omega) (by omega) (by omega), b 175 (by omega) (by omega) (by omega), z0]
  refine ⟨h4, ⟨by omega, by omega, by omega, by omega⟩, ⟨?_, fun _ => rfl⟩, ⟨by omega, by omega⟩, ⟨by omega, by omega⟩, fun _ => b, fun _ => ?_⟩
  · rw [show (0 : Int).toNat = 0 from rfl, sumR, z0]; rfl
  · unfold posV
    rw [b 186 (by omega) (by omega) (by omega), b 176 (by omega) (by omega) (by omega), b 177 (by omega) (by omega) (by omega), b 178 (by omega) (by omega) (by omega), z0, show (0 : Int).toNat = 0 from rfl, sumS, sumB, z0]
    omega
theorem begP_of {z w : Nat → Int32} (h : ∀ k, 174 ≤ k → k < 190 → z k = beginZ w k) : begP0 z := fun k h1 h2 h3 => by
  rw [h k h1 h2]; exact begin_0 ⟨h1, h2⟩ h3
theorem begP_b (w : Nat → Int32) : begP0 (beginZ w) := begP_of (w := w) (fun _ _ _ => rfl)
theorem begin_181 (w : Nat → Int32) : beginZ w 181 = w 4 := by unfold beginZ; rw [if_pos rfl]
theorem InvP_begin {w : Nat → Int32} (h4 : 5 ≤ (w 4).toInt ∧ (w 4).toInt ≤ 60) : InvP (beginZ w) := by
  have e4 : beginZ w 4 = w 4 := beginZ_lo w (by omega)
  exact InvP_beg (begP_b w) (by rw [begin_181, e4]) (by rw [e4]; exact h4)
/-! the song goes on by a beat -/
theorem posV_go {z : Nat → Int32} (ig : SongOK z) (i : SPos z) (h6 : 0 < (z 6).toInt) (hb : 0 ≤ (z 186).toInt ∧ (z 186).toInt ≤ 2000000) : posV (goOnZ z) = posV z + 1 := by
  obtain ⟨⟨i1, i2⟩, ⟨i3, i4⟩, i5, i6⟩ := i
  obtain ⟨j1, j2, j3⟩ := i6 h6
  have hc : ∀ k, k < 174 → goOnZ z k = z k := fun k hk => goOnZ_o z (by omega) (by omega) (by omega) (by omega) (by omega)
  have hbt := btZ_in ig (l := (z 176).toInt.toNat) (f := (z 177).toInt.toNat) (by omega) (by omega)
  have hL := (ig.2 ((z 176).toInt.toNat) (by omega)).1
  have t8 : (z 178 + 1).toInt = (z 178).toInt + 1 := xi_add rfl (by decide) (by omega) (by omega)
  have t7 : (z 177 + 1).toInt = (z 177).toInt + 1 := xi_add rfl (by decide) (by omega) (by omega)
  have t6 : (z 176 + 1).toInt = (z 176).toInt + 1 := xi_add rfl (by decide) (by omega) (by omega)
  have t86 : (z 186 + 1).toInt = (z 186).toInt + 1 := xi_add rfl (by decide) (by omega) (by omega)
  have z0 : (0 : Int32).toInt = 0 := by decide
  have n0 : (0 : Int).toNat = 0 := rfl
  have hg1 := ig.1
  have sb := sumB_s ig (l := (z 176).toInt.toNat) (by omega) (z 177).toInt.toNat (by omega)
  have ss := sumS_s ig (z 176).toInt.toNat (by omega)
  unfold posV
  rw [hc 6 (by omega), sumS_c hc ig _ (by omega)]
  by_cases q : inFootZ z
  · have e86 : goOnZ z 186 = z 186 := by rw [goOnZ, if_pos q]; rfl
    have e6 : goOnZ z 176 = z 176 := by rw [goOnZ, if_pos q]; rfl
    have e7 : goOnZ z 177 = z 177 := by rw [goOnZ, if_pos q]; rfl
    have e8 : goOnZ z 178 = z 178 + 1 := by rw [goOnZ, if_pos q]; rfl
    rw [e86, e6, e7, e8, sumS_c hc ig _ (by omega), sumB_c hc (by omega) _ (by omega), t8]
    omega
  · have hq : ¬ (z 178).toInt + 1 < (btZ z ((z 176).toInt.toNat) ((z 177).toInt.toNat)).toInt := fun hh => q (by show (z 178 + 1).toInt < _; omega)
    have f6 : footEZ z 176 = z 176 := footEZ_o z (by omega) (by omega) (by omega)
    have f7 : footEZ z 177 = z 177 + 1 := by rw [footEZ]; rfl
    have f8 : footEZ z 178 = 0 := by rw [footEZ]; rfl
    have f86 : footEZ z 186 = z 186 := footEZ_o z (by omega) (by omega) (by omega)
    have l8 : goOnZ z 178 = footEZ z 178 := by
      rw [goOnZ, if_neg q]
      split
      · rw [upd_n _ _ _ (by omega), upd_n _ _ _ (by omega), lineEZ]; split <;> simp [upd]
      · rw [lineEZ]; split <;> simp [upd]
    have l86 : lineEZ z 186 = z 186 := lineEZ_o z (by omega) (by omega) (by omega) (by omega)
    rw [l8, f8, z0]
    by_cases u : inLineZ z
    · have lz : lineEZ z = footEZ z := by rw [lineEZ, if_pos u]
      have s6 : ¬ songEZ z := by
        show ¬ lineEZ z 176 = z 6
        rw [lz, f6]
        intro hh
        rw [hh] at j1
        omega
      have e6 : goOnZ z 176 = z 176 := by rw [goOnZ, if_neg q, if_neg s6, lz, f6]
      have e7 : goOnZ z 177 = z 177 + 1 := by rw [goOnZ, if_neg q, if_neg s6, lz, f7]
      have e86 : goOnZ z 186 = z 186 := by rw [goOnZ, if_neg q, if_neg s6, lz, f86]
      have hu : ¬ (z 177 + 1).toInt = (z (8 + (z 176).toInt.toNat)).toInt := fun hh => u (xi_ext hh)
      rw [e86, e6, e7, sumS_c hc ig _ (by omega), sumB_c hc (by omega) _ (by omega), show (z 177 + 1).toInt.toNat = (z 177).toInt.toNat + 1 from by omega, sb]
      omega
    · have lz : lineEZ z = upd (upd (footEZ z) 177 0) 176 (z 176 + 1) := by rw [lineEZ, if_neg u]
      have l6 : lineEZ z 176 = z 176 + 1 := by rw [lz]; rfl
      have l7 : lineEZ z 177 = 0 := by rw [lz]; rfl
      have hu : (z 177 + 1) = (z (8 + (z 176).toInt.toNat)) := Decidable.not_not.mp u
      have hu2 : (z 177).toInt + 1 = (z (8 + (z 176).toInt.toNat)).toInt := by rw [← hu, t7]
      have hs : (sungL z (z 176).toInt.toNat).toInt = (sumB z (z 176).toInt.toNat ((z 177).toInt.toNat + 1)).toInt := by
        unfold sungL
        rw [show (z (8 + (z 176).toInt.toNat)).toInt.toNat = (z 177).toInt.toNat + 1 from by omega]
      by_cases s6 : songEZ z
      · have e6 : goOnZ z 176 = 0 := by rw [goOnZ, if_neg q, if_pos s6]; rfl
        have e7 : goOnZ z 177 = 0 := by rw [goOnZ, if_neg q, if_pos s6, upd_n _ _ _ (by omega), upd_n _ _ _ (by omega), l7]
        have e86 : goOnZ z 186 = z 186 + 1 := by rw [goOnZ, if_neg q, if_pos s6]; rfl
        have hh : z 176 + 1 = z 6 := by
          have : lineEZ z 176 = z 6 := s6
          rw [l6] at this; exact this
        have h66 : (z 176).toInt + 1 = (z 6).toInt := by rw [← hh, t6]
        rw [e86, e6, e7, z0, n0, sumS, sumB, z0, t86, Int.add_mul]
        rw [show (z 6).toInt.toNat = (z 176).toInt.toNat + 1 from by omega] at *
        omega
      · have e6 : goOnZ z 176 = z 176 + 1 := by rw [goOnZ, if_neg q, if_neg s6, l6]
        have e7 : goOnZ z 177 = 0 := by rw [goOnZ, if_neg q, if_neg s6, l7]
        have e86 : goOnZ z 186 = z 186 := by rw [goOnZ, if_neg q, if_neg s6, l86]
        have hs6 : ¬ (z 176 + 1).toInt = (z 6).toInt := fun hh => s6 (show lineEZ z 176 = z 6 by rw [l6]; exact xi_ext hh)
        rw [e86, e6, e7, z0, n0, sumB, z0, sumS_c hc ig _ (by omega), show (z 176 + 1).toInt.toNat = (z 176).toInt.toNat + 1 from by omega, ss]
        omega
theorem posV_c {z w : Nat → Int32} (h : ∀ k, k < 174 → w k = z k) (ig : SongOK z) (i : SPos z) (h6 : 0 < (z 6).toInt) (e86 : w 186 = z 186) (e6 : w 176 = z 176) (e7 : w 177 = z 177) (e8 : w 178 = z 178) : posV w = posV z := by
  obtain ⟨j1, j2, j3⟩ := i.2.2.2 h6
  have := i.1
  have := i.2.1
  have := ig.1
  have h8 := (ig.2 (z 176).toInt.toNat (by omega)).1
  unfold posV
  rw [e86, h 6 (by omega), e6, e7, e8, sumS_c h ig _ (by omega), sumS_c h ig _ (by omega), sumB_c h (by omega) _ (by omega)]
/-! the road goes on by a beat that is sung -/
theorem step_road {z : Nat → Int32} (ir : RoadOK z) (i : RPos z) (h7 : 0 < (z 7).toInt) (hw : z 188 = 0) (b83 : 0 ≤ (z 183).toInt ∧ (z 183).toInt ≤ 2000000) (b84 : 0 ≤ (z 184).toInt ∧ (z 184).toInt ≤ 2000000) (h : (z 183).toInt = (z 180).toInt + (sumR z (z 179).toInt.toNat).toInt) :
    (stepZ z 183).toInt = (stepZ z 180).toInt + (sumR (stepZ z) (stepZ z 179).toInt.toNat).toInt ∧ ((stepZ z 179).toInt = (z 7).toInt → (stepZ z 180).toInt = 0) ∧ ((stepZ z 183).toInt + (stepZ z 184).toInt = (z 183).toInt + (z 184).toInt + 1 ∧ (z 183).toInt ≤ (stepZ z 183).toInt ∧ (z 184).toInt ≤ (stepZ z 184).toInt) := by
  have ht := RPos_at i ir h7 hw
  obtain ⟨⟨i1, i2⟩, i3, i4⟩ := i
  obtain ⟨j1, j2⟩ := i3 ht
  have h77 := ir.1
  have hc : ∀ k, k < 174 → stepZ z k = z k := fun k hk => stepZ_o z (by omega) (by omega) (by omega) (by omega) (by omega) (by omega)
  have hs := (ir.2 ((z 179).toInt.toNat) (by omega)).1
  have z0 : (0 : Int32).toInt = 0 := by decide
  have t83 : (z 183 + 1).toInt = (z 183).toInt + 1 := xi_add rfl (by decide) (by omega) (by omega)
  have t84 : (z 184 + 1).toInt = (z 184).toInt + 1 := xi_add rfl (by decide) (by omega) (by omega)
  have t80 : (z 180 + 1).toInt = (z 180).toInt + 1 := xi_add rfl (by decide) (by omega) (by omega)
  have t79 : (z 179 + 1).toInt = (z 179).toInt + 1 := xi_add rfl (by decide) (by omega) (by omega)
  by_cases q : skipZ z
  · have e9 : stepZ z 179 = z 179 := by rw [stepZ, if_pos q]; rfl
    have e0 : stepZ z 180 = z 180 := by rw [stepZ, if_pos q]; rfl
    have e3 : stepZ z 183 = z 183 := by rw [stepZ, if_pos q]; rfl
    have e4 : stepZ z 184 = z 184 + 1 := by rw [stepZ, if_pos q]; rfl
    rw [e9, e0, e3, e4, sumR_c hc _ (by omega), t84]
    exact ⟨h, fun h9 => by omega, by omega, by omega, by omega⟩
  · by_cases u : fullZ z
    · have e9 : stepZ z 179 = z 179 + 1 := by rw [stepZ, if_neg q, if_pos u]; rfl
      have e0 : stepZ z 180 = 0 := by rw [stepZ, if_neg q, if_pos u]; rfl
      have e3 : stepZ z 183 = z 183 + 1 := by rw [stepZ, if_neg q, if_pos u]; rfl
      have e4 : stepZ z 184 = z 184 := by rw [stepZ, if_neg q, if_pos u]; rfl
      have hu : (z 180).toInt + 1 = (ofZ z ((z 179).toInt.toNat) 0).toInt := by
        have : z 180 + 1 = ofZ z ((z 179).toInt.toNat) 0 := u
        rw [← this, t80]
      rw [e9, e0, e3, e4, sumR_c hc _ (by omega), t79, t83, z0, show ((z 179).toInt + 1).toNat = (z 179).toInt.toNat + 1 from by omega, sumR_s ir _ (by omega)]
      exact ⟨by omega, fun _ => rfl, by omega, by omega, by omega⟩
    · have e9 : stepZ z 179 = z 179 := by rw [stepZ, if_neg q, if_neg u]; rfl
      have e0 : stepZ z 180 = z 180 + 1 := by rw [stepZ, if_neg q, if_neg u]; rfl
      have e3 : stepZ z 183 = z 183 + 1 := by rw [stepZ, if_neg q, if_neg u]; rfl
      have e4 : stepZ z 184 = z 184 := by rw [stepZ, if_neg q, if_neg u]; rfl
      rw [e9, e0, e3, e4, sumR_c hc _ (by omega), t80, t83]
      exact ⟨by omega, fun h9 => by omega, by omega, by omega, by omega⟩
theorem climb_pp {z : Nat → Int32} (ir : RoadOK z) (ha : (z 179).toInt < (z 7).toInt) (h0 : 0 ≤ (z 179).toInt) : 0 ≤ (climbZ z).toInt ∧ (climbZ z).toInt ≤ 3 := by
  have hs := (ir.2 ((z 179).toInt.toNat) (by omega)).2.1
  unfold climbZ
  split
  · omega
  · decide
/-- a beat keeps InvP; what it does to beats, ticks and steps -/
theorem beat_P {z : Nat → Int32} (i : InvZ z) (p : InvP z) (hc : canZ z) (hw : z 188 = 0) (b : 0 ≤ (z 174).toInt ∧ (z 174).toInt ≤ 2000000) (b86 : 0 ≤ (z 186).toInt ∧ (z 186).toInt ≤ 2000000) : InvP (beatZ z) ∧ (z 175).toInt + (z 0).toInt ≤ (beatZ z 175).toInt ∧ (beatZ z 183).toInt ≤ (z 183).toInt + 1 := by
  have i0 := i
  obtain ⟨is, ig, ir, ip, iq, il⟩ := i
  obtain ⟨p1, ⟨p2, p3, p4, p5⟩, ⟨p6, p7⟩, ⟨p8, p9⟩, ⟨p10, p11⟩, p12, p13⟩ := p
  have lo : ∀ k, k < 174 → beatZ z k = z k := fun k hk => beatZ_lo z hk
  have hcan : canZ (beatZ z) := beat_can hc
  have ht := RPos_at iq ir hc.2 hw
  have hi1 := iq.1
  have h77 := ir.1
  have z0 : (0 : Int32).toInt = 0 := by decide
  have s0 := is.1
  have s3 := is.2.2.2.1
  have bm : (z 174).toInt * (z 0).toInt ≤ 18000000 := by
    calc (z 174).toInt * (z 0).toInt ≤ 2000000 * (z 0).toInt := Int.mul_le_mul_of_nonneg_right b.2 (by omega)
      _ ≤ 18000000 := by omega
  have bm0 : 0 ≤ (z 174).toInt * (z 0).toInt := Int.mul_nonneg b.1 (by omega)
  have t74 : (z 174 + 1).toInt = (z 174).toInt + 1 := xi_add rfl (by decide) (by omega) (by omega)
  have e74 : beatZ z 174 = z 174 + 1 := beat_174 z
  have tT : (z 175 + z 0).toInt = (z 175).toInt + (z 0).toInt := xi_add rfl rfl (by omega) (by omega)
  have pr75 : preZ z 175 = z 175 + z 0 := by unfold preZ; rw [upd_s]
  have pr81 : preZ z 181 = z 181 := preZ_o z (by omega) (by omega) (by omega) (by omega)
  have pr87 : preZ z 187 = z 187 := preZ_o z (by omega) (by omega) (by omega) (by omega)
  have pr3 : preZ z 3 = z 3 := preZ_o z (by omega) (by omega) (by omega) (by omega)
  have pr4 : preZ z 4 = z 4 := preZ_o z (by omega) (by omega) (by omega) (by omega)
  have mul1 : ((z 174).toInt + 1) * (z 0).toInt = (z 174).toInt * (z 0).toInt + (z 0).toInt := by rw [Int.add_mul]; omega
  unfold InvP
  rw [lo 4 (by omega), lo 7 (by omega), lo 0 (by omega), e74, t74, mul1]
  by_cases r : restZ z
  · have e : beatZ z = restsZ z := by rw [beatZ, if_pos r]
    have o : ∀ k, 176 ≤ k → k ≠ 182 → k ≠ 185 → k ≠ 181 → beatZ z k = z k := fun k h1 h2 h3 h4 => by rw [e]; exact restsZ_o z (by omega) (by omega) h2 h3 h4
    have e75 : beatZ z 175 = z 175 + z 0 := by
      rw [e]; unfold restsZ
      rw [upd_n _ _ _ (by omega), upd_n _ _ _ (by omega), pr75]
    have e81 : beatZ z 181 = if (z 181 + z 3).toInt < (z 4).toInt then z 181 + z 3 else z 4 := by
      rw [e]; unfold restsZ
      rw [upd_s, pr81, pr3, pr4]
    have t81 : (z 181 + z 3).toInt = (z 181).toInt + (z 3).toInt := xi_add rfl rfl (by omega) (by omega)
    rw [o 183 (by omega) (by omega) (by omega) (by omega), o 184 (by omega) (by omega) (by omega) (by omega), o 187 (by omega) (by omega) (by omega) (by omega), o 180 (by omega) (by omega) (by omega) (by omega), o 179 (by omega) (by omega) (by omega) (by omega), e75, tT, sumR_c lo _ (by omega)]
    refine ⟨⟨p1, ⟨p2, p3, p4, by omega⟩, ⟨p6, p7⟩, ?_, ⟨by omega, by omega⟩, fun q => absurd hcan q, fun _ => ?_⟩, by omega, by omega⟩
    · rw [e81]
      split <;> omega
    · rw [posV_c lo ig ip hc.1 (o 186 (by omega) (by omega) (by omega) (by omega)) (o 176 (by omega) (by omega) (by omega) (by omega)) (o 177 (by omega) (by omega) (by omega) (by omega)) (o 178 (by omega) (by omega) (by omega) (by omega))]
      exact p13 hc
  · have e : beatZ z = goOnZ (stepZ (singZ z)) := by rw [beatZ, if_neg r]
    have r' : ¬ 0 < (preZ z 182).toInt := r
    have hg : ¬ gaspZ z := by
      intro g
      have : preZ z 182 = z 2 := by rw [preZ, if_pos g]; rfl
      rw [this] at r'
      have := is.2.2.1
      omega
    have p2' : preZ z 182 = z 182 := by rw [preZ, if_neg hg]; rfl
    have z2 : z 182 = 0 := xi_ext (by rw [p2'] at r'; unfold LOK at il; rw [z0]; omega)
    have hcl := climb_pp ir ht hi1.1
    have tn : (needZ z).toInt = 1 + (climbZ z).toInt := xi_add (by decide) rfl (by omega) (by omega)
    have hbr : (needZ z).toInt ≤ (z 181).toInt := by
      have : ¬ (z 181).toInt < (needZ z).toInt := fun hh => hg ⟨z2, hh⟩
      omega
    have sing_o : ∀ k, k ≠ 174 → k ≠ 175 → k ≠ 182 → k ≠ 185 → k ≠ 181 → k ≠ 187 → singZ z k = z k := fun k h1 h2 h3 h4 h5 h6 => singZ_o z h1 h2 h3 h4 h5 h6
    have s82 : singZ z 182 = 0 := by
      unfold singZ
      rw [upd_n _ _ _ (by omega), upd_n _ _ _ (by omega), upd_n _ _ _ (by omega), p2', z2]
    have lw : ∀ k, k < 174 → singZ z k = z k := fun k hk => singZ_o z (by omega) (by omega) (by omega) (by omega) (by omega) (by omega)
    have so : ∀ k, 176 ≤ k → k ≠ 182 → k ≠ 185 → k ≠ 181 → k ≠ 187 → singZ z k = z k := fun k h1 h2 h3 h4 h5 => singZ_o z (by omega) (by omega) h2 h3 h4 h5
    have w6 : SPos (singZ z) := SPos_c lw (so _ (by omega) (by omega) (by omega) (by omega) (by omega)) (so _ (by omega) (by omega) (by omega) (by omega) (by omega)) (so _ (by omega) (by omega) (by omega) (by omega) (by omega)) ig ip
    have h188 : singZ z 188 = z 188 := so _ (by omega) (by omega) (by omega) (by omega) (by omega)
    have w7 : RPos (singZ z) := RPos_c lw (so _ (by omega) (by omega) (by omega) (by omega) (by omega)) (so _ (by omega) (by omega) (by omega) (by omega) (by omega)) h188 ir iq
    have wr := RoadOK_c lw ir
    have wg := SongOK_c lw ig
    have lv : ∀ k, k < 174 → stepZ (singZ z) k = singZ z k := fun k hk => stepZ_o _ (by omega) (by omega) (by omega) (by omega) (by omega) (by omega)
    have vo : ∀ k, k ≠ 179 → k ≠ 180 → k ≠ 183 → k ≠ 184 → k ≠ 188 → k ≠ 189 → stepZ (singZ z) k = singZ z k := fun k h1 h2 h3 h4 h5 h6 => stepZ_o _ h1 h2 h3 h4 h5 h6
    have v6 : SPos (stepZ (singZ z)) := SPos_c lv (vo _ (by omega) (by omega) (by omega) (by omega) (by omega) (by omega)) (vo _ (by omega) (by omega) (by omega) (by omega) (by omega) (by omega)) (vo _ (by omega) (by omega) (by omega) (by omega) (by omega) (by omega)) wg w6
    have vg := SongOK_c lv wg
    have go : ∀ k, k ≠ 176 → k ≠ 177 → k ≠ 178 → k ≠ 182 → k ≠ 186 → beatZ z k = stepZ (singZ z) k := fun k h1 h2 h3 h4 h5 => by rw [e]; exact goOnZ_o _ h1 h2 h3 h4 h5
    have s83 := so 183 (by omega) (by omega) (by omega) (by omega) (by omega)
    have s84 := so 184 (by omega) (by omega) (by omega) (by omega) (by omega)
    have s80 := so 180 (by omega) (by omega) (by omega) (by omega) (by omega)
    have s79 := so 179 (by omega) (by omega) (by omega) (by omega) (by omega)
    have sr := step_road wr w7 (by rw [lw 7 (by omega)]; exact hc.2) (by rw [h188]; exact hw) (by rw [s83]; omega) (by rw [s84]; omega) (by rw [s83, s80, s79, sumR_c lw _ (by omega)]; exact p6)
    rw [s83, s84, lw 7 (by omega)] at sr
    obtain ⟨q1, q2, q3, q4, q5⟩ := sr
    have u6 : SPos (beatZ z) ∧ RPos (beatZ z) := by
      have := beat_inv i0 hc hw
      exact ⟨this.2.2.2.1, this.2.2.2.2.1⟩
    have hb9 := u6.2.1
    rw [lo 7 (by omega)] at hb9
    have g83 := go 183 (by omega) (by omega) (by omega) (by omega) (by omega)
    have g84 := go 184 (by omega) (by omega) (by omega) (by omega) (by omega)
    have g80 := go 180 (by omega) (by omega) (by omega) (by omega) (by omega)
    have g79 := go 179 (by omega) (by omega) (by omega) (by omega) (by omega)
    have e87 : beatZ z 187 = z 187 + 1 := by
      rw [go 187 (by omega) (by omega) (by omega) (by omega) (by omega), vo 187 (by omega) (by omega) (by omega) (by omega) (by omega) (by omega)]
      unfold singZ
      rw [upd_s, pr87]
    have e81 : beatZ z 181 = z 181 - needZ z := by
      rw [go 181 (by omega) (by omega) (by omega) (by omega) (by omega), vo 181 (by omega) (by omega) (by omega) (by omega) (by omega) (by omega)]
      unfold singZ
      rw [upd_n _ _ _ (by omega), upd_n _ _ _ (by omega), upd_s, pr81]
    have e75 : beatZ z 175 = z 175 + z 0 + climbZ z := by
      rw [go 175 (by omega) (by omega) (by omega) (by omega) (by omega), vo 175 (by omega) (by omega) (by omega) (by omega) (by omega) (by omega)]
      unfold singZ
      rw [upd_n _ _ _ (by omega), upd_s, pr75]
    have t87 : (z 187 + 1).toInt = (z 187).toInt + 1 := xi_add rfl (by decide) (by omega) (by omega)
    have t81 : (z 181 - needZ z).toInt = (z 181).toInt - (1 + (climbZ z).toInt) := xi_sub rfl tn (by omega) (by omega)
    have t75 : (z 175 + z 0 + climbZ z).toInt = (z 175).toInt + (z 0).toInt + (climbZ z).toInt := xi_add tT rfl (by omega) (by omega)
    have hsum : sumR (beatZ z) (stepZ (singZ z) 179).toInt.toNat = sumR (stepZ (singZ z)) (stepZ (singZ z) 179).toInt.toNat := by
      have e1 : sumR (beatZ z) (stepZ (singZ z) 179).toInt.toNat = sumR z (stepZ (singZ z) 179).toInt.toNat := sumR_c lo _ (by rw [← g79]; omega)
      have e2 : sumR (stepZ (singZ z)) (stepZ (singZ z) 179).toInt.toNat = sumR z (stepZ (singZ z) 179).toInt.toNat := sumR_c (fun k hk => by rw [lv k hk, lw k hk]) _ (by rw [← g79]; omega)
      rw [e1, e2]
    rw [g83, g84, g80, g79, e87, e81, e75, t87, t81, t75, hsum]
    refine ⟨⟨p1, ⟨by omega, by omega, by omega, by omega⟩, ⟨q1, q2⟩, ⟨by omega, by omega⟩, ⟨by omega, by omega⟩, fun q => absurd hcan q, fun _ => ?_⟩, by omega, by omega⟩
    have v86 : stepZ (singZ z) 186 = z 186 := by
      rw [vo _ (by omega) (by omega) (by omega) (by omega) (by omega) (by omega)]; exact so _ (by omega) (by omega) (by omega) (by omega) (by omega)
    have v66 : stepZ (singZ z) 6 = z 6 := by rw [lv 6 (by omega), lw 6 (by omega)]
    rw [e, posV_go vg v6 (by rw [v66]; exact hc.1) (by rw [v86]; exact b86)]
    have hpz : posV (stepZ (singZ z)) = posV z := posV_c (fun k hk => by rw [lv k hk, lw k hk]) ig ip hc.1 v86 (by rw [vo _ (by omega) (by omega) (by omega) (by omega) (by omega) (by omega)]; exact so _ (by omega) (by omega) (by omega) (by omega) (by omega)) (by rw [vo _ (by omega) (by omega) (by omega) (by omega) (by omega) (by omega)]; exact so _ (by omega) (by omega) (by omega) (by omega) (by omega)) (by rw [vo _ (by omega) (by omega) (by omega) (by omega) (by omega) (by omega)]; exact so _ (by omega) (by omega) (by omega) (by omega) (by omega))
    rw [hpz, p13 hc]
/-- so does a march; it lasts walkN beats, each of them at least z 0 ticks and at most a step -/
theorem walk_P : ∀ (n : Nat) (z : Nat → Int32), InvZ z → InvP z → canZ z → 0 ≤ (z 174).toInt → (z 174).toInt + n ≤ 1000000 → 0 ≤ (z 186).toInt → (z 186).toInt + n ≤ 1000000 → InvP (walkZ n z) ∧ (z 175).toInt + walkN n z * (z 0).toInt ≤ (walkZ n z 175).toInt ∧ (walkZ n z 183).toInt ≤ (z 183).toInt + walkN n z
  | 0, z, i, p, _, _, _, _, _ => by
    show InvP z ∧ (z 175).toInt + ((0 : Nat) : Int) * (z 0).toInt ≤ (z 175).toInt ∧ (z 183).toInt ≤ (z 183).toInt + ((0 : Nat) : Int)
    refine ⟨p, ?_, by omega⟩
    rw [show ((0 : Nat) : Int) = 0 from rfl, Int.zero_mul]
    omega
  | n + 1, z, i, p, c, b1, b2, b3, b4 => by
    rw [walkZ, walkN]
    split
    · next h =>
      obtain ⟨q1, q2, q3⟩ := beat_P i p c h ⟨b1, by omega⟩ ⟨b3, by omega⟩
      have h1 : (beatZ z 174).toInt = (z 174).toInt + 1 := by rw [beat_174]; exact xi_add rfl (by decide) (by omega) (by omega)
      have h2 := song_iff (z := z) ⟨b3, by omega⟩
      obtain ⟨r1, r2, r3⟩ := walk_P n (beatZ z) (beat_inv i c h) q1 (beat_can c) (by omega) (by omega) (by omega) (by omega)
      have e0 : beatZ z 0 = z 0 := beatZ_lo z (by omega)
      rw [e0] at r2
      refine ⟨r1, ?_, by omega⟩
      have : ((walkN n (beatZ z) + 1 : Nat) : Int) * (z 0).toInt = (walkN n (beatZ z) : Int) * (z 0).toInt + (z 0).toInt := by
        rw [show ((walkN n (beatZ z) + 1 : Nat) : Int) = (walkN n (beatZ z) : Int) + 1 from by omega, Int.add_mul]
        omega
      omega
    · refine ⟨p, ?_, by omega⟩
      rw [show ((0 : Nat) : Int) = 0 from rfl, Int.zero_mul]
      omega
/-! marching on by parts -/
theorem walk_apd : ∀ (p d : Nat) (z : Nat → Int32), walkZ (p + d) z = walkZ d (walkZ p z) ∧ walkN (p + d) z = walkN p z + walkN d (walkZ p z)
  | 0, d, z => by
    rw [Nat.zero_add]
    exact ⟨rfl, by show walkN d z = 0 + walkN d z; omega⟩
  | p + 1, d, z => by
    rw [show p + 1 + d = (p + d) + 1 from by omega, walkZ, walkN, walkZ, walkN]
    by_cases h : z 188 = 0
    · rw [if_pos h, if_pos h, if_pos h, if_pos h]
      obtain ⟨h1, h2⟩ := walk_apd p d (beatZ z)
      rw [h1, h2]
      exact ⟨rfl, by omega⟩
    · rw [if_neg h, if_neg h, if_neg h, if_neg h]
      cases d with
      | zero => exact ⟨rfl, rfl⟩
      | succ d => rw [walkZ, walkN, if_neg h, if_neg h]; exact ⟨rfl, rfl⟩
theorem walk_full : ∀ (p : Nat) (z : Nat → Int32), walkZ p z 188 = 0 → walkN p z = p
  | 0, z, _ => rfl
  | p + 1, z, h => by
    rw [walkZ] at h
    rw [walkN]
    by_cases q : z 188 = 0
    · rw [if_pos q] at h ⊢
      rw [walk_full p _ h]
    · rw [if_neg q] at h
      exact absurd h q
theorem walk_stop {d : Nat} {z : Nat → Int32} (h : ¬ z 188 = 0) : walkZ d z = z ∧ walkN d z = 0 := by
  cases d with
  | zero => exact ⟨rfl, rfl⟩
  | succ d => rw [walkZ, walkN, if_neg h, if_neg h]; exact ⟨rfl, rfl⟩
theorem walk_some {d : Nat} {z : Nat → Int32} (h : z 188 = 0) (h2 : ¬ walkZ d z 188 = 0) : 1 ≤ walkN d z := by
  cases d with
  | zero => exact absurd h h2
  | succ d => rw [walkN, if_pos h]; omega
theorem walked01 {z : Nat → Int32} (i : InvZ z) : z 188 = 0 ∨ z 188 = 1 := by
  have := i.2.2.2.2.1.2.2
  rw [this]
  split
  · exact Or.inr rfl
  · exact Or.inl rfl
/-- the beats of march beside those until the road is walked -/
theorem march_until {z : Nat → Int32} {p : Nat} (i : InvZ z) (hc : canZ z) (hp : p ≤ 500) :
    (walkZ 5000 z 188 = 1 ∧ ((walkZ p z 188 = 1 ∧ walkN p z = walkN 5000 z) ∨ (walkZ p z 188 = 0 ∧ walkN p z = p ∧ p < walkN 5000 z))) ∨ (walkZ 5000 z 188 = 0 ∧ walkZ p z 188 = 0 ∧ walkN p z = p) := by
  have h1 := walked01 (walk_inv p i hc)
  have h2 := walked01 (walk_inv 5000 i hc)
  obtain ⟨a1, a2⟩ := walk_apd p (5000 - p) z
  rw [show p + (5000 - p) = 5000 from by omega] at a1 a2
  rcases h1 with h1 | h1
  · have f := walk_full p z h1
    rcases h2 with h2 | h2
    · exact Or.inr ⟨h2, h1, f⟩
    · refine Or.inl ⟨h2, Or.inr ⟨h1, f, ?_⟩⟩
      have := walk_some (d := 5000 - p) h1 (by rw [← a1, h2]; decide)
      omega
  · have n1 : ¬ walkZ p z 188 = 0 := by rw [h1]; decide
    obtain ⟨e1, e2⟩ := walk_stop (d := 5000 - p) n1
    refine Or.inl ⟨by rw [a1, e1, h1], Or.inl ⟨h1, ?_⟩⟩
    rw [a2, e2]
    omega
theorem togR_in : ∀ (b : Nat) (n : Int32) (z : Nat → Int32), 0 ≤ n.toInt → n.toInt + b ≤ 100000 → togR b n z = -6 ∨ (n.toInt < (togR b n z).toInt ∧ (togR b n z).toInt ≤ n.toInt + walkN b z)
  | 0, _, _, _, _ => Or.inl rfl
  | b + 1, n, z, h0, h1 => by
    have t1 : (n + 1).toInt = n.toInt + 1 := xi_add rfl (by decide) (by omega) (by omega)
    rw [togR, walkN]
    by_cases q : z 188 = 0
    · rw [if_pos q, if_pos q]
      by_cases r : endG z ∧ endS z
      · rw [if_pos r]
        exact Or.inr (by omega)
      · rw [if_neg r]
        rcases togR_in b (n + 1) (beatZ z) (by omega) (by omega) with h | h
        · exact Or.inl h
        · exact Or.inr (by omega)
    · rw [if_neg q]
      exact Or.inl rfl
