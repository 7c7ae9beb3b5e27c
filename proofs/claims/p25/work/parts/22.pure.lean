/-! ===== the class's cells and the model's places ===== -/
def RSet (sv z : Nat → Int32) : Prop := ∀ k, k < 6 → sv k = z k
def RSong (gn : Int32) (ft bt mk z : Nat → Int32) : Prop := gn = z 6 ∧ ∀ l : Nat, (l : Int) < (z 6).toInt → ft l = z (8 + l) ∧ ∀ f : Nat, (f : Int) < (z (8 + l)).toInt → bt (12 * l + f) = btZ z l f ∧ mk (12 * l + f) = if mkZ z l f then 1 else 0
def RRoad (rn : Int32) (st sl md z : Nat → Int32) : Prop := rn = z 7 ∧ ∀ s : Nat, (s : Int) < (z 7).toInt → st s = ofZ z s 0 ∧ sl s = ofZ z s 1 ∧ md s = ofZ z s 2
theorem hasL_iff {gn : Int32} {ft bt mk z : Nat → Int32} (h : RSong gn ft bt mk z) (ig : SongOK z) (p : Int32) : hasL gn p ↔ lineC z p := by
  have := ig.1
  unfold hasL lineC
  rw [h.1]
  omega
theorem hasF_iff {gn : Int32} {ft bt mk z : Nat → Int32} (h : RSong gn ft bt mk z) (ig : SongOK z) (p f : Int32) : hasF gn ft p f ↔ footC z p f := by
  have h1 := hasL_iff h ig p
  unfold hasF footC
  rw [h1]
  constructor
  · rintro ⟨g1, g2, g3, g4⟩
    rw [(h.2 p.toInt.toNat (by have := g1.1; have := g1.2; omega)).1] at g3
    exact ⟨g1, g2, g3⟩
  · rintro ⟨g1, g2, g3⟩
    have q := g1.1
    have q2 := g1.2
    have := (ig.2 p.toInt.toNat (by omega)).1
    exact ⟨g1, g2, by rw [(h.2 p.toInt.toNat (by omega)).1]; exact g3, by omega⟩
theorem beatsOf_z {gn : Int32} {ft bt mk z : Nat → Int32} (h : RSong gn ft bt mk z) (ig : SongOK z) (p f : Int32) : (if hasF gn ft p f then bt (12 * p.toInt.toNat + f.toInt.toNat) else 0) = if footC z p f then btZ z p.toInt.toNat f.toInt.toNat else 0 := by
  by_cases c : footC z p f
  · rw [if_pos c, if_pos ((hasF_iff h ig p f).mpr c)]
    obtain ⟨⟨c1, c2⟩, c3, c4⟩ := c
    exact ((h.2 p.toInt.toNat (by omega)).2 f.toInt.toNat (by omega)).1
  · rw [if_neg c, if_neg (fun q => c ((hasF_iff h ig p f).mp q))]
theorem marked_z {gn : Int32} {ft bt mk z : Nat → Int32} (h : RSong gn ft bt mk z) (ig : SongOK z) (p f : Int32) : (hasF gn ft p f ∧ ¬ mk (12 * p.toInt.toNat + f.toInt.toNat) = 0) ↔ (footC z p f ∧ mkZ z p.toInt.toNat f.toInt.toNat) := by
  rw [hasF_iff h ig p f]
  constructor
  · rintro ⟨c, q⟩
    refine ⟨c, ?_⟩
    obtain ⟨⟨c1, c2⟩, c3, c4⟩ := c
    rw [((h.2 p.toInt.toNat (by omega)).2 f.toInt.toNat (by omega)).2] at q
    exact ite10 q
  · rintro ⟨c, q⟩
    refine ⟨c, ?_⟩
    obtain ⟨⟨c1, c2⟩, c3, c4⟩ := c
    rw [((h.2 p.toInt.toNat (by omega)).2 f.toInt.toNat (by omega)).2, if_pos q]
    decide
theorem feetOf_z {gn : Int32} {ft bt mk z : Nat → Int32} (h : RSong gn ft bt mk z) (ig : SongOK z) (p : Int32) : (if hasL gn p then ft p.toInt.toNat else 0) = if lineC z p then z (8 + p.toInt.toNat) else 0 := by
  by_cases c : lineC z p
  · rw [if_pos c, if_pos ((hasL_iff h ig p).mpr c)]
    obtain ⟨c1, c2⟩ := c
    exact (h.2 p.toInt.toNat (by omega)).1
  · rw [if_neg c, if_neg (fun q => c ((hasL_iff h ig p).mp q))]
theorem hasS_iff {rn : Int32} {st sl md z : Nat → Int32} (h : RRoad rn st sl md z) (ir : RoadOK z) (p : Int32) : hasS rn p ↔ strC z p := by
  have := ir.1
  unfold hasS strC
  rw [h.1]
  omega
def blZ (z : Nat → Int32) (p : Int32) (k : Nat) : Int32 := if lineC z p then sumB z p.toInt.toNat (min k (z (8 + p.toInt.toNat)).toInt.toNat) else 0
def mlZ (z : Nat → Int32) (p : Int32) (k : Nat) : Int32 := if lineC z p then cntM z p.toInt.toNat (min k (z (8 + p.toInt.toNat)).toInt.toNat) else 0
theorem i_add0 (x : Int32) : x + 0 = x := Int32.add_zero x
theorem blZ_0 (z : Nat → Int32) (p : Int32) : blZ z p 0 = 0 := by
  unfold blZ
  rw [Nat.zero_min, sumB]
  split <;> rfl
theorem mlZ_0 (z : Nat → Int32) (p : Int32) : mlZ z p 0 = 0 := by
  unfold mlZ
  rw [Nat.zero_min, cntM]
  split <;> rfl
theorem blZ_s (z : Nat → Int32) (p k : Int32) (hk : 0 ≤ k.toInt) : blZ z p (k.toInt.toNat + 1) = blZ z p k.toInt.toNat + (if footC z p k then btZ z p.toInt.toNat k.toInt.toNat else 0) := by
  unfold blZ
  by_cases c : lineC z p
  · rw [if_pos c, if_pos c]
    by_cases d : footC z p k
    · have := d.2.2
      rw [if_pos d, show min (k.toInt.toNat + 1) (z (8 + p.toInt.toNat)).toInt.toNat = k.toInt.toNat + 1 from by omega, show min k.toInt.toNat (z (8 + p.toInt.toNat)).toInt.toNat = k.toInt.toNat from by omega, sumB]
    · have : ¬ k.toInt < (z (8 + p.toInt.toNat)).toInt := fun q => d ⟨c, hk, q⟩
      rw [if_neg d, i_add0, show min (k.toInt.toNat + 1) (z (8 + p.toInt.toNat)).toInt.toNat = min k.toInt.toNat (z (8 + p.toInt.toNat)).toInt.toNat from by omega]
  · rw [if_neg c, if_neg c, if_neg (fun d => c d.1)]; rfl
theorem mlZ_s (z : Nat → Int32) (p k : Int32) (hk : 0 ≤ k.toInt) : mlZ z p (k.toInt.toNat + 1) = mlZ z p k.toInt.toNat + (if footC z p k ∧ mkZ z p.toInt.toNat k.toInt.toNat then 1 else 0) := by
  unfold mlZ
  by_cases c : lineC z p
  · rw [if_pos c, if_pos c]
    by_cases d : footC z p k
    · have := d.2.2
      rw [show min (k.toInt.toNat + 1) (z (8 + p.toInt.toNat)).toInt.toNat = k.toInt.toNat + 1 from by omega, show min k.toInt.toNat (z (8 + p.toInt.toNat)).toInt.toNat = k.toInt.toNat from by omega, cntM]
      by_cases g : mkZ z p.toInt.toNat k.toInt.toNat
      · rw [if_pos g, if_pos ⟨d, g⟩]
      · rw [if_neg g, if_neg (fun q => g q.2)]
    · have : ¬ k.toInt < (z (8 + p.toInt.toNat)).toInt := fun q => d ⟨c, hk, q⟩
      rw [if_neg (fun q => d q.1), i_add0, show min (k.toInt.toNat + 1) (z (8 + p.toInt.toNat)).toInt.toNat = min k.toInt.toNat (z (8 + p.toInt.toNat)).toInt.toNat from by omega]
  · rw [if_neg c, if_neg c, if_neg (fun d => c d.1.1)]; rfl
theorem blZ_e {z : Nat → Int32} (ig : SongOK z) (p : Int32) : blZ z p 12 = if lineC z p then sungL z p.toInt.toNat else 0 := by
  unfold blZ
  by_cases c : lineC z p
  · obtain ⟨c1, c2⟩ := id c
    have := (ig.2 p.toInt.toNat (by omega)).1
    rw [if_pos c, if_pos c, sungL, show min 12 (z (8 + p.toInt.toNat)).toInt.toNat = (z (8 + p.toInt.toNat)).toInt.toNat from by omega]
  · rw [if_neg c, if_neg c]
theorem mlZ_e {z : Nat → Int32} (ig : SongOK z) (p : Int32) : mlZ z p 12 = if lineC z p then marksL z p.toInt.toNat else 0 := by
  unfold mlZ
  by_cases c : lineC z p
  · obtain ⟨c1, c2⟩ := id c
    have := (ig.2 p.toInt.toNat (by omega)).1
    rw [if_pos c, if_pos c, marksL, show min 12 (z (8 + p.toInt.toNat)).toInt.toNat = (z (8 + p.toInt.toNat)).toInt.toNat from by omega]
  · rw [if_neg c, if_neg c]
theorem sumS_m (z : Nat → Int32) (k : Int32) (hk : 0 ≤ k.toInt) : sumS z (min (k.toInt.toNat + 1) (z 6).toInt.toNat) = sumS z (min k.toInt.toNat (z 6).toInt.toNat) + (if lineC z k then sungL z k.toInt.toNat else 0) := by
  by_cases d : lineC z k
  · have := d.2
    rw [if_pos d, show min (k.toInt.toNat + 1) (z 6).toInt.toNat = k.toInt.toNat + 1 from by omega, show min k.toInt.toNat (z 6).toInt.toNat = k.toInt.toNat from by omega, sumS]
  · have : ¬ k.toInt < (z 6).toInt := fun q => d ⟨hk, q⟩
    rw [if_neg d, i_add0, show min (k.toInt.toNat + 1) (z 6).toInt.toNat = min k.toInt.toNat (z 6).toInt.toNat from by omega]
theorem sumM_m (z : Nat → Int32) (k : Int32) (hk : 0 ≤ k.toInt) : sumM z (min (k.toInt.toNat + 1) (z 6).toInt.toNat) = sumM z (min k.toInt.toNat (z 6).toInt.toNat) + (if lineC z k then marksL z k.toInt.toNat else 0) := by
  by_cases d : lineC z k
  · have := d.2
    rw [if_pos d, show min (k.toInt.toNat + 1) (z 6).toInt.toNat = k.toInt.toNat + 1 from by omega, show min k.toInt.toNat (z 6).toInt.toNat = k.toInt.toNat from by omega, sumM]
  · have : ¬ k.toInt < (z 6).toInt := fun q => d ⟨hk, q⟩
    rw [if_neg d, i_add0, show min (k.toInt.toNat + 1) (z 6).toInt.toNat = min k.toInt.toNat (z 6).toInt.toNat from by omega]
theorem sumR_m (z : Nat → Int32) (k : Int32) (hk : 0 ≤ k.toInt) : sumR z (min (k.toInt.toNat + 1) (z 7).toInt.toNat) = sumR z (min k.toInt.toNat (z 7).toInt.toNat) + (if strC z k then ofZ z k.toInt.toNat 0 else 0) := by
  by_cases d : strC z k
  · have := d.2
    rw [if_pos d, show min (k.toInt.toNat + 1) (z 7).toInt.toNat = k.toInt.toNat + 1 from by omega, show min k.toInt.toNat (z 7).toInt.toNat = k.toInt.toNat from by omega, sumR]
  · have : ¬ k.toInt < (z 7).toInt := fun q => d ⟨hk, q⟩
    rw [if_neg d, i_add0, show min (k.toInt.toNat + 1) (z 7).toInt.toNat = min k.toInt.toNat (z 7).toInt.toNat from by omega]
theorem stepsOf_z {rn : Int32} {st sl md z : Nat → Int32} (h : RRoad rn st sl md z) (ir : RoadOK z) (p : Int32) : (if hasS rn p then st p.toInt.toNat else 0) = if strC z p then ofZ z p.toInt.toNat 0 else 0 := by
  by_cases c : strC z p
  · rw [if_pos c, if_pos ((hasS_iff h ir p).mpr c)]
    obtain ⟨c1, c2⟩ := c
    exact (h.2 p.toInt.toNat (by omega)).1
  · rw [if_neg c, if_neg (fun q => c ((hasS_iff h ir p).mp q))]
theorem slopeOf_z {rn : Int32} {st sl md z : Nat → Int32} (h : RRoad rn st sl md z) (ir : RoadOK z) (p : Int32) : (if hasS rn p then sl p.toInt.toNat else 0) = if strC z p then ofZ z p.toInt.toNat 1 else 0 := by
  by_cases c : strC z p
  · rw [if_pos c, if_pos ((hasS_iff h ir p).mpr c)]
    obtain ⟨c1, c2⟩ := c
    exact (h.2 p.toInt.toNat (by omega)).2.1
  · rw [if_neg c, if_neg (fun q => c ((hasS_iff h ir p).mp q))]
theorem muddy_z {rn : Int32} {st sl md z : Nat → Int32} (h : RRoad rn st sl md z) (ir : RoadOK z) (p : Int32) : (hasS rn p ∧ ¬ md p.toInt.toNat = 0) ↔ (strC z p ∧ ofZ z p.toInt.toNat 2 = 1) := by
  rw [hasS_iff h ir p]
  constructor
  · rintro ⟨c, q⟩
    refine ⟨c, ?_⟩
    obtain ⟨c1, c2⟩ := c
    rw [(h.2 p.toInt.toNat (by omega)).2.2] at q
    exact xi_z q (ir.2 p.toInt.toNat (by omega)).2.2
  · rintro ⟨c, q⟩
    refine ⟨c, ?_⟩
    obtain ⟨c1, c2⟩ := c
    rw [(h.2 p.toInt.toNat (by omega)).2.2, q]
    decide
