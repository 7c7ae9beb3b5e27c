theorem SPos_c {z w : Nat → Int32} (h : ∀ k, k < 174 → w k = z k) (h6 : w 176 = z 176) (h7 : w 177 = z 177) (h8 : w 178 = z 178) (ig : SongOK z) (i : SPos z) : SPos w := by
  have hg := ig.1
  unfold SPos at *
  rw [h6, h7, h8, h 6 (by omega)]
  refine ⟨i.1, i.2.1, i.2.2.1, fun h0 => ?_⟩
  obtain ⟨j1, j2, j3⟩ := i.2.2.2 h0
  rw [h _ (by omega), btZ_congr h (by omega) (by omega)]
  exact ⟨j1, j2, j3⟩
theorem RPos_c {z w : Nat → Int32} (h : ∀ k, k < 174 → w k = z k) (h6 : w 179 = z 179) (h7 : w 180 = z 180) (h8 : w 188 = z 188) (ir : RoadOK z) (i : RPos z) : RPos w := by
  have hg := ir.1
  unfold RPos at *
  rw [h6, h7, h8, h 7 (by omega)]
  refine ⟨i.1, fun h0 => ?_, i.2.2⟩
  rw [ofZ_congr h (by omega) (by omega)]
  exact i.2.1 h0
