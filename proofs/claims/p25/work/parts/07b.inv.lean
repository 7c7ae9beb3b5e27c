theorem step_inv {z : Nat → Int32} (ir : RoadOK z) (i : RPos z) (h7 : 0 < (z 7).toInt) (hw : z 188 = 0) : RPos (stepZ z) := by
  have ht := RPos_at i ir h7 hw
  obtain ⟨⟨i1, i2⟩, i3, i4⟩ := i
  obtain ⟨j1, j2⟩ := i3 ht
  obtain ⟨k1, k2⟩ := ir
  have hc : ∀ k, k < 174 → stepZ z k = z k := fun k hk => stepZ_o z (by omega) (by omega) (by omega) (by omega) (by omega) (by omega)
  have hs := (k2 ((z 179).toInt.toNat) (by omega)).1
  have h7' : stepZ z 7 = z 7 := hc 7 (by omega)
  unfold RPos
  rw [h7']
  by_cases q : skipZ z
  · have e9 : stepZ z 179 = z 179 := by rw [stepZ, if_pos q]; rfl
    have e0 : stepZ z 180 = z 180 := by rw [stepZ, if_pos q]; rfl
    have e8 : stepZ z 188 = z 188 := by rw [stepZ, if_pos q]; rfl
    rw [e9, e0, e8, ofZ_congr hc (by omega) (by omega)]
    exact ⟨⟨i1, i2⟩, fun _ => ⟨j1, j2⟩, i4⟩
  · by_cases u : fullZ z
    · have e9 : stepZ z 179 = z 179 + 1 := by rw [stepZ, if_neg q, if_pos u]; rfl
      have e0 : stepZ z 180 = 0 := by rw [stepZ, if_neg q, if_pos u]; rfl
      have e8 : stepZ z 188 = if z 179 + 1 = z 7 then 1 else 0 := by rw [stepZ, if_neg q, if_pos u]; rfl
      have t9 : (z 179 + 1).toInt = (z 179).toInt + 1 := xi_add rfl (by decide) (by omega) (by omega)
      rw [e9, e0, e8, t9]
      refine ⟨⟨by omega, by omega⟩, fun hlt => ⟨by decide, ?_⟩, ?_⟩
      · rw [ofZ_congr hc (by omega) (by omega)]
        have := (k2 ((z 179 + 1).toInt.toNat) (by omega)).1
        have z0 : (0 : Int32).toInt = 0 := by decide
        rw [t9] at this
        rw [z0]; omega
      · by_cases v : z 179 + 1 = z 7
        · rw [if_pos v, if_pos ⟨h7, by rw [← v, t9]⟩]
        · rw [if_neg v, if_neg (fun hh => v (xi_ext (by rw [t9, hh.2])))]
    · have e9 : stepZ z 179 = z 179 := by rw [stepZ, if_neg q, if_neg u]; rfl
      have e0 : stepZ z 180 = z 180 + 1 := by rw [stepZ, if_neg q, if_neg u]; rfl
      have e8 : stepZ z 188 = z 188 := by rw [stepZ, if_neg q, if_neg u]; rfl
      have t0 : (z 180 + 1).toInt = (z 180).toInt + 1 := xi_add rfl (by decide) (by omega) (by omega)
      rw [e9, e0, e8, ofZ_congr hc (by omega) (by omega), t0]
      refine ⟨⟨i1, i2⟩, fun _ => ⟨by omega, ?_⟩, i4⟩
      have hu : ¬ (z 180 + 1).toInt = (ofZ z ((z 179).toInt.toNat) 0).toInt := fun hh => u (xi_ext hh)
      omega
