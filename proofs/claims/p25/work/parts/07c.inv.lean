theorem goOn_inv {z : Nat → Int32} (is : SetOK z) (ig : SongOK z) (i : SPos z) (h6 : 0 < (z 6).toInt) (h182 : z 182 = 0) : SPos (goOnZ z) ∧ LOK (goOnZ z) := by
  obtain ⟨⟨i1, i2⟩, ⟨i3, i4⟩, i5, i6⟩ := i
  obtain ⟨j1, j2, j3⟩ := i6 h6
  have hc : ∀ k, k < 174 → goOnZ z k = z k := fun k hk => goOnZ_o z (by omega) (by omega) (by omega) (by omega) (by omega)
  have hb := btZ_in ig (l := (z 176).toInt.toNat) (f := (z 177).toInt.toNat) (by omega) (by omega)
  have hL := (ig.2 ((z 176).toInt.toNat) (by omega)).1
  have t8 : (z 178 + 1).toInt = (z 178).toInt + 1 := xi_add rfl (by decide) (by omega) (by omega)
  have t7 : (z 177 + 1).toInt = (z 177).toInt + 1 := xi_add rfl (by decide) (by omega) (by omega)
  have t6 : (z 176 + 1).toInt = (z 176).toInt + 1 := xi_add rfl (by decide) (by omega) (by omega)
  have z0 : (0 : Int32).toInt = 0 := by decide
  have hg1 := ig.1
  unfold SPos LOK
  rw [hc 6 (by omega)]
  by_cases q : inFootZ z
  · have e6 : goOnZ z 176 = z 176 := by rw [goOnZ, if_pos q]; rfl
    have e7 : goOnZ z 177 = z 177 := by rw [goOnZ, if_pos q]; rfl
    have e8 : goOnZ z 178 = z 178 + 1 := by rw [goOnZ, if_pos q]; rfl
    have e2 : goOnZ z 182 = z 182 := by rw [goOnZ, if_pos q]; rfl
    skip
    rw [e6, e7, e8, e2, hc _ (by omega), btZ_congr hc (by omega) (by omega), h182, z0]
    exact ⟨⟨⟨i1, i2⟩, ⟨i3, i4⟩, by omega, fun _ => ⟨j1, j2, q⟩⟩, by omega, by omega⟩
  · have f6 : footEZ z 176 = z 176 := footEZ_o z (by omega) (by omega) (by omega)
    have f7 : footEZ z 177 = z 177 + 1 := by rw [footEZ]; rfl
    have f8 : footEZ z 178 = 0 := by rw [footEZ]; rfl
    have f2 : footEZ z 182 = if mkZ z ((z 176).toInt.toNat) ((z 177).toInt.toNat) then z 1 else 0 := by rw [footEZ]; rfl
    have l2 : goOnZ z 182 = footEZ z 182 := by
      rw [goOnZ, if_neg q]
      split
      · rw [upd_n _ _ _ (by omega), upd_n _ _ _ (by omega), lineEZ]; split <;> simp [upd]
      · rw [lineEZ]; split <;> simp [upd]
    have l8 : goOnZ z 178 = footEZ z 178 := by
      rw [goOnZ, if_neg q]
      split
      · rw [upd_n _ _ _ (by omega), upd_n _ _ _ (by omega), lineEZ]; split <;> simp [upd]
      · rw [lineEZ]; split <;> simp [upd]
    have hL2 : 0 ≤ (goOnZ z 182).toInt ∧ (goOnZ z 182).toInt ≤ 9 := by
      rw [l2, f2]
      have := is.2.1
      split
      · exact this
      · rw [z0]; omega
    have h12 : ∀ l : Nat, (l : Int) < (z 6).toInt → 0 < (z (8 + l)).toInt ∧ (0 : Int) < (btZ z l 0).toInt := by
      intro l hl
      have := (ig.2 l hl).1
      exact ⟨by omega, by have := btZ_in ig (l := l) (f := 0) hl (by omega); omega⟩
    refine ⟨?_, hL2⟩
    rw [l8, f8, z0]
    by_cases u : inLineZ z
    · have lz : lineEZ z = footEZ z := by rw [lineEZ, if_pos u]
      have s6 : ¬ songEZ z := by
        show ¬ lineEZ z 176 = z 6
        rw [lz, f6]
        intro hh
        rw [hh] at j1
        omega
      have e6 : goOnZ z 176 = z 176 := by rw [goOnZ, if_neg q, if_neg s6, lz, f6]
      have e7 : goOnZ z 177 = z 177 + 1 := by rw [goOnZ, if_neg q, if_neg s6, lz, f7]
      skip
      have hu : ¬ (z 177 + 1).toInt = (z (8 + (z 176).toInt.toNat)).toInt := fun hh => u (xi_ext hh)
      have hlt : (z 177 + 1).toInt < (z (8 + (z 176).toInt.toNat)).toInt := by omega
      rw [e6, e7, hc _ (by omega), btZ_congr hc (by omega) (by omega)]
      have hb2 := btZ_in ig (l := (z 176).toInt.toNat) (f := (z 177 + 1).toInt.toNat) (by omega) (by omega)
      exact ⟨⟨i1, i2⟩, ⟨by omega, by omega⟩, by omega, fun _ => ⟨j1, hlt, by omega⟩⟩
    · have lz : lineEZ z = upd (upd (footEZ z) 177 0) 176 (z 176 + 1) := by rw [lineEZ, if_neg u]
      have l6 : lineEZ z 176 = z 176 + 1 := by rw [lz]; rfl
      have l7 : lineEZ z 177 = 0 := by rw [lz]; rfl
      by_cases s6 : songEZ z
      · have e6 : goOnZ z 176 = 0 := by rw [goOnZ, if_neg q, if_pos s6]; rfl
        have e7 : goOnZ z 177 = 0 := by rw [goOnZ, if_neg q, if_pos s6, upd_n _ _ _ (by omega), upd_n _ _ _ (by omega), l7]
        skip
        have n0 : (0 : Int32).toInt.toNat = 0 := by decide
        rw [e6, e7, n0, z0, hc _ (by omega), btZ_congr hc (by omega) (by omega)]
        have := h12 0 (by omega)
        exact ⟨⟨by omega, by omega⟩, ⟨by omega, by omega⟩, by omega, fun _ => ⟨by omega, this.1, this.2⟩⟩
      · have e6 : goOnZ z 176 = z 176 + 1 := by rw [goOnZ, if_neg q, if_neg s6, l6]
        have e7 : goOnZ z 177 = 0 := by rw [goOnZ, if_neg q, if_neg s6, l7]
        skip
        have n0 : (0 : Int32).toInt.toNat = 0 := by decide
        have hs : ¬ (z 176 + 1).toInt = (z 6).toInt := fun hh => s6 (show lineEZ z 176 = z 6 by rw [l6]; exact xi_ext hh)
        rw [e6, e7, n0, z0, hc _ (by omega), btZ_congr hc (by omega) (by omega)]
        have := h12 ((z 176 + 1).toInt.toNat) (by omega)
        exact ⟨⟨by omega, by omega⟩, ⟨by omega, by omega⟩, by omega, fun _ => ⟨by omega, this.1, this.2⟩⟩
