/-! ===== isMarch ===== -/
theorem walked_at {z : Nat → Int32} (i : InvZ z) (h : z 188 = 1) : 0 < (z 7).toInt ∧ (z 179).toInt = (z 7).toInt := by
  have r := i.2.2.2.2.1.2.2
  exact Decidable.byContradiction (fun h9 => by rw [if_neg h9, h] at r; exact absurd r (by decide))
theorem notwalked_at {z : Nat → Int32} (i : InvZ z) (h : z 188 = 0) : ¬ (0 < (z 7).toInt ∧ (z 179).toInt = (z 7).toInt) := fun h9 => by
  have r := i.2.2.2.2.1.2.2
  rw [if_pos h9, h] at r
  exact absurd r (by decide)
theorem walked_t {z : Nat → Int32} (i : InvZ z) : ((z 188).toInt = 0 ∧ z 188 = 0) ∨ ((z 188).toInt = 1 ∧ z 188 = 1) := by
  rcases walked01 i with h | h
  · exact Or.inl ⟨by rw [h]; decide, h⟩
  · exact Or.inr ⟨by rw [h]; decide, h⟩
theorem road_le {z : Nat → Int32} (i : InvZ z) (p : InvP z) : (z 183).toInt ≤ (sumR z (z 7).toInt.toNat).toInt := by
  obtain ⟨-, -, ⟨p6, p7⟩, -⟩ := p
  have ir := i.2.2.1
  obtain ⟨⟨i1, i2⟩, i3, -⟩ := i.2.2.2.2.1
  have h7 := ir.1
  by_cases e : (z 179).toInt = (z 7).toInt
  · have := p7 e
    rw [show (z 7).toInt.toNat = (z 179).toInt.toNat from by omega]
    omega
  · obtain ⟨j1, j2⟩ := i3 (by omega)
    have h1 := sumR_s ir (z 179).toInt.toNat (by omega)
    have h2 := sumR_mono ir ((z 179).toInt.toNat + 1) (z 7).toInt.toNat (by omega) (by omega)
    omega
theorem walked_all {z : Nat → Int32} (i : InvZ z) (p : InvP z) (h : z 188 = 1) : (z 183).toInt = (sumR z (z 7).toInt.toNat).toInt := by
  obtain ⟨-, -, ⟨p6, p7⟩, -⟩ := p
  obtain ⟨h1, h2⟩ := walked_at i h
  have := p7 h2
  have h7 := i.2.2.1.1
  rw [show (z 7).toInt.toNat = (z 179).toInt.toNat from by omega]
  omega
theorem until_is {z : Nat → Int32} (i : InvZ z) (p : InvP z) (c : canZ z) (b : 0 ≤ (z 174).toInt ∧ (z 174).toInt ≤ 100000) (b6 : 0 ≤ (z 186).toInt ∧ (z 186).toInt ≤ 100000) {r : Int32} (h : r = untR z 0) :
    (((z 188).toInt = 1 ∧ r.toInt = 0) ∨ ((z 188).toInt = 0 ∧ (r.toInt = -6 ∨ (1 ≤ r.toInt ∧ r.toInt ≤ 5000)))) ∧ ((r.toInt = -6 ∧ walkZ 5000 z 188 = 0) ∨ (walkZ 5000 z 188 = 1 ∧ r.toInt = (walkN 5000 z : Int) ∧ (sumR z (z 7).toInt.toNat).toInt - (z 183).toInt ≤ r.toInt)) := by
  have n5 := walkN_le 5000 z
  have w := walk_174b 5000 z _ rfl b.1 (by omega)
  have wi := walk_inv 5000 i c
  obtain ⟨wp, -, w83⟩ := walk_P 5000 z i p c b.1 (by omega) b6.1 (by omega)
  have lo : ∀ k, k < 174 → walkZ 5000 z k = z k := fun k hk => walkZ_o 5000 z (Or.inl hk)
  have hr : r = if walkZ 5000 z 188 = 1 then walkZ 5000 z 174 - z 174 else -6 := by
    rw [h]; unfold untR
    rw [if_pos (by decide), if_pos c]
    rfl
  have h7 := i.2.2.1.1
  rcases walked01 wi with e | e
  · have hr6 : r.toInt = -6 := by rw [hr, if_neg (by rw [e]; decide)]; decide
    refine ⟨?_, Or.inl ⟨hr6, e⟩⟩
    rcases walked_t i with ⟨q, q2⟩ | ⟨q, q2⟩
    · exact Or.inr ⟨q, Or.inl hr6⟩
    · exact absurd e (by rw [(walk_stop (d := 5000) (z := z) (by rw [q2]; decide)).1, q2]; decide)
  · have hrn : r.toInt = (walkN 5000 z : Int) := by
      rw [hr, if_pos e, xi_sub w rfl (by omega) (by omega)]
      omega
    have wa := walked_all wi wp e
    rw [lo 7 (by omega), sumR_c lo _ (by omega)] at wa
    refine ⟨?_, Or.inr ⟨e, hrn, by omega⟩⟩
    rcases walked_t i with ⟨q, q2⟩ | ⟨q, q2⟩
    · have := walk_some (d := 5000) q2 (by rw [e]; decide)
      exact Or.inr ⟨q, Or.inr (by omega)⟩
    · have := (walk_stop (d := 5000) (z := z) (by rw [q2]; decide)).2
      exact Or.inl ⟨q, by omega⟩
theorem until1_is {z : Nat → Int32} (i : InvZ z) (p : InvP z) (c : canZ z) (b : 0 ≤ (z 174).toInt ∧ (z 174).toInt ≤ 100000) (b6 : 0 ≤ (z 186).toInt ∧ (z 186).toInt ≤ 100000) (e : walkZ 5000 z 188 = 1) {r : Int32} (h : r = untR z 1) : (walkN 5000 z : Int) * (z 0).toInt ≤ r.toInt := by
  obtain ⟨-, w75, -⟩ := walk_P 5000 z i p c b.1 (by omega) b6.1 (by omega)
  have hm0 : 0 ≤ (z 174).toInt * (z 0).toInt := Int.mul_nonneg b.1 (by have := i.1.1; omega)
  have hm1 : 0 ≤ (walkN 5000 z : Int) * (z 0).toInt := Int.mul_nonneg (by omega) (by have := i.1.1; omega)
  have p10 := p.2.2.2.2.1.1
  have hr : r = walkZ 5000 z 175 - z 175 := by
    rw [h]; unfold untR
    rw [if_pos (by decide), if_pos c, if_pos e]
    rfl
  have h1 := (walkZ 5000 z 175).toInt_lt
  rw [hr, xi_sub rfl rfl (by omega) (by omega)]
  omega
theorem tog_is {z : Nat → Int32} (c : canZ z) {r : Int32} (h : r = togA z) : r.toInt = -6 ∨ (0 < r.toInt ∧ r.toInt ≤ (walkN 5000 z : Int)) := by
  have hr : r = togR 5000 0 z := by rw [h]; exact if_pos c
  have z0 : (0 : Int32).toInt = 0 := by decide
  rcases togR_in 5000 0 z (by omega) (by omega) with q | q
  · rw [hr, q]; exact Or.inl (by decide)
  · rw [hr]; exact Or.inr (by omega)
theorem mul_up {a b m n : Int} (h1 : 0 ≤ a ∧ a ≤ m) (h2 : 0 ≤ b ∧ b ≤ n) : 0 ≤ a * b ∧ a * b ≤ m * n := by
  refine ⟨Int.mul_nonneg h1.1 h2.1, ?_⟩
  calc a * b ≤ m * b := Int.mul_le_mul_of_nonneg_right h1.2 h2.1
    _ ≤ m * n := Int.mul_le_mul_of_nonneg_left h2.2 (by omega)
