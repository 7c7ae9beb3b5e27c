/-! ===== a State beside the model's state ===== -/
/-- settings, song and road are the model's; marks and mud are 0 or 1 -/
def RS (c : Nat → Nat → Int32) (z : Nat → Int32) : Prop := RSet (c 0) z ∧ RSong (c 7 0) (c 1) (c 2) (c 3) z ∧ RRoad (c 7 1) (c 4) (c 5) (c 6) z ∧ (∀ j : Nat, j < 120 → c 3 j = 0 ∨ c 3 j = 1) ∧ (∀ j : Nat, j < 12 → c 6 j = 0 ∨ c 6 j = 1)
/-- the model's places of a march's numbers -/
def mI : Nat → Nat
  | 0 => 174
  | 1 => 175
  | 2 => 176
  | 3 => 177
  | 4 => 178
  | 5 => 179
  | 6 => 180
  | 7 => 189
  | 8 => 181
  | 9 => 182
  | 10 => 183
  | 11 => 184
  | 12 => 185
  | 13 => 186
  | _ => 187
/-- contents with the march of z -/
def cZm (c : Nat → Nat → Int32) (z : Nat → Int32) : Nat → Nat → Int32
  | 0 => c 0
  | 1 => c 1
  | 2 => c 2
  | 3 => c 3
  | 4 => c 4
  | 5 => c 5
  | 6 => c 6
  | 7 => c 7
  | 8 => fun k => z (mI k)
  | _ => fun _ => 0
theorem meet_least {B n g : Nat} (hn : 1 ≤ n) (hg : g = Nat.gcd B n) : (1 ≤ n / g ∧ n / g ≤ n) ∧ (n / g * B) % n = 0 ∧ ∀ j : Nat, 1 ≤ j → j < n / g → ¬ (j * B) % n = 0 := by
  have g0 : 0 < g := by rw [hg]; exact Nat.gcd_pos_of_pos_right B (by omega)
  have gn : g ∣ n := by rw [hg]; exact Nat.gcd_dvd_right B n
  have gB : g ∣ B := by rw [hg]; exact Nat.gcd_dvd_left B n
  have hng : n / g * g = n := Nat.div_mul_cancel gn
  have h1 : 1 ≤ n / g := Nat.div_pos (Nat.le_of_dvd (by omega) gn) g0
  refine ⟨⟨h1, Nat.div_le_self n g⟩, ?_, fun j hj1 hj2 hz => ?_⟩
  · obtain ⟨b, hb⟩ := gB
    have : n / g * B = b * n := by
      rw [hb, ← Nat.mul_assoc, hng, Nat.mul_comm]
    rw [this]
    exact Nat.mul_mod_left b n
  · have h2 : n ∣ j * B := Nat.dvd_of_mod_eq_zero hz
    have h3 : n ∣ Nat.gcd (j * B) (j * n) := Nat.dvd_gcd h2 (Nat.dvd_mul_left n j)
    rw [Nat.gcd_mul_left, ← hg] at h3
    have h4 := Nat.le_of_dvd (Nat.mul_pos (by omega) g0) h3
    have h5 : j * g < n / g * g := Nat.mul_lt_mul_of_pos_right hj2 g0
    omega
theorem meet_leastI {B n r g : Int} (hB : 0 ≤ B) (hn : 1 ≤ n) (hg : g = (Nat.gcd B.toNat n.toNat : Int)) (hr : r = n / g) : leastK B n r := by
  have h := meet_least (B := B.toNat) (n := n.toNat) (g := Nat.gcd B.toNat n.toNat) (by omega) rfl
  obtain ⟨⟨h1, h2⟩, h3, h4⟩ := h
  have eB : (B.toNat : Int) = B := Int.toNat_of_nonneg hB
  have en : (n.toNat : Int) = n := Int.toNat_of_nonneg (by omega)
  have er : r = ((n.toNat / Nat.gcd B.toNat n.toNat : Nat) : Int) := by
    rw [hr, hg, Int.natCast_ediv, en]
  refine ⟨⟨by omega, by omega⟩, ?_, fun j hj1 hj2 hz => ?_⟩
  · have := congrArg (Nat.cast (R := Int)) h3
    rw [Int.natCast_emod, Int.natCast_mul, eB, en, ← er] at this
    exact this
  · refine h4 j.toNat (by omega) (by omega) ?_
    have ej : (j.toNat : Int) = j := Int.toNat_of_nonneg (by omega)
    have : ((j.toNat * B.toNat % n.toNat : Nat) : Int) = 0 := by
      rw [Int.natCast_emod, Int.natCast_mul, eB, en, ej]
      exact hz
    omega
theorem gcd_go {a b : Int} (ha : 0 ≤ a) (hb : 0 < b) : Nat.gcd b.toNat (a % b).toNat = Nat.gcd a.toNat b.toNat := by
  have h1 : (a % b).toNat = a.toNat % b.toNat := by
    have h2 : ((a.toNat % b.toNat : Nat) : Int) = a % b := by
      rw [Int.natCast_emod, Int.toNat_of_nonneg ha, Int.toNat_of_nonneg (by omega)]
    omega
  rw [h1, Nat.gcd_comm b.toNat, ← Nat.gcd_rec, Nat.gcd_comm]
