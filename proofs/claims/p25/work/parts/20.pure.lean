/-! ===== the class: leaves ===== -/
abbrev hasL (gn p : Int32) : Prop := 0 ≤ p.toInt ∧ p.toInt < gn.toInt ∧ p.toInt < 10
abbrev hasF (gn : Int32) (ft : Nat → Int32) (p f : Int32) : Prop := hasL gn p ∧ 0 ≤ f.toInt ∧ f.toInt < (ft p.toInt.toNat).toInt ∧ f.toInt < 12
abbrev hasS (rn p : Int32) : Prop := 0 ≤ p.toInt ∧ p.toInt < rn.toInt ∧ p.toInt < 12
def tabL (j : Nat) : Int32 := match xvL j with | .int v => v | _ => 0
def tabM (j : Nat) : Int32 := match xvM j with | .int v => v | _ => 0
theorem allows_iff {p v : Int32} (hp : 0 ≤ p.toInt ∧ p.toInt < 6) : setV p v ↔ ((tabL p.toInt.toNat).toInt ≤ v.toInt ∧ v.toInt ≤ (tabM p.toInt.toNat).toInt) := by
  have h : p.toInt = 0 ∨ p.toInt = 1 ∨ p.toInt = 2 ∨ p.toInt = 3 ∨ p.toInt = 4 ∨ p.toInt = 5 := by omega
  rcases h with h | h | h | h | h | h
  · rw [show p.toInt.toNat = 0 from by omega, show (tabL 0).toInt = 1 from by decide, show (tabM 0).toInt = 9 from by decide]; unfold setV; omega
  · rw [show p.toInt.toNat = 1 from by omega, show (tabL 1).toInt = 0 from by decide, show (tabM 1).toInt = 9 from by decide]; unfold setV; omega
  · rw [show p.toInt.toNat = 2 from by omega, show (tabL 2).toInt = 1 from by decide, show (tabM 2).toInt = 9 from by decide]; unfold setV; omega
  · rw [show p.toInt.toNat = 3 from by omega, show (tabL 3).toInt = 1 from by decide, show (tabM 3).toInt = 20 from by decide]; unfold setV; omega
  · rw [show p.toInt.toNat = 4 from by omega, show (tabL 4).toInt = 5 from by decide, show (tabM 4).toInt = 60 from by decide]; unfold setV; omega
  · rw [show p.toInt.toNat = 5 from by omega, show (tabL 5).toInt = 2 from by decide, show (tabM 5).toInt = 9 from by decide]; unfold setV; omega
def cpU (f g : Nat → Int32) (k : Nat) : Nat → Int32 := fun j => if j < k then f j else g j
theorem cpU_0 (f g : Nat → Int32) : cpU f g 0 = g := by funext j; simp [cpU]
theorem cpU_s (f g : Nat → Int32) (k : Nat) : upd (cpU f g k) k (f k) = cpU f g (k + 1) := by
  funext j
  unfold upd cpU
  by_cases h : j = k
  · subst h; simp
  · have : j < k + 1 ↔ j < k := by omega
    simp [h, this]
theorem cpU_e {f g : Nat → Int32} {k j : Nat} (h : j < k) : cpU f g k j = f j := by unfold cpU; rw [if_pos h]
theorem nar01 {x : Int32} (h : x = 0 ∨ x = 1) : vp_nar .boolean x = x := by rcases h with h | h <;> subst h <;> rfl
/-- a place out, the others move up -/
def outU (f : Nat → Int32) (a k : Nat) : Nat → Int32 := fun j => if a ≤ j ∧ j < k then f (j + 1) else f j
theorem outU_0 (f : Nat → Int32) (a : Nat) : outU f a a = f := by funext j; unfold outU; rw [if_neg (by omega)]
theorem outU_s (f : Nat → Int32) (a k : Nat) (h : a ≤ k) : upd (outU f a k) k (outU f a k (k + 1)) = outU f a (k + 1) := by
  funext j
  have h1 : outU f a k (k + 1) = f (k + 1) := by unfold outU; rw [if_neg (by omega)]
  rw [h1]
  unfold upd outU
  by_cases e : j = k
  · subst e; rw [if_pos rfl, if_pos (by omega)]
  · rw [if_neg e]
    by_cases q : a ≤ j ∧ j < k
    · rw [if_pos q, if_pos (by omega)]
    · rw [if_neg q, if_neg (by omega)]
def sumF (h : Nat → Int32) : Nat → Int32
  | 0 => 0
  | k + 1 => sumF h k + h k
