/-! ===== the history ===== -/
def stA (ha : Nat → Nat → Nat) (j : Nat) : Option Nat := some (ha j 0)
def jR (old sz : Int32) : Nat := if sz.toInt = 6 then old.toInt.toNat else (old.toInt.toNat + sz.toInt.toNat) % 6
def oldR (old sz : Int32) : Int32 := if sz.toInt = 6 then (if old.toInt = 5 then 0 else old + 1) else old
def szR (sz : Int32) : Int32 := if sz.toInt = 6 then 6 else sz + 1
def recC (cs : Nat → Nat → Nat → Int32) (c : Nat → Nat → Int32) (j : Nat) : Nat → Nat → Nat → Int32 := fun i => if i = j then c else cs i
theorem xor6 {x : Int32} (h : 0 ≤ x.toInt ∧ x.toInt ≤ 12) : 0 ≤ (x ^^^ 6).toInt := by
  have h2 : x.toInt = 0 ∨ x.toInt = 1 ∨ x.toInt = 2 ∨ x.toInt = 3 ∨ x.toInt = 4 ∨ x.toInt = 5 ∨ x.toInt = 6 ∨ x.toInt = 7 ∨ x.toInt = 8 ∨ x.toInt = 9 ∨ x.toInt = 10 ∨ x.toInt = 11 ∨ x.toInt = 12 := by omega
  rcases h2 with h2 | h2 | h2 | h2 | h2 | h2 | h2 | h2 | h2 | h2 | h2 | h2 | h2
  · rw [show x = 0 from xi_ext h2]; decide
  · rw [show x = 1 from xi_ext h2]; decide
  · rw [show x = 2 from xi_ext h2]; decide
  · rw [show x = 3 from xi_ext h2]; decide
  · rw [show x = 4 from xi_ext h2]; decide
  · rw [show x = 5 from xi_ext h2]; decide
  · rw [show x = 6 from xi_ext h2]; decide
  · rw [show x = 7 from xi_ext h2]; decide
  · rw [show x = 8 from xi_ext h2]; decide
  · rw [show x = 9 from xi_ext h2]; decide
  · rw [show x = 10 from xi_ext h2]; decide
  · rw [show x = 11 from xi_ext h2]; decide
  · rw [show x = 12 from xi_ext h2]; decide
