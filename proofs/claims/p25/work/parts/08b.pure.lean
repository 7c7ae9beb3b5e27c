/-! ===== sums and questions ===== -/
def sumB (z : Nat → Int32) (l : Nat) : Nat → Int32
  | 0 => 0
  | n + 1 => sumB z l n + btZ z l n
def cntM (z : Nat → Int32) (l : Nat) : Nat → Int32
  | 0 => 0
  | n + 1 => cntM z l n + (if mkZ z l n then 1 else 0)
def sungL (z : Nat → Int32) (l : Nat) : Int32 := sumB z l (z (8 + l)).toInt.toNat
def marksL (z : Nat → Int32) (l : Nat) : Int32 := cntM z l (z (8 + l)).toInt.toNat
def sumS (z : Nat → Int32) : Nat → Int32
  | 0 => 0
  | n + 1 => sumS z n + sungL z n
def sumM (z : Nat → Int32) : Nat → Int32
  | 0 => 0
  | n + 1 => sumM z n + marksL z n
def sumR (z : Nat → Int32) : Nat → Int32
  | 0 => 0
  | n + 1 => sumR z n + ofZ z n 0
abbrev lineC (z : Nat → Int32) (p : Int32) : Prop := 0 ≤ p.toInt ∧ p.toInt < (z 6).toInt
def lineR (z : Nat → Int32) (p w : Int32) : Int32 := if lineC z p then (if w.toInt = 0 then z (8 + p.toInt.toNat) else if w.toInt = 1 then sungL z p.toInt.toNat else if w.toInt = 2 then marksL z p.toInt.toNat else if w.toInt = 3 then sungL z p.toInt.toNat + z 1 * marksL z p.toInt.toNat else -2) else -1
abbrev footC (z : Nat → Int32) (p f : Int32) : Prop := lineC z p ∧ 0 ≤ f.toInt ∧ f.toInt < (z (8 + p.toInt.toNat)).toInt
def footR (z : Nat → Int32) (p f w : Int32) : Int32 := if footC z p f then (if w = 0 then btZ z p.toInt.toNat f.toInt.toNat else if w = 1 then (if mkZ z p.toInt.toNat f.toInt.toNat then 1 else 0) else -2) else -1
abbrev strC (z : Nat → Int32) (p : Int32) : Prop := 0 ≤ p.toInt ∧ p.toInt < (z 7).toInt
/-- beats to sing for n steps -/
def singF (n mud : Int) (b : Prop) [Decidable b] : Int := if b then n + (n - 1) / (mud - 1) else n
def strA (z : Nat → Int32) (p w r : Int32) : Prop := if strC z p then (if w.toInt = 0 then r = ofZ z p.toInt.toNat 0 else if w.toInt = 1 then r = ofZ z p.toInt.toNat 1 + 3 else if w.toInt = 2 then r = ofZ z p.toInt.toNat 2 else if w.toInt = 3 then r.toInt = singF (ofZ z p.toInt.toNat 0).toInt (z 5).toInt (ofZ z p.toInt.toNat 2 = 1) else r = -2) else r = -1
def walkR (z : Nat → Int32) (p : Int32) : Int32 := if 0 ≤ p.toInt ∧ p.toInt ≤ 14 then z (174 + p.toInt.toNat) else -2
def cntR (z : Nat → Int32) (ty gs p : Int32) : Int32 := if 0 ≤ p.toInt ∧ p.toInt ≤ 6 then z p.toInt.toNat else if p.toInt = 7 then sumS z (z 6).toInt.toNat else if p.toInt = 8 then sumM z (z 6).toInt.toNat else if p.toInt = 9 then z 7 else if p.toInt = 10 then sumR z (z 7).toInt.toNat else if p.toInt = 11 then ty else if p.toInt = 12 then gs else -2
theorem singF_end {n mud s : Int} (hm : 2 ≤ mud ∧ mud ≤ 9) (hn : 1 ≤ n) (h1 : n = s - s / mud) (h2 : ¬ s % mud = 0) : s = n + (n - 1) / (mud - 1) := by
  have h : mud = 2 ∨ mud = 3 ∨ mud = 4 ∨ mud = 5 ∨ mud = 6 ∨ mud = 7 ∨ mud = 8 ∨ mud = 9 := by omega
  rcases h with h | h | h | h | h | h | h | h <;> subst h <;> simp only [Int.reduceSub, Int.ediv_one] <;> omega
theorem singF_skip {mud s : Int} (hm : 2 ≤ mud ∧ mud ≤ 9) (h0 : 0 ≤ s) (h2 : (s + 1) % mud = 0) : (s + 1) - (s + 1) / mud = s - s / mud := by
  have h : mud = 2 ∨ mud = 3 ∨ mud = 4 ∨ mud = 5 ∨ mud = 6 ∨ mud = 7 ∨ mud = 8 ∨ mud = 9 := by omega
  rcases h with h | h | h | h | h | h | h | h <;> subst h <;> omega
theorem singF_go {mud s : Int} (hm : 2 ≤ mud ∧ mud ≤ 9) (h0 : 0 ≤ s) (h2 : ¬ (s + 1) % mud = 0) : (s + 1) - (s + 1) / mud = s - s / mud + 1 := by
  have h : mud = 2 ∨ mud = 3 ∨ mud = 4 ∨ mud = 5 ∨ mud = 6 ∨ mud = 7 ∨ mud = 8 ∨ mud = 9 := by omega
  rcases h with h | h | h | h | h | h | h | h <;> subst h <;> omega
theorem singF_half {mud s : Int} (hm : 2 ≤ mud ∧ mud ≤ 9) (h0 : 0 ≤ s) : s ≤ 2 * (s - s / mud) := by
  have h : mud = 2 ∨ mud = 3 ∨ mud = 4 ∨ mud = 5 ∨ mud = 6 ∨ mud = 7 ∨ mud = 8 ∨ mud = 9 := by omega
  rcases h with h | h | h | h | h | h | h | h <;> subst h <;> omega
