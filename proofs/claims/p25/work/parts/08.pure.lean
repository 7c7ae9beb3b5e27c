/-! ===== marching on, records, changes ===== -/
def walkZ : Nat → (Nat → Int32) → (Nat → Int32)
  | 0, z => z
  | b + 1, z => if z 188 = 0 then walkZ b (beatZ z) else z
def walkN : Nat → (Nat → Int32) → Nat
  | 0, _ => 0
  | b + 1, z => if z 188 = 0 then walkN b (beatZ z) + 1 else 0
theorem walkN_le : ∀ (b : Nat) (z : Nat → Int32), walkN b z ≤ b
  | 0, z => Nat.le_refl 0
  | b + 1, z => by
    rw [walkN]
    split
    · exact Nat.succ_le_succ (walkN_le b _)
    · exact Nat.zero_le _
theorem beat_can {z : Nat → Int32} (h : canZ z) : canZ (beatZ z) := by
  unfold canZ
  rw [beatZ_lo z (by omega), beatZ_lo z (by omega)]
  exact h
theorem InvZ_h5 {z : Nat → Int32} (i : InvZ z) : ¬ z 5 = 0 := fun h => by
  have h1 : (z 5).toInt = 0 := by rw [h]; rfl
  have := i.1.2.2.2.2
  omega
theorem InvZ_pos {z : Nat → Int32} (i : InvZ z) : 0 ≤ (z 176).toInt ∧ (z 176).toInt ≤ 9 ∧ 0 ≤ (z 177).toInt ∧ (z 177).toInt ≤ 11 := by
  have := i.2.2.2.1.1
  have := i.2.2.2.1.2.1
  omega
theorem InvZ_at {z : Nat → Int32} (i : InvZ z) (h : canZ z) (hw : z 188 = 0) : atZ z := RPos_atZ i.2.2.2.2.1 i.2.2.1 h.2 hw
def shiftP (past : Nat → Int32) (n : Nat) : Nat → Int32 := fun j => if j < n then past (j + 190) else past j
theorem shiftP_0 (past : Nat → Int32) : shiftP past 0 = past := by funext j; simp [shiftP]
theorem shiftP_s (past : Nat → Int32) (n : Nat) : upd (shiftP past n) n (shiftP past n (n + 190)) = shiftP past (n + 1) := by
  funext j
  have h1 : shiftP past n (n + 190) = past (n + 190) := by unfold shiftP; rw [if_neg (by omega)]
  rw [h1]
  unfold shiftP upd
  by_cases h : j = n
  · subst h; simp
  · have : j < n + 1 ↔ j < n := by omega
    simp [h, this]
def recP (z past : Nat → Int32) (g : Int32) : Nat → Int32 := if g = 6 then va_cpy z (shiftP past 950) 0 950 190 else va_cpy z past 0 (190 * g.toInt.toNat) 190
def recS (g : Int32) : Int32 := if g = 6 then 6 else g + 1
def undoR (g : Int32) : Int32 := if g = 0 then -5 else g - 1
def undoS (g : Int32) : Int32 := if g = 0 then g else g - 1
def undoZ (g : Int32) (past z : Nat → Int32) : Nat → Int32 := if g = 0 then z else va_cpy past z (190 * (g - 1).toInt.toNat) 0 190
abbrev slotV (p : Int32) : Prop := 0 ≤ p.toInt ∧ p.toInt ≤ 1
abbrev restC (p : Int32) (sv : Nat → Int32) : Prop := slotV p ∧ ¬ sv p.toInt.toNat = 0
def restR (p : Int32) (sv sl : Nat → Int32) : Int32 := if slotV p then (if sv p.toInt.toNat = 0 then -5 else sl (190 * p.toInt.toNat + 174)) else -2
abbrev setV (p v : Int32) : Prop := (p.toInt = 0 ∧ 1 ≤ v.toInt ∧ v.toInt ≤ 9) ∨ (p.toInt = 1 ∧ 0 ≤ v.toInt ∧ v.toInt ≤ 9) ∨ (p.toInt = 2 ∧ 1 ≤ v.toInt ∧ v.toInt ≤ 9) ∨ (p.toInt = 3 ∧ 1 ≤ v.toInt ∧ v.toInt ≤ 20) ∨ (p.toInt = 4 ∧ 5 ≤ v.toInt ∧ v.toInt ≤ 60) ∨ (p.toInt = 5 ∧ 2 ≤ v.toInt ∧ v.toInt ≤ 9)
abbrev paveV (p1 p2 : Int32) : Prop := (1 ≤ p1.toInt ∧ p1.toInt ≤ 99) ∧ (-3 ≤ p2.toInt ∧ p2.toInt ≤ 3)
abbrev paveC (z : Nat → Int32) (p1 p2 : Int32) : Prop := paveV p1 p2 ∧ ¬ z 7 = 12
def paveZ (z : Nat → Int32) (p1 p2 p3 : Int32) : Nat → Int32 := beginZ (upd (upd (upd (upd z (3 * (z 7).toInt.toNat + 138) p1) (3 * (z 7).toInt.toNat + 139) p2) (3 * (z 7).toInt.toNat + 140) p3) 7 (z 7 + 1))
def paveR (z : Nat → Int32) (p1 p2 : Int32) : Int32 := if paveV p1 p2 then (if z 7 = 12 then -4 else z 7) else -2
abbrev tearC (z : Nat → Int32) (p : Int32) : Prop := 0 ≤ p.toInt ∧ p.toInt < (z 7).toInt
def shiftR (z : Nat → Int32) (a n : Nat) : Nat → Int32 := fun j => if a ≤ j ∧ j < n then z (j + 3) else z j
theorem shiftR_0 (z : Nat → Int32) (a n : Nat) (h : n ≤ a) : shiftR z a n = z := by funext j; unfold shiftR; rw [if_neg (by omega)]
theorem shiftR_s (z : Nat → Int32) (a n : Nat) (h : a ≤ n) : upd (shiftR z a n) n (shiftR z a n (n + 3)) = shiftR z a (n + 1) := by
  funext j
  have h1 : shiftR z a n (n + 3) = z (n + 3) := by unfold shiftR; rw [if_neg (by omega)]
  rw [h1]
  unfold shiftR upd
  by_cases e : j = n
  · subst e; rw [if_pos rfl, if_pos (by omega)]
  · rw [if_neg e]
    dsimp only
    by_cases q : a ≤ j ∧ j < n
    · rw [if_pos q, if_pos (by omega)]
    · rw [if_neg q, if_neg (by omega)]
def tearZ (z : Nat → Int32) (p : Int32) : Nat → Int32 := beginZ (shiftR (upd z 7 (z 7 - 1)) (3 * p.toInt.toNat + 138) (3 * ((z 7).toInt.toNat - 1) + 138))
def begP (z : Nat → Int32) (n : Nat) : Nat → Int32 := fun k => if 174 ≤ k ∧ k < n then 0 else z k
theorem begP_0 (z : Nat → Int32) : begP z 174 = z := beginZ_0 z
theorem begP_s (z : Nat → Int32) (n : Nat) (h : 174 ≤ n) : upd (begP z n) n 0 = begP z (n + 1) := beginZ_step z n h
theorem begP_4 (z : Nat → Int32) (n : Nat) : begP z n 4 = z 4 := by unfold begP; rw [if_neg (by omega)]
theorem begP_e (z : Nat → Int32) : upd (begP z 190) 181 (z 4) = beginZ z := beginZ_loop z
theorem beginZ_lo (z : Nat → Int32) {k : Nat} (h : k < 174) : beginZ z k = z k := by unfold beginZ; rw [if_neg (by omega), if_neg (by omega)]
abbrev marchC (z : Nat → Int32) (p : Int32) : Prop := (1 ≤ p.toInt ∧ p.toInt ≤ 500) ∧ canZ z ∧ ¬ z 188 = 1
def marchA (z : Nat → Int32) (p r : Int32) : Prop := if 1 ≤ p.toInt ∧ p.toInt ≤ 500 then (if canZ z ∧ ¬ z 188 = 1 then r.toInt = (walkN p.toInt.toNat z : Int) else r = -5) else r = -2
