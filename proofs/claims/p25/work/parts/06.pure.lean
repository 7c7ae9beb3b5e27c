/-! ===== the model's state as a function of places, and what its methods make of it ===== -/
def ofZ (z : Nat → Int32) (s w : Nat) : Int32 := z (3 * s + (138 + w))
def btZ (z : Nat → Int32) (l f : Nat) : Int32 := z (12 * l + f + 18) - z (12 * l + f + 18) / 10 * 10
abbrev mkZ (z : Nat → Int32) (l f : Nat) : Prop := 9 < (z (12 * l + f + 18)).toInt
abbrev canZ (z : Nat → Int32) : Prop := 0 < (z 6).toInt ∧ 0 < (z 7).toInt
def climbZ (z : Nat → Int32) : Int32 := if 0 < (ofZ z ((z 179).toInt.toNat) 1).toInt then ofZ z ((z 179).toInt.toNat) 1 else 0
abbrev atZ (z : Nat → Int32) : Prop := 0 ≤ (z 179).toInt ∧ (z 179).toInt ≤ 11
theorem upd_s (f : Nat → Int32) (k : Nat) (x : Int32) : upd f k x k = x := by simp [upd]
theorem upd_n (f : Nat → Int32) (k : Nat) (x : Int32) {j : Nat} (h : j ≠ k) : upd f k x j = f j := by simp [upd, h]
theorem ofZ_upd (z : Nat → Int32) {k : Nat} (x : Int32) {s w : Nat} (h : 3 * s + (138 + w) ≠ k) : ofZ (upd z k x) s w = ofZ z s w := by simp [ofZ, upd, h]
theorem btZ_upd (z : Nat → Int32) {k : Nat} (x : Int32) {l f : Nat} (h : 12 * l + f + 18 ≠ k) : btZ (upd z k x) l f = btZ z l f := by simp [btZ, upd, h]
theorem mkZ_upd (z : Nat → Int32) {k : Nat} (x : Int32) {l f : Nat} (h : 12 * l + f + 18 ≠ k) : mkZ (upd z k x) l f = mkZ z l f := by simp [mkZ, upd, h]
abbrev skipZ (z : Nat → Int32) : Prop := ofZ z ((z 179).toInt.toNat) 2 = 1 ∧ (z 189 + 1) - (z 189 + 1) / z 5 * z 5 = 0
abbrev fullZ (z : Nat → Int32) : Prop := z 180 + 1 = ofZ z ((z 179).toInt.toNat) 0
def stepZ (z : Nat → Int32) : Nat → Int32 :=
  if skipZ z then upd (upd z 189 (z 189 + 1)) 184 (z 184 + 1)
  else if fullZ z then upd (upd (upd (upd (upd (upd (upd z 189 (z 189 + 1)) 180 (z 180 + 1)) 183 (z 183 + 1)) 179 (z 179 + 1)) 180 0) 189 0) 188 (if z 179 + 1 = z 7 then 1 else 0)
  else upd (upd (upd z 189 (z 189 + 1)) 180 (z 180 + 1)) 183 (z 183 + 1)
/-- the song goes on by a beat -/
abbrev inFootZ (z : Nat → Int32) : Prop := (z 178 + 1).toInt < (btZ z ((z 176).toInt.toNat) ((z 177).toInt.toNat)).toInt
abbrev inLineZ (z : Nat → Int32) : Prop := ¬ z 177 + 1 = z (8 + (z 176).toInt.toNat)
def footEZ (z : Nat → Int32) : Nat → Int32 := upd (upd (upd (upd z 178 (z 178 + 1)) 178 0) 182 (if mkZ z ((z 176).toInt.toNat) ((z 177).toInt.toNat) then z 1 else 0)) 177 (z 177 + 1)
def lineEZ (z : Nat → Int32) : Nat → Int32 := if inLineZ z then footEZ z else upd (upd (footEZ z) 177 0) 176 (z 176 + 1)
/-- whether the song ends by this beat -/
abbrev songEZ (z : Nat → Int32) : Prop := lineEZ z 176 = z 6
def goOnZ (z : Nat → Int32) : Nat → Int32 :=
  if inFootZ z then upd z 178 (z 178 + 1)
  else if songEZ z then upd (upd (lineEZ z) 176 0) 186 (z 186 + 1) else lineEZ z
def needZ (z : Nat → Int32) : Int32 := 1 + climbZ z
abbrev gaspZ (z : Nat → Int32) : Prop := z 182 = 0 ∧ (z 181).toInt < (needZ z).toInt
def preZ (z : Nat → Int32) : Nat → Int32 := upd (if gaspZ z then upd (upd (upd z 174 (z 174 + 1)) 185 (z 185 + 1)) 182 (z 2) else upd z 174 (z 174 + 1)) 175 (z 175 + z 0)
abbrev restZ (z : Nat → Int32) : Prop := 0 < (preZ z 182).toInt
def restsZ (z : Nat → Int32) : Nat → Int32 := upd (upd (preZ z) 182 (preZ z 182 - 1)) 181 (if (preZ z 181 + preZ z 3).toInt < (preZ z 4).toInt then preZ z 181 + preZ z 3 else preZ z 4)
def singZ (z : Nat → Int32) : Nat → Int32 := upd (upd (upd (preZ z) 181 (preZ z 181 - needZ z)) 175 (preZ z 175 + climbZ z)) 187 (preZ z 187 + 1)
def beatZ (z : Nat → Int32) : Nat → Int32 := if restZ z then restsZ z else goOnZ (stepZ (singZ z))
abbrev endS (z : Nat → Int32) : Prop := ¬ restZ z ∧ ¬ skipZ (singZ z) ∧ fullZ (singZ z)
abbrev endG (z : Nat → Int32) : Prop := ¬ restZ z ∧ ¬ inFootZ (stepZ (singZ z)) ∧ songEZ (stepZ (singZ z))
def beginZ (z : Nat → Int32) : Nat → Int32 := fun k => if k = 181 then z 4 else if 174 ≤ k ∧ k < 190 then 0 else z k
theorem beginZ_loop (z : Nat → Int32) : upd (fun k => if 174 ≤ k ∧ k < 190 then 0 else z k) 181 (z 4) = beginZ z := by
  funext k
  simp only [upd, beginZ]
theorem beginZ_step (z : Nat → Int32) (n : Nat) (h : 174 ≤ n) : upd (fun k => if 174 ≤ k ∧ k < n then 0 else z k) n 0 = fun k => if 174 ≤ k ∧ k < n + 1 then 0 else z k := by
  funext k
  simp only [upd]
  by_cases h1 : k = n
  · subst h1; simp [h]
  · have : (174 ≤ k ∧ k < n + 1) ↔ (174 ≤ k ∧ k < n) := by omega
    simp only [h1, if_false, this]
theorem beginZ_0 (z : Nat → Int32) : (fun k => if 174 ≤ k ∧ k < 174 then (0 : Int32) else z k) = z := by
  funext k
  rw [if_neg (by omega)]
theorem cpy_0 {α : Type} (f g : Nat → α) (a b : Nat) : va_cpy f g a b 0 = g := by
  funext k
  simp only [va_cpy]
  rw [if_neg (by omega)]
theorem cpy_s (f g : Nat → Int32) (a b n : Nat) : upd (va_cpy f g a b n) (b + n) (f (a + n)) = va_cpy f g a b (n + 1) := by
  funext k
  simp only [upd, va_cpy]
  by_cases h1 : k = b + n
  · subst h1
    rw [if_pos rfl, if_pos (by omega), Nat.add_sub_cancel_left]
  · rw [if_neg h1]
    by_cases h2 : b ≤ k ∧ k < b + n
    · rw [if_pos h2, if_pos (by omega)]
    · rw [if_neg h2, if_neg (by omega)]
