/-! ===== what if ===== -/
theorem begin_inv {z : Nat → Int32} (is : SetOK z) (ig : SongOK z) (ir : RoadOK z) : InvZ (beginZ z) := by
  have lo : ∀ k, k < 174 → beginZ z k = z k := fun k hk => beginZ_lo z hk
  have h0 : ∀ k, 174 ≤ k → k < 190 → k ≠ 181 → beginZ z k = 0 := fun k h1 h2 h3 => by unfold beginZ; rw [if_neg h3, if_pos ⟨h1, h2⟩]
  have z0 : (0 : Int32).toInt = 0 := by decide
  have hg := ig.1
  have hr := ir.1
  refine ⟨SetOK_c lo is, SongOK_c lo ig, RoadOK_c lo ir, ?_, ?_, ?_⟩
  · unfold SPos
    rw [h0 176 (by omega) (by omega) (by omega), h0 177 (by omega) (by omega) (by omega), h0 178 (by omega) (by omega) (by omega), lo 6 (by omega), z0]
    refine ⟨⟨by omega, by omega⟩, ⟨by omega, by omega⟩, by omega, fun h => ?_⟩
    have n0 : (0 : Int).toNat = 0 := rfl
    rw [n0, lo _ (by omega), btZ_congr lo (by omega) (by omega)]
    have h8 := (ig.2 0 (by omega)).1
    have hb := btZ_in ig (l := 0) (f := 0) (by omega) (by omega)
    exact ⟨h, by omega, by omega⟩
  · unfold RPos
    rw [h0 179 (by omega) (by omega) (by omega), h0 180 (by omega) (by omega) (by omega), h0 188 (by omega) (by omega) (by omega), lo 7 (by omega), z0]
    refine ⟨⟨by omega, by omega⟩, fun h => ?_, ?_⟩
    · have n0 : (0 : Int).toNat = 0 := rfl
      rw [n0, ofZ_congr lo (by omega) (by omega)]
      have := (ir.2 0 (by omega)).1
      omega
    · rw [if_neg (by omega)]
  · unfold LOK
    rw [h0 182 (by omega) (by omega) (by omega), z0]
    omega
theorem begin_can {z : Nat → Int32} (h : canZ z) : canZ (beginZ z) := by
  unfold canZ
  rw [beginZ_lo z (by omega), beginZ_lo z (by omega)]
  exact h
theorem beatZ_hi (z : Nat → Int32) {k : Nat} (h : 190 ≤ k) : beatZ z k = z k := by
  unfold beatZ
  split
  · exact restsZ_o z (by omega) (by omega) (by omega) (by omega) (by omega)
  · rw [goOnZ_o _ (by omega) (by omega) (by omega) (by omega) (by omega), stepZ_o _ (by omega) (by omega) (by omega) (by omega) (by omega) (by omega)]
    exact singZ_o z (by omega) (by omega) (by omega) (by omega) (by omega) (by omega)
theorem walkZ_o : ∀ (b : Nat) (z : Nat → Int32) {k : Nat}, (k < 174 ∨ 190 ≤ k) → walkZ b z k = z k
  | 0, z, k, _ => rfl
  | b + 1, z, k, h => by
    rw [walkZ]
    split
    · rw [walkZ_o b (beatZ z) h]
      rcases h with h | h
      · exact beatZ_lo z h
      · exact beatZ_hi z h
    · rfl
theorem walk_inv : ∀ (b : Nat) {z : Nat → Int32}, InvZ z → canZ z → InvZ (walkZ b z)
  | 0, z, i, _ => i
  | b + 1, z, i, c => by
    rw [walkZ]
    split
    · next h => exact walk_inv b (beat_inv i c h) (beat_can c)
    · exact i
/-- the whole road anew -/
def aneZ (z : Nat → Int32) : Nat → Int32 := walkZ 5000 (beginZ z)
theorem aneZ_o (z : Nat → Int32) {k : Nat} (h : k < 174 ∨ 190 ≤ k) : aneZ z k = z k := by
  unfold aneZ
  rw [walkZ_o _ _ h]
  unfold beginZ
  rw [if_neg (by omega), if_neg (by omega)]
theorem beat_174 (z : Nat → Int32) : beatZ z 174 = z 174 + 1 := by
  have hp : preZ z 174 = z 174 + 1 := by unfold preZ; split <;> simp [upd]
  unfold beatZ
  split
  · unfold restsZ
    rw [upd_n _ _ _ (by omega), upd_n _ _ _ (by omega), hp]
  · rw [goOnZ_o _ (by omega) (by omega) (by omega) (by omega) (by omega), stepZ_o _ (by omega) (by omega) (by omega) (by omega) (by omega) (by omega)]
    unfold singZ
    rw [upd_n _ _ _ (by omega), upd_n _ _ _ (by omega), upd_n _ _ _ (by omega), hp]
theorem walk_174 : ∀ (b : Nat) (z : Nat → Int32) (c : Int), (z 174).toInt = c → 0 ≤ c → c + b ≤ 100000 → (walkZ b z 174).toInt = c + walkN b z
  | 0, z, c, h, _, _ => by simp [walkZ, walkN, h]
  | b + 1, z, c, h, h0, hb => by
    rw [walkZ, walkN]
    split
    · have h1 : (beatZ z 174).toInt = c + 1 := by rw [beat_174]; exact xi_add h (by decide) (by omega) (by omega)
      rw [walk_174 b (beatZ z) (c + 1) h1 (by omega) (by omega)]
      omega
    · simp [h]
theorem ane_174 (z : Nat → Int32) : 0 ≤ (aneZ z 174).toInt ∧ (aneZ z 174).toInt ≤ 5000 := by
  have h1 : (beginZ z 174).toInt = 0 := by unfold beginZ; rw [if_neg (by omega), if_pos (by omega)]; decide
  have h2 := walk_174 5000 (beginZ z) 0 h1 (by omega) (by omega)
  have h3 := walkN_le 5000 (beginZ z)
  unfold aneZ
  omega
abbrev untC (p : Int32) : Prop := 0 ≤ p.toInt ∧ p.toInt ≤ 3
def untW (p : Int32) : Nat := if p = 0 then 174 else if p = 1 then 175 else if p = 2 then 185 else 186
def untR (z : Nat → Int32) (p : Int32) : Int32 := if untC p then (if canZ z then (if walkZ 5000 z 188 = 1 then walkZ 5000 z (untW p) - z (untW p) else -6) else -5) else -2
theorem cpy_at (f g : Nat → Int32) {k : Nat} (h : k < 190) : va_cpy f g 0 0 190 k = f k := by
  unfold va_cpy
  rw [if_pos (by omega)]
  congr 1
  omega
def togR : Nat → Int32 → (Nat → Int32) → Int32
  | 0, _, _ => -6
  | b + 1, n, z => if z 188 = 0 then (if endG z ∧ endS z then n + 1 else togR b (n + 1) (beatZ z)) else -6
def togA (z : Nat → Int32) : Int32 := if canZ z then togR 5000 0 z else -5
theorem ite01 {P : Prop} [Decidable P] (h : (if P then (1 : Int32) else 0) = 0) : ¬ P := by
  intro q
  rw [if_pos q] at h
  exact absurd h (by decide)
theorem ite10 {P : Prop} [Decidable P] (h : ¬ (if P then (1 : Int32) else 0) = 0) : P := by
  by_cases q : P
  · exact q
  · rw [if_neg q] at h
    exact absurd rfl h
abbrev okB (z : Nat → Int32) (b : Int32) : Prop := aneZ (upd z 4 b) 188 = 1 ∧ aneZ (upd z 4 b) 185 = 0
def lbA (z : Nat → Int32) (r : Int32) : Prop := (r = -6 ∧ ∀ c : Int32, 5 ≤ c.toInt → c.toInt ≤ 60 → ¬ okB z c) ∨ ((5 ≤ r.toInt ∧ r.toInt ≤ 60) ∧ okB z r ∧ ∀ c : Int32, 5 ≤ c.toInt → c.toInt < r.toInt → ¬ okB z c)
/-- so far: the breaths above b are tried -/
def lbI (z : Nat → Int32) (b r : Int32) : Prop := (r = -6 ∧ ∀ c : Int32, b.toInt < c.toInt → c.toInt ≤ 60 → ¬ okB z c) ∨ ((b.toInt < r.toInt ∧ r.toInt ≤ 60) ∧ okB z r ∧ ∀ c : Int32, b.toInt < c.toInt → c.toInt < r.toInt → ¬ okB z c)
abbrev okP (z : Nat → Int32) (p : Int32) : Prop := aneZ (upd z 1 p) 188 = 1
abbrev btP (z : Nat → Int32) (p : Int32) : Int := (aneZ (upd z 1 p) 174).toInt
def bpA (z : Nat → Int32) (r : Int32) : Prop := (r = -6 ∧ ∀ c : Int32, 0 ≤ c.toInt → c.toInt < 10 → ¬ okP z c) ∨ ((0 ≤ r.toInt ∧ r.toInt < 10) ∧ okP z r ∧ ∀ c : Int32, 0 ≤ c.toInt → c.toInt < 10 → okP z c → btP z r ≤ btP z c ∧ (c.toInt < r.toInt → btP z r < btP z c))
def bpI (z : Nat → Int32) (k r le : Int32) : Prop := (r = -6 ∧ le.toInt = 5001 ∧ ∀ c : Int32, 0 ≤ c.toInt → c.toInt < k.toInt → ¬ okP z c) ∨ ((0 ≤ r.toInt ∧ r.toInt < k.toInt) ∧ okP z r ∧ le.toInt = btP z r ∧ ∀ c : Int32, 0 ≤ c.toInt → c.toInt < k.toInt → okP z c → btP z r ≤ btP z c ∧ (c.toInt < r.toInt → btP z r < btP z c))
/-- the same but for the march and one setting -/
def sameX (q : Nat) (z w : Nat → Int32) : Prop := ∀ k, k ≠ q → (k < 174 ∨ 190 ≤ k) → w k = z k
theorem sameX_ane {q : Nat} (hq : q < 174) {z w : Nat → Int32} (h : sameX q z w) (b : Int32) : aneZ (upd w q b) = aneZ (upd z q b) := by
  have : beginZ (upd w q b) = beginZ (upd z q b) := by
    have hk : ∀ k, (k < 174 ∨ 190 ≤ k) → upd w q b k = upd z q b k := by
      intro k hk
      unfold upd
      by_cases e : k = q
      · rw [if_pos e, if_pos e]
      · rw [if_neg e, if_neg e, h k e hk]
    funext k
    unfold beginZ
    by_cases h1 : k = 181
    · rw [if_pos h1, if_pos h1, hk 4 (by omega)]
    · rw [if_neg h1, if_neg h1]
      by_cases h2 : 174 ≤ k ∧ k < 190
      · rw [if_pos h2, if_pos h2]
      · rw [if_neg h2, if_neg h2, hk k (by omega)]
  unfold aneZ
  rw [this]
theorem sameX_next {q : Nat} {z w : Nat → Int32} (h : sameX q z w) (b : Int32) : sameX q z (aneZ (upd w q b)) := by
  intro k hk h2
  rw [aneZ_o _ h2, upd_n _ _ _ hk, h k hk h2]
theorem sameX_0 (q : Nat) (z : Nat → Int32) : sameX q z z := fun _ _ _ => rfl
theorem SetOK_4 {z w : Nat → Int32} (is : SetOK z) (h : sameX 4 z w) (b : Int32) : SetOK (upd w 4 b) := by
  unfold SetOK
  rw [upd_n _ _ _ (by omega), upd_n _ _ _ (by omega), upd_n _ _ _ (by omega), upd_n _ _ _ (by omega), upd_n _ _ _ (by omega), h 0 (by omega) (by omega), h 1 (by omega) (by omega), h 2 (by omega) (by omega), h 3 (by omega) (by omega), h 5 (by omega) (by omega)]
  exact is
theorem SetOK_1 {z w : Nat → Int32} (is : SetOK z) (h : sameX 1 z w) {b : Int32} (hb : 0 ≤ b.toInt ∧ b.toInt ≤ 9) : SetOK (upd w 1 b) := by
  unfold SetOK
  rw [upd_s, upd_n _ _ _ (by omega), upd_n _ _ _ (by omega), upd_n _ _ _ (by omega), upd_n _ _ _ (by omega), h 0 (by omega) (by omega), h 2 (by omega) (by omega), h 3 (by omega) (by omega), h 5 (by omega) (by omega)]
  exact ⟨is.1, hb, is.2.2⟩
theorem sameX_lo {q : Nat} (hq : q < 6) {z w : Nat → Int32} (h : sameX q z w) (b : Int32) : (SongOK z → SongOK (upd w q b)) ∧ (RoadOK z → RoadOK (upd w q b)) ∧ (canZ z → canZ (upd w q b)) := by
  have e : ∀ k, 6 ≤ k → k < 174 → upd w q b k = z k := fun k h1 h2 => by rw [upd_n _ _ _ (by omega), h k (by omega) (by omega)]
  refine ⟨fun i => ?_, fun i => ?_, fun i => ?_⟩
  · obtain ⟨i1, i2⟩ := i
    unfold SongOK
    rw [e 6 (by omega) (by omega)]
    refine ⟨i1, fun l hl => ?_⟩
    rw [e (8 + l) (by omega) (by omega)]
    obtain ⟨j1, j2⟩ := i2 l hl
    refine ⟨j1, fun f hf => ?_⟩
    rw [e _ (by omega) (by omega)]
    exact j2 f hf
  · obtain ⟨i1, i2⟩ := i
    unfold RoadOK
    rw [e 7 (by omega) (by omega)]
    refine ⟨i1, fun s hs => ?_⟩
    unfold ofZ
    rw [e _ (by omega) (by omega), e _ (by omega) (by omega), e _ (by omega) (by omega)]
    exact i2 s hs
  · unfold canZ
    rw [e 6 (by omega) (by omega), e 7 (by omega) (by omega)]
    exact i
abbrev meetC (z : Nat → Int32) (p w : Int32) : Prop := strC z p ∧ (0 ≤ w.toInt ∧ w.toInt ≤ 1) ∧ ¬ z 6 = 0
/-- the least number of songs -/
def leastK (b n r : Int) : Prop := (1 ≤ r ∧ r ≤ n) ∧ r * b % n = 0 ∧ ∀ j : Int, 1 ≤ j → j < r → ¬ j * b % n = 0
def meetA (z : Nat → Int32) (p w r : Int32) : Prop := if strC z p then (if 0 ≤ w.toInt ∧ w.toInt ≤ 1 then (if z 6 = 0 then r = -5 else leastK (sumS z (z 6).toInt.toNat).toInt (ofZ z p.toInt.toNat 0).toInt r.toInt) else r = -2) else r = -1
theorem sumB_in {z : Nat → Int32} (i : SongOK z) {l : Nat} (hl : (l : Int) < (z 6).toInt) : ∀ n : Nat, (n : Int) ≤ (z (8 + l)).toInt → 2 * (n : Int) ≤ (sumB z l n).toInt ∧ (sumB z l n).toInt ≤ 4 * n
  | 0, _ => by rw [sumB]; decide
  | n + 1, h => by
    have ih := sumB_in i hl n (by omega)
    have hb := btZ_in i (l := l) (f := n) hl (by omega)
    have hn := (i.2 l hl).1
    rw [sumB, xi_add rfl rfl (by omega) (by omega)]
    omega
theorem sumS_in {z : Nat → Int32} (i : SongOK z) : ∀ n : Nat, (n : Int) ≤ (z 6).toInt → 2 * (n : Int) ≤ (sumS z n).toInt ∧ (sumS z n).toInt ≤ 48 * n
  | 0, _ => by rw [sumS]; decide
  | n + 1, h => by
    have ih := sumS_in i n (by omega)
    have hn := (i.2 n (by omega)).1
    have hb := sumB_in i (l := n) (by omega) (z (8 + n)).toInt.toNat (by omega)
    have h6 := i.1
    rw [sumS, sungL, xi_add rfl rfl (by omega) (by omega)]
    omega
theorem mul_in {k b : Int} (h1 : 0 ≤ k ∧ k ≤ 99) (h2 : 0 ≤ b ∧ b ≤ 480) : 0 ≤ k * b ∧ k * b ≤ 47520 := by
  refine ⟨Int.mul_nonneg h1.1 h2.1, ?_⟩
  calc k * b ≤ 99 * b := Int.mul_le_mul_of_nonneg_right h1.2 h2.1
    _ ≤ 47520 := by omega
