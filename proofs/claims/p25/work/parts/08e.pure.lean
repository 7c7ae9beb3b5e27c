/-! ===== read, put ===== -/
def RdO (tf tm z w : Nat → Int32) (gl : Int32) (i : Nat) : Prop := w 6 = gl ∧ (∀ l : Nat, l < i → w (8 + l) = tm l ∧ ∀ f : Nat, (f : Int) < (tm l).toInt → w (12 * l + f + 18) = tf (12 * l + f)) ∧ (∀ k, k ≠ 6 → ¬ (8 ≤ k ∧ k < 138) → w k = z k)
def RdN (tf tm w : Nat → Int32) (i j : Nat) : Prop := w (8 + i) = tm i ∧ ∀ f : Nat, f < j → w (12 * i + f + 18) = tf (12 * i + f)
theorem RdO_0 (tf tm z : Nat → Int32) (gl : Int32) : RdO tf tm z (upd z 6 gl) gl 0 := ⟨upd_s _ _ _, fun l hl => by omega, fun k h _ => upd_n _ _ _ h⟩
theorem RdN_0 {tf tm z w : Nat → Int32} {gl : Int32} {i : Nat} (hi : i < 10) (hm : ∀ l : Nat, l < i → (tm l).toInt ≤ 12) (h : RdO tf tm z w gl i) : RdO tf tm z (upd w (8 + i) (tm i)) gl i ∧ RdN tf tm (upd w (8 + i) (tm i)) i 0 := by
  obtain ⟨h1, h2, h3⟩ := h
  refine ⟨⟨by rw [upd_n _ _ _ (by omega)]; exact h1, fun l hl => ?_, fun k hk hk2 => by rw [upd_n _ _ _ (by omega)]; exact h3 k hk hk2⟩, upd_s _ _ _, fun f hf => by omega⟩
  obtain ⟨g1, g2⟩ := h2 l hl
  have := hm l hl
  refine ⟨by rw [upd_n _ _ _ (by omega)]; exact g1, fun f hf => ?_⟩
  rw [upd_n _ _ _ (by omega)]
  exact g2 f hf
theorem RdN_s {tf tm z w : Nat → Int32} {gl : Int32} {i j : Nat} (hi : i < 10) (hj : j < 12) (hm : ∀ l : Nat, l < i → (tm l).toInt ≤ 12) (h : RdO tf tm z w gl i) (h' : RdN tf tm w i j) : RdO tf tm z (upd w (12 * i + j + 18) (tf (12 * i + j))) gl i ∧ RdN tf tm (upd w (12 * i + j + 18) (tf (12 * i + j))) i (j + 1) := by
  obtain ⟨h1, h2, h3⟩ := h
  obtain ⟨h4, h5⟩ := h'
  refine ⟨⟨by rw [upd_n _ _ _ (by omega)]; exact h1, fun l hl => ?_, fun k hk hk2 => by rw [upd_n _ _ _ (by omega)]; exact h3 k hk hk2⟩, by rw [upd_n _ _ _ (by omega)]; exact h4, fun f hf => ?_⟩
  · obtain ⟨g1, g2⟩ := h2 l hl
    have := hm l hl
    refine ⟨by rw [upd_n _ _ _ (by omega)]; exact g1, fun f hf => ?_⟩
    rw [upd_n _ _ _ (by omega)]
    exact g2 f hf
  · by_cases e : f = j
    · subst e; rw [upd_s]
    · rw [upd_n _ _ _ (by omega)]
      exact h5 f (by omega)
theorem RdO_s {tf tm z w : Nat → Int32} {gl : Int32} {i j : Nat} (hj : (tm i).toInt ≤ j) (h : RdO tf tm z w gl i) (h' : RdN tf tm w i j) : RdO tf tm z w gl (i + 1) := by
  obtain ⟨h1, h2, h3⟩ := h
  refine ⟨h1, fun l hl => ?_, h3⟩
  by_cases e : l = i
  · subst e; exact ⟨h'.1, fun f hf => h'.2 f (by omega)⟩
  · exact h2 l (by omega)
/-- the song that is read -/
def ReadZ (p : Nat → Int32) (n : Nat) (z z1 : Nat → Int32) : Prop := ∃ s : SS, scn p n = some s ∧ ¬ s.2.1 = 0 ∧ (z1 6).toInt = s.1 + 1 ∧ (∀ l : Nat, l ≤ s.1 → (z1 (8 + l)).toInt = cM p n l ∧ ∀ f : Nat, f < cM p n l → z1 (12 * l + f + 18) = cF p n (12 * l + f)) ∧ (∀ k, k ≠ 6 → ¬ (8 ≤ k ∧ k < 138) → z1 k = beginZ z k)
theorem PadT_in {p : Nat → Int32} {n : Nat} {gl : Int32} {tf tm : Nat → Int32} (h : PadT p n gl tf tm) : (1 ≤ gl.toInt ∧ gl.toInt ≤ 10) ∧ ∀ l : Nat, (l : Int) < gl.toInt → 0 ≤ (tm l).toInt ∧ (tm l).toInt ≤ 12 := by
  obtain ⟨s, h1, h2, h3, h4⟩ := h
  obtain ⟨i1, i2, i3, i4, -, -⟩ := scn_I p n s h1
  refine ⟨by omega, fun l hl => ?_⟩
  have := (h4 l (by omega)).1
  by_cases e : l = s.1
  · subst e; omega
  · have := i4 l (by omega); omega
theorem ReadZ_of {p : Nat → Int32} {n : Nat} {gl : Int32} {tf tm z w : Nat → Int32} (h : PadT p n gl tf tm) (hr : RdO tf tm z w gl gl.toInt.toNat) : ReadZ p n z (beginZ w) := by
  obtain ⟨s, h1, h2, h3, h4⟩ := h
  obtain ⟨r1, r2, r3⟩ := hr
  obtain ⟨i1, i2, i3, i4, -, -⟩ := scn_I p n s h1
  have hlo : ∀ k, k < 174 → beginZ w k = w k := fun k hk => beginZ_lo w hk
  refine ⟨s, h1, h2, by rw [hlo 6 (by omega), r1, h3], fun l hl => ?_, fun k hk hk2 => ?_⟩
  · obtain ⟨g1, g2⟩ := r2 l (by omega)
    obtain ⟨g3, g4⟩ := h4 l (by omega)
    have hc : cM p n l ≤ 12 := by
      by_cases e : l = s.1
      · subst e; omega
      · exact (i4 l (by omega)).2
    refine ⟨by rw [hlo _ (by omega), g1, g3], fun f hf => ?_⟩
    rw [hlo _ (by omega), g2 f (by omega)]
    exact g4 f hf
  · unfold beginZ
    split
    · exact r3 4 (by omega) (by omega)
    · split
      · rfl
      · exact r3 k hk hk2
def sh8 (x : Int64) : Int64 := (x.toUInt64 >>> ((8 : Int32).toInt64.toUInt64 &&& Int64.toUInt64 63)).toInt64
def cdL (x : Int64) : Int32 := (x &&& 255).toInt32
def cdA (x : Int64) (k : Int32) : Int32 := ((x.toUInt64 >>> ((8 * k).toInt64.toUInt64 &&& Int64.toUInt64 63)).toInt64 &&& 255).toInt32
def chF : Nat → Int64 → Nat → Option Nat
  | 0, _, n => some n
  | f + 1, x, n => if x = 0 then some n else if 33 ≤ (cdL x).toInt ∧ (cdL x).toInt ≤ 126 then chF f (sh8 x) (n + 1) else none
def apP (x : Int64) : Nat → Nat → (Nat → Int32) → (Nat → Int32)
  | 0, _, p => p
  | k + 1, t, p => apP x k (t + 1) (upd p t (cdA x (nI k)))
theorem lg0 {x y : Int64} (h : lg_cmp x y = 0) : x = y := by
  unfold lg_cmp at h
  split at h
  · exact absurd h (by decide)
  · split at h
    · assumption
    · exact absurd h (by decide)
theorem lg1 {x y : Int64} (h : ¬ lg_cmp x y = 0) : ¬ x = y := by
  intro e
  subst e
  apply h
  unfold lg_cmp
  rw [if_neg (by intro q; exact absurd q (by simp)), if_pos rfl]
theorem chF_le : ∀ (f : Nat) (x : Int64) (n m : Nat), chF f x n = some m → n ≤ m ∧ m ≤ n + f
  | 0, _, n, m, h => by rw [chF] at h; cases h; omega
  | f + 1, x, n, m, h => by
    rw [chF] at h
    split at h
    · cases h; omega
    · split at h
      · have := chF_le f _ _ _ h; omega
      · cases h
def putA (x : Int64) (ty : Int32) (p : Nat → Int32) (r ty1 : Int32) (p1 : Nat → Int32) : Prop :=
  match chF 8 x 0 with
  | none => r = -2 ∧ ty1 = ty ∧ p1 = p
  | some n => if n = 0 then r = -2 ∧ ty1 = ty ∧ p1 = p else if 60 < ty.toInt + n then r = -4 ∧ ty1 = ty ∧ p1 = p else r = ty1 ∧ ty1.toInt = ty.toInt + n ∧ p1 = apP x n ty.toInt.toNat p
theorem chF_0 (f : Nat) {x : Int64} (n : Nat) (h : x = 0) : chF f x n = some n := by
  cases f with
  | zero => rfl
  | succ f => rw [chF, if_pos h]
theorem chF_s (f : Nat) (x : Int64) (n : Nat) (h : ¬ x = 0) (hc : 33 ≤ (cdL x).toInt ∧ (cdL x).toInt ≤ 126) : chF (f + 1) x n = chF f (sh8 x) (n + 1) := by rw [chF, if_neg h, if_pos hc]
theorem chF_n {f : Nat} (g : Nat) (x : Int64) (n : Nat) (h : ¬ x = 0) (hc : ¬ (33 ≤ (cdL x).toInt ∧ (cdL x).toInt ≤ 126)) (e : f = g + 1) : chF f x n = none := by rw [e, chF, if_neg h, if_neg hc]
