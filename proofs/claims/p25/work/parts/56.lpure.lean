/-! ===== what the law's own methods see of a state ===== -/
theorem lgc_self (x : Int64) : lg_cmp x x = 0 := by
  unfold lg_cmp
  rw [if_neg (by intro q; exact absurd q (by simp)), if_pos rfl]
theorem wk_0 (z : Nat → Int32) : walkR z 0 = z 174 := by unfold walkR; rw [if_pos (by decide)]; rfl
theorem wk_1 (z : Nat → Int32) : walkR z 1 = z 175 := by unfold walkR; rw [if_pos (by decide)]; rfl
theorem wk_2 (z : Nat → Int32) : walkR z 2 = z 176 := by unfold walkR; rw [if_pos (by decide)]; rfl
theorem wk_3 (z : Nat → Int32) : walkR z 3 = z 177 := by unfold walkR; rw [if_pos (by decide)]; rfl
theorem wk_4 (z : Nat → Int32) : walkR z 4 = z 178 := by unfold walkR; rw [if_pos (by decide)]; rfl
theorem wk_5 (z : Nat → Int32) : walkR z 5 = z 179 := by unfold walkR; rw [if_pos (by decide)]; rfl
theorem wk_6 (z : Nat → Int32) : walkR z 6 = z 180 := by unfold walkR; rw [if_pos (by decide)]; rfl
theorem wk_7 (z : Nat → Int32) : walkR z 7 = z 181 := by unfold walkR; rw [if_pos (by decide)]; rfl
theorem wk_8 (z : Nat → Int32) : walkR z 8 = z 182 := by unfold walkR; rw [if_pos (by decide)]; rfl
theorem wk_9 (z : Nat → Int32) : walkR z 9 = z 183 := by unfold walkR; rw [if_pos (by decide)]; rfl
theorem wk_10 (z : Nat → Int32) : walkR z 10 = z 184 := by unfold walkR; rw [if_pos (by decide)]; rfl
theorem wk_11 (z : Nat → Int32) : walkR z 11 = z 185 := by unfold walkR; rw [if_pos (by decide)]; rfl
theorem wk_12 (z : Nat → Int32) : walkR z 12 = z 186 := by unfold walkR; rw [if_pos (by decide)]; rfl
theorem wk_13 (z : Nat → Int32) : walkR z 13 = z 187 := by unfold walkR; rw [if_pos (by decide)]; rfl
theorem wk_14 (z : Nat → Int32) : walkR z 14 = z 188 := by unfold walkR; rw [if_pos (by decide)]; rfl
theorem wk_var (z : Nat → Int32) {k : Int32} (h : 0 ≤ k.toInt ∧ k.toInt ≤ 14) : walkR z k = z (174 + k.toInt.toNat) := by unfold walkR; rw [if_pos h]
theorem wk_beg {z : Nat → Int32} (b : begP0 z) {k : Int32} (h : 0 ≤ k.toInt ∧ k.toInt ≤ 14) (h7 : ¬ k.toInt = 7) : walkR z k = 0 := by
  rw [wk_var z h]
  exact b _ (by omega) (by omega) (by omega)
theorem ct_0 (z : Nat → Int32) (ty gs : Int32) : cntR z ty gs 0 = z 0 := by unfold cntR; rw [if_pos (by decide)]; rfl
theorem ct_1 (z : Nat → Int32) (ty gs : Int32) : cntR z ty gs 1 = z 1 := by unfold cntR; rw [if_pos (by decide)]; rfl
theorem ct_2 (z : Nat → Int32) (ty gs : Int32) : cntR z ty gs 2 = z 2 := by unfold cntR; rw [if_pos (by decide)]; rfl
theorem ct_3 (z : Nat → Int32) (ty gs : Int32) : cntR z ty gs 3 = z 3 := by unfold cntR; rw [if_pos (by decide)]; rfl
theorem ct_4 (z : Nat → Int32) (ty gs : Int32) : cntR z ty gs 4 = z 4 := by unfold cntR; rw [if_pos (by decide)]; rfl
theorem ct_5 (z : Nat → Int32) (ty gs : Int32) : cntR z ty gs 5 = z 5 := by unfold cntR; rw [if_pos (by decide)]; rfl
theorem ct_6 (z : Nat → Int32) (ty gs : Int32) : cntR z ty gs 6 = z 6 := by unfold cntR; rw [if_pos (by decide)]; rfl
theorem ct_7 (z : Nat → Int32) (ty gs : Int32) : cntR z ty gs 7 = sumS z (z 6).toInt.toNat := by unfold cntR; rw [if_neg (by decide), if_pos (by decide)]
theorem ct_8 (z : Nat → Int32) (ty gs : Int32) : cntR z ty gs 8 = sumM z (z 6).toInt.toNat := by unfold cntR; rw [if_neg (by decide), if_neg (by decide), if_pos (by decide)]
theorem ct_9 (z : Nat → Int32) (ty gs : Int32) : cntR z ty gs 9 = z 7 := by unfold cntR; rw [if_neg (by decide), if_neg (by decide), if_neg (by decide), if_pos (by decide)]
theorem ct_10 (z : Nat → Int32) (ty gs : Int32) : cntR z ty gs 10 = sumR z (z 7).toInt.toNat := by unfold cntR; rw [if_neg (by decide), if_neg (by decide), if_neg (by decide), if_neg (by decide), if_pos (by decide)]
theorem ct_12 (z : Nat → Int32) (ty gs : Int32) : cntR z ty gs 12 = gs := by unfold cntR; rw [if_neg (by decide), if_neg (by decide), if_neg (by decide), if_neg (by decide), if_neg (by decide), if_neg (by decide), if_pos (by decide)]
theorem ct_bad (z : Nat → Int32) (ty gs : Int32) {k : Int32} (h : k.toInt < 0 ∨ 12 < k.toInt) : cntR z ty gs k = -2 := by unfold cntR; rw [if_neg (by omega), if_neg (by omega), if_neg (by omega), if_neg (by omega), if_neg (by omega), if_neg (by omega), if_neg (by omega)]
theorem wk_bad (z : Nat → Int32) {k : Int32} (h : k.toInt < 0 ∨ 14 < k.toInt) : walkR z k = -2 := by unfold walkR; rw [if_neg (by omega)]
/-- the answers that 'seen' takes up, by their places -/
def cN (z : Nat → Int32) (n : Nat) : Int32 := if n ≤ 6 then z n else if n = 7 then sumS z (z 6).toInt.toNat else if n = 8 then sumM z (z 6).toInt.toNat else if n = 9 then z 7 else sumR z (z 7).toInt.toNat
def sN (z : Nat → Int32) (p w : Nat) : Int32 := if (p : Int) < (z 7).toInt then (if w = 0 then ofZ z p 0 else if w = 1 then ofZ z p 1 + 3 else ofZ z p 2) else -1
def fN (z : Nat → Int32) (p f w : Nat) : Int32 := if (p : Int) < (z 6).toInt ∧ (f : Int) < (z (8 + p)).toInt then (if w = 0 then btZ z p f else if mkZ z p f then 1 else 0) else -1
def se1 (z : Nat → Int32) : Nat → Int64
  | 0 => 223
  | n + 1 => 31 * se1 z n + (z (174 + n)).toInt64
def se2 (z : Nat → Int32) : Nat → Int64
  | 0 => se1 z 15
  | n + 1 => 31 * se2 z n + (cN z n).toInt64
def se3 (z : Nat → Int32) : Nat → Int64
  | 0 => se2 z 11
  | n + 1 => 31 * se3 z n + (sN z (n / 3) (n % 3)).toInt64
def se4 (z : Nat → Int32) : Nat → Int64
  | 0 => se3 z 36
  | n + 1 => 31 * (31 * se4 z n + (fN z (n / 12) (n % 12) 0).toInt64) + (fN z (n / 12) (n % 12) 1).toInt64
def seenZ (z : Nat → Int32) : Int64 := se4 z 120
theorem ct_var (z : Nat → Int32) (ty gs : Int32) {k : Int32} (h : 0 ≤ k.toInt ∧ k.toInt ≤ 10) : cntR z ty gs k = cN z k.toInt.toNat := by
  unfold cntR cN
  by_cases h1 : k.toInt ≤ 6
  · rw [if_pos ⟨h.1, h1⟩, if_pos (by omega)]
  · rw [if_neg (show ¬ (0 ≤ k.toInt ∧ k.toInt ≤ 6) by omega), if_neg (show ¬ k.toInt.toNat ≤ 6 by omega)]
    by_cases h2 : k.toInt = 7
    · rw [if_pos h2, if_pos (show k.toInt.toNat = 7 by omega)]
    · rw [if_neg h2, if_neg (show ¬ k.toInt.toNat = 7 by omega)]
      by_cases h3 : k.toInt = 8
      · rw [if_pos h3, if_pos (show k.toInt.toNat = 8 by omega)]
      · rw [if_neg h3, if_neg (show ¬ k.toInt.toNat = 8 by omega)]
        by_cases h4 : k.toInt = 9
        · rw [if_pos h4, if_pos (show k.toInt.toNat = 9 by omega)]
        · rw [if_neg h4, if_neg (show ¬ k.toInt.toNat = 9 by omega), if_pos (show k.toInt = 10 by omega)]
theorem st_var {z : Nat → Int32} {p w r : Int32} (hp : 0 ≤ p.toInt) (hw : 0 ≤ w.toInt ∧ w.toInt ≤ 2) (h : strA z p w r) : r = sN z p.toInt.toNat w.toInt.toNat := by
  unfold strA at h
  unfold sN
  by_cases c : strC z p
  · rw [if_pos c] at h
    rw [if_pos (by have := c.2; omega)]
    by_cases h0 : w.toInt = 0
    · rw [if_pos h0] at h; rw [if_pos (by omega)]; exact h
    · rw [if_neg h0] at h
      rw [if_neg (by omega)]
      by_cases h1 : w.toInt = 1
      · rw [if_pos h1] at h; rw [if_pos (by omega)]; exact h
      · rw [if_neg h1, if_pos (by omega)] at h
        rw [if_neg (by omega)]
        exact h
  · rw [if_neg c] at h
    rw [if_neg (fun q => c ⟨hp, by omega⟩)]
    exact h
theorem ft_var (z : Nat → Int32) {p f w : Int32} (hp : 0 ≤ p.toInt) (hf : 0 ≤ f.toInt) (hw : w = 0 ∨ w = 1) : footR z p f w = fN z p.toInt.toNat f.toInt.toNat w.toInt.toNat := by
  have h10 : ¬ (1 : Int32) = 0 := by decide
  unfold footR fN
  by_cases c : footC z p f
  · rw [if_pos c, if_pos (show ((p.toInt.toNat : Int) < (z 6).toInt ∧ (f.toInt.toNat : Int) < (z (8 + p.toInt.toNat)).toInt) from ⟨by have := c.1.2; omega, by have := c.2.2; omega⟩)]
    rcases hw with rfl | rfl
    · rw [if_pos rfl, if_pos (show (0 : Int32).toInt.toNat = 0 by decide)]
    · rw [if_neg h10, if_pos rfl, if_neg (show ¬ (1 : Int32).toInt.toNat = 0 by decide)]
  · rw [if_neg c, if_neg (fun q => c ⟨⟨hp, by omega⟩, hf, by omega⟩)]
/-! answers at places that are there, and at those that are not -/
theorem st_0 {z : Nat → Int32} {p r : Int32} (c : strC z p) (h : strA z p 0 r) : r = ofZ z p.toInt.toNat 0 := by
  unfold strA at h; rw [if_pos c, if_pos (by decide)] at h; exact h
theorem st_1 {z : Nat → Int32} {p r : Int32} (c : strC z p) (h : strA z p 1 r) : r = ofZ z p.toInt.toNat 1 + 3 := by
  unfold strA at h; rw [if_pos c, if_neg (by decide), if_pos (by decide)] at h; exact h
theorem st_2 {z : Nat → Int32} {p r : Int32} (c : strC z p) (h : strA z p 2 r) : r = ofZ z p.toInt.toNat 2 := by
  unfold strA at h; rw [if_pos c, if_neg (by decide), if_neg (by decide), if_pos (by decide)] at h; exact h
theorem st_3 {z : Nat → Int32} {p r : Int32} (c : strC z p) (h : strA z p 3 r) : r.toInt = singF (ofZ z p.toInt.toNat 0).toInt (z 5).toInt (ofZ z p.toInt.toNat 2 = 1) := by
  unfold strA at h; rw [if_pos c, if_neg (by decide), if_neg (by decide), if_neg (by decide), if_pos (by decide)] at h; exact h
theorem st_no {z : Nat → Int32} {p w r : Int32} (c : ¬ strC z p) (h : strA z p w r) : r = -1 := by
  unfold strA at h; rw [if_neg c] at h; exact h
theorem st_bad {z : Nat → Int32} {p w r : Int32} (c : strC z p) (hw : w.toInt < 0 ∨ 3 < w.toInt) (h : strA z p w r) : r = -2 := by
  unfold strA at h; rw [if_pos c, if_neg (by omega), if_neg (by omega), if_neg (by omega), if_neg (by omega)] at h; exact h
theorem ln_0 {z : Nat → Int32} {p : Int32} (c : lineC z p) : lineR z p 0 = z (8 + p.toInt.toNat) := by unfold lineR; rw [if_pos c, if_pos (by decide)]
theorem ln_1 {z : Nat → Int32} {p : Int32} (c : lineC z p) : lineR z p 1 = sungL z p.toInt.toNat := by unfold lineR; rw [if_pos c, if_neg (by decide), if_pos (by decide)]
theorem ln_2 {z : Nat → Int32} {p : Int32} (c : lineC z p) : lineR z p 2 = marksL z p.toInt.toNat := by unfold lineR; rw [if_pos c, if_neg (by decide), if_neg (by decide), if_pos (by decide)]
theorem ln_3 {z : Nat → Int32} {p : Int32} (c : lineC z p) : lineR z p 3 = sungL z p.toInt.toNat + z 1 * marksL z p.toInt.toNat := by unfold lineR; rw [if_pos c, if_neg (by decide), if_neg (by decide), if_neg (by decide), if_pos (by decide)]
theorem ln_no {z : Nat → Int32} {p w : Int32} (c : ¬ lineC z p) : lineR z p w = -1 := by unfold lineR; rw [if_neg c]
theorem ln_bad {z : Nat → Int32} {p w : Int32} (c : lineC z p) (hw : w.toInt < 0 ∨ 3 < w.toInt) : lineR z p w = -2 := by unfold lineR; rw [if_pos c, if_neg (by omega), if_neg (by omega), if_neg (by omega), if_neg (by omega)]
theorem ft_0 {z : Nat → Int32} {p f : Int32} (c : footC z p f) : footR z p f 0 = btZ z p.toInt.toNat f.toInt.toNat := by unfold footR; rw [if_pos c, if_pos rfl]
theorem ft_1 {z : Nat → Int32} {p f : Int32} (c : footC z p f) : footR z p f 1 = (if mkZ z p.toInt.toNat f.toInt.toNat then 1 else 0) := by unfold footR; rw [if_pos c, if_neg (by decide), if_pos rfl]
theorem ft_no {z : Nat → Int32} {p f w : Int32} (c : ¬ footC z p f) : footR z p f w = -1 := by unfold footR; rw [if_neg c]
theorem ft_bad {z : Nat → Int32} {p f w : Int32} (c : footC z p f) (hw : w.toInt < 0 ∨ 1 < w.toInt) : footR z p f w = -2 := by
  unfold footR; rw [if_pos c, if_neg (fun e => by rw [e] at hw; exact absurd hw (by decide)), if_neg (fun e => by rw [e] at hw; exact absurd hw (by decide))]
theorem mt_no {z : Nat → Int32} {p w r : Int32} (c : ¬ strC z p) (h : meetA z p w r) : r = -1 := by
  unfold meetA at h; rw [if_neg c] at h; exact h
theorem mt_bad {z : Nat → Int32} {p w r : Int32} (c : strC z p) (hw : w.toInt < 0 ∨ 1 < w.toInt) (h : meetA z p w r) : r = -2 := by
  unfold meetA at h; rw [if_pos c, if_neg (by omega)] at h; exact h
theorem mt_none {z : Nat → Int32} {p w r : Int32} (c : strC z p) (hw : 0 ≤ w.toInt ∧ w.toInt ≤ 1) (h6 : z 6 = 0) (h : meetA z p w r) : r = -5 := by
  unfold meetA at h; rw [if_pos c, if_pos hw, if_pos h6] at h; exact h
theorem mt_is {z : Nat → Int32} {p w r : Int32} (c : strC z p) (hw : 0 ≤ w.toInt ∧ w.toInt ≤ 1) (h6 : ¬ z 6 = 0) (h : meetA z p w r) : leastK (sumS z (z 6).toInt.toNat).toInt (ofZ z p.toInt.toNat 0).toInt r.toInt := by
  unfold meetA at h; rw [if_pos c, if_pos hw, if_neg h6] at h; exact h
theorem un_bad (z : Nat → Int32) {p : Int32} (h : p.toInt < 0 ∨ 3 < p.toInt) : untR z p = -2 := by unfold untR; rw [if_neg (by unfold untC; omega)]
theorem un_not {z : Nat → Int32} {p : Int32} (h : untC p) (c : ¬ canZ z) : untR z p = -5 := by unfold untR; rw [if_pos h, if_neg c]
theorem mc_bad {z : Nat → Int32} {p r : Int32} (h : p.toInt < 1 ∨ 500 < p.toInt) (hm : marchA z p r) : r = -2 := by
  unfold marchA at hm; rw [if_neg (by omega)] at hm; exact hm
theorem mc_not {z : Nat → Int32} {p r : Int32} (h : 1 ≤ p.toInt ∧ p.toInt ≤ 500) (c : ¬ (canZ z ∧ ¬ z 188 = 1)) (hm : marchA z p r) : r = -5 := by
  unfold marchA at hm; rw [if_pos h, if_neg c] at hm; exact hm
theorem mc_is {z : Nat → Int32} {p r : Int32} (h : 1 ≤ p.toInt ∧ p.toInt ≤ 500) (c : canZ z ∧ ¬ z 188 = 1) (hm : marchA z p r) : r.toInt = walkN p.toInt.toNat z := by
  unfold marchA at hm; rw [if_pos h, if_pos c] at hm; exact hm
theorem FN_0 (p : Nat → Int32) : ¬ FN p (0 : Int32).toInt.toNat := by
  rintro ⟨s, h1, h2⟩
  have : scn p 0 = some s := h1
  rw [scn] at this
  cases this
  exact h2 rfl
theorem pv_bad (z : Nat → Int32) {p1 p2 : Int32} (h : ¬ paveV p1 p2) : paveR z p1 p2 = -2 := by unfold paveR; rw [if_neg h]
theorem pv_full {z : Nat → Int32} {p1 p2 : Int32} (h : paveV p1 p2) (h7 : z 7 = 12) : paveR z p1 p2 = -4 := by unfold paveR; rw [if_pos h, if_pos h7]
theorem pv_is {z : Nat → Int32} {p1 p2 : Int32} (h : paveC z p1 p2) : paveR z p1 p2 = z 7 := by unfold paveR; rw [if_pos h.1, if_neg h.2]
theorem line0 {z : Nat → Int32} (h : 0 < (z 6).toInt) : lineC z 0 := ⟨by decide, h⟩
theorem str0 {z : Nat → Int32} (h : 0 < (z 7).toInt) : strC z 0 := ⟨by decide, h⟩
theorem foot00 {z : Nat → Int32} (i : SongOK z) (h : 0 < (z 6).toInt) : footC z 0 0 := by
  have h8 : 1 ≤ (z 8).toInt ∧ (z 8).toInt ≤ 12 := (i.2 0 h).1
  exact ⟨line0 h, by decide, by show (0 : Int32).toInt < (z 8).toInt; rw [show (0 : Int32).toInt = 0 from by decide]; omega⟩
theorem foot0no {z : Nat → Int32} (i : SongOK z) {f : Int32} (hf : f.toInt < 0 ∨ 12 ≤ f.toInt) : ¬ footC z 0 f := by
  intro c
  have h8 : 1 ≤ (z 8).toInt ∧ (z 8).toInt ≤ 12 := (i.2 0 (by have := c.1.2; rw [show (0 : Int32).toInt = 0 from by decide] at this; omega)).1
  have h1 := c.2.1
  have h2 : f.toInt < (z 8).toInt := c.2.2
  omega
/-! ===== isSong ===== -/
def mkN (z : Nat → Int32) (l f : Nat) : Int32 := if mkZ z l f then 1 else 0
theorem mkN_in (z : Nat → Int32) (l f : Nat) : 0 ≤ (mkN z l f).toInt ∧ (mkN z l f).toInt ≤ 1 := by
  unfold mkN
  split <;> decide
theorem sing_dry {n md : Int} {b : Prop} [Decidable b] (h : ¬ b) : singF n md b = n := by unfold singF; rw [if_neg h]
theorem sing_mud {n md s : Int} {b : Prop} [Decidable b] (hm : 2 ≤ md ∧ md ≤ 9) (hn : 1 ≤ n ∧ n ≤ 99) (hb : b) (h : s = singF n md b) : (0 ≤ s ∧ s ≤ 200) ∧ s - s / md = n ∧ ¬ s % md = 0 := by
  unfold singF at h
  rw [if_pos hb] at h
  have h8 : md = 2 ∨ md = 3 ∨ md = 4 ∨ md = 5 ∨ md = 6 ∨ md = 7 ∨ md = 8 ∨ md = 9 := by omega
  rcases h8 with g | g | g | g | g | g | g | g <;> subst g <;> simp only [Int.reduceSub, Int.ediv_one] at h <;> omega
