/-! ===== the texts that the law makes up: a number a foot, with or without a mark ===== -/
def chT (c : Nat) : Int32 := if c % 3 = 0 then 117 else if c % 3 = 1 then 100 else 113
def apT (t : Int64) (c : Nat) : Int64 := if c < 3 then t * 256 + (chT c).toInt64 else (t * 256 + (chT c).toInt64) * 256 + 39
def enT (l : List Nat) : Int64 := l.foldl apT 0
def coT (c : Nat) : List Int32 := chT c :: (if c < 3 then [] else [39])
def cosT (l : List Nat) : List Int32 := l.flatMap coT
def qT (L : List Int32) : Nat → Int32 := fun j => L.getD j 0
def scT (p : Nat → Int32) (n : Nat) : Option (Nat × Nat) := (scn p n).map (fun s => (s.1, s.2.1))
def chkA (l : List Nat) : Bool := decide (chF 8 (enT l) 0 = some (cosT l).length) && (List.range (cosT l).length).all (fun j => decide (cdA (enT l) (nI ((cosT l).length - 1 - j)) = (cosT l).getD j 0))
def chkB (l : List Nat) : Bool := decide (1 ≤ (cosT l).length ∧ (cosT l).length ≤ 7) && decide (scT (qT (cosT l)) (cosT l).length = some (0, l.length)) && decide (cM (qT (cosT l)) (cosT l).length 0 = l.length)
def chkC (l : List Nat) : Bool := decide (scT (qT (cosT l ++ [47, 117])) ((cosT l).length + 2) = some (1, 1)) && decide (cM (qT (cosT l ++ [47, 117])) ((cosT l).length + 2) 0 = l.length)
def chkT (l : List Nat) : Bool := chkA l && (chkB l && chkC l)
set_option maxRecDepth 100000 in
theorem chk_1 : ∀ a, a < 6 → chkT [a] = true := by decide +kernel
set_option maxRecDepth 100000 in
theorem chk_2 : ∀ a, a < 6 → ∀ b, b < 6 → chkT [a, b] = true := by decide +kernel
set_option maxRecDepth 100000 in
theorem chk_3 : ∀ a, a < 6 → ∀ b, b < 6 → ∀ c, c < 6 → chkT [a, b, c] = true := by decide +kernel
set_option maxRecDepth 100000 in
theorem chk_4 : ∀ a, a < 6 → ∀ b, b < 6 → ∀ c, c < 6 → ∀ d, d < 3 → chkT [a, b, c, d] = true := by decide +kernel
theorem gd_l {α : Type} {l r : List α} {j : Nat} {d : α} (h : j < l.length) : (l ++ r).getD j d = l.getD j d := by
  rw [List.getD_eq_getElem?_getD, List.getD_eq_getElem?_getD, List.getElem?_append_left h]
theorem gd_r {α : Type} {l r : List α} {j : Nat} {d : α} (h : l.length ≤ j) : (l ++ r).getD j d = r.getD (j - l.length) d := by
  rw [List.getD_eq_getElem?_getD, List.getD_eq_getElem?_getD, List.getElem?_append_right h]
def okT (l : List Nat) : Prop := ∀ j, j < l.length → l.getD j 0 < if j < 3 then 6 else 3
theorem chk_all {l : List Nat} (h : okT l) (h1 : 1 ≤ l.length) (h4 : l.length ≤ 4) : chkT l = true := by
  match l, h, h1, h4 with
  | [a], h, _, _ => exact chk_1 a (h 0 (by simp))
  | [a, b], h, _, _ => exact chk_2 a (h 0 (by simp)) b (h 1 (by simp))
  | [a, b, c], h, _, _ => exact chk_3 a (h 0 (by simp)) b (h 1 (by simp)) c (h 2 (by simp))
  | [a, b, c, d], h, _, _ => exact chk_4 a (h 0 (by simp)) b (h 1 (by simp)) c (h 2 (by simp)) d (h 3 (by simp))
  | _ :: _ :: _ :: _ :: _ :: _, _, _, h4 => simp at h4
theorem okT_0 : okT [] := fun j h => absurd h (Nat.not_lt_zero _)
theorem okT_s {l : List Nat} {c : Nat} (h : okT l) (hc : c < if l.length < 3 then 6 else 3) : okT (l ++ [c]) := by
  intro j hj
  rw [List.length_append] at hj
  by_cases e : j < l.length
  · rw [gd_l e]
    exact h j e
  · have e2 : j = l.length := by simp at hj; omega
    subst e2
    rw [gd_r (Nat.le_refl _), Nat.sub_self]
    exact hc
theorem enT_s (l : List Nat) (c : Nat) : enT (l ++ [c]) = apT (enT l) c := by
  unfold enT
  rw [List.foldl_append]
  rfl
/-- a foot more, with or without a mark -/
theorem tok_ex {t y h2 : Int64} {k : Nat} {ch : Int32} (hc : ch = 117 ∨ ch = 100 ∨ ch = 113) (hy : y = t * 256 + ch.toInt64) (hh : h2 = y ∨ (k < 3 ∧ h2 = y * 256 + 39)) : ∃ c : Nat, h2 = apT t c ∧ c < if k < 3 then 6 else 3 := by
  obtain ⟨d, hd, hd2⟩ : ∃ d : Nat, d < 3 ∧ ∀ e, e = 0 ∨ e = 3 → chT (d + e) = ch := by
    rcases hc with rfl | rfl | rfl
    · exact ⟨0, by omega, fun e he => by rcases he with rfl | rfl <;> rfl⟩
    · exact ⟨1, by omega, fun e he => by rcases he with rfl | rfl <;> rfl⟩
    · exact ⟨2, by omega, fun e he => by rcases he with rfl | rfl <;> rfl⟩
  rcases hh with rfl | ⟨hk, rfl⟩
  · refine ⟨d + 0, ?_, by split <;> omega⟩
    unfold apT
    rw [if_pos (by omega), hd2 0 (Or.inl rfl), hy]
  · refine ⟨d + 3, ?_, by rw [if_pos hk]; omega⟩
    unfold apT
    rw [if_neg (by omega), hd2 3 (Or.inr rfl), hy]
/-! a scan sees what it has passed alone -/
theorem scn_c {p q : Nat → Int32} : ∀ n : Nat, (∀ j, j < n → p j = q j) → scn p n = scn q n
  | 0, _ => rfl
  | n + 1, h => by rw [scn, scn, scn_c n (fun j hj => h j (by omega)), h n (by omega)]
theorem cM_c {p q : Nat → Int32} : ∀ n : Nat, (∀ j, j < n → p j = q j) → cM p n = cM q n
  | 0, _ => rfl
  | n + 1, h => by rw [cM, cM, scn_c n (fun j hj => h j (by omega)), cM_c n (fun j hj => h j (by omega)), h n (by omega)]
theorem apP_out {x : Int64} : ∀ (n t : Nat) (p : Nat → Int32) {j : Nat}, j < t → apP x n t p j = p j
  | 0, t, p, j, _ => rfl
  | n + 1, t, p, j, h => by rw [apP, apP_out n (t + 1) _ (by omega), upd_n _ _ _ (by omega)]
theorem apP_at {x : Int64} : ∀ (n t : Nat) (p : Nat → Int32) {j : Nat}, j < n → apP x n t p (t + j) = cdA x (nI (n - 1 - j))
  | 0, t, p, j, h => absurd h (Nat.not_lt_zero _)
  | n + 1, t, p, j, h => by
    rw [apP]
    by_cases e : j = 0
    · subst e
      rw [apP_out n (t + 1) _ (by omega), Nat.add_zero, upd_s, show n + 1 - 1 - 0 = n from by omega]
    · have := apP_at (x := x) n (t + 1) (upd p t (cdA x (nI n))) (j := j - 1) (by omega)
      rw [show t + 1 + (j - 1) = t + j from by omega, show n - 1 - (j - 1) = n + 1 - 1 - j from by omega] at this
      exact this
theorem scT_some {p : Nat → Int32} {n a b : Nat} (h : scT p n = some (a, b)) : ∃ s : SS, scn p n = some s ∧ s.1 = a ∧ s.2.1 = b := by
  unfold scT at h
  cases e : scn p n with
  | none => rw [e] at h; cases h
  | some s => rw [e] at h; cases h; exact ⟨s, rfl, rfl, rfl⟩
theorem FN_of {p : Nat → Int32} {n a b : Nat} (h : scT p n = some (a, b)) (hb : 1 ≤ b) : FN p n := by
  obtain ⟨s, h1, h2, h3⟩ := scT_some h
  exact ⟨s, h1, by omega⟩
/-- the text is put on the empty pad -/
theorem put_1 {l : List Nat} (hk : chkT l = true) (h1 : 1 ≤ l.length) {pd p1 : Nat → Int32} {r t1 : Int32} (h : putA (enT l) 0 pd r t1 p1) :
    r.toInt = ((cosT l).length : Int) ∧ t1.toInt = ((cosT l).length : Int) ∧ (1 ≤ (cosT l).length ∧ (cosT l).length ≤ 7) ∧ (∀ j, j < (cosT l).length → p1 j = qT (cosT l) j) ∧ FN p1 t1.toInt.toNat ∧ scT p1 t1.toInt.toNat = some (0, l.length) ∧ cM p1 t1.toInt.toNat 0 = l.length := by
  have z0 : (0 : Int32).toInt = 0 := by decide
  unfold chkT chkA chkB at hk
  simp only [Bool.and_eq_true, decide_eq_true_eq, List.all_eq_true, List.mem_range] at hk
  obtain ⟨⟨a1, a2⟩, ⟨⟨b1, b2⟩, b3⟩, -⟩ := hk
  unfold putA at h
  rw [a1] at h
  simp only at h
  rw [if_neg (by omega), if_neg (by omega)] at h
  obtain ⟨h2, h3, h4⟩ := h
  have hn : t1.toInt = ((cosT l).length : Int) := by omega
  have hq : ∀ j, j < (cosT l).length → p1 j = qT (cosT l) j := fun j hj => by
    have := apP_at (x := enT l) (cosT l).length (0 : Int32).toInt.toNat pd hj
    rw [← h4, z0, show (0 : Int).toNat = 0 from rfl, Nat.zero_add, a2 j hj] at this
    exact this
  have hnn : t1.toInt.toNat = (cosT l).length := by omega
  have hs : scT p1 t1.toInt.toNat = some (0, l.length) := by rw [hnn]; unfold scT at b2 ⊢; rw [scn_c _ hq]; exact b2
  refine ⟨by rw [h2]; exact hn, hn, b1, hq, FN_of hs h1, hs, ?_⟩
  rw [hnn, cM_c _ hq]
  exact b3
/-- a line more behind it -/
theorem put_2 {l : List Nat} (hk : chkT l = true) {p1 p2 : Nat → Int32} {r t1 t2 : Int32} (ht : t1.toInt = ((cosT l).length : Int)) (hq : ∀ j, j < (cosT l).length → p1 j = qT (cosT l) j) (h : putA (12149 : Int64) t1 p1 r t2 p2) :
    r.toInt = ((cosT l).length : Int) + 2 ∧ t2.toInt = ((cosT l).length : Int) + 2 ∧ FN p2 t2.toInt.toNat ∧ scT p2 t2.toInt.toNat = some (1, 1) ∧ cM p2 t2.toInt.toNat 0 = l.length := by
  unfold chkT chkA chkB chkC at hk
  simp only [Bool.and_eq_true, decide_eq_true_eq, List.all_eq_true, List.mem_range] at hk
  obtain ⟨-, ⟨⟨b1, -⟩, -⟩, c1, c2⟩ := hk
  unfold putA at h
  rw [show chF 8 (12149 : Int64) 0 = some 2 from by decide +kernel] at h
  simp only at h
  rw [if_neg (by omega), if_neg (by omega)] at h
  obtain ⟨h2, h3, h4⟩ := h
  have hnn : t2.toInt.toNat = (cosT l).length + 2 := by omega
  have htt : t1.toInt.toNat = (cosT l).length := by omega
  have hq2 : ∀ j, j < (cosT l).length + 2 → p2 j = qT (cosT l ++ [47, 117]) j := fun j hj => by
    rw [h4, htt]
    by_cases e : j < (cosT l).length
    · rw [apP_out 2 _ _ e, hq j e]
      unfold qT
      rw [gd_l e]
    · have e2 : j = (cosT l).length + 0 ∨ j = (cosT l).length + 1 := by omega
      unfold qT
      rw [gd_r (by omega)]
      rcases e2 with rfl | rfl
      · rw [apP_at 2 _ _ (by omega), Nat.add_sub_cancel_left]; decide +kernel
      · rw [apP_at 2 _ _ (by omega), Nat.add_sub_cancel_left]; decide +kernel
  have hs : scT p2 t2.toInt.toNat = some (1, 1) := by rw [hnn]; unfold scT at c1 ⊢; rw [scn_c _ hq2]; exact c1
  refine ⟨by rw [h2]; omega, by omega, FN_of hs (Nat.le_refl 1), hs, ?_⟩
  rw [hnn, cM_c _ hq2]
  exact c2
/-- what is read from it -/
theorem read_is {p z z1 : Nat → Int32} {n a b m : Nat} (h : ReadZ p n z z1) (hs : scT p n = some (a, b)) (hm : cM p n 0 = m) : (z1 6).toInt = (a : Int) + 1 ∧ (z1 8).toInt = (m : Int) := by
  obtain ⟨s, h1, h2, h3, h4, -⟩ := h
  obtain ⟨s2, k1, k2, k3⟩ := scT_some hs
  rw [h1] at k1
  cases k1
  refine ⟨by rw [h3, k2], ?_⟩
  have := (h4 0 (Nat.zero_le _)).1
  rw [this, hm]
theorem and7 (x : Int32) : 0 ≤ (x &&& 7).toInt ∧ (x &&& 7).toInt ≤ 7 := by
  have h : (x &&& 7).toBitVec = x.toBitVec &&& 7#32 := rfl
  have h2 : (x &&& 7).toBitVec.toNat ≤ 7 := by rw [h, BitVec.toNat_and]; exact Nat.and_le_right
  have h3 : (x &&& 7).toInt = (x &&& 7).toBitVec.toInt := rfl
  rw [h3, BitVec.toInt_eq_toNat_of_lt (by omega)]
  omega
