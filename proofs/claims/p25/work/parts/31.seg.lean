/-! ===== worlds in segments: another order; a callee's cells in front ===== -/
theorem xg_P {D : va_G} {cl : List vw_C} {ws ws' : va_W} {H : Heap} (h : va_P D cl ws H) (p : ws.Perm ws') : va_P D cl ws' H := fun k q hk => by
  have h1 : q ∈ ws' := List.mem_of_getElem? hk
  obtain ⟨j, hj⟩ := List.getElem?_of_mem (p.mem_iff.mpr h1)
  exact h j q hj
theorem xg_D1 {A : Nat → Prop} {ws : va_W} (h : va_D A ws) : (ws.map Prod.fst).Nodup := by
  unfold List.Nodup
  rw [List.pairwise_iff_getElem]
  intro i j hi hj hij e
  have hi' : i < ws.length := by simpa using hi
  have hj' : j < ws.length := by simpa using hj
  rw [List.getElem_map, List.getElem_map] at e
  have := h.1 i j ws[i] ws[j] (List.getElem?_eq_getElem hi') (List.getElem?_eq_getElem hj') e
  omega
theorem xg_D2 {A : Nat → Prop} {ws : va_W} (h1 : (ws.map Prod.fst).Nodup) (h2 : ∀ q ∈ ws, A q.1) : va_D A ws := by
  refine ⟨fun i j p q hi hj e => ?_, fun k q hk => h2 q (List.mem_of_getElem? hk)⟩
  unfold List.Nodup at h1
  rw [List.pairwise_iff_getElem] at h1
  obtain ⟨hi', ei⟩ := List.getElem?_eq_some_iff.mp hi
  obtain ⟨hj', ej⟩ := List.getElem?_eq_some_iff.mp hj
  rcases Nat.lt_trichotomy i j with q1 | q1 | q1
  · exact absurd (by rw [List.getElem_map, List.getElem_map, ei, ej]; exact e) (h1 i j (by simpa using hi') (by simpa using hj') q1)
  · exact q1
  · exact absurd (by rw [List.getElem_map, List.getElem_map, ei, ej]; exact e.symm) (h1 j i (by simpa using hj') (by simpa using hi') q1)
theorem xg_D {A : Nat → Prop} {ws ws' : va_W} (h : va_D A ws) (p : ws.Perm ws') : va_D A ws' :=
  xg_D2 ((p.map Prod.fst).nodup_iff.mp (xg_D1 h)) (fun q hq => by
    obtain ⟨k, hk⟩ := List.getElem?_of_mem (p.mem_iff.mpr hq)
    exact h.2 k q hk)
theorem xg_nd : ∀ l : List Nat, l.Nodup → va_nd l = true
  | [], _ => rfl
  | a :: l, h => by
    rw [List.nodup_cons] at h
    rw [va_nd, xg_nd l h.2, Bool.and_true]
    exact decide_eq_true h.1
theorem xg_ndr (n : Nat) : va_nd (List.range n) = true := xg_nd _ List.nodup_range
theorem xg_range (wc r : va_W) : (List.range wc.length).map (fun i => (wc ++ r)[i]?) = wc.map some := by
  apply List.ext_getElem
  · simp
  · intro i h1 h2
    have h3 : i < wc.length := by simpa using h1
    simp only [List.getElem_map, List.getElem_range]
    rw [List.getElem?_append_left h3, List.getElem?_eq_getElem h3]
theorem xg_setA : ∀ (wc w1 pre r : va_W), w1.length = wc.length → xSet (pre ++ (wc ++ r)) (List.range' pre.length wc.length) w1 = pre ++ (w1 ++ r)
  | [], w1, pre, r, h => by
    have : w1 = [] := List.length_eq_zero_iff.mp (by simpa using h)
    subst this
    rfl
  | a :: wc, [], pre, r, h => by simp at h
  | a :: wc, e :: w1, pre, r, h => by
    have h' : w1.length = wc.length := by simpa using h
    show xSet ((pre ++ (a :: (wc ++ r))).set pre.length e) (List.range' (pre.length + 1) wc.length) w1 = _
    have h2 : (pre ++ (a :: (wc ++ r))).set pre.length e = (pre ++ [e]) ++ (wc ++ r) := by
      rw [List.set_append_right _ _ (Nat.le_refl _), Nat.sub_self]
      simp
    rw [h2]
    have h3 := xg_setA wc w1 (pre ++ [e]) r h'
    rw [show (pre ++ [e]).length = pre.length + 1 from by simp] at h3
    rw [h3]
    simp
theorem xg_set {wc w1 r : va_W} (h : w1.map Prod.fst = wc.map Prod.fst) : xSet (wc ++ r) (List.range wc.length) w1 = w1 ++ r := by
  have h1 : w1.length = wc.length := by simpa using congrArg List.length h
  have h2 := xg_setA wc w1 [] r h1
  rw [List.range_eq_range']
  simpa using h2
def flat6 (S : Nat → va_W) : va_W := S 0 ++ (S 1 ++ (S 2 ++ (S 3 ++ (S 4 ++ S 5))))
def oth6 (S : Nat → va_W) : Nat → va_W
  | 0 => S 1 ++ (S 2 ++ (S 3 ++ (S 4 ++ S 5)))
  | 1 => S 0 ++ (S 2 ++ (S 3 ++ (S 4 ++ S 5)))
  | 2 => S 0 ++ (S 1 ++ (S 3 ++ (S 4 ++ S 5)))
  | 3 => S 0 ++ (S 1 ++ (S 2 ++ (S 4 ++ S 5)))
  | 4 => S 0 ++ (S 1 ++ (S 2 ++ (S 3 ++ S 5)))
  | _ => S 0 ++ (S 1 ++ (S 2 ++ (S 3 ++ S 4)))
theorem xg_sw (a b c : va_W) : (a ++ (b ++ c)).Perm (b ++ (a ++ c)) := by
  rw [← List.append_assoc, ← List.append_assoc]
  exact List.Perm.append_right c List.perm_append_comm
theorem flat6_p (S : Nat → va_W) {k : Nat} (h : k < 6) : (flat6 S).Perm (S k ++ oth6 S k) := by
  have h2 : k = 0 ∨ k = 1 ∨ k = 2 ∨ k = 3 ∨ k = 4 ∨ k = 5 := by omega
  have p1 : ∀ t : va_W, (S 0 ++ (S 1 ++ t)).Perm (S 1 ++ (S 0 ++ t)) := fun t => xg_sw _ _ _
  have p2 : ∀ t : va_W, (S 0 ++ (S 1 ++ (S 2 ++ t))).Perm (S 2 ++ (S 0 ++ (S 1 ++ t))) := fun t => (List.Perm.append_left _ (xg_sw _ _ _)).trans (xg_sw _ _ _)
  have p3 : ∀ t : va_W, (S 0 ++ (S 1 ++ (S 2 ++ (S 3 ++ t)))).Perm (S 3 ++ (S 0 ++ (S 1 ++ (S 2 ++ t)))) := fun t => (List.Perm.append_left _ (List.Perm.append_left _ (xg_sw _ _ _))).trans ((List.Perm.append_left _ (xg_sw _ _ _)).trans (xg_sw _ _ _))
  have p4 : ∀ t : va_W, (S 0 ++ (S 1 ++ (S 2 ++ (S 3 ++ (S 4 ++ t))))).Perm (S 4 ++ (S 0 ++ (S 1 ++ (S 2 ++ (S 3 ++ t))))) := fun t => (List.Perm.append_left _ (List.Perm.append_left _ (List.Perm.append_left _ (xg_sw _ _ _)))).trans ((List.Perm.append_left _ (List.Perm.append_left _ (xg_sw _ _ _))).trans ((List.Perm.append_left _ (xg_sw _ _ _)).trans (xg_sw _ _ _)))
  rcases h2 with e | e | e | e | e | e <;> subst e
  · exact List.Perm.refl _
  · exact p1 _
  · exact p2 _
  · exact p3 _
  · exact p4 _
  · show (S 0 ++ (S 1 ++ (S 2 ++ (S 3 ++ (S 4 ++ S 5))))).Perm (S 5 ++ (S 0 ++ (S 1 ++ (S 2 ++ (S 3 ++ S 4)))))
    refine ((List.Perm.append_left _ (List.Perm.append_left _ (List.Perm.append_left _ (List.Perm.append_left _ List.perm_append_comm)))).trans ?_)
    exact (List.Perm.append_left _ (List.Perm.append_left _ (List.Perm.append_left _ (xg_sw _ _ _)))).trans ((List.Perm.append_left _ (List.Perm.append_left _ (xg_sw _ _ _))).trans ((List.Perm.append_left _ (xg_sw _ _ _)).trans (xg_sw _ _ _)))
theorem oth6_c {S T : Nat → va_W} {k : Nat} (h : k < 6) (e : ∀ i, i < 6 → i ≠ k → S i = T i) : oth6 S k = oth6 T k := by
  have h2 : k = 0 ∨ k = 1 ∨ k = 2 ∨ k = 3 ∨ k = 4 ∨ k = 5 := by omega
  rcases h2 with q | q | q | q | q | q <;> subst q <;> simp only [oth6]
  · rw [e 1 (by omega) (by omega), e 2 (by omega) (by omega), e 3 (by omega) (by omega), e 4 (by omega) (by omega), e 5 (by omega) (by omega)]
  · rw [e 0 (by omega) (by omega), e 2 (by omega) (by omega), e 3 (by omega) (by omega), e 4 (by omega) (by omega), e 5 (by omega) (by omega)]
  · rw [e 0 (by omega) (by omega), e 1 (by omega) (by omega), e 3 (by omega) (by omega), e 4 (by omega) (by omega), e 5 (by omega) (by omega)]
  · rw [e 0 (by omega) (by omega), e 1 (by omega) (by omega), e 2 (by omega) (by omega), e 4 (by omega) (by omega), e 5 (by omega) (by omega)]
  · rw [e 0 (by omega) (by omega), e 1 (by omega) (by omega), e 2 (by omega) (by omega), e 3 (by omega) (by omega), e 5 (by omega) (by omega)]
  · rw [e 0 (by omega) (by omega), e 1 (by omega) (by omega), e 2 (by omega) (by omega), e 3 (by omega) (by omega), e 4 (by omega) (by omega)]
/-- a State's twelve cells at a, with the contents c -/
def stW (cI cZ : ClassId) (a : Nat → Nat) (c : Nat → Nat → Int32) : va_W := [((a 0), .inr (6, [.ref (a 1), .ref (a 3), .ref (a 7), .ref (a 11)])), ((a 1), .inr (4, [.ref (a 2)])), ((a 2), .inl (cI, 6, .inl (c 0))), ((a 3), .inr (5, [.int (c 7 0), .ref (a 4), .ref (a 5), .ref (a 6)])), ((a 4), .inl (cI, 10, .inl (c 1))), ((a 5), .inl (cI, 120, .inl (c 2))), ((a 6), .inl (cZ, 120, .inl (c 3))), ((a 7), .inr (3, [.int (c 7 1), .ref (a 8), .ref (a 9), .ref (a 10)])), ((a 8), .inl (cI, 12, .inl (c 4))), ((a 9), .inl (cI, 12, .inl (c 5))), ((a 10), .inl (cZ, 12, .inl (c 6))), ((a 11), .inr (1, [.int (c 8 0), .int (c 8 1), .int (c 8 2), .int (c 8 3), .int (c 8 4), .int (c 8 5), .int (c 8 6), .int (c 8 7), .int (c 8 8), .int (c 8 9), .int (c 8 10), .int (c 8 11), .int (c 8 12), .int (c 8 13), .int (c 8 14)]))]
theorem stW_f (cI cZ : ClassId) (a : Nat → Nat) (c : Nat → Nat → Int32) : (stW cI cZ a c).map Prod.fst = [a 0, a 1, a 2, a 3, a 4, a 5, a 6, a 7, a 8, a 9, a 10, a 11] := rfl
/-- the history's six states -/
def hsW (cI cZ : ClassId) (ha : Nat → Nat → Nat) (cs : Nat → Nat → Nat → Int32) : va_W := flat6 (fun i => stW cI cZ (ha i) (cs i))
theorem hsW_f (cI cZ : ClassId) (ha : Nat → Nat → Nat) (cs cs' : Nat → Nat → Nat → Int32) : (hsW cI cZ ha cs).map Prod.fst = (hsW cI cZ ha cs').map Prod.fst := by
  simp only [hsW, flat6, List.map_append, stW_f]
theorem rec_in (h T : va_W) (S : Nat → va_W) {k : Nat} (hk : k < 6) : (h ++ (flat6 S ++ T)).Perm ((h ++ (S k ++ T)) ++ oth6 S k) := by
  rw [List.append_assoc]
  refine List.Perm.append_left h ?_
  refine ((flat6_p S hk).append_right T).trans ?_
  rw [List.append_assoc, List.append_assoc]
  exact List.Perm.append_left _ List.perm_append_comm
theorem hs_in (cI cZ : ClassId) (ha : Nat → Nat → Nat) (cs : Nat → Nat → Nat → Int32) (h T : va_W) {k : Nat} (hk : k < 6) : (h ++ (hsW cI cZ ha cs ++ T)).Perm ((h ++ (stW cI cZ (ha k) (cs k) ++ T)) ++ oth6 (fun i => stW cI cZ (ha i) (cs i)) k) := rec_in h T (fun i => stW cI cZ (ha i) (cs i)) hk
theorem hs_out (cI cZ : ClassId) (ha : Nat → Nat → Nat) (cs : Nat → Nat → Nat → Int32) (c0 : Nat → Nat → Int32) (h T : va_W) {k j : Nat} (hk : k < 6) (hj : j = k) : ((h ++ (stW cI cZ (ha k) c0 ++ T)) ++ oth6 (fun i => stW cI cZ (ha i) (cs i)) k).Perm (h ++ (hsW cI cZ ha (recC cs c0 j) ++ T)) := by
  subst hj
  have e1 : c0 = recC cs c0 j j := by simp [recC]
  have e2 : oth6 (fun i => stW cI cZ (ha i) (cs i)) j = oth6 (fun i => stW cI cZ (ha i) (recC cs c0 j i)) j := oth6_c hk (fun i _ hne => by simp [recC, hne])
  rw [e2]
  have := (hs_in cI cZ ha (recC cs c0 j) h T hk).symm
  rw [← e1] at this
  exact this
theorem hs_out0 (cI cZ : ClassId) (ha : Nat → Nat → Nat) (cs : Nat → Nat → Nat → Int32) (h T : va_W) {k : Nat} (hk : k < 6) : ((h ++ (stW cI cZ (ha k) (cs k) ++ T)) ++ oth6 (fun i => stW cI cZ (ha i) (cs i)) k).Perm (h ++ (hsW cI cZ ha cs ++ T)) := (hs_in cI cZ ha cs h T hk).symm
