/-! ===== what if: the class's way ===== -/
theorem RSet_x {sv z w : Nat → Int32} (h : ∀ k, k < 6 → w k = z k) (i : RSet sv z) : RSet sv w := fun k hk => by rw [h k hk]; exact i k hk
theorem RSong_x {gn : Int32} {ft bt mk z w : Nat → Int32} (h : ∀ k, 6 ≤ k → k < 174 → w k = z k) (ig : SongOK z) (i : RSong gn ft bt mk z) : RSong gn ft bt mk w := by
  obtain ⟨i1, i2⟩ := i
  have g1 := ig.1
  refine ⟨by rw [h 6 (by omega) (by omega)]; exact i1, ?_⟩
  intro l hl
  rw [h 6 (by omega) (by omega)] at hl
  have q := i2 l hl
  have g2 := (ig.2 l hl).1
  rw [h (8 + l) (by omega) (by omega)]
  refine ⟨q.1, ?_⟩
  intro f hf
  have u := q.2 f hf
  unfold btZ mkZ at *
  rw [h (12 * l + f + 18) (by omega) (by omega)]
  exact u
theorem RRoad_x {rn : Int32} {st sl md z w : Nat → Int32} (h : ∀ k, 6 ≤ k → k < 174 → w k = z k) (ir : RoadOK z) (i : RRoad rn st sl md z) : RRoad rn st sl md w := by
  obtain ⟨i1, i2⟩ := i
  have g1 := ir.1
  refine ⟨by rw [h 7 (by omega) (by omega)]; exact i1, ?_⟩
  intro k hk
  rw [h 7 (by omega) (by omega)] at hk
  have q := i2 k hk
  unfold ofZ at *
  rw [h _ (by omega) (by omega), h _ (by omega) (by omega), h _ (by omega) (by omega)]
  exact q
theorem SongOK_x {z w : Nat → Int32} (h : ∀ k, 6 ≤ k → k < 174 → w k = z k) (i : SongOK z) : SongOK w := by
  obtain ⟨i1, i2⟩ := i
  unfold SongOK
  rw [h 6 (by omega) (by omega)]
  refine ⟨i1, fun l hl => ?_⟩
  rw [h (8 + l) (by omega) (by omega)]
  obtain ⟨j1, j2⟩ := i2 l hl
  refine ⟨j1, fun f hf => ?_⟩
  rw [h _ (by omega) (by omega)]
  exact j2 f hf
theorem RoadOK_x {z w : Nat → Int32} (h : ∀ k, 6 ≤ k → k < 174 → w k = z k) (i : RoadOK z) : RoadOK w := by
  obtain ⟨i1, i2⟩ := i
  unfold RoadOK
  rw [h 7 (by omega) (by omega)]
  refine ⟨i1, fun s hs => ?_⟩
  have := i2 s hs
  unfold ofZ at *
  rw [h _ (by omega) (by omega), h _ (by omega) (by omega), h _ (by omega) (by omega)]
  exact this
theorem beat_186 (z : Nat → Int32) : beatZ z 186 = if endG z then z 186 + 1 else z 186 := by
  unfold endG
  by_cases r : restZ z
  · rw [if_neg (fun q => q.1 r), beatZ, if_pos r]
    exact restsZ_o z (by omega) (by omega) (by omega) (by omega) (by omega)
  · have hy : stepZ (singZ z) 186 = z 186 := by
      rw [stepZ_o _ (by omega) (by omega) (by omega) (by omega) (by omega) (by omega)]
      exact singZ_o z (by omega) (by omega) (by omega) (by omega) (by omega) (by omega)
    rw [beatZ, if_neg r]
    generalize stepZ (singZ z) = y at hy ⊢
    have hl : lineEZ y 186 = y 186 := lineEZ_o y (by omega) (by omega) (by omega) (by omega)
    by_cases f : inFootZ y
    · rw [if_neg (fun q => q.2.1 f), goOnZ, if_pos f, upd_n _ _ _ (by omega)]
      exact hy
    · by_cases s : songEZ y
      · rw [if_pos ⟨r, f, s⟩, goOnZ, if_neg f, if_pos s, upd_s, hy]
      · rw [if_neg (fun q => s q.2.2), goOnZ, if_neg f, if_neg s, hl, hy]
theorem beat_179 (z : Nat → Int32) : beatZ z 179 = if endS z then z 179 + 1 else z 179 := by
  unfold endS
  by_cases r : restZ z
  · rw [if_neg (fun q => q.1 r), beatZ, if_pos r]
    exact restsZ_o z (by omega) (by omega) (by omega) (by omega) (by omega)
  · rw [beatZ, if_neg r, goOnZ_o _ (by omega) (by omega) (by omega) (by omega) (by omega)]
    have hy : singZ z 179 = z 179 := singZ_o z (by omega) (by omega) (by omega) (by omega) (by omega) (by omega)
    generalize singZ z = y at hy ⊢
    by_cases f : skipZ y
    · rw [if_neg (fun q => q.2.1 f), stepZ, if_pos f, upd_n _ _ _ (by omega), upd_n _ _ _ (by omega)]
      exact hy
    · by_cases s : fullZ y
      · rw [if_pos ⟨r, f, s⟩, stepZ, if_neg f, if_pos s, upd_n _ _ _ (by omega), upd_n _ _ _ (by omega), upd_n _ _ _ (by omega), upd_s, hy]
      · rw [if_neg (fun q => s q.2.2), stepZ, if_neg f, if_neg s, upd_n _ _ _ (by omega), upd_n _ _ _ (by omega), upd_n _ _ _ (by omega)]
        exact hy
theorem song_iff {z : Nat → Int32} (hb : 0 ≤ (z 186).toInt ∧ (z 186).toInt ≤ 2000000) : ((z 186).toInt < (beatZ z 186).toInt ↔ endG z) ∧ (z 186).toInt ≤ (beatZ z 186).toInt ∧ (beatZ z 186).toInt ≤ (z 186).toInt + 1 := by
  have h1 : (z 186 + 1).toInt = (z 186).toInt + 1 := xi_add rfl (by decide) (by omega) (by omega)
  rw [beat_186]
  by_cases c : endG z
  · rw [if_pos c, h1]
    exact ⟨⟨fun _ => c, fun _ => by omega⟩, by omega, by omega⟩
  · rw [if_neg c]
    exact ⟨⟨fun q => by omega, fun q => absurd q c⟩, by omega, by omega⟩
theorem str_iff {z : Nat → Int32} (hb : 0 ≤ (z 179).toInt ∧ (z 179).toInt ≤ 12) : (z 179).toInt < (beatZ z 179).toInt ↔ endS z := by
  have h1 : (z 179 + 1).toInt = (z 179).toInt + 1 := xi_add rfl (by decide) (by omega) (by omega)
  rw [beat_179]
  by_cases c : endS z
  · rw [if_pos c, h1]
    exact ⟨fun _ => c, fun _ => by omega⟩
  · rw [if_neg c]
    exact ⟨fun q => by omega, fun q => absurd q c⟩
theorem togR_e {n : Nat} {k : Int32} {w : Nat → Int32} (h : w 188 = 1) : togR n k w = -6 := by
  cases n with
  | zero => rfl
  | succ n => rw [togR, if_neg (by rw [h]; decide)]
/-! the walk in pieces -/
theorem walk_add : ∀ (a b : Nat) (z : Nat → Int32), walkZ (a + b) z = walkZ b (walkZ a z)
  | 0, b, z => by rw [Nat.zero_add]; rfl
  | a + 1, b, z => by
    by_cases c : z 188 = 0
    · rw [show a + 1 + b = (a + b) + 1 from by omega, walkZ, if_pos c, walkZ, if_pos c, walk_add a b]
    · rw [show a + 1 + b = (a + b) + 1 from by omega, walkZ, if_neg c, walkZ, if_neg c]
      cases b with
      | zero => rfl
      | succ b => rw [walkZ, if_neg c]
theorem walk_n0 : ∀ (a : Nat) (z : Nat → Int32), walkZ a z 188 = 0 → walkN a z = a
  | 0, z, _ => rfl
  | a + 1, z, h => by
    rw [walkZ] at h
    rw [walkN]
    split at h
    · rename_i c
      rw [if_pos c, walk_n0 a _ h]
    · exact absurd h (by assumption)
theorem InvZ_188 {z : Nat → Int32} (i : InvZ z) : z 188 = 0 ∨ z 188 = 1 := by
  rw [i.2.2.2.2.1.2.2]
  split
  · exact Or.inr rfl
  · exact Or.inl rfl
theorem begin_0 {z : Nat → Int32} {k : Nat} (h : 174 ≤ k ∧ k < 190) (h2 : k ≠ 181) : beginZ z k = 0 := by
  unfold beginZ
  rw [if_neg h2, if_pos h]
/-- a shorter walk beside the whole one -/
theorem walk_short {z : Nat → Int32} (i : InvZ z) (hc : canZ z) (h0 : (z 174).toInt = 0) {m : Nat} (hm : m ≤ 5000) :
    (walkZ m z 188 = 1 → walkZ 5000 z = walkZ m z ∧ (walkZ m z 174).toInt ≤ m) ∧ (¬ walkZ m z 188 = 1 → walkZ 5000 z 188 = 1 → (m : Int) < (walkZ 5000 z 174).toInt) := by
  have e : walkZ 5000 z = walkZ (5000 - m) (walkZ m z) := by
    rw [← walk_add, show m + (5000 - m) = 5000 from by omega]
  have hk : (walkZ m z 174).toInt = walkN m z := by
    have := walk_174 m z 0 h0 (by omega) (by omega)
    omega
  refine ⟨fun h => ⟨?_, ?_⟩, fun h h2 => ?_⟩
  · rw [e]; exact walkZ_e h
  · have := walkN_le m z; omega
  · have hi := walk_inv m i hc
    have hw : walkZ m z 188 = 0 := (InvZ_188 hi).resolve_right h
    have hn := walk_n0 m z hw
    rw [e] at h2 ⊢
    cases hq : 5000 - m with
    | zero => rw [hq] at h2; exact absurd h2 h
    | succ q =>
      have h3 := walk_174 (q + 1) (walkZ m z) m (by omega) (by omega) (by omega)
      rw [h3, walkN, if_pos hw]
      omega
/-! breath without end -/
def EO (f g : Nat → Int32) : Prop := ∀ k, k ≠ 4 → k ≠ 181 → f k = g k
theorem EO_upd {f g : Nat → Int32} (h : EO f g) {x y : Int32} (e : x = y) (j : Nat) : EO (upd f j x) (upd g j y) := fun k h1 h2 => by
  unfold upd
  by_cases c : k = j
  · rw [if_pos c, if_pos c, e]
  · rw [if_neg c, if_neg c, h k h1 h2]
theorem EO_updl {f g : Nat → Int32} (h : EO f g) (x : Int32) : EO (upd f 181 x) g := fun k h1 h2 => by rw [upd_n _ _ _ h2]; exact h k h1 h2
theorem EO_updr {f g : Nat → Int32} (h : EO f g) (x : Int32) : EO f (upd g 181 x) := fun k h1 h2 => by rw [upd_n _ _ _ h2]; exact h k h1 h2
theorem EO_step {v u : Nat → Int32} (h : EO v u) (ha : 0 ≤ (u 179).toInt ∧ (u 179).toInt ≤ 11) : EO (stepZ v) (stepZ u) ∧ stepZ v 4 = v 4 ∧ stepZ v 181 = v 181 ∧ stepZ u 4 = u 4 ∧ stepZ u 181 = u 181 := by
  refine ⟨?_, stepZ_o _ (by omega) (by omega) (by omega) (by omega) (by omega) (by omega), stepZ_o _ (by omega) (by omega) (by omega) (by omega) (by omega) (by omega), stepZ_o _ (by omega) (by omega) (by omega) (by omega) (by omega) (by omega), stepZ_o _ (by omega) (by omega) (by omega) (by omega) (by omega) (by omega)⟩
  have e1 : v 179 = u 179 := h _ (by omega) (by omega)
  have e2 : v 189 = u 189 := h _ (by omega) (by omega)
  have e3 : v 5 = u 5 := h _ (by omega) (by omega)
  have e4 : v 184 = u 184 := h _ (by omega) (by omega)
  have e5 : v 180 = u 180 := h _ (by omega) (by omega)
  have e6 : v 183 = u 183 := h _ (by omega) (by omega)
  have e7 : v 7 = u 7 := h _ (by omega) (by omega)
  have o2 : ofZ v (u 179).toInt.toNat 2 = ofZ u (u 179).toInt.toNat 2 := h _ (by omega) (by omega)
  have o0 : ofZ v (u 179).toInt.toNat 0 = ofZ u (u 179).toInt.toNat 0 := h _ (by omega) (by omega)
  have hs : skipZ v ↔ skipZ u := by unfold skipZ; rw [e1, e2, e3, o2]
  have hf : fullZ v ↔ fullZ u := by unfold fullZ; rw [e1, e5, o0]
  unfold stepZ
  by_cases c : skipZ u
  · rw [if_pos c, if_pos (hs.mpr c)]
    exact EO_upd (EO_upd h (by rw [e2]) _) (by rw [e4]) _
  · rw [if_neg c, if_neg (fun q => c (hs.mp q))]
    by_cases d : fullZ u
    · rw [if_pos d, if_pos (hf.mpr d)]
      exact EO_upd (EO_upd (EO_upd (EO_upd (EO_upd (EO_upd h (by rw [e2]) _) (by rw [e5]) _) (by rw [e6]) _) (by rw [e1]) _) rfl _) rfl _ |> fun q => EO_upd q (by rw [e1, e7]) _
    · rw [if_neg d, if_neg (fun q => d (hf.mp q))]
      exact EO_upd (EO_upd (EO_upd h (by rw [e2]) _) (by rw [e5]) _) (by rw [e6]) _
theorem EO_goOn {v u : Nat → Int32} (h : EO v u) (hi : 0 ≤ (u 176).toInt ∧ (u 176).toInt ≤ 9 ∧ 0 ≤ (u 177).toInt ∧ (u 177).toInt ≤ 11) : EO (goOnZ v) (goOnZ u) ∧ goOnZ v 4 = v 4 ∧ goOnZ v 181 = v 181 ∧ goOnZ u 4 = u 4 ∧ goOnZ u 181 = u 181 := by
  refine ⟨?_, goOnZ_o _ (by omega) (by omega) (by omega) (by omega) (by omega), goOnZ_o _ (by omega) (by omega) (by omega) (by omega) (by omega), goOnZ_o _ (by omega) (by omega) (by omega) (by omega) (by omega), goOnZ_o _ (by omega) (by omega) (by omega) (by omega) (by omega)⟩
  have e1 : v 176 = u 176 := h _ (by omega) (by omega)
  have e2 : v 177 = u 177 := h _ (by omega) (by omega)
  have e3 : v 178 = u 178 := h _ (by omega) (by omega)
  have e4 : v 1 = u 1 := h _ (by omega) (by omega)
  have e5 : v 6 = u 6 := h _ (by omega) (by omega)
  have e6 : v 186 = u 186 := h _ (by omega) (by omega)
  have e7 : v (12 * (u 176).toInt.toNat + (u 177).toInt.toNat + 18) = u (12 * (u 176).toInt.toNat + (u 177).toInt.toNat + 18) := h _ (by omega) (by omega)
  have e8 : v (8 + (u 176).toInt.toNat) = u (8 + (u 176).toInt.toNat) := h _ (by omega) (by omega)
  have hf : inFootZ v ↔ inFootZ u := by unfold inFootZ btZ; rw [e1, e2, e3, e7]
  have hl : inLineZ v ↔ inLineZ u := by unfold inLineZ; rw [e1, e2, e8]
  have hm : mkZ v (u 176).toInt.toNat (u 177).toInt.toNat ↔ mkZ u (u 176).toInt.toNat (u 177).toInt.toNat := by unfold mkZ; rw [e7]
  have ef : EO (footEZ v) (footEZ u) := by
    unfold footEZ
    rw [e1, e2, e3, e4]
    refine EO_upd (EO_upd (EO_upd (EO_upd h rfl _) rfl _) ?_ _) rfl _
    by_cases c : mkZ u (u 176).toInt.toNat (u 177).toInt.toNat
    · rw [if_pos c, if_pos (hm.mpr c)]
    · rw [if_neg c, if_neg (fun q => c (hm.mp q))]
  have el : EO (lineEZ v) (lineEZ u) := by
    unfold lineEZ
    by_cases c : inLineZ u
    · rw [if_pos c, if_pos (hl.mpr c)]; exact ef
    · rw [if_neg c, if_neg (fun q => c (hl.mp q))]
      exact EO_upd (EO_upd ef rfl _) (by rw [e1]) _
  have hs : songEZ v ↔ songEZ u := by unfold songEZ; rw [el 176 (by omega) (by omega), e5]
  unfold goOnZ
  by_cases c : inFootZ u
  · rw [if_pos c, if_pos (hf.mpr c)]
    exact EO_upd h (by rw [e3]) _
  · rw [if_neg c, if_neg (fun q => c (hf.mp q))]
    by_cases d : songEZ u
    · rw [if_pos d, if_pos (hs.mpr d)]
      exact EO_upd (EO_upd el rfl _) (by rw [e6]) _
    · rw [if_neg d, if_neg (fun q => d (hs.mp q))]
      exact el
/-- the same walk with the breath b beside one with a million -/
def Rl (b : Int) (u v : Nat → Int32) : Prop := EO v u ∧ (u 4).toInt = 1000000 ∧ (v 4).toInt = b ∧ (u 181).toInt - (v 181).toInt = 1000000 - b ∧ 0 ≤ (v 181).toInt ∧ (v 181).toInt ≤ b
theorem beat_185 (z : Nat → Int32) : beatZ z 185 = if gaspZ z then z 185 + 1 else z 185 := by
  have hp : preZ z 185 = if gaspZ z then z 185 + 1 else z 185 := by
    unfold preZ
    by_cases g : gaspZ z
    · rw [if_pos g, if_pos g, upd_n _ _ _ (by omega), upd_n _ _ _ (by omega), upd_s]
    · rw [if_neg g, if_neg g, upd_n _ _ _ (by omega), upd_n _ _ _ (by omega)]
  unfold beatZ
  split
  · unfold restsZ
    rw [upd_n _ _ _ (by omega), upd_n _ _ _ (by omega), hp]
  · rw [goOnZ_o _ (by omega) (by omega) (by omega) (by omega) (by omega), stepZ_o _ (by omega) (by omega) (by omega) (by omega) (by omega) (by omega)]
    unfold singZ
    rw [upd_n _ _ _ (by omega), upd_n _ _ _ (by omega), upd_n _ _ _ (by omega), hp]
theorem gasp_keep : ∀ (n : Nat) (z : Nat → Int32) (g : Int), (z 185).toInt = g → 1 ≤ g → g + n ≤ 100000 → ¬ walkZ n z 185 = 0
  | 0, z, g, h, h1, _ => fun q => by
    have : (z 185).toInt = 0 := by rw [show z 185 = 0 from q]; rfl
    omega
  | n + 1, z, g, h, h1, h2 => by
    rw [walkZ]
    split
    · by_cases c : gaspZ z
      · refine gasp_keep n (beatZ z) (g + 1) ?_ (by omega) (by omega)
        rw [beat_185, if_pos c]
        exact xi_add h (by decide) (by omega) (by omega)
      · refine gasp_keep n (beatZ z) g ?_ h1 (by omega)
        rw [beat_185, if_neg c]
        exact h
    · intro q
      have : (z 185).toInt = 0 := by rw [q]; rfl
      omega
theorem climb_in {z : Nat → Int32} (i : InvZ z) (hc : canZ z) (hw : z 188 = 0) : 0 ≤ (climbZ z).toInt ∧ (climbZ z).toInt ≤ 3 ∧ (needZ z).toInt = 1 + (climbZ z).toInt := by
  have ha := RPos_at i.2.2.2.2.1 i.2.2.1 hc.2 hw
  have h0 := i.2.2.2.2.1.1.1
  have := (i.2.2.1.2 (z 179).toInt.toNat (by omega)).2.1
  have h1 : 0 ≤ (climbZ z).toInt ∧ (climbZ z).toInt ≤ 3 := by
    unfold climbZ
    split
    · omega
    · exact ⟨by decide, by decide⟩
  exact ⟨h1.1, h1.2, by unfold needZ; exact xi_add (by decide) rfl (by omega) (by omega)⟩
theorem Rl_beat {b : Int} {u v : Nat → Int32} (hb : 5 ≤ b ∧ b ≤ 60) (h : Rl b u v) (i : InvZ u) (hc : canZ u) (hw : u 188 = 0) : (¬ gaspZ v → Rl b (beatZ u) (beatZ v)) ∧ (gaspZ v → (beatZ u 181).toInt < 1000000 - b) := by
  obtain ⟨h1, h2, h3, h4, h5, h6⟩ := h
  have ha := RPos_at i.2.2.2.2.1 i.2.2.1 hc.2 hw
  have ha0 := i.2.2.2.2.1.1.1
  have h7 := i.2.2.1.1
  obtain ⟨q1, q2, q3⟩ := climb_in i hc hw
  have e179 : v 179 = u 179 := h1 _ (by omega) (by omega)
  have ec : climbZ v = climbZ u := by
    unfold climbZ
    rw [e179, show ofZ v (u 179).toInt.toNat 1 = ofZ u (u 179).toInt.toNat 1 from h1 _ (by omega) (by omega)]
  have en : needZ v = needZ u := by unfold needZ; rw [ec]
  have gu : ¬ gaspZ u := fun g => by have := g.2; omega
  have e182 : v 182 = u 182 := h1 _ (by omega) (by omega)
  have hl := i.2.2.2.2.2
  unfold LOK at hl
  have pu : preZ u = upd (upd u 174 (u 174 + 1)) 175 (u 175 + u 0) := by unfold preZ; rw [if_neg gu]
  have pu182 : preZ u 182 = u 182 := by rw [pu, upd_n _ _ _ (by omega), upd_n _ _ _ (by omega)]
  have pu181 : preZ u 181 = u 181 := by rw [pu, upd_n _ _ _ (by omega), upd_n _ _ _ (by omega)]
  have pu4 : preZ u 4 = u 4 := by rw [pu, upd_n _ _ _ (by omega), upd_n _ _ _ (by omega)]
  have pu3 : preZ u 3 = u 3 := by rw [pu, upd_n _ _ _ (by omega), upd_n _ _ _ (by omega)]
  refine ⟨fun gv => ?_, fun gv => ?_⟩
  · have pv : preZ v = upd (upd v 174 (v 174 + 1)) 175 (v 175 + v 0) := by unfold preZ; rw [if_neg gv]
    have pv182 : preZ v 182 = v 182 := by rw [pv, upd_n _ _ _ (by omega), upd_n _ _ _ (by omega)]
    have pv181 : preZ v 181 = v 181 := by rw [pv, upd_n _ _ _ (by omega), upd_n _ _ _ (by omega)]
    have pv4 : preZ v 4 = v 4 := by rw [pv, upd_n _ _ _ (by omega), upd_n _ _ _ (by omega)]
    have pv3 : preZ v 3 = u 3 := by rw [pv, upd_n _ _ _ (by omega), upd_n _ _ _ (by omega)]; exact h1 _ (by omega) (by omega)
    have ep : EO (preZ v) (preZ u) := by
      rw [pv, pu]
      exact EO_upd (EO_upd h1 (by rw [h1 174 (by omega) (by omega)]) _) (by rw [h1 175 (by omega) (by omega), h1 0 (by omega) (by omega)]) _
    have hr : restZ v ↔ restZ u := by show 0 < (preZ v 182).toInt ↔ 0 < (preZ u 182).toInt; rw [pv182, pu182, e182]
    by_cases r : restZ u
    · rw [show beatZ u = restsZ u from by rw [beatZ, if_pos r], show beatZ v = restsZ v from by rw [beatZ, if_pos (hr.mpr r)]]
      have h33 := i.1.2.2.2.1
      have t1 : (u 181 + u 3).toInt = (u 181).toInt + (u 3).toInt := xi_add rfl rfl (by omega) (by omega)
      have t2 : (v 181 + u 3).toInt = (v 181).toInt + (u 3).toInt := xi_add rfl rfl (by omega) (by omega)
      have ru : (restsZ u 181).toInt = if (u 181).toInt + (u 3).toInt < 1000000 then (u 181).toInt + (u 3).toInt else 1000000 := by
        rw [restsZ, upd_s, pu181, pu3, pu4, t1, h2]
        split
        · exact t1
        · exact h2
      have rv : (restsZ v 181).toInt = if (v 181).toInt + (u 3).toInt < b then (v 181).toInt + (u 3).toInt else b := by
        rw [restsZ, upd_s, pv181, pv3, pv4, t2, h3]
        split
        · exact t2
        · exact h3
      refine ⟨?_, by rw [restsZ_o u (by omega) (by omega) (by omega) (by omega) (by omega)]; exact h2, by rw [restsZ_o v (by omega) (by omega) (by omega) (by omega) (by omega)]; exact h3, ?_, ?_, ?_⟩
      · unfold restsZ
        exact EO_updr (EO_updl (EO_upd ep (by rw [pv182, pu182, e182]) _) _) _
      · rw [ru, rv]; split <;> split <;> omega
      · rw [rv]; split <;> omega
      · rw [rv]; split <;> omega
    · have rv : ¬ restZ v := fun q => r (hr.mp q)
      have r' : ¬ 0 < (preZ u 182).toInt := r
      rw [pu182] at r'
      have z182 : u 182 = 0 := xi_ext (by rw [show (0 : Int32).toInt = 0 from by decide]; omega)
      have hge : (needZ u).toInt ≤ (v 181).toInt := by
        have : ¬ (v 181).toInt < (needZ v).toInt := fun q => gv ⟨by rw [e182, z182], q⟩
        rw [en] at this
        omega
      rw [show beatZ u = goOnZ (stepZ (singZ u)) from by rw [beatZ, if_neg r], show beatZ v = goOnZ (stepZ (singZ v)) from by rw [beatZ, if_neg rv]]
      have es : EO (singZ v) (singZ u) := by
        unfold singZ
        refine EO_upd (EO_upd (EO_updr (EO_updl ep _) _) ?_ _) ?_ _
        · rw [ep 175 (by omega) (by omega), ec]
        · rw [ep 187 (by omega) (by omega)]
      have su : singZ u 181 = u 181 - needZ u := by rw [singZ, upd_n _ _ _ (by omega), upd_n _ _ _ (by omega), upd_s, pu181]
      have sv : singZ v 181 = v 181 - needZ u := by rw [singZ, upd_n _ _ _ (by omega), upd_n _ _ _ (by omega), upd_s, pv181, en]
      have su4 : singZ u 4 = u 4 := singZ_o u (by omega) (by omega) (by omega) (by omega) (by omega) (by omega)
      have sv4 : singZ v 4 = v 4 := singZ_o v (by omega) (by omega) (by omega) (by omega) (by omega) (by omega)
      have su179 : singZ u 179 = u 179 := singZ_o u (by omega) (by omega) (by omega) (by omega) (by omega) (by omega)
      have su6 : singZ u 176 = u 176 := singZ_o u (by omega) (by omega) (by omega) (by omega) (by omega) (by omega)
      have su7 : singZ u 177 = u 177 := singZ_o u (by omega) (by omega) (by omega) (by omega) (by omega) (by omega)
      obtain ⟨s1, s2, s3, s4, s5⟩ := EO_step es (by rw [su179]; omega)
      have w6 : stepZ (singZ u) 176 = u 176 := by rw [stepZ_o _ (by omega) (by omega) (by omega) (by omega) (by omega) (by omega), su6]
      have w7 : stepZ (singZ u) 177 = u 177 := by rw [stepZ_o _ (by omega) (by omega) (by omega) (by omega) (by omega) (by omega), su7]
      obtain ⟨g1, g2, g3, g4, g5⟩ := EO_goOn s1 (by rw [w6, w7]; exact InvZ_pos i)
      have t1 : (u 181 - needZ u).toInt = (u 181).toInt - (needZ u).toInt := xi_sub rfl rfl (by omega) (by omega)
      have t2 : (v 181 - needZ u).toInt = (v 181).toInt - (needZ u).toInt := xi_sub rfl rfl (by omega) (by omega)
      refine ⟨g1, by rw [g4, s4, su4]; exact h2, by rw [g2, s2, sv4]; exact h3, ?_, ?_, ?_⟩
      · rw [g5, s5, su, g3, s3, sv, t1, t2]; omega
      · rw [g3, s3, sv, t2]; omega
      · rw [g3, s3, sv, t2]; omega
  · have z182 : u 182 = 0 := by rw [← e182]; exact gv.1
    have hlt := gv.2
    rw [en] at hlt
    have r : ¬ restZ u := by show ¬ 0 < (preZ u 182).toInt; rw [pu182, z182]; decide
    rw [show beatZ u = goOnZ (stepZ (singZ u)) from by rw [beatZ, if_neg r], goOnZ_o _ (by omega) (by omega) (by omega) (by omega) (by omega), stepZ_o _ (by omega) (by omega) (by omega) (by omega) (by omega) (by omega)]
    rw [show singZ u 181 = u 181 - needZ u from by rw [singZ, upd_n _ _ _ (by omega), upd_n _ _ _ (by omega), upd_s, pu181], xi_sub rfl rfl (by omega) (by omega)]
    omega
def lowZ : Nat → (Nat → Int32) → Int → Int
  | 0, _, lo => lo
  | n + 1, u, lo => if u 188 = 0 then lowZ n (beatZ u) (min lo (beatZ u 181).toInt) else lo
theorem lowZ_le : ∀ (n : Nat) (u : Nat → Int32) (lo : Int), lowZ n u lo ≤ lo
  | 0, _, lo => Int.le_refl _
  | n + 1, u, lo => by
    rw [lowZ]
    split
    · have := lowZ_le n (beatZ u) (min lo (beatZ u 181).toInt)
      omega
    · exact Int.le_refl _
theorem lowZ_e {n : Nat} {u : Nat → Int32} {lo : Int} (h : u 188 = 1) : lowZ n u lo = lo := by
  cases n with
  | zero => rfl
  | succ n => rw [lowZ, if_neg (by rw [h]; decide)]
theorem lb_key {b : Int} (hb : 5 ≤ b ∧ b ≤ 60) : ∀ (n : Nat) (u v : Nat → Int32) (lo : Int), n ≤ 5000 → Rl b u v → InvZ u → canZ u → v 185 = 0 → 1000000 - lo ≤ b → ((walkZ n v 188 = 1 ∧ walkZ n v 185 = 0) ↔ (walkZ n u 188 = 1 ∧ 1000000 - lowZ n u lo ≤ b))
  | 0, u, v, lo, _, h, i, hc, hg, hl => by
    have e : v 188 = u 188 := h.1 _ (by omega) (by omega)
    show (v 188 = 1 ∧ v 185 = 0) ↔ (u 188 = 1 ∧ 1000000 - lo ≤ b)
    rw [e]
    exact ⟨fun q => ⟨q.1, hl⟩, fun q => ⟨q.1, hg⟩⟩
  | n + 1, u, v, lo, hn, h, i, hc, hg, hl => by
    have e : v 188 = u 188 := h.1 _ (by omega) (by omega)
    by_cases c : u 188 = 0
    · rw [walkZ, if_pos (by rw [e]; exact c), walkZ, if_pos c, lowZ, if_pos c]
      obtain ⟨k1, k2⟩ := Rl_beat hb h i hc c
      by_cases g : gaspZ v
      · have h1 : (beatZ v 185).toInt = 1 := by rw [beat_185, if_pos g, hg]; decide
        have h2 := gasp_keep n (beatZ v) 1 h1 (by omega) (by omega)
        have h3 := k2 g
        have h4 := lowZ_le n (beatZ u) (min lo (beatZ u 181).toInt)
        exact ⟨fun q => absurd q.2 h2, fun q => by have := q.2; omega⟩
      · have h1 : beatZ v 185 = 0 := by rw [beat_185, if_neg g]; exact hg
        have r1 := k1 g
        have r2 := r1
        obtain ⟨-, -, -, m4, m5, m6⟩ := r2
        exact lb_key hb n (beatZ u) (beatZ v) _ (by omega) r1 (beat_inv i hc c) (beat_can hc) h1 (by omega)
    · rw [walkZ, if_neg (by rw [e]; exact c), walkZ, if_neg c, lowZ, if_neg c]
      rw [e]
      exact ⟨fun q => ⟨q.1, hl⟩, fun q => ⟨q.1, hg⟩⟩
/-- the endless trial's first state -/
def endZ (z : Nat → Int32) : Nat → Int32 := beginZ (upd z 4 1000000)
theorem end_inv {z : Nat → Int32} (i : InvZ z) : InvZ (endZ z) := by
  have h : ∀ k, 6 ≤ k → k < 174 → upd z 4 1000000 k = z k := fun k h1 h2 => upd_n _ _ _ (by omega)
  have hs : SetOK (upd z 4 1000000) := by
    have := i.1
    unfold SetOK at *
    rw [upd_n _ _ _ (by omega), upd_n _ _ _ (by omega), upd_n _ _ _ (by omega), upd_n _ _ _ (by omega), upd_n _ _ _ (by omega)]
    exact this
  exact begin_inv hs (SongOK_x h i.2.1) (RoadOK_x h i.2.2.1)
theorem end_can {z : Nat → Int32} (h : canZ z) : canZ (endZ z) := begin_can (by unfold canZ; rw [upd_n _ _ _ (by omega), upd_n _ _ _ (by omega)]; exact h)
theorem lb_ok {z : Nat → Int32} (i : InvZ z) (hc : canZ z) {b : Int32} (hb : 5 ≤ b.toInt ∧ b.toInt ≤ 60) : okB z b ↔ (walkZ 5000 (endZ z) 188 = 1 ∧ 1000000 - lowZ 5000 (endZ z) 1000000 ≤ b.toInt) := by
  have e181 : ∀ x : Int32, beginZ (upd z 4 x) 181 = x := fun x => by unfold beginZ; rw [if_pos rfl, upd_s]
  have e4 : ∀ x : Int32, beginZ (upd z 4 x) 4 = x := fun x => by rw [beginZ_lo _ (by omega), upd_s]
  have hR : Rl b.toInt (endZ z) (beginZ (upd z 4 b)) := by
    refine ⟨fun k h1 h2 => ?_, ?_, ?_, ?_, ?_, ?_⟩
    · unfold endZ beginZ
      rw [if_neg h2, if_neg h2, upd_n _ _ _ h1, upd_n _ _ _ h1]
    · show (beginZ (upd z 4 1000000) 4).toInt = _; rw [e4]; decide
    · rw [e4]
    · show (beginZ (upd z 4 1000000) 181).toInt - _ = _
      rw [e181, e181, show (1000000 : Int32).toInt = 1000000 from by decide]
    · rw [e181]; omega
    · rw [e181]; omega
  have h0 : beginZ (upd z 4 b) 185 = 0 := begin_0 (by omega) (by omega)
  exact lb_key hb 5000 (endZ z) (beginZ (upd z 4 b)) 1000000 (Nat.le_refl _) hR (end_inv i) (end_can hc) h0 (by omega)
theorem lb_end {z : Nat → Int32} (i : InvZ z) (hc : canZ z) {r : Int32} {need : Int} (hn : need = max 5 (1000000 - lowZ 5000 (endZ z) 1000000)) (h : (r = -6 ∧ (¬ walkZ 5000 (endZ z) 188 = 1 ∨ 60 < need)) ∨ (walkZ 5000 (endZ z) 188 = 1 ∧ need ≤ 60 ∧ r.toInt = need)) : lbA z r := by
  unfold lbA
  rcases h with ⟨h1, h2⟩ | ⟨h1, h2, h3⟩
  · refine Or.inl ⟨h1, fun c c1 c2 hk => ?_⟩
    have := (lb_ok i hc ⟨c1, c2⟩).mp hk
    rcases h2 with h2 | h2
    · exact h2 this.1
    · have := this.2; omega
  · refine Or.inr ⟨⟨by omega, by omega⟩, (lb_ok i hc ⟨by omega, by omega⟩).mpr ⟨h1, by omega⟩, fun c c1 c2 hk => ?_⟩
    have := ((lb_ok i hc ⟨c1, by omega⟩).mp hk).2
    omega
