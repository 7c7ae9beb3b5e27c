/-! ===== the class's pad ===== -/
theorem cdA_0 (x : Int64) : cdA x 0 = cdL x := by
  unfold cdA cdL
  have h1 : ((8 * (0 : Int32)).toInt64.toUInt64 &&& Int64.toUInt64 63) = 0 := by decide
  rw [h1]
  have h2 : (x.toUInt64 >>> (0 : UInt64)).toInt64 = x := by
    have : x.toUInt64 >>> (0 : UInt64) = x.toUInt64 := by simp
    rw [this]
    simp
  rw [h2]
def r10 (x : Int32) : Int32 := x - x / 10 * 10
def m10 (x : Int32) : Int32 := if 9 < x.toInt then 1 else 0
/-- what writing a song keeps -/
def WrI (p : Nat → Int32) (i : Nat) (gn : Int32) (ft bt mk : Nat → Int32) : Prop := ∃ s : SS, scn p i = some s ∧ gn.toInt = s.1 + 1 ∧ (∀ l, l ≤ s.1 → (ft l).toInt = cM p i l ∧ ∀ f, f < cM p i l → bt (12 * l + f) = r10 (cF p i (12 * l + f)) ∧ mk (12 * l + f) = m10 (cF p i (12 * l + f))) ∧ ∀ j, j < 120 → mk j = 0 ∨ mk j = 1
theorem WrI_0 (p : Nat → Int32) (ft bt mk : Nat → Int32) (h : ∀ j, j < 120 → mk j = 0 ∨ mk j = 1) : WrI p 0 1 (upd ft 0 0) bt mk := by
  refine ⟨(0, 0, false), rfl, by decide, fun l hl => ?_, h⟩
  have hl0 : l = 0 := by simpa using hl
  subst hl0
  refine ⟨by rw [upd_s]; rfl, fun f hf => ?_⟩
  exact absurd hf (Nat.not_lt_zero _)
theorem WrI_in {p : Nat → Int32} {i : Nat} {gn : Int32} {ft bt mk : Nat → Int32} (h : WrI p i gn ft bt mk) : 1 ≤ gn.toInt ∧ gn.toInt ≤ 10 ∧ 0 ≤ (ft (gn.toInt.toNat - 1)).toInt ∧ (ft (gn.toInt.toNat - 1)).toInt ≤ 12 := by
  obtain ⟨s, h1, h2, h3, h4⟩ := h
  obtain ⟨i1, i2, i3, i4, i5, i6⟩ := scn_I p i s h1
  have := (h3 s.1 (Nat.le_refl _)).1
  rw [show gn.toInt.toNat - 1 = s.1 from by omega]
  omega
theorem scn_more {p : Nat → Int32} {n i : Nat} (h : ∃ s, scn p n = some s) (hi : i < n) {s : SS} (hs : scn p i = some s) : ∃ t, stp s (p i) = some t := by
  obtain ⟨u, hu⟩ := h
  cases hq : stp s (p i) with
  | some t => exact ⟨t, rfl⟩
  | none =>
    have h1 : scn p (i + 1) = none := by rw [scn_s hs, hq]
    have h2 := scn_mono h1 n hi
    rw [h2] at hu
    cases hu
theorem WrI_mark {p : Nat → Int32} {n i : Nat} {gn : Int32} {ft bt mk : Nat → Int32} (hn : ∃ s, scn p n = some s) (hi : i < n) (hc : p i = 39) (h : WrI p i gn ft bt mk) : (1 ≤ (ft (gn.toInt.toNat - 1)).toInt ∧ (ft (gn.toInt.toNat - 1)).toInt ≤ 12) ∧ WrI p (i + 1) gn ft bt (upd mk (12 * (gn.toInt.toNat - 1) + (ft (gn.toInt.toNat - 1)).toInt.toNat - 1) 1) := by
  obtain ⟨s, h1, h2, h3, h4⟩ := h
  obtain ⟨i1, i2, i3, i4, i5, i6⟩ := scn_I p i s h1
  obtain ⟨t, ht⟩ := scn_more hn hi h1
  have h0 := scn_s h1
  have e1 := cF_s h1
  have e2 := cM_s h1
  rw [ht] at h0
  rw [if_pos hc] at e1 e2
  unfold stp at ht
  rw [if_pos hc] at ht
  by_cases c : s.2.2 = true
  · rw [if_pos c] at ht
    cases ht
    obtain ⟨k1, k2⟩ := i6 c
    have hf := (h3 s.1 (Nat.le_refl _)).1
    have hp : 12 * (gn.toInt.toNat - 1) + (ft (gn.toInt.toNat - 1)).toInt.toNat - 1 = 12 * s.1 + s.2.1 - 1 := by
      rw [show gn.toInt.toNat - 1 = s.1 from by omega]
      omega
    refine ⟨by rw [show gn.toInt.toNat - 1 = s.1 from by omega]; omega, (s.1, s.2.1, false), h0, h2, fun l hl => ?_, fun j hj => ?_⟩
    · rw [e1, e2, hp]
      refine ⟨(h3 l hl).1, fun f hf2 => ?_⟩
      have q := (h3 l hl).2 f hf2
      by_cases e : 12 * l + f = 12 * s.1 + s.2.1 - 1
      · rw [e] at q ⊢
        rw [upd_s, upd_s]
        rw [q.1]
        rcases k2 with k | k | k <;> rw [k] <;> exact ⟨by decide, by decide⟩
      · rw [upd_n _ _ _ e, upd_n _ _ _ e]
        exact q
    · by_cases e : j = 12 * (gn.toInt.toNat - 1) + (ft (gn.toInt.toNat - 1)).toInt.toNat - 1
      · rw [e, upd_s]; exact Or.inr rfl
      · rw [upd_n _ _ _ e]; exact h4 j hj
  · rw [if_neg c] at ht
    cases ht
theorem WrI_line {p : Nat → Int32} {n i : Nat} {gn : Int32} {ft bt mk : Nat → Int32} (hn : ∃ s, scn p n = some s) (hi : i < n) (hc : p i = 47) (h : WrI p i gn ft bt mk) : gn.toInt < 10 ∧ WrI p (i + 1) (gn + 1) (upd ft gn.toInt.toNat 0) bt mk := by
  obtain ⟨s, h1, h2, h3, h4⟩ := h
  obtain ⟨i1, i2, i3, i4, i5, i6⟩ := scn_I p i s h1
  obtain ⟨t, ht⟩ := scn_more hn hi h1
  have h0 := scn_s h1
  have e1 := cF_s h1
  have e2 := cM_s h1
  have c39 : ¬ p i = 39 := by rw [hc]; decide
  rw [ht] at h0
  rw [if_neg c39, if_pos hc] at e1 e2
  unfold stp at ht
  rw [if_neg c39, if_pos hc] at ht
  by_cases c : s.2.1 = 0 ∨ s.1 = 9
  · rw [if_pos c] at ht
    cases ht
  · rw [if_neg c] at ht
    cases ht
    have h9 : s.1 ≤ 8 := by omega
    refine ⟨by omega, (s.1 + 1, 0, false), h0, ?_, fun l hl => ?_, h4⟩
    · rw [xi_add (b := 1) rfl (by decide) (by omega) (by omega), h2]
      show (s.1 : Int) + 1 + 1 = ((s.1 + 1 : Nat) : Int) + 1
      omega
    · rw [e1, e2, show gn.toInt.toNat = s.1 + 1 from by omega]
      by_cases e : l = s.1 + 1
      · subst e
        rw [upd_s]
        dsimp only
        rw [if_pos rfl]
        exact ⟨by decide, fun f hf => absurd hf (Nat.not_lt_zero _)⟩
      · have hl2 : l ≤ s.1 + 1 := hl
        rw [upd_n _ _ _ e]
        dsimp only
        rw [if_neg e]
        exact h3 l (by omega)
theorem WrI_foot {p : Nat → Int32} {n i : Nat} {gn : Int32} {ft bt mk : Nat → Int32} (hn : ∃ s, scn p n = some s) (hi : i < n) (c39 : ¬ p i = 39) (c47 : ¬ p i = 47) (h : WrI p i gn ft bt mk) : (ft (gn.toInt.toNat - 1)).toInt < 12 ∧ WrI p (i + 1) gn (upd ft (gn.toInt.toNat - 1) (ft (gn.toInt.toNat - 1) + 1)) (upd bt (12 * (gn.toInt.toNat - 1) + (ft (gn.toInt.toNat - 1)).toInt.toNat) (bOf (p i))) (upd mk (12 * (gn.toInt.toNat - 1) + (ft (gn.toInt.toNat - 1)).toInt.toNat) 0) := by
  obtain ⟨s, h1, h2, h3, h4⟩ := h
  obtain ⟨i1, i2, i3, i4, i5, i6⟩ := scn_I p i s h1
  obtain ⟨t, ht⟩ := scn_more hn hi h1
  have h0 := scn_s h1
  have e1 := cF_s h1
  have e2 := cM_s h1
  rw [ht] at h0
  rw [if_neg c39, if_neg c47] at e1 e2
  unfold stp at ht
  rw [if_neg c39, if_neg c47] at ht
  by_cases c : bOf (p i) = 0 ∨ s.2.1 = 12
  · rw [if_pos c] at ht
    cases ht
  · rw [if_neg c] at ht
    cases ht
    have hb := bOf_in (c := p i) (fun e => c (Or.inl e))
    have h12 : ¬ s.2.1 = 12 := fun e => c (Or.inr e)
    have hf := (h3 s.1 (Nat.le_refl _)).1
    rw [i3] at hf
    rw [show gn.toInt.toNat - 1 = s.1 from by omega, show (ft s.1).toInt.toNat = s.2.1 from by omega]
    refine ⟨by omega, (s.1, s.2.1 + 1, true), h0, h2, fun l hl => ?_, fun j hj => ?_⟩
    · have hl2 : l ≤ s.1 := hl
      rw [e1, e2]
      by_cases e : l = s.1
      · subst e
        rw [upd_s]
        dsimp only
        rw [if_pos rfl]
        refine ⟨by rw [xi_add (b := 1) rfl (by decide) (by omega) (by omega), hf]; omega, fun f hf2 => ?_⟩
        by_cases q : f = s.2.1
        · subst q
          rw [upd_s, upd_s, upd_s]
          rcases hb with k | k | k <;> rw [k] <;> exact ⟨by decide, by decide⟩
        · have q2 : ¬ 12 * s.1 + f = 12 * s.1 + s.2.1 := by omega
          rw [upd_n _ _ _ q2, upd_n _ _ _ q2, upd_n _ _ _ q2]
          exact (h3 s.1 (Nat.le_refl _)).2 f (by omega)
      · rw [upd_n _ _ _ e]
        dsimp only
        rw [if_neg e]
        refine ⟨(h3 l hl2).1, fun f hf2 => ?_⟩
        have := (i4 l (by omega)).2
        have q2 : ¬ 12 * l + f = 12 * s.1 + s.2.1 := by omega
        rw [upd_n _ _ _ q2, upd_n _ _ _ q2, upd_n _ _ _ q2]
        exact (h3 l hl2).2 f hf2
    · by_cases e : j = 12 * s.1 + s.2.1
      · rw [e, upd_s]; exact Or.inl rfl
      · rw [upd_n _ _ _ e]; exact h4 j hj
/-- the scan's state as three numbers -/
def ScJ (p : Nat → Int32) (i : Nat) (li fe mm : Int32) : Prop := ∃ s : SS, scn p i = some s ∧ li.toInt = s.1 + 1 ∧ fe.toInt = s.2.1 ∧ (mm = 0 ∨ mm = 1) ∧ (mm = 1 ↔ s.2.2 = true)
theorem ScJ_0 (p : Nat → Int32) : ScJ p 0 1 0 0 := ⟨(0, 0, false), rfl, by decide, by decide, Or.inl rfl, by decide⟩
theorem ScJ_in {p : Nat → Int32} {i : Nat} {li fe mm : Int32} (h : ScJ p i li fe mm) : 1 ≤ li.toInt ∧ li.toInt ≤ 10 ∧ 0 ≤ fe.toInt ∧ fe.toInt ≤ 12 ∧ (mm = 0 ∨ mm = 1) := by
  obtain ⟨s, h1, h2, h3, h4, h5⟩ := h
  obtain ⟨i1, i2, -⟩ := scn_I p i s h1
  exact ⟨by omega, by omega, by omega, by omega, h4⟩
theorem ScJ_mark {p : Nat → Int32} {i : Nat} {li fe mm : Int32} (h : ScJ p i li fe mm) (c : p i = 39) (hm : ¬ mm = 0) : ScJ p (i + 1) li fe 0 := by
  obtain ⟨s, h1, h2, h3, h4, h5⟩ := h
  have hs : stp s (p i) = some (s.1, s.2.1, false) := by
    unfold stp
    rw [if_pos c, if_pos (h5.mp (xi_z hm h4))]
  exact ⟨(s.1, s.2.1, false), by rw [scn_s h1, hs], h2, h3, Or.inl rfl, by simp⟩
theorem ScJ_markF {p : Nat → Int32} {n i : Nat} {li fe mm : Int32} (h : ScJ p i li fe mm) (hi : i < n) (c : p i = 39) (hm : mm = 0) : FA p n i := by
  obtain ⟨s, h1, h2, h3, h4, h5⟩ := h
  refine Or.inl ⟨hi, s, h1, ?_⟩
  unfold stp
  rw [if_pos c, if_neg (fun q => by have := h5.mpr q; rw [hm] at this; exact absurd this (by decide))]
theorem ScJ_line {p : Nat → Int32} {i : Nat} {li fe mm li1 : Int32} (h : ScJ p i li fe mm) (c : p i = 47) (hf : ¬ fe.toInt = 0) (hl : ¬ li.toInt = 10) (h1 : li1.toInt = li.toInt + 1) : ScJ p (i + 1) li1 0 0 := by
  obtain ⟨s, g1, h2, h3, h4, h5⟩ := h
  have c39 : ¬ p i = 39 := by rw [c]; decide
  have hs : stp s (p i) = some (s.1 + 1, 0, false) := by
    unfold stp
    rw [if_neg c39, if_pos c, if_neg (by omega)]
  exact ⟨(s.1 + 1, 0, false), by rw [scn_s g1, hs], by rw [h1, h2]; show _ = ((s.1 + 1 : Nat) : Int) + 1; omega, by show (0 : Int32).toInt = ((0 : Nat) : Int); decide, Or.inl rfl, by simp⟩
theorem ScJ_lineF {p : Nat → Int32} {n i : Nat} {li fe mm : Int32} (h : ScJ p i li fe mm) (hi : i < n) (c : p i = 47) (hf : fe.toInt = 0 ∨ li.toInt = 10) : FA p n i := by
  obtain ⟨s, g1, h2, h3, h4, h5⟩ := h
  have c39 : ¬ p i = 39 := by rw [c]; decide
  refine Or.inl ⟨hi, s, g1, ?_⟩
  unfold stp
  rw [if_neg c39, if_pos c, if_pos (by omega)]
theorem ScJ_foot {p : Nat → Int32} {i : Nat} {li fe mm fe1 : Int32} (h : ScJ p i li fe mm) (c39 : ¬ p i = 39) (c47 : ¬ p i = 47) (hb : ¬ bOf (p i) = 0) (hf : ¬ fe.toInt = 12) (h1 : fe1.toInt = fe.toInt + 1) : ScJ p (i + 1) li fe1 1 := by
  obtain ⟨s, g1, h2, h3, h4, h5⟩ := h
  have hs : stp s (p i) = some (s.1, s.2.1 + 1, true) := by
    unfold stp
    rw [if_neg c39, if_neg c47, if_neg (fun q => q.elim hb (fun q => by omega))]
  exact ⟨(s.1, s.2.1 + 1, true), by rw [scn_s g1, hs], h2, by rw [h1, h3]; show _ = ((s.2.1 + 1 : Nat) : Int); omega, Or.inr rfl, by simp⟩
theorem ScJ_footF {p : Nat → Int32} {n i : Nat} {li fe mm : Int32} (h : ScJ p i li fe mm) (hi : i < n) (c39 : ¬ p i = 39) (c47 : ¬ p i = 47) (hf : bOf (p i) = 0 ∨ fe.toInt = 12) : FA p n i := by
  obtain ⟨s, g1, h2, h3, h4, h5⟩ := h
  refine Or.inl ⟨hi, s, g1, ?_⟩
  unfold stp
  rw [if_neg c39, if_neg c47, if_pos (hf.elim Or.inl (fun q => Or.inr (by omega)))]
theorem ScJ_end {p : Nat → Int32} {n : Nat} {li fe mm : Int32} (h : ScJ p n li fe mm) : (fe.toInt = 0 → FA p n n) ∧ (¬ fe.toInt = 0 → FN p n) := by
  obtain ⟨s, g1, h2, h3, h4, h5⟩ := h
  exact ⟨fun q => Or.inr ⟨rfl, s, g1, by omega⟩, fun q => ⟨s, g1, by omega⟩⟩
/-- what has been written is the model's song -/
theorem WrI_song {p : Nat → Int32} {n : Nat} {z z1 : Nat → Int32} {gn : Int32} {ft bt mk : Nat → Int32} (h : WrI p n gn ft bt mk) (hr : ReadZ p n z z1) : RSong gn ft bt mk z1 := by
  obtain ⟨s, h1, h2, h3, h4⟩ := h
  obtain ⟨t, r1, r2, r3, r4, r5⟩ := hr
  rw [h1] at r1
  cases r1
  refine ⟨xi_ext (by rw [h2, r3]), fun l hl => ?_⟩
  have hl2 : l ≤ s.1 := by omega
  have q := h3 l hl2
  have u := r4 l hl2
  refine ⟨xi_ext (by rw [q.1, u.1]), fun f hf => ?_⟩
  have hf2 : f < cM p n l := by omega
  have v := q.2 f hf2
  have w := u.2 f hf2
  refine ⟨?_, ?_⟩
  · rw [v.1]; unfold btZ r10; rw [w]
  · rw [v.2]; unfold mkZ m10; rw [w]
